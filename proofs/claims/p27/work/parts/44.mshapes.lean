/-! the reference: a part of the text -/
noncomputable def rn (c : Cf) (a b : Nat) : Nat → Nat
  | 0 => a
  | i + 1 => eor c a b (rn c a b i)
noncomputable def rsc (c : Cf) (a b i : Nat) : Nat := scr c a b (rn c a b i)
noncomputable def rfc (c : Cf) (a b i : Nat) : Nat := fcO c (rn c a b i)
noncomputable def rL (c : Cf) (a b i : Nat) : List Gl := r4 c (rfc c a b i) (rsc c a b i) (rn c a b i) (rn c a b (i + 1))
noncomputable def gS (c : Cf) (a b : Nat) : Nat → Nat
  | 0 => 0
  | i + 1 => gS c a b i + (rL c a b i).length
noncomputable def wdt (c : Cf) (a b i : Nat) : Int32 := smA (plc c (rfc c a b i) (rL c a b i)) (rL c a b i).length
noncomputable def lS (c : Cf) (a b : Nat) : Nat → Int32
  | 0 => nI 0
  | i + 1 => lS c a b i + wdt c a b i
noncomputable def rB (c : Cf) (a b i : Nat) : Pl := stB c (rfc c a b i) (rsc c a b i) (lS c a b i) (rL c a b i)
noncomputable def nr (c : Cf) (a b : Nat) : Nat := fnd (fun i => b ≤ rn c a b i) 17 0
theorem rn_b {c : Cf} {a b : Nat} (hab : a ≤ b) : ∀ i, i ≤ nr c a b → a + i ≤ rn c a b i ∧ rn c a b i ≤ b ∧ (i < nr c a b → rn c a b i < b) := by
  have hlt : ∀ i, i < nr c a b → rn c a b i < b := fun i hi => Nat.not_le.mp ((fnd_spec (P := fun i => b ≤ rn c a b i) (Nat.zero_le 17)).2.2.2 i (Nat.zero_le _) hi)
  intro i
  induction i with
  | zero => exact fun _ => ⟨Nat.le_refl _, hab, hlt 0⟩
  | succ i ih =>
    intro hi
    have h1 := ih (by omega)
    have h2 := eor_b (c := c) (a := a) (hlt i (by omega))
    have e : rn c a b (i + 1) = eor c a b (rn c a b i) := rfl
    rw [e]
    exact ⟨by omega, h2.2, fun q => by rw [← e]; exact hlt _ q⟩
theorem nr_b {c : Cf} {a b : Nat} (hab : a ≤ b) (hb : b ≤ 16) : nr c a b ≤ b - a ∧ rn c a b (nr c a b) = b := by
  have h1 := rn_b (c := c) hab _ (Nat.le_refl (nr c a b))
  have h2 := (fnd_spec (P := fun i => b ≤ rn c a b i) (Nat.zero_le 17)).2.2.1
  have h3 : nr c a b < 17 := by omega
  have h4 := h2 h3
  have h4 : b ≤ rn c a b (nr c a b) := h4
  exact ⟨by omega, by omega⟩
theorem gS_m {c : Cf} {a b j : Nat} : ∀ i, j < i → gS c a b j + (rL c a b j).length ≤ gS c a b i
  | 0, h => by omega
  | i + 1, h => by
    have e : gS c a b (i + 1) = gS c a b i + (rL c a b i).length := rfl
    by_cases q : j = i
    · rw [q, e]; exact Nat.le_refl _
    · have := gS_m i (show j < i by omega) (c := c) (a := a) (b := b)
      omega
def shR (R0 G0 a j : Nat) : Prop := rowR a j ∨ a = 143 ∨ a = 144 ∨ (a = 128 ∧ (j = 20 ∨ j = 36 ∨ j = 45)) ∨ (166 ≤ a ∧ a ≤ 168 ∧ R0 ≤ j) ∨ (158 ≤ a ∧ a ≤ 165 ∧ G0 ≤ j)
theorem shR_c {R0 G0 a j : Nat} (h : shR R0 G0 a j) : ¬ cfA a j ∧ ¬ a = 136 := by unfold shR rowR at h; unfold cfA; omega
def shE (c : Cf) (a b R0 G0 j : Nat) (M : gM) : Prop := mI M 166 (R0 + j) = nI (rn c a b j) ∧ mI M 167 (R0 + j) = nI (G0 + gS c a b j) ∧ mI M 168 (R0 + j) = lS c a b j
def shS (c : Cf) (a b R0 G0 i : Nat) (M : gM) : Prop := gS c a b i ≤ 64 * i ∧ mI M 128 45 = nI (R0 + i) ∧ mI M 128 36 = nI (G0 + gS c a b i) ∧ (∀ j, j < i → shE c a b R0 G0 j M) ∧ ∀ j, j < i → okL (rL c a b j) ∧ oS (G0 + gS c a b j) (rL c a b j) (rB c a b j) (rL c a b j).length M
theorem shE.mv {c : Cf} {a b R0 G0 j : Nat} {M M' : gM} (h : shE c a b R0 G0 j M) (q : ∀ p, 166 ≤ p → p ≤ 168 → mI M' p (R0 + j) = mI M p (R0 + j)) : shE c a b R0 G0 j M' := by
  unfold shE at *
  rw [q _ (by decide) (by decide), q _ (by decide) (by decide), q _ (by decide) (by decide)]
  exact h
theorem oS.mv {G : Nat} {L : List Gl} {B : Pl} {k : Nat} {M M' : gM} (h : oS G L B k M) (e : ∀ q j, 158 ≤ q → q ≤ 165 → j < k → mI M' q (G + j) = mI M q (G + j)) : oS G L B k M' := fun q j hq hj => (e _ _ (by omega) (by omega) hj).trans (h q j hq hj)
abbrev tl (c : Cf) : Nat := cN c 128 14
/-- the reference has shaped the whole text -/
def shA (c : Cf) (M : gM) : Prop := shS c 0 (tl c) 0 0 (nr c 0 (tl c)) M ∧ (∀ j, j ≤ nr c 0 (tl c) → shE c 0 (tl c) 0 0 j M) ∧ scS c 0 (tl c) (tl c) M
theorem WFc.tl {c : Cf} (h : WFc c) : cN c 128 14 ≤ 16 := h.1.2.1
