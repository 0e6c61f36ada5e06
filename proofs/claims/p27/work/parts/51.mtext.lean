/-! the reference: the text; the size of a table -/
def insF (F : Nat → Nat) (p len v i : Nat) : Nat := if i < p ∨ len < i then F i else if i = p then v else F (i - 1)
def shF (F : Nat → Nat) (k len i : Nat) : Nat := if k < i ∧ i ≤ len then F (i - 1) else F i
def nxI (c : Cf) (p s : Nat) : Cf := (fun a i => if a = 128 ∧ i = 14 then cN c 128 14 + 1 else if a = 141 then insF (cN c 141) p (tl c) s i else if a = 142 then insF (cN c 142) p (tl c) 0 i else cN c a i, c.2)
theorem nxI_wf {c : Cf} (h : WFc c) {p s : Nat} (hl : tl c < 16) (hs : s < 45) : WFc (nxI c p s) := by
  obtain ⟨g1, g2, g3, g4, g5, g6⟩ := h
  refine ⟨⟨g1.1, hl, g1.2.2⟩, g2, g3, g4, fun j => ?_, g6⟩
  show insF (cN c 141) p (tl c) s j < 45 ∧ insF (cN c 142) p (tl c) 0 j ≤ 3
  unfold insF
  have := g5 j
  have := g5 (j - 1)
  repeat' split
  all_goals omega
def txR (a j : Nat) : Prop := a = 141 ∨ a = 142 ∨ (a = 128 ∧ (j = 0 ∨ j = 14))
theorem txR_r (a j : Nat) (h : txR a j) : refR a j := by unfold txR at h; unfold refR; omega
theorem bZ_tx {c c' : Cf} {M M' : gM} (h : bS c M) (hf : fr txR M M') (e1 : ∀ j, mI M' 141 j = nI (cN c' 141 j)) (e2 : ∀ j, mI M' 142 j = nI (cN c' 142 j)) (e3 : mI M' 128 14 = nI (cN c' 128 14)) (e4 : ∀ a j, ¬ a = 141 → ¬ a = 142 → ¬ (a = 128 ∧ j = 14) → cN c' a j = cN c a j) (e5 : ∀ j, cR c' j = cR c j) : bZ c' M' :=
  ⟨hf.lay h.lay, fun a j q => by
    by_cases q1 : a = 141
    · subst q1; exact e1 j
    · by_cases q2 : a = 142
      · subst q2; exact e2 j
      · by_cases q3 : a = 128 ∧ j = 14
        · rw [q3.1, q3.2]; exact e3
        · rw [e4 a j q1 q2 q3, ← h.gc q]
          exact hf.bk (by unfold txR; unfold cfA at q; omega), fun j => by
    rw [e5, ← h.gr j]
    exact hf.bk (by unfold txR; omega)⟩
def cutF (F : Nat → Nat) (p k i : Nat) : Nat := if p ≤ i ∧ i < k then F (i + 1) else F i
def nxC (c : Cf) (p : Nat) : Cf := (fun a i => if a = 128 ∧ i = 14 then cN c 128 14 - 1 else if a = 141 then cutF (cN c 141) p (tl c - 1) i else if a = 142 then cutF (cN c 142) p (tl c - 1) i else cN c a i, c.2)
theorem nxC_wf {c : Cf} (h : WFc c) {p : Nat} : WFc (nxC c p) := by
  obtain ⟨g1, g2, g3, g4, g5, g6⟩ := h
  refine ⟨⟨g1.1, by show cN c 128 14 - 1 ≤ 16; omega, g1.2.2⟩, g2, g3, g4, fun j => ?_, g6⟩
  show cutF (cN c 141) p (tl c - 1) j < 45 ∧ cutF (cN c 142) p (tl c - 1) j ≤ 3
  unfold cutF
  have := g5 j
  have := g5 (j + 1)
  repeat' split
  all_goals omega
def exF (F : Nat → Nat) (a b v i : Nat) : Nat := if a ≤ i ∧ i < b then v else F i
def nxE (c : Cf) (a b v : Nat) : Cf := (fun q i => if q = 142 then exF (cN c 142) a (b + 1) v i else cN c q i, c.2)
theorem nxE_wf {c : Cf} (h : WFc c) {a b v : Nat} (hv : v ≤ 3) : WFc (nxE c a b v) := by
  obtain ⟨g1, g2, g3, g4, g5, g6⟩ := h
  refine ⟨g1, g2, g3, g4, fun j => ?_, g6⟩
  show cN c 141 j < 45 ∧ exF (cN c 142) a (b + 1) v j ≤ 3
  unfold exF
  have := g5 j
  split <;> omega
noncomputable def exC (F : Nat → Nat) (a v : Nat) : Nat → Nat
  | 0 => 0
  | k + 1 => exC F a v k + cI (a ≤ k ∧ ¬ F k = v) 1 0
theorem exC_b (F : Nat → Nat) (a v : Nat) : ∀ k, exC F a v k ≤ k
  | 0 => Nat.le_refl _
  | k + 1 => by
    have ih := exC_b F a v k
    show exC F a v k + cI _ _ _ ≤ _
    by_cases e : a ≤ k ∧ ¬ F k = v
    · rw [cI_t e]; omega
    · rw [cI_f e]; omega
theorem exC_0 (F : Nat → Nat) (a v : Nat) : ∀ k, k ≤ a → exC F a v k = 0
  | 0, _ => rfl
  | k + 1, h => by
    have ih := exC_0 F a v k (by omega)
    show exC F a v k + cI _ _ _ = 0
    rw [cI_f (by omega), ih]
