/-! the reference: whether a break is safe -/
noncomputable def jx (c : Cf) (a b P : Nat) : Nat := fnd (fun j => P < gS c a b (j + 1)) (nr c a b) 0
theorem jx_b {c : Cf} {a b P : Nat} (hp : P < gS c a b (nr c a b)) : jx c a b P < nr c a b ∧ gS c a b (jx c a b P) ≤ P ∧ P < gS c a b (jx c a b P + 1) := by
  obtain ⟨-, h2, h3, h4⟩ := fnd_spec (P := fun j => P < gS c a b (j + 1)) (Nat.zero_le (nr c a b))
  have h0 : 0 < nr c a b := Nat.pos_of_ne_zero (fun q => by
    rw [q] at hp
    exact absurd hp (Nat.not_lt_zero _))
  have hlt : jx c a b P < nr c a b := by
    refine Nat.lt_of_le_of_ne h2 (fun q => ?_)
    have h5 := h4 (nr c a b - 1) (Nat.zero_le _) (by show nr c a b - 1 < jx c a b P; rw [q]; omega)
    refine h5 ?_
    show P < gS c a b (nr c a b - 1 + 1)
    rw [Nat.sub_add_cancel h0]; exact hp
  refine ⟨hlt, ?_, h3 hlt⟩
  by_cases e : jx c a b P = 0
  · rw [e]; exact Nat.zero_le _
  · have h5 := h4 (jx c a b P - 1) (Nat.zero_le _) (by show jx c a b P - 1 < jx c a b P; omega)
    have h5 : ¬ P < gS c a b (jx c a b P - 1 + 1) := h5
    rw [Nat.sub_add_cancel (Nat.pos_of_ne_zero e)] at h5
    omega
/-- what is laid of a part of the text, behind G0 others -/
noncomputable def pgx (c : Cf) (a b G0 q P : Nat) : Int32 := og (G0 + gS c a b (jx c a b P)) (rL c a b (jx c a b P)) (rB c a b (jx c a b P)) q (P - gS c a b (jx c a b P))
theorem shS.px {c : Cf} {a b R0 G0 : Nat} {M : gM} (h : shS c a b R0 G0 (nr c a b) M) {q P : Nat} (hq : q < 8) (hp : P < gS c a b (nr c a b)) : mI M (158 + q) (G0 + P) = pgx c a b G0 q P := by
  obtain ⟨h1, h2, h3⟩ := jx_b hp
  have e : gS c a b (jx c a b P + 1) = gS c a b (jx c a b P) + (rL c a b (jx c a b P)).length := rfl
  have := (h.2.2.2.2 (jx c a b P) h1).2 q (P - gS c a b (jx c a b P)) hq (by omega)
  rwa [show G0 + gS c a b (jx c a b P) + (P - gS c a b (jx c a b P)) = G0 + P by omega] at this
theorem pgx_0 (c : Cf) (q P : Nat) : pgx c 0 (tl c) 0 q P = pgv c q P := by
  unfold pgx pgv
  rw [Nat.zero_add]; rfl
noncomputable def gEn (c : Cf) (a b : Nat) : Nat := gS c a b (nr c a b)
noncomputable def sfN (c : Cf) (p : Nat) : Nat := gEn c 0 p + gEn c p (tl c)
noncomputable def sfV (c : Cf) (p q P : Nat) : Int32 := cI (P < gEn c 0 p) (pgx c 0 p 0 q P) (pgx c p (tl c) (gEn c 0 p) q (P - gEn c 0 p))
def sfP (c : Cf) (p P : Nat) : Prop := ∀ q, q < 8 → ¬ q = 4 → sfV c p q P = pgv c q P
def sfe (c : Cf) (p : Nat) : Prop := sfN c p = ng c ∧ ∀ P, P < ng c → sfP c p P
theorem iIn1 {p : Int32} {c : Nat} (hc : c < 2 ^ 30) : iIn p (nI 1) (nI c - nI 1) ↔ ∃ j, 1 ≤ j ∧ j < c ∧ p = nI j := by
  constructor
  · intro h
    have h2 : iBel p c := ⟨by
      have := h.1
      rw [Int32.le_iff_toInt_le] at this ⊢
      rw [nI_toInt (by decide)] at this
      rw [nI_toInt (by decide)]
      omega, h.2⟩
    obtain ⟨j, hj, rfl⟩ := (iBel_iff hc).mp h2
    exact ⟨j, (nI_leI (by decide) (by omega)).mp h.1, hj, rfl⟩
  · rintro ⟨j, h1, h2, rfl⟩
    exact ⟨(nI_leI (by decide) (by omega)).mpr h1, ((iBel_iff hc).mpr ⟨j, h2, rfl⟩).2⟩
def waR (a _j : Nat) : Prop := 169 ≤ a ∧ a ≤ 175
def wasS (c : Cf) (k : Nat) (M : gM) : Prop := ∀ P, P < k → mI M 169 P = pgv c 0 P ∧ mI M 170 P = pgv c 1 P ∧ mI M 171 P = pgv c 2 P ∧ mI M 172 P = pgv c 3 P ∧ mI M 173 P = pgv c 5 P ∧ mI M 174 P = pgv c 6 P ∧ mI M 175 P = pgv c 7 P
