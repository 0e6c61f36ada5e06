/-! the reference: filling; breaks that are safe -/
theorem ge0_nI {x : Int32} (h : 0 ≤ x) : ∃ j : Nat, j < 2 ^ 31 ∧ x = nI j := nI_of (Int32.not_lt.mpr h)
theorem Int32_nle {x : Int32} (h : ¬ 0 ≤ x) : x < 0 := Int32.not_le.mp h
/-- what is missing -/
noncomputable def mis (c : Cf) (w : Int32) : Int32 := w - tS c (tr c)
/-- the widths are small -/
def smW (c : Cf) : Prop := ∀ w j, iIn w (nI 0) (nI 10000) → mis c w = nI j → j < 2 ^ 31 → j < 2 ^ 30
noncomputable def fiV (c : Cf) (w : Int32) : Int32 := cI (0 ≤ mis c w) (cI (blk c (tl c) = 0) (nI (stL c (gN (mis c w)))) (nI 0)) (-100)
noncomputable def fgV (c : Cf) (w : Int32) (k : Nat) : Int32 := cI (0 ≤ mis c w) (cI (cN c 141 k = 0) (nI (stL c (gN (mis c w)) / blk c (tl c) + cI (blk c k < stL c (gN (mis c w)) % blk c (tl c)) 1 0)) (cI (stM c = 0 ∨ ¬ msP c k) (nI 0) (nI (stN c (gN (mis c w)) k)))) (nI 0)
theorem blk_t {c : Cf} {k : Nat} (e : cN c 141 k = 0) : blk c (k + 1) = blk c k + 1 := by show blk c k + cI _ _ _ = _; rw [cI_t e]
theorem blk_m {c : Cf} {j : Nat} : ∀ k, j ≤ k → blk c j ≤ blk c k
  | 0, h => by rw [show j = 0 by omega]; exact Nat.le_refl _
  | k + 1, h => by
    by_cases e : j = k + 1
    · rw [e]; exact Nat.le_refl _
    · have := blk_m k (show j ≤ k by omega) (c := c)
      have : blk c k ≤ blk c (k + 1) := Nat.le_add_right _ _
      omega
theorem stL_b (c : Cf) (q : Nat) : stL c q ≤ q := by
  unfold stL
  by_cases e : stM c = 0
  · rw [cI_t e]; exact Nat.le_refl _
  · rw [cI_f e]; exact Nat.sub_le _ _
def eqP (M : gM) (P : Nat) : Prop := mI M 158 P = mI M 169 P ∧ mI M 159 P = mI M 170 P ∧ mI M 160 P = mI M 171 P ∧ mI M 161 P = mI M 172 P ∧ mI M 163 P = mI M 173 P ∧ mI M 164 P = mI M 174 P ∧ mI M 165 P = mI M 175 P
def eqA (M : gM) (n2 n : Nat) : Prop := n2 = n ∧ ∀ P, P < n → eqP M P
