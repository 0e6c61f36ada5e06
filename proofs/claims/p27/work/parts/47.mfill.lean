/-! the reference: breaks, lines -/
section GD
variable {g : gG} {fr k n : Nat} {μ : gMu} {pc : Nat} {ls st : List Value} {M : gM} {Q : Option Value ⊕ String → gM → Prop}
theorem E_idiv_n {a b : Nat} (hd : decode (gcc μ) pc = .ok (.idiv, 1)) (ha : a < 2 ^ 31) (h0 : 0 < b) (hb : b < 2 ^ 31) (k0 : E g fr k n μ (pc + 1) ls (.int (nI (a / b)) :: st) M Q) : E g fr k n μ pc ls (.int (nI b) :: .int (nI a) :: st) M Q :=
  E_idiv hd (nI_ne0 h0 hb) (by rw [pk_div ha h0 hb]; exact k0)
theorem E_irem_n {a b : Nat} (hd : decode (gcc μ) pc = .ok (.irem, 1)) (ha : a < 2 ^ 31) (h0 : 0 < b) (hb : b < 2 ^ 31) (k0 : E g fr k n μ (pc + 1) ls (.int (nI (a % b)) :: st) M Q) : E g fr k n μ pc ls (.int (nI b) :: .int (nI a) :: st) M Q :=
  E_irem hd (nI_ne0 h0 hb) (by rw [pk_rem ha h0 hb]; exact k0)
end GD
theorem clV_inj {a b : Nat} (ha : a < 100) (hb : b < 100) : clV a = clV b ↔ a = b := by
  unfold clV
  by_cases e : a = 0
  · rw [cI_t e]
    by_cases e2 : b = 0
    · rw [cI_t e2]; exact ⟨fun _ => by omega, fun _ => rfl⟩
    · rw [cI_f e2]; exact ⟨fun q => absurd q.symm (nI_ne100 (by omega)), fun q => by omega⟩
  · rw [cI_f e]
    by_cases e2 : b = 0
    · rw [cI_t e2]; exact ⟨fun q => absurd q (nI_ne100 (by omega)), fun q => by omega⟩
    · rw [cI_f e2, nI_eq (by omega) (by omega)]; omega
def msP (c : Cf) (k : Nat) : Prop := cBo (cN c 141 k) ∧ (frm c (tn c (ru c k)) (tn c (ru c k + 1)) k = nI 1 ∨ frm c (tn c (ru c k)) (tn c (ru c k + 1)) k = nI 2) ∧ jon c (tn c (ru c k + 1)) k < tn c (ru c k + 1) ∧ ¬ clO c (ru c k) k = clO c (ru c k) (jon c (tn c (ru c k + 1)) k)
noncomputable def blk (c : Cf) : Nat → Nat
  | 0 => 0
  | k + 1 => blk c k + cI (cN c 141 k = 0) 1 0
theorem blk_b (c : Cf) : ∀ k, blk c k ≤ k
  | 0 => Nat.le_refl _
  | k + 1 => by
    have ih := blk_b c k
    show blk c k + cI _ _ _ ≤ _
    by_cases e : cN c 141 k = 0
    · rw [cI_t e]; omega
    · rw [cI_f e]; omega
noncomputable def msC (c : Cf) : Nat → Nat
  | 0 => 0
  | k + 1 => msC c k + cI (msP c k) 1 0
theorem msC_b (c : Cf) : ∀ k, msC c k ≤ k
  | 0 => Nat.le_refl _
  | k + 1 => by
    have ih := msC_b c k
    show msC c k + cI _ _ _ ≤ _
    by_cases e : msP c k
    · rw [cI_t e]; omega
    · rw [cI_f e]; omega
theorem msC_t {c : Cf} {k : Nat} (e : msP c k) : msC c (k + 1) = msC c k + 1 := by show msC c k + cI _ _ _ = _; rw [cI_t e]
theorem msC_f {c : Cf} {k : Nat} (e : ¬ msP c k) : msC c (k + 1) = msC c k := by show msC c k + cI _ _ _ = _; rw [cI_f e]; omega
theorem msC_m {c : Cf} {j : Nat} : ∀ k, j ≤ k → msC c j ≤ msC c k
  | 0, h => by rw [show j = 0 by omega]; exact Nat.le_refl _
  | k + 1, h => by
    by_cases e : j = k + 1
    · rw [e]; exact Nat.le_refl _
    · have := msC_m k (show j ≤ k by omega) (c := c)
      have : msC c k ≤ msC c (k + 1) := by
        by_cases e : msP c k
        · rw [msC_t e]; omega
        · rw [msC_f e]; exact Nat.le_refl _
      omega
abbrev wSt (c : Cf) : Nat := cN c 139 20
noncomputable def stA (c : Cf) (q : Nat) : Nat := cI (wSt c = 0) 0 (q / wSt c)
noncomputable def stM (c : Cf) : Nat := msC c (tl c)
noncomputable def stN (c : Cf) (q k : Nat) : Nat := stA c q / stM c + cI (stM c - msC c (k + 1) < stA c q % stM c) 1 0
noncomputable def stV (c : Cf) (q k : Nat) : Int32 := cI (msP c k) (nI (stN c q k)) (-100)
noncomputable def stL (c : Cf) (q : Nat) : Nat := cI (stM c = 0) q (q - stA c q * wSt c)
theorem stA_b (c : Cf) (q : Nat) : stA c q ≤ q ∧ stA c q * wSt c ≤ q := by
  unfold stA
  by_cases e : wSt c = 0
  · rw [cI_t e]; omega
  · rw [cI_f e]; exact ⟨Nat.div_le_self _ _, Nat.div_mul_le_self _ _⟩
def st0 (c : Cf) (k : Nat) (M : gM) : Prop := ∀ j, j < k → mI M 177 j = cI (msP c j) (nI 0) (-100)
def st1 (c : Cf) (q k : Nat) (M : gM) : Prop := (∀ j, j < k → mI M 177 j = cI (msP c j) (nI 0) (-100)) ∧ ∀ j, k ≤ j → j < tl c → mI M 177 j = stV c q j
def skR (a _j : Nat) : Prop := a = 177
theorem skR_q (a j : Nat) (h : skR a j) : qR a j := by unfold skR at h; unfold qR; omega
theorem qSk {c : Cf} {M M' : gM} (h : qS c M) (hf : fr skR M M') : qS c M' := h.fr hf (fun a j q => by unfold skR at q; omega)
