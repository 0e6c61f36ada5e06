/-! memories changed in their ints -/
def wF (M : gM) (F : Nat → Nat → Int32) : gM := (M.1, (F, M.2.2))
theorem mI_wF (M : gM) (F : Nat → Nat → Int32) : mI (wF M F) = F := rfl
theorem mN_wF (M : gM) (F : Nat → Nat → Int32) : mN (wF M F) = mN M := rfl
theorem mK_wF (M : gM) (F : Nat → Nat → Int32) : mK (wF M F) = mK M := rfl
theorem mR_wF (M : gM) (F : Nat → Nat → Int32) : mR (wF M F) = mR M := rfl
theorem mL_wF (M : gM) (F : Nat → Nat → Int32) : mL (wF M F) = mL M := rfl
theorem wF_self (M : gM) : wF M (mI M) = M := rfl
theorem wF_wF (M : gM) (F G : Nat → Nat → Int32) : wF (wF M F) G = wF M G := rfl
theorem gm_ext {M1 M2 : gM} (h : ∀ a j, mI M1 a j = mI M2 a j) (h1 : M1.1 = M2.1) (h2 : M1.2.2 = M2.2.2) : M1 = M2 := by
  obtain ⟨a, b, c⟩ := M1
  obtain ⟨a', b', c'⟩ := M2
  cases h1; cases h2
  have : b = b' := funext fun x => funext fun y => h x y
  rw [this]
theorem E_mem {g : gG} {fr k n : Nat} {μ : gMu} {pc : Nat} {ls st : List Value} {M : gM} {Q : Option Value ⊕ String → gM → Prop} (M' : gM) (h : M = M') (k0 : E g fr k n μ pc ls st M' Q) : E g fr k n μ pc ls st M Q := by rw [h]; exact k0
theorem Q_mem {M M' : gM} {P : gM → Prop} (h : M = M') (q : P M') : P M := by rw [h]; exact q
theorem iIn_of {v : Int32} {a b : Nat} (h : iIn v (nI a) (nI b)) (ha : a < 2 ^ 31) (hb : b < 2 ^ 31) : ∃ q, a ≤ q ∧ q ≤ b ∧ v = nI q := by
  obtain ⟨h1, h2⟩ := h
  have e1 : (nI a).toInt = a := nI_toInt ha
  have e2 : (nI b).toInt = b := nI_toInt hb
  rw [Int32.le_iff_toInt_le, e1] at h1
  rw [Int32.le_iff_toInt_le, e2] at h2
  obtain ⟨q, hq, rfl⟩ := nI_of (x := v) (by rw [Int32.lt_iff_toInt_lt]; simp; omega)
  rw [nI_toInt hq] at h1 h2
  exact ⟨q, by omega, by omega, rfl⟩
theorem iIn_n {q a b : Nat} (hq : q < 2 ^ 31) (ha : a < 2 ^ 31) (hb : b < 2 ^ 31) : iIn (nI q) (nI a) (nI b) ↔ a ≤ q ∧ q ≤ b := by
  unfold iIn
  rw [nI_leI ha hq, nI_leI hq hb]
/-- below a count -/
abbrev iBel (p : Int32) (c : Nat) : Prop := iIn p (nI 0) (nI c - nI 1)
theorem iBel_iff {p : Int32} {c : Nat} (hc : c < 2 ^ 30) : iBel p c ↔ ∃ j, j < c ∧ p = nI j := by
  have e : (nI c - nI 1).toInt = (c : Int) - 1 := pk_sub_toInt hc (by decide)
  constructor
  · rintro ⟨h1, h2⟩
    rw [Int32.le_iff_toInt_le, e] at h2
    rw [Int32.le_iff_toInt_le, nI_toInt (by decide)] at h1
    obtain ⟨q, hq, rfl⟩ := nI_of (x := p) (by rw [Int32.lt_iff_toInt_lt]; simp; omega)
    rw [nI_toInt hq] at h2
    exact ⟨q, by omega, rfl⟩
  · rintro ⟨j, hj, rfl⟩
    refine ⟨?_, ?_⟩
    · rw [Int32.le_iff_toInt_le, nI_toInt (by decide), nI_toInt (by omega)]; omega
    · rw [Int32.le_iff_toInt_le, e, nI_toInt (by omega)]; omega
/-! loops -/
theorem lpUp {P : Nat → Prop} (N : Nat) (h : ∀ k, k ≤ N → (k < N → P (k + 1)) → P k) : ∀ k, k ≤ N → P k := by
  have key : ∀ t k, k + t = N → P k := by
    intro t
    induction t with
    | zero => intro k hk; exact h k (by omega) (fun q => by omega)
    | succ t ih => intro k hk; exact h k (by omega) (fun _ => ih (k + 1) (by omega))
  intro k hk
  exact key (N - k) k (by omega)
theorem lpDn {P : Nat → Prop} (lo : Nat) (h : ∀ k, lo ≤ k → (lo < k → P (k - 1)) → P k) : ∀ k, lo ≤ k → P k := by
  intro k
  induction k using Nat.strongRecOn with
  | ind k ih => intro hk; exact h k hk (fun q => ih (k - 1) (by omega) (by omega))
noncomputable def begB (P : Nat → Prop) : Nat → Int32
  | 0 => nI 0
  | k + 1 => @ite _ (P k) (Classical.propDecidable _) (begB P k ||| (nI 1 <<< (nI k &&& 31))) (begB P k)
theorem begB_t {P : Nat → Prop} {k : Nat} (h : P k) : begB P (k + 1) = begB P k ||| (nI 1 <<< (nI k &&& 31)) := @if_pos _ (Classical.propDecidable _) h _ _ _
theorem begB_f {P : Nat → Prop} {k : Nat} (h : ¬ P k) : begB P (k + 1) = begB P k := @if_neg _ (Classical.propDecidable _) h _ _ _
theorem or_nI0 (x : Int32) : x ||| nI 0 = x := by
  apply Int32.toBitVec_inj.mp
  simp [nI]
theorem begB_congr {P P' : Nat → Prop} : ∀ {n : Nat}, (∀ k, k < n → (P k ↔ P' k)) → begB P n = begB P' n
  | 0, _ => rfl
  | n + 1, h => by
    have ih := begB_congr (P := P) (P' := P') (n := n) (fun k hk => h k (by omega))
    by_cases hp : P n
    · rw [begB_t hp, begB_t ((h n (by omega)).mp hp), ih]
    · rw [begB_f hp, begB_f (fun q => hp ((h n (by omega)).mpr q)), ih]
