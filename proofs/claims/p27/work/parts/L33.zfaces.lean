/-! the law: fields of an int written anew -/
theorem z_with32 {hi mid lo a k w : Nat} (hlo : lo < 2 ^ a) (hmid : mid < 2 ^ k) (hw : w < 2 ^ k) (hn : 2 ^ a * (2 ^ k * hi + mid) + lo < 2 ^ 32) (ha : a < 32) :
    ((2 ^ a * (2 ^ k * hi + mid) + lo) &&& (((2 ^ k - 1) * 2 ^ a) ^^^ (2 ^ 32 - 1))) ||| (w * 2 ^ a) = 2 ^ a * (2 ^ k * hi + w) + lo := by
  have hr : ∀ i, 32 ≤ i → (2 ^ a * (2 ^ k * hi + mid) + lo).testBit i = false := fun i q => Nat.testBit_lt_two_pow (Nat.lt_of_lt_of_le hn (Nat.pow_le_pow_right (by decide) q))
  apply Nat.eq_of_testBit_eq
  intro i
  have hr := hr i
  rw [Nat.testBit_or, Nat.testBit_and, Nat.testBit_xor, Nat.testBit_two_pow_sub_one, Nat.testBit_mul_two_pow, Nat.testBit_mul_two_pow, Nat.testBit_two_pow_sub_one, Nat.testBit_two_pow_mul_add _ hlo, Nat.testBit_two_pow_mul_add _ hlo]
  rw [Nat.testBit_two_pow_mul_add _ hlo] at hr
  by_cases h1 : i < a
  · have h32 : i < 32 := by omega
    simp [h1, h32, Nat.not_le.mpr h1]
  · have h2 : a ≤ i := by omega
    rw [if_neg h1, if_neg h1]
    rw [if_neg h1] at hr
    rw [Nat.testBit_two_pow_mul_add _ hmid] at hr ⊢
    rw [Nat.testBit_two_pow_mul_add _ hw]
    by_cases h3 : i - a < k
    · have h5 : (mid.testBit (i - a) && (true ^^ decide (i < 32))) = false := by
        by_cases h32 : i < 32
        · simp [h32]
        · rw [if_pos h3] at hr; simp [h32, hr (by omega)]
      simp only [h2, h3, decide_true, Bool.true_and, if_true, h5, Bool.false_or]
    · have hwb : w.testBit (i - a) = false := Nat.testBit_lt_two_pow (Nat.lt_of_lt_of_le hw (Nat.pow_le_pow_right (by decide) (by omega)))
      rw [if_neg h3] at hr ⊢
      rw [if_neg h3, hwb]
      by_cases h32 : i < 32
      · simp [h3, h32]
      · simp [h3, h32, hr (by omega)]
theorem zs_shl (n : Nat) {k : Nat} (hk : k < 32) : nI n <<< (nI k &&& 31) = nI (n * 2 ^ k) := by
  apply Int32.toBitVec_inj.mp
  rw [Int32.toBitVec_shiftLeft]
  apply BitVec.eq_of_toNat_eq
  rw [BitVec.shiftLeft_eq', s_l k hk]
  show (BitVec.ofNat 32 n <<< k).toNat = (BitVec.ofNat 32 (n * 2 ^ k)).toNat
  rw [BitVec.toNat_shiftLeft, BitVec.toNat_ofNat, BitVec.toNat_ofNat, Nat.shiftLeft_eq, Nat.mul_mod, Nat.mod_mod, ← Nat.mul_mod]
theorem m1_nI : (-1 : Int32) = nI (2 ^ 32 - 1) := by decide +kernel
theorem zi_with {n hi mid lo a k w p : Nat} (he : n = 2 ^ a * (2 ^ k * hi + mid) + lo) (hlo : lo < 2 ^ a) (hmid : mid < 2 ^ k) (hw : w < 2 ^ k) (hn : n < 2 ^ 31) (ha : a < 32) (hp : p = 2 ^ k - 1) {r : Nat} (hr : 2 ^ a * (2 ^ k * hi + w) + lo = r) :
    (nI n &&& ((nI p <<< (nI a &&& 31)) ^^^ (-1))) ||| (nI w <<< (nI a &&& 31)) = nI r := by
  rw [zs_shl _ ha, zs_shl _ ha, m1_nI, nx_xor, nx_and, nx_or, he, hp, z_with32 hlo hmid hw (by omega) ha, hr]
theorem pEn_u {c : Cf} {A f v t v' : Nat} (hA : A = 137 ∨ A = 138 ∨ A = 139) (hv : v < 256) (hv' : v' < 256) (h : ¬ v' = v) : pEn (uN c A (256 * f + v) t) v' = pEn c v' := by
  unfold pEn pEf
  rw [cN_u, cN_u, cN_u, cN_u, cN_u, cN_u, if_neg (by omega), if_neg (by omega), if_neg (by omega), if_neg (by omega), if_neg (by omega), if_neg (by omega)]
theorem pE_s0 {c : Cf} (h : WFc c) {f v t : Nat} (hf : f < 2) (ht : t < 8) : (nI (pEn c v) &&& ((nI 7 <<< (nI (13 * f) &&& 31)) ^^^ (-1))) ||| (nI t <<< (nI (13 * f) &&& 31)) = nI (pEn (uN c 137 (256 * f + v) t) v) := by
  have h0 := pEf_b h 0 v
  have h1 := pEf_b h 1 v
  rcases (show f = 0 ∨ f = 1 by omega) with rfl | rfl
  · refine zi_with (k := 3) (a := 13 * 0) (hi := cN c 138 (256 * 0 + v) + 8 * cN c 139 (256 * 0 + v) + 1024 * pEf c 1 v) (mid := cN c 137 (256 * 0 + v)) (lo := 0) ?_ (by decide) (by omega) (by omega) (by unfold pEn pEf; omega) (by decide) (by decide) ?_
    · unfold pEn pEf; omega
    · unfold pEn pEf
      rw [cN_u, cN_u, cN_u, cN_u, cN_u, cN_u, if_pos ⟨rfl, rfl⟩, if_neg (by omega), if_neg (by omega), if_neg (by omega), if_neg (by omega), if_neg (by omega)]
      omega
  · refine zi_with (k := 3) (a := 13 * 1) (hi := cN c 138 (256 * 1 + v) + 8 * cN c 139 (256 * 1 + v)) (mid := cN c 137 (256 * 1 + v)) (lo := pEf c 0 v) ?_ (by unfold pEf; omega) (by omega) (by omega) (by unfold pEn pEf; omega) (by decide) (by decide) ?_
    · unfold pEn pEf; omega
    · unfold pEn pEf
      rw [cN_u, cN_u, cN_u, cN_u, cN_u, cN_u, if_neg (by omega), if_neg (by omega), if_neg (by omega), if_pos ⟨rfl, rfl⟩, if_neg (by omega), if_neg (by omega)]
      omega
theorem pE_s3 {c : Cf} (h : WFc c) {f v t : Nat} (hf : f < 2) (ht : t < 8) : (nI (pEn c v) &&& ((nI 7 <<< (nI (13 * f + 3) &&& 31)) ^^^ (-1))) ||| (nI t <<< (nI (13 * f + 3) &&& 31)) = nI (pEn (uN c 138 (256 * f + v) t) v) := by
  have h0 := pEf_b h 0 v
  have h1 := pEf_b h 1 v
  rcases (show f = 0 ∨ f = 1 by omega) with rfl | rfl
  · refine zi_with (k := 3) (a := 13 * 0 + 3) (hi := cN c 139 (256 * 0 + v) + 128 * pEf c 1 v) (mid := cN c 138 (256 * 0 + v)) (lo := cN c 137 (256 * 0 + v)) ?_ (by omega) (by omega) (by omega) (by unfold pEn pEf; omega) (by decide) (by decide) ?_
    · unfold pEn pEf; omega
    · unfold pEn pEf
      rw [cN_u, cN_u, cN_u, cN_u, cN_u, cN_u, if_neg (by omega), if_pos ⟨rfl, rfl⟩, if_neg (by omega), if_neg (by omega), if_neg (by omega), if_neg (by omega)]
      omega
  · refine zi_with (k := 3) (a := 13 * 1 + 3) (hi := cN c 139 (256 * 1 + v)) (mid := cN c 138 (256 * 1 + v)) (lo := pEf c 0 v + 8192 * cN c 137 (256 * 1 + v)) ?_ (by unfold pEf; omega) (by omega) (by omega) (by unfold pEn pEf; omega) (by decide) (by decide) ?_
    · unfold pEn pEf; omega
    · unfold pEn pEf
      rw [cN_u, cN_u, cN_u, cN_u, cN_u, cN_u, if_neg (by omega), if_neg (by omega), if_neg (by omega), if_neg (by omega), if_pos ⟨rfl, rfl⟩, if_neg (by omega)]
      omega
theorem pE_s6 {c : Cf} (h : WFc c) {f v t : Nat} (hf : f < 2) (ht : t < 128) : (nI (pEn c v) &&& ((nI 127 <<< (nI (13 * f + 6) &&& 31)) ^^^ (-1))) ||| (nI t <<< (nI (13 * f + 6) &&& 31)) = nI (pEn (uN c 139 (256 * f + v) t) v) := by
  have h0 := pEf_b h 0 v
  have h1 := pEf_b h 1 v
  rcases (show f = 0 ∨ f = 1 by omega) with rfl | rfl
  · refine zi_with (k := 7) (a := 13 * 0 + 6) (hi := pEf c 1 v) (mid := cN c 139 (256 * 0 + v)) (lo := cN c 137 (256 * 0 + v) + 8 * cN c 138 (256 * 0 + v)) ?_ (by omega) (by omega) (by omega) (by unfold pEn pEf; omega) (by decide) (by decide) ?_
    · unfold pEn pEf; omega
    · unfold pEn pEf
      rw [cN_u, cN_u, cN_u, cN_u, cN_u, cN_u, if_neg (by omega), if_neg (by omega), if_pos ⟨rfl, rfl⟩, if_neg (by omega), if_neg (by omega), if_neg (by omega)]
      omega
  · refine zi_with (k := 7) (a := 13 * 1 + 6) (hi := 0) (mid := cN c 139 (256 * 1 + v)) (lo := pEf c 0 v + 8192 * (cN c 137 (256 * 1 + v) + 8 * cN c 138 (256 * 1 + v))) ?_ (by unfold pEf; omega) (by omega) (by omega) (by unfold pEn pEf; omega) (by decide) (by decide) ?_
    · unfold pEn pEf; omega
    · unfold pEn pEf
      rw [cN_u, cN_u, cN_u, cN_u, cN_u, cN_u, if_neg (by omega), if_neg (by omega), if_neg (by omega), if_neg (by omega), if_neg (by omega), if_pos ⟨rfl, rfl⟩]
      omega
theorem zS_face {c : Cf} {M : gM} (h : zS c M) {A f v t : Nat} (hA : A = 137 ∨ A = 138 ∨ A = 139) (hv : glZ v) (hf : f < 2) (hw : WFc (uN c A (256 * f + v) t)) : zS (uN c A (256 * f + v) t) (sI M 131 (ofN v) (nI (pEn (uN c A (256 * f + v) t) v))) := by
  have hb : ∀ a i, ¬ (a = 137 ∨ a = 138 ∨ a = 139) → cN (uN c A (256 * f + v) t) a i = cN c a i := fun a i q => by rw [cN_u, if_neg (by omega)]
  have hru : ∀ l k w, rul (uN c A (256 * f + v) t) l k w = rul c l k w := fun _ _ _ => rfl
  have hv2 := glZ_256 hv
  have htl : tl (uN c A (256 * f + v) t) = tl c := hb _ _ (by decide)
  refine ⟨h.lay.of (Nat.le_refl _) (fun _ _ => rfl) (fun _ _ => rfl), hw, ⟨fun f hf => ?_, fun i => ?_, ?_, fun k hk => ?_, fun i k hk => ?_, fun f' v' hf' hv' hg => ?_⟩, fun k hk => ?_, fun f' i hf' hi => ?_, fun f' i k hf' hi hk => ?_, fun v' hv' => ?_, ?_, ?_, ?_, fun f' hf' => ?_⟩
  · rw [hb _ _ (by decide)]; exact h.ct hf
  · rw [hb _ _ (by decide)]; exact h.r4 _
  · rw [htl]; exact h.t10
  · rw [hb _ _ (by decide)]; rw [htl] at hk; exact h.sg hk
  · rw [hb _ _ (by decide)] at hk
    have := h.wz.2.2.2.2.1 i k hk
    refine ⟨fun w hw => by rw [hru]; exact this.1 w hw, ?_⟩
    rw [hru, hru, hru, hb _ _ (by decide)]; exact this.2
  · have hne : ¬ v' = v := fun q => hg (q ▸ hv)
    rw [cN_u, if_neg (by omega)]; exact h.wz.2.2.2.2.2 f' v' hf' hv' hg
  · rw [mI_ne (by decide)]
    rw [htl] at hk
    rw [h.tx hk]
    unfold tEn
    rw [hb _ _ (by decide), hb _ _ (by decide)]
  · rw [hb _ _ (by decide)] at hi
    rw [mI_ne (by decide), h.me hf' hi]
    unfold mEn
    rw [hb _ _ (by decide), hb _ _ (by decide), hb _ _ (by decide), hb _ _ (by decide), hb _ _ (by decide), hb _ _ (by decide)]
  · rw [hb _ _ (by decide)] at hi hk
    show mL M 130 _ = _
    rw [h.re hf' hi hk]
    rfl
  · by_cases e : v' = v
    · subst e; rw [mI_eq]
    · have hv'2 := glZ_256 hv'
      have hof : ¬ ofN v' = ofN v := by unfold ofN glZ at *; split <;> split <;> omega
      rw [mI_nj hof, h.pe hv', pEn_u hA hv2 hv'2 e]
  · rw [mI_ne (by decide), hb _ _ (by decide)]; exact h.b0
  · rw [mI_ne (by decide), htl]; exact h.b1
  · rw [mI_ne (by decide), hb _ _ (by decide)]; exact h.b2
  · rw [mI_ne (by decide), hb _ _ (by decide)]; exact h.b3 hf'
theorem wfI_u {c : Cf} {A j t : Nat} (hI : wfI c) (h : ¬ A = 130) (h2 : ¬ A = 135) : wfI (uN c A j t) := fun l k hk => by
  rw [cN_u, if_neg (by omega)] at hk
  have := hI l k hk
  rw [cN_u, if_neg (by omega)]
  exact this
theorem wfW_u {c : Cf} {A j t : Nat} (hW : wfW c) (h : ¬ A = 130) (h2 : ¬ A = 135) (h3 : A = 139 → t ≤ 29) : wfW (uN c A j t) := by
  refine ⟨fun i => ?_, fun l k hk h6 => ?_⟩
  · rw [cN_u]
    by_cases e : 139 = A ∧ i = j
    · rw [if_pos e]; exact h3 e.1.symm
    · rw [if_neg e]; exact hW.1 i
  · rw [cN_u, if_neg (by omega)] at hk h6
    exact hW.2 l k hk h6
theorem zS_use {c : Cf} {M : gM} (h : zS c M) {t : Nat} (hw : WFc (uN c 128 1 t)) : zS (uN c 128 1 t) (sI M 132 0 (nI t)) := by
  have hb : ∀ a i, ¬ a = 128 → cN (uN c 128 1 t) a i = cN c a i := fun a i q => by rw [cN_u, if_neg (by omega)]
  have htl : tl (uN c 128 1 t) = tl c := by show cN (uN c 128 1 t) 128 14 = _; rw [cN_u, if_neg (by omega)]
  refine ⟨h.lay.of (Nat.le_refl _) (fun _ _ => rfl) (fun _ _ => rfl), hw, ⟨fun f hf => ?_, fun i => ?_, ?_, fun k hk => ?_, fun i k hk => ?_, fun f' v' hf' hv' hg => ?_⟩, fun k hk => ?_, fun f' i hf' hi => ?_, fun f' i k hf' hi hk => ?_, fun v' hv' => ?_, ?_, ?_, ?_, fun f' hf' => ?_⟩
  · rw [hb _ _ (by decide)]; exact h.ct hf
  · rw [hb _ _ (by decide)]; exact h.r4 _
  · rw [htl]; exact h.t10
  · rw [hb _ _ (by decide)]; rw [htl] at hk; exact h.sg hk
  · rw [hb _ _ (by decide)] at hk
    have := h.wz.2.2.2.2.1 i k hk
    refine ⟨fun w hw => this.1 w hw, ?_⟩
    rw [hb _ _ (by decide)]; exact this.2
  · rw [hb _ _ (by decide)]; exact h.wz.2.2.2.2.2 f' v' hf' hv' hg
  · rw [mI_ne (by decide)]
    rw [htl] at hk
    rw [h.tx hk]
    unfold tEn
    rw [hb _ _ (by decide), hb _ _ (by decide)]
  · rw [hb _ _ (by decide)] at hi
    rw [mI_ne (by decide), h.me hf' hi]
    unfold mEn
    rw [hb _ _ (by decide), hb _ _ (by decide), hb _ _ (by decide), hb _ _ (by decide), hb _ _ (by decide), hb _ _ (by decide)]
  · rw [hb _ _ (by decide)] at hi hk
    show mL M 130 _ = _
    rw [h.re hf' hi hk]
    rfl
  · rw [mI_ne (by decide), h.pe hv']
    unfold pEn pEf
    rw [hb _ _ (by decide), hb _ _ (by decide), hb _ _ (by decide), hb _ _ (by decide), hb _ _ (by decide), hb _ _ (by decide)]
  · rw [mI_eq]
    show nI t = nI (cN (uN c 128 1 t) 128 1)
    rw [cN_u, if_pos ⟨rfl, rfl⟩]
  · rw [mI_nj (by decide), htl]; exact h.b1
  · rw [mI_nj (by decide), cN_u, if_neg (by omega)]; exact h.b2
  · rw [mI_nj (by omega), hb _ _ (by decide)]; exact h.b3 hf'
def gOf (i : Nat) : Nat := if i < 45 then i else i + 19
theorem gOf_ok {i : Nat} (h : i < 64) : glZ (gOf i) ∧ ofN (gOf i) = i := by
  unfold gOf
  by_cases e : i < 45
  · rw [if_pos e]; exact ⟨Or.inl e, if_pos e⟩
  · rw [if_neg e]; exact ⟨Or.inr (by omega), by unfold ofN; rw [if_neg (by omega)]; omega⟩
