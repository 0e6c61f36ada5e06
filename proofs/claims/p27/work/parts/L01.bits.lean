/-! the law: shifts, masks, numbers packed into longs (the first rows: families of kit/laws, pasted) -/
theorem s_l : ∀ n, n < 32 → ((nI n &&& 31).toBitVec.smod 32).toNat = n := by decide +kernel
theorem nx_and (a b : Nat) : nI a &&& nI b = nI (a &&& b) := by
  apply Int32.toBitVec_inj.1
  show BitVec.ofNat 32 a &&& BitVec.ofNat 32 b = BitVec.ofNat 32 (a &&& b)
  apply BitVec.eq_of_getLsbD_eq
  intro i hi
  simp [hi]
theorem nx_xor (a b : Nat) : nI a ^^^ nI b = nI (a ^^^ b) := by
  apply Int32.toBitVec_inj.1
  show BitVec.ofNat 32 a ^^^ BitVec.ofNat 32 b = BitVec.ofNat 32 (a ^^^ b)
  apply BitVec.eq_of_getLsbD_eq
  intro i hi
  simp [hi]
theorem wb_tb (n : Nat) : (lN n).toBitVec = BitVec.ofNat 64 n := rfl
theorem wb_inj {a b : Int64} (h : a.toBitVec = b.toBitVec) : a = b := Int64.toBitVec_inj.mp h
theorem wb_c : ∀ k, k < 64 → ((nI k).toInt64 &&& 63) = lN k := by decide +kernel
theorem wb_sm : ∀ k, k < 64 → (BitVec.ofNat 64 k).smod 64 = BitVec.ofNat 64 k := by decide +kernel
theorem wb_shl (n : Nat) {k : Nat} (hk : k < 64) : lN n <<< ((nI k).toInt64 &&& 63) = lN (n * 2 ^ k) := by
  rw [wb_c k hk]
  apply wb_inj
  rw [Int64.toBitVec_shiftLeft, wb_tb, wb_tb, wb_tb, wb_sm k hk]
  apply BitVec.eq_of_toNat_eq
  rw [BitVec.shiftLeft_eq', BitVec.toNat_shiftLeft, BitVec.toNat_ofNat, BitVec.toNat_ofNat, BitVec.toNat_ofNat, Nat.mod_eq_of_lt (show k < 2 ^ 64 by omega), Nat.shiftLeft_eq, Nat.mul_mod, Nat.mod_mod, ← Nat.mul_mod]
theorem pf_lI {a : Nat} (h : a < 2 ^ 63) : (lN a).toInt = (a : Int) := lg_ofNat_toInt h
theorem pf_shr {a d : Nat} {D : Int64} (hD : (D.toBitVec.smod 64).toNat = d) (h : a < 2 ^ 62) : lN a >>> D = lN (a / 2 ^ d) := by
  have hd : a / 2 ^ d ≤ a := Nat.div_le_self _ _
  apply Int64.toInt_inj.mp
  have e : (lN a >>> D).toInt = (lN a).toInt >>> d := by
    rw [← hD]
    exact BitVec.toInt_sshiftRight ..
  rw [e, Int.shiftRight_eq_div_pow, pf_lI (by omega), pf_lI (by omega)]
  rfl
theorem fb_andL (a b : Nat) : lN a &&& lN b = lN (a &&& b) := by
  apply Int64.toBitVec_inj.1
  show BitVec.ofNat 64 a &&& BitVec.ofNat 64 b = BitVec.ofNat 64 (a &&& b)
  apply BitVec.eq_of_getLsbD_eq
  intro i hi
  simp [hi]
theorem fb_orL (a b : Nat) : lN a ||| lN b = lN (a ||| b) := by
  apply Int64.toBitVec_inj.1
  show BitVec.ofNat 64 a ||| BitVec.ofNat 64 b = BitVec.ofNat 64 (a ||| b)
  apply BitVec.eq_of_getLsbD_eq
  intro i hi
  simp [hi]
theorem fb_xorL (a b : Nat) : lN a ^^^ lN b = lN (a ^^^ b) := by
  apply Int64.toBitVec_inj.1
  show BitVec.ofNat 64 a ^^^ BitVec.ofNat 64 b = BitVec.ofNat 64 (a ^^^ b)
  apply BitVec.eq_of_getLsbD_eq
  intro i hi
  simp [hi]
theorem fb_maskL (n k : Nat) : lN n &&& lN (2 ^ k - 1) = lN (n % 2 ^ k) := by rw [fb_andL, Nat.and_two_pow_sub_one_eq_mod]
theorem zs_shr {a s : Nat} (ha : a < 2 ^ 31) (hs : s < 32) : nI a >>> (nI s &&& 31) = nI (a / 2 ^ s) := by
  have hd : a / 2 ^ s ≤ a := Nat.div_le_self _ _
  apply Int32.toInt_inj.mp
  have e : (nI a >>> (nI s &&& 31)).toInt = (nI a).toInt >>> s := by
    have h := BitVec.toInt_sshiftRight (x := (nI a).toBitVec) (n := ((nI s &&& 31).toBitVec.smod 32).toNat)
    rw [s_l s hs] at h
    have h2 : (nI a >>> (nI s &&& 31)).toBitVec = (nI a).toBitVec.sshiftRight s := by
      rw [Int32.toBitVec_shiftRight]
      show (nI a).toBitVec.sshiftRight ((nI s &&& 31).toBitVec.smod 32).toNat = _
      rw [s_l s hs]
    show (nI a >>> (nI s &&& 31)).toBitVec.toInt = _
    rw [h2]
    exact h
  rw [e, Int.shiftRight_eq_div_pow, nI_toInt ha, nI_toInt (by omega)]
  rfl
theorem zs_mask (a k : Nat) : nI a &&& nI (2 ^ k - 1) = nI (a % 2 ^ k) := by rw [nx_and, Nat.and_two_pow_sub_one_eq_mod]
/-- a field of an int -/
theorem zf {a s k p v : Nat} (ha : a < 2 ^ 31) (hs : s < 32) (hp : p = 2 ^ k - 1) (hv : a / 2 ^ s % 2 ^ k = v) : (nI a >>> (nI s &&& 31)) &&& nI p = nI v := by
  rw [zs_shr ha hs, hp, zs_mask, hv]
theorem zf0 {a k p v : Nat} (hp : p = 2 ^ k - 1) (hv : a % 2 ^ k = v) : nI a &&& nI p = nI v := by rw [hp, zs_mask, hv]
theorem zfs {a s v : Nat} (ha : a < 2 ^ 31) (hs : s < 32) (hv : a / 2 ^ s = v) : nI a >>> (nI s &&& 31) = nI v := by rw [zs_shr ha hs, hv]
theorem wz_sm : ∀ k, k < 64 → ((lN k).toBitVec.smod 64).toNat = k := by decide +kernel
theorem zl_shr {a s : Nat} (ha : a < 2 ^ 62) (hs : s < 64) : lN a >>> ((nI s).toInt64 &&& 63) = lN (a / 2 ^ s) := by
  rw [wb_c s hs]
  exact pf_shr (wz_sm s hs) ha
/-- a field of a long, as an int -/
theorem zl_part {a s k p v : Nat} (ha : a < 2 ^ 62) (hs : s < 64) (hp : p = 2 ^ k - 1) (hv : a / 2 ^ s % 2 ^ k = v) : (lN a >>> ((nI s).toInt64 &&& 63)).toInt32 &&& nI p = nI v := by
  rw [zl_shr ha hs, lN_i, hp, zs_mask, hv]
theorem zl_low {a k p v : Nat} (hp : p = 2 ^ k - 1) (hv : a % 2 ^ k = v) : (lN a &&& lN p).toInt32 = nI v := by
  rw [hp, fb_maskL, lN_i, hv]
theorem m1_lN : (-1 : Int64) = lN (2 ^ 64 - 1) := by decide +kernel
/-- a field written anew -/
theorem z_with {hi mid lo a k w : Nat} (hlo : lo < 2 ^ a) (hmid : mid < 2 ^ k) (hw : w < 2 ^ k) (hn : 2 ^ a * (2 ^ k * hi + mid) + lo < 2 ^ 64) (ha : a < 64) :
    ((2 ^ a * (2 ^ k * hi + mid) + lo) &&& (((2 ^ k - 1) * 2 ^ a) ^^^ (2 ^ 64 - 1))) ||| (w * 2 ^ a) = 2 ^ a * (2 ^ k * hi + w) + lo := by
  have hr : ∀ i, 64 ≤ i → (2 ^ a * (2 ^ k * hi + mid) + lo).testBit i = false := fun i q => Nat.testBit_lt_two_pow (Nat.lt_of_lt_of_le hn (Nat.pow_le_pow_right (by decide) q))
  apply Nat.eq_of_testBit_eq
  intro i
  have hr := hr i
  rw [Nat.testBit_or, Nat.testBit_and, Nat.testBit_xor, Nat.testBit_two_pow_sub_one, Nat.testBit_mul_two_pow, Nat.testBit_mul_two_pow, Nat.testBit_two_pow_sub_one, Nat.testBit_two_pow_mul_add _ hlo, Nat.testBit_two_pow_mul_add _ hlo]
  rw [Nat.testBit_two_pow_mul_add _ hlo] at hr
  by_cases h1 : i < a
  · have h64 : i < 64 := by omega
    simp [h1, h64, Nat.not_le.mpr h1]
  · have h2 : a ≤ i := by omega
    rw [if_neg h1, if_neg h1]
    rw [if_neg h1] at hr
    rw [Nat.testBit_two_pow_mul_add _ hmid] at hr ⊢
    rw [Nat.testBit_two_pow_mul_add _ hw]
    by_cases h3 : i - a < k
    · have h5 : (mid.testBit (i - a) && (true ^^ decide (i < 64))) = false := by
        by_cases h64 : i < 64
        · simp [h64]
        · rw [if_pos h3] at hr; simp [h64, hr (by omega)]
      simp only [h2, h3, decide_true, Bool.true_and, if_true, h5, Bool.false_or]
    · have hwb : w.testBit (i - a) = false := Nat.testBit_lt_two_pow (Nat.lt_of_lt_of_le hw (Nat.pow_le_pow_right (by decide) (by omega)))
      rw [if_neg h3] at hr ⊢
      rw [if_neg h3, hwb]
      by_cases h64 : i < 64
      · simp [h3, h64]
      · simp [h3, h64, hr (by omega)]
theorem z_withL {n hi mid lo a k w p : Nat} (he : n = 2 ^ a * (2 ^ k * hi + mid) + lo) (hlo : lo < 2 ^ a) (hmid : mid < 2 ^ k) (hw : w < 2 ^ k) (hn : n < 2 ^ 62) (ha : a < 64) (hk : k < 31) (hp : p = 2 ^ k - 1) {r : Nat} (hr : 2 ^ a * (2 ^ k * hi + w) + lo = r) :
    (lN n &&& (((nI p).toInt64 <<< ((nI a).toInt64 &&& 63)) ^^^ (-1))) ||| ((nI w).toInt64 <<< ((nI a).toInt64 &&& 63)) = lN r := by
  have h31 : 2 ^ k ≤ 2 ^ 30 := Nat.pow_le_pow_right (by decide) (by omega)
  rw [nI_l (show p < 2 ^ 31 by omega), nI_l (show w < 2 ^ 31 by omega), wb_shl _ ha, wb_shl _ ha, m1_lN, fb_xorL, fb_andL, fb_orL, he, hp, z_with hlo hmid hw (by omega) ha, hr]
/-! a glyph of the row as a long -/
noncomputable def zF (x : Gl) : Nat := cI (yF x = -100) 4 (gN (yF x))
noncomputable def zP (x : Gl) : Nat := cI (yP x = -100) 0 (gN (yP x) + 1)
def zT (x : Gl) : Nat := gN (yT x)
def glZ (v : Nat) : Prop := v < 45 ∨ (64 ≤ v ∧ v < 83)
/-- a glyph that the law's row can hold -/
def okZ (x : Gl) : Prop := glZ (yN x) ∧ yC x < 16 ∧ (yF x = -100 ∨ ∃ j, j < 4 ∧ yF x = nI j) ∧ yE x ≤ 3 ∧ yO x < 256 ∧ (yP x = -100 ∨ ∃ j, j + 1 < 2 ^ 18 ∧ yP x = nI j) ∧ ∃ j, 1 ≤ j ∧ j < 2 ^ 18 ∧ yT x = nI j
noncomputable def pkN (x : Gl) : Nat := yN x + 256 * yC x + 4096 * zF x + 32768 * yE x + 131072 * zP x + 34359738368 * zT x + 9007199254740992 * yO x
noncomputable def pk (x : Gl) : Int64 := lN (pkN x)
theorem m100_nI {j : Nat} (h : j < 2 ^ 31) : ¬ nI j = -100 := nI_ne100 h
theorem zF_4 {x : Gl} (h : yF x = -100) : zF x = 4 := cI_t h
theorem zF_j {x : Gl} {j : Nat} (hj : j < 4) (h : yF x = nI j) : zF x = j := by
  unfold zF
  rw [h, cI_f (m100_nI (by omega)), gN_nI (by omega)]
theorem zP_0 {x : Gl} (h : yP x = -100) : zP x = 0 := cI_t h
theorem zP_j {x : Gl} {j : Nat} (hj : j < 2 ^ 31) (h : yP x = nI j) : zP x = j + 1 := by
  unfold zP
  rw [h, cI_f (m100_nI hj), gN_nI hj]
theorem zT_j {x : Gl} {j : Nat} (hj : j < 2 ^ 31) (h : yT x = nI j) : zT x = j := by unfold zT; rw [h, gN_nI hj]
theorem okZ.b {x : Gl} (h : okZ x) : yN x < 256 ∧ yC x < 16 ∧ zF x < 8 ∧ yE x < 4 ∧ zP x < 262144 ∧ zT x < 262144 ∧ yO x < 256 := by
  obtain ⟨h1, h2, h3, h4, h5, h6, j, h0, h7, h8⟩ := h
  have e1 : yN x < 256 := by unfold glZ at h1; omega
  have e3 : zF x < 8 := by
    rcases h3 with q | ⟨i, q1, q2⟩
    · rw [zF_4 q]; decide
    · rw [zF_j q1 q2]; omega
  have e5 : zP x < 262144 := by
    rcases h6 with q | ⟨i, q1, q2⟩
    · rw [zP_0 q]; decide
    · rw [zP_j (by omega) q2]; omega
  have e6 : zT x < 262144 := by rw [zT_j (by omega) h8]; omega
  exact ⟨e1, h2, e3, by omega, e5, e6, h5⟩
theorem pkN_lt {x : Gl} (h : okZ x) : pkN x < 2 ^ 62 := by
  obtain ⟨h1, h2, h3, h4, h5, h6, h7⟩ := h.b
  unfold pkN
  omega
theorem yT_tN {x : Gl} (h : okZ x) : yT x = nI (zT x) := by
  obtain ⟨h1, h2, h3, h4, h5, h6, j, h0, h7, h8⟩ := h
  rw [zT_j (by omega) h8, h8]
theorem yP_pN {x : Gl} (h : okZ x) : yP x = -100 ∧ zP x = 0 ∨ yP x = dI (zP x) ∧ 0 < zP x := by
  obtain ⟨h1, h2, h3, h4, h5, h6, j, h0, h7, h8⟩ := h
  rcases h6 with q | ⟨i, q1, q2⟩
  · exact Or.inl ⟨q, zP_0 q⟩
  · refine Or.inr ⟨?_, ?_⟩
    · rw [zP_j (by omega) q2, dI_succ, q2]
    · rw [zP_j (by omega) q2]; omega
theorem zT_pos {x : Gl} (h : okZ x) : 1 ≤ zT x := by
  obtain ⟨h1, h2, h3, h4, h5, h6, j, h0, h7, h8⟩ := h
  rw [zT_j (by omega) h8]; exact h0
theorem okZ_sN {x : Gl} (h : okZ x) {v : Nat} (hv : glZ v) : okZ (sN x v) := ⟨hv, h.2⟩
theorem okZ_sC {x : Gl} (h : okZ x) {v : Nat} (hv : v < 16) : okZ (sC x v) := ⟨h.1, hv, h.2.2⟩
theorem okZ_sP {x : Gl} (h : okZ x) {v : Nat} (hv : v + 1 < 2 ^ 18) : okZ (sP x (nI v)) := ⟨h.1, h.2.1, h.2.2.1, h.2.2.2.1, h.2.2.2.2.1, Or.inr ⟨v, hv, rfl⟩, h.2.2.2.2.2.2⟩
theorem okZ_sT {x : Gl} (h : okZ x) {v : Nat} (h1 : 1 ≤ v) (hv : v < 2 ^ 18) : okZ (sT x (nI v)) := ⟨h.1, h.2.1, h.2.2.1, h.2.2.2.1, h.2.2.2.2.1, h.2.2.2.2.2.1, v, h1, hv, rfl⟩
theorem pk_N {x : Gl} (h : okZ x) : (pk x >>> ((nI 0).toInt64 &&& 63)).toInt32 &&& nI 255 = nI (yN x) := by
  obtain ⟨h1, h2, h3, h4, h5, h6, h7⟩ := h.b
  exact zl_part (s := 0) (k := 8) (pkN_lt h) (by decide) (by decide) (by unfold pkN; omega)
theorem pk_C {x : Gl} (h : okZ x) : (pk x >>> ((nI 8).toInt64 &&& 63)).toInt32 &&& nI 15 = nI (yC x) := by
  obtain ⟨h1, h2, h3, h4, h5, h6, h7⟩ := h.b
  exact zl_part (s := 8) (k := 4) (pkN_lt h) (by decide) (by decide) (by unfold pkN; omega)
theorem pk_F {x : Gl} (h : okZ x) : (pk x >>> ((nI 12).toInt64 &&& 63)).toInt32 &&& nI 7 = nI (zF x) := by
  obtain ⟨h1, h2, h3, h4, h5, h6, h7⟩ := h.b
  exact zl_part (s := 12) (k := 3) (pkN_lt h) (by decide) (by decide) (by unfold pkN; omega)
theorem pk_E {x : Gl} (h : okZ x) : (pk x >>> ((nI 15).toInt64 &&& 63)).toInt32 &&& nI 3 = nI (yE x) := by
  obtain ⟨h1, h2, h3, h4, h5, h6, h7⟩ := h.b
  exact zl_part (s := 15) (k := 2) (pkN_lt h) (by decide) (by decide) (by unfold pkN; omega)
theorem pk_P {x : Gl} (h : okZ x) : (pk x >>> ((nI 17).toInt64 &&& 63)).toInt32 &&& nI 262143 = nI (zP x) := by
  obtain ⟨h1, h2, h3, h4, h5, h6, h7⟩ := h.b
  exact zl_part (s := 17) (k := 18) (pkN_lt h) (by decide) (by decide) (by unfold pkN; omega)
theorem pk_T {x : Gl} (h : okZ x) : (pk x >>> ((nI 35).toInt64 &&& 63)).toInt32 &&& nI 262143 = nI (zT x) := by
  obtain ⟨h1, h2, h3, h4, h5, h6, h7⟩ := h.b
  exact zl_part (s := 35) (k := 18) (pkN_lt h) (by decide) (by decide) (by unfold pkN; omega)
theorem pk_O {x : Gl} (h : okZ x) : (pk x >>> ((nI 53).toInt64 &&& 63)).toInt32 &&& nI 255 = nI (yO x) := by
  obtain ⟨h1, h2, h3, h4, h5, h6, h7⟩ := h.b
  exact zl_part (s := 53) (k := 8) (pkN_lt h) (by decide) (by decide) (by unfold pkN; omega)
theorem pk_low {x : Gl} (h : okZ x) : (pk x &&& lN 255).toInt32 = nI (yN x) := by
  obtain ⟨h1, h2, h3, h4, h5, h6, h7⟩ := h.b
  exact zl_low (k := 8) (by decide) (by unfold pkN; omega)
theorem pkw_N {x : Gl} (h : okZ x) {v : Nat} (hv : v < 256) : (pk x &&& (((nI 255).toInt64 <<< ((nI 0).toInt64 &&& 63)) ^^^ (-1))) ||| ((nI v).toInt64 <<< ((nI 0).toInt64 &&& 63)) = pk (sN x v) := by
  obtain ⟨h1, h2, h3, h4, h5, h6, h7⟩ := h.b
  have e : pkN (sN x v) = v + 256 * yC x + 4096 * zF x + 32768 * yE x + 131072 * zP x + 34359738368 * zT x + 9007199254740992 * yO x := rfl
  unfold pk
  exact z_withL (hi := (yC x + 16 * zF x + 128 * yE x + 512 * zP x + 134217728 * zT x + 35184372088832 * yO x)) (mid := yN x) (lo := 0) (k := 8) (by unfold pkN; omega) (by omega) (by omega) (by omega) (pkN_lt h) (by decide) (by decide) (by decide) (by rw [e]; omega)
theorem pkw_C {x : Gl} (h : okZ x) {v : Nat} (hv : v < 16) : (pk x &&& (((nI 15).toInt64 <<< ((nI 8).toInt64 &&& 63)) ^^^ (-1))) ||| ((nI v).toInt64 <<< ((nI 8).toInt64 &&& 63)) = pk (sC x v) := by
  obtain ⟨h1, h2, h3, h4, h5, h6, h7⟩ := h.b
  have e : pkN (sC x v) = yN x + 256 * v + 4096 * zF x + 32768 * yE x + 131072 * zP x + 34359738368 * zT x + 9007199254740992 * yO x := rfl
  unfold pk
  exact z_withL (hi := (zF x + 8 * yE x + 32 * zP x + 8388608 * zT x + 2199023255552 * yO x)) (mid := yC x) (lo := (yN x)) (k := 4) (by unfold pkN; omega) (by omega) (by omega) (by omega) (pkN_lt h) (by decide) (by decide) (by decide) (by rw [e]; omega)
theorem pkw_P {x : Gl} (h : okZ x) {v : Nat} (hv : v + 1 < 2 ^ 18) : (pk x &&& (((nI 262143).toInt64 <<< ((nI 17).toInt64 &&& 63)) ^^^ (-1))) ||| ((nI (v + 1)).toInt64 <<< ((nI 17).toInt64 &&& 63)) = pk (sP x (nI v)) := by
  obtain ⟨h1, h2, h3, h4, h5, h6, h7⟩ := h.b
  have e : pkN (sP x (nI v)) = yN x + 256 * yC x + 4096 * zF x + 32768 * yE x + 131072 * (v + 1) + 34359738368 * zT x + 9007199254740992 * yO x := by
    rw [← zP_j (x := sP x (nI v)) (j := v) (by omega) rfl]; rfl
  unfold pk
  exact z_withL (hi := (zT x + 262144 * yO x)) (mid := zP x) (lo := (yN x + 256 * yC x + 4096 * zF x + 32768 * yE x)) (k := 18) (by unfold pkN; omega) (by omega) (by omega) (by omega) (pkN_lt h) (by decide) (by decide) (by decide) (by rw [e]; omega)
theorem pkw_T {x : Gl} (h : okZ x) {v : Nat} (hv : v < 2 ^ 18) : (pk x &&& (((nI 262143).toInt64 <<< ((nI 35).toInt64 &&& 63)) ^^^ (-1))) ||| ((nI v).toInt64 <<< ((nI 35).toInt64 &&& 63)) = pk (sT x (nI v)) := by
  obtain ⟨h1, h2, h3, h4, h5, h6, h7⟩ := h.b
  have e : pkN (sT x (nI v)) = yN x + 256 * yC x + 4096 * zF x + 32768 * yE x + 131072 * zP x + 34359738368 * v + 9007199254740992 * yO x := by
    have e1 : zT (sT x (nI v)) = v := zT_j (x := sT x (nI v)) (j := v) (by omega) rfl
    show yN x + 256 * yC x + 4096 * zF x + 32768 * yE x + 131072 * zP x + 34359738368 * zT (sT x (nI v)) + 9007199254740992 * yO x = _
    rw [e1]
  unfold pk
  exact z_withL (hi := (yO x)) (mid := zT x) (lo := (yN x + 256 * yC x + 4096 * zF x + 32768 * yE x + 131072 * zP x)) (k := 18) (by unfold pkN; omega) (by omega) (by omega) (by omega) (pkN_lt h) (by decide) (by decide) (by decide) (by rw [e]; omega)
theorem okZ_new {its cl ex : Nat} {form : Int32} (h1 : glZ its) (h2 : cl < 16) (h3 : ex ≤ 3) (h4 : form = -100 ∨ ∃ j, j < 4 ∧ form = nI j) : okZ (newG its cl ex form) :=
  ⟨h1, h2, h4, h3, by show its < 256; unfold glZ at h1; omega, Or.inl rfl, 1, by decide, by decide, rfl⟩
theorem pk_new {its cl ex fo : Nat} {form : Int32} (hf : form = -100 ∧ fo = 4 ∨ fo < 4 ∧ form = nI fo) : lN its + lN 256 * lN cl + lN 4096 * lN fo + (lN ex <<< ((nI 15).toInt64 &&& 63)) + lN 34359738368 + (lN its <<< ((nI 53).toInt64 &&& 63)) = pk (newG its cl ex form) := by
  have e1 : zF (newG its cl ex form) = fo := by
    rcases hf with ⟨q1, q2⟩ | ⟨q1, q2⟩
    · rw [zF_4 (x := newG its cl ex form) q1, q2]
    · exact zF_j (x := newG its cl ex form) q1 q2
  have e2 : zP (newG its cl ex form) = 0 := zP_0 rfl
  have e3 : zT (newG its cl ex form) = 1 := zT_j (by decide) rfl
  have e4 : pkN (newG its cl ex form) = its + 256 * cl + 4096 * fo + 32768 * ex + 34359738368 + 9007199254740992 * its := by
    unfold pkN
    rw [e1, e2, e3]; rfl
  rw [wb_shl _ (by decide), wb_shl _ (by decide)]
  simp only [lN_mul, lN_add]
  unfold pk
  rw [e4]
  congr 1
  omega
