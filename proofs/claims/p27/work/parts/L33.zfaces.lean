/-! the law: fields of an int written anew -/
theorem z_with32 {hi mid lo a k w : Nat} (hlo : lo < 2 ^ a) (hmid : mid < 2 ^ k) (hw : w < 2 ^ k) (hn : 2 ^ a * (2 ^ k * hi + mid) + lo < 2 ^ 32) (ha : a < 32) :
    ((2 ^ a * (2 ^ k * hi + mid) + lo) &&& (((2 ^ k - 1) * 2 ^ a) ^^^ (2 ^ 32 - 1))) ||| (w * 2 ^ a) = 2 ^ a * (2 ^ k * hi + w) + lo := by
  have hr : ∀ i, 32 ≤ i → (2 ^ a * (2 ^ k * hi + mid) + lo).testBit i = false := fun i q => Nat.testBit_lt_two_pow (Nat.lt_of_lt_of_le hn (Nat.pow_le_pow_right (by decide) q))
  apply Nat.eq_of_testBit_eq
  intro i
  have hr := hr i
  rw [Nat.testBit_or, Nat.testBit_and, Nat.testBit_xor, Nat.testBit_two_pow_sub_one, Nat.testBit_mul_two_pow, Nat.testBit_mul_two_pow, Nat.testBit_two_pow_sub_one, Nat.testBit_two_pow_mul_add _ hlo, Nat.testBit_two_pow_mul_add _ hlo]
  rw [Nat.testBit_two_pow_mul_add _ hlo] at hr
  by_cases h1 : i < a
  · have h32 : i < 32 := by omega
    simp [h1, h32, Nat.not_le.mpr h1]
  · have h2 : a ≤ i := by omega
    rw [if_neg h1, if_neg h1]
    rw [if_neg h1] at hr
    rw [Nat.testBit_two_pow_mul_add _ hmid] at hr ⊢
    rw [Nat.testBit_two_pow_mul_add _ hw]
    by_cases h3 : i - a < k
    · have h5 : (mid.testBit (i - a) && (true ^^ decide (i < 32))) = false := by
        by_cases h32 : i < 32
        · simp [h32]
        · rw [if_pos h3] at hr; simp [h32, hr (by omega)]
      simp only [h2, h3, decide_true, Bool.true_and, if_true, h5, Bool.false_or]
    · have hwb : w.testBit (i - a) = false := Nat.testBit_lt_two_pow (Nat.lt_of_lt_of_le hw (Nat.pow_le_pow_right (by decide) (by omega)))
      rw [if_neg h3] at hr ⊢
      rw [if_neg h3, hwb]
      by_cases h32 : i < 32
      · simp [h3, h32]
      · simp [h3, h32, hr (by omega)]
theorem zs_shl (n : Nat) {k : Nat} (hk : k < 32) : nI n <<< (nI k &&& 31) = nI (n * 2 ^ k) := by
  apply Int32.toBitVec_inj.mp
  rw [Int32.toBitVec_shiftLeft]
  apply BitVec.eq_of_toNat_eq
  rw [BitVec.shiftLeft_eq', s_l k hk]
  show (BitVec.ofNat 32 n <<< k).toNat = (BitVec.ofNat 32 (n * 2 ^ k)).toNat
  rw [BitVec.toNat_shiftLeft, BitVec.toNat_ofNat, BitVec.toNat_ofNat, Nat.shiftLeft_eq, Nat.mul_mod, Nat.mod_mod, ← Nat.mul_mod]
theorem m1_nI : (-1 : Int32) = nI (2 ^ 32 - 1) := by decide +kernel
theorem zi_with {n hi mid lo a k w p : Nat} (he : n = 2 ^ a * (2 ^ k * hi + mid) + lo) (hlo : lo < 2 ^ a) (hmid : mid < 2 ^ k) (hw : w < 2 ^ k) (hn : n < 2 ^ 31) (ha : a < 32) (hp : p = 2 ^ k - 1) {r : Nat} (hr : 2 ^ a * (2 ^ k * hi + w) + lo = r) :
    (nI n &&& ((nI p <<< (nI a &&& 31)) ^^^ (-1))) ||| (nI w <<< (nI a &&& 31)) = nI r := by
  rw [zs_shl _ ha, zs_shl _ ha, m1_nI, nx_xor, nx_and, nx_or, he, hp, z_with32 hlo hmid hw (by omega) ha, hr]
theorem pEn_u {c : Cf} {A f v t v' : Nat} (hA : A = 137 ∨ A = 138 ∨ A = 139) (hv : v < 256) (hv' : v' < 256) (h : ¬ v' = v) : pEn (uN c A (256 * f + v) t) v' = pEn c v' := by
  unfold pEn pEf
  rw [cN_u, cN_u, cN_u, cN_u, cN_u, cN_u, if_neg (by omega), if_neg (by omega), if_neg (by omega), if_neg (by omega), if_neg (by omega), if_neg (by omega)]
theorem pE_s0 {c : Cf} (h : WFc c) {f v t : Nat} (hf : f < 2) (ht : t < 8) : (nI (pEn c v) &&& ((nI 7 <<< (nI (13 * f) &&& 31)) ^^^ (-1))) ||| (nI t <<< (nI (13 * f) &&& 31)) = nI (pEn (uN c 137 (256 * f + v) t) v) := by
  have h0 := pEf_b h 0 v
  have h1 := pEf_b h 1 v
  rcases (show f = 0 ∨ f = 1 by omega) with rfl | rfl
  · refine zi_with (k := 3) (a := 13 * 0) (hi := cN c 138 (256 * 0 + v) + 8 * cN c 139 (256 * 0 + v) + 1024 * pEf c 1 v) (mid := cN c 137 (256 * 0 + v)) (lo := 0) ?_ (by decide) (by omega) (by omega) (by unfold pEn pEf; omega) (by decide) (by decide) ?_
    · unfold pEn pEf; omega
    · unfold pEn pEf
      rw [cN_u, cN_u, cN_u, cN_u, cN_u, cN_u, if_pos ⟨rfl, rfl⟩, if_neg (by omega), if_neg (by omega), if_neg (by omega), if_neg (by omega), if_neg (by omega)]
      omega
  · refine zi_with (k := 3) (a := 13 * 1) (hi := cN c 138 (256 * 1 + v) + 8 * cN c 139 (256 * 1 + v)) (mid := cN c 137 (256 * 1 + v)) (lo := pEf c 0 v) ?_ (by unfold pEf; omega) (by omega) (by omega) (by unfold pEn pEf; omega) (by decide) (by decide) ?_
    · unfold pEn pEf; omega
    · unfold pEn pEf
      rw [cN_u, cN_u, cN_u, cN_u, cN_u, cN_u, if_neg (by omega), if_neg (by omega), if_neg (by omega), if_pos ⟨rfl, rfl⟩, if_neg (by omega), if_neg (by omega)]
      omega
theorem pE_s3 {c : Cf} (h : WFc c) {f v t : Nat} (hf : f < 2) (ht : t < 8) : (nI (pEn c v) &&& ((nI 7 <<< (nI (13 * f + 3) &&& 31)) ^^^ (-1))) ||| (nI t <<< (nI (13 * f + 3) &&& 31)) = nI (pEn (uN c 138 (256 * f + v) t) v) := by
  have h0 := pEf_b h 0 v
  have h1 := pEf_b h 1 v
  rcases (show f = 0 ∨ f = 1 by omega) with rfl | rfl
  · refine zi_with (k := 3) (a := 13 * 0 + 3) (hi := cN c 139 (256 * 0 + v) + 128 * pEf c 1 v) (mid := cN c 138 (256 * 0 + v)) (lo := cN c 137 (256 * 0 + v)) ?_ (by omega) (by omega) (by omega) (by unfold pEn pEf; omega) (by decide) (by decide) ?_
    · unfold pEn pEf; omega
    · unfold pEn pEf
      rw [cN_u, cN_u, cN_u, cN_u, cN_u, cN_u, if_neg (by omega), if_pos ⟨rfl, rfl⟩, if_neg (by omega), if_neg (by omega), if_neg (by omega), if_neg (by omega)]
      omega
  · refine zi_with (k := 3) (a := 13 * 1 + 3) (hi := cN c 139 (256 * 1 + v)) (mid := cN c 138 (256 * 1 + v)) (lo := pEf c 0 v + 8192 * cN c 137 (256 * 1 + v)) ?_ (by unfold pEf; omega) (by omega) (by omega) (by unfold pEn pEf; omega) (by decide) (by decide) ?_
    · unfold pEn pEf; omega
    · unfold pEn pEf
      rw [cN_u, cN_u, cN_u, cN_u, cN_u, cN_u, if_neg (by omega), if_neg (by omega), if_neg (by omega), if_neg (by omega), if_pos ⟨rfl, rfl⟩, if_neg (by omega)]
      omega
theorem pE_s6 {c : Cf} (h : WFc c) {f v t : Nat} (hf : f < 2) (ht : t < 128) : (nI (pEn c v) &&& ((nI 127 <<< (nI (13 * f + 6) &&& 31)) ^^^ (-1))) ||| (nI t <<< (nI (13 * f + 6) &&& 31)) = nI (pEn (uN c 139 (256 * f + v) t) v) := by
  have h0 := pEf_b h 0 v
  have h1 := pEf_b h 1 v
  rcases (show f = 0 ∨ f = 1 by omega) with rfl | rfl
  · refine zi_with (k := 7) (a := 13 * 0 + 6) (hi := pEf c 1 v) (mid := cN c 139 (256 * 0 + v)) (lo := cN c 137 (256 * 0 + v) + 8 * cN c 138 (256 * 0 + v)) ?_ (by omega) (by omega) (by omega) (by unfold pEn pEf; omega) (by decide) (by decide) ?_
    · unfold pEn pEf; omega
    · unfold pEn pEf
      rw [cN_u, cN_u, cN_u, cN_u, cN_u, cN_u, if_neg (by omega), if_neg (by omega), if_pos ⟨rfl, rfl⟩, if_neg (by omega), if_neg (by omega), if_neg (by omega)]
      omega
  · refine zi_with (k := 7) (a := 13 * 1 + 6) (hi := 0) (mid := cN c 139 (256 * 1 + v)) (lo := pEf c 0 v + 8192 * (cN c 137 (256 * 1 + v) + 8 * cN c 138 (256 * 1 + v))) ?_ (by unfold pEf; omega) (by omega) (by omega) (by unfold pEn pEf; omega) (by decide) (by decide) ?_
    · unfold pEn pEf; omega
    · unfold pEn pEf
      rw [cN_u, cN_u, cN_u, cN_u, cN_u, cN_u, if_neg (by omega), if_neg (by omega), if_neg (by omega), if_neg (by omega), if_neg (by omega), if_pos ⟨rfl, rfl⟩]
      omega
theorem zS_face {c : Cf} {M : gM} (h : zS c M) {A f v t : Nat} (hA : A = 137 ∨ A = 138 ∨ A = 139) (hv : glZ v) (hf : f < 2) (hw : WFc (uN c A (256 * f + v) t)) : zS (uN c A (256 * f + v) t) (sI M 131 (ofN v) (nI (pEn (uN c A (256 * f + v) t) v))) := by
  have hb : ∀ a i, ¬ (a = 137 ∨ a = 138 ∨ a = 139) → cN (uN c A (256 * f + v) t) a i = cN c a i := fun a i q => by rw [cN_u, if_neg (by omega)]
  have hru : ∀ l k w, rul (uN c A (256 * f + v) t) l k w = rul c l k w := fun _ _ _ => rfl
  have hv2 := glZ_256 hv
  have htl : tl (uN c A (256 * f + v) t) = tl c := hb _ _ (by decide)
  refine ⟨h.lay.of (Nat.le_refl _) (fun _ _ => rfl) (fun _ _ => rfl), hw, ⟨fun f hf => ?_, fun i => ?_, ?_, fun k hk => ?_, fun i k hk => ?_, fun f' v' hf' hv' hg => ?_⟩, fun k hk => ?_, fun f' i hf' hi => ?_, fun f' i k hf' hi hk => ?_, fun v' hv' => ?_, ?_, ?_, ?_, fun f' hf' => ?_⟩
  · rw [hb _ _ (by decide)]; exact h.ct hf
  · rw [hb _ _ (by decide)]; exact h.r4 _
  · rw [htl]; exact h.t10
  · rw [hb _ _ (by decide)]; rw [htl] at hk; exact h.sg hk
  · rw [hb _ _ (by decide)] at hk
    have := h.wz.2.2.2.2.1 i k hk
    refine ⟨fun w hw => by rw [hru]; exact this.1 w hw, ?_⟩
    rw [hru, hru, hru, hb _ _ (by decide)]; exact this.2
  · have hne : ¬ v' = v := fun q => hg (q ▸ hv)
    rw [cN_u, if_neg (by omega)]; exact h.wz.2.2.2.2.2 f' v' hf' hv' hg
  · rw [mI_ne (by decide)]
    rw [htl] at hk
    rw [h.tx hk]
    unfold tEn
    rw [hb _ _ (by decide), hb _ _ (by decide)]
  · rw [hb _ _ (by decide)] at hi
    rw [mI_ne (by decide), h.me hf' hi]
    unfold mEn
    rw [hb _ _ (by decide), hb _ _ (by decide), hb _ _ (by decide), hb _ _ (by decide), hb _ _ (by decide), hb _ _ (by decide)]
  · rw [hb _ _ (by decide)] at hi hk
    show mL M 130 _ = _
    rw [h.re hf' hi hk]
    rfl
  · by_cases e : v' = v
    · subst e; rw [mI_eq]
    · have hv'2 := glZ_256 hv'
      have hof : ¬ ofN v' = ofN v := by unfold ofN glZ at *; split <;> split <;> omega
      rw [mI_nj hof, h.pe hv', pEn_u hA hv2 hv'2 e]
  · rw [mI_ne (by decide)]; exact h.b0.trans (congrArg nI (hb 128 1 (by decide)).symm)
  · rw [mI_ne (by decide), htl]; exact h.b1
  · rw [mI_ne (by decide), hb _ _ (by decide)]; exact h.b2
  · rw [mI_ne (by decide), hb _ _ (by decide)]; exact h.b3 hf'
theorem wfI_u {c : Cf} {A j t : Nat} (hI : wfI c) (h : ¬ A = 130) (h2 : ¬ A = 135) : wfI (uN c A j t) := fun l k hk => by
  rw [cN_u, if_neg (by omega)] at hk
  have := hI l k hk
  rw [cN_u, if_neg (by omega)]
  exact this
theorem wfW_u {c : Cf} {A j t : Nat} (hW : wfW c) (h : ¬ A = 130) (h2 : ¬ A = 135) (h3 : A = 139 → t ≤ 29) : wfW (uN c A j t) := by
  refine ⟨fun i => ?_, fun l k hk h6 => ?_⟩
  · rw [cN_u]
    by_cases e : 139 = A ∧ i = j
    · rw [if_pos e]; exact h3 e.1.symm
    · rw [if_neg e]; exact hW.1 i
  · rw [cN_u, if_neg (by omega)] at hk h6
    exact hW.2 l k hk h6
theorem zS_use {c : Cf} {M : gM} (h : zS c M) {t : Nat} (hw : WFc (uN c 128 1 t)) : zS (uN c 128 1 t) (sI M 132 0 (nI t)) := by
  have hb : ∀ a i, ¬ a = 128 → cN (uN c 128 1 t) a i = cN c a i := fun a i q => by rw [cN_u, if_neg (by omega)]
  have htl : tl (uN c 128 1 t) = tl c := by show cN (uN c 128 1 t) 128 14 = _; rw [cN_u, if_neg (by omega)]
  refine ⟨h.lay.of (Nat.le_refl _) (fun _ _ => rfl) (fun _ _ => rfl), hw, ⟨fun f hf => ?_, fun i => ?_, ?_, fun k hk => ?_, fun i k hk => ?_, fun f' v' hf' hv' hg => ?_⟩, fun k hk => ?_, fun f' i hf' hi => ?_, fun f' i k hf' hi hk => ?_, fun v' hv' => ?_, ?_, ?_, ?_, fun f' hf' => ?_⟩
  · rw [hb _ _ (by decide)]; exact h.ct hf
  · rw [hb _ _ (by decide)]; exact h.r4 _
  · rw [htl]; exact h.t10
  · rw [hb _ _ (by decide)]; rw [htl] at hk; exact h.sg hk
  · rw [hb _ _ (by decide)] at hk
    have := h.wz.2.2.2.2.1 i k hk
    refine ⟨fun w hw => this.1 w hw, ?_⟩
    rw [hb _ _ (by decide)]; exact this.2
  · rw [hb _ _ (by decide)]; exact h.wz.2.2.2.2.2 f' v' hf' hv' hg
  · rw [mI_ne (by decide)]
    rw [htl] at hk
    rw [h.tx hk]
    unfold tEn
    rw [hb _ _ (by decide), hb _ _ (by decide)]
  · rw [hb _ _ (by decide)] at hi
    rw [mI_ne (by decide), h.me hf' hi]
    unfold mEn
    rw [hb _ _ (by decide), hb _ _ (by decide), hb _ _ (by decide), hb _ _ (by decide), hb _ _ (by decide), hb _ _ (by decide)]
  · rw [hb _ _ (by decide)] at hi hk
    show mL M 130 _ = _
    rw [h.re hf' hi hk]
    rfl
  · rw [mI_ne (by decide), h.pe hv']
    unfold pEn pEf
    rw [hb _ _ (by decide), hb _ _ (by decide), hb _ _ (by decide), hb _ _ (by decide), hb _ _ (by decide), hb _ _ (by decide)]
  · rw [mI_eq]
    show nI t = nI (cN (uN c 128 1 t) 128 1)
    rw [cN_u, if_pos ⟨rfl, rfl⟩]
  · rw [mI_nj (by decide), htl]; exact h.b1
  · rw [mI_nj (by decide), cN_u, if_neg (by omega)]; exact h.b2
  · rw [mI_nj (by omega), hb _ _ (by decide)]; exact h.b3 hf'
def gOf (i : Nat) : Nat := if i < 45 then i else i + 19
theorem gOf_ok {i : Nat} (h : i < 64) : glZ (gOf i) ∧ ofN (gOf i) = i := by
  unfold gOf
  by_cases e : i < 45
  · rw [if_pos e]; exact ⟨Or.inl e, if_pos e⟩
  · rw [if_neg e]; exact ⟨Or.inr (by omega), by unfold ofN; rw [if_neg (by omega)]; omega⟩
set_option maxRecDepth 100000 in
set_option maxHeartbeats 4000000 in
theorem s1_L_faces {g : gG} {M : gM} {Q : Option Value ⊕ String → gM → Prop} (hst : (gl1 g).stackTraces = false) {c : Cf} {P π : Nat → Nat} (hs : lwS c P π M) {u v : Int32} {its gl : Nat} (hgl : glZ gl) (hof : ofN gl = its) {t : Nat} {q : Int32} (hq : q = -100 ∧ t = 0 ∨ ∃ k, k < 4 ∧ q = nI k ∧ t = k + 1) (K : ∀ c' π' M', lwS c' P π' M' → (∀ j, cN c' 140 j = cN c 140 j) → Q (.inl (some (.int (nI 1)))) M') : ∀ v11, E g 9 5 30 mL_faces 122 [.ref 1, .int (nI 1), .int u, .int v, .ref 130, .ref 132, .ref 133, .int (nI its), .int (nI gl), .int (nI (13 * fc0 c)), .int q, v11] [] M Q := by
  intro v11
  have hS := hs.1
  have h := hs.2.1
  have hI := hs.2.2.1
  have hW := hs.2.2.2.1
  have h10 := hs.2.2.2.2
  have hL := h.lay
  have hf : fc0 c < 2 := h.wf.1.1
  have hct := h.ct hf
  have hi64 : its < 64 := by rw [← hof]; exact ofN_lt hgl
  have g256 := glZ_256 hgl
  have hp : mI M 131 its = nI (pEn c gl) := by rw [← hof]; exact h.pe hgl
  have hb := pEf_b h.wf (fc0 c) gl
  have ht4 : t ≤ 4 := by rcases hq with ⟨-, z⟩ | ⟨k, z1, -, z2⟩ <;> omega
  have hcq : q = -100 ∨ iClass q := by
    rcases hq with ⟨z, -⟩ | ⟨k, z1, z2, -⟩
    · exact Or.inl z
    · exact Or.inr (by rw [z2]; exact in_n (by omega) (by decide))
  have hmk : mkE q = t := by
    unfold mkE
    rcases hq with ⟨z1, z2⟩ | ⟨k, z1, z2, z3⟩
    · rw [cI_t z1, z2]
    · rw [z2, cI_f (nI_ne100 (by omega)), gN_nI (by omega), z3]
  have hw' : WFc (uN c 137 (256 * fc0 c + gl) t) := h.wf.set (by decide) (by omega)
  have hz1 : zS (uN c 137 (256 * fc0 c + gl) t) (sI M 131 its (nI (pEn (uN c 137 (256 * fc0 c + gl) t) gl))) := by
    rw [← hof]; exact zS_face h (by decide) hgl hf hw'
  have hS1 : kS c P π (sI M 131 its (nI (pEn (uN c 137 (256 * fc0 c + gl) t) gl))) := hS.law hS.C (Nat.le_refl _) (fun _ _ => rfl) (fun a j q q2 => mI_ne (by omega)) (fun _ _ _ => rfl)
  have h101 : mI (sI M 131 its (nI (pEn (uN c 137 (256 * fc0 c + gl) t) gl))) 132 10 = nI 0 := (mI_ne (by decide)).trans h10
  have key : ∀ MM, MM = (sI M 131 its (nI (pEn (uN c 137 (256 * fc0 c + gl) t) gl))) → E g 9 5 30 mL_faces 174 [.ref 1, .int (nI 1), .int u, .int v, .ref 130, .ref 132, .ref 133, .int (nI its), .int (nI gl), .int (nI (13 * fc0 c)), .int q, .int (dI (cN c 137 (256 * fc0 c + gl)))] [] MM Q := by
    intro MM eM
    rw [← eM] at hz1 hS1 h101
    have hL := hz1.lay
    refine E_aload_n dL_faces_174 rfl ?_
    refine E_sipush (v := nI 256) dL_faces_175 (by decide) ?_
    refine E_iconst (v := nI 4) dL_faces_178 (by decide) ?_
    refine E_callT3 (fr' := 8) (k1 := 1) (n1 := 6) (k2 := 4) (n2 := 24) dL_faces_179 kO_L_setMark kL_L_300 (by exact Nat.le_of_ble_eq_true rfl) (by decide) (by exact Nat.le_of_ble_eq_true rfl) (Or.inr (gW_at 1303 (by decide +kernel) (by decide +kernel))) rfl ?_
    refine w_setMark hst hS1 (fun j hj e _ _ _ _ => absurd ((nI_eq (by omega) (by omega)).mp e) (by omega)) (fun z => ?_) (fun z _ => absurd z (by decide))
    refine gKv ?_
    refine E_sipush (v := -7100) dL_faces_182 (by decide) ?_
    refine E_icmp_ne_r (tgt := 241) dL_faces_185 (by decide) (fun c0 => absurd c0 (by decide)) (fun _ => ?_)
    refine E_aload_n dL_faces_188 rfl ?_
    refine E_iload dL_faces_189 rfl ?_
    refine E_iconst (v := nI 4) dL_faces_191 (by decide) ?_
    refine E_callT3 (fr' := 8) (k1 := 1) (n1 := 6) (k2 := 3) (n2 := 18) dL_faces_192 kO_L_setMark kL_L_300 (by exact Nat.le_of_ble_eq_true rfl) (by decide) (by exact Nat.le_of_ble_eq_true rfl) (Or.inr (gW_at 1303 (by decide +kernel) (by decide +kernel))) rfl ?_
    refine w_setMark hst hS1 (fun j hj e z _ _ _ => absurd z (by decide)) (fun z => absurd (gly_n (by omega)) z) (fun z z2 => ?_)
    refine gKv ?_
    refine E_sipush (v := -7200) dL_faces_195 (by decide) ?_
    refine E_icmp_ne_r (tgt := 241) dL_faces_198 (by decide) (fun c0 => absurd c0 (by decide)) (fun _ => ?_)
    refine E_aload_n dL_faces_201 rfl ?_
    refine E_iload dL_faces_202 rfl ?_
    refine E_iconst (v := -1) dL_faces_204 (by decide) ?_
    refine E_callT3 (fr' := 8) (k1 := 1) (n1 := 6) (k2 := 2) (n2 := 12) dL_faces_205 kO_L_setMark kL_L_300 (by exact Nat.le_of_ble_eq_true rfl) (by decide) (by exact Nat.le_of_ble_eq_true rfl) (Or.inr (gW_at 1303 (by decide +kernel) (by decide +kernel))) rfl ?_
    refine w_setMark hst hS1 (fun j hj e z _ _ _ => absurd z (by decide)) (fun z => absurd (gly_n (by omega)) z) (fun z z2 => ?_)
    refine gKv ?_
    refine E_sipush (v := -7200) dL_faces_208 (by decide) ?_
    refine E_icmp_ne_r (tgt := 241) dL_faces_211 (by decide) (fun c0 => absurd c0 (by decide)) (fun _ => ?_)
    refine E_aload_n dL_faces_214 rfl ?_
    refine E_iload dL_faces_215 rfl ?_
    refine E_iload dL_faces_217 rfl ?_
    refine E_callT3 (fr' := 8) (k1 := 1) (n1 := 6) (k2 := 1) (n2 := 6) dL_faces_219 kO_L_setMark kL_L_300 (by exact Nat.le_of_ble_eq_true rfl) (by decide) (by exact Nat.le_of_ble_eq_true rfl) (Or.inr (gW_at 1303 (by decide +kernel) (by decide +kernel))) rfl ?_
    refine w_setMark hst hS1 (fun j hj e z M2 hS2 hkd => ?_) (fun z => absurd (gly_n (by omega)) z) (fun z z2 => absurd hcq z2)
    obtain rfl : gl = j := (nI_eq (by omega) (by omega)).mp e
    have hL2 := hS2.1.lay
    have hz2 := hz1.kd hkd hL2
    have h102 := ((hkd.2.2 132 10 (by decide) (by decide)).1).trans h101
    rw [hmk] at hS2
    refine gKv ?_
    refine E_iload dL_faces_222 rfl ?_
    refine E_if_ge_d (tgt := 232) dL_faces_224 (by decide) (by omega) (fun c_224 => ?_) (fun c_224 => ?_)
    · refine E_iload dL_faces_232 rfl ?_
      refine E_icmp_ne_r (tgt := 241) dL_faces_234 (by decide) (fun c_234 => ?_) (fun c_234 => ?_)
      · exfalso
        first
          | exact c_234 (by rw [show cN c 137 (256 * fc0 c + gl) = 0 by omega]; exact mkD_0)
          | exact c_234 (cI_f (by omega))
      · refine E_iconst (v := nI 1) dL_faces_237 (by decide) ?_
        refine E_goto (tgt := 242) dL_faces_238 (by decide) ?_
        refine E_iret dL_faces_242 (Or.inr ⟨rfl, by decide⟩) ?_
        exact K _ _ _ ⟨hS2, hz2, wfI_u hI (by decide) (by decide), wfW_u hW (by decide) (by decide) (fun z => by omega), h102⟩ (fun j => by rw [cN_u, if_neg (by omega)])
    · refine E_bipush (v := -100) dL_faces_227 (by decide) ?_
      refine E_goto (tgt := 234) dL_faces_229 (by decide) ?_
      refine E_icmp_ne_r (tgt := 241) dL_faces_234 (by decide) (fun c_234 => ?_) (fun c_234 => ?_)
      · exfalso
        first
          | exact c_234 (by rw [show cN c 137 (256 * fc0 c + gl) = 0 by omega]; exact mkD_0)
          | exact c_234 (cI_f (by omega))
      · refine E_iconst (v := nI 1) dL_faces_237 (by decide) ?_
        refine E_goto (tgt := 242) dL_faces_238 (by decide) ?_
        refine E_iret dL_faces_242 (Or.inr ⟨rfl, by decide⟩) ?_
        exact K _ _ _ ⟨hS2, hz2, wfI_u hI (by decide) (by decide), wfW_u hW (by decide) (by decide) (fun z => by omega), h102⟩ (fun j => by rw [cN_u, if_neg (by omega)])
  have go : ∀ x, x = nI t → E g 9 5 30 mL_faces 169 [.ref 1, .int (nI 1), .int u, .int v, .ref 130, .ref 132, .ref 133, .int (nI its), .int (nI gl), .int (nI (13 * fc0 c)), .int q, .int (dI (cN c 137 (256 * fc0 c + gl)))] [.int x, .int (nI (pEn c gl) &&& ((nI 7 <<< (nI (13 * fc0 c) &&& 31)) ^^^ (-1))), .int (nI its), .ref 132] M Q := by
    intro x hx
    rw [hx]
    refine E_iload dL_faces_169 rfl ?_
    refine E_ishl dL_faces_171 ?_
    refine E_ior dL_faces_172 ?_
    rw [pE_s0 h.wf hf (by omega)]
    refine E_iast dL_faces_173 (l_131 hL) (k_131 hL) rfl (by omega) (by decide) ?_
    exact key _ rfl
  refine E_aload dL_faces_122 rfl ?_
  refine E_iload dL_faces_124 rfl ?_
  refine E_ialdL (v := nI (pEn c gl)) dL_faces_126 (l_131 hL) (k_131 hL) rfl (by omega) (by decide) hp ?_
  refine E_iload dL_faces_127 rfl ?_
  refine E_ishr dL_faces_129 ?_
  refine E_bipush (v := nI 7) dL_faces_130 (by decide) ?_
  refine E_iand dL_faces_132 ?_
  rw [pE_0 h.wf hf]
  refine E_iconst (v := nI 1) dL_faces_133 (by decide) ?_
  refine E_isub_d dL_faces_134 ?_
  refine E_istore dL_faces_135 (Nat.le_of_ble_eq_true rfl) (by decide) rfl ?_
  refine E_aload dL_faces_137 rfl ?_
  refine E_iload dL_faces_139 rfl ?_
  refine E_aload dL_faces_141 rfl ?_
  refine E_iload dL_faces_143 rfl ?_
  refine E_ialdL (v := nI (pEn c gl)) dL_faces_145 (l_131 hL) (k_131 hL) rfl (by omega) (by decide) hp ?_
  refine E_bipush (v := nI 7) dL_faces_146 (by decide) ?_
  refine E_iload dL_faces_148 rfl ?_
  refine E_ishl dL_faces_150 ?_
  refine E_iconst (v := -1) dL_faces_151 (by decide) ?_
  refine E_ixor dL_faces_152 ?_
  refine E_iand dL_faces_153 ?_
  refine E_iload dL_faces_154 rfl ?_
  refine E_bipush (v := -100) dL_faces_156 (by decide) ?_
  refine E_icmp_ne_r (tgt := 165) dL_faces_158 (by decide) (fun c_158 => ?_) (fun c_158 => ?_)
  · refine E_iload dL_faces_165 rfl ?_
    refine E_iconst (v := nI 1) dL_faces_167 (by decide) ?_
    refine E_iadd dL_faces_168 ?_
    refine go _ ?_
    rcases hq with ⟨z1, z2⟩ | ⟨k, z1, z2, z3⟩
    · first
      | exact absurd z1 c_158
      | (rw [z2])
    · first
      | (rw [z2, z3]; exact nI_add _ _)
      | (exact absurd (z2.symm.trans c_158) (nI_ne100 (by omega)))
  · refine E_iconst (v := nI 0) dL_faces_161 (by decide) ?_
    refine E_goto (tgt := 169) dL_faces_162 (by decide) ?_
    refine go _ ?_
    rcases hq with ⟨z1, z2⟩ | ⟨k, z1, z2, z3⟩
    · first
      | exact absurd z1 c_158
      | (rw [z2])
    · first
      | (rw [z2, z3]; exact nI_add _ _)
      | (exact absurd (z2.symm.trans c_158) (nI_ne100 (by omega)))
set_option maxRecDepth 100000 in
set_option maxHeartbeats 4000000 in
theorem s2_L_faces {g : gG} {M : gM} {Q : Option Value ⊕ String → gM → Prop} (hst : (gl1 g).stackTraces = false) {c : Cf} {P π : Nat → Nat} (hs : lwS c P π M) {u v : Int32} {its gl : Nat} (hgl : glZ gl) (hof : ofN gl = its) {t : Nat} (ht : t < 3) (K : ∀ c' π' M', lwS c' P π' M' → (∀ j, cN c' 140 j = cN c 140 j) → Q (.inl (some (.int (nI 1)))) M') : ∀ v11, E g 9 5 30 mL_faces 255 [.ref 1, .int (nI 2), .int u, .int v, .ref 130, .ref 132, .ref 133, .int (nI its), .int (nI gl), .int (nI (13 * fc0 c)), .int (nI t), v11] [] M Q := by
  intro v11
  have hS := hs.1
  have h := hs.2.1
  have hI := hs.2.2.1
  have hW := hs.2.2.2.1
  have h10 := hs.2.2.2.2
  have hL := h.lay
  have hf : fc0 c < 2 := h.wf.1.1
  have hct := h.ct hf
  have hi64 : its < 64 := by rw [← hof]; exact ofN_lt hgl
  have g256 := glZ_256 hgl
  have hp : mI M 131 its = nI (pEn c gl) := by rw [← hof]; exact h.pe hgl
  have hb := pEf_b h.wf (fc0 c) gl
  have hw' : WFc (uN c 138 (256 * fc0 c + gl) t) := h.wf.set (by decide) (by omega)
  have hz1 : zS (uN c 138 (256 * fc0 c + gl) t) (sI M 131 its (nI (pEn (uN c 138 (256 * fc0 c + gl) t) gl))) := by
    rw [← hof]; exact zS_face h (by decide) hgl hf hw'
  have hS1 : kS c P π (sI M 131 its (nI (pEn (uN c 138 (256 * fc0 c + gl) t) gl))) := hS.law hS.C (Nat.le_refl _) (fun _ _ => rfl) (fun a j q q2 => mI_ne (by omega)) (fun _ _ _ => rfl)
  have h101 : mI (sI M 131 its (nI (pEn (uN c 138 (256 * fc0 c + gl) t) gl))) 132 10 = nI 0 := (mI_ne (by decide)).trans h10
  have key : ∀ MM, MM = (sI M 131 its (nI (pEn (uN c 138 (256 * fc0 c + gl) t) gl))) → E g 9 5 30 mL_faces 298 [.ref 1, .int (nI 2), .int u, .int v, .ref 130, .ref 132, .ref 133, .int (nI its), .int (nI gl), .int (nI (13 * fc0 c)), .int (nI t), .int (nI (cN c 138 (256 * fc0 c + gl)))] [] MM Q := by
    intro MM eM
    rw [← eM] at hz1 hS1 h101
    have hL := hz1.lay
    refine E_aload_n dL_faces_298 rfl ?_
    refine E_iconst (v := -1) dL_faces_299 (by decide) ?_
    refine E_iconst (v := nI 0) dL_faces_300 (by decide) ?_
    refine E_callT3 (fr' := 8) (k1 := 1) (n1 := 6) (k2 := 4) (n2 := 24) dL_faces_301 kO_L_setGroup kL_L_302 (by exact Nat.le_of_ble_eq_true rfl) (by decide) (by exact Nat.le_of_ble_eq_true rfl) (Or.inr (gW_at 1311 (by decide +kernel) (by decide +kernel))) rfl ?_
    refine w_setGroup hst hS1 (fun j hj e _ _ _ _ => absurd e.symm (m1_ne (by omega))) (fun z => ?_)
    refine gKv ?_
    refine E_sipush (v := -7100) dL_faces_304 (by decide) ?_
    refine E_icmp_ne_r (tgt := 341) dL_faces_307 (by decide) (fun c0 => absurd c0 (by decide)) (fun _ => ?_)
    refine E_aload_n dL_faces_310 rfl ?_
    refine E_iload dL_faces_311 rfl ?_
    refine E_bipush (v := nI 6) dL_faces_313 (by decide) ?_
    refine E_callT3 (fr' := 8) (k1 := 1) (n1 := 6) (k2 := 3) (n2 := 18) dL_faces_315 kO_L_setGroup kL_L_302 (by exact Nat.le_of_ble_eq_true rfl) (by decide) (by exact Nat.le_of_ble_eq_true rfl) (Or.inr (gW_at 1311 (by decide +kernel) (by decide +kernel))) rfl ?_
    refine w_setGroup hst hS1 (fun j hj e z _ _ _ => absurd z (by decide)) (fun z => ?_)
    refine gKv ?_
    refine E_sipush (v := -7100) dL_faces_318 (by decide) ?_
    refine E_icmp_ne_r (tgt := 341) dL_faces_321 (by decide) (fun c0 => absurd c0 (by decide)) (fun _ => ?_)
    refine E_aload_n dL_faces_324 rfl ?_
    refine E_iload dL_faces_325 rfl ?_
    refine E_iload dL_faces_327 rfl ?_
    refine E_callT3 (fr' := 8) (k1 := 1) (n1 := 6) (k2 := 2) (n2 := 12) dL_faces_329 kO_L_setGroup kL_L_302 (by exact Nat.le_of_ble_eq_true rfl) (by decide) (by exact Nat.le_of_ble_eq_true rfl) (Or.inr (gW_at 1311 (by decide +kernel) (by decide +kernel))) rfl ?_
    refine w_setGroup hst hS1 (fun j hj e z M2 hS2 hkd => ?_) (fun z => absurd ⟨gly_n (by omega), in_n (by omega) (by decide)⟩ z)
    obtain rfl : gl = j := (nI_eq (by omega) (by omega)).mp e
    have hL2 := hS2.1.lay
    have hz2 := hz1.kd hkd hL2
    have h102 := ((hkd.2.2 132 10 (by decide) (by decide)).1).trans h101
    rw [gN_nI (by omega)] at hS2
    refine gKv ?_
    refine E_iload dL_faces_332 rfl ?_
    refine E_icmp_ne_n (tgt := 341) dL_faces_334 (by decide) (by omega) (by omega) (fun c_334 => ?_) (fun c_334 => ?_)
    · exact absurd rfl c_334
    · refine E_iconst (v := nI 1) dL_faces_337 (by decide) ?_
      refine E_goto (tgt := 342) dL_faces_338 (by decide) ?_
      refine E_iret dL_faces_342 (Or.inr ⟨rfl, by decide⟩) ?_
      exact K _ _ _ ⟨hS2, hz2, wfI_u hI (by decide) (by decide), wfW_u hW (by decide) (by decide) (fun z => by omega), h102⟩ (fun j => by rw [cN_u, if_neg (by omega)])
  refine E_aload dL_faces_255 rfl ?_
  refine E_iload dL_faces_257 rfl ?_
  refine E_ialdL (v := nI (pEn c gl)) dL_faces_259 (l_131 hL) (k_131 hL) rfl (by omega) (by decide) hp ?_
  refine E_iload dL_faces_260 rfl ?_
  refine E_iconst (v := nI 3) dL_faces_262 (by decide) ?_
  refine E_iadd_n dL_faces_263 ?_
  refine E_ishr dL_faces_264 ?_
  refine E_bipush (v := nI 7) dL_faces_265 (by decide) ?_
  refine E_iand dL_faces_267 ?_
  rw [pE_3 h.wf hf]
  refine E_istore dL_faces_268 (Nat.le_of_ble_eq_true rfl) (by decide) rfl ?_
  refine E_aload dL_faces_270 rfl ?_
  refine E_iload dL_faces_272 rfl ?_
  refine E_aload dL_faces_274 rfl ?_
  refine E_iload dL_faces_276 rfl ?_
  refine E_ialdL (v := nI (pEn c gl)) dL_faces_278 (l_131 hL) (k_131 hL) rfl (by omega) (by decide) hp ?_
  refine E_bipush (v := nI 7) dL_faces_279 (by decide) ?_
  refine E_iload dL_faces_281 rfl ?_
  refine E_iconst (v := nI 3) dL_faces_283 (by decide) ?_
  refine E_iadd_n dL_faces_284 ?_
  refine E_ishl dL_faces_285 ?_
  refine E_iconst (v := -1) dL_faces_286 (by decide) ?_
  refine E_ixor dL_faces_287 ?_
  refine E_iand dL_faces_288 ?_
  refine E_iload dL_faces_289 rfl ?_
  refine E_iload dL_faces_291 rfl ?_
  refine E_iconst (v := nI 3) dL_faces_293 (by decide) ?_
  refine E_iadd_n dL_faces_294 ?_
  refine E_ishl dL_faces_295 ?_
  refine E_ior dL_faces_296 ?_
  rw [pE_s3 h.wf hf (by omega)]
  refine E_iast dL_faces_297 (l_131 hL) (k_131 hL) rfl (by omega) (by decide) ?_
  exact key _ rfl
set_option maxRecDepth 100000 in
set_option maxHeartbeats 4000000 in
theorem s3_L_faces {g : gG} {M : gM} {Q : Option Value ⊕ String → gM → Prop} (hst : (gl1 g).stackTraces = false) {c : Cf} {P π : Nat → Nat} (hs : lwS c P π M) {u v : Int32} {its gl : Nat} (hgl : glZ gl) (hof : ofN gl = its) {t : Nat} (ht : t < 30) (K : ∀ c' π' M', lwS c' P π' M' → (∀ j, cN c' 140 j = cN c 140 j) → Q (.inl (some (.int (nI 1)))) M') : ∀ v11, E g 9 5 30 mL_faces 351 [.ref 1, .int (nI 3), .int u, .int v, .ref 130, .ref 132, .ref 133, .int (nI its), .int (nI gl), .int (nI (13 * fc0 c)), .int (nI t), v11] [] M Q := by
  intro v11
  have hS := hs.1
  have h := hs.2.1
  have hI := hs.2.2.1
  have hW := hs.2.2.2.1
  have h10 := hs.2.2.2.2
  have hL := h.lay
  have hf : fc0 c < 2 := h.wf.1.1
  have hct := h.ct hf
  have hi64 : its < 64 := by rw [← hof]; exact ofN_lt hgl
  have g256 := glZ_256 hgl
  have hp : mI M 131 its = nI (pEn c gl) := by rw [← hof]; exact h.pe hgl
  have hb := pEf_b h.wf (fc0 c) gl
  have hw' : WFc (uN c 139 (256 * fc0 c + gl) t) := h.wf.set (by decide) (by omega)
  have hz1 : zS (uN c 139 (256 * fc0 c + gl) t) (sI M 131 its (nI (pEn (uN c 139 (256 * fc0 c + gl) t) gl))) := by
    rw [← hof]; exact zS_face h (by decide) hgl hf hw'
  have hS1 : kS c P π (sI M 131 its (nI (pEn (uN c 139 (256 * fc0 c + gl) t) gl))) := hS.law hS.C (Nat.le_refl _) (fun _ _ => rfl) (fun a j q q2 => mI_ne (by omega)) (fun _ _ _ => rfl)
  have h101 : mI (sI M 131 its (nI (pEn (uN c 139 (256 * fc0 c + gl) t) gl))) 132 10 = nI 0 := (mI_ne (by decide)).trans h10
  have key : ∀ MM, MM = (sI M 131 its (nI (pEn (uN c 139 (256 * fc0 c + gl) t) gl))) → E g 9 5 30 mL_faces 397 [.ref 1, .int (nI 3), .int u, .int v, .ref 130, .ref 132, .ref 133, .int (nI its), .int (nI gl), .int (nI (13 * fc0 c)), .int (nI t), .int (nI (cN c 139 (256 * fc0 c + gl)))] [] MM Q := by
    intro MM eM
    rw [← eM] at hz1 hS1 h101
    have hL := hz1.lay
    refine E_aload_n dL_faces_397 rfl ?_
    refine E_sipush (v := nI 256) dL_faces_398 (by decide) ?_
    refine E_iconst (v := nI 0) dL_faces_401 (by decide) ?_
    refine E_callT3 (fr' := 8) (k1 := 1) (n1 := 6) (k2 := 4) (n2 := 24) dL_faces_402 kO_L_setWidth kL_L_304 (by exact Nat.le_of_ble_eq_true rfl) (by decide) (by exact Nat.le_of_ble_eq_true rfl) (Or.inr (gW_at 1324 (by decide +kernel) (by decide +kernel))) rfl ?_
    refine w_setWidth hst hS1 (fun j hj e _ _ _ _ => absurd ((nI_eq (by omega) (by omega)).mp e) (by omega)) (fun z => ?_) (fun z _ => absurd z (by decide))
    refine gKv ?_
    refine E_sipush (v := -7100) dL_faces_405 (by decide) ?_
    refine E_icmp_ne_r (tgt := 455) dL_faces_408 (by decide) (fun c0 => absurd c0 (by decide)) (fun _ => ?_)
    refine E_aload_n dL_faces_411 rfl ?_
    refine E_iload dL_faces_412 rfl ?_
    refine E_bipush (v := nI 101) dL_faces_414 (by decide) ?_
    refine E_callT3 (fr' := 8) (k1 := 1) (n1 := 6) (k2 := 3) (n2 := 18) dL_faces_416 kO_L_setWidth kL_L_304 (by exact Nat.le_of_ble_eq_true rfl) (by decide) (by exact Nat.le_of_ble_eq_true rfl) (Or.inr (gW_at 1324 (by decide +kernel) (by decide +kernel))) rfl ?_
    refine w_setWidth hst hS1 (fun j hj e z _ _ _ => absurd z (by decide)) (fun z => absurd (gly_n (by omega)) z) (fun z z2 => ?_)
    refine gKv ?_
    refine E_sipush (v := -7200) dL_faces_419 (by decide) ?_
    refine E_icmp_ne_r (tgt := 455) dL_faces_422 (by decide) (fun c0 => absurd c0 (by decide)) (fun _ => ?_)
    refine E_aload_n dL_faces_425 rfl ?_
    refine E_iload dL_faces_426 rfl ?_
    refine E_iconst (v := -1) dL_faces_428 (by decide) ?_
    refine E_callT3 (fr' := 8) (k1 := 1) (n1 := 6) (k2 := 2) (n2 := 12) dL_faces_429 kO_L_setWidth kL_L_304 (by exact Nat.le_of_ble_eq_true rfl) (by decide) (by exact Nat.le_of_ble_eq_true rfl) (Or.inr (gW_at 1324 (by decide +kernel) (by decide +kernel))) rfl ?_
    refine w_setWidth hst hS1 (fun j hj e z _ _ _ => absurd z (by decide)) (fun z => absurd (gly_n (by omega)) z) (fun z z2 => ?_)
    refine gKv ?_
    refine E_sipush (v := -7200) dL_faces_432 (by decide) ?_
    refine E_icmp_ne_r (tgt := 455) dL_faces_435 (by decide) (fun c0 => absurd c0 (by decide)) (fun _ => ?_)
    refine E_aload_n dL_faces_438 rfl ?_
    refine E_iload dL_faces_439 rfl ?_
    refine E_iload dL_faces_441 rfl ?_
    refine E_callT3 (fr' := 8) (k1 := 1) (n1 := 6) (k2 := 1) (n2 := 6) dL_faces_443 kO_L_setWidth kL_L_304 (by exact Nat.le_of_ble_eq_true rfl) (by decide) (by exact Nat.le_of_ble_eq_true rfl) (Or.inr (gW_at 1324 (by decide +kernel) (by decide +kernel))) rfl ?_
    refine w_setWidth hst hS1 (fun j hj e z M2 hS2 hkd => ?_) (fun z => absurd (gly_n (by omega)) z) (fun z z2 => absurd (in_n (by omega) (by decide)) z2)
    obtain rfl : gl = j := (nI_eq (by omega) (by omega)).mp e
    have hL2 := hS2.1.lay
    have hz2 := hz1.kd hkd hL2
    have h102 := ((hkd.2.2 132 10 (by decide) (by decide)).1).trans h101
    rw [gN_nI (by omega)] at hS2
    refine gKv ?_
    refine E_iload dL_faces_446 rfl ?_
    refine E_icmp_ne_n (tgt := 455) dL_faces_448 (by decide) (by omega) (by omega) (fun c_448 => ?_) (fun c_448 => ?_)
    · exact absurd rfl c_448
    · refine E_iconst (v := nI 1) dL_faces_451 (by decide) ?_
      refine E_goto (tgt := 456) dL_faces_452 (by decide) ?_
      refine E_iret dL_faces_456 (Or.inr ⟨rfl, by decide⟩) ?_
      exact K _ _ _ ⟨hS2, hz2, wfI_u hI (by decide) (by decide), wfW_u hW (by decide) (by decide) (fun z => by omega), h102⟩ (fun j => by rw [cN_u, if_neg (by omega)])
  refine E_aload dL_faces_351 rfl ?_
  refine E_iload dL_faces_353 rfl ?_
  refine E_ialdL (v := nI (pEn c gl)) dL_faces_355 (l_131 hL) (k_131 hL) rfl (by omega) (by decide) hp ?_
  refine E_iload dL_faces_356 rfl ?_
  refine E_bipush (v := nI 6) dL_faces_358 (by decide) ?_
  refine E_iadd_n dL_faces_360 ?_
  refine E_ishr dL_faces_361 ?_
  refine E_bipush (v := nI 127) dL_faces_362 (by decide) ?_
  refine E_iand dL_faces_364 ?_
  rw [pE_6 h.wf hf]
  refine E_istore dL_faces_365 (Nat.le_of_ble_eq_true rfl) (by decide) rfl ?_
  refine E_aload dL_faces_367 rfl ?_
  refine E_iload dL_faces_369 rfl ?_
  refine E_aload dL_faces_371 rfl ?_
  refine E_iload dL_faces_373 rfl ?_
  refine E_ialdL (v := nI (pEn c gl)) dL_faces_375 (l_131 hL) (k_131 hL) rfl (by omega) (by decide) hp ?_
  refine E_bipush (v := nI 127) dL_faces_376 (by decide) ?_
  refine E_iload dL_faces_378 rfl ?_
  refine E_bipush (v := nI 6) dL_faces_380 (by decide) ?_
  refine E_iadd_n dL_faces_382 ?_
  refine E_ishl dL_faces_383 ?_
  refine E_iconst (v := -1) dL_faces_384 (by decide) ?_
  refine E_ixor dL_faces_385 ?_
  refine E_iand dL_faces_386 ?_
  refine E_iload dL_faces_387 rfl ?_
  refine E_iload dL_faces_389 rfl ?_
  refine E_bipush (v := nI 6) dL_faces_391 (by decide) ?_
  refine E_iadd_n dL_faces_393 ?_
  refine E_ishl dL_faces_394 ?_
  refine E_ior dL_faces_395 ?_
  rw [pE_s6 h.wf hf (by omega)]
  refine E_iast dL_faces_396 (l_131 hL) (k_131 hL) rfl (by omega) (by decide) ?_
  exact key _ rfl
set_option maxRecDepth 100000 in
set_option maxHeartbeats 4000000 in
theorem s0_L_faces {g : gG} {M : gM} {Q : Option Value ⊕ String → gM → Prop} (hst : (gl1 g).stackTraces = false) {c : Cf} {P π : Nat → Nat} (hs : lwS c P π M) {u v : Int32} {its gl t : Nat} (ht : t < 2) (K : ∀ c' π' M', lwS c' P π' M' → (∀ j, cN c' 140 j = cN c 140 j) → Q (.inl (some (.int (nI 1)))) M') : E g 9 5 30 mL_faces 54 [.ref 1, .int (nI 0), .int u, .int v, .ref 130, .ref 132, .ref 133, .int (nI its), .int (nI gl), .int (nI (13 * fc0 c)), .int (nI (fc0 c)), .null] [.int (nI t), .int (nI 0), .ref 133] M Q := by
  have hS := hs.1
  have h := hs.2.1
  have hI := hs.2.2.1
  have hW := hs.2.2.2.1
  have h10 := hs.2.2.2.2
  have hL := h.lay
  have hf : fc0 c < 2 := h.wf.1.1
  have hct := h.ct hf
  have hw' : WFc (uN c 128 1 t) := h.wf.set (by decide) (by omega)
  have hz1 : zS (uN c 128 1 t) (sI M 132 0 (nI t)) := zS_use h hw'
  have hS1 : kS c P π (sI M 132 0 (nI t)) := hS.law hS.C (Nat.le_refl _) (fun _ _ => rfl) (fun a j q q2 => mI_ne (by omega)) (fun _ _ _ => rfl)
  have h101 : mI (sI M 132 0 (nI t)) 132 10 = nI 0 := (mI_nj (by decide)).trans h10
  have ht0 : mI (sI M 132 0 (nI t)) 132 0 = nI t := mI_eq
  have key : ∀ MM, MM = (sI M 132 0 (nI t)) → E g 9 5 30 mL_faces 55 [.ref 1, .int (nI 0), .int u, .int v, .ref 130, .ref 132, .ref 133, .int (nI its), .int (nI gl), .int (nI (13 * fc0 c)), .int (nI (fc0 c)), .null] [] MM Q := by
    intro MM eM
    rw [← eM] at hz1 hS1 h101 ht0
    have hL := hz1.lay
    refine E_aload_n dL_faces_55 rfl ?_
    refine E_iconst (v := nI 2) dL_faces_56 (by decide) ?_
    refine E_callT2 (fr' := 8) (k1 := 1) (n1 := 6) (k2 := 4) (n2 := 24) dL_faces_57 kO_L_useFace kL_L_298 (by exact Nat.le_of_ble_eq_true rfl) (by decide) (by exact Nat.le_of_ble_eq_true rfl) (Or.inr (gW_at 1300 (by decide +kernel) (by decide +kernel))) rfl ?_
    refine w_useFace hst hS1 (fun z _ _ _ => absurd z (by decide)) (fun z => ?_)
    refine gKv ?_
    refine E_sipush (v := -7100) dL_faces_60 (by decide) ?_
    refine E_icmp_ne_r (tgt := 94) dL_faces_63 (by decide) (fun c0 => absurd c0 (by decide)) (fun _ => ?_)
    refine E_aload_n dL_faces_66 rfl ?_
    refine E_iconst (v := -1) dL_faces_67 (by decide) ?_
    refine E_callT2 (fr' := 8) (k1 := 1) (n1 := 6) (k2 := 3) (n2 := 18) dL_faces_68 kO_L_useFace kL_L_298 (by exact Nat.le_of_ble_eq_true rfl) (by decide) (by exact Nat.le_of_ble_eq_true rfl) (Or.inr (gW_at 1300 (by decide +kernel) (by decide +kernel))) rfl ?_
    refine w_useFace hst hS1 (fun z _ _ _ => absurd z (by decide)) (fun z => ?_)
    refine gKv ?_
    refine E_sipush (v := -7100) dL_faces_71 (by decide) ?_
    refine E_icmp_ne_r (tgt := 94) dL_faces_74 (by decide) (fun c0 => absurd c0 (by decide)) (fun _ => ?_)
    refine E_aload_n dL_faces_77 rfl ?_
    refine E_aload dL_faces_78 rfl ?_
    refine E_iconst (v := nI 0) dL_faces_80 (by decide) ?_
    refine E_ialdL (v := nI t) dL_faces_81 (l_132 hL) (k_132 hL) rfl (by omega) (by decide) ht0 ?_
    refine E_callT2 (fr' := 8) (k1 := 1) (n1 := 6) (k2 := 2) (n2 := 12) dL_faces_82 kO_L_useFace kL_L_298 (by exact Nat.le_of_ble_eq_true rfl) (by decide) (by exact Nat.le_of_ble_eq_true rfl) (Or.inr (gW_at 1300 (by decide +kernel) (by decide +kernel))) rfl ?_
    refine w_useFace hst hS1 (fun z M2 hS2 hkd => ?_) (fun z => absurd (in_n (by omega) (by decide)) z)
    have hL2 := hS2.1.lay
    rw [gN_nI (by omega)] at hS2
    have hz2 := hz1.kd hkd hL2
    have h102 := ((hkd.2.2 132 10 (by decide) (by decide)).1).trans h101
    refine gKv ?_
    refine E_iload dL_faces_85 rfl ?_
    refine E_icmp_ne_n (tgt := 94) dL_faces_87 (by decide) (by omega) (by omega) (fun c_87 => ?_) (fun c_87 => ?_)
    · exact absurd rfl c_87
    · refine E_iconst (v := nI 1) dL_faces_90 (by decide) ?_
      refine E_goto (tgt := 95) dL_faces_91 (by decide) ?_
      refine E_iret dL_faces_95 (Or.inr ⟨rfl, by decide⟩) ?_
      exact K _ _ _ ⟨hS2, hz2, wfI_u hI (by decide) (by decide), wfW_u hW (by decide) (by decide) (fun z => by omega), h102⟩ (fun j => by rw [cN_u, if_neg (by omega)])
  refine E_iast dL_faces_54 (l_132 hL) (k_132 hL) rfl (by omega) (by decide) ?_
  exact key _ rfl
set_option maxRecDepth 100000 in
set_option maxHeartbeats 4000000 in
theorem sp_L_faces {g : gG} {M : gM} {Q : Option Value ⊕ String → gM → Prop} (hst : (gl1 g).stackTraces = false) {c : Cf} {P π : Nat → Nat} (hs : lwS c P π M) {u v : Int32} {act : Nat} (ha : act < 4) (K : ∀ c' π' M', lwS c' P π' M' → (∀ j, cN c' 140 j = cN c 140 j) → Q (.inl (some (.int (nI 1)))) M') : E g 9 5 30 mL_faces 0 [.ref 1, .int (nI act), .int u, .int v, .ref 130, .ref 132, .ref 133, .null, .null, .null, .null, .null] [] M Q := by
  have hS := hs.1
  have h := hs.2.1
  have hI := hs.2.2.1
  have hW := hs.2.2.2.1
  have h10 := hs.2.2.2.2
  have hL := h.lay
  have hf : fc0 c < 2 := h.wf.1.1
  have hct := h.ct hf
  have hi := lowN_lt u (n := 64) (by decide)
  have go : ∀ its, its < 64 → ∀ gl, gl = gOf its → E g 9 5 30 mL_faces 25 [.ref 1, .int (nI act), .int u, .int v, .ref 130, .ref 132, .ref 133, .int (nI its), .null, .null, .null, .null] [.int (nI gl)] M Q := by
    intro its hi gl hg
    have hg1 := (gOf_ok hi).1
    have hg2 := (gOf_ok hi).2
    rw [← hg] at hg1 hg2
    refine E_istore dL_faces_25 (Nat.le_of_ble_eq_true rfl) (by decide) rfl ?_
    refine E_bipush (v := nI 13) dL_faces_27 (by decide) ?_
    refine E_aload dL_faces_29 rfl ?_
    refine E_iconst (v := nI 0) dL_faces_31 (by decide) ?_
    refine E_ialdL (v := nI (fc0 c)) dL_faces_32 (l_132 hL) (k_132 hL) rfl (by omega) (by decide) h.b0 ?_
    refine E_imul_n dL_faces_33 ?_
    refine E_istore dL_faces_34 (Nat.le_of_ble_eq_true rfl) (by decide) rfl ?_
    rcases (show act = 0 ∨ act = 1 ∨ act = 2 ∨ act = 3 by omega) with rfl | rfl | rfl | rfl
    · have l2 := lowN_lt u (n := 2) (by decide)
      refine E_iload_n dL_faces_36 rfl ?_
      refine E_if_ne (tgt := 96) dL_faces_37 (by decide) (fun c0 => absurd c0 (by decide)) (fun _ => ?_)
      refine E_aload dL_faces_40 rfl ?_
      refine E_iconst (v := nI 0) dL_faces_42 (by decide) ?_
      refine E_ialdL (v := nI (fc0 c)) dL_faces_43 (l_132 hL) (k_132 hL) rfl (by omega) (by decide) h.b0 ?_
      refine E_istore dL_faces_44 (Nat.le_of_ble_eq_true rfl) (by decide) rfl ?_
      refine E_aload dL_faces_46 rfl ?_
      refine E_iconst (v := nI 0) dL_faces_48 (by decide) ?_
      refine E_iload_n dL_faces_49 rfl ?_
      refine E_iconst (v := nI 2) dL_faces_50 (by decide) ?_
      refine E_callT2 (fr' := 1) (k1 := 0) (n1 := 0) (k2 := 5) (n2 := 30) dL_faces_51 kO_L_low kL_L_229 (by exact Nat.le_of_ble_eq_true rfl) (by decide) (by exact Nat.le_of_ble_eq_true rfl) (Or.inl rfl) rfl ?_
      refine sp_L_low (by omega) (by omega) ?_
      refine gKv ?_
      exact s0_L_faces hst hs (lowN_lt _ (by decide)) K
    · refine E_iload_n dL_faces_36 rfl ?_
      refine E_if_ne (tgt := 96) dL_faces_37 (by decide) (fun _ => ?_) (fun c0 => absurd (by decide) c0)
      refine E_iload_n dL_faces_96 rfl ?_
      refine E_iconst (v := nI 1) dL_faces_97 (by decide) ?_
      refine E_icmp_ne_r (tgt := 243) dL_faces_98 (by decide) (fun c0 => absurd c0 (by decide)) (fun _ => ?_)
      refine E_iload_n dL_faces_101 rfl ?_
      refine E_bipush (v := nI 6) dL_faces_102 (by decide) ?_
      refine E_iand dL_faces_104 ?_
      refine E_if_ne_r (tgt := 113) dL_faces_105 (by decide) (fun c_105 => ?_) (fun c_105 => ?_)
      · refine E_iload_n dL_faces_113 rfl ?_
        refine E_iconst (v := nI 3) dL_faces_114 (by decide) ?_
        refine E_ishr dL_faces_115 ?_
        refine E_iconst (v := nI 4) dL_faces_116 (by decide) ?_
        refine E_callT2 (fr' := 1) (k1 := 0) (n1 := 0) (k2 := 5) (n2 := 30) dL_faces_117 kO_L_low kL_L_229 (by exact Nat.le_of_ble_eq_true rfl) (by decide) (by exact Nat.le_of_ble_eq_true rfl) (Or.inl rfl) rfl ?_
        refine sp_L_low (by omega) (by omega) ?_
        refine gKv ?_
        refine E_istore dL_faces_120 (Nat.le_of_ble_eq_true rfl) (by decide) rfl ?_
        first
          | exact s1_L_faces hst hs hg1 hg2 (Or.inl ⟨rfl, rfl⟩) K _
          | exact s1_L_faces hst hs hg1 hg2 (Or.inr ⟨_, lowN_lt _ (by decide), rfl, rfl⟩) K _
      · refine E_bipush (v := -100) dL_faces_108 (by decide) ?_
        refine E_goto (tgt := 120) dL_faces_110 (by decide) ?_
        refine E_istore dL_faces_120 (Nat.le_of_ble_eq_true rfl) (by decide) rfl ?_
        first
          | exact s1_L_faces hst hs hg1 hg2 (Or.inl ⟨rfl, rfl⟩) K _
          | exact s1_L_faces hst hs hg1 hg2 (Or.inr ⟨_, lowN_lt _ (by decide), rfl, rfl⟩) K _
    · refine E_iload_n dL_faces_36 rfl ?_
      refine E_if_ne (tgt := 96) dL_faces_37 (by decide) (fun _ => ?_) (fun c0 => absurd (by decide) c0)
      refine E_iload_n dL_faces_96 rfl ?_
      refine E_iconst (v := nI 1) dL_faces_97 (by decide) ?_
      refine E_icmp_ne (tgt := 243) dL_faces_98 (by decide) (fun _ => ?_) (fun c0 => absurd (by decide) c0)
      refine E_iload_n dL_faces_243 rfl ?_
      refine E_iconst (v := nI 2) dL_faces_244 (by decide) ?_
      refine E_icmp_ne_r (tgt := 343) dL_faces_245 (by decide) (fun c0 => absurd c0 (by decide)) (fun _ => ?_)
      refine E_iload_n dL_faces_248 rfl ?_
      refine E_iconst (v := nI 3) dL_faces_249 (by decide) ?_
      refine E_callT2 (fr' := 1) (k1 := 0) (n1 := 0) (k2 := 5) (n2 := 30) dL_faces_250 kO_L_low kL_L_229 (by exact Nat.le_of_ble_eq_true rfl) (by decide) (by exact Nat.le_of_ble_eq_true rfl) (Or.inl rfl) rfl ?_
      refine sp_L_low (by omega) (by omega) ?_
      refine gKv ?_
      refine E_istore dL_faces_253 (Nat.le_of_ble_eq_true rfl) (by decide) rfl ?_
      exact s2_L_faces hst hs hg1 hg2 (lowN_lt _ (by decide)) K _
    · refine E_iload_n dL_faces_36 rfl ?_
      refine E_if_ne (tgt := 96) dL_faces_37 (by decide) (fun _ => ?_) (fun c0 => absurd (by decide) c0)
      refine E_iload_n dL_faces_96 rfl ?_
      refine E_iconst (v := nI 1) dL_faces_97 (by decide) ?_
      refine E_icmp_ne (tgt := 243) dL_faces_98 (by decide) (fun _ => ?_) (fun c0 => absurd (by decide) c0)
      refine E_iload_n dL_faces_243 rfl ?_
      refine E_iconst (v := nI 2) dL_faces_244 (by decide) ?_
      refine E_icmp_ne (tgt := 343) dL_faces_245 (by decide) (fun _ => ?_) (fun c0 => absurd (by decide) c0)
      refine E_iload_n dL_faces_343 rfl ?_
      refine E_bipush (v := nI 30) dL_faces_344 (by decide) ?_
      refine E_callT2 (fr' := 1) (k1 := 0) (n1 := 0) (k2 := 5) (n2 := 30) dL_faces_346 kO_L_low kL_L_229 (by exact Nat.le_of_ble_eq_true rfl) (by decide) (by exact Nat.le_of_ble_eq_true rfl) (Or.inl rfl) rfl ?_
      refine sp_L_low (by omega) (by omega) ?_
      refine gKv ?_
      refine E_istore dL_faces_349 (Nat.le_of_ble_eq_true rfl) (by decide) rfl ?_
      exact s3_L_faces hst hs hg1 hg2 (lowN_lt _ (by decide)) K _
  refine E_iload_n dL_faces_0 rfl ?_
  refine E_bipush (v := nI 64) dL_faces_1 (by decide) ?_
  refine E_callT2 (fr' := 1) (k1 := 0) (n1 := 0) (k2 := 5) (n2 := 30) dL_faces_3 kO_L_low kL_L_229 (by exact Nat.le_of_ble_eq_true rfl) (by decide) (by exact Nat.le_of_ble_eq_true rfl) (Or.inl rfl) rfl ?_
  refine sp_L_low (by decide) (by decide) ?_
  generalize lowN u 64 = its at hi ⊢
  refine gKv ?_
  refine E_istore dL_faces_6 (Nat.le_of_ble_eq_true rfl) (by decide) rfl ?_
  refine E_iload dL_faces_8 rfl ?_
  refine E_bipush (v := nI 45) dL_faces_10 (by decide) ?_
  refine E_icmp_ge_n (tgt := 20) dL_faces_12 (by decide) (by omega) (by omega) (fun c_12 => ?_) (fun c_12 => ?_)
  · refine E_iload dL_faces_20 rfl ?_
    refine E_bipush (v := nI 19) dL_faces_22 (by decide) ?_
    refine E_iadd_n dL_faces_24 ?_
    refine go _ hi _ ?_
    unfold gOf
    first
      | (rw [if_pos (by omega)])
      | (rw [if_neg (by omega)])
  · refine E_iload dL_faces_15 rfl ?_
    refine E_goto (tgt := 25) dL_faces_17 (by decide) ?_
    refine go _ hi _ ?_
    unfold gOf
    first
      | (rw [if_pos (by omega)])
      | (rw [if_neg (by omega)])
