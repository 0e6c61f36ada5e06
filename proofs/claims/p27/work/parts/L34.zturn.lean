/-! the law: a turn -/
abbrev mL_law : gMu := (yL_law, (cL_law, (25, ((some .boolean), []))))
theorem lk_at {x : Int64} {t : Nat} (ht : t < 63) : x >>> ((nI t).toInt64 &&& 63) &&& 1 = lN (cI (bt x t) 1 0) := by
  rw [wb_c t (by omega)]
  apply wb_inj
  rw [Int64.toBitVec_and, Int64.toBitVec_shiftRight, wb_tb, wb_sm t (by omega), BitVec.sshiftRight_eq', BitVec.toNat_ofNat, Nat.mod_eq_of_lt (show t < 2 ^ 64 by omega)]
  apply BitVec.eq_of_getLsbD_eq
  intro i hi
  rw [BitVec.getLsbD_and, BitVec.getLsbD_sshiftRight]
  by_cases e : i = 0
  · subst e
    by_cases q : bt x t
    · rw [cI_t q]
      unfold bt at q
      rw [show t + 0 = t from rfl, q, if_pos (by omega)]
      decide
    · rw [cI_f q]
      unfold bt at q
      rw [show t + 0 = t from rfl, Bool.eq_false_iff.mpr q, if_pos (by omega)]
      decide
  · have h1 : (1 : Int64).toBitVec.getLsbD i = false := by
      show (1#64).getLsbD i = false
      rw [BitVec.getLsbD_one]
      simp [e]
    have h2 : (lN (cI (bt x t) 1 0)).toBitVec.getLsbD i = false := by
      by_cases q : bt x t
      · rw [cI_t q]; exact h1
      · rw [cI_f q]
        show (0#64).getLsbD i = false
        exact BitVec.getLsbD_zero
    rw [h1, h2, Bool.and_false]
theorem bt_x {x : Int64} {s t : Nat} (hs : s < 64) : bt (x ^^^ oneL s) t ↔ (bt x t ↔ ¬ t = s) := by
  unfold bt
  rw [Int64.toBitVec_xor, oneL_v s hs, BitVec.getLsbD_xor, BitVec.getLsbD_twoPow]
  by_cases e : s = t
  · subst e
    simp [hs]
  · have e2 : ¬ t = s := fun q => e q.symm
    simp [e, e2]
theorem lkS_x {c : Cf} (hw : WFc c) {lk : Int64} (h : lkS c lk) {s : Nat} (hs : s < 45) : lkS (uN c 140 s (1 - cN c 140 s)) (lk ^^^ oneL s) := fun t ht => by
  have hb := (hw.gl t).2.2.2
  have h1 := h t ht
  rw [lk_at (by omega)] at h1 ⊢
  have h2 : cI (bt lk t) 1 0 = cN c 140 t := by
    by_cases q : bt lk t
    · rw [cI_t q] at h1 ⊢
      rcases (show cN c 140 t = 0 ∨ cN c 140 t = 1 by omega) with z | z
      · rw [z] at h1; exact absurd h1 (by decide)
      · exact z.symm
    · rw [cI_f q] at h1 ⊢
      rcases (show cN c 140 t = 0 ∨ cN c 140 t = 1 by omega) with z | z
      · exact z.symm
      · rw [z] at h1; exact absurd h1 (by decide)
  congr 1
  rw [cN_u]
  by_cases e : t = s
  · subst e
    rw [if_pos ⟨rfl, rfl⟩]
    by_cases q : bt lk t
    · rw [cI_t q] at h2
      rw [cI_f (fun z => ((bt_x (by omega)).mp z).mp q rfl), ← h2]
    · rw [cI_f q] at h2
      rw [cI_t ((bt_x (by omega)).mpr ⟨fun z => absurd z q, fun z => absurd rfl z⟩), ← h2]
  · rw [if_neg (fun z => e z.2), ← h2]
    by_cases q : bt lk t
    · rw [cI_t q, cI_t ((bt_x (by omega)).mpr ⟨fun _ => e, fun _ => q⟩)]
    · rw [cI_f q, cI_f (fun z => q (((bt_x (by omega)).mp z).mpr e))]
theorem lkS.cg {c c' : Cf} {lk : Int64} (h : lkS c lk) (e : ∀ j, cN c' 140 j = cN c 140 j) : lkS c' lk := fun s hs => by rw [e]; exact h s hs
theorem lN_i32 {n : Nat} (h : n ≤ 1) : (lN n).toInt32 = nI n := by
  rcases (show n = 0 ∨ n = 1 by omega) with rfl | rfl <;> decide
/-- a new state of the law, out of what differs -/
theorem zS.mk {c c' : Cf} {M M' : gM} (h : zS c M) (hL : gLay M') (hw : WFc c') (hz : wfZ c') (h1 : ∀ k, k < tl c' → mI M' 128 k = nI (tEn c' k))
    (h2 : ∀ f l, f < 2 → l < cN c' 129 f → mI M' 129 (8 * f + l) = nI (mEn c' (12 * f + l))) (h3 : ∀ f l k, f < 2 → l < cN c' 129 f → k < cN c' 135 (12 * f + l) → mL M' 130 (4 * (8 * f + l) + k) = lN (rEn c' (12 * f + l) k))
    (h4 : ∀ v, glZ v → mI M' 131 (ofN v) = nI (pEn c' v)) (h5 : mI M' 132 0 = nI (fc0 c')) (h6 : mI M' 132 1 = nI (tl c')) (h7 : mI M' 132 2 = nI (cN c' 128 17)) (h8 : ∀ f, f < 2 → mI M' 132 (3 + f) = nI (cN c' 129 f)) : zS c' M' :=
  ⟨hL, hw, hz, h1, h2, h3, h4, h5, h6, h7, h8⟩
/-- only the text and the tongue differ -/
theorem zS.tx' {c c' : Cf} {M M' : gM} (h : zS c M) (hL : gLay M') (hw : WFc c') (e : ∀ a j, ¬ (a = 128 ∧ (j = 14 ∨ j = 17)) → ¬ a = 140 → ¬ a = 141 → ¬ a = 142 → cN c' a j = cN c a j) (er : c'.2 = c.2)
    (em : ∀ a j, 129 ≤ a → a < 133 → ¬ (a = 132 ∧ (j = 1 ∨ j = 2)) → (a = 132 → j < 5) → mI M' a j = mI M a j) (el : ∀ j, mL M' 130 j = mL M 130 j) (ht10 : tl c' ≤ 10)
    (hsg : ∀ k, k < tl c' → sgZ (cN c' 141 k)) (h1 : ∀ k, k < tl c' → mI M' 128 k = nI (tEn c' k)) (h6 : mI M' 132 1 = nI (tl c')) (h7 : mI M' 132 2 = nI (cN c' 128 17)) : zS c' M' := by
  have hru : ∀ l k w, rul c' l k w = rul c l k w := fun l k w => by unfold rul cR; rw [er]
  have hf0 : fc0 c' = fc0 c := e 128 1 (by omega) (by decide) (by decide) (by decide)
  have e2 : ∀ a j, ¬ a = 128 → ¬ a = 140 → ¬ a = 141 → ¬ a = 142 → cN c' a j = cN c a j := fun a j q q2 q3 q4 => e a j (fun z => q z.1) q2 q3 q4
  refine ⟨hL, hw, ⟨fun f hf => ?_, fun i => ?_, ht10, fun k hk => hsg k hk, fun i k hk => ?_, fun f v hf hv hg => ?_⟩, fun k hk => h1 k hk, fun f i hf hi => ?_, fun f i k hf hi hk => ?_, fun v hv => ?_, ?_, h6, h7, fun f hf => ?_⟩
  · rw [e2 _ _ (by decide) (by decide) (by decide) (by decide)]; exact h.ct hf
  · rw [e2 _ _ (by decide) (by decide) (by decide) (by decide)]; exact h.r4 _
  · rw [e2 _ _ (by decide) (by decide) (by decide) (by decide)] at hk
    have := h.wz.2.2.2.2.1 i k hk
    refine ⟨fun w hw => by rw [hru]; exact this.1 w hw, ?_⟩
    rw [hru, hru, hru, e2 _ _ (by decide) (by decide) (by decide) (by decide)]; exact this.2
  · rw [e2 _ _ (by decide) (by decide) (by decide) (by decide)]; exact h.wz.2.2.2.2.2 f v hf hv hg
  · rw [e2 _ _ (by decide) (by decide) (by decide) (by decide)] at hi
    rw [em _ _ (by decide) (by decide) (by omega) (by omega), h.me hf hi]
    unfold mEn
    rw [e2 _ _ (by decide) (by decide) (by decide) (by decide), e2 _ _ (by decide) (by decide) (by decide) (by decide), e2 _ _ (by decide) (by decide) (by decide) (by decide), e2 _ _ (by decide) (by decide) (by decide) (by decide), e2 _ _ (by decide) (by decide) (by decide) (by decide), e2 _ _ (by decide) (by decide) (by decide) (by decide)]
  · rw [e2 _ _ (by decide) (by decide) (by decide) (by decide)] at hi hk
    rw [el, h.re hf hi hk]
    unfold rEn rEm
    rw [hru, hru, hru, hru, hru, hru]
  · rw [em _ _ (by decide) (by decide) (by omega) (by omega), h.pe hv]
    unfold pEn pEf
    rw [e2 _ _ (by decide) (by decide) (by decide) (by decide), e2 _ _ (by decide) (by decide) (by decide) (by decide), e2 _ _ (by decide) (by decide) (by decide) (by decide), e2 _ _ (by decide) (by decide) (by decide) (by decide), e2 _ _ (by decide) (by decide) (by decide) (by decide), e2 _ _ (by decide) (by decide) (by decide) (by decide)]
  · rw [em _ _ (by decide) (by decide) (by omega) (by omega), hf0]; exact h.b0
  · rw [em _ _ (by decide) (by decide) (by omega) (by omega), e2 _ _ (by decide) (by decide) (by decide) (by decide)]; exact h.b3 hf
theorem wf_tx {c c' : Cf} (hI : wfI c) (hW : wfW c) (e : ∀ a j, a = 130 ∨ a = 135 ∨ a = 139 → cN c' a j = cN c a j) (er : c'.2 = c.2) : wfI c' ∧ wfW c' := by
  have hru : ∀ l k w, rul c' l k w = rul c l k w := fun l k w => by unfold rul cR; rw [er]
  refine ⟨fun l k hk => ?_, fun j => ?_, fun l k hk h6 => ?_⟩
  · rw [e 135 l (by decide)] at hk
    rw [hru, e 130 l (by decide)]; exact hI l k hk
  · rw [e 139 j (by decide)]; exact hW.1 j
  · rw [e 135 l (by decide)] at hk
    rw [e 130 l (by decide)] at h6
    rw [hru]; exact hW.2 l k hk h6
set_option maxRecDepth 100000 in
set_option maxHeartbeats 4000000 in
theorem te_L_law {g : gG} {Q : Option Value ⊕ String → gM → Prop} (hst : (gl1 g).stackTraces = false) {i kk nn : Nat} (hi : i < 110) (K : ∀ M, Q (.inl (some (.int (nI 1)))) M) (IH : ∀ c P π M lk v16 v17 v18 v19 v20 v21 v22 v23 v24, lwS c P π M → lkS c lk → E g 13 kk nn mL_law 205 [.float 0, .ref 1, .ref 129, .ref 130, .ref 131, .ref 132, .ref 133, .ref 134, .ref 135, .ref 136, .ref 137, .ref 138, .ref 139, .long lk, .null, .int (nI (i + 1)), v16, v17, v18, v19, v20, v21, v22, v23, v24] [] M Q) {M : gM} {c : Cf} {P π : Nat → Nat} {lk : Int64} (hs : lwS c P π M) (hlk : lkS c lk) {act : Nat} {u cc : Int32} {v16 v20 v21 v22 v23 v24 : Value} : E g 13 (kk + 800) (nn + 12500) mL_law 1260 [.float 0, .ref 1, .ref 129, .ref 130, .ref 131, .ref 132, .ref 133, .ref 134, .ref 135, .ref 136, .ref 137, .ref 138, .ref 139, .long lk, .null, .int (nI i), v16, .int u, .int cc, .int (nI 1), v20, v21, v22, v23, v24] [] M Q := by
  have hS := hs.1
  have h := hs.2.1
  have hI := hs.2.2.1
  have hW := hs.2.2.2.1
  have h10 := hs.2.2.2.2
  have hL := h.lay
  have hf : fc0 c < 2 := h.wf.1.1
  have hct := h.ct hf
  have ht10 := h.t10
  refine E_iload dL_law_1260 rfl ?_
  refine E_if_eq (tgt := 1299) dL_law_1262 (by decide) (fun c0 => absurd c0 (by decide)) (fun _ => ?_)
  refine E_aload_n dL_law_1265 rfl ?_
  refine E_iload dL_law_1266 rfl ?_
  refine E_iload dL_law_1268 rfl ?_
  refine E_ixor dL_law_1270 ?_
  refine E_aload_n dL_law_1271 rfl ?_
  refine E_aload_n dL_law_1272 rfl ?_
  refine E_aload dL_law_1273 rfl ?_
  refine E_aload dL_law_1275 rfl ?_
  refine E_aload dL_law_1277 rfl ?_
  refine E_lload dL_law_1279 rfl ?_
  refine E_aload dL_law_1281 rfl ?_
  refine E_aload dL_law_1283 rfl ?_
  refine E_aload dL_law_1285 rfl ?_
  refine E_aload dL_law_1287 rfl ?_
  refine E_aload dL_law_1289 rfl ?_
  refine E_aload dL_law_1291 rfl ?_
  refine E_room (Nat.le_refl _) (k' := 800 + (kk + 0)) (n' := 12500 + (nn + 0)) (by omega) (by omega) ?_
  refine E_callT14 (fr' := 12) (k1 := 800) (n1 := 12500) (k2 := (kk + 0)) (n2 := (nn + 0)) dL_law_1293 kO_L_isTold kL_L_332 (by exact Nat.le_of_ble_eq_true rfl) (by decide) (by exact Nat.le_of_ble_eq_true rfl) (Or.inl rfl) rfl ?_
  refine sp_L_isTold hst hlk hS h h10 hW (fun M1 π1 hS1 hz1 h101 => ?_)
  refine gKv ?_
  refine E_if_ne (tgt := 1301) dL_law_1296 (by decide) (fun _ => ?_) (fun c0 => absurd (by decide) c0)
  have hL := hz1.lay
  rcases h101 with h101 | h101
  · refine E_aload dL_law_1301 rfl ?_
    refine E_bipush (v := nI 10) dL_law_1303 (by decide) ?_
    refine E_ialdL (v := nI 0) dL_law_1305 (l_132 hL) (k_132 hL) rfl (by omega) (by decide) h101 ?_
    refine E_iconst (v := nI 1) dL_law_1306 (by decide) ?_
    refine E_icmp_ne (tgt := 1312) dL_law_1307 (by decide) (fun _ => ?_) (fun c0 => absurd (by decide) c0)
    refine E_iinc_n (d := 1) dL_law_1312 rfl rfl rfl (by decide) rfl ?_
    refine E_goto (tgt := 205) dL_law_1315 (by decide) ?_
    exact E_room (Nat.le_refl _) (by omega) (by omega) (IH _ _ _ _ _ _ _ _ _ _ _ _ _ _ ⟨hS1, hz1, hI, hW, h101⟩ hlk)
  · refine E_aload dL_law_1301 rfl ?_
    refine E_bipush (v := nI 10) dL_law_1303 (by decide) ?_
    refine E_ialdL (v := nI 1) dL_law_1305 (l_132 hL) (k_132 hL) rfl (by omega) (by decide) h101 ?_
    refine E_iconst (v := nI 1) dL_law_1306 (by decide) ?_
    refine E_icmp_ne_r (tgt := 1312) dL_law_1307 (by decide) (fun c0 => absurd c0 (by decide)) (fun _ => ?_)
    refine E_iconst (v := nI 1) dL_law_1310 (by decide) ?_
    refine E_iret dL_law_1311 (Or.inr ⟨rfl, by decide⟩) ?_
    exact K _
set_option maxRecDepth 100000 in
set_option maxHeartbeats 4000000 in
theorem tr_L_law {g : gG} {Q : Option Value ⊕ String → gM → Prop} (hst : (gl1 g).stackTraces = false) {i kk nn : Nat} (hi : i < 110) (K : ∀ M, Q (.inl (some (.int (nI 1)))) M) (IH : ∀ c P π M lk v16 v17 v18 v19 v20 v21 v22 v23 v24, lwS c P π M → lkS c lk → E g 13 kk nn mL_law 205 [.float 0, .ref 1, .ref 129, .ref 130, .ref 131, .ref 132, .ref 133, .ref 134, .ref 135, .ref 136, .ref 137, .ref 138, .ref 139, .long lk, .null, .int (nI (i + 1)), v16, v17, v18, v19, v20, v21, v22, v23, v24] [] M Q) {M : gM} {c : Cf} {P π : Nat → Nat} {lk : Int64} (hs : lwS c P π M) (hlk : lkS c lk) {act : Nat} {u cc : Int32} {v20 v21 v22 v23 v24 : Value} : E g 13 (kk + 900) (nn + 15000) mL_law 590 [.float 0, .ref 1, .ref 129, .ref 130, .ref 131, .ref 132, .ref 133, .ref 134, .ref 135, .ref 136, .ref 137, .ref 138, .ref 139, .long lk, .null, .int (nI i), .int (nI act), .int u, .int cc, .int (nI 1), v20, v21, v22, v23, v24] [] M Q := by
  have hS := hs.1
  have h := hs.2.1
  have hI := hs.2.2.1
  have hW := hs.2.2.2.1
  have h10 := hs.2.2.2.2
  have hL := h.lay
  have hf : fc0 c < 2 := h.wf.1.1
  have hct := h.ct hf
  have ht10 := h.t10
  refine E_aload_n dL_law_590 rfl ?_
  refine E_iload dL_law_591 rfl ?_
  refine E_iload dL_law_593 rfl ?_
  refine E_aload_n dL_law_595 rfl ?_
  refine E_aload dL_law_596 rfl ?_
  refine E_aload dL_law_598 rfl ?_
  refine E_aload dL_law_600 rfl ?_
  refine E_room (Nat.le_refl _) (k' := 12 + (kk + 888)) (n' := 72 + (nn + 14928)) (by omega) (by omega) ?_
  refine E_callT7 (fr' := 9) (k1 := 12) (n1 := 72) (k2 := (kk + 888)) (n2 := (nn + 14928)) dL_law_602 kO_L_ruled kL_L_313 (by exact Nat.le_of_ble_eq_true rfl) (by decide) (by exact Nat.le_of_ble_eq_true rfl) (Or.inl rfl) rfl ?_
  refine sp_L_ruled hst hs (fun c1 π1 M1 hs1 h140 => ?_)
  refine gKv ?_
  refine E_istore dL_law_605 (Nat.le_of_ble_eq_true rfl) (by decide) rfl ?_
  refine E_goto (tgt := 1260) dL_law_607 (by decide) ?_
  exact E_room (Nat.le_refl _) (by omega) (by omega) (te_L_law (act := 0) hst hi K IH hs1 (hlk.cg h140))
set_option maxRecDepth 100000 in
set_option maxHeartbeats 4000000 in
theorem tf_L_law {g : gG} {Q : Option Value ⊕ String → gM → Prop} (hst : (gl1 g).stackTraces = false) {i kk nn : Nat} (hi : i < 110) (K : ∀ M, Q (.inl (some (.int (nI 1)))) M) (IH : ∀ c P π M lk v16 v17 v18 v19 v20 v21 v22 v23 v24, lwS c P π M → lkS c lk → E g 13 kk nn mL_law 205 [.float 0, .ref 1, .ref 129, .ref 130, .ref 131, .ref 132, .ref 133, .ref 134, .ref 135, .ref 136, .ref 137, .ref 138, .ref 139, .long lk, .null, .int (nI (i + 1)), v16, v17, v18, v19, v20, v21, v22, v23, v24] [] M Q) {M : gM} {c : Cf} {P π : Nat → Nat} {lk : Int64} (hs : lwS c P π M) (hlk : lkS c lk) {act : Nat} {u cc : Int32} {v20 v21 v22 v23 v24 : Value} (ha : 15 ≤ act) (ha2 : act < 19) : E g 13 (kk + 900) (nn + 15000) mL_law 617 [.float 0, .ref 1, .ref 129, .ref 130, .ref 131, .ref 132, .ref 133, .ref 134, .ref 135, .ref 136, .ref 137, .ref 138, .ref 139, .long lk, .null, .int (nI i), .int (nI act), .int u, .int cc, .int (nI 1), v20, v21, v22, v23, v24] [] M Q := by
  have hS := hs.1
  have h := hs.2.1
  have hI := hs.2.2.1
  have hW := hs.2.2.2.1
  have h10 := hs.2.2.2.2
  have hL := h.lay
  have hf : fc0 c < 2 := h.wf.1.1
  have hct := h.ct hf
  have ht10 := h.t10
  refine E_aload_n dL_law_617 rfl ?_
  refine E_iload dL_law_618 rfl ?_
  refine E_bipush (v := nI 15) dL_law_620 (by decide) ?_
  refine E_isub_n dL_law_622 (by omega) ?_
  refine E_iload dL_law_623 rfl ?_
  refine E_iload dL_law_625 rfl ?_
  refine E_aload_n dL_law_627 rfl ?_
  refine E_aload dL_law_628 rfl ?_
  refine E_aload dL_law_630 rfl ?_
  refine E_room (Nat.le_refl _) (k' := 5 + (kk + 895)) (n' := 30 + (nn + 14970)) (by omega) (by omega) ?_
  refine E_callT7 (fr' := 9) (k1 := 5) (n1 := 30) (k2 := (kk + 895)) (n2 := (nn + 14970)) dL_law_632 kO_L_faces kL_L_317 (by exact Nat.le_of_ble_eq_true rfl) (by decide) (by exact Nat.le_of_ble_eq_true rfl) (Or.inl rfl) rfl ?_
  refine sp_L_faces hst hs (by omega) (fun c1 π1 M1 hs1 h140 => ?_)
  refine gKv ?_
  refine E_istore dL_law_635 (Nat.le_of_ble_eq_true rfl) (by decide) rfl ?_
  refine E_goto (tgt := 1260) dL_law_637 (by decide) ?_
  exact E_room (Nat.le_refl _) (by omega) (by omega) (te_L_law (act := 0) hst hi K IH hs1 (hlk.cg h140))
set_option maxRecDepth 100000 in
set_option maxHeartbeats 4000000 in
theorem tk_L_law {g : gG} {Q : Option Value ⊕ String → gM → Prop} (hst : (gl1 g).stackTraces = false) {i kk nn : Nat} (hi : i < 110) (K : ∀ M, Q (.inl (some (.int (nI 1)))) M) (IH : ∀ c P π M lk v16 v17 v18 v19 v20 v21 v22 v23 v24, lwS c P π M → lkS c lk → E g 13 kk nn mL_law 205 [.float 0, .ref 1, .ref 129, .ref 130, .ref 131, .ref 132, .ref 133, .ref 134, .ref 135, .ref 136, .ref 137, .ref 138, .ref 139, .long lk, .null, .int (nI (i + 1)), v16, v17, v18, v19, v20, v21, v22, v23, v24] [] M Q) {M : gM} {c : Cf} {P π : Nat → Nat} {lk : Int64} (hs : lwS c P π M) (hlk : lkS c lk) {act : Nat} {u cc : Int32} {v20 v21 v22 v23 v24 : Value} : E g 13 (kk + 900) (nn + 15000) mL_law 647 [.float 0, .ref 1, .ref 129, .ref 130, .ref 131, .ref 132, .ref 133, .ref 134, .ref 135, .ref 136, .ref 137, .ref 138, .ref 139, .long lk, .null, .int (nI i), .int (nI act), .int u, .int cc, .int (nI 1), v20, v21, v22, v23, v24] [] M Q := by
  have hS := hs.1
  have h := hs.2.1
  have hI := hs.2.2.1
  have hW := hs.2.2.2.1
  have h10 := hs.2.2.2.2
  have hL := h.lay
  have hf : fc0 c < 2 := h.wf.1.1
  have hct := h.ct hf
  have ht10 := h.t10
  refine E_iload dL_law_647 rfl ?_
  refine E_room (Nat.le_refl _) (k' := 0 + (kk + 900)) (n' := 0 + (nn + 15000)) (by omega) (by omega) ?_
  refine E_callT1 (fr' := 2) (k1 := 0) (n1 := 0) (k2 := (kk + 900)) (n2 := (nn + 15000)) dL_law_649 kO_L_signBy kL_L_276 (by exact Nat.le_of_ble_eq_true rfl) (by decide) (by exact Nat.le_of_ble_eq_true rfl) (Or.inl rfl) rfl ?_
  refine sp_L_signBy (fun s hs2 => ?_)
  have hs45 : s < 45 := by unfold sgZ at hs2; omega
  have hsi : iSign (nI s) := by
    unfold sgZ at hs2
    rcases hs2 with z | z
    · exact Or.inl (in_n (by omega) (by decide))
    · exact Or.inr ((iIn_n (by omega) (by decide) (by decide)).mpr ⟨z.1, by omega⟩)
  have hb1 := (hS.1.wf.gl s).2.2.2
  have hlk2 := lkS_x h.wf hlk hs45
  refine gKv ?_
  refine E_istore dL_law_652 (Nat.le_of_ble_eq_true rfl) (by decide) rfl ?_
  refine E_lload dL_law_654 rfl ?_
  refine E_lconst (v := 1) dL_law_656 (by decide) ?_
  refine E_iload dL_law_657 rfl ?_
  refine E_lshl dL_law_659 ?_
  refine E_lxor dL_law_660 ?_
  refine E_lstore dL_law_661 (Nat.le_of_ble_eq_true rfl) (by decide) rfl ?_
  refine E_aload_n dL_law_663 rfl ?_
  refine E_bipush (v := nI 24) dL_law_664 (by decide) ?_
  refine E_room (Nat.le_refl _) (k' := 1 + (kk + 899)) (n' := 6 + (nn + 14994)) (by omega) (by omega) ?_
  refine E_callT2 (fr' := 8) (k1 := 1) (n1 := 6) (k2 := (kk + 899)) (n2 := (nn + 14994)) dL_law_666 kO_L_lack kL_L_321 (by exact Nat.le_of_ble_eq_true rfl) (by decide) (by exact Nat.le_of_ble_eq_true rfl) (Or.inr (gW_at 610 (by decide +kernel) (by decide +kernel))) rfl ?_
  refine w_lack hst hS (fun j hj e z _ _ _ => absurd z (by decide)) (fun z => ?_)
  refine gKv ?_
  refine E_sipush (v := -7200) dL_law_669 (by decide) ?_
  refine E_icmp_ne_r (tgt := 719) dL_law_672 (by decide) (fun c0 => absurd c0 (by decide)) (fun _ => ?_)
  refine E_aload_n dL_law_675 rfl ?_
  refine E_bipush (v := nI 45) dL_law_676 (by decide) ?_
  refine E_room (Nat.le_refl _) (k' := 1 + (kk + 898)) (n' := 6 + (nn + 14988)) (by omega) (by omega) ?_
  refine E_callT2 (fr' := 8) (k1 := 1) (n1 := 6) (k2 := (kk + 898)) (n2 := (nn + 14988)) dL_law_678 kO_L_lack kL_L_321 (by exact Nat.le_of_ble_eq_true rfl) (by decide) (by exact Nat.le_of_ble_eq_true rfl) (Or.inr (gW_at 610 (by decide +kernel) (by decide +kernel))) rfl ?_
  refine w_lack hst hS (fun j hj e z _ _ _ => absurd z (by decide)) (fun z => ?_)
  refine gKv ?_
  refine E_sipush (v := -7200) dL_law_681 (by decide) ?_
  refine E_icmp_ne_r (tgt := 719) dL_law_684 (by decide) (fun c0 => absurd c0 (by decide)) (fun _ => ?_)
  refine E_aload_n dL_law_687 rfl ?_
  refine E_iconst (v := -1) dL_law_688 (by decide) ?_
  refine E_room (Nat.le_refl _) (k' := 1 + (kk + 897)) (n' := 6 + (nn + 14982)) (by omega) (by omega) ?_
  refine E_callT2 (fr' := 8) (k1 := 1) (n1 := 6) (k2 := (kk + 897)) (n2 := (nn + 14982)) dL_law_689 kO_L_lack kL_L_321 (by exact Nat.le_of_ble_eq_true rfl) (by decide) (by exact Nat.le_of_ble_eq_true rfl) (Or.inr (gW_at 610 (by decide +kernel) (by decide +kernel))) rfl ?_
  refine w_lack hst hS (fun j hj e z _ _ _ => absurd z (by decide)) (fun z => ?_)
  refine gKv ?_
  refine E_sipush (v := -7200) dL_law_692 (by decide) ?_
  refine E_icmp_ne_r (tgt := 719) dL_law_695 (by decide) (fun c0 => absurd c0 (by decide)) (fun _ => ?_)
  refine E_aload_n dL_law_698 rfl ?_
  refine E_iload dL_law_699 rfl ?_
  refine E_room (Nat.le_refl _) (k' := 1 + (kk + 896)) (n' := 6 + (nn + 14976)) (by omega) (by omega) ?_
  refine E_callT2 (fr' := 8) (k1 := 1) (n1 := 6) (k2 := (kk + 896)) (n2 := (nn + 14976)) dL_law_701 kO_L_lack kL_L_321 (by exact Nat.le_of_ble_eq_true rfl) (by decide) (by exact Nat.le_of_ble_eq_true rfl) (Or.inr (gW_at 610 (by decide +kernel) (by decide +kernel))) rfl ?_
  refine w_lack hst hS (fun j hj e z M1 hS1 hkd => ?_) (fun z => absurd hsi z)
  obtain rfl : s = j := (nI_eq (by omega) (by omega)).mp e
  have hL1 := hS1.1.lay
  have hz1 : zS (uN c 140 s (1 - cN c 140 s)) M1 := (h.kd hkd hL1).tx' hL1 hS1.1.wf (fun a j _ q _ _ => by rw [cN_u, if_neg (fun y => q y.1)]) rfl (fun _ _ _ _ _ _ => rfl) (fun _ => rfl) h.t10 (fun k hk => h.sg hk) (fun k hk => (h.kd hkd hL1).tx hk) (h.kd hkd hL1).b1 (h.kd hkd hL1).b2
  have h101 := ((hkd.2.2 132 10 (by decide) (by decide)).1).trans h10
  have hx := wf_tx hI hW (c' := uN c 140 s (1 - cN c 140 s)) (fun a j q => by rw [cN_u, if_neg (by omega)]) rfl
  have hbit := hlk2 s hs45
  rw [cN_u, if_pos ⟨rfl, rfl⟩] at hbit
  unfold oneL at hbit
  refine gKv ?_
  refine E_lload dL_law_704 rfl ?_
  refine E_iload dL_law_706 rfl ?_
  refine E_lshr dL_law_708 ?_
  refine E_lconst (v := 1) dL_law_709 (by decide) ?_
  refine E_land dL_law_710 ?_
  refine E_l2i dL_law_711 ?_
  rw [hbit, lN_i32 (by omega)]
  refine E_icmp_ne_n (tgt := 719) dL_law_712 (by decide) (by omega) (by omega) (fun c_712 => ?_) (fun c_712 => ?_)
  · exact absurd rfl c_712
  · refine E_iconst (v := nI 1) dL_law_715 (by decide) ?_
    refine E_goto (tgt := 720) dL_law_716 (by decide) ?_
    refine E_istore dL_law_720 (Nat.le_of_ble_eq_true rfl) (by decide) rfl ?_
    refine E_goto (tgt := 1260) dL_law_722 (by decide) ?_
    exact E_room (Nat.le_refl _) (by omega) (by omega) (te_L_law (act := 0) hst hi K IH ⟨hS1, hz1, hx.1, hx.2, h101⟩ hlk2)
set_option maxRecDepth 100000 in
set_option maxHeartbeats 4000000 in
theorem tg_L_law {g : gG} {Q : Option Value ⊕ String → gM → Prop} (hst : (gl1 g).stackTraces = false) {i kk nn : Nat} (hi : i < 110) (K : ∀ M, Q (.inl (some (.int (nI 1)))) M) (IH : ∀ c P π M lk v16 v17 v18 v19 v20 v21 v22 v23 v24, lwS c P π M → lkS c lk → E g 13 kk nn mL_law 205 [.float 0, .ref 1, .ref 129, .ref 130, .ref 131, .ref 132, .ref 133, .ref 134, .ref 135, .ref 136, .ref 137, .ref 138, .ref 139, .long lk, .null, .int (nI (i + 1)), v16, v17, v18, v19, v20, v21, v22, v23, v24] [] M Q) {M : gM} {c : Cf} {P π : Nat → Nat} {lk : Int64} (hs : lwS c P π M) (hlk : lkS c lk) {act : Nat} {u cc : Int32} {v20 v21 v22 v23 v24 : Value} : E g 13 (kk + 900) (nn + 15000) mL_law 732 [.float 0, .ref 1, .ref 129, .ref 130, .ref 131, .ref 132, .ref 133, .ref 134, .ref 135, .ref 136, .ref 137, .ref 138, .ref 139, .long lk, .null, .int (nI i), .int (nI act), .int u, .int cc, .int (nI 1), v20, v21, v22, v23, v24] [] M Q := by
  have hS := hs.1
  have h := hs.2.1
  have hI := hs.2.2.1
  have hW := hs.2.2.2.1
  have h10 := hs.2.2.2.2
  have hL := h.lay
  have hf : fc0 c < 2 := h.wf.1.1
  have hct := h.ct hf
  have ht10 := h.t10
  have hlw := lowN_lt u (n := 2) (by decide)
  have key : ∀ lw, lw < 2 → ∀ MM, MM = sI M 132 2 (nI (1 + lw)) → E g 13 (kk + 900) (nn + 15000) mL_law 750 [.float 0, .ref 1, .ref 129, .ref 130, .ref 131, .ref 132, .ref 133, .ref 134, .ref 135, .ref 136, .ref 137, .ref 138, .ref 139, .long lk, .null, .int (nI i), .int (nI act), .int u, .int cc, .int (nI 1), .int (nI (cN c 128 17)), v21, v22, v23, v24] [] MM Q := by
    intro lw hlw MM eM
    have h17 := h.wf.1.2.2
    have hw' : WFc (uN c 128 17 (1 + lw)) := h.wf.set (by decide) (by omega)
    have hz1 : zS (uN c 128 17 (1 + lw)) MM := by
      rw [eM]
      refine h.tx' (h.lay.of (Nat.le_refl _) (fun _ _ => rfl) (fun _ _ => rfl)) hw' (fun a j q _ _ _ => by rw [cN_u, if_neg (fun y => q ⟨y.1, Or.inr y.2⟩)]) rfl (fun a j q q2 q3 _ => ?_) (fun _ => rfl) h.t10 (fun k hk => h.sg hk) (fun k hk => (mI_ne (by decide)).trans (h.tx hk)) ((mI_nj (by decide)).trans h.b1) ?_
      · rw [mI_sI, if_neg (fun y => q3 ⟨y.1, Or.inr y.2⟩)]
      · rw [mI_eq, cN_u, if_pos ⟨rfl, rfl⟩]
    have hS1 : kS c P π MM := by rw [eM]; exact hS.law hS.C (Nat.le_refl _) (fun _ _ => rfl) (fun a j q q2 => mI_ne (by omega)) (fun _ _ _ => rfl)
    have h101 : mI MM 132 10 = nI 0 := by rw [eM]; exact (mI_nj (by decide)).trans h10
    have ht2 : mI MM 132 2 = nI (1 + lw) := by rw [eM]; exact mI_eq
    have hL := hz1.lay
    have hx := wf_tx hI hW (c' := uN c 128 17 (1 + lw)) (fun a j q => by rw [cN_u, if_neg (by omega)]) rfl
    refine E_aload_n dL_law_750 rfl ?_
    refine E_iconst (v := nI 0) dL_law_751 (by decide) ?_
    refine E_room (Nat.le_refl _) (k' := 1 + (kk + 899)) (n' := 6 + (nn + 14994)) (by omega) (by omega) ?_
    refine E_callT2 (fr' := 8) (k1 := 1) (n1 := 6) (k2 := (kk + 899)) (n2 := (nn + 14994)) dL_law_752 kO_L_setTongue kL_L_323 (by exact Nat.le_of_ble_eq_true rfl) (by decide) (by exact Nat.le_of_ble_eq_true rfl) (Or.inr (gW_at 649 (by decide +kernel) (by decide +kernel))) rfl ?_
    refine w_setTongue hst hS1 (fun z _ _ _ => absurd z (by decide)) (fun z => ?_)
    refine gKv ?_
    refine E_sipush (v := -7200) dL_law_755 (by decide) ?_
    refine E_icmp_ne_r (tgt := 789) dL_law_758 (by decide) (fun c0 => absurd c0 (by decide)) (fun _ => ?_)
    refine E_aload_n dL_law_761 rfl ?_
    refine E_iconst (v := nI 3) dL_law_762 (by decide) ?_
    refine E_room (Nat.le_refl _) (k' := 1 + (kk + 898)) (n' := 6 + (nn + 14988)) (by omega) (by omega) ?_
    refine E_callT2 (fr' := 8) (k1 := 1) (n1 := 6) (k2 := (kk + 898)) (n2 := (nn + 14988)) dL_law_763 kO_L_setTongue kL_L_323 (by exact Nat.le_of_ble_eq_true rfl) (by decide) (by exact Nat.le_of_ble_eq_true rfl) (Or.inr (gW_at 649 (by decide +kernel) (by decide +kernel))) rfl ?_
    refine w_setTongue hst hS1 (fun z _ _ _ => absurd z (by decide)) (fun z => ?_)
    refine gKv ?_
    refine E_sipush (v := -7200) dL_law_766 (by decide) ?_
    refine E_icmp_ne_r (tgt := 789) dL_law_769 (by decide) (fun c0 => absurd c0 (by decide)) (fun _ => ?_)
    refine E_aload_n dL_law_772 rfl ?_
    refine E_aload dL_law_773 rfl ?_
    refine E_iconst (v := nI 2) dL_law_775 (by decide) ?_
    refine E_ialdL (v := nI (1 + lw)) dL_law_776 (l_132 hL) (k_132 hL) rfl (by omega) (by decide) ht2 ?_
    refine E_room (Nat.le_refl _) (k' := 1 + (kk + 897)) (n' := 6 + (nn + 14982)) (by omega) (by omega) ?_
    refine E_callT2 (fr' := 8) (k1 := 1) (n1 := 6) (k2 := (kk + 897)) (n2 := (nn + 14982)) dL_law_777 kO_L_setTongue kL_L_323 (by exact Nat.le_of_ble_eq_true rfl) (by decide) (by exact Nat.le_of_ble_eq_true rfl) (Or.inr (gW_at 649 (by decide +kernel) (by decide +kernel))) rfl ?_
    refine w_setTongue hst hS1 (fun z M2 hS2 hkd => ?_) (fun z => absurd ((iIn_n (by omega) (by decide) (by decide)).mpr ⟨by omega, by omega⟩) z)
    have hL2 := hS2.1.lay
    rw [gN_nI (by omega)] at hS2
    have hz2 := hz1.kd hkd hL2
    have h102 := ((hkd.2.2 132 10 (by decide) (by decide)).1).trans h101
    refine gKv ?_
    refine E_iload dL_law_780 rfl ?_
    refine E_icmp_ne_n (tgt := 789) dL_law_782 (by decide) (by omega) (by omega) (fun c_782 => ?_) (fun c_782 => ?_)
    · exact absurd rfl c_782
    · refine E_iconst (v := nI 1) dL_law_785 (by decide) ?_
      refine E_goto (tgt := 790) dL_law_786 (by decide) ?_
      refine E_istore dL_law_790 (Nat.le_of_ble_eq_true rfl) (by decide) rfl ?_
      refine E_goto (tgt := 1260) dL_law_792 (by decide) ?_
      exact E_room (Nat.le_refl _) (by omega) (by omega) (te_L_law (act := 0) hst hi K IH ⟨hS2, hz2, hx.1, hx.2, h102⟩ (hlk.cg (fun j => by rw [cN_u, if_neg (by omega)])))
  have h17 := h.wf.1.2.2
  refine E_aload dL_law_732 rfl ?_
  refine E_iconst (v := nI 2) dL_law_734 (by decide) ?_
  refine E_ialdL (v := nI (cN c 128 17)) dL_law_735 (l_132 hL) (k_132 hL) rfl (by omega) (by decide) h.b2 ?_
  refine E_istore dL_law_736 (Nat.le_of_ble_eq_true rfl) (by decide) rfl ?_
  refine E_aload dL_law_738 rfl ?_
  refine E_iconst (v := nI 2) dL_law_740 (by decide) ?_
  refine E_iconst (v := nI 1) dL_law_741 (by decide) ?_
  refine E_iload dL_law_742 rfl ?_
  refine E_iconst (v := nI 2) dL_law_744 (by decide) ?_
  refine E_room (Nat.le_refl _) (k' := 0 + (kk + 900)) (n' := 0 + (nn + 15000)) (by omega) (by omega) ?_
  refine E_callT2 (fr' := 1) (k1 := 0) (n1 := 0) (k2 := (kk + 900)) (n2 := (nn + 15000)) dL_law_745 kO_L_low kL_L_229 (by exact Nat.le_of_ble_eq_true rfl) (by decide) (by exact Nat.le_of_ble_eq_true rfl) (Or.inl rfl) rfl ?_
  refine sp_L_low (by omega) (by omega) ?_
  refine gKv ?_
  refine E_iadd_n dL_law_748 ?_
  refine E_iast dL_law_749 (l_132 hL) (k_132 hL) rfl (by omega) (by decide) ?_
  exact key _ (lowN_lt _ (by decide)) _ rfl
