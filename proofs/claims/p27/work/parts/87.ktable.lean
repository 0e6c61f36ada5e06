/-! the class: the size of a table; size -/
theorem kB.grow {c : Cf} {P : Nat → Nat} {M M' : gM} (h : kB c P M) (hN : mN M ≤ mN M') (hk : ∀ a, a < mN M → mK M' a = mK M a) (hi : ∀ a j, a < mN M → mI M' a j = mI M a j) (hr : ∀ a j, a < mN M → mR M' a j = mR M a j) : kB c P M' := by
  have h139 : 139 ≤ mN M := h.lay.1
  have hL : gLay M' := h.lay.of hN hk (fun t q => hr _ _ (by have := (gl_kT t q).2; omega))
  refine ⟨hL, h.wf, (hi _ _ (by omega)).trans h.used, ⟨fun j hj => ⟨(hi _ _ (by omega)).trans (h.sg hj), (hi _ _ (by omega)).trans (h.ex hj)⟩, fun j hj => (hi _ _ (by omega)).trans (h.lk hj), (hi _ _ (by omega)).trans h.len, (hi _ _ (by omega)).trans h.tng⟩, fun f hf => ?_, h.2.2.2.2.2⟩
  refine ⟨(hi _ _ (by unfold fb; omega)).trans (h.fcnt hf), fun q hq => ⟨(hi _ _ (by unfold fb; omega)).trans (h.fmk hf hq), (hi _ _ (by unfold fb; omega)).trans (h.fgr hf hq), (hi _ _ (by unfold fb; omega)).trans (h.fwd hf hq)⟩, fun j hj => ⟨(hr _ _ (by unfold fb; omega)).trans (h.flk hf hj), (h.kl hf hj).mv (h.wf.lk _).2.2.2.2.2 hN hk (fun a j _ q => hi a j q) (fun a j _ q => hr a j q)⟩⟩
theorem kS.grow {c : Cf} {P π : Nat → Nat} {M M' : gM} (h : kS c P π M) (hN : mN M ≤ mN M') (hk : ∀ a, a < mN M → mK M' a = mK M a) (hi : ∀ a j, a < mN M → mI M' a j = mI M a j) (hr : ∀ a j, a < mN M → mR M' a j = mR M a j) : kS c P π M' := by
  have h139 : 139 ≤ mN M := h.1.lay.1
  refine ⟨h.1.grow hN hk hi hr, ⟨fun i q => ⟨(h.2.1.1 i q).1, (hr 7 i (by omega)).trans (h.2.1.1 i q).2⟩, h.2.1.2⟩, ?_⟩
  rcases h.2.2 with ⟨q1, q2⟩ | q1
  · refine Or.inl ⟨(hi _ _ (by omega)).trans q1, ?_⟩
    have hf : kf (fun a _ => mN M ≤ a) (fun a _ => mN M ≤ a) M ((M.1, (M'.2.1, (M.2.2.1, M'.2.2.2))) : gM) :=
      ⟨rfl, rfl, fun a j z => hi a j (Nat.lt_of_not_le z), fun a j z => hr a j (Nat.lt_of_not_le z)⟩
    have g1 := q2.1.mv hf (fun x j z => by omega)
    have g2 := q2.2.mv hf (fun x j z => by omega)
    exact ⟨g1, g2⟩
  · exact Or.inr ((hi _ _ (by omega)).trans q1)
/-- a memory that differs in the longs of one place -/
def lo (s : Nat) (M M' : gM) : Prop := M'.1 = M.1 ∧ mI M' = mI M ∧ mR M' = mR M ∧ ∀ a j, ¬ a = s → mL M' a j = mL M a j
theorem lo.refl {s : Nat} {M : gM} : lo s M M := ⟨rfl, rfl, rfl, fun _ _ _ => rfl⟩
theorem lo.wr {s : Nat} {M M' : gM} (h : lo s M M') {j : Nat} {v : Int64} : lo s M (sL M' s j v) := ⟨h.1, h.2.1, h.2.2.1, fun a i q => by rw [mL_sL, if_neg (fun z => q z.1)]; exact h.2.2.2 a i q⟩
theorem szS_s {b : Nat → Nat} {k : Nat} : szS b (k + 1) = szS b k + cI (b k = 0) 0 1 + cI (seen b k (b k)) 0 (pcN 8 (b k)) := rfl
/-- the bits hold what has been seen -/
def sB (b : Nat → Nat) (k s : Nat) (M : gM) : Prop := ∀ w t, w < 4 → t < 64 → (bt (mL M s w) t ↔ sn b k (64 * w + t))
theorem sB.z {b : Nat → Nat} {k s : Nat} {M : gM} (h : sB b k s M) (e : b k = 0) : sB b (k + 1) s M := fun w t hw ht => by
  rw [h w t hw ht]
  unfold sn
  rw [seen_s]
  constructor
  · intro ⟨q1, q2⟩; exact ⟨q1, Or.inl q2⟩
  · intro ⟨q1, q2⟩; exact ⟨q1, q2.resolve_right (fun z => q1 (by omega))⟩
theorem sB.s {b : Nat → Nat} {k s : Nat} {M : gM} (h : sB b k s M) (e : ¬ b k = 0) (h8 : b k < 256) : sB b (k + 1) s (sL M s (b k / 64) (mL M s (b k / 64) ||| oneL (b k % 64))) := fun w t hw ht => by
  have hs : sn b (k + 1) (64 * w + t) ↔ sn b k (64 * w + t) ∨ b k = 64 * w + t := by
    unfold sn
    rw [seen_s]
    constructor
    · intro ⟨q1, q2⟩; exact q2.elim (fun z => Or.inl ⟨q1, z⟩) Or.inr
    · intro q; exact q.elim (fun z => ⟨z.1, Or.inl z.2⟩) (fun z => ⟨by omega, Or.inr z⟩)
  rw [hs, mL_sL]
  by_cases ew : w = b k / 64
  · rw [if_pos ⟨rfl, ew⟩, bt_or (by omega), ← ew, h w t hw ht]
    exact or_congr_right (by omega)
  · rw [if_neg (fun q => ew q.2), h w t hw ht]
    constructor
    · exact Or.inl
    · intro q; exact q.resolve_right (by omega)
set_option maxRecDepth 100000 in
set_option maxHeartbeats 4000000 in
theorem lp_X4_tableSize {g : gG} {Q : Option Value ⊕ String → gM → Prop} {c : Cf} {M0 : gM} {l p : Nat} (h8 : cN c 135 l ≤ 8) (hk0 : kLk c M0 l p) (hb : ∀ q, bgB c (l / 12) l q < 256) (K : ∀ M', mN M' = mN M0 + 1 → (∀ a, a < mN M0 → mK M' a = mK M0 a) → (∀ a j, a < mN M0 → mI M' a j = mI M0 a j ∧ mL M' a j = mL M0 a j ∧ mR M' a j = mR M0 a j) → Q (.inl (some (.int (nI (szS (bgB c (l / 12) l) 256))))) M') : ∀ k, k ≤ 256 → ∀ M s v4 v5 v6 v7, lo (mN M0) (mNew M0 (15, 4)) M → sB (bgB c (l / 12) l) k (mN M0) M → s = szS (bgB c (l / 12) l) k → E g 2 0 0 mX4_tableSize 8 [.ref (p + 1), .ref (mN M0 + 1), .int (nI s), .int (nI k), v4, v5, v6, v7] [] M Q := by
  refine lpUp 256 (fun k hk8 ih => ?_)
  intro M s v4 v5 v6 v7 hF hS hs
  have hsb := szS_b (bgB c (l / 12) l) k
  have hbk := hb k
  have hpc := pcN_b 8 (bgB c (l / 12) l k)
  have hp11 := hk0.1.2.1
  have hN : mN M = mN M0 + 1 := by show M.1.1 = _; rw [hF.1]; rfl
  have hK : mK M = mK (mNew M0 (15, 4)) := by show M.1.2 = _; rw [hF.1]; rfl
  have hsl : mN M0 < mN M := by omega
  have hsk : mK M (mN M0) = (15, 4) := by rw [hK, mK_new, if_pos rfl]
  have hk : kLk c M l p := hk0.mv h8 (by omega) (fun a q => by rw [hK, mK_new, if_neg (by omega)]) (fun a j _ q => by rw [hF.2.1, mI_new, if_neg (by omega)]) (fun a j _ q => by rw [hF.2.2.1, mR_new, if_neg (by omega)])
  refine E_iload_n dX4_tableSize_8 rfl ?_
  refine E_sipush (v := nI 256) dX4_tableSize_9 (by decide) ?_
  refine E_icmp_ge_n (tgt := 89) dX4_tableSize_12 (by decide) (by omega) (by omega) (fun c_12 => ?_) (fun c_12 => ?_)
  · refine E_iload_n dX4_tableSize_89 rfl ?_
    refine E_iret dX4_tableSize_90 (Or.inl rfl) ?_
    obtain rfl : k = 256 := by omega
    subst hs
    refine K M hN (fun a q => by rw [hK, mK_new, if_neg (by omega)]) (fun a j q => ⟨?_, ?_, ?_⟩)
    · rw [hF.2.1, mI_new, if_neg (by omega)]
    · rw [hF.2.2.2 a j (by omega), mL_new, if_neg (by omega)]
    · rw [hF.2.2.1, mR_new, if_neg (by omega)]
  · refine E_aload_n dX4_tableSize_15 rfl ?_
    refine E_getRL dX4_tableSize_16 kF_X4_16 kY_4 (Or.inr ⟨_, rfl⟩) (hk.lt0) (hk.kd) hk.r7 ?_
    refine E_iload_n dX4_tableSize_19 rfl ?_
    refine E_ialdL (v := nI (bgB c (l / 12) l k)) dX4_tableSize_20 (hk.lt (i := 10) (by decide)) (hk.kdt) rfl (by omega) (by decide) (hk.tb (by omega)) ?_
    refine E_sipush (v := nI 255) dX4_tableSize_21 (by decide) ?_
    refine E_iand dX4_tableSize_24 ?_
    rw [and255 _ hbk]
    refine E_istore dX4_tableSize_25 (Nat.le_of_ble_eq_true rfl) (by decide) rfl ?_
    refine E_iload dX4_tableSize_27 rfl ?_
    refine E_if_ne_n (tgt := 35) dX4_tableSize_29 (by decide) (by omega) (fun c_29 => ?_) (fun c_29 => ?_)
    · refine E_iinc_n (d := 1) dX4_tableSize_35 rfl rfl rfl (by decide) rfl ?_
      refine E_iload dX4_tableSize_38 rfl ?_
      refine E_bipush (v := nI 64) dX4_tableSize_40 (by decide) ?_
      refine E_idiv_n dX4_tableSize_42 (by omega) (by omega) (by omega) ?_
      refine E_istore dX4_tableSize_43 (Nat.le_of_ble_eq_true rfl) (by decide) rfl ?_
      refine E_lconst (v := 1) dX4_tableSize_45 (by decide) ?_
      refine E_iload dX4_tableSize_46 rfl ?_
      refine E_bipush (v := nI 64) dX4_tableSize_48 (by decide) ?_
      refine E_irem_n dX4_tableSize_50 (by omega) (by omega) (by omega) ?_
      refine E_lshl dX4_tableSize_51 ?_
      show E _ _ _ _ _ _ _ (.long (oneL (bgB c (l / 12) l k % 64)) :: _) _ _
      have hne : ¬ bgB c (l / 12) l k = 0 := by omega
      have hbt := hS (bgB c (l / 12) l k / 64) (bgB c (l / 12) l k % 64) (by omega) (by omega)
      rw [show 64 * (bgB c (l / 12) l k / 64) + bgB c (l / 12) l k % 64 = bgB c (l / 12) l k by omega] at hbt
      refine E_lstore dX4_tableSize_52 (Nat.le_of_ble_eq_true rfl) (by decide) rfl ?_
      refine E_aload_n dX4_tableSize_54 rfl ?_
      refine E_iload dX4_tableSize_55 rfl ?_
      refine E_lald dX4_tableSize_57 hsl hsk rfl (by omega) (by decide) ?_
      refine E_lload dX4_tableSize_58 rfl ?_
      refine E_land dX4_tableSize_60 ?_
      refine E_lconst (v := 0) dX4_tableSize_61 (by decide) ?_
      refine E_lcmp dX4_tableSize_62 ?_
      refine E_if_ne_r (tgt := 74) dX4_tableSize_63 (by decide) (fun c_63 => ?_) (fun c_63 => ?_)
      · have hse : seen (bgB c (l / 12) l) k (bgB c (l / 12) l k) := (hbt.mp (Classical.byContradiction (fun y => by
          have z2 := (bt_and (v := mL M (mN M0) (bgB c (l / 12) l k / 64)) (t := bgB c (l / 12) l k % 64) (by omega)).mpr y
          first | exact c_63 (lgc_0.mpr z2) | exact absurd (lgc_0.mpr z2) c_63))).2
        refine E_aload_n dX4_tableSize_74 rfl ?_
        refine E_iload dX4_tableSize_75 rfl ?_
        refine E_dup2 dX4_tableSize_77 rfl rfl ?_
        refine E_lald dX4_tableSize_78 hsl hsk rfl (by omega) (by decide) ?_
        refine E_lload dX4_tableSize_79 rfl ?_
        refine E_lor dX4_tableSize_81 ?_
        refine E_last dX4_tableSize_82 hsl hsk rfl (by omega) (by decide) ?_
        refine E_iinc_n (d := 1) dX4_tableSize_83 rfl rfl rfl (by decide) rfl ?_
        refine E_goto (tgt := 8) dX4_tableSize_86 (by decide) ?_
        refine ih (by omega) _ _ _ _ _ _ hF.wr (hS.s hne hbk) ?_
        rw [szS_s, cI_f hne, cI_t hse, hs]
      · have hse : ¬ seen (bgB c (l / 12) l) k (bgB c (l / 12) l k) := fun z => by
          have z2 : ¬ (mL M (mN M0) (bgB c (l / 12) l k / 64) &&& oneL (bgB c (l / 12) l k % 64)) = 0 := fun y => (bt_and (by omega)).mp y (hbt.mpr ⟨hne, z⟩)
          first | exact z2 (lgc_0.mp c_63) | exact c_63 (fun y => z2 (lgc_0.mp y)) | exact c_63 (lgc_0.mpr (Classical.byContradiction (fun y => z2 y))) | exact z2 (lgc_0.mp (Classical.not_not.mp c_63))
        refine E_iload_n dX4_tableSize_66 rfl ?_
        refine E_iload dX4_tableSize_67 rfl ?_
        refine E_callS1 (fr' := 1) (k1 := 0) (n1 := 0) (k2 := 0) (n2 := 0) dX4_tableSize_69 kO_J6_bitCount_0f7a4 kL_X4_58 rfl (by decide) (by decide) (by exact Nat.le_of_ble_eq_true rfl) (Or.inl rfl) rfl ?_
        refine sp_J6_bitCount hbk ?_
        refine gKv ?_
        refine E_iadd_n dX4_tableSize_72 ?_
        refine E_istore_n dX4_tableSize_73 (Nat.le_of_ble_eq_true rfl) (by decide) rfl ?_
        refine E_aload_n dX4_tableSize_74 rfl ?_
        refine E_iload dX4_tableSize_75 rfl ?_
        refine E_dup2 dX4_tableSize_77 rfl rfl ?_
        refine E_lald dX4_tableSize_78 hsl hsk rfl (by omega) (by decide) ?_
        refine E_lload dX4_tableSize_79 rfl ?_
        refine E_lor dX4_tableSize_81 ?_
        refine E_last dX4_tableSize_82 hsl hsk rfl (by omega) (by decide) ?_
        refine E_iinc_n (d := 1) dX4_tableSize_83 rfl rfl rfl (by decide) rfl ?_
        refine E_goto (tgt := 8) dX4_tableSize_86 (by decide) ?_
        refine ih (by omega) _ _ _ _ _ _ hF.wr (hS.s hne hbk) ?_
        rw [szS_s, cI_f hne, cI_f hse, hs]
    · refine E_goto (tgt := 83) dX4_tableSize_32 (by decide) ?_
      refine E_iinc_n (d := 1) dX4_tableSize_83 rfl rfl rfl (by decide) rfl ?_
      refine E_goto (tgt := 8) dX4_tableSize_86 (by decide) ?_
      refine ih (by omega) _ _ _ _ _ _ hF (hS.z (by assumption)) ?_
      have hse : seen (bgB c (l / 12) l) k (bgB c (l / 12) l k) := Or.inl (by assumption)
      rw [szS_s, cI_t (by assumption), cI_t hse, hs, Nat.add_zero]
set_option maxRecDepth 100000 in
set_option maxHeartbeats 4000000 in
theorem sp_X4_tableSize {g : gG} {Q : Option Value ⊕ String → gM → Prop} {c : Cf} {M0 : gM} {l p : Nat} (h8 : cN c 135 l ≤ 8) (hk0 : kLk c M0 l p) (hb : ∀ q, bgB c (l / 12) l q < 256) (K : ∀ M', mN M' = mN M0 + 1 → (∀ a, a < mN M0 → mK M' a = mK M0 a) → (∀ a j, a < mN M0 → mI M' a j = mI M0 a j ∧ mL M' a j = mL M0 a j ∧ mR M' a j = mR M0 a j) → Q (.inl (some (.int (nI (szS (bgB c (l / 12) l) 256))))) M') : E g 2 1 4 mX4_tableSize 0 [.ref (p + 1), .null, .null, .null, .null, .null, .null, .null] [] M0 Q := by
  refine E_iconst (v := nI 4) dX4_tableSize_0 (by decide) ?_
  refine E_newL (len := 4) (k := 0) (n := 0) dX4_tableSize_1 (gW_at 1221 (by decide +kernel) (by decide +kernel)) rfl (by decide) ?_
  refine E_astore_n dX4_tableSize_3 (Nat.le_of_ble_eq_true rfl) (by decide) rfl ?_
  refine E_iconst (v := nI 0) dX4_tableSize_4 (by decide) ?_
  refine E_istore_n dX4_tableSize_5 (Nat.le_of_ble_eq_true rfl) (by decide) rfl ?_
  refine E_iconst (v := nI 0) dX4_tableSize_6 (by decide) ?_
  refine E_istore_n dX4_tableSize_7 (Nat.le_of_ble_eq_true rfl) (by decide) rfl ?_
  exact lp_X4_tableSize h8 hk0 hb K 0 (Nat.zero_le _) _ 0 .null .null .null .null lo.refl (fun w t _ _ => by
    rw [mL_new, if_pos rfl]
    exact ⟨fun z => absurd z bt_0, fun z => z.2.elim (fun y => absurd y z.1) (fun y => by obtain ⟨j, y1, y2⟩ := y; exact absurd y1 (Nat.not_lt_zero j))⟩) rfl
set_option maxRecDepth 100000 in
set_option maxHeartbeats 4000000 in
theorem sp_X11_size {g : gG} {M : gM} {Q : Option Value ⊕ String → gM → Prop} (hst : (gl1 g).stackTraces = false) {c : Cf} {P π : Nat → Nat} (hS : kS c P π M) {p : Int32} (K1 : ¬ iBel p (cnt0 c) → Q (.inr "java/lang/IndexOutOfBoundsException") M) (K0 : ∀ j, j < cnt0 c → p = nI j → ∀ M', kS c P π M' → kq M M' → Q (.inl (some (.int (nI (szV c j))))) M') : E g 7 1 6 mX11_size 0 [.ref 1, .int p, .null] [] M Q := by
  have hB := hS.1
  have hL := hB.lay
  have hf : fc0 c < 2 := hB.wf.fac
  refine E_aload_n dX11_size_0 rfl ?_
  refine E_getRL dX11_size_1 kF_X11_11 kY_11 (Or.inr ⟨_, rfl⟩) (l_0 hL) (k_0 hL) (r_0_0 hL) ?_
  refine E_aload_n dX11_size_4 rfl ?_
  refine E_getIL (v := nI (fc0 c)) dX11_size_5 kF_X11_69 kY_11 (Or.inl rfl) (l_0 hL) (k_0 hL) hB.used ?_
  refine E_aaldL (v := _) dX11_size_8 (l_1 hL) (k_1 hL) (by decide) (by decide) rfl (by omega) (by decide) (hB.f1 hf) ?_
  refine E_iload_n dX11_size_9 rfl ?_
  refine E_callV1 (fr' := 1) (k1 := 0) (n1 := 0) (k2 := 1) (n2 := 6) dX11_size_10 kO_X1_lookupAt kL_X11_115 (hB.flt0 hf) (hB.fk0 hf) ⟨by decide, rfl⟩ rfl (by decide) (by decide) (by exact Nat.le_of_ble_eq_true rfl) rfl ?_
  refine sp_X1_lookupAt hB hf (fun j hj ej => ?_) (fun hn => ?_)
  · have hk := hB.kl hf hj
    refine gKv ?_
    refine E_astore_n dX11_size_13 (Nat.le_of_ble_eq_true rfl) (by decide) rfl ?_
    refine E_aload_n dX11_size_14 rfl ?_
    refine E_ifnonnull (tgt := 28) dX11_size_15 (by decide) (fun c_15 => ?_) (fun c_15 => ?_)
    · have hct := hB.wf.ct (fc0 c)
      refine E_room (Nat.le_refl _) (Nat.le_refl _) (by decide) (k' := 1) (n' := 4) ?_
      refine E_aload_n dX11_size_28 rfl ?_
      refine E_callV0 (fr' := 2) (k1 := 1) (n1 := 4) (k2 := 0) (n2 := 0) dX11_size_29 kO_X4_tableSize kL_X11_175 (hk.lt0) (hk.kd) ⟨by decide, rfl⟩  (by decide) (by decide) (by exact Nat.le_of_ble_eq_true rfl) rfl ?_
      refine sp_X4_tableSize (hB.wf.lk _).2.2.2.2.2 hk (fun q => bgB_b hB.wf _ _ _) (fun M1 n1 k1 s1 => ?_)
      rw [show (12 * fc0 c + j) / 12 = fc0 c by omega]
      refine gKv ?_
      refine E_iret dX11_size_32 (Or.inl rfl) ?_
      exact K0 j hj ej _ (hS.grow (by omega) k1 (fun a j q => (s1 a j q).1) (fun a j q => (s1 a j q).2.2)) ⟨by omega, k1, fun a j q q2 => s1 a j (by have h139 : 139 ≤ mN M := hL.1; omega)⟩
    · refine E_thI (text := "no such lookup") hst rfl rfl (gTW_at 1235 (by decide +kernel)) dX11_size_18 dX11_size_21 dX11_size_22 dX11_size_24 dX11_size_27 (by decide) (by decide) (by decide) ?_
      first | exact K1 hn | (exfalso; omega)
  · refine gKv ?_
    refine E_astore_n dX11_size_13 (Nat.le_of_ble_eq_true rfl) (by decide) rfl ?_
    refine E_aload_n dX11_size_14 rfl ?_
    refine E_ifnonnull (tgt := 28) dX11_size_15 (by decide) (fun c_15 => ?_) (fun c_15 => ?_)
    · exact absurd rfl c_15
    · refine E_thI (text := "no such lookup") hst rfl rfl (gTW_at 1235 (by decide +kernel)) dX11_size_18 dX11_size_21 dX11_size_22 dX11_size_24 dX11_size_27 (by decide) (by decide) (by decide) ?_
      first | exact K1 hn | (exfalso; omega)
