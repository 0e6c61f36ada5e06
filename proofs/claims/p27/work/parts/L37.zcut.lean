/-! the law: a sign cut -/
def cuS (c : Cf) (P π : Nat → Nat) (a k : Nat) (M0 M : gM) : Prop := kS c P π M ∧ (∀ b j, 129 ≤ b → b < 133 → mI M b j = mI M0 b j) ∧ (∀ j, mL M 130 j = mL M0 130 j) ∧ ∀ j, j < tl c → mI M 128 j = nI (tEn c (if a ≤ j ∧ j < k then j + 1 else j))
theorem cuS.set {c : Cf} {P π : Nat → Nat} {a k : Nat} {M0 M : gM} (h : cuS c P π a k M0 M) (hk : a ≤ k) : cuS c P π a (k + 1) M0 (sI M 128 k (nI (tEn c (k + 1)))) := by
  obtain ⟨h1, h2, h3, h4⟩ := h
  refine ⟨h1.law h1.C (Nat.le_refl _) (fun _ _ => rfl) (fun a j q q2 => mI_ne (by omega)) (fun _ _ _ => rfl), fun b j q q2 => (mI_ne (by omega)).trans (h2 b j q q2), fun j => h3 j, fun j hj => ?_⟩
  by_cases e : j = k
  · subst e
    rw [mI_eq, if_pos (by omega)]
  · rw [mI_nj e, h4 j hj]
    by_cases e2 : a ≤ j ∧ j < k
    · rw [if_pos e2, if_pos (by omega)]
    · rw [if_neg e2, if_neg (by omega)]
theorem tl_C {c : Cf} {a : Nat} : tl (nxC c a) = tl c - 1 := rfl
theorem zS_cut {c : Cf} {P π : Nat → Nat} {M M1 : gM} (h : zS c M) {a : Nat} (ha : a < tl c) (hc : cuS c P π a (tl c - 1) (sI M 132 1 (nI (tl c - 1))) M1) : zS (nxC c a) M1 := by
  obtain ⟨h1, h2, h3, h4⟩ := hc
  have hL := h1.1.lay
  refine h.tx' hL (nxC_wf h.wf) (fun b j q _ q2 q3 => ?_) rfl (fun b j q q2 q3 q4 => ?_) (fun j => h3 j) ?_ (fun k hk => ?_) (fun k hk => ?_) ?_ ?_
  · show (if b = 128 ∧ j = 14 then _ else if b = 141 then _ else if b = 142 then _ else _) = _
    rw [if_neg (by omega), if_neg q2, if_neg q3]
  · rw [h2 b j q q2, mI_sI, if_neg (by omega)]
  · rw [tl_C]; have := h.t10; omega
  · rw [tl_C] at hk
    show sgZ (cutF (cN c 141) a (tl c - 1) k)
    unfold cutF
    by_cases e : a ≤ k ∧ k < tl c - 1
    · rw [if_pos e]; exact h.sg (by omega)
    · rw [if_neg e]; exact h.sg (by omega)
  · rw [tl_C] at hk
    rw [h4 k (by omega)]
    show _ = nI (cutF (cN c 141) a (tl c - 1) k + 64 * cutF (cN c 142) a (tl c - 1) k)
    unfold cutF tEn
    by_cases e : a ≤ k ∧ k < tl c - 1
    · rw [if_pos e, if_pos e, if_pos e]
    · rw [if_neg e, if_neg e, if_neg e]
  · rw [h2 _ _ (by decide) (by decide), mI_eq, tl_C]
  · rw [h2 _ _ (by decide) (by decide), mI_nj (by decide), h.b2]
    rfl
set_option maxRecDepth 100000 in
set_option maxHeartbeats 4000000 in
theorem y1_L_law {g : gG} {Q : Option Value ⊕ String → gM → Prop} (hst : (gl1 g).stackTraces = false) {i kk nn : Nat} (hi : i < 110) (K : ∀ M, Q (.inl (some (.int (nI 1)))) M) (IH : ∀ c P π M lk v16 v17 v18 v19 v20 v21 v22 v23 v24, lwS c P π M → lkS c lk → E g 13 kk nn mL_law 205 [.float 0, .ref 1, .ref 129, .ref 130, .ref 131, .ref 132, .ref 133, .ref 134, .ref 135, .ref 136, .ref 137, .ref 138, .ref 139, .long lk, .null, .int (nI (i + 1)), v16, v17, v18, v19, v20, v21, v22, v23, v24] [] M Q) {M : gM} {c : Cf} {P π : Nat → Nat} {lk : Int64} (hs : lwS c P π M) (hlk : lkS c lk) {act : Nat} {u cc : Int32} {a : Nat} (ha : a < tl c) {v22 v23 v24 : Value} : ∀ M1, cuS c P π a (tl c - 1) (sI M 132 1 (nI (tl c - 1))) M1 → E g 13 (kk + 900) (nn + 15000) mL_law 1065 [.float 0, .ref 1, .ref 129, .ref 130, .ref 131, .ref 132, .ref 133, .ref 134, .ref 135, .ref 136, .ref 137, .ref 138, .ref 139, .long lk, .null, .int (nI i), .int (nI act), .int u, .int cc, .int (nI 1), .int (nI a), .int (nI (cN c 141 a)), v22, v23, v24] [] M1 Q := by
  have hS := hs.1
  have h := hs.2.1
  have hI := hs.2.2.1
  have hW := hs.2.2.2.1
  have h10 := hs.2.2.2.2
  have hL := h.lay
  have hf : fc0 c < 2 := h.wf.1.1
  have hct := h.ct hf
  have ht10 := h.t10
  intro M1 hcu
  have hz1 := zS_cut h ha hcu
  have hS1 := hcu.1
  have hw45 := (h.wf.2.2.2.2.1 a).1
  have h101 : mI M1 132 10 = nI 0 := (hcu.2.1 132 10 (by decide) (by decide)).trans ((mI_nj (by decide)).trans h10)
  have hb1 : mI M1 132 1 = nI (tl c - 1) := hz1.b1
  have hx := wf_tx hI hW (c' := nxC c a) (fun q i z => by
    show (if q = 128 ∧ i = 14 then _ else if q = 141 then _ else if q = 142 then _ else _) = _
    rw [if_neg (by omega), if_neg (by omega), if_neg (by omega)]) rfl
  have hL := hz1.lay
  refine E_aload_n dL_law_1065 rfl ?_
  refine E_aload dL_law_1066 rfl ?_
  refine E_iconst (v := nI 1) dL_law_1068 (by decide) ?_
  refine E_ialdL (v := nI (tl c - 1)) dL_law_1069 (l_132 hL) (k_132 hL) rfl (by omega) (by decide) hb1 ?_
  refine E_iconst (v := nI 1) dL_law_1070 (by decide) ?_
  refine E_iadd_n dL_law_1071 ?_
  refine E_room (Nat.le_refl _) (k' := 1 + (kk + 899)) (n' := 6 + (nn + 14994)) (by omega) (by omega) ?_
  refine E_callT2 (fr' := 9) (k1 := 1) (n1 := 6) (k2 := (kk + 899)) (n2 := (nn + 14994)) dL_law_1072 kO_L_cut kL_L_328 (by exact Nat.le_of_ble_eq_true rfl) (by decide) (by exact Nat.le_of_ble_eq_true rfl) (Or.inr (gW_at 634 (by decide +kernel) (by decide +kernel))) rfl ?_
  refine w_cut hst hS1 (fun j z e _ _ _ => absurd ((nI_eq (by omega) (by omega)).mp e) (by omega)) (fun z => ?_)
  refine gKv ?_
  refine E_sipush (v := -7100) dL_law_1075 (by decide) ?_
  refine E_icmp_ne_r (tgt := 1107) dL_law_1078 (by decide) (fun c0 => absurd c0 (by decide)) (fun _ => ?_)
  refine E_aload_n dL_law_1081 rfl ?_
  refine E_iconst (v := -1) dL_law_1082 (by decide) ?_
  refine E_room (Nat.le_refl _) (k' := 1 + (kk + 898)) (n' := 6 + (nn + 14988)) (by omega) (by omega) ?_
  refine E_callT2 (fr' := 9) (k1 := 1) (n1 := 6) (k2 := (kk + 898)) (n2 := (nn + 14988)) dL_law_1083 kO_L_cut kL_L_328 (by exact Nat.le_of_ble_eq_true rfl) (by decide) (by exact Nat.le_of_ble_eq_true rfl) (Or.inr (gW_at 634 (by decide +kernel) (by decide +kernel))) rfl ?_
  refine w_cut hst hS1 (fun j z e _ _ _ => absurd e.symm (m1_ne (by omega))) (fun z => ?_)
  refine gKv ?_
  refine E_sipush (v := -7100) dL_law_1086 (by decide) ?_
  refine E_icmp_ne_r (tgt := 1107) dL_law_1089 (by decide) (fun c0 => absurd c0 (by decide)) (fun _ => ?_)
  refine E_aload_n dL_law_1092 rfl ?_
  refine E_iload dL_law_1093 rfl ?_
  refine E_room (Nat.le_refl _) (k' := 1 + (kk + 897)) (n' := 6 + (nn + 14982)) (by omega) (by omega) ?_
  refine E_callT2 (fr' := 9) (k1 := 1) (n1 := 6) (k2 := (kk + 897)) (n2 := (nn + 14982)) dL_law_1095 kO_L_cut kL_L_328 (by exact Nat.le_of_ble_eq_true rfl) (by decide) (by exact Nat.le_of_ble_eq_true rfl) (Or.inr (gW_at 634 (by decide +kernel) (by decide +kernel))) rfl ?_
  refine w_cut hst hS1 (fun j z e M2 hS2 hkd => ?_) (fun z => absurd ((iBel_iff (by omega)).mpr ⟨a, ha, rfl⟩) z)
  obtain rfl : a = j := (nI_eq (by omega) (by omega)).mp e
  have hL2 := hS2.1.lay
  have hz2 := hz1.kd hkd hL2
  have h102 := ((hkd.2.2 132 10 (by decide) (by decide)).1).trans h101
  refine gKv ?_
  refine E_iload dL_law_1098 rfl ?_
  refine E_icmp_ne_n (tgt := 1107) dL_law_1100 (by decide) (by omega) (by omega) (fun c_1100 => ?_) (fun c_1100 => ?_)
  · exact absurd rfl c_1100
  · refine E_iconst (v := nI 1) dL_law_1103 (by decide) ?_
    refine E_goto (tgt := 1108) dL_law_1104 (by decide) ?_
    refine E_istore dL_law_1108 (Nat.le_of_ble_eq_true rfl) (by decide) rfl ?_
    refine E_goto (tgt := 1260) dL_law_1110 (by decide) ?_
    exact E_room (Nat.le_refl _) (by omega) (by omega) (te_L_law (act := 0) hst hi K IH ⟨hS2, hz2, hx.1, hx.2, h102⟩ (hlk.cg (fun j => rfl)))
set_option maxRecDepth 100000 in
set_option maxHeartbeats 4000000 in
theorem y0_L_law {g : gG} {Q : Option Value ⊕ String → gM → Prop} (hst : (gl1 g).stackTraces = false) {i kk nn : Nat} (hi : i < 110) (K : ∀ M, Q (.inl (some (.int (nI 1)))) M) (IH : ∀ c P π M lk v16 v17 v18 v19 v20 v21 v22 v23 v24, lwS c P π M → lkS c lk → E g 13 kk nn mL_law 205 [.float 0, .ref 1, .ref 129, .ref 130, .ref 131, .ref 132, .ref 133, .ref 134, .ref 135, .ref 136, .ref 137, .ref 138, .ref 139, .long lk, .null, .int (nI (i + 1)), v16, v17, v18, v19, v20, v21, v22, v23, v24] [] M Q) {M : gM} {c : Cf} {P π : Nat → Nat} {lk : Int64} (hs : lwS c P π M) (hlk : lkS c lk) {act : Nat} {u cc : Int32} {a : Nat} (ha : a < tl c) {v23 v24 : Value} : ∀ k, k ≤ tl c - 1 → a ≤ k → ∀ M1, cuS c P π a k (sI M 132 1 (nI (tl c - 1))) M1 → E g 13 (kk + 900) (nn + 15000) mL_law 1040 [.float 0, .ref 1, .ref 129, .ref 130, .ref 131, .ref 132, .ref 133, .ref 134, .ref 135, .ref 136, .ref 137, .ref 138, .ref 139, .long lk, .null, .int (nI i), .int (nI act), .int u, .int cc, .int (nI 1), .int (nI a), .int (nI (cN c 141 a)), .int (nI k), v23, v24] [] M1 Q := by
  refine lpUp (tl c - 1) (fun k hk ih => ?_)
  intro hak M1 hcu
  have hS := hs.1
  have h := hs.2.1
  have hI := hs.2.2.1
  have hW := hs.2.2.2.1
  have h10 := hs.2.2.2.2
  have hL := h.lay
  have hf : fc0 c < 2 := h.wf.1.1
  have hct := h.ct hf
  have ht10 := h.t10
  have hL := hcu.1.1.lay
  have hb1 : mI M1 132 1 = nI (tl c - 1) := (hcu.2.1 132 1 (by decide) (by decide)).trans mI_eq
  refine E_iload dL_law_1040 rfl ?_
  refine E_aload dL_law_1042 rfl ?_
  refine E_iconst (v := nI 1) dL_law_1044 (by decide) ?_
  refine E_ialdL (v := nI (tl c - 1)) dL_law_1045 (l_132 hL) (k_132 hL) rfl (by omega) (by decide) hb1 ?_
  refine E_icmp_ge_n (tgt := 1065) dL_law_1046 (by decide) (by omega) (by omega) (fun c_1046 => ?_) (fun c_1046 => ?_)
  · obtain rfl : k = tl c - 1 := by omega
    exact y1_L_law hst hi K IH hs hlk ha M1 hcu
  · refine E_aload_n dL_law_1049 rfl ?_
    refine E_iload dL_law_1050 rfl ?_
    refine E_aload_n dL_law_1052 rfl ?_
    refine E_iload dL_law_1053 rfl ?_
    refine E_iconst (v := nI 1) dL_law_1055 (by decide) ?_
    refine E_iadd_n dL_law_1056 ?_
    refine E_ialdL (v := nI (tEn c (k + 1))) dL_law_1057 (l_128 hL) (k_128 hL) rfl (by omega) (by decide) ((hcu.2.2.2 (k + 1) (by omega)).trans (by rw [if_neg (by omega)])) ?_
    refine E_iast dL_law_1058 (l_128 hL) (k_128 hL) rfl (by omega) (by decide) ?_
    have hcu2 := hcu.set hak
    refine E_iinc_n (d := 1) dL_law_1059 rfl rfl rfl (by decide) rfl ?_
    refine E_goto (tgt := 1040) dL_law_1062 (by decide) ?_
    exact ih (by omega) (by omega) _ hcu2
set_option maxRecDepth 100000 in
set_option maxHeartbeats 4000000 in
theorem tc_L_law {g : gG} {Q : Option Value ⊕ String → gM → Prop} (hst : (gl1 g).stackTraces = false) {i kk nn : Nat} (hi : i < 110) (K : ∀ M, Q (.inl (some (.int (nI 1)))) M) (IH : ∀ c P π M lk v16 v17 v18 v19 v20 v21 v22 v23 v24, lwS c P π M → lkS c lk → E g 13 kk nn mL_law 205 [.float 0, .ref 1, .ref 129, .ref 130, .ref 131, .ref 132, .ref 133, .ref 134, .ref 135, .ref 136, .ref 137, .ref 138, .ref 139, .long lk, .null, .int (nI (i + 1)), v16, v17, v18, v19, v20, v21, v22, v23, v24] [] M Q) {M : gM} {c : Cf} {P π : Nat → Nat} {lk : Int64} (hs : lwS c P π M) (hlk : lkS c lk) {act : Nat} {u cc : Int32} {v20 v21 v22 v23 v24 : Value} (h0 : 0 < tl c) : E g 13 (kk + 900) (nn + 15000) mL_law 1008 [.float 0, .ref 1, .ref 129, .ref 130, .ref 131, .ref 132, .ref 133, .ref 134, .ref 135, .ref 136, .ref 137, .ref 138, .ref 139, .long lk, .null, .int (nI i), .int (nI act), .int u, .int cc, .int (nI 1), v20, v21, v22, v23, v24] [] M Q := by
  have hS := hs.1
  have h := hs.2.1
  have hI := hs.2.2.1
  have hW := hs.2.2.2.1
  have h10 := hs.2.2.2.2
  have hL := h.lay
  have hf : fc0 c < 2 := h.wf.1.1
  have hct := h.ct hf
  have ht10 := h.t10
  have h1T : 1 ≤ tl c := h0
  have key : ∀ a, a < tl c → ∀ MM, MM = (sI M 132 1 (nI (tl c - 1))) → E g 13 (kk + 900) (nn + 15000) mL_law 1036 [.float 0, .ref 1, .ref 129, .ref 130, .ref 131, .ref 132, .ref 133, .ref 134, .ref 135, .ref 136, .ref 137, .ref 138, .ref 139, .long lk, .null, .int (nI i), .int (nI act), .int u, .int cc, .int (nI 1), .int (nI a), .int (nI (cN c 141 a)), v22, v23, v24] [] MM Q := by
    intro a ha MM eM
    have hcu : cuS c P π a a (sI M 132 1 (nI (tl c - 1))) MM := by
      rw [eM]
      refine ⟨hS.law hS.C (Nat.le_refl _) (fun _ _ => rfl) (fun a j q q2 => mI_ne (by omega)) (fun _ _ _ => rfl), fun _ _ _ _ => rfl, fun _ => rfl, fun j hj => ?_⟩
      rw [if_neg (by omega)]
      exact (mI_ne (by decide)).trans (h.tx hj)
    have hL := hcu.1.1.lay
    refine E_iload dL_law_1036 rfl ?_
    refine E_istore dL_law_1038 (Nat.le_of_ble_eq_true rfl) (by decide) rfl ?_
    exact y0_L_law hst hi K IH hs hlk ha a (by omega) (Nat.le_refl _) MM hcu
  refine E_iload dL_law_1008 rfl ?_
  refine E_aload dL_law_1010 rfl ?_
  refine E_iconst (v := nI 1) dL_law_1012 (by decide) ?_
  refine E_ialdL (v := nI (tl c)) dL_law_1013 (l_132 hL) (k_132 hL) rfl (by omega) (by decide) h.b1 ?_
  refine E_room (Nat.le_refl _) (k' := 0 + (kk + 900)) (n' := 0 + (nn + 15000)) (by omega) (by omega) ?_
  refine E_callT2 (fr' := 1) (k1 := 0) (n1 := 0) (k2 := (kk + 900)) (n2 := (nn + 15000)) dL_law_1014 kO_L_low kL_L_229 (by exact Nat.le_of_ble_eq_true rfl) (by decide) (by exact Nat.le_of_ble_eq_true rfl) (Or.inl rfl) rfl ?_
  refine sp_L_low (by omega) (by omega) ?_
  have hla := lowN_lt u h0
  generalize lowN u (tl c) = la at hla ⊢
  refine gKv ?_
  refine E_istore dL_law_1017 (Nat.le_of_ble_eq_true rfl) (by decide) rfl ?_
  refine E_aload_n dL_law_1019 rfl ?_
  refine E_iload dL_law_1020 rfl ?_
  refine E_ialdL (v := nI (tEn _ _)) dL_law_1022 (l_128 hL) (k_128 hL) rfl (by omega) (by decide) (h.tx (by omega)) ?_
  refine E_bipush (v := nI 63) dL_law_1023 (by decide) ?_
  refine E_iand dL_law_1025 ?_
  rw [tE_63 h.wf]
  refine E_istore dL_law_1026 (Nat.le_of_ble_eq_true rfl) (by decide) rfl ?_
  refine E_aload dL_law_1028 rfl ?_
  refine E_iconst (v := nI 1) dL_law_1030 (by decide) ?_
  refine E_dup2 dL_law_1031 rfl rfl ?_
  refine E_ialdL (v := nI (tl c)) dL_law_1032 (l_132 hL) (k_132 hL) rfl (by omega) (by decide) h.b1 ?_
  refine E_iconst (v := nI 1) dL_law_1033 (by decide) ?_
  refine E_isub_n dL_law_1034 (by omega) ?_
  refine E_iast dL_law_1035 (l_132 hL) (k_132 hL) rfl (by omega) (by decide) ?_
  exact key _ hla _ rfl
