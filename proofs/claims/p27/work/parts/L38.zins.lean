/-! the law: a sign inserted -/
def inS (c : Cf) (P π : Nat → Nat) (k : Nat) (M0 M : gM) : Prop := kS c P π M ∧ (∀ b j, 129 ≤ b → b < 133 → mI M b j = mI M0 b j) ∧ (∀ j, mL M 130 j = mL M0 130 j) ∧ (∀ j, j ≤ tl c → k < j → mI M 128 j = nI (tEn c (j - 1))) ∧ ∀ j, j ≤ k → j < tl c → mI M 128 j = nI (tEn c j)
theorem inS.set {c : Cf} {P π : Nat → Nat} {k : Nat} {M0 M : gM} (h : inS c P π k M0 M) (h0 : 0 < k) : inS c P π (k - 1) M0 (sI M 128 k (nI (tEn c (k - 1)))) := by
  obtain ⟨h1, h2, h3, h4, h5⟩ := h
  refine ⟨h1.law h1.C (Nat.le_refl _) (fun _ _ => rfl) (fun a j q q2 => mI_ne (by omega)) (fun _ _ _ => rfl), fun b j q q2 => (mI_ne (by omega)).trans (h2 b j q q2), fun j => h3 j, fun j hj hk => ?_, fun j hj hk => ?_⟩
  · by_cases e : j = k
    · subst e
      rw [mI_eq]
    · rw [mI_nj e, h4 j hj (by omega)]
  · rw [mI_nj (by omega), h5 j (by omega) hk]
theorem tl_I {c : Cf} {a s : Nat} : tl (nxI c a s) = tl c + 1 := rfl
theorem zS_ins {c : Cf} {P π : Nat → Nat} {M M1 : gM} (h : zS c M) {a s : Nat} (ha : a ≤ tl c) (h10 : tl c < 10) (hs : sgZ s) (hc : inS c P π a M M1) : zS (nxI c a s) (sI (sI M1 128 a (nI s)) 132 1 (nI (tl c + 1))) := by
  obtain ⟨h1, h2, h3, h4, h5⟩ := hc
  have hL := h1.1.lay
  have hs45 : s < 45 := by unfold sgZ at hs; omega
  refine h.tx' (hL.of (Nat.le_refl _) (fun _ _ => rfl) (fun _ _ => rfl)) (nxI_wf h.wf (by omega) hs45) (fun b j q _ q2 q3 => ?_) rfl (fun b j q q2 q3 q4 => ?_) (fun j => h3 j) ?_ (fun k hk => ?_) (fun k hk => ?_) ?_ ?_
  · show (if b = 128 ∧ j = 14 then _ else if b = 141 then _ else if b = 142 then _ else _) = _
    rw [if_neg (by omega), if_neg q2, if_neg q3]
  · rw [mI_sI, if_neg (by omega), mI_ne (by omega)]; exact h2 b j q q2
  · rw [tl_I]; omega
  · rw [tl_I] at hk
    show sgZ (insF (cN c 141) a (tl c) s k)
    unfold insF
    by_cases e : k < a ∨ tl c < k
    · rw [if_pos e]; exact h.sg (by omega)
    · rw [if_neg e]
      by_cases e2 : k = a
      · rw [if_pos e2]; exact hs
      · rw [if_neg e2]; exact h.sg (by omega)
  · rw [tl_I] at hk
    rw [mI_ne (by decide)]
    show _ = nI (insF (cN c 141) a (tl c) s k + 64 * insF (cN c 142) a (tl c) 0 k)
    unfold insF
    by_cases e2 : k = a
    · subst e2
      rw [mI_eq, if_neg (by omega), if_pos rfl, if_neg (by omega), if_pos rfl]
      all_goals exact congrArg nI (by omega)
    · rw [mI_nj e2]
      by_cases e : k < a ∨ tl c < k
      · rw [if_pos e, if_pos e, h5 k (by omega) (by omega)]; rfl
      · rw [if_neg e, if_neg e, if_neg e2, if_neg e2, h4 k (by omega) (by omega)]; rfl
  · rw [mI_eq, tl_I]
  · rw [mI_nj (by decide), mI_ne (by decide), h2 _ _ (by decide) (by decide), h.b2]
    rfl
set_option maxRecDepth 100000 in
set_option maxHeartbeats 4000000 in
theorem z1_L_law {g : gG} {Q : Option Value ⊕ String → gM → Prop} (hst : (gl1 g).stackTraces = false) {i kk nn : Nat} (hi : i < 110) (K : ∀ M, Q (.inl (some (.int (nI 1)))) M) (IH : ∀ c P π M lk v16 v17 v18 v19 v20 v21 v22 v23 v24, lwS c P π M → lkS c lk → E g 13 kk nn mL_law 205 [.float 0, .ref 1, .ref 129, .ref 130, .ref 131, .ref 132, .ref 133, .ref 134, .ref 135, .ref 136, .ref 137, .ref 138, .ref 139, .long lk, .null, .int (nI (i + 1)), v16, v17, v18, v19, v20, v21, v22, v23, v24] [] M Q) {M : gM} {c : Cf} {P π : Nat → Nat} {lk : Int64} (hs : lwS c P π M) (hlk : lkS c lk) {act : Nat} {u cc : Int32} {a s : Nat} (ha : a ≤ tl c) (h1T : tl c < 10) (hsg : sgZ s) {v22 v23 v24 : Value} : ∀ M1, inS c P π a M M1 → E g 13 (kk + 896) (nn + 14976) mL_law 1224 [.float 0, .ref 1, .ref 129, .ref 130, .ref 131, .ref 132, .ref 133, .ref 134, .ref 135, .ref 136, .ref 137, .ref 138, .ref 139, .long lk, .null, .int (nI i), .int (nI act), .int u, .int cc, .int (nI 1), .int (nI a), .int (nI s), v22, v23, v24] [] M1 Q := by
  have hS := hs.1
  have h := hs.2.1
  have hI := hs.2.2.1
  have hW := hs.2.2.2.1
  have h10 := hs.2.2.2.2
  have hL := h.lay
  have hf : fc0 c < 2 := h.wf.1.1
  have hct := h.ct hf
  have ht10 := h.t10
  have hs45 : s < 45 := by unfold sgZ at hsg; omega
  have hsi : iSign (nI s) := by
    unfold sgZ at hsg
    rcases hsg with z | z
    · exact Or.inl (in_n (by omega) (by decide))
    · exact Or.inr ((iIn_n (by omega) (by decide) (by decide)).mpr ⟨z.1, by omega⟩)
  have hin : iIn (nI a) (nI 0) (nI (tl c)) := in_n ha (by omega)
  intro M1 hin1
  have hb1 : mI M1 132 1 = nI (tl c) := (hin1.2.1 132 1 (by decide) (by decide)).trans h.b1
  have hb0 : mI M1 132 10 = nI 0 := (hin1.2.1 132 10 (by decide) (by decide)).trans h10
  have key : ∀ MM, MM = (sI (sI M1 128 a (nI s)) 132 1 (nI (tl c + 1))) → E g 13 (kk + 896) (nn + 14976) mL_law 1238 [.float 0, .ref 1, .ref 129, .ref 130, .ref 131, .ref 132, .ref 133, .ref 134, .ref 135, .ref 136, .ref 137, .ref 138, .ref 139, .long lk, .null, .int (nI i), .int (nI act), .int u, .int cc, .int (nI 1), .int (nI a), .int (nI s), v22, v23, v24] [] MM Q := by
    intro MM eM
    have hz1 : zS (nxI c a s) MM := by rw [eM]; exact zS_ins h ha h1T hsg hin1
    have hS1 : kS c P π MM := by rw [eM]; exact hin1.1.law hin1.1.C (Nat.le_refl _) (fun _ _ => rfl) (fun a j q q2 => (mI_ne (by omega)).trans (mI_ne (by omega))) (fun _ _ _ => rfl)
    have h101 : mI MM 132 10 = nI 0 := by rw [eM]; exact (mI_nj (by decide)).trans ((mI_ne (by decide)).trans hb0)
    have hL := hz1.lay
    have hx := wf_tx hI hW (c' := nxI c a s) (fun q i z => by
      show (if q = 128 ∧ i = 14 then _ else if q = 141 then _ else if q = 142 then _ else _) = _
      rw [if_neg (by omega), if_neg (by omega), if_neg (by omega)]) rfl
    refine E_aload_n dL_law_1238 rfl ?_
    refine E_iload dL_law_1239 rfl ?_
    refine E_iload dL_law_1241 rfl ?_
    refine E_room (Nat.le_refl _) (k' := 1 + (kk + 895)) (n' := 6 + (nn + 14970)) (by omega) (by omega) ?_
    refine E_callT3 (fr' := 8) (k1 := 1) (n1 := 6) (k2 := (kk + 895)) (n2 := (nn + 14970)) dL_law_1243 kO_L_insert kL_L_330 (by exact Nat.le_of_ble_eq_true rfl) (by decide) (by exact Nat.le_of_ble_eq_true rfl) (Or.inr (gW_at 621 (by decide +kernel) (by decide +kernel))) rfl ?_
    refine w_insert hst hS1 (fun j v z e z2 e2 _ _ M2 hS2 hkd => ?_) (fun z => absurd hin z) (fun _ z => absurd hsi z) (fun _ _ z => absurd z (by omega))
    obtain rfl : a = j := (nI_eq (by omega) (by omega)).mp e
    obtain rfl : s = v := (nI_eq (by omega) (by omega)).mp e2
    have hL2 := hS2.1.lay
    have hz2 := hz1.kd hkd hL2
    have h102 := ((hkd.2.2 132 10 (by decide) (by decide)).1).trans h101
    have hA1 : mI M2 132 1 = nI (tl c + 1) := hz2.b1
    have hL := hL2
    refine gKv ?_
    refine E_aload dL_law_1246 rfl ?_
    refine E_iconst (v := nI 1) dL_law_1248 (by decide) ?_
    refine E_ialdL (v := nI (tl c + 1)) dL_law_1249 (l_132 hL) (k_132 hL) rfl (by omega) (by decide) hA1 ?_
    refine E_icmp_ne_n (tgt := 1257) dL_law_1250 (by decide) (by omega) (by omega) (fun c_1250 => ?_) (fun c_1250 => ?_)
    · exact absurd rfl c_1250
    · refine E_iconst (v := nI 1) dL_law_1253 (by decide) ?_
      refine E_goto (tgt := 1258) dL_law_1254 (by decide) ?_
      refine E_istore dL_law_1258 (Nat.le_of_ble_eq_true rfl) (by decide) rfl ?_
      exact E_room (Nat.le_refl _) (by omega) (by omega) (te_L_law (act := 0) hst hi K IH ⟨hS2, hz2, hx.1, hx.2, h102⟩ (hlk.cg (fun j => rfl)))
  have hL := hin1.1.1.lay
  refine E_aload_n dL_law_1224 rfl ?_
  refine E_iload dL_law_1225 rfl ?_
  refine E_iload dL_law_1227 rfl ?_
  refine E_iast dL_law_1229 (l_128 hL) (k_128 hL) rfl (by omega) (by decide) ?_
  refine E_aload dL_law_1230 rfl ?_
  refine E_iconst (v := nI 1) dL_law_1232 (by decide) ?_
  refine E_dup2 dL_law_1233 rfl rfl ?_
  refine E_ialdL (v := nI (tl c)) dL_law_1234 (l_132 hL) (k_132 hL) rfl (by omega) (by decide) ((mI_ne (by decide)).trans hb1) ?_
  refine E_iconst (v := nI 1) dL_law_1235 (by decide) ?_
  refine E_iadd_n dL_law_1236 ?_
  refine E_iast dL_law_1237 (l_132 hL) (k_132 hL) rfl (by omega) (by decide) ?_
  exact key _ rfl
set_option maxRecDepth 100000 in
set_option maxHeartbeats 4000000 in
theorem z0_L_law {g : gG} {Q : Option Value ⊕ String → gM → Prop} (hst : (gl1 g).stackTraces = false) {i kk nn : Nat} (hi : i < 110) (K : ∀ M, Q (.inl (some (.int (nI 1)))) M) (IH : ∀ c P π M lk v16 v17 v18 v19 v20 v21 v22 v23 v24, lwS c P π M → lkS c lk → E g 13 kk nn mL_law 205 [.float 0, .ref 1, .ref 129, .ref 130, .ref 131, .ref 132, .ref 133, .ref 134, .ref 135, .ref 136, .ref 137, .ref 138, .ref 139, .long lk, .null, .int (nI (i + 1)), v16, v17, v18, v19, v20, v21, v22, v23, v24] [] M Q) {M : gM} {c : Cf} {P π : Nat → Nat} {lk : Int64} (hs : lwS c P π M) (hlk : lkS c lk) {act : Nat} {u cc : Int32} {a s : Nat} (ha : a ≤ tl c) (h1T : tl c < 10) (hsg : sgZ s) {v23 v24 : Value} : ∀ r k, k = a + r → k ≤ tl c → ∀ M1, inS c P π k M M1 → E g 13 (kk + 896) (nn + 14976) mL_law 1201 [.float 0, .ref 1, .ref 129, .ref 130, .ref 131, .ref 132, .ref 133, .ref 134, .ref 135, .ref 136, .ref 137, .ref 138, .ref 139, .long lk, .null, .int (nI i), .int (nI act), .int u, .int cc, .int (nI 1), .int (nI a), .int (nI s), .int (nI k), v23, v24] [] M1 Q := by
  intro r
  induction r with
  | zero =>
    intro k hk hkt M1 hin1
    have hL := hin1.1.1.lay
    have ht10 := hs.2.1.t10
    obtain rfl : k = a := by omega
    refine E_iload dL_law_1201 rfl ?_
    refine E_iload dL_law_1203 rfl ?_
    refine E_icmp_le_n (tgt := 1224) dL_law_1205 (by decide) (by omega) (by omega) (fun c_1205 => ?_) (fun c_1205 => ?_)
    · exact z1_L_law hst hi K IH hs hlk ha h1T hsg M1 hin1
    · exact absurd c_1205 (by omega)
  | succ r ih =>
    intro k hk hkt M1 hin1
    have hL := hin1.1.1.lay
    have ht10 := hs.2.1.t10
    refine E_iload dL_law_1201 rfl ?_
    refine E_iload dL_law_1203 rfl ?_
    refine E_icmp_le_n (tgt := 1224) dL_law_1205 (by decide) (by omega) (by omega) (fun c_1205 => ?_) (fun c_1205 => ?_)
    · exact absurd c_1205 (by omega)
    · refine E_aload_n dL_law_1208 rfl ?_
      refine E_iload dL_law_1209 rfl ?_
      refine E_aload_n dL_law_1211 rfl ?_
      refine E_iload dL_law_1212 rfl ?_
      refine E_iconst (v := nI 1) dL_law_1214 (by decide) ?_
      refine E_isub_n dL_law_1215 (by omega) ?_
      refine E_ialdL (v := nI (tEn c (k - 1))) dL_law_1216 (l_128 hL) (k_128 hL) rfl (by omega) (by decide) (hin1.2.2.2.2 (k - 1) (by omega) (by omega)) ?_
      refine E_iast dL_law_1217 (l_128 hL) (k_128 hL) rfl (by omega) (by decide) ?_
      have hin2 := hin1.set (by omega)
      refine E_iinc_d dL_law_1218 rfl rfl (by decide) rfl ?_
      refine E_goto (tgt := 1201) dL_law_1221 (by decide) ?_
      rw [show dI k = nI (k - 1) from dI_pos (by omega)]
      exact ih (k - 1) (by omega) (by omega) _ hin2
set_option maxRecDepth 100000 in
set_option maxHeartbeats 4000000 in
theorem ti_L_law {g : gG} {Q : Option Value ⊕ String → gM → Prop} (hst : (gl1 g).stackTraces = false) {i kk nn : Nat} (hi : i < 110) (K : ∀ M, Q (.inl (some (.int (nI 1)))) M) (IH : ∀ c P π M lk v16 v17 v18 v19 v20 v21 v22 v23 v24, lwS c P π M → lkS c lk → E g 13 kk nn mL_law 205 [.float 0, .ref 1, .ref 129, .ref 130, .ref 131, .ref 132, .ref 133, .ref 134, .ref 135, .ref 136, .ref 137, .ref 138, .ref 139, .long lk, .null, .int (nI (i + 1)), v16, v17, v18, v19, v20, v21, v22, v23, v24] [] M Q) {M : gM} {c : Cf} {P π : Nat → Nat} {lk : Int64} (hs : lwS c P π M) (hlk : lkS c lk) {act : Nat} {u cc : Int32} {v20 v21 v22 v23 v24 : Value} (h1T : tl c < 10) : E g 13 (kk + 900) (nn + 15000) mL_law 1113 [.float 0, .ref 1, .ref 129, .ref 130, .ref 131, .ref 132, .ref 133, .ref 134, .ref 135, .ref 136, .ref 137, .ref 138, .ref 139, .long lk, .null, .int (nI i), .int (nI act), .int u, .int cc, .int (nI 1), v20, v21, v22, v23, v24] [] M Q := by
  have hS := hs.1
  have h := hs.2.1
  have hI := hs.2.2.1
  have hW := hs.2.2.2.1
  have h10 := hs.2.2.2.2
  have hL := h.lay
  have hf : fc0 c < 2 := h.wf.1.1
  have hct := h.ct hf
  have ht10 := h.t10
  refine E_iload dL_law_1113 rfl ?_
  refine E_aload dL_law_1115 rfl ?_
  refine E_iconst (v := nI 1) dL_law_1117 (by decide) ?_
  refine E_ialdL (v := nI (tl c)) dL_law_1118 (l_132 hL) (k_132 hL) rfl (by omega) (by decide) h.b1 ?_
  refine E_iconst (v := nI 1) dL_law_1119 (by decide) ?_
  refine E_iadd_n dL_law_1120 ?_
  refine E_room (Nat.le_refl _) (k' := 0 + (kk + 900)) (n' := 0 + (nn + 15000)) (by omega) (by omega) ?_
  refine E_callT2 (fr' := 1) (k1 := 0) (n1 := 0) (k2 := (kk + 900)) (n2 := (nn + 15000)) dL_law_1121 kO_L_low kL_L_229 (by exact Nat.le_of_ble_eq_true rfl) (by decide) (by exact Nat.le_of_ble_eq_true rfl) (Or.inl rfl) rfl ?_
  refine sp_L_low (by omega) (by omega) ?_
  have hla := lowN_lt u (n := tl c + 1) (by omega)
  generalize lowN u (tl c + 1) = la at hla ⊢
  have hin : iIn (nI la) (nI 0) (nI (tl c)) := in_n (by omega) (by omega)
  refine gKv ?_
  refine E_istore dL_law_1124 (Nat.le_of_ble_eq_true rfl) (by decide) rfl ?_
  refine E_iload dL_law_1126 rfl ?_
  refine E_room (Nat.le_refl _) (k' := 0 + (kk + 900)) (n' := 0 + (nn + 15000)) (by omega) (by omega) ?_
  refine E_callT1 (fr' := 2) (k1 := 0) (n1 := 0) (k2 := (kk + 900)) (n2 := (nn + 15000)) dL_law_1128 kO_L_signBy kL_L_276 (by exact Nat.le_of_ble_eq_true rfl) (by decide) (by exact Nat.le_of_ble_eq_true rfl) (Or.inl rfl) rfl ?_
  refine sp_L_signBy (fun s hsg => ?_)
  refine gKv ?_
  refine E_istore dL_law_1131 (Nat.le_of_ble_eq_true rfl) (by decide) rfl ?_
  refine E_aload_n dL_law_1133 rfl ?_
  refine E_aload dL_law_1134 rfl ?_
  refine E_iconst (v := nI 1) dL_law_1136 (by decide) ?_
  refine E_ialdL (v := nI (tl c)) dL_law_1137 (l_132 hL) (k_132 hL) rfl (by omega) (by decide) h.b1 ?_
  refine E_iconst (v := nI 1) dL_law_1138 (by decide) ?_
  refine E_iadd_n dL_law_1139 ?_
  refine E_bipush (v := nI 24) dL_law_1140 (by decide) ?_
  refine E_room (Nat.le_refl _) (k' := 1 + (kk + 899)) (n' := 6 + (nn + 14994)) (by omega) (by omega) ?_
  refine E_callT3 (fr' := 8) (k1 := 1) (n1 := 6) (k2 := (kk + 899)) (n2 := (nn + 14994)) dL_law_1142 kO_L_insert kL_L_330 (by exact Nat.le_of_ble_eq_true rfl) (by decide) (by exact Nat.le_of_ble_eq_true rfl) (Or.inr (gW_at 621 (by decide +kernel) (by decide +kernel))) rfl ?_
  refine w_insert hst hS (fun j v z e _ _ _ _ _ _ _ => absurd ((nI_eq (by omega) (by omega)).mp e) (by omega)) (fun z => ?_) (fun z _ => absurd ((iIn_n (by omega) (by decide) (by omega)).mp z).2 (by omega)) (fun z _ _ => absurd ((iIn_n (by omega) (by decide) (by omega)).mp z).2 (by omega))
  refine gKv ?_
  refine E_sipush (v := -7100) dL_law_1145 (by decide) ?_
  refine E_icmp_ne_r (tgt := 1193) dL_law_1148 (by decide) (fun c0 => absurd c0 (by decide)) (fun _ => ?_)
  refine E_aload_n dL_law_1151 rfl ?_
  refine E_iload dL_law_1152 rfl ?_
  refine E_bipush (v := nI 24) dL_law_1154 (by decide) ?_
  refine E_room (Nat.le_refl _) (k' := 1 + (kk + 898)) (n' := 6 + (nn + 14988)) (by omega) (by omega) ?_
  refine E_callT3 (fr' := 8) (k1 := 1) (n1 := 6) (k2 := (kk + 898)) (n2 := (nn + 14988)) dL_law_1156 kO_L_insert kL_L_330 (by exact Nat.le_of_ble_eq_true rfl) (by decide) (by exact Nat.le_of_ble_eq_true rfl) (Or.inr (gW_at 621 (by decide +kernel) (by decide +kernel))) rfl ?_
  refine w_insert hst hS (fun j v _ _ _ _ z _ _ _ _ => absurd z (by decide)) (fun z => absurd hin z) (fun _ z => ?_) (fun _ z _ => absurd z (by decide))
  refine gKv ?_
  refine E_sipush (v := -7200) dL_law_1159 (by decide) ?_
  refine E_icmp_ne_r (tgt := 1193) dL_law_1162 (by decide) (fun c0 => absurd c0 (by decide)) (fun _ => ?_)
  refine E_aload_n dL_law_1165 rfl ?_
  refine E_iload dL_law_1166 rfl ?_
  refine E_bipush (v := nI 29) dL_law_1168 (by decide) ?_
  refine E_room (Nat.le_refl _) (k' := 1 + (kk + 897)) (n' := 6 + (nn + 14982)) (by omega) (by omega) ?_
  refine E_callT3 (fr' := 8) (k1 := 1) (n1 := 6) (k2 := (kk + 897)) (n2 := (nn + 14982)) dL_law_1170 kO_L_insert kL_L_330 (by exact Nat.le_of_ble_eq_true rfl) (by decide) (by exact Nat.le_of_ble_eq_true rfl) (Or.inr (gW_at 621 (by decide +kernel) (by decide +kernel))) rfl ?_
  refine w_insert hst hS (fun j v _ _ _ _ z _ _ _ _ => absurd z (by decide)) (fun z => absurd hin z) (fun _ z => ?_) (fun _ z _ => absurd z (by decide))
  refine gKv ?_
  refine E_sipush (v := -7200) dL_law_1173 (by decide) ?_
  refine E_icmp_ne_r (tgt := 1193) dL_law_1176 (by decide) (fun c0 => absurd c0 (by decide)) (fun _ => ?_)
  refine E_aload_n dL_law_1179 rfl ?_
  refine E_iload dL_law_1180 rfl ?_
  refine E_bipush (v := nI 45) dL_law_1182 (by decide) ?_
  refine E_room (Nat.le_refl _) (k' := 1 + (kk + 896)) (n' := 6 + (nn + 14976)) (by omega) (by omega) ?_
  refine E_callT3 (fr' := 8) (k1 := 1) (n1 := 6) (k2 := (kk + 896)) (n2 := (nn + 14976)) dL_law_1184 kO_L_insert kL_L_330 (by exact Nat.le_of_ble_eq_true rfl) (by decide) (by exact Nat.le_of_ble_eq_true rfl) (Or.inr (gW_at 621 (by decide +kernel) (by decide +kernel))) rfl ?_
  refine w_insert hst hS (fun j v _ _ _ _ z _ _ _ _ => absurd z (by decide)) (fun z => absurd hin z) (fun _ z => ?_) (fun _ z _ => absurd z (by decide))
  refine gKv ?_
  refine E_sipush (v := -7200) dL_law_1187 (by decide) ?_
  refine E_icmp_eq (tgt := 1195) dL_law_1190 (by decide) (fun _ => ?_) (fun c0 => absurd (by decide) c0)
  refine E_aload dL_law_1195 rfl ?_
  refine E_iconst (v := nI 1) dL_law_1197 (by decide) ?_
  refine E_ialdL (v := nI (tl c)) dL_law_1198 (l_132 hL) (k_132 hL) rfl (by omega) (by decide) h.b1 ?_
  refine E_istore dL_law_1199 (Nat.le_of_ble_eq_true rfl) (by decide) rfl ?_
  exact E_room (Nat.le_refl _) (by omega) (by omega) (z0_L_law hst hi (kk := kk) (nn := nn) K IH hs hlk (a := la) (s := s) (by omega) h1T hsg (tl c - la) (tl c) (by omega) (Nat.le_refl _) M ⟨hS, fun _ _ _ _ => rfl, fun _ => rfl, fun j z1 z2 => absurd z1 (by omega), fun j _ z => h.tx z⟩)
