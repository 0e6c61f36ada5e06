/-! the law: how wide the text is -/
def wfW (c : Cf) : Prop := (∀ j, cN c 139 j ≤ 29) ∧ ∀ l k, k < cN c 135 l → cN c 130 l = 6 → bd (rul c l k 2) 10
theorem prs_bz {c : Cf} {f l n : Nat} {L : List Gl} (hw : wfW c) (hkd : cN c 130 l = 6) (hn : n + 10 < 2 ^ 31) : ∀ t i (A : Pl), (∀ j, i ≤ j → bd (A 0 j) n) → (∀ j, bd (A 0 j) (n + 10)) → ∀ j, bd (prs c f l L t i A 0 j) (n + 10)
  | 0, _, _, _, h => h
  | t + 1, i, A, h1, h2 => by
    intro j
    show bd ((cI (i < L.length) (prs c f l L t (prI c f l L i) (prS c f l L i A)) A) 0 j) _
    by_cases e : i < L.length
    · rw [cI_t e]
      have hb := aft_b c f l e
      unfold prI prS
      by_cases e2 : prD c f l L i
      · rw [cI_t e2, cI_t e2]
        have hfar := hw.2 l _ e2.2.2 hkd
        refine prs_bz hw hkd hn t _ _ (fun j hj => ?_) (fun j => ?_) j
        · unfold u2; rw [if_neg (fun z => by omega)]; exact h1 j (by omega)
        · unfold u2
          by_cases z : j = i
          · rw [if_pos ⟨rfl, z⟩]; exact bd_add (h1 i (Nat.le_refl _)) hfar (by omega)
          · rw [if_neg (fun y => z y.2)]; exact h2 j
      · rw [cI_f e2, cI_f e2]
        exact prs_bz hw hkd hn t _ _ (fun j hj => h1 j (by omega)) h2 j
    · rw [cI_f e]; exact h2 j
theorem plS_bz {c : Cf} {f l n : Nat} {L : List Gl} {A : Pl} (hw : wfW c) (hn : n + 10 < 2 ^ 31) (h : ∀ j, bd (A 0 j) n) (j : Nat) : bd (plS c f l L A 0 j) (n + 10) := by
  have h2 : bd (A 0 j) (n + 10) := (h j).m (by omega)
  unfold plS plK
  by_cases e : pDue c l
  · rw [cI_t e]
    by_cases e6 : cN c 130 l = 6
    · rw [cI_t e6]; exact prs_bz hw e6 hn _ _ _ (fun j _ => h j) (fun j => (h j).m (by omega)) j
    · rw [cI_f e6]
      by_cases e7 : cN c 130 l = 7
      · rw [cI_t e7, crv_0]; exact h2
      · rw [cI_f e7]
        by_cases e8 : cN c 130 l = 8
        · rw [cI_t e8, bss_0]; exact h2
        · rw [cI_f e8]
          by_cases e9 : cN c 130 l = 9
          · rw [cI_t e9, mks_0]; exact h2
          · rw [cI_f e9]; exact h2
  · rw [cI_f e]; exact h2
theorem pla_bz {c : Cf} {f : Nat} {L : List Gl} (hw : wfW c) : ∀ m l n (A : Pl), n + 10 * m < 2 ^ 31 → (∀ j, bd (A 0 j) n) → ∀ j, bd (pla c f L m l A 0 j) (n + 10 * m)
  | 0, _, _, _, _, h => h
  | m + 1, l, n, A, hn, h => fun j => (pla_bz hw m (l + 1) (n + 10) _ (by omega) (fun j => plS_bz hw (by omega) h j) j).m (by omega)
theorem plc_bz {c : Cf} (hw : wfW c) {f : Nat} (hc : cN c 129 f ≤ 8) (L : List Gl) (j : Nat) : bd (plc c f L 0 j) 109 := by
  have h0 : ∀ j, bd (pl0 c f L 0 j) 29 := fun j => by
    show bd (nI (cN c 139 (256 * f + yN (gat L j)))) 29
    have := hw.1 (256 * f + yN (gat L j))
    exact (bd_n (by omega)).m this
  exact (pla_bz hw (cN c 129 f) (12 * f) 29 _ (by omega) h0 j).m (by omega)
theorem tS_bz {c : Cf} (hw : wfW c) (hc : ∀ f, f < 2 → cN c 129 f ≤ 8) (hf : ∀ j, fcO c j ≤ 1) (h64 : ng c ≤ 64) : ∀ j, j ≤ tr c → bd (tS c j) (109 * tg c j)
  | 0, _ => (bd_n (by decide)).m (Nat.zero_le _)
  | j + 1, hj => by
    have ih := tS_bz hw hc hf h64 j (by omega)
    have h1 := tg_s c j
    have h2 := tg_m c (show j < tr c by omega)
    have h3 : tg c (tr c) ≤ 64 := h64
    have h5 : (rL c 0 (tl c) j).length = (tL c j).length := rfl
    have h4 : bd (wdt c 0 (tl c) j) (109 * (tL c j).length) := smA_bd (plc_bz hw (hc _ (by have := hf (rn c 0 (tl c) j); show fcO c (rn c 0 (tl c) j) < 2; omega)) (rL c 0 (tl c) j)) (rL c 0 (tl c) j).length (by omega)
    exact (bd_add ih h4 (by omega)).m (by omega)
theorem wid_ok {c : Cf} (hw : wfW c) (hc : ∀ f, f < 2 → cN c 129 f ≤ 8) (hf : ∀ j, fcO c j ≤ 1) (h64 : ng c ≤ 64) {l : Nat} (hl : l < 70) (h0 : 0 ≤ tS c (tr c) + nI l - nI 6) : iIn (tS c (tr c) + nI l - nI 6) (nI 0) (nI 10000) := by
  refine ⟨h0, ?_⟩
  have h1 := tS_bz hw hc hf h64 (tr c) (Nat.le_refl _)
  have h3 : tg c (tr c) ≤ 64 := h64
  have h4 := bd_sub (bd_add h1 (bd_n (a := l) (by omega)) (by omega)) (bd_n (a := 6) (by decide)) (by omega)
  rw [Int32.le_iff_toInt_le, nI_toInt (by decide)]
  unfold bd at h4
  omega
set_option maxRecDepth 100000 in
set_option maxHeartbeats 4000000 in
theorem s1_L_textTold {g : gG} {M : gM} {Q : Option Value ⊕ String → gM → Prop} (hst : (gl1 g).stackTraces = false) {c : Cf} {P : Nat → Nat} {lk : Int64} {cc x to : Int32} {ps n : Nat} {M00 : gM} (hlk : lkS c lk) (hC : kC c P n) (hnp : n ≤ ps) {k b : Nat} (hp : k < tl c) {π : Nat → Nat} (hS : kS c P π M) (h : lT c M) (hq : qI ps k (msV c) M) (h00 : kq M00 M) (K : ∀ M π v20 v21, kS c P π M → lT c M → qI ps k (msV c) M → kq M00 M → E g 11 (3 * (tl c - (k + 1)) + 33) (18 * (tl c - (k + 1)) + 218) mL_textTold 159 [.ref 1, .int cc, .ref 129, .ref 130, .ref 131, .ref 132, .ref 133, .long lk, .null, .ref 134, .ref 135, .ref 139, .int (dI b), .int x, .int to, .ref (ps + 1), .int (nI k), .int (nI (ru c k)), .int (crt c k), .int (nI (frC c (tn c (ru c k)) (tn c (ru c k + 1)) k)), v20, v21] [] M Q) : ∀ v17 v18 v19 v20 v21, E g 11 (3 * (tl c - k) + 33) (18 * (tl c - k) + 218) mL_textTold 36 [.ref 1, .int cc, .ref 129, .ref 130, .ref 131, .ref 132, .ref 133, .long lk, .null, .ref 134, .ref 135, .ref 139, .int (dI b), .int x, .int to, .ref (ps + 1), .int (nI k), v17, v18, v19, v20, v21] [] M Q := by
  intro v17 v18 v19 v20 v21
  have hL := h.lay
  have h10 := h.t10
  have hnr := h.nr
  have hru := ru_b h.wf hp
  have htn := h.tnb (j := ru c k + 1) hru.1
  have hx9 := tEn_b h.wf k
  have hsc := scr_b c 0 (tl c) (tn c (ru c k))
  have hsm : scr c 0 (tl c) k = scr c 0 (tl c) (tn c (ru c k)) := (rn_same (c := c) (Nat.zero_le (tl c)) hru.1 hru.2.1 hru.2.2).1
  have hfb := fcO_b h.wf k
  have hfc : fcO c k = cN c 140 (cN c 141 k) := rfl
  obtain ⟨s, hs, hz⟩ := h.zx (j := ru c k + 1) hru.1
  have hfl := frC_lt c (tn c (ru c k)) (tn c (ru c k + 1)) k
  have hak := hru.2.1
  refine E_aload dL_textTold_36 rfl ?_
  refine E_iload dL_textTold_38 rfl ?_
  refine E_room (Nat.le_refl _) (k' := 0 + (3 + (3 * (tl c - (k + 1)) + 33))) (n' := 0 + (18 + (18 * (tl c - (k + 1)) + 218))) (by omega) (by omega) ?_
  refine E_callT2 (fr' := 1) (k1 := 0) (n1 := 0) (k2 := (3 + (3 * (tl c - (k + 1)) + 33))) (n2 := (18 + (18 * (tl c - (k + 1)) + 218))) dL_textTold_40 kO_L_runOf kL_L_221 (by exact Nat.le_of_ble_eq_true rfl) (by decide) (by exact Nat.le_of_ble_eq_true rfl) (Or.inl rfl) rfl ?_
  refine sp_L_runOf h hp ?_
  refine gKv ?_
  refine E_istore dL_textTold_43 (Nat.le_of_ble_eq_true rfl) (by decide) rfl ?_
  refine E_aload dL_textTold_45 rfl ?_
  refine E_aload dL_textTold_47 rfl ?_
  refine E_aload dL_textTold_49 rfl ?_
  refine E_iload dL_textTold_51 rfl ?_
  refine E_room (Nat.le_refl _) (k' := 0 + (3 + (3 * (tl c - (k + 1)) + 33))) (n' := 0 + (18 + (18 * (tl c - (k + 1)) + 218))) (by omega) (by omega) ?_
  refine E_callT4 (fr' := 3) (k1 := 0) (n1 := 0) (k2 := (3 + (3 * (tl c - (k + 1)) + 33))) (n2 := (18 + (18 * (tl c - (k + 1)) + 218))) dL_textTold_53 kO_L_caretOf kL_L_232 (by exact Nat.le_of_ble_eq_true rfl) (by decide) (by exact Nat.le_of_ble_eq_true rfl) (Or.inl rfl) rfl ?_
  refine sp_L_caretOf h hp ?_
  refine gKv ?_
  refine E_istore dL_textTold_56 (Nat.le_of_ble_eq_true rfl) (by decide) rfl ?_
  refine E_aload_n dL_textTold_58 rfl ?_
  refine E_aload dL_textTold_59 rfl ?_
  refine E_iload dL_textTold_61 rfl ?_
  refine E_ialdL (v := nI (tn c (ru c k) + 100 * scr c 0 (tl c) (tn c (ru c k)))) dL_textTold_63 (l_138 hL) (k_138 hL) rfl (by omega) (by decide) (h.z0 hru.1) ?_
  refine E_bipush (v := nI 100) dL_textTold_64 (by decide) ?_
  refine E_irem_n dL_textTold_66 (by omega) (by omega) (by omega) ?_
  rw [show (tn c (ru c k) + 100 * scr c 0 (tl c) (tn c (ru c k))) % 100 = tn c (ru c k) by have := h.tnb (j := ru c k) (by omega); omega]
  refine E_aload dL_textTold_67 rfl ?_
  refine E_iload dL_textTold_69 rfl ?_
  refine E_iconst (v := nI 1) dL_textTold_71 (by decide) ?_
  refine E_iadd_n dL_textTold_72 ?_
  refine E_ialdL (v := nI (tn c (ru c k + 1) + 100 * s)) dL_textTold_73 (l_138 hL) (k_138 hL) rfl (by omega) (by decide) hz ?_
  refine E_bipush (v := nI 100) dL_textTold_74 (by decide) ?_
  refine E_irem_n dL_textTold_76 (by omega) (by omega) (by omega) ?_
  rw [show (tn c (ru c k + 1) + 100 * s) % 100 = tn c (ru c k + 1) by omega]
  refine E_iload dL_textTold_77 rfl ?_
  refine E_room (Nat.le_refl _) (k' := 0 + (3 + (3 * (tl c - (k + 1)) + 33))) (n' := 0 + (18 + (18 * (tl c - (k + 1)) + 218))) (by omega) (by omega) ?_
  refine E_callT4 (fr' := 2) (k1 := 0) (n1 := 0) (k2 := (3 + (3 * (tl c - (k + 1)) + 33))) (n2 := (18 + (18 * (tl c - (k + 1)) + 218))) dL_textTold_79 kO_L_formed kL_L_198 (by exact Nat.le_of_ble_eq_true rfl) (by decide) (by exact Nat.le_of_ble_eq_true rfl) (Or.inl rfl) rfl ?_
  refine sp_L_formed h.S hak hru.2.2 (by omega) ?_
  refine gKv ?_
  refine E_istore dL_textTold_82 (Nat.le_of_ble_eq_true rfl) (by decide) rfl ?_
  refine E_aload_n dL_textTold_84 rfl ?_
  refine E_iload dL_textTold_85 rfl ?_
  refine E_room (Nat.le_refl _) (k' := 1 + (2 + (3 * (tl c - (k + 1)) + 33))) (n' := 6 + (12 + (18 * (tl c - (k + 1)) + 218))) (by omega) (by omega) ?_
  refine E_callT2 (fr' := 9) (k1 := 1) (n1 := 6) (k2 := (2 + (3 * (tl c - (k + 1)) + 33))) (n2 := (12 + (18 * (tl c - (k + 1)) + 218))) dL_textTold_87 kO_L_run kL_L_236 (by exact Nat.le_of_ble_eq_true rfl) (by decide) (by exact Nat.le_of_ble_eq_true rfl) (Or.inr (gW_at 1119 (by decide +kernel) (by decide +kernel))) rfl ?_
  refine w_run hst hS (fun j hj e M1 π1 hS1 hkd => ?_) (fun z1 _ _ _ _ => absurd ((iBel_iff (by omega)).mpr ⟨k, hp, rfl⟩) z1)
  obtain rfl : k = j := (nI_eq (by omega) (by omega)).mp e
  have hS := hS1
  have hL := hS1.1.lay
  have h := h.kq hL hkd
  have hq := hq.kq hkd
  have h00 := h00.trans hkd
  refine gKv ?_
  refine E_bipush (v := nI 100) dL_textTold_90 (by decide) ?_
  refine E_iload dL_textTold_92 rfl ?_
  refine E_imul_n dL_textTold_94 ?_
  refine E_aload dL_textTold_95 rfl ?_
  refine E_iload dL_textTold_97 rfl ?_
  refine E_ialdL (v := nI (tn c (ru c k) + 100 * scr c 0 (tl c) (tn c (ru c k)))) dL_textTold_99 (l_138 hL) (k_138 hL) rfl (by omega) (by decide) (h.z0 hru.1) ?_
  refine E_bipush (v := nI 100) dL_textTold_100 (by decide) ?_
  refine E_idiv_n dL_textTold_102 (by omega) (by omega) (by omega) ?_
  rw [show (tn c (ru c k) + 100 * scr c 0 (tl c) (tn c (ru c k))) / 100 = scr c 0 (tl c) (tn c (ru c k)) by have := h.tnb (j := ru c k) (by omega); omega]
  refine E_bipush (v := nI 10) dL_textTold_103 (by decide) ?_
  refine E_imul_n dL_textTold_105 ?_
  refine E_iadd_n dL_textTold_106 ?_
  refine E_lload dL_textTold_107 rfl ?_
  refine E_aload_n dL_textTold_109 rfl ?_
  refine E_iload dL_textTold_110 rfl ?_
  refine E_ialdL (v := nI (tEn _ _)) dL_textTold_112 (l_128 hL) (k_128 hL) rfl (by omega) (by decide) (h.tx (by omega)) ?_
  refine E_bipush (v := nI 63) dL_textTold_113 (by decide) ?_
  refine E_iand dL_textTold_115 ?_
  rw [tE_63 h.wf]
  refine E_lshr dL_textTold_116 ?_
  refine E_lconst (v := 1) dL_textTold_117 (by decide) ?_
  refine E_land dL_textTold_118 ?_
  rw [hlk _ (by omega)]
  refine E_l2i dL_textTold_119 ?_
  rw [lN_i]
  refine E_iadd_n dL_textTold_120 ?_
  refine E_icmp_ne_n (tgt := 157) dL_textTold_121 (by decide) (by omega) (by omega) (fun c_121 => ?_) (fun c_121 => ?_)
  · refine E_iconst (v := nI 0) dL_textTold_157 (by decide) ?_
    refine E_iret dL_textTold_158 (Or.inr ⟨rfl, by decide⟩) ?_
    exfalso
    first
      | (apply c_121; rw [hsm, hfc]; omega)
      | exact c_154 rfl
      | (rcases frC_frm c (tn c (ru c k)) (tn c (ru c k + 1)) k with ⟨y1, y2⟩ | ⟨y1, y2⟩
         · first
             | exact c_143 y1
             | omega
         · first
             | exact c_143 y2
             | omega)
  · refine E_aload_n dL_textTold_124 rfl ?_
    refine E_iload dL_textTold_125 rfl ?_
    refine E_room (Nat.le_refl _) (k' := 1 + (1 + (3 * (tl c - (k + 1)) + 33))) (n' := 6 + (6 + (18 * (tl c - (k + 1)) + 218))) (by omega) (by omega) ?_
    refine E_callT2 (fr' := 9) (k1 := 1) (n1 := 6) (k2 := (1 + (3 * (tl c - (k + 1)) + 33))) (n2 := (6 + (18 * (tl c - (k + 1)) + 218))) dL_textTold_127 kO_L_form kL_L_239 (by exact Nat.le_of_ble_eq_true rfl) (by decide) (by exact Nat.le_of_ble_eq_true rfl) (Or.inr (gW_at 1130 (by decide +kernel) (by decide +kernel))) rfl ?_
    refine w_form hst hS (fun j hj e M1 π1 hS1 hkd => ?_) (fun z1 _ _ _ _ => absurd ((iBel_iff (by omega)).mpr ⟨k, hp, rfl⟩) z1)
    obtain rfl : k = j := (nI_eq (by omega) (by omega)).mp e
    have hS := hS1
    have hL := hS1.1.lay
    have h := h.kq hL hkd
    have hq := hq.kq hkd
    have h00 := h00.trans hkd
    refine gKv ?_
    refine E_iload dL_textTold_130 rfl ?_
    refine E_iconst (v := nI 4) dL_textTold_132 (by decide) ?_
    refine E_icmp_ne_n (tgt := 141) dL_textTold_133 (by decide) (by omega) (by omega) (fun c_133 => ?_) (fun c_133 => ?_)
    · refine E_iload dL_textTold_141 rfl ?_
      refine E_icmp_ne_r (tgt := 157) dL_textTold_143 (by decide) (fun c_143 => ?_) (fun c_143 => ?_)
      · refine E_iconst (v := nI 0) dL_textTold_157 (by decide) ?_
        refine E_iret dL_textTold_158 (Or.inr ⟨rfl, by decide⟩) ?_
        exfalso
        first
          | (apply c_121; rw [hsm, hfc]; omega)
          | exact c_154 rfl
          | (rcases frC_frm c (tn c (ru c k)) (tn c (ru c k + 1)) k with ⟨y1, y2⟩ | ⟨y1, y2⟩
             · first
                 | exact c_143 y1
                 | omega
             · first
                 | exact c_143 y2
                 | omega)
      · refine E_aload_n dL_textTold_146 rfl ?_
        refine E_iload dL_textTold_147 rfl ?_
        refine E_room (Nat.le_refl _) (k' := 1 + (3 * (tl c - (k + 1)) + 33)) (n' := 6 + (18 * (tl c - (k + 1)) + 218)) (by omega) (by omega) ?_
        refine E_callT2 (fr' := 9) (k1 := 1) (n1 := 6) (k2 := (3 * (tl c - (k + 1)) + 33)) (n2 := (18 * (tl c - (k + 1)) + 218)) dL_textTold_149 kO_L_caret kL_L_241 (by exact Nat.le_of_ble_eq_true rfl) (by decide) (by exact Nat.le_of_ble_eq_true rfl) (Or.inr (gW_at 1137 (by decide +kernel) (by decide +kernel))) rfl ?_
        refine w_caret hst hS (fun j hj e M1 π1 hS1 hkd => ?_) (fun z1 _ _ _ _ => absurd ((iBel_iff (by omega)).mpr ⟨k, hp, rfl⟩) z1)
        obtain rfl : k = j := (nI_eq (by omega) (by omega)).mp e
        have hS := hS1
        have hL := hS1.1.lay
        have h := h.kq hL hkd
        have hq := hq.kq hkd
        have h00 := h00.trans hkd
        refine gKv ?_
        refine E_iload dL_textTold_152 rfl ?_
        refine E_icmp_eq (tgt := 159) dL_textTold_154 (by decide) (fun c_154 => ?_) (fun c_154 => ?_)
        · exact K _ _ _ _ hS h hq h00
        · refine E_iconst (v := nI 0) dL_textTold_157 (by decide) ?_
          refine E_iret dL_textTold_158 (Or.inr ⟨rfl, by decide⟩) ?_
          exfalso
          first
            | (apply c_121; rw [hsm, hfc]; omega)
            | exact c_154 rfl
            | (rcases frC_frm c (tn c (ru c k)) (tn c (ru c k + 1)) k with ⟨y1, y2⟩ | ⟨y1, y2⟩
               · first
                   | exact c_143 y1
                   | omega
               · first
                   | exact c_143 y2
                   | omega)
    · refine E_bipush (v := -100) dL_textTold_136 (by decide) ?_
      refine E_goto (tgt := 143) dL_textTold_138 (by decide) ?_
      refine E_icmp_ne_r (tgt := 157) dL_textTold_143 (by decide) (fun c_143 => ?_) (fun c_143 => ?_)
      · refine E_iconst (v := nI 0) dL_textTold_157 (by decide) ?_
        refine E_iret dL_textTold_158 (Or.inr ⟨rfl, by decide⟩) ?_
        exfalso
        first
          | (apply c_121; rw [hsm, hfc]; omega)
          | exact c_154 rfl
          | (rcases frC_frm c (tn c (ru c k)) (tn c (ru c k + 1)) k with ⟨y1, y2⟩ | ⟨y1, y2⟩
             · first
                 | exact c_143 y1
                 | omega
             · first
                 | exact c_143 y2
                 | omega)
      · refine E_aload_n dL_textTold_146 rfl ?_
        refine E_iload dL_textTold_147 rfl ?_
        refine E_room (Nat.le_refl _) (k' := 1 + (3 * (tl c - (k + 1)) + 33)) (n' := 6 + (18 * (tl c - (k + 1)) + 218)) (by omega) (by omega) ?_
        refine E_callT2 (fr' := 9) (k1 := 1) (n1 := 6) (k2 := (3 * (tl c - (k + 1)) + 33)) (n2 := (18 * (tl c - (k + 1)) + 218)) dL_textTold_149 kO_L_caret kL_L_241 (by exact Nat.le_of_ble_eq_true rfl) (by decide) (by exact Nat.le_of_ble_eq_true rfl) (Or.inr (gW_at 1137 (by decide +kernel) (by decide +kernel))) rfl ?_
        refine w_caret hst hS (fun j hj e M1 π1 hS1 hkd => ?_) (fun z1 _ _ _ _ => absurd ((iBel_iff (by omega)).mpr ⟨k, hp, rfl⟩) z1)
        obtain rfl : k = j := (nI_eq (by omega) (by omega)).mp e
        have hS := hS1
        have hL := hS1.1.lay
        have h := h.kq hL hkd
        have hq := hq.kq hkd
        have h00 := h00.trans hkd
        refine gKv ?_
        refine E_iload dL_textTold_152 rfl ?_
        refine E_icmp_eq (tgt := 159) dL_textTold_154 (by decide) (fun c_154 => ?_) (fun c_154 => ?_)
        · exact K _ _ _ _ hS h hq h00
        · refine E_iconst (v := nI 0) dL_textTold_157 (by decide) ?_
          refine E_iret dL_textTold_158 (Or.inr ⟨rfl, by decide⟩) ?_
          exfalso
          first
            | (apply c_121; rw [hsm, hfc]; omega)
            | exact c_154 rfl
            | (rcases frC_frm c (tn c (ru c k)) (tn c (ru c k + 1)) k with ⟨y1, y2⟩ | ⟨y1, y2⟩
               · first
                   | exact c_143 y1
                   | omega
               · first
                   | exact c_143 y2
                   | omega)
set_option maxRecDepth 100000 in
set_option maxHeartbeats 4000000 in
theorem s2_L_textTold {g : gG} {M : gM} {Q : Option Value ⊕ String → gM → Prop} {c : Cf} {lk : Int64} {cc x to : Int32} {ps k b kk nn : Nat} (h : lT c M) (hp : k < tl c) (hbr : hbR c x k b to) (K : ∀ b' to' far v21, hbR c x (k + 1) b' to' → E g 11 kk nn mL_textTold 201 [.ref 1, .int cc, .ref 129, .ref 130, .ref 131, .ref 132, .ref 133, .long lk, .null, .ref 134, .ref 135, .ref 139, .int (dI b'), .int x, .int to', .ref (ps + 1), .int (nI k), .int (nI (ru c k)), .int (crt c k), .int (nI (frC c (tn c (ru c k)) (tn c (ru c k + 1)) k)), .int far, v21] [] M Q) : ∀ v20 v21, E g 11 kk nn mL_textTold 159 [.ref 1, .int cc, .ref 129, .ref 130, .ref 131, .ref 132, .ref 133, .long lk, .null, .ref 134, .ref 135, .ref 139, .int (dI b), .int x, .int to, .ref (ps + 1), .int (nI k), .int (nI (ru c k)), .int (crt c k), .int (nI (frC c (tn c (ru c k)) (tn c (ru c k + 1)) k)), v20, v21] [] M Q := by
  intro v20 v21
  have hL := h.lay
  have h10 := h.t10
  have hnr := h.nr
  have hru := ru_b h.wf hp
  have htn := h.tnb (j := ru c k + 1) hru.1
  have hx9 := tEn_b h.wf k
  have hsc := scr_b c 0 (tl c) (tn c (ru c k))
  have hsm : scr c 0 (tl c) k = scr c 0 (tl c) (tn c (ru c k)) := (rn_same (c := c) (Nat.zero_le (tl c)) hru.1 hru.2.1 hru.2.2).1
  have hfb := fcO_b h.wf k
  have hfc : fcO c k = cN c 140 (cN c 141 k) := rfl
  obtain ⟨s, hs, hz⟩ := h.zx (j := ru c k + 1) hru.1
  have hfl := frC_lt c (tn c (ru c k)) (tn c (ru c k + 1)) k
  have hb3 := hbr.2.2
  have go : ∀ far, far = htD x (crt c k) → E g 11 kk nn mL_textTold 181 [.ref 1, .int cc, .ref 129, .ref 130, .ref 131, .ref 132, .ref 133, .long lk, .null, .ref 134, .ref 135, .ref 139, .int (dI b), .int x, .int to, .ref (ps + 1), .int (nI k), .int (nI (ru c k)), .int (crt c k), .int (nI (frC c (tn c (ru c k)) (tn c (ru c k + 1)) k)), .int far, v21] [] M Q := by
    intro far hfar
    obtain ⟨g1, g2⟩ := hbR_s hbr (by omega) hfar
    refine E_iload dL_textTold_181 rfl ?_
    refine E_if_lt_d (tgt := 193) dL_textTold_183 (by decide) (by omega) (fun c_183 => ?_) (fun c_183 => ?_)
    · refine E_iload dL_textTold_193 rfl ?_
      refine E_istore dL_textTold_195 (Nat.le_of_ble_eq_true rfl) (by decide) rfl ?_
      refine E_iload dL_textTold_197 rfl ?_
      refine E_istore dL_textTold_199 (Nat.le_of_ble_eq_true rfl) (by decide) rfl ?_
      first
        | exact K b to far _ (g2 (fun z => z.elim (fun z => by omega) (fun z => absurd c_190 (Int32.not_le.mpr z))))
        | (have g1 := g1 (Or.inl c_183)
           have K := K (k + 1) far far v21 g1
           rw [dI_succ] at K
           exact K)
        | (have g1 := g1 (Or.inr (Int32.not_le.mp c_190))
           have K := K (k + 1) far far v21 g1
           rw [dI_succ] at K
           exact K)
    · refine E_iload dL_textTold_186 rfl ?_
      refine E_iload dL_textTold_188 rfl ?_
      refine E_icmp_ge (tgt := 201) dL_textTold_190 (by decide) (fun c_190 => ?_) (fun c_190 => ?_)
      · first
          | exact K b to far _ (g2 (fun z => z.elim (fun z => by omega) (fun z => absurd c_190 (Int32.not_le.mpr z))))
          | (have g1 := g1 (Or.inl c_183)
             have K := K (k + 1) far far v21 g1
             rw [dI_succ] at K
             exact K)
          | (have g1 := g1 (Or.inr (Int32.not_le.mp c_190))
             have K := K (k + 1) far far v21 g1
             rw [dI_succ] at K
             exact K)
      · refine E_iload dL_textTold_193 rfl ?_
        refine E_istore dL_textTold_195 (Nat.le_of_ble_eq_true rfl) (by decide) rfl ?_
        refine E_iload dL_textTold_197 rfl ?_
        refine E_istore dL_textTold_199 (Nat.le_of_ble_eq_true rfl) (by decide) rfl ?_
        first
          | exact K b to far _ (g2 (fun z => z.elim (fun z => by omega) (fun z => absurd c_190 (Int32.not_le.mpr z))))
          | (have g1 := g1 (Or.inl c_183)
             have K := K (k + 1) far far v21 g1
             rw [dI_succ] at K
             exact K)
          | (have g1 := g1 (Or.inr (Int32.not_le.mp c_190))
             have K := K (k + 1) far far v21 g1
             rw [dI_succ] at K
             exact K)
  refine E_iload dL_textTold_159 rfl ?_
  refine E_iload dL_textTold_161 rfl ?_
  refine E_icmp_ge (tgt := 174) dL_textTold_163 (by decide) (fun c_163 => ?_) (fun c_163 => ?_)
  · refine E_iload dL_textTold_174 rfl ?_
    refine E_iload dL_textTold_176 rfl ?_
    refine E_isub dL_textTold_178 ?_
    refine E_istore dL_textTold_179 (Nat.le_of_ble_eq_true rfl) (by decide) rfl ?_
    first
      | exact go _ (htD_l.1 (Int32.not_le.mp c_163))
      | exact go _ (htD_l.2 (Int32.not_lt.mpr c_163))
  · refine E_iload dL_textTold_166 rfl ?_
    refine E_iload dL_textTold_168 rfl ?_
    refine E_isub dL_textTold_170 ?_
    refine E_goto (tgt := 179) dL_textTold_171 (by decide) ?_
    refine E_istore dL_textTold_179 (Nat.le_of_ble_eq_true rfl) (by decide) rfl ?_
    first
      | exact go _ (htD_l.1 (Int32.not_le.mp c_163))
      | exact go _ (htD_l.2 (Int32.not_lt.mpr c_163))
set_option maxRecDepth 100000 in
set_option maxHeartbeats 4000000 in
theorem lp_L_textTold {g : gG} {Q : Option Value ⊕ String → gM → Prop} (hst : (gl1 g).stackTraces = false) {c : Cf} {P : Nat → Nat} {lk : Int64} {cc x : Int32} {ps n : Nat} {M00 : gM} (hlk : lkS c lk) (hC : kC c P n) (hnp : n ≤ ps) (hmn : mN M00 ≤ ps) (K : ∀ M π b to v17 v18 v19 v20 v21, kS c P π M → lT c M → qI ps (tl c) (msV c) M → kq M00 M → hbR c x (tl c) b to → E g 11 33 218 mL_textTold 309 [.ref 1, .int cc, .ref 129, .ref 130, .ref 131, .ref 132, .ref 133, .long lk, .null, .ref 134, .ref 135, .ref 139, .int (dI b), .int x, .int to, .ref (ps + 1), .int (nI (tl c)), v17, v18, v19, v20, v21] [] M Q) : ∀ k, k ≤ tl c → 0 ≤ k → ∀ M π b to v17 v18 v19 v20 v21, kS c P π M → lT c M → qI ps k (msV c) M → kq M00 M → hbR c x k b to → E g 11 (3 * (tl c - k) + 33) (18 * (tl c - k) + 218) mL_textTold 27 [.ref 1, .int cc, .ref 129, .ref 130, .ref 131, .ref 132, .ref 133, .long lk, .null, .ref 134, .ref 135, .ref 139, .int (dI b), .int x, .int to, .ref (ps + 1), .int (nI k), v17, v18, v19, v20, v21] [] M Q := by
  refine lpUp (tl c) (fun k hk ih => ?_)
  intro _ M π b to v17 v18 v19 v20 v21 hS h hq h00 hbr
  have hL := h.lay
  have h10 := h.t10
  refine E_iload dL_textTold_27 rfl ?_
  refine E_aload dL_textTold_29 rfl ?_
  refine E_iconst (v := nI 1) dL_textTold_31 (by decide) ?_
  refine E_ialdL (v := nI (tl c)) dL_textTold_32 (l_132 hL) (k_132 hL) rfl (by omega) (by decide) h.S.b1 ?_
  refine E_icmp_ge_n (tgt := 309) dL_textTold_33 (by decide) (by omega) (by omega) (fun c_33 => ?_) (fun c_33 => ?_)
  · obtain rfl : k = tl c := by omega
    exact E_room (Nat.le_refl _) (by omega) (by omega) (K M π b to _ _ _ _ _ hS h hq h00 hbr)
  · have hp : k < tl c := by omega
    refine s1_L_textTold hst hlk hC hnp hp hS h hq h00 (fun M π v20 v21 hS h hq h00 => ?_) _ _ _ _ _
    refine s2_L_textTold h hp hbr (fun b' to' far v21 hbr => ?_) _ _
    have hb3 := hbr.2.2
    refine s3_L_textTold hst hlk hC hnp hp hS h hq h00 (by omega) (fun M v21 hS h hq h00 => ?_) hmn _
    have hL := h.lay
    refine E_iinc_n (d := 1) dL_textTold_303 rfl rfl rfl (by decide) rfl ?_
    refine E_goto (tgt := 27) dL_textTold_306 (by decide) ?_
    exact ih hp (Nat.zero_le _) M π _ _ _ _ _ _ _ hS h hq h00 hbr
theorem x_ok {l : Nat} (h : l < 200) : iIn (nI l - nI 20) (-1000) (nI 10000) := by
  have h1 := bd_sub (bd_n (a := l) (by omega)) (bd_n (a := 20) (by decide)) (by omega)
  unfold bd at h1
  refine ⟨?_, ?_⟩
  · rw [Int32.le_iff_toInt_le, show (-1000 : Int32).toInt = -1000 by decide]; omega
  · rw [Int32.le_iff_toInt_le, nI_toInt (by decide)]; omega
set_option maxRecDepth 100000 in
set_option maxHeartbeats 4000000 in
theorem en_L_textTold {g : gG} {M : gM} {Q : Option Value ⊕ String → gM → Prop} (hst : (gl1 g).stackTraces = false) {c : Cf} {P : Nat → Nat} {π : Nat → Nat} {lk : Int64} {cc x to : Int32} {ps b : Nat} {M00 : gM} (hW : wfW c) (hx : iIn x (-1000) (nI 10000)) (hS : kS c P π M) (h : lT c M) (hq : qI ps (tl c) (msV c) M) (h00 : kq M00 M) (hbr : hbR c x (tl c) b to) (K : ∀ M1 π1, kS c P π1 M1 → lT c M1 → kq M00 M1 → Q (.inl (some (.int (nI 1)))) M1) : ∀ v17 v18 v19 v20 v21, E g 11 33 218 mL_textTold 309 [.ref 1, .int cc, .ref 129, .ref 130, .ref 131, .ref 132, .ref 133, .long lk, .null, .ref 134, .ref 135, .ref 139, .int (dI b), .int x, .int to, .ref (ps + 1), .int (nI (tl c)), v17, v18, v19, v20, v21] [] M Q := by
  intro v17 v18 v19 v20 v21
  have hL := h.lay
  have h10 := h.t10
  have hnr := h.nr
  have hb3 := hbr.2.2
  have hb1 := hbr.1
  refine E_aload_n dL_textTold_309 rfl ?_
  refine E_iload dL_textTold_310 rfl ?_
  refine E_callT2 (fr' := 9) (k1 := 1) (n1 := 6) (k2 := 32) (n2 := 212) dL_textTold_312 kO_L_hit kL_L_243 (by exact Nat.le_of_ble_eq_true rfl) (by decide) (by exact Nat.le_of_ble_eq_true rfl) (Or.inr (gW_at 1160 (by decide +kernel) (by decide +kernel))) rfl ?_
  refine w_hit hst hS (fun z1 M1 π1 hS1 hkd => ?_) (fun z1 _ _ _ _ => absurd hx z1)
  have hS := hS1
  have hL := hS1.1.lay
  have h := h.kq hL hkd
  have hq := hq.kq hkd
  have h00 := h00.trans hkd
  refine gKv ?_
  refine E_iload dL_textTold_315 rfl ?_
  refine E_if_ge_d (tgt := 325) dL_textTold_317 (by decide) (by omega) (fun c_317 => ?_) (fun c_317 => ?_)
  · refine E_iload dL_textTold_325 rfl ?_
    refine E_icmp_ne_r (tgt := 356) dL_textTold_327 (by decide) (fun c_327 => ?_) (fun c_327 => ?_)
    · refine E_iconst (v := nI 0) dL_textTold_356 (by decide) ?_
      refine E_iret dL_textTold_357 (Or.inr ⟨rfl, by decide⟩) ?_
      exfalso
      first
        | (apply c_327
           rw [hb1, c_317]
           exact cI_t rfl)
        | (apply c_327
           rw [hb1]
           unfold clV
           rw [cI_f (by omega), ← dI_pos (by omega)])
    · refine E_aload_n dL_textTold_330 rfl ?_
      refine E_sipush (v := -1001) dL_textTold_331 (by decide) ?_
      refine E_callT2 (fr' := 9) (k1 := 1) (n1 := 6) (k2 := 31) (n2 := 206) dL_textTold_334 kO_L_hit kL_L_243 (by exact Nat.le_of_ble_eq_true rfl) (by decide) (by exact Nat.le_of_ble_eq_true rfl) (Or.inr (gW_at 1160 (by decide +kernel) (by decide +kernel))) rfl ?_
      refine w_hit hst hS (fun z1 _ _ _ _ => absurd z1 (by decide)) (fun z1 M1 π1 hS1 hkd => ?_)
      have hS := hS1
      have hL := hS1.1.lay
      have h := h.kq hL hkd
      have hq := hq.kq hkd
      have h00 := h00.trans hkd
      refine gKv ?_
      refine E_sipush (v := -7200) dL_textTold_337 (by decide) ?_
      refine E_icmp_ne_r (tgt := 356) dL_textTold_340 (by decide) (fun c0 => absurd c0 (by decide)) (fun _ => ?_)
      refine E_aload_n dL_textTold_343 rfl ?_
      refine E_sipush (v := nI 10001) dL_textTold_344 (by decide) ?_
      refine E_callT2 (fr' := 9) (k1 := 1) (n1 := 6) (k2 := 30) (n2 := 200) dL_textTold_347 kO_L_hit kL_L_243 (by exact Nat.le_of_ble_eq_true rfl) (by decide) (by exact Nat.le_of_ble_eq_true rfl) (Or.inr (gW_at 1160 (by decide +kernel) (by decide +kernel))) rfl ?_
      refine w_hit hst hS (fun z1 _ _ _ _ => absurd z1 (by decide)) (fun z1 M1 π1 hS1 hkd => ?_)
      have hS := hS1
      have hL := hS1.1.lay
      have h := h.kq hL hkd
      have hq := hq.kq hkd
      have h00 := h00.trans hkd
      refine gKv ?_
      refine E_sipush (v := -7200) dL_textTold_350 (by decide) ?_
      refine E_icmp_eq (tgt := 358) dL_textTold_353 (by decide) (fun _ => ?_) (fun c0 => absurd (by decide) c0)
      refine E_aload dL_textTold_358 rfl ?_
      refine E_bipush (v := nI 40) dL_textTold_360 (by decide) ?_
      refine E_aload dL_textTold_362 rfl ?_
      refine E_bipush (v := nI 9) dL_textTold_364 (by decide) ?_
      refine E_ialdL (v := nI (tr c)) dL_textTold_366 (l_132 hL) (k_132 hL) rfl (by omega) (by decide) h.a9 ?_
      refine E_iadd_n dL_textTold_367 ?_
      refine E_ialdL (v := tS c (tr c)) dL_textTold_368 (l_138 hL) (k_138 hL) rfl (by omega) (by decide) (h.zl (j := tr c) (Nat.le_refl _)) ?_
      refine E_istore dL_textTold_369 (Nat.le_of_ble_eq_true rfl) (by decide) rfl ?_
      refine E_iload dL_textTold_371 rfl ?_
      refine E_iload_n dL_textTold_373 rfl ?_
      refine E_bipush (v := nI 8) dL_textTold_374 (by decide) ?_
      refine E_ishr dL_textTold_376 ?_
      refine E_bipush (v := nI 70) dL_textTold_377 (by decide) ?_
      refine E_callT2 (fr' := 1) (k1 := 0) (n1 := 0) (k2 := 30) (n2 := 200) dL_textTold_379 kO_L_low kL_L_229 (by exact Nat.le_of_ble_eq_true rfl) (by decide) (by exact Nat.le_of_ble_eq_true rfl) (Or.inl rfl) rfl ?_
      refine sp_L_low (by decide) (by decide) ?_
      have hlow := lowN_lt (cc >>> (nI 8 &&& 31)) (n := 70) (by decide)
      refine gKv ?_
      refine E_iadd dL_textTold_382 ?_
      refine E_bipush (v := nI 6) dL_textTold_383 (by decide) ?_
      refine E_isub dL_textTold_385 ?_
      refine E_istore dL_textTold_386 (Nat.le_of_ble_eq_true rfl) (by decide) rfl ?_
      refine E_iload dL_textTold_388 rfl ?_
      refine E_if_ge (tgt := 396) dL_textTold_390 (by decide) (fun c_390 => ?_) (fun c_390 => ?_)
      · have hmy : myS c ps M1 := ⟨hq.1, hq.2.1, hq.2.2.1, fun j hj => hq.2.2.2 j hj⟩
        first
          | (have hwi := wid_ok hW (fun f hf => h.S.ct hf) (fun j => fcO_b h.wf j) h.n64 hlow c_390
             refine E_aload_n dL_textTold_396 rfl ?_
             refine E_aload_n dL_textTold_397 rfl ?_
             refine E_aload dL_textTold_398 rfl ?_
             refine E_aload dL_textTold_400 rfl ?_
             refine E_aload dL_textTold_402 rfl ?_
             refine E_iload dL_textTold_404 rfl ?_
             refine E_iload dL_textTold_406 rfl ?_
             refine E_iload dL_textTold_408 rfl ?_
             refine E_isub dL_textTold_410 ?_
             refine E_callT7 (fr' := 10) (k1 := 30) (n1 := 200) (k2 := 0) (n2 := 0) dL_textTold_411 kO_L_filled kL_L_245 (by exact Nat.le_of_ble_eq_true rfl) (by decide) (by exact Nat.le_of_ble_eq_true rfl) (Or.inl rfl) rfl ?_
             refine sp_L_filled hst hwi rfl hS h hmy (fun M1 π1 hS1 h1 hkd => ?_)
             refine gKv ?_
             refine E_iret dL_textTold_414 (Or.inr ⟨rfl, by decide⟩) ?_
             exact K _ _ hS1 h1 (h00.trans hkd))
          | (have hwi : iIn (nI 0) (nI 0) (nI 10000) := by decide
             refine E_aload_n dL_textTold_396 rfl ?_
             refine E_aload_n dL_textTold_397 rfl ?_
             refine E_aload dL_textTold_398 rfl ?_
             refine E_aload dL_textTold_400 rfl ?_
             refine E_aload dL_textTold_402 rfl ?_
             refine E_iload dL_textTold_404 rfl ?_
             refine E_iload dL_textTold_406 rfl ?_
             refine E_iload dL_textTold_408 rfl ?_
             refine E_isub dL_textTold_410 ?_
             refine E_callT7 (fr' := 10) (k1 := 30) (n1 := 200) (k2 := 0) (n2 := 0) dL_textTold_411 kO_L_filled kL_L_245 (by exact Nat.le_of_ble_eq_true rfl) (by decide) (by exact Nat.le_of_ble_eq_true rfl) (Or.inl rfl) rfl ?_
             refine sp_L_filled hst hwi rfl hS h hmy (fun M1 π1 hS1 h1 hkd => ?_)
             refine gKv ?_
             refine E_iret dL_textTold_414 (Or.inr ⟨rfl, by decide⟩) ?_
             exact K _ _ hS1 h1 (h00.trans hkd))
      · refine E_iconst (v := nI 0) dL_textTold_393 (by decide) ?_
        refine E_istore dL_textTold_394 (Nat.le_of_ble_eq_true rfl) (by decide) rfl ?_
        have hmy : myS c ps M1 := ⟨hq.1, hq.2.1, hq.2.2.1, fun j hj => hq.2.2.2 j hj⟩
        first
          | (have hwi := wid_ok hW (fun f hf => h.S.ct hf) (fun j => fcO_b h.wf j) h.n64 hlow c_390
             refine E_aload_n dL_textTold_396 rfl ?_
             refine E_aload_n dL_textTold_397 rfl ?_
             refine E_aload dL_textTold_398 rfl ?_
             refine E_aload dL_textTold_400 rfl ?_
             refine E_aload dL_textTold_402 rfl ?_
             refine E_iload dL_textTold_404 rfl ?_
             refine E_iload dL_textTold_406 rfl ?_
             refine E_iload dL_textTold_408 rfl ?_
             refine E_isub dL_textTold_410 ?_
             refine E_callT7 (fr' := 10) (k1 := 30) (n1 := 200) (k2 := 0) (n2 := 0) dL_textTold_411 kO_L_filled kL_L_245 (by exact Nat.le_of_ble_eq_true rfl) (by decide) (by exact Nat.le_of_ble_eq_true rfl) (Or.inl rfl) rfl ?_
             refine sp_L_filled hst hwi rfl hS h hmy (fun M1 π1 hS1 h1 hkd => ?_)
             refine gKv ?_
             refine E_iret dL_textTold_414 (Or.inr ⟨rfl, by decide⟩) ?_
             exact K _ _ hS1 h1 (h00.trans hkd))
          | (have hwi : iIn (nI 0) (nI 0) (nI 10000) := by decide
             refine E_aload_n dL_textTold_396 rfl ?_
             refine E_aload_n dL_textTold_397 rfl ?_
             refine E_aload dL_textTold_398 rfl ?_
             refine E_aload dL_textTold_400 rfl ?_
             refine E_aload dL_textTold_402 rfl ?_
             refine E_iload dL_textTold_404 rfl ?_
             refine E_iload dL_textTold_406 rfl ?_
             refine E_iload dL_textTold_408 rfl ?_
             refine E_isub dL_textTold_410 ?_
             refine E_callT7 (fr' := 10) (k1 := 30) (n1 := 200) (k2 := 0) (n2 := 0) dL_textTold_411 kO_L_filled kL_L_245 (by exact Nat.le_of_ble_eq_true rfl) (by decide) (by exact Nat.le_of_ble_eq_true rfl) (Or.inl rfl) rfl ?_
             refine sp_L_filled hst hwi rfl hS h hmy (fun M1 π1 hS1 h1 hkd => ?_)
             refine gKv ?_
             refine E_iret dL_textTold_414 (Or.inr ⟨rfl, by decide⟩) ?_
             exact K _ _ hS1 h1 (h00.trans hkd))
  · refine E_bipush (v := -100) dL_textTold_320 (by decide) ?_
    refine E_goto (tgt := 327) dL_textTold_322 (by decide) ?_
    refine E_icmp_ne_r (tgt := 356) dL_textTold_327 (by decide) (fun c_327 => ?_) (fun c_327 => ?_)
    · refine E_iconst (v := nI 0) dL_textTold_356 (by decide) ?_
      refine E_iret dL_textTold_357 (Or.inr ⟨rfl, by decide⟩) ?_
      exfalso
      first
        | (apply c_327
           rw [hb1, c_317]
           exact cI_t rfl)
        | (apply c_327
           rw [hb1]
           unfold clV
           rw [cI_f (by omega), ← dI_pos (by omega)])
    · refine E_aload_n dL_textTold_330 rfl ?_
      refine E_sipush (v := -1001) dL_textTold_331 (by decide) ?_
      refine E_callT2 (fr' := 9) (k1 := 1) (n1 := 6) (k2 := 31) (n2 := 206) dL_textTold_334 kO_L_hit kL_L_243 (by exact Nat.le_of_ble_eq_true rfl) (by decide) (by exact Nat.le_of_ble_eq_true rfl) (Or.inr (gW_at 1160 (by decide +kernel) (by decide +kernel))) rfl ?_
      refine w_hit hst hS (fun z1 _ _ _ _ => absurd z1 (by decide)) (fun z1 M1 π1 hS1 hkd => ?_)
      have hS := hS1
      have hL := hS1.1.lay
      have h := h.kq hL hkd
      have hq := hq.kq hkd
      have h00 := h00.trans hkd
      refine gKv ?_
      refine E_sipush (v := -7200) dL_textTold_337 (by decide) ?_
      refine E_icmp_ne_r (tgt := 356) dL_textTold_340 (by decide) (fun c0 => absurd c0 (by decide)) (fun _ => ?_)
      refine E_aload_n dL_textTold_343 rfl ?_
      refine E_sipush (v := nI 10001) dL_textTold_344 (by decide) ?_
      refine E_callT2 (fr' := 9) (k1 := 1) (n1 := 6) (k2 := 30) (n2 := 200) dL_textTold_347 kO_L_hit kL_L_243 (by exact Nat.le_of_ble_eq_true rfl) (by decide) (by exact Nat.le_of_ble_eq_true rfl) (Or.inr (gW_at 1160 (by decide +kernel) (by decide +kernel))) rfl ?_
      refine w_hit hst hS (fun z1 _ _ _ _ => absurd z1 (by decide)) (fun z1 M1 π1 hS1 hkd => ?_)
      have hS := hS1
      have hL := hS1.1.lay
      have h := h.kq hL hkd
      have hq := hq.kq hkd
      have h00 := h00.trans hkd
      refine gKv ?_
      refine E_sipush (v := -7200) dL_textTold_350 (by decide) ?_
      refine E_icmp_eq (tgt := 358) dL_textTold_353 (by decide) (fun _ => ?_) (fun c0 => absurd (by decide) c0)
      refine E_aload dL_textTold_358 rfl ?_
      refine E_bipush (v := nI 40) dL_textTold_360 (by decide) ?_
      refine E_aload dL_textTold_362 rfl ?_
      refine E_bipush (v := nI 9) dL_textTold_364 (by decide) ?_
      refine E_ialdL (v := nI (tr c)) dL_textTold_366 (l_132 hL) (k_132 hL) rfl (by omega) (by decide) h.a9 ?_
      refine E_iadd_n dL_textTold_367 ?_
      refine E_ialdL (v := tS c (tr c)) dL_textTold_368 (l_138 hL) (k_138 hL) rfl (by omega) (by decide) (h.zl (j := tr c) (Nat.le_refl _)) ?_
      refine E_istore dL_textTold_369 (Nat.le_of_ble_eq_true rfl) (by decide) rfl ?_
      refine E_iload dL_textTold_371 rfl ?_
      refine E_iload_n dL_textTold_373 rfl ?_
      refine E_bipush (v := nI 8) dL_textTold_374 (by decide) ?_
      refine E_ishr dL_textTold_376 ?_
      refine E_bipush (v := nI 70) dL_textTold_377 (by decide) ?_
      refine E_callT2 (fr' := 1) (k1 := 0) (n1 := 0) (k2 := 30) (n2 := 200) dL_textTold_379 kO_L_low kL_L_229 (by exact Nat.le_of_ble_eq_true rfl) (by decide) (by exact Nat.le_of_ble_eq_true rfl) (Or.inl rfl) rfl ?_
      refine sp_L_low (by decide) (by decide) ?_
      have hlow := lowN_lt (cc >>> (nI 8 &&& 31)) (n := 70) (by decide)
      refine gKv ?_
      refine E_iadd dL_textTold_382 ?_
      refine E_bipush (v := nI 6) dL_textTold_383 (by decide) ?_
      refine E_isub dL_textTold_385 ?_
      refine E_istore dL_textTold_386 (Nat.le_of_ble_eq_true rfl) (by decide) rfl ?_
      refine E_iload dL_textTold_388 rfl ?_
      refine E_if_ge (tgt := 396) dL_textTold_390 (by decide) (fun c_390 => ?_) (fun c_390 => ?_)
      · have hmy : myS c ps M1 := ⟨hq.1, hq.2.1, hq.2.2.1, fun j hj => hq.2.2.2 j hj⟩
        first
          | (have hwi := wid_ok hW (fun f hf => h.S.ct hf) (fun j => fcO_b h.wf j) h.n64 hlow c_390
             refine E_aload_n dL_textTold_396 rfl ?_
             refine E_aload_n dL_textTold_397 rfl ?_
             refine E_aload dL_textTold_398 rfl ?_
             refine E_aload dL_textTold_400 rfl ?_
             refine E_aload dL_textTold_402 rfl ?_
             refine E_iload dL_textTold_404 rfl ?_
             refine E_iload dL_textTold_406 rfl ?_
             refine E_iload dL_textTold_408 rfl ?_
             refine E_isub dL_textTold_410 ?_
             refine E_callT7 (fr' := 10) (k1 := 30) (n1 := 200) (k2 := 0) (n2 := 0) dL_textTold_411 kO_L_filled kL_L_245 (by exact Nat.le_of_ble_eq_true rfl) (by decide) (by exact Nat.le_of_ble_eq_true rfl) (Or.inl rfl) rfl ?_
             refine sp_L_filled hst hwi rfl hS h hmy (fun M1 π1 hS1 h1 hkd => ?_)
             refine gKv ?_
             refine E_iret dL_textTold_414 (Or.inr ⟨rfl, by decide⟩) ?_
             exact K _ _ hS1 h1 (h00.trans hkd))
          | (have hwi : iIn (nI 0) (nI 0) (nI 10000) := by decide
             refine E_aload_n dL_textTold_396 rfl ?_
             refine E_aload_n dL_textTold_397 rfl ?_
             refine E_aload dL_textTold_398 rfl ?_
             refine E_aload dL_textTold_400 rfl ?_
             refine E_aload dL_textTold_402 rfl ?_
             refine E_iload dL_textTold_404 rfl ?_
             refine E_iload dL_textTold_406 rfl ?_
             refine E_iload dL_textTold_408 rfl ?_
             refine E_isub dL_textTold_410 ?_
             refine E_callT7 (fr' := 10) (k1 := 30) (n1 := 200) (k2 := 0) (n2 := 0) dL_textTold_411 kO_L_filled kL_L_245 (by exact Nat.le_of_ble_eq_true rfl) (by decide) (by exact Nat.le_of_ble_eq_true rfl) (Or.inl rfl) rfl ?_
             refine sp_L_filled hst hwi rfl hS h hmy (fun M1 π1 hS1 h1 hkd => ?_)
             refine gKv ?_
             refine E_iret dL_textTold_414 (Or.inr ⟨rfl, by decide⟩) ?_
             exact K _ _ hS1 h1 (h00.trans hkd))
      · refine E_iconst (v := nI 0) dL_textTold_393 (by decide) ?_
        refine E_istore dL_textTold_394 (Nat.le_of_ble_eq_true rfl) (by decide) rfl ?_
        have hmy : myS c ps M1 := ⟨hq.1, hq.2.1, hq.2.2.1, fun j hj => hq.2.2.2 j hj⟩
        first
          | (have hwi := wid_ok hW (fun f hf => h.S.ct hf) (fun j => fcO_b h.wf j) h.n64 hlow c_390
             refine E_aload_n dL_textTold_396 rfl ?_
             refine E_aload_n dL_textTold_397 rfl ?_
             refine E_aload dL_textTold_398 rfl ?_
             refine E_aload dL_textTold_400 rfl ?_
             refine E_aload dL_textTold_402 rfl ?_
             refine E_iload dL_textTold_404 rfl ?_
             refine E_iload dL_textTold_406 rfl ?_
             refine E_iload dL_textTold_408 rfl ?_
             refine E_isub dL_textTold_410 ?_
             refine E_callT7 (fr' := 10) (k1 := 30) (n1 := 200) (k2 := 0) (n2 := 0) dL_textTold_411 kO_L_filled kL_L_245 (by exact Nat.le_of_ble_eq_true rfl) (by decide) (by exact Nat.le_of_ble_eq_true rfl) (Or.inl rfl) rfl ?_
             refine sp_L_filled hst hwi rfl hS h hmy (fun M1 π1 hS1 h1 hkd => ?_)
             refine gKv ?_
             refine E_iret dL_textTold_414 (Or.inr ⟨rfl, by decide⟩) ?_
             exact K _ _ hS1 h1 (h00.trans hkd))
          | (have hwi : iIn (nI 0) (nI 0) (nI 10000) := by decide
             refine E_aload_n dL_textTold_396 rfl ?_
             refine E_aload_n dL_textTold_397 rfl ?_
             refine E_aload dL_textTold_398 rfl ?_
             refine E_aload dL_textTold_400 rfl ?_
             refine E_aload dL_textTold_402 rfl ?_
             refine E_iload dL_textTold_404 rfl ?_
             refine E_iload dL_textTold_406 rfl ?_
             refine E_iload dL_textTold_408 rfl ?_
             refine E_isub dL_textTold_410 ?_
             refine E_callT7 (fr' := 10) (k1 := 30) (n1 := 200) (k2 := 0) (n2 := 0) dL_textTold_411 kO_L_filled kL_L_245 (by exact Nat.le_of_ble_eq_true rfl) (by decide) (by exact Nat.le_of_ble_eq_true rfl) (Or.inl rfl) rfl ?_
             refine sp_L_filled hst hwi rfl hS h hmy (fun M1 π1 hS1 h1 hkd => ?_)
             refine gKv ?_
             refine E_iret dL_textTold_414 (Or.inr ⟨rfl, by decide⟩) ?_
             exact K _ _ hS1 h1 (h00.trans hkd))
set_option maxRecDepth 100000 in
set_option maxHeartbeats 4000000 in
theorem sp_L_textTold {g : gG} {M : gM} {Q : Option Value ⊕ String → gM → Prop} (hst : (gl1 g).stackTraces = false) {c : Cf} {P : Nat → Nat} {π : Nat → Nat} {lk : Int64} {cc : Int32} (hW : wfW c) (hlk : lkS c lk) (hS : kS c P π M) (h : lT c M) (K : ∀ M1 π1, kS c P π1 M1 → lT c M1 → kq M M1 → Q (.inl (some (.int (nI 1)))) M1) : E g 11 70 450 mL_textTold 0 [.ref 1, .int cc, .ref 129, .ref 130, .ref 131, .ref 132, .ref 133, .long lk, .null, .ref 134, .ref 135, .ref 139, .null, .null, .null, .null, .null, .null, .null, .null, .null, .null] [] M Q := by
  have hL := h.lay
  have h10 := h.t10
  have h139 : 139 ≤ mN M := hL.1
  have hR : lR lG0 M (mNew M (13, 16)) := lR.refl.new
  have hS1 := hR.kS hS
  have h1 := hR.T h
  have hq : qI (mN M) 0 (msV c) (mNew M (13, 16)) := ⟨by rw [mN_new]; omega, h139, by rw [mK_new, if_pos rfl], fun j hj => absurd hj (Nat.not_lt_zero j)⟩
  have hx := x_ok (lowN_lt cc (n := 200) (by decide))
  refine E_iconst (v := -1) dL_textTold_0 (by decide) ?_
  refine E_istore dL_textTold_1 (Nat.le_of_ble_eq_true rfl) (by decide) rfl ?_
  refine E_iload_n dL_textTold_3 rfl ?_
  refine E_sipush (v := nI 200) dL_textTold_4 (by decide) ?_
  refine E_callT2 (fr' := 1) (k1 := 0) (n1 := 0) (k2 := 70) (n2 := 450) dL_textTold_7 kO_L_low kL_L_229 (by exact Nat.le_of_ble_eq_true rfl) (by decide) (by exact Nat.le_of_ble_eq_true rfl) (Or.inl rfl) rfl ?_
  refine sp_L_low (by decide) (by decide) ?_
  refine gKv ?_
  refine E_bipush (v := nI 20) dL_textTold_10 (by decide) ?_
  refine E_isub dL_textTold_12 ?_
  refine E_istore dL_textTold_13 (Nat.le_of_ble_eq_true rfl) (by decide) rfl ?_
  refine E_iconst (v := nI 0) dL_textTold_15 (by decide) ?_
  refine E_istore dL_textTold_16 (Nat.le_of_ble_eq_true rfl) (by decide) rfl ?_
  refine E_bipush (v := nI 16) dL_textTold_18 (by decide) ?_
  refine E_newI (len := 16) (k := 69) (n := 434) dL_textTold_20 (gW_at 92 (by decide +kernel) (by decide +kernel)) rfl (by decide) ?_
  have hL := h1.lay
  refine E_astore dL_textTold_22 (Nat.le_of_ble_eq_true rfl) (by decide) rfl ?_
  refine E_iconst (v := nI 0) dL_textTold_24 (by decide) ?_
  refine E_istore dL_textTold_25 (Nat.le_of_ble_eq_true rfl) (by decide) rfl ?_
  refine E_room (k' := (3 * (tl c - 0) + 33)) (n' := (18 * (tl c - 0) + 218)) (Nat.le_refl _) (by omega) (by omega) ?_
  have z := lp_L_textTold (g := g) (Q := Q) (lk := lk) (cc := cc) (x := nI (lowN cc 200) - nI 20) hst hlk hS.C (Nat.le_refl (mN M)) (Nat.le_refl (mN M)) (fun M1 π1 b to v17 v18 v19 v20 v21 hS1 h1 hq h00 hbr => en_L_textTold hst hW hx hS1 h1 hq h00 hbr K _ _ _ _ _) 0 (Nat.zero_le _) (Nat.le_refl _) (mNew M (13, 16)) π 0 (nI 0) .null .null .null .null .null hS1 h1 hq hR.kq (hbR_0 c _)
  rw [dI_0] at z
  exact z
