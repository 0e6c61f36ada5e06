/-! the reference: breaks, lines -/
section GD
variable {g : gG} {fr k n : Nat} {μ : gMu} {pc : Nat} {ls st : List Value} {M : gM} {Q : Option Value ⊕ String → gM → Prop}
theorem E_idiv_n {a b : Nat} (hd : decode (gcc μ) pc = .ok (.idiv, 1)) (ha : a < 2 ^ 31) (h0 : 0 < b) (hb : b < 2 ^ 31) (k0 : E g fr k n μ (pc + 1) ls (.int (nI (a / b)) :: st) M Q) : E g fr k n μ pc ls (.int (nI b) :: .int (nI a) :: st) M Q :=
  E_idiv hd (nI_ne0 h0 hb) (by rw [pk_div ha h0 hb]; exact k0)
theorem E_irem_n {a b : Nat} (hd : decode (gcc μ) pc = .ok (.irem, 1)) (ha : a < 2 ^ 31) (h0 : 0 < b) (hb : b < 2 ^ 31) (k0 : E g fr k n μ (pc + 1) ls (.int (nI (a % b)) :: st) M Q) : E g fr k n μ pc ls (.int (nI b) :: .int (nI a) :: st) M Q :=
  E_irem hd (nI_ne0 h0 hb) (by rw [pk_rem ha h0 hb]; exact k0)
end GD
theorem clV_inj {a b : Nat} (ha : a < 100) (hb : b < 100) : clV a = clV b ↔ a = b := by
  unfold clV
  by_cases e : a = 0
  · rw [cI_t e]
    by_cases e2 : b = 0
    · rw [cI_t e2]; exact ⟨fun _ => by omega, fun _ => rfl⟩
    · rw [cI_f e2]; exact ⟨fun q => absurd q.symm (nI_ne100 (by omega)), fun q => by omega⟩
  · rw [cI_f e]
    by_cases e2 : b = 0
    · rw [cI_t e2]; exact ⟨fun q => absurd q (nI_ne100 (by omega)), fun q => by omega⟩
    · rw [cI_f e2, nI_eq (by omega) (by omega)]; omega
def msP (c : Cf) (k : Nat) : Prop := cBo (cN c 141 k) ∧ (frm c (tn c (ru c k)) (tn c (ru c k + 1)) k = nI 1 ∨ frm c (tn c (ru c k)) (tn c (ru c k + 1)) k = nI 2) ∧ jon c (tn c (ru c k + 1)) k < tn c (ru c k + 1) ∧ ¬ clO c (ru c k) k = clO c (ru c k) (jon c (tn c (ru c k + 1)) k)
set_option maxRecDepth 100000 in
set_option maxHeartbeats 4000000 in
theorem lp_X12_mayStand {g : gG} {M : gM} {Q : Option Value ⊕ String → gM → Prop} {c : Cf} (h : qS c M) {k z : Nat} (hk : k < tl c) (K : E g 5 0 0 mX12_mayStand 107 [.ref 129, .int (nI k), .int (nI (ru c k)), .int (frm c (tn c (ru c k)) (tn c (ru c k + 1)) k), .int (nI z), .int (nI (jon c (tn c (ru c k + 1)) k))] [] M Q) : ∀ q, q ≤ tn c (ru c k + 1) → fnd (fun j => ¬ cMk (cN c 141 j)) (tn c (ru c k + 1)) q = jon c (tn c (ru c k + 1)) k → E g 5 0 0 mX12_mayStand 75 [.ref 129, .int (nI k), .int (nI (ru c k)), .int (frm c (tn c (ru c k)) (tn c (ru c k + 1)) k), .int (nI z), .int (nI q)] [] M Q := by
  have hL := h.lay
  have h16 := h.t16
  have hn := h.nr16
  obtain ⟨b1, b2, b3⟩ := ru_b h.wf hk
  have b4 := h.tn16 (show ru c k + 1 ≤ tr c by omega)
  refine lpUp (tn c (ru c k + 1)) (fun q hq ih => ?_)
  intro he
  have tx := (h.wf.tx q).1
  refine E_iload dX12_mayStand_75 rfl ?_
  refine E_aload_n dX12_mayStand_77 rfl ?_
  refine E_getRL dX12_mayStand_78 kF_X12_126 kY_12 (Or.inr ⟨_, rfl⟩) (l_128 hL) (k_128 hL) (r_128_46 hL) ?_
  refine E_iload_n dX12_mayStand_81 rfl ?_
  refine E_iconst (v := nI 1) dX12_mayStand_82 (by decide) ?_
  refine E_iadd_n dX12_mayStand_83 ?_
  refine E_ialdL (v := _) dX12_mayStand_84 (l_166 hL) (k_166 hL) rfl (by omega) (by decide) (h.rf (by omega)) ?_
  refine E_icmp_ge_n (tgt := 107) dX12_mayStand_85 (by decide) (by omega) (by omega) (fun c_85 => ?_) (fun c_85 => ?_)
  · have e : jon c (tn c (ru c k + 1)) k = q := by rw [← he]; first | exact fnd_end (by omega) | exact fnd_hit (by omega) c_98
    rw [e] at K
    exact K
  · refine E_aload_n dX12_mayStand_88 rfl ?_
    refine E_getRL dX12_mayStand_89 kF_X12_47 kY_12 (Or.inr ⟨_, rfl⟩) (l_128 hL) (k_128 hL) (r_128_15 hL) ?_
    refine E_iload dX12_mayStand_92 rfl ?_
    refine E_ialdL (v := nI (cN _ 141 _)) dX12_mayStand_94 (l_141 hL) (k_141 hL) rfl (by omega) (by decide) (h.gc (Or.inl ⟨by decide, by decide, by decide⟩)) ?_
    refine E_callS1 (fr' := 2) (k1 := 0) (n1 := 0) (k2 := 0) (n2 := 0) dX12_mayStand_95 kO_X12_isMarkSign kL_X12_225 rfl (by decide) (by decide) (by exact Nat.le_of_ble_eq_true rfl) (Or.inl rfl) rfl ?_
    refine sp_X12_isMarkSignN (by first | omega | exact Nat.lt_trans (h.wf.tx _).1 (by decide) | exact Nat.lt_trans (h.ok.at _).1 (by decide)) ?_
    refine gKv ?_
    refine E_if_eq_b (tgt := 107) dX12_mayStand_98 (by decide) (fun c_98 => ?_) (fun c_98 => ?_)
    · have e : jon c (tn c (ru c k + 1)) k = q := by rw [← he]; first | exact fnd_end (by omega) | exact fnd_hit (by omega) c_98
      rw [e] at K
      exact K
    · refine E_iinc_n (d := 1) dX12_mayStand_101 rfl rfl rfl (by decide) rfl ?_
      refine E_goto (tgt := 75) dX12_mayStand_104 (by decide) ?_
      exact ih (by omega) (by rw [← he]; exact (fnd_skip (by omega) (fun z => z c_98)).symm)
set_option maxRecDepth 100000 in
set_option maxHeartbeats 4000000 in
theorem sp_X12_mayStand {g : gG} {M : gM} {Q : Option Value ⊕ String → gM → Prop} {c : Cf} (h : qS c M) {k : Nat} (hk : k < tl c) (K : Q (.inl (some (.int (b2i (msP c k))))) M) : E g 5 0 0 mX12_mayStand 0 [.ref 129, .int (nI k), .null, .null, .null, .null] [] M Q := by
  have hL := h.lay
  have h16 := h.t16
  have hn := h.nr16
  obtain ⟨b1, b2, b3⟩ := ru_b h.wf hk
  have b4 := h.tn16 (show ru c k + 1 ≤ tr c by omega)
  have tx := (h.wf.tx k).1
  have hjn := (fnd_spec (P := (fun j => ¬ cMk (cN c 141 j))) (show k + 1 ≤ tn c (ru c k + 1) by omega)).2.1
  have hjn : jon c (tn c (ru c k + 1)) k ≤ tn c (ru c k + 1) := hjn
  have hc1 := clE_b (tL c (ru c k)) k (tL c (ru c k)).length
  have hc1 : clO c (ru c k) k ≤ k + 1 := hc1
  refine E_aload_n dX12_mayStand_0 rfl ?_
  refine E_iload_n dX12_mayStand_1 rfl ?_
  refine E_callV1 (fr' := 1) (k1 := 0) (n1 := 0) (k2 := 0) (n2 := 0) dX12_mayStand_2 kO_X12_runOf kL_X12_430 (l_128 hL) (k_128 hL) ⟨by decide, rfl⟩ rfl (by decide) (by decide) (by exact Nat.le_of_ble_eq_true rfl) rfl ?_
  refine sp_X12_runOf h (by omega) ?_
  refine gKv ?_
  refine E_istore_n dX12_mayStand_5 (Nat.le_of_ble_eq_true rfl) (by decide) rfl ?_
  refine E_aload_n dX12_mayStand_6 rfl ?_
  refine E_aload_n dX12_mayStand_7 rfl ?_
  refine E_getRL dX12_mayStand_8 kF_X12_126 kY_12 (Or.inr ⟨_, rfl⟩) (l_128 hL) (k_128 hL) (r_128_46 hL) ?_
  refine E_iload_n dX12_mayStand_11 rfl ?_
  refine E_ialdL (v := _) dX12_mayStand_12 (l_166 hL) (k_166 hL) rfl (by omega) (by decide) (h.rf (by omega)) ?_
  refine E_aload_n dX12_mayStand_13 rfl ?_
  refine E_getRL dX12_mayStand_14 kF_X12_126 kY_12 (Or.inr ⟨_, rfl⟩) (l_128 hL) (k_128 hL) (r_128_46 hL) ?_
  refine E_iload_n dX12_mayStand_17 rfl ?_
  refine E_iconst (v := nI 1) dX12_mayStand_18 (by decide) ?_
  refine E_iadd_n dX12_mayStand_19 ?_
  refine E_ialdL (v := _) dX12_mayStand_20 (l_166 hL) (k_166 hL) rfl (by omega) (by decide) (h.rf (by omega)) ?_
  refine E_iload_n dX12_mayStand_21 rfl ?_
  refine E_callV3 (fr' := 4) (k1 := 0) (n1 := 0) (k2 := 0) (n2 := 0) dX12_mayStand_22 kO_X12_formOf kL_X12_238 (l_128 hL) (k_128 hL) ⟨by decide, rfl⟩ rfl rfl rfl (by decide) (by decide) (by exact Nat.le_of_ble_eq_true rfl) rfl ?_
  refine sp_X12_formOf h.b (by omega) (by omega) (by omega) ?_
  refine gKv ?_
  refine E_istore_n dX12_mayStand_25 (Nat.le_of_ble_eq_true rfl) (by decide) rfl ?_
  refine E_aload_n dX12_mayStand_26 rfl ?_
  refine E_getRL dX12_mayStand_27 kF_X12_47 kY_12 (Or.inr ⟨_, rfl⟩) (l_128 hL) (k_128 hL) (r_128_15 hL) ?_
  refine E_iload_n dX12_mayStand_30 rfl ?_
  refine E_ialdL (v := nI (cN _ 141 _)) dX12_mayStand_31 (l_141 hL) (k_141 hL) rfl (by omega) (by decide) (h.gc (Or.inl ⟨by decide, by decide, by decide⟩)) ?_
  refine E_bipush (v := nI 10) dX12_mayStand_32 (by decide) ?_
  refine E_bipush (v := nI 15) dX12_mayStand_34 (by decide) ?_
  refine E_callS3 (fr' := 1) (k1 := 0) (n1 := 0) (k2 := 0) (n2 := 0) dX12_mayStand_36 kO_X12_in kL_X12_162 rfl rfl rfl (by decide) (by decide) (by exact Nat.le_of_ble_eq_true rfl) (Or.inl rfl) rfl ?_
  refine sp_X12_inN (by first | omega | exact Nat.lt_trans (h.wf.tx _).1 (by decide)) (by decide) (by decide) ?_
  refine gKv ?_
  refine E_if_ne_b (tgt := 53) dX12_mayStand_39 (by decide) (fun c_39 => ?_) (fun c_39 => ?_)
  · refine E_iload_n dX12_mayStand_53 rfl ?_
    refine E_iconst (v := nI 1) dX12_mayStand_54 (by decide) ?_
    refine E_icmp_eq (tgt := 63) dX12_mayStand_55 (by decide) (fun c_55 => ?_) (fun c_55 => ?_)
    · refine E_iconst (v := nI 1) dX12_mayStand_63 (by decide) ?_
      refine E_goto (tgt := 68) dX12_mayStand_64 (by decide) ?_
      refine E_istore dX12_mayStand_68 (Nat.le_of_ble_eq_true rfl) (by decide) rfl ?_
      refine E_iload_n dX12_mayStand_70 rfl ?_
      refine E_iconst (v := nI 1) dX12_mayStand_71 (by decide) ?_
      refine E_iadd_n dX12_mayStand_72 ?_
      refine E_istore dX12_mayStand_73 (Nat.le_of_ble_eq_true rfl) (by decide) rfl ?_
      refine lp_X12_mayStand h hk ?_ (k + 1) (by omega) rfl
      refine E_iload dX12_mayStand_107 rfl ?_
      refine E_if_eq (tgt := 145) dX12_mayStand_109 (by decide) (fun c0 => absurd c0 (by decide)) (fun _ => ?_)
      refine E_iload dX12_mayStand_112 rfl ?_
      refine E_aload_n dX12_mayStand_114 rfl ?_
      refine E_getRL dX12_mayStand_115 kF_X12_126 kY_12 (Or.inr ⟨_, rfl⟩) (l_128 hL) (k_128 hL) (r_128_46 hL) ?_
      refine E_iload_n dX12_mayStand_118 rfl ?_
      refine E_iconst (v := nI 1) dX12_mayStand_119 (by decide) ?_
      refine E_iadd_n dX12_mayStand_120 ?_
      refine E_ialdL (v := _) dX12_mayStand_121 (l_166 hL) (k_166 hL) rfl (by omega) (by decide) (h.rf (by omega)) ?_
      refine E_icmp_ge_n (tgt := 145) dX12_mayStand_122 (by decide) (by omega) (by omega) (fun e_122 => ?_) (fun e_122 => ?_)
      · refine E_iconst (v := nI 0) dX12_mayStand_145 (by decide) ?_
        refine E_iret dX12_mayStand_146 (Or.inr ⟨rfl, by decide⟩) ?_
        first
          | (rw [← b2i_f (P := msP c k) (fun q => q.2.2.2 ((clV_inj (by omega) (by omega)).mp e_138))]; exact K)
          | (rw [← b2i_f (P := msP c k) (fun q => by have := q.2.2.1; omega)]; exact K)
      · refine E_aload_n dX12_mayStand_125 rfl ?_
        refine E_iload_n dX12_mayStand_126 rfl ?_
        refine E_iload_n dX12_mayStand_127 rfl ?_
        refine E_callV2 (fr' := 1) (k1 := 0) (n1 := 0) (k2 := 0) (n2 := 0) dX12_mayStand_128 kO_X12_clusterOf kL_X12_433 (l_128 hL) (k_128 hL) ⟨by decide, rfl⟩ rfl rfl (by decide) (by decide) (by exact Nat.le_of_ble_eq_true rfl) rfl ?_
        refine sp_X12_clusterOf h (by omega) (by omega) ?_
        refine gKv ?_
        refine E_aload_n dX12_mayStand_131 rfl ?_
        refine E_iload_n dX12_mayStand_132 rfl ?_
        refine E_iload dX12_mayStand_133 rfl ?_
        refine E_callV2 (fr' := 1) (k1 := 0) (n1 := 0) (k2 := 0) (n2 := 0) dX12_mayStand_135 kO_X12_clusterOf kL_X12_433 (l_128 hL) (k_128 hL) ⟨by decide, rfl⟩ rfl rfl (by decide) (by decide) (by exact Nat.le_of_ble_eq_true rfl) rfl ?_
        have hc2 := clE_b (tL c (ru c k)) (jon c (tn c (ru c k + 1)) k) (tL c (ru c k)).length
        have hc2 : clO c (ru c k) (jon c (tn c (ru c k + 1)) k) ≤ jon c (tn c (ru c k + 1)) k + 1 := hc2
        refine sp_X12_clusterOf h (by omega) (by omega) ?_
        refine gKv ?_
        refine E_icmp_eq (tgt := 145) dX12_mayStand_138 (by decide) (fun e_138 => ?_) (fun e_138 => ?_)
        · refine E_iconst (v := nI 0) dX12_mayStand_145 (by decide) ?_
          refine E_iret dX12_mayStand_146 (Or.inr ⟨rfl, by decide⟩) ?_
          first
            | (rw [← b2i_f (P := msP c k) (fun q => q.2.2.2 ((clV_inj (by omega) (by omega)).mp e_138))]; exact K)
            | (rw [← b2i_f (P := msP c k) (fun q => by have := q.2.2.1; omega)]; exact K)
        · refine E_iconst (v := nI 1) dX12_mayStand_141 (by decide) ?_
          refine E_goto (tgt := 146) dX12_mayStand_142 (by decide) ?_
          refine E_iret dX12_mayStand_146 (Or.inr ⟨rfl, by decide⟩) ?_
          rw [← b2i_t (P := msP c k) ⟨by unfold cBo; omega, by first | exact Or.inl c_55 | exact Or.inr c_60, by omega, fun q => e_138 ((clV_inj (by omega) (by omega)).mpr q)⟩]; exact K
    · refine E_iload_n dX12_mayStand_58 rfl ?_
      refine E_iconst (v := nI 2) dX12_mayStand_59 (by decide) ?_
      refine E_icmp_ne_r (tgt := 67) dX12_mayStand_60 (by decide) (fun c_60 => ?_) (fun c_60 => ?_)
      · refine E_iconst (v := nI 0) dX12_mayStand_67 (by decide) ?_
        refine E_istore dX12_mayStand_68 (Nat.le_of_ble_eq_true rfl) (by decide) rfl ?_
        refine E_iload_n dX12_mayStand_70 rfl ?_
        refine E_iconst (v := nI 1) dX12_mayStand_71 (by decide) ?_
        refine E_iadd_n dX12_mayStand_72 ?_
        refine E_istore dX12_mayStand_73 (Nat.le_of_ble_eq_true rfl) (by decide) rfl ?_
        have nt : ¬ msP c k := fun q => by
          have q1 := q.1; have q2 := q.2.1
          unfold cBo at q1
          first | omega | (rcases q2 with z | z; exact c_55 z; exact c_60 z)
        refine lp_X12_mayStand h hk ?_ (k + 1) (by omega) rfl
        refine E_iload dX12_mayStand_107 rfl ?_
        refine E_if_eq (tgt := 145) dX12_mayStand_109 (by decide) (fun _ => ?_) (fun c0 => absurd (by decide) c0)
        refine E_iconst (v := nI 0) dX12_mayStand_145 (by decide) ?_
        refine E_iret dX12_mayStand_146 (Or.inr ⟨rfl, by decide⟩) ?_
        rw [← b2i_f (P := msP c k) nt]; exact K
      · refine E_iconst (v := nI 1) dX12_mayStand_63 (by decide) ?_
        refine E_goto (tgt := 68) dX12_mayStand_64 (by decide) ?_
        refine E_istore dX12_mayStand_68 (Nat.le_of_ble_eq_true rfl) (by decide) rfl ?_
        refine E_iload_n dX12_mayStand_70 rfl ?_
        refine E_iconst (v := nI 1) dX12_mayStand_71 (by decide) ?_
        refine E_iadd_n dX12_mayStand_72 ?_
        refine E_istore dX12_mayStand_73 (Nat.le_of_ble_eq_true rfl) (by decide) rfl ?_
        refine lp_X12_mayStand h hk ?_ (k + 1) (by omega) rfl
        refine E_iload dX12_mayStand_107 rfl ?_
        refine E_if_eq (tgt := 145) dX12_mayStand_109 (by decide) (fun c0 => absurd c0 (by decide)) (fun _ => ?_)
        refine E_iload dX12_mayStand_112 rfl ?_
        refine E_aload_n dX12_mayStand_114 rfl ?_
        refine E_getRL dX12_mayStand_115 kF_X12_126 kY_12 (Or.inr ⟨_, rfl⟩) (l_128 hL) (k_128 hL) (r_128_46 hL) ?_
        refine E_iload_n dX12_mayStand_118 rfl ?_
        refine E_iconst (v := nI 1) dX12_mayStand_119 (by decide) ?_
        refine E_iadd_n dX12_mayStand_120 ?_
        refine E_ialdL (v := _) dX12_mayStand_121 (l_166 hL) (k_166 hL) rfl (by omega) (by decide) (h.rf (by omega)) ?_
        refine E_icmp_ge_n (tgt := 145) dX12_mayStand_122 (by decide) (by omega) (by omega) (fun e_122 => ?_) (fun e_122 => ?_)
        · refine E_iconst (v := nI 0) dX12_mayStand_145 (by decide) ?_
          refine E_iret dX12_mayStand_146 (Or.inr ⟨rfl, by decide⟩) ?_
          first
            | (rw [← b2i_f (P := msP c k) (fun q => q.2.2.2 ((clV_inj (by omega) (by omega)).mp e_138))]; exact K)
            | (rw [← b2i_f (P := msP c k) (fun q => by have := q.2.2.1; omega)]; exact K)
        · refine E_aload_n dX12_mayStand_125 rfl ?_
          refine E_iload_n dX12_mayStand_126 rfl ?_
          refine E_iload_n dX12_mayStand_127 rfl ?_
          refine E_callV2 (fr' := 1) (k1 := 0) (n1 := 0) (k2 := 0) (n2 := 0) dX12_mayStand_128 kO_X12_clusterOf kL_X12_433 (l_128 hL) (k_128 hL) ⟨by decide, rfl⟩ rfl rfl (by decide) (by decide) (by exact Nat.le_of_ble_eq_true rfl) rfl ?_
          refine sp_X12_clusterOf h (by omega) (by omega) ?_
          refine gKv ?_
          refine E_aload_n dX12_mayStand_131 rfl ?_
          refine E_iload_n dX12_mayStand_132 rfl ?_
          refine E_iload dX12_mayStand_133 rfl ?_
          refine E_callV2 (fr' := 1) (k1 := 0) (n1 := 0) (k2 := 0) (n2 := 0) dX12_mayStand_135 kO_X12_clusterOf kL_X12_433 (l_128 hL) (k_128 hL) ⟨by decide, rfl⟩ rfl rfl (by decide) (by decide) (by exact Nat.le_of_ble_eq_true rfl) rfl ?_
          have hc2 := clE_b (tL c (ru c k)) (jon c (tn c (ru c k + 1)) k) (tL c (ru c k)).length
          have hc2 : clO c (ru c k) (jon c (tn c (ru c k + 1)) k) ≤ jon c (tn c (ru c k + 1)) k + 1 := hc2
          refine sp_X12_clusterOf h (by omega) (by omega) ?_
          refine gKv ?_
          refine E_icmp_eq (tgt := 145) dX12_mayStand_138 (by decide) (fun e_138 => ?_) (fun e_138 => ?_)
          · refine E_iconst (v := nI 0) dX12_mayStand_145 (by decide) ?_
            refine E_iret dX12_mayStand_146 (Or.inr ⟨rfl, by decide⟩) ?_
            first
              | (rw [← b2i_f (P := msP c k) (fun q => q.2.2.2 ((clV_inj (by omega) (by omega)).mp e_138))]; exact K)
              | (rw [← b2i_f (P := msP c k) (fun q => by have := q.2.2.1; omega)]; exact K)
          · refine E_iconst (v := nI 1) dX12_mayStand_141 (by decide) ?_
            refine E_goto (tgt := 146) dX12_mayStand_142 (by decide) ?_
            refine E_iret dX12_mayStand_146 (Or.inr ⟨rfl, by decide⟩) ?_
            rw [← b2i_t (P := msP c k) ⟨by unfold cBo; omega, by first | exact Or.inl c_55 | exact Or.inr c_60, by omega, fun q => e_138 ((clV_inj (by omega) (by omega)).mpr q)⟩]; exact K
  · refine E_aload_n dX12_mayStand_42 rfl ?_
    refine E_getRL dX12_mayStand_43 kF_X12_47 kY_12 (Or.inr ⟨_, rfl⟩) (l_128 hL) (k_128 hL) (r_128_15 hL) ?_
    refine E_iload_n dX12_mayStand_46 rfl ?_
    refine E_ialdL (v := nI (cN _ 141 _)) dX12_mayStand_47 (l_141 hL) (k_141 hL) rfl (by omega) (by decide) (h.gc (Or.inl ⟨by decide, by decide, by decide⟩)) ?_
    refine E_bipush (v := nI 20) dX12_mayStand_48 (by decide) ?_
    refine E_icmp_ne_n (tgt := 67) dX12_mayStand_50 (by decide) (by omega) (by omega) (fun c_50 => ?_) (fun c_50 => ?_)
    · refine E_iconst (v := nI 0) dX12_mayStand_67 (by decide) ?_
      refine E_istore dX12_mayStand_68 (Nat.le_of_ble_eq_true rfl) (by decide) rfl ?_
      refine E_iload_n dX12_mayStand_70 rfl ?_
      refine E_iconst (v := nI 1) dX12_mayStand_71 (by decide) ?_
      refine E_iadd_n dX12_mayStand_72 ?_
      refine E_istore dX12_mayStand_73 (Nat.le_of_ble_eq_true rfl) (by decide) rfl ?_
      have nt : ¬ msP c k := fun q => by
        have q1 := q.1; have q2 := q.2.1
        unfold cBo at q1
        first | omega | (rcases q2 with z | z; exact c_55 z; exact c_60 z)
      refine lp_X12_mayStand h hk ?_ (k + 1) (by omega) rfl
      refine E_iload dX12_mayStand_107 rfl ?_
      refine E_if_eq (tgt := 145) dX12_mayStand_109 (by decide) (fun _ => ?_) (fun c0 => absurd (by decide) c0)
      refine E_iconst (v := nI 0) dX12_mayStand_145 (by decide) ?_
      refine E_iret dX12_mayStand_146 (Or.inr ⟨rfl, by decide⟩) ?_
      rw [← b2i_f (P := msP c k) nt]; exact K
    · refine E_iload_n dX12_mayStand_53 rfl ?_
      refine E_iconst (v := nI 1) dX12_mayStand_54 (by decide) ?_
      refine E_icmp_eq (tgt := 63) dX12_mayStand_55 (by decide) (fun c_55 => ?_) (fun c_55 => ?_)
      · refine E_iconst (v := nI 1) dX12_mayStand_63 (by decide) ?_
        refine E_goto (tgt := 68) dX12_mayStand_64 (by decide) ?_
        refine E_istore dX12_mayStand_68 (Nat.le_of_ble_eq_true rfl) (by decide) rfl ?_
        refine E_iload_n dX12_mayStand_70 rfl ?_
        refine E_iconst (v := nI 1) dX12_mayStand_71 (by decide) ?_
        refine E_iadd_n dX12_mayStand_72 ?_
        refine E_istore dX12_mayStand_73 (Nat.le_of_ble_eq_true rfl) (by decide) rfl ?_
        refine lp_X12_mayStand h hk ?_ (k + 1) (by omega) rfl
        refine E_iload dX12_mayStand_107 rfl ?_
        refine E_if_eq (tgt := 145) dX12_mayStand_109 (by decide) (fun c0 => absurd c0 (by decide)) (fun _ => ?_)
        refine E_iload dX12_mayStand_112 rfl ?_
        refine E_aload_n dX12_mayStand_114 rfl ?_
        refine E_getRL dX12_mayStand_115 kF_X12_126 kY_12 (Or.inr ⟨_, rfl⟩) (l_128 hL) (k_128 hL) (r_128_46 hL) ?_
        refine E_iload_n dX12_mayStand_118 rfl ?_
        refine E_iconst (v := nI 1) dX12_mayStand_119 (by decide) ?_
        refine E_iadd_n dX12_mayStand_120 ?_
        refine E_ialdL (v := _) dX12_mayStand_121 (l_166 hL) (k_166 hL) rfl (by omega) (by decide) (h.rf (by omega)) ?_
        refine E_icmp_ge_n (tgt := 145) dX12_mayStand_122 (by decide) (by omega) (by omega) (fun e_122 => ?_) (fun e_122 => ?_)
        · refine E_iconst (v := nI 0) dX12_mayStand_145 (by decide) ?_
          refine E_iret dX12_mayStand_146 (Or.inr ⟨rfl, by decide⟩) ?_
          first
            | (rw [← b2i_f (P := msP c k) (fun q => q.2.2.2 ((clV_inj (by omega) (by omega)).mp e_138))]; exact K)
            | (rw [← b2i_f (P := msP c k) (fun q => by have := q.2.2.1; omega)]; exact K)
        · refine E_aload_n dX12_mayStand_125 rfl ?_
          refine E_iload_n dX12_mayStand_126 rfl ?_
          refine E_iload_n dX12_mayStand_127 rfl ?_
          refine E_callV2 (fr' := 1) (k1 := 0) (n1 := 0) (k2 := 0) (n2 := 0) dX12_mayStand_128 kO_X12_clusterOf kL_X12_433 (l_128 hL) (k_128 hL) ⟨by decide, rfl⟩ rfl rfl (by decide) (by decide) (by exact Nat.le_of_ble_eq_true rfl) rfl ?_
          refine sp_X12_clusterOf h (by omega) (by omega) ?_
          refine gKv ?_
          refine E_aload_n dX12_mayStand_131 rfl ?_
          refine E_iload_n dX12_mayStand_132 rfl ?_
          refine E_iload dX12_mayStand_133 rfl ?_
          refine E_callV2 (fr' := 1) (k1 := 0) (n1 := 0) (k2 := 0) (n2 := 0) dX12_mayStand_135 kO_X12_clusterOf kL_X12_433 (l_128 hL) (k_128 hL) ⟨by decide, rfl⟩ rfl rfl (by decide) (by decide) (by exact Nat.le_of_ble_eq_true rfl) rfl ?_
          have hc2 := clE_b (tL c (ru c k)) (jon c (tn c (ru c k + 1)) k) (tL c (ru c k)).length
          have hc2 : clO c (ru c k) (jon c (tn c (ru c k + 1)) k) ≤ jon c (tn c (ru c k + 1)) k + 1 := hc2
          refine sp_X12_clusterOf h (by omega) (by omega) ?_
          refine gKv ?_
          refine E_icmp_eq (tgt := 145) dX12_mayStand_138 (by decide) (fun e_138 => ?_) (fun e_138 => ?_)
          · refine E_iconst (v := nI 0) dX12_mayStand_145 (by decide) ?_
            refine E_iret dX12_mayStand_146 (Or.inr ⟨rfl, by decide⟩) ?_
            first
              | (rw [← b2i_f (P := msP c k) (fun q => q.2.2.2 ((clV_inj (by omega) (by omega)).mp e_138))]; exact K)
              | (rw [← b2i_f (P := msP c k) (fun q => by have := q.2.2.1; omega)]; exact K)
          · refine E_iconst (v := nI 1) dX12_mayStand_141 (by decide) ?_
            refine E_goto (tgt := 146) dX12_mayStand_142 (by decide) ?_
            refine E_iret dX12_mayStand_146 (Or.inr ⟨rfl, by decide⟩) ?_
            rw [← b2i_t (P := msP c k) ⟨by unfold cBo; omega, by first | exact Or.inl c_55 | exact Or.inr c_60, by omega, fun q => e_138 ((clV_inj (by omega) (by omega)).mpr q)⟩]; exact K
      · refine E_iload_n dX12_mayStand_58 rfl ?_
        refine E_iconst (v := nI 2) dX12_mayStand_59 (by decide) ?_
        refine E_icmp_ne_r (tgt := 67) dX12_mayStand_60 (by decide) (fun c_60 => ?_) (fun c_60 => ?_)
        · refine E_iconst (v := nI 0) dX12_mayStand_67 (by decide) ?_
          refine E_istore dX12_mayStand_68 (Nat.le_of_ble_eq_true rfl) (by decide) rfl ?_
          refine E_iload_n dX12_mayStand_70 rfl ?_
          refine E_iconst (v := nI 1) dX12_mayStand_71 (by decide) ?_
          refine E_iadd_n dX12_mayStand_72 ?_
          refine E_istore dX12_mayStand_73 (Nat.le_of_ble_eq_true rfl) (by decide) rfl ?_
          have nt : ¬ msP c k := fun q => by
            have q1 := q.1; have q2 := q.2.1
            unfold cBo at q1
            first | omega | (rcases q2 with z | z; exact c_55 z; exact c_60 z)
          refine lp_X12_mayStand h hk ?_ (k + 1) (by omega) rfl
          refine E_iload dX12_mayStand_107 rfl ?_
          refine E_if_eq (tgt := 145) dX12_mayStand_109 (by decide) (fun _ => ?_) (fun c0 => absurd (by decide) c0)
          refine E_iconst (v := nI 0) dX12_mayStand_145 (by decide) ?_
          refine E_iret dX12_mayStand_146 (Or.inr ⟨rfl, by decide⟩) ?_
          rw [← b2i_f (P := msP c k) nt]; exact K
        · refine E_iconst (v := nI 1) dX12_mayStand_63 (by decide) ?_
          refine E_goto (tgt := 68) dX12_mayStand_64 (by decide) ?_
          refine E_istore dX12_mayStand_68 (Nat.le_of_ble_eq_true rfl) (by decide) rfl ?_
          refine E_iload_n dX12_mayStand_70 rfl ?_
          refine E_iconst (v := nI 1) dX12_mayStand_71 (by decide) ?_
          refine E_iadd_n dX12_mayStand_72 ?_
          refine E_istore dX12_mayStand_73 (Nat.le_of_ble_eq_true rfl) (by decide) rfl ?_
          refine lp_X12_mayStand h hk ?_ (k + 1) (by omega) rfl
          refine E_iload dX12_mayStand_107 rfl ?_
          refine E_if_eq (tgt := 145) dX12_mayStand_109 (by decide) (fun c0 => absurd c0 (by decide)) (fun _ => ?_)
          refine E_iload dX12_mayStand_112 rfl ?_
          refine E_aload_n dX12_mayStand_114 rfl ?_
          refine E_getRL dX12_mayStand_115 kF_X12_126 kY_12 (Or.inr ⟨_, rfl⟩) (l_128 hL) (k_128 hL) (r_128_46 hL) ?_
          refine E_iload_n dX12_mayStand_118 rfl ?_
          refine E_iconst (v := nI 1) dX12_mayStand_119 (by decide) ?_
          refine E_iadd_n dX12_mayStand_120 ?_
          refine E_ialdL (v := _) dX12_mayStand_121 (l_166 hL) (k_166 hL) rfl (by omega) (by decide) (h.rf (by omega)) ?_
          refine E_icmp_ge_n (tgt := 145) dX12_mayStand_122 (by decide) (by omega) (by omega) (fun e_122 => ?_) (fun e_122 => ?_)
          · refine E_iconst (v := nI 0) dX12_mayStand_145 (by decide) ?_
            refine E_iret dX12_mayStand_146 (Or.inr ⟨rfl, by decide⟩) ?_
            first
              | (rw [← b2i_f (P := msP c k) (fun q => q.2.2.2 ((clV_inj (by omega) (by omega)).mp e_138))]; exact K)
              | (rw [← b2i_f (P := msP c k) (fun q => by have := q.2.2.1; omega)]; exact K)
          · refine E_aload_n dX12_mayStand_125 rfl ?_
            refine E_iload_n dX12_mayStand_126 rfl ?_
            refine E_iload_n dX12_mayStand_127 rfl ?_
            refine E_callV2 (fr' := 1) (k1 := 0) (n1 := 0) (k2 := 0) (n2 := 0) dX12_mayStand_128 kO_X12_clusterOf kL_X12_433 (l_128 hL) (k_128 hL) ⟨by decide, rfl⟩ rfl rfl (by decide) (by decide) (by exact Nat.le_of_ble_eq_true rfl) rfl ?_
            refine sp_X12_clusterOf h (by omega) (by omega) ?_
            refine gKv ?_
            refine E_aload_n dX12_mayStand_131 rfl ?_
            refine E_iload_n dX12_mayStand_132 rfl ?_
            refine E_iload dX12_mayStand_133 rfl ?_
            refine E_callV2 (fr' := 1) (k1 := 0) (n1 := 0) (k2 := 0) (n2 := 0) dX12_mayStand_135 kO_X12_clusterOf kL_X12_433 (l_128 hL) (k_128 hL) ⟨by decide, rfl⟩ rfl rfl (by decide) (by decide) (by exact Nat.le_of_ble_eq_true rfl) rfl ?_
            have hc2 := clE_b (tL c (ru c k)) (jon c (tn c (ru c k + 1)) k) (tL c (ru c k)).length
            have hc2 : clO c (ru c k) (jon c (tn c (ru c k + 1)) k) ≤ jon c (tn c (ru c k + 1)) k + 1 := hc2
            refine sp_X12_clusterOf h (by omega) (by omega) ?_
            refine gKv ?_
            refine E_icmp_eq (tgt := 145) dX12_mayStand_138 (by decide) (fun e_138 => ?_) (fun e_138 => ?_)
            · refine E_iconst (v := nI 0) dX12_mayStand_145 (by decide) ?_
              refine E_iret dX12_mayStand_146 (Or.inr ⟨rfl, by decide⟩) ?_
              first
                | (rw [← b2i_f (P := msP c k) (fun q => q.2.2.2 ((clV_inj (by omega) (by omega)).mp e_138))]; exact K)
                | (rw [← b2i_f (P := msP c k) (fun q => by have := q.2.2.1; omega)]; exact K)
            · refine E_iconst (v := nI 1) dX12_mayStand_141 (by decide) ?_
              refine E_goto (tgt := 146) dX12_mayStand_142 (by decide) ?_
              refine E_iret dX12_mayStand_146 (Or.inr ⟨rfl, by decide⟩) ?_
              rw [← b2i_t (P := msP c k) ⟨by unfold cBo; omega, by first | exact Or.inl c_55 | exact Or.inr c_60, by omega, fun q => e_138 ((clV_inj (by omega) (by omega)).mpr q)⟩]; exact K
noncomputable def blk (c : Cf) : Nat → Nat
  | 0 => 0
  | k + 1 => blk c k + cI (cN c 141 k = 0) 1 0
theorem blk_b (c : Cf) : ∀ k, blk c k ≤ k
  | 0 => Nat.le_refl _
  | k + 1 => by
    have ih := blk_b c k
    show blk c k + cI _ _ _ ≤ _
    by_cases e : cN c 141 k = 0
    · rw [cI_t e]; omega
    · rw [cI_f e]; omega
set_option maxRecDepth 100000 in
set_option maxHeartbeats 4000000 in
theorem lp_X12_blanks {g : gG} {M : gM} {Q : Option Value ⊕ String → gM → Prop} {c : Cf} (h : bS c M) {t : Nat} (ht : t ≤ 16) (K : Q (.inl (some (.int (nI (blk c t))))) M) : ∀ k, k ≤ t → ∀ v, v = blk c k → E g 1 0 0 mX12_blanks 4 [.ref 129, .int (nI t), .int (nI v), .int (nI k)] [] M Q := by
  have hL := h.lay
  refine lpUp t (fun k hk ih => ?_)
  intro v hv
  have tx := (h.wf.tx k).1
  have hb := blk_b c k
  refine E_iload_n dX12_blanks_4 rfl ?_
  refine E_iload_n dX12_blanks_5 rfl ?_
  refine E_icmp_ge_n (tgt := 32) dX12_blanks_6 (by decide) (by omega) (by omega) (fun c_6 => ?_) (fun c_6 => ?_)
  · refine E_iload_n dX12_blanks_32 rfl ?_
    refine E_iret dX12_blanks_33 (Or.inl rfl) ?_
    obtain rfl : k = t := by omega
    subst hv
    exact K
  · refine E_iload_n dX12_blanks_9 rfl ?_
    refine E_aload_n dX12_blanks_10 rfl ?_
    refine E_getRL dX12_blanks_11 kF_X12_47 kY_12 (Or.inr ⟨_, rfl⟩) (l_128 hL) (k_128 hL) (r_128_15 hL) ?_
    refine E_iload_n dX12_blanks_14 rfl ?_
    refine E_ialdL (v := nI (cN _ 141 _)) dX12_blanks_15 (l_141 hL) (k_141 hL) rfl (by first | omega | exact h.n256 _) (by decide) (h.gc (Or.inl ⟨by decide, by decide, by decide⟩)) ?_
    refine E_if_ne_n (tgt := 23) dX12_blanks_16 (by decide) (by omega) (fun c_16 => ?_) (fun c_16 => ?_)
    · refine E_iconst (v := nI 0) dX12_blanks_23 (by decide) ?_
      refine E_iadd_n dX12_blanks_24 ?_
      refine E_istore_n dX12_blanks_25 (Nat.le_of_ble_eq_true rfl) (by decide) rfl ?_
      refine E_iinc_n (d := 1) dX12_blanks_26 rfl rfl rfl (by decide) rfl ?_
      refine E_goto (tgt := 4) dX12_blanks_29 (by decide) ?_
      refine ih (by omega) _ ?_
      show _ = blk c k + cI (cN c 141 k = 0) 1 0
      first | (rw [cI_t (by omega)]; omega) | (rw [cI_f (by omega)]; omega)
    · refine E_iconst (v := nI 1) dX12_blanks_19 (by decide) ?_
      refine E_goto (tgt := 24) dX12_blanks_20 (by decide) ?_
      refine E_iadd_n dX12_blanks_24 ?_
      refine E_istore_n dX12_blanks_25 (Nat.le_of_ble_eq_true rfl) (by decide) rfl ?_
      refine E_iinc_n (d := 1) dX12_blanks_26 rfl rfl rfl (by decide) rfl ?_
      refine E_goto (tgt := 4) dX12_blanks_29 (by decide) ?_
      refine ih (by omega) _ ?_
      show _ = blk c k + cI (cN c 141 k = 0) 1 0
      first | (rw [cI_t (by omega)]; omega) | (rw [cI_f (by omega)]; omega)
set_option maxRecDepth 100000 in
set_option maxHeartbeats 4000000 in
theorem sp_X12_blanks {g : gG} {M : gM} {Q : Option Value ⊕ String → gM → Prop} {c : Cf} (h : bS c M) {t : Nat} (ht : t ≤ 16) (K : Q (.inl (some (.int (nI (blk c t))))) M) : E g 1 0 0 mX12_blanks 0 [.ref 129, .int (nI t), .null, .null] [] M Q := by
  have hL := h.lay
  refine E_iconst (v := nI 0) dX12_blanks_0 (by decide) ?_
  refine E_istore_n dX12_blanks_1 (Nat.le_of_ble_eq_true rfl) (by decide) rfl ?_
  refine E_iconst (v := nI 0) dX12_blanks_2 (by decide) ?_
  refine E_istore_n dX12_blanks_3 (Nat.le_of_ble_eq_true rfl) (by decide) rfl ?_
  exact lp_X12_blanks h ht K 0 (Nat.zero_le _) 0 rfl
noncomputable def msC (c : Cf) : Nat → Nat
  | 0 => 0
  | k + 1 => msC c k + cI (msP c k) 1 0
theorem msC_b (c : Cf) : ∀ k, msC c k ≤ k
  | 0 => Nat.le_refl _
  | k + 1 => by
    have ih := msC_b c k
    show msC c k + cI _ _ _ ≤ _
    by_cases e : msP c k
    · rw [cI_t e]; omega
    · rw [cI_f e]; omega
theorem msC_t {c : Cf} {k : Nat} (e : msP c k) : msC c (k + 1) = msC c k + 1 := by show msC c k + cI _ _ _ = _; rw [cI_t e]
theorem msC_f {c : Cf} {k : Nat} (e : ¬ msP c k) : msC c (k + 1) = msC c k := by show msC c k + cI _ _ _ = _; rw [cI_f e]; omega
theorem msC_m {c : Cf} {j : Nat} : ∀ k, j ≤ k → msC c j ≤ msC c k
  | 0, h => by rw [show j = 0 by omega]; exact Nat.le_refl _
  | k + 1, h => by
    by_cases e : j = k + 1
    · rw [e]; exact Nat.le_refl _
    · have := msC_m k (show j ≤ k by omega) (c := c)
      have : msC c k ≤ msC c (k + 1) := by
        by_cases e : msP c k
        · rw [msC_t e]; omega
        · rw [msC_f e]; exact Nat.le_refl _
      omega
abbrev wSt (c : Cf) : Nat := cN c 139 20
noncomputable def stA (c : Cf) (q : Nat) : Nat := cI (wSt c = 0) 0 (q / wSt c)
noncomputable def stM (c : Cf) : Nat := msC c (tl c)
noncomputable def stN (c : Cf) (q k : Nat) : Nat := stA c q / stM c + cI (stM c - msC c (k + 1) < stA c q % stM c) 1 0
noncomputable def stV (c : Cf) (q k : Nat) : Int32 := cI (msP c k) (nI (stN c q k)) (-100)
noncomputable def stL (c : Cf) (q : Nat) : Nat := cI (stM c = 0) q (q - stA c q * wSt c)
theorem stA_b (c : Cf) (q : Nat) : stA c q ≤ q ∧ stA c q * wSt c ≤ q := by
  unfold stA
  by_cases e : wSt c = 0
  · rw [cI_t e]; omega
  · rw [cI_f e]; exact ⟨Nat.div_le_self _ _, Nat.div_mul_le_self _ _⟩
def st0 (c : Cf) (k : Nat) (M : gM) : Prop := ∀ j, j < k → mI M 177 j = cI (msP c j) (nI 0) (-100)
def st1 (c : Cf) (q k : Nat) (M : gM) : Prop := (∀ j, j < k → mI M 177 j = cI (msP c j) (nI 0) (-100)) ∧ ∀ j, k ≤ j → j < tl c → mI M 177 j = stV c q j
def skR (a _j : Nat) : Prop := a = 177
theorem skR_q (a j : Nat) (h : skR a j) : qR a j := by unfold skR at h; unfold qR; omega
theorem qSk {c : Cf} {M M' : gM} (h : qS c M) (hf : fr skR M M') : qS c M' := h.fr hf (fun a j q => by unfold skR at q; omega)
set_option maxRecDepth 100000 in
set_option maxHeartbeats 4000000 in
theorem lp1_X12_laysStrokes {g : gG} {Q : Option Value ⊕ String → gM → Prop} {c : Cf} {M0 : gM} {q : Nat} (hq : q < 2 ^ 30) (K : ∀ M, qS c M → fr skR M0 M → (∀ j, j < tl c → mI M 177 j = cI (stM c = 0) (-100) (stV c q j)) → Q (.inl (some (.int (nI (stL c q))))) M) : ∀ k, 0 ≤ k → k ≤ tl c → ∀ M v, qS c M → fr skR M0 M → st1 c q k M → 0 < stM c → v = stM c - msC c k → E g 6 0 0 mX12_laysStrokes 101 [.ref 129, .int (nI q), .int (nI (stA c q)), .int (nI (stM c)), .int (nI v), .int (dI k)] [] M Q := by
  refine lpDn 0 (fun k _ ih => ?_)
  intro hk M v h hF hS hm hv
  have hL := h.lay
  have h16 := h.t16
  have hmb := msC_b c (tl c)
  have hmb : stM c ≤ tl c := hmb
  have ha : stA c q ≤ q ∧ stA c q * cN c 139 20 ≤ q := stA_b c q
  have hw := (h.wf.gl 20).2.2.1
  have hmk := msC_m (c := c) (tl c) hk
  have hmk : msC c k ≤ stM c := hmk
  refine E_iload dX12_laysStrokes_101 rfl ?_
  refine E_if_lt_d (tgt := 149) dX12_laysStrokes_103 (by decide) (by omega) (fun c_103 => ?_) (fun c_103 => ?_)
  · subst c_103
    refine E_iload_n dX12_laysStrokes_149 rfl ?_
    refine E_iload_n dX12_laysStrokes_150 rfl ?_
    refine E_aload_n dX12_laysStrokes_151 rfl ?_
    refine E_getRL dX12_laysStrokes_152 kF_X12_40 kY_12 (Or.inr ⟨_, rfl⟩) (l_128 hL) (k_128 hL) (r_128_12 hL) ?_
    refine E_bipush (v := nI 20) dX12_laysStrokes_155 (by decide) ?_
    refine E_ialdL (v := nI (cN _ 139 _)) dX12_laysStrokes_157 (l_139 hL) (k_139 hL) rfl (by omega) (by decide) (h.gc (Or.inl ⟨by decide, by decide, by decide⟩)) ?_
    refine E_imul_n dX12_laysStrokes_158 ?_
    refine E_isub_n dX12_laysStrokes_159 (by omega) ?_
    refine E_iret dX12_laysStrokes_160 (Or.inl rfl) ?_
    have e : stL c q = q - stA c q * wSt c := cI_f (by omega)
    rw [e] at K
    refine K M h hF (fun j hj => ?_)
    rw [cI_f (by omega)]
    exact hS.2 j (Nat.zero_le _) hj
  · obtain ⟨k, rfl⟩ : ∃ z, k = z + 1 := ⟨k - 1, by omega⟩
    rw [dI_succ]
    simp only [Nat.add_sub_cancel] at ih
    have h0 := hS.1 k (by omega)
    have hmk2 := msC_m (c := c) (k + 1) (Nat.le_succ k)
    by_cases e : msP c k
    · rw [cI_t e] at h0
      have e2 := msC_t e
      have hdv := Nat.div_le_self (stA c q) (stM c)
      have hmd := Nat.mod_lt (stA c q) hm
      have fin : ∀ w, w = stN c q k → E g 6 0 0 mX12_laysStrokes 140 [.ref 129, .int (nI q), .int (nI (stA c q)), .int (nI (stM c)), .int (nI v), .int (nI k)] [] (sI M 177 k (nI w)) Q := by
        intro w ew
        have hF2 : fr skR M0 (sI M 177 k (nI w)) := hF.wr rfl
        have h : qS c (sI M 177 k (nI w)) := qSk h (fr.refl.wr rfl)
        have hS2 : st1 c q k (sI M 177 k (nI w)) := ⟨fun j hj => (mI_nj (by omega)).trans (hS.1 j (by omega)), fun j hj hj2 => by
          by_cases e3 : j = k
          · subst e3; rw [mI_eq, ew]; unfold stV; rw [cI_t e]
          · exact (mI_nj e3).trans (hS.2 j (by omega) hj2)⟩
        have hL := h.lay
        refine E_iinc_n (d := 1) dX12_laysStrokes_140 rfl rfl rfl (by decide) rfl ?_
        refine E_iinc_d dX12_laysStrokes_143 rfl rfl (by decide) rfl ?_
        refine E_goto (tgt := 101) dX12_laysStrokes_146 (by decide) ?_
        exact ih (by omega) (by omega) _ _ h hF2 hS2 hm (by omega)
      refine E_aload_n dX12_laysStrokes_106 rfl ?_
      refine E_getRL dX12_laysStrokes_107 kF_X12_159 kY_12 (Or.inr ⟨_, rfl⟩) (l_128 hL) (k_128 hL) (r_128_57 hL) ?_
      refine E_iload dX12_laysStrokes_110 rfl ?_
      refine E_ialdL (v := nI 0) dX12_laysStrokes_112 (l_177 hL) (k_177 hL) rfl (by omega) (by decide) h0 ?_
      refine E_if_ne (tgt := 143) dX12_laysStrokes_113 (by decide) (fun c0 => absurd c0 (by decide)) (fun _ => ?_)
      refine E_aload_n dX12_laysStrokes_116 rfl ?_
      refine E_getRL dX12_laysStrokes_117 kF_X12_159 kY_12 (Or.inr ⟨_, rfl⟩) (l_128 hL) (k_128 hL) (r_128_57 hL) ?_
      refine E_iload dX12_laysStrokes_120 rfl ?_
      refine E_iload_n dX12_laysStrokes_122 rfl ?_
      refine E_iload_n dX12_laysStrokes_123 rfl ?_
      refine E_idiv_n dX12_laysStrokes_124 (by omega) (by omega) (by omega) ?_
      refine E_iload dX12_laysStrokes_125 rfl ?_
      refine E_iload_n dX12_laysStrokes_127 rfl ?_
      refine E_iload_n dX12_laysStrokes_128 rfl ?_
      refine E_irem_n dX12_laysStrokes_129 (by omega) (by omega) (by omega) ?_
      refine E_icmp_ge_n (tgt := 137) dX12_laysStrokes_130 (by decide) (by omega) (by omega) (fun c_130 => ?_) (fun c_130 => ?_)
      · refine E_iconst (v := nI 0) dX12_laysStrokes_137 (by decide) ?_
        refine E_iadd_n dX12_laysStrokes_138 ?_
        refine E_iast dX12_laysStrokes_139 (l_177 hL) (k_177 hL) rfl (by omega) (by decide) ?_
        refine fin _ ?_
        unfold stN
        first
          | (rw [cI_t (by omega)])
          | (rw [cI_f (by omega)])
      · refine E_iconst (v := nI 1) dX12_laysStrokes_133 (by decide) ?_
        refine E_goto (tgt := 138) dX12_laysStrokes_134 (by decide) ?_
        refine E_iadd_n dX12_laysStrokes_138 ?_
        refine E_iast dX12_laysStrokes_139 (l_177 hL) (k_177 hL) rfl (by omega) (by decide) ?_
        refine fin _ ?_
        unfold stN
        first
          | (rw [cI_t (by omega)])
          | (rw [cI_f (by omega)])
    · rw [cI_f e] at h0
      have e2 := msC_f e
      refine E_aload_n dX12_laysStrokes_106 rfl ?_
      refine E_getRL dX12_laysStrokes_107 kF_X12_159 kY_12 (Or.inr ⟨_, rfl⟩) (l_128 hL) (k_128 hL) (r_128_57 hL) ?_
      refine E_iload dX12_laysStrokes_110 rfl ?_
      refine E_ialdL (v := -100) dX12_laysStrokes_112 (l_177 hL) (k_177 hL) rfl (by omega) (by decide) h0 ?_
      refine E_if_ne (tgt := 143) dX12_laysStrokes_113 (by decide) (fun _ => ?_) (fun c0 => absurd (by decide) c0)
      refine E_iinc_d dX12_laysStrokes_143 rfl rfl (by decide) rfl ?_
      refine E_goto (tgt := 101) dX12_laysStrokes_146 (by decide) ?_
      exact ih (by omega) (by omega) _ _ h hF ⟨fun j hj => hS.1 j (by omega), fun j hj hj2 => by
        by_cases e3 : j = k
        · subst e3; rw [h0]; unfold stV; rw [cI_f e]
        · exact hS.2 j (by omega) hj2⟩ hm (by omega)
set_option maxRecDepth 100000 in
set_option maxHeartbeats 4000000 in
theorem lp_X12_laysStrokes {g : gG} {Q : Option Value ⊕ String → gM → Prop} {c : Cf} {M0 : gM} {q : Nat} (hq : q < 2 ^ 30) (K : ∀ M, qS c M → fr skR M0 M → (∀ j, j < tl c → mI M 177 j = cI (stM c = 0) (-100) (stV c q j)) → Q (.inl (some (.int (nI (stL c q))))) M) : ∀ k, k ≤ tl c → ∀ M v v5, qS c M → fr skR M0 M → st0 c k M → v = msC c k → E g 6 0 0 mX12_laysStrokes 29 [.ref 129, .int (nI q), .int (nI (stA c q)), .int (nI v), .int (nI k), v5] [] M Q := by
  refine lpUp (tl c) (fun k hk ih => ?_)
  intro M v v5 h hF hS hv
  have hL := h.lay
  have h16 := h.t16
  have hmb := msC_b c k
  have hlen := h.b.tl
  have fin : k < tl c → ∀ w, w = cI (msP c k) (nI 0) (-100) → E g 6 0 0 mX12_laysStrokes 60 [.ref 129, .int (nI q), .int (nI (stA c q)), .int (nI v), .int (nI k), v5] [] (sI M 177 k w) Q := by
    intro hkt w ew
    have hF2 : fr skR M0 (sI M 177 k w) := hF.wr rfl
    have h : qS c (sI M 177 k w) := qSk h (fr.refl.wr rfl)
    have hS2 : st0 c (k + 1) (sI M 177 k w) := fun j hj => by
      by_cases e3 : j = k
      · subst e3; rw [mI_eq, ew]
      · exact (mI_nj e3).trans (hS j (by omega))
    have hL := h.lay
    by_cases e : msP c k
    · have e2 := msC_t e
      rw [cI_t e] at ew
      refine E_iload_n dX12_laysStrokes_60 rfl ?_
      refine E_aload_n dX12_laysStrokes_61 rfl ?_
      refine E_getRL dX12_laysStrokes_62 kF_X12_159 kY_12 (Or.inr ⟨_, rfl⟩) (l_128 hL) (k_128 hL) (r_128_57 hL) ?_
      refine E_iload dX12_laysStrokes_65 rfl ?_
      refine E_ialdL (v := nI 0) dX12_laysStrokes_67 (l_177 hL) (k_177 hL) rfl (by omega) (by decide) (mI_eq.trans ew) ?_
      refine E_if_ne (tgt := 75) dX12_laysStrokes_68 (by decide) (fun c0 => absurd c0 (by decide)) (fun _ => ?_)
      refine E_iconst (v := nI 1) dX12_laysStrokes_71 (by decide) ?_
      refine E_goto (tgt := 76) dX12_laysStrokes_72 (by decide) ?_
      refine E_iadd_n dX12_laysStrokes_76 ?_
      refine E_istore_n dX12_laysStrokes_77 (Nat.le_of_ble_eq_true rfl) (by decide) rfl ?_
      refine E_iinc_n (d := 1) dX12_laysStrokes_78 rfl rfl rfl (by decide) rfl ?_
      refine E_goto (tgt := 29) dX12_laysStrokes_81 (by decide) ?_
      exact ih hkt _ _ _ h hF2 hS2 (by omega)
    · have e2 := msC_f e
      rw [cI_f e] at ew
      refine E_iload_n dX12_laysStrokes_60 rfl ?_
      refine E_aload_n dX12_laysStrokes_61 rfl ?_
      refine E_getRL dX12_laysStrokes_62 kF_X12_159 kY_12 (Or.inr ⟨_, rfl⟩) (l_128 hL) (k_128 hL) (r_128_57 hL) ?_
      refine E_iload dX12_laysStrokes_65 rfl ?_
      refine E_ialdL (v := -100) dX12_laysStrokes_67 (l_177 hL) (k_177 hL) rfl (by omega) (by decide) (mI_eq.trans ew) ?_
      refine E_if_ne (tgt := 75) dX12_laysStrokes_68 (by decide) (fun _ => ?_) (fun c0 => absurd (by decide) c0)
      refine E_iconst (v := nI 0) dX12_laysStrokes_75 (by decide) ?_
      refine E_iadd_n dX12_laysStrokes_76 ?_
      refine E_istore_n dX12_laysStrokes_77 (Nat.le_of_ble_eq_true rfl) (by decide) rfl ?_
      refine E_iinc_n (d := 1) dX12_laysStrokes_78 rfl rfl rfl (by decide) rfl ?_
      refine E_goto (tgt := 29) dX12_laysStrokes_81 (by decide) ?_
      exact ih hkt _ _ _ h hF2 hS2 (by omega)
  refine E_iload dX12_laysStrokes_29 rfl ?_
  refine E_aload_n dX12_laysStrokes_31 rfl ?_
  refine E_getIL (v := nI (tl c)) dX12_laysStrokes_32 kF_X12_219 kY_12 (Or.inl rfl) (l_128 hL) (k_128 hL) hlen ?_
  refine E_icmp_ge_n (tgt := 84) dX12_laysStrokes_35 (by decide) (by omega) (by omega) (fun c_35 => ?_) (fun c_35 => ?_)
  · obtain rfl : k = tl c := by omega
    have hv : v = stM c := hv
    have hmb : stM c ≤ tl c := hmb
    refine E_iload_n dX12_laysStrokes_84 rfl ?_
    refine E_if_ne_n (tgt := 90) dX12_laysStrokes_85 (by decide) (by omega) (fun e_85 => ?_) (fun e_85 => ?_)
    · refine E_iconst (v := nI 0) dX12_laysStrokes_90 (by decide) ?_
      refine E_istore dX12_laysStrokes_91 (Nat.le_of_ble_eq_true rfl) (by decide) rfl ?_
      refine E_aload_n dX12_laysStrokes_93 rfl ?_
      refine E_getIL (v := nI (tl c)) dX12_laysStrokes_94 kF_X12_219 kY_12 (Or.inl rfl) (l_128 hL) (k_128 hL) hlen ?_
      refine E_iconst (v := nI 1) dX12_laysStrokes_97 (by decide) ?_
      refine E_isub_d dX12_laysStrokes_98 ?_
      refine E_istore dX12_laysStrokes_99 (Nat.le_of_ble_eq_true rfl) (by decide) rfl ?_
      subst hv
      exact lp1_X12_laysStrokes hq K (tl c) (Nat.zero_le _) (Nat.le_refl _) M 0 h hF ⟨hS, fun j h1 h2 => by omega⟩ (by omega) (by show 0 = msC c (tl c) - msC c (tl c); omega)
    · refine E_iload_n dX12_laysStrokes_88 rfl ?_
      refine E_iret dX12_laysStrokes_89 (Or.inl rfl) ?_
      have e : stL c q = q := cI_t (by omega)
      rw [e] at K
      refine K M h hF (fun j hj => ?_)
      rw [cI_t (by omega), hS j hj]
      refine cI_f (fun z => ?_)
      have z1 := msC_t z
      have z2 := msC_m (c := c) (tl c) (show j + 1 ≤ tl c by omega)
      have z2 : msC c (j + 1) ≤ stM c := z2
      omega
  · refine E_aload_n dX12_laysStrokes_38 rfl ?_
    refine E_getRL dX12_laysStrokes_39 kF_X12_159 kY_12 (Or.inr ⟨_, rfl⟩) (l_128 hL) (k_128 hL) (r_128_57 hL) ?_
    refine E_iload dX12_laysStrokes_42 rfl ?_
    refine E_aload_n dX12_laysStrokes_44 rfl ?_
    refine E_iload dX12_laysStrokes_45 rfl ?_
    refine E_callV1 (fr' := 5) (k1 := 0) (n1 := 0) (k2 := 0) (n2 := 0) dX12_laysStrokes_47 kO_X12_mayStand kL_X12_449 (l_128 hL) (k_128 hL) ⟨by decide, rfl⟩ rfl (by decide) (by decide) (by exact Nat.le_of_ble_eq_true rfl) rfl ?_
    refine sp_X12_mayStand h (by omega) ?_
    refine gKv ?_
    refine E_if_eq_b (tgt := 57) dX12_laysStrokes_50 (by decide) (fun c_50 => ?_) (fun c_50 => ?_)
    · refine E_bipush (v := -100) dX12_laysStrokes_57 (by decide) ?_
      refine E_iast dX12_laysStrokes_59 (l_177 hL) (k_177 hL) rfl (by omega) (by decide) ?_
      refine fin (by omega) _ ?_
      first | exact (cI_t c_50).symm | exact (cI_f c_50).symm
    · refine E_iconst (v := nI 0) dX12_laysStrokes_53 (by decide) ?_
      refine E_goto (tgt := 59) dX12_laysStrokes_54 (by decide) ?_
      refine E_iast dX12_laysStrokes_59 (l_177 hL) (k_177 hL) rfl (by omega) (by decide) ?_
      refine fin (by omega) _ ?_
      first | exact (cI_t c_50).symm | exact (cI_f c_50).symm
set_option maxRecDepth 100000 in
set_option maxHeartbeats 4000000 in
theorem sp_X12_laysStrokes {g : gG} {M : gM} {Q : Option Value ⊕ String → gM → Prop} {c : Cf} (h : qS c M) {q : Nat} (hq : q < 2 ^ 30) (K : ∀ M9, qS c M9 → fr skR M M9 → (∀ j, j < tl c → mI M9 177 j = cI (stM c = 0) (-100) (stV c q j)) → Q (.inl (some (.int (nI (stL c q))))) M9) : E g 6 0 0 mX12_laysStrokes 0 [.ref 129, .int (nI q), .null, .null, .null, .null] [] M Q := by
  have hL := h.lay
  have h16 := h.t16
  have hw := (h.wf.gl 20).2.2.1
  refine E_aload_n dX12_laysStrokes_0 rfl ?_
  refine E_getRL dX12_laysStrokes_1 kF_X12_40 kY_12 (Or.inr ⟨_, rfl⟩) (l_128 hL) (k_128 hL) (r_128_12 hL) ?_
  refine E_bipush (v := nI 20) dX12_laysStrokes_4 (by decide) ?_
  refine E_ialdL (v := nI (cN _ 139 _)) dX12_laysStrokes_6 (l_139 hL) (k_139 hL) rfl (by omega) (by decide) (h.gc (Or.inl ⟨by decide, by decide, by decide⟩)) ?_
  refine E_if_ne_n (tgt := 14) dX12_laysStrokes_7 (by decide) (by omega) (fun c_7 => ?_) (fun c_7 => ?_)
  · refine E_iload_n dX12_laysStrokes_14 rfl ?_
    refine E_aload_n dX12_laysStrokes_15 rfl ?_
    refine E_getRL dX12_laysStrokes_16 kF_X12_40 kY_12 (Or.inr ⟨_, rfl⟩) (l_128 hL) (k_128 hL) (r_128_12 hL) ?_
    refine E_bipush (v := nI 20) dX12_laysStrokes_19 (by decide) ?_
    refine E_ialdL (v := nI (cN _ 139 _)) dX12_laysStrokes_21 (l_139 hL) (k_139 hL) rfl (by omega) (by decide) (h.gc (Or.inl ⟨by decide, by decide, by decide⟩)) ?_
    refine E_idiv_n dX12_laysStrokes_22 (by omega) (by omega) (by omega) ?_
    refine E_istore_n dX12_laysStrokes_23 (Nat.le_of_ble_eq_true rfl) (by decide) rfl ?_
    refine E_iconst (v := nI 0) dX12_laysStrokes_24 (by decide) ?_
    refine E_istore_n dX12_laysStrokes_25 (Nat.le_of_ble_eq_true rfl) (by decide) rfl ?_
    refine E_iconst (v := nI 0) dX12_laysStrokes_26 (by decide) ?_
    refine E_istore dX12_laysStrokes_27 (Nat.le_of_ble_eq_true rfl) (by decide) rfl ?_
    first
      | (have e : stA c q = 0 := cI_t (by show cN c 139 20 = 0; omega)
         have z := lp_X12_laysStrokes (g := g) hq K 0 (Nat.zero_le _) M 0 .null h fr.refl (fun j hj => by omega) rfl
         rw [e] at z; exact z)
      | (have e : stA c q = q / cN c 139 20 := cI_f (by show ¬ cN c 139 20 = 0; omega)
         have z := lp_X12_laysStrokes (g := g) hq K 0 (Nat.zero_le _) M 0 .null h fr.refl (fun j hj => by omega) rfl
         rw [e] at z; exact z)
  · refine E_iconst (v := nI 0) dX12_laysStrokes_10 (by decide) ?_
    refine E_goto (tgt := 23) dX12_laysStrokes_11 (by decide) ?_
    refine E_istore_n dX12_laysStrokes_23 (Nat.le_of_ble_eq_true rfl) (by decide) rfl ?_
    refine E_iconst (v := nI 0) dX12_laysStrokes_24 (by decide) ?_
    refine E_istore_n dX12_laysStrokes_25 (Nat.le_of_ble_eq_true rfl) (by decide) rfl ?_
    refine E_iconst (v := nI 0) dX12_laysStrokes_26 (by decide) ?_
    refine E_istore dX12_laysStrokes_27 (Nat.le_of_ble_eq_true rfl) (by decide) rfl ?_
    first
      | (have e : stA c q = 0 := cI_t (by show cN c 139 20 = 0; omega)
         have z := lp_X12_laysStrokes (g := g) hq K 0 (Nat.zero_le _) M 0 .null h fr.refl (fun j hj => by omega) rfl
         rw [e] at z; exact z)
      | (have e : stA c q = q / cN c 139 20 := cI_f (by show ¬ cN c 139 20 = 0; omega)
         have z := lp_X12_laysStrokes (g := g) hq K 0 (Nat.zero_le _) M 0 .null h fr.refl (fun j hj => by omega) rfl
         rw [e] at z; exact z)
