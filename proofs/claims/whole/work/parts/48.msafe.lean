/-! the reference: filling; breaks that are safe -/
theorem ge0_nI {x : Int32} (h : 0 ≤ x) : ∃ j : Nat, j < 2 ^ 31 ∧ x = nI j := nI_of (Int32.not_lt.mpr h)
theorem Int32_nle {x : Int32} (h : ¬ 0 ≤ x) : x < 0 := Int32.not_le.mp h
/-- what is missing -/
noncomputable def mis (c : Cf) (w : Int32) : Int32 := w - tS c (tr c)
/-- the widths are small -/
def smW (c : Cf) : Prop := ∀ w j, iIn w (nI 0) (nI 10000) → mis c w = nI j → j < 2 ^ 31 → j < 2 ^ 30
noncomputable def fiV (c : Cf) (w : Int32) : Int32 := cI (0 ≤ mis c w) (cI (blk c (tl c) = 0) (nI (stL c (gN (mis c w)))) (nI 0)) (-100)
noncomputable def fgV (c : Cf) (w : Int32) (k : Nat) : Int32 := cI (0 ≤ mis c w) (cI (cN c 141 k = 0) (nI (stL c (gN (mis c w)) / blk c (tl c) + cI (blk c k < stL c (gN (mis c w)) % blk c (tl c)) 1 0)) (cI (stM c = 0 ∨ ¬ msP c k) (nI 0) (nI (stN c (gN (mis c w)) k)))) (nI 0)
theorem blk_t {c : Cf} {k : Nat} (e : cN c 141 k = 0) : blk c (k + 1) = blk c k + 1 := by show blk c k + cI _ _ _ = _; rw [cI_t e]
theorem blk_m {c : Cf} {j : Nat} : ∀ k, j ≤ k → blk c j ≤ blk c k
  | 0, h => by rw [show j = 0 by omega]; exact Nat.le_refl _
  | k + 1, h => by
    by_cases e : j = k + 1
    · rw [e]; exact Nat.le_refl _
    · have := blk_m k (show j ≤ k by omega) (c := c)
      have : blk c k ≤ blk c (k + 1) := Nat.le_add_right _ _
      omega
theorem stL_b (c : Cf) (q : Nat) : stL c q ≤ q := by
  unfold stL
  by_cases e : stM c = 0
  · rw [cI_t e]; exact Nat.le_refl _
  · rw [cI_f e]; exact Nat.sub_le _ _
set_option maxRecDepth 100000 in
set_option maxHeartbeats 4000000 in
theorem sp_X12_fill {g : gG} {M : gM} {Q : Option Value ⊕ String → gM → Prop} {c : Cf} (h : bS c M) (hs : smW c) {p : Int32} (K1 : iIn p (nI 0) (nI 10000) → ∀ M', fr qR M M' → mI M' 128 0 = nI 0 → Q (.inl (some (.int (fiV c p)))) M') (K0 : ¬ iIn p (nI 0) (nI 10000) → ∀ M', fr qR M M' → mI M' 128 0 = nI 1 → Q (.inl (some (.int (nI 0)))) M') : E g 16 0 0 mX12_fill 0 [.ref 129, .int p, .null, .null] [] M Q := by
  have hL := h.lay
  refine E_aload_n dX12_fill_0 rfl ?_
  refine E_iload_n dX12_fill_1 rfl ?_
  refine E_iconst (v := nI 0) dX12_fill_2 (by decide) ?_
  refine E_sipush (v := nI 10000) dX12_fill_3 (by decide) ?_
  refine E_callS3 (fr' := 1) (k1 := 0) (n1 := 0) (k2 := 0) (n2 := 0) dX12_fill_6 kO_X12_in kL_X12_162 rfl rfl rfl (by decide) (by decide) (by exact Nat.le_of_ble_eq_true rfl) (Or.inl rfl) rfl ?_
  refine sp_X12_in ?_
  refine gKv ?_
  refine E_if_eq_b (tgt := 16) dX12_fill_9 (by decide) (fun c_9 => ?_) (fun c_9 => ?_)
  · refine E_iconst (v := nI 1) dX12_fill_16 (by decide) ?_
    refine E_putI dX12_fill_17 kF_X12_166 kY_12 (Or.inl rfl) (l_128 hL) (k_128 hL) (Or.inl rfl) ?_
    refine E_aload_n dX12_fill_20 rfl ?_
    refine E_getIL (v := nI 1) dX12_fill_21 kF_X12_166 kY_12 (Or.inl rfl) (l_128 hL) (k_128 hL) rfl ?_
    refine E_if_le (tgt := 29) dX12_fill_24 (by decide) (fun c0 => absurd c0 (by decide)) (fun _ => ?_)
    refine E_iconst (v := nI 0) dX12_fill_27 (by decide) ?_
    refine E_iret dX12_fill_28 (Or.inl rfl) ?_
    exact K0 c_9 _ (fr.refl.thr _) mI_eq
  · refine E_iconst (v := nI 0) dX12_fill_12 (by decide) ?_
    refine E_goto (tgt := 17) dX12_fill_13 (by decide) ?_
    refine E_putI dX12_fill_17 kF_X12_166 kY_12 (Or.inl rfl) (l_128 hL) (k_128 hL) (Or.inl rfl) ?_
    refine E_aload_n dX12_fill_20 rfl ?_
    refine E_getIL (v := nI 0) dX12_fill_21 kF_X12_166 kY_12 (Or.inl rfl) (l_128 hL) (k_128 hL) rfl ?_
    refine E_if_le (tgt := 29) dX12_fill_24 (by decide) (fun _ => ?_) (fun c0 => absurd (by decide) c0)
    refine E_aload_n dX12_fill_29 rfl ?_
    refine E_callV0 (fr' := 15) (k1 := 0) (n1 := 0) (k2 := 0) (n2 := 0) dX12_fill_30 kO_X12_shapesAll kL_X12_424 (l_128 hL) (k_128 hL) ⟨by decide, rfl⟩  (by decide) (by decide) (by exact Nat.le_of_ble_eq_true rfl) rfl ?_
    have h0 := h.thr (nI 0)
    have hL := h0.lay
    refine sp_X12_shapesAll h0 (fun M1 hF1 hA => ?_)
    have h := (show qS c M1 from ⟨qbS h0 (hF1.mono shR_q), hA⟩)
    have hL := h.lay
    have hn := h.nr16
    have h16 := h.t16
    refine gKn ?_
    refine E_iload_n dX12_fill_33 rfl ?_
    refine E_aload_n dX12_fill_34 rfl ?_
    refine E_getRL dX12_fill_35 kF_X12_132 kY_12 (Or.inr ⟨_, rfl⟩) (l_128 hL) (k_128 hL) (r_128_48 hL) ?_
    refine E_aload_n dX12_fill_38 rfl ?_
    refine E_getIL (v := nI (tr c)) dX12_fill_39 kF_X12_412 kY_12 (Or.inl rfl) (l_128 hL) (k_128 hL) h.g45 ?_
    refine E_ialdL (v := _) dX12_fill_42 (l_168 hL) (k_168 hL) rfl (by omega) (by decide) (h.rl (by omega)) ?_
    refine E_isub dX12_fill_43 ?_
    refine E_istore_n dX12_fill_44 (Nat.le_of_ble_eq_true rfl) (by decide) rfl ?_
    have em : p - tS c (tr c) = mis c p := rfl
    rw [em]
    refine E_iload_n dX12_fill_45 rfl ?_
    refine E_if_ge (tgt := 52) dX12_fill_46 (by decide) (fun c_46 => ?_) (fun c_46 => ?_)
    · obtain ⟨q, hq, eq⟩ := ge0_nI c_46
      have hq := hs p q c_9 eq hq
      rw [eq]
      have ef : fiV c p = cI (blk c (tl c) = 0) (nI (stL c q)) (nI 0) := by unfold fiV; rw [cI_t c_46, eq, gN_nI (by omega)]
      rw [ef] at K1
      have hsl := stL_b c q
      have hbb := blk_b c (tl c)
      refine E_aload_n dX12_fill_52 rfl ?_
      refine E_iload_n dX12_fill_53 rfl ?_
      refine E_callV1 (fr' := 6) (k1 := 0) (n1 := 0) (k2 := 0) (n2 := 0) dX12_fill_54 kO_X12_laysStrokes kL_X12_452 (l_128 hL) (k_128 hL) ⟨by decide, rfl⟩ rfl (by decide) (by decide) (by exact Nat.le_of_ble_eq_true rfl) rfl ?_
      refine sp_X12_laysStrokes h (by omega) (fun M9 h hF9 hst => ?_)
      have hL := h.lay
      refine gKv ?_
      refine E_istore_n dX12_fill_57 (Nat.le_of_ble_eq_true rfl) (by decide) rfl ?_
      refine E_aload_n dX12_fill_58 rfl ?_
      refine E_aload_n dX12_fill_59 rfl ?_
      refine E_getIL (v := nI (tl c)) dX12_fill_60 kF_X12_219 kY_12 (Or.inl rfl) (l_128 hL) (k_128 hL) h.b.tl ?_
      refine E_callV1 (fr' := 1) (k1 := 0) (n1 := 0) (k2 := 0) (n2 := 0) dX12_fill_63 kO_X12_blanks kL_X12_455 (l_128 hL) (k_128 hL) ⟨by decide, rfl⟩ rfl (by decide) (by decide) (by exact Nat.le_of_ble_eq_true rfl) rfl ?_
      refine sp_X12_blanks h.b (by omega) ?_
      refine gKv ?_
      refine E_if_ne_n (tgt := 73) dX12_fill_66 (by decide) (by omega) (fun e_66 => ?_) (fun e_66 => ?_)
      · refine E_iconst (v := nI 0) dX12_fill_73 (by decide) ?_
        refine E_iret dX12_fill_74 (Or.inl rfl) ?_
        first
          | (rw [cI_t (by omega)] at K1; exact K1 c_9 _ (((fr.refl.thr _).sh hF1).trans (hF9.mono skR_q)) ((hF9.bk (by unfold skR; omega)).trans ((sh0 hF1).trans mI_eq)))
          | (rw [cI_f (by omega)] at K1; exact K1 c_9 _ (((fr.refl.thr _).sh hF1).trans (hF9.mono skR_q)) ((hF9.bk (by unfold skR; omega)).trans ((sh0 hF1).trans mI_eq)))
      · refine E_iload_n dX12_fill_69 rfl ?_
        refine E_goto (tgt := 74) dX12_fill_70 (by decide) ?_
        refine E_iret dX12_fill_74 (Or.inl rfl) ?_
        first
          | (rw [cI_t (by omega)] at K1; exact K1 c_9 _ (((fr.refl.thr _).sh hF1).trans (hF9.mono skR_q)) ((hF9.bk (by unfold skR; omega)).trans ((sh0 hF1).trans mI_eq)))
          | (rw [cI_f (by omega)] at K1; exact K1 c_9 _ (((fr.refl.thr _).sh hF1).trans (hF9.mono skR_q)) ((hF9.bk (by unfold skR; omega)).trans ((sh0 hF1).trans mI_eq)))
    · refine E_bipush (v := -100) dX12_fill_49 (by decide) ?_
      refine E_iret dX12_fill_51 (Or.inl rfl) ?_
      have e : fiV c p = -100 := cI_f (by assumption)
      rw [e] at K1
      exact K1 c_9 _ ((fr.refl.thr _).sh hF1) ((sh0 hF1).trans mI_eq)
set_option maxRecDepth 100000 in
set_option maxHeartbeats 4000000 in
theorem t_X12_filling {g : gG} {M : gM} {Q : Option Value ⊕ String → gM → Prop} {c : Cf} (h : bS c M) (hs : smW c) {p : Int32} {j : Nat} (hj : j < tl c) (c_18 : iIn p (nI 0) (nI 10000)) (K1 : ∀ M', fr qR M M' → mI M' 128 0 = nI 0 → Q (.inl (some (.int (fgV c p j)))) M') : E g 16 0 0 mX12_filling 24 [.ref 129, .int p, .int (nI j), .null, .null, .null] [.ref 129] M Q := by
  have hL := h.lay
  have h16 : tl c ≤ 16 := h.wf.tl
  refine E_iconst (v := nI 0) dX12_filling_24 (by decide) ?_
  refine E_goto (tgt := 29) dX12_filling_25 (by decide) ?_
  refine E_putI dX12_filling_29 kF_X12_166 kY_12 (Or.inl rfl) (l_128 hL) (k_128 hL) (Or.inl rfl) ?_
  refine E_aload_n dX12_filling_32 rfl ?_
  refine E_getIL (v := nI 0) dX12_filling_33 kF_X12_166 kY_12 (Or.inl rfl) (l_128 hL) (k_128 hL) rfl ?_
  refine E_if_le (tgt := 41) dX12_filling_36 (by decide) (fun _ => ?_) (fun c0 => absurd (by decide) c0)
  refine E_aload_n dX12_filling_41 rfl ?_
  refine E_callV0 (fr' := 15) (k1 := 0) (n1 := 0) (k2 := 0) (n2 := 0) dX12_filling_42 kO_X12_shapesAll kL_X12_424 (l_128 hL) (k_128 hL) ⟨by decide, rfl⟩  (by decide) (by decide) (by exact Nat.le_of_ble_eq_true rfl) rfl ?_
  have h0 := h.thr (nI 0)
  have hL := h0.lay
  refine sp_X12_shapesAll h0 (fun M1 hF1 hA => ?_)
  have h := (show qS c M1 from ⟨qbS h0 (hF1.mono shR_q), hA⟩)
  have hL := h.lay
  have hn := h.nr16
  have h16 := h.t16
  refine gKn ?_
  refine E_iload_n dX12_filling_45 rfl ?_
  refine E_aload_n dX12_filling_46 rfl ?_
  refine E_getRL dX12_filling_47 kF_X12_132 kY_12 (Or.inr ⟨_, rfl⟩) (l_128 hL) (k_128 hL) (r_128_48 hL) ?_
  refine E_aload_n dX12_filling_50 rfl ?_
  refine E_getIL (v := nI (tr c)) dX12_filling_51 kF_X12_412 kY_12 (Or.inl rfl) (l_128 hL) (k_128 hL) h.g45 ?_
  refine E_ialdL (v := _) dX12_filling_54 (l_168 hL) (k_168 hL) rfl (by omega) (by decide) (h.rl (Nat.le_refl _)) ?_
  refine E_isub dX12_filling_55 ?_
  refine E_istore_n dX12_filling_56 (Nat.le_of_ble_eq_true rfl) (by decide) rfl ?_
  have em : p - tS c (tr c) = mis c p := rfl
  rw [em]
  refine E_iload_n dX12_filling_57 rfl ?_
  refine E_if_ge (tgt := 63) dX12_filling_58 (by decide) (fun c_58 => ?_) (fun c_58 => ?_)
  · obtain ⟨q, hq, eq⟩ := ge0_nI c_58
    have hq := hs p q c_18 eq hq
    rw [eq]
    have ef : fgV c p j = cI (cN c 141 j = 0) (nI (stL c q / blk c (tl c) + cI (blk c j < stL c q % blk c (tl c)) 1 0)) (cI (stM c = 0 ∨ ¬ msP c j) (nI 0) (nI (stN c q j))) := by unfold fgV; rw [cI_t c_58, eq, gN_nI (by omega)]
    rw [ef] at K1
    have hsl := stL_b c q
    have hbb := blk_b c (tl c)
    have tx := (h.wf.tx j).1
    have hbj := blk_b c j
    refine E_aload_n dX12_filling_63 rfl ?_
    refine E_iload_n dX12_filling_64 rfl ?_
    refine E_callV1 (fr' := 6) (k1 := 0) (n1 := 0) (k2 := 0) (n2 := 0) dX12_filling_65 kO_X12_laysStrokes kL_X12_452 (l_128 hL) (k_128 hL) ⟨by decide, rfl⟩ rfl (by decide) (by decide) (by exact Nat.le_of_ble_eq_true rfl) rfl ?_
    refine sp_X12_laysStrokes h (by omega) (fun M9 h hF9 hst => ?_)
    have hL := h.lay
    refine gKv ?_
    refine E_istore dX12_filling_68 (Nat.le_of_ble_eq_true rfl) (by decide) rfl ?_
    refine E_aload_n dX12_filling_70 rfl ?_
    refine E_aload_n dX12_filling_71 rfl ?_
    refine E_getIL (v := nI (tl c)) dX12_filling_72 kF_X12_219 kY_12 (Or.inl rfl) (l_128 hL) (k_128 hL) h.b.tl ?_
    refine E_callV1 (fr' := 1) (k1 := 0) (n1 := 0) (k2 := 0) (n2 := 0) dX12_filling_75 kO_X12_blanks kL_X12_455 (l_128 hL) (k_128 hL) ⟨by decide, rfl⟩ rfl (by decide) (by decide) (by exact Nat.le_of_ble_eq_true rfl) rfl ?_
    refine sp_X12_blanks h.b (by omega) ?_
    refine gKv ?_
    refine E_istore dX12_filling_78 (Nat.le_of_ble_eq_true rfl) (by decide) rfl ?_
    refine E_aload_n dX12_filling_80 rfl ?_
    refine E_getRL dX12_filling_81 kF_X12_47 kY_12 (Or.inr ⟨_, rfl⟩) (l_128 hL) (k_128 hL) (r_128_15 hL) ?_
    refine E_iload_n dX12_filling_84 rfl ?_
    refine E_ialdL (v := nI (cN _ 141 _)) dX12_filling_85 (l_141 hL) (k_141 hL) rfl (by omega) (by decide) (h.gc (Or.inl ⟨by decide, by decide, by decide⟩)) ?_
    refine E_if_ne_n (tgt := 114) dX12_filling_86 (by decide) (by omega) (fun e_86 => ?_) (fun e_86 => ?_)
    · rw [cI_f (show ¬ cN c 141 j = 0 by omega)] at K1
      have fin := fun v (e : v = cI (stM c = 0 ∨ ¬ msP c j) (nI 0) (nI (stN c q j))) => Q_rw (Q := Q) (x := v) e.symm (K1 _ (((fr.refl.thr _).sh hF1).trans (hF9.mono skR_q)) ((hF9.bk (by unfold skR; omega)).trans ((sh0 hF1).trans mI_eq)))
      have hdv : stN c q j < 2 ^ 31 := by
        have d1 := Nat.div_le_self (stA c q) (stM c)
        have d2 := (stA_b c q).1
        unfold stN
        by_cases z : stM c - msC c (j + 1) < stA c q % stM c
        · rw [cI_t z]; omega
        · rw [cI_f z]; omega
      by_cases z : stM c = 0
      · have e0 := hst j hj
        rw [cI_t z] at e0
        refine E_aload_n dX12_filling_114 rfl ?_
        refine E_getRL dX12_filling_115 kF_X12_159 kY_12 (Or.inr ⟨_, rfl⟩) (l_128 hL) (k_128 hL) (r_128_57 hL) ?_
        refine E_iload_n dX12_filling_118 rfl ?_
        refine E_ialdL (v := -100) dX12_filling_119 (l_177 hL) (k_177 hL) rfl (by omega) (by decide) e0 ?_
        refine E_bipush (v := -100) dX12_filling_120 (by decide) ?_
        refine E_icmp_ne_r (tgt := 129) dX12_filling_122 (by decide) (fun c0 => absurd c0 (by decide)) (fun _ => ?_)
        refine E_iconst (v := nI 0) dX12_filling_125 (by decide) ?_
        refine E_goto (tgt := 135) dX12_filling_126 (by decide) ?_
        refine E_iret dX12_filling_135 (Or.inl rfl) ?_
        exact fin _ (cI_t (Or.inl z)).symm
      · have e0 := hst j hj
        rw [cI_f z] at e0
        unfold stV at e0
        by_cases y : msP c j
        · rw [cI_t y] at e0
          refine E_aload_n dX12_filling_114 rfl ?_
          refine E_getRL dX12_filling_115 kF_X12_159 kY_12 (Or.inr ⟨_, rfl⟩) (l_128 hL) (k_128 hL) (r_128_57 hL) ?_
          refine E_iload_n dX12_filling_118 rfl ?_
          refine E_ialdL (v := nI (stN c q j)) dX12_filling_119 (l_177 hL) (k_177 hL) rfl (by omega) (by decide) e0 ?_
          refine E_bipush (v := -100) dX12_filling_120 (by decide) ?_
          refine E_icmp_ne (tgt := 129) dX12_filling_122 (by decide) (fun _ => ?_) (fun c0 => absurd (nI_ne100 (by omega)) c0)
          refine E_aload_n dX12_filling_129 rfl ?_
          refine E_getRL dX12_filling_130 kF_X12_159 kY_12 (Or.inr ⟨_, rfl⟩) (l_128 hL) (k_128 hL) (r_128_57 hL) ?_
          refine E_iload_n dX12_filling_133 rfl ?_
          refine E_ialdL (v := nI (stN c q j)) dX12_filling_134 (l_177 hL) (k_177 hL) rfl (by omega) (by decide) e0 ?_
          refine E_iret dX12_filling_135 (Or.inl rfl) ?_
          exact fin _ (cI_f (fun u => u.elim z (fun u => u y))).symm
        · rw [cI_f y] at e0
          refine E_aload_n dX12_filling_114 rfl ?_
          refine E_getRL dX12_filling_115 kF_X12_159 kY_12 (Or.inr ⟨_, rfl⟩) (l_128 hL) (k_128 hL) (r_128_57 hL) ?_
          refine E_iload_n dX12_filling_118 rfl ?_
          refine E_ialdL (v := -100) dX12_filling_119 (l_177 hL) (k_177 hL) rfl (by omega) (by decide) e0 ?_
          refine E_bipush (v := -100) dX12_filling_120 (by decide) ?_
          refine E_icmp_ne_r (tgt := 129) dX12_filling_122 (by decide) (fun c0 => absurd c0 (by decide)) (fun _ => ?_)
          refine E_iconst (v := nI 0) dX12_filling_125 (by decide) ?_
          refine E_goto (tgt := 135) dX12_filling_126 (by decide) ?_
          refine E_iret dX12_filling_135 (Or.inl rfl) ?_
          exact fin _ (cI_t (Or.inr y)).symm
    · have hb1 := blk_t (show cN c 141 j = 0 by omega)
      have hb2 := blk_m (c := c) (tl c) (show j + 1 ≤ tl c by omega)
      have hdv := Nat.div_le_self (stL c q) (blk c (tl c))
      have hmd := Nat.mod_lt (stL c q) (show 0 < blk c (tl c) by omega)
      rw [cI_t (show cN c 141 j = 0 by omega)] at K1
      refine E_iload dX12_filling_89 rfl ?_
      refine E_iload dX12_filling_91 rfl ?_
      refine E_idiv_n dX12_filling_93 (by omega) (by omega) (by omega) ?_
      refine E_aload_n dX12_filling_94 rfl ?_
      refine E_iload_n dX12_filling_95 rfl ?_
      refine E_callV1 (fr' := 1) (k1 := 0) (n1 := 0) (k2 := 0) (n2 := 0) dX12_filling_96 kO_X12_blanks kL_X12_455 (l_128 hL) (k_128 hL) ⟨by decide, rfl⟩ rfl (by decide) (by decide) (by exact Nat.le_of_ble_eq_true rfl) rfl ?_
      refine sp_X12_blanks h.b (by omega) ?_
      refine gKv ?_
      refine E_iload dX12_filling_99 rfl ?_
      refine E_iload dX12_filling_101 rfl ?_
      refine E_irem_n dX12_filling_103 (by omega) (by omega) (by omega) ?_
      refine E_icmp_ge_n (tgt := 111) dX12_filling_104 (by decide) (by omega) (by omega) (fun i_104 => ?_) (fun i_104 => ?_)
      · refine E_iconst (v := nI 0) dX12_filling_111 (by decide) ?_
        refine E_iadd_n dX12_filling_112 ?_
        refine E_iret dX12_filling_113 (Or.inl rfl) ?_
        first
          | (rw [cI_t (by omega)] at K1; exact K1 _ (((fr.refl.thr _).sh hF1).trans (hF9.mono skR_q)) ((hF9.bk (by unfold skR; omega)).trans ((sh0 hF1).trans mI_eq)))
          | (rw [cI_f (by omega)] at K1; exact K1 _ (((fr.refl.thr _).sh hF1).trans (hF9.mono skR_q)) ((hF9.bk (by unfold skR; omega)).trans ((sh0 hF1).trans mI_eq)))
      · refine E_iconst (v := nI 1) dX12_filling_107 (by decide) ?_
        refine E_goto (tgt := 112) dX12_filling_108 (by decide) ?_
        refine E_iadd_n dX12_filling_112 ?_
        refine E_iret dX12_filling_113 (Or.inl rfl) ?_
        first
          | (rw [cI_t (by omega)] at K1; exact K1 _ (((fr.refl.thr _).sh hF1).trans (hF9.mono skR_q)) ((hF9.bk (by unfold skR; omega)).trans ((sh0 hF1).trans mI_eq)))
          | (rw [cI_f (by omega)] at K1; exact K1 _ (((fr.refl.thr _).sh hF1).trans (hF9.mono skR_q)) ((hF9.bk (by unfold skR; omega)).trans ((sh0 hF1).trans mI_eq)))
  · refine E_iconst (v := nI 0) dX12_filling_61 (by decide) ?_
    refine E_iret dX12_filling_62 (Or.inl rfl) ?_
    have e : fgV c p j = nI 0 := cI_f c_58
    rw [e] at K1
    exact K1 _ ((fr.refl.thr _).sh hF1) ((sh0 hF1).trans mI_eq)
set_option maxRecDepth 100000 in
set_option maxHeartbeats 4000000 in
theorem sp_X12_filling {g : gG} {M : gM} {Q : Option Value ⊕ String → gM → Prop} {c : Cf} (h : bS c M) (hs : smW c) {p w : Int32} (K1 : ∀ j, j < tl c → w = nI j → iIn p (nI 0) (nI 10000) → ∀ M', fr qR M M' → mI M' 128 0 = nI 0 → Q (.inl (some (.int (fgV c p j)))) M') (K2 : ∀ j, j < tl c → w = nI j → ¬ iIn p (nI 0) (nI 10000) → ∀ M', fr qR M M' → mI M' 128 0 = nI 2 → Q (.inl (some (.int (nI 0)))) M') (K0 : ¬ iBel w (tl c) → ∀ M', fr qR M M' → mI M' 128 0 = nI 1 → Q (.inl (some (.int (nI 0)))) M') : E g 16 0 0 mX12_filling 0 [.ref 129, .int p, .int w, .null, .null, .null] [] M Q := by
  have hL := h.lay
  have h16 : tl c ≤ 16 := h.wf.tl
  refine E_aload_n dX12_filling_0 rfl ?_
  refine E_aload_n dX12_filling_1 rfl ?_
  refine E_iload_n dX12_filling_2 rfl ?_
  refine E_callV1 (fr' := 2) (k1 := 0) (n1 := 0) (k2 := 0) (n2 := 0) dX12_filling_3 kO_X12_isPlace kL_X12_222 (l_128 hL) (k_128 hL) ⟨by decide, rfl⟩ rfl (by decide) (by decide) (by exact Nat.le_of_ble_eq_true rfl) rfl ?_
  refine sp_X12_isPlace hL h.tl h.wf.tl ?_
  refine gKv ?_
  refine E_if_ne_b (tgt := 13) dX12_filling_6 (by decide) (fun c_6 => ?_) (fun c_6 => ?_)
  · have hb : iBel w (tl c) := c_6
    obtain ⟨j, hj, ej⟩ := (iBel_iff (by omega)).mp hb
    subst ej
    refine E_iload_n dX12_filling_13 rfl ?_
    refine E_iconst (v := nI 0) dX12_filling_14 (by decide) ?_
    refine E_sipush (v := nI 10000) dX12_filling_15 (by decide) ?_
    refine E_callS3 (fr' := 1) (k1 := 0) (n1 := 0) (k2 := 0) (n2 := 0) dX12_filling_18 kO_X12_in kL_X12_162 rfl rfl rfl (by decide) (by decide) (by exact Nat.le_of_ble_eq_true rfl) (Or.inl rfl) rfl ?_
    refine sp_X12_in ?_
    refine gKv ?_
    refine E_if_eq_b (tgt := 28) dX12_filling_21 (by decide) (fun c_21 => ?_) (fun c_21 => ?_)
    · refine E_iconst (v := nI 2) dX12_filling_28 (by decide) ?_
      refine E_putI dX12_filling_29 kF_X12_166 kY_12 (Or.inl rfl) (l_128 hL) (k_128 hL) (Or.inl rfl) ?_
      refine E_aload_n dX12_filling_32 rfl ?_
      refine E_getIL (v := nI 2) dX12_filling_33 kF_X12_166 kY_12 (Or.inl rfl) (l_128 hL) (k_128 hL) rfl ?_
      refine E_if_le (tgt := 41) dX12_filling_36 (by decide) (fun c0 => absurd c0 (by decide)) (fun _ => ?_)
      refine E_iconst (v := nI 0) dX12_filling_39 (by decide) ?_
      refine E_iret dX12_filling_40 (Or.inl rfl) ?_
      exact K2 j hj rfl c_21 _ (fr.refl.thr _) mI_eq
    · exact t_X12_filling h hs hj c_21 (K1 j hj rfl c_21)
  · refine E_iconst (v := nI 1) dX12_filling_9 (by decide) ?_
    refine E_goto (tgt := 29) dX12_filling_10 (by decide) ?_
    refine E_putI dX12_filling_29 kF_X12_166 kY_12 (Or.inl rfl) (l_128 hL) (k_128 hL) (Or.inl rfl) ?_
    refine E_aload_n dX12_filling_32 rfl ?_
    refine E_getIL (v := nI 1) dX12_filling_33 kF_X12_166 kY_12 (Or.inl rfl) (l_128 hL) (k_128 hL) rfl ?_
    refine E_if_le (tgt := 41) dX12_filling_36 (by decide) (fun c0 => absurd c0 (by decide)) (fun _ => ?_)
    refine E_iconst (v := nI 0) dX12_filling_39 (by decide) ?_
    refine E_iret dX12_filling_40 (Or.inl rfl) ?_
    exact K0 c_6 _ (fr.refl.thr _) mI_eq
def eqP (M : gM) (P : Nat) : Prop := mI M 158 P = mI M 169 P ∧ mI M 159 P = mI M 170 P ∧ mI M 160 P = mI M 171 P ∧ mI M 161 P = mI M 172 P ∧ mI M 163 P = mI M 173 P ∧ mI M 164 P = mI M 174 P ∧ mI M 165 P = mI M 175 P
def eqA (M : gM) (n2 n : Nat) : Prop := n2 = n ∧ ∀ P, P < n → eqP M P
set_option maxRecDepth 100000 in
set_option maxHeartbeats 4000000 in
theorem lp_X12_areSame {g : gG} {M : gM} {Q : Option Value ⊕ String → gM → Prop} (hL : gLay M) {n2 n : Nat} (hn : n ≤ 1024) (he : n2 = n) (K : Q (.inl (some (.int (b2i (eqA M n2 n))))) M) : ∀ k, k ≤ n → (∀ P, P < k → eqP M P) → E g 1 0 0 mX12_areSame 16 [.ref 129, .int (nI n), .int (nI 1), .int (nI k)] [] M Q := by
  refine lpUp n (fun k hk ih => ?_)
  intro hP
  refine E_iload_n dX12_areSame_16 rfl ?_
  refine E_iload_n dX12_areSame_17 rfl ?_
  refine E_icmp_ge_n (tgt := 152) dX12_areSame_18 (by decide) (by omega) (by omega) (fun c_18 => ?_) (fun c_18 => ?_)
  · refine E_iload_n dX12_areSame_152 rfl ?_
    refine E_iret dX12_areSame_153 (Or.inr ⟨rfl, by decide⟩) ?_
    have ek : k = n := by omega
    rw [ek] at hP
    rw [← b2i_t (P := eqA M n2 n) ⟨he, hP⟩]; exact K
  · refine E_iload_n dX12_areSame_21 rfl ?_
    refine E_if_eq (tgt := 152) dX12_areSame_22 (by decide) (fun c0 => absurd c0 (by decide)) (fun _ => ?_)
    refine E_aload_n dX12_areSame_25 rfl ?_
    refine E_getRL dX12_areSame_26 kF_X12_102 kY_12 (Or.inr ⟨_, rfl⟩) (l_128 hL) (k_128 hL) (r_128_37 hL) ?_
    refine E_iload_n dX12_areSame_29 rfl ?_
    refine E_iald dX12_areSame_30 (l_158 hL) (k_158 hL) rfl (by omega) (by decide) ?_
    refine E_aload_n dX12_areSame_31 rfl ?_
    refine E_getRL dX12_areSame_32 kF_X12_135 kY_12 (Or.inr ⟨_, rfl⟩) (l_128 hL) (k_128 hL) (r_128_49 hL) ?_
    refine E_iload_n dX12_areSame_35 rfl ?_
    refine E_iald dX12_areSame_36 (l_169 hL) (k_169 hL) rfl (by omega) (by decide) ?_
    refine E_icmp_ne (tgt := 89) dX12_areSame_37 (by decide) (fun c_37 => ?_) (fun c_37 => ?_)
    · have nt : ¬ eqA M n2 n := fun q => by have q2 := q.2 k (by omega); unfold eqP at q2; have q3 := q2.1; have q4 := q2.2.1; have q5 := q2.2.2.1; have q6 := q2.2.2.2.1; have q7 := q2.2.2.2.2.1; have q8 := q2.2.2.2.2.2.1; have q9 := q2.2.2.2.2.2.2; first | exact c_37 q3 | exact c_52 q4 | exact c_67 q5 | exact c_82 q6 | exact c_107 q7 | exact c_122 q8 | exact c_137 q9
      refine E_iconst (v := nI 0) dX12_areSame_89 (by decide) ?_
      refine E_istore_n dX12_areSame_90 (Nat.le_of_ble_eq_true rfl) (by decide) rfl ?_
      refine E_iload_n dX12_areSame_91 rfl ?_
      refine E_if_eq (tgt := 144) dX12_areSame_92 (by decide) (fun _ => ?_) (fun c0 => absurd (by decide) c0)
      refine E_iconst (v := nI 0) dX12_areSame_144 (by decide) ?_
      refine E_istore_n dX12_areSame_145 (Nat.le_of_ble_eq_true rfl) (by decide) rfl ?_
      refine E_iinc_n (d := 1) dX12_areSame_146 rfl rfl rfl (by decide) rfl ?_
      refine E_goto (tgt := 16) dX12_areSame_149 (by decide) ?_
      refine E_iload_n dX12_areSame_16 rfl ?_
      refine E_iload_n dX12_areSame_17 rfl ?_
      refine E_icmp_ge_n (tgt := 152) dX12_areSame_18 (by decide) (by omega) (by omega) (fun e_18 => ?_) (fun e_18 => ?_)
      · refine E_iload_n dX12_areSame_152 rfl ?_
        refine E_iret dX12_areSame_153 (Or.inr ⟨rfl, by decide⟩) ?_
        rw [← b2i_f (P := eqA M n2 n) nt]; exact K
      · refine E_iload_n dX12_areSame_21 rfl ?_
        refine E_if_eq (tgt := 152) dX12_areSame_22 (by decide) (fun _ => ?_) (fun c0 => absurd (by decide) c0)
        refine E_iload_n dX12_areSame_152 rfl ?_
        refine E_iret dX12_areSame_153 (Or.inr ⟨rfl, by decide⟩) ?_
        rw [← b2i_f (P := eqA M n2 n) nt]; exact K
    · refine E_aload_n dX12_areSame_40 rfl ?_
      refine E_getRL dX12_areSame_41 kF_X12_105 kY_12 (Or.inr ⟨_, rfl⟩) (l_128 hL) (k_128 hL) (r_128_38 hL) ?_
      refine E_iload_n dX12_areSame_44 rfl ?_
      refine E_iald dX12_areSame_45 (l_159 hL) (k_159 hL) rfl (by omega) (by decide) ?_
      refine E_aload_n dX12_areSame_46 rfl ?_
      refine E_getRL dX12_areSame_47 kF_X12_138 kY_12 (Or.inr ⟨_, rfl⟩) (l_128 hL) (k_128 hL) (r_128_50 hL) ?_
      refine E_iload_n dX12_areSame_50 rfl ?_
      refine E_iald dX12_areSame_51 (l_170 hL) (k_170 hL) rfl (by omega) (by decide) ?_
      refine E_icmp_ne (tgt := 89) dX12_areSame_52 (by decide) (fun c_52 => ?_) (fun c_52 => ?_)
      · have nt : ¬ eqA M n2 n := fun q => by have q2 := q.2 k (by omega); unfold eqP at q2; have q3 := q2.1; have q4 := q2.2.1; have q5 := q2.2.2.1; have q6 := q2.2.2.2.1; have q7 := q2.2.2.2.2.1; have q8 := q2.2.2.2.2.2.1; have q9 := q2.2.2.2.2.2.2; first | exact c_37 q3 | exact c_52 q4 | exact c_67 q5 | exact c_82 q6 | exact c_107 q7 | exact c_122 q8 | exact c_137 q9
        refine E_iconst (v := nI 0) dX12_areSame_89 (by decide) ?_
        refine E_istore_n dX12_areSame_90 (Nat.le_of_ble_eq_true rfl) (by decide) rfl ?_
        refine E_iload_n dX12_areSame_91 rfl ?_
        refine E_if_eq (tgt := 144) dX12_areSame_92 (by decide) (fun _ => ?_) (fun c0 => absurd (by decide) c0)
        refine E_iconst (v := nI 0) dX12_areSame_144 (by decide) ?_
        refine E_istore_n dX12_areSame_145 (Nat.le_of_ble_eq_true rfl) (by decide) rfl ?_
        refine E_iinc_n (d := 1) dX12_areSame_146 rfl rfl rfl (by decide) rfl ?_
        refine E_goto (tgt := 16) dX12_areSame_149 (by decide) ?_
        refine E_iload_n dX12_areSame_16 rfl ?_
        refine E_iload_n dX12_areSame_17 rfl ?_
        refine E_icmp_ge_n (tgt := 152) dX12_areSame_18 (by decide) (by omega) (by omega) (fun e_18 => ?_) (fun e_18 => ?_)
        · refine E_iload_n dX12_areSame_152 rfl ?_
          refine E_iret dX12_areSame_153 (Or.inr ⟨rfl, by decide⟩) ?_
          rw [← b2i_f (P := eqA M n2 n) nt]; exact K
        · refine E_iload_n dX12_areSame_21 rfl ?_
          refine E_if_eq (tgt := 152) dX12_areSame_22 (by decide) (fun _ => ?_) (fun c0 => absurd (by decide) c0)
          refine E_iload_n dX12_areSame_152 rfl ?_
          refine E_iret dX12_areSame_153 (Or.inr ⟨rfl, by decide⟩) ?_
          rw [← b2i_f (P := eqA M n2 n) nt]; exact K
      · refine E_aload_n dX12_areSame_55 rfl ?_
        refine E_getRL dX12_areSame_56 kF_X12_108 kY_12 (Or.inr ⟨_, rfl⟩) (l_128 hL) (k_128 hL) (r_128_39 hL) ?_
        refine E_iload_n dX12_areSame_59 rfl ?_
        refine E_iald dX12_areSame_60 (l_160 hL) (k_160 hL) rfl (by omega) (by decide) ?_
        refine E_aload_n dX12_areSame_61 rfl ?_
        refine E_getRL dX12_areSame_62 kF_X12_141 kY_12 (Or.inr ⟨_, rfl⟩) (l_128 hL) (k_128 hL) (r_128_51 hL) ?_
        refine E_iload_n dX12_areSame_65 rfl ?_
        refine E_iald dX12_areSame_66 (l_171 hL) (k_171 hL) rfl (by omega) (by decide) ?_
        refine E_icmp_ne (tgt := 89) dX12_areSame_67 (by decide) (fun c_67 => ?_) (fun c_67 => ?_)
        · have nt : ¬ eqA M n2 n := fun q => by have q2 := q.2 k (by omega); unfold eqP at q2; have q3 := q2.1; have q4 := q2.2.1; have q5 := q2.2.2.1; have q6 := q2.2.2.2.1; have q7 := q2.2.2.2.2.1; have q8 := q2.2.2.2.2.2.1; have q9 := q2.2.2.2.2.2.2; first | exact c_37 q3 | exact c_52 q4 | exact c_67 q5 | exact c_82 q6 | exact c_107 q7 | exact c_122 q8 | exact c_137 q9
          refine E_iconst (v := nI 0) dX12_areSame_89 (by decide) ?_
          refine E_istore_n dX12_areSame_90 (Nat.le_of_ble_eq_true rfl) (by decide) rfl ?_
          refine E_iload_n dX12_areSame_91 rfl ?_
          refine E_if_eq (tgt := 144) dX12_areSame_92 (by decide) (fun _ => ?_) (fun c0 => absurd (by decide) c0)
          refine E_iconst (v := nI 0) dX12_areSame_144 (by decide) ?_
          refine E_istore_n dX12_areSame_145 (Nat.le_of_ble_eq_true rfl) (by decide) rfl ?_
          refine E_iinc_n (d := 1) dX12_areSame_146 rfl rfl rfl (by decide) rfl ?_
          refine E_goto (tgt := 16) dX12_areSame_149 (by decide) ?_
          refine E_iload_n dX12_areSame_16 rfl ?_
          refine E_iload_n dX12_areSame_17 rfl ?_
          refine E_icmp_ge_n (tgt := 152) dX12_areSame_18 (by decide) (by omega) (by omega) (fun e_18 => ?_) (fun e_18 => ?_)
          · refine E_iload_n dX12_areSame_152 rfl ?_
            refine E_iret dX12_areSame_153 (Or.inr ⟨rfl, by decide⟩) ?_
            rw [← b2i_f (P := eqA M n2 n) nt]; exact K
          · refine E_iload_n dX12_areSame_21 rfl ?_
            refine E_if_eq (tgt := 152) dX12_areSame_22 (by decide) (fun _ => ?_) (fun c0 => absurd (by decide) c0)
            refine E_iload_n dX12_areSame_152 rfl ?_
            refine E_iret dX12_areSame_153 (Or.inr ⟨rfl, by decide⟩) ?_
            rw [← b2i_f (P := eqA M n2 n) nt]; exact K
        · refine E_aload_n dX12_areSame_70 rfl ?_
          refine E_getRL dX12_areSame_71 kF_X12_111 kY_12 (Or.inr ⟨_, rfl⟩) (l_128 hL) (k_128 hL) (r_128_40 hL) ?_
          refine E_iload_n dX12_areSame_74 rfl ?_
          refine E_iald dX12_areSame_75 (l_161 hL) (k_161 hL) rfl (by omega) (by decide) ?_
          refine E_aload_n dX12_areSame_76 rfl ?_
          refine E_getRL dX12_areSame_77 kF_X12_144 kY_12 (Or.inr ⟨_, rfl⟩) (l_128 hL) (k_128 hL) (r_128_52 hL) ?_
          refine E_iload_n dX12_areSame_80 rfl ?_
          refine E_iald dX12_areSame_81 (l_172 hL) (k_172 hL) rfl (by omega) (by decide) ?_
          refine E_icmp_ne (tgt := 89) dX12_areSame_82 (by decide) (fun c_82 => ?_) (fun c_82 => ?_)
          · have nt : ¬ eqA M n2 n := fun q => by have q2 := q.2 k (by omega); unfold eqP at q2; have q3 := q2.1; have q4 := q2.2.1; have q5 := q2.2.2.1; have q6 := q2.2.2.2.1; have q7 := q2.2.2.2.2.1; have q8 := q2.2.2.2.2.2.1; have q9 := q2.2.2.2.2.2.2; first | exact c_37 q3 | exact c_52 q4 | exact c_67 q5 | exact c_82 q6 | exact c_107 q7 | exact c_122 q8 | exact c_137 q9
            refine E_iconst (v := nI 0) dX12_areSame_89 (by decide) ?_
            refine E_istore_n dX12_areSame_90 (Nat.le_of_ble_eq_true rfl) (by decide) rfl ?_
            refine E_iload_n dX12_areSame_91 rfl ?_
            refine E_if_eq (tgt := 144) dX12_areSame_92 (by decide) (fun _ => ?_) (fun c0 => absurd (by decide) c0)
            refine E_iconst (v := nI 0) dX12_areSame_144 (by decide) ?_
            refine E_istore_n dX12_areSame_145 (Nat.le_of_ble_eq_true rfl) (by decide) rfl ?_
            refine E_iinc_n (d := 1) dX12_areSame_146 rfl rfl rfl (by decide) rfl ?_
            refine E_goto (tgt := 16) dX12_areSame_149 (by decide) ?_
            refine E_iload_n dX12_areSame_16 rfl ?_
            refine E_iload_n dX12_areSame_17 rfl ?_
            refine E_icmp_ge_n (tgt := 152) dX12_areSame_18 (by decide) (by omega) (by omega) (fun e_18 => ?_) (fun e_18 => ?_)
            · refine E_iload_n dX12_areSame_152 rfl ?_
              refine E_iret dX12_areSame_153 (Or.inr ⟨rfl, by decide⟩) ?_
              rw [← b2i_f (P := eqA M n2 n) nt]; exact K
            · refine E_iload_n dX12_areSame_21 rfl ?_
              refine E_if_eq (tgt := 152) dX12_areSame_22 (by decide) (fun _ => ?_) (fun c0 => absurd (by decide) c0)
              refine E_iload_n dX12_areSame_152 rfl ?_
              refine E_iret dX12_areSame_153 (Or.inr ⟨rfl, by decide⟩) ?_
              rw [← b2i_f (P := eqA M n2 n) nt]; exact K
          · refine E_iconst (v := nI 1) dX12_areSame_85 (by decide) ?_
            refine E_goto (tgt := 90) dX12_areSame_86 (by decide) ?_
            refine E_istore_n dX12_areSame_90 (Nat.le_of_ble_eq_true rfl) (by decide) rfl ?_
            refine E_iload_n dX12_areSame_91 rfl ?_
            refine E_if_eq (tgt := 144) dX12_areSame_92 (by decide) (fun c0 => absurd c0 (by decide)) (fun _ => ?_)
            refine E_aload_n dX12_areSame_95 rfl ?_
            refine E_getRL dX12_areSame_96 kF_X12_117 kY_12 (Or.inr ⟨_, rfl⟩) (l_128 hL) (k_128 hL) (r_128_42 hL) ?_
            refine E_iload_n dX12_areSame_99 rfl ?_
            refine E_iald dX12_areSame_100 (l_163 hL) (k_163 hL) rfl (by omega) (by decide) ?_
            refine E_aload_n dX12_areSame_101 rfl ?_
            refine E_getRL dX12_areSame_102 kF_X12_147 kY_12 (Or.inr ⟨_, rfl⟩) (l_128 hL) (k_128 hL) (r_128_53 hL) ?_
            refine E_iload_n dX12_areSame_105 rfl ?_
            refine E_iald dX12_areSame_106 (l_173 hL) (k_173 hL) rfl (by omega) (by decide) ?_
            refine E_icmp_ne (tgt := 144) dX12_areSame_107 (by decide) (fun c_107 => ?_) (fun c_107 => ?_)
            · have nt : ¬ eqA M n2 n := fun q => by have q2 := q.2 k (by omega); unfold eqP at q2; have q3 := q2.1; have q4 := q2.2.1; have q5 := q2.2.2.1; have q6 := q2.2.2.2.1; have q7 := q2.2.2.2.2.1; have q8 := q2.2.2.2.2.2.1; have q9 := q2.2.2.2.2.2.2; first | exact c_37 q3 | exact c_52 q4 | exact c_67 q5 | exact c_82 q6 | exact c_107 q7 | exact c_122 q8 | exact c_137 q9
              refine E_iconst (v := nI 0) dX12_areSame_144 (by decide) ?_
              refine E_istore_n dX12_areSame_145 (Nat.le_of_ble_eq_true rfl) (by decide) rfl ?_
              refine E_iinc_n (d := 1) dX12_areSame_146 rfl rfl rfl (by decide) rfl ?_
              refine E_goto (tgt := 16) dX12_areSame_149 (by decide) ?_
              refine E_iload_n dX12_areSame_16 rfl ?_
              refine E_iload_n dX12_areSame_17 rfl ?_
              refine E_icmp_ge_n (tgt := 152) dX12_areSame_18 (by decide) (by omega) (by omega) (fun e_18 => ?_) (fun e_18 => ?_)
              · refine E_iload_n dX12_areSame_152 rfl ?_
                refine E_iret dX12_areSame_153 (Or.inr ⟨rfl, by decide⟩) ?_
                rw [← b2i_f (P := eqA M n2 n) nt]; exact K
              · refine E_iload_n dX12_areSame_21 rfl ?_
                refine E_if_eq (tgt := 152) dX12_areSame_22 (by decide) (fun _ => ?_) (fun c0 => absurd (by decide) c0)
                refine E_iload_n dX12_areSame_152 rfl ?_
                refine E_iret dX12_areSame_153 (Or.inr ⟨rfl, by decide⟩) ?_
                rw [← b2i_f (P := eqA M n2 n) nt]; exact K
            · refine E_aload_n dX12_areSame_110 rfl ?_
              refine E_getRL dX12_areSame_111 kF_X12_120 kY_12 (Or.inr ⟨_, rfl⟩) (l_128 hL) (k_128 hL) (r_128_43 hL) ?_
              refine E_iload_n dX12_areSame_114 rfl ?_
              refine E_iald dX12_areSame_115 (l_164 hL) (k_164 hL) rfl (by omega) (by decide) ?_
              refine E_aload_n dX12_areSame_116 rfl ?_
              refine E_getRL dX12_areSame_117 kF_X12_150 kY_12 (Or.inr ⟨_, rfl⟩) (l_128 hL) (k_128 hL) (r_128_54 hL) ?_
              refine E_iload_n dX12_areSame_120 rfl ?_
              refine E_iald dX12_areSame_121 (l_174 hL) (k_174 hL) rfl (by omega) (by decide) ?_
              refine E_icmp_ne (tgt := 144) dX12_areSame_122 (by decide) (fun c_122 => ?_) (fun c_122 => ?_)
              · have nt : ¬ eqA M n2 n := fun q => by have q2 := q.2 k (by omega); unfold eqP at q2; have q3 := q2.1; have q4 := q2.2.1; have q5 := q2.2.2.1; have q6 := q2.2.2.2.1; have q7 := q2.2.2.2.2.1; have q8 := q2.2.2.2.2.2.1; have q9 := q2.2.2.2.2.2.2; first | exact c_37 q3 | exact c_52 q4 | exact c_67 q5 | exact c_82 q6 | exact c_107 q7 | exact c_122 q8 | exact c_137 q9
                refine E_iconst (v := nI 0) dX12_areSame_144 (by decide) ?_
                refine E_istore_n dX12_areSame_145 (Nat.le_of_ble_eq_true rfl) (by decide) rfl ?_
                refine E_iinc_n (d := 1) dX12_areSame_146 rfl rfl rfl (by decide) rfl ?_
                refine E_goto (tgt := 16) dX12_areSame_149 (by decide) ?_
                refine E_iload_n dX12_areSame_16 rfl ?_
                refine E_iload_n dX12_areSame_17 rfl ?_
                refine E_icmp_ge_n (tgt := 152) dX12_areSame_18 (by decide) (by omega) (by omega) (fun e_18 => ?_) (fun e_18 => ?_)
                · refine E_iload_n dX12_areSame_152 rfl ?_
                  refine E_iret dX12_areSame_153 (Or.inr ⟨rfl, by decide⟩) ?_
                  rw [← b2i_f (P := eqA M n2 n) nt]; exact K
                · refine E_iload_n dX12_areSame_21 rfl ?_
                  refine E_if_eq (tgt := 152) dX12_areSame_22 (by decide) (fun _ => ?_) (fun c0 => absurd (by decide) c0)
                  refine E_iload_n dX12_areSame_152 rfl ?_
                  refine E_iret dX12_areSame_153 (Or.inr ⟨rfl, by decide⟩) ?_
                  rw [← b2i_f (P := eqA M n2 n) nt]; exact K
              · refine E_aload_n dX12_areSame_125 rfl ?_
                refine E_getRL dX12_areSame_126 kF_X12_123 kY_12 (Or.inr ⟨_, rfl⟩) (l_128 hL) (k_128 hL) (r_128_44 hL) ?_
                refine E_iload_n dX12_areSame_129 rfl ?_
                refine E_iald dX12_areSame_130 (l_165 hL) (k_165 hL) rfl (by omega) (by decide) ?_
                refine E_aload_n dX12_areSame_131 rfl ?_
                refine E_getRL dX12_areSame_132 kF_X12_153 kY_12 (Or.inr ⟨_, rfl⟩) (l_128 hL) (k_128 hL) (r_128_55 hL) ?_
                refine E_iload_n dX12_areSame_135 rfl ?_
                refine E_iald dX12_areSame_136 (l_175 hL) (k_175 hL) rfl (by omega) (by decide) ?_
                refine E_icmp_ne (tgt := 144) dX12_areSame_137 (by decide) (fun c_137 => ?_) (fun c_137 => ?_)
                · have nt : ¬ eqA M n2 n := fun q => by have q2 := q.2 k (by omega); unfold eqP at q2; have q3 := q2.1; have q4 := q2.2.1; have q5 := q2.2.2.1; have q6 := q2.2.2.2.1; have q7 := q2.2.2.2.2.1; have q8 := q2.2.2.2.2.2.1; have q9 := q2.2.2.2.2.2.2; first | exact c_37 q3 | exact c_52 q4 | exact c_67 q5 | exact c_82 q6 | exact c_107 q7 | exact c_122 q8 | exact c_137 q9
                  refine E_iconst (v := nI 0) dX12_areSame_144 (by decide) ?_
                  refine E_istore_n dX12_areSame_145 (Nat.le_of_ble_eq_true rfl) (by decide) rfl ?_
                  refine E_iinc_n (d := 1) dX12_areSame_146 rfl rfl rfl (by decide) rfl ?_
                  refine E_goto (tgt := 16) dX12_areSame_149 (by decide) ?_
                  refine E_iload_n dX12_areSame_16 rfl ?_
                  refine E_iload_n dX12_areSame_17 rfl ?_
                  refine E_icmp_ge_n (tgt := 152) dX12_areSame_18 (by decide) (by omega) (by omega) (fun e_18 => ?_) (fun e_18 => ?_)
                  · refine E_iload_n dX12_areSame_152 rfl ?_
                    refine E_iret dX12_areSame_153 (Or.inr ⟨rfl, by decide⟩) ?_
                    rw [← b2i_f (P := eqA M n2 n) nt]; exact K
                  · refine E_iload_n dX12_areSame_21 rfl ?_
                    refine E_if_eq (tgt := 152) dX12_areSame_22 (by decide) (fun _ => ?_) (fun c0 => absurd (by decide) c0)
                    refine E_iload_n dX12_areSame_152 rfl ?_
                    refine E_iret dX12_areSame_153 (Or.inr ⟨rfl, by decide⟩) ?_
                    rw [← b2i_f (P := eqA M n2 n) nt]; exact K
                · refine E_iconst (v := nI 1) dX12_areSame_140 (by decide) ?_
                  refine E_goto (tgt := 145) dX12_areSame_141 (by decide) ?_
                  refine E_istore_n dX12_areSame_145 (Nat.le_of_ble_eq_true rfl) (by decide) rfl ?_
                  refine E_iinc_n (d := 1) dX12_areSame_146 rfl rfl rfl (by decide) rfl ?_
                  refine E_goto (tgt := 16) dX12_areSame_149 (by decide) ?_
                  refine ih (by omega) (fun P hP2 => ?_)
                  by_cases e : P = k
                  · subst e; exact ⟨Classical.not_not.mp c_37, Classical.not_not.mp c_52, Classical.not_not.mp c_67, Classical.not_not.mp c_82, Classical.not_not.mp c_107, Classical.not_not.mp c_122, Classical.not_not.mp c_137⟩
                  · exact hP P (by omega)
set_option maxRecDepth 100000 in
set_option maxHeartbeats 4000000 in
theorem sp_X12_areSame {g : gG} {M : gM} {Q : Option Value ⊕ String → gM → Prop} (hL : gLay M) {n2 n : Nat} (hn : n ≤ 1024) (hn2 : n2 ≤ 1024) (hg : mI M 128 36 = nI n2) (K : Q (.inl (some (.int (b2i (eqA M n2 n))))) M) : E g 1 0 0 mX12_areSame 0 [.ref 129, .int (nI n), .null, .null] [] M Q := by
  refine E_aload_n dX12_areSame_0 rfl ?_
  refine E_getIL (v := nI n2) dX12_areSame_1 kF_X12_406 kY_12 (Or.inl rfl) (l_128 hL) (k_128 hL) hg ?_
  refine E_iload_n dX12_areSame_4 rfl ?_
  refine E_icmp_ne_n (tgt := 12) dX12_areSame_5 (by decide) (by omega) (by omega) (fun c_5 => ?_) (fun c_5 => ?_)
  · refine E_iconst (v := nI 0) dX12_areSame_12 (by decide) ?_
    refine E_istore_n dX12_areSame_13 (Nat.le_of_ble_eq_true rfl) (by decide) rfl ?_
    refine E_iconst (v := nI 0) dX12_areSame_14 (by decide) ?_
    refine E_istore_n dX12_areSame_15 (Nat.le_of_ble_eq_true rfl) (by decide) rfl ?_
    refine E_iload_n dX12_areSame_16 rfl ?_
    refine E_iload_n dX12_areSame_17 rfl ?_
    refine E_icmp_ge_n (tgt := 152) dX12_areSame_18 (by decide) (by omega) (by omega) (fun e_18 => ?_) (fun e_18 => ?_)
    · refine E_iload_n dX12_areSame_152 rfl ?_
      refine E_iret dX12_areSame_153 (Or.inr ⟨rfl, by decide⟩) ?_
      rw [← b2i_f (P := eqA M n2 n) (fun q => c_5 q.1)]; exact K
    · refine E_iload_n dX12_areSame_21 rfl ?_
      refine E_if_eq (tgt := 152) dX12_areSame_22 (by decide) (fun _ => ?_) (fun c0 => absurd (by decide) c0)
      refine E_iload_n dX12_areSame_152 rfl ?_
      refine E_iret dX12_areSame_153 (Or.inr ⟨rfl, by decide⟩) ?_
      rw [← b2i_f (P := eqA M n2 n) (fun q => c_5 q.1)]; exact K
  · refine E_iconst (v := nI 1) dX12_areSame_8 (by decide) ?_
    refine E_goto (tgt := 13) dX12_areSame_9 (by decide) ?_
    refine E_istore_n dX12_areSame_13 (Nat.le_of_ble_eq_true rfl) (by decide) rfl ?_
    refine E_iconst (v := nI 0) dX12_areSame_14 (by decide) ?_
    refine E_istore_n dX12_areSame_15 (Nat.le_of_ble_eq_true rfl) (by decide) rfl ?_
    exact lp_X12_areSame hL hn c_5 K 0 (Nat.zero_le _) (fun P hP => by omega)
