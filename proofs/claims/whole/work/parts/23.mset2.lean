/-! the reference: what tells, further -/
set_option maxRecDepth 100000 in
set_option maxHeartbeats 4000000 in
theorem sp_X12_isLookup {g : gG} {M : gM} {Q : Option Value ⊕ String → gM → Prop} (hL : gLay M) {fc : Nat} (hf : mI M 128 1 = nI fc) (hfc : fc < 2) {cnt : Nat} (hc : mI M 129 fc = nI cnt) (hcl : cnt ≤ 12) {p : Int32} (K : Q (.inl (some (.int (b2i (iBel p cnt))))) M) : E g 2 0 0 mX12_isLookup 0 [.ref 129, .int p] [] M Q := by
  refine E_iload_n dX12_isLookup_0 rfl ?_
  refine E_iconst (v := nI 0) dX12_isLookup_1 (by decide) ?_
  refine E_aload_n dX12_isLookup_2 rfl ?_
  refine E_getRL dX12_isLookup_3 kF_X12_7 kY_12 (Or.inr ⟨_, rfl⟩) (l_128 hL) (k_128 hL) (r_128_2 hL) ?_
  refine E_aload_n dX12_isLookup_6 rfl ?_
  refine E_getIL (v := nI fc) dX12_isLookup_7 kF_X12_169 kY_12 (Or.inl rfl) (l_128 hL) (k_128 hL) hf ?_
  refine E_ialdL (v := nI cnt) dX12_isLookup_10 (l_129 hL) (k_129 hL) rfl (by omega) (by decide) hc ?_
  refine E_iconst (v := nI 1) dX12_isLookup_11 (by decide) ?_
  refine E_isub dX12_isLookup_12 ?_
  refine E_callS3 (fr' := 1) (k1 := 0) (n1 := 0) (k2 := 0) (n2 := 0) dX12_isLookup_13 kO_X12_in kL_X12_162 rfl rfl rfl (by decide) (by decide) (by exact Nat.le_of_ble_eq_true rfl) (Or.inl rfl) rfl ?_
  refine sp_X12_in ?_
  refine gKv ?_
  refine E_iret dX12_isLookup_16 (Or.inr ⟨rfl, b2i_01 _⟩) ?_
  exact K
set_option maxRecDepth 100000 in
set_option maxHeartbeats 4000000 in
theorem sp_X12_isPlace {g : gG} {M : gM} {Q : Option Value ⊕ String → gM → Prop} (hL : gLay M) {len : Nat} (hlen : mI M 128 14 = nI len) (hll : len ≤ 16) {p : Int32} (K : Q (.inl (some (.int (b2i (iBel p len))))) M) : E g 2 0 0 mX12_isPlace 0 [.ref 129, .int p] [] M Q := by
  refine E_iload_n dX12_isPlace_0 rfl ?_
  refine E_iconst (v := nI 0) dX12_isPlace_1 (by decide) ?_
  refine E_aload_n dX12_isPlace_2 rfl ?_
  refine E_getIL (v := nI len) dX12_isPlace_3 kF_X12_219 kY_12 (Or.inl rfl) (l_128 hL) (k_128 hL) hlen ?_
  refine E_iconst (v := nI 1) dX12_isPlace_6 (by decide) ?_
  refine E_isub dX12_isPlace_7 ?_
  refine E_callS3 (fr' := 1) (k1 := 0) (n1 := 0) (k2 := 0) (n2 := 0) dX12_isPlace_8 kO_X12_in kL_X12_162 rfl rfl rfl (by decide) (by decide) (by exact Nat.le_of_ble_eq_true rfl) (Or.inl rfl) rfl ?_
  refine sp_X12_in ?_
  refine gKv ?_
  refine E_iret dX12_isPlace_11 (Or.inr ⟨rfl, b2i_01 _⟩) ?_
  exact K
set_option maxRecDepth 100000 in
set_option maxHeartbeats 4000000 in
theorem sp_X12_setTongue {g : gG} {M : gM} {Q : Option Value ⊕ String → gM → Prop} (hL : gLay M) {p : Int32} (K1 : iIn p (nI 1) (nI 2) → Q (.inl (some (.int (mI M 128 17)))) (sI (sI M 128 0 (nI 0)) 128 17 p)) (K0 : ¬ iIn p (nI 1) (nI 2) → Q (.inl (some (.int (nI 0)))) (sI M 128 0 (nI 1))) : E g 2 0 0 mX12_setTongue 0 [.ref 129, .int p, .null] [] M Q := by
  refine E_aload_n dX12_setTongue_0 rfl ?_
  refine E_iload_n dX12_setTongue_1 rfl ?_
  refine E_iconst (v := nI 1) dX12_setTongue_2 (by decide) ?_
  refine E_iconst (v := nI 2) dX12_setTongue_3 (by decide) ?_
  refine E_callS3 (fr' := 1) (k1 := 0) (n1 := 0) (k2 := 0) (n2 := 0) dX12_setTongue_4 kO_X12_in kL_X12_162 rfl rfl rfl (by decide) (by decide) (by exact Nat.le_of_ble_eq_true rfl) (Or.inl rfl) rfl ?_
  refine sp_X12_in ?_
  refine gKv ?_
  refine E_if_eq_b (tgt := 14) dX12_setTongue_7 (by decide) (fun c_7 => ?_) (fun c_7 => ?_)
  · refine E_iconst (v := nI 1) dX12_setTongue_14 (by decide) ?_
    refine E_putI dX12_setTongue_15 kF_X12_166 kY_12 (Or.inl rfl) (l_128 hL) (k_128 hL) (Or.inl rfl) ?_
    refine E_aload_n dX12_setTongue_18 rfl ?_
    refine E_getIL (v := nI 1) dX12_setTongue_19 kF_X12_166 kY_12 (Or.inl rfl) (l_128 hL) (k_128 hL) rfl ?_
    refine E_if_le (tgt := 27) dX12_setTongue_22 (by decide) (fun c0 => absurd c0 (by decide)) (fun _ => ?_)
    refine E_iconst (v := nI 0) dX12_setTongue_25 (by decide) ?_
    refine E_iret dX12_setTongue_26 (Or.inl rfl) ?_
    first | exact K1 (by assumption) | exact K0 (by assumption)
  · refine E_iconst (v := nI 0) dX12_setTongue_10 (by decide) ?_
    refine E_goto (tgt := 15) dX12_setTongue_11 (by decide) ?_
    refine E_putI dX12_setTongue_15 kF_X12_166 kY_12 (Or.inl rfl) (l_128 hL) (k_128 hL) (Or.inl rfl) ?_
    refine E_aload_n dX12_setTongue_18 rfl ?_
    refine E_getIL (v := nI 0) dX12_setTongue_19 kF_X12_166 kY_12 (Or.inl rfl) (l_128 hL) (k_128 hL) rfl ?_
    refine E_if_le (tgt := 27) dX12_setTongue_22 (by decide) (fun _ => ?_) (fun c0 => absurd (by decide) c0)
    refine E_aload_n dX12_setTongue_27 rfl ?_
    refine E_getI dX12_setTongue_28 kF_X12_53 kY_12 (Or.inl rfl) (l_128 hL) (k_128 hL) ?_
    refine E_istore_n dX12_setTongue_31 (Nat.le_of_ble_eq_true rfl) (by decide) rfl ?_
    refine E_aload_n dX12_setTongue_32 rfl ?_
    refine E_iload_n dX12_setTongue_33 rfl ?_
    refine E_putI dX12_setTongue_34 kF_X12_53 kY_12 (Or.inl rfl) (l_128 hL) (k_128 hL) (Or.inl rfl) ?_
    refine E_iload_n dX12_setTongue_37 rfl ?_
    refine E_iret dX12_setTongue_38 (Or.inl rfl) ?_
    first | exact K1 (by assumption) | exact K0 (by assumption)
noncomputable def mkEnc (its : Int32) : Int32 := @ite _ (its = -100) (Classical.propDecidable _) (nI 0) (its + nI 1)
noncomputable def mkDec (w : Int32) : Int32 := @ite _ (w = 0) (Classical.propDecidable _) (-100) (w - nI 1)
set_option maxRecDepth 100000 in
set_option maxHeartbeats 4000000 in
theorem sp_X12_setMark0 {g : gG} {M : gM} {Q : Option Value ⊕ String → gM → Prop} (hL : gLay M) {p q : Int32} (hp : ¬ iGlyph p) (K : Q (.inl (some (.int (nI 0)))) (sI M 128 0 (nI 1))) : E g 3 0 0 mX12_setMark 0 [.ref 129, .int p, .int q, .null] [] M Q := by
  refine E_aload_n dX12_setMark_0 rfl ?_
  refine E_iload_n dX12_setMark_1 rfl ?_
  refine E_callS1 (fr' := 2) (k1 := 0) (n1 := 0) (k2 := 0) (n2 := 0) dX12_setMark_2 kO_X12_isGlyph kL_X12_172 rfl (by decide) (by decide) (by exact Nat.le_of_ble_eq_true rfl) (Or.inl rfl) rfl ?_
  refine sp_X12_isGlyph ?_
  refine gKv ?_
  refine E_if_ne_b (tgt := 12) dX12_setMark_5 (by decide) (fun c_5 => ?_) (fun c_5 => ?_)
  · exact absurd c_5 hp
  · refine E_iconst (v := nI 1) dX12_setMark_8 (by decide) ?_
    refine E_goto (tgt := 30) dX12_setMark_9 (by decide) ?_
    refine E_putI dX12_setMark_30 kF_X12_166 kY_12 (Or.inl rfl) (l_128 hL) (k_128 hL) (Or.inl rfl) ?_
    refine E_aload_n dX12_setMark_33 rfl ?_
    refine E_getIL (v := nI 1) dX12_setMark_34 kF_X12_166 kY_12 (Or.inl rfl) (l_128 hL) (k_128 hL) rfl ?_
    refine E_if_le (tgt := 42) dX12_setMark_37 (by decide) (fun c0 => absurd c0 (by decide)) (fun _ => ?_)
    refine E_iconst (v := nI 0) dX12_setMark_40 (by decide) ?_
    refine E_iret dX12_setMark_41 (Or.inl rfl) ?_
    exact K
set_option maxRecDepth 100000 in
set_option maxHeartbeats 4000000 in
theorem sp_X12_setMark1 {g : gG} {M : gM} {Q : Option Value ⊕ String → gM → Prop} (hL : gLay M) {fc : Nat} (hf : mI M 128 1 = nI fc) (hfc : fc < 2) {p : Nat} {q : Int32} (hp : iGlyph (nI p)) (hp2 : p < 256) (K0 : ¬ (q = -100 ∨ iClass q) → Q (.inl (some (.int (nI 0)))) (sI M 128 0 (nI 2))) (K1 : q = -100 ∨ iClass q → Q (.inl (some (.int (mkDec (mI M 137 (256 * fc + p)))))) (sI (sI M 128 0 (nI 0)) 137 (256 * fc + p) (mkEnc q))) : E g 3 0 0 mX12_setMark 0 [.ref 129, .int (nI p), .int q, .null] [] M Q := by
  refine E_aload_n dX12_setMark_0 rfl ?_
  refine E_iload_n dX12_setMark_1 rfl ?_
  refine E_callS1 (fr' := 2) (k1 := 0) (n1 := 0) (k2 := 0) (n2 := 0) dX12_setMark_2 kO_X12_isGlyph kL_X12_172 rfl (by decide) (by decide) (by exact Nat.le_of_ble_eq_true rfl) (Or.inl rfl) rfl ?_
  refine sp_X12_isGlyph ?_
  refine gKv ?_
  refine E_if_ne_b (tgt := 12) dX12_setMark_5 (by decide) (fun c_5 => ?_) (fun c_5 => ?_)
  · refine E_iload_n dX12_setMark_12 rfl ?_
    refine E_bipush (v := -100) dX12_setMark_13 (by decide) ?_
    refine E_icmp_eq (tgt := 25) dX12_setMark_15 (by decide) (fun c_15 => ?_) (fun c_15 => ?_)
    · refine E_iconst (v := nI 0) dX12_setMark_25 (by decide) ?_
      refine E_goto (tgt := 30) dX12_setMark_26 (by decide) ?_
      refine E_putI dX12_setMark_30 kF_X12_166 kY_12 (Or.inl rfl) (l_128 hL) (k_128 hL) (Or.inl rfl) ?_
      refine E_aload_n dX12_setMark_33 rfl ?_
      refine E_getIL (v := nI 0) dX12_setMark_34 kF_X12_166 kY_12 (Or.inl rfl) (l_128 hL) (k_128 hL) rfl ?_
      refine E_if_le (tgt := 42) dX12_setMark_37 (by decide) (fun _ => ?_) (fun c0 => absurd (by decide) c0)
      refine E_aload_n dX12_setMark_42 rfl ?_
      refine E_getRL dX12_setMark_43 kF_X12_34 kY_12 (Or.inr ⟨_, rfl⟩) (l_128 hL) (k_128 hL) (r_128_10 hL) ?_
      refine E_sipush (v := nI 256) dX12_setMark_46 (by decide) ?_
      refine E_aload_n dX12_setMark_49 rfl ?_
      refine E_getIL (v := nI fc) dX12_setMark_50 kF_X12_169 kY_12 (Or.inl rfl) (l_128 hL) (k_128 hL) hf ?_
      refine E_imul_n dX12_setMark_53 ?_
      refine E_iload_n dX12_setMark_54 rfl ?_
      refine E_iadd_n dX12_setMark_55 ?_
      refine E_ialdL (v := mI M 137 (256 * fc + p)) dX12_setMark_56 (l_137 hL) (k_137 hL) rfl (by omega) (by decide) rfl ?_
      refine E_istore_n dX12_setMark_57 (Nat.le_of_ble_eq_true rfl) (by decide) rfl ?_
      refine E_aload_n dX12_setMark_58 rfl ?_
      refine E_getRL dX12_setMark_59 kF_X12_34 kY_12 (Or.inr ⟨_, rfl⟩) (l_128 hL) (k_128 hL) (r_128_10 hL) ?_
      refine E_sipush (v := nI 256) dX12_setMark_62 (by decide) ?_
      refine E_aload_n dX12_setMark_65 rfl ?_
      refine E_getIL (v := nI fc) dX12_setMark_66 kF_X12_169 kY_12 (Or.inl rfl) (l_128 hL) (k_128 hL) hf ?_
      refine E_imul_n dX12_setMark_69 ?_
      refine E_iload_n dX12_setMark_70 rfl ?_
      refine E_iadd_n dX12_setMark_71 ?_
      refine E_iload_n dX12_setMark_72 rfl ?_
      refine E_bipush (v := -100) dX12_setMark_73 (by decide) ?_
      refine E_icmp_ne (tgt := 82) dX12_setMark_75 (by decide) (fun c_75 => ?_) (fun c_75 => ?_)
      · refine E_iload_n dX12_setMark_82 rfl ?_
        refine E_iconst (v := nI 1) dX12_setMark_83 (by decide) ?_
        refine E_iadd dX12_setMark_84 ?_
        refine E_iast dX12_setMark_85 (l_137 hL) (k_137 hL) rfl (by omega) (by decide) ?_
        refine E_iload_n dX12_setMark_86 rfl ?_
        refine E_if_ne (tgt := 95) dX12_setMark_87 (by decide) (fun c_87 => ?_) (fun c_87 => ?_)
        · refine E_iload_n dX12_setMark_95 rfl ?_
          refine E_iconst (v := nI 1) dX12_setMark_96 (by decide) ?_
          refine E_isub dX12_setMark_97 ?_
          refine E_iret dX12_setMark_98 (Or.inl rfl) ?_
          first
            | exact K0 (by grind)
            | (have K2 := K1 (by grind); simp only [mkEnc, mkDec] at K2; simp_all [mI_sI])
        · refine E_bipush (v := -100) dX12_setMark_90 (by decide) ?_
          refine E_goto (tgt := 98) dX12_setMark_92 (by decide) ?_
          refine E_iret dX12_setMark_98 (Or.inl rfl) ?_
          first
            | exact K0 (by grind)
            | (have K2 := K1 (by grind); simp only [mkEnc, mkDec] at K2; simp_all [mI_sI])
      · refine E_iconst (v := nI 0) dX12_setMark_78 (by decide) ?_
        refine E_goto (tgt := 85) dX12_setMark_79 (by decide) ?_
        refine E_iast dX12_setMark_85 (l_137 hL) (k_137 hL) rfl (by omega) (by decide) ?_
        refine E_iload_n dX12_setMark_86 rfl ?_
        refine E_if_ne (tgt := 95) dX12_setMark_87 (by decide) (fun c_87 => ?_) (fun c_87 => ?_)
        · refine E_iload_n dX12_setMark_95 rfl ?_
          refine E_iconst (v := nI 1) dX12_setMark_96 (by decide) ?_
          refine E_isub dX12_setMark_97 ?_
          refine E_iret dX12_setMark_98 (Or.inl rfl) ?_
          first
            | exact K0 (by grind)
            | (have K2 := K1 (by grind); simp only [mkEnc, mkDec] at K2; simp_all [mI_sI])
        · refine E_bipush (v := -100) dX12_setMark_90 (by decide) ?_
          refine E_goto (tgt := 98) dX12_setMark_92 (by decide) ?_
          refine E_iret dX12_setMark_98 (Or.inl rfl) ?_
          first
            | exact K0 (by grind)
            | (have K2 := K1 (by grind); simp only [mkEnc, mkDec] at K2; simp_all [mI_sI])
    · refine E_iload_n dX12_setMark_18 rfl ?_
      refine E_callS1 (fr' := 2) (k1 := 0) (n1 := 0) (k2 := 0) (n2 := 0) dX12_setMark_19 kO_X12_isClass kL_X12_191 rfl (by decide) (by decide) (by exact Nat.le_of_ble_eq_true rfl) (Or.inl rfl) rfl ?_
      refine sp_X12_isClass ?_
      refine gKv ?_
      refine E_if_eq_b (tgt := 29) dX12_setMark_22 (by decide) (fun c_22 => ?_) (fun c_22 => ?_)
      · refine E_iconst (v := nI 2) dX12_setMark_29 (by decide) ?_
        refine E_putI dX12_setMark_30 kF_X12_166 kY_12 (Or.inl rfl) (l_128 hL) (k_128 hL) (Or.inl rfl) ?_
        refine E_aload_n dX12_setMark_33 rfl ?_
        refine E_getIL (v := nI 2) dX12_setMark_34 kF_X12_166 kY_12 (Or.inl rfl) (l_128 hL) (k_128 hL) rfl ?_
        refine E_if_le (tgt := 42) dX12_setMark_37 (by decide) (fun c0 => absurd c0 (by decide)) (fun _ => ?_)
        refine E_iconst (v := nI 0) dX12_setMark_40 (by decide) ?_
        refine E_iret dX12_setMark_41 (Or.inl rfl) ?_
        first
          | exact K0 (by grind)
          | (have K2 := K1 (by grind); simp only [mkEnc, mkDec] at K2; simp_all [mI_sI])
      · refine E_iconst (v := nI 0) dX12_setMark_25 (by decide) ?_
        refine E_goto (tgt := 30) dX12_setMark_26 (by decide) ?_
        refine E_putI dX12_setMark_30 kF_X12_166 kY_12 (Or.inl rfl) (l_128 hL) (k_128 hL) (Or.inl rfl) ?_
        refine E_aload_n dX12_setMark_33 rfl ?_
        refine E_getIL (v := nI 0) dX12_setMark_34 kF_X12_166 kY_12 (Or.inl rfl) (l_128 hL) (k_128 hL) rfl ?_
        refine E_if_le (tgt := 42) dX12_setMark_37 (by decide) (fun _ => ?_) (fun c0 => absurd (by decide) c0)
        refine E_aload_n dX12_setMark_42 rfl ?_
        refine E_getRL dX12_setMark_43 kF_X12_34 kY_12 (Or.inr ⟨_, rfl⟩) (l_128 hL) (k_128 hL) (r_128_10 hL) ?_
        refine E_sipush (v := nI 256) dX12_setMark_46 (by decide) ?_
        refine E_aload_n dX12_setMark_49 rfl ?_
        refine E_getIL (v := nI fc) dX12_setMark_50 kF_X12_169 kY_12 (Or.inl rfl) (l_128 hL) (k_128 hL) hf ?_
        refine E_imul_n dX12_setMark_53 ?_
        refine E_iload_n dX12_setMark_54 rfl ?_
        refine E_iadd_n dX12_setMark_55 ?_
        refine E_ialdL (v := mI M 137 (256 * fc + p)) dX12_setMark_56 (l_137 hL) (k_137 hL) rfl (by omega) (by decide) rfl ?_
        refine E_istore_n dX12_setMark_57 (Nat.le_of_ble_eq_true rfl) (by decide) rfl ?_
        refine E_aload_n dX12_setMark_58 rfl ?_
        refine E_getRL dX12_setMark_59 kF_X12_34 kY_12 (Or.inr ⟨_, rfl⟩) (l_128 hL) (k_128 hL) (r_128_10 hL) ?_
        refine E_sipush (v := nI 256) dX12_setMark_62 (by decide) ?_
        refine E_aload_n dX12_setMark_65 rfl ?_
        refine E_getIL (v := nI fc) dX12_setMark_66 kF_X12_169 kY_12 (Or.inl rfl) (l_128 hL) (k_128 hL) hf ?_
        refine E_imul_n dX12_setMark_69 ?_
        refine E_iload_n dX12_setMark_70 rfl ?_
        refine E_iadd_n dX12_setMark_71 ?_
        refine E_iload_n dX12_setMark_72 rfl ?_
        refine E_bipush (v := -100) dX12_setMark_73 (by decide) ?_
        refine E_icmp_ne (tgt := 82) dX12_setMark_75 (by decide) (fun c_75 => ?_) (fun c_75 => ?_)
        · refine E_iload_n dX12_setMark_82 rfl ?_
          refine E_iconst (v := nI 1) dX12_setMark_83 (by decide) ?_
          refine E_iadd dX12_setMark_84 ?_
          refine E_iast dX12_setMark_85 (l_137 hL) (k_137 hL) rfl (by omega) (by decide) ?_
          refine E_iload_n dX12_setMark_86 rfl ?_
          refine E_if_ne (tgt := 95) dX12_setMark_87 (by decide) (fun c_87 => ?_) (fun c_87 => ?_)
          · refine E_iload_n dX12_setMark_95 rfl ?_
            refine E_iconst (v := nI 1) dX12_setMark_96 (by decide) ?_
            refine E_isub dX12_setMark_97 ?_
            refine E_iret dX12_setMark_98 (Or.inl rfl) ?_
            first
              | exact K0 (by grind)
              | (have K2 := K1 (by grind); simp only [mkEnc, mkDec] at K2; simp_all [mI_sI])
          · refine E_bipush (v := -100) dX12_setMark_90 (by decide) ?_
            refine E_goto (tgt := 98) dX12_setMark_92 (by decide) ?_
            refine E_iret dX12_setMark_98 (Or.inl rfl) ?_
            first
              | exact K0 (by grind)
              | (have K2 := K1 (by grind); simp only [mkEnc, mkDec] at K2; simp_all [mI_sI])
        · refine E_iconst (v := nI 0) dX12_setMark_78 (by decide) ?_
          refine E_goto (tgt := 85) dX12_setMark_79 (by decide) ?_
          refine E_iast dX12_setMark_85 (l_137 hL) (k_137 hL) rfl (by omega) (by decide) ?_
          refine E_iload_n dX12_setMark_86 rfl ?_
          refine E_if_ne (tgt := 95) dX12_setMark_87 (by decide) (fun c_87 => ?_) (fun c_87 => ?_)
          · refine E_iload_n dX12_setMark_95 rfl ?_
            refine E_iconst (v := nI 1) dX12_setMark_96 (by decide) ?_
            refine E_isub dX12_setMark_97 ?_
            refine E_iret dX12_setMark_98 (Or.inl rfl) ?_
            first
              | exact K0 (by grind)
              | (have K2 := K1 (by grind); simp only [mkEnc, mkDec] at K2; simp_all [mI_sI])
          · refine E_bipush (v := -100) dX12_setMark_90 (by decide) ?_
            refine E_goto (tgt := 98) dX12_setMark_92 (by decide) ?_
            refine E_iret dX12_setMark_98 (Or.inl rfl) ?_
            first
              | exact K0 (by grind)
              | (have K2 := K1 (by grind); simp only [mkEnc, mkDec] at K2; simp_all [mI_sI])
  · exact absurd hp c_5
set_option maxRecDepth 100000 in
set_option maxHeartbeats 4000000 in
theorem sp_X12_setGroup0 {g : gG} {M : gM} {Q : Option Value ⊕ String → gM → Prop} (hL : gLay M) {p q : Int32} (hp : ¬ (iGlyph p ∧ iIn q (nI 0) (nI 5))) (K : Q (.inl (some (.int (nI 0)))) (sI M 128 0 (nI 1))) : E g 3 0 0 mX12_setGroup 0 [.ref 129, .int p, .int q, .null] [] M Q := by
  refine E_aload_n dX12_setGroup_0 rfl ?_
  refine E_iload_n dX12_setGroup_1 rfl ?_
  refine E_callS1 (fr' := 2) (k1 := 0) (n1 := 0) (k2 := 0) (n2 := 0) dX12_setGroup_2 kO_X12_isGlyph kL_X12_172 rfl (by decide) (by decide) (by exact Nat.le_of_ble_eq_true rfl) (Or.inl rfl) rfl ?_
  refine sp_X12_isGlyph ?_
  refine gKv ?_
  refine E_if_eq_b (tgt := 21) dX12_setGroup_5 (by decide) (fun c_5 => ?_) (fun c_5 => ?_)
  · refine E_iconst (v := nI 1) dX12_setGroup_21 (by decide) ?_
    refine E_putI dX12_setGroup_22 kF_X12_166 kY_12 (Or.inl rfl) (l_128 hL) (k_128 hL) (Or.inl rfl) ?_
    refine E_aload_n dX12_setGroup_25 rfl ?_
    refine E_getIL (v := nI 1) dX12_setGroup_26 kF_X12_166 kY_12 (Or.inl rfl) (l_128 hL) (k_128 hL) rfl ?_
    refine E_if_le (tgt := 34) dX12_setGroup_29 (by decide) (fun c0 => absurd c0 (by decide)) (fun _ => ?_)
    refine E_iconst (v := nI 0) dX12_setGroup_32 (by decide) ?_
    refine E_iret dX12_setGroup_33 (Or.inl rfl) ?_
    exact K
  · refine E_iload_n dX12_setGroup_8 rfl ?_
    refine E_iconst (v := nI 0) dX12_setGroup_9 (by decide) ?_
    refine E_iconst (v := nI 5) dX12_setGroup_10 (by decide) ?_
    refine E_callS3 (fr' := 1) (k1 := 0) (n1 := 0) (k2 := 0) (n2 := 0) dX12_setGroup_11 kO_X12_in kL_X12_162 rfl rfl rfl (by decide) (by decide) (by exact Nat.le_of_ble_eq_true rfl) (Or.inl rfl) rfl ?_
    refine sp_X12_in ?_
    refine gKv ?_
    refine E_if_eq_b (tgt := 21) dX12_setGroup_14 (by decide) (fun c_14 => ?_) (fun c_14 => ?_)
    · refine E_iconst (v := nI 1) dX12_setGroup_21 (by decide) ?_
      refine E_putI dX12_setGroup_22 kF_X12_166 kY_12 (Or.inl rfl) (l_128 hL) (k_128 hL) (Or.inl rfl) ?_
      refine E_aload_n dX12_setGroup_25 rfl ?_
      refine E_getIL (v := nI 1) dX12_setGroup_26 kF_X12_166 kY_12 (Or.inl rfl) (l_128 hL) (k_128 hL) rfl ?_
      refine E_if_le (tgt := 34) dX12_setGroup_29 (by decide) (fun c0 => absurd c0 (by decide)) (fun _ => ?_)
      refine E_iconst (v := nI 0) dX12_setGroup_32 (by decide) ?_
      refine E_iret dX12_setGroup_33 (Or.inl rfl) ?_
      exact K
    · exact absurd ⟨c_5, c_14⟩ hp
set_option maxRecDepth 100000 in
set_option maxHeartbeats 4000000 in
theorem sp_X12_setGroup1 {g : gG} {M : gM} {Q : Option Value ⊕ String → gM → Prop} (hL : gLay M) {fc : Nat} (hf : mI M 128 1 = nI fc) (hfc : fc < 2) {p : Nat} {q : Int32} (hp : iGlyph (nI p)) (hq : iIn q (nI 0) (nI 5)) (hp2 : p < 256) (K : Q (.inl (some (.int (mI M 138 (256 * fc + p))))) (sI (sI M 128 0 (nI 0)) 138 (256 * fc + p) q)) : E g 3 0 0 mX12_setGroup 0 [.ref 129, .int (nI p), .int q, .null] [] M Q := by
  refine E_aload_n dX12_setGroup_0 rfl ?_
  refine E_iload_n dX12_setGroup_1 rfl ?_
  refine E_callS1 (fr' := 2) (k1 := 0) (n1 := 0) (k2 := 0) (n2 := 0) dX12_setGroup_2 kO_X12_isGlyph kL_X12_172 rfl (by decide) (by decide) (by exact Nat.le_of_ble_eq_true rfl) (Or.inl rfl) rfl ?_
  refine sp_X12_isGlyph ?_
  refine gKv ?_
  refine E_if_eq_b (tgt := 21) dX12_setGroup_5 (by decide) (fun c_5 => ?_) (fun c_5 => ?_)
  · first | exact absurd hp c_5 | exact absurd hq c_14
  · refine E_iload_n dX12_setGroup_8 rfl ?_
    refine E_iconst (v := nI 0) dX12_setGroup_9 (by decide) ?_
    refine E_iconst (v := nI 5) dX12_setGroup_10 (by decide) ?_
    refine E_callS3 (fr' := 1) (k1 := 0) (n1 := 0) (k2 := 0) (n2 := 0) dX12_setGroup_11 kO_X12_in kL_X12_162 rfl rfl rfl (by decide) (by decide) (by exact Nat.le_of_ble_eq_true rfl) (Or.inl rfl) rfl ?_
    refine sp_X12_in ?_
    refine gKv ?_
    refine E_if_eq_b (tgt := 21) dX12_setGroup_14 (by decide) (fun c_14 => ?_) (fun c_14 => ?_)
    · first | exact absurd hp c_5 | exact absurd hq c_14
    · refine E_iconst (v := nI 0) dX12_setGroup_17 (by decide) ?_
      refine E_goto (tgt := 22) dX12_setGroup_18 (by decide) ?_
      refine E_putI dX12_setGroup_22 kF_X12_166 kY_12 (Or.inl rfl) (l_128 hL) (k_128 hL) (Or.inl rfl) ?_
      refine E_aload_n dX12_setGroup_25 rfl ?_
      refine E_getIL (v := nI 0) dX12_setGroup_26 kF_X12_166 kY_12 (Or.inl rfl) (l_128 hL) (k_128 hL) rfl ?_
      refine E_if_le (tgt := 34) dX12_setGroup_29 (by decide) (fun _ => ?_) (fun c0 => absurd (by decide) c0)
      refine E_aload_n dX12_setGroup_34 rfl ?_
      refine E_getRL dX12_setGroup_35 kF_X12_37 kY_12 (Or.inr ⟨_, rfl⟩) (l_128 hL) (k_128 hL) (r_128_11 hL) ?_
      refine E_sipush (v := nI 256) dX12_setGroup_38 (by decide) ?_
      refine E_aload_n dX12_setGroup_41 rfl ?_
      refine E_getIL (v := nI fc) dX12_setGroup_42 kF_X12_169 kY_12 (Or.inl rfl) (l_128 hL) (k_128 hL) hf ?_
      refine E_imul_n dX12_setGroup_45 ?_
      refine E_iload_n dX12_setGroup_46 rfl ?_
      refine E_iadd_n dX12_setGroup_47 ?_
      refine E_iald dX12_setGroup_48 (l_138 hL) (k_138 hL) rfl (by omega) (by decide) ?_
      refine E_istore_n dX12_setGroup_49 (Nat.le_of_ble_eq_true rfl) (by decide) rfl ?_
      refine E_aload_n dX12_setGroup_50 rfl ?_
      refine E_getRL dX12_setGroup_51 kF_X12_37 kY_12 (Or.inr ⟨_, rfl⟩) (l_128 hL) (k_128 hL) (r_128_11 hL) ?_
      refine E_sipush (v := nI 256) dX12_setGroup_54 (by decide) ?_
      refine E_aload_n dX12_setGroup_57 rfl ?_
      refine E_getIL (v := nI fc) dX12_setGroup_58 kF_X12_169 kY_12 (Or.inl rfl) (l_128 hL) (k_128 hL) hf ?_
      refine E_imul_n dX12_setGroup_61 ?_
      refine E_iload_n dX12_setGroup_62 rfl ?_
      refine E_iadd_n dX12_setGroup_63 ?_
      refine E_iload_n dX12_setGroup_64 rfl ?_
      refine E_iast dX12_setGroup_65 (l_138 hL) (k_138 hL) rfl (by omega) (by decide) ?_
      refine E_iload_n dX12_setGroup_66 rfl ?_
      refine E_iret dX12_setGroup_67 (Or.inl rfl) ?_
      exact K
set_option maxRecDepth 100000 in
set_option maxHeartbeats 4000000 in
theorem sp_X12_setWidth0 {g : gG} {M : gM} {Q : Option Value ⊕ String → gM → Prop} (hL : gLay M) {p q : Int32} (hp : ¬ iGlyph p) (K : Q (.inl (some (.int (nI 0)))) (sI M 128 0 (nI 1))) : E g 3 0 0 mX12_setWidth 0 [.ref 129, .int p, .int q, .null] [] M Q := by
  refine E_aload_n dX12_setWidth_0 rfl ?_
  refine E_iload_n dX12_setWidth_1 rfl ?_
  refine E_callS1 (fr' := 2) (k1 := 0) (n1 := 0) (k2 := 0) (n2 := 0) dX12_setWidth_2 kO_X12_isGlyph kL_X12_172 rfl (by decide) (by decide) (by exact Nat.le_of_ble_eq_true rfl) (Or.inl rfl) rfl ?_
  refine sp_X12_isGlyph ?_
  refine gKv ?_
  refine E_if_ne_b (tgt := 12) dX12_setWidth_5 (by decide) (fun c_5 => ?_) (fun c_5 => ?_)
  · exact absurd c_5 hp
  · refine E_iconst (v := nI 1) dX12_setWidth_8 (by decide) ?_
    refine E_goto (tgt := 27) dX12_setWidth_9 (by decide) ?_
    refine E_putI dX12_setWidth_27 kF_X12_166 kY_12 (Or.inl rfl) (l_128 hL) (k_128 hL) (Or.inl rfl) ?_
    refine E_aload_n dX12_setWidth_30 rfl ?_
    refine E_getIL (v := nI 1) dX12_setWidth_31 kF_X12_166 kY_12 (Or.inl rfl) (l_128 hL) (k_128 hL) rfl ?_
    refine E_if_le (tgt := 39) dX12_setWidth_34 (by decide) (fun c0 => absurd c0 (by decide)) (fun _ => ?_)
    refine E_iconst (v := nI 0) dX12_setWidth_37 (by decide) ?_
    refine E_iret dX12_setWidth_38 (Or.inl rfl) ?_
    exact K
set_option maxRecDepth 100000 in
set_option maxHeartbeats 4000000 in
theorem sp_X12_setWidth1 {g : gG} {M : gM} {Q : Option Value ⊕ String → gM → Prop} (hL : gLay M) {fc : Nat} (hf : mI M 128 1 = nI fc) (hfc : fc < 2) {p : Nat} {q : Int32} (hp : iGlyph (nI p)) (hp2 : p < 256) (K0 : ¬ iIn q (nI 0) (nI 100) → Q (.inl (some (.int (nI 0)))) (sI M 128 0 (nI 2))) (K1 : iIn q (nI 0) (nI 100) → Q (.inl (some (.int (mI M 139 (256 * fc + p))))) (sI (sI M 128 0 (nI 0)) 139 (256 * fc + p) q)) : E g 3 0 0 mX12_setWidth 0 [.ref 129, .int (nI p), .int q, .null] [] M Q := by
  refine E_aload_n dX12_setWidth_0 rfl ?_
  refine E_iload_n dX12_setWidth_1 rfl ?_
  refine E_callS1 (fr' := 2) (k1 := 0) (n1 := 0) (k2 := 0) (n2 := 0) dX12_setWidth_2 kO_X12_isGlyph kL_X12_172 rfl (by decide) (by decide) (by exact Nat.le_of_ble_eq_true rfl) (Or.inl rfl) rfl ?_
  refine sp_X12_isGlyph ?_
  refine gKv ?_
  refine E_if_ne_b (tgt := 12) dX12_setWidth_5 (by decide) (fun c_5 => ?_) (fun c_5 => ?_)
  · refine E_iload_n dX12_setWidth_12 rfl ?_
    refine E_iconst (v := nI 0) dX12_setWidth_13 (by decide) ?_
    refine E_bipush (v := nI 100) dX12_setWidth_14 (by decide) ?_
    refine E_callS3 (fr' := 1) (k1 := 0) (n1 := 0) (k2 := 0) (n2 := 0) dX12_setWidth_16 kO_X12_in kL_X12_162 rfl rfl rfl (by decide) (by decide) (by exact Nat.le_of_ble_eq_true rfl) (Or.inl rfl) rfl ?_
    refine sp_X12_in ?_
    refine gKv ?_
    refine E_if_eq_b (tgt := 26) dX12_setWidth_19 (by decide) (fun c_19 => ?_) (fun c_19 => ?_)
    · refine E_iconst (v := nI 2) dX12_setWidth_26 (by decide) ?_
      refine E_putI dX12_setWidth_27 kF_X12_166 kY_12 (Or.inl rfl) (l_128 hL) (k_128 hL) (Or.inl rfl) ?_
      refine E_aload_n dX12_setWidth_30 rfl ?_
      refine E_getIL (v := nI 2) dX12_setWidth_31 kF_X12_166 kY_12 (Or.inl rfl) (l_128 hL) (k_128 hL) rfl ?_
      refine E_if_le (tgt := 39) dX12_setWidth_34 (by decide) (fun c0 => absurd c0 (by decide)) (fun _ => ?_)
      refine E_iconst (v := nI 0) dX12_setWidth_37 (by decide) ?_
      refine E_iret dX12_setWidth_38 (Or.inl rfl) ?_
      first | exact K0 (by assumption) | exact K1 (by assumption)
    · refine E_iconst (v := nI 0) dX12_setWidth_22 (by decide) ?_
      refine E_goto (tgt := 27) dX12_setWidth_23 (by decide) ?_
      refine E_putI dX12_setWidth_27 kF_X12_166 kY_12 (Or.inl rfl) (l_128 hL) (k_128 hL) (Or.inl rfl) ?_
      refine E_aload_n dX12_setWidth_30 rfl ?_
      refine E_getIL (v := nI 0) dX12_setWidth_31 kF_X12_166 kY_12 (Or.inl rfl) (l_128 hL) (k_128 hL) rfl ?_
      refine E_if_le (tgt := 39) dX12_setWidth_34 (by decide) (fun _ => ?_) (fun c0 => absurd (by decide) c0)
      refine E_aload_n dX12_setWidth_39 rfl ?_
      refine E_getRL dX12_setWidth_40 kF_X12_40 kY_12 (Or.inr ⟨_, rfl⟩) (l_128 hL) (k_128 hL) (r_128_12 hL) ?_
      refine E_sipush (v := nI 256) dX12_setWidth_43 (by decide) ?_
      refine E_aload_n dX12_setWidth_46 rfl ?_
      refine E_getIL (v := nI fc) dX12_setWidth_47 kF_X12_169 kY_12 (Or.inl rfl) (l_128 hL) (k_128 hL) hf ?_
      refine E_imul_n dX12_setWidth_50 ?_
      refine E_iload_n dX12_setWidth_51 rfl ?_
      refine E_iadd_n dX12_setWidth_52 ?_
      refine E_iald dX12_setWidth_53 (l_139 hL) (k_139 hL) rfl (by omega) (by decide) ?_
      refine E_istore_n dX12_setWidth_54 (Nat.le_of_ble_eq_true rfl) (by decide) rfl ?_
      refine E_aload_n dX12_setWidth_55 rfl ?_
      refine E_getRL dX12_setWidth_56 kF_X12_40 kY_12 (Or.inr ⟨_, rfl⟩) (l_128 hL) (k_128 hL) (r_128_12 hL) ?_
      refine E_sipush (v := nI 256) dX12_setWidth_59 (by decide) ?_
      refine E_aload_n dX12_setWidth_62 rfl ?_
      refine E_getIL (v := nI fc) dX12_setWidth_63 kF_X12_169 kY_12 (Or.inl rfl) (l_128 hL) (k_128 hL) hf ?_
      refine E_imul_n dX12_setWidth_66 ?_
      refine E_iload_n dX12_setWidth_67 rfl ?_
      refine E_iadd_n dX12_setWidth_68 ?_
      refine E_iload_n dX12_setWidth_69 rfl ?_
      refine E_iast dX12_setWidth_70 (l_139 hL) (k_139 hL) rfl (by omega) (by decide) ?_
      refine E_iload_n dX12_setWidth_71 rfl ?_
      refine E_iret dX12_setWidth_72 (Or.inl rfl) ?_
      first | exact K0 (by assumption) | exact K1 (by assumption)
  · exact absurd hp c_5
set_option maxRecDepth 100000 in
set_option maxHeartbeats 4000000 in
theorem sp_X12_lack0 {g : gG} {M : gM} {Q : Option Value ⊕ String → gM → Prop} (hL : gLay M) {p : Int32} (hp : ¬ iSign p) (K : Q (.inl (some (.int (nI 0)))) (sI M 128 0 (nI 1))) : E g 3 0 0 mX12_lack 0 [.ref 129, .int p] [] M Q := by
  refine E_aload_n dX12_lack_0 rfl ?_
  refine E_iload_n dX12_lack_1 rfl ?_
  refine E_callS1 (fr' := 2) (k1 := 0) (n1 := 0) (k2 := 0) (n2 := 0) dX12_lack_2 kO_X12_isSign kL_X12_205 rfl (by decide) (by decide) (by exact Nat.le_of_ble_eq_true rfl) (Or.inl rfl) rfl ?_
  refine sp_X12_isSign ?_
  refine gKv ?_
  refine E_if_eq_b (tgt := 12) dX12_lack_5 (by decide) (fun c_5 => ?_) (fun c_5 => ?_)
  · refine E_iconst (v := nI 1) dX12_lack_12 (by decide) ?_
    refine E_putI dX12_lack_13 kF_X12_166 kY_12 (Or.inl rfl) (l_128 hL) (k_128 hL) (Or.inl rfl) ?_
    refine E_aload_n dX12_lack_16 rfl ?_
    refine E_getIL (v := nI 1) dX12_lack_17 kF_X12_166 kY_12 (Or.inl rfl) (l_128 hL) (k_128 hL) rfl ?_
    refine E_if_ne (tgt := 43) dX12_lack_20 (by decide) (fun _ => ?_) (fun c0 => absurd (by decide) c0)
    refine E_aload_n dX12_lack_43 rfl ?_
    refine E_getIL (v := nI 1) dX12_lack_44 kF_X12_166 kY_12 (Or.inl rfl) (l_128 hL) (k_128 hL) rfl ?_
    refine E_if_ne (tgt := 63) dX12_lack_47 (by decide) (fun _ => ?_) (fun c0 => absurd (by decide) c0)
    refine E_iconst (v := nI 0) dX12_lack_63 (by decide) ?_
    refine E_iret dX12_lack_64 (Or.inr ⟨rfl, by decide⟩) ?_
    exact K
  · exact absurd c_5 hp
set_option maxRecDepth 100000 in
set_option maxHeartbeats 4000000 in
theorem sp_X12_lack1 {g : gG} {M : gM} {Q : Option Value ⊕ String → gM → Prop} (hL : gLay M) {p : Nat} (hp : iSign (nI p)) (hp2 : p < 45) (K0 : ¬ mI M 140 p = 0 → Q (.inl (some (.int (nI 0)))) (sI (sI M 128 0 (nI 0)) 140 p (nI 0))) (K1 : mI M 140 p = 0 → Q (.inl (some (.int (nI 1)))) (sI (sI M 128 0 (nI 0)) 140 p (nI 1))) : E g 3 0 0 mX12_lack 0 [.ref 129, .int (nI p)] [] M Q := by
  refine E_aload_n dX12_lack_0 rfl ?_
  refine E_iload_n dX12_lack_1 rfl ?_
  refine E_callS1 (fr' := 2) (k1 := 0) (n1 := 0) (k2 := 0) (n2 := 0) dX12_lack_2 kO_X12_isSign kL_X12_205 rfl (by decide) (by decide) (by exact Nat.le_of_ble_eq_true rfl) (Or.inl rfl) rfl ?_
  refine sp_X12_isSign ?_
  refine gKv ?_
  refine E_if_eq_b (tgt := 12) dX12_lack_5 (by decide) (fun c_5 => ?_) (fun c_5 => ?_)
  · exact absurd hp c_5
  · refine E_iconst (v := nI 0) dX12_lack_8 (by decide) ?_
    refine E_goto (tgt := 13) dX12_lack_9 (by decide) ?_
    refine E_putI dX12_lack_13 kF_X12_166 kY_12 (Or.inl rfl) (l_128 hL) (k_128 hL) (Or.inl rfl) ?_
    refine E_aload_n dX12_lack_16 rfl ?_
    refine E_getIL (v := nI 0) dX12_lack_17 kF_X12_166 kY_12 (Or.inl rfl) (l_128 hL) (k_128 hL) rfl ?_
    refine E_if_ne (tgt := 43) dX12_lack_20 (by decide) (fun c0 => absurd c0 (by decide)) (fun _ => ?_)
    refine E_aload_n dX12_lack_23 rfl ?_
    refine E_getRL dX12_lack_24 kF_X12_43 kY_12 (Or.inr ⟨_, rfl⟩) (l_128 hL) (k_128 hL) (r_128_13 hL) ?_
    refine E_iload_n dX12_lack_27 rfl ?_
    refine E_aload_n dX12_lack_28 rfl ?_
    refine E_getRL dX12_lack_29 kF_X12_43 kY_12 (Or.inr ⟨_, rfl⟩) (l_128 hL) (k_128 hL) (r_128_13 hL) ?_
    refine E_iload_n dX12_lack_32 rfl ?_
    refine E_zald dX12_lack_33 (l_140 hL) (k_140 hL) rfl (by omega) (by decide) ?_
    refine E_if_ne (tgt := 41) dX12_lack_34 (by decide) (fun c_34 => ?_) (fun c_34 => ?_)
    · refine E_iconst (v := nI 0) dX12_lack_41 (by decide) ?_
      refine E_zast dX12_lack_42 (l_140 hL) (k_140 hL) rfl (by omega) (by decide) (by decide) ?_
      refine E_aload_n dX12_lack_43 rfl ?_
      refine E_getIL (v := nI 0) dX12_lack_44 kF_X12_166 kY_12 (Or.inl rfl) (l_128 hL) (k_128 hL) rfl ?_
      refine E_if_ne (tgt := 63) dX12_lack_47 (by decide) (fun c0 => absurd c0 (by decide)) (fun _ => ?_)
      refine E_aload_n dX12_lack_50 rfl ?_
      refine E_getRL dX12_lack_51 kF_X12_43 kY_12 (Or.inr ⟨_, rfl⟩) (l_128 hL) (k_128 hL) (r_128_13 hL) ?_
      refine E_iload_n dX12_lack_54 rfl ?_
      refine E_zald dX12_lack_55 (l_140 hL) (k_140 hL) rfl (by omega) (by decide) ?_
      refine E_if_eq (tgt := 63) dX12_lack_56 (by decide) (fun c_56 => ?_) (fun c_56 => ?_)
      · refine E_iconst (v := nI 0) dX12_lack_63 (by decide) ?_
        refine E_iret dX12_lack_64 (Or.inr ⟨rfl, by decide⟩) ?_
        first | exact K0 (by assumption) | exact K1 (by simpa using ‹_›) | simp_all [mI_sI]
      · refine E_iconst (v := nI 1) dX12_lack_59 (by decide) ?_
        refine E_goto (tgt := 64) dX12_lack_60 (by decide) ?_
        refine E_iret dX12_lack_64 (Or.inr ⟨rfl, by decide⟩) ?_
        first | exact K0 (by assumption) | exact K1 (by simpa using ‹_›) | simp_all [mI_sI]
    · refine E_iconst (v := nI 1) dX12_lack_37 (by decide) ?_
      refine E_goto (tgt := 42) dX12_lack_38 (by decide) ?_
      refine E_zast dX12_lack_42 (l_140 hL) (k_140 hL) rfl (by omega) (by decide) (by decide) ?_
      refine E_aload_n dX12_lack_43 rfl ?_
      refine E_getIL (v := nI 0) dX12_lack_44 kF_X12_166 kY_12 (Or.inl rfl) (l_128 hL) (k_128 hL) rfl ?_
      refine E_if_ne (tgt := 63) dX12_lack_47 (by decide) (fun c0 => absurd c0 (by decide)) (fun _ => ?_)
      refine E_aload_n dX12_lack_50 rfl ?_
      refine E_getRL dX12_lack_51 kF_X12_43 kY_12 (Or.inr ⟨_, rfl⟩) (l_128 hL) (k_128 hL) (r_128_13 hL) ?_
      refine E_iload_n dX12_lack_54 rfl ?_
      refine E_zald dX12_lack_55 (l_140 hL) (k_140 hL) rfl (by omega) (by decide) ?_
      refine E_if_eq (tgt := 63) dX12_lack_56 (by decide) (fun c_56 => ?_) (fun c_56 => ?_)
      · refine E_iconst (v := nI 0) dX12_lack_63 (by decide) ?_
        refine E_iret dX12_lack_64 (Or.inr ⟨rfl, by decide⟩) ?_
        first | exact K0 (by assumption) | exact K1 (by simpa using ‹_›) | simp_all [mI_sI]
      · refine E_iconst (v := nI 1) dX12_lack_59 (by decide) ?_
        refine E_goto (tgt := 64) dX12_lack_60 (by decide) ?_
        refine E_iret dX12_lack_64 (Or.inr ⟨rfl, by decide⟩) ?_
        first | exact K0 (by assumption) | exact K1 (by simpa using ‹_›) | simp_all [mI_sI]
