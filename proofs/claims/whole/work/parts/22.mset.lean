/-! the reference: what tells -/
set_option maxRecDepth 100000 in
set_option maxHeartbeats 4000000 in
theorem sp_X12_useFace {g : gG} {M : gM} {Q : Option Value ⊕ String → gM → Prop} (hL : gLay M) {fc : Nat} (hf : mI M 128 1 = nI fc) (hfc : fc < 2) {p : Int32} (K1 : iIn p (nI 0) (nI 1) → Q (.inl (some (.int (nI fc)))) (sI (sI M 128 0 (nI 0)) 128 1 p)) (K0 : ¬ iIn p (nI 0) (nI 1) → Q (.inl (some (.int (nI 0)))) (sI M 128 0 (nI 1))) : E g 2 0 0 mX12_useFace 0 [.ref 129, .int p, .null] [] M Q := by
  refine E_aload_n dX12_useFace_0 rfl ?_
  refine E_iload_n dX12_useFace_1 rfl ?_
  refine E_iconst (v := nI 0) dX12_useFace_2 (by decide) ?_
  refine E_iconst (v := nI 1) dX12_useFace_3 (by decide) ?_
  refine E_callS3 (fr' := 1) (k1 := 0) (n1 := 0) (k2 := 0) (n2 := 0) dX12_useFace_4 kO_X12_in kL_X12_162 rfl rfl rfl (by decide) (by decide) (by decide) (Or.inl rfl) rfl ?_
  refine sp_X12_in ?_
  refine gKv ?_
  refine E_if_eq_b (tgt := 14) dX12_useFace_7 (by decide) (fun c_7 => ?_) (fun c_7 => ?_)
  · refine E_iconst (v := nI 1) dX12_useFace_14 (by decide) ?_
    refine E_putI dX12_useFace_15 kF_X12_166 kY_12 (Or.inl rfl) (l_128 hL) (k_128 hL) (Or.inl rfl) ?_
    refine E_aload_n dX12_useFace_18 rfl ?_
    refine E_getIL (v := nI 1) dX12_useFace_19 kF_X12_166 kY_12 (Or.inl rfl) (l_128 hL) (k_128 hL) rfl ?_
    refine E_if_le (tgt := 27) dX12_useFace_22 (by decide) (fun c0 => absurd c0 (by decide)) (fun _ => ?_)
    refine E_iconst (v := nI 0) dX12_useFace_25 (by decide) ?_
    refine E_iret dX12_useFace_26 (Or.inl rfl) ?_
    first | exact K1 (by assumption) | exact K0 (by assumption)
  · refine E_iconst (v := nI 0) dX12_useFace_10 (by decide) ?_
    refine E_goto (tgt := 15) dX12_useFace_11 (by decide) ?_
    refine E_putI dX12_useFace_15 kF_X12_166 kY_12 (Or.inl rfl) (l_128 hL) (k_128 hL) (Or.inl rfl) ?_
    refine E_aload_n dX12_useFace_18 rfl ?_
    refine E_getIL (v := nI 0) dX12_useFace_19 kF_X12_166 kY_12 (Or.inl rfl) (l_128 hL) (k_128 hL) rfl ?_
    refine E_if_le (tgt := 27) dX12_useFace_22 (by decide) (fun _ => ?_) (fun c0 => absurd (by decide) c0)
    refine E_aload_n dX12_useFace_27 rfl ?_
    refine E_getIL (v := nI fc) dX12_useFace_28 kF_X12_169 kY_12 (Or.inl rfl) (l_128 hL) (k_128 hL) hf ?_
    refine E_istore_n dX12_useFace_31 (Nat.le_of_ble_eq_true rfl) (by decide) rfl ?_
    refine E_aload_n dX12_useFace_32 rfl ?_
    refine E_iload_n dX12_useFace_33 rfl ?_
    refine E_putI dX12_useFace_34 kF_X12_169 kY_12 (Or.inl rfl) (l_128 hL) (k_128 hL) (Or.inl rfl) ?_
    refine E_iload_n dX12_useFace_37 rfl ?_
    refine E_iret dX12_useFace_38 (Or.inl rfl) ?_
    first | exact K1 (by assumption) | exact K0 (by assumption)
/-- a lookup more -/
def uLookup (M : gM) (fc cnt : Nat) (p1 p2 p3 p4 p5 : Int32) : gM := sI (sI (sI (sI (sI (sI (sI (sI M 128 0 (nI 0)) 130 (12 * fc + cnt) p1) 131 (12 * fc + cnt) p2) 132 (12 * fc + cnt) p3) 133 (12 * fc + cnt) p4) 134 (12 * fc + cnt) p5) 135 (12 * fc + cnt) (nI 0)) 129 fc (nI (cnt + 1))
abbrev iLk1 (p1 p2 : Int32) : Prop := iIn p1 (nI 0) (nI 9) ∧ iIn p2 (nI 0) (nI 6)
abbrev iLk2 (p3 p4 p5 : Int32) : Prop := iIn p3 (nI 0) (nI 1) ∧ iIn p4 (nI 0) (nI 2) ∧ iIn p5 (nI 0) (nI 5)
set_option maxRecDepth 100000 in
set_option maxHeartbeats 4000000 in
theorem sp_X12_lookup {g : gG} {M : gM} {Q : Option Value ⊕ String → gM → Prop} (hL : gLay M) {fc : Nat} (hf : mI M 128 1 = nI fc) (hfc : fc < 2) {cnt : Nat} (hc : mI M 129 fc = nI cnt) (hcl : cnt ≤ 12) {p1 p2 p3 p4 p5 : Int32} (K1 : ¬ iLk1 p1 p2 → Q (.inl (some (.int (nI 0)))) (sI M 128 0 (nI 1))) (K2 : iLk1 p1 p2 → ¬ iLk2 p3 p4 p5 → Q (.inl (some (.int (nI 0)))) (sI M 128 0 (nI 2))) (K3 : iLk1 p1 p2 → iLk2 p3 p4 p5 → cnt = 12 → Q (.inl (some (.int (nI 0)))) (sI M 128 0 (nI 3))) (K0 : iLk1 p1 p2 → iLk2 p3 p4 p5 → cnt < 12 → Q (.inl (some (.int (nI cnt)))) (uLookup M fc cnt p1 p2 p3 p4 p5)) : E g 2 0 0 mX12_lookup 0 [.ref 129, .int p1, .int p2, .int p3, .int p4, .int p5, .null, .null] [] M Q := by
  refine E_iload_n dX12_lookup_0 rfl ?_
  refine E_iconst (v := nI 0) dX12_lookup_1 (by decide) ?_
  refine E_iconst (v := nI 1) dX12_lookup_2 (by decide) ?_
  refine E_callS3 (fr' := 1) (k1 := 0) (n1 := 0) (k2 := 0) (n2 := 0) dX12_lookup_3 kO_X12_in kL_X12_162 rfl rfl rfl (by decide) (by decide) (by decide) (Or.inl rfl) rfl ?_
  refine sp_X12_in ?_
  refine gKv ?_
  refine E_if_eq_b (tgt := 33) dX12_lookup_6 (by decide) (fun c_6 => ?_) (fun c_6 => ?_)
  · refine E_iconst (v := nI 0) dX12_lookup_33 (by decide) ?_
    refine E_istore dX12_lookup_34 (Nat.le_of_ble_eq_true rfl) (by decide) rfl ?_
    refine E_aload_n dX12_lookup_36 rfl ?_
    refine E_iload_n dX12_lookup_37 rfl ?_
    refine E_iconst (v := nI 0) dX12_lookup_38 (by decide) ?_
    refine E_bipush (v := nI 9) dX12_lookup_39 (by decide) ?_
    refine E_callS3 (fr' := 1) (k1 := 0) (n1 := 0) (k2 := 0) (n2 := 0) dX12_lookup_41 kO_X12_in kL_X12_162 rfl rfl rfl (by decide) (by decide) (by decide) (Or.inl rfl) rfl ?_
    refine sp_X12_in ?_
    refine gKv ?_
    refine E_if_eq_b (tgt := 57) dX12_lookup_44 (by decide) (fun c_44 => ?_) (fun c_44 => ?_)
    · refine E_iconst (v := nI 1) dX12_lookup_57 (by decide) ?_
      refine E_goto (tgt := 89) dX12_lookup_58 (by decide) ?_
      refine E_putI dX12_lookup_89 kF_X12_166 kY_12 (Or.inl rfl) (l_128 hL) (k_128 hL) (Or.inl rfl) ?_
      refine E_aload_n dX12_lookup_92 rfl ?_
      refine E_getIL (v := nI 1) dX12_lookup_93 kF_X12_166 kY_12 (Or.inl rfl) (l_128 hL) (k_128 hL) rfl ?_
      refine E_if_le (tgt := 101) dX12_lookup_96 (by decide) (fun c0 => absurd c0 (by decide)) (fun _ => ?_)
      refine E_iconst (v := nI 0) dX12_lookup_99 (by decide) ?_
      refine E_iret dX12_lookup_100 (Or.inl rfl) ?_
      first
        | exact K1 (by grind)
        | exact K2 (by grind) (by grind)
        | exact K3 (by grind) (by grind) (by omega)
        | exact K0 (by grind) (by grind) (by omega)
    · refine E_iload_n dX12_lookup_47 rfl ?_
      refine E_iconst (v := nI 0) dX12_lookup_48 (by decide) ?_
      refine E_bipush (v := nI 6) dX12_lookup_49 (by decide) ?_
      refine E_callS3 (fr' := 1) (k1 := 0) (n1 := 0) (k2 := 0) (n2 := 0) dX12_lookup_51 kO_X12_in kL_X12_162 rfl rfl rfl (by decide) (by decide) (by decide) (Or.inl rfl) rfl ?_
      refine sp_X12_in ?_
      refine gKv ?_
      refine E_if_ne_b (tgt := 61) dX12_lookup_54 (by decide) (fun c_54 => ?_) (fun c_54 => ?_)
      · refine E_iload dX12_lookup_61 rfl ?_
        refine E_if_ne (tgt := 70) dX12_lookup_63 (by decide) (fun c0 => absurd c0 (by decide)) (fun _ => ?_)
        refine E_iconst (v := nI 2) dX12_lookup_66 (by decide) ?_
        refine E_goto (tgt := 89) dX12_lookup_67 (by decide) ?_
        refine E_putI dX12_lookup_89 kF_X12_166 kY_12 (Or.inl rfl) (l_128 hL) (k_128 hL) (Or.inl rfl) ?_
        refine E_aload_n dX12_lookup_92 rfl ?_
        refine E_getIL (v := nI 2) dX12_lookup_93 kF_X12_166 kY_12 (Or.inl rfl) (l_128 hL) (k_128 hL) rfl ?_
        refine E_if_le (tgt := 101) dX12_lookup_96 (by decide) (fun c0 => absurd c0 (by decide)) (fun _ => ?_)
        refine E_iconst (v := nI 0) dX12_lookup_99 (by decide) ?_
        refine E_iret dX12_lookup_100 (Or.inl rfl) ?_
        first
          | exact K1 (by grind)
          | exact K2 (by grind) (by grind)
          | exact K3 (by grind) (by grind) (by omega)
          | exact K0 (by grind) (by grind) (by omega)
      · refine E_iconst (v := nI 1) dX12_lookup_57 (by decide) ?_
        refine E_goto (tgt := 89) dX12_lookup_58 (by decide) ?_
        refine E_putI dX12_lookup_89 kF_X12_166 kY_12 (Or.inl rfl) (l_128 hL) (k_128 hL) (Or.inl rfl) ?_
        refine E_aload_n dX12_lookup_92 rfl ?_
        refine E_getIL (v := nI 1) dX12_lookup_93 kF_X12_166 kY_12 (Or.inl rfl) (l_128 hL) (k_128 hL) rfl ?_
        refine E_if_le (tgt := 101) dX12_lookup_96 (by decide) (fun c0 => absurd c0 (by decide)) (fun _ => ?_)
        refine E_iconst (v := nI 0) dX12_lookup_99 (by decide) ?_
        refine E_iret dX12_lookup_100 (Or.inl rfl) ?_
        first
          | exact K1 (by grind)
          | exact K2 (by grind) (by grind)
          | exact K3 (by grind) (by grind) (by omega)
          | exact K0 (by grind) (by grind) (by omega)
  · refine E_iload dX12_lookup_9 rfl ?_
    refine E_iconst (v := nI 0) dX12_lookup_11 (by decide) ?_
    refine E_iconst (v := nI 2) dX12_lookup_12 (by decide) ?_
    refine E_callS3 (fr' := 1) (k1 := 0) (n1 := 0) (k2 := 0) (n2 := 0) dX12_lookup_13 kO_X12_in kL_X12_162 rfl rfl rfl (by decide) (by decide) (by decide) (Or.inl rfl) rfl ?_
    refine sp_X12_in ?_
    refine gKv ?_
    refine E_if_eq_b (tgt := 33) dX12_lookup_16 (by decide) (fun c_16 => ?_) (fun c_16 => ?_)
    · refine E_iconst (v := nI 0) dX12_lookup_33 (by decide) ?_
      refine E_istore dX12_lookup_34 (Nat.le_of_ble_eq_true rfl) (by decide) rfl ?_
      refine E_aload_n dX12_lookup_36 rfl ?_
      refine E_iload_n dX12_lookup_37 rfl ?_
      refine E_iconst (v := nI 0) dX12_lookup_38 (by decide) ?_
      refine E_bipush (v := nI 9) dX12_lookup_39 (by decide) ?_
      refine E_callS3 (fr' := 1) (k1 := 0) (n1 := 0) (k2 := 0) (n2 := 0) dX12_lookup_41 kO_X12_in kL_X12_162 rfl rfl rfl (by decide) (by decide) (by decide) (Or.inl rfl) rfl ?_
      refine sp_X12_in ?_
      refine gKv ?_
      refine E_if_eq_b (tgt := 57) dX12_lookup_44 (by decide) (fun c_44 => ?_) (fun c_44 => ?_)
      · refine E_iconst (v := nI 1) dX12_lookup_57 (by decide) ?_
        refine E_goto (tgt := 89) dX12_lookup_58 (by decide) ?_
        refine E_putI dX12_lookup_89 kF_X12_166 kY_12 (Or.inl rfl) (l_128 hL) (k_128 hL) (Or.inl rfl) ?_
        refine E_aload_n dX12_lookup_92 rfl ?_
        refine E_getIL (v := nI 1) dX12_lookup_93 kF_X12_166 kY_12 (Or.inl rfl) (l_128 hL) (k_128 hL) rfl ?_
        refine E_if_le (tgt := 101) dX12_lookup_96 (by decide) (fun c0 => absurd c0 (by decide)) (fun _ => ?_)
        refine E_iconst (v := nI 0) dX12_lookup_99 (by decide) ?_
        refine E_iret dX12_lookup_100 (Or.inl rfl) ?_
        first
          | exact K1 (by grind)
          | exact K2 (by grind) (by grind)
          | exact K3 (by grind) (by grind) (by omega)
          | exact K0 (by grind) (by grind) (by omega)
      · refine E_iload_n dX12_lookup_47 rfl ?_
        refine E_iconst (v := nI 0) dX12_lookup_48 (by decide) ?_
        refine E_bipush (v := nI 6) dX12_lookup_49 (by decide) ?_
        refine E_callS3 (fr' := 1) (k1 := 0) (n1 := 0) (k2 := 0) (n2 := 0) dX12_lookup_51 kO_X12_in kL_X12_162 rfl rfl rfl (by decide) (by decide) (by decide) (Or.inl rfl) rfl ?_
        refine sp_X12_in ?_
        refine gKv ?_
        refine E_if_ne_b (tgt := 61) dX12_lookup_54 (by decide) (fun c_54 => ?_) (fun c_54 => ?_)
        · refine E_iload dX12_lookup_61 rfl ?_
          refine E_if_ne (tgt := 70) dX12_lookup_63 (by decide) (fun c0 => absurd c0 (by decide)) (fun _ => ?_)
          refine E_iconst (v := nI 2) dX12_lookup_66 (by decide) ?_
          refine E_goto (tgt := 89) dX12_lookup_67 (by decide) ?_
          refine E_putI dX12_lookup_89 kF_X12_166 kY_12 (Or.inl rfl) (l_128 hL) (k_128 hL) (Or.inl rfl) ?_
          refine E_aload_n dX12_lookup_92 rfl ?_
          refine E_getIL (v := nI 2) dX12_lookup_93 kF_X12_166 kY_12 (Or.inl rfl) (l_128 hL) (k_128 hL) rfl ?_
          refine E_if_le (tgt := 101) dX12_lookup_96 (by decide) (fun c0 => absurd c0 (by decide)) (fun _ => ?_)
          refine E_iconst (v := nI 0) dX12_lookup_99 (by decide) ?_
          refine E_iret dX12_lookup_100 (Or.inl rfl) ?_
          first
            | exact K1 (by grind)
            | exact K2 (by grind) (by grind)
            | exact K3 (by grind) (by grind) (by omega)
            | exact K0 (by grind) (by grind) (by omega)
        · refine E_iconst (v := nI 1) dX12_lookup_57 (by decide) ?_
          refine E_goto (tgt := 89) dX12_lookup_58 (by decide) ?_
          refine E_putI dX12_lookup_89 kF_X12_166 kY_12 (Or.inl rfl) (l_128 hL) (k_128 hL) (Or.inl rfl) ?_
          refine E_aload_n dX12_lookup_92 rfl ?_
          refine E_getIL (v := nI 1) dX12_lookup_93 kF_X12_166 kY_12 (Or.inl rfl) (l_128 hL) (k_128 hL) rfl ?_
          refine E_if_le (tgt := 101) dX12_lookup_96 (by decide) (fun c0 => absurd c0 (by decide)) (fun _ => ?_)
          refine E_iconst (v := nI 0) dX12_lookup_99 (by decide) ?_
          refine E_iret dX12_lookup_100 (Or.inl rfl) ?_
          first
            | exact K1 (by grind)
            | exact K2 (by grind) (by grind)
            | exact K3 (by grind) (by grind) (by omega)
            | exact K0 (by grind) (by grind) (by omega)
    · refine E_iload dX12_lookup_19 rfl ?_
      refine E_iconst (v := nI 0) dX12_lookup_21 (by decide) ?_
      refine E_iconst (v := nI 5) dX12_lookup_22 (by decide) ?_
      refine E_callS3 (fr' := 1) (k1 := 0) (n1 := 0) (k2 := 0) (n2 := 0) dX12_lookup_23 kO_X12_in kL_X12_162 rfl rfl rfl (by decide) (by decide) (by decide) (Or.inl rfl) rfl ?_
      refine sp_X12_in ?_
      refine gKv ?_
      refine E_if_eq_b (tgt := 33) dX12_lookup_26 (by decide) (fun c_26 => ?_) (fun c_26 => ?_)
      · refine E_iconst (v := nI 0) dX12_lookup_33 (by decide) ?_
        refine E_istore dX12_lookup_34 (Nat.le_of_ble_eq_true rfl) (by decide) rfl ?_
        refine E_aload_n dX12_lookup_36 rfl ?_
        refine E_iload_n dX12_lookup_37 rfl ?_
        refine E_iconst (v := nI 0) dX12_lookup_38 (by decide) ?_
        refine E_bipush (v := nI 9) dX12_lookup_39 (by decide) ?_
        refine E_callS3 (fr' := 1) (k1 := 0) (n1 := 0) (k2 := 0) (n2 := 0) dX12_lookup_41 kO_X12_in kL_X12_162 rfl rfl rfl (by decide) (by decide) (by decide) (Or.inl rfl) rfl ?_
        refine sp_X12_in ?_
        refine gKv ?_
        refine E_if_eq_b (tgt := 57) dX12_lookup_44 (by decide) (fun c_44 => ?_) (fun c_44 => ?_)
        · refine E_iconst (v := nI 1) dX12_lookup_57 (by decide) ?_
          refine E_goto (tgt := 89) dX12_lookup_58 (by decide) ?_
          refine E_putI dX12_lookup_89 kF_X12_166 kY_12 (Or.inl rfl) (l_128 hL) (k_128 hL) (Or.inl rfl) ?_
          refine E_aload_n dX12_lookup_92 rfl ?_
          refine E_getIL (v := nI 1) dX12_lookup_93 kF_X12_166 kY_12 (Or.inl rfl) (l_128 hL) (k_128 hL) rfl ?_
          refine E_if_le (tgt := 101) dX12_lookup_96 (by decide) (fun c0 => absurd c0 (by decide)) (fun _ => ?_)
          refine E_iconst (v := nI 0) dX12_lookup_99 (by decide) ?_
          refine E_iret dX12_lookup_100 (Or.inl rfl) ?_
          first
            | exact K1 (by grind)
            | exact K2 (by grind) (by grind)
            | exact K3 (by grind) (by grind) (by omega)
            | exact K0 (by grind) (by grind) (by omega)
        · refine E_iload_n dX12_lookup_47 rfl ?_
          refine E_iconst (v := nI 0) dX12_lookup_48 (by decide) ?_
          refine E_bipush (v := nI 6) dX12_lookup_49 (by decide) ?_
          refine E_callS3 (fr' := 1) (k1 := 0) (n1 := 0) (k2 := 0) (n2 := 0) dX12_lookup_51 kO_X12_in kL_X12_162 rfl rfl rfl (by decide) (by decide) (by decide) (Or.inl rfl) rfl ?_
          refine sp_X12_in ?_
          refine gKv ?_
          refine E_if_ne_b (tgt := 61) dX12_lookup_54 (by decide) (fun c_54 => ?_) (fun c_54 => ?_)
          · refine E_iload dX12_lookup_61 rfl ?_
            refine E_if_ne (tgt := 70) dX12_lookup_63 (by decide) (fun c0 => absurd c0 (by decide)) (fun _ => ?_)
            refine E_iconst (v := nI 2) dX12_lookup_66 (by decide) ?_
            refine E_goto (tgt := 89) dX12_lookup_67 (by decide) ?_
            refine E_putI dX12_lookup_89 kF_X12_166 kY_12 (Or.inl rfl) (l_128 hL) (k_128 hL) (Or.inl rfl) ?_
            refine E_aload_n dX12_lookup_92 rfl ?_
            refine E_getIL (v := nI 2) dX12_lookup_93 kF_X12_166 kY_12 (Or.inl rfl) (l_128 hL) (k_128 hL) rfl ?_
            refine E_if_le (tgt := 101) dX12_lookup_96 (by decide) (fun c0 => absurd c0 (by decide)) (fun _ => ?_)
            refine E_iconst (v := nI 0) dX12_lookup_99 (by decide) ?_
            refine E_iret dX12_lookup_100 (Or.inl rfl) ?_
            first
              | exact K1 (by grind)
              | exact K2 (by grind) (by grind)
              | exact K3 (by grind) (by grind) (by omega)
              | exact K0 (by grind) (by grind) (by omega)
          · refine E_iconst (v := nI 1) dX12_lookup_57 (by decide) ?_
            refine E_goto (tgt := 89) dX12_lookup_58 (by decide) ?_
            refine E_putI dX12_lookup_89 kF_X12_166 kY_12 (Or.inl rfl) (l_128 hL) (k_128 hL) (Or.inl rfl) ?_
            refine E_aload_n dX12_lookup_92 rfl ?_
            refine E_getIL (v := nI 1) dX12_lookup_93 kF_X12_166 kY_12 (Or.inl rfl) (l_128 hL) (k_128 hL) rfl ?_
            refine E_if_le (tgt := 101) dX12_lookup_96 (by decide) (fun c0 => absurd c0 (by decide)) (fun _ => ?_)
            refine E_iconst (v := nI 0) dX12_lookup_99 (by decide) ?_
            refine E_iret dX12_lookup_100 (Or.inl rfl) ?_
            first
              | exact K1 (by grind)
              | exact K2 (by grind) (by grind)
              | exact K3 (by grind) (by grind) (by omega)
              | exact K0 (by grind) (by grind) (by omega)
      · refine E_iconst (v := nI 1) dX12_lookup_29 (by decide) ?_
        refine E_goto (tgt := 34) dX12_lookup_30 (by decide) ?_
        refine E_istore dX12_lookup_34 (Nat.le_of_ble_eq_true rfl) (by decide) rfl ?_
        refine E_aload_n dX12_lookup_36 rfl ?_
        refine E_iload_n dX12_lookup_37 rfl ?_
        refine E_iconst (v := nI 0) dX12_lookup_38 (by decide) ?_
        refine E_bipush (v := nI 9) dX12_lookup_39 (by decide) ?_
        refine E_callS3 (fr' := 1) (k1 := 0) (n1 := 0) (k2 := 0) (n2 := 0) dX12_lookup_41 kO_X12_in kL_X12_162 rfl rfl rfl (by decide) (by decide) (by decide) (Or.inl rfl) rfl ?_
        refine sp_X12_in ?_
        refine gKv ?_
        refine E_if_eq_b (tgt := 57) dX12_lookup_44 (by decide) (fun c_44 => ?_) (fun c_44 => ?_)
        · refine E_iconst (v := nI 1) dX12_lookup_57 (by decide) ?_
          refine E_goto (tgt := 89) dX12_lookup_58 (by decide) ?_
          refine E_putI dX12_lookup_89 kF_X12_166 kY_12 (Or.inl rfl) (l_128 hL) (k_128 hL) (Or.inl rfl) ?_
          refine E_aload_n dX12_lookup_92 rfl ?_
          refine E_getIL (v := nI 1) dX12_lookup_93 kF_X12_166 kY_12 (Or.inl rfl) (l_128 hL) (k_128 hL) rfl ?_
          refine E_if_le (tgt := 101) dX12_lookup_96 (by decide) (fun c0 => absurd c0 (by decide)) (fun _ => ?_)
          refine E_iconst (v := nI 0) dX12_lookup_99 (by decide) ?_
          refine E_iret dX12_lookup_100 (Or.inl rfl) ?_
          first
            | exact K1 (by grind)
            | exact K2 (by grind) (by grind)
            | exact K3 (by grind) (by grind) (by omega)
            | exact K0 (by grind) (by grind) (by omega)
        · refine E_iload_n dX12_lookup_47 rfl ?_
          refine E_iconst (v := nI 0) dX12_lookup_48 (by decide) ?_
          refine E_bipush (v := nI 6) dX12_lookup_49 (by decide) ?_
          refine E_callS3 (fr' := 1) (k1 := 0) (n1 := 0) (k2 := 0) (n2 := 0) dX12_lookup_51 kO_X12_in kL_X12_162 rfl rfl rfl (by decide) (by decide) (by decide) (Or.inl rfl) rfl ?_
          refine sp_X12_in ?_
          refine gKv ?_
          refine E_if_ne_b (tgt := 61) dX12_lookup_54 (by decide) (fun c_54 => ?_) (fun c_54 => ?_)
          · refine E_iload dX12_lookup_61 rfl ?_
            refine E_if_ne (tgt := 70) dX12_lookup_63 (by decide) (fun _ => ?_) (fun c0 => absurd (by decide) c0)
            refine E_aload_n dX12_lookup_70 rfl ?_
            refine E_getRL dX12_lookup_71 kF_X12_7 kY_12 (Or.inr ⟨_, rfl⟩) (l_128 hL) (k_128 hL) (r_128_2 hL) ?_
            refine E_aload_n dX12_lookup_74 rfl ?_
            refine E_getIL (v := nI fc) dX12_lookup_75 kF_X12_169 kY_12 (Or.inl rfl) (l_128 hL) (k_128 hL) hf ?_
            refine E_ialdL (v := nI cnt) dX12_lookup_78 (l_129 hL) (k_129 hL) rfl (by omega) (by decide) hc ?_
            refine E_bipush (v := nI 12) dX12_lookup_79 (by decide) ?_
            refine E_icmp_ne_n (tgt := 88) dX12_lookup_81 (by decide) (by omega) (by omega) (fun c_81 => ?_) (fun c_81 => ?_)
            · refine E_iconst (v := nI 0) dX12_lookup_88 (by decide) ?_
              refine E_putI dX12_lookup_89 kF_X12_166 kY_12 (Or.inl rfl) (l_128 hL) (k_128 hL) (Or.inl rfl) ?_
              refine E_aload_n dX12_lookup_92 rfl ?_
              refine E_getIL (v := nI 0) dX12_lookup_93 kF_X12_166 kY_12 (Or.inl rfl) (l_128 hL) (k_128 hL) rfl ?_
              refine E_if_le (tgt := 101) dX12_lookup_96 (by decide) (fun _ => ?_) (fun c0 => absurd (by decide) c0)
              refine E_bipush (v := nI 12) dX12_lookup_101 (by decide) ?_
              refine E_aload_n dX12_lookup_103 rfl ?_
              refine E_getIL (v := nI fc) dX12_lookup_104 kF_X12_169 kY_12 (Or.inl rfl) (l_128 hL) (k_128 hL) hf ?_
              refine E_imul_n dX12_lookup_107 ?_
              refine E_aload_n dX12_lookup_108 rfl ?_
              refine E_getRL dX12_lookup_109 kF_X12_7 kY_12 (Or.inr ⟨_, rfl⟩) (l_128 hL) (k_128 hL) (r_128_2 hL) ?_
              refine E_aload_n dX12_lookup_112 rfl ?_
              refine E_getIL (v := nI fc) dX12_lookup_113 kF_X12_169 kY_12 (Or.inl rfl) (l_128 hL) (k_128 hL) hf ?_
              refine E_ialdL (v := nI cnt) dX12_lookup_116 (l_129 hL) (k_129 hL) rfl (by omega) (by decide) hc ?_
              refine E_iadd_n dX12_lookup_117 ?_
              refine E_istore dX12_lookup_118 (Nat.le_of_ble_eq_true rfl) (by decide) rfl ?_
              refine E_aload_n dX12_lookup_120 rfl ?_
              refine E_getRL dX12_lookup_121 kF_X12_13 kY_12 (Or.inr ⟨_, rfl⟩) (l_128 hL) (k_128 hL) (r_128_3 hL) ?_
              refine E_iload dX12_lookup_124 rfl ?_
              refine E_iload_n dX12_lookup_126 rfl ?_
              refine E_iast dX12_lookup_127 (l_130 hL) (k_130 hL) rfl (by omega) (by decide) ?_
              refine E_aload_n dX12_lookup_128 rfl ?_
              refine E_getRL dX12_lookup_129 kF_X12_16 kY_12 (Or.inr ⟨_, rfl⟩) (l_128 hL) (k_128 hL) (r_128_4 hL) ?_
              refine E_iload dX12_lookup_132 rfl ?_
              refine E_iload_n dX12_lookup_134 rfl ?_
              refine E_iast dX12_lookup_135 (l_131 hL) (k_131 hL) rfl (by omega) (by decide) ?_
              refine E_aload_n dX12_lookup_136 rfl ?_
              refine E_getRL dX12_lookup_137 kF_X12_19 kY_12 (Or.inr ⟨_, rfl⟩) (l_128 hL) (k_128 hL) (r_128_5 hL) ?_
              refine E_iload dX12_lookup_140 rfl ?_
              refine E_iload_n dX12_lookup_142 rfl ?_
              refine E_iast dX12_lookup_143 (l_132 hL) (k_132 hL) rfl (by omega) (by decide) ?_
              refine E_aload_n dX12_lookup_144 rfl ?_
              refine E_getRL dX12_lookup_145 kF_X12_22 kY_12 (Or.inr ⟨_, rfl⟩) (l_128 hL) (k_128 hL) (r_128_6 hL) ?_
              refine E_iload dX12_lookup_148 rfl ?_
              refine E_iload dX12_lookup_150 rfl ?_
              refine E_iast dX12_lookup_152 (l_133 hL) (k_133 hL) rfl (by omega) (by decide) ?_
              refine E_aload_n dX12_lookup_153 rfl ?_
              refine E_getRL dX12_lookup_154 kF_X12_25 kY_12 (Or.inr ⟨_, rfl⟩) (l_128 hL) (k_128 hL) (r_128_7 hL) ?_
              refine E_iload dX12_lookup_157 rfl ?_
              refine E_iload dX12_lookup_159 rfl ?_
              refine E_iast dX12_lookup_161 (l_134 hL) (k_134 hL) rfl (by omega) (by decide) ?_
              refine E_aload_n dX12_lookup_162 rfl ?_
              refine E_getRL dX12_lookup_163 kF_X12_28 kY_12 (Or.inr ⟨_, rfl⟩) (l_128 hL) (k_128 hL) (r_128_8 hL) ?_
              refine E_iload dX12_lookup_166 rfl ?_
              refine E_iconst (v := nI 0) dX12_lookup_168 (by decide) ?_
              refine E_iast dX12_lookup_169 (l_135 hL) (k_135 hL) rfl (by omega) (by decide) ?_
              refine E_aload_n dX12_lookup_170 rfl ?_
              refine E_getRL dX12_lookup_171 kF_X12_7 kY_12 (Or.inr ⟨_, rfl⟩) (l_128 hL) (k_128 hL) (r_128_2 hL) ?_
              refine E_aload_n dX12_lookup_174 rfl ?_
              refine E_getIL (v := nI fc) dX12_lookup_175 kF_X12_169 kY_12 (Or.inl rfl) (l_128 hL) (k_128 hL) hf ?_
              refine E_dup2 dX12_lookup_178 rfl rfl ?_
              refine E_ialdL (v := nI cnt) dX12_lookup_179 (l_129 hL) (k_129 hL) rfl (by omega) (by decide) hc ?_
              refine E_iconst (v := nI 1) dX12_lookup_180 (by decide) ?_
              refine E_iadd_n dX12_lookup_181 ?_
              refine E_iast dX12_lookup_182 (l_129 hL) (k_129 hL) rfl (by omega) (by decide) ?_
              refine E_aload_n dX12_lookup_183 rfl ?_
              refine E_getRL dX12_lookup_184 kF_X12_7 kY_12 (Or.inr ⟨_, rfl⟩) (l_128 hL) (k_128 hL) (r_128_2 hL) ?_
              refine E_aload_n dX12_lookup_187 rfl ?_
              refine E_getIL (v := nI fc) dX12_lookup_188 kF_X12_169 kY_12 (Or.inl rfl) (l_128 hL) (k_128 hL) hf ?_
              refine E_ialdL (v := nI (cnt + 1)) dX12_lookup_191 (l_129 hL) (k_129 hL) rfl (by omega) (by decide) (by simp [mI_sI]) ?_
              refine E_iconst (v := nI 1) dX12_lookup_192 (by decide) ?_
              refine E_isub_n dX12_lookup_193 (by omega) ?_
              refine E_iret dX12_lookup_194 (Or.inl rfl) ?_
              first
                | exact K1 (by grind)
                | exact K2 (by grind) (by grind)
                | exact K3 (by grind) (by grind) (by omega)
                | exact K0 (by grind) (by grind) (by omega)
            · refine E_iconst (v := nI 3) dX12_lookup_84 (by decide) ?_
              refine E_goto (tgt := 89) dX12_lookup_85 (by decide) ?_
              refine E_putI dX12_lookup_89 kF_X12_166 kY_12 (Or.inl rfl) (l_128 hL) (k_128 hL) (Or.inl rfl) ?_
              refine E_aload_n dX12_lookup_92 rfl ?_
              refine E_getIL (v := nI 3) dX12_lookup_93 kF_X12_166 kY_12 (Or.inl rfl) (l_128 hL) (k_128 hL) rfl ?_
              refine E_if_le (tgt := 101) dX12_lookup_96 (by decide) (fun c0 => absurd c0 (by decide)) (fun _ => ?_)
              refine E_iconst (v := nI 0) dX12_lookup_99 (by decide) ?_
              refine E_iret dX12_lookup_100 (Or.inl rfl) ?_
              first
                | exact K1 (by grind)
                | exact K2 (by grind) (by grind)
                | exact K3 (by grind) (by grind) (by omega)
                | exact K0 (by grind) (by grind) (by omega)
          · refine E_iconst (v := nI 1) dX12_lookup_57 (by decide) ?_
            refine E_goto (tgt := 89) dX12_lookup_58 (by decide) ?_
            refine E_putI dX12_lookup_89 kF_X12_166 kY_12 (Or.inl rfl) (l_128 hL) (k_128 hL) (Or.inl rfl) ?_
            refine E_aload_n dX12_lookup_92 rfl ?_
            refine E_getIL (v := nI 1) dX12_lookup_93 kF_X12_166 kY_12 (Or.inl rfl) (l_128 hL) (k_128 hL) rfl ?_
            refine E_if_le (tgt := 101) dX12_lookup_96 (by decide) (fun c0 => absurd c0 (by decide)) (fun _ => ?_)
            refine E_iconst (v := nI 0) dX12_lookup_99 (by decide) ?_
            refine E_iret dX12_lookup_100 (Or.inl rfl) ?_
            first
              | exact K1 (by grind)
              | exact K2 (by grind) (by grind)
              | exact K3 (by grind) (by grind) (by omega)
              | exact K0 (by grind) (by grind) (by omega)
