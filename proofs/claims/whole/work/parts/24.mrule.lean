/-! the reference: rule, isOf, begins -/
abbrev iRl (kd : Nat) (a b c d e f : Int32) : Prop := iFour kd a b c d ∧ iLast kd c e f
def uRule (M : gM) (at0 r : Nat) (a b c d e f : Int32) : gM := sI (sI (sI (sI (sI (sI (sI (sI (sI M 128 0 (nI 0)) 128 0 (nI 0)) 136 (6 * (8 * at0 + r)) a) 136 (6 * (8 * at0 + r) + 1) b) 136 (6 * (8 * at0 + r) + 2) c) 136 (6 * (8 * at0 + r) + 3) d) 136 (6 * (8 * at0 + r) + 4) e) 136 (6 * (8 * at0 + r) + 5) f) 135 at0 (nI (r + 1))
set_option maxRecDepth 100000 in
set_option maxHeartbeats 4000000 in
theorem sp_X12_rule0 {g : gG} {M : gM} {Q : Option Value ⊕ String → gM → Prop} (hL : gLay M) {fc : Nat} (hf : mI M 128 1 = nI fc) (hfc : fc < 2) {cnt : Nat} (hc : mI M 129 fc = nI cnt) (hcl : cnt ≤ 12) {p a b c d e f : Int32} (hp : ¬ iBel p cnt) (K : Q (.inl (some (.int (nI 0)))) (sI M 128 0 (nI 1))) : E g 6 0 0 mX12_rule 0 [.ref 129, .int p, .int a, .int b, .int c, .int d, .int e, .int f, .null, .null] [] M Q := by
  refine E_aload_n dX12_rule_0 rfl ?_
  refine E_aload_n dX12_rule_1 rfl ?_
  refine E_iload_n dX12_rule_2 rfl ?_
  refine E_callV1 (fr' := 2) (k1 := 0) (n1 := 0) (k2 := 0) (n2 := 0) dX12_rule_3 kO_X12_isLookup kL_X12_194 (l_128 hL) (k_128 hL) ⟨by decide, rfl⟩ rfl (by decide) (by decide) (by exact Nat.le_of_ble_eq_true rfl) rfl ?_
  refine sp_X12_isLookup hL hf hfc hc hcl ?_
  refine gKv ?_
  refine E_if_eq_b (tgt := 13) dX12_rule_6 (by decide) (fun c_6 => ?_) (fun c_6 => ?_)
  · refine E_iconst (v := nI 1) dX12_rule_13 (by decide) ?_
    refine E_putI dX12_rule_14 kF_X12_166 kY_12 (Or.inl rfl) (l_128 hL) (k_128 hL) (Or.inl rfl) ?_
    refine E_bipush (v := nI 12) dX12_rule_17 (by decide) ?_
    refine E_aload_n dX12_rule_19 rfl ?_
    refine E_getIL (v := nI fc) dX12_rule_20 kF_X12_169 kY_12 (Or.inl rfl) (l_128 hL) (k_128 hL) hf ?_
    refine E_imul_n dX12_rule_23 ?_
    refine E_aload_n dX12_rule_24 rfl ?_
    refine E_getIL (v := nI 1) dX12_rule_25 kF_X12_166 kY_12 (Or.inl rfl) (l_128 hL) (k_128 hL) rfl ?_
    refine E_if_le (tgt := 35) dX12_rule_28 (by decide) (fun c0 => absurd c0 (by decide)) (fun _ => ?_)
    refine E_iconst (v := nI 0) dX12_rule_31 (by decide) ?_
    refine E_goto (tgt := 36) dX12_rule_32 (by decide) ?_
    refine E_iadd_n dX12_rule_36 ?_
    refine E_istore dX12_rule_37 (Nat.le_of_ble_eq_true rfl) (by decide) rfl ?_
    refine E_aload_n dX12_rule_39 rfl ?_
    refine E_getIL (v := nI 1) dX12_rule_40 kF_X12_166 kY_12 (Or.inl rfl) (l_128 hL) (k_128 hL) rfl ?_
    refine E_if_ne (tgt := 109) dX12_rule_43 (by decide) (fun _ => ?_) (fun c0 => absurd (by decide) c0)
    refine E_aload_n dX12_rule_109 rfl ?_
    refine E_getIL (v := nI 1) dX12_rule_110 kF_X12_166 kY_12 (Or.inl rfl) (l_128 hL) (k_128 hL) rfl ?_
    refine E_if_le (tgt := 118) dX12_rule_113 (by decide) (fun c0 => absurd c0 (by decide)) (fun _ => ?_)
    refine E_iconst (v := nI 0) dX12_rule_116 (by decide) ?_
    refine E_iret dX12_rule_117 (Or.inl rfl) ?_
    exact K
  · exact absurd c_6 hp
set_option maxRecDepth 100000 in
set_option maxHeartbeats 4000000 in
theorem sp_X12_rule1 {g : gG} {M : gM} {Q : Option Value ⊕ String → gM → Prop} (hL : gLay M) {fc : Nat} (hf : mI M 128 1 = nI fc) (hfc : fc < 2) {cnt : Nat} (hc : mI M 129 fc = nI cnt) (hcl : cnt ≤ 12) {j kd r : Nat} {a b c d e f : Int32} (hj : j < cnt) (hp : iBel (nI j) cnt) (hkd : kd < 10) (hk : mI M 130 (12 * fc + j) = nI kd) (hr : mI M 135 (12 * fc + j) = nI r) (hr8 : r ≤ 8) (K2 : ¬ iRl kd a b c d e f → Q (.inl (some (.int (nI 0)))) (sI (sI M 128 0 (nI 0)) 128 0 (nI 2))) (K3 : iRl kd a b c d e f → r = 8 → Q (.inl (some (.int (nI 0)))) (sI (sI M 128 0 (nI 0)) 128 0 (nI 3))) (K0 : iRl kd a b c d e f → r < 8 → Q (.inl (some (.int (nI (r + 1))))) (uRule M (12 * fc + j) r a b c d e f)) : E g 6 0 0 mX12_rule 0 [.ref 129, .int (nI j), .int a, .int b, .int c, .int d, .int e, .int f, .null, .null] [] M Q := by
  refine E_aload_n dX12_rule_0 rfl ?_
  refine E_aload_n dX12_rule_1 rfl ?_
  refine E_iload_n dX12_rule_2 rfl ?_
  refine E_callV1 (fr' := 2) (k1 := 0) (n1 := 0) (k2 := 0) (n2 := 0) dX12_rule_3 kO_X12_isLookup kL_X12_194 (l_128 hL) (k_128 hL) ⟨by decide, rfl⟩ rfl (by decide) (by decide) (by exact Nat.le_of_ble_eq_true rfl) rfl ?_
  refine sp_X12_isLookup hL hf hfc hc hcl ?_
  refine gKv ?_
  refine E_if_eq_b (tgt := 13) dX12_rule_6 (by decide) (fun c_6 => ?_) (fun c_6 => ?_)
  · exact absurd hp c_6
  · refine E_iconst (v := nI 0) dX12_rule_9 (by decide) ?_
    refine E_goto (tgt := 14) dX12_rule_10 (by decide) ?_
    refine E_putI dX12_rule_14 kF_X12_166 kY_12 (Or.inl rfl) (l_128 hL) (k_128 hL) (Or.inl rfl) ?_
    refine E_bipush (v := nI 12) dX12_rule_17 (by decide) ?_
    refine E_aload_n dX12_rule_19 rfl ?_
    refine E_getIL (v := nI fc) dX12_rule_20 kF_X12_169 kY_12 (Or.inl rfl) (l_128 hL) (k_128 hL) hf ?_
    refine E_imul_n dX12_rule_23 ?_
    refine E_aload_n dX12_rule_24 rfl ?_
    refine E_getIL (v := nI 0) dX12_rule_25 kF_X12_166 kY_12 (Or.inl rfl) (l_128 hL) (k_128 hL) rfl ?_
    refine E_if_le (tgt := 35) dX12_rule_28 (by decide) (fun _ => ?_) (fun c0 => absurd (by decide) c0)
    refine E_iload_n dX12_rule_35 rfl ?_
    refine E_iadd_n dX12_rule_36 ?_
    refine E_istore dX12_rule_37 (Nat.le_of_ble_eq_true rfl) (by decide) rfl ?_
    refine E_aload_n dX12_rule_39 rfl ?_
    refine E_getIL (v := nI 0) dX12_rule_40 kF_X12_166 kY_12 (Or.inl rfl) (l_128 hL) (k_128 hL) rfl ?_
    refine E_if_ne (tgt := 109) dX12_rule_43 (by decide) (fun c0 => absurd c0 (by decide)) (fun _ => ?_)
    refine E_aload_n dX12_rule_46 rfl ?_
    refine E_aload_n dX12_rule_47 rfl ?_
    refine E_getRL dX12_rule_48 kF_X12_13 kY_12 (Or.inr ⟨_, rfl⟩) (l_128 hL) (k_128 hL) (r_128_3 hL) ?_
    refine E_iload dX12_rule_51 rfl ?_
    refine E_ialdL (v := nI kd) dX12_rule_53 (l_130 hL) (k_130 hL) rfl (by omega) (by decide) hk ?_
    refine E_iload_n dX12_rule_54 rfl ?_
    refine E_iload_n dX12_rule_55 rfl ?_
    refine E_iload dX12_rule_56 rfl ?_
    refine E_iload dX12_rule_58 rfl ?_
    refine E_callS5 (fr' := 5) (k1 := 0) (n1 := 0) (k2 := 0) (n2 := 0) dX12_rule_60 kO_X12_areFour kL_X12_197 rfl rfl rfl rfl rfl (by decide) (by decide) (by exact Nat.le_of_ble_eq_true rfl) (Or.inl rfl) rfl ?_
    refine sp_X12_areFour (by assumption) ?_
    refine gKv ?_
    refine E_if_eq_b (tgt := 85) dX12_rule_63 (by decide) (fun c_63 => ?_) (fun c_63 => ?_)
    · refine E_iconst (v := nI 2) dX12_rule_85 (by decide) ?_
      refine E_goto (tgt := 106) dX12_rule_86 (by decide) ?_
      refine E_putI dX12_rule_106 kF_X12_166 kY_12 (Or.inl rfl) (l_128 hL) (k_128 hL) (Or.inl rfl) ?_
      refine E_aload_n dX12_rule_109 rfl ?_
      refine E_getIL (v := nI 2) dX12_rule_110 kF_X12_166 kY_12 (Or.inl rfl) (l_128 hL) (k_128 hL) rfl ?_
      refine E_if_le (tgt := 118) dX12_rule_113 (by decide) (fun c0 => absurd c0 (by decide)) (fun _ => ?_)
      refine E_iconst (v := nI 0) dX12_rule_116 (by decide) ?_
      refine E_iret dX12_rule_117 (Or.inl rfl) ?_
      first
        | exact K2 (fun h => by simp_all)
        | exact K3 ⟨by assumption, by assumption⟩ (by omega)
        | exact K0 ⟨by assumption, by assumption⟩ (by omega)
    · refine E_aload_n dX12_rule_66 rfl ?_
      refine E_getRL dX12_rule_67 kF_X12_13 kY_12 (Or.inr ⟨_, rfl⟩) (l_128 hL) (k_128 hL) (r_128_3 hL) ?_
      refine E_iload dX12_rule_70 rfl ?_
      refine E_ialdL (v := nI kd) dX12_rule_72 (l_130 hL) (k_130 hL) rfl (by omega) (by decide) hk ?_
      refine E_iload dX12_rule_73 rfl ?_
      refine E_iload dX12_rule_75 rfl ?_
      refine E_iload dX12_rule_77 rfl ?_
      refine E_callS4 (fr' := 3) (k1 := 0) (n1 := 0) (k2 := 0) (n2 := 0) dX12_rule_79 kO_X12_areLast kL_X12_201 rfl rfl rfl rfl (by decide) (by decide) (by exact Nat.le_of_ble_eq_true rfl) (Or.inl rfl) rfl ?_
      refine sp_X12_areLast (by assumption) ?_
      refine gKv ?_
      refine E_if_ne_b (tgt := 89) dX12_rule_82 (by decide) (fun c_82 => ?_) (fun c_82 => ?_)
      · refine E_aload_n dX12_rule_89 rfl ?_
        refine E_getRL dX12_rule_90 kF_X12_28 kY_12 (Or.inr ⟨_, rfl⟩) (l_128 hL) (k_128 hL) (r_128_8 hL) ?_
        refine E_iload dX12_rule_93 rfl ?_
        refine E_ialdL (v := nI r) dX12_rule_95 (l_135 hL) (k_135 hL) rfl (by omega) (by decide) hr ?_
        refine E_bipush (v := nI 8) dX12_rule_96 (by decide) ?_
        refine E_icmp_ne_n (tgt := 105) dX12_rule_98 (by decide) (by omega) (by omega) (fun c_98 => ?_) (fun c_98 => ?_)
        · refine E_iconst (v := nI 0) dX12_rule_105 (by decide) ?_
          refine E_putI dX12_rule_106 kF_X12_166 kY_12 (Or.inl rfl) (l_128 hL) (k_128 hL) (Or.inl rfl) ?_
          refine E_aload_n dX12_rule_109 rfl ?_
          refine E_getIL (v := nI 0) dX12_rule_110 kF_X12_166 kY_12 (Or.inl rfl) (l_128 hL) (k_128 hL) rfl ?_
          refine E_if_le (tgt := 118) dX12_rule_113 (by decide) (fun _ => ?_) (fun c0 => absurd (by decide) c0)
          refine E_bipush (v := nI 6) dX12_rule_118 (by decide) ?_
          refine E_bipush (v := nI 8) dX12_rule_120 (by decide) ?_
          refine E_iload dX12_rule_122 rfl ?_
          refine E_imul_n dX12_rule_124 ?_
          refine E_aload_n dX12_rule_125 rfl ?_
          refine E_getRL dX12_rule_126 kF_X12_28 kY_12 (Or.inr ⟨_, rfl⟩) (l_128 hL) (k_128 hL) (r_128_8 hL) ?_
          refine E_iload dX12_rule_129 rfl ?_
          refine E_ialdL (v := nI r) dX12_rule_131 (l_135 hL) (k_135 hL) rfl (by omega) (by decide) hr ?_
          refine E_iadd_n dX12_rule_132 ?_
          refine E_imul_n dX12_rule_133 ?_
          refine E_istore dX12_rule_134 (Nat.le_of_ble_eq_true rfl) (by decide) rfl ?_
          refine E_aload_n dX12_rule_136 rfl ?_
          refine E_getRL dX12_rule_137 kF_X12_31 kY_12 (Or.inr ⟨_, rfl⟩) (l_128 hL) (k_128 hL) (r_128_9 hL) ?_
          refine E_iload dX12_rule_140 rfl ?_
          refine E_iload_n dX12_rule_142 rfl ?_
          refine E_iast dX12_rule_143 (l_136 hL) (k_136 hL) rfl (by omega) (by decide) ?_
          refine E_aload_n dX12_rule_144 rfl ?_
          refine E_getRL dX12_rule_145 kF_X12_31 kY_12 (Or.inr ⟨_, rfl⟩) (l_128 hL) (k_128 hL) (r_128_9 hL) ?_
          refine E_iload dX12_rule_148 rfl ?_
          refine E_iconst (v := nI 1) dX12_rule_150 (by decide) ?_
          refine E_iadd_n dX12_rule_151 ?_
          refine E_iload_n dX12_rule_152 rfl ?_
          refine E_iast dX12_rule_153 (l_136 hL) (k_136 hL) rfl (by omega) (by decide) ?_
          refine E_aload_n dX12_rule_154 rfl ?_
          refine E_getRL dX12_rule_155 kF_X12_31 kY_12 (Or.inr ⟨_, rfl⟩) (l_128 hL) (k_128 hL) (r_128_9 hL) ?_
          refine E_iload dX12_rule_158 rfl ?_
          refine E_iconst (v := nI 2) dX12_rule_160 (by decide) ?_
          refine E_iadd_n dX12_rule_161 ?_
          refine E_iload dX12_rule_162 rfl ?_
          refine E_iast dX12_rule_164 (l_136 hL) (k_136 hL) rfl (by omega) (by decide) ?_
          refine E_aload_n dX12_rule_165 rfl ?_
          refine E_getRL dX12_rule_166 kF_X12_31 kY_12 (Or.inr ⟨_, rfl⟩) (l_128 hL) (k_128 hL) (r_128_9 hL) ?_
          refine E_iload dX12_rule_169 rfl ?_
          refine E_iconst (v := nI 3) dX12_rule_171 (by decide) ?_
          refine E_iadd_n dX12_rule_172 ?_
          refine E_iload dX12_rule_173 rfl ?_
          refine E_iast dX12_rule_175 (l_136 hL) (k_136 hL) rfl (by omega) (by decide) ?_
          refine E_aload_n dX12_rule_176 rfl ?_
          refine E_getRL dX12_rule_177 kF_X12_31 kY_12 (Or.inr ⟨_, rfl⟩) (l_128 hL) (k_128 hL) (r_128_9 hL) ?_
          refine E_iload dX12_rule_180 rfl ?_
          refine E_iconst (v := nI 4) dX12_rule_182 (by decide) ?_
          refine E_iadd_n dX12_rule_183 ?_
          refine E_iload dX12_rule_184 rfl ?_
          refine E_iast dX12_rule_186 (l_136 hL) (k_136 hL) rfl (by omega) (by decide) ?_
          refine E_aload_n dX12_rule_187 rfl ?_
          refine E_getRL dX12_rule_188 kF_X12_31 kY_12 (Or.inr ⟨_, rfl⟩) (l_128 hL) (k_128 hL) (r_128_9 hL) ?_
          refine E_iload dX12_rule_191 rfl ?_
          refine E_iconst (v := nI 5) dX12_rule_193 (by decide) ?_
          refine E_iadd_n dX12_rule_194 ?_
          refine E_iload dX12_rule_195 rfl ?_
          refine E_iast dX12_rule_197 (l_136 hL) (k_136 hL) rfl (by omega) (by decide) ?_
          refine E_aload_n dX12_rule_198 rfl ?_
          refine E_getRL dX12_rule_199 kF_X12_28 kY_12 (Or.inr ⟨_, rfl⟩) (l_128 hL) (k_128 hL) (r_128_8 hL) ?_
          refine E_iload dX12_rule_202 rfl ?_
          refine E_dup2 dX12_rule_204 rfl rfl ?_
          refine E_ialdL (v := nI r) dX12_rule_205 (l_135 hL) (k_135 hL) rfl (by omega) (by decide) hr ?_
          refine E_iconst (v := nI 1) dX12_rule_206 (by decide) ?_
          refine E_iadd_n dX12_rule_207 ?_
          refine E_iast dX12_rule_208 (l_135 hL) (k_135 hL) rfl (by omega) (by decide) ?_
          refine E_aload_n dX12_rule_209 rfl ?_
          refine E_getRL dX12_rule_210 kF_X12_28 kY_12 (Or.inr ⟨_, rfl⟩) (l_128 hL) (k_128 hL) (r_128_8 hL) ?_
          refine E_iload dX12_rule_213 rfl ?_
          refine E_ialdL (v := nI (r + 1)) dX12_rule_215 (l_135 hL) (k_135 hL) rfl (by omega) (by decide) (by simp [mI_sI]) ?_
          refine E_iret dX12_rule_216 (Or.inl rfl) ?_
          first
            | exact K2 (fun h => by simp_all)
            | exact K3 ⟨by assumption, by assumption⟩ (by omega)
            | exact K0 ⟨by assumption, by assumption⟩ (by omega)
        · refine E_iconst (v := nI 3) dX12_rule_101 (by decide) ?_
          refine E_goto (tgt := 106) dX12_rule_102 (by decide) ?_
          refine E_putI dX12_rule_106 kF_X12_166 kY_12 (Or.inl rfl) (l_128 hL) (k_128 hL) (Or.inl rfl) ?_
          refine E_aload_n dX12_rule_109 rfl ?_
          refine E_getIL (v := nI 3) dX12_rule_110 kF_X12_166 kY_12 (Or.inl rfl) (l_128 hL) (k_128 hL) rfl ?_
          refine E_if_le (tgt := 118) dX12_rule_113 (by decide) (fun c0 => absurd c0 (by decide)) (fun _ => ?_)
          refine E_iconst (v := nI 0) dX12_rule_116 (by decide) ?_
          refine E_iret dX12_rule_117 (Or.inl rfl) ?_
          first
            | exact K2 (fun h => by simp_all)
            | exact K3 ⟨by assumption, by assumption⟩ (by omega)
            | exact K0 ⟨by assumption, by assumption⟩ (by omega)
      · refine E_iconst (v := nI 2) dX12_rule_85 (by decide) ?_
        refine E_goto (tgt := 106) dX12_rule_86 (by decide) ?_
        refine E_putI dX12_rule_106 kF_X12_166 kY_12 (Or.inl rfl) (l_128 hL) (k_128 hL) (Or.inl rfl) ?_
        refine E_aload_n dX12_rule_109 rfl ?_
        refine E_getIL (v := nI 2) dX12_rule_110 kF_X12_166 kY_12 (Or.inl rfl) (l_128 hL) (k_128 hL) rfl ?_
        refine E_if_le (tgt := 118) dX12_rule_113 (by decide) (fun c0 => absurd c0 (by decide)) (fun _ => ?_)
        refine E_iconst (v := nI 0) dX12_rule_116 (by decide) ?_
        refine E_iret dX12_rule_117 (Or.inl rfl) ?_
        first
          | exact K2 (fun h => by simp_all)
          | exact K3 ⟨by assumption, by assumption⟩ (by omega)
          | exact K0 ⟨by assumption, by assumption⟩ (by omega)
/-- an item is a glyph (told by its number, or a group) -/
abbrev iOf (M : gM) (fc : Nat) (item : Int32) (q : Nat) : Prop := (nI 300 ≤ item ∧ mI M 138 (256 * fc + q) = item - nI 300) ∨ (¬ nI 300 ≤ item ∧ item = nI q)
set_option maxRecDepth 100000 in
set_option maxHeartbeats 4000000 in
theorem sp_X12_isOf {g : gG} {M : gM} {Q : Option Value ⊕ String → gM → Prop} (hL : gLay M) {fc q : Nat} {item : Int32} (hfc : fc < 2) (hq : q < 256) (K : Q (.inl (some (.int (b2i (iOf M fc item q))))) M) : E g 1 0 0 mX12_isOf 0 [.ref 129, .int item, .int (nI q), .int (nI fc)] [] M Q := by
  refine E_iload_n dX12_isOf_0 rfl ?_
  refine E_sipush (v := nI 300) dX12_isOf_1 (by decide) ?_
  refine E_icmp_lt (tgt := 35) dX12_isOf_4 (by decide) (fun c_4 => ?_) (fun c_4 => ?_)
  · refine E_iload_n dX12_isOf_35 rfl ?_
    refine E_iload_n dX12_isOf_36 rfl ?_
    refine E_icmp_ne (tgt := 44) dX12_isOf_37 (by decide) (fun c_37 => ?_) (fun c_37 => ?_)
    · refine E_iconst (v := nI 0) dX12_isOf_44 (by decide) ?_
      refine E_iret dX12_isOf_45 (Or.inr ⟨rfl, by decide⟩) ?_
      rw [← b2i_f (P := iOf M fc item q) (by simp only [iOf, Int32.lt_iff_toInt_lt, Int32.le_iff_toInt_le, Int32.not_lt] at *; grind)]; exact K
    · refine E_iconst (v := nI 1) dX12_isOf_40 (by decide) ?_
      refine E_goto (tgt := 45) dX12_isOf_41 (by decide) ?_
      refine E_iret dX12_isOf_45 (Or.inr ⟨rfl, by decide⟩) ?_
      rw [← b2i_t (P := iOf M fc item q) (by simp only [iOf, Int32.lt_iff_toInt_lt, Int32.le_iff_toInt_le, Int32.not_lt] at *; grind)]; exact K
  · refine E_aload_n dX12_isOf_7 rfl ?_
    refine E_getRL dX12_isOf_8 kF_X12_37 kY_12 (Or.inr ⟨_, rfl⟩) (l_128 hL) (k_128 hL) (r_128_11 hL) ?_
    refine E_sipush (v := nI 256) dX12_isOf_11 (by decide) ?_
    refine E_iload_n dX12_isOf_14 rfl ?_
    refine E_imul_n dX12_isOf_15 ?_
    refine E_iload_n dX12_isOf_16 rfl ?_
    refine E_iadd_n dX12_isOf_17 ?_
    refine E_iald dX12_isOf_18 (l_138 hL) (k_138 hL) rfl (by omega) (by decide) ?_
    refine E_iload_n dX12_isOf_19 rfl ?_
    refine E_sipush (v := nI 300) dX12_isOf_20 (by decide) ?_
    refine E_isub dX12_isOf_23 ?_
    refine E_icmp_ne (tgt := 31) dX12_isOf_24 (by decide) (fun c_24 => ?_) (fun c_24 => ?_)
    · refine E_iconst (v := nI 0) dX12_isOf_31 (by decide) ?_
      refine E_goto (tgt := 45) dX12_isOf_32 (by decide) ?_
      refine E_iret dX12_isOf_45 (Or.inr ⟨rfl, by decide⟩) ?_
      rw [← b2i_f (P := iOf M fc item q) (by simp only [iOf, Int32.lt_iff_toInt_lt, Int32.le_iff_toInt_le, Int32.not_lt] at *; grind)]; exact K
    · refine E_iconst (v := nI 1) dX12_isOf_27 (by decide) ?_
      refine E_goto (tgt := 45) dX12_isOf_28 (by decide) ?_
      refine E_iret dX12_isOf_45 (Or.inr ⟨rfl, by decide⟩) ?_
      rw [← b2i_t (P := iOf M fc item q) (by simp only [iOf, Int32.lt_iff_toInt_lt, Int32.le_iff_toInt_le, Int32.not_lt] at *; grind)]; exact K
/-- the rules of a lookup that can begin with a glyph -/
def leadOf (kd : Nat) : Nat := if kd = 4 ∨ kd = 5 then 1 else 0
abbrev iBg (M : gM) (fc l kd q : Nat) (k : Nat) : Prop := iOf M fc (mI M 136 (6 * (8 * l + k) + leadOf kd)) q
set_option maxRecDepth 100000 in
set_option maxHeartbeats 4000000 in
theorem lp_X12_begins {g : gG} {M : gM} {Q : Option Value ⊕ String → gM → Prop} (hL : gLay M) {fc : Nat} (hf : mI M 128 1 = nI fc) (hfc : fc < 2) {l kd q r : Nat} (hl : l < 24) (hq : q < 256) (hr : mI M 135 l = nI r) (hr8 : r ≤ 8) (K : Q (.inl (some (.int (begB (iBg M fc l kd q) r)))) M) : ∀ k, k ≤ r → E g 2 0 0 mX12_begins 32 [.ref 129, .int (nI l), .int (nI q), .int (nI (leadOf kd)), .int (begB (iBg M fc l kd q) k), .int (nI k)] [] M Q := by
  have hld : leadOf kd ≤ 1 := by unfold leadOf; split <;> omega
  refine lpUp r (fun k hk ih => ?_)
  refine E_iload dX12_begins_32 rfl ?_
  refine E_aload_n dX12_begins_34 rfl ?_
  refine E_getRL dX12_begins_35 kF_X12_28 kY_12 (Or.inr ⟨_, rfl⟩) (l_128 hL) (k_128 hL) (r_128_8 hL) ?_
  refine E_iload_n dX12_begins_38 rfl ?_
  refine E_ialdL (v := nI r) dX12_begins_39 (l_135 hL) (k_135 hL) rfl (by omega) (by decide) hr ?_
  refine E_icmp_ge_n (tgt := 91) dX12_begins_40 (by decide) (by omega) (by omega) (fun c_40 => ?_) (fun c_40 => ?_)
  · refine E_iload dX12_begins_91 rfl ?_
    refine E_iret dX12_begins_93 (Or.inl rfl) ?_
    obtain rfl : k = r := by omega
    exact K
  · refine E_iload dX12_begins_43 rfl ?_
    refine E_aload_n dX12_begins_45 rfl ?_
    refine E_aload_n dX12_begins_46 rfl ?_
    refine E_getRL dX12_begins_47 kF_X12_31 kY_12 (Or.inr ⟨_, rfl⟩) (l_128 hL) (k_128 hL) (r_128_9 hL) ?_
    refine E_bipush (v := nI 6) dX12_begins_50 (by decide) ?_
    refine E_bipush (v := nI 8) dX12_begins_52 (by decide) ?_
    refine E_iload_n dX12_begins_54 rfl ?_
    refine E_imul_n dX12_begins_55 ?_
    refine E_iload dX12_begins_56 rfl ?_
    refine E_iadd_n dX12_begins_58 ?_
    refine E_imul_n dX12_begins_59 ?_
    refine E_iload_n dX12_begins_60 rfl ?_
    refine E_iadd_n dX12_begins_61 ?_
    refine E_iald dX12_begins_62 (l_136 hL) (k_136 hL) rfl (by omega) (by decide) ?_
    refine E_iload_n dX12_begins_63 rfl ?_
    refine E_aload_n dX12_begins_64 rfl ?_
    refine E_getIL (v := nI fc) dX12_begins_65 kF_X12_169 kY_12 (Or.inl rfl) (l_128 hL) (k_128 hL) hf ?_
    refine E_callV3 (fr' := 1) (k1 := 0) (n1 := 0) (k2 := 0) (n2 := 0) dX12_begins_68 kO_X12_isOf kL_X12_208 (l_128 hL) (k_128 hL) ⟨by decide, rfl⟩ rfl rfl rfl (by decide) (by decide) (by exact Nat.le_of_ble_eq_true rfl) rfl ?_
    refine sp_X12_isOf hL hfc (by assumption) ?_
    refine gKv ?_
    refine E_if_eq_b (tgt := 81) dX12_begins_71 (by decide) (fun c_71 => ?_) (fun c_71 => ?_)
    · refine E_iconst (v := nI 0) dX12_begins_81 (by decide) ?_
      refine E_ior dX12_begins_82 ?_
      first | rw [← begB_t (P := iBg M fc l kd q) (by assumption)] | rw [or_nI0, ← begB_f (P := iBg M fc l kd q) (by assumption)]
      refine E_istore dX12_begins_83 (Nat.le_of_ble_eq_true rfl) (by decide) rfl ?_
      refine E_iinc_n (d := 1) dX12_begins_85 rfl rfl rfl (by decide) rfl ?_
      refine E_goto (tgt := 32) dX12_begins_88 (by decide) ?_
      exact ih (by omega)
    · refine E_iconst (v := nI 1) dX12_begins_74 (by decide) ?_
      refine E_iload dX12_begins_75 rfl ?_
      refine E_ishl dX12_begins_77 ?_
      refine E_goto (tgt := 82) dX12_begins_78 (by decide) ?_
      refine E_ior dX12_begins_82 ?_
      first | rw [← begB_t (P := iBg M fc l kd q) (by assumption)] | rw [or_nI0, ← begB_f (P := iBg M fc l kd q) (by assumption)]
      refine E_istore dX12_begins_83 (Nat.le_of_ble_eq_true rfl) (by decide) rfl ?_
      refine E_iinc_n (d := 1) dX12_begins_85 rfl rfl rfl (by decide) rfl ?_
      refine E_goto (tgt := 32) dX12_begins_88 (by decide) ?_
      exact ih (by omega)
set_option maxRecDepth 100000 in
set_option maxHeartbeats 4000000 in
theorem sp_X12_begins {g : gG} {M : gM} {Q : Option Value ⊕ String → gM → Prop} (hL : gLay M) {fc : Nat} (hf : mI M 128 1 = nI fc) (hfc : fc < 2) {l kd q r : Nat} (hl : l < 24) (hq : q < 256) (hr : mI M 135 l = nI r) (hr8 : r ≤ 8) (hkd : kd < 10) (hk : mI M 130 l = nI kd) (K : Q (.inl (some (.int (begB (iBg M fc l kd q) r)))) M) : E g 2 0 0 mX12_begins 0 [.ref 129, .int (nI l), .int (nI q), .null, .null, .null] [] M Q := by
  have h0 := lp_X12_begins (g := g) (Q := Q) hL hf hfc (kd := kd) hl hq hr hr8 K 0 (by omega)
  refine E_aload_n dX12_begins_0 rfl ?_
  refine E_getRL dX12_begins_1 kF_X12_13 kY_12 (Or.inr ⟨_, rfl⟩) (l_128 hL) (k_128 hL) (r_128_3 hL) ?_
  refine E_iload_n dX12_begins_4 rfl ?_
  refine E_ialdL (v := nI kd) dX12_begins_5 (l_130 hL) (k_130 hL) rfl (by omega) (by decide) hk ?_
  refine E_iconst (v := nI 4) dX12_begins_6 (by decide) ?_
  refine E_icmp_eq_n (tgt := 20) dX12_begins_7 (by decide) (by omega) (by omega) (fun c_7 => ?_) (fun c_7 => ?_)
  · refine E_iconst (v := nI 1) dX12_begins_20 (by decide) ?_
    refine E_goto (tgt := 25) dX12_begins_21 (by decide) ?_
    refine E_istore_n dX12_begins_25 (Nat.le_of_ble_eq_true rfl) (by decide) rfl ?_
    refine E_iconst (v := nI 0) dX12_begins_26 (by decide) ?_
    refine E_istore dX12_begins_27 (Nat.le_of_ble_eq_true rfl) (by decide) rfl ?_
    refine E_iconst (v := nI 0) dX12_begins_29 (by decide) ?_
    refine E_istore dX12_begins_30 (Nat.le_of_ble_eq_true rfl) (by decide) rfl ?_
    first
      | (rw [show leadOf kd = 1 from if_pos (by omega)] at h0; exact h0)
      | (rw [show leadOf kd = 0 from if_neg (by omega)] at h0; exact h0)
  · refine E_aload_n dX12_begins_10 rfl ?_
    refine E_getRL dX12_begins_11 kF_X12_13 kY_12 (Or.inr ⟨_, rfl⟩) (l_128 hL) (k_128 hL) (r_128_3 hL) ?_
    refine E_iload_n dX12_begins_14 rfl ?_
    refine E_ialdL (v := nI kd) dX12_begins_15 (l_130 hL) (k_130 hL) rfl (by omega) (by decide) hk ?_
    refine E_iconst (v := nI 5) dX12_begins_16 (by decide) ?_
    refine E_icmp_ne_n (tgt := 24) dX12_begins_17 (by decide) (by omega) (by omega) (fun c_17 => ?_) (fun c_17 => ?_)
    · refine E_iconst (v := nI 0) dX12_begins_24 (by decide) ?_
      refine E_istore_n dX12_begins_25 (Nat.le_of_ble_eq_true rfl) (by decide) rfl ?_
      refine E_iconst (v := nI 0) dX12_begins_26 (by decide) ?_
      refine E_istore dX12_begins_27 (Nat.le_of_ble_eq_true rfl) (by decide) rfl ?_
      refine E_iconst (v := nI 0) dX12_begins_29 (by decide) ?_
      refine E_istore dX12_begins_30 (Nat.le_of_ble_eq_true rfl) (by decide) rfl ?_
      first
        | (rw [show leadOf kd = 1 from if_pos (by omega)] at h0; exact h0)
        | (rw [show leadOf kd = 0 from if_neg (by omega)] at h0; exact h0)
    · refine E_iconst (v := nI 1) dX12_begins_20 (by decide) ?_
      refine E_goto (tgt := 25) dX12_begins_21 (by decide) ?_
      refine E_istore_n dX12_begins_25 (Nat.le_of_ble_eq_true rfl) (by decide) rfl ?_
      refine E_iconst (v := nI 0) dX12_begins_26 (by decide) ?_
      refine E_istore dX12_begins_27 (Nat.le_of_ble_eq_true rfl) (by decide) rfl ?_
      refine E_iconst (v := nI 0) dX12_begins_29 (by decide) ?_
      refine E_istore dX12_begins_30 (Nat.le_of_ble_eq_true rfl) (by decide) rfl ?_
      first
        | (rw [show leadOf kd = 1 from if_pos (by omega)] at h0; exact h0)
        | (rw [show leadOf kd = 0 from if_neg (by omega)] at h0; exact h0)
