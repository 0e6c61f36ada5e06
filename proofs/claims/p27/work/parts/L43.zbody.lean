/-! the law: its body -/
set_option maxRecDepth 100000 in
set_option maxHeartbeats 4000000 in
theorem law_body {g : gG} {Q : Option Value ⊕ String → gM → Prop} (hst : (gl1 g).stackTraces = false) (hg : gsL g < 2 ^ 20) (K : ∀ M, Q (.inl (some (.int (nI 1)))) M) {M : gM} (hG : gG0 0 0 0 M) : E g 13 99139 1669900 mL_law 0 [.float 0, .null, .null, .null, .null, .null, .null, .null, .null, .null, .null, .null, .null, .null, .null, .null, .null, .null, .null, .null, .null, .null, .null, .null, .null] [] M Q := by
  refine E_new (c := 11) (k := 99138) (n := 1669889) dL_law_0 (by decide) kY_11 (gW_at 51 (by decide +kernel) (by decide +kernel)) (gW_at 52 (by decide +kernel) (by decide +kernel)) (gW_at 31 (by decide +kernel) (by decide +kernel)) ?_
  rw [hG.nn]
  refine cE (hG.new (by decide +kernel)) (fun M hG => ?_)
  refine E_dup dL_law_3 rfl ?_
  refine E_callI0 (fr' := 3) (k1 := 127) (n1 := 19335) (k2 := 99011) (n2 := 1650554) dL_law_4 kO_X11_init kL_L_306 (hG.lt (a := 0) (by decide))  (by decide) (by decide) (by exact Nat.le_of_ble_eq_true rfl) rfl ?_
  refine ci_X11_init_0 hG (fun M hG => ?_)
  refine gKn ?_
  refine E_astore_n dL_law_7 (Nat.le_of_ble_eq_true rfl) (by decide) rfl ?_
  refine E_bipush (v := nI 16) dL_law_8 (by decide) ?_
  refine E_newI (len := 16) (k := 99010) (n := 1650538) dL_law_10 (gW_at 92 (by decide +kernel) (by decide +kernel)) rfl (by decide) ?_
  rw [hG.nn]
  refine cE (hG.new (by decide +kernel)) (fun M hG => ?_)
  refine E_astore_n dL_law_12 (Nat.le_of_ble_eq_true rfl) (by decide) rfl ?_
  refine E_bipush (v := nI 16) dL_law_13 (by decide) ?_
  refine E_newI (len := 16) (k := 99009) (n := 1650522) dL_law_15 (gW_at 92 (by decide +kernel) (by decide +kernel)) rfl (by decide) ?_
  rw [hG.nn]
  refine cE (hG.new (by decide +kernel)) (fun M hG => ?_)
  refine E_astore_n dL_law_17 (Nat.le_of_ble_eq_true rfl) (by decide) rfl ?_
  refine E_bipush (v := nI 64) dL_law_18 (by decide) ?_
  refine E_newL (len := 64) (k := 99008) (n := 1650458) dL_law_20 (gW_at 1221 (by decide +kernel) (by decide +kernel)) rfl (by decide) ?_
  rw [hG.nn]
  refine cE (hG.new (by decide +kernel)) (fun M hG => ?_)
  refine E_astore dL_law_22 (Nat.le_of_ble_eq_true rfl) (by decide) rfl ?_
  refine E_bipush (v := nI 64) dL_law_24 (by decide) ?_
  refine E_newI (len := 64) (k := 99007) (n := 1650394) dL_law_26 (gW_at 92 (by decide +kernel) (by decide +kernel)) rfl (by decide) ?_
  rw [hG.nn]
  refine cE (hG.new (by decide +kernel)) (fun M hG => ?_)
  refine E_astore dL_law_28 (Nat.le_of_ble_eq_true rfl) (by decide) rfl ?_
  refine E_bipush (v := nI 12) dL_law_30 (by decide) ?_
  refine E_newI (len := 12) (k := 99006) (n := 1650382) dL_law_32 (gW_at 92 (by decide +kernel) (by decide +kernel)) rfl (by decide) ?_
  rw [hG.nn]
  refine cE (hG.new (by decide +kernel)) (fun M hG => ?_)
  refine E_astore dL_law_34 (Nat.le_of_ble_eq_true rfl) (by decide) rfl ?_
  refine E_bipush (v := nI 64) dL_law_36 (by decide) ?_
  refine E_newI (len := 64) (k := 99005) (n := 1650318) dL_law_38 (gW_at 92 (by decide +kernel) (by decide +kernel)) rfl (by decide) ?_
  rw [hG.nn]
  refine cE (hG.new (by decide +kernel)) (fun M hG => ?_)
  refine E_astore dL_law_40 (Nat.le_of_ble_eq_true rfl) (by decide) rfl ?_
  refine E_bipush (v := nI 64) dL_law_42 (by decide) ?_
  refine E_newI (len := 64) (k := 99004) (n := 1650254) dL_law_44 (gW_at 92 (by decide +kernel) (by decide +kernel)) rfl (by decide) ?_
  rw [hG.nn]
  refine cE (hG.new (by decide +kernel)) (fun M hG => ?_)
  refine E_astore dL_law_46 (Nat.le_of_ble_eq_true rfl) (by decide) rfl ?_
  refine E_bipush (v := nI 64) dL_law_48 (by decide) ?_
  refine E_newI (len := 64) (k := 99003) (n := 1650190) dL_law_50 (gW_at 92 (by decide +kernel) (by decide +kernel)) rfl (by decide) ?_
  rw [hG.nn]
  refine cE (hG.new (by decide +kernel)) (fun M hG => ?_)
  refine E_astore dL_law_52 (Nat.le_of_ble_eq_true rfl) (by decide) rfl ?_
  refine E_bipush (v := nI 64) dL_law_54 (by decide) ?_
  refine E_newI (len := 64) (k := 99002) (n := 1650126) dL_law_56 (gW_at 92 (by decide +kernel) (by decide +kernel)) rfl (by decide) ?_
  rw [hG.nn]
  refine cE (hG.new (by decide +kernel)) (fun M hG => ?_)
  refine E_astore dL_law_58 (Nat.le_of_ble_eq_true rfl) (by decide) rfl ?_
  refine E_bipush (v := nI 64) dL_law_60 (by decide) ?_
  refine E_newI (len := 64) (k := 99001) (n := 1650062) dL_law_62 (gW_at 92 (by decide +kernel) (by decide +kernel)) rfl (by decide) ?_
  rw [hG.nn]
  refine cE (hG.new (by decide +kernel)) (fun M hG => ?_)
  refine E_astore dL_law_64 (Nat.le_of_ble_eq_true rfl) (by decide) rfl ?_
  refine E_bipush (v := nI 62) dL_law_66 (by decide) ?_
  refine E_newI (len := 62) (k := 99000) (n := 1650000) dL_law_68 (gW_at 92 (by decide +kernel) (by decide +kernel)) rfl (by decide) ?_
  rw [hG.nn]
  refine cE (hG.new (by decide +kernel)) (fun M hG => ?_)
  refine E_astore dL_law_70 (Nat.le_of_ble_eq_true rfl) (by decide) rfl ?_
  exact law_init hst hg K hG
