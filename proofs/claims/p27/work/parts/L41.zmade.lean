set_option maxRecDepth 100000 in
set_option maxHeartbeats 4000000 in
theorem ci_X10_init_2 {g : gG} {Q : Option Value ⊕ String → gM → Prop} {M : gM} (hG : gG0 3 1 0 M) (K : ∀ M, gG0 6 4 1 M → Q (.inl none) M) : E g 1 3 77 mX10_init 0 [.ref 3] [] M Q := by
  refine E_aload_n dX10_init_0 rfl ?_
  refine E_objInit dX10_init_1 (gW_at 66 (by decide +kernel) (by decide +kernel)) (gW_at 57 (by decide +kernel) (by decide +kernel)) (gW_at 58 (by decide +kernel) (by decide +kernel)) (by decide) (by exact Nat.le_of_ble_eq_true rfl) ?_
  refine E_aload_n dX10_init_4 rfl ?_
  refine E_bipush (v := nI 16) dX10_init_5 (by decide) ?_
  refine E_newI (len := 16) (k := 2) (n := 61) dX10_init_7 (gW_at 92 (by decide +kernel) (by decide +kernel)) rfl (by decide) ?_
  rw [hG.nn]
  refine cE (hG.new (by decide +kernel)) (fun M hG => ?_)
  refine E_putR dX10_init_9 kF_X10_9 kY_10 (Or.inr ⟨_, rfl⟩) (hG.lt (a := 2) (by decide)) (hG.kd (a := 2) (by decide) rfl) (Or.inr ⟨rfl, rfl, rfl⟩) ?_
  refine cE (hG.ref (by decide) (by decide +kernel)) (fun M hG => ?_)
  refine E_aload_n dX10_init_12 rfl ?_
  refine E_bipush (v := nI 16) dX10_init_13 (by decide) ?_
  refine E_newI (len := 16) (k := 1) (n := 45) dX10_init_15 (gW_at 92 (by decide +kernel) (by decide +kernel)) rfl (by decide) ?_
  rw [hG.nn]
  refine cE (hG.new (by decide +kernel)) (fun M hG => ?_)
  refine E_putR dX10_init_17 kF_X10_15 kY_10 (Or.inr ⟨_, rfl⟩) (hG.lt (a := 2) (by decide)) (hG.kd (a := 2) (by decide) rfl) (Or.inr ⟨rfl, rfl, rfl⟩) ?_
  refine cE (hG.ref (by decide) (by decide +kernel)) (fun M hG => ?_)
  refine E_aload_n dX10_init_20 rfl ?_
  refine E_bipush (v := nI 45) dX10_init_21 (by decide) ?_
  refine E_newZ (len := 45) (k := 0) (n := 0) dX10_init_23 (gW_at 93 (by decide +kernel) (by decide +kernel)) rfl (by decide) ?_
  rw [hG.nn]
  refine cE (hG.new (by decide +kernel)) (fun M hG => ?_)
  refine E_putR dX10_init_25 kF_X10_18 kY_10 (Or.inr ⟨_, rfl⟩) (hG.lt (a := 2) (by decide)) (hG.kd (a := 2) (by decide) rfl) (Or.inr ⟨rfl, rfl, rfl⟩) ?_
  refine cE (hG.ref (by decide) (by decide +kernel)) (fun M hG => ?_)
  refine E_aload_n dX10_init_28 rfl ?_
  refine E_iconst (v := nI 0) dX10_init_29 (by decide) ?_
  refine E_putI dX10_init_30 kF_X10_22 kY_10 (Or.inl rfl) (hG.lt (a := 2) (by decide)) (hG.kd (a := 2) (by decide) rfl) (Or.inl rfl) ?_
  refine cE (hG.z (by decide +kernel)) (fun M hG => ?_)
  refine E_aload_n dX10_init_33 rfl ?_
  refine E_iconst (v := nI 1) dX10_init_34 (by decide) ?_
  refine E_putI dX10_init_35 kF_X10_26 kY_10 (Or.inl rfl) (hG.lt (a := 2) (by decide)) (hG.kd (a := 2) (by decide) rfl) (Or.inl rfl) ?_
  refine cE (hG.iw (by decide +kernel) (by decide +kernel) (by unfold S0; decide) (by rfl)) (fun M hG => ?_)
  refine E_vret dX10_init_38 rfl ?_
  exact K M hG
theorem row_fr : ∀ k, k < 64 → frL[6 + k]? = some (7, (k, 8 + k)) := by decide +kernel
theorem row_la : ∀ k, k < 64 → glayL.getD (8 + k) (0, 0) = (2, 0) := by decide +kernel
set_option maxRecDepth 100000 in
set_option maxHeartbeats 4000000 in
theorem lp_X8_init {g : gG} {Q : Option Value ⊕ String → gM → Prop} (K : ∀ M, gG0 72 70 1 M → Q (.inl none) M) : ∀ r k, k + r = 64 → ∀ M, gG0 (8 + k) (6 + k) 1 M → E g 2 r (13 * r) mX8_init 20 [.ref 7, .int (nI k)] [] M Q := by
  intro r
  induction r with
  | zero =>
    intro k hk M hG
    obtain rfl : k = 64 := by omega
    refine E_iload_n dX8_init_20 rfl ?_
    refine E_bipush (v := nI 64) dX8_init_21 (by decide) ?_
    refine E_icmp_ge (tgt := 45) dX8_init_23 (by decide) (fun _ => ?_) (fun c0 => absurd (by decide) c0)
    refine E_vret dX8_init_45 rfl ?_
    exact K M hG
  | succ r ih =>
    intro k hk M hG
    have hk64 : k < 64 := by omega
    show E g 2 (r + 1) (13 * r + 13) mX8_init 20 [.ref 7, .int (nI k)] [] M Q
    refine E_iload_n dX8_init_20 rfl ?_
    refine E_bipush (v := nI 64) dX8_init_21 (by decide) ?_
    refine E_icmp_ge_n (tgt := 45) dX8_init_23 (by decide) (by omega) (by omega) (fun c0 => absurd c0 (by omega)) (fun _ => ?_)
    refine E_aload_n dX8_init_26 rfl ?_
    refine E_getRL dX8_init_27 kF_X8_11 kY_8 (Or.inr ⟨_, rfl⟩) (hG.lt (a := 6) (by omega)) (hG.kd (a := 6) (by omega) rfl) (hG.rf (i := 5) (b := 7) (by omega) (by decide +kernel)) ?_
    refine E_iload_n dX8_init_30 rfl ?_
    refine E_new (c := 2) (k := r) (n := 13 * r) dX8_init_31 (by decide) kY_2 (gW_at 100 (by decide +kernel) (by decide +kernel)) (gW_at 102 (by decide +kernel) (by decide +kernel)) (gW_at 34 (by decide +kernel) (by decide +kernel)) ?_
    rw [hG.nn]
    refine cE (hG.new (row_la k hk64)) (fun M hG => ?_)
    refine E_dup dX8_init_34 rfl ?_
    refine E_room (fr' := 2) (k' := 0 + r) (n' := 0 + 13 * r) (Nat.le_refl _) (by omega) (by omega) ?_
    refine E_callI0 (fr' := 1) (k1 := 0) (n1 := 0) (k2 := r) (n2 := 13 * r) dX8_init_35 kO_X2_init kL_X8_21 (hG.lt (a := 8 + k) (by omega)) (by decide) (by decide) (by exact Nat.le_of_ble_eq_true rfl) rfl ?_
    refine sp_X2_init ?_
    refine gKn ?_
    refine E_aast dX8_init_38 (hG.lt (a := 7) (by omega)) (hG.kd (a := 7) (by omega) rfl) (by decide) (by decide) (hG.lt (a := 8 + k) (by omega)) (hG.kd (a := 8 + k) (by omega) (row_la k hk64)) (by decide) rfl (j := k) rfl hk64 (by decide) ?_
    refine cE (hG.ref (by omega) (row_fr k hk64)) (fun M hG => ?_)
    refine E_iinc_n (d := 1) dX8_init_39 rfl rfl rfl (by decide) rfl ?_
    refine E_goto (tgt := 20) dX8_init_42 (by decide) ?_
    exact ih (k + 1) (by omega) M hG
set_option maxRecDepth 100000 in
set_option maxHeartbeats 4000000 in
theorem ci_X8_init_6 {g : gG} {Q : Option Value ⊕ String → gM → Prop} {M : gM} (hG : gG0 7 5 1 M) (K : ∀ M, gG0 72 70 1 M → Q (.inl none) M) : E g 2 65 896 mX8_init 0 [.ref 7, .null] [] M Q := by
  refine E_aload_n dX8_init_0 rfl ?_
  refine E_objInit dX8_init_1 (gW_at 99 (by decide +kernel) (by decide +kernel)) (gW_at 57 (by decide +kernel) (by decide +kernel)) (gW_at 58 (by decide +kernel) (by decide +kernel)) (by decide) (by exact Nat.le_of_ble_eq_true rfl) ?_
  refine E_aload_n dX8_init_4 rfl ?_
  refine E_bipush (v := nI 64) dX8_init_5 (by decide) ?_
  refine E_newA (t := 19) (len := 64) (k := 64) (n := 832) dX8_init_7 (Or.inr (Or.inr ⟨rfl, rfl⟩)) (gW_at 100 (by decide +kernel) (by decide +kernel)) rfl (by decide) ?_
  rw [hG.nn]
  refine cE (hG.new (by decide +kernel)) (fun M hG => ?_)
  refine E_putR dX8_init_10 kF_X8_11 kY_8 (Or.inr ⟨_, rfl⟩) (hG.lt (a := 6) (by decide)) (hG.kd (a := 6) (by decide) rfl) (Or.inr ⟨rfl, rfl, rfl⟩) ?_
  refine cE (hG.ref (by decide) (by decide +kernel)) (fun M hG => ?_)
  refine E_aload_n dX8_init_13 rfl ?_
  refine E_iconst (v := nI 0) dX8_init_14 (by decide) ?_
  refine E_putI dX8_init_15 kF_X8_17 kY_8 (Or.inl rfl) (hG.lt (a := 6) (by decide)) (hG.kd (a := 6) (by decide) rfl) (Or.inl rfl) ?_
  refine cE (hG.z (by decide +kernel)) (fun M hG => ?_)
  refine E_iconst (v := nI 0) dX8_init_18 (by decide) ?_
  refine E_istore_n dX8_init_19 (Nat.le_of_ble_eq_true rfl) (by decide) rfl ?_
  exact lp_X8_init K 64 0 rfl M hG
set_option maxRecDepth 100000 in
set_option maxHeartbeats 4000000 in
theorem ci_X5_init_72 {g : gG} {Q : Option Value ⊕ String → gM → Prop} {M : gM} (hG : gG0 73 71 1 M) (K : ∀ M, gG0 73 72 1 M → Q (.inl none) M) : E g 1 0 0 mX5_init 0 [.ref 73, .ref 7] [] M Q := by
  refine E_aload_n dX5_init_0 rfl ?_
  refine E_objInit dX5_init_1 (gW_at 193 (by decide +kernel) (by decide +kernel)) (gW_at 57 (by decide +kernel) (by decide +kernel)) (gW_at 58 (by decide +kernel) (by decide +kernel)) (by decide) (by exact Nat.le_of_ble_eq_true rfl) ?_
  refine E_aload_n dX5_init_4 rfl ?_
  refine E_aload_n dX5_init_5 rfl ?_
  refine E_putR dX5_init_6 kF_X5_9 kY_5 (Or.inl ⟨_, rfl⟩) (hG.lt (a := 72) (by decide)) (hG.kd (a := 72) (by decide) rfl) (Or.inr ⟨rfl, rfl, rfl⟩) ?_
  refine cE (hG.ref (by decide) (by decide +kernel)) (fun M hG => ?_)
  refine E_vret dX5_init_9 rfl ?_
  exact K M hG
set_option maxRecDepth 100000 in
set_option maxHeartbeats 4000000 in
theorem ci_X0_init_73 {g : gG} {Q : Option Value ⊕ String → gM → Prop} {M : gM} (hG : gG0 74 73 1 M) (K : ∀ M, gG0 75 75 1 M → Q (.inl none) M) : E g 1 1 3 mX0_init 0 [.ref 74, .ref 7] [] M Q := by
  refine E_aload_n dX0_init_0 rfl ?_
  refine E_objInit dX0_init_1 (gW_at 203 (by decide +kernel) (by decide +kernel)) (gW_at 57 (by decide +kernel) (by decide +kernel)) (gW_at 58 (by decide +kernel) (by decide +kernel)) (by decide) (by exact Nat.le_of_ble_eq_true rfl) ?_
  refine E_aload_n dX0_init_4 rfl ?_
  refine E_iconst (v := nI 3) dX0_init_5 (by decide) ?_
  refine E_newI (len := 3) (k := 0) (n := 0) dX0_init_6 (gW_at 92 (by decide +kernel) (by decide +kernel)) rfl (by decide) ?_
  rw [hG.nn]
  refine cE (hG.new (by decide +kernel)) (fun M hG => ?_)
  refine E_putR dX0_init_8 kF_X0_9 kY_0 (Or.inr ⟨_, rfl⟩) (hG.lt (a := 73) (by decide)) (hG.kd (a := 73) (by decide) rfl) (Or.inr ⟨rfl, rfl, rfl⟩) ?_
  refine cE (hG.ref (by decide) (by decide +kernel)) (fun M hG => ?_)
  refine E_aload_n dX0_init_11 rfl ?_
  refine E_null dX0_init_12 ?_
  refine E_putR dX0_init_13 kF_X0_15 kY_0 (Or.inl ⟨_, rfl⟩) (hG.lt (a := 73) (by decide)) (hG.kd (a := 73) (by decide) rfl) (Or.inl rfl) ?_
  refine cE (hG.nul (by decide +kernel)) (fun M hG => ?_)
  refine E_aload_n dX0_init_16 rfl ?_
  refine E_iconst (v := nI 1) dX0_init_17 (by decide) ?_
  refine E_putI dX0_init_18 kF_X0_19 kY_0 (Or.inr ⟨rfl, by decide⟩) (hG.lt (a := 73) (by decide)) (hG.kd (a := 73) (by decide) rfl) (Or.inl rfl) ?_
  refine cE (hG.is (by decide +kernel) (by unfold S0; decide)) (fun M hG => ?_)
  refine E_aload_n dX0_init_21 rfl ?_
  refine E_bipush (v := -100) dX0_init_22 (by decide) ?_
  refine E_putI dX0_init_24 kF_X0_23 kY_0 (Or.inl rfl) (hG.lt (a := 73) (by decide)) (hG.kd (a := 73) (by decide) rfl) (Or.inl rfl) ?_
  refine cE (hG.is (by decide +kernel) (by unfold S0; decide)) (fun M hG => ?_)
  refine E_aload_n dX0_init_27 rfl ?_
  refine E_bipush (v := -100) dX0_init_28 (by decide) ?_
  refine E_putI dX0_init_30 kF_X0_27 kY_0 (Or.inl rfl) (hG.lt (a := 73) (by decide)) (hG.kd (a := 73) (by decide) rfl) (Or.inl rfl) ?_
  refine cE (hG.is (by decide +kernel) (by unfold S0; decide)) (fun M hG => ?_)
  refine E_aload_n dX0_init_33 rfl ?_
  refine E_bipush (v := -100) dX0_init_34 (by decide) ?_
  refine E_putI dX0_init_36 kF_X0_30 kY_0 (Or.inl rfl) (hG.lt (a := 73) (by decide)) (hG.kd (a := 73) (by decide) rfl) (Or.inl rfl) ?_
  refine cE (hG.is (by decide +kernel) (by unfold S0; decide)) (fun M hG => ?_)
  refine E_aload_n dX0_init_39 rfl ?_
  refine E_bipush (v := -100) dX0_init_40 (by decide) ?_
  refine E_putI dX0_init_42 kF_X0_33 kY_0 (Or.inl rfl) (hG.lt (a := 73) (by decide)) (hG.kd (a := 73) (by decide) rfl) (Or.inl rfl) ?_
  refine cE (hG.is (by decide +kernel) (by unfold S0; decide)) (fun M hG => ?_)
  refine E_aload_n dX0_init_45 rfl ?_
  refine E_bipush (v := -100) dX0_init_46 (by decide) ?_
  refine E_putI dX0_init_48 kF_X0_36 kY_0 (Or.inl rfl) (hG.lt (a := 73) (by decide)) (hG.kd (a := 73) (by decide) rfl) (Or.inl rfl) ?_
  refine cE (hG.is (by decide +kernel) (by unfold S0; decide)) (fun M hG => ?_)
  refine E_aload_n dX0_init_51 rfl ?_
  refine E_aload_n dX0_init_52 rfl ?_
  refine E_putR dX0_init_53 kF_X0_39 kY_0 (Or.inl ⟨_, rfl⟩) (hG.lt (a := 73) (by decide)) (hG.kd (a := 73) (by decide) rfl) (Or.inr ⟨rfl, rfl, rfl⟩) ?_
  refine cE (hG.ref (by decide) (by decide +kernel)) (fun M hG => ?_)
  refine E_vret dX0_init_56 rfl ?_
  exact K M hG
set_option maxRecDepth 100000 in
set_option maxHeartbeats 4000000 in
theorem ci_X7_init_75 {g : gG} {Q : Option Value ⊕ String → gM → Prop} {M : gM} (hG : gG0 76 76 1 M) (K : ∀ M, gG0 76 77 1 M → Q (.inl none) M) : E g 1 0 0 mX7_init 0 [.ref 76, .ref 7] [] M Q := by
  refine E_aload_n dX7_init_0 rfl ?_
  refine E_objInit dX7_init_1 (gW_at 237 (by decide +kernel) (by decide +kernel)) (gW_at 57 (by decide +kernel) (by decide +kernel)) (gW_at 58 (by decide +kernel) (by decide +kernel)) (by decide) (by exact Nat.le_of_ble_eq_true rfl) ?_
  refine E_aload_n dX7_init_4 rfl ?_
  refine E_null dX7_init_5 ?_
  refine E_putR dX7_init_6 kF_X7_9 kY_7 (Or.inl ⟨_, rfl⟩) (hG.lt (a := 75) (by decide)) (hG.kd (a := 75) (by decide) rfl) (Or.inl rfl) ?_
  refine cE (hG.nul (by decide +kernel)) (fun M hG => ?_)
  refine E_aload_n dX7_init_9 rfl ?_
  refine E_iconst (v := nI 1) dX7_init_10 (by decide) ?_
  refine E_putI dX7_init_11 kF_X7_15 kY_7 (Or.inr ⟨rfl, by decide⟩) (hG.lt (a := 75) (by decide)) (hG.kd (a := 75) (by decide) rfl) (Or.inl rfl) ?_
  refine cE (hG.is (by decide +kernel) (by unfold S0; decide)) (fun M hG => ?_)
  refine E_aload_n dX7_init_14 rfl ?_
  refine E_aload_n dX7_init_15 rfl ?_
  refine E_putR dX7_init_16 kF_X7_19 kY_7 (Or.inl ⟨_, rfl⟩) (hG.lt (a := 75) (by decide)) (hG.kd (a := 75) (by decide) rfl) (Or.inr ⟨rfl, rfl, rfl⟩) ?_
  refine cE (hG.ref (by decide) (by decide +kernel)) (fun M hG => ?_)
  refine E_vret dX7_init_19 rfl ?_
  exact K M hG
set_option maxRecDepth 100000 in
set_option maxHeartbeats 4000000 in
theorem ci_X3_init_76 {g : gG} {Q : Option Value ⊕ String → gM → Prop} {M : gM} (hG : gG0 77 78 1 M) (K : ∀ M, gG0 78 79 1 M → Q (.inl none) M) : E g 1 1 16 mX3_init 0 [.ref 77] [] M Q := by
  refine E_aload_n dX3_init_0 rfl ?_
  refine E_objInit dX3_init_1 (gW_at 253 (by decide +kernel) (by decide +kernel)) (gW_at 57 (by decide +kernel) (by decide +kernel)) (gW_at 58 (by decide +kernel) (by decide +kernel)) (by decide) (by exact Nat.le_of_ble_eq_true rfl) ?_
  refine E_aload_n dX3_init_4 rfl ?_
  refine E_bipush (v := nI 16) dX3_init_5 (by decide) ?_
  refine E_newI (len := 16) (k := 0) (n := 0) dX3_init_7 (gW_at 92 (by decide +kernel) (by decide +kernel)) rfl (by decide) ?_
  rw [hG.nn]
  refine cE (hG.new (by decide +kernel)) (fun M hG => ?_)
  refine E_putR dX3_init_9 kF_X3_9 kY_3 (Or.inr ⟨_, rfl⟩) (hG.lt (a := 76) (by decide)) (hG.kd (a := 76) (by decide) rfl) (Or.inr ⟨rfl, rfl, rfl⟩) ?_
  refine cE (hG.ref (by decide) (by decide +kernel)) (fun M hG => ?_)
  refine E_aload_n dX3_init_12 rfl ?_
  refine E_iconst (v := nI 0) dX3_init_13 (by decide) ?_
  refine E_putI dX3_init_14 kF_X3_15 kY_3 (Or.inr ⟨rfl, by decide⟩) (hG.lt (a := 76) (by decide)) (hG.kd (a := 76) (by decide) rfl) (Or.inl rfl) ?_
  refine cE (hG.z (by decide +kernel)) (fun M hG => ?_)
  refine E_aload_n dX3_init_17 rfl ?_
  refine E_iconst (v := nI 0) dX3_init_18 (by decide) ?_
  refine E_putI dX3_init_19 kF_X3_19 kY_3 (Or.inl rfl) (hG.lt (a := 76) (by decide)) (hG.kd (a := 76) (by decide) rfl) (Or.inl rfl) ?_
  refine cE (hG.z (by decide +kernel)) (fun M hG => ?_)
  refine E_vret dX3_init_22 rfl ?_
  exact K M hG
set_option maxRecDepth 100000 in
set_option maxHeartbeats 4000000 in
theorem ci_X9_init_79 {g : gG} {Q : Option Value ⊕ String → gM → Prop} {M : gM} (hG : gG0 80 80 1 M) (K : ∀ M, gG0 90 90 1 M → Q (.inl none) M) : E g 1 10 160 mX9_init 0 [.ref 80] [] M Q := by
  refine E_aload_n dX9_init_0 rfl ?_
  refine E_objInit dX9_init_1 (gW_at 278 (by decide +kernel) (by decide +kernel)) (gW_at 57 (by decide +kernel) (by decide +kernel)) (gW_at 58 (by decide +kernel) (by decide +kernel)) (by decide) (by exact Nat.le_of_ble_eq_true rfl) ?_
  refine E_aload_n dX9_init_4 rfl ?_
  refine E_bipush (v := nI 16) dX9_init_5 (by decide) ?_
  refine E_newI (len := 16) (k := 9) (n := 144) dX9_init_7 (gW_at 92 (by decide +kernel) (by decide +kernel)) rfl (by decide) ?_
  rw [hG.nn]
  refine cE (hG.new (by decide +kernel)) (fun M hG => ?_)
  refine E_putR dX9_init_9 kF_X9_9 kY_9 (Or.inr ⟨_, rfl⟩) (hG.lt (a := 79) (by decide)) (hG.kd (a := 79) (by decide) rfl) (Or.inr ⟨rfl, rfl, rfl⟩) ?_
  refine cE (hG.ref (by decide) (by decide +kernel)) (fun M hG => ?_)
  refine E_aload_n dX9_init_12 rfl ?_
  refine E_bipush (v := nI 16) dX9_init_13 (by decide) ?_
  refine E_newI (len := 16) (k := 8) (n := 128) dX9_init_15 (gW_at 92 (by decide +kernel) (by decide +kernel)) rfl (by decide) ?_
  rw [hG.nn]
  refine cE (hG.new (by decide +kernel)) (fun M hG => ?_)
  refine E_putR dX9_init_17 kF_X9_15 kY_9 (Or.inr ⟨_, rfl⟩) (hG.lt (a := 79) (by decide)) (hG.kd (a := 79) (by decide) rfl) (Or.inr ⟨rfl, rfl, rfl⟩) ?_
  refine cE (hG.ref (by decide) (by decide +kernel)) (fun M hG => ?_)
  refine E_aload_n dX9_init_20 rfl ?_
  refine E_bipush (v := nI 16) dX9_init_21 (by decide) ?_
  refine E_newZ (len := 16) (k := 7) (n := 112) dX9_init_23 (gW_at 93 (by decide +kernel) (by decide +kernel)) rfl (by decide) ?_
  rw [hG.nn]
  refine cE (hG.new (by decide +kernel)) (fun M hG => ?_)
  refine E_putR dX9_init_25 kF_X9_18 kY_9 (Or.inr ⟨_, rfl⟩) (hG.lt (a := 79) (by decide)) (hG.kd (a := 79) (by decide) rfl) (Or.inr ⟨rfl, rfl, rfl⟩) ?_
  refine cE (hG.ref (by decide) (by decide +kernel)) (fun M hG => ?_)
  refine E_aload_n dX9_init_28 rfl ?_
  refine E_bipush (v := nI 16) dX9_init_29 (by decide) ?_
  refine E_newI (len := 16) (k := 6) (n := 96) dX9_init_31 (gW_at 92 (by decide +kernel) (by decide +kernel)) rfl (by decide) ?_
  rw [hG.nn]
  refine cE (hG.new (by decide +kernel)) (fun M hG => ?_)
  refine E_putR dX9_init_33 kF_X9_22 kY_9 (Or.inr ⟨_, rfl⟩) (hG.lt (a := 79) (by decide)) (hG.kd (a := 79) (by decide) rfl) (Or.inr ⟨rfl, rfl, rfl⟩) ?_
  refine cE (hG.ref (by decide) (by decide +kernel)) (fun M hG => ?_)
  refine E_aload_n dX9_init_36 rfl ?_
  refine E_bipush (v := nI 16) dX9_init_37 (by decide) ?_
  refine E_newI (len := 16) (k := 5) (n := 80) dX9_init_39 (gW_at 92 (by decide +kernel) (by decide +kernel)) rfl (by decide) ?_
  rw [hG.nn]
  refine cE (hG.new (by decide +kernel)) (fun M hG => ?_)
  refine E_putR dX9_init_41 kF_X9_25 kY_9 (Or.inr ⟨_, rfl⟩) (hG.lt (a := 79) (by decide)) (hG.kd (a := 79) (by decide) rfl) (Or.inr ⟨rfl, rfl, rfl⟩) ?_
  refine cE (hG.ref (by decide) (by decide +kernel)) (fun M hG => ?_)
  refine E_aload_n dX9_init_44 rfl ?_
  refine E_bipush (v := nI 16) dX9_init_45 (by decide) ?_
  refine E_newI (len := 16) (k := 4) (n := 64) dX9_init_47 (gW_at 92 (by decide +kernel) (by decide +kernel)) rfl (by decide) ?_
  rw [hG.nn]
  refine cE (hG.new (by decide +kernel)) (fun M hG => ?_)
  refine E_putR dX9_init_49 kF_X9_28 kY_9 (Or.inr ⟨_, rfl⟩) (hG.lt (a := 79) (by decide)) (hG.kd (a := 79) (by decide) rfl) (Or.inr ⟨rfl, rfl, rfl⟩) ?_
  refine cE (hG.ref (by decide) (by decide +kernel)) (fun M hG => ?_)
  refine E_aload_n dX9_init_52 rfl ?_
  refine E_bipush (v := nI 16) dX9_init_53 (by decide) ?_
  refine E_newI (len := 16) (k := 3) (n := 48) dX9_init_55 (gW_at 92 (by decide +kernel) (by decide +kernel)) rfl (by decide) ?_
  rw [hG.nn]
  refine cE (hG.new (by decide +kernel)) (fun M hG => ?_)
  refine E_putR dX9_init_57 kF_X9_31 kY_9 (Or.inr ⟨_, rfl⟩) (hG.lt (a := 79) (by decide)) (hG.kd (a := 79) (by decide) rfl) (Or.inr ⟨rfl, rfl, rfl⟩) ?_
  refine cE (hG.ref (by decide) (by decide +kernel)) (fun M hG => ?_)
  refine E_aload_n dX9_init_60 rfl ?_
  refine E_bipush (v := nI 16) dX9_init_61 (by decide) ?_
  refine E_newI (len := 16) (k := 2) (n := 32) dX9_init_63 (gW_at 92 (by decide +kernel) (by decide +kernel)) rfl (by decide) ?_
  rw [hG.nn]
  refine cE (hG.new (by decide +kernel)) (fun M hG => ?_)
  refine E_putR dX9_init_65 kF_X9_34 kY_9 (Or.inr ⟨_, rfl⟩) (hG.lt (a := 79) (by decide)) (hG.kd (a := 79) (by decide) rfl) (Or.inr ⟨rfl, rfl, rfl⟩) ?_
  refine cE (hG.ref (by decide) (by decide +kernel)) (fun M hG => ?_)
  refine E_aload_n dX9_init_68 rfl ?_
  refine E_bipush (v := nI 16) dX9_init_69 (by decide) ?_
  refine E_newI (len := 16) (k := 1) (n := 16) dX9_init_71 (gW_at 92 (by decide +kernel) (by decide +kernel)) rfl (by decide) ?_
  rw [hG.nn]
  refine cE (hG.new (by decide +kernel)) (fun M hG => ?_)
  refine E_putR dX9_init_73 kF_X9_37 kY_9 (Or.inr ⟨_, rfl⟩) (hG.lt (a := 79) (by decide)) (hG.kd (a := 79) (by decide) rfl) (Or.inr ⟨rfl, rfl, rfl⟩) ?_
  refine cE (hG.ref (by decide) (by decide +kernel)) (fun M hG => ?_)
  refine E_aload_n dX9_init_76 rfl ?_
  refine E_bipush (v := nI 16) dX9_init_77 (by decide) ?_
  refine E_newI (len := 16) (k := 0) (n := 0) dX9_init_79 (gW_at 92 (by decide +kernel) (by decide +kernel)) rfl (by decide) ?_
  rw [hG.nn]
  refine cE (hG.new (by decide +kernel)) (fun M hG => ?_)
  refine E_putR dX9_init_81 kF_X9_40 kY_9 (Or.inr ⟨_, rfl⟩) (hG.lt (a := 79) (by decide)) (hG.kd (a := 79) (by decide) rfl) (Or.inr ⟨rfl, rfl, rfl⟩) ?_
  refine cE (hG.ref (by decide) (by decide +kernel)) (fun M hG => ?_)
  refine E_aload_n dX9_init_84 rfl ?_
  refine E_iconst (v := nI 0) dX9_init_85 (by decide) ?_
  refine E_putI dX9_init_86 kF_X9_43 kY_9 (Or.inl rfl) (hG.lt (a := 79) (by decide)) (hG.kd (a := 79) (by decide) rfl) (Or.inl rfl) ?_
  refine cE (hG.z (by decide +kernel)) (fun M hG => ?_)
  refine E_vret dX9_init_89 rfl ?_
  exact K M hG
set_option maxRecDepth 100000 in
set_option maxHeartbeats 4000000 in
theorem ci_X6_init_78 {g : gG} {Q : Option Value ⊕ String → gM → Prop} {M : gM} (hG : gG0 79 80 1 M) (K : ∀ M, gG0 98 99 1 M → Q (.inl none) M) : E g 2 19 8363 mX6_init 0 [.ref 79] [] M Q := by
  refine E_aload_n dX6_init_0 rfl ?_
  refine E_objInit dX6_init_1 (gW_at 272 (by decide +kernel) (by decide +kernel)) (gW_at 57 (by decide +kernel) (by decide +kernel)) (gW_at 58 (by decide +kernel) (by decide +kernel)) (by decide) (by exact Nat.le_of_ble_eq_true rfl) ?_
  refine E_aload_n dX6_init_4 rfl ?_
  refine E_new (c := 9) (k := 18) (n := 8352) dX6_init_5 (by decide) kY_9 (gW_at 273 (by decide +kernel) (by decide +kernel)) (gW_at 274 (by decide +kernel) (by decide +kernel)) (gW_at 40 (by decide +kernel) (by decide +kernel)) ?_
  rw [hG.nn]
  refine cE (hG.new (by decide +kernel)) (fun M hG => ?_)
  refine E_dup dX6_init_8 rfl ?_
  refine E_callI0 (fr' := 1) (k1 := 10) (n1 := 160) (k2 := 8) (n2 := 8192) dX6_init_9 kO_X9_init kL_X6_11 (hG.lt (a := 79) (by decide))  (by decide) (by decide) (by exact Nat.le_of_ble_eq_true rfl) rfl ?_
  refine ci_X9_init_79 hG (fun M hG => ?_)
  refine gKn ?_
  refine E_putR dX6_init_12 kF_X6_12 kY_6 (Or.inl ⟨_, rfl⟩) (hG.lt (a := 78) (by decide)) (hG.kd (a := 78) (by decide) rfl) (Or.inr ⟨rfl, rfl, rfl⟩) ?_
  refine cE (hG.ref (by decide) (by decide +kernel)) (fun M hG => ?_)
  refine E_aload_n dX6_init_15 rfl ?_
  refine E_sipush (v := nI 1024) dX6_init_16 (by decide) ?_
  refine E_newI (len := 1024) (k := 7) (n := 7168) dX6_init_19 (gW_at 92 (by decide +kernel) (by decide +kernel)) rfl (by decide) ?_
  rw [hG.nn]
  refine cE (hG.new (by decide +kernel)) (fun M hG => ?_)
  refine E_putR dX6_init_21 kF_X6_18 kY_6 (Or.inr ⟨_, rfl⟩) (hG.lt (a := 78) (by decide)) (hG.kd (a := 78) (by decide) rfl) (Or.inr ⟨rfl, rfl, rfl⟩) ?_
  refine cE (hG.ref (by decide) (by decide +kernel)) (fun M hG => ?_)
  refine E_aload_n dX6_init_24 rfl ?_
  refine E_sipush (v := nI 1024) dX6_init_25 (by decide) ?_
  refine E_newI (len := 1024) (k := 6) (n := 6144) dX6_init_28 (gW_at 92 (by decide +kernel) (by decide +kernel)) rfl (by decide) ?_
  rw [hG.nn]
  refine cE (hG.new (by decide +kernel)) (fun M hG => ?_)
  refine E_putR dX6_init_30 kF_X6_22 kY_6 (Or.inr ⟨_, rfl⟩) (hG.lt (a := 78) (by decide)) (hG.kd (a := 78) (by decide) rfl) (Or.inr ⟨rfl, rfl, rfl⟩) ?_
  refine cE (hG.ref (by decide) (by decide +kernel)) (fun M hG => ?_)
  refine E_aload_n dX6_init_33 rfl ?_
  refine E_sipush (v := nI 1024) dX6_init_34 (by decide) ?_
  refine E_newI (len := 1024) (k := 5) (n := 5120) dX6_init_37 (gW_at 92 (by decide +kernel) (by decide +kernel)) rfl (by decide) ?_
  rw [hG.nn]
  refine cE (hG.new (by decide +kernel)) (fun M hG => ?_)
  refine E_putR dX6_init_39 kF_X6_25 kY_6 (Or.inr ⟨_, rfl⟩) (hG.lt (a := 78) (by decide)) (hG.kd (a := 78) (by decide) rfl) (Or.inr ⟨rfl, rfl, rfl⟩) ?_
  refine cE (hG.ref (by decide) (by decide +kernel)) (fun M hG => ?_)
  refine E_aload_n dX6_init_42 rfl ?_
  refine E_sipush (v := nI 1024) dX6_init_43 (by decide) ?_
  refine E_newI (len := 1024) (k := 4) (n := 4096) dX6_init_46 (gW_at 92 (by decide +kernel) (by decide +kernel)) rfl (by decide) ?_
  rw [hG.nn]
  refine cE (hG.new (by decide +kernel)) (fun M hG => ?_)
  refine E_putR dX6_init_48 kF_X6_28 kY_6 (Or.inr ⟨_, rfl⟩) (hG.lt (a := 78) (by decide)) (hG.kd (a := 78) (by decide) rfl) (Or.inr ⟨rfl, rfl, rfl⟩) ?_
  refine cE (hG.ref (by decide) (by decide +kernel)) (fun M hG => ?_)
  refine E_aload_n dX6_init_51 rfl ?_
  refine E_sipush (v := nI 1024) dX6_init_52 (by decide) ?_
  refine E_newI (len := 1024) (k := 3) (n := 3072) dX6_init_55 (gW_at 92 (by decide +kernel) (by decide +kernel)) rfl (by decide) ?_
  rw [hG.nn]
  refine cE (hG.new (by decide +kernel)) (fun M hG => ?_)
  refine E_putR dX6_init_57 kF_X6_31 kY_6 (Or.inr ⟨_, rfl⟩) (hG.lt (a := 78) (by decide)) (hG.kd (a := 78) (by decide) rfl) (Or.inr ⟨rfl, rfl, rfl⟩) ?_
  refine cE (hG.ref (by decide) (by decide +kernel)) (fun M hG => ?_)
  refine E_aload_n dX6_init_60 rfl ?_
  refine E_sipush (v := nI 1024) dX6_init_61 (by decide) ?_
  refine E_newI (len := 1024) (k := 2) (n := 2048) dX6_init_64 (gW_at 92 (by decide +kernel) (by decide +kernel)) rfl (by decide) ?_
  rw [hG.nn]
  refine cE (hG.new (by decide +kernel)) (fun M hG => ?_)
  refine E_putR dX6_init_66 kF_X6_34 kY_6 (Or.inr ⟨_, rfl⟩) (hG.lt (a := 78) (by decide)) (hG.kd (a := 78) (by decide) rfl) (Or.inr ⟨rfl, rfl, rfl⟩) ?_
  refine cE (hG.ref (by decide) (by decide +kernel)) (fun M hG => ?_)
  refine E_aload_n dX6_init_69 rfl ?_
  refine E_sipush (v := nI 1024) dX6_init_70 (by decide) ?_
  refine E_newI (len := 1024) (k := 1) (n := 1024) dX6_init_73 (gW_at 92 (by decide +kernel) (by decide +kernel)) rfl (by decide) ?_
  rw [hG.nn]
  refine cE (hG.new (by decide +kernel)) (fun M hG => ?_)
  refine E_putR dX6_init_75 kF_X6_37 kY_6 (Or.inr ⟨_, rfl⟩) (hG.lt (a := 78) (by decide)) (hG.kd (a := 78) (by decide) rfl) (Or.inr ⟨rfl, rfl, rfl⟩) ?_
  refine cE (hG.ref (by decide) (by decide +kernel)) (fun M hG => ?_)
  refine E_aload_n dX6_init_78 rfl ?_
  refine E_sipush (v := nI 1024) dX6_init_79 (by decide) ?_
  refine E_newI (len := 1024) (k := 0) (n := 0) dX6_init_82 (gW_at 92 (by decide +kernel) (by decide +kernel)) rfl (by decide) ?_
  rw [hG.nn]
  refine cE (hG.new (by decide +kernel)) (fun M hG => ?_)
  refine E_putR dX6_init_84 kF_X6_40 kY_6 (Or.inr ⟨_, rfl⟩) (hG.lt (a := 78) (by decide)) (hG.kd (a := 78) (by decide) rfl) (Or.inr ⟨rfl, rfl, rfl⟩) ?_
  refine cE (hG.ref (by decide) (by decide +kernel)) (fun M hG => ?_)
  refine E_aload_n dX6_init_87 rfl ?_
  refine E_iconst (v := nI 0) dX6_init_88 (by decide) ?_
  refine E_putI dX6_init_89 kF_X6_43 kY_6 (Or.inl rfl) (hG.lt (a := 78) (by decide)) (hG.kd (a := 78) (by decide) rfl) (Or.inl rfl) ?_
  refine cE (hG.z (by decide +kernel)) (fun M hG => ?_)
  refine E_aload_n dX6_init_92 rfl ?_
  refine E_iconst (v := nI 0) dX6_init_93 (by decide) ?_
  refine E_putI dX6_init_94 kF_X6_47 kY_6 (Or.inl rfl) (hG.lt (a := 78) (by decide)) (hG.kd (a := 78) (by decide) rfl) (Or.inl rfl) ?_
  refine cE (hG.z (by decide +kernel)) (fun M hG => ?_)
  refine E_vret dX6_init_97 rfl ?_
  exact K M hG
set_option maxRecDepth 100000 in
set_option maxHeartbeats 4000000 in
theorem ci_X9_init_99 {g : gG} {Q : Option Value ⊕ String → gM → Prop} {M : gM} (hG : gG0 100 100 1 M) (K : ∀ M, gG0 110 110 1 M → Q (.inl none) M) : E g 1 10 160 mX9_init 0 [.ref 100] [] M Q := by
  refine E_aload_n dX9_init_0 rfl ?_
  refine E_objInit dX9_init_1 (gW_at 278 (by decide +kernel) (by decide +kernel)) (gW_at 57 (by decide +kernel) (by decide +kernel)) (gW_at 58 (by decide +kernel) (by decide +kernel)) (by decide) (by exact Nat.le_of_ble_eq_true rfl) ?_
  refine E_aload_n dX9_init_4 rfl ?_
  refine E_bipush (v := nI 16) dX9_init_5 (by decide) ?_
  refine E_newI (len := 16) (k := 9) (n := 144) dX9_init_7 (gW_at 92 (by decide +kernel) (by decide +kernel)) rfl (by decide) ?_
  rw [hG.nn]
  refine cE (hG.new (by decide +kernel)) (fun M hG => ?_)
  refine E_putR dX9_init_9 kF_X9_9 kY_9 (Or.inr ⟨_, rfl⟩) (hG.lt (a := 99) (by decide)) (hG.kd (a := 99) (by decide) rfl) (Or.inr ⟨rfl, rfl, rfl⟩) ?_
  refine cE (hG.ref (by decide) (by decide +kernel)) (fun M hG => ?_)
  refine E_aload_n dX9_init_12 rfl ?_
  refine E_bipush (v := nI 16) dX9_init_13 (by decide) ?_
  refine E_newI (len := 16) (k := 8) (n := 128) dX9_init_15 (gW_at 92 (by decide +kernel) (by decide +kernel)) rfl (by decide) ?_
  rw [hG.nn]
  refine cE (hG.new (by decide +kernel)) (fun M hG => ?_)
  refine E_putR dX9_init_17 kF_X9_15 kY_9 (Or.inr ⟨_, rfl⟩) (hG.lt (a := 99) (by decide)) (hG.kd (a := 99) (by decide) rfl) (Or.inr ⟨rfl, rfl, rfl⟩) ?_
  refine cE (hG.ref (by decide) (by decide +kernel)) (fun M hG => ?_)
  refine E_aload_n dX9_init_20 rfl ?_
  refine E_bipush (v := nI 16) dX9_init_21 (by decide) ?_
  refine E_newZ (len := 16) (k := 7) (n := 112) dX9_init_23 (gW_at 93 (by decide +kernel) (by decide +kernel)) rfl (by decide) ?_
  rw [hG.nn]
  refine cE (hG.new (by decide +kernel)) (fun M hG => ?_)
  refine E_putR dX9_init_25 kF_X9_18 kY_9 (Or.inr ⟨_, rfl⟩) (hG.lt (a := 99) (by decide)) (hG.kd (a := 99) (by decide) rfl) (Or.inr ⟨rfl, rfl, rfl⟩) ?_
  refine cE (hG.ref (by decide) (by decide +kernel)) (fun M hG => ?_)
  refine E_aload_n dX9_init_28 rfl ?_
  refine E_bipush (v := nI 16) dX9_init_29 (by decide) ?_
  refine E_newI (len := 16) (k := 6) (n := 96) dX9_init_31 (gW_at 92 (by decide +kernel) (by decide +kernel)) rfl (by decide) ?_
  rw [hG.nn]
  refine cE (hG.new (by decide +kernel)) (fun M hG => ?_)
  refine E_putR dX9_init_33 kF_X9_22 kY_9 (Or.inr ⟨_, rfl⟩) (hG.lt (a := 99) (by decide)) (hG.kd (a := 99) (by decide) rfl) (Or.inr ⟨rfl, rfl, rfl⟩) ?_
  refine cE (hG.ref (by decide) (by decide +kernel)) (fun M hG => ?_)
  refine E_aload_n dX9_init_36 rfl ?_
  refine E_bipush (v := nI 16) dX9_init_37 (by decide) ?_
  refine E_newI (len := 16) (k := 5) (n := 80) dX9_init_39 (gW_at 92 (by decide +kernel) (by decide +kernel)) rfl (by decide) ?_
  rw [hG.nn]
  refine cE (hG.new (by decide +kernel)) (fun M hG => ?_)
  refine E_putR dX9_init_41 kF_X9_25 kY_9 (Or.inr ⟨_, rfl⟩) (hG.lt (a := 99) (by decide)) (hG.kd (a := 99) (by decide) rfl) (Or.inr ⟨rfl, rfl, rfl⟩) ?_
  refine cE (hG.ref (by decide) (by decide +kernel)) (fun M hG => ?_)
  refine E_aload_n dX9_init_44 rfl ?_
  refine E_bipush (v := nI 16) dX9_init_45 (by decide) ?_
  refine E_newI (len := 16) (k := 4) (n := 64) dX9_init_47 (gW_at 92 (by decide +kernel) (by decide +kernel)) rfl (by decide) ?_
  rw [hG.nn]
  refine cE (hG.new (by decide +kernel)) (fun M hG => ?_)
  refine E_putR dX9_init_49 kF_X9_28 kY_9 (Or.inr ⟨_, rfl⟩) (hG.lt (a := 99) (by decide)) (hG.kd (a := 99) (by decide) rfl) (Or.inr ⟨rfl, rfl, rfl⟩) ?_
  refine cE (hG.ref (by decide) (by decide +kernel)) (fun M hG => ?_)
  refine E_aload_n dX9_init_52 rfl ?_
  refine E_bipush (v := nI 16) dX9_init_53 (by decide) ?_
  refine E_newI (len := 16) (k := 3) (n := 48) dX9_init_55 (gW_at 92 (by decide +kernel) (by decide +kernel)) rfl (by decide) ?_
  rw [hG.nn]
  refine cE (hG.new (by decide +kernel)) (fun M hG => ?_)
  refine E_putR dX9_init_57 kF_X9_31 kY_9 (Or.inr ⟨_, rfl⟩) (hG.lt (a := 99) (by decide)) (hG.kd (a := 99) (by decide) rfl) (Or.inr ⟨rfl, rfl, rfl⟩) ?_
  refine cE (hG.ref (by decide) (by decide +kernel)) (fun M hG => ?_)
  refine E_aload_n dX9_init_60 rfl ?_
  refine E_bipush (v := nI 16) dX9_init_61 (by decide) ?_
  refine E_newI (len := 16) (k := 2) (n := 32) dX9_init_63 (gW_at 92 (by decide +kernel) (by decide +kernel)) rfl (by decide) ?_
  rw [hG.nn]
  refine cE (hG.new (by decide +kernel)) (fun M hG => ?_)
  refine E_putR dX9_init_65 kF_X9_34 kY_9 (Or.inr ⟨_, rfl⟩) (hG.lt (a := 99) (by decide)) (hG.kd (a := 99) (by decide) rfl) (Or.inr ⟨rfl, rfl, rfl⟩) ?_
  refine cE (hG.ref (by decide) (by decide +kernel)) (fun M hG => ?_)
  refine E_aload_n dX9_init_68 rfl ?_
  refine E_bipush (v := nI 16) dX9_init_69 (by decide) ?_
  refine E_newI (len := 16) (k := 1) (n := 16) dX9_init_71 (gW_at 92 (by decide +kernel) (by decide +kernel)) rfl (by decide) ?_
  rw [hG.nn]
  refine cE (hG.new (by decide +kernel)) (fun M hG => ?_)
  refine E_putR dX9_init_73 kF_X9_37 kY_9 (Or.inr ⟨_, rfl⟩) (hG.lt (a := 99) (by decide)) (hG.kd (a := 99) (by decide) rfl) (Or.inr ⟨rfl, rfl, rfl⟩) ?_
  refine cE (hG.ref (by decide) (by decide +kernel)) (fun M hG => ?_)
  refine E_aload_n dX9_init_76 rfl ?_
  refine E_bipush (v := nI 16) dX9_init_77 (by decide) ?_
  refine E_newI (len := 16) (k := 0) (n := 0) dX9_init_79 (gW_at 92 (by decide +kernel) (by decide +kernel)) rfl (by decide) ?_
  rw [hG.nn]
  refine cE (hG.new (by decide +kernel)) (fun M hG => ?_)
  refine E_putR dX9_init_81 kF_X9_40 kY_9 (Or.inr ⟨_, rfl⟩) (hG.lt (a := 99) (by decide)) (hG.kd (a := 99) (by decide) rfl) (Or.inr ⟨rfl, rfl, rfl⟩) ?_
  refine cE (hG.ref (by decide) (by decide +kernel)) (fun M hG => ?_)
  refine E_aload_n dX9_init_84 rfl ?_
  refine E_iconst (v := nI 0) dX9_init_85 (by decide) ?_
  refine E_putI dX9_init_86 kF_X9_43 kY_9 (Or.inl rfl) (hG.lt (a := 99) (by decide)) (hG.kd (a := 99) (by decide) rfl) (Or.inl rfl) ?_
  refine cE (hG.z (by decide +kernel)) (fun M hG => ?_)
  refine E_vret dX9_init_89 rfl ?_
  exact K M hG
set_option maxRecDepth 100000 in
set_option maxHeartbeats 4000000 in
theorem ci_X6_init_98 {g : gG} {Q : Option Value ⊕ String → gM → Prop} {M : gM} (hG : gG0 99 100 1 M) (K : ∀ M, gG0 118 119 1 M → Q (.inl none) M) : E g 2 19 8363 mX6_init 0 [.ref 99] [] M Q := by
  refine E_aload_n dX6_init_0 rfl ?_
  refine E_objInit dX6_init_1 (gW_at 272 (by decide +kernel) (by decide +kernel)) (gW_at 57 (by decide +kernel) (by decide +kernel)) (gW_at 58 (by decide +kernel) (by decide +kernel)) (by decide) (by exact Nat.le_of_ble_eq_true rfl) ?_
  refine E_aload_n dX6_init_4 rfl ?_
  refine E_new (c := 9) (k := 18) (n := 8352) dX6_init_5 (by decide) kY_9 (gW_at 273 (by decide +kernel) (by decide +kernel)) (gW_at 274 (by decide +kernel) (by decide +kernel)) (gW_at 40 (by decide +kernel) (by decide +kernel)) ?_
  rw [hG.nn]
  refine cE (hG.new (by decide +kernel)) (fun M hG => ?_)
  refine E_dup dX6_init_8 rfl ?_
  refine E_callI0 (fr' := 1) (k1 := 10) (n1 := 160) (k2 := 8) (n2 := 8192) dX6_init_9 kO_X9_init kL_X6_11 (hG.lt (a := 99) (by decide))  (by decide) (by decide) (by exact Nat.le_of_ble_eq_true rfl) rfl ?_
  refine ci_X9_init_99 hG (fun M hG => ?_)
  refine gKn ?_
  refine E_putR dX6_init_12 kF_X6_12 kY_6 (Or.inl ⟨_, rfl⟩) (hG.lt (a := 98) (by decide)) (hG.kd (a := 98) (by decide) rfl) (Or.inr ⟨rfl, rfl, rfl⟩) ?_
  refine cE (hG.ref (by decide) (by decide +kernel)) (fun M hG => ?_)
  refine E_aload_n dX6_init_15 rfl ?_
  refine E_sipush (v := nI 1024) dX6_init_16 (by decide) ?_
  refine E_newI (len := 1024) (k := 7) (n := 7168) dX6_init_19 (gW_at 92 (by decide +kernel) (by decide +kernel)) rfl (by decide) ?_
  rw [hG.nn]
  refine cE (hG.new (by decide +kernel)) (fun M hG => ?_)
  refine E_putR dX6_init_21 kF_X6_18 kY_6 (Or.inr ⟨_, rfl⟩) (hG.lt (a := 98) (by decide)) (hG.kd (a := 98) (by decide) rfl) (Or.inr ⟨rfl, rfl, rfl⟩) ?_
  refine cE (hG.ref (by decide) (by decide +kernel)) (fun M hG => ?_)
  refine E_aload_n dX6_init_24 rfl ?_
  refine E_sipush (v := nI 1024) dX6_init_25 (by decide) ?_
  refine E_newI (len := 1024) (k := 6) (n := 6144) dX6_init_28 (gW_at 92 (by decide +kernel) (by decide +kernel)) rfl (by decide) ?_
  rw [hG.nn]
  refine cE (hG.new (by decide +kernel)) (fun M hG => ?_)
  refine E_putR dX6_init_30 kF_X6_22 kY_6 (Or.inr ⟨_, rfl⟩) (hG.lt (a := 98) (by decide)) (hG.kd (a := 98) (by decide) rfl) (Or.inr ⟨rfl, rfl, rfl⟩) ?_
  refine cE (hG.ref (by decide) (by decide +kernel)) (fun M hG => ?_)
  refine E_aload_n dX6_init_33 rfl ?_
  refine E_sipush (v := nI 1024) dX6_init_34 (by decide) ?_
  refine E_newI (len := 1024) (k := 5) (n := 5120) dX6_init_37 (gW_at 92 (by decide +kernel) (by decide +kernel)) rfl (by decide) ?_
  rw [hG.nn]
  refine cE (hG.new (by decide +kernel)) (fun M hG => ?_)
  refine E_putR dX6_init_39 kF_X6_25 kY_6 (Or.inr ⟨_, rfl⟩) (hG.lt (a := 98) (by decide)) (hG.kd (a := 98) (by decide) rfl) (Or.inr ⟨rfl, rfl, rfl⟩) ?_
  refine cE (hG.ref (by decide) (by decide +kernel)) (fun M hG => ?_)
  refine E_aload_n dX6_init_42 rfl ?_
  refine E_sipush (v := nI 1024) dX6_init_43 (by decide) ?_
  refine E_newI (len := 1024) (k := 4) (n := 4096) dX6_init_46 (gW_at 92 (by decide +kernel) (by decide +kernel)) rfl (by decide) ?_
  rw [hG.nn]
  refine cE (hG.new (by decide +kernel)) (fun M hG => ?_)
  refine E_putR dX6_init_48 kF_X6_28 kY_6 (Or.inr ⟨_, rfl⟩) (hG.lt (a := 98) (by decide)) (hG.kd (a := 98) (by decide) rfl) (Or.inr ⟨rfl, rfl, rfl⟩) ?_
  refine cE (hG.ref (by decide) (by decide +kernel)) (fun M hG => ?_)
  refine E_aload_n dX6_init_51 rfl ?_
  refine E_sipush (v := nI 1024) dX6_init_52 (by decide) ?_
  refine E_newI (len := 1024) (k := 3) (n := 3072) dX6_init_55 (gW_at 92 (by decide +kernel) (by decide +kernel)) rfl (by decide) ?_
  rw [hG.nn]
  refine cE (hG.new (by decide +kernel)) (fun M hG => ?_)
  refine E_putR dX6_init_57 kF_X6_31 kY_6 (Or.inr ⟨_, rfl⟩) (hG.lt (a := 98) (by decide)) (hG.kd (a := 98) (by decide) rfl) (Or.inr ⟨rfl, rfl, rfl⟩) ?_
  refine cE (hG.ref (by decide) (by decide +kernel)) (fun M hG => ?_)
  refine E_aload_n dX6_init_60 rfl ?_
  refine E_sipush (v := nI 1024) dX6_init_61 (by decide) ?_
  refine E_newI (len := 1024) (k := 2) (n := 2048) dX6_init_64 (gW_at 92 (by decide +kernel) (by decide +kernel)) rfl (by decide) ?_
  rw [hG.nn]
  refine cE (hG.new (by decide +kernel)) (fun M hG => ?_)
  refine E_putR dX6_init_66 kF_X6_34 kY_6 (Or.inr ⟨_, rfl⟩) (hG.lt (a := 98) (by decide)) (hG.kd (a := 98) (by decide) rfl) (Or.inr ⟨rfl, rfl, rfl⟩) ?_
  refine cE (hG.ref (by decide) (by decide +kernel)) (fun M hG => ?_)
  refine E_aload_n dX6_init_69 rfl ?_
  refine E_sipush (v := nI 1024) dX6_init_70 (by decide) ?_
  refine E_newI (len := 1024) (k := 1) (n := 1024) dX6_init_73 (gW_at 92 (by decide +kernel) (by decide +kernel)) rfl (by decide) ?_
  rw [hG.nn]
  refine cE (hG.new (by decide +kernel)) (fun M hG => ?_)
  refine E_putR dX6_init_75 kF_X6_37 kY_6 (Or.inr ⟨_, rfl⟩) (hG.lt (a := 98) (by decide)) (hG.kd (a := 98) (by decide) rfl) (Or.inr ⟨rfl, rfl, rfl⟩) ?_
  refine cE (hG.ref (by decide) (by decide +kernel)) (fun M hG => ?_)
  refine E_aload_n dX6_init_78 rfl ?_
  refine E_sipush (v := nI 1024) dX6_init_79 (by decide) ?_
  refine E_newI (len := 1024) (k := 0) (n := 0) dX6_init_82 (gW_at 92 (by decide +kernel) (by decide +kernel)) rfl (by decide) ?_
  rw [hG.nn]
  refine cE (hG.new (by decide +kernel)) (fun M hG => ?_)
  refine E_putR dX6_init_84 kF_X6_40 kY_6 (Or.inr ⟨_, rfl⟩) (hG.lt (a := 98) (by decide)) (hG.kd (a := 98) (by decide) rfl) (Or.inr ⟨rfl, rfl, rfl⟩) ?_
  refine cE (hG.ref (by decide) (by decide +kernel)) (fun M hG => ?_)
  refine E_aload_n dX6_init_87 rfl ?_
  refine E_iconst (v := nI 0) dX6_init_88 (by decide) ?_
  refine E_putI dX6_init_89 kF_X6_43 kY_6 (Or.inl rfl) (hG.lt (a := 98) (by decide)) (hG.kd (a := 98) (by decide) rfl) (Or.inl rfl) ?_
  refine cE (hG.z (by decide +kernel)) (fun M hG => ?_)
  refine E_aload_n dX6_init_92 rfl ?_
  refine E_iconst (v := nI 0) dX6_init_93 (by decide) ?_
  refine E_putI dX6_init_94 kF_X6_47 kY_6 (Or.inl rfl) (hG.lt (a := 98) (by decide)) (hG.kd (a := 98) (by decide) rfl) (Or.inl rfl) ?_
  refine cE (hG.z (by decide +kernel)) (fun M hG => ?_)
  refine E_vret dX6_init_97 rfl ?_
  exact K M hG
theorem f_120_2 (k : Nat) : ∀ t ∈ wkL.take 2, ¬ (t.1 = 120 ∧ t.2.1 ≤ k ∧ k < t.2.2) := fun t ht => wk_no (by decide +kernel) ht
theorem f_122_2 (k : Nat) : ∀ t ∈ wkL.take 2, ¬ (t.1 = 122 ∧ t.2.1 ≤ k ∧ k < t.2.2) := fun t ht => wk_no (by decide +kernel) ht
set_option maxRecDepth 100000 in
set_option maxHeartbeats 4000000 in
theorem lp_X1_init_118 {g : gG} {Q : Option Value ⊕ String → gM → Prop} (K : ∀ M, gG0 123 124 4 M → Q (.inl none) M) : ∀ k, k ≤ 256 → ∀ v M, gG0 123 124 2 M → (∀ j, j < k → mI M 120 j = F1 j) → (∀ j, j < k → mI M 122 j = F2 j) → E g 2 0 0 mX1_init 47 [.ref 119, .int (nI k), v] [] M Q := by
  refine lpUp 256 (fun k hk ih => ?_)
  intro v M hG h1 h2
  refine E_iload_n dX1_init_47 rfl ?_
  refine E_sipush (v := nI 256) dX1_init_48 (by decide) ?_
  refine E_icmp_ge_n (tgt := 124) dX1_init_51 (by decide) (by omega) (by omega) (fun c_51 => ?_) (fun c_51 => ?_)
  · refine E_vret dX1_init_124 rfl ?_
    obtain rfl : k = 256 := by omega
    exact K M ((hG.ad (lo := 0) (by decide +kernel) (by decide) (fun j _ hj => h1 j hj)).ad (lo := 0) (by decide +kernel) (by decide) (fun j _ hj => h2 j hj))
  · refine E_iload_n dX1_init_54 rfl ?_
    refine E_callS1 (fr' := 1) (k1 := 0) (n1 := 0) (k2 := 0) (n2 := 0) dX1_init_55 kO_X11_isMarkOfJ kL_X1_31 rfl (by decide) (by decide) (by exact Nat.le_of_ble_eq_true rfl) (Or.inl rfl) rfl ?_
    refine sp_X11_isMarkOfJ (by omega) ?_
    refine gKv ?_
    refine E_if_ne_b (tgt := 73) dX1_init_58 (by decide) (fun c_58 => ?_) (fun c_58 => ?_)
    · have hm : iMk k := by unfold iMk; first | exact Or.inl (by assumption) | (right; omega)
      refine E_iconst (v := nI 1) dX1_init_73 (by decide) ?_
      refine E_goto (tgt := 78) dX1_init_74 (by decide) ?_
      refine E_istore_n dX1_init_78 (Nat.le_of_ble_eq_true rfl) (by decide) rfl ?_
      refine E_aload_n dX1_init_79 rfl ?_
      refine E_getRL dX1_init_80 kF_X1_17 kY_1 (Or.inr ⟨_, rfl⟩) (hG.lt (a := 118) (by decide)) (hG.kd (a := 118) (by decide) rfl) (hG.rf (i := 121) (b := 120) (by decide) (by decide +kernel)) ?_
      refine E_iload_n dX1_init_83 rfl ?_
      refine E_iload_n dX1_init_84 rfl ?_
      refine E_if_eq (tgt := 92) dX1_init_85 (by decide) (fun c0 => absurd c0 (by decide)) (fun _ => ?_)
      refine E_iconst (v := nI 0) dX1_init_88 (by decide) ?_
      refine E_goto (tgt := 94) dX1_init_89 (by decide) ?_
      refine E_iast dX1_init_94 (hG.lt (a := 120) (by decide)) (hG.kd (a := 120) (by decide) rfl) rfl (by first | omega | exact hG.n256 _) (by decide) ?_
      refine E_aload_n dX1_init_95 rfl ?_
      refine E_getRL dX1_init_96 kF_X1_24 kY_1 (Or.inr ⟨_, rfl⟩) (hG.lt (a := 118) (by decide)) (hG.kd (a := 118) (by decide) rfl) (hG.rf (i := 123) (b := 122) (by decide) (by decide +kernel)) ?_
      refine E_iload_n dX1_init_99 rfl ?_
      refine E_iload_n dX1_init_100 rfl ?_
      refine E_if_ne (tgt := 111) dX1_init_101 (by decide) (fun _ => ?_) (fun c0 => absurd (by decide) c0)
      refine E_iconst (v := nI 0) dX1_init_111 (by decide) ?_
      refine E_goto (tgt := 117) dX1_init_112 (by decide) ?_
      refine E_iast dX1_init_117 (hG.lt (a := 122) (by decide)) (hG.kd (a := 122) (by decide) rfl) rfl (by first | omega | exact hG.n256 _) (by decide) ?_
      refine E_iinc_n (d := 1) dX1_init_118 rfl rfl rfl (by decide) rfl ?_
      refine E_goto (tgt := 47) dX1_init_121 (by decide) ?_
      refine ih (by omega) _ _ ((hG.is (a := 120) (f := k) (f_120_2 k) (by unfold S0; omega)).is (a := 122) (f := k) (f_122_2 k) (by unfold S0; omega)) (fun j hj => ?_) (fun j hj => ?_)
      · refine (mI_ne (by decide)).trans ?_
        by_cases e : j = k
        · subst e; exact mI_eq.trans (by unfold F1; first | exact (cI_t hm).symm | exact (cI_f hm).symm)
        · exact (mI_nj e).trans (h1 j (by omega))
      · by_cases e : j = k
        · subst e; exact mI_eq.trans (by unfold F2; first | exact (cI_t (by first | exact Or.inl hm | omega)).symm | exact (cI_f (fun z => z.elim hm (fun z => by omega))).symm)
        · exact (mI_nj e).trans ((mI_ne (by decide)).trans (h2 j (by omega)))
    · refine E_iload_n dX1_init_61 rfl ?_
      refine E_bipush (v := nI 44) dX1_init_62 (by decide) ?_
      refine E_icmp_eq_n (tgt := 73) dX1_init_64 (by decide) (by omega) (by omega) (fun c_64 => ?_) (fun c_64 => ?_)
      · have hm : iMk k := by unfold iMk; first | exact Or.inl (by assumption) | (right; omega)
        refine E_iconst (v := nI 1) dX1_init_73 (by decide) ?_
        refine E_goto (tgt := 78) dX1_init_74 (by decide) ?_
        refine E_istore_n dX1_init_78 (Nat.le_of_ble_eq_true rfl) (by decide) rfl ?_
        refine E_aload_n dX1_init_79 rfl ?_
        refine E_getRL dX1_init_80 kF_X1_17 kY_1 (Or.inr ⟨_, rfl⟩) (hG.lt (a := 118) (by decide)) (hG.kd (a := 118) (by decide) rfl) (hG.rf (i := 121) (b := 120) (by decide) (by decide +kernel)) ?_
        refine E_iload_n dX1_init_83 rfl ?_
        refine E_iload_n dX1_init_84 rfl ?_
        refine E_if_eq (tgt := 92) dX1_init_85 (by decide) (fun c0 => absurd c0 (by decide)) (fun _ => ?_)
        refine E_iconst (v := nI 0) dX1_init_88 (by decide) ?_
        refine E_goto (tgt := 94) dX1_init_89 (by decide) ?_
        refine E_iast dX1_init_94 (hG.lt (a := 120) (by decide)) (hG.kd (a := 120) (by decide) rfl) rfl (by first | omega | exact hG.n256 _) (by decide) ?_
        refine E_aload_n dX1_init_95 rfl ?_
        refine E_getRL dX1_init_96 kF_X1_24 kY_1 (Or.inr ⟨_, rfl⟩) (hG.lt (a := 118) (by decide)) (hG.kd (a := 118) (by decide) rfl) (hG.rf (i := 123) (b := 122) (by decide) (by decide +kernel)) ?_
        refine E_iload_n dX1_init_99 rfl ?_
        refine E_iload_n dX1_init_100 rfl ?_
        refine E_if_ne (tgt := 111) dX1_init_101 (by decide) (fun _ => ?_) (fun c0 => absurd (by decide) c0)
        refine E_iconst (v := nI 0) dX1_init_111 (by decide) ?_
        refine E_goto (tgt := 117) dX1_init_112 (by decide) ?_
        refine E_iast dX1_init_117 (hG.lt (a := 122) (by decide)) (hG.kd (a := 122) (by decide) rfl) rfl (by first | omega | exact hG.n256 _) (by decide) ?_
        refine E_iinc_n (d := 1) dX1_init_118 rfl rfl rfl (by decide) rfl ?_
        refine E_goto (tgt := 47) dX1_init_121 (by decide) ?_
        refine ih (by omega) _ _ ((hG.is (a := 120) (f := k) (f_120_2 k) (by unfold S0; omega)).is (a := 122) (f := k) (f_122_2 k) (by unfold S0; omega)) (fun j hj => ?_) (fun j hj => ?_)
        · refine (mI_ne (by decide)).trans ?_
          by_cases e : j = k
          · subst e; exact mI_eq.trans (by unfold F1; first | exact (cI_t hm).symm | exact (cI_f hm).symm)
          · exact (mI_nj e).trans (h1 j (by omega))
        · by_cases e : j = k
          · subst e; exact mI_eq.trans (by unfold F2; first | exact (cI_t (by first | exact Or.inl hm | omega)).symm | exact (cI_f (fun z => z.elim hm (fun z => by omega))).symm)
          · exact (mI_nj e).trans ((mI_ne (by decide)).trans (h2 j (by omega)))
      · refine E_iload_n dX1_init_67 rfl ?_
        refine E_bipush (v := nI 65) dX1_init_68 (by decide) ?_
        refine E_icmp_ne_n (tgt := 77) dX1_init_70 (by decide) (by omega) (by omega) (fun c_70 => ?_) (fun c_70 => ?_)
        · have hm : ¬ iMk k := by unfold iMk; intro z; rcases z with z | z | z <;> first | contradiction | omega
          refine E_iconst (v := nI 0) dX1_init_77 (by decide) ?_
          refine E_istore_n dX1_init_78 (Nat.le_of_ble_eq_true rfl) (by decide) rfl ?_
          refine E_aload_n dX1_init_79 rfl ?_
          refine E_getRL dX1_init_80 kF_X1_17 kY_1 (Or.inr ⟨_, rfl⟩) (hG.lt (a := 118) (by decide)) (hG.kd (a := 118) (by decide) rfl) (hG.rf (i := 121) (b := 120) (by decide) (by decide +kernel)) ?_
          refine E_iload_n dX1_init_83 rfl ?_
          refine E_iload_n dX1_init_84 rfl ?_
          refine E_if_eq (tgt := 92) dX1_init_85 (by decide) (fun _ => ?_) (fun c0 => absurd (by decide) c0)
          refine E_bipush (v := -100) dX1_init_92 (by decide) ?_
          refine E_iast dX1_init_94 (hG.lt (a := 120) (by decide)) (hG.kd (a := 120) (by decide) rfl) rfl (by first | omega | exact hG.n256 _) (by decide) ?_
          refine E_aload_n dX1_init_95 rfl ?_
          refine E_getRL dX1_init_96 kF_X1_24 kY_1 (Or.inr ⟨_, rfl⟩) (hG.lt (a := 118) (by decide)) (hG.kd (a := 118) (by decide) rfl) (hG.rf (i := 123) (b := 122) (by decide) (by decide +kernel)) ?_
          refine E_iload_n dX1_init_99 rfl ?_
          refine E_iload_n dX1_init_100 rfl ?_
          refine E_if_ne (tgt := 111) dX1_init_101 (by decide) (fun c0 => absurd c0 (by decide)) (fun _ => ?_)
          refine E_iload_n dX1_init_104 rfl ?_
          refine E_callS1 (fr' := 1) (k1 := 0) (n1 := 0) (k2 := 0) (n2 := 0) dX1_init_105 kO_X11_isJoinerOrParter kL_X1_35 rfl (by decide) (by decide) (by exact Nat.le_of_ble_eq_true rfl) (Or.inl rfl) rfl ?_
          refine sp_X11_isJoinerOrParter (by omega) ?_
          refine gKv ?_
          refine E_if_eq_b (tgt := 115) dX1_init_108 (by decide) (fun c_108 => ?_) (fun c_108 => ?_)
          · refine E_bipush (v := nI 10) dX1_init_115 (by decide) ?_
            refine E_iast dX1_init_117 (hG.lt (a := 122) (by decide)) (hG.kd (a := 122) (by decide) rfl) rfl (by first | omega | exact hG.n256 _) (by decide) ?_
            refine E_iinc_n (d := 1) dX1_init_118 rfl rfl rfl (by decide) rfl ?_
            refine E_goto (tgt := 47) dX1_init_121 (by decide) ?_
            refine ih (by omega) _ _ ((hG.is (a := 120) (f := k) (f_120_2 k) (by unfold S0; omega)).is (a := 122) (f := k) (f_122_2 k) (by unfold S0; omega)) (fun j hj => ?_) (fun j hj => ?_)
            · refine (mI_ne (by decide)).trans ?_
              by_cases e : j = k
              · subst e; exact mI_eq.trans (by unfold F1; first | exact (cI_t hm).symm | exact (cI_f hm).symm)
              · exact (mI_nj e).trans (h1 j (by omega))
            · by_cases e : j = k
              · subst e; exact mI_eq.trans (by unfold F2; first | exact (cI_t (by first | exact Or.inl hm | omega)).symm | exact (cI_f (fun z => z.elim hm (fun z => by omega))).symm)
              · exact (mI_nj e).trans ((mI_ne (by decide)).trans (h2 j (by omega)))
          · refine E_iconst (v := nI 0) dX1_init_111 (by decide) ?_
            refine E_goto (tgt := 117) dX1_init_112 (by decide) ?_
            refine E_iast dX1_init_117 (hG.lt (a := 122) (by decide)) (hG.kd (a := 122) (by decide) rfl) rfl (by first | omega | exact hG.n256 _) (by decide) ?_
            refine E_iinc_n (d := 1) dX1_init_118 rfl rfl rfl (by decide) rfl ?_
            refine E_goto (tgt := 47) dX1_init_121 (by decide) ?_
            refine ih (by omega) _ _ ((hG.is (a := 120) (f := k) (f_120_2 k) (by unfold S0; omega)).is (a := 122) (f := k) (f_122_2 k) (by unfold S0; omega)) (fun j hj => ?_) (fun j hj => ?_)
            · refine (mI_ne (by decide)).trans ?_
              by_cases e : j = k
              · subst e; exact mI_eq.trans (by unfold F1; first | exact (cI_t hm).symm | exact (cI_f hm).symm)
              · exact (mI_nj e).trans (h1 j (by omega))
            · by_cases e : j = k
              · subst e; exact mI_eq.trans (by unfold F2; first | exact (cI_t (by first | exact Or.inl hm | omega)).symm | exact (cI_f (fun z => z.elim hm (fun z => by omega))).symm)
              · exact (mI_nj e).trans ((mI_ne (by decide)).trans (h2 j (by omega)))
        · have hm : iMk k := by unfold iMk; first | exact Or.inl (by assumption) | (right; omega)
          refine E_iconst (v := nI 1) dX1_init_73 (by decide) ?_
          refine E_goto (tgt := 78) dX1_init_74 (by decide) ?_
          refine E_istore_n dX1_init_78 (Nat.le_of_ble_eq_true rfl) (by decide) rfl ?_
          refine E_aload_n dX1_init_79 rfl ?_
          refine E_getRL dX1_init_80 kF_X1_17 kY_1 (Or.inr ⟨_, rfl⟩) (hG.lt (a := 118) (by decide)) (hG.kd (a := 118) (by decide) rfl) (hG.rf (i := 121) (b := 120) (by decide) (by decide +kernel)) ?_
          refine E_iload_n dX1_init_83 rfl ?_
          refine E_iload_n dX1_init_84 rfl ?_
          refine E_if_eq (tgt := 92) dX1_init_85 (by decide) (fun c0 => absurd c0 (by decide)) (fun _ => ?_)
          refine E_iconst (v := nI 0) dX1_init_88 (by decide) ?_
          refine E_goto (tgt := 94) dX1_init_89 (by decide) ?_
          refine E_iast dX1_init_94 (hG.lt (a := 120) (by decide)) (hG.kd (a := 120) (by decide) rfl) rfl (by first | omega | exact hG.n256 _) (by decide) ?_
          refine E_aload_n dX1_init_95 rfl ?_
          refine E_getRL dX1_init_96 kF_X1_24 kY_1 (Or.inr ⟨_, rfl⟩) (hG.lt (a := 118) (by decide)) (hG.kd (a := 118) (by decide) rfl) (hG.rf (i := 123) (b := 122) (by decide) (by decide +kernel)) ?_
          refine E_iload_n dX1_init_99 rfl ?_
          refine E_iload_n dX1_init_100 rfl ?_
          refine E_if_ne (tgt := 111) dX1_init_101 (by decide) (fun _ => ?_) (fun c0 => absurd (by decide) c0)
          refine E_iconst (v := nI 0) dX1_init_111 (by decide) ?_
          refine E_goto (tgt := 117) dX1_init_112 (by decide) ?_
          refine E_iast dX1_init_117 (hG.lt (a := 122) (by decide)) (hG.kd (a := 122) (by decide) rfl) rfl (by first | omega | exact hG.n256 _) (by decide) ?_
          refine E_iinc_n (d := 1) dX1_init_118 rfl rfl rfl (by decide) rfl ?_
          refine E_goto (tgt := 47) dX1_init_121 (by decide) ?_
          refine ih (by omega) _ _ ((hG.is (a := 120) (f := k) (f_120_2 k) (by unfold S0; omega)).is (a := 122) (f := k) (f_122_2 k) (by unfold S0; omega)) (fun j hj => ?_) (fun j hj => ?_)
          · refine (mI_ne (by decide)).trans ?_
            by_cases e : j = k
            · subst e; exact mI_eq.trans (by unfold F1; first | exact (cI_t hm).symm | exact (cI_f hm).symm)
            · exact (mI_nj e).trans (h1 j (by omega))
          · by_cases e : j = k
            · subst e; exact mI_eq.trans (by unfold F2; first | exact (cI_t (by first | exact Or.inl hm | omega)).symm | exact (cI_f (fun z => z.elim hm (fun z => by omega))).symm)
            · exact (mI_nj e).trans ((mI_ne (by decide)).trans (h2 j (by omega)))
set_option maxRecDepth 100000 in
set_option maxHeartbeats 4000000 in
theorem ci_X1_init_118 {g : gG} {Q : Option Value ⊕ String → gM → Prop} {M : gM} (hG : gG0 119 120 2 M) (K : ∀ M, gG0 123 124 4 M → Q (.inl none) M) : E g 2 4 780 mX1_init 0 [.ref 119, .null, .null] [] M Q := by
  refine E_aload_n dX1_init_0 rfl ?_
  refine E_objInit dX1_init_1 (gW_at 378 (by decide +kernel) (by decide +kernel)) (gW_at 57 (by decide +kernel) (by decide +kernel)) (gW_at 58 (by decide +kernel) (by decide +kernel)) (by decide) (by exact Nat.le_of_ble_eq_true rfl) ?_
  refine E_aload_n dX1_init_4 rfl ?_
  refine E_bipush (v := nI 12) dX1_init_5 (by decide) ?_
  refine E_newA (t := 18) (len := 12) (k := 3) (n := 768) dX1_init_7 (Or.inr (Or.inl ⟨rfl, rfl⟩)) (gW_at 379 (by decide +kernel) (by decide +kernel)) rfl (by decide) ?_
  rw [hG.nn]
  refine cE (hG.new (by decide +kernel)) (fun M hG => ?_)
  refine E_putR dX1_init_10 kF_X1_11 kY_1 (Or.inr ⟨_, rfl⟩) (hG.lt (a := 118) (by decide)) (hG.kd (a := 118) (by decide) rfl) (Or.inr ⟨rfl, rfl, rfl⟩) ?_
  refine cE (hG.ref (by decide) (by decide +kernel)) (fun M hG => ?_)
  refine E_aload_n dX1_init_13 rfl ?_
  refine E_sipush (v := nI 256) dX1_init_14 (by decide) ?_
  refine E_newI (len := 256) (k := 2) (n := 512) dX1_init_17 (gW_at 92 (by decide +kernel) (by decide +kernel)) rfl (by decide) ?_
  rw [hG.nn]
  refine cE (hG.new (by decide +kernel)) (fun M hG => ?_)
  refine E_putR dX1_init_19 kF_X1_17 kY_1 (Or.inr ⟨_, rfl⟩) (hG.lt (a := 118) (by decide)) (hG.kd (a := 118) (by decide) rfl) (Or.inr ⟨rfl, rfl, rfl⟩) ?_
  refine cE (hG.ref (by decide) (by decide +kernel)) (fun M hG => ?_)
  refine E_aload_n dX1_init_22 rfl ?_
  refine E_sipush (v := nI 256) dX1_init_23 (by decide) ?_
  refine E_newI (len := 256) (k := 1) (n := 256) dX1_init_26 (gW_at 92 (by decide +kernel) (by decide +kernel)) rfl (by decide) ?_
  rw [hG.nn]
  refine cE (hG.new (by decide +kernel)) (fun M hG => ?_)
  refine E_putR dX1_init_28 kF_X1_21 kY_1 (Or.inr ⟨_, rfl⟩) (hG.lt (a := 118) (by decide)) (hG.kd (a := 118) (by decide) rfl) (Or.inr ⟨rfl, rfl, rfl⟩) ?_
  refine cE (hG.ref (by decide) (by decide +kernel)) (fun M hG => ?_)
  refine E_aload_n dX1_init_31 rfl ?_
  refine E_sipush (v := nI 256) dX1_init_32 (by decide) ?_
  refine E_newI (len := 256) (k := 0) (n := 0) dX1_init_35 (gW_at 92 (by decide +kernel) (by decide +kernel)) rfl (by decide) ?_
  rw [hG.nn]
  refine cE (hG.new (by decide +kernel)) (fun M hG => ?_)
  refine E_putR dX1_init_37 kF_X1_24 kY_1 (Or.inr ⟨_, rfl⟩) (hG.lt (a := 118) (by decide)) (hG.kd (a := 118) (by decide) rfl) (Or.inr ⟨rfl, rfl, rfl⟩) ?_
  refine cE (hG.ref (by decide) (by decide +kernel)) (fun M hG => ?_)
  refine E_aload_n dX1_init_40 rfl ?_
  refine E_iconst (v := nI 0) dX1_init_41 (by decide) ?_
  refine E_putI dX1_init_42 kF_X1_27 kY_1 (Or.inl rfl) (hG.lt (a := 118) (by decide)) (hG.kd (a := 118) (by decide) rfl) (Or.inl rfl) ?_
  refine cE (hG.z (by decide +kernel)) (fun M hG => ?_)
  refine E_iconst (v := nI 0) dX1_init_45 (by decide) ?_
  refine E_istore_n dX1_init_46 (Nat.le_of_ble_eq_true rfl) (by decide) rfl ?_
  exact lp_X1_init_118 K 0 (Nat.zero_le _) .null M hG (fun j hj => absurd hj (Nat.not_lt_zero j)) (fun j hj => absurd hj (Nat.not_lt_zero j))
theorem f_125_4 (k : Nat) : ∀ t ∈ wkL.take 4, ¬ (t.1 = 125 ∧ t.2.1 ≤ k ∧ k < t.2.2) := fun t ht => wk_no (by decide +kernel) ht
theorem f_127_4 (k : Nat) : ∀ t ∈ wkL.take 4, ¬ (t.1 = 127 ∧ t.2.1 ≤ k ∧ k < t.2.2) := fun t ht => wk_no (by decide +kernel) ht
set_option maxRecDepth 100000 in
set_option maxHeartbeats 4000000 in
theorem lp_X1_init_123 {g : gG} {Q : Option Value ⊕ String → gM → Prop} (K : ∀ M, gG0 128 129 6 M → Q (.inl none) M) : ∀ k, k ≤ 256 → ∀ v M, gG0 128 129 4 M → (∀ j, j < k → mI M 125 j = F1 j) → (∀ j, j < k → mI M 127 j = F2 j) → E g 2 0 0 mX1_init 47 [.ref 124, .int (nI k), v] [] M Q := by
  refine lpUp 256 (fun k hk ih => ?_)
  intro v M hG h1 h2
  refine E_iload_n dX1_init_47 rfl ?_
  refine E_sipush (v := nI 256) dX1_init_48 (by decide) ?_
  refine E_icmp_ge_n (tgt := 124) dX1_init_51 (by decide) (by omega) (by omega) (fun c_51 => ?_) (fun c_51 => ?_)
  · refine E_vret dX1_init_124 rfl ?_
    obtain rfl : k = 256 := by omega
    exact K M ((hG.ad (lo := 0) (by decide +kernel) (by decide) (fun j _ hj => h1 j hj)).ad (lo := 0) (by decide +kernel) (by decide) (fun j _ hj => h2 j hj))
  · refine E_iload_n dX1_init_54 rfl ?_
    refine E_callS1 (fr' := 1) (k1 := 0) (n1 := 0) (k2 := 0) (n2 := 0) dX1_init_55 kO_X11_isMarkOfJ kL_X1_31 rfl (by decide) (by decide) (by exact Nat.le_of_ble_eq_true rfl) (Or.inl rfl) rfl ?_
    refine sp_X11_isMarkOfJ (by omega) ?_
    refine gKv ?_
    refine E_if_ne_b (tgt := 73) dX1_init_58 (by decide) (fun c_58 => ?_) (fun c_58 => ?_)
    · have hm : iMk k := by unfold iMk; first | exact Or.inl (by assumption) | (right; omega)
      refine E_iconst (v := nI 1) dX1_init_73 (by decide) ?_
      refine E_goto (tgt := 78) dX1_init_74 (by decide) ?_
      refine E_istore_n dX1_init_78 (Nat.le_of_ble_eq_true rfl) (by decide) rfl ?_
      refine E_aload_n dX1_init_79 rfl ?_
      refine E_getRL dX1_init_80 kF_X1_17 kY_1 (Or.inr ⟨_, rfl⟩) (hG.lt (a := 123) (by decide)) (hG.kd (a := 123) (by decide) rfl) (hG.rf (i := 126) (b := 125) (by decide) (by decide +kernel)) ?_
      refine E_iload_n dX1_init_83 rfl ?_
      refine E_iload_n dX1_init_84 rfl ?_
      refine E_if_eq (tgt := 92) dX1_init_85 (by decide) (fun c0 => absurd c0 (by decide)) (fun _ => ?_)
      refine E_iconst (v := nI 0) dX1_init_88 (by decide) ?_
      refine E_goto (tgt := 94) dX1_init_89 (by decide) ?_
      refine E_iast dX1_init_94 (hG.lt (a := 125) (by decide)) (hG.kd (a := 125) (by decide) rfl) rfl (by first | omega | exact hG.n256 _) (by decide) ?_
      refine E_aload_n dX1_init_95 rfl ?_
      refine E_getRL dX1_init_96 kF_X1_24 kY_1 (Or.inr ⟨_, rfl⟩) (hG.lt (a := 123) (by decide)) (hG.kd (a := 123) (by decide) rfl) (hG.rf (i := 128) (b := 127) (by decide) (by decide +kernel)) ?_
      refine E_iload_n dX1_init_99 rfl ?_
      refine E_iload_n dX1_init_100 rfl ?_
      refine E_if_ne (tgt := 111) dX1_init_101 (by decide) (fun _ => ?_) (fun c0 => absurd (by decide) c0)
      refine E_iconst (v := nI 0) dX1_init_111 (by decide) ?_
      refine E_goto (tgt := 117) dX1_init_112 (by decide) ?_
      refine E_iast dX1_init_117 (hG.lt (a := 127) (by decide)) (hG.kd (a := 127) (by decide) rfl) rfl (by first | omega | exact hG.n256 _) (by decide) ?_
      refine E_iinc_n (d := 1) dX1_init_118 rfl rfl rfl (by decide) rfl ?_
      refine E_goto (tgt := 47) dX1_init_121 (by decide) ?_
      refine ih (by omega) _ _ ((hG.is (a := 125) (f := k) (f_125_4 k) (by unfold S0; omega)).is (a := 127) (f := k) (f_127_4 k) (by unfold S0; omega)) (fun j hj => ?_) (fun j hj => ?_)
      · refine (mI_ne (by decide)).trans ?_
        by_cases e : j = k
        · subst e; exact mI_eq.trans (by unfold F1; first | exact (cI_t hm).symm | exact (cI_f hm).symm)
        · exact (mI_nj e).trans (h1 j (by omega))
      · by_cases e : j = k
        · subst e; exact mI_eq.trans (by unfold F2; first | exact (cI_t (by first | exact Or.inl hm | omega)).symm | exact (cI_f (fun z => z.elim hm (fun z => by omega))).symm)
        · exact (mI_nj e).trans ((mI_ne (by decide)).trans (h2 j (by omega)))
    · refine E_iload_n dX1_init_61 rfl ?_
      refine E_bipush (v := nI 44) dX1_init_62 (by decide) ?_
      refine E_icmp_eq_n (tgt := 73) dX1_init_64 (by decide) (by omega) (by omega) (fun c_64 => ?_) (fun c_64 => ?_)
      · have hm : iMk k := by unfold iMk; first | exact Or.inl (by assumption) | (right; omega)
        refine E_iconst (v := nI 1) dX1_init_73 (by decide) ?_
        refine E_goto (tgt := 78) dX1_init_74 (by decide) ?_
        refine E_istore_n dX1_init_78 (Nat.le_of_ble_eq_true rfl) (by decide) rfl ?_
        refine E_aload_n dX1_init_79 rfl ?_
        refine E_getRL dX1_init_80 kF_X1_17 kY_1 (Or.inr ⟨_, rfl⟩) (hG.lt (a := 123) (by decide)) (hG.kd (a := 123) (by decide) rfl) (hG.rf (i := 126) (b := 125) (by decide) (by decide +kernel)) ?_
        refine E_iload_n dX1_init_83 rfl ?_
        refine E_iload_n dX1_init_84 rfl ?_
        refine E_if_eq (tgt := 92) dX1_init_85 (by decide) (fun c0 => absurd c0 (by decide)) (fun _ => ?_)
        refine E_iconst (v := nI 0) dX1_init_88 (by decide) ?_
        refine E_goto (tgt := 94) dX1_init_89 (by decide) ?_
        refine E_iast dX1_init_94 (hG.lt (a := 125) (by decide)) (hG.kd (a := 125) (by decide) rfl) rfl (by first | omega | exact hG.n256 _) (by decide) ?_
        refine E_aload_n dX1_init_95 rfl ?_
        refine E_getRL dX1_init_96 kF_X1_24 kY_1 (Or.inr ⟨_, rfl⟩) (hG.lt (a := 123) (by decide)) (hG.kd (a := 123) (by decide) rfl) (hG.rf (i := 128) (b := 127) (by decide) (by decide +kernel)) ?_
        refine E_iload_n dX1_init_99 rfl ?_
        refine E_iload_n dX1_init_100 rfl ?_
        refine E_if_ne (tgt := 111) dX1_init_101 (by decide) (fun _ => ?_) (fun c0 => absurd (by decide) c0)
        refine E_iconst (v := nI 0) dX1_init_111 (by decide) ?_
        refine E_goto (tgt := 117) dX1_init_112 (by decide) ?_
        refine E_iast dX1_init_117 (hG.lt (a := 127) (by decide)) (hG.kd (a := 127) (by decide) rfl) rfl (by first | omega | exact hG.n256 _) (by decide) ?_
        refine E_iinc_n (d := 1) dX1_init_118 rfl rfl rfl (by decide) rfl ?_
        refine E_goto (tgt := 47) dX1_init_121 (by decide) ?_
        refine ih (by omega) _ _ ((hG.is (a := 125) (f := k) (f_125_4 k) (by unfold S0; omega)).is (a := 127) (f := k) (f_127_4 k) (by unfold S0; omega)) (fun j hj => ?_) (fun j hj => ?_)
        · refine (mI_ne (by decide)).trans ?_
          by_cases e : j = k
          · subst e; exact mI_eq.trans (by unfold F1; first | exact (cI_t hm).symm | exact (cI_f hm).symm)
          · exact (mI_nj e).trans (h1 j (by omega))
        · by_cases e : j = k
          · subst e; exact mI_eq.trans (by unfold F2; first | exact (cI_t (by first | exact Or.inl hm | omega)).symm | exact (cI_f (fun z => z.elim hm (fun z => by omega))).symm)
          · exact (mI_nj e).trans ((mI_ne (by decide)).trans (h2 j (by omega)))
      · refine E_iload_n dX1_init_67 rfl ?_
        refine E_bipush (v := nI 65) dX1_init_68 (by decide) ?_
        refine E_icmp_ne_n (tgt := 77) dX1_init_70 (by decide) (by omega) (by omega) (fun c_70 => ?_) (fun c_70 => ?_)
        · have hm : ¬ iMk k := by unfold iMk; intro z; rcases z with z | z | z <;> first | contradiction | omega
          refine E_iconst (v := nI 0) dX1_init_77 (by decide) ?_
          refine E_istore_n dX1_init_78 (Nat.le_of_ble_eq_true rfl) (by decide) rfl ?_
          refine E_aload_n dX1_init_79 rfl ?_
          refine E_getRL dX1_init_80 kF_X1_17 kY_1 (Or.inr ⟨_, rfl⟩) (hG.lt (a := 123) (by decide)) (hG.kd (a := 123) (by decide) rfl) (hG.rf (i := 126) (b := 125) (by decide) (by decide +kernel)) ?_
          refine E_iload_n dX1_init_83 rfl ?_
          refine E_iload_n dX1_init_84 rfl ?_
          refine E_if_eq (tgt := 92) dX1_init_85 (by decide) (fun _ => ?_) (fun c0 => absurd (by decide) c0)
          refine E_bipush (v := -100) dX1_init_92 (by decide) ?_
          refine E_iast dX1_init_94 (hG.lt (a := 125) (by decide)) (hG.kd (a := 125) (by decide) rfl) rfl (by first | omega | exact hG.n256 _) (by decide) ?_
          refine E_aload_n dX1_init_95 rfl ?_
          refine E_getRL dX1_init_96 kF_X1_24 kY_1 (Or.inr ⟨_, rfl⟩) (hG.lt (a := 123) (by decide)) (hG.kd (a := 123) (by decide) rfl) (hG.rf (i := 128) (b := 127) (by decide) (by decide +kernel)) ?_
          refine E_iload_n dX1_init_99 rfl ?_
          refine E_iload_n dX1_init_100 rfl ?_
          refine E_if_ne (tgt := 111) dX1_init_101 (by decide) (fun c0 => absurd c0 (by decide)) (fun _ => ?_)
          refine E_iload_n dX1_init_104 rfl ?_
          refine E_callS1 (fr' := 1) (k1 := 0) (n1 := 0) (k2 := 0) (n2 := 0) dX1_init_105 kO_X11_isJoinerOrParter kL_X1_35 rfl (by decide) (by decide) (by exact Nat.le_of_ble_eq_true rfl) (Or.inl rfl) rfl ?_
          refine sp_X11_isJoinerOrParter (by omega) ?_
          refine gKv ?_
          refine E_if_eq_b (tgt := 115) dX1_init_108 (by decide) (fun c_108 => ?_) (fun c_108 => ?_)
          · refine E_bipush (v := nI 10) dX1_init_115 (by decide) ?_
            refine E_iast dX1_init_117 (hG.lt (a := 127) (by decide)) (hG.kd (a := 127) (by decide) rfl) rfl (by first | omega | exact hG.n256 _) (by decide) ?_
            refine E_iinc_n (d := 1) dX1_init_118 rfl rfl rfl (by decide) rfl ?_
            refine E_goto (tgt := 47) dX1_init_121 (by decide) ?_
            refine ih (by omega) _ _ ((hG.is (a := 125) (f := k) (f_125_4 k) (by unfold S0; omega)).is (a := 127) (f := k) (f_127_4 k) (by unfold S0; omega)) (fun j hj => ?_) (fun j hj => ?_)
            · refine (mI_ne (by decide)).trans ?_
              by_cases e : j = k
              · subst e; exact mI_eq.trans (by unfold F1; first | exact (cI_t hm).symm | exact (cI_f hm).symm)
              · exact (mI_nj e).trans (h1 j (by omega))
            · by_cases e : j = k
              · subst e; exact mI_eq.trans (by unfold F2; first | exact (cI_t (by first | exact Or.inl hm | omega)).symm | exact (cI_f (fun z => z.elim hm (fun z => by omega))).symm)
              · exact (mI_nj e).trans ((mI_ne (by decide)).trans (h2 j (by omega)))
          · refine E_iconst (v := nI 0) dX1_init_111 (by decide) ?_
            refine E_goto (tgt := 117) dX1_init_112 (by decide) ?_
            refine E_iast dX1_init_117 (hG.lt (a := 127) (by decide)) (hG.kd (a := 127) (by decide) rfl) rfl (by first | omega | exact hG.n256 _) (by decide) ?_
            refine E_iinc_n (d := 1) dX1_init_118 rfl rfl rfl (by decide) rfl ?_
            refine E_goto (tgt := 47) dX1_init_121 (by decide) ?_
            refine ih (by omega) _ _ ((hG.is (a := 125) (f := k) (f_125_4 k) (by unfold S0; omega)).is (a := 127) (f := k) (f_127_4 k) (by unfold S0; omega)) (fun j hj => ?_) (fun j hj => ?_)
            · refine (mI_ne (by decide)).trans ?_
              by_cases e : j = k
              · subst e; exact mI_eq.trans (by unfold F1; first | exact (cI_t hm).symm | exact (cI_f hm).symm)
              · exact (mI_nj e).trans (h1 j (by omega))
            · by_cases e : j = k
              · subst e; exact mI_eq.trans (by unfold F2; first | exact (cI_t (by first | exact Or.inl hm | omega)).symm | exact (cI_f (fun z => z.elim hm (fun z => by omega))).symm)
              · exact (mI_nj e).trans ((mI_ne (by decide)).trans (h2 j (by omega)))
        · have hm : iMk k := by unfold iMk; first | exact Or.inl (by assumption) | (right; omega)
          refine E_iconst (v := nI 1) dX1_init_73 (by decide) ?_
          refine E_goto (tgt := 78) dX1_init_74 (by decide) ?_
          refine E_istore_n dX1_init_78 (Nat.le_of_ble_eq_true rfl) (by decide) rfl ?_
          refine E_aload_n dX1_init_79 rfl ?_
          refine E_getRL dX1_init_80 kF_X1_17 kY_1 (Or.inr ⟨_, rfl⟩) (hG.lt (a := 123) (by decide)) (hG.kd (a := 123) (by decide) rfl) (hG.rf (i := 126) (b := 125) (by decide) (by decide +kernel)) ?_
          refine E_iload_n dX1_init_83 rfl ?_
          refine E_iload_n dX1_init_84 rfl ?_
          refine E_if_eq (tgt := 92) dX1_init_85 (by decide) (fun c0 => absurd c0 (by decide)) (fun _ => ?_)
          refine E_iconst (v := nI 0) dX1_init_88 (by decide) ?_
          refine E_goto (tgt := 94) dX1_init_89 (by decide) ?_
          refine E_iast dX1_init_94 (hG.lt (a := 125) (by decide)) (hG.kd (a := 125) (by decide) rfl) rfl (by first | omega | exact hG.n256 _) (by decide) ?_
          refine E_aload_n dX1_init_95 rfl ?_
          refine E_getRL dX1_init_96 kF_X1_24 kY_1 (Or.inr ⟨_, rfl⟩) (hG.lt (a := 123) (by decide)) (hG.kd (a := 123) (by decide) rfl) (hG.rf (i := 128) (b := 127) (by decide) (by decide +kernel)) ?_
          refine E_iload_n dX1_init_99 rfl ?_
          refine E_iload_n dX1_init_100 rfl ?_
          refine E_if_ne (tgt := 111) dX1_init_101 (by decide) (fun _ => ?_) (fun c0 => absurd (by decide) c0)
          refine E_iconst (v := nI 0) dX1_init_111 (by decide) ?_
          refine E_goto (tgt := 117) dX1_init_112 (by decide) ?_
          refine E_iast dX1_init_117 (hG.lt (a := 127) (by decide)) (hG.kd (a := 127) (by decide) rfl) rfl (by first | omega | exact hG.n256 _) (by decide) ?_
          refine E_iinc_n (d := 1) dX1_init_118 rfl rfl rfl (by decide) rfl ?_
          refine E_goto (tgt := 47) dX1_init_121 (by decide) ?_
          refine ih (by omega) _ _ ((hG.is (a := 125) (f := k) (f_125_4 k) (by unfold S0; omega)).is (a := 127) (f := k) (f_127_4 k) (by unfold S0; omega)) (fun j hj => ?_) (fun j hj => ?_)
          · refine (mI_ne (by decide)).trans ?_
            by_cases e : j = k
            · subst e; exact mI_eq.trans (by unfold F1; first | exact (cI_t hm).symm | exact (cI_f hm).symm)
            · exact (mI_nj e).trans (h1 j (by omega))
          · by_cases e : j = k
            · subst e; exact mI_eq.trans (by unfold F2; first | exact (cI_t (by first | exact Or.inl hm | omega)).symm | exact (cI_f (fun z => z.elim hm (fun z => by omega))).symm)
            · exact (mI_nj e).trans ((mI_ne (by decide)).trans (h2 j (by omega)))
set_option maxRecDepth 100000 in
set_option maxHeartbeats 4000000 in
theorem ci_X1_init_123 {g : gG} {Q : Option Value ⊕ String → gM → Prop} {M : gM} (hG : gG0 124 125 4 M) (K : ∀ M, gG0 128 129 6 M → Q (.inl none) M) : E g 2 4 780 mX1_init 0 [.ref 124, .null, .null] [] M Q := by
  refine E_aload_n dX1_init_0 rfl ?_
  refine E_objInit dX1_init_1 (gW_at 378 (by decide +kernel) (by decide +kernel)) (gW_at 57 (by decide +kernel) (by decide +kernel)) (gW_at 58 (by decide +kernel) (by decide +kernel)) (by decide) (by exact Nat.le_of_ble_eq_true rfl) ?_
  refine E_aload_n dX1_init_4 rfl ?_
  refine E_bipush (v := nI 12) dX1_init_5 (by decide) ?_
  refine E_newA (t := 18) (len := 12) (k := 3) (n := 768) dX1_init_7 (Or.inr (Or.inl ⟨rfl, rfl⟩)) (gW_at 379 (by decide +kernel) (by decide +kernel)) rfl (by decide) ?_
  rw [hG.nn]
  refine cE (hG.new (by decide +kernel)) (fun M hG => ?_)
  refine E_putR dX1_init_10 kF_X1_11 kY_1 (Or.inr ⟨_, rfl⟩) (hG.lt (a := 123) (by decide)) (hG.kd (a := 123) (by decide) rfl) (Or.inr ⟨rfl, rfl, rfl⟩) ?_
  refine cE (hG.ref (by decide) (by decide +kernel)) (fun M hG => ?_)
  refine E_aload_n dX1_init_13 rfl ?_
  refine E_sipush (v := nI 256) dX1_init_14 (by decide) ?_
  refine E_newI (len := 256) (k := 2) (n := 512) dX1_init_17 (gW_at 92 (by decide +kernel) (by decide +kernel)) rfl (by decide) ?_
  rw [hG.nn]
  refine cE (hG.new (by decide +kernel)) (fun M hG => ?_)
  refine E_putR dX1_init_19 kF_X1_17 kY_1 (Or.inr ⟨_, rfl⟩) (hG.lt (a := 123) (by decide)) (hG.kd (a := 123) (by decide) rfl) (Or.inr ⟨rfl, rfl, rfl⟩) ?_
  refine cE (hG.ref (by decide) (by decide +kernel)) (fun M hG => ?_)
  refine E_aload_n dX1_init_22 rfl ?_
  refine E_sipush (v := nI 256) dX1_init_23 (by decide) ?_
  refine E_newI (len := 256) (k := 1) (n := 256) dX1_init_26 (gW_at 92 (by decide +kernel) (by decide +kernel)) rfl (by decide) ?_
  rw [hG.nn]
  refine cE (hG.new (by decide +kernel)) (fun M hG => ?_)
  refine E_putR dX1_init_28 kF_X1_21 kY_1 (Or.inr ⟨_, rfl⟩) (hG.lt (a := 123) (by decide)) (hG.kd (a := 123) (by decide) rfl) (Or.inr ⟨rfl, rfl, rfl⟩) ?_
  refine cE (hG.ref (by decide) (by decide +kernel)) (fun M hG => ?_)
  refine E_aload_n dX1_init_31 rfl ?_
  refine E_sipush (v := nI 256) dX1_init_32 (by decide) ?_
  refine E_newI (len := 256) (k := 0) (n := 0) dX1_init_35 (gW_at 92 (by decide +kernel) (by decide +kernel)) rfl (by decide) ?_
  rw [hG.nn]
  refine cE (hG.new (by decide +kernel)) (fun M hG => ?_)
  refine E_putR dX1_init_37 kF_X1_24 kY_1 (Or.inr ⟨_, rfl⟩) (hG.lt (a := 123) (by decide)) (hG.kd (a := 123) (by decide) rfl) (Or.inr ⟨rfl, rfl, rfl⟩) ?_
  refine cE (hG.ref (by decide) (by decide +kernel)) (fun M hG => ?_)
  refine E_aload_n dX1_init_40 rfl ?_
  refine E_iconst (v := nI 0) dX1_init_41 (by decide) ?_
  refine E_putI dX1_init_42 kF_X1_27 kY_1 (Or.inl rfl) (hG.lt (a := 123) (by decide)) (hG.kd (a := 123) (by decide) rfl) (Or.inl rfl) ?_
  refine cE (hG.z (by decide +kernel)) (fun M hG => ?_)
  refine E_iconst (v := nI 0) dX1_init_45 (by decide) ?_
  refine E_istore_n dX1_init_46 (Nat.le_of_ble_eq_true rfl) (by decide) rfl ?_
  exact lp_X1_init_123 K 0 (Nat.zero_le _) .null M hG (fun j hj => absurd hj (Nat.not_lt_zero j)) (fun j hj => absurd hj (Nat.not_lt_zero j))
set_option maxRecDepth 100000 in
set_option maxHeartbeats 4000000 in
theorem ci_X11_init_0 {g : gG} {Q : Option Value ⊕ String → gM → Prop} {M : gM} (hG : gG0 1 0 0 M) (K : ∀ M, gG0 128 130 6 M → Q (.inl none) M) : E g 3 127 19335 mX11_init 0 [.ref 1] [] M Q := by
  refine E_aload_n dX11_init_0 rfl ?_
  refine E_objInit dX11_init_1 (gW_at 56 (by decide +kernel) (by decide +kernel)) (gW_at 57 (by decide +kernel) (by decide +kernel)) (gW_at 58 (by decide +kernel) (by decide +kernel)) (by decide) (by exact Nat.le_of_ble_eq_true rfl) ?_
  refine E_aload_n dX11_init_4 rfl ?_
  refine E_iconst (v := nI 2) dX11_init_5 (by decide) ?_
  refine E_newA (t := 17) (len := 2) (k := 126) (n := 19333) dX11_init_6 (Or.inl ⟨rfl, rfl⟩) (gW_at 59 (by decide +kernel) (by decide +kernel)) rfl (by decide) ?_
  rw [hG.nn]
  refine cE (hG.new (by decide +kernel)) (fun M hG => ?_)
  refine E_putR dX11_init_9 kF_X11_11 kY_11 (Or.inr ⟨_, rfl⟩) (hG.lt (a := 0) (by decide)) (hG.kd (a := 0) (by decide) rfl) (Or.inr ⟨rfl, rfl, rfl⟩) ?_
  refine cE (hG.ref (by decide) (by decide +kernel)) (fun M hG => ?_)
  refine E_aload_n dX11_init_12 rfl ?_
  refine E_new (c := 10) (k := 125) (n := 19328) dX11_init_13 (by decide) kY_10 (gW_at 61 (by decide +kernel) (by decide +kernel)) (gW_at 62 (by decide +kernel) (by decide +kernel)) (gW_at 32 (by decide +kernel) (by decide +kernel)) ?_
  rw [hG.nn]
  refine cE (hG.new (by decide +kernel)) (fun M hG => ?_)
  refine E_dup dX11_init_16 rfl ?_
  refine E_callI0 (fr' := 1) (k1 := 3) (n1 := 77) (k2 := 122) (n2 := 19251) dX11_init_17 kO_X10_init kL_X11_17 (hG.lt (a := 2) (by decide))  (by decide) (by decide) (by exact Nat.le_of_ble_eq_true rfl) rfl ?_
  refine ci_X10_init_2 hG (fun M hG => ?_)
  refine gKn ?_
  refine E_putR dX11_init_20 kF_X11_18 kY_11 (Or.inl ⟨_, rfl⟩) (hG.lt (a := 0) (by decide)) (hG.kd (a := 0) (by decide) rfl) (Or.inr ⟨rfl, rfl, rfl⟩) ?_
  refine cE (hG.ref (by decide) (by decide +kernel)) (fun M hG => ?_)
  refine E_aload_n dX11_init_23 rfl ?_
  refine E_new (c := 8) (k := 121) (n := 19249) dX11_init_24 (by decide) kY_8 (gW_at 94 (by decide +kernel) (by decide +kernel)) (gW_at 95 (by decide +kernel) (by decide +kernel)) (gW_at 33 (by decide +kernel) (by decide +kernel)) ?_
  rw [hG.nn]
  refine cE (hG.new (by decide +kernel)) (fun M hG => ?_)
  refine E_dup dX11_init_27 rfl ?_
  refine E_callI0 (fr' := 2) (k1 := 65) (n1 := 896) (k2 := 56) (n2 := 18353) dX11_init_28 kO_X8_init kL_X11_24 (hG.lt (a := 6) (by decide))  (by decide) (by decide) (by exact Nat.le_of_ble_eq_true rfl) rfl ?_
  refine ci_X8_init_6 hG (fun M hG => ?_)
  refine gKn ?_
  refine E_putR dX11_init_31 kF_X11_25 kY_11 (Or.inl ⟨_, rfl⟩) (hG.lt (a := 0) (by decide)) (hG.kd (a := 0) (by decide) rfl) (Or.inr ⟨rfl, rfl, rfl⟩) ?_
  refine cE (hG.ref (by decide) (by decide +kernel)) (fun M hG => ?_)
  refine E_aload_n dX11_init_34 rfl ?_
  refine E_new (c := 5) (k := 55) (n := 18352) dX11_init_35 (by decide) kY_5 (gW_at 188 (by decide +kernel) (by decide +kernel)) (gW_at 189 (by decide +kernel) (by decide +kernel)) (gW_at 35 (by decide +kernel) (by decide +kernel)) ?_
  rw [hG.nn]
  refine cE (hG.new (by decide +kernel)) (fun M hG => ?_)
  refine E_dup dX11_init_38 rfl ?_
  refine E_aload_n dX11_init_39 rfl ?_
  refine E_getRL dX11_init_40 kF_X11_25 kY_11 (Or.inl ⟨_, rfl⟩) (hG.lt (a := 0) (by decide)) (hG.kd (a := 0) (by decide) rfl) (hG.rf (i := 70) (b := 6) (by decide) (by decide +kernel)) ?_
  refine E_callI1 (fr' := 1) (k1 := 0) (n1 := 0) (k2 := 55) (n2 := 18352) dX11_init_43 kO_X5_init kL_X11_31 (hG.lt (a := 72) (by decide)) rfl (by decide) (by decide) (by exact Nat.le_of_ble_eq_true rfl) rfl ?_
  refine ci_X5_init_72 hG (fun M hG => ?_)
  refine gKn ?_
  refine E_putR dX11_init_46 kF_X11_34 kY_11 (Or.inl ⟨_, rfl⟩) (hG.lt (a := 0) (by decide)) (hG.kd (a := 0) (by decide) rfl) (Or.inr ⟨rfl, rfl, rfl⟩) ?_
  refine cE (hG.ref (by decide) (by decide +kernel)) (fun M hG => ?_)
  refine E_aload_n dX11_init_49 rfl ?_
  refine E_new (c := 0) (k := 54) (n := 18343) dX11_init_50 (by decide) kY_0 (gW_at 198 (by decide +kernel) (by decide +kernel)) (gW_at 199 (by decide +kernel) (by decide +kernel)) (gW_at 36 (by decide +kernel) (by decide +kernel)) ?_
  rw [hG.nn]
  refine cE (hG.new (by decide +kernel)) (fun M hG => ?_)
  refine E_dup dX11_init_53 rfl ?_
  refine E_aload_n dX11_init_54 rfl ?_
  refine E_getRL dX11_init_55 kF_X11_25 kY_11 (Or.inl ⟨_, rfl⟩) (hG.lt (a := 0) (by decide)) (hG.kd (a := 0) (by decide) rfl) (hG.rf (i := 70) (b := 6) (by decide) (by decide +kernel)) ?_
  refine E_callI1 (fr' := 1) (k1 := 1) (n1 := 3) (k2 := 53) (n2 := 18340) dX11_init_58 kO_X0_init kL_X11_40 (hG.lt (a := 73) (by decide)) rfl (by decide) (by decide) (by exact Nat.le_of_ble_eq_true rfl) rfl ?_
  refine ci_X0_init_73 hG (fun M hG => ?_)
  refine gKn ?_
  refine E_putR dX11_init_61 kF_X11_41 kY_11 (Or.inl ⟨_, rfl⟩) (hG.lt (a := 0) (by decide)) (hG.kd (a := 0) (by decide) rfl) (Or.inr ⟨rfl, rfl, rfl⟩) ?_
  refine cE (hG.ref (by decide) (by decide +kernel)) (fun M hG => ?_)
  refine E_aload_n dX11_init_64 rfl ?_
  refine E_new (c := 7) (k := 52) (n := 18337) dX11_init_65 (by decide) kY_7 (gW_at 232 (by decide +kernel) (by decide +kernel)) (gW_at 233 (by decide +kernel) (by decide +kernel)) (gW_at 37 (by decide +kernel) (by decide +kernel)) ?_
  rw [hG.nn]
  refine cE (hG.new (by decide +kernel)) (fun M hG => ?_)
  refine E_dup dX11_init_68 rfl ?_
  refine E_aload_n dX11_init_69 rfl ?_
  refine E_getRL dX11_init_70 kF_X11_25 kY_11 (Or.inl ⟨_, rfl⟩) (hG.lt (a := 0) (by decide)) (hG.kd (a := 0) (by decide) rfl) (hG.rf (i := 70) (b := 6) (by decide) (by decide +kernel)) ?_
  refine E_callI1 (fr' := 1) (k1 := 0) (n1 := 0) (k2 := 52) (n2 := 18337) dX11_init_73 kO_X7_init kL_X11_47 (hG.lt (a := 75) (by decide)) rfl (by decide) (by decide) (by exact Nat.le_of_ble_eq_true rfl) rfl ?_
  refine ci_X7_init_75 hG (fun M hG => ?_)
  refine gKn ?_
  refine E_putR dX11_init_76 kF_X11_48 kY_11 (Or.inl ⟨_, rfl⟩) (hG.lt (a := 0) (by decide)) (hG.kd (a := 0) (by decide) rfl) (Or.inr ⟨rfl, rfl, rfl⟩) ?_
  refine cE (hG.ref (by decide) (by decide +kernel)) (fun M hG => ?_)
  refine E_aload_n dX11_init_79 rfl ?_
  refine E_new (c := 3) (k := 51) (n := 18334) dX11_init_80 (by decide) kY_3 (gW_at 248 (by decide +kernel) (by decide +kernel)) (gW_at 249 (by decide +kernel) (by decide +kernel)) (gW_at 38 (by decide +kernel) (by decide +kernel)) ?_
  rw [hG.nn]
  refine cE (hG.new (by decide +kernel)) (fun M hG => ?_)
  refine E_dup dX11_init_83 rfl ?_
  refine E_callI0 (fr' := 1) (k1 := 1) (n1 := 16) (k2 := 50) (n2 := 18318) dX11_init_84 kO_X3_init kL_X11_54 (hG.lt (a := 76) (by decide))  (by decide) (by decide) (by exact Nat.le_of_ble_eq_true rfl) rfl ?_
  refine ci_X3_init_76 hG (fun M hG => ?_)
  refine gKn ?_
  refine E_putR dX11_init_87 kF_X11_55 kY_11 (Or.inl ⟨_, rfl⟩) (hG.lt (a := 0) (by decide)) (hG.kd (a := 0) (by decide) rfl) (Or.inr ⟨rfl, rfl, rfl⟩) ?_
  refine cE (hG.ref (by decide) (by decide +kernel)) (fun M hG => ?_)
  refine E_aload_n dX11_init_90 rfl ?_
  refine E_new (c := 6) (k := 49) (n := 18307) dX11_init_91 (by decide) kY_6 (gW_at 267 (by decide +kernel) (by decide +kernel)) (gW_at 268 (by decide +kernel) (by decide +kernel)) (gW_at 39 (by decide +kernel) (by decide +kernel)) ?_
  rw [hG.nn]
  refine cE (hG.new (by decide +kernel)) (fun M hG => ?_)
  refine E_dup dX11_init_94 rfl ?_
  refine E_callI0 (fr' := 2) (k1 := 19) (n1 := 8363) (k2 := 30) (n2 := 9944) dX11_init_95 kO_X6_init kL_X11_61 (hG.lt (a := 78) (by decide))  (by decide) (by decide) (by exact Nat.le_of_ble_eq_true rfl) rfl ?_
  refine ci_X6_init_78 hG (fun M hG => ?_)
  refine gKn ?_
  refine E_putR dX11_init_98 kF_X11_62 kY_11 (Or.inl ⟨_, rfl⟩) (hG.lt (a := 0) (by decide)) (hG.kd (a := 0) (by decide) rfl) (Or.inr ⟨rfl, rfl, rfl⟩) ?_
  refine cE (hG.ref (by decide) (by decide +kernel)) (fun M hG => ?_)
  refine E_aload_n dX11_init_101 rfl ?_
  refine E_new (c := 6) (k := 29) (n := 9933) dX11_init_102 (by decide) kY_6 (gW_at 267 (by decide +kernel) (by decide +kernel)) (gW_at 268 (by decide +kernel) (by decide +kernel)) (gW_at 39 (by decide +kernel) (by decide +kernel)) ?_
  rw [hG.nn]
  refine cE (hG.new (by decide +kernel)) (fun M hG => ?_)
  refine E_dup dX11_init_105 rfl ?_
  refine E_callI0 (fr' := 2) (k1 := 19) (n1 := 8363) (k2 := 10) (n2 := 1570) dX11_init_106 kO_X6_init kL_X11_61 (hG.lt (a := 98) (by decide))  (by decide) (by decide) (by exact Nat.le_of_ble_eq_true rfl) rfl ?_
  refine ci_X6_init_98 hG (fun M hG => ?_)
  refine gKn ?_
  refine E_putR dX11_init_109 kF_X11_66 kY_11 (Or.inl ⟨_, rfl⟩) (hG.lt (a := 0) (by decide)) (hG.kd (a := 0) (by decide) rfl) (Or.inr ⟨rfl, rfl, rfl⟩) ?_
  refine cE (hG.ref (by decide) (by decide +kernel)) (fun M hG => ?_)
  refine E_aload_n dX11_init_112 rfl ?_
  refine E_iconst (v := nI 0) dX11_init_113 (by decide) ?_
  refine E_putI dX11_init_114 kF_X11_69 kY_11 (Or.inl rfl) (hG.lt (a := 0) (by decide)) (hG.kd (a := 0) (by decide) rfl) (Or.inl rfl) ?_
  refine cE (hG.z (by decide +kernel)) (fun M hG => ?_)
  refine E_aload_n dX11_init_117 rfl ?_
  refine E_iconst (v := nI 1) dX11_init_118 (by decide) ?_
  refine E_putI dX11_init_119 kF_X11_73 kY_11 (Or.inr ⟨rfl, by decide⟩) (hG.lt (a := 0) (by decide)) (hG.kd (a := 0) (by decide) rfl) (Or.inl rfl) ?_
  refine cE (hG.iw (by decide +kernel) (by decide +kernel) (by unfold S0; decide) (by rfl)) (fun M hG => ?_)
  refine E_aload_n dX11_init_122 rfl ?_
  refine E_getRL dX11_init_123 kF_X11_11 kY_11 (Or.inr ⟨_, rfl⟩) (hG.lt (a := 0) (by decide)) (hG.kd (a := 0) (by decide) rfl) (hG.rf (i := 0) (b := 1) (by decide) (by decide +kernel)) ?_
  refine E_iconst (v := nI 0) dX11_init_126 (by decide) ?_
  refine E_new (c := 1) (k := 9) (n := 1565) dX11_init_127 (by decide) kY_1 (gW_at 59 (by decide +kernel) (by decide +kernel)) (gW_at 374 (by decide +kernel) (by decide +kernel)) (gW_at 41 (by decide +kernel) (by decide +kernel)) ?_
  rw [hG.nn]
  refine cE (hG.new (by decide +kernel)) (fun M hG => ?_)
  refine E_dup dX11_init_130 rfl ?_
  refine E_callI0 (fr' := 2) (k1 := 4) (n1 := 780) (k2 := 5) (n2 := 785) dX11_init_131 kO_X1_init kL_X11_77 (hG.lt (a := 118) (by decide))  (by decide) (by decide) (by exact Nat.le_of_ble_eq_true rfl) rfl ?_
  refine ci_X1_init_118 hG (fun M hG => ?_)
  refine gKn ?_
  refine E_aast dX11_init_134 (hG.lt (a := 1) (by decide)) (hG.kd (a := 1) (by decide) rfl) (by decide) (by decide) (hG.lt (a := 118) (by decide)) (hG.kd (a := 118) (by decide) rfl) (by decide) rfl (j := 0) rfl (by decide) (by decide) ?_
  refine cE (hG.ref (by decide) (by decide +kernel)) (fun M hG => ?_)
  refine E_aload_n dX11_init_135 rfl ?_
  refine E_getRL dX11_init_136 kF_X11_11 kY_11 (Or.inr ⟨_, rfl⟩) (hG.lt (a := 0) (by decide)) (hG.kd (a := 0) (by decide) rfl) (hG.rf (i := 0) (b := 1) (by decide) (by decide +kernel)) ?_
  refine E_iconst (v := nI 1) dX11_init_139 (by decide) ?_
  refine E_new (c := 1) (k := 4) (n := 780) dX11_init_140 (by decide) kY_1 (gW_at 59 (by decide +kernel) (by decide +kernel)) (gW_at 374 (by decide +kernel) (by decide +kernel)) (gW_at 41 (by decide +kernel) (by decide +kernel)) ?_
  rw [hG.nn]
  refine cE (hG.new (by decide +kernel)) (fun M hG => ?_)
  refine E_dup dX11_init_143 rfl ?_
  refine E_callI0 (fr' := 2) (k1 := 4) (n1 := 780) (k2 := 0) (n2 := 0) dX11_init_144 kO_X1_init kL_X11_77 (hG.lt (a := 123) (by decide))  (by decide) (by decide) (by exact Nat.le_of_ble_eq_true rfl) rfl ?_
  refine ci_X1_init_123 hG (fun M hG => ?_)
  refine gKn ?_
  refine E_aast dX11_init_147 (hG.lt (a := 1) (by decide)) (hG.kd (a := 1) (by decide) rfl) (by decide) (by decide) (hG.lt (a := 123) (by decide)) (hG.kd (a := 123) (by decide) rfl) (by decide) rfl (j := 1) rfl (by decide) (by decide) ?_
  refine cE (hG.ref (by decide) (by decide +kernel)) (fun M hG => ?_)
  refine E_vret dX11_init_148 rfl ?_
  exact K M hG
