/-! the class: a lookup made; lookup, rule -/
theorem mK_new (M : gM) (κ : Nat × Nat) (a : Nat) : mK (mNew M κ) a = if a = mN M then κ else mK M a := rfl
theorem mI_new (M : gM) (κ : Nat × Nat) (b j : Nat) : mI (mNew M κ) b j = if b = mN M then 0 else mI M b j := rfl
theorem mL_new (M : gM) (κ : Nat × Nat) (b j : Nat) : mL (mNew M κ) b j = if b = mN M then 0 else mL M b j := rfl
theorem mR_new (M : gM) (κ : Nat × Nat) (b j : Nat) : mR (mNew M κ) b j = if b = mN M then 0 else mR M b j := rfl
theorem mN_new (M : gM) (κ : Nat × Nat) : mN (mNew M κ) = mN M + 1 := rfl
theorem mK_grid (M : gM) (a b x : Nat) : mK (mGrid M a b) x = if x < mN M then mK M x else if x = mN M then (16, a) else (13, b) := rfl
theorem mI_grid (M : gM) (a b x j : Nat) : mI (mGrid M a b) x j = if x < mN M then mI M x j else 0 := rfl
theorem mL_grid (M : gM) (a b x j : Nat) : mL (mGrid M a b) x j = if x < mN M then mL M x j else 0 := rfl
theorem mR_grid (M : gM) (a b x j : Nat) : mR (mGrid M a b) x j = if x < mN M then mR M x j else if x = mN M ∧ j < a then mN M + 1 + j + 1 else 0 := rfl
theorem mN_grid (M : gM) (a b : Nat) : mN (mGrid M a b) = mN M + (1 + a) := rfl
theorem mR_eq {M : gM} {a k v : Nat} : mR (sR M a k v) a k = v := by rw [mR_sR, if_pos ⟨rfl, rfl⟩]
theorem mR_nj {M : gM} {a k b j v : Nat} (h : ¬ j = k) : mR (sR M a k v) b j = mR M b j := by rw [mR_sR, if_neg (fun q => h q.2)]
theorem mR_ne {M : gM} {a k b j v : Nat} (h : ¬ b = a) : mR (sR M a k v) b j = mR M b j := by rw [mR_sR, if_neg (fun q => h q.1)]
/-- a lookup as it is made -/
def kLn (p1 p2 p3 p4 p5 : Int32) (M : gM) (p : Nat) : Prop :=
  (mK M (p + 1) = (16, 8) ∧ (∀ k, k < 8 → mK M (p + 2 + k) = (13, 6)) ∧ mK M (p + 10) = (13, 256)) ∧
  (mI M p 0 = p1 ∧ mI M p 1 = p2 ∧ mI M p 2 = p3 ∧ mI M p 3 = p4 ∧ mI M p 4 = p5 ∧ mI M p 5 = cI (p1 = nI 4 ∨ p1 = nI 5) (nI 1) (nI 0) ∧ mI M p 8 = nI 0) ∧
  (mR M p 6 = p + 1 + 1 ∧ mR M p 7 = p + 10 + 1 ∧ ∀ k, k < 8 → mR M (p + 1) k = p + 2 + k + 1) ∧ ∀ q, mI M (p + 10) q = 0
set_option maxRecDepth 100000 in
set_option maxHeartbeats 4000000 in
theorem sp_X4_init {g : gG} {M : gM} {Q : Option Value ⊕ String → gM → Prop} {p : Nat} (hp : p + 1 = mN M) (hk : mK M p = (4, 0)) {p1 p2 p3 p4 p5 : Int32} (K : ∀ M', mN M' = p + 11 → (∀ a, a ≤ p → mK M' a = mK M a) → (∀ a j, a < p → mI M' a j = mI M a j ∧ mL M' a j = mL M a j ∧ mR M' a j = mR M a j) → kLn p1 p2 p3 p4 p5 M' p → Q (.inl none) M') : E g 1 10 312 mX4_init 0 [.ref (p + 1), .int p1, .int p2, .int p3, .int p4, .int p5] [] M Q := by
  refine E_aload_n dX4_init_0 rfl ?_
  refine E_objInit dX4_init_1 (gW_at 570 (by decide +kernel) (by decide +kernel)) (gW_at 57 (by decide +kernel) (by decide +kernel)) (gW_at 58 (by decide +kernel) (by decide +kernel)) (by decide) (by exact Nat.le_of_ble_eq_true rfl) ?_
  refine E_aload_n dX4_init_4 rfl ?_
  refine E_bipush (v := nI 8) dX4_init_5 (by decide) ?_
  refine E_bipush (v := nI 6) dX4_init_7 (by decide) ?_
  refine E_grid (a := 8) (b := 6) (k := 1) (n := 256) dX4_init_9 (gW_at 571 (by decide +kernel) (by decide +kernel)) (gW_at 92 (by decide +kernel) (by decide +kernel)) rfl rfl (by decide) (by decide) ?_
  have kd1 : mK (mGrid M 8 6) p = (4, 0) := by rw [mK_grid, if_pos (by omega)]; exact hk
  refine E_putR dX4_init_13 kF_X4_11 kY_4 (Or.inr ⟨_, rfl⟩) (by first | (show p < mN M; omega) | (show p < mN M + (1 + 8); omega) | (show p < mN M + (1 + 8) + 1; omega)) (by first | exact hk | exact kd1 | exact kd2) (Or.inr ⟨rfl, rfl, rfl⟩) ?_
  refine E_aload_n dX4_init_16 rfl ?_
  refine E_sipush (v := nI 256) dX4_init_17 (by decide) ?_
  refine E_newI (len := 256) (k := 0) (n := 0) dX4_init_20 (gW_at 92 (by decide +kernel) (by decide +kernel)) rfl (by decide) ?_
  have kd2 : mK (mNew (sR (mGrid M 8 6) p 6 (mN M + 1)) (13, 256)) p = (4, 0) := by
    rw [mK_new, if_neg (by show ¬ p = mN M + (1 + 8); omega), mK_sR]; exact kd1
  refine E_putR dX4_init_22 kF_X4_16 kY_4 (Or.inr ⟨_, rfl⟩) (by first | (show p < mN M; omega) | (show p < mN M + (1 + 8); omega) | (show p < mN M + (1 + 8) + 1; omega)) (by first | exact hk | exact kd1 | exact kd2) (Or.inr ⟨rfl, rfl, rfl⟩) ?_
  refine E_aload_n dX4_init_25 rfl ?_
  refine E_iconst (v := nI 0) dX4_init_26 (by decide) ?_
  refine E_putI dX4_init_27 kF_X4_20 kY_4 (Or.inl rfl) (by first | (show p < mN M; omega) | (show p < mN M + (1 + 8); omega) | (show p < mN M + (1 + 8) + 1; omega)) (by first | exact hk | exact kd1 | exact kd2) (Or.inl rfl) ?_
  refine E_aload_n dX4_init_30 rfl ?_
  refine E_iload_n dX4_init_31 rfl ?_
  refine E_putI dX4_init_32 kF_X4_24 kY_4 (Or.inl rfl) (by first | (show p < mN M; omega) | (show p < mN M + (1 + 8); omega) | (show p < mN M + (1 + 8) + 1; omega)) (by first | exact hk | exact kd1 | exact kd2) (Or.inr ⟨rfl, rfl, rfl⟩) ?_
  refine E_aload_n dX4_init_35 rfl ?_
  refine E_iload_n dX4_init_36 rfl ?_
  refine E_putI dX4_init_37 kF_X4_27 kY_4 (Or.inl rfl) (by first | (show p < mN M; omega) | (show p < mN M + (1 + 8); omega) | (show p < mN M + (1 + 8) + 1; omega)) (by first | exact hk | exact kd1 | exact kd2) (Or.inr ⟨rfl, rfl, rfl⟩) ?_
  refine E_aload_n dX4_init_40 rfl ?_
  refine E_iload_n dX4_init_41 rfl ?_
  refine E_putI dX4_init_42 kF_X4_30 kY_4 (Or.inl rfl) (by first | (show p < mN M; omega) | (show p < mN M + (1 + 8); omega) | (show p < mN M + (1 + 8) + 1; omega)) (by first | exact hk | exact kd1 | exact kd2) (Or.inr ⟨rfl, rfl, rfl⟩) ?_
  refine E_aload_n dX4_init_45 rfl ?_
  refine E_iload dX4_init_46 rfl ?_
  refine E_putI dX4_init_48 kF_X4_33 kY_4 (Or.inl rfl) (by first | (show p < mN M; omega) | (show p < mN M + (1 + 8); omega) | (show p < mN M + (1 + 8) + 1; omega)) (by first | exact hk | exact kd1 | exact kd2) (Or.inr ⟨rfl, rfl, rfl⟩) ?_
  refine E_aload_n dX4_init_51 rfl ?_
  refine E_iload dX4_init_52 rfl ?_
  refine E_putI dX4_init_54 kF_X4_36 kY_4 (Or.inl rfl) (by first | (show p < mN M; omega) | (show p < mN M + (1 + 8); omega) | (show p < mN M + (1 + 8) + 1; omega)) (by first | exact hk | exact kd1 | exact kd2) (Or.inr ⟨rfl, rfl, rfl⟩) ?_
  refine E_aload_n dX4_init_57 rfl ?_
  refine E_iload_n dX4_init_58 rfl ?_
  refine E_iconst (v := nI 4) dX4_init_59 (by decide) ?_
  refine E_icmp_eq (tgt := 68) dX4_init_60 (by decide) (fun c_60 => ?_) (fun c_60 => ?_)
  · refine E_iconst (v := nI 1) dX4_init_68 (by decide) ?_
    refine E_goto (tgt := 73) dX4_init_69 (by decide) ?_
    refine E_putI dX4_init_73 kF_X4_39 kY_4 (Or.inl rfl) (by first | (show p < mN M; omega) | (show p < mN M + (1 + 8); omega) | (show p < mN M + (1 + 8) + 1; omega)) (by first | exact hk | exact kd1 | exact kd2) (Or.inr ⟨rfl, rfl, rfl⟩) ?_
    refine E_vret dX4_init_76 rfl ?_
    refine K (sI (sI (sI (sI (sI (sI (sI (sR (mNew (sR (mGrid M 8 6) p 6 (mN M + 1)) (13, 256)) p 7 (mN M + (1 + 8) + 1)) p 8 (nI 0)) p 0 p1) p 1 p2) p 2 p3) p 3 p4) p 4 p5) p 5 (nI 1)) (by show mN M + (1 + 8) + 1 = p + 11; omega) (fun a ha => ?_) (fun a j ha => ⟨?_, ?_, ?_⟩) ⟨⟨?_, fun k hk8 => ?_, ?_⟩, ⟨?_, ?_, ?_, ?_, ?_, ?_, ?_⟩, ⟨?_, ?_, fun k hk8 => ?_⟩, fun q => ?_⟩
    · show mK (mNew (sR (mGrid M 8 6) p 6 (mN M + 1)) (13, 256)) a = mK M a
      rw [mK_new, if_neg (by show ¬ a = mN M + (1 + 8); omega), mK_sR, mK_grid, if_pos (by omega)]
    · rw [mI_ne (by omega), mI_ne (by omega), mI_ne (by omega), mI_ne (by omega), mI_ne (by omega), mI_ne (by omega), mI_ne (by omega)]
      show mI (mNew (sR (mGrid M 8 6) p 6 (mN M + 1)) (13, 256)) a j = mI M a j
      rw [mI_new, if_neg (by show ¬ a = mN M + (1 + 8); omega), mI_sR, mI_grid, if_pos (by omega)]
    · show mL (mNew (sR (mGrid M 8 6) p 6 (mN M + 1)) (13, 256)) a j = mL M a j
      rw [mL_new, if_neg (by show ¬ a = mN M + (1 + 8); omega), mL_sR, mL_grid, if_pos (by omega)]
    · show mR (sR (mNew (sR (mGrid M 8 6) p 6 (mN M + 1)) (13, 256)) p 7 (mN M + (1 + 8) + 1)) a j = mR M a j
      rw [mR_ne (by omega), mR_new, if_neg (by show ¬ a = mN M + (1 + 8); omega), mR_ne (by omega), mR_grid, if_pos (by omega)]
    · show mK (mNew (sR (mGrid M 8 6) p 6 (mN M + 1)) (13, 256)) (p + 1) = _
      rw [mK_new, if_neg (by show ¬ _ = mN M + (1 + 8); omega), mK_sR, mK_grid, if_neg (by omega), if_pos (by omega)]
    · show mK (mNew (sR (mGrid M 8 6) p 6 (mN M + 1)) (13, 256)) (p + 2 + k) = _
      rw [mK_new, if_neg (by show ¬ _ = mN M + (1 + 8); omega), mK_sR, mK_grid, if_neg (by omega), if_neg (by omega)]
    · show mK (mNew (sR (mGrid M 8 6) p 6 (mN M + 1)) (13, 256)) (p + 10) = _
      rw [mK_new, if_pos (by show _ = mN M + (1 + 8); omega)]
    · rw [mI_nj (by decide), mI_nj (by decide), mI_nj (by decide), mI_nj (by decide), mI_nj (by decide), mI_eq]
    · rw [mI_nj (by decide), mI_nj (by decide), mI_nj (by decide), mI_nj (by decide), mI_eq]
    · rw [mI_nj (by decide), mI_nj (by decide), mI_nj (by decide), mI_eq]
    · rw [mI_nj (by decide), mI_nj (by decide), mI_eq]
    · rw [mI_nj (by decide), mI_eq]
    · rw [mI_eq, cI_t (by first | exact Or.inl (by assumption) | exact Or.inr (by assumption) | grind)]
    · rw [mI_nj (by decide), mI_nj (by decide), mI_nj (by decide), mI_nj (by decide), mI_nj (by decide), mI_nj (by decide), mI_eq]
    · show mR (sR (mNew (sR (mGrid M 8 6) p 6 (mN M + 1)) (13, 256)) p 7 (mN M + (1 + 8) + 1)) p 6 = _
      rw [mR_nj (by decide), mR_new, if_neg (by show ¬ _ = mN M + (1 + 8); omega), mR_eq]
      omega
    · show mR (sR (mNew (sR (mGrid M 8 6) p 6 (mN M + 1)) (13, 256)) p 7 (mN M + (1 + 8) + 1)) p 7 = _
      rw [mR_eq]
      omega
    · show mR (sR (mNew (sR (mGrid M 8 6) p 6 (mN M + 1)) (13, 256)) p 7 (mN M + (1 + 8) + 1)) (p + 1) k = _
      rw [mR_ne (by omega), mR_new, if_neg (by show ¬ _ = mN M + (1 + 8); omega), mR_ne (by omega), mR_grid, if_neg (by omega), if_pos ⟨by omega, hk8⟩]
      omega
    · rw [mI_ne (by omega), mI_ne (by omega), mI_ne (by omega), mI_ne (by omega), mI_ne (by omega), mI_ne (by omega), mI_ne (by omega)]
      show mI (mNew (sR (mGrid M 8 6) p 6 (mN M + 1)) (13, 256)) (p + 10) q = 0
      rw [mI_new, if_pos (by show _ = mN M + (1 + 8); omega)]
  · refine E_iload_n dX4_init_63 rfl ?_
    refine E_iconst (v := nI 5) dX4_init_64 (by decide) ?_
    refine E_icmp_ne (tgt := 72) dX4_init_65 (by decide) (fun c_65 => ?_) (fun c_65 => ?_)
    · refine E_iconst (v := nI 0) dX4_init_72 (by decide) ?_
      refine E_putI dX4_init_73 kF_X4_39 kY_4 (Or.inl rfl) (by first | (show p < mN M; omega) | (show p < mN M + (1 + 8); omega) | (show p < mN M + (1 + 8) + 1; omega)) (by first | exact hk | exact kd1 | exact kd2) (Or.inr ⟨rfl, rfl, rfl⟩) ?_
      refine E_vret dX4_init_76 rfl ?_
      refine K (sI (sI (sI (sI (sI (sI (sI (sR (mNew (sR (mGrid M 8 6) p 6 (mN M + 1)) (13, 256)) p 7 (mN M + (1 + 8) + 1)) p 8 (nI 0)) p 0 p1) p 1 p2) p 2 p3) p 3 p4) p 4 p5) p 5 (nI 0)) (by show mN M + (1 + 8) + 1 = p + 11; omega) (fun a ha => ?_) (fun a j ha => ⟨?_, ?_, ?_⟩) ⟨⟨?_, fun k hk8 => ?_, ?_⟩, ⟨?_, ?_, ?_, ?_, ?_, ?_, ?_⟩, ⟨?_, ?_, fun k hk8 => ?_⟩, fun q => ?_⟩
      · show mK (mNew (sR (mGrid M 8 6) p 6 (mN M + 1)) (13, 256)) a = mK M a
        rw [mK_new, if_neg (by show ¬ a = mN M + (1 + 8); omega), mK_sR, mK_grid, if_pos (by omega)]
      · rw [mI_ne (by omega), mI_ne (by omega), mI_ne (by omega), mI_ne (by omega), mI_ne (by omega), mI_ne (by omega), mI_ne (by omega)]
        show mI (mNew (sR (mGrid M 8 6) p 6 (mN M + 1)) (13, 256)) a j = mI M a j
        rw [mI_new, if_neg (by show ¬ a = mN M + (1 + 8); omega), mI_sR, mI_grid, if_pos (by omega)]
      · show mL (mNew (sR (mGrid M 8 6) p 6 (mN M + 1)) (13, 256)) a j = mL M a j
        rw [mL_new, if_neg (by show ¬ a = mN M + (1 + 8); omega), mL_sR, mL_grid, if_pos (by omega)]
      · show mR (sR (mNew (sR (mGrid M 8 6) p 6 (mN M + 1)) (13, 256)) p 7 (mN M + (1 + 8) + 1)) a j = mR M a j
        rw [mR_ne (by omega), mR_new, if_neg (by show ¬ a = mN M + (1 + 8); omega), mR_ne (by omega), mR_grid, if_pos (by omega)]
      · show mK (mNew (sR (mGrid M 8 6) p 6 (mN M + 1)) (13, 256)) (p + 1) = _
        rw [mK_new, if_neg (by show ¬ _ = mN M + (1 + 8); omega), mK_sR, mK_grid, if_neg (by omega), if_pos (by omega)]
      · show mK (mNew (sR (mGrid M 8 6) p 6 (mN M + 1)) (13, 256)) (p + 2 + k) = _
        rw [mK_new, if_neg (by show ¬ _ = mN M + (1 + 8); omega), mK_sR, mK_grid, if_neg (by omega), if_neg (by omega)]
      · show mK (mNew (sR (mGrid M 8 6) p 6 (mN M + 1)) (13, 256)) (p + 10) = _
        rw [mK_new, if_pos (by show _ = mN M + (1 + 8); omega)]
      · rw [mI_nj (by decide), mI_nj (by decide), mI_nj (by decide), mI_nj (by decide), mI_nj (by decide), mI_eq]
      · rw [mI_nj (by decide), mI_nj (by decide), mI_nj (by decide), mI_nj (by decide), mI_eq]
      · rw [mI_nj (by decide), mI_nj (by decide), mI_nj (by decide), mI_eq]
      · rw [mI_nj (by decide), mI_nj (by decide), mI_eq]
      · rw [mI_nj (by decide), mI_eq]
      · rw [mI_eq, cI_f (by grind)]
      · rw [mI_nj (by decide), mI_nj (by decide), mI_nj (by decide), mI_nj (by decide), mI_nj (by decide), mI_nj (by decide), mI_eq]
      · show mR (sR (mNew (sR (mGrid M 8 6) p 6 (mN M + 1)) (13, 256)) p 7 (mN M + (1 + 8) + 1)) p 6 = _
        rw [mR_nj (by decide), mR_new, if_neg (by show ¬ _ = mN M + (1 + 8); omega), mR_eq]
        omega
      · show mR (sR (mNew (sR (mGrid M 8 6) p 6 (mN M + 1)) (13, 256)) p 7 (mN M + (1 + 8) + 1)) p 7 = _
        rw [mR_eq]
        omega
      · show mR (sR (mNew (sR (mGrid M 8 6) p 6 (mN M + 1)) (13, 256)) p 7 (mN M + (1 + 8) + 1)) (p + 1) k = _
        rw [mR_ne (by omega), mR_new, if_neg (by show ¬ _ = mN M + (1 + 8); omega), mR_ne (by omega), mR_grid, if_neg (by omega), if_pos ⟨by omega, hk8⟩]
        omega
      · rw [mI_ne (by omega), mI_ne (by omega), mI_ne (by omega), mI_ne (by omega), mI_ne (by omega), mI_ne (by omega), mI_ne (by omega)]
        show mI (mNew (sR (mGrid M 8 6) p 6 (mN M + 1)) (13, 256)) (p + 10) q = 0
        rw [mI_new, if_pos (by show _ = mN M + (1 + 8); omega)]
    · refine E_iconst (v := nI 1) dX4_init_68 (by decide) ?_
      refine E_goto (tgt := 73) dX4_init_69 (by decide) ?_
      refine E_putI dX4_init_73 kF_X4_39 kY_4 (Or.inl rfl) (by first | (show p < mN M; omega) | (show p < mN M + (1 + 8); omega) | (show p < mN M + (1 + 8) + 1; omega)) (by first | exact hk | exact kd1 | exact kd2) (Or.inr ⟨rfl, rfl, rfl⟩) ?_
      refine E_vret dX4_init_76 rfl ?_
      refine K (sI (sI (sI (sI (sI (sI (sI (sR (mNew (sR (mGrid M 8 6) p 6 (mN M + 1)) (13, 256)) p 7 (mN M + (1 + 8) + 1)) p 8 (nI 0)) p 0 p1) p 1 p2) p 2 p3) p 3 p4) p 4 p5) p 5 (nI 1)) (by show mN M + (1 + 8) + 1 = p + 11; omega) (fun a ha => ?_) (fun a j ha => ⟨?_, ?_, ?_⟩) ⟨⟨?_, fun k hk8 => ?_, ?_⟩, ⟨?_, ?_, ?_, ?_, ?_, ?_, ?_⟩, ⟨?_, ?_, fun k hk8 => ?_⟩, fun q => ?_⟩
      · show mK (mNew (sR (mGrid M 8 6) p 6 (mN M + 1)) (13, 256)) a = mK M a
        rw [mK_new, if_neg (by show ¬ a = mN M + (1 + 8); omega), mK_sR, mK_grid, if_pos (by omega)]
      · rw [mI_ne (by omega), mI_ne (by omega), mI_ne (by omega), mI_ne (by omega), mI_ne (by omega), mI_ne (by omega), mI_ne (by omega)]
        show mI (mNew (sR (mGrid M 8 6) p 6 (mN M + 1)) (13, 256)) a j = mI M a j
        rw [mI_new, if_neg (by show ¬ a = mN M + (1 + 8); omega), mI_sR, mI_grid, if_pos (by omega)]
      · show mL (mNew (sR (mGrid M 8 6) p 6 (mN M + 1)) (13, 256)) a j = mL M a j
        rw [mL_new, if_neg (by show ¬ a = mN M + (1 + 8); omega), mL_sR, mL_grid, if_pos (by omega)]
      · show mR (sR (mNew (sR (mGrid M 8 6) p 6 (mN M + 1)) (13, 256)) p 7 (mN M + (1 + 8) + 1)) a j = mR M a j
        rw [mR_ne (by omega), mR_new, if_neg (by show ¬ a = mN M + (1 + 8); omega), mR_ne (by omega), mR_grid, if_pos (by omega)]
      · show mK (mNew (sR (mGrid M 8 6) p 6 (mN M + 1)) (13, 256)) (p + 1) = _
        rw [mK_new, if_neg (by show ¬ _ = mN M + (1 + 8); omega), mK_sR, mK_grid, if_neg (by omega), if_pos (by omega)]
      · show mK (mNew (sR (mGrid M 8 6) p 6 (mN M + 1)) (13, 256)) (p + 2 + k) = _
        rw [mK_new, if_neg (by show ¬ _ = mN M + (1 + 8); omega), mK_sR, mK_grid, if_neg (by omega), if_neg (by omega)]
      · show mK (mNew (sR (mGrid M 8 6) p 6 (mN M + 1)) (13, 256)) (p + 10) = _
        rw [mK_new, if_pos (by show _ = mN M + (1 + 8); omega)]
      · rw [mI_nj (by decide), mI_nj (by decide), mI_nj (by decide), mI_nj (by decide), mI_nj (by decide), mI_eq]
      · rw [mI_nj (by decide), mI_nj (by decide), mI_nj (by decide), mI_nj (by decide), mI_eq]
      · rw [mI_nj (by decide), mI_nj (by decide), mI_nj (by decide), mI_eq]
      · rw [mI_nj (by decide), mI_nj (by decide), mI_eq]
      · rw [mI_nj (by decide), mI_eq]
      · rw [mI_eq, cI_t (by first | exact Or.inl (by assumption) | exact Or.inr (by assumption) | grind)]
      · rw [mI_nj (by decide), mI_nj (by decide), mI_nj (by decide), mI_nj (by decide), mI_nj (by decide), mI_nj (by decide), mI_eq]
      · show mR (sR (mNew (sR (mGrid M 8 6) p 6 (mN M + 1)) (13, 256)) p 7 (mN M + (1 + 8) + 1)) p 6 = _
        rw [mR_nj (by decide), mR_new, if_neg (by show ¬ _ = mN M + (1 + 8); omega), mR_eq]
        omega
      · show mR (sR (mNew (sR (mGrid M 8 6) p 6 (mN M + 1)) (13, 256)) p 7 (mN M + (1 + 8) + 1)) p 7 = _
        rw [mR_eq]
        omega
      · show mR (sR (mNew (sR (mGrid M 8 6) p 6 (mN M + 1)) (13, 256)) p 7 (mN M + (1 + 8) + 1)) (p + 1) k = _
        rw [mR_ne (by omega), mR_new, if_neg (by show ¬ _ = mN M + (1 + 8); omega), mR_ne (by omega), mR_grid, if_neg (by omega), if_pos ⟨by omega, hk8⟩]
        omega
      · rw [mI_ne (by omega), mI_ne (by omega), mI_ne (by omega), mI_ne (by omega), mI_ne (by omega), mI_ne (by omega), mI_ne (by omega)]
        show mI (mNew (sR (mGrid M 8 6) p 6 (mN M + 1)) (13, 256)) (p + 10) q = 0
        rw [mI_new, if_pos (by show _ = mN M + (1 + 8); omega)]
theorem nxL_N {c : Cf} {f n a i : Nat} {p1 p2 p3 p4 p5 : Int32} : cN (nxL c f n p1 p2 p3 p4 p5) a i = if a = 129 ∧ i = f then n + 1 else if a = 135 ∧ i = 12 * f + n then 0 else if a = 134 ∧ i = 12 * f + n then gN p5 else if a = 133 ∧ i = 12 * f + n then gN p4 else if a = 132 ∧ i = 12 * f + n then gN p3 else if a = 131 ∧ i = 12 * f + n then gN p2 else if a = 130 ∧ i = 12 * f + n then gN p1 else cN c a i := id rfl
theorem nxL_Ne {c : Cf} {f n a i : Nat} {p1 p2 p3 p4 p5 : Int32} (h : (¬ a = 129 ∧ ¬ i = 12 * f + n) ∨ (a = 129 ∧ ¬ i = f) ∨ ¬ (129 ≤ a ∧ a ≤ 135)) : cN (nxL c f n p1 p2 p3 p4 p5) a i = cN c a i := by
  rw [nxL_N, if_neg (by omega), if_neg (by omega), if_neg (by omega), if_neg (by omega), if_neg (by omega), if_neg (by omega), if_neg (by omega)]
theorem nxL_R {c : Cf} {f n : Nat} {p1 p2 p3 p4 p5 : Int32} {i : Nat} : cR (nxL c f n p1 p2 p3 p4 p5) i = cR c i := rfl
def pAt (P : Nat → Nat) (x p i : Nat) : Nat := if i = x then p else P i
theorem kB.newL {c : Cf} {P : Nat → Nat} {M M' : gM} (h : kB c P M) {f n p : Nat} (hf : f < 2) (hn : n = cN c 129 f) (h12 : n < 12) (hp : p = mN M) {p1 p2 p3 p4 p5 : Int32} (h1 : iLk1 p1 p2) (h2 : iLk2 p3 p4 p5) (hN : p + 11 ≤ mN M') (hk : ∀ a, a < p → mK M' a = mK M a) (hkp : mK M' p = (4, 0))
    (hi : ∀ a j, a < p → ¬ (a = fb f ∧ j = 4) → mI M' a j = mI M a j) (hr : ∀ a j, a < p → ¬ (a = fb f + 1 ∧ j = n) → mR M' a j = mR M a j) (hl : kLn p1 p2 p3 p4 p5 M' p) (h4 : mI M' (fb f) 4 = nI (n + 1)) (hR : mR M' (fb f + 1) n = p + 1) : kB (nxL c f n p1 p2 p3 p4 p5) (pAt P (12 * f + n) p) M' := by
  have hw := nxL_wf h.wf h1 h2 h12 (f := f)
  have hp2 : 139 ≤ p := by have := h.lay.1; rw [hp]; exact this
  have hct := h.wf.ct f
  have gl0 : ∀ {a j}, a ≤ 5 → mI M' a j = mI M a j := fun q => hi _ _ (by omega) (by unfold fb; omega)
  have hL : gLay M' := h.lay.of (by omega) (fun a q => hk a (by omega)) (fun t q => by
    have g := (gl_kT t q).2
    exact hr _ _ (by omega) (by unfold fb; omega))
  have hcount : ∀ f0, f0 < 2 → cN (nxL c f n p1 p2 p3 p4 p5) 129 f0 = if f0 = f then n + 1 else cN c 129 f0 := fun f0 _ => by
    by_cases e : f0 = f
    · rw [if_pos e, nxL_N, if_pos ⟨rfl, e⟩]
    · rw [if_neg e, nxL_Ne (by omega)]
  have hin : ∀ f0 j0, f0 < 2 → j0 < cN (nxL c f n p1 p2 p3 p4 p5) 129 f0 → ¬ 12 * f0 + j0 = 12 * f + n → j0 < cN c 129 f0 := fun f0 j0 q q2 q3 => by
    rw [hcount f0 q] at q2
    by_cases e : f0 = f
    · subst e; rw [if_pos rfl] at q2; omega
    · rw [if_neg e] at q2; exact q2
  have hold : ∀ f0 j0, f0 < 2 → j0 < cN c 129 f0 → 12 * f0 + j0 ≠ 12 * f + n := fun f0 j0 q q2 e => by
    have := h.wf.ct f0
    have e1 : f0 = f := by omega
    subst e1; omega
  have hend : ∀ f0 j0, f0 < 2 → j0 < cN c 129 f0 → P (12 * f0 + j0) + 11 ≤ p := fun f0 j0 q q2 => by rw [hp]; exact (h.kl q q2).1.2.1
  refine ⟨hL, hw, ?_, ⟨fun j hj => ⟨?_, ?_⟩, fun j hj => ?_, ?_, ?_⟩, fun f0 hf0 => ⟨?_, fun q hq => ⟨?_, ?_, ?_⟩, fun j0 hj0 => ?_⟩, ?_⟩
  · show _ = nI (cN (nxL c f n p1 p2 p3 p4 p5) 128 1)
    rw [nxL_Ne (by omega), gl0 (by decide)]; exact h.used
  · rw [nxL_Ne (by omega), gl0 (by decide)]; exact h.sg hj
  · rw [nxL_Ne (by omega), gl0 (by decide)]; exact h.ex hj
  · rw [nxL_Ne (by omega), gl0 (by decide)]; exact h.lk hj
  · show _ = nI (cN (nxL c f n p1 p2 p3 p4 p5) 128 14)
    rw [nxL_Ne (by omega), gl0 (by decide)]; exact h.len
  · rw [nxL_Ne (by omega), gl0 (by decide)]; exact h.tng
  · by_cases e : f0 = f
    · subst e; rw [hcount _ hf0, if_pos rfl, h4]
    · rw [hcount _ hf0, if_neg e, hi _ _ (by unfold fb; omega) (by unfold fb; omega)]; exact h.fcnt hf0
  · rw [nxL_Ne (by omega), hi _ _ (by unfold fb; omega) (by unfold fb; omega)]; exact h.fmk hf0 hq
  · rw [nxL_Ne (by omega), hi _ _ (by unfold fb; omega) (by unfold fb; omega)]; exact h.fgr hf0 hq
  · rw [nxL_Ne (by omega), hi _ _ (by unfold fb; omega) (by unfold fb; omega)]; exact h.fwd hf0 hq
  · by_cases e : 12 * f0 + j0 = 12 * f + n
    · have hj12 : j0 < cN (nxL c f n p1 p2 p3 p4 p5) 129 f0 := hj0
      have hc12 := hw.ct f0
      obtain rfl : f0 = f := by omega
      obtain rfl : j0 = n := by omega
      refine ⟨by rw [hR]; unfold pAt; rw [if_pos rfl], ?_⟩
      unfold pAt
      rw [if_pos rfl]
      obtain ⟨⟨l1, l2, l3⟩, ⟨i0, i1, i2, i3, i4, i5, i8⟩, ⟨r6, r7, rr⟩, tz⟩ := hl
      obtain ⟨a1, b1⟩ := gN_ok h1.1 (by decide)
      obtain ⟨a2, b2⟩ := gN_ok h1.2 (by decide)
      obtain ⟨a3, b3⟩ := gN_ok h2.1 (by decide)
      obtain ⟨a4, b4⟩ := gN_ok h2.2.1 (by decide)
      obtain ⟨a5, b5⟩ := gN_ok h2.2.2 (by decide)
      have e130 : cN (nxL c f0 j0 p1 p2 p3 p4 p5) 130 (12 * f0 + j0) = gN p1 := by
        rw [nxL_N, if_neg (by omega), if_neg (by omega), if_neg (by omega), if_neg (by omega), if_neg (by omega), if_neg (by omega), if_pos ⟨rfl, rfl⟩]
      have e131 : cN (nxL c f0 j0 p1 p2 p3 p4 p5) 131 (12 * f0 + j0) = gN p2 := by
        rw [nxL_N, if_neg (by omega), if_neg (by omega), if_neg (by omega), if_neg (by omega), if_neg (by omega), if_pos ⟨rfl, rfl⟩]
      have e132 : cN (nxL c f0 j0 p1 p2 p3 p4 p5) 132 (12 * f0 + j0) = gN p3 := by
        rw [nxL_N, if_neg (by omega), if_neg (by omega), if_neg (by omega), if_neg (by omega), if_pos ⟨rfl, rfl⟩]
      have e133 : cN (nxL c f0 j0 p1 p2 p3 p4 p5) 133 (12 * f0 + j0) = gN p4 := by
        rw [nxL_N, if_neg (by omega), if_neg (by omega), if_neg (by omega), if_pos ⟨rfl, rfl⟩]
      have e134 : cN (nxL c f0 j0 p1 p2 p3 p4 p5) 134 (12 * f0 + j0) = gN p5 := by
        rw [nxL_N, if_neg (by omega), if_neg (by omega), if_pos ⟨rfl, rfl⟩]
      have e135 : cN (nxL c f0 j0 p1 p2 p3 p4 p5) 135 (12 * f0 + j0) = 0 := by
        rw [nxL_N, if_neg (by omega), if_pos ⟨rfl, rfl⟩]
      unfold kLk
      rw [e130, e131, e132, e133, e134, e135]
      refine ⟨⟨hp2, hN, hkp, l1, l2, l3⟩, ⟨i0.trans a1, i1.trans a2, i2.trans a3, i3.trans a4, i4.trans a5, i5.trans ?_, i8⟩, ⟨r6, r7, rr⟩, fun k w q _ => absurd q (Nat.not_lt_zero k), fun q hq => (tz q).trans ?_⟩
      · unfold leadOf
        by_cases z : gN p1 = 4 ∨ gN p1 = 5
        · rw [cI_t (by rcases z with z | z <;> rw [a1, z] <;> simp), if_pos z]
        · rw [cI_f (fun y => z (y.elim (fun y => Or.inl (by rw [y]; exact gN_nI (by decide))) (fun y => Or.inr (by rw [y]; exact gN_nI (by decide))))), if_neg z]
      · unfold bgB
        rw [e135]; rfl
    · have hj1 := hin f0 j0 hf0 hj0 e
      have b2 := h.kl hf0 hj1
      have hd := hend f0 j0 hf0 hj1
      have eP : pAt P (12 * f + n) p (12 * f0 + j0) = P (12 * f0 + j0) := if_neg e
      have hc0 := h.wf.ct f0
      rw [eP]
      refine ⟨(hr _ _ (by unfold fb; omega) (by unfold fb; omega)).trans (h.flk hf0 hj1), ?_⟩
      have b3 := b2.mv (M' := M') (h.wf.lk _).2.2.2.2.2 (by omega) (fun a q => hk a (by omega)) (fun a j q q2 => hi a j (by omega) (by unfold fb; omega)) (fun a j q q2 => hr a j (by omega) (by unfold fb; omega))
      refine (b3.w.cg (c' := nxL c f n p1 p2 p3 p4 p5) (fun a q q2 => nxL_Ne (by omega)) (fun k w q q2 => rfl)).k (fun q hq => ?_)
      rw [b3.tb hq, bgB_cg (c := c) (c' := nxL c f n p1 p2 p3 p4 p5) (nxL_Ne (by omega)) (nxL_Ne (by omega)) (nxL_Ne (by omega)) (fun k hk2 => rfl)]
  · intro f0 j0 f1 j1 q0 q1 hj0 hj1 ne
    by_cases e0 : 12 * f0 + j0 = 12 * f + n
    · have hj1' := hin f1 j1 q1 hj1 (by omega)
      have := hend f1 j1 q1 hj1'
      unfold pAt
      rw [if_pos e0, if_neg (by omega)]
      exact Or.inr this
    · have hj0' := hin f0 j0 q0 hj0 e0
      by_cases e1 : 12 * f1 + j1 = 12 * f + n
      · have := hend f0 j0 q0 hj0'
        unfold pAt
        rw [if_neg e0, if_pos e1]
        exact Or.inl this
      · unfold pAt
        rw [if_neg e0, if_neg e1]
        exact h.dj q0 q1 hj0' (hin f1 j1 q1 hj1 e1) ne
