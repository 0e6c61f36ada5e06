/-! the class: what a row begins as -/
set_option maxRecDepth 100000 in
set_option maxHeartbeats 4000000 in
theorem lp_X5_vowelsEnd {g : gG} {M : gM} {Q : Option Value ⊕ String → gM → Prop} {c : Cf} {P : Nat → Nat} (hB : kB c P M) {b k0 : Nat} (hb : b ≤ 16) (K : Q (.inl (some (.int (nI (bv c b k0))))) M) : ∀ k, k ≤ b → fnd (fun j => ¬ cVo (cN c 141 j)) b k = bv c b k0 → E g 2 0 0 mX5_vowelsEnd 2 [.ref 3, .int (nI k0), .int (nI b), .int (nI k)] [] M Q := by
  have hL := hB.lay
  refine lpUp b (fun k hk ih => ?_)
  intro he
  have tx := (hB.wf.tx k).1
  refine E_iload_n dX5_vowelsEnd_2 rfl ?_
  refine E_iload_n dX5_vowelsEnd_3 rfl ?_
  refine E_icmp_ge_n (tgt := 25) dX5_vowelsEnd_4 (by decide) (by omega) (by omega) (fun c_4 => ?_) (fun c_4 => ?_)
  · refine E_iload_n dX5_vowelsEnd_25 rfl ?_
    refine E_iret dX5_vowelsEnd_26 (Or.inl rfl) ?_
    first
      | (rw [fnd_end (by omega)] at he; rw [he]; exact K)
      | (rw [fnd_hit (by omega) (by assumption)] at he; rw [he]; exact K)
  · refine E_aload_n dX5_vowelsEnd_7 rfl ?_
    refine E_getRL dX5_vowelsEnd_8 kF_X5_52 kY_10 (Or.inr ⟨_, rfl⟩) (l_2 hL) (k_2 hL) (r_2_0 hL) ?_
    refine E_iload_n dX5_vowelsEnd_11 rfl ?_
    refine E_ialdL (v := nI (cN _ 141 _)) dX5_vowelsEnd_12 (l_3 hL) (k_3 hL) rfl (by omega) (by decide) (hB.sg (by omega)) ?_
    refine E_callS1 (fr' := 1) (k1 := 0) (n1 := 0) (k2 := 0) (n2 := 0) dX5_vowelsEnd_13 kO_X5_isVowelOrMark kL_X5_92 rfl (by decide) (by decide) (by exact Nat.le_of_ble_eq_true rfl) (Or.inl rfl) rfl ?_
    refine sp_X5_isVowelOrMark (by first | omega | exact Nat.lt_trans (hB.wf.tx _).1 (by decide) | exact Nat.lt_trans (hc.n256 _) (by decide)) ?_
    refine gKv ?_
    refine E_if_eq_b (tgt := 25) dX5_vowelsEnd_16 (by decide) (fun c_16 => ?_) (fun c_16 => ?_)
    · refine E_iload_n dX5_vowelsEnd_25 rfl ?_
      refine E_iret dX5_vowelsEnd_26 (Or.inl rfl) ?_
      first
        | (rw [fnd_end (by omega)] at he; rw [he]; exact K)
        | (rw [fnd_hit (by omega) (by assumption)] at he; rw [he]; exact K)
    · refine E_iinc_n (d := 1) dX5_vowelsEnd_19 rfl rfl rfl (by decide) rfl ?_
      refine E_goto (tgt := 2) dX5_vowelsEnd_22 (by decide) ?_
      exact ih (by omega) (by rw [← he]; exact (fnd_skip (by omega) (not_not_intro (by assumption))).symm)
set_option maxRecDepth 100000 in
set_option maxHeartbeats 4000000 in
theorem sp_X5_vowelsEnd {g : gG} {M : gM} {Q : Option Value ⊕ String → gM → Prop} {c : Cf} {P : Nat → Nat} (hB : kB c P M) {b k : Nat} (hb : b ≤ 16) (hk : k ≤ b) (K : Q (.inl (some (.int (nI (bv c b k))))) M) : E g 2 0 0 mX5_vowelsEnd 0 [.ref 3, .int (nI k), .int (nI b), .null] [] M Q := by
  have hL := hB.lay
  refine E_iload_n dX5_vowelsEnd_0 rfl ?_
  refine E_istore_n dX5_vowelsEnd_1 (Nat.le_of_ble_eq_true rfl) (by decide) rfl ?_
  exact lp_X5_vowelsEnd hB hb K k hk rfl
set_option maxRecDepth 100000 in
set_option maxHeartbeats 4000000 in
theorem lp_X5_stackEnd {g : gG} {M : gM} {Q : Option Value ⊕ String → gM → Prop} {c : Cf} {P : Nat → Nat} (hB : kB c P M) {b k0 : Nat} (hb : b ≤ 16) (K : Q (.inl (some (.int (nI (bcE c b k0))))) M) : ∀ t k, b - k ≤ t → k ≤ b → bcE c b k = bcE c b k0 → ∀ s v5, s ≤ k → E g 3 0 0 mX5_stackEnd 5 [.ref 3, .int (nI k0), .int (nI b), .int (nI k), .int (nI s), v5] [] M Q := by
  have hL := hB.lay
  intro t
  induction t with
  | zero =>
    intro k ht hk he s v5 hs
    have tx := (hB.wf.tx k).1
    refine E_iload_n dX5_stackEnd_5 rfl ?_
    refine E_iload_n dX5_stackEnd_6 rfl ?_
    refine E_icmp_ge_n (tgt := 93) dX5_stackEnd_7 (by decide) (by omega) (by omega) (fun c_7 => ?_) (fun c_7 => ?_)
    · refine E_aload_n dX5_stackEnd_93 rfl ?_
      refine E_iload_n dX5_stackEnd_94 rfl ?_
      refine E_iload_n dX5_stackEnd_95 rfl ?_
      refine E_callS3 (fr' := 2) (k1 := 0) (n1 := 0) (k2 := 0) (n2 := 0) dX5_stackEnd_96 kO_X5_vowelsEnd kL_X5_83 rfl rfl rfl (by decide) (by decide) (by exact Nat.le_of_ble_eq_true rfl) (Or.inl rfl) rfl ?_
      refine sp_X5_vowelsEnd hB (by omega) (by omega) ?_
      refine gKv ?_
      refine E_iret dX5_stackEnd_99 (Or.inl rfl) ?_
      first
        | (rw [bcE_0 (c := c) (b := b) (k := k) (by omega)] at he; rw [← he] at K; exact K)
        | (rw [bcE_1 (c := c) (b := b) (k := k) ⟨by omega, by omega⟩ (by omega)] at he; rw [← he] at K; exact K)
    · refine E_aload_n dX5_stackEnd_10 rfl ?_
      refine E_getRL dX5_stackEnd_11 kF_X5_52 kY_10 (Or.inr ⟨_, rfl⟩) (l_2 hL) (k_2 hL) (r_2_0 hL) ?_
      refine E_iload_n dX5_stackEnd_14 rfl ?_
      refine E_ialdL (v := nI (cN _ 141 _)) dX5_stackEnd_15 (l_3 hL) (k_3 hL) rfl (by omega) (by decide) (hB.sg (by omega)) ?_
      refine E_bipush (v := nI 39) dX5_stackEnd_16 (by decide) ?_
      refine E_icmp_ne_n (tgt := 93) dX5_stackEnd_18 (by decide) (by omega) (by omega) (fun c_18 => ?_) (fun c_18 => ?_)
      · refine E_aload_n dX5_stackEnd_93 rfl ?_
        refine E_iload_n dX5_stackEnd_94 rfl ?_
        refine E_iload_n dX5_stackEnd_95 rfl ?_
        refine E_callS3 (fr' := 2) (k1 := 0) (n1 := 0) (k2 := 0) (n2 := 0) dX5_stackEnd_96 kO_X5_vowelsEnd kL_X5_83 rfl rfl rfl (by decide) (by decide) (by exact Nat.le_of_ble_eq_true rfl) (Or.inl rfl) rfl ?_
        refine sp_X5_vowelsEnd hB (by omega) (by omega) ?_
        refine gKv ?_
        refine E_iret dX5_stackEnd_99 (Or.inl rfl) ?_
        first
          | (rw [bcE_0 (c := c) (b := b) (k := k) (by omega)] at he; rw [← he] at K; exact K)
          | (rw [bcE_1 (c := c) (b := b) (k := k) ⟨by omega, by omega⟩ (by omega)] at he; rw [← he] at K; exact K)
      · refine E_iload dX5_stackEnd_21 rfl ?_
        refine E_bipush (v := nI 16) dX5_stackEnd_23 (by decide) ?_
        refine E_icmp_ge_n (tgt := 93) dX5_stackEnd_25 (by decide) (by omega) (by omega) (fun c_25 => ?_) (fun c_25 => ?_)
        · refine E_aload_n dX5_stackEnd_93 rfl ?_
          refine E_iload_n dX5_stackEnd_94 rfl ?_
          refine E_iload_n dX5_stackEnd_95 rfl ?_
          refine E_callS3 (fr' := 2) (k1 := 0) (n1 := 0) (k2 := 0) (n2 := 0) dX5_stackEnd_96 kO_X5_vowelsEnd kL_X5_83 rfl rfl rfl (by decide) (by decide) (by exact Nat.le_of_ble_eq_true rfl) (Or.inl rfl) rfl ?_
          refine sp_X5_vowelsEnd hB (by omega) (by omega) ?_
          refine gKv ?_
          refine E_iret dX5_stackEnd_99 (Or.inl rfl) ?_
          first
            | (rw [bcE_0 (c := c) (b := b) (k := k) (by omega)] at he; rw [← he] at K; exact K)
            | (rw [bcE_1 (c := c) (b := b) (k := k) ⟨by omega, by omega⟩ (by omega)] at he; rw [← he] at K; exact K)
        · exfalso; omega
  | succ t ih =>
    intro k ht hk he s v5 hs
    have tx := (hB.wf.tx k).1
    have tx1 := (hB.wf.tx (k + 1)).1
    have go : k < b → cN c 141 k = 39 → ∀ x, x = bk c b k → E g 3 0 0 mX5_stackEnd 55 [.ref 3, .int (nI k0), .int (nI b), .int (nI k), .int (nI s), .int (nI x)] [] M Q := by
      intro hkb hk39 x hx
      have hbk := bk_b (c := c) hkb
      rw [← hx] at hbk
      have txx := (hB.wf.tx x).1
      refine E_iload dX5_stackEnd_55 rfl ?_
      refine E_iload_n dX5_stackEnd_57 rfl ?_
      refine E_icmp_ge_n (tgt := 74) dX5_stackEnd_58 (by decide) (by omega) (by omega) (fun c_58 => ?_) (fun c_58 => ?_)
      · refine E_aload_n dX5_stackEnd_74 rfl ?_
        refine E_iload dX5_stackEnd_75 rfl ?_
        refine E_iload_n dX5_stackEnd_77 rfl ?_
        refine E_callS3 (fr' := 2) (k1 := 0) (n1 := 0) (k2 := 0) (n2 := 0) dX5_stackEnd_78 kO_X5_vowelsEnd kL_X5_83 rfl rfl rfl (by decide) (by decide) (by exact Nat.le_of_ble_eq_true rfl) (Or.inl rfl) rfl ?_
        refine sp_X5_vowelsEnd hB (by omega) (by omega) ?_
        refine gKv ?_
        refine E_iret dX5_stackEnd_81 (Or.inl rfl) ?_
        rw [bcE_1 (c := c) (b := b) (k := k) ⟨hkb, hk39⟩ (fun z => by rw [← hx] at z; have := z.1; have := z.2; first | omega | contradiction)] at he
        rw [← he, ← hx] at K; exact K
      · refine E_aload_n dX5_stackEnd_61 rfl ?_
        refine E_getRL dX5_stackEnd_62 kF_X5_52 kY_10 (Or.inr ⟨_, rfl⟩) (l_2 hL) (k_2 hL) (r_2_0 hL) ?_
        refine E_iload dX5_stackEnd_65 rfl ?_
        refine E_ialdL (v := nI (cN _ 141 _)) dX5_stackEnd_67 (l_3 hL) (k_3 hL) rfl (by omega) (by decide) (hB.sg (by omega)) ?_
        refine E_callS1 (fr' := 1) (k1 := 0) (n1 := 0) (k2 := 0) (n2 := 0) dX5_stackEnd_68 kO_X11_isConsonant kL_X5_77 rfl (by decide) (by decide) (by exact Nat.le_of_ble_eq_true rfl) (Or.inl rfl) rfl ?_
        refine sp_X11_isConsonant (by first | omega | exact Nat.lt_trans (hB.wf.tx _).1 (by decide) | exact Nat.lt_trans (hc.n256 _) (by decide)) ?_
        refine gKv ?_
        refine E_if_ne_b (tgt := 82) dX5_stackEnd_71 (by decide) (fun c_71 => ?_) (fun c_71 => ?_)
        · refine E_iload dX5_stackEnd_82 rfl ?_
          refine E_iconst (v := nI 1) dX5_stackEnd_84 (by decide) ?_
          refine E_iadd_n dX5_stackEnd_85 ?_
          refine E_istore_n dX5_stackEnd_86 (Nat.le_of_ble_eq_true rfl) (by decide) rfl ?_
          refine E_iinc_n (d := 1) dX5_stackEnd_87 rfl rfl rfl (by decide) rfl ?_
          refine E_goto (tgt := 5) dX5_stackEnd_90 (by decide) ?_
          refine ih _ (by omega) (by omega) ?_ _ _ (by omega)
          rw [← he, hx]
          exact (bcE_2 ⟨hkb, hk39⟩ ⟨by omega, by rw [← hx]; assumption⟩).symm
        · refine E_aload_n dX5_stackEnd_74 rfl ?_
          refine E_iload dX5_stackEnd_75 rfl ?_
          refine E_iload_n dX5_stackEnd_77 rfl ?_
          refine E_callS3 (fr' := 2) (k1 := 0) (n1 := 0) (k2 := 0) (n2 := 0) dX5_stackEnd_78 kO_X5_vowelsEnd kL_X5_83 rfl rfl rfl (by decide) (by decide) (by exact Nat.le_of_ble_eq_true rfl) (Or.inl rfl) rfl ?_
          refine sp_X5_vowelsEnd hB (by omega) (by omega) ?_
          refine gKv ?_
          refine E_iret dX5_stackEnd_81 (Or.inl rfl) ?_
          rw [bcE_1 (c := c) (b := b) (k := k) ⟨hkb, hk39⟩ (fun z => by rw [← hx] at z; have := z.1; have := z.2; first | omega | contradiction)] at he
          rw [← he, ← hx] at K; exact K
    refine E_iload_n dX5_stackEnd_5 rfl ?_
    refine E_iload_n dX5_stackEnd_6 rfl ?_
    refine E_icmp_ge_n (tgt := 93) dX5_stackEnd_7 (by decide) (by omega) (by omega) (fun c_7 => ?_) (fun c_7 => ?_)
    · refine E_aload_n dX5_stackEnd_93 rfl ?_
      refine E_iload_n dX5_stackEnd_94 rfl ?_
      refine E_iload_n dX5_stackEnd_95 rfl ?_
      refine E_callS3 (fr' := 2) (k1 := 0) (n1 := 0) (k2 := 0) (n2 := 0) dX5_stackEnd_96 kO_X5_vowelsEnd kL_X5_83 rfl rfl rfl (by decide) (by decide) (by exact Nat.le_of_ble_eq_true rfl) (Or.inl rfl) rfl ?_
      refine sp_X5_vowelsEnd hB (by omega) (by omega) ?_
      refine gKv ?_
      refine E_iret dX5_stackEnd_99 (Or.inl rfl) ?_
      first
        | (rw [bcE_0 (c := c) (b := b) (k := k) (by omega)] at he; rw [← he] at K; exact K)
        | (rw [bcE_1 (c := c) (b := b) (k := k) ⟨by omega, by omega⟩ (by omega)] at he; rw [← he] at K; exact K)
    · refine E_aload_n dX5_stackEnd_10 rfl ?_
      refine E_getRL dX5_stackEnd_11 kF_X5_52 kY_10 (Or.inr ⟨_, rfl⟩) (l_2 hL) (k_2 hL) (r_2_0 hL) ?_
      refine E_iload_n dX5_stackEnd_14 rfl ?_
      refine E_ialdL (v := nI (cN _ 141 _)) dX5_stackEnd_15 (l_3 hL) (k_3 hL) rfl (by omega) (by decide) (hB.sg (by omega)) ?_
      refine E_bipush (v := nI 39) dX5_stackEnd_16 (by decide) ?_
      refine E_icmp_ne_n (tgt := 93) dX5_stackEnd_18 (by decide) (by omega) (by omega) (fun c_18 => ?_) (fun c_18 => ?_)
      · refine E_aload_n dX5_stackEnd_93 rfl ?_
        refine E_iload_n dX5_stackEnd_94 rfl ?_
        refine E_iload_n dX5_stackEnd_95 rfl ?_
        refine E_callS3 (fr' := 2) (k1 := 0) (n1 := 0) (k2 := 0) (n2 := 0) dX5_stackEnd_96 kO_X5_vowelsEnd kL_X5_83 rfl rfl rfl (by decide) (by decide) (by exact Nat.le_of_ble_eq_true rfl) (Or.inl rfl) rfl ?_
        refine sp_X5_vowelsEnd hB (by omega) (by omega) ?_
        refine gKv ?_
        refine E_iret dX5_stackEnd_99 (Or.inl rfl) ?_
        first
          | (rw [bcE_0 (c := c) (b := b) (k := k) (by omega)] at he; rw [← he] at K; exact K)
          | (rw [bcE_1 (c := c) (b := b) (k := k) ⟨by omega, by omega⟩ (by omega)] at he; rw [← he] at K; exact K)
      · refine E_iload dX5_stackEnd_21 rfl ?_
        refine E_bipush (v := nI 16) dX5_stackEnd_23 (by decide) ?_
        refine E_icmp_ge_n (tgt := 93) dX5_stackEnd_25 (by decide) (by omega) (by omega) (fun c_25 => ?_) (fun c_25 => ?_)
        · refine E_aload_n dX5_stackEnd_93 rfl ?_
          refine E_iload_n dX5_stackEnd_94 rfl ?_
          refine E_iload_n dX5_stackEnd_95 rfl ?_
          refine E_callS3 (fr' := 2) (k1 := 0) (n1 := 0) (k2 := 0) (n2 := 0) dX5_stackEnd_96 kO_X5_vowelsEnd kL_X5_83 rfl rfl rfl (by decide) (by decide) (by exact Nat.le_of_ble_eq_true rfl) (Or.inl rfl) rfl ?_
          refine sp_X5_vowelsEnd hB (by omega) (by omega) ?_
          refine gKv ?_
          refine E_iret dX5_stackEnd_99 (Or.inl rfl) ?_
          first
            | (rw [bcE_0 (c := c) (b := b) (k := k) (by omega)] at he; rw [← he] at K; exact K)
            | (rw [bcE_1 (c := c) (b := b) (k := k) ⟨by omega, by omega⟩ (by omega)] at he; rw [← he] at K; exact K)
        · refine E_iload_n dX5_stackEnd_28 rfl ?_
          refine E_iconst (v := nI 1) dX5_stackEnd_29 (by decide) ?_
          refine E_iadd_n dX5_stackEnd_30 ?_
          refine E_istore dX5_stackEnd_31 (Nat.le_of_ble_eq_true rfl) (by decide) rfl ?_
          refine E_iload dX5_stackEnd_33 rfl ?_
          refine E_iload_n dX5_stackEnd_35 rfl ?_
          refine E_icmp_ge_n (tgt := 55) dX5_stackEnd_36 (by decide) (by omega) (by omega) (fun c_36 => ?_) (fun c_36 => ?_)
          · refine go (by omega) (by omega) _ ?_
            first
              | exact (cI_t ⟨by omega, by assumption⟩).symm
              | exact (cI_f (fun z => by have := z.1; have := z.2; first | omega | contradiction)).symm
          · refine E_aload_n dX5_stackEnd_39 rfl ?_
            refine E_getRL dX5_stackEnd_40 kF_X5_52 kY_10 (Or.inr ⟨_, rfl⟩) (l_2 hL) (k_2 hL) (r_2_0 hL) ?_
            refine E_iload dX5_stackEnd_43 rfl ?_
            refine E_ialdL (v := nI (cN _ 141 _)) dX5_stackEnd_45 (l_3 hL) (k_3 hL) rfl (by omega) (by decide) (hB.sg (by omega)) ?_
            refine E_callS1 (fr' := 1) (k1 := 0) (n1 := 0) (k2 := 0) (n2 := 0) dX5_stackEnd_46 kO_X11_isJoinerOrParter kL_X5_89 rfl (by decide) (by decide) (by exact Nat.le_of_ble_eq_true rfl) (Or.inl rfl) rfl ?_
            refine sp_X11_isJoinerOrParter (by first | omega | exact Nat.lt_trans (hB.wf.tx _).1 (by decide) | exact Nat.lt_trans (hc.n256 _) (by decide)) ?_
            refine gKv ?_
            refine E_if_eq_b (tgt := 55) dX5_stackEnd_49 (by decide) (fun c_49 => ?_) (fun c_49 => ?_)
            · refine go (by omega) (by omega) _ ?_
              first
                | exact (cI_t ⟨by omega, by assumption⟩).symm
                | exact (cI_f (fun z => by have := z.1; have := z.2; first | omega | contradiction)).symm
            · refine E_iinc_n (d := 1) dX5_stackEnd_52 rfl rfl rfl (by decide) rfl ?_
              refine go (by omega) (by omega) _ ?_
              first
                | exact (cI_t ⟨by omega, by assumption⟩).symm
                | exact (cI_f (fun z => by have := z.1; have := z.2; first | omega | contradiction)).symm
set_option maxRecDepth 100000 in
set_option maxHeartbeats 4000000 in
theorem sp_X5_stackEnd {g : gG} {M : gM} {Q : Option Value ⊕ String → gM → Prop} {c : Cf} {P : Nat → Nat} (hB : kB c P M) {b k : Nat} (hb : b ≤ 16) (hk : k ≤ b) (K : Q (.inl (some (.int (nI (bcE c b k))))) M) : E g 3 0 0 mX5_stackEnd 0 [.ref 3, .int (nI k), .int (nI b), .null, .null, .null] [] M Q := by
  have hL := hB.lay
  refine E_iload_n dX5_stackEnd_0 rfl ?_
  refine E_istore_n dX5_stackEnd_1 (Nat.le_of_ble_eq_true rfl) (by decide) rfl ?_
  refine E_iconst (v := nI 0) dX5_stackEnd_2 (by decide) ?_
  refine E_istore dX5_stackEnd_3 (Nat.le_of_ble_eq_true rfl) (by decide) rfl ?_
  exact lp_X5_stackEnd hB hb K b k (by omega) hk rfl _ _ (by omega)
set_option maxRecDepth 100000 in
set_option maxHeartbeats 4000000 in
theorem sp_X5_syllableEnd {g : gG} {M : gM} {Q : Option Value ⊕ String → gM → Prop} {c : Cf} {P : Nat → Nat} (hB : kB c P M) {b k : Nat} (hb : b ≤ 16) (hk : k < b) (K : Q (.inl (some (.int (nI (syE c b k))))) M) : E g 4 0 0 mX5_syllableEnd 0 [.ref 3, .int (nI k), .int (nI b), .null] [] M Q := by
  have hL := hB.lay
  have tx := (hB.wf.tx k).1
  refine E_aload_n dX5_syllableEnd_0 rfl ?_
  refine E_getRL dX5_syllableEnd_1 kF_X5_52 kY_10 (Or.inr ⟨_, rfl⟩) (l_2 hL) (k_2 hL) (r_2_0 hL) ?_
  refine E_iload_n dX5_syllableEnd_4 rfl ?_
  refine E_ialdL (v := nI (cN _ 141 _)) dX5_syllableEnd_5 (l_3 hL) (k_3 hL) rfl (by omega) (by decide) (hB.sg (by omega)) ?_
  refine E_istore_n dX5_syllableEnd_6 (Nat.le_of_ble_eq_true rfl) (by decide) rfl ?_
  refine E_iload_n dX5_syllableEnd_7 rfl ?_
  refine E_callS1 (fr' := 1) (k1 := 0) (n1 := 0) (k2 := 0) (n2 := 0) dX5_syllableEnd_8 kO_X11_isConsonant kL_X5_77 rfl (by decide) (by decide) (by exact Nat.le_of_ble_eq_true rfl) (Or.inl rfl) rfl ?_
  refine sp_X11_isConsonant (by first | omega | exact Nat.lt_trans (hB.wf.tx _).1 (by decide) | exact Nat.lt_trans (hc.n256 _) (by decide)) ?_
  refine gKv ?_
  refine E_if_eq_b (tgt := 23) dX5_syllableEnd_11 (by decide) (fun c_11 => ?_) (fun c_11 => ?_)
  · refine E_iload_n dX5_syllableEnd_23 rfl ?_
    refine E_bipush (v := nI 43) dX5_syllableEnd_24 (by decide) ?_
    refine E_icmp_ne_n (tgt := 38) dX5_syllableEnd_26 (by decide) (by omega) (by omega) (fun c_26 => ?_) (fun c_26 => ?_)
    · refine E_iload_n dX5_syllableEnd_38 rfl ?_
      refine E_callS1 (fr' := 2) (k1 := 0) (n1 := 0) (k2 := 0) (n2 := 0) dX5_syllableEnd_39 kO_X5_needsCarrier kL_X5_86 rfl (by decide) (by decide) (by exact Nat.le_of_ble_eq_true rfl) (Or.inl rfl) rfl ?_
      refine sp_X5_needsCarrier (by first | omega | exact Nat.lt_trans (hB.wf.tx _).1 (by decide) | exact Nat.lt_trans (hc.n256 _) (by decide)) ?_
      refine gKv ?_
      refine E_if_eq_b (tgt := 52) dX5_syllableEnd_42 (by decide) (fun c_42 => ?_) (fun c_42 => ?_)
      · refine E_iload_n dX5_syllableEnd_52 rfl ?_
        refine E_iconst (v := nI 1) dX5_syllableEnd_53 (by decide) ?_
        refine E_iadd_n dX5_syllableEnd_54 ?_
        refine E_iret dX5_syllableEnd_55 (Or.inl rfl) ?_
        first
          | (rw [show syE c b k = bcE c b (k + 1) from cI_t (by assumption)] at K; exact K)
          | (rw [show syE c b k = bv c b (k + 1) from (cI_f (by assumption)).trans (cI_t (by omega))] at K; exact K)
          | (rw [show syE c b k = bcE c b k from (cI_f (by assumption)).trans ((cI_f (by omega)).trans (cI_t (by omega)))] at K; exact K)
          | (rw [show syE c b k = k + 1 from (cI_f (by assumption)).trans ((cI_f (by omega)).trans (cI_f (by omega)))] at K; exact K)
      · refine E_aload_n dX5_syllableEnd_45 rfl ?_
        refine E_iload_n dX5_syllableEnd_46 rfl ?_
        refine E_iload_n dX5_syllableEnd_47 rfl ?_
        refine E_callS3 (fr' := 3) (k1 := 0) (n1 := 0) (k2 := 0) (n2 := 0) dX5_syllableEnd_48 kO_X5_stackEnd kL_X5_80 rfl rfl rfl (by decide) (by decide) (by exact Nat.le_of_ble_eq_true rfl) (Or.inl rfl) rfl ?_
        refine sp_X5_stackEnd hB (by omega) (by omega) ?_
        refine gKv ?_
        refine E_iret dX5_syllableEnd_51 (Or.inl rfl) ?_
        first
          | (rw [show syE c b k = bcE c b (k + 1) from cI_t (by assumption)] at K; exact K)
          | (rw [show syE c b k = bv c b (k + 1) from (cI_f (by assumption)).trans (cI_t (by omega))] at K; exact K)
          | (rw [show syE c b k = bcE c b k from (cI_f (by assumption)).trans ((cI_f (by omega)).trans (cI_t (by omega)))] at K; exact K)
          | (rw [show syE c b k = k + 1 from (cI_f (by assumption)).trans ((cI_f (by omega)).trans (cI_f (by omega)))] at K; exact K)
    · refine E_aload_n dX5_syllableEnd_29 rfl ?_
      refine E_iload_n dX5_syllableEnd_30 rfl ?_
      refine E_iconst (v := nI 1) dX5_syllableEnd_31 (by decide) ?_
      refine E_iadd_n dX5_syllableEnd_32 ?_
      refine E_iload_n dX5_syllableEnd_33 rfl ?_
      refine E_callS3 (fr' := 2) (k1 := 0) (n1 := 0) (k2 := 0) (n2 := 0) dX5_syllableEnd_34 kO_X5_vowelsEnd kL_X5_83 rfl rfl rfl (by decide) (by decide) (by exact Nat.le_of_ble_eq_true rfl) (Or.inl rfl) rfl ?_
      refine sp_X5_vowelsEnd hB (by omega) (by omega) ?_
      refine gKv ?_
      refine E_iret dX5_syllableEnd_37 (Or.inl rfl) ?_
      first
        | (rw [show syE c b k = bcE c b (k + 1) from cI_t (by assumption)] at K; exact K)
        | (rw [show syE c b k = bv c b (k + 1) from (cI_f (by assumption)).trans (cI_t (by omega))] at K; exact K)
        | (rw [show syE c b k = bcE c b k from (cI_f (by assumption)).trans ((cI_f (by omega)).trans (cI_t (by omega)))] at K; exact K)
        | (rw [show syE c b k = k + 1 from (cI_f (by assumption)).trans ((cI_f (by omega)).trans (cI_f (by omega)))] at K; exact K)
  · refine E_aload_n dX5_syllableEnd_14 rfl ?_
    refine E_iload_n dX5_syllableEnd_15 rfl ?_
    refine E_iconst (v := nI 1) dX5_syllableEnd_16 (by decide) ?_
    refine E_iadd_n dX5_syllableEnd_17 ?_
    refine E_iload_n dX5_syllableEnd_18 rfl ?_
    refine E_callS3 (fr' := 3) (k1 := 0) (n1 := 0) (k2 := 0) (n2 := 0) dX5_syllableEnd_19 kO_X5_stackEnd kL_X5_80 rfl rfl rfl (by decide) (by decide) (by exact Nat.le_of_ble_eq_true rfl) (Or.inl rfl) rfl ?_
    refine sp_X5_stackEnd hB (by omega) (by omega) ?_
    refine gKv ?_
    refine E_iret dX5_syllableEnd_22 (Or.inl rfl) ?_
    first
      | (rw [show syE c b k = bcE c b (k + 1) from cI_t (by assumption)] at K; exact K)
      | (rw [show syE c b k = bv c b (k + 1) from (cI_f (by assumption)).trans (cI_t (by omega))] at K; exact K)
      | (rw [show syE c b k = bcE c b k from (cI_f (by assumption)).trans ((cI_f (by omega)).trans (cI_t (by omega)))] at K; exact K)
      | (rw [show syE c b k = k + 1 from (cI_f (by assumption)).trans ((cI_f (by omega)).trans (cI_f (by omega)))] at K; exact K)
theorem kB.w {c : Cf} {P : Nat → Nat} {M : gM} (h : kB c P M) {a j : Nat} {v : Int32} (q : rwR a j) : kB c P (sI M a j v) := h.mv (S := rwR) (T := rwT) (kf.refl.wr q) rwR_k rwT_k
/-- the cells hold the glyphs, each one once -/
def rK (π : Nat → Nat) (M : gM) : Prop := (∀ i, i < 64 → π i < 64 ∧ mR M 7 i = 8 + π i + 1) ∧ ∀ i j, i < 64 → j < 64 → π i = π j → i = j
theorem cX.rK {c : Cf} {P : Nat → Nat} {M0 M : gM} {L : List Gl} {π : Nat → Nat} (h : cX c P M0 L π M) : rK π M := ⟨h.2.2.2.1, h.2.2.2.2.1⟩
theorem cX_nil {c : Cf} {P : Nat → Nat} {M : gM} {π : Nat → Nat} (h : kB c P M) (hr : rK π M) : cX c P M [] π (sI M 6 1 (nI 0)) :=
  ⟨h, kf.refl.wr (Or.inl rfl), mI_eq, hr.1, hr.2, fun i hi => absurd hi (Nat.not_lt_zero i), ⟨Nat.zero_le _, fun x hx => by cases hx⟩⟩
theorem cX.aB {c : Cf} {P : Nat → Nat} {M0 M : gM} {L : List Gl} {π : Nat → Nat} (h : cX c P M0 L π M) : kB c P (sI M 6 1 (nI (L.length + 1))) := h.B.w (Or.inl rfl)
set_option maxRecDepth 100000 in
set_option maxHeartbeats 4000000 in
theorem lp_X5_beginJ {g : gG} {Q : Option Value ⊕ String → gM → Prop} {c : Cf} {P : Nat → Nat} {pb : Nat} {M0 : gM} (hp : pb = 78 ∨ pb = 98) {a b : Nat} (hab : a ≤ b) (hb : b ≤ 16) (hfm : ∀ j, a ≤ j → j < b → mI M0 (pb + 3) j = frm c a b j) (K : ∀ M π, cX c P M0 (jnd c a b (b - a)) π M → Q (.inl none) M) : ∀ k, k ≤ b → a ≤ k → ∀ M π v v7, cX c P M0 (jnd c a b (k - a)) π M → v = cI (rfd (fun j => a ≤ j ∧ ¬ cMk (cN c 141 j)) k = 0) (-100) (nI (rfd (fun j => a ≤ j ∧ ¬ cMk (cN c 141 j)) k - 1)) → E g 2 0 0 mX5_beginJ 7 [.ref 73, .ref 3, .ref (pb + 1 + 1), .int (nI a), .int (nI b), .int v, .int (nI k), v7] [] M Q := by
  refine lpUp b (fun k hk ih => ?_)
  intro hak M π v v7 hc hv
  have hB := hc.B
  have hL := hB.lay
  have tx := (hB.wf.tx k).1
  have hf4 : cN c 142 k ≤ 3 := (hB.wf.tx k).2
  have hjl : (jnd c a b (k - a)).length = k - a := mkL_len _ _
  have fin : k < b → ∀ x v' v7 M' π, x = clu c a k → cX c P M0 (addL (jnd c a b (k - a)) (newG (cN c 141 k) x (cN c 142 k) (frm c a b k))) π M' → v' = cI (rfd (fun j => a ≤ j ∧ ¬ cMk (cN c 141 j)) (k + 1) = 0) (-100) (nI (rfd (fun j => a ≤ j ∧ ¬ cMk (cN c 141 j)) (k + 1) - 1)) → E g 2 0 0 mX5_beginJ 7 [.ref 73, .ref 3, .ref (pb + 1 + 1), .int (nI a), .int (nI b), .int v', .int (nI (k + 1)), v7] [] M' Q := fun hkb x v' v7 M' π e h e2 => by
    subst e
    refine ih hkb (by omega) M' π v' v7 ?_ e2
    unfold jnd at h
    rw [addL_mk (by rw [show a + (k - a) = k by omega])] at h
    rw [show k + 1 - a = k - a + 1 by omega]
    exact h
  refine E_iload dX5_beginJ_7 rfl ?_
  refine E_iload dX5_beginJ_9 rfl ?_
  refine E_icmp_ge_n (tgt := 91) dX5_beginJ_11 (by decide) (by omega) (by omega) (fun c_11 => ?_) (fun c_11 => ?_)
  · refine E_vret dX5_beginJ_91 rfl ?_
    obtain rfl : k = b := by omega
    exact K _ _ hc
  · have hkb : k < b := by omega
    have hrb := rfd_le (P := (fun j => a ≤ j ∧ ¬ cMk (cN c 141 j))) k
    have hst := fun (x : Nat) (hx : x < 16) => hc.start (s := cN c 141 k) (cl := x) (v := cN c 142 k) (fo := frm c a b k) (by omega) (by omega) hx (by omega)
    by_cases hm : cMk (cN c 141 k)
    · have hr := rfd_f (P := (fun j => a ≤ j ∧ ¬ cMk (cN c 141 j))) (k := k) (fun q => q.2 hm)
      by_cases e : rfd (fun j => a ≤ j ∧ ¬ cMk (cN c 141 j)) k = 0
      · rw [cI_t e] at hv; subst hv
        refine E_aload_n dX5_beginJ_14 rfl ?_
        refine E_getRL dX5_beginJ_15 kF_X5_52 kY_10 (Or.inr ⟨_, rfl⟩) (l_2 hL) (k_2 hL) (r_2_0 hL) ?_
        refine E_iload dX5_beginJ_18 rfl ?_
        refine E_ialdL (v := nI (cN _ 141 _)) dX5_beginJ_20 (l_3 hL) (k_3 hL) rfl (by omega) (by decide) (hB.sg (by omega)) ?_
        refine E_callS1 (fr' := 1) (k1 := 0) (n1 := 0) (k2 := 0) (n2 := 0) dX5_beginJ_21 kO_X11_isMarkOfJ kL_X5_57 rfl (by decide) (by decide) (by exact Nat.le_of_ble_eq_true rfl) (Or.inl rfl) rfl ?_
        refine sp_X11_isMarkOfJ (by first | omega | exact Nat.lt_trans (hB.wf.tx _).1 (by decide) | exact Nat.lt_trans (hc.n256 _) (by decide)) ?_
        refine gKv ?_
        refine E_istore dX5_beginJ_24 (Nat.le_of_ble_eq_true rfl) (by decide) rfl ?_
        refine E_iload dX5_beginJ_26 rfl ?_
        refine E_if_ne_b (tgt := 35) dX5_beginJ_28 (by decide) (fun e_28 => ?_) (fun e_28 => ?_)
        · refine E_aload_n dX5_beginJ_35 rfl ?_
          refine E_getRL dX5_beginJ_36 kF_X5_9 kY_5 (Or.inl ⟨_, rfl⟩) (l_72 hL) (k_72 hL) (r_72_0 hL) ?_
          refine E_callV0 (fr' := 1) (k1 := 0) (n1 := 0) (k2 := 0) (n2 := 0) dX5_beginJ_39 kO_X8_add kL_X5_61 (l_6 hL) (k_6 hL) ⟨by decide, rfl⟩  (by decide) (by decide) (by exact Nat.le_of_ble_eq_true rfl) rfl ?_
          refine sp_X8_add hc (by omega) ?_
          have hB := hc.aB
          have hL := hB.lay
          refine gKv ?_
          refine E_aload_n dX5_beginJ_42 rfl ?_
          refine E_getRL dX5_beginJ_43 kF_X5_52 kY_10 (Or.inr ⟨_, rfl⟩) (l_2 hL) (k_2 hL) (r_2_0 hL) ?_
          refine E_iload dX5_beginJ_46 rfl ?_
          refine E_ialdL (v := nI (cN _ 141 _)) dX5_beginJ_48 (l_3 hL) (k_3 hL) rfl (by omega) (by decide) (hB.sg (by omega)) ?_
          refine E_iload dX5_beginJ_49 rfl ?_
          refine E_if_eq_b (tgt := 66) dX5_beginJ_51 (by decide) (fun e_51 => ?_) (fun e_51 => ?_)
          · refine E_iload dX5_beginJ_66 rfl ?_
            refine E_aload_n dX5_beginJ_68 rfl ?_
            refine E_getRL dX5_beginJ_69 kF_X5_65 kY_10 (Or.inr ⟨_, rfl⟩) (l_2 hL) (k_2 hL) (r_2_1 hL) ?_
            refine E_iload dX5_beginJ_72 rfl ?_
            refine E_ialdL (v := nI (cN _ 142 _)) dX5_beginJ_74 (l_4 hL) (k_4 hL) rfl (by omega) (by decide) (hB.ex (by omega)) ?_
            refine E_aload_n dX5_beginJ_75 rfl ?_
            refine E_getRL dX5_beginJ_76 kF_X5_68 kY_9 (Or.inr ⟨_, rfl⟩) (pg_lt hL hp (i := 1) (by decide)) (pg_k1 hL hp) (pg_ru hL hp (i := 1) (by decide)) ?_
            refine E_iload dX5_beginJ_79 rfl ?_
            refine E_ialdL (v := frm c a b k) dX5_beginJ_81 (pg_lt hL hp (i := 3) (by decide)) (pg_ka hL hp (i := 3) (by decide)) rfl (by omega) (by decide) ((mI_ne (by omega)).trans ((hc.fr.bk (by unfold rwR; omega)).trans (hfm k hak (by omega)))) ?_
            refine E_callV4 (fr' := 1) (k1 := 0) (n1 := 0) (k2 := 0) (n2 := 0) dX5_beginJ_82 kO_X2_start kL_X5_71 (adM_lt hc (by omega)) (adM_k hc (by omega)) ⟨by decide, rfl⟩ rfl rfl rfl rfl (by decide) (by decide) (by exact Nat.le_of_ble_eq_true rfl) rfl ?_
            refine sp_X2_start (adM_lt hc (by omega)) (adM_k hc (by omega)) ?_
            refine gKn ?_
            refine E_iinc_n (d := 1) dX5_beginJ_85 rfl rfl rfl (by decide) rfl ?_
            refine E_goto (tgt := 7) dX5_beginJ_88 (by decide) ?_
            refine fin hkb _ _ _ _ _ ?_ (hst _ (by omega)) ?_
            · unfold clu; rw [hr, cI_t e]
            · rw [hr, cI_t e]
          · refine E_iload dX5_beginJ_54 rfl ?_
            refine E_bipush (v := -100) dX5_beginJ_56 (by decide) ?_
            refine E_icmp_eq (tgt := 66) dX5_beginJ_58 (by decide) (fun _ => ?_) (fun c0 => absurd (by decide) c0)
            refine E_iload dX5_beginJ_66 rfl ?_
            refine E_aload_n dX5_beginJ_68 rfl ?_
            refine E_getRL dX5_beginJ_69 kF_X5_65 kY_10 (Or.inr ⟨_, rfl⟩) (l_2 hL) (k_2 hL) (r_2_1 hL) ?_
            refine E_iload dX5_beginJ_72 rfl ?_
            refine E_ialdL (v := nI (cN _ 142 _)) dX5_beginJ_74 (l_4 hL) (k_4 hL) rfl (by omega) (by decide) (hB.ex (by omega)) ?_
            refine E_aload_n dX5_beginJ_75 rfl ?_
            refine E_getRL dX5_beginJ_76 kF_X5_68 kY_9 (Or.inr ⟨_, rfl⟩) (pg_lt hL hp (i := 1) (by decide)) (pg_k1 hL hp) (pg_ru hL hp (i := 1) (by decide)) ?_
            refine E_iload dX5_beginJ_79 rfl ?_
            refine E_ialdL (v := frm c a b k) dX5_beginJ_81 (pg_lt hL hp (i := 3) (by decide)) (pg_ka hL hp (i := 3) (by decide)) rfl (by omega) (by decide) ((mI_ne (by omega)).trans ((hc.fr.bk (by unfold rwR; omega)).trans (hfm k hak (by omega)))) ?_
            refine E_callV4 (fr' := 1) (k1 := 0) (n1 := 0) (k2 := 0) (n2 := 0) dX5_beginJ_82 kO_X2_start kL_X5_71 (adM_lt hc (by omega)) (adM_k hc (by omega)) ⟨by decide, rfl⟩ rfl rfl rfl rfl (by decide) (by decide) (by exact Nat.le_of_ble_eq_true rfl) rfl ?_
            refine sp_X2_start (adM_lt hc (by omega)) (adM_k hc (by omega)) ?_
            refine gKn ?_
            refine E_iinc_n (d := 1) dX5_beginJ_85 rfl rfl rfl (by decide) rfl ?_
            refine E_goto (tgt := 7) dX5_beginJ_88 (by decide) ?_
            refine fin hkb _ _ _ _ _ ?_ (hst _ (by omega)) ?_
            · unfold clu; rw [hr, cI_t e]
            · rw [hr, cI_t e]
        · refine E_iload dX5_beginJ_31 rfl ?_
          exfalso; omega
      · rw [cI_f e] at hv; subst hv
        generalize hz : rfd (fun j => a ≤ j ∧ ¬ cMk (cN c 141 j)) k - 1 = z at *
        have hz2 : z < 16 := by omega
        refine E_aload_n dX5_beginJ_14 rfl ?_
        refine E_getRL dX5_beginJ_15 kF_X5_52 kY_10 (Or.inr ⟨_, rfl⟩) (l_2 hL) (k_2 hL) (r_2_0 hL) ?_
        refine E_iload dX5_beginJ_18 rfl ?_
        refine E_ialdL (v := nI (cN _ 141 _)) dX5_beginJ_20 (l_3 hL) (k_3 hL) rfl (by omega) (by decide) (hB.sg (by omega)) ?_
        refine E_callS1 (fr' := 1) (k1 := 0) (n1 := 0) (k2 := 0) (n2 := 0) dX5_beginJ_21 kO_X11_isMarkOfJ kL_X5_57 rfl (by decide) (by decide) (by exact Nat.le_of_ble_eq_true rfl) (Or.inl rfl) rfl ?_
        refine sp_X11_isMarkOfJ (by first | omega | exact Nat.lt_trans (hB.wf.tx _).1 (by decide) | exact Nat.lt_trans (hc.n256 _) (by decide)) ?_
        refine gKv ?_
        refine E_istore dX5_beginJ_24 (Nat.le_of_ble_eq_true rfl) (by decide) rfl ?_
        refine E_iload dX5_beginJ_26 rfl ?_
        refine E_if_ne_b (tgt := 35) dX5_beginJ_28 (by decide) (fun e_28 => ?_) (fun e_28 => ?_)
        · refine E_aload_n dX5_beginJ_35 rfl ?_
          refine E_getRL dX5_beginJ_36 kF_X5_9 kY_5 (Or.inl ⟨_, rfl⟩) (l_72 hL) (k_72 hL) (r_72_0 hL) ?_
          refine E_callV0 (fr' := 1) (k1 := 0) (n1 := 0) (k2 := 0) (n2 := 0) dX5_beginJ_39 kO_X8_add kL_X5_61 (l_6 hL) (k_6 hL) ⟨by decide, rfl⟩  (by decide) (by decide) (by exact Nat.le_of_ble_eq_true rfl) rfl ?_
          refine sp_X8_add hc (by omega) ?_
          have hB := hc.aB
          have hL := hB.lay
          refine gKv ?_
          refine E_aload_n dX5_beginJ_42 rfl ?_
          refine E_getRL dX5_beginJ_43 kF_X5_52 kY_10 (Or.inr ⟨_, rfl⟩) (l_2 hL) (k_2 hL) (r_2_0 hL) ?_
          refine E_iload dX5_beginJ_46 rfl ?_
          refine E_ialdL (v := nI (cN _ 141 _)) dX5_beginJ_48 (l_3 hL) (k_3 hL) rfl (by omega) (by decide) (hB.sg (by omega)) ?_
          refine E_iload dX5_beginJ_49 rfl ?_
          refine E_if_eq_b (tgt := 66) dX5_beginJ_51 (by decide) (fun e_51 => ?_) (fun e_51 => ?_)
          · exfalso; omega
          · refine E_iload dX5_beginJ_54 rfl ?_
            refine E_bipush (v := -100) dX5_beginJ_56 (by decide) ?_
            refine E_icmp_eq (tgt := 66) dX5_beginJ_58 (by decide) (fun c0 => absurd c0 (nI_ne100 (by omega))) (fun _ => ?_)
            refine E_iload dX5_beginJ_61 rfl ?_
            refine E_goto (tgt := 68) dX5_beginJ_63 (by decide) ?_
            refine E_aload_n dX5_beginJ_68 rfl ?_
            refine E_getRL dX5_beginJ_69 kF_X5_65 kY_10 (Or.inr ⟨_, rfl⟩) (l_2 hL) (k_2 hL) (r_2_1 hL) ?_
            refine E_iload dX5_beginJ_72 rfl ?_
            refine E_ialdL (v := nI (cN _ 142 _)) dX5_beginJ_74 (l_4 hL) (k_4 hL) rfl (by omega) (by decide) (hB.ex (by omega)) ?_
            refine E_aload_n dX5_beginJ_75 rfl ?_
            refine E_getRL dX5_beginJ_76 kF_X5_68 kY_9 (Or.inr ⟨_, rfl⟩) (pg_lt hL hp (i := 1) (by decide)) (pg_k1 hL hp) (pg_ru hL hp (i := 1) (by decide)) ?_
            refine E_iload dX5_beginJ_79 rfl ?_
            refine E_ialdL (v := frm c a b k) dX5_beginJ_81 (pg_lt hL hp (i := 3) (by decide)) (pg_ka hL hp (i := 3) (by decide)) rfl (by omega) (by decide) ((mI_ne (by omega)).trans ((hc.fr.bk (by unfold rwR; omega)).trans (hfm k hak (by omega)))) ?_
            refine E_callV4 (fr' := 1) (k1 := 0) (n1 := 0) (k2 := 0) (n2 := 0) dX5_beginJ_82 kO_X2_start kL_X5_71 (adM_lt hc (by omega)) (adM_k hc (by omega)) ⟨by decide, rfl⟩ rfl rfl rfl rfl (by decide) (by decide) (by exact Nat.le_of_ble_eq_true rfl) rfl ?_
            refine sp_X2_start (adM_lt hc (by omega)) (adM_k hc (by omega)) ?_
            refine gKn ?_
            refine E_iinc_n (d := 1) dX5_beginJ_85 rfl rfl rfl (by decide) rfl ?_
            refine E_goto (tgt := 7) dX5_beginJ_88 (by decide) ?_
            refine fin hkb _ _ _ _ _ ?_ (hst _ (by omega)) ?_
            · unfold clu; rw [hr, cI_f e, hz]
            · rw [hr, cI_f e, hz]
        · refine E_iload dX5_beginJ_31 rfl ?_
          exfalso; omega
    · have hr := rfd_t (P := (fun j => a ≤ j ∧ ¬ cMk (cN c 141 j))) (k := k) ⟨hak, hm⟩
      refine E_aload_n dX5_beginJ_14 rfl ?_
      refine E_getRL dX5_beginJ_15 kF_X5_52 kY_10 (Or.inr ⟨_, rfl⟩) (l_2 hL) (k_2 hL) (r_2_0 hL) ?_
      refine E_iload dX5_beginJ_18 rfl ?_
      refine E_ialdL (v := nI (cN _ 141 _)) dX5_beginJ_20 (l_3 hL) (k_3 hL) rfl (by omega) (by decide) (hB.sg (by omega)) ?_
      refine E_callS1 (fr' := 1) (k1 := 0) (n1 := 0) (k2 := 0) (n2 := 0) dX5_beginJ_21 kO_X11_isMarkOfJ kL_X5_57 rfl (by decide) (by decide) (by exact Nat.le_of_ble_eq_true rfl) (Or.inl rfl) rfl ?_
      refine sp_X11_isMarkOfJ (by first | omega | exact Nat.lt_trans (hB.wf.tx _).1 (by decide) | exact Nat.lt_trans (hc.n256 _) (by decide)) ?_
      refine gKv ?_
      refine E_istore dX5_beginJ_24 (Nat.le_of_ble_eq_true rfl) (by decide) rfl ?_
      refine E_iload dX5_beginJ_26 rfl ?_
      refine E_if_ne_b (tgt := 35) dX5_beginJ_28 (by decide) (fun e_28 => ?_) (fun e_28 => ?_)
      · exfalso; omega
      · refine E_iload dX5_beginJ_31 rfl ?_
        refine E_istore dX5_beginJ_33 (Nat.le_of_ble_eq_true rfl) (by decide) rfl ?_
        refine E_aload_n dX5_beginJ_35 rfl ?_
        refine E_getRL dX5_beginJ_36 kF_X5_9 kY_5 (Or.inl ⟨_, rfl⟩) (l_72 hL) (k_72 hL) (r_72_0 hL) ?_
        refine E_callV0 (fr' := 1) (k1 := 0) (n1 := 0) (k2 := 0) (n2 := 0) dX5_beginJ_39 kO_X8_add kL_X5_61 (l_6 hL) (k_6 hL) ⟨by decide, rfl⟩  (by decide) (by decide) (by exact Nat.le_of_ble_eq_true rfl) rfl ?_
        refine sp_X8_add hc (by omega) ?_
        have hB := hc.aB
        have hL := hB.lay
        refine gKv ?_
        refine E_aload_n dX5_beginJ_42 rfl ?_
        refine E_getRL dX5_beginJ_43 kF_X5_52 kY_10 (Or.inr ⟨_, rfl⟩) (l_2 hL) (k_2 hL) (r_2_0 hL) ?_
        refine E_iload dX5_beginJ_46 rfl ?_
        refine E_ialdL (v := nI (cN _ 141 _)) dX5_beginJ_48 (l_3 hL) (k_3 hL) rfl (by omega) (by decide) (hB.sg (by omega)) ?_
        refine E_iload dX5_beginJ_49 rfl ?_
        refine E_if_eq_b (tgt := 66) dX5_beginJ_51 (by decide) (fun e_51 => ?_) (fun e_51 => ?_)
        · refine E_iload dX5_beginJ_66 rfl ?_
          refine E_aload_n dX5_beginJ_68 rfl ?_
          refine E_getRL dX5_beginJ_69 kF_X5_65 kY_10 (Or.inr ⟨_, rfl⟩) (l_2 hL) (k_2 hL) (r_2_1 hL) ?_
          refine E_iload dX5_beginJ_72 rfl ?_
          refine E_ialdL (v := nI (cN _ 142 _)) dX5_beginJ_74 (l_4 hL) (k_4 hL) rfl (by omega) (by decide) (hB.ex (by omega)) ?_
          refine E_aload_n dX5_beginJ_75 rfl ?_
          refine E_getRL dX5_beginJ_76 kF_X5_68 kY_9 (Or.inr ⟨_, rfl⟩) (pg_lt hL hp (i := 1) (by decide)) (pg_k1 hL hp) (pg_ru hL hp (i := 1) (by decide)) ?_
          refine E_iload dX5_beginJ_79 rfl ?_
          refine E_ialdL (v := frm c a b k) dX5_beginJ_81 (pg_lt hL hp (i := 3) (by decide)) (pg_ka hL hp (i := 3) (by decide)) rfl (by omega) (by decide) ((mI_ne (by omega)).trans ((hc.fr.bk (by unfold rwR; omega)).trans (hfm k hak (by omega)))) ?_
          refine E_callV4 (fr' := 1) (k1 := 0) (n1 := 0) (k2 := 0) (n2 := 0) dX5_beginJ_82 kO_X2_start kL_X5_71 (adM_lt hc (by omega)) (adM_k hc (by omega)) ⟨by decide, rfl⟩ rfl rfl rfl rfl (by decide) (by decide) (by exact Nat.le_of_ble_eq_true rfl) rfl ?_
          refine sp_X2_start (adM_lt hc (by omega)) (adM_k hc (by omega)) ?_
          refine gKn ?_
          refine E_iinc_n (d := 1) dX5_beginJ_85 rfl rfl rfl (by decide) rfl ?_
          refine E_goto (tgt := 7) dX5_beginJ_88 (by decide) ?_
          refine fin hkb _ _ _ _ _ ?_ (hst _ (by omega)) ?_
          · unfold clu; rw [hr, cI_f (by omega), Nat.add_sub_cancel]
          · rw [hr, cI_f (by omega), Nat.add_sub_cancel]
        · exfalso; omega
set_option maxRecDepth 100000 in
set_option maxHeartbeats 4000000 in
theorem sp_X5_beginJ {g : gG} {Q : Option Value ⊕ String → gM → Prop} {c : Cf} {P : Nat → Nat} {pb : Nat} {M0 : gM} (hp : pb = 78 ∨ pb = 98) {a b : Nat} (hab : a ≤ b) (hb : b ≤ 16) (hfm : ∀ j, a ≤ j → j < b → mI M0 (pb + 3) j = frm c a b j) (K : ∀ M π, cX c P M0 (jnd c a b (b - a)) π M → Q (.inl none) M) {M : gM} {π : Nat → Nat} (hc : cX c P M0 [] π M) : E g 2 0 0 mX5_beginJ 0 [.ref 73, .ref 3, .ref (pb + 1 + 1), .int (nI a), .int (nI b), .null, .null, .null] [] M Q := by
  have hB := hc.B
  have hL := hB.lay
  refine E_bipush (v := -100) dX5_beginJ_0 (by decide) ?_
  refine E_istore dX5_beginJ_2 (Nat.le_of_ble_eq_true rfl) (by decide) rfl ?_
  refine E_iload_n dX5_beginJ_4 rfl ?_
  refine E_istore dX5_beginJ_5 (Nat.le_of_ble_eq_true rfl) (by decide) rfl ?_
  refine lp_X5_beginJ hp hab hb hfm K a hab (Nat.le_refl _) M π _ _ (by rw [Nat.sub_self]; exact hc) ?_
  rw [rfd_eq (P := (fun j => a ≤ j ∧ ¬ cMk (cN c 141 j))) (k := a) (r := 0) (by omega) (fun j q => by omega) (fun j _ q => by omega), cI_t rfl]
set_option maxRecDepth 100000 in
set_option maxHeartbeats 4000000 in
theorem lp_X5_setAhead {g : gG} {Q : Option Value ⊕ String → gM → Prop} {c : Cf} {P : Nat → Nat} {M0 : gM} {s : Nat} : ∀ t k to (L : List Gl) (π : Nat → Nat) M, cX c P M0 L π M → k + t = L.length → to ≤ k → (K : ∀ M π, cX c P M0 (sA t k to L) π M → Q (.inl none) M) → E g 3 0 0 mX5_setAhead 4 [.ref 73, .int (nI s), .int (nI to), .int (nI k)] [] M Q := by
  intro t
  induction t with
  | zero =>
    intro k to L π M hc ht hto K
    have hB := hc.B
    have hL := hB.lay
    have hn := hc.len
    refine E_iload_n dX5_setAhead_4 rfl ?_
    refine E_aload_n dX5_setAhead_5 rfl ?_
    refine E_getRL dX5_setAhead_6 kF_X5_9 kY_5 (Or.inl ⟨_, rfl⟩) (l_72 hL) (k_72 hL) (r_72_0 hL) ?_
    refine E_getIL (v := nI (List.length _)) dX5_setAhead_9 kF_X5_15 kY_8 (Or.inl rfl) (l_6 hL) (k_6 hL) hc.n ?_
    refine E_icmp_ge_n (tgt := 50) dX5_setAhead_12 (by decide) (by omega) (by omega) (fun c_12 => ?_) (fun c_12 => ?_)
    · refine E_vret dX5_setAhead_50 rfl ?_
      exact K _ _ hc
    · exfalso; omega
  | succ t ih =>
    intro k to L π M hc ht hto K
    have gx := (hc.ok.at k).1
    have K : ∀ M π, cX c P M0 (cI (yN (gat L k) = 40) (sA t (k + 1) (to + 1) (rotL L to k (k + 1))) (sA t (k + 1) to L)) π M → Q (.inl none) M := K
    have hB := hc.B
    have hL := hB.lay
    have hn := hc.len
    refine E_iload_n dX5_setAhead_4 rfl ?_
    refine E_aload_n dX5_setAhead_5 rfl ?_
    refine E_getRL dX5_setAhead_6 kF_X5_9 kY_5 (Or.inl ⟨_, rfl⟩) (l_72 hL) (k_72 hL) (r_72_0 hL) ?_
    refine E_getIL (v := nI (List.length _)) dX5_setAhead_9 kF_X5_15 kY_8 (Or.inl rfl) (l_6 hL) (k_6 hL) hc.n ?_
    refine E_icmp_ge_n (tgt := 50) dX5_setAhead_12 (by decide) (by omega) (by omega) (fun c_12 => ?_) (fun c_12 => ?_)
    · refine E_vret dX5_setAhead_50 rfl ?_
      exfalso; omega
    · refine E_aload_n dX5_setAhead_15 rfl ?_
      refine E_getRL dX5_setAhead_16 kF_X5_9 kY_5 (Or.inl ⟨_, rfl⟩) (l_72 hL) (k_72 hL) (r_72_0 hL) ?_
      refine E_getRL dX5_setAhead_19 kF_X5_102 kY_8 (Or.inr ⟨_, rfl⟩) (l_6 hL) (k_6 hL) (r_6_0 hL) ?_
      refine E_iload_n dX5_setAhead_22 rfl ?_
      refine E_aaldL (v := _) dX5_setAhead_23 (l_7 hL) (k_7 hL) (by decide) (by decide) rfl (by omega) (by decide) (hc.cell (by omega)) ?_
      refine E_getIL (v := nI (yN (gat _ _))) dX5_setAhead_24 kF_X5_106 kY_2 (Or.inl rfl) (hc.glt (by omega)) (hc.gkd (by omega)) (hc.g0 (by omega)) ?_
      refine E_bipush (v := nI 40) dX5_setAhead_27 (by decide) ?_
      refine E_icmp_ne_n (tgt := 44) dX5_setAhead_29 (by decide) (by omega) (by omega) (fun c_29 => ?_) (fun c_29 => ?_)
      · refine E_iinc_n (d := 1) dX5_setAhead_44 rfl rfl rfl (by decide) rfl ?_
        refine E_goto (tgt := 4) dX5_setAhead_47 (by decide) ?_
        first
          | (rw [cI_t (by assumption)] at K; exact ih _ _ _ _ _ hc (by rw [rot_len]; omega) (by omega) K)
          | (rw [cI_f (by assumption)] at K; exact ih _ _ _ _ _ hc (by omega) (by omega) K)
      · refine E_aload_n dX5_setAhead_32 rfl ?_
        refine E_getRL dX5_setAhead_33 kF_X5_9 kY_5 (Or.inl ⟨_, rfl⟩) (l_72 hL) (k_72 hL) (r_72_0 hL) ?_
        refine E_iload_n dX5_setAhead_36 rfl ?_
        refine E_iload_n dX5_setAhead_37 rfl ?_
        refine E_callV2 (fr' := 2) (k1 := 0) (n1 := 0) (k2 := 0) (n2 := 0) dX5_setAhead_38 kO_X8_move kL_X5_115 (l_6 hL) (k_6 hL) ⟨by decide, rfl⟩ rfl rfl (by decide) (by decide) (by exact Nat.le_of_ble_eq_true rfl) rfl ?_
        refine sp_X8_moveD hc (by omega) (by omega) (fun M π hc => ?_)
        have hL := hc.B.lay
        refine gKn ?_
        refine E_iinc_n (d := 1) dX5_setAhead_41 rfl rfl rfl (by decide) rfl ?_
        refine E_iinc_n (d := 1) dX5_setAhead_44 rfl rfl rfl (by decide) rfl ?_
        refine E_goto (tgt := 4) dX5_setAhead_47 (by decide) ?_
        first
          | (rw [cI_t (by assumption)] at K; exact ih _ _ _ _ _ hc (by rw [rot_len]; omega) (by omega) K)
          | (rw [cI_f (by assumption)] at K; exact ih _ _ _ _ _ hc (by omega) (by omega) K)
set_option maxRecDepth 100000 in
set_option maxHeartbeats 4000000 in
theorem sp_X5_setAhead {g : gG} {M : gM} {Q : Option Value ⊕ String → gM → Prop} {c : Cf} {P : Nat → Nat} {M0 : gM} {L : List Gl} {π : Nat → Nat} (hc : cX c P M0 L π M) {s : Nat} (hs : s ≤ L.length) (K : ∀ M π, cX c P M0 (sA (L.length - s) s s L) π M → Q (.inl none) M) : E g 3 0 0 mX5_setAhead 0 [.ref 73, .int (nI s), .null, .null] [] M Q := by
  have hB := hc.B
  have hL := hB.lay
  have hn := hc.len
  refine E_iload_n dX5_setAhead_0 rfl ?_
  refine E_istore_n dX5_setAhead_1 (Nat.le_of_ble_eq_true rfl) (by decide) rfl ?_
  refine E_iload_n dX5_setAhead_2 rfl ?_
  refine E_istore_n dX5_setAhead_3 (Nat.le_of_ble_eq_true rfl) (by decide) rfl ?_
  exact lp_X5_setAhead (L.length - s) s s L π M hc (by omega) (Nat.le_refl _) K
/-- the class climbs: the place of the last that follows -/
noncomputable def clX (L : List Gl) (s : Nat) : Nat := rfd (fun j => j < s + 3 ∨ cCo (yN (gat L j))) L.length
abbrev fol (v : Nat) : Prop := v = 39 ∨ v = 2 ∨ v = 3
noncomputable def clY (L : List Gl) (s : Nat) : Nat := fnd (fun j => ¬ fol (yN (gat L j))) L.length (clX L s)
def clP (L : List Gl) (s : Nat) : Prop := s + 2 < L.length ∧ yN (gat L s) = 38 ∧ yN (gat L (s + 1)) = 39 ∧ cCo (yN (gat L (s + 2)))
theorem cl_xy {L : List Gl} {s : Nat} (h : s + 2 < L.length) : s + 3 ≤ clX L s ∧ clX L s ≤ clY L s ∧ clY L s ≤ L.length := by
  have h1 := rfd_le (P := fun j => j < s + 3 ∨ cCo (yN (gat L j))) L.length
  have h2 := rfd_spec (P := fun j => j < s + 3 ∨ cCo (yN (gat L j))) L.length
  have e : clX L s = rfd (fun j => j < s + 3 ∨ cCo (yN (gat L j))) L.length := rfl
  rw [← e] at h1 h2
  have h3 := fnd_spec (P := fun j => ¬ fol (yN (gat L j))) h1
  refine ⟨?_, h3.1, h3.2.1⟩
  by_cases q : s + 3 ≤ clX L s
  · exact q
  · exact absurd (Or.inl (by omega)) (h2.2 (s + 2) (by omega) h)
theorem gat_cc {L : List Gl} {s j : Nat} (hs : s + 2 ≤ L.length) (hj : j < L.length - 2) : gat (closeL (closeL L s) s) j = gat L (if j < s then j else j + 2) := by
  have hl : (closeL L s).length = L.length - 1 := cl_len _ _
  rw [show gat (closeL (closeL L s) s) j = gat (closeL L s) (if j < s then j else j + 1) from gat_mkL (by rw [hl]; omega)]
  by_cases q : j < s
  · rw [if_pos q, if_pos q, show gat (closeL L s) j = gat L (if j < s then j else j + 1) from gat_mkL (by omega), if_pos q]
  · rw [if_neg q, if_neg q, show gat (closeL L s) (j + 1) = gat L (if j + 1 < s then j + 1 else j + 1 + 1) from gat_mkL (by omega), if_neg (by omega)]
theorem clmB_y {L : List Gl} {s : Nat} (hp : clP L s) : clmB (closeL (closeL L s) s) s = clY L s - 2 := by
  have hs := hp.1
  have hxy := cl_xy hs
  have hl : (closeL (closeL L s) s).length = L.length - 2 := by rw [cl_len, cl_len]; omega
  have hg : ∀ j, s ≤ j → j < L.length - 2 → gat (closeL (closeL L s) s) j = gat L (j + 2) := fun j h1 h2 => by rw [gat_cc (by omega) h2, if_neg (by omega)]
  have hxs := rfd_spec (P := fun j => j < s + 3 ∨ cCo (yN (gat L j))) L.length
  have ex : clX L s = rfd (fun j => j < s + 3 ∨ cCo (yN (gat L j))) L.length := rfl
  rw [← ex] at hxs
  have hys := fnd_spec (P := fun j => ¬ fol (yN (gat L j))) (n := L.length) (i := clX L s) (by omega)
  have ey : clY L s = fnd (fun j => ¬ fol (yN (gat L j))) L.length (clX L s) := rfl
  rw [← ey] at hys
  have eA : clmA (closeL (closeL L s) s) s = clX L s - 2 := by
    unfold clmA
    rw [hl]
    refine rfd_eq (by omega) (fun j q => ?_) (fun j q1 q2 => ?_)
    · by_cases z : clX L s = s + 3
      · obtain rfl : j = s := by omega
        rw [hg j (Nat.le_refl _) (by omega)]
        exact Or.inr hp.2.2.2
      · rw [hg j (by omega) (by omega)]
        have := hxs.1 (j + 2) (by omega)
        exact Or.inr (this.elim (fun w => by omega) id)
    · rw [hg j (by omega) q2]
      have := hxs.2 (j + 2) (by omega) (by omega)
      exact fun w => this (w.elim (fun w => by omega) Or.inr)
  unfold clmB
  rw [eA, hl]
  refine fnd_eq (by omega) (by omega) (fun q => ?_) (fun j q1 q2 => ?_)
  · rw [hg _ (by omega) q, show clY L s - 2 + 2 = clY L s by omega]
    exact hys.2.2.1 (by omega)
  · rw [hg j (by omega) (by omega)]
    exact hys.2.2.2 (j + 2) (by omega) (by omega)
theorem clm_eq {L : List Gl} {s i e : Nat} (hp : clP L s) : closeL (rotL (putL L s (newG 65 i e (-100))) s (s + 1) (clY L s)) s = clmL L s i e := by
  have hs := hp.1
  have hxy := cl_xy hs
  have hl : (closeL (closeL L s) s).length = L.length - 2 := by rw [cl_len, cl_len]; omega
  refine row_ext (by rw [cl_len, rot_len, put_len, clmL_len (by omega)]) (fun j hj => ?_)
  have hj : j < L.length - 1 := by rw [cl_len, rot_len, put_len] at hj; exact hj
  have e1 : gat (closeL (rotL (putL L s (newG 65 i e (-100))) s (s + 1) (clY L s)) s) j = gat (rotL (putL L s (newG 65 i e (-100))) s (s + 1) (clY L s)) (if j < s then j else j + 1) := gat_mkL (by rw [rot_len, put_len]; exact hj)
  have e2 : gat (rotL (putL L s (newG 65 i e (-100))) s (s + 1) (clY L s)) (if j < s then j else j + 1) = gat (putL L s (newG 65 i e (-100))) (rotS s (s + 1) (clY L s) (if j < s then j else j + 1)) := gat_mkL (by rw [put_len]; split <;> omega)
  have e3 : gat (clmL L s i e) j = gat (addL (closeL (closeL L s) s) (newG 65 i e (-100))) (rotS (clY L s - 2) (L.length - 2) (L.length - 2 + 1) j) := by
    unfold clmL clmC rotL
    rw [gat_mkL (by rw [add_len, hl]; omega), clmB_y hp, hl]
  rw [e1, e2, e3]
  by_cases c1 : j < s
  · rw [if_pos c1, show rotS s (s + 1) (clY L s) j = j by unfold rotS; rw [if_pos c1], show rotS (clY L s - 2) (L.length - 2) (L.length - 2 + 1) j = j by unfold rotS; rw [if_pos (by omega)]]
    rw [gat_put (by omega), if_neg (by omega)]
    unfold addL
    rw [gat_mkL (by omega), hl, if_pos (by omega), gat_cc (by omega) (by omega), if_pos c1]
  · rw [if_neg c1]
    by_cases c2 : j + 2 < clY L s
    · rw [show rotS s (s + 1) (clY L s) (j + 1) = j + 2 by unfold rotS; rw [if_neg (by omega), if_pos (by omega)]; omega, show rotS (clY L s - 2) (L.length - 2) (L.length - 2 + 1) j = j by unfold rotS; rw [if_pos (by omega)]]
      rw [gat_put (by omega), if_neg (by omega)]
      unfold addL
      rw [gat_mkL (by omega), hl, if_pos (by omega), gat_cc (by omega) (by omega), if_neg c1]
    · by_cases c3 : j + 2 = clY L s
      · rw [show rotS s (s + 1) (clY L s) (j + 1) = s by unfold rotS; rw [if_neg (by omega), if_neg (by omega), if_pos (by omega)]; omega, show rotS (clY L s - 2) (L.length - 2) (L.length - 2 + 1) j = L.length - 2 by unfold rotS; rw [if_neg (by omega), if_pos (by omega)]; omega]
        rw [gat_put (by omega), if_pos rfl]
        unfold addL
        rw [gat_mkL (by omega), hl, if_neg (by omega)]
      · rw [show rotS s (s + 1) (clY L s) (j + 1) = j + 1 by unfold rotS; rw [if_neg (by omega), if_neg (by omega), if_neg (by omega)], show rotS (clY L s - 2) (L.length - 2) (L.length - 2 + 1) j = j - 1 by unfold rotS; rw [if_neg (by omega), if_neg (by omega), if_pos (by omega)]; omega]
        rw [gat_put (by omega), if_neg (by omega)]
        unfold addL
        rw [gat_mkL (by omega), hl, if_pos (by omega), gat_cc (by omega) (by omega), if_neg (by omega), show j - 1 + 2 = j + 1 by omega]
theorem cX.putZ {c : Cf} {P : Nat → Nat} {M0 M : gM} {L : List Gl} {π : Nat → Nat} (h : cX c P M0 L π M) {s n i e : Nat} (hs : s < L.length) (hg : gat L s = newG n i e (-100)) : cX c P M0 (putL L s (newG 65 i e (-100))) π (sI (sI M (8 + π s) 0 (nI 65)) (8 + π s) 4 (-100)) := by
  have h1 := h.putN (i := s) (v := 65) hs (by decide)
  have hx := h.ok.at s
  rw [hg] at hx
  have key : cX c P M0 (putL (numL L s 65) s (newG 65 i e (-100))) π (sI (sI M (8 + π s) 0 (nI 65)) (8 + π s) 4 (-100)) := h1.put (by rw [num_len]; exact hs) (glC_s (x := gat (numL L s 65) s) (h1.gl (by rw [num_len]; exact hs)) (by unfold numL; rw [gat_put hs, if_pos rfl, hg]; rfl) (by unfold numL; rw [gat_put hs, if_pos rfl, hg]; rfl) (by unfold numL; rw [gat_put hs, if_pos rfl, hg]; rfl) (by unfold numL; rw [gat_put hs, if_pos rfl, hg]; rfl) (by rw [if_pos rfl]; exact (cI_t rfl).symm) (by unfold numL; rw [gat_put hs, if_pos rfl, hg]; rfl) (by unfold numL; rw [gat_put hs, if_pos rfl, hg]; rfl)) ⟨(show (65 : Nat) < 256 by decide), hx.2.1, hx.2.2.1, (show (65 : Nat) < 256 by decide)⟩
  have e : putL (numL L s 65) s (newG 65 i e (-100)) = putL L s (newG 65 i e (-100)) := row_ext (by rw [put_len, put_len, num_len]) (fun j hj => by
    rw [put_len, num_len] at hj
    rw [gat_put (by rw [num_len]; exact hj), gat_put hj]
    by_cases q : j = s
    · rw [if_pos q, if_pos q]
    · rw [if_neg q, if_neg q]; unfold numL; rw [gat_put hj, if_neg q])
  rwa [e] at key
set_option maxRecDepth 100000 in
set_option maxHeartbeats 4000000 in
theorem lp2_X5_climb {g : gG} {M : gM} {Q : Option Value ⊕ String → gM → Prop} {c : Cf} {P : Nat → Nat} {M0 : gM} {L : List Gl} {π : Nat → Nat} (hc : cX c P M0 L π M) {s n i e : Nat} (hg : gat L s = newG n i e (-100)) (hp : clP L s) (K : ∀ M π, cX c P M0 (clmL L s i e) π M → Q (.inl none) M) : ∀ k, k ≤ L.length → s + 3 ≤ k → fnd (fun j => ¬ fol (yN (gat L j))) L.length k = clY L s → ∀ v4, E g 3 0 0 mX5_climb 121 [.ref 73, .int (nI s), .ref (8 + π s + 1), .int (dI k), v4] [] M Q := by
  have hB := hc.B
  have hL := hB.lay
  have hn := hc.len
  have hs := hp.1
  refine lpUp L.length (fun k hk ih => ?_)
  intro hsk he v4
  have gx := (hc.ok.at k).1
  obtain ⟨y, rfl⟩ : ∃ z, k = z + 1 := ⟨k - 1, by omega⟩
  rw [dI_succ]
  refine E_iload_n dX5_climb_121 rfl ?_
  refine E_iconst (v := nI 1) dX5_climb_122 (by decide) ?_
  refine E_iadd_n dX5_climb_123 ?_
  refine E_aload_n dX5_climb_124 rfl ?_
  refine E_getRL dX5_climb_125 kF_X5_9 kY_5 (Or.inl ⟨_, rfl⟩) (l_72 hL) (k_72 hL) (r_72_0 hL) ?_
  refine E_getIL (v := nI (List.length _)) dX5_climb_128 kF_X5_15 kY_8 (Or.inl rfl) (l_6 hL) (k_6 hL) hc.n ?_
  refine E_icmp_ge_n (tgt := 160) dX5_climb_131 (by decide) (by omega) (by omega) (fun c_131 => ?_) (fun c_131 => ?_)
  · have e1 : clY L s = y + 1 := by
      rw [← he]; first | exact fnd_end (by omega) | exact fnd_hit (by omega) (by assumption)
    refine E_aload_n dX5_climb_160 rfl ?_
    refine E_bipush (v := nI 65) dX5_climb_161 (by decide) ?_
    refine E_putI dX5_climb_163 kF_X5_106 kY_2 (Or.inl rfl) (hc.glt (by omega)) (hc.gkd (by omega)) (Or.inl rfl) ?_
    refine E_aload_n dX5_climb_166 rfl ?_
    refine E_bipush (v := -100) dX5_climb_167 (by decide) ?_
    refine E_putI dX5_climb_169 kF_X5_112 kY_2 (Or.inl rfl) (hc.glt (by omega)) (hc.gkd (by omega)) (Or.inl rfl) ?_
    refine E_aload_n dX5_climb_172 rfl ?_
    refine E_getRL dX5_climb_173 kF_X5_9 kY_5 (Or.inl ⟨_, rfl⟩) (l_72 hL) (k_72 hL) (r_72_0 hL) ?_
    refine E_iload_n dX5_climb_176 rfl ?_
    refine E_iload_n dX5_climb_177 rfl ?_
    refine E_callV2 (fr' := 2) (k1 := 0) (n1 := 0) (k2 := 0) (n2 := 0) dX5_climb_178 kO_X8_move kL_X5_115 (l_6 hL) (k_6 hL) ⟨by decide, rfl⟩ rfl rfl (by decide) (by decide) (by exact Nat.le_of_ble_eq_true rfl) rfl ?_
    have hc := hc.putZ (show s < L.length by omega) hg
    have hl2 := put_len L s (newG 65 i e (-100))
    refine sp_X8_moveU hc (by omega) (by omega) (fun M π hc => ?_)
    have hL := hc.B.lay
    refine gKn ?_
    refine E_aload_n dX5_climb_181 rfl ?_
    refine E_getRL dX5_climb_182 kF_X5_9 kY_5 (Or.inl ⟨_, rfl⟩) (l_72 hL) (k_72 hL) (r_72_0 hL) ?_
    refine E_iload_n dX5_climb_185 rfl ?_
    refine E_callV1 (fr' := 1) (k1 := 0) (n1 := 0) (k2 := 0) (n2 := 0) dX5_climb_186 kO_X8_takeOut kL_X5_119 (l_6 hL) (k_6 hL) ⟨by decide, rfl⟩ rfl (by decide) (by decide) (by exact Nat.le_of_ble_eq_true rfl) rfl ?_
    refine sp_X8_takeOut hc (by rw [rot_len]; omega) (fun M π hc => ?_)
    have hL := hc.B.lay
    refine gKn ?_
    refine E_vret dX5_climb_189 rfl ?_
    rw [← e1, clm_eq hp] at hc
    exact K _ _ hc
  · refine E_aload_n dX5_climb_134 rfl ?_
    refine E_getRL dX5_climb_135 kF_X5_9 kY_5 (Or.inl ⟨_, rfl⟩) (l_72 hL) (k_72 hL) (r_72_0 hL) ?_
    refine E_getRL dX5_climb_138 kF_X5_102 kY_8 (Or.inr ⟨_, rfl⟩) (l_6 hL) (k_6 hL) (r_6_0 hL) ?_
    refine E_iload_n dX5_climb_141 rfl ?_
    refine E_iconst (v := nI 1) dX5_climb_142 (by decide) ?_
    refine E_iadd_n dX5_climb_143 ?_
    refine E_aaldL (v := _) dX5_climb_144 (l_7 hL) (k_7 hL) (by decide) (by decide) rfl (by omega) (by decide) (hc.cell (by omega)) ?_
    refine E_getIL (v := nI (yN (gat _ _))) dX5_climb_145 kF_X5_106 kY_2 (Or.inl rfl) (hc.glt (by omega)) (hc.gkd (by omega)) (hc.g0 (by omega)) ?_
    refine E_callS1 (fr' := 2) (k1 := 0) (n1 := 0) (k2 := 0) (n2 := 0) dX5_climb_148 kO_X5_followsConsonant kL_X5_109 rfl (by decide) (by decide) (by exact Nat.le_of_ble_eq_true rfl) (Or.inl rfl) rfl ?_
    refine sp_X5_followsConsonant (by first | omega | exact Nat.lt_trans (hB.wf.tx _).1 (by decide) | exact Nat.lt_trans (hc.n256 _) (by decide)) ?_
    refine gKv ?_
    refine E_if_eq_b (tgt := 160) dX5_climb_151 (by decide) (fun c_151 => ?_) (fun c_151 => ?_)
    · have e1 : clY L s = y + 1 := by
        rw [← he]; first | exact fnd_end (by omega) | exact fnd_hit (by omega) (by assumption)
      refine E_aload_n dX5_climb_160 rfl ?_
      refine E_bipush (v := nI 65) dX5_climb_161 (by decide) ?_
      refine E_putI dX5_climb_163 kF_X5_106 kY_2 (Or.inl rfl) (hc.glt (by omega)) (hc.gkd (by omega)) (Or.inl rfl) ?_
      refine E_aload_n dX5_climb_166 rfl ?_
      refine E_bipush (v := -100) dX5_climb_167 (by decide) ?_
      refine E_putI dX5_climb_169 kF_X5_112 kY_2 (Or.inl rfl) (hc.glt (by omega)) (hc.gkd (by omega)) (Or.inl rfl) ?_
      refine E_aload_n dX5_climb_172 rfl ?_
      refine E_getRL dX5_climb_173 kF_X5_9 kY_5 (Or.inl ⟨_, rfl⟩) (l_72 hL) (k_72 hL) (r_72_0 hL) ?_
      refine E_iload_n dX5_climb_176 rfl ?_
      refine E_iload_n dX5_climb_177 rfl ?_
      refine E_callV2 (fr' := 2) (k1 := 0) (n1 := 0) (k2 := 0) (n2 := 0) dX5_climb_178 kO_X8_move kL_X5_115 (l_6 hL) (k_6 hL) ⟨by decide, rfl⟩ rfl rfl (by decide) (by decide) (by exact Nat.le_of_ble_eq_true rfl) rfl ?_
      have hc := hc.putZ (show s < L.length by omega) hg
      have hl2 := put_len L s (newG 65 i e (-100))
      refine sp_X8_moveU hc (by omega) (by omega) (fun M π hc => ?_)
      have hL := hc.B.lay
      refine gKn ?_
      refine E_aload_n dX5_climb_181 rfl ?_
      refine E_getRL dX5_climb_182 kF_X5_9 kY_5 (Or.inl ⟨_, rfl⟩) (l_72 hL) (k_72 hL) (r_72_0 hL) ?_
      refine E_iload_n dX5_climb_185 rfl ?_
      refine E_callV1 (fr' := 1) (k1 := 0) (n1 := 0) (k2 := 0) (n2 := 0) dX5_climb_186 kO_X8_takeOut kL_X5_119 (l_6 hL) (k_6 hL) ⟨by decide, rfl⟩ rfl (by decide) (by decide) (by exact Nat.le_of_ble_eq_true rfl) rfl ?_
      refine sp_X8_takeOut hc (by rw [rot_len]; omega) (fun M π hc => ?_)
      have hL := hc.B.lay
      refine gKn ?_
      refine E_vret dX5_climb_189 rfl ?_
      rw [← e1, clm_eq hp] at hc
      exact K _ _ hc
    · refine E_iinc_n (d := 1) dX5_climb_154 rfl rfl rfl (by decide) rfl ?_
      refine E_goto (tgt := 121) dX5_climb_157 (by decide) ?_
      have z := ih (by omega) (by omega) (by rw [← he]; exact (fnd_skip (P := (fun j => ¬ fol (yN (gat L j)))) (i := y + 1) (by omega) (not_not_intro (by assumption))).symm) v4
      rw [dI_succ] at z
      exact z
set_option maxRecDepth 100000 in
set_option maxHeartbeats 4000000 in
theorem lp1_X5_climb {g : gG} {M : gM} {Q : Option Value ⊕ String → gM → Prop} {c : Cf} {P : Nat → Nat} {M0 : gM} {L : List Gl} {π : Nat → Nat} (hc : cX c P M0 L π M) {s n i e : Nat} (hg : gat L s = newG n i e (-100)) (hp : clP L s) (K : ∀ M π, cX c P M0 (clmL L s i e) π M → Q (.inl none) M) : ∀ k, k ≤ L.length → s + 2 ≤ k → ∀ w, w + 1 = max (s + 3) (rfd (fun j => j < s + 3 ∨ cCo (yN (gat L j))) k) → E g 3 0 0 mX5_climb 81 [.ref 73, .int (nI s), .ref (8 + π s + 1), .int (nI w), .int (nI k)] [] M Q := by
  have hB := hc.B
  have hL := hB.lay
  have hn := hc.len
  have hs := hp.1
  refine lpUp L.length (fun k hk ih => ?_)
  intro hsk w hw
  have gx := (hc.ok.at k).1
  have hrb := rfd_le (P := (fun j => j < s + 3 ∨ cCo (yN (gat L j)))) k
  refine E_iload dX5_climb_81 rfl ?_
  refine E_aload_n dX5_climb_83 rfl ?_
  refine E_getRL dX5_climb_84 kF_X5_9 kY_5 (Or.inl ⟨_, rfl⟩) (l_72 hL) (k_72 hL) (r_72_0 hL) ?_
  refine E_getIL (v := nI (List.length _)) dX5_climb_87 kF_X5_15 kY_8 (Or.inl rfl) (l_6 hL) (k_6 hL) hc.n ?_
  refine E_icmp_ge_n (tgt := 121) dX5_climb_90 (by decide) (by omega) (by omega) (fun c_90 => ?_) (fun c_90 => ?_)
  · obtain rfl : k = L.length := by omega
    have e : w + 1 = clX L s := by have := (cl_xy hs).1; have ee : clX L s = rfd (fun j => j < s + 3 ∨ cCo (yN (gat L j))) L.length := rfl; omega
    have z := lp2_X5_climb (g := g) hc hg hp K (clX L s) (by omega) (cl_xy hs).1 rfl
    rw [← e, dI_succ] at z
    exact z _
  · refine E_aload_n dX5_climb_93 rfl ?_
    refine E_getRL dX5_climb_94 kF_X5_9 kY_5 (Or.inl ⟨_, rfl⟩) (l_72 hL) (k_72 hL) (r_72_0 hL) ?_
    refine E_getRL dX5_climb_97 kF_X5_102 kY_8 (Or.inr ⟨_, rfl⟩) (l_6 hL) (k_6 hL) (r_6_0 hL) ?_
    refine E_iload dX5_climb_100 rfl ?_
    refine E_aaldL (v := _) dX5_climb_102 (l_7 hL) (k_7 hL) (by decide) (by decide) rfl (by omega) (by decide) (hc.cell (by omega)) ?_
    refine E_getIL (v := nI (yN (gat _ _))) dX5_climb_103 kF_X5_106 kY_2 (Or.inl rfl) (hc.glt (by omega)) (hc.gkd (by omega)) (hc.g0 (by omega)) ?_
    refine E_callS1 (fr' := 1) (k1 := 0) (n1 := 0) (k2 := 0) (n2 := 0) dX5_climb_106 kO_X11_isConsonant kL_X5_77 rfl (by decide) (by decide) (by exact Nat.le_of_ble_eq_true rfl) (Or.inl rfl) rfl ?_
    refine sp_X11_isConsonant (by first | omega | exact Nat.lt_trans (hB.wf.tx _).1 (by decide) | exact Nat.lt_trans (hc.n256 _) (by decide)) ?_
    refine gKv ?_
    refine E_if_eq_b (tgt := 115) dX5_climb_109 (by decide) (fun c_109 => ?_) (fun c_109 => ?_)
    · refine E_iinc_n (d := 1) dX5_climb_115 rfl rfl rfl (by decide) rfl ?_
      refine E_goto (tgt := 81) dX5_climb_118 (by decide) ?_
      refine ih (by omega) (by omega) _ ?_
      first
        | (rw [rfd_t (P := (fun j => j < s + 3 ∨ cCo (yN (gat L j)))) (k := k) (Or.inr (by assumption))]; omega)
        | (have e : ¬ k = s + 2 := fun q => by subst q; exact absurd hp.2.2.2 (by assumption)
           rw [rfd_f (P := (fun j => j < s + 3 ∨ cCo (yN (gat L j)))) (k := k) (fun q => q.elim (fun q => by omega) (fun q => by contradiction))]; exact hw)
    · refine E_iload dX5_climb_112 rfl ?_
      refine E_istore_n dX5_climb_114 (Nat.le_of_ble_eq_true rfl) (by decide) rfl ?_
      refine E_iinc_n (d := 1) dX5_climb_115 rfl rfl rfl (by decide) rfl ?_
      refine E_goto (tgt := 81) dX5_climb_118 (by decide) ?_
      refine ih (by omega) (by omega) _ ?_
      first
        | (rw [rfd_t (P := (fun j => j < s + 3 ∨ cCo (yN (gat L j)))) (k := k) (Or.inr (by assumption))]; omega)
        | (have e : ¬ k = s + 2 := fun q => by subst q; exact absurd hp.2.2.2 (by assumption)
           rw [rfd_f (P := (fun j => j < s + 3 ∨ cCo (yN (gat L j)))) (k := k) (fun q => q.elim (fun q => by omega) (fun q => by contradiction))]; exact hw)
set_option maxRecDepth 100000 in
set_option maxHeartbeats 4000000 in
theorem sp_X5_climb {g : gG} {M : gM} {Q : Option Value ⊕ String → gM → Prop} {c : Cf} {P : Nat → Nat} {M0 : gM} {L : List Gl} {π : Nat → Nat} (hc : cX c P M0 L π M) {s n i e : Nat} (hg : gat L s = newG n i e (-100)) (hs : s < L.length) (K : ∀ M π, cX c P M0 (cI (clP L s) (clmL L s i e) L) π M → Q (.inl none) M) : E g 3 0 0 mX5_climb 0 [.ref 73, .int (nI s), .null, .null, .null] [] M Q := by
  have hB := hc.B
  have hL := hB.lay
  have hn := hc.len
  have g1 := (hc.ok.at s).1
  have g2 := (hc.ok.at (s + 1)).1
  have g3 := (hc.ok.at (s + 2)).1
  have no : ¬ clP L s → Q (.inl none) M := fun q => by
    rw [cI_f q] at K; exact K _ _ hc
  refine E_iload_n dX5_climb_0 rfl ?_
  refine E_iconst (v := nI 2) dX5_climb_1 (by decide) ?_
  refine E_iadd_n dX5_climb_2 ?_
  refine E_aload_n dX5_climb_3 rfl ?_
  refine E_getRL dX5_climb_4 kF_X5_9 kY_5 (Or.inl ⟨_, rfl⟩) (l_72 hL) (k_72 hL) (r_72_0 hL) ?_
  refine E_getIL (v := nI (List.length _)) dX5_climb_7 kF_X5_15 kY_8 (Or.inl rfl) (l_6 hL) (k_6 hL) hc.n ?_
  refine E_icmp_lt_n (tgt := 14) dX5_climb_10 (by decide) (by omega) (by omega) (fun c_10 => ?_) (fun c_10 => ?_)
  · refine E_aload_n dX5_climb_14 rfl ?_
    refine E_getRL dX5_climb_15 kF_X5_9 kY_5 (Or.inl ⟨_, rfl⟩) (l_72 hL) (k_72 hL) (r_72_0 hL) ?_
    refine E_getRL dX5_climb_18 kF_X5_102 kY_8 (Or.inr ⟨_, rfl⟩) (l_6 hL) (k_6 hL) (r_6_0 hL) ?_
    refine E_iload_n dX5_climb_21 rfl ?_
    refine E_aaldL (v := _) dX5_climb_22 (l_7 hL) (k_7 hL) (by decide) (by decide) rfl (by omega) (by decide) (hc.cell (by omega)) ?_
    refine E_astore_n dX5_climb_23 (Nat.le_of_ble_eq_true rfl) (by decide) rfl ?_
    refine E_aload_n dX5_climb_24 rfl ?_
    refine E_getIL (v := nI (yN (gat _ _))) dX5_climb_25 kF_X5_106 kY_2 (Or.inl rfl) (hc.glt (by omega)) (hc.gkd (by omega)) (hc.g0 (by omega)) ?_
    refine E_bipush (v := nI 38) dX5_climb_28 (by decide) ?_
    refine E_icmp_ne_n (tgt := 52) dX5_climb_30 (by decide) (by omega) (by omega) (fun c_30 => ?_) (fun c_30 => ?_)
    · refine E_vret dX5_climb_52 rfl ?_
      exact no (fun q => by have q1 := q.1; have q2 := q.2.1; have q3 := q.2.2.1; have q4 := q.2.2.2; first | omega | contradiction)
    · refine E_aload_n dX5_climb_33 rfl ?_
      refine E_getRL dX5_climb_34 kF_X5_9 kY_5 (Or.inl ⟨_, rfl⟩) (l_72 hL) (k_72 hL) (r_72_0 hL) ?_
      refine E_getRL dX5_climb_37 kF_X5_102 kY_8 (Or.inr ⟨_, rfl⟩) (l_6 hL) (k_6 hL) (r_6_0 hL) ?_
      refine E_iload_n dX5_climb_40 rfl ?_
      refine E_iconst (v := nI 1) dX5_climb_41 (by decide) ?_
      refine E_iadd_n dX5_climb_42 ?_
      refine E_aaldL (v := _) dX5_climb_43 (l_7 hL) (k_7 hL) (by decide) (by decide) rfl (by omega) (by decide) (hc.cell (by omega)) ?_
      refine E_getIL (v := nI (yN (gat _ _))) dX5_climb_44 kF_X5_106 kY_2 (Or.inl rfl) (hc.glt (by omega)) (hc.gkd (by omega)) (hc.g0 (by omega)) ?_
      refine E_bipush (v := nI 39) dX5_climb_47 (by decide) ?_
      refine E_icmp_eq_n (tgt := 53) dX5_climb_49 (by decide) (by omega) (by omega) (fun c_49 => ?_) (fun c_49 => ?_)
      · refine E_aload_n dX5_climb_53 rfl ?_
        refine E_getRL dX5_climb_54 kF_X5_9 kY_5 (Or.inl ⟨_, rfl⟩) (l_72 hL) (k_72 hL) (r_72_0 hL) ?_
        refine E_getRL dX5_climb_57 kF_X5_102 kY_8 (Or.inr ⟨_, rfl⟩) (l_6 hL) (k_6 hL) (r_6_0 hL) ?_
        refine E_iload_n dX5_climb_60 rfl ?_
        refine E_iconst (v := nI 2) dX5_climb_61 (by decide) ?_
        refine E_iadd_n dX5_climb_62 ?_
        refine E_aaldL (v := _) dX5_climb_63 (l_7 hL) (k_7 hL) (by decide) (by decide) rfl (by omega) (by decide) (hc.cell (by omega)) ?_
        refine E_getIL (v := nI (yN (gat _ _))) dX5_climb_64 kF_X5_106 kY_2 (Or.inl rfl) (hc.glt (by omega)) (hc.gkd (by omega)) (hc.g0 (by omega)) ?_
        refine E_callS1 (fr' := 1) (k1 := 0) (n1 := 0) (k2 := 0) (n2 := 0) dX5_climb_67 kO_X11_isConsonant kL_X5_77 rfl (by decide) (by decide) (by exact Nat.le_of_ble_eq_true rfl) (Or.inl rfl) rfl ?_
        refine sp_X11_isConsonant (by first | omega | exact Nat.lt_trans (hB.wf.tx _).1 (by decide) | exact Nat.lt_trans (hc.n256 _) (by decide)) ?_
        refine gKv ?_
        refine E_if_ne_b (tgt := 74) dX5_climb_70 (by decide) (fun c_70 => ?_) (fun c_70 => ?_)
        · refine E_iload_n dX5_climb_74 rfl ?_
          refine E_iconst (v := nI 2) dX5_climb_75 (by decide) ?_
          refine E_iadd_n dX5_climb_76 ?_
          refine E_istore_n dX5_climb_77 (Nat.le_of_ble_eq_true rfl) (by decide) rfl ?_
          refine E_iload_n dX5_climb_78 rfl ?_
          refine E_istore dX5_climb_79 (Nat.le_of_ble_eq_true rfl) (by decide) rfl ?_
          have hp : clP L s := ⟨by omega, by omega, by omega, by assumption⟩
          rw [cI_t hp] at K
          exact lp1_X5_climb hc hg hp K (s + 2) (by omega) (Nat.le_refl _) _ (by rw [rfd_eq (P := (fun j => j < s + 3 ∨ cCo (yN (gat L j)))) (k := s + 2) (r := s + 2) (Nat.le_refl _) (fun j q => Or.inl (by omega)) (fun j q1 q2 => by omega)]; omega)
        · refine E_vret dX5_climb_73 rfl ?_
          exact no (fun q => by have q1 := q.1; have q2 := q.2.1; have q3 := q.2.2.1; have q4 := q.2.2.2; first | omega | contradiction)
      · refine E_vret dX5_climb_52 rfl ?_
        exact no (fun q => by have q1 := q.1; have q2 := q.2.1; have q3 := q.2.2.1; have q4 := q.2.2.2; first | omega | contradiction)
  · refine E_vret dX5_climb_13 rfl ?_
    exact no (fun q => by have q1 := q.1; have q2 := q.2.1; have q3 := q.2.2.1; have q4 := q.2.2.2; first | omega | contradiction)
theorem gat_adS {c : Cf} {i : Nat} : ∀ t k (L : List Gl) j, j < L.length + t → gat (adS c i t k L) j = if j < L.length then gat L j else sgG c i (k + (j - L.length)) := by
  intro t
  induction t with
  | zero => intro k L j hj; rw [if_pos (by omega)]; rfl
  | succ t ih =>
    intro k L j hj
    show gat (adS c i t (k + 1) (addL L (sgG c i k))) j = _
    rw [ih _ _ _ (by rw [add_len]; omega), add_len]
    by_cases e : j < L.length
    · rw [if_pos (by omega), if_pos e]; unfold addL; rw [gat_mkL (by omega), if_pos e]
    · rw [if_neg e]
      by_cases e2 : j = L.length
      · rw [if_pos (by omega)]; unfold addL; rw [gat_mkL (by omega), if_neg e, e2, Nat.sub_self]; rfl
      · rw [if_neg (by omega)]; congr 1; omega
/-- the first glyph of a syllable, and whether it climbs -/
theorem sy2_first {c : Cf} {b i : Nat} {L : List Gl} (hw : WFc c) (hi : i < b) : gat (sy2 c b i L) L.length = newG (cI (39 ≤ cN c 141 i ∧ ¬ cN c 141 i = 43) 64 (cN c 141 i)) i (cI (39 ≤ cN c 141 i ∧ ¬ cN c 141 i = 43) 0 (cN c 142 i)) (-100) := by
  have he := syE_b hw hi
  have h1 := sy1_len c i L
  unfold sy2
  rw [gat_adS _ _ _ _ (by omega)]
  unfold sy1
  by_cases q : 39 ≤ cN c 141 i ∧ ¬ cN c 141 i = 43
  · rw [cI_t q, cI_t q, cI_t q, add_len, if_pos (by omega)]; unfold addL; rw [gat_mkL (by omega), if_neg (by omega)]
  · rw [cI_f q, cI_f q, cI_f q, if_neg (by omega), Nat.sub_self]; rfl
theorem sy2_clP {c : Cf} {b i : Nat} {L : List Gl} (hw : WFc c) (hi : i < b) : clP (sy2 c b i L) L.length ↔ syP c b i := by
  have he := syE_b hw hi
  have h2 := sy2_len c b i L
  have hf := sy2_first (L := L) hw hi
  unfold clP syP
  by_cases q : 39 ≤ cN c 141 i ∧ ¬ cN c 141 i = 43
  · constructor
    · rintro ⟨_, z, _⟩
      rw [hf, cI_t q] at z
      exact absurd z (by show ¬ (64 : Nat) = 38; decide)
    · rintro ⟨z, _⟩; omega
  · have e1 : sy1 c i L = L := cI_f q
    rw [e1] at h2
    rw [cI_f q, cI_f q] at hf
    have hg : ∀ k, k < syE c b i - i → gat (sy2 c b i L) (L.length + k) = sgG c i (i + k) := fun k hk => by
      unfold sy2
      rw [e1, gat_adS _ _ _ _ (by omega), if_neg (by omega), show L.length + k - L.length = k by omega]
    constructor
    · rintro ⟨z1, z2, z3, z4⟩
      rw [hg 1 (by omega)] at z3
      rw [hg 2 (by omega)] at z4
      rw [hf] at z2
      exact ⟨z2, by omega, z3, z4⟩
    · rintro ⟨z1, z2, z3, z4⟩
      refine ⟨by omega, by rw [hf]; exact z1, by rw [hg 1 (by omega)]; exact z3, by rw [hg 2 (by omega)]; exact z4⟩
theorem sy3_cl {c : Cf} {b i : Nat} {L : List Gl} (hw : WFc c) (hi : i < b) : cI (clP (sy2 c b i L) L.length) (clmL (sy2 c b i L) L.length i (cI (39 ≤ cN c 141 i ∧ ¬ cN c 141 i = 43) 0 (cN c 142 i))) (sy2 c b i L) = sy3 c b i L.length (sy2 c b i L) := by
  unfold sy3
  by_cases q : syP c b i
  · rw [cI_t q, cI_t ((sy2_clP hw hi).mpr q), cI_f (fun z => by have := q.1; omega)]
  · rw [cI_f q, cI_f (fun z => q ((sy2_clP hw hi).mp z))]
set_option maxRecDepth 100000 in
set_option maxHeartbeats 4000000 in
theorem lp_X5_addSyllable {g : gG} {Q : Option Value ⊕ String → gM → Prop} {c : Cf} {P : Nat → Nat} {M0 : gM} {L : List Gl} {b i : Nat} (hb : b ≤ 16) (hi : i < b) (hn2 : L.length ≤ 2 * i) (K : ∀ M π, cX c P M0 (syL c b i L) π M → Q (.inl none) M) : ∀ t k L1 π M, cX c P M0 L1 π M → k + t = syE c b i → i ≤ k → L1.length + t ≤ 63 → adS c i t k L1 = sy2 c b i L → E g 4 0 0 mX5_addSyllable 40 [.ref 73, .ref 3, .int (nI i), .int (nI (syE c b i)), .int (nI L.length), .int (nI k)] [] M Q := by
  intro t
  induction t with
  | zero =>
    intro k L1 π M hc ht hik hl hs
    have hs : L1 = sy2 c b i L := hs
    subst hs
    have hB := hc.B
    have hL := hB.lay
    have hn := hc.len
    have he := syE_b hB.wf hi
    have s1 := sy1_len c i L
    have s2 := sy2_len c b i L
    have hx4 := (hB.wf.tx i).2
    refine E_iload dX5_addSyllable_40 rfl ?_
    refine E_iload_n dX5_addSyllable_42 rfl ?_
    refine E_icmp_ge_n (tgt := 79) dX5_addSyllable_43 (by decide) (by omega) (by omega) (fun c_43 => ?_) (fun c_43 => ?_)
    · refine E_aload_n dX5_addSyllable_79 rfl ?_
      refine E_iload dX5_addSyllable_80 rfl ?_
      refine E_callV1 (fr' := 3) (k1 := 0) (n1 := 0) (k2 := 0) (n2 := 0) dX5_addSyllable_82 kO_X5_climb kL_X5_95 (l_72 hL) (k_72 hL) ⟨by decide, rfl⟩ rfl (by decide) (by decide) (by exact Nat.le_of_ble_eq_true rfl) rfl ?_
      refine sp_X5_climb hc (sy2_first hB.wf hi) (by omega) (fun M π hc => ?_)
      rw [sy3_cl hB.wf hi] at hc
      have hL := hc.B.lay
      refine gKn ?_
      refine E_aload_n dX5_addSyllable_85 rfl ?_
      refine E_iload dX5_addSyllable_86 rfl ?_
      refine E_callV1 (fr' := 3) (k1 := 0) (n1 := 0) (k2 := 0) (n2 := 0) dX5_addSyllable_88 kO_X5_setAhead kL_X5_99 (l_72 hL) (k_72 hL) ⟨by decide, rfl⟩ rfl (by decide) (by decide) (by exact Nat.le_of_ble_eq_true rfl) rfl ?_
      refine sp_X5_setAhead hc ?_ (fun M π hc => ?_)
      · unfold sy3
        by_cases q : syP c b i
        · rw [cI_t q, clmL_len (by have := ((sy2_clP (L := L) hB.wf hi).mpr q).1; omega)]; have := q.2.1; omega
        · rw [cI_f q]; omega
      refine gKn ?_
      refine E_vret dX5_addSyllable_91 rfl ?_
      exact K _ _ hc
    · exfalso; omega
  | succ t ih =>
    intro k L1 π M hc ht hik hl hs
    have hB := hc.B
    have hL := hB.lay
    have hn := hc.len
    have he := syE_b hB.wf hi
    have txk := (hB.wf.tx k).1
    have hx4 := (hB.wf.tx k).2
    refine E_iload dX5_addSyllable_40 rfl ?_
    refine E_iload_n dX5_addSyllable_42 rfl ?_
    refine E_icmp_ge_n (tgt := 79) dX5_addSyllable_43 (by decide) (by omega) (by omega) (fun c_43 => ?_) (fun c_43 => ?_)
    · exfalso; omega
    · refine E_aload_n dX5_addSyllable_46 rfl ?_
      refine E_getRL dX5_addSyllable_47 kF_X5_9 kY_5 (Or.inl ⟨_, rfl⟩) (l_72 hL) (k_72 hL) (r_72_0 hL) ?_
      refine E_callV0 (fr' := 1) (k1 := 0) (n1 := 0) (k2 := 0) (n2 := 0) dX5_addSyllable_50 kO_X8_add kL_X5_61 (l_6 hL) (k_6 hL) ⟨by decide, rfl⟩  (by decide) (by decide) (by exact Nat.le_of_ble_eq_true rfl) rfl ?_
      refine sp_X8_add hc (by omega) ?_
      have hB := hc.aB
      have hL := hB.lay
      refine gKv ?_
      refine E_aload_n dX5_addSyllable_53 rfl ?_
      refine E_getRL dX5_addSyllable_54 kF_X5_52 kY_10 (Or.inr ⟨_, rfl⟩) (l_2 hL) (k_2 hL) (r_2_0 hL) ?_
      refine E_iload dX5_addSyllable_57 rfl ?_
      refine E_ialdL (v := nI (cN _ 141 _)) dX5_addSyllable_59 (l_3 hL) (k_3 hL) rfl (by omega) (by decide) (hB.sg (by omega)) ?_
      refine E_iload_n dX5_addSyllable_60 rfl ?_
      refine E_aload_n dX5_addSyllable_61 rfl ?_
      refine E_getRL dX5_addSyllable_62 kF_X5_65 kY_10 (Or.inr ⟨_, rfl⟩) (l_2 hL) (k_2 hL) (r_2_1 hL) ?_
      refine E_iload dX5_addSyllable_65 rfl ?_
      refine E_ialdL (v := nI (cN _ 142 _)) dX5_addSyllable_67 (l_4 hL) (k_4 hL) rfl (by omega) (by decide) (hB.ex (by omega)) ?_
      refine E_bipush (v := -100) dX5_addSyllable_68 (by decide) ?_
      refine E_callV4 (fr' := 1) (k1 := 0) (n1 := 0) (k2 := 0) (n2 := 0) dX5_addSyllable_70 kO_X2_start kL_X5_71 (adM_lt hc (by omega)) (adM_k hc (by omega)) ⟨by decide, rfl⟩ rfl rfl rfl rfl (by decide) (by decide) (by exact Nat.le_of_ble_eq_true rfl) rfl ?_
      refine sp_X2_start (adM_lt hc (by omega)) (adM_k hc (by omega)) ?_
      refine gKn ?_
      refine E_iinc_n (d := 1) dX5_addSyllable_73 rfl rfl rfl (by decide) rfl ?_
      refine E_goto (tgt := 40) dX5_addSyllable_76 (by decide) ?_
      exact ih _ _ _ _ (hc.start (by omega) (by omega) (by omega) hx4) (by omega) (by omega) (by rw [add_len]; omega) hs
set_option maxRecDepth 100000 in
set_option maxHeartbeats 4000000 in
theorem sp_X5_addSyllable {g : gG} {M : gM} {Q : Option Value ⊕ String → gM → Prop} {c : Cf} {P : Nat → Nat} {M0 : gM} {L : List Gl} {π : Nat → Nat} (hc : cX c P M0 L π M) {b i : Nat} (hb : b ≤ 16) (hi : i < b) (hn2 : L.length ≤ 2 * i) (K : ∀ M π, cX c P M0 (syL c b i L) π M → Q (.inl none) M) : E g 4 0 0 mX5_addSyllable 0 [.ref 73, .ref 3, .int (nI i), .int (nI (syE c b i)), .null, .null] [] M Q := by
  have hB := hc.B
  have hL := hB.lay
  have hn := hc.len
  have he := syE_b hB.wf hi
  have s1 := sy1_len c i L
  have tx := (hB.wf.tx i).1
  refine E_aload_n dX5_addSyllable_0 rfl ?_
  refine E_getRL dX5_addSyllable_1 kF_X5_9 kY_5 (Or.inl ⟨_, rfl⟩) (l_72 hL) (k_72 hL) (r_72_0 hL) ?_
  refine E_getIL (v := nI (List.length _)) dX5_addSyllable_4 kF_X5_15 kY_8 (Or.inl rfl) (l_6 hL) (k_6 hL) hc.n ?_
  refine E_istore dX5_addSyllable_7 (Nat.le_of_ble_eq_true rfl) (by decide) rfl ?_
  refine E_aload_n dX5_addSyllable_9 rfl ?_
  refine E_getRL dX5_addSyllable_10 kF_X5_52 kY_10 (Or.inr ⟨_, rfl⟩) (l_2 hL) (k_2 hL) (r_2_0 hL) ?_
  refine E_iload_n dX5_addSyllable_13 rfl ?_
  refine E_ialdL (v := nI (cN _ 141 _)) dX5_addSyllable_14 (l_3 hL) (k_3 hL) rfl (by omega) (by decide) (hB.sg (by omega)) ?_
  refine E_callS1 (fr' := 2) (k1 := 0) (n1 := 0) (k2 := 0) (n2 := 0) dX5_addSyllable_15 kO_X5_needsCarrier kL_X5_86 rfl (by decide) (by decide) (by exact Nat.le_of_ble_eq_true rfl) (Or.inl rfl) rfl ?_
  refine sp_X5_needsCarrier (by first | omega | exact Nat.lt_trans (hB.wf.tx _).1 (by decide) | exact Nat.lt_trans (hc.n256 _) (by decide)) ?_
  refine gKv ?_
  refine E_if_eq_b (tgt := 37) dX5_addSyllable_18 (by decide) (fun c_18 => ?_) (fun c_18 => ?_)
  · first
      | (have e : sy1 c i L = L := cI_f (fun z => by omega)
         refine E_iload_n dX5_addSyllable_37 rfl ?_
         refine E_istore dX5_addSyllable_38 (Nat.le_of_ble_eq_true rfl) (by decide) rfl ?_
         exact lp_X5_addSyllable hb hi hn2 K (syE c b i - i) i _ _ _ hc (by omega) (Nat.le_refl _) (by omega) (by unfold sy2; rw [e]))
      | (have e : sy1 c i L = addL L (newG 64 i 0 (-100)) := cI_t ⟨by omega, by omega⟩
         have hc := hc.start (s := 64) (cl := i) (v := 0) (fo := -100) (by omega) (by decide) (by omega) (by decide)
         have hB := hc.B
         have hL := hB.lay
         refine E_iload_n dX5_addSyllable_37 rfl ?_
         refine E_istore dX5_addSyllable_38 (Nat.le_of_ble_eq_true rfl) (by decide) rfl ?_
         exact lp_X5_addSyllable hb hi hn2 K (syE c b i - i) i _ _ _ hc (by omega) (Nat.le_refl _) (by rw [add_len]; omega) (by unfold sy2; rw [e]))
  · refine E_aload_n dX5_addSyllable_21 rfl ?_
    refine E_getRL dX5_addSyllable_22 kF_X5_9 kY_5 (Or.inl ⟨_, rfl⟩) (l_72 hL) (k_72 hL) (r_72_0 hL) ?_
    refine E_callV0 (fr' := 1) (k1 := 0) (n1 := 0) (k2 := 0) (n2 := 0) dX5_addSyllable_25 kO_X8_add kL_X5_61 (l_6 hL) (k_6 hL) ⟨by decide, rfl⟩  (by decide) (by decide) (by exact Nat.le_of_ble_eq_true rfl) rfl ?_
    refine sp_X8_add hc (by omega) ?_
    have hB := hc.aB
    have hL := hB.lay
    refine gKv ?_
    refine E_bipush (v := nI 64) dX5_addSyllable_28 (by decide) ?_
    refine E_iload_n dX5_addSyllable_30 rfl ?_
    refine E_iconst (v := nI 0) dX5_addSyllable_31 (by decide) ?_
    refine E_bipush (v := -100) dX5_addSyllable_32 (by decide) ?_
    refine E_callV4 (fr' := 1) (k1 := 0) (n1 := 0) (k2 := 0) (n2 := 0) dX5_addSyllable_34 kO_X2_start kL_X5_71 (adM_lt hc (by omega)) (adM_k hc (by omega)) ⟨by decide, rfl⟩ rfl rfl rfl rfl (by decide) (by decide) (by exact Nat.le_of_ble_eq_true rfl) rfl ?_
    refine sp_X2_start (adM_lt hc (by omega)) (adM_k hc (by omega)) ?_
    refine gKn ?_
    first
      | (have e : sy1 c i L = L := cI_f (fun z => by omega)
         refine E_iload_n dX5_addSyllable_37 rfl ?_
         refine E_istore dX5_addSyllable_38 (Nat.le_of_ble_eq_true rfl) (by decide) rfl ?_
         exact lp_X5_addSyllable hb hi hn2 K (syE c b i - i) i _ _ _ hc (by omega) (Nat.le_refl _) (by omega) (by unfold sy2; rw [e]))
      | (have e : sy1 c i L = addL L (newG 64 i 0 (-100)) := cI_t ⟨by omega, by omega⟩
         have hc := hc.start (s := 64) (cl := i) (v := 0) (fo := -100) (by omega) (by decide) (by omega) (by decide)
         have hB := hc.B
         have hL := hB.lay
         refine E_iload_n dX5_addSyllable_37 rfl ?_
         refine E_istore dX5_addSyllable_38 (Nat.le_of_ble_eq_true rfl) (by decide) rfl ?_
         exact lp_X5_addSyllable hb hi hn2 K (syE c b i - i) i _ _ _ hc (by omega) (Nat.le_refl _) (by rw [add_len]; omega) (by unfold sy2; rw [e]))
set_option maxRecDepth 100000 in
set_option maxHeartbeats 4000000 in
theorem lp_X5_begin {g : gG} {Q : Option Value ⊕ String → gM → Prop} {c : Cf} {P : Nat → Nat} {M0 : gM} {pb r b : Nat} (hb : b ≤ 16) : ∀ t i (L : List Gl) π M, cX c P M0 L π M → L.length ≤ 2 * i → b - i ≤ t → i ≤ b → (K : ∀ M π, cX c P M0 (sys c b t i L) π M → Q (.inl none) M) → ∀ s v7, s ≤ i → E g 5 0 0 mX5_begin 67 [.ref 73, .ref 3, .ref (pb + 1 + 1), .int (nI r), .int (nI b), .int (nI i), .int (nI s), v7] [] M Q := by
  intro t
  induction t with
  | zero =>
    intro i L π M hc hl ht hi K s v7 hs
    have hB := hc.B
    have hL := hB.lay
    have hn := hc.len
    refine E_iload dX5_begin_67 rfl ?_
    refine E_iload dX5_begin_69 rfl ?_
    refine E_icmp_ge_n (tgt := 110) dX5_begin_71 (by decide) (by omega) (by omega) (fun c_71 => ?_) (fun c_71 => ?_)
    · refine E_vret dX5_begin_110 rfl ?_
      exact K _ _ hc
    · refine E_iload dX5_begin_74 rfl ?_
      refine E_bipush (v := nI 16) dX5_begin_76 (by decide) ?_
      refine E_icmp_ge_n (tgt := 110) dX5_begin_78 (by decide) (by omega) (by omega) (fun c_78 => ?_) (fun c_78 => ?_)
      · refine E_vret dX5_begin_110 rfl ?_
        exact K _ _ hc
      · exfalso; omega
  | succ t ih =>
    intro i L π M hc hl ht hi K s v7 hs
    have K : ∀ M π, cX c P M0 (cI (i < b) (sys c b t (syE c b i) (syL c b i L)) L) π M → Q (.inl none) M := K
    have hB := hc.B
    have hL := hB.lay
    have hn := hc.len
    refine E_iload dX5_begin_67 rfl ?_
    refine E_iload dX5_begin_69 rfl ?_
    refine E_icmp_ge_n (tgt := 110) dX5_begin_71 (by decide) (by omega) (by omega) (fun c_71 => ?_) (fun c_71 => ?_)
    · refine E_vret dX5_begin_110 rfl ?_
      first
        | (exfalso; omega)
        | (rw [cI_f (by omega)] at K
           exact K _ _ hc)
    · refine E_iload dX5_begin_74 rfl ?_
      refine E_bipush (v := nI 16) dX5_begin_76 (by decide) ?_
      refine E_icmp_ge_n (tgt := 110) dX5_begin_78 (by decide) (by omega) (by omega) (fun c_78 => ?_) (fun c_78 => ?_)
      · refine E_vret dX5_begin_110 rfl ?_
        first
          | (exfalso; omega)
          | (rw [cI_f (by omega)] at K
             exact K _ _ hc)
      · refine E_aload_n dX5_begin_81 rfl ?_
        refine E_iload dX5_begin_82 rfl ?_
        refine E_iload dX5_begin_84 rfl ?_
        refine E_callS3 (fr' := 4) (k1 := 0) (n1 := 0) (k2 := 0) (n2 := 0) dX5_begin_86 kO_X5_syllableEnd kL_X5_44 rfl rfl rfl (by decide) (by decide) (by exact Nat.le_of_ble_eq_true rfl) (Or.inl rfl) rfl ?_
        refine sp_X5_syllableEnd hB (by omega) (by omega) ?_
        refine gKv ?_
        refine E_istore dX5_begin_89 (Nat.le_of_ble_eq_true rfl) (by decide) rfl ?_
        refine E_aload_n dX5_begin_91 rfl ?_
        refine E_aload_n dX5_begin_92 rfl ?_
        refine E_iload dX5_begin_93 rfl ?_
        refine E_iload dX5_begin_95 rfl ?_
        refine E_callV3 (fr' := 4) (k1 := 0) (n1 := 0) (k2 := 0) (n2 := 0) dX5_begin_97 kO_X5_addSyllable kL_X5_48 (l_72 hL) (k_72 hL) ⟨by decide, rfl⟩ rfl rfl rfl (by decide) (by decide) (by exact Nat.le_of_ble_eq_true rfl) rfl ?_
        rw [cI_t (by omega)] at K
        have he := syE_b hB.wf (show i < b by omega)
        have hs := syL_len (L := L) hB.wf (show i < b by omega)
        refine sp_X5_addSyllable hc hb (by omega) hl (fun M π hc => ?_)
        have hL := hc.B.lay
        refine gKn ?_
        refine E_iload dX5_begin_100 rfl ?_
        refine E_istore dX5_begin_102 (Nat.le_of_ble_eq_true rfl) (by decide) rfl ?_
        refine E_iinc_n (d := 1) dX5_begin_104 rfl rfl rfl (by decide) rfl ?_
        refine E_goto (tgt := 67) dX5_begin_107 (by decide) ?_
        exact ih _ _ _ _ hc (by omega) (by omega) he.2 K _ _ (by omega)
set_option maxRecDepth 100000 in
set_option maxHeartbeats 4000000 in
theorem sp_X5_begin {g : gG} {M : gM} {Q : Option Value ⊕ String → gM → Prop} {c : Cf} {P : Nat → Nat} (hB : kB c P M) {pb : Nat} (hp : pb = 78 ∨ pb = 98) {π : Nat → Nat} (hr : rK π M) {q a b s : Nat} (hq : q < 16) (hst : mI M (pb + 6) q = nI a) (hen : mI M (pb + 7) q = nI b) (hS : mI M (pb + 4) q = nI s) (hs1 : s ≤ 1) (hab : a ≤ b) (hb : b ≤ 16) (hfm : ∀ j, a ≤ j → j < b → mI M (pb + 3) j = frm c a b j) (K : ∀ M' π, cX c P M (r0 c s a b) π M' → Q (.inl none) M') : E g 5 0 0 mX5_begin 0 [.ref 73, .ref 3, .ref (pb + 1 + 1), .int (nI q), .null, .null, .null, .null] [] M Q := by
  have hL := hB.lay
  have hc := cX_nil hB hr
  have hm : min b 16 = b := by omega
  refine E_aload_n dX5_begin_0 rfl ?_
  refine E_getRL dX5_begin_1 kF_X5_9 kY_5 (Or.inl ⟨_, rfl⟩) (l_72 hL) (k_72 hL) (r_72_0 hL) ?_
  refine E_iconst (v := nI 0) dX5_begin_4 (by decide) ?_
  refine E_putI dX5_begin_5 kF_X5_15 kY_8 (Or.inl rfl) (l_6 hL) (k_6 hL) (Or.inl rfl) ?_
  refine E_iload_n dX5_begin_8 rfl ?_
  refine E_if_lt_n (tgt := 18) dX5_begin_9 (by decide) (by omega) ?_
  refine E_iload_n dX5_begin_12 rfl ?_
  refine E_bipush (v := nI 16) dX5_begin_13 (by decide) ?_
  refine E_icmp_lt_n (tgt := 19) dX5_begin_15 (by decide) (by omega) (by omega) (fun c_15 => ?_) (fun c_15 => ?_)
  · have hL := hc.B.lay
    have e6 : ∀ a j, ¬ a = 6 → mI (sI M 6 1 (nI 0)) a j = mI M a j := fun a j h => mI_ne h
    refine E_aload_n dX5_begin_19 rfl ?_
    refine E_getRL dX5_begin_20 kF_X5_21 kY_9 (Or.inr ⟨_, rfl⟩) (pg_lt hL hp (i := 1) (by decide)) (pg_k1 hL hp) (pg_ru hL hp (i := 5) (by decide)) ?_
    refine E_iload_n dX5_begin_23 rfl ?_
    refine E_ialdL (v := nI b) dX5_begin_24 (pg_lt hL hp (i := 7) (by decide)) (pg_ka hL hp (i := 7) (by decide)) rfl (by omega) (by decide) ((e6 _ _ (by omega)).trans hen) ?_
    refine E_bipush (v := nI 16) dX5_begin_25 (by decide) ?_
    refine E_kmin_n (gW_at 827 (by decide +kernel) (by decide +kernel)) dX5_begin_27 (by decide) (by exact Nat.le_of_ble_eq_true rfl) (by omega) (by omega) ?_
    rw [hm]
    refine E_istore dX5_begin_30 (Nat.le_of_ble_eq_true rfl) (by decide) rfl ?_
    refine E_aload_n dX5_begin_32 rfl ?_
    refine E_getRL dX5_begin_33 kF_X5_33 kY_9 (Or.inr ⟨_, rfl⟩) (pg_lt hL hp (i := 1) (by decide)) (pg_k1 hL hp) (pg_ru hL hp (i := 2) (by decide)) ?_
    refine E_iload_n dX5_begin_36 rfl ?_
    refine E_zaldL (v := nI s) dX5_begin_37 (pg_lt hL hp (i := 4) (by decide)) (pg_kz hL hp) rfl (by omega) (by decide) ((e6 _ _ (by omega)).trans hS) ?_
    refine E_if_ne_n (tgt := 56) dX5_begin_38 (by decide) (by omega) (fun c_38 => ?_) (fun c_38 => ?_)
    · refine E_aload_n dX5_begin_56 rfl ?_
      refine E_getRL dX5_begin_57 kF_X5_37 kY_9 (Or.inr ⟨_, rfl⟩) (pg_lt hL hp (i := 1) (by decide)) (pg_k1 hL hp) (pg_ru hL hp (i := 4) (by decide)) ?_
      refine E_iload_n dX5_begin_60 rfl ?_
      refine E_ialdL (v := nI a) dX5_begin_61 (pg_lt hL hp (i := 6) (by decide)) (pg_ka hL hp (i := 6) (by decide)) rfl (by omega) (by decide) ((e6 _ _ (by omega)).trans hst) ?_
      refine E_istore dX5_begin_62 (Nat.le_of_ble_eq_true rfl) (by decide) rfl ?_
      refine E_iconst (v := nI 0) dX5_begin_64 (by decide) ?_
      refine E_istore dX5_begin_65 (Nat.le_of_ble_eq_true rfl) (by decide) rfl ?_
      have e0 : r0 c s a b = sys c b (b - a) a [] := cI_f (by omega)
      rw [e0] at K
      exact lp_X5_begin hb (b - a) a [] π _ hc (Nat.zero_le _) (Nat.le_refl _) hab K _ _ (Nat.zero_le _)
    · refine E_aload_n dX5_begin_41 rfl ?_
      refine E_aload_n dX5_begin_42 rfl ?_
      refine E_aload_n dX5_begin_43 rfl ?_
      refine E_aload_n dX5_begin_44 rfl ?_
      refine E_getRL dX5_begin_45 kF_X5_37 kY_9 (Or.inr ⟨_, rfl⟩) (pg_lt hL hp (i := 1) (by decide)) (pg_k1 hL hp) (pg_ru hL hp (i := 4) (by decide)) ?_
      refine E_iload_n dX5_begin_48 rfl ?_
      refine E_ialdL (v := nI a) dX5_begin_49 (pg_lt hL hp (i := 6) (by decide)) (pg_ka hL hp (i := 6) (by decide)) rfl (by omega) (by decide) ((e6 _ _ (by omega)).trans hst) ?_
      refine E_iload dX5_begin_50 rfl ?_
      refine E_callV4 (fr' := 2) (k1 := 0) (n1 := 0) (k2 := 0) (n2 := 0) dX5_begin_52 kO_X5_beginJ kL_X5_40 (l_72 hL) (k_72 hL) ⟨by decide, rfl⟩ rfl rfl rfl rfl (by decide) (by decide) (by exact Nat.le_of_ble_eq_true rfl) rfl ?_
      have e0 : r0 c s a b = jnd c a b (b - a) := cI_t (by omega)
      rw [e0] at K
      refine sp_X5_beginJ hp hab hb hfm (fun M' π hc => ?_) hc
      have hL := hc.B.lay
      refine gKn ?_
      refine E_vret dX5_begin_55 rfl ?_
      exact K _ _ hc
  · refine E_vret dX5_begin_18 rfl ?_
    exfalso; omega
set_option maxRecDepth 100000 in
set_option maxHeartbeats 4000000 in
theorem sp_X11_isConsonantZ {g : gG} {M : gM} {Q : Option Value ⊕ String → gM → Prop} (K : Q (.inl (some (.int (b2i (False))))) M) : E g 1 0 0 mX11_isConsonant 0 [.int (-100)] [] M Q := by
  refine E_iload_n dX11_isConsonant_0 rfl ?_
  refine E_bipush (v := nI 30) dX11_isConsonant_1 (by decide) ?_
  refine E_icmp_lt (tgt := 16) dX11_isConsonant_3 (by decide) (fun _ => ?_) (fun c0 => absurd (by decide) c0)
  refine E_iconst (v := nI 0) dX11_isConsonant_16 (by decide) ?_
  refine E_iret dX11_isConsonant_17 (Or.inr ⟨rfl, by decide⟩) ?_
  rw [← b2i_f (P := False) (by exact id)]; exact K
set_option maxRecDepth 100000 in
set_option maxHeartbeats 4000000 in
theorem lp_X5_lastKiller {g : gG} {M : gM} {Q : Option Value ⊕ String → gM → Prop} {c : Cf} {P : Nat → Nat} {M0 : gM} {L : List Gl} {π : Nat → Nat} (hc : cX c P M0 L π M) {i : Nat} (hi : i < L.length) (K : Q (.inl (some (.int (cI (0 < kil L i) (nI (kil L i - 1)) (-100))))) M) : ∀ k, led L i ≤ k → k ≤ bcl L i → ∀ u, u = cI (∃ j, k ≤ j ∧ j < bcl L i ∧ beh (gat L j)) 1 0 → (∀ j, k ≤ j → j < bcl L i → ¬ kilP L i j) → ∀ v5, E g 2 0 0 mX5_lastKiller 17 [.ref 73, .int (nI (led L i)), .int (nI (bcl L i)), .int (nI u), .int (dI k), v5] [] M Q := by
  have hB := hc.B
  have hL := hB.lay
  have hn := hc.len
  have hb := bcl_b hi
  have hl := led_b hi
  have hsp := rfd_spec (P := kilP L i) (bcl L i)
  have hkb := kil_b hi
  refine lpDn (led L i) (fun k hlk ih => ?_)
  intro hk u hu hno v5
  refine E_iload dX5_lastKiller_17 rfl ?_
  refine E_iload_n dX5_lastKiller_19 rfl ?_
  refine E_icmp_lt_d (tgt := 86) dX5_lastKiller_20 (by decide) (by omega) (by omega) (fun c_20 => ?_) (fun c_20 => ?_)
  · refine E_bipush (v := -100) dX5_lastKiller_86 (by decide) ?_
    refine E_iret dX5_lastKiller_88 (Or.inl rfl) ?_
    have e : kil L i = 0 := rfd_eq (P := kilP L i) (Nat.zero_le _) (fun j q => by omega) (fun j q1 q2 => by
      by_cases z : k ≤ j
      · exact hno j z q2
      · exact fun w => by have := w.1; omega)
    rw [cI_f (by omega)] at K; exact K
  · obtain ⟨k, rfl⟩ : ∃ z, k = z + 1 := ⟨k - 1, by omega⟩
    simp only [Nat.add_sub_cancel] at ih
    rw [dI_succ]
    have gx := (hc.ok.at k).1
    have ox := (hc.ok.at k).2.2.2
    have hP : kilP L i k ↔ yN (gat L k) = 39 ∧ ∃ j, k + 1 ≤ j ∧ j < bcl L i ∧ beh (gat L j) := ⟨fun q => q.2, fun q => ⟨by omega, q⟩⟩
    have hex : (∃ j, k ≤ j ∧ j < bcl L i ∧ beh (gat L j)) ↔ (∃ j, k + 1 ≤ j ∧ j < bcl L i ∧ beh (gat L j)) ∨ beh (gat L k) := by
      constructor
      · rintro ⟨j, q1, q2, q3⟩
        by_cases e : j = k
        · subst e; exact Or.inr q3
        · exact Or.inl ⟨j, by omega, q2, q3⟩
      · rintro (⟨j, q1, q2, q3⟩ | q)
        · exact ⟨j, by omega, q2, q3⟩
        · exact ⟨k, Nat.le_refl _, by omega, q⟩
    have fin : ¬ kilP L i k → ∀ u' v5, u' = cI (∃ j, k ≤ j ∧ j < bcl L i ∧ beh (gat L j)) 1 0 → E g 2 0 0 mX5_lastKiller 17 [.ref 73, .int (nI (led L i)), .int (nI (bcl L i)), .int (nI u'), .int (dI k), v5] [] M Q := fun hnk u' v5 e1 => ih (by omega) (by omega) u' e1 (fun j q1 q2 => by
      by_cases z : j = k
      · rw [z]; exact hnk
      · exact hno j (by omega) q2) v5
    by_cases hx : ∃ j, k + 1 ≤ j ∧ j < bcl L i ∧ beh (gat L j)
    · rw [cI_t hx] at hu
      subst hu
      have g1 : (1 : Nat) = cI (∃ j, k ≤ j ∧ j < bcl L i ∧ beh (gat L j)) 1 0 := (cI_t (hex.mpr (Or.inl hx))).symm
      have nk : ¬ yN (gat L k) = 39 → ¬ kilP L i k := fun q z => q (hP.mp z).1
      by_cases e65 : yO (gat L k) = 65
      · refine E_iload_n dX5_lastKiller_23 rfl ?_
        refine E_if_eq (tgt := 48) dX5_lastKiller_24 (by decide) (fun c0 => absurd c0 (by decide)) (fun _ => ?_)
        refine E_aload_n dX5_lastKiller_27 rfl ?_
        refine E_getRL dX5_lastKiller_28 kF_X5_9 kY_5 (Or.inl ⟨_, rfl⟩) (l_72 hL) (k_72 hL) (r_72_0 hL) ?_
        refine E_getRL dX5_lastKiller_31 kF_X5_102 kY_8 (Or.inr ⟨_, rfl⟩) (l_6 hL) (k_6 hL) (r_6_0 hL) ?_
        refine E_iload dX5_lastKiller_34 rfl ?_
        refine E_aaldL (v := _) dX5_lastKiller_36 (l_7 hL) (k_7 hL) (by decide) (by decide) rfl (by omega) (by decide) (hc.cell (by omega)) ?_
        refine E_getIL (v := nI (yN (gat _ _))) dX5_lastKiller_37 kF_X5_106 kY_2 (Or.inl rfl) (hc.glt (by omega)) (hc.gkd (by omega)) (hc.g0 (by omega)) ?_
        refine E_bipush (v := nI 39) dX5_lastKiller_40 (by decide) ?_
        refine E_icmp_ne_n (tgt := 48) dX5_lastKiller_42 (by decide) (by omega) (by omega) (fun c_42 => ?_) (fun c_42 => ?_)
        · refine E_aload_n dX5_lastKiller_48 rfl ?_
          refine E_getRL dX5_lastKiller_49 kF_X5_9 kY_5 (Or.inl ⟨_, rfl⟩) (l_72 hL) (k_72 hL) (r_72_0 hL) ?_
          refine E_getRL dX5_lastKiller_52 kF_X5_102 kY_8 (Or.inr ⟨_, rfl⟩) (l_6 hL) (k_6 hL) (r_6_0 hL) ?_
          refine E_iload dX5_lastKiller_55 rfl ?_
          refine E_aaldL (v := _) dX5_lastKiller_57 (l_7 hL) (k_7 hL) (by decide) (by decide) rfl (by omega) (by decide) (hc.cell (by omega)) ?_
          refine E_getIL (v := -100) dX5_lastKiller_58 kF_X5_112 kY_2 (Or.inl rfl) (hc.glt (by omega)) (hc.gkd (by omega)) ((hc.g4 (by omega)).trans (cI_t e65)) ?_
          refine E_istore dX5_lastKiller_61 (Nat.le_of_ble_eq_true rfl) (by decide) rfl ?_
          refine E_iload dX5_lastKiller_63 rfl ?_
          refine E_callS1 (fr' := 1) (k1 := 0) (n1 := 0) (k2 := 0) (n2 := 0) dX5_lastKiller_65 kO_X11_isConsonant kL_X5_77 rfl (by decide) (by decide) (by exact Nat.le_of_ble_eq_true rfl) (Or.inl rfl) rfl ?_
          refine sp_X11_isConsonantZ ?_
          refine gKv ?_
          refine E_if_ne_b (tgt := 78) dX5_lastKiller_68 (by decide) (fun c_68 => ?_) (fun c_68 => ?_)
          · refine E_iconst (v := nI 1) dX5_lastKiller_78 (by decide) ?_
            refine E_istore_n dX5_lastKiller_79 (Nat.le_of_ble_eq_true rfl) (by decide) rfl ?_
            refine E_iinc_d dX5_lastKiller_80 rfl rfl (by decide) rfl ?_
            refine E_goto (tgt := 17) dX5_lastKiller_83 (by decide) ?_
            exact fin (nk (by assumption)) _ _ g1
          · refine E_iload dX5_lastKiller_71 rfl ?_
            refine E_bipush (v := nI 64) dX5_lastKiller_73 (by decide) ?_
            refine E_icmp_ne (tgt := 80) dX5_lastKiller_75 (by decide) (fun _ => ?_) (fun c0 => absurd (by decide) c0)
            refine E_iinc_d dX5_lastKiller_80 rfl rfl (by decide) rfl ?_
            refine E_goto (tgt := 17) dX5_lastKiller_83 (by decide) ?_
            exact fin (nk (by assumption)) _ _ g1
        · refine E_iload dX5_lastKiller_45 rfl ?_
          refine E_iret dX5_lastKiller_47 (Or.inl rfl) ?_
          have e : kil L i = k + 1 := rfd_eq (P := kilP L i) (by omega) (fun j q => by rw [show j = k by omega]; exact hP.mpr ⟨by assumption, hx⟩) (fun j q1 q2 => hno j q1 q2)
          rw [cI_t (by omega), e, Nat.add_sub_cancel] at K; exact K
      · refine E_iload_n dX5_lastKiller_23 rfl ?_
        refine E_if_eq (tgt := 48) dX5_lastKiller_24 (by decide) (fun c0 => absurd c0 (by decide)) (fun _ => ?_)
        refine E_aload_n dX5_lastKiller_27 rfl ?_
        refine E_getRL dX5_lastKiller_28 kF_X5_9 kY_5 (Or.inl ⟨_, rfl⟩) (l_72 hL) (k_72 hL) (r_72_0 hL) ?_
        refine E_getRL dX5_lastKiller_31 kF_X5_102 kY_8 (Or.inr ⟨_, rfl⟩) (l_6 hL) (k_6 hL) (r_6_0 hL) ?_
        refine E_iload dX5_lastKiller_34 rfl ?_
        refine E_aaldL (v := _) dX5_lastKiller_36 (l_7 hL) (k_7 hL) (by decide) (by decide) rfl (by omega) (by decide) (hc.cell (by omega)) ?_
        refine E_getIL (v := nI (yN (gat _ _))) dX5_lastKiller_37 kF_X5_106 kY_2 (Or.inl rfl) (hc.glt (by omega)) (hc.gkd (by omega)) (hc.g0 (by omega)) ?_
        refine E_bipush (v := nI 39) dX5_lastKiller_40 (by decide) ?_
        refine E_icmp_ne_n (tgt := 48) dX5_lastKiller_42 (by decide) (by omega) (by omega) (fun c_42 => ?_) (fun c_42 => ?_)
        · refine E_aload_n dX5_lastKiller_48 rfl ?_
          refine E_getRL dX5_lastKiller_49 kF_X5_9 kY_5 (Or.inl ⟨_, rfl⟩) (l_72 hL) (k_72 hL) (r_72_0 hL) ?_
          refine E_getRL dX5_lastKiller_52 kF_X5_102 kY_8 (Or.inr ⟨_, rfl⟩) (l_6 hL) (k_6 hL) (r_6_0 hL) ?_
          refine E_iload dX5_lastKiller_55 rfl ?_
          refine E_aaldL (v := _) dX5_lastKiller_57 (l_7 hL) (k_7 hL) (by decide) (by decide) rfl (by omega) (by decide) (hc.cell (by omega)) ?_
          refine E_getIL (v := nI (yO (gat L k))) dX5_lastKiller_58 kF_X5_112 kY_2 (Or.inl rfl) (hc.glt (by omega)) (hc.gkd (by omega)) ((hc.g4 (by omega)).trans (oI_n e65)) ?_
          refine E_istore dX5_lastKiller_61 (Nat.le_of_ble_eq_true rfl) (by decide) rfl ?_
          refine E_iload dX5_lastKiller_63 rfl ?_
          refine E_callS1 (fr' := 1) (k1 := 0) (n1 := 0) (k2 := 0) (n2 := 0) dX5_lastKiller_65 kO_X11_isConsonant kL_X5_77 rfl (by decide) (by decide) (by exact Nat.le_of_ble_eq_true rfl) (Or.inl rfl) rfl ?_
          refine sp_X11_isConsonant (by first | omega | exact Nat.lt_trans (hB.wf.tx _).1 (by decide) | exact Nat.lt_trans (hc.n256 _) (by decide)) ?_
          refine gKv ?_
          refine E_if_ne_b (tgt := 78) dX5_lastKiller_68 (by decide) (fun c_68 => ?_) (fun c_68 => ?_)
          · refine E_iconst (v := nI 1) dX5_lastKiller_78 (by decide) ?_
            refine E_istore_n dX5_lastKiller_79 (Nat.le_of_ble_eq_true rfl) (by decide) rfl ?_
            refine E_iinc_d dX5_lastKiller_80 rfl rfl (by decide) rfl ?_
            refine E_goto (tgt := 17) dX5_lastKiller_83 (by decide) ?_
            exact fin (nk (by assumption)) _ _ g1
          · refine E_iload dX5_lastKiller_71 rfl ?_
            refine E_bipush (v := nI 64) dX5_lastKiller_73 (by decide) ?_
            refine E_icmp_ne_n (tgt := 80) dX5_lastKiller_75 (by decide) (by omega) (by omega) (fun c_75 => ?_) (fun c_75 => ?_)
            · refine E_iinc_d dX5_lastKiller_80 rfl rfl (by decide) rfl ?_
              refine E_goto (tgt := 17) dX5_lastKiller_83 (by decide) ?_
              exact fin (nk (by assumption)) _ _ g1
            · refine E_iconst (v := nI 1) dX5_lastKiller_78 (by decide) ?_
              refine E_istore_n dX5_lastKiller_79 (Nat.le_of_ble_eq_true rfl) (by decide) rfl ?_
              refine E_iinc_d dX5_lastKiller_80 rfl rfl (by decide) rfl ?_
              refine E_goto (tgt := 17) dX5_lastKiller_83 (by decide) ?_
              exact fin (nk (by assumption)) _ _ g1
        · refine E_iload dX5_lastKiller_45 rfl ?_
          refine E_iret dX5_lastKiller_47 (Or.inl rfl) ?_
          have e : kil L i = k + 1 := rfd_eq (P := kilP L i) (by omega) (fun j q => by rw [show j = k by omega]; exact hP.mpr ⟨by assumption, hx⟩) (fun j q1 q2 => hno j q1 q2)
          rw [cI_t (by omega), e, Nat.add_sub_cancel] at K; exact K
    · rw [cI_f hx] at hu
      subst hu
      have nk : ¬ kilP L i k := fun z => hx (hP.mp z).2
      have g1 : beh (gat L k) → (1 : Nat) = cI (∃ j, k ≤ j ∧ j < bcl L i ∧ beh (gat L j)) 1 0 := fun q => (cI_t (hex.mpr (Or.inr q))).symm
      have g2 : ¬ beh (gat L k) → (0 : Nat) = cI (∃ j, k ≤ j ∧ j < bcl L i ∧ beh (gat L j)) 1 0 := fun q => (cI_f (fun z => (hex.mp z).elim hx q)).symm
      by_cases e65 : yO (gat L k) = 65
      · refine E_iload_n dX5_lastKiller_23 rfl ?_
        refine E_if_eq (tgt := 48) dX5_lastKiller_24 (by decide) (fun _ => ?_) (fun c0 => absurd (by decide) c0)
        refine E_aload_n dX5_lastKiller_48 rfl ?_
        refine E_getRL dX5_lastKiller_49 kF_X5_9 kY_5 (Or.inl ⟨_, rfl⟩) (l_72 hL) (k_72 hL) (r_72_0 hL) ?_
        refine E_getRL dX5_lastKiller_52 kF_X5_102 kY_8 (Or.inr ⟨_, rfl⟩) (l_6 hL) (k_6 hL) (r_6_0 hL) ?_
        refine E_iload dX5_lastKiller_55 rfl ?_
        refine E_aaldL (v := _) dX5_lastKiller_57 (l_7 hL) (k_7 hL) (by decide) (by decide) rfl (by omega) (by decide) (hc.cell (by omega)) ?_
        refine E_getIL (v := -100) dX5_lastKiller_58 kF_X5_112 kY_2 (Or.inl rfl) (hc.glt (by omega)) (hc.gkd (by omega)) ((hc.g4 (by omega)).trans (cI_t e65)) ?_
        refine E_istore dX5_lastKiller_61 (Nat.le_of_ble_eq_true rfl) (by decide) rfl ?_
        refine E_iload dX5_lastKiller_63 rfl ?_
        refine E_callS1 (fr' := 1) (k1 := 0) (n1 := 0) (k2 := 0) (n2 := 0) dX5_lastKiller_65 kO_X11_isConsonant kL_X5_77 rfl (by decide) (by decide) (by exact Nat.le_of_ble_eq_true rfl) (Or.inl rfl) rfl ?_
        refine sp_X11_isConsonantZ ?_
        refine gKv ?_
        refine E_if_ne_b (tgt := 78) dX5_lastKiller_68 (by decide) (fun c_68 => ?_) (fun c_68 => ?_)
        · refine E_iconst (v := nI 1) dX5_lastKiller_78 (by decide) ?_
          refine E_istore_n dX5_lastKiller_79 (Nat.le_of_ble_eq_true rfl) (by decide) rfl ?_
          refine E_iinc_d dX5_lastKiller_80 rfl rfl (by decide) rfl ?_
          refine E_goto (tgt := 17) dX5_lastKiller_83 (by decide) ?_
          first
            | exact fin nk _ _ (g1 (by omega))
            | exact fin nk _ _ (g2 (by omega))
            | contradiction
        · refine E_iload dX5_lastKiller_71 rfl ?_
          refine E_bipush (v := nI 64) dX5_lastKiller_73 (by decide) ?_
          refine E_icmp_ne (tgt := 80) dX5_lastKiller_75 (by decide) (fun _ => ?_) (fun c0 => absurd (by decide) c0)
          refine E_iinc_d dX5_lastKiller_80 rfl rfl (by decide) rfl ?_
          refine E_goto (tgt := 17) dX5_lastKiller_83 (by decide) ?_
          first
            | exact fin nk _ _ (g1 (by omega))
            | exact fin nk _ _ (g2 (by omega))
            | contradiction
      · refine E_iload_n dX5_lastKiller_23 rfl ?_
        refine E_if_eq (tgt := 48) dX5_lastKiller_24 (by decide) (fun _ => ?_) (fun c0 => absurd (by decide) c0)
        refine E_aload_n dX5_lastKiller_48 rfl ?_
        refine E_getRL dX5_lastKiller_49 kF_X5_9 kY_5 (Or.inl ⟨_, rfl⟩) (l_72 hL) (k_72 hL) (r_72_0 hL) ?_
        refine E_getRL dX5_lastKiller_52 kF_X5_102 kY_8 (Or.inr ⟨_, rfl⟩) (l_6 hL) (k_6 hL) (r_6_0 hL) ?_
        refine E_iload dX5_lastKiller_55 rfl ?_
        refine E_aaldL (v := _) dX5_lastKiller_57 (l_7 hL) (k_7 hL) (by decide) (by decide) rfl (by omega) (by decide) (hc.cell (by omega)) ?_
        refine E_getIL (v := nI (yO (gat L k))) dX5_lastKiller_58 kF_X5_112 kY_2 (Or.inl rfl) (hc.glt (by omega)) (hc.gkd (by omega)) ((hc.g4 (by omega)).trans (oI_n e65)) ?_
        refine E_istore dX5_lastKiller_61 (Nat.le_of_ble_eq_true rfl) (by decide) rfl ?_
        refine E_iload dX5_lastKiller_63 rfl ?_
        refine E_callS1 (fr' := 1) (k1 := 0) (n1 := 0) (k2 := 0) (n2 := 0) dX5_lastKiller_65 kO_X11_isConsonant kL_X5_77 rfl (by decide) (by decide) (by exact Nat.le_of_ble_eq_true rfl) (Or.inl rfl) rfl ?_
        refine sp_X11_isConsonant (by first | omega | exact Nat.lt_trans (hB.wf.tx _).1 (by decide) | exact Nat.lt_trans (hc.n256 _) (by decide)) ?_
        refine gKv ?_
        refine E_if_ne_b (tgt := 78) dX5_lastKiller_68 (by decide) (fun c_68 => ?_) (fun c_68 => ?_)
        · refine E_iconst (v := nI 1) dX5_lastKiller_78 (by decide) ?_
          refine E_istore_n dX5_lastKiller_79 (Nat.le_of_ble_eq_true rfl) (by decide) rfl ?_
          refine E_iinc_d dX5_lastKiller_80 rfl rfl (by decide) rfl ?_
          refine E_goto (tgt := 17) dX5_lastKiller_83 (by decide) ?_
          first
            | exact fin nk _ _ (g1 (by omega))
            | exact fin nk _ _ (g2 (by omega))
        · refine E_iload dX5_lastKiller_71 rfl ?_
          refine E_bipush (v := nI 64) dX5_lastKiller_73 (by decide) ?_
          refine E_icmp_ne_n (tgt := 80) dX5_lastKiller_75 (by decide) (by omega) (by omega) (fun c_75 => ?_) (fun c_75 => ?_)
          · refine E_iinc_d dX5_lastKiller_80 rfl rfl (by decide) rfl ?_
            refine E_goto (tgt := 17) dX5_lastKiller_83 (by decide) ?_
            first
              | exact fin nk _ _ (g1 (by omega))
              | exact fin nk _ _ (g2 (by omega))
          · refine E_iconst (v := nI 1) dX5_lastKiller_78 (by decide) ?_
            refine E_istore_n dX5_lastKiller_79 (Nat.le_of_ble_eq_true rfl) (by decide) rfl ?_
            refine E_iinc_d dX5_lastKiller_80 rfl rfl (by decide) rfl ?_
            refine E_goto (tgt := 17) dX5_lastKiller_83 (by decide) ?_
            first
              | exact fin nk _ _ (g1 (by omega))
              | exact fin nk _ _ (g2 (by omega))
set_option maxRecDepth 100000 in
set_option maxHeartbeats 4000000 in
theorem sp_X5_lastKiller {g : gG} {M : gM} {Q : Option Value ⊕ String → gM → Prop} {c : Cf} {P : Nat → Nat} {M0 : gM} {L : List Gl} {π : Nat → Nat} (hc : cX c P M0 L π M) {i : Nat} (hi : i < L.length) (K : Q (.inl (some (.int (cI (0 < kil L i) (nI (kil L i - 1)) (-100))))) M) : E g 2 0 0 mX5_lastKiller 0 [.ref 73, .int (nI (led L i)), .int (nI (bcl L i)), .null, .null, .null] [] M Q := by
  have hB := hc.B
  have hL := hB.lay
  have hn := hc.len
  have hb := bcl_b hi
  have hl := led_b hi
  have hm : min (bcl L i) L.length = bcl L i := by omega
  refine E_iconst (v := nI 0) dX5_lastKiller_0 (by decide) ?_
  refine E_istore_n dX5_lastKiller_1 (Nat.le_of_ble_eq_true rfl) (by decide) rfl ?_
  refine E_iload_n dX5_lastKiller_2 rfl ?_
  refine E_aload_n dX5_lastKiller_3 rfl ?_
  refine E_getRL dX5_lastKiller_4 kF_X5_9 kY_5 (Or.inl ⟨_, rfl⟩) (l_72 hL) (k_72 hL) (r_72_0 hL) ?_
  refine E_getIL (v := nI (List.length _)) dX5_lastKiller_7 kF_X5_15 kY_8 (Or.inl rfl) (l_6 hL) (k_6 hL) hc.n ?_
  refine E_kmin_n (gW_at 827 (by decide +kernel) (by decide +kernel)) dX5_lastKiller_10 (by decide) (by exact Nat.le_of_ble_eq_true rfl) (by omega) (by omega) ?_
  rw [hm]
  refine E_iconst (v := nI 1) dX5_lastKiller_13 (by decide) ?_
  refine E_isub_d dX5_lastKiller_14 ?_
  refine E_istore dX5_lastKiller_15 (Nat.le_of_ble_eq_true rfl) (by decide) rfl ?_
  exact lp_X5_lastKiller hc hi K (bcl L i) hl.2 (Nat.le_refl _) 0 (cI_f (fun ⟨j, q1, q2, _⟩ => by omega)).symm (fun j q1 q2 => by omega) _
theorem rot_rot {L : List Gl} {i k e : Nat} (h1 : i ≤ k) (h2 : k + 1 ≤ e) (he : e ≤ L.length) : rotL (rotL L i k e) i (i + 1) e = rotL L i (k + 1) e := row_ext (by rw [rot_len, rot_len, rot_len]) (fun j hj => by
  rw [rot_len, rot_len] at hj
  have hb := rotS_lt (a := i) (b := i + 1) (e := e) (by omega) (by omega) he hj
  unfold rotL at *
  rw [gat_mkL (by rw [mkL_len]; exact hj), gat_mkL hb, gat_mkL hj]
  congr 1
  unfold rotS
  repeat' split
  all_goals omega)
theorem rot_id {L : List Gl} {i e : Nat} : rotL L i i e = L := row_ext (rot_len _ _ _ _) (fun j hj => by
  rw [rot_len] at hj
  unfold rotL
  rw [gat_mkL hj]
  congr 1
  unfold rotS
  repeat' split
  all_goals omega)
set_option maxRecDepth 100000 in
set_option maxHeartbeats 4000000 in
theorem lp3_X5_setBack {g : gG} {Q : Option Value ⊕ String → gM → Prop} {c : Cf} {P : Nat → Nat} {M0 : gM} {L : List Gl} {i s : Nat} (hi : i < L.length) (hs : s < 64) (K : ∀ M π v3 v4 v5 v6, cX c P M0 (mvL L i) π M → E g 3 0 0 mX5_setBack 4 [.ref 73, .int (nI (bcl L i)), .int (nI (s + 1)), v3, v4, v5, v6] [] M Q) (hk0 : 0 < kil L i) : ∀ k, k ≤ led L i → i ≤ k → ∀ M π, cX c P M0 (rotL L i k (kil L i)) π M → E g 3 0 0 mX5_setBack 114 [.ref 73, .int (nI i), .int (nI s), .int (nI (bcl L i)), .int (nI (led L i)), .int (nI (kil L i - 1)), .int (nI k)] [] M Q := by
  have hb := bcl_b hi
  have hl := led_b hi
  have hkb := kil_b hi
  refine lpUp (led L i) (fun k hk ih => ?_)
  intro hik M π hc
  have hB := hc.B
  have hL := hB.lay
  have hn := hc.len
  have hrl := rot_len L i k (kil L i)
  refine E_iload dX5_setBack_114 rfl ?_
  refine E_iload dX5_setBack_116 rfl ?_
  refine E_icmp_ge_n (tgt := 144) dX5_setBack_118 (by decide) (by omega) (by omega) (fun c_118 => ?_) (fun c_118 => ?_)
  · obtain rfl : k = led L i := by omega
    refine E_iload_n dX5_setBack_144 rfl ?_
    refine E_istore_n dX5_setBack_145 (Nat.le_of_ble_eq_true rfl) (by decide) rfl ?_
    refine E_iinc_n (d := 1) dX5_setBack_146 rfl rfl rfl (by decide) rfl ?_
    refine E_goto (tgt := 4) dX5_setBack_149 (by decide) ?_
    exact K _ _ _ _ _ _ (by unfold mvL; rw [cI_f (by omega)]; exact hc)
  · refine E_iload dX5_setBack_121 rfl ?_
    refine E_bipush (v := -100) dX5_setBack_123 (by decide) ?_
    refine E_icmp_eq (tgt := 144) dX5_setBack_125 (by decide) (fun c0 => absurd c0 (nI_ne100 (by omega))) (fun _ => ?_)
    refine E_aload_n dX5_setBack_128 rfl ?_
    refine E_getRL dX5_setBack_129 kF_X5_9 kY_5 (Or.inl ⟨_, rfl⟩) (l_72 hL) (k_72 hL) (r_72_0 hL) ?_
    refine E_iload_n dX5_setBack_132 rfl ?_
    refine E_iload dX5_setBack_133 rfl ?_
    refine E_callV2 (fr' := 2) (k1 := 0) (n1 := 0) (k2 := 0) (n2 := 0) dX5_setBack_135 kO_X8_move kL_X5_115 (l_6 hL) (k_6 hL) ⟨by decide, rfl⟩ rfl rfl (by decide) (by decide) (by exact Nat.le_of_ble_eq_true rfl) rfl ?_
    refine sp_X8_moveU hc (by omega) (by omega) (fun M π hc => ?_)
    have hL := hc.B.lay
    refine gKn ?_
    refine E_iinc_n (d := 1) dX5_setBack_138 rfl rfl rfl (by decide) rfl ?_
    refine E_goto (tgt := 114) dX5_setBack_141 (by decide) ?_
    refine ih (by omega) (by omega) _ π ?_
    have e : kil L i - 1 + 1 = kil L i := by omega
    rw [e, rot_rot hik (by omega) (by omega)] at hc
    exact hc
set_option maxRecDepth 100000 in
set_option maxHeartbeats 4000000 in
theorem lp2_X5_setBack {g : gG} {M : gM} {Q : Option Value ⊕ String → gM → Prop} {c : Cf} {P : Nat → Nat} {M0 : gM} {L : List Gl} {π : Nat → Nat} (hc : cX c P M0 L π M) {i s : Nat} (hi : i < L.length) (hs : s < 64) (K : ∀ M π v3 v4 v5 v6, cX c P M0 (mvL L i) π M → E g 3 0 0 mX5_setBack 4 [.ref 73, .int (nI (bcl L i)), .int (nI (s + 1)), v3, v4, v5, v6] [] M Q) : ∀ k, k ≤ bcl L i → i ≤ k → fnd (fun k => ¬ yO (gat L k) = 40) (bcl L i) k = led L i → ∀ v5 v6, E g 3 0 0 mX5_setBack 72 [.ref 73, .int (nI i), .int (nI s), .int (nI (bcl L i)), .int (nI k), v5, v6] [] M Q := by
  have hB := hc.B
  have hL := hB.lay
  have hn := hc.len
  have hb := bcl_b hi
  have hl := led_b hi
  have hkb := kil_b hi
  refine lpUp (bcl L i) (fun k hk ih => ?_)
  intro hik he v5 v6
  have ox := (hc.ok.at k).2.2.2
  have fin : led L i = k → ∀ v5 v6, E g 3 0 0 mX5_setBack 102 [.ref 73, .int (nI i), .int (nI s), .int (nI (bcl L i)), .int (nI k), v5, v6] [] M Q := fun e v5 v6 => by
    subst e
    refine E_aload_n dX5_setBack_102 rfl ?_
    refine E_iload dX5_setBack_103 rfl ?_
    refine E_iload_n dX5_setBack_105 rfl ?_
    refine E_callV2 (fr' := 2) (k1 := 0) (n1 := 0) (k2 := 0) (n2 := 0) dX5_setBack_106 kO_X5_lastKiller kL_X5_125 (l_72 hL) (k_72 hL) ⟨by decide, rfl⟩ rfl rfl (by decide) (by decide) (by exact Nat.le_of_ble_eq_true rfl) rfl ?_
    refine sp_X5_lastKiller hc hi ?_
    refine gKv ?_
    refine E_istore dX5_setBack_109 (Nat.le_of_ble_eq_true rfl) (by decide) rfl ?_
    refine E_iload_n dX5_setBack_111 rfl ?_
    refine E_istore dX5_setBack_112 (Nat.le_of_ble_eq_true rfl) (by decide) rfl ?_
    by_cases e : kil L i = 0
    · rw [cI_f (by omega)]
      refine E_iload dX5_setBack_114 rfl ?_
      refine E_iload dX5_setBack_116 rfl ?_
      refine E_icmp_ge_n (tgt := 144) dX5_setBack_118 (by decide) (by omega) (by omega) (fun c_118 => ?_) (fun c_118 => ?_)
      · refine E_iload_n dX5_setBack_144 rfl ?_
        refine E_istore_n dX5_setBack_145 (Nat.le_of_ble_eq_true rfl) (by decide) rfl ?_
        refine E_iinc_n (d := 1) dX5_setBack_146 rfl rfl rfl (by decide) rfl ?_
        refine E_goto (tgt := 4) dX5_setBack_149 (by decide) ?_
        exact K _ _ _ _ _ _ (by unfold mvL; rw [cI_t e]; exact hc)
      · refine E_iload dX5_setBack_121 rfl ?_
        refine E_bipush (v := -100) dX5_setBack_123 (by decide) ?_
        refine E_icmp_eq (tgt := 144) dX5_setBack_125 (by decide) (fun _ => ?_) (fun c0 => absurd (by decide) c0)
        refine E_iload_n dX5_setBack_144 rfl ?_
        refine E_istore_n dX5_setBack_145 (Nat.le_of_ble_eq_true rfl) (by decide) rfl ?_
        refine E_iinc_n (d := 1) dX5_setBack_146 rfl rfl rfl (by decide) rfl ?_
        refine E_goto (tgt := 4) dX5_setBack_149 (by decide) ?_
        exact K _ _ _ _ _ _ (by unfold mvL; rw [cI_t e]; exact hc)
    · rw [cI_t (by omega)]
      exact lp3_X5_setBack hi hs K (by omega) i hl.1 (Nat.le_refl _) _ _ (by rw [rot_id]; exact hc)
  by_cases e65 : yO (gat L k) = 65
  · refine E_iload dX5_setBack_72 rfl ?_
    refine E_iload_n dX5_setBack_74 rfl ?_
    refine E_icmp_ge_n (tgt := 102) dX5_setBack_75 (by decide) (by omega) (by omega) (fun c_75 => ?_) (fun c_75 => ?_)
    · refine fin ?_ _ _
      rw [← he]; first | exact fnd_end (by omega) | exact fnd_hit (by omega) (by omega)
    · refine E_aload_n dX5_setBack_78 rfl ?_
      refine E_getRL dX5_setBack_79 kF_X5_9 kY_5 (Or.inl ⟨_, rfl⟩) (l_72 hL) (k_72 hL) (r_72_0 hL) ?_
      refine E_getRL dX5_setBack_82 kF_X5_102 kY_8 (Or.inr ⟨_, rfl⟩) (l_6 hL) (k_6 hL) (r_6_0 hL) ?_
      refine E_iload dX5_setBack_85 rfl ?_
      refine E_aaldL (v := _) dX5_setBack_87 (l_7 hL) (k_7 hL) (by decide) (by decide) rfl (by omega) (by decide) (hc.cell (by omega)) ?_
      refine E_getIL (v := -100) dX5_setBack_88 kF_X5_112 kY_2 (Or.inl rfl) (hc.glt (by omega)) (hc.gkd (by omega)) ((hc.g4 (by omega)).trans (cI_t e65)) ?_
      refine E_bipush (v := nI 40) dX5_setBack_91 (by decide) ?_
      refine E_icmp_ne (tgt := 102) dX5_setBack_93 (by decide) (fun _ => ?_) (fun c0 => absurd (by decide) c0)
      refine fin ?_ _ _
      rw [← he]; first | exact fnd_end (by omega) | exact fnd_hit (by omega) (by omega)
  · refine E_iload dX5_setBack_72 rfl ?_
    refine E_iload_n dX5_setBack_74 rfl ?_
    refine E_icmp_ge_n (tgt := 102) dX5_setBack_75 (by decide) (by omega) (by omega) (fun c_75 => ?_) (fun c_75 => ?_)
    · refine fin ?_ _ _
      rw [← he]; first | exact fnd_end (by omega) | exact fnd_hit (by omega) (by assumption)
    · refine E_aload_n dX5_setBack_78 rfl ?_
      refine E_getRL dX5_setBack_79 kF_X5_9 kY_5 (Or.inl ⟨_, rfl⟩) (l_72 hL) (k_72 hL) (r_72_0 hL) ?_
      refine E_getRL dX5_setBack_82 kF_X5_102 kY_8 (Or.inr ⟨_, rfl⟩) (l_6 hL) (k_6 hL) (r_6_0 hL) ?_
      refine E_iload dX5_setBack_85 rfl ?_
      refine E_aaldL (v := _) dX5_setBack_87 (l_7 hL) (k_7 hL) (by decide) (by decide) rfl (by omega) (by decide) (hc.cell (by omega)) ?_
      refine E_getIL (v := nI (yO (gat L k))) dX5_setBack_88 kF_X5_112 kY_2 (Or.inl rfl) (hc.glt (by omega)) (hc.gkd (by omega)) ((hc.g4 (by omega)).trans (oI_n e65)) ?_
      refine E_bipush (v := nI 40) dX5_setBack_91 (by decide) ?_
      refine E_icmp_ne_n (tgt := 102) dX5_setBack_93 (by decide) (by omega) (by omega) (fun c_93 => ?_) (fun c_93 => ?_)
      · refine fin ?_ _ _
        rw [← he]; first | exact fnd_end (by omega) | exact fnd_hit (by omega) (by assumption)
      · refine E_iinc_n (d := 1) dX5_setBack_96 rfl rfl rfl (by decide) rfl ?_
        refine E_goto (tgt := 72) dX5_setBack_99 (by decide) ?_
        exact ih (by omega) (by omega) (by rw [← he]; exact (fnd_skip (P := fun k => ¬ yO (gat L k) = 40) (i := k) (by omega) (not_not_intro (by assumption))).symm) _ _
set_option maxRecDepth 100000 in
set_option maxHeartbeats 4000000 in
theorem lp1_X5_setBack {g : gG} {M : gM} {Q : Option Value ⊕ String → gM → Prop} {c : Cf} {P : Nat → Nat} {M0 : gM} {L : List Gl} {π : Nat → Nat} (hc : cX c P M0 L π M) {i s : Nat} (hi : i < L.length) (hs : s < 64) (K : ∀ M π v3 v4 v5 v6, cX c P M0 (mvL L i) π M → E g 3 0 0 mX5_setBack 4 [.ref 73, .int (nI (bcl L i)), .int (nI (s + 1)), v3, v4, v5, v6] [] M Q) : ∀ k, k ≤ L.length → fnd (fun k => ¬ yC (gat L k) = yC (gat L i)) L.length k = bcl L i → ∀ v4 v5 v6, E g 3 0 0 mX5_setBack 25 [.ref 73, .int (nI i), .int (nI s), .int (nI k), v4, v5, v6] [] M Q := by
  have hB := hc.B
  have hL := hB.lay
  have hn := hc.len
  have hb := bcl_b hi
  have hl := led_b hi
  refine lpUp L.length (fun k hk ih => ?_)
  intro he v4 v5 v6
  have c1 := hc.c16 k
  have c2 := hc.c16 i
  refine E_iload_n dX5_setBack_25 rfl ?_
  refine E_aload_n dX5_setBack_26 rfl ?_
  refine E_getRL dX5_setBack_27 kF_X5_9 kY_5 (Or.inl ⟨_, rfl⟩) (l_72 hL) (k_72 hL) (r_72_0 hL) ?_
  refine E_getIL (v := nI (List.length _)) dX5_setBack_30 kF_X5_15 kY_8 (Or.inl rfl) (l_6 hL) (k_6 hL) hc.n ?_
  refine E_icmp_ge_n (tgt := 69) dX5_setBack_33 (by decide) (by omega) (by omega) (fun c_33 => ?_) (fun c_33 => ?_)
  · have e : bcl L i = k := by
      rw [← he]; first | exact fnd_end (by omega) | exact fnd_hit (by omega) (by assumption)
    rw [← e]
    refine E_iload_n dX5_setBack_69 rfl ?_
    refine E_istore dX5_setBack_70 (Nat.le_of_ble_eq_true rfl) (by decide) rfl ?_
    exact lp2_X5_setBack hc hi hs K i (by omega) (Nat.le_refl _) rfl _ _
  · refine E_aload_n dX5_setBack_36 rfl ?_
    refine E_getRL dX5_setBack_37 kF_X5_9 kY_5 (Or.inl ⟨_, rfl⟩) (l_72 hL) (k_72 hL) (r_72_0 hL) ?_
    refine E_getRL dX5_setBack_40 kF_X5_102 kY_8 (Or.inr ⟨_, rfl⟩) (l_6 hL) (k_6 hL) (r_6_0 hL) ?_
    refine E_iload_n dX5_setBack_43 rfl ?_
    refine E_aaldL (v := _) dX5_setBack_44 (l_7 hL) (k_7 hL) (by decide) (by decide) rfl (by omega) (by decide) (hc.cell (by omega)) ?_
    refine E_getIL (v := nI (yC (gat _ _))) dX5_setBack_45 kF_X5_122 kY_2 (Or.inl rfl) (hc.glt (by omega)) (hc.gkd (by omega)) (hc.g1 (by omega)) ?_
    refine E_aload_n dX5_setBack_48 rfl ?_
    refine E_getRL dX5_setBack_49 kF_X5_9 kY_5 (Or.inl ⟨_, rfl⟩) (l_72 hL) (k_72 hL) (r_72_0 hL) ?_
    refine E_getRL dX5_setBack_52 kF_X5_102 kY_8 (Or.inr ⟨_, rfl⟩) (l_6 hL) (k_6 hL) (r_6_0 hL) ?_
    refine E_iload_n dX5_setBack_55 rfl ?_
    refine E_aaldL (v := _) dX5_setBack_56 (l_7 hL) (k_7 hL) (by decide) (by decide) rfl (by omega) (by decide) (hc.cell (by omega)) ?_
    refine E_getIL (v := nI (yC (gat _ _))) dX5_setBack_57 kF_X5_122 kY_2 (Or.inl rfl) (hc.glt (by omega)) (hc.gkd (by omega)) (hc.g1 (by omega)) ?_
    refine E_icmp_ne_n (tgt := 69) dX5_setBack_60 (by decide) (by omega) (by omega) (fun c_60 => ?_) (fun c_60 => ?_)
    · have e : bcl L i = k := by
        rw [← he]; first | exact fnd_end (by omega) | exact fnd_hit (by omega) (by assumption)
      rw [← e]
      refine E_iload_n dX5_setBack_69 rfl ?_
      refine E_istore dX5_setBack_70 (Nat.le_of_ble_eq_true rfl) (by decide) rfl ?_
      exact lp2_X5_setBack hc hi hs K i (by omega) (Nat.le_refl _) rfl _ _
    · refine E_iinc_n (d := 1) dX5_setBack_63 rfl rfl rfl (by decide) rfl ?_
      refine E_goto (tgt := 25) dX5_setBack_66 (by decide) ?_
      exact ih (by omega) (by rw [← he]; exact (fnd_skip (P := fun k => ¬ yC (gat L k) = yC (gat L i)) (i := k) (by omega) (not_not_intro (by assumption))).symm) _ _ _
set_option maxRecDepth 100000 in
set_option maxHeartbeats 4000000 in
theorem lp_X5_setBack {g : gG} {Q : Option Value ⊕ String → gM → Prop} {c : Cf} {P : Nat → Nat} {M0 : gM} : ∀ t s i (L : List Gl) M π, cX c P M0 L π M → s + t = 64 → i ≤ L.length → (K : ∀ M π, cX c P M0 (mvs t i L) π M → Q (.inl none) M) → ∀ v3 v4 v5 v6, E g 3 0 0 mX5_setBack 4 [.ref 73, .int (nI i), .int (nI s), v3, v4, v5, v6] [] M Q := by
  intro t
  induction t with
  | zero =>
    intro s i L M π hc ht hi K v3 v4 v5 v6
    have hB := hc.B
    have hL := hB.lay
    have hn := hc.len
    refine E_iload_n dX5_setBack_4 rfl ?_
    refine E_aload_n dX5_setBack_5 rfl ?_
    refine E_getRL dX5_setBack_6 kF_X5_9 kY_5 (Or.inl ⟨_, rfl⟩) (l_72 hL) (k_72 hL) (r_72_0 hL) ?_
    refine E_getIL (v := nI (List.length _)) dX5_setBack_9 kF_X5_15 kY_8 (Or.inl rfl) (l_6 hL) (k_6 hL) hc.n ?_
    refine E_icmp_ge_n (tgt := 152) dX5_setBack_12 (by decide) (by omega) (by omega) (fun c_12 => ?_) (fun c_12 => ?_)
    · refine E_vret dX5_setBack_152 rfl ?_
      exact K _ _ hc
    · refine E_iload_n dX5_setBack_15 rfl ?_
      refine E_bipush (v := nI 64) dX5_setBack_16 (by decide) ?_
      refine E_icmp_ge_n (tgt := 152) dX5_setBack_18 (by decide) (by omega) (by omega) (fun c_18 => ?_) (fun c_18 => ?_)
      · refine E_vret dX5_setBack_152 rfl ?_
        exact K _ _ hc
      · exfalso; omega
  | succ t ih =>
    intro s i L M π hc ht hi K v3 v4 v5 v6
    have K : ∀ M π, cX c P M0 (cI (i < L.length) (mvs t (bcl L i) (mvL L i)) L) π M → Q (.inl none) M := K
    have hB := hc.B
    have hL := hB.lay
    have hn := hc.len
    refine E_iload_n dX5_setBack_4 rfl ?_
    refine E_aload_n dX5_setBack_5 rfl ?_
    refine E_getRL dX5_setBack_6 kF_X5_9 kY_5 (Or.inl ⟨_, rfl⟩) (l_72 hL) (k_72 hL) (r_72_0 hL) ?_
    refine E_getIL (v := nI (List.length _)) dX5_setBack_9 kF_X5_15 kY_8 (Or.inl rfl) (l_6 hL) (k_6 hL) hc.n ?_
    refine E_icmp_ge_n (tgt := 152) dX5_setBack_12 (by decide) (by omega) (by omega) (fun c_12 => ?_) (fun c_12 => ?_)
    · refine E_vret dX5_setBack_152 rfl ?_
      first
        | (exfalso; omega)
        | (rw [cI_f (by omega)] at K
           exact K _ _ hc)
    · refine E_iload_n dX5_setBack_15 rfl ?_
      refine E_bipush (v := nI 64) dX5_setBack_16 (by decide) ?_
      refine E_icmp_ge_n (tgt := 152) dX5_setBack_18 (by decide) (by omega) (by omega) (fun c_18 => ?_) (fun c_18 => ?_)
      · refine E_vret dX5_setBack_152 rfl ?_
        first
          | (exfalso; omega)
          | (rw [cI_f (by omega)] at K
             exact K _ _ hc)
      · rw [cI_t (by omega)] at K
        have hb := bcl_b (show i < L.length by omega)
        refine E_iload_n dX5_setBack_21 rfl ?_
        refine E_iconst (v := nI 1) dX5_setBack_22 (by decide) ?_
        refine E_iadd_n dX5_setBack_23 ?_
        refine E_istore_n dX5_setBack_24 (Nat.le_of_ble_eq_true rfl) (by decide) rfl ?_
        exact lp1_X5_setBack hc (by omega) (by omega) (fun M π v3 v4 v5 v6 hc => ih _ _ _ _ _ hc (by omega) (by rw [mvL_len]; omega) K _ _ _ _) (i + 1) (by omega) (fnd_skip (P := fun k => ¬ yC (gat L k) = yC (gat L i)) (i := i) (by omega) (fun q => q rfl)).symm _ _ _
set_option maxRecDepth 100000 in
set_option maxHeartbeats 4000000 in
theorem sp_X5_setBack {g : gG} {M : gM} {Q : Option Value ⊕ String → gM → Prop} {c : Cf} {P : Nat → Nat} {M0 : gM} {L : List Gl} {π : Nat → Nat} (hc : cX c P M0 L π M) (K : ∀ M π, cX c P M0 (mvs 64 0 L) π M → Q (.inl none) M) : E g 3 0 0 mX5_setBack 0 [.ref 73, .null, .null, .null, .null, .null, .null] [] M Q := by
  have hB := hc.B
  have hL := hB.lay
  have hn := hc.len
  refine E_iconst (v := nI 0) dX5_setBack_0 (by decide) ?_
  refine E_istore_n dX5_setBack_1 (Nat.le_of_ble_eq_true rfl) (by decide) rfl ?_
  refine E_iconst (v := nI 0) dX5_setBack_2 (by decide) ?_
  refine E_istore_n dX5_setBack_3 (Nat.le_of_ble_eq_true rfl) (by decide) rfl ?_
  exact lp_X5_setBack 64 0 0 L M π hc rfl (Nat.zero_le _) K _ _ _ _
set_option maxRecDepth 100000 in
set_option maxHeartbeats 4000000 in
theorem lp_X8_dropJoiners {g : gG} {Q : Option Value ⊕ String → gM → Prop} {c : Cf} {P : Nat → Nat} {M0 : gM} : ∀ k, 0 ≤ k → ∀ (L : List Gl) M π, cX c P M0 L π M → k ≤ L.length → (K : ∀ M π, cX c P M0 (tko k L) π M → Q (.inl none) M) → E g 2 0 0 mX8_dropJoiners 7 [.ref 7, .int (dI k)] [] M Q := by
  refine lpDn 0 (fun k _ ih => ?_)
  intro L M π hc hk K
  have hB := hc.B
  have hL := hB.lay
  have hn := hc.len
  refine E_iload_n dX8_dropJoiners_7 rfl ?_
  refine E_if_lt_d (tgt := 37) dX8_dropJoiners_8 (by decide) (by omega) (fun c_8 => ?_) (fun c_8 => ?_)
  · refine E_vret dX8_dropJoiners_37 rfl ?_
    subst c_8; exact K _ _ hc
  · obtain ⟨k, rfl⟩ : ∃ z, k = z + 1 := ⟨k - 1, by omega⟩
    simp only [Nat.add_sub_cancel] at ih
    rw [dI_succ]
    have gx := (hc.ok.at k).1
    have K : ∀ M π, cX c P M0 (tko k (cI (yN (gat L k) = 2 ∨ yN (gat L k) = 3) (closeL L k) L)) π M → Q (.inl none) M := K
    refine E_aload_n dX8_dropJoiners_11 rfl ?_
    refine E_getRL dX8_dropJoiners_12 kF_X8_11 kY_8 (Or.inr ⟨_, rfl⟩) (l_6 hL) (k_6 hL) (r_6_0 hL) ?_
    refine E_iload_n dX8_dropJoiners_15 rfl ?_
    refine E_aaldL (v := _) dX8_dropJoiners_16 (l_7 hL) (k_7 hL) (by decide) (by decide) rfl (by omega) (by decide) (hc.cell (by omega)) ?_
    refine E_getIL (v := nI (yN (gat _ _))) dX8_dropJoiners_17 kF_X8_36 kY_2 (Or.inl rfl) (hc.glt (by omega)) (hc.gkd (by omega)) (hc.g0 (by omega)) ?_
    refine E_callS1 (fr' := 1) (k1 := 0) (n1 := 0) (k2 := 0) (n2 := 0) dX8_dropJoiners_20 kO_X11_isJoinerOrParter kL_X8_48 rfl (by decide) (by decide) (by exact Nat.le_of_ble_eq_true rfl) (Or.inl rfl) rfl ?_
    refine sp_X11_isJoinerOrParter (by first | omega | exact Nat.lt_trans (hB.wf.tx _).1 (by decide) | exact Nat.lt_trans (hc.n256 _) (by decide)) ?_
    refine gKv ?_
    refine E_if_eq_b (tgt := 31) dX8_dropJoiners_23 (by decide) (fun c_23 => ?_) (fun c_23 => ?_)
    · refine E_iinc_d dX8_dropJoiners_31 rfl rfl (by decide) rfl ?_
      refine E_goto (tgt := 7) dX8_dropJoiners_34 (by decide) ?_
      first
        | (rw [cI_t (by assumption)] at K; exact ih (by omega) _ _ _ hc (by rw [cl_len]; omega) K)
        | (rw [cI_f (by assumption)] at K; exact ih (by omega) _ _ _ hc (by omega) K)
    · refine E_aload_n dX8_dropJoiners_26 rfl ?_
      refine E_iload_n dX8_dropJoiners_27 rfl ?_
      refine E_callV1 (fr' := 1) (k1 := 0) (n1 := 0) (k2 := 0) (n2 := 0) dX8_dropJoiners_28 kO_X8_takeOut kL_X8_51 (l_6 hL) (k_6 hL) ⟨by decide, rfl⟩ rfl (by decide) (by decide) (by exact Nat.le_of_ble_eq_true rfl) rfl ?_
      refine sp_X8_takeOut hc (by omega) (fun M π hc => ?_)
      have hL := hc.B.lay
      refine gKn ?_
      refine E_iinc_d dX8_dropJoiners_31 rfl rfl (by decide) rfl ?_
      refine E_goto (tgt := 7) dX8_dropJoiners_34 (by decide) ?_
      first
        | (rw [cI_t (by assumption)] at K; exact ih (by omega) _ _ _ hc (by rw [cl_len]; omega) K)
        | (rw [cI_f (by assumption)] at K; exact ih (by omega) _ _ _ hc (by omega) K)
set_option maxRecDepth 100000 in
set_option maxHeartbeats 4000000 in
theorem sp_X8_dropJoiners {g : gG} {M : gM} {Q : Option Value ⊕ String → gM → Prop} {c : Cf} {P : Nat → Nat} {M0 : gM} {L : List Gl} {π : Nat → Nat} (hc : cX c P M0 L π M) (K : ∀ M π, cX c P M0 (tko L.length L) π M → Q (.inl none) M) : E g 2 0 0 mX8_dropJoiners 0 [.ref 7, .null] [] M Q := by
  have hB := hc.B
  have hL := hB.lay
  have hn := hc.len
  refine E_aload_n dX8_dropJoiners_0 rfl ?_
  refine E_getIL (v := nI (List.length _)) dX8_dropJoiners_1 kF_X8_17 kY_8 (Or.inl rfl) (l_6 hL) (k_6 hL) hc.n ?_
  refine E_iconst (v := nI 1) dX8_dropJoiners_4 (by decide) ?_
  refine E_isub_d dX8_dropJoiners_5 ?_
  refine E_istore_n dX8_dropJoiners_6 (Nat.le_of_ble_eq_true rfl) (by decide) rfl ?_
  exact lp_X8_dropJoiners L.length (Nat.zero_le _) L M π hc (Nat.le_refl _) K
