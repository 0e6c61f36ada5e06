/-! the class: what a row begins as -/
set_option maxRecDepth 100000 in
set_option maxHeartbeats 4000000 in
theorem lp_X5_vowelsEnd {g : gG} {M : gM} {Q : Option Value ⊕ String → gM → Prop} {c : Cf} {P : Nat → Nat} (hB : kB c P M) {b k0 : Nat} (hb : b ≤ 16) (K : Q (.inl (some (.int (nI (bv c b k0))))) M) : ∀ k, k ≤ b → fnd (fun j => ¬ cVo (cN c 141 j)) b k = bv c b k0 → E g 2 0 0 mX5_vowelsEnd 2 [.ref 3, .int (nI k0), .int (nI b), .int (nI k)] [] M Q := by
  have hL := hB.lay
  refine lpUp b (fun k hk ih => ?_)
  intro he
  have tx := (hB.wf.tx k).1
  refine E_iload_n dX5_vowelsEnd_2 rfl ?_
  refine E_iload_n dX5_vowelsEnd_3 rfl ?_
  refine E_icmp_ge_n (tgt := 25) dX5_vowelsEnd_4 (by decide) (by omega) (by omega) (fun c_4 => ?_) (fun c_4 => ?_)
  · refine E_iload_n dX5_vowelsEnd_25 rfl ?_
    refine E_iret dX5_vowelsEnd_26 (Or.inl rfl) ?_
    first
      | (rw [fnd_end (by omega)] at he; rw [he]; exact K)
      | (rw [fnd_hit (by omega) (by assumption)] at he; rw [he]; exact K)
  · refine E_aload_n dX5_vowelsEnd_7 rfl ?_
    refine E_getRL dX5_vowelsEnd_8 kF_X5_52 kY_10 (Or.inr ⟨_, rfl⟩) (l_2 hL) (k_2 hL) (r_2_0 hL) ?_
    refine E_iload_n dX5_vowelsEnd_11 rfl ?_
    refine E_ialdL (v := nI (cN _ 141 _)) dX5_vowelsEnd_12 (l_3 hL) (k_3 hL) rfl (by omega) (by decide) (hB.sg (by omega)) ?_
    refine E_callS1 (fr' := 1) (k1 := 0) (n1 := 0) (k2 := 0) (n2 := 0) dX5_vowelsEnd_13 kO_X5_isVowelOrMark kL_X5_92 rfl (by decide) (by decide) (by exact Nat.le_of_ble_eq_true rfl) (Or.inl rfl) rfl ?_
    refine sp_X5_isVowelOrMark (by first | omega | exact Nat.lt_trans (hB.wf.tx _).1 (by decide) | exact Nat.lt_trans (hc.n256 _) (by decide)) ?_
    refine gKv ?_
    refine E_if_eq_b (tgt := 25) dX5_vowelsEnd_16 (by decide) (fun c_16 => ?_) (fun c_16 => ?_)
    · refine E_iload_n dX5_vowelsEnd_25 rfl ?_
      refine E_iret dX5_vowelsEnd_26 (Or.inl rfl) ?_
      first
        | (rw [fnd_end (by omega)] at he; rw [he]; exact K)
        | (rw [fnd_hit (by omega) (by assumption)] at he; rw [he]; exact K)
    · refine E_iinc_n (d := 1) dX5_vowelsEnd_19 rfl rfl rfl (by decide) rfl ?_
      refine E_goto (tgt := 2) dX5_vowelsEnd_22 (by decide) ?_
      exact ih (by omega) (by rw [← he]; exact (fnd_skip (by omega) (not_not_intro (by assumption))).symm)
set_option maxRecDepth 100000 in
set_option maxHeartbeats 4000000 in
theorem sp_X5_vowelsEnd {g : gG} {M : gM} {Q : Option Value ⊕ String → gM → Prop} {c : Cf} {P : Nat → Nat} (hB : kB c P M) {b k : Nat} (hb : b ≤ 16) (hk : k ≤ b) (K : Q (.inl (some (.int (nI (bv c b k))))) M) : E g 2 0 0 mX5_vowelsEnd 0 [.ref 3, .int (nI k), .int (nI b), .null] [] M Q := by
  have hL := hB.lay
  refine E_iload_n dX5_vowelsEnd_0 rfl ?_
  refine E_istore_n dX5_vowelsEnd_1 (Nat.le_of_ble_eq_true rfl) (by decide) rfl ?_
  exact lp_X5_vowelsEnd hB hb K k hk rfl
set_option maxRecDepth 100000 in
set_option maxHeartbeats 4000000 in
theorem lp_X5_stackEnd {g : gG} {M : gM} {Q : Option Value ⊕ String → gM → Prop} {c : Cf} {P : Nat → Nat} (hB : kB c P M) {b k0 : Nat} (hb : b ≤ 16) (K : Q (.inl (some (.int (nI (bcE c b k0))))) M) : ∀ t k, b - k ≤ t → k ≤ b → bcE c b k = bcE c b k0 → ∀ s v5, s ≤ k → E g 3 0 0 mX5_stackEnd 5 [.ref 3, .int (nI k0), .int (nI b), .int (nI k), .int (nI s), v5] [] M Q := by
  have hL := hB.lay
  intro t
  induction t with
  | zero =>
    intro k ht hk he s v5 hs
    have tx := (hB.wf.tx k).1
    refine E_iload_n dX5_stackEnd_5 rfl ?_
    refine E_iload_n dX5_stackEnd_6 rfl ?_
    refine E_icmp_ge_n (tgt := 93) dX5_stackEnd_7 (by decide) (by omega) (by omega) (fun c_7 => ?_) (fun c_7 => ?_)
    · refine E_aload_n dX5_stackEnd_93 rfl ?_
      refine E_iload_n dX5_stackEnd_94 rfl ?_
      refine E_iload_n dX5_stackEnd_95 rfl ?_
      refine E_callS3 (fr' := 2) (k1 := 0) (n1 := 0) (k2 := 0) (n2 := 0) dX5_stackEnd_96 kO_X5_vowelsEnd kL_X5_83 rfl rfl rfl (by decide) (by decide) (by exact Nat.le_of_ble_eq_true rfl) (Or.inl rfl) rfl ?_
      refine sp_X5_vowelsEnd hB (by omega) (by omega) ?_
      refine gKv ?_
      refine E_iret dX5_stackEnd_99 (Or.inl rfl) ?_
      first
        | (rw [bcE_0 (c := c) (b := b) (k := k) (by omega)] at he; rw [← he] at K; exact K)
        | (rw [bcE_1 (c := c) (b := b) (k := k) ⟨by omega, by omega⟩ (by omega)] at he; rw [← he] at K; exact K)
    · refine E_aload_n dX5_stackEnd_10 rfl ?_
      refine E_getRL dX5_stackEnd_11 kF_X5_52 kY_10 (Or.inr ⟨_, rfl⟩) (l_2 hL) (k_2 hL) (r_2_0 hL) ?_
      refine E_iload_n dX5_stackEnd_14 rfl ?_
      refine E_ialdL (v := nI (cN _ 141 _)) dX5_stackEnd_15 (l_3 hL) (k_3 hL) rfl (by omega) (by decide) (hB.sg (by omega)) ?_
      refine E_bipush (v := nI 39) dX5_stackEnd_16 (by decide) ?_
      refine E_icmp_ne_n (tgt := 93) dX5_stackEnd_18 (by decide) (by omega) (by omega) (fun c_18 => ?_) (fun c_18 => ?_)
      · refine E_aload_n dX5_stackEnd_93 rfl ?_
        refine E_iload_n dX5_stackEnd_94 rfl ?_
        refine E_iload_n dX5_stackEnd_95 rfl ?_
        refine E_callS3 (fr' := 2) (k1 := 0) (n1 := 0) (k2 := 0) (n2 := 0) dX5_stackEnd_96 kO_X5_vowelsEnd kL_X5_83 rfl rfl rfl (by decide) (by decide) (by exact Nat.le_of_ble_eq_true rfl) (Or.inl rfl) rfl ?_
        refine sp_X5_vowelsEnd hB (by omega) (by omega) ?_
        refine gKv ?_
        refine E_iret dX5_stackEnd_99 (Or.inl rfl) ?_
        first
          | (rw [bcE_0 (c := c) (b := b) (k := k) (by omega)] at he; rw [← he] at K; exact K)
          | (rw [bcE_1 (c := c) (b := b) (k := k) ⟨by omega, by omega⟩ (by omega)] at he; rw [← he] at K; exact K)
      · refine E_iload dX5_stackEnd_21 rfl ?_
        refine E_bipush (v := nI 16) dX5_stackEnd_23 (by decide) ?_
        refine E_icmp_ge_n (tgt := 93) dX5_stackEnd_25 (by decide) (by omega) (by omega) (fun c_25 => ?_) (fun c_25 => ?_)
        · refine E_aload_n dX5_stackEnd_93 rfl ?_
          refine E_iload_n dX5_stackEnd_94 rfl ?_
          refine E_iload_n dX5_stackEnd_95 rfl ?_
          refine E_callS3 (fr' := 2) (k1 := 0) (n1 := 0) (k2 := 0) (n2 := 0) dX5_stackEnd_96 kO_X5_vowelsEnd kL_X5_83 rfl rfl rfl (by decide) (by decide) (by exact Nat.le_of_ble_eq_true rfl) (Or.inl rfl) rfl ?_
          refine sp_X5_vowelsEnd hB (by omega) (by omega) ?_
          refine gKv ?_
          refine E_iret dX5_stackEnd_99 (Or.inl rfl) ?_
          first
            | (rw [bcE_0 (c := c) (b := b) (k := k) (by omega)] at he; rw [← he] at K; exact K)
            | (rw [bcE_1 (c := c) (b := b) (k := k) ⟨by omega, by omega⟩ (by omega)] at he; rw [← he] at K; exact K)
        · exfalso; omega
  | succ t ih =>
    intro k ht hk he s v5 hs
    have tx := (hB.wf.tx k).1
    have tx1 := (hB.wf.tx (k + 1)).1
    have go : k < b → cN c 141 k = 39 → ∀ x, x = bk c b k → E g 3 0 0 mX5_stackEnd 55 [.ref 3, .int (nI k0), .int (nI b), .int (nI k), .int (nI s), .int (nI x)] [] M Q := by
      intro hkb hk39 x hx
      have hbk := bk_b (c := c) hkb
      rw [← hx] at hbk
      have txx := (hB.wf.tx x).1
      refine E_iload dX5_stackEnd_55 rfl ?_
      refine E_iload_n dX5_stackEnd_57 rfl ?_
      refine E_icmp_ge_n (tgt := 74) dX5_stackEnd_58 (by decide) (by omega) (by omega) (fun c_58 => ?_) (fun c_58 => ?_)
      · refine E_aload_n dX5_stackEnd_74 rfl ?_
        refine E_iload dX5_stackEnd_75 rfl ?_
        refine E_iload_n dX5_stackEnd_77 rfl ?_
        refine E_callS3 (fr' := 2) (k1 := 0) (n1 := 0) (k2 := 0) (n2 := 0) dX5_stackEnd_78 kO_X5_vowelsEnd kL_X5_83 rfl rfl rfl (by decide) (by decide) (by exact Nat.le_of_ble_eq_true rfl) (Or.inl rfl) rfl ?_
        refine sp_X5_vowelsEnd hB (by omega) (by omega) ?_
        refine gKv ?_
        refine E_iret dX5_stackEnd_81 (Or.inl rfl) ?_
        rw [bcE_1 (c := c) (b := b) (k := k) ⟨hkb, hk39⟩ (fun z => by rw [← hx] at z; have := z.1; have := z.2; first | omega | contradiction)] at he
        rw [← he, ← hx] at K; exact K
      · refine E_aload_n dX5_stackEnd_61 rfl ?_
        refine E_getRL dX5_stackEnd_62 kF_X5_52 kY_10 (Or.inr ⟨_, rfl⟩) (l_2 hL) (k_2 hL) (r_2_0 hL) ?_
        refine E_iload dX5_stackEnd_65 rfl ?_
        refine E_ialdL (v := nI (cN _ 141 _)) dX5_stackEnd_67 (l_3 hL) (k_3 hL) rfl (by omega) (by decide) (hB.sg (by omega)) ?_
        refine E_callS1 (fr' := 1) (k1 := 0) (n1 := 0) (k2 := 0) (n2 := 0) dX5_stackEnd_68 kO_X11_isConsonant kL_X5_77 rfl (by decide) (by decide) (by exact Nat.le_of_ble_eq_true rfl) (Or.inl rfl) rfl ?_
        refine sp_X11_isConsonant (by first | omega | exact Nat.lt_trans (hB.wf.tx _).1 (by decide) | exact Nat.lt_trans (hc.n256 _) (by decide)) ?_
        refine gKv ?_
        refine E_if_ne_b (tgt := 82) dX5_stackEnd_71 (by decide) (fun c_71 => ?_) (fun c_71 => ?_)
        · refine E_iload dX5_stackEnd_82 rfl ?_
          refine E_iconst (v := nI 1) dX5_stackEnd_84 (by decide) ?_
          refine E_iadd_n dX5_stackEnd_85 ?_
          refine E_istore_n dX5_stackEnd_86 (Nat.le_of_ble_eq_true rfl) (by decide) rfl ?_
          refine E_iinc_n (d := 1) dX5_stackEnd_87 rfl rfl rfl (by decide) rfl ?_
          refine E_goto (tgt := 5) dX5_stackEnd_90 (by decide) ?_
          refine ih _ (by omega) (by omega) ?_ _ _ (by omega)
          rw [← he, hx]
          exact (bcE_2 ⟨hkb, hk39⟩ ⟨by omega, by rw [← hx]; assumption⟩).symm
        · refine E_aload_n dX5_stackEnd_74 rfl ?_
          refine E_iload dX5_stackEnd_75 rfl ?_
          refine E_iload_n dX5_stackEnd_77 rfl ?_
          refine E_callS3 (fr' := 2) (k1 := 0) (n1 := 0) (k2 := 0) (n2 := 0) dX5_stackEnd_78 kO_X5_vowelsEnd kL_X5_83 rfl rfl rfl (by decide) (by decide) (by exact Nat.le_of_ble_eq_true rfl) (Or.inl rfl) rfl ?_
          refine sp_X5_vowelsEnd hB (by omega) (by omega) ?_
          refine gKv ?_
          refine E_iret dX5_stackEnd_81 (Or.inl rfl) ?_
          rw [bcE_1 (c := c) (b := b) (k := k) ⟨hkb, hk39⟩ (fun z => by rw [← hx] at z; have := z.1; have := z.2; first | omega | contradiction)] at he
          rw [← he, ← hx] at K; exact K
    refine E_iload_n dX5_stackEnd_5 rfl ?_
    refine E_iload_n dX5_stackEnd_6 rfl ?_
    refine E_icmp_ge_n (tgt := 93) dX5_stackEnd_7 (by decide) (by omega) (by omega) (fun c_7 => ?_) (fun c_7 => ?_)
    · refine E_aload_n dX5_stackEnd_93 rfl ?_
      refine E_iload_n dX5_stackEnd_94 rfl ?_
      refine E_iload_n dX5_stackEnd_95 rfl ?_
      refine E_callS3 (fr' := 2) (k1 := 0) (n1 := 0) (k2 := 0) (n2 := 0) dX5_stackEnd_96 kO_X5_vowelsEnd kL_X5_83 rfl rfl rfl (by decide) (by decide) (by exact Nat.le_of_ble_eq_true rfl) (Or.inl rfl) rfl ?_
      refine sp_X5_vowelsEnd hB (by omega) (by omega) ?_
      refine gKv ?_
      refine E_iret dX5_stackEnd_99 (Or.inl rfl) ?_
      first
        | (rw [bcE_0 (c := c) (b := b) (k := k) (by omega)] at he; rw [← he] at K; exact K)
        | (rw [bcE_1 (c := c) (b := b) (k := k) ⟨by omega, by omega⟩ (by omega)] at he; rw [← he] at K; exact K)
    · refine E_aload_n dX5_stackEnd_10 rfl ?_
      refine E_getRL dX5_stackEnd_11 kF_X5_52 kY_10 (Or.inr ⟨_, rfl⟩) (l_2 hL) (k_2 hL) (r_2_0 hL) ?_
      refine E_iload_n dX5_stackEnd_14 rfl ?_
      refine E_ialdL (v := nI (cN _ 141 _)) dX5_stackEnd_15 (l_3 hL) (k_3 hL) rfl (by omega) (by decide) (hB.sg (by omega)) ?_
      refine E_bipush (v := nI 39) dX5_stackEnd_16 (by decide) ?_
      refine E_icmp_ne_n (tgt := 93) dX5_stackEnd_18 (by decide) (by omega) (by omega) (fun c_18 => ?_) (fun c_18 => ?_)
      · refine E_aload_n dX5_stackEnd_93 rfl ?_
        refine E_iload_n dX5_stackEnd_94 rfl ?_
        refine E_iload_n dX5_stackEnd_95 rfl ?_
        refine E_callS3 (fr' := 2) (k1 := 0) (n1 := 0) (k2 := 0) (n2 := 0) dX5_stackEnd_96 kO_X5_vowelsEnd kL_X5_83 rfl rfl rfl (by decide) (by decide) (by exact Nat.le_of_ble_eq_true rfl) (Or.inl rfl) rfl ?_
        refine sp_X5_vowelsEnd hB (by omega) (by omega) ?_
        refine gKv ?_
        refine E_iret dX5_stackEnd_99 (Or.inl rfl) ?_
        first
          | (rw [bcE_0 (c := c) (b := b) (k := k) (by omega)] at he; rw [← he] at K; exact K)
          | (rw [bcE_1 (c := c) (b := b) (k := k) ⟨by omega, by omega⟩ (by omega)] at he; rw [← he] at K; exact K)
      · refine E_iload dX5_stackEnd_21 rfl ?_
        refine E_bipush (v := nI 16) dX5_stackEnd_23 (by decide) ?_
        refine E_icmp_ge_n (tgt := 93) dX5_stackEnd_25 (by decide) (by omega) (by omega) (fun c_25 => ?_) (fun c_25 => ?_)
        · refine E_aload_n dX5_stackEnd_93 rfl ?_
          refine E_iload_n dX5_stackEnd_94 rfl ?_
          refine E_iload_n dX5_stackEnd_95 rfl ?_
          refine E_callS3 (fr' := 2) (k1 := 0) (n1 := 0) (k2 := 0) (n2 := 0) dX5_stackEnd_96 kO_X5_vowelsEnd kL_X5_83 rfl rfl rfl (by decide) (by decide) (by exact Nat.le_of_ble_eq_true rfl) (Or.inl rfl) rfl ?_
          refine sp_X5_vowelsEnd hB (by omega) (by omega) ?_
          refine gKv ?_
          refine E_iret dX5_stackEnd_99 (Or.inl rfl) ?_
          first
            | (rw [bcE_0 (c := c) (b := b) (k := k) (by omega)] at he; rw [← he] at K; exact K)
            | (rw [bcE_1 (c := c) (b := b) (k := k) ⟨by omega, by omega⟩ (by omega)] at he; rw [← he] at K; exact K)
        · refine E_iload_n dX5_stackEnd_28 rfl ?_
          refine E_iconst (v := nI 1) dX5_stackEnd_29 (by decide) ?_
          refine E_iadd_n dX5_stackEnd_30 ?_
          refine E_istore dX5_stackEnd_31 (Nat.le_of_ble_eq_true rfl) (by decide) rfl ?_
          refine E_iload dX5_stackEnd_33 rfl ?_
          refine E_iload_n dX5_stackEnd_35 rfl ?_
          refine E_icmp_ge_n (tgt := 55) dX5_stackEnd_36 (by decide) (by omega) (by omega) (fun c_36 => ?_) (fun c_36 => ?_)
          · refine go (by omega) (by omega) _ ?_
            first
              | exact (cI_t ⟨by omega, by assumption⟩).symm
              | exact (cI_f (fun z => by have := z.1; have := z.2; first | omega | contradiction)).symm
          · refine E_aload_n dX5_stackEnd_39 rfl ?_
            refine E_getRL dX5_stackEnd_40 kF_X5_52 kY_10 (Or.inr ⟨_, rfl⟩) (l_2 hL) (k_2 hL) (r_2_0 hL) ?_
            refine E_iload dX5_stackEnd_43 rfl ?_
            refine E_ialdL (v := nI (cN _ 141 _)) dX5_stackEnd_45 (l_3 hL) (k_3 hL) rfl (by omega) (by decide) (hB.sg (by omega)) ?_
            refine E_callS1 (fr' := 1) (k1 := 0) (n1 := 0) (k2 := 0) (n2 := 0) dX5_stackEnd_46 kO_X11_isJoinerOrParter kL_X5_89 rfl (by decide) (by decide) (by exact Nat.le_of_ble_eq_true rfl) (Or.inl rfl) rfl ?_
            refine sp_X11_isJoinerOrParter (by first | omega | exact Nat.lt_trans (hB.wf.tx _).1 (by decide) | exact Nat.lt_trans (hc.n256 _) (by decide)) ?_
            refine gKv ?_
            refine E_if_eq_b (tgt := 55) dX5_stackEnd_49 (by decide) (fun c_49 => ?_) (fun c_49 => ?_)
            · refine go (by omega) (by omega) _ ?_
              first
                | exact (cI_t ⟨by omega, by assumption⟩).symm
                | exact (cI_f (fun z => by have := z.1; have := z.2; first | omega | contradiction)).symm
            · refine E_iinc_n (d := 1) dX5_stackEnd_52 rfl rfl rfl (by decide) rfl ?_
              refine go (by omega) (by omega) _ ?_
              first
                | exact (cI_t ⟨by omega, by assumption⟩).symm
                | exact (cI_f (fun z => by have := z.1; have := z.2; first | omega | contradiction)).symm
set_option maxRecDepth 100000 in
set_option maxHeartbeats 4000000 in
theorem sp_X5_stackEnd {g : gG} {M : gM} {Q : Option Value ⊕ String → gM → Prop} {c : Cf} {P : Nat → Nat} (hB : kB c P M) {b k : Nat} (hb : b ≤ 16) (hk : k ≤ b) (K : Q (.inl (some (.int (nI (bcE c b k))))) M) : E g 3 0 0 mX5_stackEnd 0 [.ref 3, .int (nI k), .int (nI b), .null, .null, .null] [] M Q := by
  have hL := hB.lay
  refine E_iload_n dX5_stackEnd_0 rfl ?_
  refine E_istore_n dX5_stackEnd_1 (Nat.le_of_ble_eq_true rfl) (by decide) rfl ?_
  refine E_iconst (v := nI 0) dX5_stackEnd_2 (by decide) ?_
  refine E_istore dX5_stackEnd_3 (Nat.le_of_ble_eq_true rfl) (by decide) rfl ?_
  exact lp_X5_stackEnd hB hb K b k (by omega) hk rfl _ _ (by omega)
set_option maxRecDepth 100000 in
set_option maxHeartbeats 4000000 in
theorem sp_X5_syllableEnd {g : gG} {M : gM} {Q : Option Value ⊕ String → gM → Prop} {c : Cf} {P : Nat → Nat} (hB : kB c P M) {b k : Nat} (hb : b ≤ 16) (hk : k < b) (K : Q (.inl (some (.int (nI (syE c b k))))) M) : E g 4 0 0 mX5_syllableEnd 0 [.ref 3, .int (nI k), .int (nI b), .null] [] M Q := by
  have hL := hB.lay
  have tx := (hB.wf.tx k).1
  refine E_aload_n dX5_syllableEnd_0 rfl ?_
  refine E_getRL dX5_syllableEnd_1 kF_X5_52 kY_10 (Or.inr ⟨_, rfl⟩) (l_2 hL) (k_2 hL) (r_2_0 hL) ?_
  refine E_iload_n dX5_syllableEnd_4 rfl ?_
  refine E_ialdL (v := nI (cN _ 141 _)) dX5_syllableEnd_5 (l_3 hL) (k_3 hL) rfl (by omega) (by decide) (hB.sg (by omega)) ?_
  refine E_istore_n dX5_syllableEnd_6 (Nat.le_of_ble_eq_true rfl) (by decide) rfl ?_
  refine E_iload_n dX5_syllableEnd_7 rfl ?_
  refine E_callS1 (fr' := 1) (k1 := 0) (n1 := 0) (k2 := 0) (n2 := 0) dX5_syllableEnd_8 kO_X11_isConsonant kL_X5_77 rfl (by decide) (by decide) (by exact Nat.le_of_ble_eq_true rfl) (Or.inl rfl) rfl ?_
  refine sp_X11_isConsonant (by first | omega | exact Nat.lt_trans (hB.wf.tx _).1 (by decide) | exact Nat.lt_trans (hc.n256 _) (by decide)) ?_
  refine gKv ?_
  refine E_if_eq_b (tgt := 23) dX5_syllableEnd_11 (by decide) (fun c_11 => ?_) (fun c_11 => ?_)
  · refine E_iload_n dX5_syllableEnd_23 rfl ?_
    refine E_bipush (v := nI 43) dX5_syllableEnd_24 (by decide) ?_
    refine E_icmp_ne_n (tgt := 38) dX5_syllableEnd_26 (by decide) (by omega) (by omega) (fun c_26 => ?_) (fun c_26 => ?_)
    · refine E_iload_n dX5_syllableEnd_38 rfl ?_
      refine E_callS1 (fr' := 2) (k1 := 0) (n1 := 0) (k2 := 0) (n2 := 0) dX5_syllableEnd_39 kO_X5_needsCarrier kL_X5_86 rfl (by decide) (by decide) (by exact Nat.le_of_ble_eq_true rfl) (Or.inl rfl) rfl ?_
      refine sp_X5_needsCarrier (by first | omega | exact Nat.lt_trans (hB.wf.tx _).1 (by decide) | exact Nat.lt_trans (hc.n256 _) (by decide)) ?_
      refine gKv ?_
      refine E_if_eq_b (tgt := 52) dX5_syllableEnd_42 (by decide) (fun c_42 => ?_) (fun c_42 => ?_)
      · refine E_iload_n dX5_syllableEnd_52 rfl ?_
        refine E_iconst (v := nI 1) dX5_syllableEnd_53 (by decide) ?_
        refine E_iadd_n dX5_syllableEnd_54 ?_
        refine E_iret dX5_syllableEnd_55 (Or.inl rfl) ?_
        first
          | (rw [show syE c b k = bcE c b (k + 1) from cI_t (by assumption)] at K; exact K)
          | (rw [show syE c b k = bv c b (k + 1) from (cI_f (by assumption)).trans (cI_t (by omega))] at K; exact K)
          | (rw [show syE c b k = bcE c b k from (cI_f (by assumption)).trans ((cI_f (by omega)).trans (cI_t (by omega)))] at K; exact K)
          | (rw [show syE c b k = k + 1 from (cI_f (by assumption)).trans ((cI_f (by omega)).trans (cI_f (by omega)))] at K; exact K)
      · refine E_aload_n dX5_syllableEnd_45 rfl ?_
        refine E_iload_n dX5_syllableEnd_46 rfl ?_
        refine E_iload_n dX5_syllableEnd_47 rfl ?_
        refine E_callS3 (fr' := 3) (k1 := 0) (n1 := 0) (k2 := 0) (n2 := 0) dX5_syllableEnd_48 kO_X5_stackEnd kL_X5_80 rfl rfl rfl (by decide) (by decide) (by exact Nat.le_of_ble_eq_true rfl) (Or.inl rfl) rfl ?_
        refine sp_X5_stackEnd hB (by omega) (by omega) ?_
        refine gKv ?_
        refine E_iret dX5_syllableEnd_51 (Or.inl rfl) ?_
        first
          | (rw [show syE c b k = bcE c b (k + 1) from cI_t (by assumption)] at K; exact K)
          | (rw [show syE c b k = bv c b (k + 1) from (cI_f (by assumption)).trans (cI_t (by omega))] at K; exact K)
          | (rw [show syE c b k = bcE c b k from (cI_f (by assumption)).trans ((cI_f (by omega)).trans (cI_t (by omega)))] at K; exact K)
          | (rw [show syE c b k = k + 1 from (cI_f (by assumption)).trans ((cI_f (by omega)).trans (cI_f (by omega)))] at K; exact K)
    · refine E_aload_n dX5_syllableEnd_29 rfl ?_
      refine E_iload_n dX5_syllableEnd_30 rfl ?_
      refine E_iconst (v := nI 1) dX5_syllableEnd_31 (by decide) ?_
      refine E_iadd_n dX5_syllableEnd_32 ?_
      refine E_iload_n dX5_syllableEnd_33 rfl ?_
      refine E_callS3 (fr' := 2) (k1 := 0) (n1 := 0) (k2 := 0) (n2 := 0) dX5_syllableEnd_34 kO_X5_vowelsEnd kL_X5_83 rfl rfl rfl (by decide) (by decide) (by exact Nat.le_of_ble_eq_true rfl) (Or.inl rfl) rfl ?_
      refine sp_X5_vowelsEnd hB (by omega) (by omega) ?_
      refine gKv ?_
      refine E_iret dX5_syllableEnd_37 (Or.inl rfl) ?_
      first
        | (rw [show syE c b k = bcE c b (k + 1) from cI_t (by assumption)] at K; exact K)
        | (rw [show syE c b k = bv c b (k + 1) from (cI_f (by assumption)).trans (cI_t (by omega))] at K; exact K)
        | (rw [show syE c b k = bcE c b k from (cI_f (by assumption)).trans ((cI_f (by omega)).trans (cI_t (by omega)))] at K; exact K)
        | (rw [show syE c b k = k + 1 from (cI_f (by assumption)).trans ((cI_f (by omega)).trans (cI_f (by omega)))] at K; exact K)
  · refine E_aload_n dX5_syllableEnd_14 rfl ?_
    refine E_iload_n dX5_syllableEnd_15 rfl ?_
    refine E_iconst (v := nI 1) dX5_syllableEnd_16 (by decide) ?_
    refine E_iadd_n dX5_syllableEnd_17 ?_
    refine E_iload_n dX5_syllableEnd_18 rfl ?_
    refine E_callS3 (fr' := 3) (k1 := 0) (n1 := 0) (k2 := 0) (n2 := 0) dX5_syllableEnd_19 kO_X5_stackEnd kL_X5_80 rfl rfl rfl (by decide) (by decide) (by exact Nat.le_of_ble_eq_true rfl) (Or.inl rfl) rfl ?_
    refine sp_X5_stackEnd hB (by omega) (by omega) ?_
    refine gKv ?_
    refine E_iret dX5_syllableEnd_22 (Or.inl rfl) ?_
    first
      | (rw [show syE c b k = bcE c b (k + 1) from cI_t (by assumption)] at K; exact K)
      | (rw [show syE c b k = bv c b (k + 1) from (cI_f (by assumption)).trans (cI_t (by omega))] at K; exact K)
      | (rw [show syE c b k = bcE c b k from (cI_f (by assumption)).trans ((cI_f (by omega)).trans (cI_t (by omega)))] at K; exact K)
      | (rw [show syE c b k = k + 1 from (cI_f (by assumption)).trans ((cI_f (by omega)).trans (cI_f (by omega)))] at K; exact K)
theorem kB.w {c : Cf} {P : Nat → Nat} {M : gM} (h : kB c P M) {a j : Nat} {v : Int32} (q : rwR a j) : kB c P (sI M a j v) := h.mv (S := rwR) (T := rwT) (kf.refl.wr q) rwR_k rwT_k
/-- the cells hold the glyphs, each one once -/
def rK (π : Nat → Nat) (M : gM) : Prop := (∀ i, i < 64 → π i < 64 ∧ mR M 7 i = 8 + π i + 1) ∧ ∀ i j, i < 64 → j < 64 → π i = π j → i = j
theorem cX.rK {c : Cf} {P : Nat → Nat} {M0 M : gM} {L : List Gl} {π : Nat → Nat} (h : cX c P M0 L π M) : rK π M := ⟨h.2.2.2.1, h.2.2.2.2.1⟩
theorem cX_nil {c : Cf} {P : Nat → Nat} {M : gM} {π : Nat → Nat} (h : kB c P M) (hr : rK π M) : cX c P M [] π (sI M 6 1 (nI 0)) :=
  ⟨h, kf.refl.wr (Or.inl rfl), mI_eq, hr.1, hr.2, fun i hi => absurd hi (Nat.not_lt_zero i), ⟨Nat.zero_le _, fun x hx => by cases hx⟩⟩
theorem cX.aB {c : Cf} {P : Nat → Nat} {M0 M : gM} {L : List Gl} {π : Nat → Nat} (h : cX c P M0 L π M) : kB c P (sI M 6 1 (nI (L.length + 1))) := h.B.w (Or.inl rfl)
set_option maxRecDepth 100000 in
set_option maxHeartbeats 4000000 in
theorem lp_X5_beginJ {g : gG} {Q : Option Value ⊕ String → gM → Prop} {c : Cf} {P : Nat → Nat} {pb : Nat} {M0 : gM} (hp : pb = 78 ∨ pb = 98) {a b : Nat} (hab : a ≤ b) (hb : b ≤ 16) (hfm : ∀ j, a ≤ j → j < b → mI M0 (pb + 3) j = frm c a b j) (K : ∀ M π, cX c P M0 (jnd c a b (b - a)) π M → Q (.inl none) M) : ∀ k, k ≤ b → a ≤ k → ∀ M π v v7, cX c P M0 (jnd c a b (k - a)) π M → v = cI (rfd (fun j => a ≤ j ∧ ¬ cMk (cN c 141 j)) k = 0) (-100) (nI (rfd (fun j => a ≤ j ∧ ¬ cMk (cN c 141 j)) k - 1)) → E g 2 0 0 mX5_beginJ 7 [.ref 73, .ref 3, .ref (pb + 1 + 1), .int (nI a), .int (nI b), .int v, .int (nI k), v7] [] M Q := by
  refine lpUp b (fun k hk ih => ?_)
  intro hak M π v v7 hc hv
  have hB := hc.B
  have hL := hB.lay
  have tx := (hB.wf.tx k).1
  have hf4 : cN c 142 k ≤ 3 := (hB.wf.tx k).2
  have hjl : (jnd c a b (k - a)).length = k - a := mkL_len _ _
  have fin : k < b → ∀ x v' v7 M' π, x = clu c a k → cX c P M0 (addL (jnd c a b (k - a)) (newG (cN c 141 k) x (cN c 142 k) (frm c a b k))) π M' → v' = cI (rfd (fun j => a ≤ j ∧ ¬ cMk (cN c 141 j)) (k + 1) = 0) (-100) (nI (rfd (fun j => a ≤ j ∧ ¬ cMk (cN c 141 j)) (k + 1) - 1)) → E g 2 0 0 mX5_beginJ 7 [.ref 73, .ref 3, .ref (pb + 1 + 1), .int (nI a), .int (nI b), .int v', .int (nI (k + 1)), v7] [] M' Q := fun hkb x v' v7 M' π e h e2 => by
    subst e
    refine ih hkb (by omega) M' π v' v7 ?_ e2
    unfold jnd at h
    rw [addL_mk (by rw [show a + (k - a) = k by omega])] at h
    rw [show k + 1 - a = k - a + 1 by omega]
    exact h
  refine E_iload dX5_beginJ_7 rfl ?_
  refine E_iload dX5_beginJ_9 rfl ?_
  refine E_icmp_ge_n (tgt := 91) dX5_beginJ_11 (by decide) (by omega) (by omega) (fun c_11 => ?_) (fun c_11 => ?_)
  · refine E_vret dX5_beginJ_91 rfl ?_
    obtain rfl : k = b := by omega
    exact K _ _ hc
  · have hkb : k < b := by omega
    have hrb := rfd_le (P := (fun j => a ≤ j ∧ ¬ cMk (cN c 141 j))) k
    have hst := fun (x : Nat) (hx : x < 16) => hc.start (s := cN c 141 k) (cl := x) (v := cN c 142 k) (fo := frm c a b k) (by omega) (by omega) hx (by omega)
    by_cases hm : cMk (cN c 141 k)
    · have hr := rfd_f (P := (fun j => a ≤ j ∧ ¬ cMk (cN c 141 j))) (k := k) (fun q => q.2 hm)
      by_cases e : rfd (fun j => a ≤ j ∧ ¬ cMk (cN c 141 j)) k = 0
      · rw [cI_t e] at hv; subst hv
        refine E_aload_n dX5_beginJ_14 rfl ?_
        refine E_getRL dX5_beginJ_15 kF_X5_52 kY_10 (Or.inr ⟨_, rfl⟩) (l_2 hL) (k_2 hL) (r_2_0 hL) ?_
        refine E_iload dX5_beginJ_18 rfl ?_
        refine E_ialdL (v := nI (cN _ 141 _)) dX5_beginJ_20 (l_3 hL) (k_3 hL) rfl (by omega) (by decide) (hB.sg (by omega)) ?_
        refine E_callS1 (fr' := 1) (k1 := 0) (n1 := 0) (k2 := 0) (n2 := 0) dX5_beginJ_21 kO_X11_isMarkOfJ kL_X5_57 rfl (by decide) (by decide) (by exact Nat.le_of_ble_eq_true rfl) (Or.inl rfl) rfl ?_
        refine sp_X11_isMarkOfJ (by first | omega | exact Nat.lt_trans (hB.wf.tx _).1 (by decide) | exact Nat.lt_trans (hc.n256 _) (by decide)) ?_
        refine gKv ?_
        refine E_istore dX5_beginJ_24 (Nat.le_of_ble_eq_true rfl) (by decide) rfl ?_
        refine E_iload dX5_beginJ_26 rfl ?_
        refine E_if_ne_b (tgt := 35) dX5_beginJ_28 (by decide) (fun e_28 => ?_) (fun e_28 => ?_)
        · refine E_aload_n dX5_beginJ_35 rfl ?_
          refine E_getRL dX5_beginJ_36 kF_X5_9 kY_5 (Or.inl ⟨_, rfl⟩) (l_72 hL) (k_72 hL) (r_72_0 hL) ?_
          refine E_callV0 (fr' := 1) (k1 := 0) (n1 := 0) (k2 := 0) (n2 := 0) dX5_beginJ_39 kO_X8_add kL_X5_61 (l_6 hL) (k_6 hL) ⟨by decide, rfl⟩  (by decide) (by decide) (by exact Nat.le_of_ble_eq_true rfl) rfl ?_
          refine sp_X8_add hc (by omega) ?_
          have hB := hc.aB
          have hL := hB.lay
          refine gKv ?_
          refine E_aload_n dX5_beginJ_42 rfl ?_
          refine E_getRL dX5_beginJ_43 kF_X5_52 kY_10 (Or.inr ⟨_, rfl⟩) (l_2 hL) (k_2 hL) (r_2_0 hL) ?_
          refine E_iload dX5_beginJ_46 rfl ?_
          refine E_ialdL (v := nI (cN _ 141 _)) dX5_beginJ_48 (l_3 hL) (k_3 hL) rfl (by omega) (by decide) (hB.sg (by omega)) ?_
          refine E_iload dX5_beginJ_49 rfl ?_
          refine E_if_eq_b (tgt := 66) dX5_beginJ_51 (by decide) (fun e_51 => ?_) (fun e_51 => ?_)
          · refine E_iload dX5_beginJ_66 rfl ?_
            refine E_aload_n dX5_beginJ_68 rfl ?_
            refine E_getRL dX5_beginJ_69 kF_X5_65 kY_10 (Or.inr ⟨_, rfl⟩) (l_2 hL) (k_2 hL) (r_2_1 hL) ?_
            refine E_iload dX5_beginJ_72 rfl ?_
            refine E_ialdL (v := nI (cN _ 142 _)) dX5_beginJ_74 (l_4 hL) (k_4 hL) rfl (by omega) (by decide) (hB.ex (by omega)) ?_
            refine E_aload_n dX5_beginJ_75 rfl ?_
            refine E_getRL dX5_beginJ_76 kF_X5_68 kY_9 (Or.inr ⟨_, rfl⟩) (pg_lt hL hp (i := 1) (by decide)) (pg_k1 hL hp) (pg_ru hL hp (i := 1) (by decide)) ?_
            refine E_iload dX5_beginJ_79 rfl ?_
            refine E_ialdL (v := frm c a b k) dX5_beginJ_81 (pg_lt hL hp (i := 3) (by decide)) (pg_ka hL hp (i := 3) (by decide)) rfl (by omega) (by decide) ((mI_ne (by omega)).trans ((hc.fr.bk (by unfold rwR; omega)).trans (hfm k hak (by omega)))) ?_
            refine E_callV4 (fr' := 1) (k1 := 0) (n1 := 0) (k2 := 0) (n2 := 0) dX5_beginJ_82 kO_X2_start kL_X5_71 (adM_lt hc (by omega)) (adM_k hc (by omega)) ⟨by decide, rfl⟩ rfl rfl rfl rfl (by decide) (by decide) (by exact Nat.le_of_ble_eq_true rfl) rfl ?_
            refine sp_X2_start (adM_lt hc (by omega)) (adM_k hc (by omega)) ?_
            refine gKn ?_
            refine E_iinc_n (d := 1) dX5_beginJ_85 rfl rfl rfl (by decide) rfl ?_
            refine E_goto (tgt := 7) dX5_beginJ_88 (by decide) ?_
            refine fin hkb _ _ _ _ _ ?_ (hst _ (by omega)) ?_
            · unfold clu; rw [hr, cI_t e]
            · rw [hr, cI_t e]
          · refine E_iload dX5_beginJ_54 rfl ?_
            refine E_bipush (v := -100) dX5_beginJ_56 (by decide) ?_
            refine E_icmp_eq (tgt := 66) dX5_beginJ_58 (by decide) (fun _ => ?_) (fun c0 => absurd (by decide) c0)
            refine E_iload dX5_beginJ_66 rfl ?_
            refine E_aload_n dX5_beginJ_68 rfl ?_
            refine E_getRL dX5_beginJ_69 kF_X5_65 kY_10 (Or.inr ⟨_, rfl⟩) (l_2 hL) (k_2 hL) (r_2_1 hL) ?_
            refine E_iload dX5_beginJ_72 rfl ?_
            refine E_ialdL (v := nI (cN _ 142 _)) dX5_beginJ_74 (l_4 hL) (k_4 hL) rfl (by omega) (by decide) (hB.ex (by omega)) ?_
            refine E_aload_n dX5_beginJ_75 rfl ?_
            refine E_getRL dX5_beginJ_76 kF_X5_68 kY_9 (Or.inr ⟨_, rfl⟩) (pg_lt hL hp (i := 1) (by decide)) (pg_k1 hL hp) (pg_ru hL hp (i := 1) (by decide)) ?_
            refine E_iload dX5_beginJ_79 rfl ?_
            refine E_ialdL (v := frm c a b k) dX5_beginJ_81 (pg_lt hL hp (i := 3) (by decide)) (pg_ka hL hp (i := 3) (by decide)) rfl (by omega) (by decide) ((mI_ne (by omega)).trans ((hc.fr.bk (by unfold rwR; omega)).trans (hfm k hak (by omega)))) ?_
            refine E_callV4 (fr' := 1) (k1 := 0) (n1 := 0) (k2 := 0) (n2 := 0) dX5_beginJ_82 kO_X2_start kL_X5_71 (adM_lt hc (by omega)) (adM_k hc (by omega)) ⟨by decide, rfl⟩ rfl rfl rfl rfl (by decide) (by decide) (by exact Nat.le_of_ble_eq_true rfl) rfl ?_
            refine sp_X2_start (adM_lt hc (by omega)) (adM_k hc (by omega)) ?_
            refine gKn ?_
            refine E_iinc_n (d := 1) dX5_beginJ_85 rfl rfl rfl (by decide) rfl ?_
            refine E_goto (tgt := 7) dX5_beginJ_88 (by decide) ?_
            refine fin hkb _ _ _ _ _ ?_ (hst _ (by omega)) ?_
            · unfold clu; rw [hr, cI_t e]
            · rw [hr, cI_t e]
        · refine E_iload dX5_beginJ_31 rfl ?_
          exfalso; omega
      · rw [cI_f e] at hv; subst hv
        generalize hz : rfd (fun j => a ≤ j ∧ ¬ cMk (cN c 141 j)) k - 1 = z at *
        have hz2 : z < 16 := by omega
        refine E_aload_n dX5_beginJ_14 rfl ?_
        refine E_getRL dX5_beginJ_15 kF_X5_52 kY_10 (Or.inr ⟨_, rfl⟩) (l_2 hL) (k_2 hL) (r_2_0 hL) ?_
        refine E_iload dX5_beginJ_18 rfl ?_
        refine E_ialdL (v := nI (cN _ 141 _)) dX5_beginJ_20 (l_3 hL) (k_3 hL) rfl (by omega) (by decide) (hB.sg (by omega)) ?_
        refine E_callS1 (fr' := 1) (k1 := 0) (n1 := 0) (k2 := 0) (n2 := 0) dX5_beginJ_21 kO_X11_isMarkOfJ kL_X5_57 rfl (by decide) (by decide) (by exact Nat.le_of_ble_eq_true rfl) (Or.inl rfl) rfl ?_
        refine sp_X11_isMarkOfJ (by first | omega | exact Nat.lt_trans (hB.wf.tx _).1 (by decide) | exact Nat.lt_trans (hc.n256 _) (by decide)) ?_
        refine gKv ?_
        refine E_istore dX5_beginJ_24 (Nat.le_of_ble_eq_true rfl) (by decide) rfl ?_
        refine E_iload dX5_beginJ_26 rfl ?_
        refine E_if_ne_b (tgt := 35) dX5_beginJ_28 (by decide) (fun e_28 => ?_) (fun e_28 => ?_)
        · refine E_aload_n dX5_beginJ_35 rfl ?_
          refine E_getRL dX5_beginJ_36 kF_X5_9 kY_5 (Or.inl ⟨_, rfl⟩) (l_72 hL) (k_72 hL) (r_72_0 hL) ?_
          refine E_callV0 (fr' := 1) (k1 := 0) (n1 := 0) (k2 := 0) (n2 := 0) dX5_beginJ_39 kO_X8_add kL_X5_61 (l_6 hL) (k_6 hL) ⟨by decide, rfl⟩  (by decide) (by decide) (by exact Nat.le_of_ble_eq_true rfl) rfl ?_
          refine sp_X8_add hc (by omega) ?_
          have hB := hc.aB
          have hL := hB.lay
          refine gKv ?_
          refine E_aload_n dX5_beginJ_42 rfl ?_
          refine E_getRL dX5_beginJ_43 kF_X5_52 kY_10 (Or.inr ⟨_, rfl⟩) (l_2 hL) (k_2 hL) (r_2_0 hL) ?_
          refine E_iload dX5_beginJ_46 rfl ?_
          refine E_ialdL (v := nI (cN _ 141 _)) dX5_beginJ_48 (l_3 hL) (k_3 hL) rfl (by omega) (by decide) (hB.sg (by omega)) ?_
          refine E_iload dX5_beginJ_49 rfl ?_
          refine E_if_eq_b (tgt := 66) dX5_beginJ_51 (by decide) (fun e_51 => ?_) (fun e_51 => ?_)
          · exfalso; omega
          · refine E_iload dX5_beginJ_54 rfl ?_
            refine E_bipush (v := -100) dX5_beginJ_56 (by decide) ?_
            refine E_icmp_eq (tgt := 66) dX5_beginJ_58 (by decide) (fun c0 => absurd c0 (nI_ne100 (by omega))) (fun _ => ?_)
            refine E_iload dX5_beginJ_61 rfl ?_
            refine E_goto (tgt := 68) dX5_beginJ_63 (by decide) ?_
            refine E_aload_n dX5_beginJ_68 rfl ?_
            refine E_getRL dX5_beginJ_69 kF_X5_65 kY_10 (Or.inr ⟨_, rfl⟩) (l_2 hL) (k_2 hL) (r_2_1 hL) ?_
            refine E_iload dX5_beginJ_72 rfl ?_
            refine E_ialdL (v := nI (cN _ 142 _)) dX5_beginJ_74 (l_4 hL) (k_4 hL) rfl (by omega) (by decide) (hB.ex (by omega)) ?_
            refine E_aload_n dX5_beginJ_75 rfl ?_
            refine E_getRL dX5_beginJ_76 kF_X5_68 kY_9 (Or.inr ⟨_, rfl⟩) (pg_lt hL hp (i := 1) (by decide)) (pg_k1 hL hp) (pg_ru hL hp (i := 1) (by decide)) ?_
            refine E_iload dX5_beginJ_79 rfl ?_
            refine E_ialdL (v := frm c a b k) dX5_beginJ_81 (pg_lt hL hp (i := 3) (by decide)) (pg_ka hL hp (i := 3) (by decide)) rfl (by omega) (by decide) ((mI_ne (by omega)).trans ((hc.fr.bk (by unfold rwR; omega)).trans (hfm k hak (by omega)))) ?_
            refine E_callV4 (fr' := 1) (k1 := 0) (n1 := 0) (k2 := 0) (n2 := 0) dX5_beginJ_82 kO_X2_start kL_X5_71 (adM_lt hc (by omega)) (adM_k hc (by omega)) ⟨by decide, rfl⟩ rfl rfl rfl rfl (by decide) (by decide) (by exact Nat.le_of_ble_eq_true rfl) rfl ?_
            refine sp_X2_start (adM_lt hc (by omega)) (adM_k hc (by omega)) ?_
            refine gKn ?_
            refine E_iinc_n (d := 1) dX5_beginJ_85 rfl rfl rfl (by decide) rfl ?_
            refine E_goto (tgt := 7) dX5_beginJ_88 (by decide) ?_
            refine fin hkb _ _ _ _ _ ?_ (hst _ (by omega)) ?_
            · unfold clu; rw [hr, cI_f e, hz]
            · rw [hr, cI_f e, hz]
        · refine E_iload dX5_beginJ_31 rfl ?_
          exfalso; omega
    · have hr := rfd_t (P := (fun j => a ≤ j ∧ ¬ cMk (cN c 141 j))) (k := k) ⟨hak, hm⟩
      refine E_aload_n dX5_beginJ_14 rfl ?_
      refine E_getRL dX5_beginJ_15 kF_X5_52 kY_10 (Or.inr ⟨_, rfl⟩) (l_2 hL) (k_2 hL) (r_2_0 hL) ?_
      refine E_iload dX5_beginJ_18 rfl ?_
      refine E_ialdL (v := nI (cN _ 141 _)) dX5_beginJ_20 (l_3 hL) (k_3 hL) rfl (by omega) (by decide) (hB.sg (by omega)) ?_
      refine E_callS1 (fr' := 1) (k1 := 0) (n1 := 0) (k2 := 0) (n2 := 0) dX5_beginJ_21 kO_X11_isMarkOfJ kL_X5_57 rfl (by decide) (by decide) (by exact Nat.le_of_ble_eq_true rfl) (Or.inl rfl) rfl ?_
      refine sp_X11_isMarkOfJ (by first | omega | exact Nat.lt_trans (hB.wf.tx _).1 (by decide) | exact Nat.lt_trans (hc.n256 _) (by decide)) ?_
      refine gKv ?_
      refine E_istore dX5_beginJ_24 (Nat.le_of_ble_eq_true rfl) (by decide) rfl ?_
      refine E_iload dX5_beginJ_26 rfl ?_
      refine E_if_ne_b (tgt := 35) dX5_beginJ_28 (by decide) (fun e_28 => ?_) (fun e_28 => ?_)
      · exfalso; omega
      · refine E_iload dX5_beginJ_31 rfl ?_
        refine E_istore dX5_beginJ_33 (Nat.le_of_ble_eq_true rfl) (by decide) rfl ?_
        refine E_aload_n dX5_beginJ_35 rfl ?_
        refine E_getRL dX5_beginJ_36 kF_X5_9 kY_5 (Or.inl ⟨_, rfl⟩) (l_72 hL) (k_72 hL) (r_72_0 hL) ?_
        refine E_callV0 (fr' := 1) (k1 := 0) (n1 := 0) (k2 := 0) (n2 := 0) dX5_beginJ_39 kO_X8_add kL_X5_61 (l_6 hL) (k_6 hL) ⟨by decide, rfl⟩  (by decide) (by decide) (by exact Nat.le_of_ble_eq_true rfl) rfl ?_
        refine sp_X8_add hc (by omega) ?_
        have hB := hc.aB
        have hL := hB.lay
        refine gKv ?_
        refine E_aload_n dX5_beginJ_42 rfl ?_
        refine E_getRL dX5_beginJ_43 kF_X5_52 kY_10 (Or.inr ⟨_, rfl⟩) (l_2 hL) (k_2 hL) (r_2_0 hL) ?_
        refine E_iload dX5_beginJ_46 rfl ?_
        refine E_ialdL (v := nI (cN _ 141 _)) dX5_beginJ_48 (l_3 hL) (k_3 hL) rfl (by omega) (by decide) (hB.sg (by omega)) ?_
        refine E_iload dX5_beginJ_49 rfl ?_
        refine E_if_eq_b (tgt := 66) dX5_beginJ_51 (by decide) (fun e_51 => ?_) (fun e_51 => ?_)
        · refine E_iload dX5_beginJ_66 rfl ?_
          refine E_aload_n dX5_beginJ_68 rfl ?_
          refine E_getRL dX5_beginJ_69 kF_X5_65 kY_10 (Or.inr ⟨_, rfl⟩) (l_2 hL) (k_2 hL) (r_2_1 hL) ?_
          refine E_iload dX5_beginJ_72 rfl ?_
          refine E_ialdL (v := nI (cN _ 142 _)) dX5_beginJ_74 (l_4 hL) (k_4 hL) rfl (by omega) (by decide) (hB.ex (by omega)) ?_
          refine E_aload_n dX5_beginJ_75 rfl ?_
          refine E_getRL dX5_beginJ_76 kF_X5_68 kY_9 (Or.inr ⟨_, rfl⟩) (pg_lt hL hp (i := 1) (by decide)) (pg_k1 hL hp) (pg_ru hL hp (i := 1) (by decide)) ?_
          refine E_iload dX5_beginJ_79 rfl ?_
          refine E_ialdL (v := frm c a b k) dX5_beginJ_81 (pg_lt hL hp (i := 3) (by decide)) (pg_ka hL hp (i := 3) (by decide)) rfl (by omega) (by decide) ((mI_ne (by omega)).trans ((hc.fr.bk (by unfold rwR; omega)).trans (hfm k hak (by omega)))) ?_
          refine E_callV4 (fr' := 1) (k1 := 0) (n1 := 0) (k2 := 0) (n2 := 0) dX5_beginJ_82 kO_X2_start kL_X5_71 (adM_lt hc (by omega)) (adM_k hc (by omega)) ⟨by decide, rfl⟩ rfl rfl rfl rfl (by decide) (by decide) (by exact Nat.le_of_ble_eq_true rfl) rfl ?_
          refine sp_X2_start (adM_lt hc (by omega)) (adM_k hc (by omega)) ?_
          refine gKn ?_
          refine E_iinc_n (d := 1) dX5_beginJ_85 rfl rfl rfl (by decide) rfl ?_
          refine E_goto (tgt := 7) dX5_beginJ_88 (by decide) ?_
          refine fin hkb _ _ _ _ _ ?_ (hst _ (by omega)) ?_
          · unfold clu; rw [hr, cI_f (by omega), Nat.add_sub_cancel]
          · rw [hr, cI_f (by omega), Nat.add_sub_cancel]
        · exfalso; omega
