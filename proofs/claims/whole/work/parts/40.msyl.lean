/-! the reference: what a row begins as -/
noncomputable def clu (c : Cf) (a k : Nat) : Nat := cI (rfd (fun j => a ≤ j ∧ ¬ cMk (cN c 141 j)) (k + 1) = 0) k (rfd (fun j => a ≤ j ∧ ¬ cMk (cN c 141 j)) (k + 1) - 1)
noncomputable def jnd (c : Cf) (a b t : Nat) : List Gl := mkL t (fun i => newG (cN c 141 (a + i)) (clu c a (a + i)) (cN c 142 (a + i)) (frm c a b (a + i)))
theorem addL_mk {t : Nat} {h : Nat → Gl} {x : Gl} (e : x = h t) : addL (mkL t h) x = mkL (t + 1) h := row_ext (by unfold addL; rw [mkL_len, mkL_len, mkL_len]) (fun i hi => by
  have hi : i < t + 1 := by unfold addL at hi; rw [mkL_len, mkL_len] at hi; exact hi
  unfold addL
  rw [gat_mkL (by rw [mkL_len]; exact hi), gat_mkL hi, mkL_len]
  by_cases q : i < t
  · rw [if_pos q, gat_mkL q]
  · rw [if_neg q, e, show i = t by omega])
theorem add_len (L : List Gl) (x : Gl) : (addL L x).length = L.length + 1 := mkL_len _ _
set_option maxRecDepth 100000 in
set_option maxHeartbeats 4000000 in
theorem lp_X12_laysJoined {g : gG} {Q : Option Value ⊕ String → gM → Prop} {c : Cf} {f : Nat} {M0 : gM} {w : Int32} {a b : Nat} (hab : a ≤ b) (hb : b ≤ 16) (K : ∀ M, mX c f M0 (jnd c a b (b - a)) w M → Q (.inl none) M) : ∀ k, k ≤ b → a ≤ k → ∀ M v, mX c f M0 (jnd c a b (k - a)) w M → v = cI (rfd (fun j => a ≤ j ∧ ¬ cMk (cN c 141 j)) k = 0) (-100) (nI (rfd (fun j => a ≤ j ∧ ¬ cMk (cN c 141 j)) k - 1)) → E g 5 0 0 mX12_laysJoined 6 [.ref 129, .int (nI a), .int (nI b), .int v, .int (nI k)] [] M Q := by
  refine lpUp b (fun k hk ih => ?_)
  intro hak M v h hv
  have hL := h.lay
  have tx := (h.wf.tx k).1
  have hjl : (jnd c a b (k - a)).length = k - a := mkL_len _ _
  have fin : k < b → ∀ x v' M', x = clu c a k → mX c f M0 (addL (jnd c a b (k - a)) (newG (cN c 141 k) x (cN c 142 k) (frm c a b k))) w M' → v' = cI (rfd (fun j => a ≤ j ∧ ¬ cMk (cN c 141 j)) (k + 1) = 0) (-100) (nI (rfd (fun j => a ≤ j ∧ ¬ cMk (cN c 141 j)) (k + 1) - 1)) → E g 5 0 0 mX12_laysJoined 6 [.ref 129, .int (nI a), .int (nI b), .int v', .int (nI (k + 1))] [] M' Q := fun hkb x v' M' e h e2 => by
    subst e
    refine ih hkb (by omega) M' v' ?_ e2
    unfold jnd at h
    rw [addL_mk (by rw [show a + (k - a) = k by omega])] at h
    rw [show k + 1 - a = k - a + 1 by omega]
    exact h
  refine E_iload dX12_laysJoined_6 rfl ?_
  refine E_iload_n dX12_laysJoined_8 rfl ?_
  refine E_icmp_ge_n (tgt := 76) dX12_laysJoined_9 (by decide) (by omega) (by omega) (fun c_9 => ?_) (fun c_9 => ?_)
  · refine E_vret dX12_laysJoined_76 rfl ?_
    obtain rfl : k = b := by omega
    exact K _ h
  · refine E_aload_n dX12_laysJoined_12 rfl ?_
    refine E_getRL dX12_laysJoined_13 kF_X12_47 kY_12 (Or.inr ⟨_, rfl⟩) (l_128 hL) (k_128 hL) (r_128_15 hL) ?_
    refine E_iload dX12_laysJoined_16 rfl ?_
    refine E_ialdL (v := nI (cN _ 141 _)) dX12_laysJoined_18 (l_141 hL) (k_141 hL) rfl (by first | omega | exact h.n256 _) (by decide) (h.gc (Or.inl ⟨by decide, by decide, by decide⟩)) ?_
    refine E_callS1 (fr' := 2) (k1 := 0) (n1 := 0) (k2 := 0) (n2 := 0) dX12_laysJoined_19 kO_X12_isMarkSign kL_X12_225 rfl (by decide) (by decide) (by exact Nat.le_of_ble_eq_true rfl) (Or.inl rfl) rfl ?_
    refine sp_X12_isMarkSignN (by first | omega | exact Nat.lt_trans (h.wf.tx _).1 (by decide) | exact Nat.lt_trans (h.ok.at _).1 (by decide)) ?_
    refine gKv ?_
    refine E_if_eq_b (tgt := 29) dX12_laysJoined_22 (by decide) (fun c_22 => ?_) (fun c_22 => ?_)
    · have hr := rfd_t (P := (fun j => a ≤ j ∧ ¬ cMk (cN c 141 j))) (k := k) ⟨hak, c_22⟩
      refine E_iload dX12_laysJoined_29 rfl ?_
      refine E_istore_n dX12_laysJoined_31 (Nat.le_of_ble_eq_true rfl) (by decide) rfl ?_
      refine E_aload_n dX12_laysJoined_32 rfl ?_
      refine E_aload_n dX12_laysJoined_33 rfl ?_
      refine E_getRL dX12_laysJoined_34 kF_X12_47 kY_12 (Or.inr ⟨_, rfl⟩) (l_128 hL) (k_128 hL) (r_128_15 hL) ?_
      refine E_iload dX12_laysJoined_37 rfl ?_
      refine E_ialdL (v := nI (cN _ 141 _)) dX12_laysJoined_39 (l_141 hL) (k_141 hL) rfl (by first | omega | exact h.n256 _) (by decide) (h.gc (Or.inl ⟨by decide, by decide, by decide⟩)) ?_
      refine E_iload_n dX12_laysJoined_40 rfl ?_
      refine E_bipush (v := -100) dX12_laysJoined_41 (by decide) ?_
      refine E_icmp_ne (tgt := 51) dX12_laysJoined_43 (by decide) (fun _ => ?_) (fun c0 => absurd (nI_ne100 (by omega)) c0)
      refine E_iload_n dX12_laysJoined_51 rfl ?_
      refine E_aload_n dX12_laysJoined_52 rfl ?_
      refine E_getRL dX12_laysJoined_53 kF_X12_50 kY_12 (Or.inr ⟨_, rfl⟩) (l_128 hL) (k_128 hL) (r_128_16 hL) ?_
      refine E_iload dX12_laysJoined_56 rfl ?_
      refine E_ialdL (v := nI (cN _ 142 _)) dX12_laysJoined_58 (l_142 hL) (k_142 hL) rfl (by first | omega | exact h.n256 _) (by decide) (h.gc (Or.inl ⟨by decide, by decide, by decide⟩)) ?_
      refine E_aload_n dX12_laysJoined_59 rfl ?_
      refine E_iload_n dX12_laysJoined_60 rfl ?_
      refine E_iload_n dX12_laysJoined_61 rfl ?_
      refine E_iload dX12_laysJoined_62 rfl ?_
      refine E_callV3 (fr' := 4) (k1 := 0) (n1 := 0) (k2 := 0) (n2 := 0) dX12_laysJoined_64 kO_X12_formOf kL_X12_238 (l_128 hL) (k_128 hL) ⟨by decide, rfl⟩ rfl rfl rfl (by decide) (by decide) (by exact Nat.le_of_ble_eq_true rfl) rfl ?_
      refine sp_X12_formOf h.b (by omega) (by omega) (by omega) ?_
      refine gKv ?_
      refine E_callV4 (fr' := 1) (k1 := 0) (n1 := 0) (k2 := 0) (n2 := 0) dX12_laysJoined_67 kO_X12_addsGlyph kL_X12_242 (l_128 hL) (k_128 hL) ⟨by decide, rfl⟩ rfl rfl rfl rfl (by decide) (by decide) (by exact Nat.le_of_ble_eq_true rfl) rfl ?_
      have hf4 : cN c 142 k ≤ 3 := (h.wf.tx k).2
      refine sp_X12_addsGlyph h (by omega) (by omega) (by omega) (by rw [hjl]; omega) (fun M h => ?_)
      have hL := h.lay
      have hn := h.len
      refine gKn ?_
      refine E_iinc_n (d := 1) dX12_laysJoined_70 rfl rfl rfl (by decide) rfl ?_
      refine E_goto (tgt := 6) dX12_laysJoined_73 (by decide) ?_
      refine fin (by omega) _ _ _ ?_ h ?_
      · unfold clu; rw [hr, cI_f (by omega), Nat.add_sub_cancel]
      · rw [hr, cI_f (by omega), Nat.add_sub_cancel]
    · have hr := rfd_f (P := (fun j => a ≤ j ∧ ¬ cMk (cN c 141 j))) (k := k) (fun q => q.2 c_22)
      have hrb := rfd_le (P := (fun j => a ≤ j ∧ ¬ cMk (cN c 141 j))) k
      by_cases e : rfd (fun j => a ≤ j ∧ ¬ cMk (cN c 141 j)) k = 0
      · rw [cI_t e] at hv; subst hv
        refine E_iload_n dX12_laysJoined_25 rfl ?_
        refine E_goto (tgt := 31) dX12_laysJoined_26 (by decide) ?_
        refine E_istore_n dX12_laysJoined_31 (Nat.le_of_ble_eq_true rfl) (by decide) rfl ?_
        refine E_aload_n dX12_laysJoined_32 rfl ?_
        refine E_aload_n dX12_laysJoined_33 rfl ?_
        refine E_getRL dX12_laysJoined_34 kF_X12_47 kY_12 (Or.inr ⟨_, rfl⟩) (l_128 hL) (k_128 hL) (r_128_15 hL) ?_
        refine E_iload dX12_laysJoined_37 rfl ?_
        refine E_ialdL (v := nI (cN _ 141 _)) dX12_laysJoined_39 (l_141 hL) (k_141 hL) rfl (by first | omega | exact h.n256 _) (by decide) (h.gc (Or.inl ⟨by decide, by decide, by decide⟩)) ?_
        refine E_iload_n dX12_laysJoined_40 rfl ?_
        refine E_bipush (v := -100) dX12_laysJoined_41 (by decide) ?_
        refine E_icmp_ne_r (tgt := 51) dX12_laysJoined_43 (by decide) (fun c0 => absurd c0 (by decide)) (fun _ => ?_)
        refine E_iload dX12_laysJoined_46 rfl ?_
        refine E_goto (tgt := 52) dX12_laysJoined_48 (by decide) ?_
        refine E_aload_n dX12_laysJoined_52 rfl ?_
        refine E_getRL dX12_laysJoined_53 kF_X12_50 kY_12 (Or.inr ⟨_, rfl⟩) (l_128 hL) (k_128 hL) (r_128_16 hL) ?_
        refine E_iload dX12_laysJoined_56 rfl ?_
        refine E_ialdL (v := nI (cN _ 142 _)) dX12_laysJoined_58 (l_142 hL) (k_142 hL) rfl (by first | omega | exact h.n256 _) (by decide) (h.gc (Or.inl ⟨by decide, by decide, by decide⟩)) ?_
        refine E_aload_n dX12_laysJoined_59 rfl ?_
        refine E_iload_n dX12_laysJoined_60 rfl ?_
        refine E_iload_n dX12_laysJoined_61 rfl ?_
        refine E_iload dX12_laysJoined_62 rfl ?_
        refine E_callV3 (fr' := 4) (k1 := 0) (n1 := 0) (k2 := 0) (n2 := 0) dX12_laysJoined_64 kO_X12_formOf kL_X12_238 (l_128 hL) (k_128 hL) ⟨by decide, rfl⟩ rfl rfl rfl (by decide) (by decide) (by exact Nat.le_of_ble_eq_true rfl) rfl ?_
        refine sp_X12_formOf h.b (by omega) (by omega) (by omega) ?_
        refine gKv ?_
        refine E_callV4 (fr' := 1) (k1 := 0) (n1 := 0) (k2 := 0) (n2 := 0) dX12_laysJoined_67 kO_X12_addsGlyph kL_X12_242 (l_128 hL) (k_128 hL) ⟨by decide, rfl⟩ rfl rfl rfl rfl (by decide) (by decide) (by exact Nat.le_of_ble_eq_true rfl) rfl ?_
        have hf4 : cN c 142 k ≤ 3 := (h.wf.tx k).2
        refine sp_X12_addsGlyph h (by omega) (by omega) (by omega) (by rw [hjl]; omega) (fun M h => ?_)
        have hL := h.lay
        have hn := h.len
        refine gKn ?_
        refine E_iinc_n (d := 1) dX12_laysJoined_70 rfl rfl rfl (by decide) rfl ?_
        refine E_goto (tgt := 6) dX12_laysJoined_73 (by decide) ?_
        refine fin (by omega) _ _ _ ?_ h ?_
        · unfold clu; rw [hr, cI_t e]
        · rw [hr, cI_t e]
      · rw [cI_f e] at hv; subst hv
        generalize hz : rfd (fun j => a ≤ j ∧ ¬ cMk (cN c 141 j)) k - 1 = z at *
        have hz2 : z < 16 := by omega
        refine E_iload_n dX12_laysJoined_25 rfl ?_
        refine E_goto (tgt := 31) dX12_laysJoined_26 (by decide) ?_
        refine E_istore_n dX12_laysJoined_31 (Nat.le_of_ble_eq_true rfl) (by decide) rfl ?_
        refine E_aload_n dX12_laysJoined_32 rfl ?_
        refine E_aload_n dX12_laysJoined_33 rfl ?_
        refine E_getRL dX12_laysJoined_34 kF_X12_47 kY_12 (Or.inr ⟨_, rfl⟩) (l_128 hL) (k_128 hL) (r_128_15 hL) ?_
        refine E_iload dX12_laysJoined_37 rfl ?_
        refine E_ialdL (v := nI (cN _ 141 _)) dX12_laysJoined_39 (l_141 hL) (k_141 hL) rfl (by first | omega | exact h.n256 _) (by decide) (h.gc (Or.inl ⟨by decide, by decide, by decide⟩)) ?_
        refine E_iload_n dX12_laysJoined_40 rfl ?_
        refine E_bipush (v := -100) dX12_laysJoined_41 (by decide) ?_
        refine E_icmp_ne (tgt := 51) dX12_laysJoined_43 (by decide) (fun _ => ?_) (fun c0 => absurd (nI_ne100 (by omega)) c0)
        refine E_iload_n dX12_laysJoined_51 rfl ?_
        refine E_aload_n dX12_laysJoined_52 rfl ?_
        refine E_getRL dX12_laysJoined_53 kF_X12_50 kY_12 (Or.inr ⟨_, rfl⟩) (l_128 hL) (k_128 hL) (r_128_16 hL) ?_
        refine E_iload dX12_laysJoined_56 rfl ?_
        refine E_ialdL (v := nI (cN _ 142 _)) dX12_laysJoined_58 (l_142 hL) (k_142 hL) rfl (by first | omega | exact h.n256 _) (by decide) (h.gc (Or.inl ⟨by decide, by decide, by decide⟩)) ?_
        refine E_aload_n dX12_laysJoined_59 rfl ?_
        refine E_iload_n dX12_laysJoined_60 rfl ?_
        refine E_iload_n dX12_laysJoined_61 rfl ?_
        refine E_iload dX12_laysJoined_62 rfl ?_
        refine E_callV3 (fr' := 4) (k1 := 0) (n1 := 0) (k2 := 0) (n2 := 0) dX12_laysJoined_64 kO_X12_formOf kL_X12_238 (l_128 hL) (k_128 hL) ⟨by decide, rfl⟩ rfl rfl rfl (by decide) (by decide) (by exact Nat.le_of_ble_eq_true rfl) rfl ?_
        refine sp_X12_formOf h.b (by omega) (by omega) (by omega) ?_
        refine gKv ?_
        refine E_callV4 (fr' := 1) (k1 := 0) (n1 := 0) (k2 := 0) (n2 := 0) dX12_laysJoined_67 kO_X12_addsGlyph kL_X12_242 (l_128 hL) (k_128 hL) ⟨by decide, rfl⟩ rfl rfl rfl rfl (by decide) (by decide) (by exact Nat.le_of_ble_eq_true rfl) rfl ?_
        have hf4 : cN c 142 k ≤ 3 := (h.wf.tx k).2
        refine sp_X12_addsGlyph h (by omega) (by omega) (by omega) (by rw [hjl]; omega) (fun M h => ?_)
        have hL := h.lay
        have hn := h.len
        refine gKn ?_
        refine E_iinc_n (d := 1) dX12_laysJoined_70 rfl rfl rfl (by decide) rfl ?_
        refine E_goto (tgt := 6) dX12_laysJoined_73 (by decide) ?_
        refine fin (by omega) _ _ _ ?_ h ?_
        · unfold clu; rw [hr, cI_f e, hz]
        · rw [hr, cI_f e, hz]
set_option maxRecDepth 100000 in
set_option maxHeartbeats 4000000 in
theorem sp_X12_laysJoined {g : gG} {Q : Option Value ⊕ String → gM → Prop} {M : gM} {c : Cf} {f : Nat} {M0 : gM} {w : Int32} (h : mX c f M0 [] w M) {a b : Nat} (hab : a ≤ b) (hb : b ≤ 16) (K : ∀ M, mX c f M0 (jnd c a b (b - a)) w M → Q (.inl none) M) : E g 5 0 0 mX12_laysJoined 0 [.ref 129, .int (nI a), .int (nI b), .null, .null] [] M Q := by
  have hL := h.lay
  refine E_bipush (v := -100) dX12_laysJoined_0 (by decide) ?_
  refine E_istore_n dX12_laysJoined_2 (Nat.le_of_ble_eq_true rfl) (by decide) rfl ?_
  refine E_iload_n dX12_laysJoined_3 rfl ?_
  refine E_istore dX12_laysJoined_4 (Nat.le_of_ble_eq_true rfl) (by decide) rfl ?_
  refine lp_X12_laysJoined hab hb K a hab (Nat.le_refl _) M _ (by rw [Nat.sub_self]; exact h) ?_
  rw [rfd_eq (P := (fun j => a ≤ j ∧ ¬ cMk (cN c 141 j))) (k := a) (r := 0) (by omega) (fun j q => by omega) (fun j _ q => by omega), cI_t rfl]
noncomputable def bk (c : Cf) (b k : Nat) : Nat := cI (k + 1 < b ∧ (cN c 141 (k + 1) = 2 ∨ cN c 141 (k + 1) = 3)) (k + 2) (k + 1)
theorem bk_b {c : Cf} {b k : Nat} (h : k < b) : k + 1 ≤ bk c b k ∧ bk c b k ≤ b := by
  unfold bk
  by_cases e : k + 1 < b ∧ (cN c 141 (k + 1) = 2 ∨ cN c 141 (k + 1) = 3)
  · rw [cI_t e]; omega
  · rw [cI_f e]; omega
noncomputable def bv (c : Cf) (b k : Nat) : Nat := fnd (fun j => ¬ cVo (cN c 141 j)) b k
theorem bv_b {c : Cf} {b k : Nat} (h : k ≤ b) : k ≤ bv c b k ∧ bv c b k ≤ b := ⟨(fnd_spec h).1, (fnd_spec h).2.1⟩
noncomputable def bcn (c : Cf) (b : Nat) : Nat → Nat → Nat
  | 0, k => bv c b k
  | t + 1, k => cI (k < b ∧ cN c 141 k = 39) (cI (bk c b k < b ∧ cCo (cN c 141 (bk c b k))) (bcn c b t (bk c b k + 1)) (bv c b (bk c b k))) (bv c b k)
noncomputable def bcE (c : Cf) (b k : Nat) : Nat := bcn c b b k
theorem bcn_m {c : Cf} {b : Nat} : ∀ t t' k, b - k ≤ t → b - k ≤ t' → bcn c b t k = bcn c b t' k := by
  intro t
  induction t with
  | zero =>
    intro t' k h1 h2
    cases t' with
    | zero => rfl
    | succ t' => show bv c b k = cI _ _ _; rw [cI_f (fun q => by omega)]
  | succ t ih =>
    intro t' k h1 h2
    cases t' with
    | zero => show cI _ _ _ = bv c b k; rw [cI_f (fun q => by omega)]
    | succ t' =>
      show cI _ _ _ = cI _ _ _
      by_cases e : k < b ∧ cN c 141 k = 39
      · rw [cI_t e, cI_t e]
        by_cases e2 : bk c b k < b ∧ cCo (cN c 141 (bk c b k))
        · rw [cI_t e2, cI_t e2]
          have := bk_b (c := c) e.1
          exact ih _ _ (by omega) (by omega)
        · rw [cI_f e2, cI_f e2]
      · rw [cI_f e, cI_f e]
theorem bcE_0 {c : Cf} {b k : Nat} (h : ¬ (k < b ∧ cN c 141 k = 39)) : bcE c b k = bv c b k := by
  unfold bcE; rw [bcn_m b (b + 1) k (by omega) (by omega)]; exact cI_f h
theorem bcE_1 {c : Cf} {b k : Nat} (h : k < b ∧ cN c 141 k = 39) (h2 : ¬ (bk c b k < b ∧ cCo (cN c 141 (bk c b k)))) : bcE c b k = bv c b (bk c b k) := by
  unfold bcE; rw [bcn_m b (b + 1) k (by omega) (by omega)]; exact (cI_t h).trans (cI_f h2)
theorem bcE_2 {c : Cf} {b k : Nat} (h : k < b ∧ cN c 141 k = 39) (h2 : bk c b k < b ∧ cCo (cN c 141 (bk c b k))) : bcE c b k = bcE c b (bk c b k + 1) := by
  unfold bcE; rw [bcn_m b (b + 1) k (by omega) (by omega)]; exact (cI_t h).trans (cI_t h2)
theorem bcE_b {c : Cf} {b : Nat} : ∀ k, k ≤ b → k ≤ bcE c b k ∧ bcE c b k ≤ b ∧ (k < b → (cN c 141 k = 39 ∨ cVo (cN c 141 k)) → k < bcE c b k) := by
  have key : ∀ t k, b - k ≤ t → k ≤ b → k ≤ bcE c b k ∧ bcE c b k ≤ b ∧ (k < b → (cN c 141 k = 39 ∨ cVo (cN c 141 k)) → k < bcE c b k) := by
    intro t
    induction t with
    | zero => intro k h1 h2; rw [bcE_0 (fun q => by omega)]; have := bv_b (c := c) h2; exact ⟨this.1, this.2, fun q => by omega⟩
    | succ t ih =>
      intro k h1 h2
      by_cases e : k < b ∧ cN c 141 k = 39
      · have h3 := bk_b (c := c) e.1
        by_cases e2 : bk c b k < b ∧ cCo (cN c 141 (bk c b k))
        · rw [bcE_2 e e2]
          have := ih (bk c b k + 1) (by omega) (by omega)
          exact ⟨by omega, this.2.1, fun _ _ => by omega⟩
        · rw [bcE_1 e e2]
          have := bv_b (c := c) h3.2
          exact ⟨by omega, this.2, fun _ _ => by omega⟩
      · rw [bcE_0 e]
        have := bv_b (c := c) h2
        refine ⟨this.1, this.2, fun q q2 => ?_⟩
        rcases q2 with q2 | q2
        · exact absurd ⟨q, q2⟩ e
        · unfold bv; rw [fnd_skip q (not_not_intro q2)]; exact (fnd_spec (by omega)).1
  exact fun k hk => key (b - k) k (Nat.le_refl _) hk
set_option maxRecDepth 100000 in
set_option maxHeartbeats 4000000 in
theorem sp_X12_behindKiller {g : gG} {M : gM} {Q : Option Value ⊕ String → gM → Prop} {c : Cf} (h : bS c M) {b k : Nat} (hb : b ≤ 16) (hk : k < b) (K : Q (.inl (some (.int (nI (bk c b k))))) M) : E g 1 0 0 mX12_behindKiller 0 [.ref 129, .int (nI b), .int (nI k)] [] M Q := by
  have hL := h.lay
  have tx := (h.wf.tx (k + 1)).1
  refine E_iload_n dX12_behindKiller_0 rfl ?_
  refine E_iconst (v := nI 1) dX12_behindKiller_1 (by decide) ?_
  refine E_iadd_n dX12_behindKiller_2 ?_
  refine E_iload_n dX12_behindKiller_3 rfl ?_
  refine E_icmp_ge_n (tgt := 37) dX12_behindKiller_4 (by decide) (by omega) (by omega) (fun c_4 => ?_) (fun c_4 => ?_)
  · refine E_iload_n dX12_behindKiller_37 rfl ?_
    refine E_iconst (v := nI 1) dX12_behindKiller_38 (by decide) ?_
    refine E_iadd_n dX12_behindKiller_39 ?_
    refine E_iret dX12_behindKiller_40 (Or.inl rfl) ?_
    first
      | (rw [show bk c b k = k + 2 from cI_t (by omega)] at K; exact K)
      | (rw [show bk c b k = k + 1 from cI_f (by omega)] at K; exact K)
  · refine E_aload_n dX12_behindKiller_7 rfl ?_
    refine E_getRL dX12_behindKiller_8 kF_X12_47 kY_12 (Or.inr ⟨_, rfl⟩) (l_128 hL) (k_128 hL) (r_128_15 hL) ?_
    refine E_iload_n dX12_behindKiller_11 rfl ?_
    refine E_iconst (v := nI 1) dX12_behindKiller_12 (by decide) ?_
    refine E_iadd_n dX12_behindKiller_13 ?_
    refine E_ialdL (v := nI (cN _ 141 _)) dX12_behindKiller_14 (l_141 hL) (k_141 hL) rfl (by first | omega | exact h.n256 _) (by decide) (h.gc (Or.inl ⟨by decide, by decide, by decide⟩)) ?_
    refine E_iconst (v := nI 2) dX12_behindKiller_15 (by decide) ?_
    refine E_icmp_eq_n (tgt := 31) dX12_behindKiller_16 (by decide) (by omega) (by omega) (fun c_16 => ?_) (fun c_16 => ?_)
    · refine E_iload_n dX12_behindKiller_31 rfl ?_
      refine E_iconst (v := nI 2) dX12_behindKiller_32 (by decide) ?_
      refine E_iadd_n dX12_behindKiller_33 ?_
      refine E_goto (tgt := 40) dX12_behindKiller_34 (by decide) ?_
      refine E_iret dX12_behindKiller_40 (Or.inl rfl) ?_
      first
        | (rw [show bk c b k = k + 2 from cI_t (by omega)] at K; exact K)
        | (rw [show bk c b k = k + 1 from cI_f (by omega)] at K; exact K)
    · refine E_aload_n dX12_behindKiller_19 rfl ?_
      refine E_getRL dX12_behindKiller_20 kF_X12_47 kY_12 (Or.inr ⟨_, rfl⟩) (l_128 hL) (k_128 hL) (r_128_15 hL) ?_
      refine E_iload_n dX12_behindKiller_23 rfl ?_
      refine E_iconst (v := nI 1) dX12_behindKiller_24 (by decide) ?_
      refine E_iadd_n dX12_behindKiller_25 ?_
      refine E_ialdL (v := nI (cN _ 141 _)) dX12_behindKiller_26 (l_141 hL) (k_141 hL) rfl (by first | omega | exact h.n256 _) (by decide) (h.gc (Or.inl ⟨by decide, by decide, by decide⟩)) ?_
      refine E_iconst (v := nI 3) dX12_behindKiller_27 (by decide) ?_
      refine E_icmp_ne_n (tgt := 37) dX12_behindKiller_28 (by decide) (by omega) (by omega) (fun c_28 => ?_) (fun c_28 => ?_)
      · refine E_iload_n dX12_behindKiller_37 rfl ?_
        refine E_iconst (v := nI 1) dX12_behindKiller_38 (by decide) ?_
        refine E_iadd_n dX12_behindKiller_39 ?_
        refine E_iret dX12_behindKiller_40 (Or.inl rfl) ?_
        first
          | (rw [show bk c b k = k + 2 from cI_t (by omega)] at K; exact K)
          | (rw [show bk c b k = k + 1 from cI_f (by omega)] at K; exact K)
      · refine E_iload_n dX12_behindKiller_31 rfl ?_
        refine E_iconst (v := nI 2) dX12_behindKiller_32 (by decide) ?_
        refine E_iadd_n dX12_behindKiller_33 ?_
        refine E_goto (tgt := 40) dX12_behindKiller_34 (by decide) ?_
        refine E_iret dX12_behindKiller_40 (Or.inl rfl) ?_
        first
          | (rw [show bk c b k = k + 2 from cI_t (by omega)] at K; exact K)
          | (rw [show bk c b k = k + 1 from cI_f (by omega)] at K; exact K)
set_option maxRecDepth 100000 in
set_option maxHeartbeats 4000000 in
theorem lp_X12_behindVowels {g : gG} {M : gM} {Q : Option Value ⊕ String → gM → Prop} {c : Cf} (h : bS c M) {b k0 : Nat} (hb : b ≤ 16) (K : Q (.inl (some (.int (nI (bv c b k0))))) M) : ∀ k, k ≤ b → fnd (fun j => ¬ cVo (cN c 141 j)) b k = bv c b k0 → E g 3 0 0 mX12_behindVowels 2 [.ref 129, .int (nI b), .int (nI k0), .int (nI k)] [] M Q := by
  have hL := h.lay
  refine lpUp b (fun k hk ih => ?_)
  intro he
  have tx := (h.wf.tx k).1
  refine E_iload_n dX12_behindVowels_2 rfl ?_
  refine E_iload_n dX12_behindVowels_3 rfl ?_
  refine E_icmp_ge_n (tgt := 25) dX12_behindVowels_4 (by decide) (by omega) (by omega) (fun c_4 => ?_) (fun c_4 => ?_)
  · refine E_iload_n dX12_behindVowels_25 rfl ?_
    refine E_iret dX12_behindVowels_26 (Or.inl rfl) ?_
    first
      | (rw [fnd_end (by omega)] at he; rw [he]; exact K)
      | (rw [fnd_hit (by omega) (by assumption)] at he; rw [he]; exact K)
  · refine E_aload_n dX12_behindVowels_7 rfl ?_
    refine E_getRL dX12_behindVowels_8 kF_X12_47 kY_12 (Or.inr ⟨_, rfl⟩) (l_128 hL) (k_128 hL) (r_128_15 hL) ?_
    refine E_iload_n dX12_behindVowels_11 rfl ?_
    refine E_ialdL (v := nI (cN _ 141 _)) dX12_behindVowels_12 (l_141 hL) (k_141 hL) rfl (by first | omega | exact h.n256 _) (by decide) (h.gc (Or.inl ⟨by decide, by decide, by decide⟩)) ?_
    refine E_callS1 (fr' := 2) (k1 := 0) (n1 := 0) (k2 := 0) (n2 := 0) dX12_behindVowels_13 kO_X12_isVowel kL_X12_246 rfl (by decide) (by decide) (by exact Nat.le_of_ble_eq_true rfl) (Or.inl rfl) rfl ?_
    refine sp_X12_isVowelN (by first | omega | exact Nat.lt_trans (h.wf.tx _).1 (by decide) | exact Nat.lt_trans (h.ok.at _).1 (by decide)) ?_
    refine gKv ?_
    refine E_if_eq_b (tgt := 25) dX12_behindVowels_16 (by decide) (fun c_16 => ?_) (fun c_16 => ?_)
    · refine E_iload_n dX12_behindVowels_25 rfl ?_
      refine E_iret dX12_behindVowels_26 (Or.inl rfl) ?_
      first
        | (rw [fnd_end (by omega)] at he; rw [he]; exact K)
        | (rw [fnd_hit (by omega) (by assumption)] at he; rw [he]; exact K)
    · refine E_iinc_n (d := 1) dX12_behindVowels_19 rfl rfl rfl (by decide) rfl ?_
      refine E_goto (tgt := 2) dX12_behindVowels_22 (by decide) ?_
      exact ih (by omega) (by rw [← he]; exact (fnd_skip (by omega) (not_not_intro (by assumption))).symm)
set_option maxRecDepth 100000 in
set_option maxHeartbeats 4000000 in
theorem sp_X12_behindVowels {g : gG} {M : gM} {Q : Option Value ⊕ String → gM → Prop} {c : Cf} (h : bS c M) {b k : Nat} (hb : b ≤ 16) (hk : k ≤ b) (K : Q (.inl (some (.int (nI (bv c b k))))) M) : E g 3 0 0 mX12_behindVowels 0 [.ref 129, .int (nI b), .int (nI k), .null] [] M Q := by
  have hL := h.lay
  refine E_iload_n dX12_behindVowels_0 rfl ?_
  refine E_istore_n dX12_behindVowels_1 (Nat.le_of_ble_eq_true rfl) (by decide) rfl ?_
  exact lp_X12_behindVowels h hb K k hk rfl
set_option maxRecDepth 100000 in
set_option maxHeartbeats 4000000 in
theorem lp_X12_behindConsonants {g : gG} {M : gM} {Q : Option Value ⊕ String → gM → Prop} {c : Cf} (h : bS c M) {b k0 : Nat} (hb : b ≤ 16) (K : Q (.inl (some (.int (nI (bcE c b k0))))) M) : ∀ t k, b - k ≤ t → k ≤ b → bcE c b k = bcE c b k0 → ∀ v5, E g 4 0 0 mX12_behindConsonants 5 [.ref 129, .int (nI b), .int (nI k0), .int (nI k), .int (nI 1), v5] [] M Q := by
  have hL := h.lay
  intro t
  induction t with
  | zero =>
    intro k ht hk he v5
    have tx := (h.wf.tx k).1
    refine E_iload dX12_behindConsonants_5 rfl ?_
    refine E_if_eq (tgt := 81) dX12_behindConsonants_7 (by decide) (fun c0 => absurd c0 (by decide)) (fun _ => ?_)
    refine E_iload_n dX12_behindConsonants_10 rfl ?_
    refine E_iload_n dX12_behindConsonants_11 rfl ?_
    refine E_icmp_ge_n (tgt := 35) dX12_behindConsonants_12 (by decide) (by omega) (by omega) (fun c_12 => ?_) (fun c_12 => ?_)
    · refine E_iload_n dX12_behindConsonants_35 rfl ?_
      refine E_istore dX12_behindConsonants_36 (Nat.le_of_ble_eq_true rfl) (by decide) rfl ?_
      refine E_iload dX12_behindConsonants_38 rfl ?_
      refine E_iload_n dX12_behindConsonants_40 rfl ?_
      refine E_icmp_ge_n (tgt := 61) dX12_behindConsonants_41 (by decide) (by omega) (by omega) (fun c_41 => ?_) (fun c_41 => ?_)
      · refine E_iconst (v := nI 0) dX12_behindConsonants_61 (by decide) ?_
        refine E_istore dX12_behindConsonants_62 (Nat.le_of_ble_eq_true rfl) (by decide) rfl ?_
        refine E_iload dX12_behindConsonants_64 rfl ?_
        refine E_if_eq (tgt := 76) dX12_behindConsonants_66 (by decide) (fun _ => ?_) (fun c0 => absurd (by decide) c0)
        refine E_iload_n dX12_behindConsonants_76 rfl ?_
        refine E_istore_n dX12_behindConsonants_77 (Nat.le_of_ble_eq_true rfl) (by decide) rfl ?_
        refine E_goto (tgt := 5) dX12_behindConsonants_78 (by decide) ?_
        refine E_iload dX12_behindConsonants_5 rfl ?_
        refine E_if_eq (tgt := 81) dX12_behindConsonants_7 (by decide) (fun _ => ?_) (fun c0 => absurd (by decide) c0)
        refine E_iload_n dX12_behindConsonants_81 rfl ?_
        refine E_iload_n dX12_behindConsonants_82 rfl ?_
        refine E_icmp_ge_n (tgt := 106) dX12_behindConsonants_83 (by decide) (by omega) (by omega) (fun e_83 => ?_) (fun e_83 => ?_)
        · refine E_iload_n dX12_behindConsonants_106 rfl ?_
          refine E_istore_n dX12_behindConsonants_107 (Nat.le_of_ble_eq_true rfl) (by decide) rfl ?_
          refine E_aload_n dX12_behindConsonants_108 rfl ?_
          refine E_iload_n dX12_behindConsonants_109 rfl ?_
          refine E_iload_n dX12_behindConsonants_110 rfl ?_
          refine E_callV2 (fr' := 3) (k1 := 0) (n1 := 0) (k2 := 0) (n2 := 0) dX12_behindConsonants_111 kO_X12_behindVowels kL_X12_255 (l_128 hL) (k_128 hL) ⟨by decide, rfl⟩ rfl rfl (by decide) (by decide) (by exact Nat.le_of_ble_eq_true rfl) rfl ?_
          refine sp_X12_behindVowels h.b (by omega) (by omega) ?_
          refine gKv ?_
          refine E_iret dX12_behindConsonants_114 (Or.inl rfl) ?_
          first
            | (rw [bcE_0 (c := c) (b := b) (k := k) (by omega)] at he; rw [← he] at K; exact K)
            | (rw [bcE_1 (c := c) (b := b) (k := k) (by omega) (by omega)] at he; rw [← he] at K; exact K)
        · refine E_aload_n dX12_behindConsonants_86 rfl ?_
          refine E_getRL dX12_behindConsonants_87 kF_X12_47 kY_12 (Or.inr ⟨_, rfl⟩) (l_128 hL) (k_128 hL) (r_128_15 hL) ?_
          refine E_iload_n dX12_behindConsonants_90 rfl ?_
          refine E_ialdL (v := nI (cN _ 141 _)) dX12_behindConsonants_91 (l_141 hL) (k_141 hL) rfl (by first | omega | exact h.n256 _) (by decide) (h.gc (Or.inl ⟨by decide, by decide, by decide⟩)) ?_
          refine E_bipush (v := nI 39) dX12_behindConsonants_92 (by decide) ?_
          refine E_icmp_ne_n (tgt := 106) dX12_behindConsonants_94 (by decide) (by omega) (by omega) (fun e_94 => ?_) (fun e_94 => ?_)
          · refine E_iload_n dX12_behindConsonants_106 rfl ?_
            refine E_istore_n dX12_behindConsonants_107 (Nat.le_of_ble_eq_true rfl) (by decide) rfl ?_
            refine E_aload_n dX12_behindConsonants_108 rfl ?_
            refine E_iload_n dX12_behindConsonants_109 rfl ?_
            refine E_iload_n dX12_behindConsonants_110 rfl ?_
            refine E_callV2 (fr' := 3) (k1 := 0) (n1 := 0) (k2 := 0) (n2 := 0) dX12_behindConsonants_111 kO_X12_behindVowels kL_X12_255 (l_128 hL) (k_128 hL) ⟨by decide, rfl⟩ rfl rfl (by decide) (by decide) (by exact Nat.le_of_ble_eq_true rfl) rfl ?_
            refine sp_X12_behindVowels h.b (by omega) (by omega) ?_
            refine gKv ?_
            refine E_iret dX12_behindConsonants_114 (Or.inl rfl) ?_
            first
              | (rw [bcE_0 (c := c) (b := b) (k := k) (by omega)] at he; rw [← he] at K; exact K)
              | (rw [bcE_1 (c := c) (b := b) (k := k) (by omega) (by omega)] at he; rw [← he] at K; exact K)
          · refine E_aload_n dX12_behindConsonants_97 rfl ?_
            refine E_iload_n dX12_behindConsonants_98 rfl ?_
            refine E_iload_n dX12_behindConsonants_99 rfl ?_
            refine E_callV2 (fr' := 1) (k1 := 0) (n1 := 0) (k2 := 0) (n2 := 0) dX12_behindConsonants_100 kO_X12_behindKiller kL_X12_249 (l_128 hL) (k_128 hL) ⟨by decide, rfl⟩ rfl rfl (by decide) (by decide) (by exact Nat.le_of_ble_eq_true rfl) rfl ?_
            refine sp_X12_behindKiller h.b (by omega) (by omega) ?_
            refine gKv ?_
            refine E_goto (tgt := 107) dX12_behindConsonants_103 (by decide) ?_
            refine E_istore_n dX12_behindConsonants_107 (Nat.le_of_ble_eq_true rfl) (by decide) rfl ?_
            refine E_aload_n dX12_behindConsonants_108 rfl ?_
            refine E_iload_n dX12_behindConsonants_109 rfl ?_
            refine E_iload_n dX12_behindConsonants_110 rfl ?_
            refine E_callV2 (fr' := 3) (k1 := 0) (n1 := 0) (k2 := 0) (n2 := 0) dX12_behindConsonants_111 kO_X12_behindVowels kL_X12_255 (l_128 hL) (k_128 hL) ⟨by decide, rfl⟩ rfl rfl (by decide) (by decide) (by exact Nat.le_of_ble_eq_true rfl) rfl ?_
            refine sp_X12_behindVowels h.b (by omega) (by omega) ?_
            refine gKv ?_
            refine E_iret dX12_behindConsonants_114 (Or.inl rfl) ?_
            first
              | (rw [bcE_0 (c := c) (b := b) (k := k) (by omega)] at he; rw [← he] at K; exact K)
              | (rw [bcE_1 (c := c) (b := b) (k := k) (by omega) (by omega)] at he; rw [← he] at K; exact K)
      · refine E_aload_n dX12_behindConsonants_44 rfl ?_
        refine E_getRL dX12_behindConsonants_45 kF_X12_47 kY_12 (Or.inr ⟨_, rfl⟩) (l_128 hL) (k_128 hL) (r_128_15 hL) ?_
        refine E_iload dX12_behindConsonants_48 rfl ?_
        refine E_ialdL (v := nI (cN _ 141 _)) dX12_behindConsonants_50 (l_141 hL) (k_141 hL) rfl (by first | omega | exact h.n256 _) (by decide) (h.gc (Or.inl ⟨by decide, by decide, by decide⟩)) ?_
        refine E_callS1 (fr' := 2) (k1 := 0) (n1 := 0) (k2 := 0) (n2 := 0) dX12_behindConsonants_51 kO_X12_isConsonant kL_X12_252 rfl (by decide) (by decide) (by exact Nat.le_of_ble_eq_true rfl) (Or.inl rfl) rfl ?_
        refine sp_X12_isConsonantN (by first | omega | exact Nat.lt_trans (h.wf.tx _).1 (by decide) | exact Nat.lt_trans (h.ok.at _).1 (by decide)) ?_
        refine gKv ?_
        refine E_if_eq_b (tgt := 61) dX12_behindConsonants_54 (by decide) (fun c_54 => ?_) (fun c_54 => ?_)
        · refine E_iconst (v := nI 0) dX12_behindConsonants_61 (by decide) ?_
          refine E_istore dX12_behindConsonants_62 (Nat.le_of_ble_eq_true rfl) (by decide) rfl ?_
          refine E_iload dX12_behindConsonants_64 rfl ?_
          refine E_if_eq (tgt := 76) dX12_behindConsonants_66 (by decide) (fun _ => ?_) (fun c0 => absurd (by decide) c0)
          refine E_iload_n dX12_behindConsonants_76 rfl ?_
          refine E_istore_n dX12_behindConsonants_77 (Nat.le_of_ble_eq_true rfl) (by decide) rfl ?_
          refine E_goto (tgt := 5) dX12_behindConsonants_78 (by decide) ?_
          refine E_iload dX12_behindConsonants_5 rfl ?_
          refine E_if_eq (tgt := 81) dX12_behindConsonants_7 (by decide) (fun _ => ?_) (fun c0 => absurd (by decide) c0)
          refine E_iload_n dX12_behindConsonants_81 rfl ?_
          refine E_iload_n dX12_behindConsonants_82 rfl ?_
          refine E_icmp_ge_n (tgt := 106) dX12_behindConsonants_83 (by decide) (by omega) (by omega) (fun e_83 => ?_) (fun e_83 => ?_)
          · refine E_iload_n dX12_behindConsonants_106 rfl ?_
            refine E_istore_n dX12_behindConsonants_107 (Nat.le_of_ble_eq_true rfl) (by decide) rfl ?_
            refine E_aload_n dX12_behindConsonants_108 rfl ?_
            refine E_iload_n dX12_behindConsonants_109 rfl ?_
            refine E_iload_n dX12_behindConsonants_110 rfl ?_
            refine E_callV2 (fr' := 3) (k1 := 0) (n1 := 0) (k2 := 0) (n2 := 0) dX12_behindConsonants_111 kO_X12_behindVowels kL_X12_255 (l_128 hL) (k_128 hL) ⟨by decide, rfl⟩ rfl rfl (by decide) (by decide) (by exact Nat.le_of_ble_eq_true rfl) rfl ?_
            refine sp_X12_behindVowels h.b (by omega) (by omega) ?_
            refine gKv ?_
            refine E_iret dX12_behindConsonants_114 (Or.inl rfl) ?_
            first
              | (rw [bcE_0 (c := c) (b := b) (k := k) (by omega)] at he; rw [← he] at K; exact K)
              | (rw [bcE_1 (c := c) (b := b) (k := k) (by omega) (by omega)] at he; rw [← he] at K; exact K)
          · refine E_aload_n dX12_behindConsonants_86 rfl ?_
            refine E_getRL dX12_behindConsonants_87 kF_X12_47 kY_12 (Or.inr ⟨_, rfl⟩) (l_128 hL) (k_128 hL) (r_128_15 hL) ?_
            refine E_iload_n dX12_behindConsonants_90 rfl ?_
            refine E_ialdL (v := nI (cN _ 141 _)) dX12_behindConsonants_91 (l_141 hL) (k_141 hL) rfl (by first | omega | exact h.n256 _) (by decide) (h.gc (Or.inl ⟨by decide, by decide, by decide⟩)) ?_
            refine E_bipush (v := nI 39) dX12_behindConsonants_92 (by decide) ?_
            refine E_icmp_ne_n (tgt := 106) dX12_behindConsonants_94 (by decide) (by omega) (by omega) (fun e_94 => ?_) (fun e_94 => ?_)
            · refine E_iload_n dX12_behindConsonants_106 rfl ?_
              refine E_istore_n dX12_behindConsonants_107 (Nat.le_of_ble_eq_true rfl) (by decide) rfl ?_
              refine E_aload_n dX12_behindConsonants_108 rfl ?_
              refine E_iload_n dX12_behindConsonants_109 rfl ?_
              refine E_iload_n dX12_behindConsonants_110 rfl ?_
              refine E_callV2 (fr' := 3) (k1 := 0) (n1 := 0) (k2 := 0) (n2 := 0) dX12_behindConsonants_111 kO_X12_behindVowels kL_X12_255 (l_128 hL) (k_128 hL) ⟨by decide, rfl⟩ rfl rfl (by decide) (by decide) (by exact Nat.le_of_ble_eq_true rfl) rfl ?_
              refine sp_X12_behindVowels h.b (by omega) (by omega) ?_
              refine gKv ?_
              refine E_iret dX12_behindConsonants_114 (Or.inl rfl) ?_
              first
                | (rw [bcE_0 (c := c) (b := b) (k := k) (by omega)] at he; rw [← he] at K; exact K)
                | (rw [bcE_1 (c := c) (b := b) (k := k) (by omega) (by omega)] at he; rw [← he] at K; exact K)
            · refine E_aload_n dX12_behindConsonants_97 rfl ?_
              refine E_iload_n dX12_behindConsonants_98 rfl ?_
              refine E_iload_n dX12_behindConsonants_99 rfl ?_
              refine E_callV2 (fr' := 1) (k1 := 0) (n1 := 0) (k2 := 0) (n2 := 0) dX12_behindConsonants_100 kO_X12_behindKiller kL_X12_249 (l_128 hL) (k_128 hL) ⟨by decide, rfl⟩ rfl rfl (by decide) (by decide) (by exact Nat.le_of_ble_eq_true rfl) rfl ?_
              refine sp_X12_behindKiller h.b (by omega) (by omega) ?_
              refine gKv ?_
              refine E_goto (tgt := 107) dX12_behindConsonants_103 (by decide) ?_
              refine E_istore_n dX12_behindConsonants_107 (Nat.le_of_ble_eq_true rfl) (by decide) rfl ?_
              refine E_aload_n dX12_behindConsonants_108 rfl ?_
              refine E_iload_n dX12_behindConsonants_109 rfl ?_
              refine E_iload_n dX12_behindConsonants_110 rfl ?_
              refine E_callV2 (fr' := 3) (k1 := 0) (n1 := 0) (k2 := 0) (n2 := 0) dX12_behindConsonants_111 kO_X12_behindVowels kL_X12_255 (l_128 hL) (k_128 hL) ⟨by decide, rfl⟩ rfl rfl (by decide) (by decide) (by exact Nat.le_of_ble_eq_true rfl) rfl ?_
              refine sp_X12_behindVowels h.b (by omega) (by omega) ?_
              refine gKv ?_
              refine E_iret dX12_behindConsonants_114 (Or.inl rfl) ?_
              first
                | (rw [bcE_0 (c := c) (b := b) (k := k) (by omega)] at he; rw [← he] at K; exact K)
                | (rw [bcE_1 (c := c) (b := b) (k := k) (by omega) (by omega)] at he; rw [← he] at K; exact K)
        · exfalso; omega
    · refine E_aload_n dX12_behindConsonants_15 rfl ?_
      refine E_getRL dX12_behindConsonants_16 kF_X12_47 kY_12 (Or.inr ⟨_, rfl⟩) (l_128 hL) (k_128 hL) (r_128_15 hL) ?_
      refine E_iload_n dX12_behindConsonants_19 rfl ?_
      refine E_ialdL (v := nI (cN _ 141 _)) dX12_behindConsonants_20 (l_141 hL) (k_141 hL) rfl (by first | omega | exact h.n256 _) (by decide) (h.gc (Or.inl ⟨by decide, by decide, by decide⟩)) ?_
      refine E_bipush (v := nI 39) dX12_behindConsonants_21 (by decide) ?_
      refine E_icmp_ne_n (tgt := 35) dX12_behindConsonants_23 (by decide) (by omega) (by omega) (fun c_23 => ?_) (fun c_23 => ?_)
      · refine E_iload_n dX12_behindConsonants_35 rfl ?_
        refine E_istore dX12_behindConsonants_36 (Nat.le_of_ble_eq_true rfl) (by decide) rfl ?_
        refine E_iload dX12_behindConsonants_38 rfl ?_
        refine E_iload_n dX12_behindConsonants_40 rfl ?_
        refine E_icmp_ge_n (tgt := 61) dX12_behindConsonants_41 (by decide) (by omega) (by omega) (fun c_41 => ?_) (fun c_41 => ?_)
        · refine E_iconst (v := nI 0) dX12_behindConsonants_61 (by decide) ?_
          refine E_istore dX12_behindConsonants_62 (Nat.le_of_ble_eq_true rfl) (by decide) rfl ?_
          refine E_iload dX12_behindConsonants_64 rfl ?_
          refine E_if_eq (tgt := 76) dX12_behindConsonants_66 (by decide) (fun _ => ?_) (fun c0 => absurd (by decide) c0)
          refine E_iload_n dX12_behindConsonants_76 rfl ?_
          refine E_istore_n dX12_behindConsonants_77 (Nat.le_of_ble_eq_true rfl) (by decide) rfl ?_
          refine E_goto (tgt := 5) dX12_behindConsonants_78 (by decide) ?_
          refine E_iload dX12_behindConsonants_5 rfl ?_
          refine E_if_eq (tgt := 81) dX12_behindConsonants_7 (by decide) (fun _ => ?_) (fun c0 => absurd (by decide) c0)
          refine E_iload_n dX12_behindConsonants_81 rfl ?_
          refine E_iload_n dX12_behindConsonants_82 rfl ?_
          refine E_icmp_ge_n (tgt := 106) dX12_behindConsonants_83 (by decide) (by omega) (by omega) (fun e_83 => ?_) (fun e_83 => ?_)
          · refine E_iload_n dX12_behindConsonants_106 rfl ?_
            refine E_istore_n dX12_behindConsonants_107 (Nat.le_of_ble_eq_true rfl) (by decide) rfl ?_
            refine E_aload_n dX12_behindConsonants_108 rfl ?_
            refine E_iload_n dX12_behindConsonants_109 rfl ?_
            refine E_iload_n dX12_behindConsonants_110 rfl ?_
            refine E_callV2 (fr' := 3) (k1 := 0) (n1 := 0) (k2 := 0) (n2 := 0) dX12_behindConsonants_111 kO_X12_behindVowels kL_X12_255 (l_128 hL) (k_128 hL) ⟨by decide, rfl⟩ rfl rfl (by decide) (by decide) (by exact Nat.le_of_ble_eq_true rfl) rfl ?_
            refine sp_X12_behindVowels h.b (by omega) (by omega) ?_
            refine gKv ?_
            refine E_iret dX12_behindConsonants_114 (Or.inl rfl) ?_
            first
              | (rw [bcE_0 (c := c) (b := b) (k := k) (by omega)] at he; rw [← he] at K; exact K)
              | (rw [bcE_1 (c := c) (b := b) (k := k) (by omega) (by omega)] at he; rw [← he] at K; exact K)
          · refine E_aload_n dX12_behindConsonants_86 rfl ?_
            refine E_getRL dX12_behindConsonants_87 kF_X12_47 kY_12 (Or.inr ⟨_, rfl⟩) (l_128 hL) (k_128 hL) (r_128_15 hL) ?_
            refine E_iload_n dX12_behindConsonants_90 rfl ?_
            refine E_ialdL (v := nI (cN _ 141 _)) dX12_behindConsonants_91 (l_141 hL) (k_141 hL) rfl (by first | omega | exact h.n256 _) (by decide) (h.gc (Or.inl ⟨by decide, by decide, by decide⟩)) ?_
            refine E_bipush (v := nI 39) dX12_behindConsonants_92 (by decide) ?_
            refine E_icmp_ne_n (tgt := 106) dX12_behindConsonants_94 (by decide) (by omega) (by omega) (fun e_94 => ?_) (fun e_94 => ?_)
            · refine E_iload_n dX12_behindConsonants_106 rfl ?_
              refine E_istore_n dX12_behindConsonants_107 (Nat.le_of_ble_eq_true rfl) (by decide) rfl ?_
              refine E_aload_n dX12_behindConsonants_108 rfl ?_
              refine E_iload_n dX12_behindConsonants_109 rfl ?_
              refine E_iload_n dX12_behindConsonants_110 rfl ?_
              refine E_callV2 (fr' := 3) (k1 := 0) (n1 := 0) (k2 := 0) (n2 := 0) dX12_behindConsonants_111 kO_X12_behindVowels kL_X12_255 (l_128 hL) (k_128 hL) ⟨by decide, rfl⟩ rfl rfl (by decide) (by decide) (by exact Nat.le_of_ble_eq_true rfl) rfl ?_
              refine sp_X12_behindVowels h.b (by omega) (by omega) ?_
              refine gKv ?_
              refine E_iret dX12_behindConsonants_114 (Or.inl rfl) ?_
              first
                | (rw [bcE_0 (c := c) (b := b) (k := k) (by omega)] at he; rw [← he] at K; exact K)
                | (rw [bcE_1 (c := c) (b := b) (k := k) (by omega) (by omega)] at he; rw [← he] at K; exact K)
            · refine E_aload_n dX12_behindConsonants_97 rfl ?_
              refine E_iload_n dX12_behindConsonants_98 rfl ?_
              refine E_iload_n dX12_behindConsonants_99 rfl ?_
              refine E_callV2 (fr' := 1) (k1 := 0) (n1 := 0) (k2 := 0) (n2 := 0) dX12_behindConsonants_100 kO_X12_behindKiller kL_X12_249 (l_128 hL) (k_128 hL) ⟨by decide, rfl⟩ rfl rfl (by decide) (by decide) (by exact Nat.le_of_ble_eq_true rfl) rfl ?_
              refine sp_X12_behindKiller h.b (by omega) (by omega) ?_
              refine gKv ?_
              refine E_goto (tgt := 107) dX12_behindConsonants_103 (by decide) ?_
              refine E_istore_n dX12_behindConsonants_107 (Nat.le_of_ble_eq_true rfl) (by decide) rfl ?_
              refine E_aload_n dX12_behindConsonants_108 rfl ?_
              refine E_iload_n dX12_behindConsonants_109 rfl ?_
              refine E_iload_n dX12_behindConsonants_110 rfl ?_
              refine E_callV2 (fr' := 3) (k1 := 0) (n1 := 0) (k2 := 0) (n2 := 0) dX12_behindConsonants_111 kO_X12_behindVowels kL_X12_255 (l_128 hL) (k_128 hL) ⟨by decide, rfl⟩ rfl rfl (by decide) (by decide) (by exact Nat.le_of_ble_eq_true rfl) rfl ?_
              refine sp_X12_behindVowels h.b (by omega) (by omega) ?_
              refine gKv ?_
              refine E_iret dX12_behindConsonants_114 (Or.inl rfl) ?_
              first
                | (rw [bcE_0 (c := c) (b := b) (k := k) (by omega)] at he; rw [← he] at K; exact K)
                | (rw [bcE_1 (c := c) (b := b) (k := k) (by omega) (by omega)] at he; rw [← he] at K; exact K)
        · refine E_aload_n dX12_behindConsonants_44 rfl ?_
          refine E_getRL dX12_behindConsonants_45 kF_X12_47 kY_12 (Or.inr ⟨_, rfl⟩) (l_128 hL) (k_128 hL) (r_128_15 hL) ?_
          refine E_iload dX12_behindConsonants_48 rfl ?_
          refine E_ialdL (v := nI (cN _ 141 _)) dX12_behindConsonants_50 (l_141 hL) (k_141 hL) rfl (by first | omega | exact h.n256 _) (by decide) (h.gc (Or.inl ⟨by decide, by decide, by decide⟩)) ?_
          refine E_callS1 (fr' := 2) (k1 := 0) (n1 := 0) (k2 := 0) (n2 := 0) dX12_behindConsonants_51 kO_X12_isConsonant kL_X12_252 rfl (by decide) (by decide) (by exact Nat.le_of_ble_eq_true rfl) (Or.inl rfl) rfl ?_
          refine sp_X12_isConsonantN (by first | omega | exact Nat.lt_trans (h.wf.tx _).1 (by decide) | exact Nat.lt_trans (h.ok.at _).1 (by decide)) ?_
          refine gKv ?_
          refine E_if_eq_b (tgt := 61) dX12_behindConsonants_54 (by decide) (fun c_54 => ?_) (fun c_54 => ?_)
          · refine E_iconst (v := nI 0) dX12_behindConsonants_61 (by decide) ?_
            refine E_istore dX12_behindConsonants_62 (Nat.le_of_ble_eq_true rfl) (by decide) rfl ?_
            refine E_iload dX12_behindConsonants_64 rfl ?_
            refine E_if_eq (tgt := 76) dX12_behindConsonants_66 (by decide) (fun _ => ?_) (fun c0 => absurd (by decide) c0)
            refine E_iload_n dX12_behindConsonants_76 rfl ?_
            refine E_istore_n dX12_behindConsonants_77 (Nat.le_of_ble_eq_true rfl) (by decide) rfl ?_
            refine E_goto (tgt := 5) dX12_behindConsonants_78 (by decide) ?_
            refine E_iload dX12_behindConsonants_5 rfl ?_
            refine E_if_eq (tgt := 81) dX12_behindConsonants_7 (by decide) (fun _ => ?_) (fun c0 => absurd (by decide) c0)
            refine E_iload_n dX12_behindConsonants_81 rfl ?_
            refine E_iload_n dX12_behindConsonants_82 rfl ?_
            refine E_icmp_ge_n (tgt := 106) dX12_behindConsonants_83 (by decide) (by omega) (by omega) (fun e_83 => ?_) (fun e_83 => ?_)
            · refine E_iload_n dX12_behindConsonants_106 rfl ?_
              refine E_istore_n dX12_behindConsonants_107 (Nat.le_of_ble_eq_true rfl) (by decide) rfl ?_
              refine E_aload_n dX12_behindConsonants_108 rfl ?_
              refine E_iload_n dX12_behindConsonants_109 rfl ?_
              refine E_iload_n dX12_behindConsonants_110 rfl ?_
              refine E_callV2 (fr' := 3) (k1 := 0) (n1 := 0) (k2 := 0) (n2 := 0) dX12_behindConsonants_111 kO_X12_behindVowels kL_X12_255 (l_128 hL) (k_128 hL) ⟨by decide, rfl⟩ rfl rfl (by decide) (by decide) (by exact Nat.le_of_ble_eq_true rfl) rfl ?_
              refine sp_X12_behindVowels h.b (by omega) (by omega) ?_
              refine gKv ?_
              refine E_iret dX12_behindConsonants_114 (Or.inl rfl) ?_
              first
                | (rw [bcE_0 (c := c) (b := b) (k := k) (by omega)] at he; rw [← he] at K; exact K)
                | (rw [bcE_1 (c := c) (b := b) (k := k) (by omega) (by omega)] at he; rw [← he] at K; exact K)
            · refine E_aload_n dX12_behindConsonants_86 rfl ?_
              refine E_getRL dX12_behindConsonants_87 kF_X12_47 kY_12 (Or.inr ⟨_, rfl⟩) (l_128 hL) (k_128 hL) (r_128_15 hL) ?_
              refine E_iload_n dX12_behindConsonants_90 rfl ?_
              refine E_ialdL (v := nI (cN _ 141 _)) dX12_behindConsonants_91 (l_141 hL) (k_141 hL) rfl (by first | omega | exact h.n256 _) (by decide) (h.gc (Or.inl ⟨by decide, by decide, by decide⟩)) ?_
              refine E_bipush (v := nI 39) dX12_behindConsonants_92 (by decide) ?_
              refine E_icmp_ne_n (tgt := 106) dX12_behindConsonants_94 (by decide) (by omega) (by omega) (fun e_94 => ?_) (fun e_94 => ?_)
              · refine E_iload_n dX12_behindConsonants_106 rfl ?_
                refine E_istore_n dX12_behindConsonants_107 (Nat.le_of_ble_eq_true rfl) (by decide) rfl ?_
                refine E_aload_n dX12_behindConsonants_108 rfl ?_
                refine E_iload_n dX12_behindConsonants_109 rfl ?_
                refine E_iload_n dX12_behindConsonants_110 rfl ?_
                refine E_callV2 (fr' := 3) (k1 := 0) (n1 := 0) (k2 := 0) (n2 := 0) dX12_behindConsonants_111 kO_X12_behindVowels kL_X12_255 (l_128 hL) (k_128 hL) ⟨by decide, rfl⟩ rfl rfl (by decide) (by decide) (by exact Nat.le_of_ble_eq_true rfl) rfl ?_
                refine sp_X12_behindVowels h.b (by omega) (by omega) ?_
                refine gKv ?_
                refine E_iret dX12_behindConsonants_114 (Or.inl rfl) ?_
                first
                  | (rw [bcE_0 (c := c) (b := b) (k := k) (by omega)] at he; rw [← he] at K; exact K)
                  | (rw [bcE_1 (c := c) (b := b) (k := k) (by omega) (by omega)] at he; rw [← he] at K; exact K)
              · refine E_aload_n dX12_behindConsonants_97 rfl ?_
                refine E_iload_n dX12_behindConsonants_98 rfl ?_
                refine E_iload_n dX12_behindConsonants_99 rfl ?_
                refine E_callV2 (fr' := 1) (k1 := 0) (n1 := 0) (k2 := 0) (n2 := 0) dX12_behindConsonants_100 kO_X12_behindKiller kL_X12_249 (l_128 hL) (k_128 hL) ⟨by decide, rfl⟩ rfl rfl (by decide) (by decide) (by exact Nat.le_of_ble_eq_true rfl) rfl ?_
                refine sp_X12_behindKiller h.b (by omega) (by omega) ?_
                refine gKv ?_
                refine E_goto (tgt := 107) dX12_behindConsonants_103 (by decide) ?_
                refine E_istore_n dX12_behindConsonants_107 (Nat.le_of_ble_eq_true rfl) (by decide) rfl ?_
                refine E_aload_n dX12_behindConsonants_108 rfl ?_
                refine E_iload_n dX12_behindConsonants_109 rfl ?_
                refine E_iload_n dX12_behindConsonants_110 rfl ?_
                refine E_callV2 (fr' := 3) (k1 := 0) (n1 := 0) (k2 := 0) (n2 := 0) dX12_behindConsonants_111 kO_X12_behindVowels kL_X12_255 (l_128 hL) (k_128 hL) ⟨by decide, rfl⟩ rfl rfl (by decide) (by decide) (by exact Nat.le_of_ble_eq_true rfl) rfl ?_
                refine sp_X12_behindVowels h.b (by omega) (by omega) ?_
                refine gKv ?_
                refine E_iret dX12_behindConsonants_114 (Or.inl rfl) ?_
                first
                  | (rw [bcE_0 (c := c) (b := b) (k := k) (by omega)] at he; rw [← he] at K; exact K)
                  | (rw [bcE_1 (c := c) (b := b) (k := k) (by omega) (by omega)] at he; rw [← he] at K; exact K)
          · exfalso; omega
      · refine E_aload_n dX12_behindConsonants_26 rfl ?_
        refine E_iload_n dX12_behindConsonants_27 rfl ?_
        refine E_iload_n dX12_behindConsonants_28 rfl ?_
        refine E_callV2 (fr' := 1) (k1 := 0) (n1 := 0) (k2 := 0) (n2 := 0) dX12_behindConsonants_29 kO_X12_behindKiller kL_X12_249 (l_128 hL) (k_128 hL) ⟨by decide, rfl⟩ rfl rfl (by decide) (by decide) (by exact Nat.le_of_ble_eq_true rfl) rfl ?_
        exfalso; omega
  | succ t ih =>
    intro k ht hk he v5
    have tx := (h.wf.tx k).1
    refine E_iload dX12_behindConsonants_5 rfl ?_
    refine E_if_eq (tgt := 81) dX12_behindConsonants_7 (by decide) (fun c0 => absurd c0 (by decide)) (fun _ => ?_)
    refine E_iload_n dX12_behindConsonants_10 rfl ?_
    refine E_iload_n dX12_behindConsonants_11 rfl ?_
    refine E_icmp_ge_n (tgt := 35) dX12_behindConsonants_12 (by decide) (by omega) (by omega) (fun c_12 => ?_) (fun c_12 => ?_)
    · refine E_iload_n dX12_behindConsonants_35 rfl ?_
      refine E_istore dX12_behindConsonants_36 (Nat.le_of_ble_eq_true rfl) (by decide) rfl ?_
      refine E_iload dX12_behindConsonants_38 rfl ?_
      refine E_iload_n dX12_behindConsonants_40 rfl ?_
      refine E_icmp_ge_n (tgt := 61) dX12_behindConsonants_41 (by decide) (by omega) (by omega) (fun c_41 => ?_) (fun c_41 => ?_)
      · refine E_iconst (v := nI 0) dX12_behindConsonants_61 (by decide) ?_
        refine E_istore dX12_behindConsonants_62 (Nat.le_of_ble_eq_true rfl) (by decide) rfl ?_
        refine E_iload dX12_behindConsonants_64 rfl ?_
        refine E_if_eq (tgt := 76) dX12_behindConsonants_66 (by decide) (fun _ => ?_) (fun c0 => absurd (by decide) c0)
        refine E_iload_n dX12_behindConsonants_76 rfl ?_
        refine E_istore_n dX12_behindConsonants_77 (Nat.le_of_ble_eq_true rfl) (by decide) rfl ?_
        refine E_goto (tgt := 5) dX12_behindConsonants_78 (by decide) ?_
        refine E_iload dX12_behindConsonants_5 rfl ?_
        refine E_if_eq (tgt := 81) dX12_behindConsonants_7 (by decide) (fun _ => ?_) (fun c0 => absurd (by decide) c0)
        refine E_iload_n dX12_behindConsonants_81 rfl ?_
        refine E_iload_n dX12_behindConsonants_82 rfl ?_
        refine E_icmp_ge_n (tgt := 106) dX12_behindConsonants_83 (by decide) (by omega) (by omega) (fun e_83 => ?_) (fun e_83 => ?_)
        · refine E_iload_n dX12_behindConsonants_106 rfl ?_
          refine E_istore_n dX12_behindConsonants_107 (Nat.le_of_ble_eq_true rfl) (by decide) rfl ?_
          refine E_aload_n dX12_behindConsonants_108 rfl ?_
          refine E_iload_n dX12_behindConsonants_109 rfl ?_
          refine E_iload_n dX12_behindConsonants_110 rfl ?_
          refine E_callV2 (fr' := 3) (k1 := 0) (n1 := 0) (k2 := 0) (n2 := 0) dX12_behindConsonants_111 kO_X12_behindVowels kL_X12_255 (l_128 hL) (k_128 hL) ⟨by decide, rfl⟩ rfl rfl (by decide) (by decide) (by exact Nat.le_of_ble_eq_true rfl) rfl ?_
          refine sp_X12_behindVowels h.b (by omega) (by omega) ?_
          refine gKv ?_
          refine E_iret dX12_behindConsonants_114 (Or.inl rfl) ?_
          first
            | (rw [bcE_0 (c := c) (b := b) (k := k) (by omega)] at he; rw [← he] at K; exact K)
            | (rw [bcE_1 (c := c) (b := b) (k := k) (by omega) (by omega)] at he; rw [← he] at K; exact K)
        · refine E_aload_n dX12_behindConsonants_86 rfl ?_
          refine E_getRL dX12_behindConsonants_87 kF_X12_47 kY_12 (Or.inr ⟨_, rfl⟩) (l_128 hL) (k_128 hL) (r_128_15 hL) ?_
          refine E_iload_n dX12_behindConsonants_90 rfl ?_
          refine E_ialdL (v := nI (cN _ 141 _)) dX12_behindConsonants_91 (l_141 hL) (k_141 hL) rfl (by first | omega | exact h.n256 _) (by decide) (h.gc (Or.inl ⟨by decide, by decide, by decide⟩)) ?_
          refine E_bipush (v := nI 39) dX12_behindConsonants_92 (by decide) ?_
          refine E_icmp_ne_n (tgt := 106) dX12_behindConsonants_94 (by decide) (by omega) (by omega) (fun e_94 => ?_) (fun e_94 => ?_)
          · refine E_iload_n dX12_behindConsonants_106 rfl ?_
            refine E_istore_n dX12_behindConsonants_107 (Nat.le_of_ble_eq_true rfl) (by decide) rfl ?_
            refine E_aload_n dX12_behindConsonants_108 rfl ?_
            refine E_iload_n dX12_behindConsonants_109 rfl ?_
            refine E_iload_n dX12_behindConsonants_110 rfl ?_
            refine E_callV2 (fr' := 3) (k1 := 0) (n1 := 0) (k2 := 0) (n2 := 0) dX12_behindConsonants_111 kO_X12_behindVowels kL_X12_255 (l_128 hL) (k_128 hL) ⟨by decide, rfl⟩ rfl rfl (by decide) (by decide) (by exact Nat.le_of_ble_eq_true rfl) rfl ?_
            refine sp_X12_behindVowels h.b (by omega) (by omega) ?_
            refine gKv ?_
            refine E_iret dX12_behindConsonants_114 (Or.inl rfl) ?_
            first
              | (rw [bcE_0 (c := c) (b := b) (k := k) (by omega)] at he; rw [← he] at K; exact K)
              | (rw [bcE_1 (c := c) (b := b) (k := k) (by omega) (by omega)] at he; rw [← he] at K; exact K)
          · refine E_aload_n dX12_behindConsonants_97 rfl ?_
            refine E_iload_n dX12_behindConsonants_98 rfl ?_
            refine E_iload_n dX12_behindConsonants_99 rfl ?_
            refine E_callV2 (fr' := 1) (k1 := 0) (n1 := 0) (k2 := 0) (n2 := 0) dX12_behindConsonants_100 kO_X12_behindKiller kL_X12_249 (l_128 hL) (k_128 hL) ⟨by decide, rfl⟩ rfl rfl (by decide) (by decide) (by exact Nat.le_of_ble_eq_true rfl) rfl ?_
            refine sp_X12_behindKiller h.b (by omega) (by omega) ?_
            refine gKv ?_
            refine E_goto (tgt := 107) dX12_behindConsonants_103 (by decide) ?_
            refine E_istore_n dX12_behindConsonants_107 (Nat.le_of_ble_eq_true rfl) (by decide) rfl ?_
            refine E_aload_n dX12_behindConsonants_108 rfl ?_
            refine E_iload_n dX12_behindConsonants_109 rfl ?_
            refine E_iload_n dX12_behindConsonants_110 rfl ?_
            refine E_callV2 (fr' := 3) (k1 := 0) (n1 := 0) (k2 := 0) (n2 := 0) dX12_behindConsonants_111 kO_X12_behindVowels kL_X12_255 (l_128 hL) (k_128 hL) ⟨by decide, rfl⟩ rfl rfl (by decide) (by decide) (by exact Nat.le_of_ble_eq_true rfl) rfl ?_
            refine sp_X12_behindVowels h.b (by omega) (by omega) ?_
            refine gKv ?_
            refine E_iret dX12_behindConsonants_114 (Or.inl rfl) ?_
            first
              | (rw [bcE_0 (c := c) (b := b) (k := k) (by omega)] at he; rw [← he] at K; exact K)
              | (rw [bcE_1 (c := c) (b := b) (k := k) (by omega) (by omega)] at he; rw [← he] at K; exact K)
      · refine E_aload_n dX12_behindConsonants_44 rfl ?_
        refine E_getRL dX12_behindConsonants_45 kF_X12_47 kY_12 (Or.inr ⟨_, rfl⟩) (l_128 hL) (k_128 hL) (r_128_15 hL) ?_
        refine E_iload dX12_behindConsonants_48 rfl ?_
        refine E_ialdL (v := nI (cN _ 141 _)) dX12_behindConsonants_50 (l_141 hL) (k_141 hL) rfl (by first | omega | exact h.n256 _) (by decide) (h.gc (Or.inl ⟨by decide, by decide, by decide⟩)) ?_
        refine E_callS1 (fr' := 2) (k1 := 0) (n1 := 0) (k2 := 0) (n2 := 0) dX12_behindConsonants_51 kO_X12_isConsonant kL_X12_252 rfl (by decide) (by decide) (by exact Nat.le_of_ble_eq_true rfl) (Or.inl rfl) rfl ?_
        refine sp_X12_isConsonantN (by first | omega | exact Nat.lt_trans (h.wf.tx _).1 (by decide) | exact Nat.lt_trans (h.ok.at _).1 (by decide)) ?_
        refine gKv ?_
        refine E_if_eq_b (tgt := 61) dX12_behindConsonants_54 (by decide) (fun c_54 => ?_) (fun c_54 => ?_)
        · refine E_iconst (v := nI 0) dX12_behindConsonants_61 (by decide) ?_
          refine E_istore dX12_behindConsonants_62 (Nat.le_of_ble_eq_true rfl) (by decide) rfl ?_
          refine E_iload dX12_behindConsonants_64 rfl ?_
          refine E_if_eq (tgt := 76) dX12_behindConsonants_66 (by decide) (fun _ => ?_) (fun c0 => absurd (by decide) c0)
          refine E_iload_n dX12_behindConsonants_76 rfl ?_
          refine E_istore_n dX12_behindConsonants_77 (Nat.le_of_ble_eq_true rfl) (by decide) rfl ?_
          refine E_goto (tgt := 5) dX12_behindConsonants_78 (by decide) ?_
          refine E_iload dX12_behindConsonants_5 rfl ?_
          refine E_if_eq (tgt := 81) dX12_behindConsonants_7 (by decide) (fun _ => ?_) (fun c0 => absurd (by decide) c0)
          refine E_iload_n dX12_behindConsonants_81 rfl ?_
          refine E_iload_n dX12_behindConsonants_82 rfl ?_
          refine E_icmp_ge_n (tgt := 106) dX12_behindConsonants_83 (by decide) (by omega) (by omega) (fun e_83 => ?_) (fun e_83 => ?_)
          · refine E_iload_n dX12_behindConsonants_106 rfl ?_
            refine E_istore_n dX12_behindConsonants_107 (Nat.le_of_ble_eq_true rfl) (by decide) rfl ?_
            refine E_aload_n dX12_behindConsonants_108 rfl ?_
            refine E_iload_n dX12_behindConsonants_109 rfl ?_
            refine E_iload_n dX12_behindConsonants_110 rfl ?_
            refine E_callV2 (fr' := 3) (k1 := 0) (n1 := 0) (k2 := 0) (n2 := 0) dX12_behindConsonants_111 kO_X12_behindVowels kL_X12_255 (l_128 hL) (k_128 hL) ⟨by decide, rfl⟩ rfl rfl (by decide) (by decide) (by exact Nat.le_of_ble_eq_true rfl) rfl ?_
            refine sp_X12_behindVowels h.b (by omega) (by omega) ?_
            refine gKv ?_
            refine E_iret dX12_behindConsonants_114 (Or.inl rfl) ?_
            first
              | (rw [bcE_0 (c := c) (b := b) (k := k) (by omega)] at he; rw [← he] at K; exact K)
              | (rw [bcE_1 (c := c) (b := b) (k := k) (by omega) (by omega)] at he; rw [← he] at K; exact K)
          · refine E_aload_n dX12_behindConsonants_86 rfl ?_
            refine E_getRL dX12_behindConsonants_87 kF_X12_47 kY_12 (Or.inr ⟨_, rfl⟩) (l_128 hL) (k_128 hL) (r_128_15 hL) ?_
            refine E_iload_n dX12_behindConsonants_90 rfl ?_
            refine E_ialdL (v := nI (cN _ 141 _)) dX12_behindConsonants_91 (l_141 hL) (k_141 hL) rfl (by first | omega | exact h.n256 _) (by decide) (h.gc (Or.inl ⟨by decide, by decide, by decide⟩)) ?_
            refine E_bipush (v := nI 39) dX12_behindConsonants_92 (by decide) ?_
            refine E_icmp_ne_n (tgt := 106) dX12_behindConsonants_94 (by decide) (by omega) (by omega) (fun e_94 => ?_) (fun e_94 => ?_)
            · refine E_iload_n dX12_behindConsonants_106 rfl ?_
              refine E_istore_n dX12_behindConsonants_107 (Nat.le_of_ble_eq_true rfl) (by decide) rfl ?_
              refine E_aload_n dX12_behindConsonants_108 rfl ?_
              refine E_iload_n dX12_behindConsonants_109 rfl ?_
              refine E_iload_n dX12_behindConsonants_110 rfl ?_
              refine E_callV2 (fr' := 3) (k1 := 0) (n1 := 0) (k2 := 0) (n2 := 0) dX12_behindConsonants_111 kO_X12_behindVowels kL_X12_255 (l_128 hL) (k_128 hL) ⟨by decide, rfl⟩ rfl rfl (by decide) (by decide) (by exact Nat.le_of_ble_eq_true rfl) rfl ?_
              refine sp_X12_behindVowels h.b (by omega) (by omega) ?_
              refine gKv ?_
              refine E_iret dX12_behindConsonants_114 (Or.inl rfl) ?_
              first
                | (rw [bcE_0 (c := c) (b := b) (k := k) (by omega)] at he; rw [← he] at K; exact K)
                | (rw [bcE_1 (c := c) (b := b) (k := k) (by omega) (by omega)] at he; rw [← he] at K; exact K)
            · refine E_aload_n dX12_behindConsonants_97 rfl ?_
              refine E_iload_n dX12_behindConsonants_98 rfl ?_
              refine E_iload_n dX12_behindConsonants_99 rfl ?_
              refine E_callV2 (fr' := 1) (k1 := 0) (n1 := 0) (k2 := 0) (n2 := 0) dX12_behindConsonants_100 kO_X12_behindKiller kL_X12_249 (l_128 hL) (k_128 hL) ⟨by decide, rfl⟩ rfl rfl (by decide) (by decide) (by exact Nat.le_of_ble_eq_true rfl) rfl ?_
              refine sp_X12_behindKiller h.b (by omega) (by omega) ?_
              refine gKv ?_
              refine E_goto (tgt := 107) dX12_behindConsonants_103 (by decide) ?_
              refine E_istore_n dX12_behindConsonants_107 (Nat.le_of_ble_eq_true rfl) (by decide) rfl ?_
              refine E_aload_n dX12_behindConsonants_108 rfl ?_
              refine E_iload_n dX12_behindConsonants_109 rfl ?_
              refine E_iload_n dX12_behindConsonants_110 rfl ?_
              refine E_callV2 (fr' := 3) (k1 := 0) (n1 := 0) (k2 := 0) (n2 := 0) dX12_behindConsonants_111 kO_X12_behindVowels kL_X12_255 (l_128 hL) (k_128 hL) ⟨by decide, rfl⟩ rfl rfl (by decide) (by decide) (by exact Nat.le_of_ble_eq_true rfl) rfl ?_
              refine sp_X12_behindVowels h.b (by omega) (by omega) ?_
              refine gKv ?_
              refine E_iret dX12_behindConsonants_114 (Or.inl rfl) ?_
              first
                | (rw [bcE_0 (c := c) (b := b) (k := k) (by omega)] at he; rw [← he] at K; exact K)
                | (rw [bcE_1 (c := c) (b := b) (k := k) (by omega) (by omega)] at he; rw [← he] at K; exact K)
        · refine E_iconst (v := nI 1) dX12_behindConsonants_57 (by decide) ?_
          refine E_goto (tgt := 62) dX12_behindConsonants_58 (by decide) ?_
          refine E_istore dX12_behindConsonants_62 (Nat.le_of_ble_eq_true rfl) (by decide) rfl ?_
          refine E_iload dX12_behindConsonants_64 rfl ?_
          refine E_if_eq (tgt := 76) dX12_behindConsonants_66 (by decide) (fun c0 => absurd c0 (by decide)) (fun _ => ?_)
          refine E_iload dX12_behindConsonants_69 rfl ?_
          refine E_iconst (v := nI 1) dX12_behindConsonants_71 (by decide) ?_
          refine E_iadd_n dX12_behindConsonants_72 ?_
          refine E_goto (tgt := 77) dX12_behindConsonants_73 (by decide) ?_
          refine E_istore_n dX12_behindConsonants_77 (Nat.le_of_ble_eq_true rfl) (by decide) rfl ?_
          refine E_goto (tgt := 5) dX12_behindConsonants_78 (by decide) ?_
          first
            | exact ih _ (by omega) (by omega) (by rw [← he]; exact (bcE_2 ⟨by omega, by omega⟩ ⟨by omega, by omega⟩).symm) _
            | (exfalso; omega)
    · refine E_aload_n dX12_behindConsonants_15 rfl ?_
      refine E_getRL dX12_behindConsonants_16 kF_X12_47 kY_12 (Or.inr ⟨_, rfl⟩) (l_128 hL) (k_128 hL) (r_128_15 hL) ?_
      refine E_iload_n dX12_behindConsonants_19 rfl ?_
      refine E_ialdL (v := nI (cN _ 141 _)) dX12_behindConsonants_20 (l_141 hL) (k_141 hL) rfl (by first | omega | exact h.n256 _) (by decide) (h.gc (Or.inl ⟨by decide, by decide, by decide⟩)) ?_
      refine E_bipush (v := nI 39) dX12_behindConsonants_21 (by decide) ?_
      refine E_icmp_ne_n (tgt := 35) dX12_behindConsonants_23 (by decide) (by omega) (by omega) (fun c_23 => ?_) (fun c_23 => ?_)
      · refine E_iload_n dX12_behindConsonants_35 rfl ?_
        refine E_istore dX12_behindConsonants_36 (Nat.le_of_ble_eq_true rfl) (by decide) rfl ?_
        refine E_iload dX12_behindConsonants_38 rfl ?_
        refine E_iload_n dX12_behindConsonants_40 rfl ?_
        refine E_icmp_ge_n (tgt := 61) dX12_behindConsonants_41 (by decide) (by omega) (by omega) (fun c_41 => ?_) (fun c_41 => ?_)
        · refine E_iconst (v := nI 0) dX12_behindConsonants_61 (by decide) ?_
          refine E_istore dX12_behindConsonants_62 (Nat.le_of_ble_eq_true rfl) (by decide) rfl ?_
          refine E_iload dX12_behindConsonants_64 rfl ?_
          refine E_if_eq (tgt := 76) dX12_behindConsonants_66 (by decide) (fun _ => ?_) (fun c0 => absurd (by decide) c0)
          refine E_iload_n dX12_behindConsonants_76 rfl ?_
          refine E_istore_n dX12_behindConsonants_77 (Nat.le_of_ble_eq_true rfl) (by decide) rfl ?_
          refine E_goto (tgt := 5) dX12_behindConsonants_78 (by decide) ?_
          refine E_iload dX12_behindConsonants_5 rfl ?_
          refine E_if_eq (tgt := 81) dX12_behindConsonants_7 (by decide) (fun _ => ?_) (fun c0 => absurd (by decide) c0)
          refine E_iload_n dX12_behindConsonants_81 rfl ?_
          refine E_iload_n dX12_behindConsonants_82 rfl ?_
          refine E_icmp_ge_n (tgt := 106) dX12_behindConsonants_83 (by decide) (by omega) (by omega) (fun e_83 => ?_) (fun e_83 => ?_)
          · refine E_iload_n dX12_behindConsonants_106 rfl ?_
            refine E_istore_n dX12_behindConsonants_107 (Nat.le_of_ble_eq_true rfl) (by decide) rfl ?_
            refine E_aload_n dX12_behindConsonants_108 rfl ?_
            refine E_iload_n dX12_behindConsonants_109 rfl ?_
            refine E_iload_n dX12_behindConsonants_110 rfl ?_
            refine E_callV2 (fr' := 3) (k1 := 0) (n1 := 0) (k2 := 0) (n2 := 0) dX12_behindConsonants_111 kO_X12_behindVowels kL_X12_255 (l_128 hL) (k_128 hL) ⟨by decide, rfl⟩ rfl rfl (by decide) (by decide) (by exact Nat.le_of_ble_eq_true rfl) rfl ?_
            refine sp_X12_behindVowels h.b (by omega) (by omega) ?_
            refine gKv ?_
            refine E_iret dX12_behindConsonants_114 (Or.inl rfl) ?_
            first
              | (rw [bcE_0 (c := c) (b := b) (k := k) (by omega)] at he; rw [← he] at K; exact K)
              | (rw [bcE_1 (c := c) (b := b) (k := k) (by omega) (by omega)] at he; rw [← he] at K; exact K)
          · refine E_aload_n dX12_behindConsonants_86 rfl ?_
            refine E_getRL dX12_behindConsonants_87 kF_X12_47 kY_12 (Or.inr ⟨_, rfl⟩) (l_128 hL) (k_128 hL) (r_128_15 hL) ?_
            refine E_iload_n dX12_behindConsonants_90 rfl ?_
            refine E_ialdL (v := nI (cN _ 141 _)) dX12_behindConsonants_91 (l_141 hL) (k_141 hL) rfl (by first | omega | exact h.n256 _) (by decide) (h.gc (Or.inl ⟨by decide, by decide, by decide⟩)) ?_
            refine E_bipush (v := nI 39) dX12_behindConsonants_92 (by decide) ?_
            refine E_icmp_ne_n (tgt := 106) dX12_behindConsonants_94 (by decide) (by omega) (by omega) (fun e_94 => ?_) (fun e_94 => ?_)
            · refine E_iload_n dX12_behindConsonants_106 rfl ?_
              refine E_istore_n dX12_behindConsonants_107 (Nat.le_of_ble_eq_true rfl) (by decide) rfl ?_
              refine E_aload_n dX12_behindConsonants_108 rfl ?_
              refine E_iload_n dX12_behindConsonants_109 rfl ?_
              refine E_iload_n dX12_behindConsonants_110 rfl ?_
              refine E_callV2 (fr' := 3) (k1 := 0) (n1 := 0) (k2 := 0) (n2 := 0) dX12_behindConsonants_111 kO_X12_behindVowels kL_X12_255 (l_128 hL) (k_128 hL) ⟨by decide, rfl⟩ rfl rfl (by decide) (by decide) (by exact Nat.le_of_ble_eq_true rfl) rfl ?_
              refine sp_X12_behindVowels h.b (by omega) (by omega) ?_
              refine gKv ?_
              refine E_iret dX12_behindConsonants_114 (Or.inl rfl) ?_
              first
                | (rw [bcE_0 (c := c) (b := b) (k := k) (by omega)] at he; rw [← he] at K; exact K)
                | (rw [bcE_1 (c := c) (b := b) (k := k) (by omega) (by omega)] at he; rw [← he] at K; exact K)
            · refine E_aload_n dX12_behindConsonants_97 rfl ?_
              refine E_iload_n dX12_behindConsonants_98 rfl ?_
              refine E_iload_n dX12_behindConsonants_99 rfl ?_
              refine E_callV2 (fr' := 1) (k1 := 0) (n1 := 0) (k2 := 0) (n2 := 0) dX12_behindConsonants_100 kO_X12_behindKiller kL_X12_249 (l_128 hL) (k_128 hL) ⟨by decide, rfl⟩ rfl rfl (by decide) (by decide) (by exact Nat.le_of_ble_eq_true rfl) rfl ?_
              refine sp_X12_behindKiller h.b (by omega) (by omega) ?_
              refine gKv ?_
              refine E_goto (tgt := 107) dX12_behindConsonants_103 (by decide) ?_
              refine E_istore_n dX12_behindConsonants_107 (Nat.le_of_ble_eq_true rfl) (by decide) rfl ?_
              refine E_aload_n dX12_behindConsonants_108 rfl ?_
              refine E_iload_n dX12_behindConsonants_109 rfl ?_
              refine E_iload_n dX12_behindConsonants_110 rfl ?_
              refine E_callV2 (fr' := 3) (k1 := 0) (n1 := 0) (k2 := 0) (n2 := 0) dX12_behindConsonants_111 kO_X12_behindVowels kL_X12_255 (l_128 hL) (k_128 hL) ⟨by decide, rfl⟩ rfl rfl (by decide) (by decide) (by exact Nat.le_of_ble_eq_true rfl) rfl ?_
              refine sp_X12_behindVowels h.b (by omega) (by omega) ?_
              refine gKv ?_
              refine E_iret dX12_behindConsonants_114 (Or.inl rfl) ?_
              first
                | (rw [bcE_0 (c := c) (b := b) (k := k) (by omega)] at he; rw [← he] at K; exact K)
                | (rw [bcE_1 (c := c) (b := b) (k := k) (by omega) (by omega)] at he; rw [← he] at K; exact K)
        · refine E_aload_n dX12_behindConsonants_44 rfl ?_
          refine E_getRL dX12_behindConsonants_45 kF_X12_47 kY_12 (Or.inr ⟨_, rfl⟩) (l_128 hL) (k_128 hL) (r_128_15 hL) ?_
          refine E_iload dX12_behindConsonants_48 rfl ?_
          refine E_ialdL (v := nI (cN _ 141 _)) dX12_behindConsonants_50 (l_141 hL) (k_141 hL) rfl (by first | omega | exact h.n256 _) (by decide) (h.gc (Or.inl ⟨by decide, by decide, by decide⟩)) ?_
          refine E_callS1 (fr' := 2) (k1 := 0) (n1 := 0) (k2 := 0) (n2 := 0) dX12_behindConsonants_51 kO_X12_isConsonant kL_X12_252 rfl (by decide) (by decide) (by exact Nat.le_of_ble_eq_true rfl) (Or.inl rfl) rfl ?_
          refine sp_X12_isConsonantN (by first | omega | exact Nat.lt_trans (h.wf.tx _).1 (by decide) | exact Nat.lt_trans (h.ok.at _).1 (by decide)) ?_
          refine gKv ?_
          refine E_if_eq_b (tgt := 61) dX12_behindConsonants_54 (by decide) (fun c_54 => ?_) (fun c_54 => ?_)
          · refine E_iconst (v := nI 0) dX12_behindConsonants_61 (by decide) ?_
            refine E_istore dX12_behindConsonants_62 (Nat.le_of_ble_eq_true rfl) (by decide) rfl ?_
            refine E_iload dX12_behindConsonants_64 rfl ?_
            refine E_if_eq (tgt := 76) dX12_behindConsonants_66 (by decide) (fun _ => ?_) (fun c0 => absurd (by decide) c0)
            refine E_iload_n dX12_behindConsonants_76 rfl ?_
            refine E_istore_n dX12_behindConsonants_77 (Nat.le_of_ble_eq_true rfl) (by decide) rfl ?_
            refine E_goto (tgt := 5) dX12_behindConsonants_78 (by decide) ?_
            refine E_iload dX12_behindConsonants_5 rfl ?_
            refine E_if_eq (tgt := 81) dX12_behindConsonants_7 (by decide) (fun _ => ?_) (fun c0 => absurd (by decide) c0)
            refine E_iload_n dX12_behindConsonants_81 rfl ?_
            refine E_iload_n dX12_behindConsonants_82 rfl ?_
            refine E_icmp_ge_n (tgt := 106) dX12_behindConsonants_83 (by decide) (by omega) (by omega) (fun e_83 => ?_) (fun e_83 => ?_)
            · refine E_iload_n dX12_behindConsonants_106 rfl ?_
              refine E_istore_n dX12_behindConsonants_107 (Nat.le_of_ble_eq_true rfl) (by decide) rfl ?_
              refine E_aload_n dX12_behindConsonants_108 rfl ?_
              refine E_iload_n dX12_behindConsonants_109 rfl ?_
              refine E_iload_n dX12_behindConsonants_110 rfl ?_
              refine E_callV2 (fr' := 3) (k1 := 0) (n1 := 0) (k2 := 0) (n2 := 0) dX12_behindConsonants_111 kO_X12_behindVowels kL_X12_255 (l_128 hL) (k_128 hL) ⟨by decide, rfl⟩ rfl rfl (by decide) (by decide) (by exact Nat.le_of_ble_eq_true rfl) rfl ?_
              refine sp_X12_behindVowels h.b (by omega) (by omega) ?_
              refine gKv ?_
              refine E_iret dX12_behindConsonants_114 (Or.inl rfl) ?_
              first
                | (rw [bcE_0 (c := c) (b := b) (k := k) (by omega)] at he; rw [← he] at K; exact K)
                | (rw [bcE_1 (c := c) (b := b) (k := k) (by omega) (by omega)] at he; rw [← he] at K; exact K)
            · refine E_aload_n dX12_behindConsonants_86 rfl ?_
              refine E_getRL dX12_behindConsonants_87 kF_X12_47 kY_12 (Or.inr ⟨_, rfl⟩) (l_128 hL) (k_128 hL) (r_128_15 hL) ?_
              refine E_iload_n dX12_behindConsonants_90 rfl ?_
              refine E_ialdL (v := nI (cN _ 141 _)) dX12_behindConsonants_91 (l_141 hL) (k_141 hL) rfl (by first | omega | exact h.n256 _) (by decide) (h.gc (Or.inl ⟨by decide, by decide, by decide⟩)) ?_
              refine E_bipush (v := nI 39) dX12_behindConsonants_92 (by decide) ?_
              refine E_icmp_ne_n (tgt := 106) dX12_behindConsonants_94 (by decide) (by omega) (by omega) (fun e_94 => ?_) (fun e_94 => ?_)
              · refine E_iload_n dX12_behindConsonants_106 rfl ?_
                refine E_istore_n dX12_behindConsonants_107 (Nat.le_of_ble_eq_true rfl) (by decide) rfl ?_
                refine E_aload_n dX12_behindConsonants_108 rfl ?_
                refine E_iload_n dX12_behindConsonants_109 rfl ?_
                refine E_iload_n dX12_behindConsonants_110 rfl ?_
                refine E_callV2 (fr' := 3) (k1 := 0) (n1 := 0) (k2 := 0) (n2 := 0) dX12_behindConsonants_111 kO_X12_behindVowels kL_X12_255 (l_128 hL) (k_128 hL) ⟨by decide, rfl⟩ rfl rfl (by decide) (by decide) (by exact Nat.le_of_ble_eq_true rfl) rfl ?_
                refine sp_X12_behindVowels h.b (by omega) (by omega) ?_
                refine gKv ?_
                refine E_iret dX12_behindConsonants_114 (Or.inl rfl) ?_
                first
                  | (rw [bcE_0 (c := c) (b := b) (k := k) (by omega)] at he; rw [← he] at K; exact K)
                  | (rw [bcE_1 (c := c) (b := b) (k := k) (by omega) (by omega)] at he; rw [← he] at K; exact K)
              · refine E_aload_n dX12_behindConsonants_97 rfl ?_
                refine E_iload_n dX12_behindConsonants_98 rfl ?_
                refine E_iload_n dX12_behindConsonants_99 rfl ?_
                refine E_callV2 (fr' := 1) (k1 := 0) (n1 := 0) (k2 := 0) (n2 := 0) dX12_behindConsonants_100 kO_X12_behindKiller kL_X12_249 (l_128 hL) (k_128 hL) ⟨by decide, rfl⟩ rfl rfl (by decide) (by decide) (by exact Nat.le_of_ble_eq_true rfl) rfl ?_
                refine sp_X12_behindKiller h.b (by omega) (by omega) ?_
                refine gKv ?_
                refine E_goto (tgt := 107) dX12_behindConsonants_103 (by decide) ?_
                refine E_istore_n dX12_behindConsonants_107 (Nat.le_of_ble_eq_true rfl) (by decide) rfl ?_
                refine E_aload_n dX12_behindConsonants_108 rfl ?_
                refine E_iload_n dX12_behindConsonants_109 rfl ?_
                refine E_iload_n dX12_behindConsonants_110 rfl ?_
                refine E_callV2 (fr' := 3) (k1 := 0) (n1 := 0) (k2 := 0) (n2 := 0) dX12_behindConsonants_111 kO_X12_behindVowels kL_X12_255 (l_128 hL) (k_128 hL) ⟨by decide, rfl⟩ rfl rfl (by decide) (by decide) (by exact Nat.le_of_ble_eq_true rfl) rfl ?_
                refine sp_X12_behindVowels h.b (by omega) (by omega) ?_
                refine gKv ?_
                refine E_iret dX12_behindConsonants_114 (Or.inl rfl) ?_
                first
                  | (rw [bcE_0 (c := c) (b := b) (k := k) (by omega)] at he; rw [← he] at K; exact K)
                  | (rw [bcE_1 (c := c) (b := b) (k := k) (by omega) (by omega)] at he; rw [← he] at K; exact K)
          · refine E_iconst (v := nI 1) dX12_behindConsonants_57 (by decide) ?_
            refine E_goto (tgt := 62) dX12_behindConsonants_58 (by decide) ?_
            refine E_istore dX12_behindConsonants_62 (Nat.le_of_ble_eq_true rfl) (by decide) rfl ?_
            refine E_iload dX12_behindConsonants_64 rfl ?_
            refine E_if_eq (tgt := 76) dX12_behindConsonants_66 (by decide) (fun c0 => absurd c0 (by decide)) (fun _ => ?_)
            refine E_iload dX12_behindConsonants_69 rfl ?_
            refine E_iconst (v := nI 1) dX12_behindConsonants_71 (by decide) ?_
            refine E_iadd_n dX12_behindConsonants_72 ?_
            refine E_goto (tgt := 77) dX12_behindConsonants_73 (by decide) ?_
            refine E_istore_n dX12_behindConsonants_77 (Nat.le_of_ble_eq_true rfl) (by decide) rfl ?_
            refine E_goto (tgt := 5) dX12_behindConsonants_78 (by decide) ?_
            first
              | exact ih _ (by omega) (by omega) (by rw [← he]; exact (bcE_2 ⟨by omega, by omega⟩ ⟨by omega, by omega⟩).symm) _
              | (exfalso; omega)
      · refine E_aload_n dX12_behindConsonants_26 rfl ?_
        refine E_iload_n dX12_behindConsonants_27 rfl ?_
        refine E_iload_n dX12_behindConsonants_28 rfl ?_
        refine E_callV2 (fr' := 1) (k1 := 0) (n1 := 0) (k2 := 0) (n2 := 0) dX12_behindConsonants_29 kO_X12_behindKiller kL_X12_249 (l_128 hL) (k_128 hL) ⟨by decide, rfl⟩ rfl rfl (by decide) (by decide) (by exact Nat.le_of_ble_eq_true rfl) rfl ?_
        have hbk := bk_b (c := c) (b := b) (k := k) (by omega)
        have txb := (h.wf.tx (bk c b k)).1
        refine sp_X12_behindKiller h.b (by omega) (by omega) ?_
        refine gKv ?_
        refine E_goto (tgt := 36) dX12_behindConsonants_32 (by decide) ?_
        refine E_istore dX12_behindConsonants_36 (Nat.le_of_ble_eq_true rfl) (by decide) rfl ?_
        refine E_iload dX12_behindConsonants_38 rfl ?_
        refine E_iload_n dX12_behindConsonants_40 rfl ?_
        refine E_icmp_ge_n (tgt := 61) dX12_behindConsonants_41 (by decide) (by omega) (by omega) (fun c_41 => ?_) (fun c_41 => ?_)
        · refine E_iconst (v := nI 0) dX12_behindConsonants_61 (by decide) ?_
          refine E_istore dX12_behindConsonants_62 (Nat.le_of_ble_eq_true rfl) (by decide) rfl ?_
          refine E_iload dX12_behindConsonants_64 rfl ?_
          refine E_if_eq (tgt := 76) dX12_behindConsonants_66 (by decide) (fun _ => ?_) (fun c0 => absurd (by decide) c0)
          refine E_iload_n dX12_behindConsonants_76 rfl ?_
          refine E_istore_n dX12_behindConsonants_77 (Nat.le_of_ble_eq_true rfl) (by decide) rfl ?_
          refine E_goto (tgt := 5) dX12_behindConsonants_78 (by decide) ?_
          refine E_iload dX12_behindConsonants_5 rfl ?_
          refine E_if_eq (tgt := 81) dX12_behindConsonants_7 (by decide) (fun _ => ?_) (fun c0 => absurd (by decide) c0)
          refine E_iload_n dX12_behindConsonants_81 rfl ?_
          refine E_iload_n dX12_behindConsonants_82 rfl ?_
          refine E_icmp_ge_n (tgt := 106) dX12_behindConsonants_83 (by decide) (by omega) (by omega) (fun e_83 => ?_) (fun e_83 => ?_)
          · refine E_iload_n dX12_behindConsonants_106 rfl ?_
            refine E_istore_n dX12_behindConsonants_107 (Nat.le_of_ble_eq_true rfl) (by decide) rfl ?_
            refine E_aload_n dX12_behindConsonants_108 rfl ?_
            refine E_iload_n dX12_behindConsonants_109 rfl ?_
            refine E_iload_n dX12_behindConsonants_110 rfl ?_
            refine E_callV2 (fr' := 3) (k1 := 0) (n1 := 0) (k2 := 0) (n2 := 0) dX12_behindConsonants_111 kO_X12_behindVowels kL_X12_255 (l_128 hL) (k_128 hL) ⟨by decide, rfl⟩ rfl rfl (by decide) (by decide) (by exact Nat.le_of_ble_eq_true rfl) rfl ?_
            refine sp_X12_behindVowels h.b (by omega) (by omega) ?_
            refine gKv ?_
            refine E_iret dX12_behindConsonants_114 (Or.inl rfl) ?_
            first
              | (rw [bcE_0 (c := c) (b := b) (k := k) (by omega)] at he; rw [← he] at K; exact K)
              | (rw [bcE_1 (c := c) (b := b) (k := k) (by omega) (by omega)] at he; rw [← he] at K; exact K)
          · refine E_aload_n dX12_behindConsonants_86 rfl ?_
            refine E_getRL dX12_behindConsonants_87 kF_X12_47 kY_12 (Or.inr ⟨_, rfl⟩) (l_128 hL) (k_128 hL) (r_128_15 hL) ?_
            refine E_iload_n dX12_behindConsonants_90 rfl ?_
            refine E_ialdL (v := nI (cN _ 141 _)) dX12_behindConsonants_91 (l_141 hL) (k_141 hL) rfl (by first | omega | exact h.n256 _) (by decide) (h.gc (Or.inl ⟨by decide, by decide, by decide⟩)) ?_
            refine E_bipush (v := nI 39) dX12_behindConsonants_92 (by decide) ?_
            refine E_icmp_ne_n (tgt := 106) dX12_behindConsonants_94 (by decide) (by omega) (by omega) (fun e_94 => ?_) (fun e_94 => ?_)
            · refine E_iload_n dX12_behindConsonants_106 rfl ?_
              refine E_istore_n dX12_behindConsonants_107 (Nat.le_of_ble_eq_true rfl) (by decide) rfl ?_
              refine E_aload_n dX12_behindConsonants_108 rfl ?_
              refine E_iload_n dX12_behindConsonants_109 rfl ?_
              refine E_iload_n dX12_behindConsonants_110 rfl ?_
              refine E_callV2 (fr' := 3) (k1 := 0) (n1 := 0) (k2 := 0) (n2 := 0) dX12_behindConsonants_111 kO_X12_behindVowels kL_X12_255 (l_128 hL) (k_128 hL) ⟨by decide, rfl⟩ rfl rfl (by decide) (by decide) (by exact Nat.le_of_ble_eq_true rfl) rfl ?_
              refine sp_X12_behindVowels h.b (by omega) (by omega) ?_
              refine gKv ?_
              refine E_iret dX12_behindConsonants_114 (Or.inl rfl) ?_
              first
                | (rw [bcE_0 (c := c) (b := b) (k := k) (by omega)] at he; rw [← he] at K; exact K)
                | (rw [bcE_1 (c := c) (b := b) (k := k) (by omega) (by omega)] at he; rw [← he] at K; exact K)
            · refine E_aload_n dX12_behindConsonants_97 rfl ?_
              refine E_iload_n dX12_behindConsonants_98 rfl ?_
              refine E_iload_n dX12_behindConsonants_99 rfl ?_
              refine E_callV2 (fr' := 1) (k1 := 0) (n1 := 0) (k2 := 0) (n2 := 0) dX12_behindConsonants_100 kO_X12_behindKiller kL_X12_249 (l_128 hL) (k_128 hL) ⟨by decide, rfl⟩ rfl rfl (by decide) (by decide) (by exact Nat.le_of_ble_eq_true rfl) rfl ?_
              refine sp_X12_behindKiller h.b (by omega) (by omega) ?_
              refine gKv ?_
              refine E_goto (tgt := 107) dX12_behindConsonants_103 (by decide) ?_
              refine E_istore_n dX12_behindConsonants_107 (Nat.le_of_ble_eq_true rfl) (by decide) rfl ?_
              refine E_aload_n dX12_behindConsonants_108 rfl ?_
              refine E_iload_n dX12_behindConsonants_109 rfl ?_
              refine E_iload_n dX12_behindConsonants_110 rfl ?_
              refine E_callV2 (fr' := 3) (k1 := 0) (n1 := 0) (k2 := 0) (n2 := 0) dX12_behindConsonants_111 kO_X12_behindVowels kL_X12_255 (l_128 hL) (k_128 hL) ⟨by decide, rfl⟩ rfl rfl (by decide) (by decide) (by exact Nat.le_of_ble_eq_true rfl) rfl ?_
              refine sp_X12_behindVowels h.b (by omega) (by omega) ?_
              refine gKv ?_
              refine E_iret dX12_behindConsonants_114 (Or.inl rfl) ?_
              first
                | (rw [bcE_0 (c := c) (b := b) (k := k) (by omega)] at he; rw [← he] at K; exact K)
                | (rw [bcE_1 (c := c) (b := b) (k := k) (by omega) (by omega)] at he; rw [← he] at K; exact K)
        · refine E_aload_n dX12_behindConsonants_44 rfl ?_
          refine E_getRL dX12_behindConsonants_45 kF_X12_47 kY_12 (Or.inr ⟨_, rfl⟩) (l_128 hL) (k_128 hL) (r_128_15 hL) ?_
          refine E_iload dX12_behindConsonants_48 rfl ?_
          refine E_ialdL (v := nI (cN _ 141 _)) dX12_behindConsonants_50 (l_141 hL) (k_141 hL) rfl (by first | omega | exact h.n256 _) (by decide) (h.gc (Or.inl ⟨by decide, by decide, by decide⟩)) ?_
          refine E_callS1 (fr' := 2) (k1 := 0) (n1 := 0) (k2 := 0) (n2 := 0) dX12_behindConsonants_51 kO_X12_isConsonant kL_X12_252 rfl (by decide) (by decide) (by exact Nat.le_of_ble_eq_true rfl) (Or.inl rfl) rfl ?_
          refine sp_X12_isConsonantN (by first | omega | exact Nat.lt_trans (h.wf.tx _).1 (by decide) | exact Nat.lt_trans (h.ok.at _).1 (by decide)) ?_
          refine gKv ?_
          refine E_if_eq_b (tgt := 61) dX12_behindConsonants_54 (by decide) (fun c_54 => ?_) (fun c_54 => ?_)
          · refine E_iconst (v := nI 0) dX12_behindConsonants_61 (by decide) ?_
            refine E_istore dX12_behindConsonants_62 (Nat.le_of_ble_eq_true rfl) (by decide) rfl ?_
            refine E_iload dX12_behindConsonants_64 rfl ?_
            refine E_if_eq (tgt := 76) dX12_behindConsonants_66 (by decide) (fun _ => ?_) (fun c0 => absurd (by decide) c0)
            refine E_iload_n dX12_behindConsonants_76 rfl ?_
            refine E_istore_n dX12_behindConsonants_77 (Nat.le_of_ble_eq_true rfl) (by decide) rfl ?_
            refine E_goto (tgt := 5) dX12_behindConsonants_78 (by decide) ?_
            refine E_iload dX12_behindConsonants_5 rfl ?_
            refine E_if_eq (tgt := 81) dX12_behindConsonants_7 (by decide) (fun _ => ?_) (fun c0 => absurd (by decide) c0)
            refine E_iload_n dX12_behindConsonants_81 rfl ?_
            refine E_iload_n dX12_behindConsonants_82 rfl ?_
            refine E_icmp_ge_n (tgt := 106) dX12_behindConsonants_83 (by decide) (by omega) (by omega) (fun e_83 => ?_) (fun e_83 => ?_)
            · refine E_iload_n dX12_behindConsonants_106 rfl ?_
              refine E_istore_n dX12_behindConsonants_107 (Nat.le_of_ble_eq_true rfl) (by decide) rfl ?_
              refine E_aload_n dX12_behindConsonants_108 rfl ?_
              refine E_iload_n dX12_behindConsonants_109 rfl ?_
              refine E_iload_n dX12_behindConsonants_110 rfl ?_
              refine E_callV2 (fr' := 3) (k1 := 0) (n1 := 0) (k2 := 0) (n2 := 0) dX12_behindConsonants_111 kO_X12_behindVowels kL_X12_255 (l_128 hL) (k_128 hL) ⟨by decide, rfl⟩ rfl rfl (by decide) (by decide) (by exact Nat.le_of_ble_eq_true rfl) rfl ?_
              refine sp_X12_behindVowels h.b (by omega) (by omega) ?_
              refine gKv ?_
              refine E_iret dX12_behindConsonants_114 (Or.inl rfl) ?_
              first
                | (rw [bcE_0 (c := c) (b := b) (k := k) (by omega)] at he; rw [← he] at K; exact K)
                | (rw [bcE_1 (c := c) (b := b) (k := k) (by omega) (by omega)] at he; rw [← he] at K; exact K)
            · refine E_aload_n dX12_behindConsonants_86 rfl ?_
              refine E_getRL dX12_behindConsonants_87 kF_X12_47 kY_12 (Or.inr ⟨_, rfl⟩) (l_128 hL) (k_128 hL) (r_128_15 hL) ?_
              refine E_iload_n dX12_behindConsonants_90 rfl ?_
              refine E_ialdL (v := nI (cN _ 141 _)) dX12_behindConsonants_91 (l_141 hL) (k_141 hL) rfl (by first | omega | exact h.n256 _) (by decide) (h.gc (Or.inl ⟨by decide, by decide, by decide⟩)) ?_
              refine E_bipush (v := nI 39) dX12_behindConsonants_92 (by decide) ?_
              refine E_icmp_ne_n (tgt := 106) dX12_behindConsonants_94 (by decide) (by omega) (by omega) (fun e_94 => ?_) (fun e_94 => ?_)
              · refine E_iload_n dX12_behindConsonants_106 rfl ?_
                refine E_istore_n dX12_behindConsonants_107 (Nat.le_of_ble_eq_true rfl) (by decide) rfl ?_
                refine E_aload_n dX12_behindConsonants_108 rfl ?_
                refine E_iload_n dX12_behindConsonants_109 rfl ?_
                refine E_iload_n dX12_behindConsonants_110 rfl ?_
                refine E_callV2 (fr' := 3) (k1 := 0) (n1 := 0) (k2 := 0) (n2 := 0) dX12_behindConsonants_111 kO_X12_behindVowels kL_X12_255 (l_128 hL) (k_128 hL) ⟨by decide, rfl⟩ rfl rfl (by decide) (by decide) (by exact Nat.le_of_ble_eq_true rfl) rfl ?_
                refine sp_X12_behindVowels h.b (by omega) (by omega) ?_
                refine gKv ?_
                refine E_iret dX12_behindConsonants_114 (Or.inl rfl) ?_
                first
                  | (rw [bcE_0 (c := c) (b := b) (k := k) (by omega)] at he; rw [← he] at K; exact K)
                  | (rw [bcE_1 (c := c) (b := b) (k := k) (by omega) (by omega)] at he; rw [← he] at K; exact K)
              · refine E_aload_n dX12_behindConsonants_97 rfl ?_
                refine E_iload_n dX12_behindConsonants_98 rfl ?_
                refine E_iload_n dX12_behindConsonants_99 rfl ?_
                refine E_callV2 (fr' := 1) (k1 := 0) (n1 := 0) (k2 := 0) (n2 := 0) dX12_behindConsonants_100 kO_X12_behindKiller kL_X12_249 (l_128 hL) (k_128 hL) ⟨by decide, rfl⟩ rfl rfl (by decide) (by decide) (by exact Nat.le_of_ble_eq_true rfl) rfl ?_
                refine sp_X12_behindKiller h.b (by omega) (by omega) ?_
                refine gKv ?_
                refine E_goto (tgt := 107) dX12_behindConsonants_103 (by decide) ?_
                refine E_istore_n dX12_behindConsonants_107 (Nat.le_of_ble_eq_true rfl) (by decide) rfl ?_
                refine E_aload_n dX12_behindConsonants_108 rfl ?_
                refine E_iload_n dX12_behindConsonants_109 rfl ?_
                refine E_iload_n dX12_behindConsonants_110 rfl ?_
                refine E_callV2 (fr' := 3) (k1 := 0) (n1 := 0) (k2 := 0) (n2 := 0) dX12_behindConsonants_111 kO_X12_behindVowels kL_X12_255 (l_128 hL) (k_128 hL) ⟨by decide, rfl⟩ rfl rfl (by decide) (by decide) (by exact Nat.le_of_ble_eq_true rfl) rfl ?_
                refine sp_X12_behindVowels h.b (by omega) (by omega) ?_
                refine gKv ?_
                refine E_iret dX12_behindConsonants_114 (Or.inl rfl) ?_
                first
                  | (rw [bcE_0 (c := c) (b := b) (k := k) (by omega)] at he; rw [← he] at K; exact K)
                  | (rw [bcE_1 (c := c) (b := b) (k := k) (by omega) (by omega)] at he; rw [← he] at K; exact K)
          · refine E_iconst (v := nI 1) dX12_behindConsonants_57 (by decide) ?_
            refine E_goto (tgt := 62) dX12_behindConsonants_58 (by decide) ?_
            refine E_istore dX12_behindConsonants_62 (Nat.le_of_ble_eq_true rfl) (by decide) rfl ?_
            refine E_iload dX12_behindConsonants_64 rfl ?_
            refine E_if_eq (tgt := 76) dX12_behindConsonants_66 (by decide) (fun c0 => absurd c0 (by decide)) (fun _ => ?_)
            refine E_iload dX12_behindConsonants_69 rfl ?_
            refine E_iconst (v := nI 1) dX12_behindConsonants_71 (by decide) ?_
            refine E_iadd_n dX12_behindConsonants_72 ?_
            refine E_goto (tgt := 77) dX12_behindConsonants_73 (by decide) ?_
            refine E_istore_n dX12_behindConsonants_77 (Nat.le_of_ble_eq_true rfl) (by decide) rfl ?_
            refine E_goto (tgt := 5) dX12_behindConsonants_78 (by decide) ?_
            first
              | exact ih _ (by omega) (by omega) (by rw [← he]; exact (bcE_2 ⟨by omega, by omega⟩ ⟨by omega, by omega⟩).symm) _
              | (exfalso; omega)
set_option maxRecDepth 100000 in
set_option maxHeartbeats 4000000 in
theorem sp_X12_behindConsonants {g : gG} {M : gM} {Q : Option Value ⊕ String → gM → Prop} {c : Cf} (h : bS c M) {b k : Nat} (hb : b ≤ 16) (hk : k ≤ b) (K : Q (.inl (some (.int (nI (bcE c b k))))) M) : E g 4 0 0 mX12_behindConsonants 0 [.ref 129, .int (nI b), .int (nI k), .null, .null, .null] [] M Q := by
  have hL := h.lay
  refine E_iload_n dX12_behindConsonants_0 rfl ?_
  refine E_istore_n dX12_behindConsonants_1 (Nat.le_of_ble_eq_true rfl) (by decide) rfl ?_
  refine E_iconst (v := nI 1) dX12_behindConsonants_2 (by decide) ?_
  refine E_istore dX12_behindConsonants_3 (Nat.le_of_ble_eq_true rfl) (by decide) rfl ?_
  exact lp_X12_behindConsonants h hb K b k (by omega) hk rfl _
noncomputable def clmA (L : List Gl) (s : Nat) : Nat := rfd (fun j => j < s ∨ cCo (yN (gat L j))) L.length
noncomputable def clmB (L : List Gl) (s : Nat) : Nat := fnd (fun j => ¬ (yN (gat L j) = 39 ∨ yN (gat L j) = 2 ∨ yN (gat L j) = 3)) L.length (clmA L s)
noncomputable def clmC (L : List Gl) (s i e : Nat) : List Gl := rotL (addL L (newG 65 i e (-100))) (clmB L s) L.length (L.length + 1)
noncomputable def clmL (L : List Gl) (s i e : Nat) : List Gl := clmC (closeL (closeL L s) s) s i e
theorem clmL_len {L : List Gl} {s i e : Nat} (h : s + 2 ≤ L.length) : (clmL L s i e).length = L.length - 1 := by
  unfold clmL clmC
  rw [rot_len, add_len, cl_len, cl_len]; omega
theorem rfd_s {P : Nat → Prop} {s : Nat} (h : ∀ j, j < s → P j) : rfd P s = s := by
  cases s with
  | zero => rfl
  | succ s => exact rfd_t (h s (by omega))
set_option maxRecDepth 100000 in
set_option maxHeartbeats 4000000 in
theorem lp2_X12_climbs {g : gG} {M : gM} {Q : Option Value ⊕ String → gM → Prop} {c : Cf} {f : Nat} {M0 : gM} {L : List Gl} {w : Int32} (h : mX c f M0 L w M) {s i e : Nat} (hi : i < 16) (he3 : e ≤ 3) (hn63 : L.length < 64) (K : ∀ M, mX c f M0 (clmC L s i e) w M → Q (.inl none) M) : ∀ k, k ≤ L.length → fnd (fun j => ¬ (yN (gat L j) = 39 ∨ yN (gat L j) = 2 ∨ yN (gat L j) = 3)) L.length k = clmB L s → ∀ v5, E g 3 0 0 mX12_climbs 55 [.ref 129, .int (nI s), .int (nI i), .int (nI e), .int (nI k), v5] [] M Q := by
  have hL := h.lay
  have hf := h.hf
  have hn := h.len
  refine lpUp L.length (fun k hk ih => ?_)
  intro he v5
  have gx := (h.ok.at k).1
  refine E_iload dX12_climbs_55 rfl ?_
  refine E_aload_n dX12_climbs_57 rfl ?_
  refine E_getIL (v := nI _) dX12_climbs_58 kF_X12_235 kY_12 (Or.inl rfl) (l_128 hL) (k_128 hL) h.gn ?_
  refine E_icmp_ge_n (tgt := 104) dX12_climbs_61 (by decide) (by omega) (by omega) (fun c_61 => ?_) (fun c_61 => ?_)
  · refine E_aload_n dX12_climbs_104 rfl ?_
    refine E_getIL (v := nI _) dX12_climbs_105 kF_X12_235 kY_12 (Or.inl rfl) (l_128 hL) (k_128 hL) h.gn ?_
    refine E_istore dX12_climbs_108 (Nat.le_of_ble_eq_true rfl) (by decide) rfl ?_
    refine E_aload_n dX12_climbs_110 rfl ?_
    refine E_bipush (v := nI 65) dX12_climbs_111 (by decide) ?_
    refine E_iload_n dX12_climbs_113 rfl ?_
    refine E_iload_n dX12_climbs_114 rfl ?_
    refine E_bipush (v := -100) dX12_climbs_115 (by decide) ?_
    refine E_callV4 (fr' := 1) (k1 := 0) (n1 := 0) (k2 := 0) (n2 := 0) dX12_climbs_117 kO_X12_addsGlyph kL_X12_242 (l_128 hL) (k_128 hL) ⟨by decide, rfl⟩ rfl rfl rfl rfl (by decide) (by decide) (by exact Nat.le_of_ble_eq_true rfl) rfl ?_
    refine sp_X12_addsGlyph h (by omega) (by omega) (by omega) (by omega) (fun M h => ?_)
    have hL := h.lay
    have hn := h.len
    refine gKn ?_
    refine E_aload_n dX12_climbs_120 rfl ?_
    refine E_iload dX12_climbs_121 rfl ?_
    refine E_iload dX12_climbs_123 rfl ?_
    refine E_iload dX12_climbs_125 rfl ?_
    refine E_iconst (v := nI 1) dX12_climbs_127 (by decide) ?_
    refine E_iadd_n dX12_climbs_128 ?_
    refine E_callV3 (fr' := 2) (k1 := 0) (n1 := 0) (k2 := 0) (n2 := 0) dX12_climbs_129 kO_X12_turns kL_X12_266 (l_128 hL) (k_128 hL) ⟨by decide, rfl⟩ rfl rfl rfl (by decide) (by decide) (by exact Nat.le_of_ble_eq_true rfl) rfl ?_
    refine sp_X12_turns h (by omega) (by omega) (by rw [add_len]; omega) (fun M h => ?_)
    refine gKn ?_
    refine E_vret dX12_climbs_132 rfl ?_
    have e1 : clmB L s = k := by
      rw [← he]; first | exact fnd_end (by omega) | exact fnd_hit (by omega) (by omega)
    refine K _ ?_
    unfold clmC
    rw [e1]
    exact h
  · refine E_aload_n dX12_climbs_64 rfl ?_
    refine E_getRL dX12_climbs_65 kF_X12_63 kY_12 (Or.inr ⟨_, rfl⟩) (l_128 hL) (k_128 hL) (r_128_22 hL) ?_
    refine E_iload dX12_climbs_68 rfl ?_
    refine E_ialdL (v := nI (yN (gat _ _))) dX12_climbs_70 (l_145 hL) (k_145 hL) rfl (by first | omega | exact h.n256 _) (by decide) (h.at (by omega)).1 ?_
    refine E_bipush (v := nI 39) dX12_climbs_71 (by decide) ?_
    refine E_icmp_eq_n (tgt := 98) dX12_climbs_73 (by decide) (by omega) (by omega) (fun c_73 => ?_) (fun c_73 => ?_)
    · refine E_iinc_n (d := 1) dX12_climbs_98 rfl rfl rfl (by decide) rfl ?_
      refine E_goto (tgt := 55) dX12_climbs_101 (by decide) ?_
      exact ih (by omega) (by rw [← he]; exact (fnd_skip (by omega) (fun q => q (by omega))).symm) _
    · refine E_aload_n dX12_climbs_76 rfl ?_
      refine E_getRL dX12_climbs_77 kF_X12_63 kY_12 (Or.inr ⟨_, rfl⟩) (l_128 hL) (k_128 hL) (r_128_22 hL) ?_
      refine E_iload dX12_climbs_80 rfl ?_
      refine E_ialdL (v := nI (yN (gat _ _))) dX12_climbs_82 (l_145 hL) (k_145 hL) rfl (by first | omega | exact h.n256 _) (by decide) (h.at (by omega)).1 ?_
      refine E_iconst (v := nI 2) dX12_climbs_83 (by decide) ?_
      refine E_icmp_eq_n (tgt := 98) dX12_climbs_84 (by decide) (by omega) (by omega) (fun c_84 => ?_) (fun c_84 => ?_)
      · refine E_iinc_n (d := 1) dX12_climbs_98 rfl rfl rfl (by decide) rfl ?_
        refine E_goto (tgt := 55) dX12_climbs_101 (by decide) ?_
        exact ih (by omega) (by rw [← he]; exact (fnd_skip (by omega) (fun q => q (by omega))).symm) _
      · refine E_aload_n dX12_climbs_87 rfl ?_
        refine E_getRL dX12_climbs_88 kF_X12_63 kY_12 (Or.inr ⟨_, rfl⟩) (l_128 hL) (k_128 hL) (r_128_22 hL) ?_
        refine E_iload dX12_climbs_91 rfl ?_
        refine E_ialdL (v := nI (yN (gat _ _))) dX12_climbs_93 (l_145 hL) (k_145 hL) rfl (by first | omega | exact h.n256 _) (by decide) (h.at (by omega)).1 ?_
        refine E_iconst (v := nI 3) dX12_climbs_94 (by decide) ?_
        refine E_icmp_ne_n (tgt := 104) dX12_climbs_95 (by decide) (by omega) (by omega) (fun c_95 => ?_) (fun c_95 => ?_)
        · refine E_aload_n dX12_climbs_104 rfl ?_
          refine E_getIL (v := nI _) dX12_climbs_105 kF_X12_235 kY_12 (Or.inl rfl) (l_128 hL) (k_128 hL) h.gn ?_
          refine E_istore dX12_climbs_108 (Nat.le_of_ble_eq_true rfl) (by decide) rfl ?_
          refine E_aload_n dX12_climbs_110 rfl ?_
          refine E_bipush (v := nI 65) dX12_climbs_111 (by decide) ?_
          refine E_iload_n dX12_climbs_113 rfl ?_
          refine E_iload_n dX12_climbs_114 rfl ?_
          refine E_bipush (v := -100) dX12_climbs_115 (by decide) ?_
          refine E_callV4 (fr' := 1) (k1 := 0) (n1 := 0) (k2 := 0) (n2 := 0) dX12_climbs_117 kO_X12_addsGlyph kL_X12_242 (l_128 hL) (k_128 hL) ⟨by decide, rfl⟩ rfl rfl rfl rfl (by decide) (by decide) (by exact Nat.le_of_ble_eq_true rfl) rfl ?_
          refine sp_X12_addsGlyph h (by omega) (by omega) (by omega) (by omega) (fun M h => ?_)
          have hL := h.lay
          have hn := h.len
          refine gKn ?_
          refine E_aload_n dX12_climbs_120 rfl ?_
          refine E_iload dX12_climbs_121 rfl ?_
          refine E_iload dX12_climbs_123 rfl ?_
          refine E_iload dX12_climbs_125 rfl ?_
          refine E_iconst (v := nI 1) dX12_climbs_127 (by decide) ?_
          refine E_iadd_n dX12_climbs_128 ?_
          refine E_callV3 (fr' := 2) (k1 := 0) (n1 := 0) (k2 := 0) (n2 := 0) dX12_climbs_129 kO_X12_turns kL_X12_266 (l_128 hL) (k_128 hL) ⟨by decide, rfl⟩ rfl rfl rfl (by decide) (by decide) (by exact Nat.le_of_ble_eq_true rfl) rfl ?_
          refine sp_X12_turns h (by omega) (by omega) (by rw [add_len]; omega) (fun M h => ?_)
          refine gKn ?_
          refine E_vret dX12_climbs_132 rfl ?_
          have e1 : clmB L s = k := by
            rw [← he]; first | exact fnd_end (by omega) | exact fnd_hit (by omega) (by omega)
          refine K _ ?_
          unfold clmC
          rw [e1]
          exact h
        · refine E_iinc_n (d := 1) dX12_climbs_98 rfl rfl rfl (by decide) rfl ?_
          refine E_goto (tgt := 55) dX12_climbs_101 (by decide) ?_
          exact ih (by omega) (by rw [← he]; exact (fnd_skip (by omega) (fun q => q (by omega))).symm) _
set_option maxRecDepth 100000 in
set_option maxHeartbeats 4000000 in
theorem lp1_X12_climbs {g : gG} {M : gM} {Q : Option Value ⊕ String → gM → Prop} {c : Cf} {f : Nat} {M0 : gM} {L : List Gl} {w : Int32} (h : mX c f M0 L w M) {s i e : Nat} (hi : i < 16) (he3 : e ≤ 3) (hn63 : L.length < 64) (K : ∀ M, mX c f M0 (clmC L s i e) w M → Q (.inl none) M) : ∀ k, k ≤ L.length → s ≤ k → ∀ v, v = rfd (fun j => j < s ∨ cCo (yN (gat L j))) k → E g 3 0 0 mX12_climbs 16 [.ref 129, .int (nI s), .int (nI i), .int (nI e), .int (nI v), .int (nI k)] [] M Q := by
  have hL := h.lay
  have hf := h.hf
  have hn := h.len
  refine lpUp L.length (fun k hk ih => ?_)
  intro hsk v hv
  have hvb := rfd_le (P := (fun j => j < s ∨ cCo (yN (gat L j)))) k
  have gx := (h.ok.at k).1
  refine E_iload dX12_climbs_16 rfl ?_
  refine E_aload_n dX12_climbs_18 rfl ?_
  refine E_getIL (v := nI _) dX12_climbs_19 kF_X12_235 kY_12 (Or.inl rfl) (l_128 hL) (k_128 hL) h.gn ?_
  refine E_icmp_ge_n (tgt := 55) dX12_climbs_22 (by decide) (by omega) (by omega) (fun c_22 => ?_) (fun c_22 => ?_)
  · obtain rfl : k = L.length := by omega
    subst hv
    exact lp2_X12_climbs h hi he3 hn63 K _ hvb rfl _
  · refine E_aload_n dX12_climbs_25 rfl ?_
    refine E_getRL dX12_climbs_26 kF_X12_63 kY_12 (Or.inr ⟨_, rfl⟩) (l_128 hL) (k_128 hL) (r_128_22 hL) ?_
    refine E_iload dX12_climbs_29 rfl ?_
    refine E_ialdL (v := nI (yN (gat _ _))) dX12_climbs_31 (l_145 hL) (k_145 hL) rfl (by first | omega | exact h.n256 _) (by decide) (h.at (by omega)).1 ?_
    refine E_callS1 (fr' := 2) (k1 := 0) (n1 := 0) (k2 := 0) (n2 := 0) dX12_climbs_32 kO_X12_isConsonant kL_X12_252 rfl (by decide) (by decide) (by exact Nat.le_of_ble_eq_true rfl) (Or.inl rfl) rfl ?_
    refine sp_X12_isConsonantN (by first | omega | exact Nat.lt_trans (h.wf.tx _).1 (by decide) | exact Nat.lt_trans (h.ok.at _).1 (by decide)) ?_
    refine gKv ?_
    refine E_if_eq_b (tgt := 45) dX12_climbs_35 (by decide) (fun c_35 => ?_) (fun c_35 => ?_)
    · refine E_iload dX12_climbs_45 rfl ?_
      refine E_istore dX12_climbs_47 (Nat.le_of_ble_eq_true rfl) (by decide) rfl ?_
      refine E_iinc_n (d := 1) dX12_climbs_49 rfl rfl rfl (by decide) rfl ?_
      refine E_goto (tgt := 16) dX12_climbs_52 (by decide) ?_
      refine ih (by omega) (by omega) _ ?_
      first | exact (rfd_t (Or.inr (by assumption))).symm | (rw [hv]; exact (rfd_f (fun q => by omega)).symm)
    · refine E_iload dX12_climbs_38 rfl ?_
      refine E_iconst (v := nI 1) dX12_climbs_40 (by decide) ?_
      refine E_iadd_n dX12_climbs_41 ?_
      refine E_goto (tgt := 47) dX12_climbs_42 (by decide) ?_
      refine E_istore dX12_climbs_47 (Nat.le_of_ble_eq_true rfl) (by decide) rfl ?_
      refine E_iinc_n (d := 1) dX12_climbs_49 rfl rfl rfl (by decide) rfl ?_
      refine E_goto (tgt := 16) dX12_climbs_52 (by decide) ?_
      refine ih (by omega) (by omega) _ ?_
      first | exact (rfd_t (Or.inr (by assumption))).symm | (rw [hv]; exact (rfd_f (fun q => by omega)).symm)
set_option maxRecDepth 100000 in
set_option maxHeartbeats 4000000 in
theorem sp_X12_climbs {g : gG} {M : gM} {Q : Option Value ⊕ String → gM → Prop} {c : Cf} {f : Nat} {M0 : gM} {L : List Gl} {w : Int32} (h : mX c f M0 L w M) {s i e : Nat} (hi : i < 16) (he3 : e ≤ 3) (hs : s + 2 ≤ L.length) (K : ∀ M, mX c f M0 (clmL L s i e) w M → Q (.inl none) M) : E g 3 0 0 mX12_climbs 0 [.ref 129, .int (nI s), .int (nI i), .int (nI e), .null, .null] [] M Q := by
  have hL := h.lay
  have hf := h.hf
  have hn := h.len
  refine E_aload_n dX12_climbs_0 rfl ?_
  refine E_iload_n dX12_climbs_1 rfl ?_
  refine E_callV1 (fr' := 2) (k1 := 0) (n1 := 0) (k2 := 0) (n2 := 0) dX12_climbs_2 kO_X12_closes kL_X12_262 (l_128 hL) (k_128 hL) ⟨by decide, rfl⟩ rfl (by decide) (by decide) (by exact Nat.le_of_ble_eq_true rfl) rfl ?_
  refine sp_X12_closes h (by omega) (fun M h => ?_)
  have hL := h.lay
  have hn := h.len
  refine gKn ?_
  refine E_aload_n dX12_climbs_5 rfl ?_
  refine E_iload_n dX12_climbs_6 rfl ?_
  refine E_callV1 (fr' := 2) (k1 := 0) (n1 := 0) (k2 := 0) (n2 := 0) dX12_climbs_7 kO_X12_closes kL_X12_262 (l_128 hL) (k_128 hL) ⟨by decide, rfl⟩ rfl (by decide) (by decide) (by exact Nat.le_of_ble_eq_true rfl) rfl ?_
  refine sp_X12_closes h (by rw [cl_len]; omega) (fun M h => ?_)
  have hL := h.lay
  have hn := h.len
  refine gKn ?_
  refine E_iload_n dX12_climbs_10 rfl ?_
  refine E_istore dX12_climbs_11 (Nat.le_of_ble_eq_true rfl) (by decide) rfl ?_
  refine E_iload_n dX12_climbs_13 rfl ?_
  refine E_istore dX12_climbs_14 (Nat.le_of_ble_eq_true rfl) (by decide) rfl ?_
  refine lp1_X12_climbs h hi he3 (by rw [cl_len, cl_len]; omega) K s (by rw [cl_len, cl_len]; omega) (Nat.le_refl _) s (rfd_s (fun j hj => Or.inl hj)).symm
noncomputable def sA : Nat → Nat → Nat → List Gl → List Gl
  | 0, _, _, L => L
  | t + 1, k, to, L => cI (yN (gat L k) = 40) (sA t (k + 1) (to + 1) (rotL L to k (k + 1))) (sA t (k + 1) to L)
theorem sA_len : ∀ t k to L, (sA t k to L).length = L.length := by
  intro t
  induction t with
  | zero => intro k to L; rfl
  | succ t ih =>
    intro k to L
    show (cI (yN (gat L k) = 40) (sA t (k + 1) (to + 1) (rotL L to k (k + 1))) (sA t (k + 1) to L)).length = _
    by_cases e : yN (gat L k) = 40
    · rw [cI_t e, ih, rot_len]
    · rw [cI_f e, ih]
set_option maxRecDepth 100000 in
set_option maxHeartbeats 4000000 in
theorem lp_X12_setsAhead {g : gG} {Q : Option Value ⊕ String → gM → Prop} {c : Cf} {f : Nat} {M0 : gM} {w : Int32} {s : Nat} : ∀ t k to (L : List Gl) M, mX c f M0 L w M → k + t = L.length → to ≤ k → (K : ∀ M, mX c f M0 (sA t k to L) w M → Q (.inl none) M) → E g 3 0 0 mX12_setsAhead 4 [.ref 129, .int (nI s), .int (nI to), .int (nI k)] [] M Q := by
  intro t
  induction t with
  | zero =>
    intro k to L M h ht hto K
    have hL := h.lay
    have hf := h.hf
    have hn := h.len
    refine E_iload_n dX12_setsAhead_4 rfl ?_
    refine E_aload_n dX12_setsAhead_5 rfl ?_
    refine E_getIL (v := nI _) dX12_setsAhead_6 kF_X12_235 kY_12 (Or.inl rfl) (l_128 hL) (k_128 hL) h.gn ?_
    refine E_icmp_ge_n (tgt := 41) dX12_setsAhead_9 (by decide) (by omega) (by omega) (fun c_9 => ?_) (fun c_9 => ?_)
    · refine E_vret dX12_setsAhead_41 rfl ?_
      exact K _ h
    · exfalso; omega
  | succ t ih =>
    intro k to L M h ht hto K
    have gx := (h.ok.at k).1
    have K : ∀ M, mX c f M0 (cI (yN (gat L k) = 40) (sA t (k + 1) (to + 1) (rotL L to k (k + 1))) (sA t (k + 1) to L)) w M → Q (.inl none) M := K
    have hL := h.lay
    have hf := h.hf
    have hn := h.len
    refine E_iload_n dX12_setsAhead_4 rfl ?_
    refine E_aload_n dX12_setsAhead_5 rfl ?_
    refine E_getIL (v := nI _) dX12_setsAhead_6 kF_X12_235 kY_12 (Or.inl rfl) (l_128 hL) (k_128 hL) h.gn ?_
    refine E_icmp_ge_n (tgt := 41) dX12_setsAhead_9 (by decide) (by omega) (by omega) (fun c_9 => ?_) (fun c_9 => ?_)
    · refine E_vret dX12_setsAhead_41 rfl ?_
      exfalso; omega
    · refine E_aload_n dX12_setsAhead_12 rfl ?_
      refine E_getRL dX12_setsAhead_13 kF_X12_63 kY_12 (Or.inr ⟨_, rfl⟩) (l_128 hL) (k_128 hL) (r_128_22 hL) ?_
      refine E_iload_n dX12_setsAhead_16 rfl ?_
      refine E_ialdL (v := nI (yN (gat _ _))) dX12_setsAhead_17 (l_145 hL) (k_145 hL) rfl (by first | omega | exact h.n256 _) (by decide) (h.at (by omega)).1 ?_
      refine E_bipush (v := nI 40) dX12_setsAhead_18 (by decide) ?_
      refine E_icmp_ne_n (tgt := 35) dX12_setsAhead_20 (by decide) (by omega) (by omega) (fun c_20 => ?_) (fun c_20 => ?_)
      · refine E_iinc_n (d := 1) dX12_setsAhead_35 rfl rfl rfl (by decide) rfl ?_
        refine E_goto (tgt := 4) dX12_setsAhead_38 (by decide) ?_
        first
          | (rw [cI_t (by assumption)] at K; exact ih _ _ _ _ h (by rw [rot_len]; omega) (by omega) K)
          | (rw [cI_f (by assumption)] at K; exact ih _ _ _ _ h (by omega) (by omega) K)
      · refine E_aload_n dX12_setsAhead_23 rfl ?_
        refine E_iload_n dX12_setsAhead_24 rfl ?_
        refine E_iload_n dX12_setsAhead_25 rfl ?_
        refine E_iload_n dX12_setsAhead_26 rfl ?_
        refine E_iconst (v := nI 1) dX12_setsAhead_27 (by decide) ?_
        refine E_iadd_n dX12_setsAhead_28 ?_
        refine E_callV3 (fr' := 2) (k1 := 0) (n1 := 0) (k2 := 0) (n2 := 0) dX12_setsAhead_29 kO_X12_turns kL_X12_266 (l_128 hL) (k_128 hL) ⟨by decide, rfl⟩ rfl rfl rfl (by decide) (by decide) (by exact Nat.le_of_ble_eq_true rfl) rfl ?_
        refine sp_X12_turns h (by omega) (by omega) (by omega) (fun M h => ?_)
        have hL := h.lay
        have hn := h.len
        refine gKn ?_
        refine E_iinc_n (d := 1) dX12_setsAhead_32 rfl rfl rfl (by decide) rfl ?_
        refine E_iinc_n (d := 1) dX12_setsAhead_35 rfl rfl rfl (by decide) rfl ?_
        refine E_goto (tgt := 4) dX12_setsAhead_38 (by decide) ?_
        first
          | (rw [cI_t (by assumption)] at K; exact ih _ _ _ _ h (by rw [rot_len]; omega) (by omega) K)
          | (rw [cI_f (by assumption)] at K; exact ih _ _ _ _ h (by omega) (by omega) K)
set_option maxRecDepth 100000 in
set_option maxHeartbeats 4000000 in
theorem sp_X12_setsAhead {g : gG} {M : gM} {Q : Option Value ⊕ String → gM → Prop} {c : Cf} {f : Nat} {M0 : gM} {L : List Gl} {w : Int32} (h : mX c f M0 L w M) {s : Nat} (hs : s ≤ L.length) (K : ∀ M, mX c f M0 (sA (L.length - s) s s L) w M → Q (.inl none) M) : E g 3 0 0 mX12_setsAhead 0 [.ref 129, .int (nI s), .null, .null] [] M Q := by
  have hL := h.lay
  have hf := h.hf
  have hn := h.len
  refine E_iload_n dX12_setsAhead_0 rfl ?_
  refine E_istore_n dX12_setsAhead_1 (Nat.le_of_ble_eq_true rfl) (by decide) rfl ?_
  refine E_iload_n dX12_setsAhead_2 rfl ?_
  refine E_istore_n dX12_setsAhead_3 (Nat.le_of_ble_eq_true rfl) (by decide) rfl ?_
  exact lp_X12_setsAhead (L.length - s) s s L M h (by omega) (Nat.le_refl _) K
noncomputable def syE (c : Cf) (b i : Nat) : Nat := cI (cCo (cN c 141 i)) (bcE c b (i + 1)) (cI (cN c 141 i = 43) (bv c b (i + 1)) (cI (39 ≤ cN c 141 i) (bcE c b i) (i + 1)))
theorem syE_b {c : Cf} {b i : Nat} (hw : WFc c) (h : i < b) : i + 1 ≤ syE c b i ∧ syE c b i ≤ b := by
  unfold syE
  have h1 := bcE_b (c := c) (i + 1) h
  have h2 := bv_b (c := c) (b := b) (k := i + 1) h
  have h3 := bcE_b (c := c) i (Nat.le_of_lt h)
  have h4 := (hw.tx i).1
  by_cases e : cCo (cN c 141 i)
  · rw [cI_t e]; omega
  · rw [cI_f e]
    by_cases e2 : cN c 141 i = 43
    · rw [cI_t e2]; omega
    · rw [cI_f e2]
      by_cases e3 : 39 ≤ cN c 141 i
      · rw [cI_t e3]
        have := h3.2.2 h (by unfold cVo; omega)
        omega
      · rw [cI_f e3]; omega
def sgG (c : Cf) (i k : Nat) : Gl := newG (cN c 141 k) i (cN c 142 k) (-100)
def adS (c : Cf) (i : Nat) : Nat → Nat → List Gl → List Gl
  | 0, _, L => L
  | t + 1, k, L => adS c i t (k + 1) (addL L (sgG c i k))
theorem adS_len (c : Cf) (i : Nat) : ∀ t k L, (adS c i t k L).length = L.length + t := by
  intro t
  induction t with
  | zero => intro k L; rfl
  | succ t ih => intro k L; show (adS c i t (k + 1) (addL L (sgG c i k))).length = _; rw [ih, add_len]; omega
noncomputable def sy1 (c : Cf) (i : Nat) (L : List Gl) : List Gl := cI (39 ≤ cN c 141 i ∧ ¬ cN c 141 i = 43) (addL L (newG 64 i 0 (-100))) L
def syP (c : Cf) (b i : Nat) : Prop := cN c 141 i = 38 ∧ i + 2 < syE c b i ∧ cN c 141 (i + 1) = 39 ∧ cCo (cN c 141 (i + 2))
noncomputable def sy2 (c : Cf) (b i : Nat) (L : List Gl) : List Gl := adS c i (syE c b i - i) i (sy1 c i L)
noncomputable def sy3 (c : Cf) (b i s : Nat) (L2 : List Gl) : List Gl := cI (syP c b i) (clmL L2 s i (cN c 142 i)) L2
noncomputable def sy4 (s : Nat) (L : List Gl) : List Gl := sA (L.length - s) s s L
noncomputable def syL (c : Cf) (b i : Nat) (L : List Gl) : List Gl := sy4 L.length (sy3 c b i L.length (sy2 c b i L))
noncomputable def sys (c : Cf) (b : Nat) : Nat → Nat → List Gl → List Gl
  | 0, _, L => L
  | t + 1, i, L => cI (i < b) (sys c b t (syE c b i) (syL c b i L)) L
theorem sy1_len (c : Cf) (i : Nat) (L : List Gl) : L.length ≤ (sy1 c i L).length ∧ (sy1 c i L).length ≤ L.length + 1 := by
  unfold sy1
  by_cases e : 39 ≤ cN c 141 i ∧ ¬ cN c 141 i = 43
  · rw [cI_t e, add_len]; omega
  · rw [cI_f e]; omega
theorem sy2_len (c : Cf) (b i : Nat) (L : List Gl) : (sy2 c b i L).length = (sy1 c i L).length + (syE c b i - i) := adS_len _ _ _ _ _
theorem syL_len {c : Cf} {b i : Nat} {L : List Gl} (hw : WFc c) (h : i < b) : L.length ≤ (syL c b i L).length ∧ (syL c b i L).length ≤ L.length + 2 * (syE c b i - i) := by
  unfold syL sy4
  rw [sA_len]
  unfold sy3
  have h1 := sy1_len c i L
  have h2 := sy2_len c b i L
  have h3 := syE_b hw h
  by_cases e : syP c b i
  · have := e.2.1
    rw [cI_t e, clmL_len (by omega)]; omega
  · rw [cI_f e]; omega
set_option maxRecDepth 100000 in
set_option maxHeartbeats 4000000 in
theorem t2_X12_laysSyllables {g : gG} {Q : Option Value ⊕ String → gM → Prop} {c : Cf} {f : Nat} {M0 : gM} {w : Int32} {L : List Gl} {a b i : Nat} (hb : b ≤ 16) (hi : i < b) (hn2 : L.length ≤ 2 * i) (K : ∀ M v4 v5 v6 v7 v8, mX c f M0 (syL c b i L) w M → E g 5 0 0 mX12_laysSyllables 2 [.ref 129, .int (nI a), .int (nI b), .int (nI (syE c b i)), v4, v5, v6, v7, v8] [] M Q) : ∀ M v6 v8, mX c f M0 (sy2 c b i L) w M → E g 5 0 0 mX12_laysSyllables 150 [.ref 129, .int (nI a), .int (nI b), .int (nI i), .int (nI L.length), .int (nI (cN c 141 i)), v6, .int (nI (syE c b i)), v8] [] M Q := by
  intro M v6 v8 h
  have hL := h.lay
  have hf := h.hf
  have hn := h.len
  have tx := (h.wf.tx i).1
  have he := syE_b h.wf hi
  have s1 := sy1_len c i L
  have s2 := sy2_len c b i L
  have tx1 := (h.wf.tx (i + 1)).1
  have tx2 := (h.wf.tx (i + 2)).1
  have hx4 := (h.wf.tx i).2
  have fin : ∀ M L3, mX c f M0 L3 w M → L3 = sy3 c b i L.length (sy2 c b i L) → L.length ≤ L3.length → E g 5 0 0 mX12_laysSyllables 205 [.ref 129, .int (nI a), .int (nI b), .int (nI i), .int (nI L.length), .int (nI (cN c 141 i)), v6, .int (nI (syE c b i)), v8] [] M Q := by
    intro M L3 h e hl
    have hL := h.lay
    refine E_aload_n dX12_laysSyllables_205 rfl ?_
    refine E_iload dX12_laysSyllables_206 rfl ?_
    refine E_callV1 (fr' := 3) (k1 := 0) (n1 := 0) (k2 := 0) (n2 := 0) dX12_laysSyllables_208 kO_X12_setsAhead kL_X12_276 (l_128 hL) (k_128 hL) ⟨by decide, rfl⟩ rfl (by decide) (by decide) (by exact Nat.le_of_ble_eq_true rfl) rfl ?_
    refine sp_X12_setsAhead h hl (fun M h => ?_)
    have hL := h.lay
    have h : mX c f M0 (syL c b i L) w M := by unfold syL sy4; rw [← e]; exact h
    refine gKn ?_
    refine E_iload dX12_laysSyllables_211 rfl ?_
    refine E_istore_n dX12_laysSyllables_213 (Nat.le_of_ble_eq_true rfl) (by decide) rfl ?_
    refine E_goto (tgt := 2) dX12_laysSyllables_214 (by decide) ?_
    exact K _ _ _ _ _ _ h
  refine E_iload dX12_laysSyllables_150 rfl ?_
  refine E_bipush (v := nI 38) dX12_laysSyllables_152 (by decide) ?_
  refine E_icmp_ne_n (tgt := 205) dX12_laysSyllables_154 (by decide) (by omega) (by omega) (fun c_154 => ?_) (fun c_154 => ?_)
  · first
      | exact fin _ _ h (by unfold sy3; exact (cI_t ⟨by omega, by omega, by omega, by omega⟩).symm) (by rw [clmL_len (by omega)]; omega)
      | exact fin _ _ h (by unfold sy3; exact (cI_f (fun q => by have q1 := q.1; have q2 := q.2.1; have q3 := q.2.2.1; have q4 := q.2.2.2; omega)).symm) (by omega)
  · refine E_iload_n dX12_laysSyllables_157 rfl ?_
    refine E_iconst (v := nI 2) dX12_laysSyllables_158 (by decide) ?_
    refine E_iadd_n dX12_laysSyllables_159 ?_
    refine E_iload dX12_laysSyllables_160 rfl ?_
    refine E_icmp_ge_n (tgt := 205) dX12_laysSyllables_162 (by decide) (by omega) (by omega) (fun c_162 => ?_) (fun c_162 => ?_)
    · first
        | exact fin _ _ h (by unfold sy3; exact (cI_t ⟨by omega, by omega, by omega, by omega⟩).symm) (by rw [clmL_len (by omega)]; omega)
        | exact fin _ _ h (by unfold sy3; exact (cI_f (fun q => by have q1 := q.1; have q2 := q.2.1; have q3 := q.2.2.1; have q4 := q.2.2.2; omega)).symm) (by omega)
    · refine E_aload_n dX12_laysSyllables_165 rfl ?_
      refine E_getRL dX12_laysSyllables_166 kF_X12_47 kY_12 (Or.inr ⟨_, rfl⟩) (l_128 hL) (k_128 hL) (r_128_15 hL) ?_
      refine E_iload_n dX12_laysSyllables_169 rfl ?_
      refine E_iconst (v := nI 1) dX12_laysSyllables_170 (by decide) ?_
      refine E_iadd_n dX12_laysSyllables_171 ?_
      refine E_ialdL (v := nI (cN _ 141 _)) dX12_laysSyllables_172 (l_141 hL) (k_141 hL) rfl (by first | omega | exact h.n256 _) (by decide) (h.gc (Or.inl ⟨by decide, by decide, by decide⟩)) ?_
      refine E_bipush (v := nI 39) dX12_laysSyllables_173 (by decide) ?_
      refine E_icmp_ne_n (tgt := 205) dX12_laysSyllables_175 (by decide) (by omega) (by omega) (fun c_175 => ?_) (fun c_175 => ?_)
      · first
          | exact fin _ _ h (by unfold sy3; exact (cI_t ⟨by omega, by omega, by omega, by omega⟩).symm) (by rw [clmL_len (by omega)]; omega)
          | exact fin _ _ h (by unfold sy3; exact (cI_f (fun q => by have q1 := q.1; have q2 := q.2.1; have q3 := q.2.2.1; have q4 := q.2.2.2; omega)).symm) (by omega)
      · refine E_aload_n dX12_laysSyllables_178 rfl ?_
        refine E_getRL dX12_laysSyllables_179 kF_X12_47 kY_12 (Or.inr ⟨_, rfl⟩) (l_128 hL) (k_128 hL) (r_128_15 hL) ?_
        refine E_iload_n dX12_laysSyllables_182 rfl ?_
        refine E_iconst (v := nI 2) dX12_laysSyllables_183 (by decide) ?_
        refine E_iadd_n dX12_laysSyllables_184 ?_
        refine E_ialdL (v := nI (cN _ 141 _)) dX12_laysSyllables_185 (l_141 hL) (k_141 hL) rfl (by first | omega | exact h.n256 _) (by decide) (h.gc (Or.inl ⟨by decide, by decide, by decide⟩)) ?_
        refine E_callS1 (fr' := 2) (k1 := 0) (n1 := 0) (k2 := 0) (n2 := 0) dX12_laysSyllables_186 kO_X12_isConsonant kL_X12_252 rfl (by decide) (by decide) (by exact Nat.le_of_ble_eq_true rfl) (Or.inl rfl) rfl ?_
        refine sp_X12_isConsonantN (by first | omega | exact Nat.lt_trans (h.wf.tx _).1 (by decide) | exact Nat.lt_trans (h.ok.at _).1 (by decide)) ?_
        refine gKv ?_
        refine E_if_eq_b (tgt := 205) dX12_laysSyllables_189 (by decide) (fun c_189 => ?_) (fun c_189 => ?_)
        · first
            | exact fin _ _ h (by unfold sy3; exact (cI_t ⟨by omega, by omega, by omega, by omega⟩).symm) (by rw [clmL_len (by omega)]; omega)
            | exact fin _ _ h (by unfold sy3; exact (cI_f (fun q => by have q1 := q.1; have q2 := q.2.1; have q3 := q.2.2.1; have q4 := q.2.2.2; omega)).symm) (by omega)
        · refine E_aload_n dX12_laysSyllables_192 rfl ?_
          refine E_iload dX12_laysSyllables_193 rfl ?_
          refine E_iload_n dX12_laysSyllables_195 rfl ?_
          refine E_aload_n dX12_laysSyllables_196 rfl ?_
          refine E_getRL dX12_laysSyllables_197 kF_X12_50 kY_12 (Or.inr ⟨_, rfl⟩) (l_128 hL) (k_128 hL) (r_128_16 hL) ?_
          refine E_iload_n dX12_laysSyllables_200 rfl ?_
          refine E_ialdL (v := nI (cN _ 142 _)) dX12_laysSyllables_201 (l_142 hL) (k_142 hL) rfl (by first | omega | exact h.n256 _) (by decide) (h.gc (Or.inl ⟨by decide, by decide, by decide⟩)) ?_
          refine E_callV3 (fr' := 3) (k1 := 0) (n1 := 0) (k2 := 0) (n2 := 0) dX12_laysSyllables_202 kO_X12_climbs kL_X12_273 (l_128 hL) (k_128 hL) ⟨by decide, rfl⟩ rfl rfl rfl (by decide) (by decide) (by exact Nat.le_of_ble_eq_true rfl) rfl ?_
          refine sp_X12_climbs h (by omega) (by omega) (by omega) (fun M h => ?_)
          have hL := h.lay
          refine gKn ?_
          first
            | exact fin _ _ h (by unfold sy3; exact (cI_t ⟨by omega, by omega, by omega, by omega⟩).symm) (by rw [clmL_len (by omega)]; omega)
            | exact fin _ _ h (by unfold sy3; exact (cI_f (fun q => by have q1 := q.1; have q2 := q.2.1; have q3 := q.2.2.1; have q4 := q.2.2.2; omega)).symm) (by omega)
set_option maxRecDepth 100000 in
set_option maxHeartbeats 4000000 in
theorem t1_X12_laysSyllables {g : gG} {Q : Option Value ⊕ String → gM → Prop} {c : Cf} {f : Nat} {M0 : gM} {w : Int32} {L : List Gl} {a b i : Nat} (hb : b ≤ 16) (hi : i < b) (hn2 : L.length ≤ 2 * i) (K : ∀ M v4 v5 v6 v7 v8, mX c f M0 (syL c b i L) w M → E g 5 0 0 mX12_laysSyllables 2 [.ref 129, .int (nI a), .int (nI b), .int (nI (syE c b i)), v4, v5, v6, v7, v8] [] M Q) : ∀ t k L1 M v6, mX c f M0 L1 w M → k + t = syE c b i → i ≤ k → L1.length + t ≤ 63 → adS c i t k L1 = sy2 c b i L → E g 5 0 0 mX12_laysSyllables 116 [.ref 129, .int (nI a), .int (nI b), .int (nI i), .int (nI L.length), .int (nI (cN c 141 i)), v6, .int (nI (syE c b i)), .int (nI k)] [] M Q := by
  intro t
  induction t with
  | zero =>
    intro k L1 M v6 h ht hik hl hs
    have tx := (h.wf.tx i).1
    have he := syE_b h.wf hi
    have hL := h.lay
    have hf := h.hf
    have hn := h.len
    refine E_iload dX12_laysSyllables_116 rfl ?_
    refine E_iload dX12_laysSyllables_118 rfl ?_
    refine E_icmp_ge_n (tgt := 150) dX12_laysSyllables_120 (by decide) (by omega) (by omega) (fun c_120 => ?_) (fun c_120 => ?_)
    · have hs : L1 = sy2 c b i L := hs
      rw [hs] at h
      exact t2_X12_laysSyllables hb hi hn2 K _ _ _ h
    · exfalso; omega
  | succ t ih =>
    intro k L1 M v6 h ht hik hl hs
    have tx := (h.wf.tx i).1
    have he := syE_b h.wf hi
    have txk := (h.wf.tx k).1
    have hx4 := (h.wf.tx k).2
    have hL := h.lay
    have hf := h.hf
    have hn := h.len
    refine E_iload dX12_laysSyllables_116 rfl ?_
    refine E_iload dX12_laysSyllables_118 rfl ?_
    refine E_icmp_ge_n (tgt := 150) dX12_laysSyllables_120 (by decide) (by omega) (by omega) (fun c_120 => ?_) (fun c_120 => ?_)
    · exfalso; omega
    · refine E_aload_n dX12_laysSyllables_123 rfl ?_
      refine E_aload_n dX12_laysSyllables_124 rfl ?_
      refine E_getRL dX12_laysSyllables_125 kF_X12_47 kY_12 (Or.inr ⟨_, rfl⟩) (l_128 hL) (k_128 hL) (r_128_15 hL) ?_
      refine E_iload dX12_laysSyllables_128 rfl ?_
      refine E_ialdL (v := nI (cN _ 141 _)) dX12_laysSyllables_130 (l_141 hL) (k_141 hL) rfl (by first | omega | exact h.n256 _) (by decide) (h.gc (Or.inl ⟨by decide, by decide, by decide⟩)) ?_
      refine E_iload_n dX12_laysSyllables_131 rfl ?_
      refine E_aload_n dX12_laysSyllables_132 rfl ?_
      refine E_getRL dX12_laysSyllables_133 kF_X12_50 kY_12 (Or.inr ⟨_, rfl⟩) (l_128 hL) (k_128 hL) (r_128_16 hL) ?_
      refine E_iload dX12_laysSyllables_136 rfl ?_
      refine E_ialdL (v := nI (cN _ 142 _)) dX12_laysSyllables_138 (l_142 hL) (k_142 hL) rfl (by first | omega | exact h.n256 _) (by decide) (h.gc (Or.inl ⟨by decide, by decide, by decide⟩)) ?_
      refine E_bipush (v := -100) dX12_laysSyllables_139 (by decide) ?_
      refine E_callV4 (fr' := 1) (k1 := 0) (n1 := 0) (k2 := 0) (n2 := 0) dX12_laysSyllables_141 kO_X12_addsGlyph kL_X12_242 (l_128 hL) (k_128 hL) ⟨by decide, rfl⟩ rfl rfl rfl rfl (by decide) (by decide) (by exact Nat.le_of_ble_eq_true rfl) rfl ?_
      refine sp_X12_addsGlyph h (by omega) (by omega) (by omega) (by omega) (fun M h => ?_)
      have hL := h.lay
      have hn := h.len
      refine gKn ?_
      refine E_iinc_n (d := 1) dX12_laysSyllables_144 rfl rfl rfl (by decide) rfl ?_
      refine E_goto (tgt := 116) dX12_laysSyllables_147 (by decide) ?_
      exact ih _ _ _ _ h (by omega) (by omega) (by rw [add_len]; omega) hs
set_option maxRecDepth 100000 in
set_option maxHeartbeats 4000000 in
theorem st_X12_laysSyllables {g : gG} {M : gM} {Q : Option Value ⊕ String → gM → Prop} {c : Cf} {f : Nat} {M0 : gM} {L : List Gl} {w : Int32} (h : mX c f M0 L w M) {a b i : Nat} (hb : b ≤ 16) (hi : i < b) (hn2 : L.length ≤ 2 * i) (K : ∀ M v4 v5 v6 v7 v8, mX c f M0 (syL c b i L) w M → E g 5 0 0 mX12_laysSyllables 2 [.ref 129, .int (nI a), .int (nI b), .int (nI (syE c b i)), v4, v5, v6, v7, v8] [] M Q) : ∀ v4 v5 v6 v7 v8, E g 5 0 0 mX12_laysSyllables 7 [.ref 129, .int (nI a), .int (nI b), .int (nI i), v4, v5, v6, v7, v8] [] M Q := by
  intro v4 v5 v6 v7 v8
  have hL := h.lay
  have hf := h.hf
  have hn := h.len
  have tx := (h.wf.tx i).1
  have he := syE_b h.wf hi
  have s1 := sy1_len c i L
  have s2 := sy2_len c b i L
  have go : ∀ M L1 v6, mX c f M0 L1 w M → L1 = sy1 c i L → E g 5 0 0 mX12_laysSyllables 113 [.ref 129, .int (nI a), .int (nI b), .int (nI i), .int (nI L.length), .int (nI (cN c 141 i)), v6, .int (nI (syE c b i)), v8] [] M Q := by
    intro M L1 v6 h e
    have hL := h.lay
    subst e
    refine E_iload_n dX12_laysSyllables_113 rfl ?_
    refine E_istore dX12_laysSyllables_114 (Nat.le_of_ble_eq_true rfl) (by decide) rfl ?_
    exact t1_X12_laysSyllables hb hi hn2 K (syE c b i - i) i _ _ _ h (by omega) (Nat.le_refl _) (by omega) rfl
  refine E_aload_n dX12_laysSyllables_7 rfl ?_
  refine E_getIL (v := nI _) dX12_laysSyllables_8 kF_X12_235 kY_12 (Or.inl rfl) (l_128 hL) (k_128 hL) h.gn ?_
  refine E_istore dX12_laysSyllables_11 (Nat.le_of_ble_eq_true rfl) (by decide) rfl ?_
  refine E_aload_n dX12_laysSyllables_13 rfl ?_
  refine E_getRL dX12_laysSyllables_14 kF_X12_47 kY_12 (Or.inr ⟨_, rfl⟩) (l_128 hL) (k_128 hL) (r_128_15 hL) ?_
  refine E_iload_n dX12_laysSyllables_17 rfl ?_
  refine E_ialdL (v := nI (cN _ 141 _)) dX12_laysSyllables_18 (l_141 hL) (k_141 hL) rfl (by first | omega | exact h.n256 _) (by decide) (h.gc (Or.inl ⟨by decide, by decide, by decide⟩)) ?_
  refine E_istore dX12_laysSyllables_19 (Nat.le_of_ble_eq_true rfl) (by decide) rfl ?_
  refine E_iload dX12_laysSyllables_21 rfl ?_
  refine E_bipush (v := nI 39) dX12_laysSyllables_23 (by decide) ?_
  refine E_icmp_lt_n (tgt := 39) dX12_laysSyllables_25 (by decide) (by omega) (by omega) (fun c_25 => ?_) (fun c_25 => ?_)
  · refine E_iconst (v := nI 0) dX12_laysSyllables_39 (by decide) ?_
    refine E_istore dX12_laysSyllables_40 (Nat.le_of_ble_eq_true rfl) (by decide) rfl ?_
    refine E_iload dX12_laysSyllables_42 rfl ?_
    refine E_callS1 (fr' := 2) (k1 := 0) (n1 := 0) (k2 := 0) (n2 := 0) dX12_laysSyllables_44 kO_X12_isConsonant kL_X12_252 rfl (by decide) (by decide) (by exact Nat.le_of_ble_eq_true rfl) (Or.inl rfl) rfl ?_
    refine sp_X12_isConsonantN (by first | omega | exact Nat.lt_trans (h.wf.tx _).1 (by decide) | exact Nat.lt_trans (h.ok.at _).1 (by decide)) ?_
    refine gKv ?_
    refine E_if_eq_b (tgt := 61) dX12_laysSyllables_47 (by decide) (fun c_47 => ?_) (fun c_47 => ?_)
    · refine E_iload dX12_laysSyllables_61 rfl ?_
      refine E_bipush (v := nI 43) dX12_laysSyllables_63 (by decide) ?_
      refine E_icmp_ne_n (tgt := 79) dX12_laysSyllables_65 (by decide) (by omega) (by omega) (fun c_65 => ?_) (fun c_65 => ?_)
      · refine E_iload dX12_laysSyllables_79 rfl ?_
        refine E_if_eq (tgt := 93) dX12_laysSyllables_81 (by decide) (fun _ => ?_) (fun c0 => absurd (by decide) c0)
        refine E_iload_n dX12_laysSyllables_93 rfl ?_
        refine E_iconst (v := nI 1) dX12_laysSyllables_94 (by decide) ?_
        refine E_iadd_n dX12_laysSyllables_95 ?_
        refine E_istore dX12_laysSyllables_96 (Nat.le_of_ble_eq_true rfl) (by decide) rfl ?_
        refine E_iload dX12_laysSyllables_98 rfl ?_
        refine E_if_eq (tgt := 113) dX12_laysSyllables_100 (by decide) (fun _ => ?_) (fun c0 => absurd (by decide) c0)
        first
          | (exfalso; omega)
          | (have e1 : syE c b i = bcE c b (i + 1) := cI_t (by assumption)
             rw [← e1]
             refine go _ _ _ h ?_
             unfold sy1
             first | exact (cI_t ⟨by omega, by omega⟩).symm | exact (cI_f (fun q => by omega)).symm)
          | (have e1 : syE c b i = bv c b (i + 1) := (cI_f (by assumption)).trans (cI_t (by omega))
             rw [← e1]
             refine go _ _ _ h ?_
             unfold sy1
             first | exact (cI_t ⟨by omega, by omega⟩).symm | exact (cI_f (fun q => by omega)).symm)
          | (have e1 : syE c b i = bcE c b i := (cI_f (by assumption)).trans ((cI_f (by omega)).trans (cI_t (by omega)))
             rw [← e1]
             refine go _ _ _ h ?_
             unfold sy1
             first | exact (cI_t ⟨by omega, by omega⟩).symm | exact (cI_f (fun q => by omega)).symm)
          | (have e1 : syE c b i = i + 1 := (cI_f (by assumption)).trans ((cI_f (by omega)).trans (cI_f (by omega)))
             rw [← e1]
             refine go _ _ _ h ?_
             unfold sy1
             first | exact (cI_t ⟨by omega, by omega⟩).symm | exact (cI_f (fun q => by omega)).symm)
      · refine E_aload_n dX12_laysSyllables_68 rfl ?_
        refine E_iload_n dX12_laysSyllables_69 rfl ?_
        refine E_iload_n dX12_laysSyllables_70 rfl ?_
        refine E_iconst (v := nI 1) dX12_laysSyllables_71 (by decide) ?_
        refine E_iadd_n dX12_laysSyllables_72 ?_
        refine E_callV2 (fr' := 3) (k1 := 0) (n1 := 0) (k2 := 0) (n2 := 0) dX12_laysSyllables_73 kO_X12_behindVowels kL_X12_255 (l_128 hL) (k_128 hL) ⟨by decide, rfl⟩ rfl rfl (by decide) (by decide) (by exact Nat.le_of_ble_eq_true rfl) rfl ?_
        refine sp_X12_behindVowels h.b (by omega) (by omega) ?_
        refine gKv ?_
        refine E_goto (tgt := 96) dX12_laysSyllables_76 (by decide) ?_
        refine E_istore dX12_laysSyllables_96 (Nat.le_of_ble_eq_true rfl) (by decide) rfl ?_
        refine E_iload dX12_laysSyllables_98 rfl ?_
        refine E_if_eq (tgt := 113) dX12_laysSyllables_100 (by decide) (fun _ => ?_) (fun c0 => absurd (by decide) c0)
        first
          | (exfalso; omega)
          | (have e1 : syE c b i = bcE c b (i + 1) := cI_t (by assumption)
             rw [← e1]
             refine go _ _ _ h ?_
             unfold sy1
             first | exact (cI_t ⟨by omega, by omega⟩).symm | exact (cI_f (fun q => by omega)).symm)
          | (have e1 : syE c b i = bv c b (i + 1) := (cI_f (by assumption)).trans (cI_t (by omega))
             rw [← e1]
             refine go _ _ _ h ?_
             unfold sy1
             first | exact (cI_t ⟨by omega, by omega⟩).symm | exact (cI_f (fun q => by omega)).symm)
          | (have e1 : syE c b i = bcE c b i := (cI_f (by assumption)).trans ((cI_f (by omega)).trans (cI_t (by omega)))
             rw [← e1]
             refine go _ _ _ h ?_
             unfold sy1
             first | exact (cI_t ⟨by omega, by omega⟩).symm | exact (cI_f (fun q => by omega)).symm)
          | (have e1 : syE c b i = i + 1 := (cI_f (by assumption)).trans ((cI_f (by omega)).trans (cI_f (by omega)))
             rw [← e1]
             refine go _ _ _ h ?_
             unfold sy1
             first | exact (cI_t ⟨by omega, by omega⟩).symm | exact (cI_f (fun q => by omega)).symm)
    · refine E_aload_n dX12_laysSyllables_50 rfl ?_
      refine E_iload_n dX12_laysSyllables_51 rfl ?_
      refine E_iload_n dX12_laysSyllables_52 rfl ?_
      refine E_iconst (v := nI 1) dX12_laysSyllables_53 (by decide) ?_
      refine E_iadd_n dX12_laysSyllables_54 ?_
      refine E_callV2 (fr' := 4) (k1 := 0) (n1 := 0) (k2 := 0) (n2 := 0) dX12_laysSyllables_55 kO_X12_behindConsonants kL_X12_270 (l_128 hL) (k_128 hL) ⟨by decide, rfl⟩ rfl rfl (by decide) (by decide) (by exact Nat.le_of_ble_eq_true rfl) rfl ?_
      refine sp_X12_behindConsonants h.b (by omega) (by omega) ?_
      refine gKv ?_
      refine E_goto (tgt := 96) dX12_laysSyllables_58 (by decide) ?_
      refine E_istore dX12_laysSyllables_96 (Nat.le_of_ble_eq_true rfl) (by decide) rfl ?_
      refine E_iload dX12_laysSyllables_98 rfl ?_
      refine E_if_eq (tgt := 113) dX12_laysSyllables_100 (by decide) (fun _ => ?_) (fun c0 => absurd (by decide) c0)
      first
        | (exfalso; omega)
        | (have e1 : syE c b i = bcE c b (i + 1) := cI_t (by assumption)
           rw [← e1]
           refine go _ _ _ h ?_
           unfold sy1
           first | exact (cI_t ⟨by omega, by omega⟩).symm | exact (cI_f (fun q => by omega)).symm)
        | (have e1 : syE c b i = bv c b (i + 1) := (cI_f (by assumption)).trans (cI_t (by omega))
           rw [← e1]
           refine go _ _ _ h ?_
           unfold sy1
           first | exact (cI_t ⟨by omega, by omega⟩).symm | exact (cI_f (fun q => by omega)).symm)
        | (have e1 : syE c b i = bcE c b i := (cI_f (by assumption)).trans ((cI_f (by omega)).trans (cI_t (by omega)))
           rw [← e1]
           refine go _ _ _ h ?_
           unfold sy1
           first | exact (cI_t ⟨by omega, by omega⟩).symm | exact (cI_f (fun q => by omega)).symm)
        | (have e1 : syE c b i = i + 1 := (cI_f (by assumption)).trans ((cI_f (by omega)).trans (cI_f (by omega)))
           rw [← e1]
           refine go _ _ _ h ?_
           unfold sy1
           first | exact (cI_t ⟨by omega, by omega⟩).symm | exact (cI_f (fun q => by omega)).symm)
  · refine E_iload dX12_laysSyllables_28 rfl ?_
    refine E_bipush (v := nI 43) dX12_laysSyllables_30 (by decide) ?_
    refine E_icmp_eq_n (tgt := 39) dX12_laysSyllables_32 (by decide) (by omega) (by omega) (fun c_32 => ?_) (fun c_32 => ?_)
    · refine E_iconst (v := nI 0) dX12_laysSyllables_39 (by decide) ?_
      refine E_istore dX12_laysSyllables_40 (Nat.le_of_ble_eq_true rfl) (by decide) rfl ?_
      refine E_iload dX12_laysSyllables_42 rfl ?_
      refine E_callS1 (fr' := 2) (k1 := 0) (n1 := 0) (k2 := 0) (n2 := 0) dX12_laysSyllables_44 kO_X12_isConsonant kL_X12_252 rfl (by decide) (by decide) (by exact Nat.le_of_ble_eq_true rfl) (Or.inl rfl) rfl ?_
      refine sp_X12_isConsonantN (by first | omega | exact Nat.lt_trans (h.wf.tx _).1 (by decide) | exact Nat.lt_trans (h.ok.at _).1 (by decide)) ?_
      refine gKv ?_
      refine E_if_eq_b (tgt := 61) dX12_laysSyllables_47 (by decide) (fun c_47 => ?_) (fun c_47 => ?_)
      · refine E_iload dX12_laysSyllables_61 rfl ?_
        refine E_bipush (v := nI 43) dX12_laysSyllables_63 (by decide) ?_
        refine E_icmp_ne_n (tgt := 79) dX12_laysSyllables_65 (by decide) (by omega) (by omega) (fun c_65 => ?_) (fun c_65 => ?_)
        · refine E_iload dX12_laysSyllables_79 rfl ?_
          refine E_if_eq (tgt := 93) dX12_laysSyllables_81 (by decide) (fun _ => ?_) (fun c0 => absurd (by decide) c0)
          refine E_iload_n dX12_laysSyllables_93 rfl ?_
          refine E_iconst (v := nI 1) dX12_laysSyllables_94 (by decide) ?_
          refine E_iadd_n dX12_laysSyllables_95 ?_
          refine E_istore dX12_laysSyllables_96 (Nat.le_of_ble_eq_true rfl) (by decide) rfl ?_
          refine E_iload dX12_laysSyllables_98 rfl ?_
          refine E_if_eq (tgt := 113) dX12_laysSyllables_100 (by decide) (fun _ => ?_) (fun c0 => absurd (by decide) c0)
          first
            | (exfalso; omega)
            | (have e1 : syE c b i = bcE c b (i + 1) := cI_t (by assumption)
               rw [← e1]
               refine go _ _ _ h ?_
               unfold sy1
               first | exact (cI_t ⟨by omega, by omega⟩).symm | exact (cI_f (fun q => by omega)).symm)
            | (have e1 : syE c b i = bv c b (i + 1) := (cI_f (by assumption)).trans (cI_t (by omega))
               rw [← e1]
               refine go _ _ _ h ?_
               unfold sy1
               first | exact (cI_t ⟨by omega, by omega⟩).symm | exact (cI_f (fun q => by omega)).symm)
            | (have e1 : syE c b i = bcE c b i := (cI_f (by assumption)).trans ((cI_f (by omega)).trans (cI_t (by omega)))
               rw [← e1]
               refine go _ _ _ h ?_
               unfold sy1
               first | exact (cI_t ⟨by omega, by omega⟩).symm | exact (cI_f (fun q => by omega)).symm)
            | (have e1 : syE c b i = i + 1 := (cI_f (by assumption)).trans ((cI_f (by omega)).trans (cI_f (by omega)))
               rw [← e1]
               refine go _ _ _ h ?_
               unfold sy1
               first | exact (cI_t ⟨by omega, by omega⟩).symm | exact (cI_f (fun q => by omega)).symm)
        · refine E_aload_n dX12_laysSyllables_68 rfl ?_
          refine E_iload_n dX12_laysSyllables_69 rfl ?_
          refine E_iload_n dX12_laysSyllables_70 rfl ?_
          refine E_iconst (v := nI 1) dX12_laysSyllables_71 (by decide) ?_
          refine E_iadd_n dX12_laysSyllables_72 ?_
          refine E_callV2 (fr' := 3) (k1 := 0) (n1 := 0) (k2 := 0) (n2 := 0) dX12_laysSyllables_73 kO_X12_behindVowels kL_X12_255 (l_128 hL) (k_128 hL) ⟨by decide, rfl⟩ rfl rfl (by decide) (by decide) (by exact Nat.le_of_ble_eq_true rfl) rfl ?_
          refine sp_X12_behindVowels h.b (by omega) (by omega) ?_
          refine gKv ?_
          refine E_goto (tgt := 96) dX12_laysSyllables_76 (by decide) ?_
          refine E_istore dX12_laysSyllables_96 (Nat.le_of_ble_eq_true rfl) (by decide) rfl ?_
          refine E_iload dX12_laysSyllables_98 rfl ?_
          refine E_if_eq (tgt := 113) dX12_laysSyllables_100 (by decide) (fun _ => ?_) (fun c0 => absurd (by decide) c0)
          first
            | (exfalso; omega)
            | (have e1 : syE c b i = bcE c b (i + 1) := cI_t (by assumption)
               rw [← e1]
               refine go _ _ _ h ?_
               unfold sy1
               first | exact (cI_t ⟨by omega, by omega⟩).symm | exact (cI_f (fun q => by omega)).symm)
            | (have e1 : syE c b i = bv c b (i + 1) := (cI_f (by assumption)).trans (cI_t (by omega))
               rw [← e1]
               refine go _ _ _ h ?_
               unfold sy1
               first | exact (cI_t ⟨by omega, by omega⟩).symm | exact (cI_f (fun q => by omega)).symm)
            | (have e1 : syE c b i = bcE c b i := (cI_f (by assumption)).trans ((cI_f (by omega)).trans (cI_t (by omega)))
               rw [← e1]
               refine go _ _ _ h ?_
               unfold sy1
               first | exact (cI_t ⟨by omega, by omega⟩).symm | exact (cI_f (fun q => by omega)).symm)
            | (have e1 : syE c b i = i + 1 := (cI_f (by assumption)).trans ((cI_f (by omega)).trans (cI_f (by omega)))
               rw [← e1]
               refine go _ _ _ h ?_
               unfold sy1
               first | exact (cI_t ⟨by omega, by omega⟩).symm | exact (cI_f (fun q => by omega)).symm)
      · refine E_aload_n dX12_laysSyllables_50 rfl ?_
        refine E_iload_n dX12_laysSyllables_51 rfl ?_
        refine E_iload_n dX12_laysSyllables_52 rfl ?_
        refine E_iconst (v := nI 1) dX12_laysSyllables_53 (by decide) ?_
        refine E_iadd_n dX12_laysSyllables_54 ?_
        refine E_callV2 (fr' := 4) (k1 := 0) (n1 := 0) (k2 := 0) (n2 := 0) dX12_laysSyllables_55 kO_X12_behindConsonants kL_X12_270 (l_128 hL) (k_128 hL) ⟨by decide, rfl⟩ rfl rfl (by decide) (by decide) (by exact Nat.le_of_ble_eq_true rfl) rfl ?_
        refine sp_X12_behindConsonants h.b (by omega) (by omega) ?_
        refine gKv ?_
        refine E_goto (tgt := 96) dX12_laysSyllables_58 (by decide) ?_
        refine E_istore dX12_laysSyllables_96 (Nat.le_of_ble_eq_true rfl) (by decide) rfl ?_
        refine E_iload dX12_laysSyllables_98 rfl ?_
        refine E_if_eq (tgt := 113) dX12_laysSyllables_100 (by decide) (fun _ => ?_) (fun c0 => absurd (by decide) c0)
        first
          | (exfalso; omega)
          | (have e1 : syE c b i = bcE c b (i + 1) := cI_t (by assumption)
             rw [← e1]
             refine go _ _ _ h ?_
             unfold sy1
             first | exact (cI_t ⟨by omega, by omega⟩).symm | exact (cI_f (fun q => by omega)).symm)
          | (have e1 : syE c b i = bv c b (i + 1) := (cI_f (by assumption)).trans (cI_t (by omega))
             rw [← e1]
             refine go _ _ _ h ?_
             unfold sy1
             first | exact (cI_t ⟨by omega, by omega⟩).symm | exact (cI_f (fun q => by omega)).symm)
          | (have e1 : syE c b i = bcE c b i := (cI_f (by assumption)).trans ((cI_f (by omega)).trans (cI_t (by omega)))
             rw [← e1]
             refine go _ _ _ h ?_
             unfold sy1
             first | exact (cI_t ⟨by omega, by omega⟩).symm | exact (cI_f (fun q => by omega)).symm)
          | (have e1 : syE c b i = i + 1 := (cI_f (by assumption)).trans ((cI_f (by omega)).trans (cI_f (by omega)))
             rw [← e1]
             refine go _ _ _ h ?_
             unfold sy1
             first | exact (cI_t ⟨by omega, by omega⟩).symm | exact (cI_f (fun q => by omega)).symm)
    · refine E_iconst (v := nI 1) dX12_laysSyllables_35 (by decide) ?_
      refine E_goto (tgt := 40) dX12_laysSyllables_36 (by decide) ?_
      refine E_istore dX12_laysSyllables_40 (Nat.le_of_ble_eq_true rfl) (by decide) rfl ?_
      refine E_iload dX12_laysSyllables_42 rfl ?_
      refine E_callS1 (fr' := 2) (k1 := 0) (n1 := 0) (k2 := 0) (n2 := 0) dX12_laysSyllables_44 kO_X12_isConsonant kL_X12_252 rfl (by decide) (by decide) (by exact Nat.le_of_ble_eq_true rfl) (Or.inl rfl) rfl ?_
      refine sp_X12_isConsonantN (by first | omega | exact Nat.lt_trans (h.wf.tx _).1 (by decide) | exact Nat.lt_trans (h.ok.at _).1 (by decide)) ?_
      refine gKv ?_
      refine E_if_eq_b (tgt := 61) dX12_laysSyllables_47 (by decide) (fun c_47 => ?_) (fun c_47 => ?_)
      · refine E_iload dX12_laysSyllables_61 rfl ?_
        refine E_bipush (v := nI 43) dX12_laysSyllables_63 (by decide) ?_
        refine E_icmp_ne_n (tgt := 79) dX12_laysSyllables_65 (by decide) (by omega) (by omega) (fun c_65 => ?_) (fun c_65 => ?_)
        · refine E_iload dX12_laysSyllables_79 rfl ?_
          refine E_if_eq (tgt := 93) dX12_laysSyllables_81 (by decide) (fun c0 => absurd c0 (by decide)) (fun _ => ?_)
          refine E_aload_n dX12_laysSyllables_84 rfl ?_
          refine E_iload_n dX12_laysSyllables_85 rfl ?_
          refine E_iload_n dX12_laysSyllables_86 rfl ?_
          refine E_callV2 (fr' := 4) (k1 := 0) (n1 := 0) (k2 := 0) (n2 := 0) dX12_laysSyllables_87 kO_X12_behindConsonants kL_X12_270 (l_128 hL) (k_128 hL) ⟨by decide, rfl⟩ rfl rfl (by decide) (by decide) (by exact Nat.le_of_ble_eq_true rfl) rfl ?_
          refine sp_X12_behindConsonants h.b (by omega) (by omega) ?_
          refine gKv ?_
          refine E_goto (tgt := 96) dX12_laysSyllables_90 (by decide) ?_
          refine E_istore dX12_laysSyllables_96 (Nat.le_of_ble_eq_true rfl) (by decide) rfl ?_
          refine E_iload dX12_laysSyllables_98 rfl ?_
          refine E_if_eq (tgt := 113) dX12_laysSyllables_100 (by decide) (fun c0 => absurd c0 (by decide)) (fun _ => ?_)
          refine E_aload_n dX12_laysSyllables_103 rfl ?_
          refine E_bipush (v := nI 64) dX12_laysSyllables_104 (by decide) ?_
          refine E_iload_n dX12_laysSyllables_106 rfl ?_
          refine E_iconst (v := nI 0) dX12_laysSyllables_107 (by decide) ?_
          refine E_bipush (v := -100) dX12_laysSyllables_108 (by decide) ?_
          refine E_callV4 (fr' := 1) (k1 := 0) (n1 := 0) (k2 := 0) (n2 := 0) dX12_laysSyllables_110 kO_X12_addsGlyph kL_X12_242 (l_128 hL) (k_128 hL) ⟨by decide, rfl⟩ rfl rfl rfl rfl (by decide) (by decide) (by exact Nat.le_of_ble_eq_true rfl) rfl ?_
          refine sp_X12_addsGlyph h (by omega) (by omega) (by omega) (by omega) (fun M h => ?_)
          have hL := h.lay
          have hn := h.len
          refine gKn ?_
          first
            | (exfalso; omega)
            | (have e1 : syE c b i = bcE c b (i + 1) := cI_t (by assumption)
               rw [← e1]
               refine go _ _ _ h ?_
               unfold sy1
               first | exact (cI_t ⟨by omega, by omega⟩).symm | exact (cI_f (fun q => by omega)).symm)
            | (have e1 : syE c b i = bv c b (i + 1) := (cI_f (by assumption)).trans (cI_t (by omega))
               rw [← e1]
               refine go _ _ _ h ?_
               unfold sy1
               first | exact (cI_t ⟨by omega, by omega⟩).symm | exact (cI_f (fun q => by omega)).symm)
            | (have e1 : syE c b i = bcE c b i := (cI_f (by assumption)).trans ((cI_f (by omega)).trans (cI_t (by omega)))
               rw [← e1]
               refine go _ _ _ h ?_
               unfold sy1
               first | exact (cI_t ⟨by omega, by omega⟩).symm | exact (cI_f (fun q => by omega)).symm)
            | (have e1 : syE c b i = i + 1 := (cI_f (by assumption)).trans ((cI_f (by omega)).trans (cI_f (by omega)))
               rw [← e1]
               refine go _ _ _ h ?_
               unfold sy1
               first | exact (cI_t ⟨by omega, by omega⟩).symm | exact (cI_f (fun q => by omega)).symm)
        · refine E_aload_n dX12_laysSyllables_68 rfl ?_
          refine E_iload_n dX12_laysSyllables_69 rfl ?_
          refine E_iload_n dX12_laysSyllables_70 rfl ?_
          refine E_iconst (v := nI 1) dX12_laysSyllables_71 (by decide) ?_
          refine E_iadd_n dX12_laysSyllables_72 ?_
          refine E_callV2 (fr' := 3) (k1 := 0) (n1 := 0) (k2 := 0) (n2 := 0) dX12_laysSyllables_73 kO_X12_behindVowels kL_X12_255 (l_128 hL) (k_128 hL) ⟨by decide, rfl⟩ rfl rfl (by decide) (by decide) (by exact Nat.le_of_ble_eq_true rfl) rfl ?_
          refine sp_X12_behindVowels h.b (by omega) (by omega) ?_
          refine gKv ?_
          refine E_goto (tgt := 96) dX12_laysSyllables_76 (by decide) ?_
          refine E_istore dX12_laysSyllables_96 (Nat.le_of_ble_eq_true rfl) (by decide) rfl ?_
          refine E_iload dX12_laysSyllables_98 rfl ?_
          refine E_if_eq (tgt := 113) dX12_laysSyllables_100 (by decide) (fun c0 => absurd c0 (by decide)) (fun _ => ?_)
          refine E_aload_n dX12_laysSyllables_103 rfl ?_
          refine E_bipush (v := nI 64) dX12_laysSyllables_104 (by decide) ?_
          refine E_iload_n dX12_laysSyllables_106 rfl ?_
          refine E_iconst (v := nI 0) dX12_laysSyllables_107 (by decide) ?_
          refine E_bipush (v := -100) dX12_laysSyllables_108 (by decide) ?_
          refine E_callV4 (fr' := 1) (k1 := 0) (n1 := 0) (k2 := 0) (n2 := 0) dX12_laysSyllables_110 kO_X12_addsGlyph kL_X12_242 (l_128 hL) (k_128 hL) ⟨by decide, rfl⟩ rfl rfl rfl rfl (by decide) (by decide) (by exact Nat.le_of_ble_eq_true rfl) rfl ?_
          refine sp_X12_addsGlyph h (by omega) (by omega) (by omega) (by omega) (fun M h => ?_)
          have hL := h.lay
          have hn := h.len
          refine gKn ?_
          first
            | (exfalso; omega)
            | (have e1 : syE c b i = bcE c b (i + 1) := cI_t (by assumption)
               rw [← e1]
               refine go _ _ _ h ?_
               unfold sy1
               first | exact (cI_t ⟨by omega, by omega⟩).symm | exact (cI_f (fun q => by omega)).symm)
            | (have e1 : syE c b i = bv c b (i + 1) := (cI_f (by assumption)).trans (cI_t (by omega))
               rw [← e1]
               refine go _ _ _ h ?_
               unfold sy1
               first | exact (cI_t ⟨by omega, by omega⟩).symm | exact (cI_f (fun q => by omega)).symm)
            | (have e1 : syE c b i = bcE c b i := (cI_f (by assumption)).trans ((cI_f (by omega)).trans (cI_t (by omega)))
               rw [← e1]
               refine go _ _ _ h ?_
               unfold sy1
               first | exact (cI_t ⟨by omega, by omega⟩).symm | exact (cI_f (fun q => by omega)).symm)
            | (have e1 : syE c b i = i + 1 := (cI_f (by assumption)).trans ((cI_f (by omega)).trans (cI_f (by omega)))
               rw [← e1]
               refine go _ _ _ h ?_
               unfold sy1
               first | exact (cI_t ⟨by omega, by omega⟩).symm | exact (cI_f (fun q => by omega)).symm)
      · refine E_aload_n dX12_laysSyllables_50 rfl ?_
        refine E_iload_n dX12_laysSyllables_51 rfl ?_
        refine E_iload_n dX12_laysSyllables_52 rfl ?_
        refine E_iconst (v := nI 1) dX12_laysSyllables_53 (by decide) ?_
        refine E_iadd_n dX12_laysSyllables_54 ?_
        refine E_callV2 (fr' := 4) (k1 := 0) (n1 := 0) (k2 := 0) (n2 := 0) dX12_laysSyllables_55 kO_X12_behindConsonants kL_X12_270 (l_128 hL) (k_128 hL) ⟨by decide, rfl⟩ rfl rfl (by decide) (by decide) (by exact Nat.le_of_ble_eq_true rfl) rfl ?_
        refine sp_X12_behindConsonants h.b (by omega) (by omega) ?_
        refine gKv ?_
        refine E_goto (tgt := 96) dX12_laysSyllables_58 (by decide) ?_
        refine E_istore dX12_laysSyllables_96 (Nat.le_of_ble_eq_true rfl) (by decide) rfl ?_
        refine E_iload dX12_laysSyllables_98 rfl ?_
        refine E_if_eq (tgt := 113) dX12_laysSyllables_100 (by decide) (fun c0 => absurd c0 (by decide)) (fun _ => ?_)
        refine E_aload_n dX12_laysSyllables_103 rfl ?_
        refine E_bipush (v := nI 64) dX12_laysSyllables_104 (by decide) ?_
        refine E_iload_n dX12_laysSyllables_106 rfl ?_
        refine E_iconst (v := nI 0) dX12_laysSyllables_107 (by decide) ?_
        refine E_bipush (v := -100) dX12_laysSyllables_108 (by decide) ?_
        refine E_callV4 (fr' := 1) (k1 := 0) (n1 := 0) (k2 := 0) (n2 := 0) dX12_laysSyllables_110 kO_X12_addsGlyph kL_X12_242 (l_128 hL) (k_128 hL) ⟨by decide, rfl⟩ rfl rfl rfl rfl (by decide) (by decide) (by exact Nat.le_of_ble_eq_true rfl) rfl ?_
        refine sp_X12_addsGlyph h (by omega) (by omega) (by omega) (by omega) (fun M h => ?_)
        have hL := h.lay
        have hn := h.len
        refine gKn ?_
        first
          | (exfalso; omega)
          | (have e1 : syE c b i = bcE c b (i + 1) := cI_t (by assumption)
             rw [← e1]
             refine go _ _ _ h ?_
             unfold sy1
             first | exact (cI_t ⟨by omega, by omega⟩).symm | exact (cI_f (fun q => by omega)).symm)
          | (have e1 : syE c b i = bv c b (i + 1) := (cI_f (by assumption)).trans (cI_t (by omega))
             rw [← e1]
             refine go _ _ _ h ?_
             unfold sy1
             first | exact (cI_t ⟨by omega, by omega⟩).symm | exact (cI_f (fun q => by omega)).symm)
          | (have e1 : syE c b i = bcE c b i := (cI_f (by assumption)).trans ((cI_f (by omega)).trans (cI_t (by omega)))
             rw [← e1]
             refine go _ _ _ h ?_
             unfold sy1
             first | exact (cI_t ⟨by omega, by omega⟩).symm | exact (cI_f (fun q => by omega)).symm)
          | (have e1 : syE c b i = i + 1 := (cI_f (by assumption)).trans ((cI_f (by omega)).trans (cI_f (by omega)))
             rw [← e1]
             refine go _ _ _ h ?_
             unfold sy1
             first | exact (cI_t ⟨by omega, by omega⟩).symm | exact (cI_f (fun q => by omega)).symm)
set_option maxRecDepth 100000 in
set_option maxHeartbeats 4000000 in
theorem lp_X12_laysSyllables {g : gG} {Q : Option Value ⊕ String → gM → Prop} {c : Cf} {f : Nat} {M0 : gM} {w : Int32} {a b : Nat} (hb : b ≤ 16) : ∀ t i (L : List Gl) M, mX c f M0 L w M → L.length ≤ 2 * i → b - i ≤ t → i ≤ b → (K : ∀ M, mX c f M0 (sys c b t i L) w M → Q (.inl none) M) → ∀ v4 v5 v6 v7 v8, E g 5 0 0 mX12_laysSyllables 2 [.ref 129, .int (nI a), .int (nI b), .int (nI i), v4, v5, v6, v7, v8] [] M Q := by
  intro t
  induction t with
  | zero =>
    intro i L M h hl ht hi K v4 v5 v6 v7 v8
    have hL := h.lay
    have hf := h.hf
    have hn := h.len
    refine E_iload_n dX12_laysSyllables_2 rfl ?_
    refine E_iload_n dX12_laysSyllables_3 rfl ?_
    refine E_icmp_ge_n (tgt := 217) dX12_laysSyllables_4 (by decide) (by omega) (by omega) (fun c_4 => ?_) (fun c_4 => ?_)
    · refine E_vret dX12_laysSyllables_217 rfl ?_
      exact K _ h
    · exfalso; omega
  | succ t ih =>
    intro i L M h hl ht hi K v4 v5 v6 v7 v8
    have K : ∀ M, mX c f M0 (cI (i < b) (sys c b t (syE c b i) (syL c b i L)) L) w M → Q (.inl none) M := K
    have hL := h.lay
    have hf := h.hf
    have hn := h.len
    refine E_iload_n dX12_laysSyllables_2 rfl ?_
    refine E_iload_n dX12_laysSyllables_3 rfl ?_
    refine E_icmp_ge_n (tgt := 217) dX12_laysSyllables_4 (by decide) (by omega) (by omega) (fun c_4 => ?_) (fun c_4 => ?_)
    · refine E_vret dX12_laysSyllables_217 rfl ?_
      rw [cI_f (by omega)] at K
      exact K _ h
    · rw [cI_t (by omega)] at K
      have he := syE_b h.wf (show i < b by omega)
      have hs := syL_len (L := L) h.wf (show i < b by omega)
      exact st_X12_laysSyllables h hb (by omega) hl (fun M v4 v5 v6 v7 v8 h => ih _ _ _ h (by omega) (by omega) he.2 K _ _ _ _ _) _ _ _ _ _
set_option maxRecDepth 100000 in
set_option maxHeartbeats 4000000 in
theorem sp_X12_laysSyllables {g : gG} {Q : Option Value ⊕ String → gM → Prop} {M : gM} {c : Cf} {f : Nat} {M0 : gM} {w : Int32} (h : mX c f M0 [] w M) {a b : Nat} (hab : a ≤ b) (hb : b ≤ 16) (K : ∀ M, mX c f M0 (sys c b (b - a) a []) w M → Q (.inl none) M) : E g 5 0 0 mX12_laysSyllables 0 [.ref 129, .int (nI a), .int (nI b), .null, .null, .null, .null, .null, .null] [] M Q := by
  have hL := h.lay
  refine E_iload_n dX12_laysSyllables_0 rfl ?_
  refine E_istore_n dX12_laysSyllables_1 (Nat.le_of_ble_eq_true rfl) (by decide) rfl ?_
  exact lp_X12_laysSyllables hb (b - a) a [] M h (Nat.zero_le _) (Nat.le_refl _) hab K _ _ _ _ _
