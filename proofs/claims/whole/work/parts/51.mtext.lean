/-! the reference: the text; the size of a table -/
def insF (F : Nat → Nat) (p len v i : Nat) : Nat := if i < p ∨ len < i then F i else if i = p then v else F (i - 1)
def shF (F : Nat → Nat) (k len i : Nat) : Nat := if k < i ∧ i ≤ len then F (i - 1) else F i
def nxI (c : Cf) (p s : Nat) : Cf := (fun a i => if a = 128 ∧ i = 14 then cN c 128 14 + 1 else if a = 141 then insF (cN c 141) p (tl c) s i else if a = 142 then insF (cN c 142) p (tl c) 0 i else cN c a i, c.2)
theorem nxI_wf {c : Cf} (h : WFc c) {p s : Nat} (hl : tl c < 16) (hs : s < 45) : WFc (nxI c p s) := by
  obtain ⟨g1, g2, g3, g4, g5, g6⟩ := h
  refine ⟨⟨g1.1, hl, g1.2.2⟩, g2, g3, g4, fun j => ?_, g6⟩
  show insF (cN c 141) p (tl c) s j < 45 ∧ insF (cN c 142) p (tl c) 0 j ≤ 3
  unfold insF
  have := g5 j
  have := g5 (j - 1)
  repeat' split
  all_goals omega
def txR (a j : Nat) : Prop := a = 141 ∨ a = 142 ∨ (a = 128 ∧ (j = 0 ∨ j = 14))
theorem txR_r (a j : Nat) (h : txR a j) : refR a j := by unfold txR at h; unfold refR; omega
theorem bZ_tx {c c' : Cf} {M M' : gM} (h : bS c M) (hf : fr txR M M') (e1 : ∀ j, mI M' 141 j = nI (cN c' 141 j)) (e2 : ∀ j, mI M' 142 j = nI (cN c' 142 j)) (e3 : mI M' 128 14 = nI (cN c' 128 14)) (e4 : ∀ a j, ¬ a = 141 → ¬ a = 142 → ¬ (a = 128 ∧ j = 14) → cN c' a j = cN c a j) (e5 : ∀ j, cR c' j = cR c j) : bZ c' M' :=
  ⟨hf.lay h.lay, fun a j q => by
    by_cases q1 : a = 141
    · subst q1; exact e1 j
    · by_cases q2 : a = 142
      · subst q2; exact e2 j
      · by_cases q3 : a = 128 ∧ j = 14
        · rw [q3.1, q3.2]; exact e3
        · rw [e4 a j q1 q2 q3, ← h.gc q]
          exact hf.bk (by unfold txR; unfold cfA at q; omega), fun j => by
    rw [e5, ← h.gr j]
    exact hf.bk (by unfold txR; omega)⟩
set_option maxRecDepth 100000 in
set_option maxHeartbeats 4000000 in
theorem lp_X12_insert {g : gG} {Q : Option Value ⊕ String → gM → Prop} {c : Cf} {M0 : gM} {p s : Nat} (h : bS c M0) (hp : p ≤ tl c) (hl : tl c < 16) (hs : s < 45) (K : ∀ M', bS (nxI c p s) M' → fr txR M0 M' → mI M' 128 0 = mI M0 128 0 → Q (.inl (some (.int (nI (tl c + 1))))) M') : ∀ k, p ≤ k → k ≤ tl c → ∀ M, fr txR M0 M → mI M 128 0 = mI M0 128 0 → mI M 128 14 = nI (tl c) → (∀ i, mI M 141 i = nI (shF (cN c 141) k (tl c) i)) → (∀ i, mI M 142 i = nI (shF (cN c 142) k (tl c) i)) → E g 3 0 0 mX12_insert 59 [.ref 129, .int (nI p), .int (nI s), .int (nI k)] [] M Q := by
  refine lpDn p (fun k hpk ih => ?_)
  intro hk M hF h0 h14 h1 h2
  have hL := hF.lay h.lay
  refine E_iload_n dX12_insert_59 rfl ?_
  refine E_iload_n dX12_insert_60 rfl ?_
  refine E_icmp_le_n (tgt := 98) dX12_insert_61 (by decide) (by omega) (by omega) (fun c_61 => ?_) (fun c_61 => ?_)
  · obtain rfl : k = p := by omega
    refine E_aload_n dX12_insert_98 rfl ?_
    refine E_getRL dX12_insert_99 kF_X12_47 kY_12 (Or.inr ⟨_, rfl⟩) (l_128 hL) (k_128 hL) (r_128_15 hL) ?_
    refine E_iload_n dX12_insert_102 rfl ?_
    refine E_iload_n dX12_insert_103 rfl ?_
    refine E_iast dX12_insert_104 (l_141 hL) (k_141 hL) rfl (by omega) (by decide) ?_
    refine E_aload_n dX12_insert_105 rfl ?_
    refine E_getRL dX12_insert_106 kF_X12_50 kY_12 (Or.inr ⟨_, rfl⟩) (l_128 hL) (k_128 hL) (r_128_16 hL) ?_
    refine E_iload_n dX12_insert_109 rfl ?_
    refine E_iconst (v := nI 0) dX12_insert_110 (by decide) ?_
    refine E_iast dX12_insert_111 (l_142 hL) (k_142 hL) rfl (by omega) (by decide) ?_
    refine E_aload_n dX12_insert_112 rfl ?_
    refine E_dup dX12_insert_113 rfl ?_
    refine E_getIL (v := nI (tl c)) dX12_insert_114 kF_X12_219 kY_12 (Or.inl rfl) (l_128 hL) (k_128 hL) ((mI_ne (by decide)).trans ((mI_ne (by decide)).trans h14)) ?_
    refine E_iconst (v := nI 1) dX12_insert_117 (by decide) ?_
    refine E_iadd_n dX12_insert_118 ?_
    refine E_putI dX12_insert_119 kF_X12_219 kY_12 (Or.inl rfl) (l_128 hL) (k_128 hL) (Or.inl rfl) ?_
    refine E_aload_n dX12_insert_122 rfl ?_
    refine E_getIL (v := nI (tl c + 1)) dX12_insert_123 kF_X12_219 kY_12 (Or.inl rfl) (l_128 hL) (k_128 hL) mI_eq ?_
    refine E_iret dX12_insert_126 (Or.inl rfl) ?_
    refine K _ ((bZ_tx (c' := nxI c k s) h (((hF.wr (by unfold txR; omega)).wr (by unfold txR; omega)).wr (by unfold txR; omega)) (fun j => ?_) (fun j => ?_) mI_eq (fun a j q1 q2 q3 => ?_) (fun _ => rfl)).s (nxI_wf h.wf hl hs)) (((hF.wr (by unfold txR; omega)).wr (by unfold txR; omega)).wr (by unfold txR; omega)) ((mI_nj (by decide)).trans ((mI_ne (by decide)).trans ((mI_ne (by decide)).trans h0)))
    · refine (mI_ne (by decide)).trans ((mI_ne (by decide)).trans ?_)
      show _ = nI (insF (cN c 141) k (tl c) s j)
      unfold insF
      by_cases e : j = k
      · subst e; rw [mI_eq, if_neg (by omega), if_pos rfl]
      · rw [mI_nj e, h1]
        unfold shF
        by_cases e2 : k < j ∧ j ≤ tl c
        · rw [if_pos e2, if_neg (by omega), if_neg e]
        · rw [if_neg e2, if_pos (by omega)]
    · refine (mI_ne (by decide)).trans ?_
      show _ = nI (insF (cN c 142) k (tl c) 0 j)
      unfold insF
      by_cases e : j = k
      · subst e; rw [mI_eq, if_neg (by omega), if_pos rfl]
      · rw [mI_nj e, mI_ne (by decide), h2]
        unfold shF
        by_cases e2 : k < j ∧ j ≤ tl c
        · rw [if_pos e2, if_neg (by omega), if_neg e]
        · rw [if_neg e2, if_pos (by omega)]
    · show (if a = 128 ∧ j = 14 then _ else if a = 141 then _ else if a = 142 then _ else cN c a j) = _
      rw [if_neg q3, if_neg q1, if_neg q2]
  · refine E_aload_n dX12_insert_64 rfl ?_
    refine E_getRL dX12_insert_65 kF_X12_47 kY_12 (Or.inr ⟨_, rfl⟩) (l_128 hL) (k_128 hL) (r_128_15 hL) ?_
    refine E_iload_n dX12_insert_68 rfl ?_
    refine E_aload_n dX12_insert_69 rfl ?_
    refine E_getRL dX12_insert_70 kF_X12_47 kY_12 (Or.inr ⟨_, rfl⟩) (l_128 hL) (k_128 hL) (r_128_15 hL) ?_
    refine E_iload_n dX12_insert_73 rfl ?_
    refine E_iconst (v := nI 1) dX12_insert_74 (by decide) ?_
    refine E_isub_n dX12_insert_75 (by omega) ?_
    refine E_ialdL (v := nI (shF (cN c 141) k (tl c) (k - 1))) dX12_insert_76 (l_141 hL) (k_141 hL) rfl (by omega) (by decide) (h1 _) ?_
    refine E_iast dX12_insert_77 (l_141 hL) (k_141 hL) rfl (by omega) (by decide) ?_
    refine E_aload_n dX12_insert_78 rfl ?_
    refine E_getRL dX12_insert_79 kF_X12_50 kY_12 (Or.inr ⟨_, rfl⟩) (l_128 hL) (k_128 hL) (r_128_16 hL) ?_
    refine E_iload_n dX12_insert_82 rfl ?_
    refine E_aload_n dX12_insert_83 rfl ?_
    refine E_getRL dX12_insert_84 kF_X12_50 kY_12 (Or.inr ⟨_, rfl⟩) (l_128 hL) (k_128 hL) (r_128_16 hL) ?_
    refine E_iload_n dX12_insert_87 rfl ?_
    refine E_iconst (v := nI 1) dX12_insert_88 (by decide) ?_
    refine E_isub_n dX12_insert_89 (by omega) ?_
    refine E_ialdL (v := nI (shF (cN c 142) k (tl c) (k - 1))) dX12_insert_90 (l_142 hL) (k_142 hL) rfl (by omega) (by decide) ((mI_ne (by decide)).trans (h2 _)) ?_
    refine E_iast dX12_insert_91 (l_142 hL) (k_142 hL) rfl (by omega) (by decide) ?_
    obtain ⟨k, rfl⟩ : ∃ z, k = z + 1 := ⟨k - 1, by omega⟩
    simp only [Nat.add_sub_cancel] at ih ⊢
    have g1 : ∀ i, mI (sI (sI M 141 (k + 1) (nI (shF (cN c 141) (k + 1) (tl c) k))) 142 (k + 1) (nI (shF (cN c 142) (k + 1) (tl c) k))) 141 i = nI (shF (cN c 141) k (tl c) i) := fun i => by
      rw [mI_ne (by decide)]
      by_cases e : i = k + 1
      · subst e; rw [mI_eq]; unfold shF; rw [if_neg (by omega), if_pos (by omega), Nat.add_sub_cancel]
      · rw [mI_nj e, h1]; unfold shF
        by_cases e2 : k + 1 < i ∧ i ≤ tl c
        · rw [if_pos e2, if_pos (by omega)]
        · rw [if_neg e2, if_neg (by omega)]
    have g2 : ∀ i, mI (sI (sI M 141 (k + 1) (nI (shF (cN c 141) (k + 1) (tl c) k))) 142 (k + 1) (nI (shF (cN c 142) (k + 1) (tl c) k))) 142 i = nI (shF (cN c 142) k (tl c) i) := fun i => by
      by_cases e : i = k + 1
      · subst e; rw [mI_eq]; unfold shF; rw [if_neg (by omega), if_pos (by omega), Nat.add_sub_cancel]
      · rw [mI_nj e, mI_ne (by decide), h2]; unfold shF
        by_cases e2 : k + 1 < i ∧ i ≤ tl c
        · rw [if_pos e2, if_pos (by omega)]
        · rw [if_neg e2, if_neg (by omega)]
    refine E_iinc (v := nI k) dX12_insert_92 rfl (pk_m1 k) (by decide) rfl ?_
    refine E_goto (tgt := 59) dX12_insert_95 (by decide) ?_
    exact ih (by omega) (by omega) _ ((hF.wr (by unfold txR; omega)).wr (by unfold txR; omega)) ((mI_ne (by decide)).trans ((mI_ne (by decide)).trans h0)) ((mI_ne (by decide)).trans ((mI_ne (by decide)).trans h14)) g1 g2
set_option maxRecDepth 100000 in
set_option maxHeartbeats 4000000 in
theorem o_insert {g : gG} {M : gM} {Q : Option Value ⊕ String → gM → Prop} {c : Cf} (h : bS c M) {p s : Int32} (K1 : ¬ iIn p (nI 0) (nI (tl c)) → ∀ M', bS (c) M' → fr refR M M' → mI M' 128 0 = nI 1 → Q (.inl (some (.int (nI 0)))) M') (K2 : iIn p (nI 0) (nI (tl c)) → ¬ iSign s → ∀ M', bS (c) M' → fr refR M M' → mI M' 128 0 = nI 2 → Q (.inl (some (.int (nI 0)))) M') (K3 : iIn p (nI 0) (nI (tl c)) → iSign s → tl c = 16 → ∀ M', bS (c) M' → fr refR M M' → mI M' 128 0 = nI 3 → Q (.inl (some (.int (nI 0)))) M') (K0 : ∀ j v, j ≤ tl c → p = nI j → v < 45 → s = nI v → iSign s → tl c < 16 → ∀ M', bS (nxI c j v) M' → fr refR M M' → mI M' 128 0 = nI 0 → Q (.inl (some (.int (nI (tl c + 1))))) M') : E g 3 0 0 mX12_insert 0 [.ref 129, .int p, .int s, .null] [] M Q := by
  have hL := h.lay
  have h16 : tl c ≤ 16 := h.wf.tl
  refine E_aload_n dX12_insert_0 rfl ?_
  refine E_iload_n dX12_insert_1 rfl ?_
  refine E_iconst (v := nI 0) dX12_insert_2 (by decide) ?_
  refine E_aload_n dX12_insert_3 rfl ?_
  refine E_getIL (v := nI (tl c)) dX12_insert_4 kF_X12_219 kY_12 (Or.inl rfl) (l_128 hL) (k_128 hL) h.tl ?_
  refine E_callS3 (fr' := 1) (k1 := 0) (n1 := 0) (k2 := 0) (n2 := 0) dX12_insert_7 kO_X12_in kL_X12_162 rfl rfl rfl (by decide) (by decide) (by exact Nat.le_of_ble_eq_true rfl) (Or.inl rfl) rfl ?_
  refine sp_X12_in ?_
  refine gKv ?_
  refine E_if_ne_b (tgt := 17) dX12_insert_10 (by decide) (fun c_10 => ?_) (fun c_10 => ?_)
  · refine E_iload_n dX12_insert_17 rfl ?_
    refine E_callS1 (fr' := 2) (k1 := 0) (n1 := 0) (k2 := 0) (n2 := 0) dX12_insert_18 kO_X12_isSign kL_X12_205 rfl (by decide) (by decide) (by exact Nat.le_of_ble_eq_true rfl) (Or.inl rfl) rfl ?_
    refine sp_X12_isSign ?_
    refine gKv ?_
    refine E_if_ne_b (tgt := 28) dX12_insert_21 (by decide) (fun c_21 => ?_) (fun c_21 => ?_)
    · refine E_aload_n dX12_insert_28 rfl ?_
      refine E_getIL (v := nI (tl c)) dX12_insert_29 kF_X12_219 kY_12 (Or.inl rfl) (l_128 hL) (k_128 hL) h.tl ?_
      refine E_bipush (v := nI 16) dX12_insert_32 (by decide) ?_
      refine E_icmp_ne_n (tgt := 41) dX12_insert_34 (by decide) (by omega) (by omega) (fun c_34 => ?_) (fun c_34 => ?_)
      · refine E_iconst (v := nI 0) dX12_insert_41 (by decide) ?_
        refine E_putI dX12_insert_42 kF_X12_166 kY_12 (Or.inl rfl) (l_128 hL) (k_128 hL) (Or.inl rfl) ?_
        refine E_aload_n dX12_insert_45 rfl ?_
        refine E_getIL (v := nI 0) dX12_insert_46 kF_X12_166 kY_12 (Or.inl rfl) (l_128 hL) (k_128 hL) rfl ?_
        refine E_if_le (tgt := 54) dX12_insert_49 (by decide) (fun _ => ?_) (fun c0 => absurd (by decide) c0)
        refine E_aload_n dX12_insert_54 rfl ?_
        refine E_getIL (v := nI (tl c)) dX12_insert_55 kF_X12_219 kY_12 (Or.inl rfl) (l_128 hL) (k_128 hL) ((mI_nj (by decide)).trans h.tl) ?_
        refine E_istore_n dX12_insert_58 (Nat.le_of_ble_eq_true rfl) (by decide) rfl ?_
        obtain ⟨j, hj1, hj, ej⟩ := iIn_of c_10 (by decide) (by omega)
        subst ej
        have hsg := c_21
        obtain ⟨v, hv, ev⟩ := iSi_of c_21
        subst ev
        have ht := h.t (nI 0)
        exact lp_X12_insert ht hj (by omega) hv (fun M' hb hF e => K0 j v hj rfl hv rfl hsg (by omega) M' hb (frt.trans (hF.mono txR_r)) (e.trans mI_eq)) (tl c) hj (Nat.le_refl _) _ fr.refl rfl ht.tl (fun i => by unfold shF; rw [if_neg (by omega)]; exact ht.gg _ _ (by decide)) (fun i => by unfold shF; rw [if_neg (by omega)]; exact ht.gg _ _ (by decide))
      · refine E_iconst (v := nI 3) dX12_insert_37 (by decide) ?_
        refine E_goto (tgt := 42) dX12_insert_38 (by decide) ?_
        refine E_putI dX12_insert_42 kF_X12_166 kY_12 (Or.inl rfl) (l_128 hL) (k_128 hL) (Or.inl rfl) ?_
        refine E_aload_n dX12_insert_45 rfl ?_
        refine E_getIL (v := nI 3) dX12_insert_46 kF_X12_166 kY_12 (Or.inl rfl) (l_128 hL) (k_128 hL) rfl ?_
        refine E_if_le (tgt := 54) dX12_insert_49 (by decide) (fun c0 => absurd c0 (by decide)) (fun _ => ?_)
        refine E_iconst (v := nI 0) dX12_insert_52 (by decide) ?_
        refine E_iret dX12_insert_53 (Or.inl rfl) ?_
        first
          | exact K1 c_10 _ (h.t _) frt mI_eq
          | exact K2 c_10 c_21 _ (h.t _) frt mI_eq
          | exact K3 c_10 c_21 (by omega) _ (h.t _) frt mI_eq
    · refine E_iconst (v := nI 2) dX12_insert_24 (by decide) ?_
      refine E_goto (tgt := 42) dX12_insert_25 (by decide) ?_
      refine E_putI dX12_insert_42 kF_X12_166 kY_12 (Or.inl rfl) (l_128 hL) (k_128 hL) (Or.inl rfl) ?_
      refine E_aload_n dX12_insert_45 rfl ?_
      refine E_getIL (v := nI 2) dX12_insert_46 kF_X12_166 kY_12 (Or.inl rfl) (l_128 hL) (k_128 hL) rfl ?_
      refine E_if_le (tgt := 54) dX12_insert_49 (by decide) (fun c0 => absurd c0 (by decide)) (fun _ => ?_)
      refine E_iconst (v := nI 0) dX12_insert_52 (by decide) ?_
      refine E_iret dX12_insert_53 (Or.inl rfl) ?_
      first
        | exact K1 c_10 _ (h.t _) frt mI_eq
        | exact K2 c_10 c_21 _ (h.t _) frt mI_eq
        | exact K3 c_10 c_21 (by omega) _ (h.t _) frt mI_eq
  · refine E_iconst (v := nI 1) dX12_insert_13 (by decide) ?_
    refine E_goto (tgt := 42) dX12_insert_14 (by decide) ?_
    refine E_putI dX12_insert_42 kF_X12_166 kY_12 (Or.inl rfl) (l_128 hL) (k_128 hL) (Or.inl rfl) ?_
    refine E_aload_n dX12_insert_45 rfl ?_
    refine E_getIL (v := nI 1) dX12_insert_46 kF_X12_166 kY_12 (Or.inl rfl) (l_128 hL) (k_128 hL) rfl ?_
    refine E_if_le (tgt := 54) dX12_insert_49 (by decide) (fun c0 => absurd c0 (by decide)) (fun _ => ?_)
    refine E_iconst (v := nI 0) dX12_insert_52 (by decide) ?_
    refine E_iret dX12_insert_53 (Or.inl rfl) ?_
    first
      | exact K1 c_10 _ (h.t _) frt mI_eq
      | exact K2 c_10 c_21 _ (h.t _) frt mI_eq
      | exact K3 c_10 c_21 (by omega) _ (h.t _) frt mI_eq
def cutF (F : Nat → Nat) (p k i : Nat) : Nat := if p ≤ i ∧ i < k then F (i + 1) else F i
def nxC (c : Cf) (p : Nat) : Cf := (fun a i => if a = 128 ∧ i = 14 then cN c 128 14 - 1 else if a = 141 then cutF (cN c 141) p (tl c - 1) i else if a = 142 then cutF (cN c 142) p (tl c - 1) i else cN c a i, c.2)
theorem nxC_wf {c : Cf} (h : WFc c) {p : Nat} : WFc (nxC c p) := by
  obtain ⟨g1, g2, g3, g4, g5, g6⟩ := h
  refine ⟨⟨g1.1, by show cN c 128 14 - 1 ≤ 16; omega, g1.2.2⟩, g2, g3, g4, fun j => ?_, g6⟩
  show cutF (cN c 141) p (tl c - 1) j < 45 ∧ cutF (cN c 142) p (tl c - 1) j ≤ 3
  unfold cutF
  have := g5 j
  have := g5 (j + 1)
  repeat' split
  all_goals omega
set_option maxRecDepth 100000 in
set_option maxHeartbeats 4000000 in
theorem lp_X12_cut {g : gG} {Q : Option Value ⊕ String → gM → Prop} {c : Cf} {M0 : gM} {p : Nat} (h : bS c M0) (hp : p < tl c) (K : ∀ M', bS (nxC c p) M' → fr txR M0 M' → mI M' 128 0 = mI M0 128 0 → Q (.inl (some (.int (nI (cN c 141 p))))) M') : ∀ k, k ≤ tl c - 1 → p ≤ k → ∀ M, fr txR M0 M → mI M 128 0 = mI M0 128 0 → mI M 128 14 = nI (tl c - 1) → (∀ i, mI M 141 i = nI (cutF (cN c 141) p k i)) → (∀ i, mI M 142 i = nI (cutF (cN c 142) p k i)) → E g 3 0 0 mX12_cut 45 [.ref 129, .int (nI p), .int (nI (cN c 141 p)), .int (nI k)] [] M Q := by
  refine lpUp (tl c - 1) (fun k hk ih => ?_)
  intro hpk M hF h0 h14 h1 h2
  have h16 : tl c ≤ 16 := h.wf.tl
  have hL := hF.lay h.lay
  refine E_iload_n dX12_cut_45 rfl ?_
  refine E_aload_n dX12_cut_46 rfl ?_
  refine E_getIL (v := nI (tl c - 1)) dX12_cut_47 kF_X12_219 kY_12 (Or.inl rfl) (l_128 hL) (k_128 hL) h14 ?_
  refine E_icmp_ge_n (tgt := 87) dX12_cut_50 (by decide) (by omega) (by omega) (fun c_50 => ?_) (fun c_50 => ?_)
  · obtain rfl : k = tl c - 1 := by omega
    refine E_iload_n dX12_cut_87 rfl ?_
    refine E_iret dX12_cut_88 (Or.inl rfl) ?_
    exact K _ ((bZ_tx (c' := nxC c p) h hF h1 h2 h14 (fun a j q1 q2 q3 => by
      show (if a = 128 ∧ j = 14 then _ else if a = 141 then _ else if a = 142 then _ else cN c a j) = _
      rw [if_neg q3, if_neg q1, if_neg q2]) (fun _ => rfl)).s (nxC_wf h.wf)) hF h0
  · refine E_aload_n dX12_cut_53 rfl ?_
    refine E_getRL dX12_cut_54 kF_X12_47 kY_12 (Or.inr ⟨_, rfl⟩) (l_128 hL) (k_128 hL) (r_128_15 hL) ?_
    refine E_iload_n dX12_cut_57 rfl ?_
    refine E_aload_n dX12_cut_58 rfl ?_
    refine E_getRL dX12_cut_59 kF_X12_47 kY_12 (Or.inr ⟨_, rfl⟩) (l_128 hL) (k_128 hL) (r_128_15 hL) ?_
    refine E_iload_n dX12_cut_62 rfl ?_
    refine E_iconst (v := nI 1) dX12_cut_63 (by decide) ?_
    refine E_iadd_n dX12_cut_64 ?_
    refine E_ialdL (v := nI (cutF (cN c 141) p k (k + 1))) dX12_cut_65 (l_141 hL) (k_141 hL) rfl (by omega) (by decide) (h1 _) ?_
    refine E_iast dX12_cut_66 (l_141 hL) (k_141 hL) rfl (by omega) (by decide) ?_
    refine E_aload_n dX12_cut_67 rfl ?_
    refine E_getRL dX12_cut_68 kF_X12_50 kY_12 (Or.inr ⟨_, rfl⟩) (l_128 hL) (k_128 hL) (r_128_16 hL) ?_
    refine E_iload_n dX12_cut_71 rfl ?_
    refine E_aload_n dX12_cut_72 rfl ?_
    refine E_getRL dX12_cut_73 kF_X12_50 kY_12 (Or.inr ⟨_, rfl⟩) (l_128 hL) (k_128 hL) (r_128_16 hL) ?_
    refine E_iload_n dX12_cut_76 rfl ?_
    refine E_iconst (v := nI 1) dX12_cut_77 (by decide) ?_
    refine E_iadd_n dX12_cut_78 ?_
    refine E_ialdL (v := nI (cutF (cN c 142) p k (k + 1))) dX12_cut_79 (l_142 hL) (k_142 hL) rfl (by omega) (by decide) ((mI_ne (by decide)).trans (h2 _)) ?_
    refine E_iast dX12_cut_80 (l_142 hL) (k_142 hL) rfl (by omega) (by decide) ?_
    have g1 : ∀ i, mI (sI (sI M 141 k (nI (cutF (cN c 141) p k (k + 1)))) 142 k (nI (cutF (cN c 142) p k (k + 1)))) 141 i = nI (cutF (cN c 141) p (k + 1) i) := fun i => by
      rw [mI_ne (by decide)]
      by_cases e : i = k
      · subst e; rw [mI_eq]; unfold cutF; rw [if_neg (by omega), if_pos (by omega)]
      · rw [mI_nj e, h1]; unfold cutF
        by_cases e2 : p ≤ i ∧ i < k
        · rw [if_pos e2, if_pos (by omega)]
        · rw [if_neg e2, if_neg (by omega)]
    have g2 : ∀ i, mI (sI (sI M 141 k (nI (cutF (cN c 141) p k (k + 1)))) 142 k (nI (cutF (cN c 142) p k (k + 1)))) 142 i = nI (cutF (cN c 142) p (k + 1) i) := fun i => by
      by_cases e : i = k
      · subst e; rw [mI_eq]; unfold cutF; rw [if_neg (by omega), if_pos (by omega)]
      · rw [mI_nj e, mI_ne (by decide), h2]; unfold cutF
        by_cases e2 : p ≤ i ∧ i < k
        · rw [if_pos e2, if_pos (by omega)]
        · rw [if_neg e2, if_neg (by omega)]
    refine E_iinc_n (d := 1) dX12_cut_81 rfl rfl rfl (by decide) rfl ?_
    refine E_goto (tgt := 45) dX12_cut_84 (by decide) ?_
    exact ih (by omega) (by omega) _ ((hF.wr (by unfold txR; omega)).wr (by unfold txR; omega)) ((mI_ne (by decide)).trans ((mI_ne (by decide)).trans h0)) ((mI_ne (by decide)).trans ((mI_ne (by decide)).trans h14)) g1 g2
set_option maxRecDepth 100000 in
set_option maxHeartbeats 4000000 in
theorem o_cut {g : gG} {M : gM} {Q : Option Value ⊕ String → gM → Prop} {c : Cf} (h : bS c M) {p : Int32} (K1 : ¬ iBel p (tl c) → ∀ M', bS (c) M' → fr refR M M' → mI M' 128 0 = nI 1 → Q (.inl (some (.int (nI 0)))) M') (K0 : ∀ j, j < tl c → p = nI j → ∀ M', bS (nxC c j) M' → fr refR M M' → mI M' 128 0 = nI 0 → Q (.inl (some (.int (nI (cN c 141 j))))) M') : E g 3 0 0 mX12_cut 0 [.ref 129, .int p, .null, .null] [] M Q := by
  have hL := h.lay
  have h16 : tl c ≤ 16 := h.wf.tl
  refine E_aload_n dX12_cut_0 rfl ?_
  refine E_aload_n dX12_cut_1 rfl ?_
  refine E_iload_n dX12_cut_2 rfl ?_
  refine E_callV1 (fr' := 2) (k1 := 0) (n1 := 0) (k2 := 0) (n2 := 0) dX12_cut_3 kO_X12_isPlace kL_X12_222 (l_128 hL) (k_128 hL) ⟨by decide, rfl⟩ rfl (by decide) (by decide) (by exact Nat.le_of_ble_eq_true rfl) rfl ?_
  refine sp_X12_isPlace hL h.tl h.wf.tl ?_
  refine gKv ?_
  refine E_if_eq_b (tgt := 13) dX12_cut_6 (by decide) (fun c_6 => ?_) (fun c_6 => ?_)
  · refine E_iconst (v := nI 1) dX12_cut_13 (by decide) ?_
    refine E_putI dX12_cut_14 kF_X12_166 kY_12 (Or.inl rfl) (l_128 hL) (k_128 hL) (Or.inl rfl) ?_
    refine E_aload_n dX12_cut_17 rfl ?_
    refine E_getIL (v := nI 1) dX12_cut_18 kF_X12_166 kY_12 (Or.inl rfl) (l_128 hL) (k_128 hL) rfl ?_
    refine E_if_le (tgt := 26) dX12_cut_21 (by decide) (fun c0 => absurd c0 (by decide)) (fun _ => ?_)
    refine E_iconst (v := nI 0) dX12_cut_24 (by decide) ?_
    refine E_iret dX12_cut_25 (Or.inl rfl) ?_
    exact K1 c_6 _ (h.t _) frt mI_eq
  · have hb : iBel p (tl c) := c_6
    obtain ⟨j, hj, ej⟩ := (iBel_iff (by omega)).mp hb
    subst ej
    have ht := h.t (nI 0)
    have tx := (h.wf.tx j).1
    refine E_iconst (v := nI 0) dX12_cut_9 (by decide) ?_
    refine E_goto (tgt := 14) dX12_cut_10 (by decide) ?_
    refine E_putI dX12_cut_14 kF_X12_166 kY_12 (Or.inl rfl) (l_128 hL) (k_128 hL) (Or.inl rfl) ?_
    refine E_aload_n dX12_cut_17 rfl ?_
    refine E_getIL (v := nI 0) dX12_cut_18 kF_X12_166 kY_12 (Or.inl rfl) (l_128 hL) (k_128 hL) rfl ?_
    refine E_if_le (tgt := 26) dX12_cut_21 (by decide) (fun _ => ?_) (fun c0 => absurd (by decide) c0)
    refine E_aload_n dX12_cut_26 rfl ?_
    refine E_getRL dX12_cut_27 kF_X12_47 kY_12 (Or.inr ⟨_, rfl⟩) (l_128 hL) (k_128 hL) (r_128_15 hL) ?_
    refine E_iload_n dX12_cut_30 rfl ?_
    refine E_ialdL (v := nI (cN c 141 j)) dX12_cut_31 (l_141 hL) (k_141 hL) rfl (by first | omega | exact h.n256 _) (by decide) ((mI_ne (by decide)).trans (h.gg 141 j (by decide))) ?_
    refine E_istore_n dX12_cut_32 (Nat.le_of_ble_eq_true rfl) (by decide) rfl ?_
    refine E_aload_n dX12_cut_33 rfl ?_
    refine E_dup dX12_cut_34 rfl ?_
    refine E_getIL (v := nI (tl c)) dX12_cut_35 kF_X12_219 kY_12 (Or.inl rfl) (l_128 hL) (k_128 hL) ((mI_nj (by decide)).trans h.tl) ?_
    refine E_iconst (v := nI 1) dX12_cut_38 (by decide) ?_
    refine E_isub_n dX12_cut_39 (by omega) ?_
    refine E_putI dX12_cut_40 kF_X12_219 kY_12 (Or.inl rfl) (l_128 hL) (k_128 hL) (Or.inl rfl) ?_
    refine E_iload_n dX12_cut_43 rfl ?_
    refine E_istore_n dX12_cut_44 (Nat.le_of_ble_eq_true rfl) (by decide) rfl ?_
    exact lp_X12_cut ht hj (fun M' hb hF e => K0 j hj rfl M' hb (frt.trans (hF.mono txR_r)) (e.trans mI_eq)) j (by show j ≤ tl c - 1; omega) (Nat.le_refl _) _ (fr.refl.wr (by unfold txR; omega)) (mI_nj (by decide)) mI_eq (fun i => by unfold cutF; rw [if_neg (by omega)]; exact (mI_ne (by decide)).trans (ht.gg _ _ (by decide))) (fun i => by unfold cutF; rw [if_neg (by omega)]; exact (mI_ne (by decide)).trans (ht.gg _ _ (by decide)))
def exF (F : Nat → Nat) (a b v i : Nat) : Nat := if a ≤ i ∧ i < b then v else F i
def nxE (c : Cf) (a b v : Nat) : Cf := (fun q i => if q = 142 then exF (cN c 142) a (b + 1) v i else cN c q i, c.2)
theorem nxE_wf {c : Cf} (h : WFc c) {a b v : Nat} (hv : v ≤ 3) : WFc (nxE c a b v) := by
  obtain ⟨g1, g2, g3, g4, g5, g6⟩ := h
  refine ⟨g1, g2, g3, g4, fun j => ?_, g6⟩
  show cN c 141 j < 45 ∧ exF (cN c 142) a (b + 1) v j ≤ 3
  unfold exF
  have := g5 j
  split <;> omega
noncomputable def exC (F : Nat → Nat) (a v : Nat) : Nat → Nat
  | 0 => 0
  | k + 1 => exC F a v k + cI (a ≤ k ∧ ¬ F k = v) 1 0
theorem exC_b (F : Nat → Nat) (a v : Nat) : ∀ k, exC F a v k ≤ k
  | 0 => Nat.le_refl _
  | k + 1 => by
    have ih := exC_b F a v k
    show exC F a v k + cI _ _ _ ≤ _
    by_cases e : a ≤ k ∧ ¬ F k = v
    · rw [cI_t e]; omega
    · rw [cI_f e]; omega
theorem exC_0 (F : Nat → Nat) (a v : Nat) : ∀ k, k ≤ a → exC F a v k = 0
  | 0, _ => rfl
  | k + 1, h => by
    have ih := exC_0 F a v k (by omega)
    show exC F a v k + cI _ _ _ = 0
    rw [cI_f (by omega), ih]
set_option maxRecDepth 100000 in
set_option maxHeartbeats 4000000 in
theorem lp_X12_setExtra {g : gG} {Q : Option Value ⊕ String → gM → Prop} {c : Cf} {M0 : gM} {a b v : Nat} (h : bS c M0) (hb : b < tl c) (hv : v ≤ 3) (hz : mI M0 128 0 = nI 0) (K : ∀ M', bS (nxE c a b v) M' → fr txR M0 M' → mI M' 128 0 = mI M0 128 0 → Q (.inl (some (.int (nI (exC (cN c 142) a v (b + 1)))))) M') : ∀ k, k ≤ b + 1 → a ≤ k → ∀ M m, fr txR M0 M → mI M 128 0 = mI M0 128 0 → (∀ i, mI M 141 i = nI (cN c 141 i)) → mI M 128 14 = nI (tl c) → (∀ i, mI M 142 i = nI (exF (cN c 142) a k v i)) → m = exC (cN c 142) a v k → E g 3 0 0 mX12_setExtra 49 [.ref 129, .int (nI a), .int (nI b), .int (nI v), .int (nI m), .int (nI k)] [] M Q := by
  refine lpUp (b + 1) (fun k hk ih => ?_)
  intro hak M m hF h0 h1 h14 h2 hm
  have h16 : tl c ≤ 16 := h.wf.tl
  have hL := hF.lay h.lay
  have hmb := exC_b (cN c 142) a v k
  have hx := (h.wf.tx k).2
  have hk2 : mI M 142 k = nI (cN c 142 k) := by rw [h2 k]; unfold exF; rw [if_neg (by omega)]
  refine E_iload dX12_setExtra_49 rfl ?_
  refine E_iload_n dX12_setExtra_51 rfl ?_
  refine E_icmp_gt_n (tgt := 97) dX12_setExtra_52 (by decide) (by omega) (by omega) (fun c_52 => ?_) (fun c_52 => ?_)
  · obtain rfl : k = b + 1 := by omega
    refine E_iload dX12_setExtra_97 rfl ?_
    refine E_iret dX12_setExtra_99 (Or.inl rfl) ?_
    subst hm
    exact K _ ((bZ_tx (c' := nxE c a b v) h hF h1 h2 h14 (fun q j q1 q2 q3 => by
      show (if q = 142 then _ else cN c q j) = _
      rw [if_neg q2]) (fun _ => rfl)).s (nxE_wf h.wf hv)) hF h0
  · refine E_aload_n dX12_setExtra_55 rfl ?_
    refine E_getIL (v := nI 0) dX12_setExtra_56 kF_X12_166 kY_12 (Or.inl rfl) (l_128 hL) (k_128 hL) (h0.trans hz) ?_
    refine E_if_ne (tgt := 97) dX12_setExtra_59 (by decide) (fun c0 => absurd c0 (by decide)) (fun _ => ?_)
    refine E_iload dX12_setExtra_62 rfl ?_
    refine E_aload_n dX12_setExtra_64 rfl ?_
    refine E_getRL dX12_setExtra_65 kF_X12_50 kY_12 (Or.inr ⟨_, rfl⟩) (l_128 hL) (k_128 hL) (r_128_16 hL) ?_
    refine E_iload dX12_setExtra_68 rfl ?_
    refine E_ialdL (v := nI (cN c 142 k)) dX12_setExtra_70 (l_142 hL) (k_142 hL) rfl (by omega) (by decide) hk2 ?_
    refine E_iload_n dX12_setExtra_71 rfl ?_
    refine E_icmp_ne_n (tgt := 79) dX12_setExtra_72 (by decide) (by omega) (by omega) (fun c_72 => ?_) (fun c_72 => ?_)
    · refine E_iconst (v := nI 1) dX12_setExtra_79 (by decide) ?_
      refine E_iadd_n dX12_setExtra_80 ?_
      refine E_istore dX12_setExtra_81 (Nat.le_of_ble_eq_true rfl) (by decide) rfl ?_
      refine E_aload_n dX12_setExtra_83 rfl ?_
      refine E_getRL dX12_setExtra_84 kF_X12_50 kY_12 (Or.inr ⟨_, rfl⟩) (l_128 hL) (k_128 hL) (r_128_16 hL) ?_
      refine E_iload dX12_setExtra_87 rfl ?_
      refine E_iload_n dX12_setExtra_89 rfl ?_
      refine E_iast dX12_setExtra_90 (l_142 hL) (k_142 hL) rfl (by omega) (by decide) ?_
      have g2 : ∀ i, mI (sI M 142 k (nI v)) 142 i = nI (exF (cN c 142) a (k + 1) v i) := fun i => by
        by_cases e : i = k
        · subst e; rw [mI_eq]; unfold exF; rw [if_pos (by omega)]
        · rw [mI_nj e, h2]; unfold exF
          by_cases e2 : a ≤ i ∧ i < k
          · rw [if_pos e2, if_pos (by omega)]
          · rw [if_neg e2, if_neg (by omega)]
      have gm : exC (cN c 142) a v (k + 1) = exC (cN c 142) a v k + cI (a ≤ k ∧ ¬ cN c 142 k = v) 1 0 := rfl
      refine E_iinc_n (d := 1) dX12_setExtra_91 rfl rfl rfl (by decide) rfl ?_
      refine E_goto (tgt := 49) dX12_setExtra_94 (by decide) ?_
      refine ih (by omega) (by omega) _ _ (hF.wr (by unfold txR; omega)) ((mI_ne (by decide)).trans h0) (fun i => (mI_ne (by decide)).trans (h1 i)) ((mI_ne (by decide)).trans h14) g2 ?_
      rw [gm]
      first | (rw [cI_t (by omega)]; omega) | (rw [cI_f (by omega)]; omega)
    · refine E_iconst (v := nI 0) dX12_setExtra_75 (by decide) ?_
      refine E_goto (tgt := 80) dX12_setExtra_76 (by decide) ?_
      refine E_iadd_n dX12_setExtra_80 ?_
      refine E_istore dX12_setExtra_81 (Nat.le_of_ble_eq_true rfl) (by decide) rfl ?_
      refine E_aload_n dX12_setExtra_83 rfl ?_
      refine E_getRL dX12_setExtra_84 kF_X12_50 kY_12 (Or.inr ⟨_, rfl⟩) (l_128 hL) (k_128 hL) (r_128_16 hL) ?_
      refine E_iload dX12_setExtra_87 rfl ?_
      refine E_iload_n dX12_setExtra_89 rfl ?_
      refine E_iast dX12_setExtra_90 (l_142 hL) (k_142 hL) rfl (by omega) (by decide) ?_
      have g2 : ∀ i, mI (sI M 142 k (nI v)) 142 i = nI (exF (cN c 142) a (k + 1) v i) := fun i => by
        by_cases e : i = k
        · subst e; rw [mI_eq]; unfold exF; rw [if_pos (by omega)]
        · rw [mI_nj e, h2]; unfold exF
          by_cases e2 : a ≤ i ∧ i < k
          · rw [if_pos e2, if_pos (by omega)]
          · rw [if_neg e2, if_neg (by omega)]
      have gm : exC (cN c 142) a v (k + 1) = exC (cN c 142) a v k + cI (a ≤ k ∧ ¬ cN c 142 k = v) 1 0 := rfl
      refine E_iinc_n (d := 1) dX12_setExtra_91 rfl rfl rfl (by decide) rfl ?_
      refine E_goto (tgt := 49) dX12_setExtra_94 (by decide) ?_
      refine ih (by omega) (by omega) _ _ (hF.wr (by unfold txR; omega)) ((mI_ne (by decide)).trans h0) (fun i => (mI_ne (by decide)).trans (h1 i)) ((mI_ne (by decide)).trans h14) g2 ?_
      rw [gm]
      first | (rw [cI_t (by omega)]; omega) | (rw [cI_f (by omega)]; omega)
set_option maxRecDepth 100000 in
set_option maxHeartbeats 4000000 in
theorem o_setExtra {g : gG} {M : gM} {Q : Option Value ⊕ String → gM → Prop} {c : Cf} (h : bS c M) {p q s : Int32} (K1 : ¬ (iBel p (tl c) ∧ iBel q (tl c) ∧ p ≤ q) → ∀ M', bS (c) M' → fr refR M M' → mI M' 128 0 = nI 1 → Q (.inl (some (.int (nI 0)))) M') (K2 : iBel p (tl c) ∧ iBel q (tl c) ∧ p ≤ q → ¬ iIn s (nI 0) (nI 3) → ∀ M', bS (c) M' → fr refR M M' → mI M' 128 0 = nI 2 → Q (.inl (some (.int (nI 0)))) M') (K0 : ∀ i j v, i ≤ j → j < tl c → p = nI i → q = nI j → v ≤ 3 → s = nI v → ∀ M', bS (nxE c i j v) M' → fr refR M M' → mI M' 128 0 = nI 0 → Q (.inl (some (.int (nI (exC (cN c 142) i v (j + 1)))))) M') : E g 3 0 0 mX12_setExtra 0 [.ref 129, .int p, .int q, .int s, .null, .null] [] M Q := by
  have hL := h.lay
  have h16 : tl c ≤ 16 := h.wf.tl
  refine E_aload_n dX12_setExtra_0 rfl ?_
  refine E_aload_n dX12_setExtra_1 rfl ?_
  refine E_iload_n dX12_setExtra_2 rfl ?_
  refine E_callV1 (fr' := 2) (k1 := 0) (n1 := 0) (k2 := 0) (n2 := 0) dX12_setExtra_3 kO_X12_isPlace kL_X12_222 (l_128 hL) (k_128 hL) ⟨by decide, rfl⟩ rfl (by decide) (by decide) (by exact Nat.le_of_ble_eq_true rfl) rfl ?_
  refine sp_X12_isPlace hL h.tl h.wf.tl ?_
  refine gKv ?_
  refine E_if_eq_b (tgt := 22) dX12_setExtra_6 (by decide) (fun c_6 => ?_) (fun c_6 => ?_)
  · have nt : ¬ (iBel p (tl c) ∧ iBel q (tl c) ∧ p ≤ q) := fun z => by first | exact c_6 z.1 | exact c_14 z.2.1 | exact c_19 z.2.2
    refine E_iconst (v := nI 1) dX12_setExtra_22 (by decide) ?_
    refine E_goto (tgt := 40) dX12_setExtra_23 (by decide) ?_
    refine E_putI dX12_setExtra_40 kF_X12_166 kY_12 (Or.inl rfl) (l_128 hL) (k_128 hL) (Or.inl rfl) ?_
    refine E_iconst (v := nI 0) dX12_setExtra_43 (by decide) ?_
    refine E_istore dX12_setExtra_44 (Nat.le_of_ble_eq_true rfl) (by decide) rfl ?_
    refine E_iload_n dX12_setExtra_46 rfl ?_
    refine E_istore dX12_setExtra_47 (Nat.le_of_ble_eq_true rfl) (by decide) rfl ?_
    refine E_iload dX12_setExtra_49 rfl ?_
    refine E_iload_n dX12_setExtra_51 rfl ?_
    refine E_icmp_gt (tgt := 97) dX12_setExtra_52 (by decide) (fun e_52 => ?_) (fun e_52 => ?_)
    · refine E_iload dX12_setExtra_97 rfl ?_
      refine E_iret dX12_setExtra_99 (Or.inl rfl) ?_
      exact K1 nt _ (h.t _) frt mI_eq
    · refine E_aload_n dX12_setExtra_55 rfl ?_
      refine E_getIL (v := nI 1) dX12_setExtra_56 kF_X12_166 kY_12 (Or.inl rfl) (l_128 hL) (k_128 hL) rfl ?_
      refine E_if_ne (tgt := 97) dX12_setExtra_59 (by decide) (fun _ => ?_) (fun c0 => absurd (by decide) c0)
      refine E_iload dX12_setExtra_97 rfl ?_
      refine E_iret dX12_setExtra_99 (Or.inl rfl) ?_
      exact K1 nt _ (h.t _) frt mI_eq
  · refine E_aload_n dX12_setExtra_9 rfl ?_
    refine E_iload_n dX12_setExtra_10 rfl ?_
    refine E_callV1 (fr' := 2) (k1 := 0) (n1 := 0) (k2 := 0) (n2 := 0) dX12_setExtra_11 kO_X12_isPlace kL_X12_222 (l_128 hL) (k_128 hL) ⟨by decide, rfl⟩ rfl (by decide) (by decide) (by exact Nat.le_of_ble_eq_true rfl) rfl ?_
    refine sp_X12_isPlace hL h.tl h.wf.tl ?_
    refine gKv ?_
    refine E_if_eq_b (tgt := 22) dX12_setExtra_14 (by decide) (fun c_14 => ?_) (fun c_14 => ?_)
    · have nt : ¬ (iBel p (tl c) ∧ iBel q (tl c) ∧ p ≤ q) := fun z => by first | exact c_6 z.1 | exact c_14 z.2.1 | exact c_19 z.2.2
      refine E_iconst (v := nI 1) dX12_setExtra_22 (by decide) ?_
      refine E_goto (tgt := 40) dX12_setExtra_23 (by decide) ?_
      refine E_putI dX12_setExtra_40 kF_X12_166 kY_12 (Or.inl rfl) (l_128 hL) (k_128 hL) (Or.inl rfl) ?_
      refine E_iconst (v := nI 0) dX12_setExtra_43 (by decide) ?_
      refine E_istore dX12_setExtra_44 (Nat.le_of_ble_eq_true rfl) (by decide) rfl ?_
      refine E_iload_n dX12_setExtra_46 rfl ?_
      refine E_istore dX12_setExtra_47 (Nat.le_of_ble_eq_true rfl) (by decide) rfl ?_
      refine E_iload dX12_setExtra_49 rfl ?_
      refine E_iload_n dX12_setExtra_51 rfl ?_
      refine E_icmp_gt (tgt := 97) dX12_setExtra_52 (by decide) (fun e_52 => ?_) (fun e_52 => ?_)
      · refine E_iload dX12_setExtra_97 rfl ?_
        refine E_iret dX12_setExtra_99 (Or.inl rfl) ?_
        exact K1 nt _ (h.t _) frt mI_eq
      · refine E_aload_n dX12_setExtra_55 rfl ?_
        refine E_getIL (v := nI 1) dX12_setExtra_56 kF_X12_166 kY_12 (Or.inl rfl) (l_128 hL) (k_128 hL) rfl ?_
        refine E_if_ne (tgt := 97) dX12_setExtra_59 (by decide) (fun _ => ?_) (fun c0 => absurd (by decide) c0)
        refine E_iload dX12_setExtra_97 rfl ?_
        refine E_iret dX12_setExtra_99 (Or.inl rfl) ?_
        exact K1 nt _ (h.t _) frt mI_eq
    · refine E_iload_n dX12_setExtra_17 rfl ?_
      refine E_iload_n dX12_setExtra_18 rfl ?_
      refine E_icmp_ge (tgt := 26) dX12_setExtra_19 (by decide) (fun c_19 => ?_) (fun c_19 => ?_)
      · refine E_iload_n dX12_setExtra_26 rfl ?_
        refine E_iconst (v := nI 0) dX12_setExtra_27 (by decide) ?_
        refine E_iconst (v := nI 3) dX12_setExtra_28 (by decide) ?_
        refine E_callS3 (fr' := 1) (k1 := 0) (n1 := 0) (k2 := 0) (n2 := 0) dX12_setExtra_29 kO_X12_in kL_X12_162 rfl rfl rfl (by decide) (by decide) (by exact Nat.le_of_ble_eq_true rfl) (Or.inl rfl) rfl ?_
        refine sp_X12_in ?_
        refine gKv ?_
        refine E_if_eq_b (tgt := 39) dX12_setExtra_32 (by decide) (fun c_32 => ?_) (fun c_32 => ?_)
        · refine E_iconst (v := nI 2) dX12_setExtra_39 (by decide) ?_
          refine E_putI dX12_setExtra_40 kF_X12_166 kY_12 (Or.inl rfl) (l_128 hL) (k_128 hL) (Or.inl rfl) ?_
          refine E_iconst (v := nI 0) dX12_setExtra_43 (by decide) ?_
          refine E_istore dX12_setExtra_44 (Nat.le_of_ble_eq_true rfl) (by decide) rfl ?_
          refine E_iload_n dX12_setExtra_46 rfl ?_
          refine E_istore dX12_setExtra_47 (Nat.le_of_ble_eq_true rfl) (by decide) rfl ?_
          refine E_iload dX12_setExtra_49 rfl ?_
          refine E_iload_n dX12_setExtra_51 rfl ?_
          refine E_icmp_gt (tgt := 97) dX12_setExtra_52 (by decide) (fun e_52 => ?_) (fun e_52 => ?_)
          · refine E_iload dX12_setExtra_97 rfl ?_
            refine E_iret dX12_setExtra_99 (Or.inl rfl) ?_
            exact K2 ⟨c_6, c_14, c_19⟩ c_32 _ (h.t _) frt mI_eq
          · refine E_aload_n dX12_setExtra_55 rfl ?_
            refine E_getIL (v := nI 2) dX12_setExtra_56 kF_X12_166 kY_12 (Or.inl rfl) (l_128 hL) (k_128 hL) rfl ?_
            refine E_if_ne (tgt := 97) dX12_setExtra_59 (by decide) (fun _ => ?_) (fun c0 => absurd (by decide) c0)
            refine E_iload dX12_setExtra_97 rfl ?_
            refine E_iret dX12_setExtra_99 (Or.inl rfl) ?_
            exact K2 ⟨c_6, c_14, c_19⟩ c_32 _ (h.t _) frt mI_eq
        · obtain ⟨i, hi, ei⟩ := (iBel_iff (show tl c < 2 ^ 30 by omega)).mp c_6
          obtain ⟨j, hj, ej⟩ := (iBel_iff (show tl c < 2 ^ 30 by omega)).mp c_14
          obtain ⟨v, hv1, hv, ev⟩ := iIn_of c_32 (by decide) (by decide)
          subst ei; subst ej; subst ev
          have hij : i ≤ j := (nI_leI (by omega) (by omega)).mp c_19
          have ht := h.t (nI 0)
          refine E_iconst (v := nI 0) dX12_setExtra_35 (by decide) ?_
          refine E_goto (tgt := 40) dX12_setExtra_36 (by decide) ?_
          refine E_putI dX12_setExtra_40 kF_X12_166 kY_12 (Or.inl rfl) (l_128 hL) (k_128 hL) (Or.inl rfl) ?_
          refine E_iconst (v := nI 0) dX12_setExtra_43 (by decide) ?_
          refine E_istore dX12_setExtra_44 (Nat.le_of_ble_eq_true rfl) (by decide) rfl ?_
          refine E_iload_n dX12_setExtra_46 rfl ?_
          refine E_istore dX12_setExtra_47 (Nat.le_of_ble_eq_true rfl) (by decide) rfl ?_
          exact lp_X12_setExtra ht hj hv mI_eq (fun M' hb hF e => K0 i j v hij hj rfl rfl hv rfl M' hb (frt.trans (hF.mono txR_r)) (e.trans mI_eq)) i (by omega) (Nat.le_refl _) _ 0 fr.refl rfl (fun k => ht.gg _ _ (by decide)) ht.tl (fun k => by unfold exF; rw [if_neg (by omega)]; exact ht.gg _ _ (by decide)) (exC_0 _ _ _ _ (Nat.le_refl _)).symm
      · have nt : ¬ (iBel p (tl c) ∧ iBel q (tl c) ∧ p ≤ q) := fun z => by first | exact c_6 z.1 | exact c_14 z.2.1 | exact c_19 z.2.2
        refine E_iconst (v := nI 1) dX12_setExtra_22 (by decide) ?_
        refine E_goto (tgt := 40) dX12_setExtra_23 (by decide) ?_
        refine E_putI dX12_setExtra_40 kF_X12_166 kY_12 (Or.inl rfl) (l_128 hL) (k_128 hL) (Or.inl rfl) ?_
        refine E_iconst (v := nI 0) dX12_setExtra_43 (by decide) ?_
        refine E_istore dX12_setExtra_44 (Nat.le_of_ble_eq_true rfl) (by decide) rfl ?_
        refine E_iload_n dX12_setExtra_46 rfl ?_
        refine E_istore dX12_setExtra_47 (Nat.le_of_ble_eq_true rfl) (by decide) rfl ?_
        refine E_iload dX12_setExtra_49 rfl ?_
        refine E_iload_n dX12_setExtra_51 rfl ?_
        refine E_icmp_gt (tgt := 97) dX12_setExtra_52 (by decide) (fun e_52 => ?_) (fun e_52 => ?_)
        · refine E_iload dX12_setExtra_97 rfl ?_
          refine E_iret dX12_setExtra_99 (Or.inl rfl) ?_
          exact K1 nt _ (h.t _) frt mI_eq
        · refine E_aload_n dX12_setExtra_55 rfl ?_
          refine E_getIL (v := nI 1) dX12_setExtra_56 kF_X12_166 kY_12 (Or.inl rfl) (l_128 hL) (k_128 hL) rfl ?_
          refine E_if_ne (tgt := 97) dX12_setExtra_59 (by decide) (fun _ => ?_) (fun c0 => absurd (by decide) c0)
          refine E_iload dX12_setExtra_97 rfl ?_
          refine E_iret dX12_setExtra_99 (Or.inl rfl) ?_
          exact K1 nt _ (h.t _) frt mI_eq
