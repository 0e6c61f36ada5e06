/-! the reference: what goes back, what is taken out -/
noncomputable def bcl (L : List Gl) (i : Nat) : Nat := fnd (fun k => ¬ yC (gat L k) = yC (gat L i)) L.length i
theorem bcl_b {L : List Gl} {i : Nat} (h : i < L.length) : i + 1 ≤ bcl L i ∧ bcl L i ≤ L.length := by
  unfold bcl
  rw [fnd_skip h (fun q => q rfl)]
  exact ⟨(fnd_spec h).1, (fnd_spec h).2.1⟩
abbrev beh (x : Gl) : Prop := cCo (yO x) ∨ yO x = 64
noncomputable def led (L : List Gl) (i : Nat) : Nat := fnd (fun k => ¬ yO (gat L k) = 40) (bcl L i) i
def kilP (L : List Gl) (i k : Nat) : Prop := led L i ≤ k ∧ yN (gat L k) = 39 ∧ ∃ j, k < j ∧ j < bcl L i ∧ beh (gat L j)
noncomputable def kil (L : List Gl) (i : Nat) : Nat := rfd (kilP L i) (bcl L i)
noncomputable def mvL (L : List Gl) (i : Nat) : List Gl := cI (kil L i = 0) L (rotL L i (led L i) (kil L i))
theorem led_b {L : List Gl} {i : Nat} (h : i < L.length) : i ≤ led L i ∧ led L i ≤ bcl L i := ⟨(fnd_spec (by have := bcl_b h; omega)).1, (fnd_spec (by have := bcl_b h; omega)).2.1⟩
theorem kil_b {L : List Gl} {i : Nat} (h : i < L.length) : kil L i ≤ bcl L i ∧ (0 < kil L i → led L i < kil L i) := by
  refine ⟨rfd_le _, fun q => ?_⟩
  have := (rfd_spec (P := kilP L i) (bcl L i)).1 (kil L i - 1) (by show kil L i = _; omega)
  have := this.1
  omega
theorem mvL_len (L : List Gl) (i : Nat) : (mvL L i).length = L.length := by
  unfold mvL
  by_cases e : kil L i = 0
  · rw [cI_t e]
  · rw [cI_f e, rot_len]
theorem bcl_same {L : List Gl} {i j : Nat} (h1 : i ≤ j) (h2 : j < bcl L i) : yC (gat L j) = yC (gat L i) := by
  unfold bcl at h2
  by_cases e : i ≤ L.length
  · exact Classical.byContradiction (fun q => (fnd_spec e).2.2.2 j h1 h2 q)
  · rw [fnd_end (by omega)] at h2; omega
theorem bcl_mv {L : List Gl} {i : Nat} (h : i < L.length) : bcl (mvL L i) i = bcl L i := by
  have hb := bcl_b h
  have hl := led_b h
  have hk := kil_b h
  unfold mvL
  by_cases e : kil L i = 0
  · rw [cI_t e]
  · rw [cI_f e]
    have hk2 := hk.2 (by omega)
    have key : ∀ j, i ≤ j → j < bcl L i → yC (gat (rotL L i (led L i) (kil L i)) j) = yC (gat L i) := fun j h1 h2 => by
      unfold rotL
      rw [gat_mkL (by omega)]
      refine bcl_same ?_ ?_ <;> unfold rotS <;> repeat' split
      all_goals omega
    have hi := key i (Nat.le_refl _) (by omega)
    refine fnd_eq (by omega) (by rw [rot_len]; exact hb.2) (fun q => ?_) (fun j h1 h2 q => q ?_)
    · rw [hi]
      rw [rot_len] at q
      have : gat (rotL L i (led L i) (kil L i)) (bcl L i) = gat L (bcl L i) := by
        unfold rotL
        rw [gat_mkL q]
        unfold rotS
        rw [if_neg (by omega), if_neg (by omega), if_neg (by omega)]
      rw [this]
      exact (fnd_spec (Nat.le_of_lt h)).2.2.1 q
    · rw [key j h1 h2, hi]
noncomputable def mvs : Nat → Nat → List Gl → List Gl
  | 0, _, L => L
  | t + 1, i, L => cI (i < L.length) (mvs t (bcl L i) (mvL L i)) L
set_option maxRecDepth 100000 in
set_option maxHeartbeats 4000000 in
theorem lp_X12_behindCluster {g : gG} {M : gM} {Q : Option Value ⊕ String → gM → Prop} {c : Cf} {f : Nat} {M0 : gM} {L : List Gl} {w : Int32} (h : mX c f M0 L w M) {i : Nat} (hi : i < L.length) (K : Q (.inl (some (.int (nI (bcl L i))))) M) : ∀ k, k ≤ L.length → fnd (fun k => ¬ yC (gat L k) = yC (gat L i)) L.length k = bcl L i → E g 1 0 0 mX12_behindCluster 2 [.ref 129, .int (nI i), .int (nI k)] [] M Q := by
  have hL := h.lay
  have hf := h.hf
  have hn := h.len
  refine lpUp L.length (fun k hk ih => ?_)
  intro he
  have c1 := h.c16 k
  have c2 := h.c16 i
  refine E_iload_n dX12_behindCluster_2 rfl ?_
  refine E_aload_n dX12_behindCluster_3 rfl ?_
  refine E_getIL (v := nI _) dX12_behindCluster_4 kF_X12_235 kY_12 (Or.inl rfl) (l_128 hL) (k_128 hL) h.gn ?_
  refine E_icmp_ge_n (tgt := 31) dX12_behindCluster_7 (by decide) (by omega) (by omega) (fun c_7 => ?_) (fun c_7 => ?_)
  · refine E_iload_n dX12_behindCluster_31 rfl ?_
    refine E_iret dX12_behindCluster_32 (Or.inl rfl) ?_
    first
      | (rw [fnd_end (by omega)] at he; rw [he]; exact K)
      | (rw [fnd_hit (by omega) (by assumption)] at he; rw [he]; exact K)
  · refine E_aload_n dX12_behindCluster_10 rfl ?_
    refine E_getRL dX12_behindCluster_11 kF_X12_66 kY_12 (Or.inr ⟨_, rfl⟩) (l_128 hL) (k_128 hL) (r_128_23 hL) ?_
    refine E_iload_n dX12_behindCluster_14 rfl ?_
    refine E_ialdL (v := nI (yC (gat _ _))) dX12_behindCluster_15 (l_146 hL) (k_146 hL) rfl (by first | omega | exact h.n256 _) (by decide) (h.at (by omega)).2.1 ?_
    refine E_aload_n dX12_behindCluster_16 rfl ?_
    refine E_getRL dX12_behindCluster_17 kF_X12_66 kY_12 (Or.inr ⟨_, rfl⟩) (l_128 hL) (k_128 hL) (r_128_23 hL) ?_
    refine E_iload_n dX12_behindCluster_20 rfl ?_
    refine E_ialdL (v := nI (yC (gat _ _))) dX12_behindCluster_21 (l_146 hL) (k_146 hL) rfl (by first | omega | exact h.n256 _) (by decide) (h.at (by omega)).2.1 ?_
    refine E_icmp_ne_n (tgt := 31) dX12_behindCluster_22 (by decide) (by omega) (by omega) (fun c_22 => ?_) (fun c_22 => ?_)
    · refine E_iload_n dX12_behindCluster_31 rfl ?_
      refine E_iret dX12_behindCluster_32 (Or.inl rfl) ?_
      first
        | (rw [fnd_end (by omega)] at he; rw [he]; exact K)
        | (rw [fnd_hit (by omega) (by assumption)] at he; rw [he]; exact K)
    · refine E_iinc_n (d := 1) dX12_behindCluster_25 rfl rfl rfl (by decide) rfl ?_
      refine E_goto (tgt := 2) dX12_behindCluster_28 (by decide) ?_
      exact ih (by omega) (by rw [← he]; exact (fnd_skip (by omega) (not_not_intro (by assumption))).symm)
set_option maxRecDepth 100000 in
set_option maxHeartbeats 4000000 in
theorem sp_X12_behindCluster {g : gG} {M : gM} {Q : Option Value ⊕ String → gM → Prop} {c : Cf} {f : Nat} {M0 : gM} {L : List Gl} {w : Int32} (h : mX c f M0 L w M) {i : Nat} (hi : i < L.length) (K : Q (.inl (some (.int (nI (bcl L i))))) M) : E g 1 0 0 mX12_behindCluster 0 [.ref 129, .int (nI i), .null] [] M Q := by
  have hL := h.lay
  have hf := h.hf
  have hn := h.len
  refine E_iload_n dX12_behindCluster_0 rfl ?_
  refine E_istore_n dX12_behindCluster_1 (Nat.le_of_ble_eq_true rfl) (by decide) rfl ?_
  exact lp_X12_behindCluster h hi K i (by omega) rfl
set_option maxRecDepth 100000 in
set_option maxHeartbeats 4000000 in
theorem lp_X12_movesBack {g : gG} {M : gM} {Q : Option Value ⊕ String → gM → Prop} {c : Cf} {f : Nat} {M0 : gM} {L : List Gl} {w : Int32} (h : mX c f M0 L w M) {i : Nat} (hi : i < L.length) (K : ∀ v v6, v = cI (0 < kil L i) (nI (kil L i - 1)) (-100) → ∀ v4, E g 3 0 0 mX12_movesBack 134 [.ref 129, .int (nI i), .int (nI (bcl L i)), .int (nI (led L i)), v4, .int v, v6] [] M Q) : ∀ k, led L i ≤ k → k ≤ bcl L i → ∀ u v, u = cI (∃ j, k ≤ j ∧ j < bcl L i ∧ beh (gat L j)) 1 0 → v = cI (k < kil L i) (nI (kil L i - 1)) (-100) → E g 3 0 0 mX12_movesBack 52 [.ref 129, .int (nI i), .int (nI (bcl L i)), .int (nI (led L i)), .int (nI u), .int v, .int (dI k)] [] M Q := by
  have hL := h.lay
  have hf := h.hf
  have hn := h.len
  have hb := bcl_b hi
  have hl := led_b hi
  have hkb := kil_b hi
  have hsp := rfd_spec (P := kilP L i) (bcl L i)
  refine lpDn (led L i) (fun k hlk ih => ?_)
  intro hk u v hu hv
  refine E_iload dX12_movesBack_52 rfl ?_
  refine E_iload_n dX12_movesBack_54 rfl ?_
  refine E_icmp_lt_d (tgt := 134) dX12_movesBack_55 (by decide) (by omega) (by omega) (fun c_55 => ?_) (fun c_55 => ?_)
  · refine K _ _ ?_ _
    rw [hv, cI_congr (show k < kil L i ↔ 0 < kil L i by have := hkb.2; omega)]
  · obtain ⟨k, rfl⟩ : ∃ z, k = z + 1 := ⟨k - 1, by omega⟩
    rw [dI_succ]
    have gx := (h.ok.at k).1
    have ox := (h.ok.at k).2.2.2
    have hP : kilP L i k ↔ yN (gat L k) = 39 ∧ ∃ j, k + 1 ≤ j ∧ j < bcl L i ∧ beh (gat L j) := ⟨fun q => q.2, fun q => ⟨by omega, q⟩⟩
    have hex : (∃ j, k ≤ j ∧ j < bcl L i ∧ beh (gat L j)) ↔ (∃ j, k + 1 ≤ j ∧ j < bcl L i ∧ beh (gat L j)) ∨ beh (gat L k) := by
      constructor
      · rintro ⟨j, q1, q2, q3⟩
        by_cases e : j = k
        · subst e; exact Or.inr q3
        · exact Or.inl ⟨j, by omega, q2, q3⟩
      · rintro (⟨j, q1, q2, q3⟩ | q)
        · exact ⟨j, by omega, q2, q3⟩
        · exact ⟨k, Nat.le_refl _, by omega, q⟩
    have hk1 : kilP L i k → k < kil L i := fun q => Classical.byContradiction (fun z => hsp.2 k (by show kil L i ≤ k; omega) (by omega) q)
    have hk2 : kil L i = k + 1 → kilP L i k := fun q => hsp.1 k q
    have fin : ∀ u' v', u' = cI (∃ j, k ≤ j ∧ j < bcl L i ∧ beh (gat L j)) 1 0 → v' = cI (k < kil L i) (nI (kil L i - 1)) (-100) → E g 3 0 0 mX12_movesBack 52 [.ref 129, .int (nI i), .int (nI (bcl L i)), .int (nI (led L i)), .int (nI u'), .int v', .int (dI k)] [] M Q := fun u' v' e1 e2 => ih (by omega) (by omega) u' v' e1 e2
    by_cases hx : ∃ j, k + 1 ≤ j ∧ j < bcl L i ∧ beh (gat L j)
    · rw [cI_t hx] at hu
      subst hu
      have f1 : (1 : Nat) = cI (∃ j, k ≤ j ∧ j < bcl L i ∧ beh (gat L j)) 1 0 := (cI_t (hex.mpr (Or.inl hx))).symm
      by_cases hy : k + 1 < kil L i
      · rw [cI_t hy] at hv
        subst hv
        have f2 : nI (kil L i - 1) = cI (k < kil L i) (nI (kil L i - 1)) (-100) := (cI_t (by omega)).symm
        refine E_iload dX12_movesBack_58 rfl ?_
        refine E_bipush (v := -100) dX12_movesBack_60 (by decide) ?_
        refine E_icmp_ne (tgt := 87) dX12_movesBack_62 (by decide) (fun _ => ?_) (fun c0 => absurd (nI_ne100 (by omega)) c0)
        refine E_iload dX12_movesBack_87 rfl ?_
        refine E_istore dX12_movesBack_89 (Nat.le_of_ble_eq_true rfl) (by decide) rfl ?_
        refine E_iload dX12_movesBack_91 rfl ?_
        refine E_if_ne (tgt := 121) dX12_movesBack_93 (by decide) (fun _ => ?_) (fun c0 => absurd (by decide) c0)
        refine E_iconst (v := nI 1) dX12_movesBack_121 (by decide) ?_
        refine E_goto (tgt := 126) dX12_movesBack_122 (by decide) ?_
        refine E_istore dX12_movesBack_126 (Nat.le_of_ble_eq_true rfl) (by decide) rfl ?_
        refine E_iinc_d dX12_movesBack_128 rfl rfl (by decide) rfl ?_
        refine E_goto (tgt := 52) dX12_movesBack_131 (by decide) ?_
        exact fin _ _ f1 f2
      · rw [cI_f hy] at hv
        subst hv
        have f2 : ¬ yN (gat L k) = 39 → (-100 : Int32) = cI (k < kil L i) (nI (kil L i - 1)) (-100) := fun q => (cI_f (fun z => q (hk2 (by omega)).2.1)).symm
        have f3 : yN (gat L k) = 39 → nI k = cI (k < kil L i) (nI (kil L i - 1)) (-100) := fun q => by
          have := hk1 (hP.mpr ⟨q, hx⟩)
          rw [cI_t this, show kil L i - 1 = k by omega]
        refine E_iload dX12_movesBack_58 rfl ?_
        refine E_bipush (v := -100) dX12_movesBack_60 (by decide) ?_
        refine E_icmp_ne_r (tgt := 87) dX12_movesBack_62 (by decide) (fun c0 => absurd c0 (by decide)) (fun _ => ?_)
        refine E_aload_n dX12_movesBack_65 rfl ?_
        refine E_getRL dX12_movesBack_66 kF_X12_63 kY_12 (Or.inr ⟨_, rfl⟩) (l_128 hL) (k_128 hL) (r_128_22 hL) ?_
        refine E_iload dX12_movesBack_69 rfl ?_
        refine E_ialdL (v := nI (yN (gat _ _))) dX12_movesBack_71 (l_145 hL) (k_145 hL) rfl (by first | omega | exact h.n256 _) (by decide) (h.at (by omega)).1 ?_
        refine E_bipush (v := nI 39) dX12_movesBack_72 (by decide) ?_
        refine E_icmp_ne_n (tgt := 87) dX12_movesBack_74 (by decide) (by omega) (by omega) (fun c_74 => ?_) (fun c_74 => ?_)
        · refine E_iload dX12_movesBack_87 rfl ?_
          refine E_istore dX12_movesBack_89 (Nat.le_of_ble_eq_true rfl) (by decide) rfl ?_
          refine E_iload dX12_movesBack_91 rfl ?_
          refine E_if_ne (tgt := 121) dX12_movesBack_93 (by decide) (fun _ => ?_) (fun c0 => absurd (by decide) c0)
          refine E_iconst (v := nI 1) dX12_movesBack_121 (by decide) ?_
          refine E_goto (tgt := 126) dX12_movesBack_122 (by decide) ?_
          refine E_istore dX12_movesBack_126 (Nat.le_of_ble_eq_true rfl) (by decide) rfl ?_
          refine E_iinc_d dX12_movesBack_128 rfl rfl (by decide) rfl ?_
          refine E_goto (tgt := 52) dX12_movesBack_131 (by decide) ?_
          first
            | exact fin _ _ f1 (f2 (by assumption))
            | exact fin _ _ f1 (f3 (by assumption))
        · refine E_iload dX12_movesBack_77 rfl ?_
          refine E_if_eq (tgt := 87) dX12_movesBack_79 (by decide) (fun c0 => absurd c0 (by decide)) (fun _ => ?_)
          refine E_iload dX12_movesBack_82 rfl ?_
          refine E_goto (tgt := 89) dX12_movesBack_84 (by decide) ?_
          refine E_istore dX12_movesBack_89 (Nat.le_of_ble_eq_true rfl) (by decide) rfl ?_
          refine E_iload dX12_movesBack_91 rfl ?_
          refine E_if_ne (tgt := 121) dX12_movesBack_93 (by decide) (fun _ => ?_) (fun c0 => absurd (by decide) c0)
          refine E_iconst (v := nI 1) dX12_movesBack_121 (by decide) ?_
          refine E_goto (tgt := 126) dX12_movesBack_122 (by decide) ?_
          refine E_istore dX12_movesBack_126 (Nat.le_of_ble_eq_true rfl) (by decide) rfl ?_
          refine E_iinc_d dX12_movesBack_128 rfl rfl (by decide) rfl ?_
          refine E_goto (tgt := 52) dX12_movesBack_131 (by decide) ?_
          first
            | exact fin _ _ f1 (f2 (by assumption))
            | exact fin _ _ f1 (f3 (by assumption))
    · rw [cI_f hx] at hu
      subst hu
      have g1 : beh (gat L k) → (1 : Nat) = cI (∃ j, k ≤ j ∧ j < bcl L i ∧ beh (gat L j)) 1 0 := fun q => (cI_t (hex.mpr (Or.inr q))).symm
      have g2 : ¬ beh (gat L k) → (0 : Nat) = cI (∃ j, k ≤ j ∧ j < bcl L i ∧ beh (gat L j)) 1 0 := fun q => (cI_f (fun z => (hex.mp z).elim hx q)).symm
      by_cases hy : k + 1 < kil L i
      · rw [cI_t hy] at hv
        subst hv
        have f2 : nI (kil L i - 1) = cI (k < kil L i) (nI (kil L i - 1)) (-100) := (cI_t (by omega)).symm
        refine E_iload dX12_movesBack_58 rfl ?_
        refine E_bipush (v := -100) dX12_movesBack_60 (by decide) ?_
        refine E_icmp_ne (tgt := 87) dX12_movesBack_62 (by decide) (fun _ => ?_) (fun c0 => absurd (nI_ne100 (by omega)) c0)
        refine E_iload dX12_movesBack_87 rfl ?_
        refine E_istore dX12_movesBack_89 (Nat.le_of_ble_eq_true rfl) (by decide) rfl ?_
        refine E_iload dX12_movesBack_91 rfl ?_
        refine E_if_ne (tgt := 121) dX12_movesBack_93 (by decide) (fun c0 => absurd c0 (by decide)) (fun _ => ?_)
        refine E_aload_n dX12_movesBack_96 rfl ?_
        refine E_getRL dX12_movesBack_97 kF_X12_81 kY_12 (Or.inr ⟨_, rfl⟩) (l_128 hL) (k_128 hL) (r_128_28 hL) ?_
        refine E_iload dX12_movesBack_100 rfl ?_
        refine E_ialdL (v := nI (yO (gat _ _))) dX12_movesBack_102 (l_151 hL) (k_151 hL) rfl (by first | omega | exact h.n256 _) (by decide) (h.at (by omega)).2.2.2.2.2.2 ?_
        refine E_callS1 (fr' := 2) (k1 := 0) (n1 := 0) (k2 := 0) (n2 := 0) dX12_movesBack_103 kO_X12_isConsonant kL_X12_252 rfl (by decide) (by decide) (by exact Nat.le_of_ble_eq_true rfl) (Or.inl rfl) rfl ?_
        refine sp_X12_isConsonantN (by first | omega | exact Nat.lt_trans (h.wf.tx _).1 (by decide) | exact Nat.lt_trans (h.ok.at _).1 (by decide)) ?_
        refine gKv ?_
        refine E_if_ne_b (tgt := 121) dX12_movesBack_106 (by decide) (fun c_106 => ?_) (fun c_106 => ?_)
        · refine E_iconst (v := nI 1) dX12_movesBack_121 (by decide) ?_
          refine E_goto (tgt := 126) dX12_movesBack_122 (by decide) ?_
          refine E_istore dX12_movesBack_126 (Nat.le_of_ble_eq_true rfl) (by decide) rfl ?_
          refine E_iinc_d dX12_movesBack_128 rfl rfl (by decide) rfl ?_
          refine E_goto (tgt := 52) dX12_movesBack_131 (by decide) ?_
          first
            | exact fin _ _ (g1 (by omega)) f2
            | exact fin _ _ (g2 (by omega)) f2
        · refine E_aload_n dX12_movesBack_109 rfl ?_
          refine E_getRL dX12_movesBack_110 kF_X12_81 kY_12 (Or.inr ⟨_, rfl⟩) (l_128 hL) (k_128 hL) (r_128_28 hL) ?_
          refine E_iload dX12_movesBack_113 rfl ?_
          refine E_ialdL (v := nI (yO (gat _ _))) dX12_movesBack_115 (l_151 hL) (k_151 hL) rfl (by first | omega | exact h.n256 _) (by decide) (h.at (by omega)).2.2.2.2.2.2 ?_
          refine E_bipush (v := nI 64) dX12_movesBack_116 (by decide) ?_
          refine E_icmp_ne_n (tgt := 125) dX12_movesBack_118 (by decide) (by omega) (by omega) (fun c_118 => ?_) (fun c_118 => ?_)
          · refine E_iconst (v := nI 0) dX12_movesBack_125 (by decide) ?_
            refine E_istore dX12_movesBack_126 (Nat.le_of_ble_eq_true rfl) (by decide) rfl ?_
            refine E_iinc_d dX12_movesBack_128 rfl rfl (by decide) rfl ?_
            refine E_goto (tgt := 52) dX12_movesBack_131 (by decide) ?_
            first
              | exact fin _ _ (g1 (by omega)) f2
              | exact fin _ _ (g2 (by omega)) f2
          · refine E_iconst (v := nI 1) dX12_movesBack_121 (by decide) ?_
            refine E_goto (tgt := 126) dX12_movesBack_122 (by decide) ?_
            refine E_istore dX12_movesBack_126 (Nat.le_of_ble_eq_true rfl) (by decide) rfl ?_
            refine E_iinc_d dX12_movesBack_128 rfl rfl (by decide) rfl ?_
            refine E_goto (tgt := 52) dX12_movesBack_131 (by decide) ?_
            first
              | exact fin _ _ (g1 (by omega)) f2
              | exact fin _ _ (g2 (by omega)) f2
      · rw [cI_f hy] at hv
        subst hv
        have f2 : (-100 : Int32) = cI (k < kil L i) (nI (kil L i - 1)) (-100) := (cI_f (fun z => hx (hP.mp (hk2 (by omega))).2)).symm
        refine E_iload dX12_movesBack_58 rfl ?_
        refine E_bipush (v := -100) dX12_movesBack_60 (by decide) ?_
        refine E_icmp_ne_r (tgt := 87) dX12_movesBack_62 (by decide) (fun c0 => absurd c0 (by decide)) (fun _ => ?_)
        refine E_aload_n dX12_movesBack_65 rfl ?_
        refine E_getRL dX12_movesBack_66 kF_X12_63 kY_12 (Or.inr ⟨_, rfl⟩) (l_128 hL) (k_128 hL) (r_128_22 hL) ?_
        refine E_iload dX12_movesBack_69 rfl ?_
        refine E_ialdL (v := nI (yN (gat _ _))) dX12_movesBack_71 (l_145 hL) (k_145 hL) rfl (by first | omega | exact h.n256 _) (by decide) (h.at (by omega)).1 ?_
        refine E_bipush (v := nI 39) dX12_movesBack_72 (by decide) ?_
        refine E_icmp_ne_n (tgt := 87) dX12_movesBack_74 (by decide) (by omega) (by omega) (fun c_74 => ?_) (fun c_74 => ?_)
        · refine E_iload dX12_movesBack_87 rfl ?_
          refine E_istore dX12_movesBack_89 (Nat.le_of_ble_eq_true rfl) (by decide) rfl ?_
          refine E_iload dX12_movesBack_91 rfl ?_
          refine E_if_ne (tgt := 121) dX12_movesBack_93 (by decide) (fun c0 => absurd c0 (by decide)) (fun _ => ?_)
          refine E_aload_n dX12_movesBack_96 rfl ?_
          refine E_getRL dX12_movesBack_97 kF_X12_81 kY_12 (Or.inr ⟨_, rfl⟩) (l_128 hL) (k_128 hL) (r_128_28 hL) ?_
          refine E_iload dX12_movesBack_100 rfl ?_
          refine E_ialdL (v := nI (yO (gat _ _))) dX12_movesBack_102 (l_151 hL) (k_151 hL) rfl (by first | omega | exact h.n256 _) (by decide) (h.at (by omega)).2.2.2.2.2.2 ?_
          refine E_callS1 (fr' := 2) (k1 := 0) (n1 := 0) (k2 := 0) (n2 := 0) dX12_movesBack_103 kO_X12_isConsonant kL_X12_252 rfl (by decide) (by decide) (by exact Nat.le_of_ble_eq_true rfl) (Or.inl rfl) rfl ?_
          refine sp_X12_isConsonantN (by first | omega | exact Nat.lt_trans (h.wf.tx _).1 (by decide) | exact Nat.lt_trans (h.ok.at _).1 (by decide)) ?_
          refine gKv ?_
          refine E_if_ne_b (tgt := 121) dX12_movesBack_106 (by decide) (fun c_106 => ?_) (fun c_106 => ?_)
          · refine E_iconst (v := nI 1) dX12_movesBack_121 (by decide) ?_
            refine E_goto (tgt := 126) dX12_movesBack_122 (by decide) ?_
            refine E_istore dX12_movesBack_126 (Nat.le_of_ble_eq_true rfl) (by decide) rfl ?_
            refine E_iinc_d dX12_movesBack_128 rfl rfl (by decide) rfl ?_
            refine E_goto (tgt := 52) dX12_movesBack_131 (by decide) ?_
            first
              | exact fin _ _ (g1 (by omega)) f2
              | exact fin _ _ (g2 (by omega)) f2
          · refine E_aload_n dX12_movesBack_109 rfl ?_
            refine E_getRL dX12_movesBack_110 kF_X12_81 kY_12 (Or.inr ⟨_, rfl⟩) (l_128 hL) (k_128 hL) (r_128_28 hL) ?_
            refine E_iload dX12_movesBack_113 rfl ?_
            refine E_ialdL (v := nI (yO (gat _ _))) dX12_movesBack_115 (l_151 hL) (k_151 hL) rfl (by first | omega | exact h.n256 _) (by decide) (h.at (by omega)).2.2.2.2.2.2 ?_
            refine E_bipush (v := nI 64) dX12_movesBack_116 (by decide) ?_
            refine E_icmp_ne_n (tgt := 125) dX12_movesBack_118 (by decide) (by omega) (by omega) (fun c_118 => ?_) (fun c_118 => ?_)
            · refine E_iconst (v := nI 0) dX12_movesBack_125 (by decide) ?_
              refine E_istore dX12_movesBack_126 (Nat.le_of_ble_eq_true rfl) (by decide) rfl ?_
              refine E_iinc_d dX12_movesBack_128 rfl rfl (by decide) rfl ?_
              refine E_goto (tgt := 52) dX12_movesBack_131 (by decide) ?_
              first
                | exact fin _ _ (g1 (by omega)) f2
                | exact fin _ _ (g2 (by omega)) f2
            · refine E_iconst (v := nI 1) dX12_movesBack_121 (by decide) ?_
              refine E_goto (tgt := 126) dX12_movesBack_122 (by decide) ?_
              refine E_istore dX12_movesBack_126 (Nat.le_of_ble_eq_true rfl) (by decide) rfl ?_
              refine E_iinc_d dX12_movesBack_128 rfl rfl (by decide) rfl ?_
              refine E_goto (tgt := 52) dX12_movesBack_131 (by decide) ?_
              first
                | exact fin _ _ (g1 (by omega)) f2
                | exact fin _ _ (g2 (by omega)) f2
        · refine E_iload dX12_movesBack_77 rfl ?_
          refine E_if_eq (tgt := 87) dX12_movesBack_79 (by decide) (fun _ => ?_) (fun c0 => absurd (by decide) c0)
          refine E_iload dX12_movesBack_87 rfl ?_
          refine E_istore dX12_movesBack_89 (Nat.le_of_ble_eq_true rfl) (by decide) rfl ?_
          refine E_iload dX12_movesBack_91 rfl ?_
          refine E_if_ne (tgt := 121) dX12_movesBack_93 (by decide) (fun c0 => absurd c0 (by decide)) (fun _ => ?_)
          refine E_aload_n dX12_movesBack_96 rfl ?_
          refine E_getRL dX12_movesBack_97 kF_X12_81 kY_12 (Or.inr ⟨_, rfl⟩) (l_128 hL) (k_128 hL) (r_128_28 hL) ?_
          refine E_iload dX12_movesBack_100 rfl ?_
          refine E_ialdL (v := nI (yO (gat _ _))) dX12_movesBack_102 (l_151 hL) (k_151 hL) rfl (by first | omega | exact h.n256 _) (by decide) (h.at (by omega)).2.2.2.2.2.2 ?_
          refine E_callS1 (fr' := 2) (k1 := 0) (n1 := 0) (k2 := 0) (n2 := 0) dX12_movesBack_103 kO_X12_isConsonant kL_X12_252 rfl (by decide) (by decide) (by exact Nat.le_of_ble_eq_true rfl) (Or.inl rfl) rfl ?_
          refine sp_X12_isConsonantN (by first | omega | exact Nat.lt_trans (h.wf.tx _).1 (by decide) | exact Nat.lt_trans (h.ok.at _).1 (by decide)) ?_
          refine gKv ?_
          refine E_if_ne_b (tgt := 121) dX12_movesBack_106 (by decide) (fun c_106 => ?_) (fun c_106 => ?_)
          · refine E_iconst (v := nI 1) dX12_movesBack_121 (by decide) ?_
            refine E_goto (tgt := 126) dX12_movesBack_122 (by decide) ?_
            refine E_istore dX12_movesBack_126 (Nat.le_of_ble_eq_true rfl) (by decide) rfl ?_
            refine E_iinc_d dX12_movesBack_128 rfl rfl (by decide) rfl ?_
            refine E_goto (tgt := 52) dX12_movesBack_131 (by decide) ?_
            first
              | exact fin _ _ (g1 (by omega)) f2
              | exact fin _ _ (g2 (by omega)) f2
          · refine E_aload_n dX12_movesBack_109 rfl ?_
            refine E_getRL dX12_movesBack_110 kF_X12_81 kY_12 (Or.inr ⟨_, rfl⟩) (l_128 hL) (k_128 hL) (r_128_28 hL) ?_
            refine E_iload dX12_movesBack_113 rfl ?_
            refine E_ialdL (v := nI (yO (gat _ _))) dX12_movesBack_115 (l_151 hL) (k_151 hL) rfl (by first | omega | exact h.n256 _) (by decide) (h.at (by omega)).2.2.2.2.2.2 ?_
            refine E_bipush (v := nI 64) dX12_movesBack_116 (by decide) ?_
            refine E_icmp_ne_n (tgt := 125) dX12_movesBack_118 (by decide) (by omega) (by omega) (fun c_118 => ?_) (fun c_118 => ?_)
            · refine E_iconst (v := nI 0) dX12_movesBack_125 (by decide) ?_
              refine E_istore dX12_movesBack_126 (Nat.le_of_ble_eq_true rfl) (by decide) rfl ?_
              refine E_iinc_d dX12_movesBack_128 rfl rfl (by decide) rfl ?_
              refine E_goto (tgt := 52) dX12_movesBack_131 (by decide) ?_
              first
                | exact fin _ _ (g1 (by omega)) f2
                | exact fin _ _ (g2 (by omega)) f2
            · refine E_iconst (v := nI 1) dX12_movesBack_121 (by decide) ?_
              refine E_goto (tgt := 126) dX12_movesBack_122 (by decide) ?_
              refine E_istore dX12_movesBack_126 (Nat.le_of_ble_eq_true rfl) (by decide) rfl ?_
              refine E_iinc_d dX12_movesBack_128 rfl rfl (by decide) rfl ?_
              refine E_goto (tgt := 52) dX12_movesBack_131 (by decide) ?_
              first
                | exact fin _ _ (g1 (by omega)) f2
                | exact fin _ _ (g2 (by omega)) f2
set_option maxRecDepth 100000 in
set_option maxHeartbeats 4000000 in
theorem lp2_X12_movesBack {g : gG} {M : gM} {Q : Option Value ⊕ String → gM → Prop} {c : Cf} {f : Nat} {M0 : gM} {L : List Gl} {w : Int32} (h : mX c f M0 L w M) {i : Nat} (hi : i < L.length) (K : ∀ v4 v5 v6, E g 3 0 0 mX12_movesBack 40 [.ref 129, .int (nI i), .int (nI (bcl L i)), .int (nI (led L i)), v4, v5, v6] [] M Q) : ∀ k, k ≤ bcl L i → i ≤ k → fnd (fun k => ¬ yO (gat L k) = 40) (bcl L i) k = led L i → ∀ v4 v5 v6, E g 3 0 0 mX12_movesBack 18 [.ref 129, .int (nI i), .int (nI (bcl L i)), .int (nI k), v4, v5, v6] [] M Q := by
  have hL := h.lay
  have hf := h.hf
  have hn := h.len
  have hb := bcl_b hi
  refine lpUp (bcl L i) (fun k hk ih => ?_)
  intro hik he v4 v5 v6
  have ox := (h.ok.at k).2.2.2
  refine E_iload_n dX12_movesBack_18 rfl ?_
  refine E_iload_n dX12_movesBack_19 rfl ?_
  refine E_icmp_ge_n (tgt := 40) dX12_movesBack_20 (by decide) (by omega) (by omega) (fun c_20 => ?_) (fun c_20 => ?_)
  · have e : led L i = k := by
      rw [← he]; first | exact fnd_end (by omega) | exact fnd_hit (by omega) (by assumption)
    rw [← e]; exact K _ _ _
  · refine E_aload_n dX12_movesBack_23 rfl ?_
    refine E_getRL dX12_movesBack_24 kF_X12_81 kY_12 (Or.inr ⟨_, rfl⟩) (l_128 hL) (k_128 hL) (r_128_28 hL) ?_
    refine E_iload_n dX12_movesBack_27 rfl ?_
    refine E_ialdL (v := nI (yO (gat _ _))) dX12_movesBack_28 (l_151 hL) (k_151 hL) rfl (by first | omega | exact h.n256 _) (by decide) (h.at (by omega)).2.2.2.2.2.2 ?_
    refine E_bipush (v := nI 40) dX12_movesBack_29 (by decide) ?_
    refine E_icmp_ne_n (tgt := 40) dX12_movesBack_31 (by decide) (by omega) (by omega) (fun c_31 => ?_) (fun c_31 => ?_)
    · have e : led L i = k := by
        rw [← he]; first | exact fnd_end (by omega) | exact fnd_hit (by omega) (by assumption)
      rw [← e]; exact K _ _ _
    · refine E_iinc_n (d := 1) dX12_movesBack_34 rfl rfl rfl (by decide) rfl ?_
      refine E_goto (tgt := 18) dX12_movesBack_37 (by decide) ?_
      exact ih (by omega) (by omega) (by rw [← he]; exact (fnd_skip (by omega) (not_not_intro (by assumption))).symm) _ _ _
set_option maxRecDepth 100000 in
set_option maxHeartbeats 4000000 in
theorem st_X12_movesBack {g : gG} {M : gM} {Q : Option Value ⊕ String → gM → Prop} {c : Cf} {f : Nat} {M0 : gM} {L : List Gl} {w : Int32} (h : mX c f M0 L w M) {i : Nat} (hi : i < L.length) (K : ∀ M v2 v3 v4 v5 v6, mX c f M0 (mvL L i) w M → E g 3 0 0 mX12_movesBack 2 [.ref 129, .int (nI (bcl L i)), v2, v3, v4, v5, v6] [] M Q) : ∀ v2 v3 v4 v5 v6, E g 3 0 0 mX12_movesBack 10 [.ref 129, .int (nI i), v2, v3, v4, v5, v6] [] M Q := by
  intro v2 v3 v4 v5 v6
  have hL := h.lay
  have hf := h.hf
  have hn := h.len
  have hb := bcl_b hi
  have hl := led_b hi
  have hkb := kil_b hi
  have fin : ∀ M v4 v5 v6, mX c f M0 (mvL L i) w M → E g 3 0 0 mX12_movesBack 151 [.ref 129, .int (nI i), .int (nI (bcl L i)), .int (nI (led L i)), v4, v5, v6] [] M Q := by
    intro M v4 v5 v6 h
    have hL := h.lay
    have hml := mvL_len L i
    refine E_aload_n dX12_movesBack_151 rfl ?_
    refine E_iload_n dX12_movesBack_152 rfl ?_
    refine E_callV1 (fr' := 1) (k1 := 0) (n1 := 0) (k2 := 0) (n2 := 0) dX12_movesBack_153 kO_X12_behindCluster kL_X12_359 (l_128 hL) (k_128 hL) ⟨by decide, rfl⟩ rfl (by decide) (by decide) (by exact Nat.le_of_ble_eq_true rfl) rfl ?_
    refine sp_X12_behindCluster h (by omega) ?_
    rw [bcl_mv hi]
    refine gKv ?_
    refine E_istore_n dX12_movesBack_156 (Nat.le_of_ble_eq_true rfl) (by decide) rfl ?_
    refine E_goto (tgt := 2) dX12_movesBack_157 (by decide) ?_
    exact K _ _ _ _ _ _ h
  refine E_aload_n dX12_movesBack_10 rfl ?_
  refine E_iload_n dX12_movesBack_11 rfl ?_
  refine E_callV1 (fr' := 1) (k1 := 0) (n1 := 0) (k2 := 0) (n2 := 0) dX12_movesBack_12 kO_X12_behindCluster kL_X12_359 (l_128 hL) (k_128 hL) ⟨by decide, rfl⟩ rfl (by decide) (by decide) (by exact Nat.le_of_ble_eq_true rfl) rfl ?_
  refine sp_X12_behindCluster h (by omega) ?_
  refine gKv ?_
  refine E_istore_n dX12_movesBack_15 (Nat.le_of_ble_eq_true rfl) (by decide) rfl ?_
  refine E_iload_n dX12_movesBack_16 rfl ?_
  refine E_istore_n dX12_movesBack_17 (Nat.le_of_ble_eq_true rfl) (by decide) rfl ?_
  refine lp2_X12_movesBack h hi (fun v4 v5 v6 => ?_) i (by omega) (Nat.le_refl _) rfl _ _ _
  refine E_iconst (v := nI 0) dX12_movesBack_40 (by decide) ?_
  refine E_istore dX12_movesBack_41 (Nat.le_of_ble_eq_true rfl) (by decide) rfl ?_
  refine E_bipush (v := -100) dX12_movesBack_43 (by decide) ?_
  refine E_istore dX12_movesBack_45 (Nat.le_of_ble_eq_true rfl) (by decide) rfl ?_
  refine E_iload_n dX12_movesBack_47 rfl ?_
  refine E_iconst (v := nI 1) dX12_movesBack_48 (by decide) ?_
  refine E_isub_d dX12_movesBack_49 ?_
  refine E_istore dX12_movesBack_50 (Nat.le_of_ble_eq_true rfl) (by decide) rfl ?_
  refine lp_X12_movesBack h hi (fun v v6 hv v4 => ?_) (bcl L i) hl.2 (Nat.le_refl _) 0 (-100) (cI_f (fun ⟨j, q1, q2, _⟩ => by omega)).symm (cI_f (by omega)).symm
  by_cases e : kil L i = 0
  · rw [cI_f (by omega)] at hv
    subst hv
    refine E_iload dX12_movesBack_134 rfl ?_
    refine E_bipush (v := -100) dX12_movesBack_136 (by decide) ?_
    refine E_icmp_eq (tgt := 151) dX12_movesBack_138 (by decide) (fun _ => ?_) (fun c0 => absurd (by decide) c0)
    exact fin _ _ _ _ (by unfold mvL; rw [cI_t e]; exact h)
  · rw [cI_t (by omega)] at hv
    subst hv
    have hkl := hkb.2 (by omega)
    refine E_iload dX12_movesBack_134 rfl ?_
    refine E_bipush (v := -100) dX12_movesBack_136 (by decide) ?_
    refine E_icmp_eq (tgt := 151) dX12_movesBack_138 (by decide) (fun c0 => absurd c0 (nI_ne100 (by omega))) (fun _ => ?_)
    refine E_aload_n dX12_movesBack_141 rfl ?_
    refine E_iload_n dX12_movesBack_142 rfl ?_
    refine E_iload_n dX12_movesBack_143 rfl ?_
    refine E_iload dX12_movesBack_144 rfl ?_
    refine E_iconst (v := nI 1) dX12_movesBack_146 (by decide) ?_
    refine E_iadd_n dX12_movesBack_147 ?_
    refine E_callV3 (fr' := 2) (k1 := 0) (n1 := 0) (k2 := 0) (n2 := 0) dX12_movesBack_148 kO_X12_turns kL_X12_266 (l_128 hL) (k_128 hL) ⟨by decide, rfl⟩ rfl rfl rfl (by decide) (by decide) (by exact Nat.le_of_ble_eq_true rfl) rfl ?_
    rw [show kil L i - 1 + 1 = kil L i by omega]
    refine sp_X12_turns h (by omega) (by omega) (by omega) (fun M h => ?_)
    have hL := h.lay
    refine gKn ?_
    exact fin _ _ _ _ (by unfold mvL; rw [cI_f e]; exact h)
set_option maxRecDepth 100000 in
set_option maxHeartbeats 4000000 in
theorem lp0_X12_movesBack {g : gG} {Q : Option Value ⊕ String → gM → Prop} {c : Cf} {f : Nat} {M0 : gM} {w : Int32} : ∀ t i (L : List Gl) M, mX c f M0 L w M → L.length - i ≤ t → i ≤ L.length → (K : ∀ M, mX c f M0 (mvs t i L) w M → Q (.inl none) M) → ∀ v2 v3 v4 v5 v6, E g 3 0 0 mX12_movesBack 2 [.ref 129, .int (nI i), v2, v3, v4, v5, v6] [] M Q := by
  intro t
  induction t with
  | zero =>
    intro i L M h ht hi K v2 v3 v4 v5 v6
    have hL := h.lay
    have hf := h.hf
    have hn := h.len
    refine E_iload_n dX12_movesBack_2 rfl ?_
    refine E_aload_n dX12_movesBack_3 rfl ?_
    refine E_getIL (v := nI _) dX12_movesBack_4 kF_X12_235 kY_12 (Or.inl rfl) (l_128 hL) (k_128 hL) h.gn ?_
    refine E_icmp_ge_n (tgt := 160) dX12_movesBack_7 (by decide) (by omega) (by omega) (fun c_7 => ?_) (fun c_7 => ?_)
    · refine E_vret dX12_movesBack_160 rfl ?_
      exact K _ h
    · exfalso; omega
  | succ t ih =>
    intro i L M h ht hi K v2 v3 v4 v5 v6
    have K : ∀ M, mX c f M0 (cI (i < L.length) (mvs t (bcl L i) (mvL L i)) L) w M → Q (.inl none) M := K
    have hL := h.lay
    have hf := h.hf
    have hn := h.len
    refine E_iload_n dX12_movesBack_2 rfl ?_
    refine E_aload_n dX12_movesBack_3 rfl ?_
    refine E_getIL (v := nI _) dX12_movesBack_4 kF_X12_235 kY_12 (Or.inl rfl) (l_128 hL) (k_128 hL) h.gn ?_
    refine E_icmp_ge_n (tgt := 160) dX12_movesBack_7 (by decide) (by omega) (by omega) (fun c_7 => ?_) (fun c_7 => ?_)
    · refine E_vret dX12_movesBack_160 rfl ?_
      rw [cI_f (by omega)] at K
      exact K _ h
    · rw [cI_t (by omega)] at K
      have hb := bcl_b (show i < L.length by omega)
      have hml := mvL_len L i
      exact st_X12_movesBack h (by omega) (fun M v2 v3 v4 v5 v6 h => ih _ _ _ h (by omega) (by omega) K _ _ _ _ _) _ _ _ _ _
set_option maxRecDepth 100000 in
set_option maxHeartbeats 4000000 in
theorem sp_X12_movesBack {g : gG} {M : gM} {Q : Option Value ⊕ String → gM → Prop} {c : Cf} {f : Nat} {M0 : gM} {L : List Gl} {w : Int32} (h : mX c f M0 L w M) (K : ∀ M, mX c f M0 (mvs 64 0 L) w M → Q (.inl none) M) : E g 3 0 0 mX12_movesBack 0 [.ref 129, .null, .null, .null, .null, .null, .null] [] M Q := by
  have hL := h.lay
  have hf := h.hf
  have hn := h.len
  refine E_iconst (v := nI 0) dX12_movesBack_0 (by decide) ?_
  refine E_istore_n dX12_movesBack_1 (Nat.le_of_ble_eq_true rfl) (by decide) rfl ?_
  exact lp0_X12_movesBack 64 0 L M h (by omega) (Nat.zero_le _) K _ _ _ _ _
noncomputable def tko : Nat → List Gl → List Gl
  | 0, L => L
  | k + 1, L => tko k (cI (yN (gat L k) = 2 ∨ yN (gat L k) = 3) (closeL L k) L)
set_option maxRecDepth 100000 in
set_option maxHeartbeats 4000000 in
theorem lp_X12_takesOut {g : gG} {Q : Option Value ⊕ String → gM → Prop} {c : Cf} {f : Nat} {M0 : gM} {w : Int32} : ∀ k, 0 ≤ k → ∀ (L : List Gl) M, mX c f M0 L w M → k ≤ L.length → (K : ∀ M, mX c f M0 (tko k L) w M → Q (.inl none) M) → E g 3 0 0 mX12_takesOut 7 [.ref 129, .int (dI k)] [] M Q := by
  refine lpDn 0 (fun k _ ih => ?_)
  intro L M h hk K
  have hL := h.lay
  have hf := h.hf
  have hn := h.len
  refine E_iload_n dX12_takesOut_7 rfl ?_
  refine E_if_lt_d (tgt := 42) dX12_takesOut_8 (by decide) (by omega) (fun c_8 => ?_) (fun c_8 => ?_)
  · refine E_vret dX12_takesOut_42 rfl ?_
    subst c_8; exact K _ h
  · obtain ⟨k, rfl⟩ : ∃ z, k = z + 1 := ⟨k - 1, by omega⟩
    rw [dI_succ]
    have gx := (h.ok.at k).1
    have K : ∀ M, mX c f M0 (tko k (cI (yN (gat L k) = 2 ∨ yN (gat L k) = 3) (closeL L k) L)) w M → Q (.inl none) M := K
    refine E_aload_n dX12_takesOut_11 rfl ?_
    refine E_getRL dX12_takesOut_12 kF_X12_63 kY_12 (Or.inr ⟨_, rfl⟩) (l_128 hL) (k_128 hL) (r_128_22 hL) ?_
    refine E_iload_n dX12_takesOut_15 rfl ?_
    refine E_ialdL (v := nI (yN (gat _ _))) dX12_takesOut_16 (l_145 hL) (k_145 hL) rfl (by first | omega | exact h.n256 _) (by decide) (h.at (by omega)).1 ?_
    refine E_iconst (v := nI 2) dX12_takesOut_17 (by decide) ?_
    refine E_icmp_eq_n (tgt := 31) dX12_takesOut_18 (by decide) (by omega) (by omega) (fun c_18 => ?_) (fun c_18 => ?_)
    · refine E_aload_n dX12_takesOut_31 rfl ?_
      refine E_iload_n dX12_takesOut_32 rfl ?_
      refine E_callV1 (fr' := 2) (k1 := 0) (n1 := 0) (k2 := 0) (n2 := 0) dX12_takesOut_33 kO_X12_closes kL_X12_262 (l_128 hL) (k_128 hL) ⟨by decide, rfl⟩ rfl (by decide) (by decide) (by exact Nat.le_of_ble_eq_true rfl) rfl ?_
      refine sp_X12_closes h (by omega) (fun M h => ?_)
      have hL := h.lay
      have hn := h.len
      refine gKn ?_
      refine E_iinc_d dX12_takesOut_36 rfl rfl (by decide) rfl ?_
      refine E_goto (tgt := 7) dX12_takesOut_39 (by decide) ?_
      first
        | (rw [cI_t (by omega)] at K; exact ih (by omega) _ _ h (by first | omega | (rw [cl_len]; omega)) K)
        | (rw [cI_f (by omega)] at K; exact ih (by omega) _ _ h (by first | omega | (rw [cl_len]; omega)) K)
    · refine E_aload_n dX12_takesOut_21 rfl ?_
      refine E_getRL dX12_takesOut_22 kF_X12_63 kY_12 (Or.inr ⟨_, rfl⟩) (l_128 hL) (k_128 hL) (r_128_22 hL) ?_
      refine E_iload_n dX12_takesOut_25 rfl ?_
      refine E_ialdL (v := nI (yN (gat _ _))) dX12_takesOut_26 (l_145 hL) (k_145 hL) rfl (by first | omega | exact h.n256 _) (by decide) (h.at (by omega)).1 ?_
      refine E_iconst (v := nI 3) dX12_takesOut_27 (by decide) ?_
      refine E_icmp_ne_n (tgt := 36) dX12_takesOut_28 (by decide) (by omega) (by omega) (fun c_28 => ?_) (fun c_28 => ?_)
      · refine E_iinc_d dX12_takesOut_36 rfl rfl (by decide) rfl ?_
        refine E_goto (tgt := 7) dX12_takesOut_39 (by decide) ?_
        first
          | (rw [cI_t (by omega)] at K; exact ih (by omega) _ _ h (by first | omega | (rw [cl_len]; omega)) K)
          | (rw [cI_f (by omega)] at K; exact ih (by omega) _ _ h (by first | omega | (rw [cl_len]; omega)) K)
      · refine E_aload_n dX12_takesOut_31 rfl ?_
        refine E_iload_n dX12_takesOut_32 rfl ?_
        refine E_callV1 (fr' := 2) (k1 := 0) (n1 := 0) (k2 := 0) (n2 := 0) dX12_takesOut_33 kO_X12_closes kL_X12_262 (l_128 hL) (k_128 hL) ⟨by decide, rfl⟩ rfl (by decide) (by decide) (by exact Nat.le_of_ble_eq_true rfl) rfl ?_
        refine sp_X12_closes h (by omega) (fun M h => ?_)
        have hL := h.lay
        have hn := h.len
        refine gKn ?_
        refine E_iinc_d dX12_takesOut_36 rfl rfl (by decide) rfl ?_
        refine E_goto (tgt := 7) dX12_takesOut_39 (by decide) ?_
        first
          | (rw [cI_t (by omega)] at K; exact ih (by omega) _ _ h (by first | omega | (rw [cl_len]; omega)) K)
          | (rw [cI_f (by omega)] at K; exact ih (by omega) _ _ h (by first | omega | (rw [cl_len]; omega)) K)
set_option maxRecDepth 100000 in
set_option maxHeartbeats 4000000 in
theorem sp_X12_takesOut {g : gG} {M : gM} {Q : Option Value ⊕ String → gM → Prop} {c : Cf} {f : Nat} {M0 : gM} {L : List Gl} {w : Int32} (h : mX c f M0 L w M) (K : ∀ M, mX c f M0 (tko L.length L) w M → Q (.inl none) M) : E g 3 0 0 mX12_takesOut 0 [.ref 129, .null] [] M Q := by
  have hL := h.lay
  have hf := h.hf
  have hn := h.len
  refine E_aload_n dX12_takesOut_0 rfl ?_
  refine E_getIL (v := nI _) dX12_takesOut_1 kF_X12_235 kY_12 (Or.inl rfl) (l_128 hL) (k_128 hL) h.gn ?_
  refine E_iconst (v := nI 1) dX12_takesOut_4 (by decide) ?_
  refine E_isub_d dX12_takesOut_5 ?_
  refine E_istore_n dX12_takesOut_6 (Nat.le_of_ble_eq_true rfl) (by decide) rfl ?_
  exact lp_X12_takesOut L.length (Nat.zero_le _) L M h (Nat.le_refl _) K
