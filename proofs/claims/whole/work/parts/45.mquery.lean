/-! the reference: what is asked -/
noncomputable abbrev tn (c : Cf) (j : Nat) : Nat := rn c 0 (tl c) j
noncomputable abbrev tg (c : Cf) (j : Nat) : Nat := gS c 0 (tl c) j
noncomputable abbrev tL (c : Cf) (j : Nat) : List Gl := rL c 0 (tl c) j
noncomputable abbrev tB (c : Cf) (j : Nat) : Pl := rB c 0 (tl c) j
noncomputable abbrev tS (c : Cf) (j : Nat) : Int32 := lS c 0 (tl c) j
noncomputable abbrev tr (c : Cf) : Nat := nr c 0 (tl c)
noncomputable abbrev ng (c : Cf) : Nat := tg c (tr c)
def qR (a j : Nat) : Prop := (a = 128 ∧ ¬ j = 1 ∧ ¬ j = 14 ∧ ¬ j = 17) ∨ (143 ≤ a ∧ a ≤ 177)
theorem qR_c (a j : Nat) (h : qR a j) : ¬ cfA a j ∧ ¬ a = 136 := by unfold qR at h; unfold cfA; omega
theorem shR_q {R0 G0 : Nat} (a j : Nat) (h : shR R0 G0 a j) : qR a j := by unfold shR rowR at h; unfold qR; omega
def qS (c : Cf) (M : gM) : Prop := bS c M ∧ shA c M
theorem qS.b {c : Cf} {M : gM} (h : qS c M) : bS c M := h.1
theorem qS.lay {c : Cf} {M : gM} (h : qS c M) : gLay M := h.1.lay
theorem qS.wf {c : Cf} {M : gM} (h : qS c M) : WFc c := h.1.wf
theorem qS.gc {c : Cf} {M : gM} (h : qS c M) {a j : Nat} (q : cfA a j) : mI M a j = nI (cN c a j) := h.1.gc q
theorem qS.gr {c : Cf} {M : gM} (h : qS c M) (j : Nat) : mI M 136 j = cR c j := h.1.gr j
theorem qS.g36 {c : Cf} {M : gM} (h : qS c M) : mI M 128 36 = nI (ng c) := h.2.1.2.2.1.trans (by rw [Nat.zero_add])
theorem qS.g45 {c : Cf} {M : gM} (h : qS c M) : mI M 128 45 = nI (tr c) := h.2.1.2.1.trans (by rw [Nat.zero_add])
theorem qS.rf {c : Cf} {M : gM} (h : qS c M) {j : Nat} (hj : j ≤ tr c) : mI M 166 j = nI (tn c j) := by have := (h.2.2.1 j hj).1; rwa [Nat.zero_add] at this
theorem qS.rg {c : Cf} {M : gM} (h : qS c M) {j : Nat} (hj : j ≤ tr c) : mI M 167 j = nI (tg c j) := by have := (h.2.2.1 j hj).2.1; rwa [Nat.zero_add, Nat.zero_add] at this
theorem qS.rl {c : Cf} {M : gM} (h : qS c M) {j : Nat} (hj : j ≤ tr c) : mI M 168 j = tS c j := by have := (h.2.2.1 j hj).2.2; rwa [Nat.zero_add] at this
theorem qS.sc {c : Cf} {M : gM} (h : qS c M) {k : Nat} (hk : k < tl c) : mI M 143 k = nI (scr c 0 (tl c) k) := (h.2.2.2 k (Nat.zero_le _) hk).1
theorem qS.fc {c : Cf} {M : gM} (h : qS c M) {k : Nat} (hk : k < tl c) : mI M 144 k = nI (fcO c k) := (h.2.2.2 k (Nat.zero_le _) hk).2
theorem qS.ok {c : Cf} {M : gM} (h : qS c M) {j : Nat} (hj : j < tr c) : okL (tL c j) := (h.2.1.2.2.2.2 j hj).1
theorem qS.o {c : Cf} {M : gM} (h : qS c M) {j : Nat} (hj : j < tr c) {q p : Nat} (hq : q < 8) (hp : p < (tL c j).length) : mI M (158 + q) (tg c j + p) = og (tg c j) (tL c j) (tB c j) q p := by
  have := (h.2.1.2.2.2.2 j hj).2 q p hq hp
  rwa [Nat.zero_add] at this
theorem qS.t16 {c : Cf} {M : gM} (h : qS c M) : tl c ≤ 16 := h.wf.tl
theorem qS.nr16 {c : Cf} {M : gM} (h : qS c M) : tr c ≤ 16 := by have : tr c ≤ tl c - 0 := (nr_b (c := c) (Nat.zero_le (tl c)) h.t16).1; have := h.t16; omega
theorem qS.tn16 {c : Cf} {M : gM} (h : qS c M) {j : Nat} (hj : j ≤ tr c) : tn c j ≤ tl c := (rn_b (c := c) (Nat.zero_le (tl c)) j hj).2.1
theorem tg_s (c : Cf) (j : Nat) : tg c (j + 1) = tg c j + (tL c j).length := rfl
theorem tg_m (c : Cf) {j i : Nat} (h : j < i) : tg c (j + 1) ≤ tg c i := by rw [tg_s]; exact gS_m i h
theorem qS.g1024 {c : Cf} {M : gM} (h : qS c M) : ng c ≤ 1024 := by have := h.nr16; have : tg c (tr c) ≤ 64 * tr c := h.2.1.1; show tg c (tr c) ≤ 1024; omega
theorem qS.fr {c : Cf} {M M' : gM} {S : Nat → Nat → Prop} (h : qS c M) (hf : fr S M M') (hs : ∀ a j, S a j → 169 ≤ a ∧ a ≤ 177 ∨ (a = 128 ∧ j = 0)) : qS c M' := by
  have e : ∀ a j, (a < 128 ∨ (129 ≤ a ∧ a ≤ 168) ∨ (a = 128 ∧ ¬ j = 0)) → mI M' a j = mI M a j := fun a j q => hf.bk (fun z => by have := hs a j z; omega)
  refine ⟨h.1.fr hf (fun a j q => by have := hs a j q; unfold cfA; omega), ?_, fun j hj => (h.2.2.1 j hj).mv (fun p _ _ => e _ _ (by omega)), h.2.2.2.mv (fun j => e _ _ (by omega)) (fun j => e _ _ (by omega))⟩
  obtain ⟨a1, a2, a3, a4, a5⟩ := h.2.1
  exact ⟨a1, (e _ _ (by omega)).trans a2, (e _ _ (by omega)).trans a3, fun j hj => (a4 j hj).mv (fun p _ _ => e _ _ (by omega)), fun j hj => ⟨(a5 j hj).1, (a5 j hj).2.mv (fun q p _ _ _ => e _ _ (by omega))⟩⟩
/-- the run of a place, of a glyph -/
noncomputable def ru (c : Cf) (p : Nat) : Nat := fnd (fun j => p < tn c (j + 1)) (tr c) 0
noncomputable def tj (c : Cf) (P : Nat) : Nat := fnd (fun j => P < tg c (j + 1)) (tr c) 0
theorem ru_b {c : Cf} (hw : WFc c) {p : Nat} (hp : p < tl c) : ru c p < tr c ∧ tn c (ru c p) ≤ p ∧ p < tn c (ru c p + 1) := by
  obtain ⟨-, h2, h3, h4⟩ := fnd_spec (P := fun j => p < tn c (j + 1)) (Nat.zero_le (tr c))
  have hb := nr_b (c := c) (Nat.zero_le (tl c)) hw.tl
  have h0 : 0 < tr c := Nat.pos_of_ne_zero (fun q => by
    have : rn c 0 (tl c) (nr c 0 (tl c)) = tl c := hb.2
    have q : nr c 0 (tl c) = 0 := q
    rw [q] at this
    have : (0 : Nat) = tl c := this
    omega)
  have hlt : ru c p < tr c := by
    refine Nat.lt_of_le_of_ne h2 (fun q => ?_)
    have h5 := h4 (tr c - 1) (Nat.zero_le _) (by show tr c - 1 < ru c p; rw [q]; omega)
    refine h5 ?_
    show p < rn c 0 (tl c) (tr c - 1 + 1)
    rw [Nat.sub_add_cancel h0]
    show p < rn c 0 (tl c) (nr c 0 (tl c))
    rw [hb.2]; exact hp
  refine ⟨hlt, ?_, h3 hlt⟩
  by_cases e : ru c p = 0
  · rw [e]; exact Nat.zero_le _
  · have h5 := h4 (ru c p - 1) (Nat.zero_le _) (by show ru c p - 1 < ru c p; omega)
    have h5 : ¬ p < tn c (ru c p - 1 + 1) := h5
    rw [Nat.sub_add_cancel (Nat.pos_of_ne_zero e)] at h5
    omega
theorem tj_b {c : Cf} {P : Nat} (hp : P < ng c) : tj c P < tr c ∧ tg c (tj c P) ≤ P ∧ P < tg c (tj c P + 1) := by
  obtain ⟨-, h2, h3, h4⟩ := fnd_spec (P := fun j => P < tg c (j + 1)) (Nat.zero_le (tr c))
  have h0 : 0 < tr c := Nat.pos_of_ne_zero (fun q => by
    unfold ng at hp
    rw [q] at hp
    exact absurd hp (Nat.not_lt_zero _))
  have hlt : tj c P < tr c := by
    refine Nat.lt_of_le_of_ne h2 (fun q => ?_)
    have h5 := h4 (tr c - 1) (Nat.zero_le _) (by show tr c - 1 < tj c P; rw [q]; omega)
    refine h5 ?_
    show P < tg c (tr c - 1 + 1)
    rw [Nat.sub_add_cancel h0]; exact hp
  refine ⟨hlt, ?_, h3 hlt⟩
  by_cases e : tj c P = 0
  · rw [e]; exact Nat.zero_le _
  · have h5 := h4 (tj c P - 1) (Nat.zero_le _) (by show tj c P - 1 < tj c P; omega)
    have h5 : ¬ P < tg c (tj c P - 1 + 1) := h5
    rw [Nat.sub_add_cancel (Nat.pos_of_ne_zero e)] at h5
    omega
noncomputable def pgv (c : Cf) (q P : Nat) : Int32 := og (tg c (tj c P)) (tL c (tj c P)) (tB c (tj c P)) q (P - tg c (tj c P))
theorem qS.pg {c : Cf} {M : gM} (h : qS c M) {q P : Nat} (hq : q < 8) (hp : P < ng c) : mI M (158 + q) P = pgv c q P := by
  obtain ⟨h1, h2, h3⟩ := tj_b hp
  rw [tg_s] at h3
  have := h.o h1 hq (p := P - tg c (tj c P)) (by omega)
  rwa [Nat.add_sub_cancel' h2] at this
set_option maxRecDepth 100000 in
set_option maxHeartbeats 4000000 in
theorem lp_X12_runOf {g : gG} {M : gM} {Q : Option Value ⊕ String → gM → Prop} {c : Cf} (h : qS c M) {p : Nat} (hp : p < tl c) (K : Q (.inl (some (.int (nI (ru c p))))) M) : ∀ k, k ≤ ru c p → E g 1 0 0 mX12_runOf 2 [.ref 129, .int (nI p), .int (nI k)] [] M Q := by
  have hL := h.lay
  have h16 := h.t16
  have hn := h.nr16
  obtain ⟨b1, b2, b3⟩ := ru_b h.wf hp
  obtain ⟨-, -, -, b4⟩ := fnd_spec (P := fun j => p < tn c (j + 1)) (Nat.zero_le (tr c))
  refine lpUp (ru c p) (fun k hk ih => ?_)
  have b5 : k < ru c p → ¬ p < tn c (k + 1) := fun q => b4 k (Nat.zero_le _) q
  have b6 := h.tn16 (show k + 1 ≤ tr c by omega)
  refine E_aload_n dX12_runOf_2 rfl ?_
  refine E_getRL dX12_runOf_3 kF_X12_126 kY_12 (Or.inr ⟨_, rfl⟩) (l_128 hL) (k_128 hL) (r_128_46 hL) ?_
  refine E_iload_n dX12_runOf_6 rfl ?_
  refine E_iconst (v := nI 1) dX12_runOf_7 (by decide) ?_
  refine E_iadd_n dX12_runOf_8 ?_
  refine E_ialdL (v := _) dX12_runOf_9 (l_166 hL) (k_166 hL) rfl (by omega) (by decide) (h.rf (by omega)) ?_
  refine E_iload_n dX12_runOf_10 rfl ?_
  refine E_icmp_gt_n (tgt := 20) dX12_runOf_11 (by decide) (by omega) (by omega) (fun c_11 => ?_) (fun c_11 => ?_)
  · obtain rfl : k = ru c p := Classical.byContradiction (fun q => b5 (by omega) (by omega))
    refine E_iload_n dX12_runOf_20 rfl ?_
    refine E_iret dX12_runOf_21 (Or.inl rfl) ?_
    exact K
  · refine E_iinc_n (d := 1) dX12_runOf_14 rfl rfl rfl (by decide) rfl ?_
    refine E_goto (tgt := 2) dX12_runOf_17 (by decide) ?_
    exact ih (Nat.lt_of_le_of_ne hk (fun q => by subst q; omega))
set_option maxRecDepth 100000 in
set_option maxHeartbeats 4000000 in
theorem sp_X12_runOf {g : gG} {M : gM} {Q : Option Value ⊕ String → gM → Prop} {c : Cf} (h : qS c M) {p : Nat} (hp : p < tl c) (K : Q (.inl (some (.int (nI (ru c p))))) M) : E g 1 0 0 mX12_runOf 0 [.ref 129, .int (nI p), .null] [] M Q := by
  have hL := h.lay
  have h16 := h.t16
  refine E_iconst (v := nI 0) dX12_runOf_0 (by decide) ?_
  refine E_istore_n dX12_runOf_1 (Nat.le_of_ble_eq_true rfl) (by decide) rfl ?_
  exact lp_X12_runOf h hp K 0 (Nat.zero_le _)
noncomputable def clE (L : List Gl) (p : Nat) : Nat → Nat
  | 0 => 0
  | k + 1 => cI (yC (gat L k) ≤ p ∧ clE L p k ≤ yC (gat L k)) (yC (gat L k) + 1) (clE L p k)
noncomputable def clV (e : Nat) : Int32 := cI (e = 0) (-100) (nI (e - 1))
noncomputable def clO (c : Cf) (r p : Nat) : Nat := clE (tL c r) p (tL c r).length
theorem clE_b (L : List Gl) (p : Nat) : ∀ k, clE L p k ≤ p + 1
  | 0 => Nat.zero_le _
  | k + 1 => by
    have ih := clE_b L p k
    show cI _ _ _ ≤ _
    by_cases e : yC (gat L k) ≤ p ∧ clE L p k ≤ yC (gat L k)
    · rw [cI_t e]; omega
    · rw [cI_f e]; exact ih
theorem og1 (G : Nat) (L : List Gl) (B : Pl) (j : Nat) : og G L B 1 j = nI (yC (gat L j)) := rfl
theorem og2 (G : Nat) (L : List Gl) (B : Pl) (j : Nat) : og G L B 2 j = B 0 j := rfl
theorem qS.oc {c : Cf} {M : gM} (h : qS c M) {j : Nat} (hj : j < tr c) {p : Nat} (hp : p < (tL c j).length) : mI M 159 (tg c j + p) = nI (yC (gat (tL c j) p)) := h.o hj (q := 1) (by decide) hp
theorem qS.oa {c : Cf} {M : gM} (h : qS c M) {j : Nat} (hj : j < tr c) {p : Nat} (hp : p < (tL c j).length) : mI M 160 (tg c j + p) = tB c j 0 p := h.o hj (q := 2) (by decide) hp
theorem nI_nle100 {a : Nat} (h : a < 2 ^ 31) : ¬ nI a ≤ -100 := fun q => by
  rw [Int32.le_iff_toInt_le, nI_toInt h] at q
  have e : (-100 : Int32).toInt = -100 := by decide
  omega
set_option maxRecDepth 100000 in
set_option maxHeartbeats 4000000 in
theorem lp_X12_clusterOf {g : gG} {M : gM} {Q : Option Value ⊕ String → gM → Prop} {c : Cf} (h : qS c M) {r p : Nat} (hr : r < tr c) (hp : p < 16) (K : Q (.inl (some (.int (clV (clO c r p))))) M) : ∀ k, k ≤ (tL c r).length → ∀ v, v = clV (clE (tL c r) p k) → E g 1 0 0 mX12_clusterOf 11 [.ref 129, .int (nI r), .int (nI p), .int v, .int (nI (tg c r + k))] [] M Q := by
  have hL := h.lay
  have h16 := h.t16
  have hn := h.nr16
  have hg : tg c (tr c) ≤ 1024 := h.g1024
  have hok := h.ok hr
  have hs := tg_s c r
  have hm := tg_m c hr
  refine lpUp (tL c r).length (fun k hk ih => ?_)
  intro v hv
  have hy := (hok.at k).2.1
  have hb := clE_b (tL c r) p k
  have go : k < (tL c r).length → ∀ v', v' = clV (cI (yC (gat (tL c r) k) ≤ p ∧ clE (tL c r) p k ≤ yC (gat (tL c r) k)) (yC (gat (tL c r) k) + 1) (clE (tL c r) p k)) → E g 1 0 0 mX12_clusterOf 11 [.ref 129, .int (nI r), .int (nI p), .int v', .int (nI (tg c r + k + 1))] [] M Q := fun q v' e => ih q v' e
  unfold clV at hv
  by_cases e : clE (tL c r) p k = 0
  · rw [cI_t e] at hv
    subst hv
    refine E_iload dX12_clusterOf_11 rfl ?_
    refine E_aload_n dX12_clusterOf_13 rfl ?_
    refine E_getRL dX12_clusterOf_14 kF_X12_129 kY_12 (Or.inr ⟨_, rfl⟩) (l_128 hL) (k_128 hL) (r_128_47 hL) ?_
    refine E_iload_n dX12_clusterOf_17 rfl ?_
    refine E_iconst (v := nI 1) dX12_clusterOf_18 (by decide) ?_
    refine E_iadd_n dX12_clusterOf_19 ?_
    refine E_ialdL (v := _) dX12_clusterOf_20 (l_167 hL) (k_167 hL) rfl (by omega) (by decide) (h.rg (by omega)) ?_
    refine E_icmp_ge_n (tgt := 64) dX12_clusterOf_21 (by decide) (by omega) (by omega) (fun c_21 => ?_) (fun c_21 => ?_)
    · refine E_iload_n dX12_clusterOf_64 rfl ?_
      refine E_iret dX12_clusterOf_65 (Or.inl rfl) ?_
      obtain rfl : k = (tL c r).length := by omega
      have e : clO c r p = 0 := e
      unfold clV at K
      rw [cI_t e] at K
      exact K
    · refine E_aload_n dX12_clusterOf_24 rfl ?_
      refine E_getRL dX12_clusterOf_25 kF_X12_105 kY_12 (Or.inr ⟨_, rfl⟩) (l_128 hL) (k_128 hL) (r_128_38 hL) ?_
      refine E_iload dX12_clusterOf_28 rfl ?_
      refine E_ialdL (v := nI (yC (gat (tL c r) k))) dX12_clusterOf_30 (l_159 hL) (k_159 hL) rfl (by omega) (by decide) (h.oc hr (by omega)) ?_
      refine E_iload_n dX12_clusterOf_31 rfl ?_
      refine E_icmp_gt_n (tgt := 56) dX12_clusterOf_32 (by decide) (by omega) (by omega) (fun c_32 => ?_) (fun c_32 => ?_)
      · refine E_iload_n dX12_clusterOf_56 rfl ?_
        refine E_istore_n dX12_clusterOf_57 (Nat.le_of_ble_eq_true rfl) (by decide) rfl ?_
        refine E_iinc_n (d := 1) dX12_clusterOf_58 rfl rfl rfl (by decide) rfl ?_
        refine E_goto (tgt := 11) dX12_clusterOf_61 (by decide) ?_
        refine go (by omega) _ ?_
        unfold clV
        first
          | (rw [cI_t (show yC (gat (tL c r) k) ≤ p ∧ clE (tL c r) p k ≤ yC (gat (tL c r) k) by omega), cI_f (by omega), Nat.add_sub_cancel])
          | (rw [cI_f (show ¬ (yC (gat (tL c r) k) ≤ p ∧ clE (tL c r) p k ≤ yC (gat (tL c r) k)) by omega), cI_t e])
      · refine E_aload_n dX12_clusterOf_35 rfl ?_
        refine E_getRL dX12_clusterOf_36 kF_X12_105 kY_12 (Or.inr ⟨_, rfl⟩) (l_128 hL) (k_128 hL) (r_128_38 hL) ?_
        refine E_iload dX12_clusterOf_39 rfl ?_
        refine E_ialdL (v := nI (yC (gat (tL c r) k))) dX12_clusterOf_41 (l_159 hL) (k_159 hL) rfl (by omega) (by decide) (h.oc hr (by omega)) ?_
        refine E_iload_n dX12_clusterOf_42 rfl ?_
        refine E_icmp_le (tgt := 56) dX12_clusterOf_43 (by decide) (fun q => absurd q (nI_nle100 (by omega))) (fun _ => ?_)
        refine E_aload_n dX12_clusterOf_46 rfl ?_
        refine E_getRL dX12_clusterOf_47 kF_X12_105 kY_12 (Or.inr ⟨_, rfl⟩) (l_128 hL) (k_128 hL) (r_128_38 hL) ?_
        refine E_iload dX12_clusterOf_50 rfl ?_
        refine E_ialdL (v := nI (yC (gat (tL c r) k))) dX12_clusterOf_52 (l_159 hL) (k_159 hL) rfl (by omega) (by decide) (h.oc hr (by omega)) ?_
        refine E_goto (tgt := 57) dX12_clusterOf_53 (by decide) ?_
        refine E_istore_n dX12_clusterOf_57 (Nat.le_of_ble_eq_true rfl) (by decide) rfl ?_
        refine E_iinc_n (d := 1) dX12_clusterOf_58 rfl rfl rfl (by decide) rfl ?_
        refine E_goto (tgt := 11) dX12_clusterOf_61 (by decide) ?_
        refine go (by omega) _ ?_
        unfold clV
        rw [cI_t (show yC (gat (tL c r) k) ≤ p ∧ clE (tL c r) p k ≤ yC (gat (tL c r) k) by omega), cI_f (by omega), Nat.add_sub_cancel]
  · rw [cI_f e] at hv
    subst hv
    refine E_iload dX12_clusterOf_11 rfl ?_
    refine E_aload_n dX12_clusterOf_13 rfl ?_
    refine E_getRL dX12_clusterOf_14 kF_X12_129 kY_12 (Or.inr ⟨_, rfl⟩) (l_128 hL) (k_128 hL) (r_128_47 hL) ?_
    refine E_iload_n dX12_clusterOf_17 rfl ?_
    refine E_iconst (v := nI 1) dX12_clusterOf_18 (by decide) ?_
    refine E_iadd_n dX12_clusterOf_19 ?_
    refine E_ialdL (v := _) dX12_clusterOf_20 (l_167 hL) (k_167 hL) rfl (by omega) (by decide) (h.rg (by omega)) ?_
    refine E_icmp_ge_n (tgt := 64) dX12_clusterOf_21 (by decide) (by omega) (by omega) (fun c_21 => ?_) (fun c_21 => ?_)
    · refine E_iload_n dX12_clusterOf_64 rfl ?_
      refine E_iret dX12_clusterOf_65 (Or.inl rfl) ?_
      obtain rfl : k = (tL c r).length := by omega
      unfold clV clO at K
      rw [cI_f e] at K
      exact K
    · refine E_aload_n dX12_clusterOf_24 rfl ?_
      refine E_getRL dX12_clusterOf_25 kF_X12_105 kY_12 (Or.inr ⟨_, rfl⟩) (l_128 hL) (k_128 hL) (r_128_38 hL) ?_
      refine E_iload dX12_clusterOf_28 rfl ?_
      refine E_ialdL (v := nI (yC (gat (tL c r) k))) dX12_clusterOf_30 (l_159 hL) (k_159 hL) rfl (by omega) (by decide) (h.oc hr (by omega)) ?_
      refine E_iload_n dX12_clusterOf_31 rfl ?_
      refine E_icmp_gt_n (tgt := 56) dX12_clusterOf_32 (by decide) (by omega) (by omega) (fun c_32 => ?_) (fun c_32 => ?_)
      · refine E_iload_n dX12_clusterOf_56 rfl ?_
        refine E_istore_n dX12_clusterOf_57 (Nat.le_of_ble_eq_true rfl) (by decide) rfl ?_
        refine E_iinc_n (d := 1) dX12_clusterOf_58 rfl rfl rfl (by decide) rfl ?_
        refine E_goto (tgt := 11) dX12_clusterOf_61 (by decide) ?_
        refine go (by omega) _ ?_
        unfold clV
        first
          | (rw [cI_t (show yC (gat (tL c r) k) ≤ p ∧ clE (tL c r) p k ≤ yC (gat (tL c r) k) by omega), cI_f (by omega), Nat.add_sub_cancel])
          | (rw [cI_f (show ¬ (yC (gat (tL c r) k) ≤ p ∧ clE (tL c r) p k ≤ yC (gat (tL c r) k)) by omega), cI_f e])
      · refine E_aload_n dX12_clusterOf_35 rfl ?_
        refine E_getRL dX12_clusterOf_36 kF_X12_105 kY_12 (Or.inr ⟨_, rfl⟩) (l_128 hL) (k_128 hL) (r_128_38 hL) ?_
        refine E_iload dX12_clusterOf_39 rfl ?_
        refine E_ialdL (v := nI (yC (gat (tL c r) k))) dX12_clusterOf_41 (l_159 hL) (k_159 hL) rfl (by omega) (by decide) (h.oc hr (by omega)) ?_
        refine E_iload_n dX12_clusterOf_42 rfl ?_
        refine E_icmp_le_n (tgt := 56) dX12_clusterOf_43 (by decide) (by omega) (by omega) (fun c_43 => ?_) (fun c_43 => ?_)
        · refine E_iload_n dX12_clusterOf_56 rfl ?_
          refine E_istore_n dX12_clusterOf_57 (Nat.le_of_ble_eq_true rfl) (by decide) rfl ?_
          refine E_iinc_n (d := 1) dX12_clusterOf_58 rfl rfl rfl (by decide) rfl ?_
          refine E_goto (tgt := 11) dX12_clusterOf_61 (by decide) ?_
          refine go (by omega) _ ?_
          unfold clV
          first
            | (rw [cI_t (show yC (gat (tL c r) k) ≤ p ∧ clE (tL c r) p k ≤ yC (gat (tL c r) k) by omega), cI_f (by omega), Nat.add_sub_cancel])
            | (rw [cI_f (show ¬ (yC (gat (tL c r) k) ≤ p ∧ clE (tL c r) p k ≤ yC (gat (tL c r) k)) by omega), cI_f e])
        · refine E_aload_n dX12_clusterOf_46 rfl ?_
          refine E_getRL dX12_clusterOf_47 kF_X12_105 kY_12 (Or.inr ⟨_, rfl⟩) (l_128 hL) (k_128 hL) (r_128_38 hL) ?_
          refine E_iload dX12_clusterOf_50 rfl ?_
          refine E_ialdL (v := nI (yC (gat (tL c r) k))) dX12_clusterOf_52 (l_159 hL) (k_159 hL) rfl (by omega) (by decide) (h.oc hr (by omega)) ?_
          refine E_goto (tgt := 57) dX12_clusterOf_53 (by decide) ?_
          refine E_istore_n dX12_clusterOf_57 (Nat.le_of_ble_eq_true rfl) (by decide) rfl ?_
          refine E_iinc_n (d := 1) dX12_clusterOf_58 rfl rfl rfl (by decide) rfl ?_
          refine E_goto (tgt := 11) dX12_clusterOf_61 (by decide) ?_
          refine go (by omega) _ ?_
          unfold clV
          first
            | (rw [cI_t (show yC (gat (tL c r) k) ≤ p ∧ clE (tL c r) p k ≤ yC (gat (tL c r) k) by omega), cI_f (by omega), Nat.add_sub_cancel])
            | (rw [cI_f (show ¬ (yC (gat (tL c r) k) ≤ p ∧ clE (tL c r) p k ≤ yC (gat (tL c r) k)) by omega), cI_f e])
set_option maxRecDepth 100000 in
set_option maxHeartbeats 4000000 in
theorem sp_X12_clusterOf {g : gG} {M : gM} {Q : Option Value ⊕ String → gM → Prop} {c : Cf} (h : qS c M) {r p : Nat} (hr : r < tr c) (hp : p < 16) (K : Q (.inl (some (.int (clV (clO c r p))))) M) : E g 1 0 0 mX12_clusterOf 0 [.ref 129, .int (nI r), .int (nI p), .null, .null] [] M Q := by
  have hL := h.lay
  have h16 := h.t16
  have hn := h.nr16
  have hg : tg c (tr c) ≤ 1024 := h.g1024
  have hok := h.ok hr
  have hs := tg_s c r
  have hm := tg_m c hr
  refine E_bipush (v := -100) dX12_clusterOf_0 (by decide) ?_
  refine E_istore_n dX12_clusterOf_2 (Nat.le_of_ble_eq_true rfl) (by decide) rfl ?_
  refine E_aload_n dX12_clusterOf_3 rfl ?_
  refine E_getRL dX12_clusterOf_4 kF_X12_129 kY_12 (Or.inr ⟨_, rfl⟩) (l_128 hL) (k_128 hL) (r_128_47 hL) ?_
  refine E_iload_n dX12_clusterOf_7 rfl ?_
  refine E_ialdL (v := _) dX12_clusterOf_8 (l_167 hL) (k_167 hL) rfl (by omega) (by decide) (h.rg (by omega)) ?_
  refine E_istore dX12_clusterOf_9 (Nat.le_of_ble_eq_true rfl) (by decide) rfl ?_
  exact lp_X12_clusterOf h hr hp K 0 (Nat.zero_le _) (-100) (cI_t rfl).symm
noncomputable def eoE (L : List Gl) (its e : Nat) : Nat → Nat
  | 0 => e
  | k + 1 => cI (its < yC (gat L k) ∧ yC (gat L k) < eoE L its e k) (yC (gat L k)) (eoE L its e k)
noncomputable def eoC (c : Cf) (r its : Nat) : Nat := eoE (tL c r) its (tn c (r + 1)) (tL c r).length
theorem eoE_b (L : List Gl) (its e : Nat) (h : its < e) : ∀ k, its < eoE L its e k ∧ eoE L its e k ≤ e
  | 0 => ⟨h, Nat.le_refl _⟩
  | k + 1 => by
    have ih := eoE_b L its e h k
    show its < cI _ _ _ ∧ cI _ _ _ ≤ e
    by_cases q : its < yC (gat L k) ∧ yC (gat L k) < eoE L its e k
    · rw [cI_t q]; omega
    · rw [cI_f q]; exact ih
theorem eoE_le (L : List Gl) (its e : Nat) : ∀ k, eoE L its e k ≤ e
  | 0 => Nat.le_refl _
  | k + 1 => by
    have ih := eoE_le L its e k
    show cI _ _ _ ≤ e
    by_cases q : its < yC (gat L k) ∧ yC (gat L k) < eoE L its e k
    · rw [cI_t q]; omega
    · rw [cI_f q]; exact ih
set_option maxRecDepth 100000 in
set_option maxHeartbeats 4000000 in
theorem lp_X12_endOfCluster {g : gG} {M : gM} {Q : Option Value ⊕ String → gM → Prop} {c : Cf} (h : qS c M) {r its : Nat} (hr : r < tr c) (hi : its < 16) (K : Q (.inl (some (.int (nI (eoC c r its))))) M) : ∀ k, k ≤ (tL c r).length → ∀ v, v = eoE (tL c r) its (tn c (r + 1)) k → E g 1 0 0 mX12_endOfCluster 17 [.ref 129, .int (nI r), .int (nI its), .int (nI v), .int (nI (tg c r + k))] [] M Q := by
  have hL := h.lay
  have h16 := h.t16
  have hn := h.nr16
  have hg : tg c (tr c) ≤ 1024 := h.g1024
  have hok := h.ok hr
  have hs := tg_s c r
  have hm := tg_m c hr
  have ht := h.tn16 (show r + 1 ≤ tr c by omega)
  refine lpUp (tL c r).length (fun k hk ih => ?_)
  intro v hv
  have hy := (hok.at k).2.1
  have hb := eoE_le (tL c r) its (tn c (r + 1)) k
  have go : k < (tL c r).length → ∀ v', v' = cI (its < yC (gat (tL c r) k) ∧ yC (gat (tL c r) k) < eoE (tL c r) its (tn c (r + 1)) k) (yC (gat (tL c r) k)) (eoE (tL c r) its (tn c (r + 1)) k) → E g 1 0 0 mX12_endOfCluster 17 [.ref 129, .int (nI r), .int (nI its), .int (nI v'), .int (nI (tg c r + k + 1))] [] M Q := fun q v' e => ih q v' e
  refine E_iload dX12_endOfCluster_17 rfl ?_
  refine E_aload_n dX12_endOfCluster_19 rfl ?_
  refine E_getRL dX12_endOfCluster_20 kF_X12_129 kY_12 (Or.inr ⟨_, rfl⟩) (l_128 hL) (k_128 hL) (r_128_47 hL) ?_
  refine E_iload_n dX12_endOfCluster_23 rfl ?_
  refine E_iconst (v := nI 1) dX12_endOfCluster_24 (by decide) ?_
  refine E_iadd_n dX12_endOfCluster_25 ?_
  refine E_ialdL (v := _) dX12_endOfCluster_26 (l_167 hL) (k_167 hL) rfl (by omega) (by decide) (h.rg (by omega)) ?_
  refine E_icmp_ge_n (tgt := 70) dX12_endOfCluster_27 (by decide) (by omega) (by omega) (fun c_27 => ?_) (fun c_27 => ?_)
  · refine E_iload_n dX12_endOfCluster_70 rfl ?_
    refine E_iret dX12_endOfCluster_71 (Or.inl rfl) ?_
    obtain rfl : k = (tL c r).length := by omega
    subst hv
    exact K
  · refine E_aload_n dX12_endOfCluster_30 rfl ?_
    refine E_getRL dX12_endOfCluster_31 kF_X12_105 kY_12 (Or.inr ⟨_, rfl⟩) (l_128 hL) (k_128 hL) (r_128_38 hL) ?_
    refine E_iload dX12_endOfCluster_34 rfl ?_
    refine E_ialdL (v := nI (yC (gat (tL c r) k))) dX12_endOfCluster_36 (l_159 hL) (k_159 hL) rfl (by omega) (by decide) (h.oc hr (by omega)) ?_
    refine E_iload_n dX12_endOfCluster_37 rfl ?_
    refine E_icmp_le_n (tgt := 62) dX12_endOfCluster_38 (by decide) (by omega) (by omega) (fun c_38 => ?_) (fun c_38 => ?_)
    · refine E_iload_n dX12_endOfCluster_62 rfl ?_
      refine E_istore_n dX12_endOfCluster_63 (Nat.le_of_ble_eq_true rfl) (by decide) rfl ?_
      refine E_iinc_n (d := 1) dX12_endOfCluster_64 rfl rfl rfl (by decide) rfl ?_
      refine E_goto (tgt := 17) dX12_endOfCluster_67 (by decide) ?_
      refine go (by omega) _ ?_
      first
        | exact (cI_t (by omega)).symm
        | (rw [cI_f (show ¬ (its < yC (gat (tL c r) k) ∧ yC (gat (tL c r) k) < eoE (tL c r) its (tn c (r + 1)) k) by omega)]; exact hv)
    · refine E_aload_n dX12_endOfCluster_41 rfl ?_
      refine E_getRL dX12_endOfCluster_42 kF_X12_105 kY_12 (Or.inr ⟨_, rfl⟩) (l_128 hL) (k_128 hL) (r_128_38 hL) ?_
      refine E_iload dX12_endOfCluster_45 rfl ?_
      refine E_ialdL (v := nI (yC (gat (tL c r) k))) dX12_endOfCluster_47 (l_159 hL) (k_159 hL) rfl (by omega) (by decide) (h.oc hr (by omega)) ?_
      refine E_iload_n dX12_endOfCluster_48 rfl ?_
      refine E_icmp_ge_n (tgt := 62) dX12_endOfCluster_49 (by decide) (by omega) (by omega) (fun c_49 => ?_) (fun c_49 => ?_)
      · refine E_iload_n dX12_endOfCluster_62 rfl ?_
        refine E_istore_n dX12_endOfCluster_63 (Nat.le_of_ble_eq_true rfl) (by decide) rfl ?_
        refine E_iinc_n (d := 1) dX12_endOfCluster_64 rfl rfl rfl (by decide) rfl ?_
        refine E_goto (tgt := 17) dX12_endOfCluster_67 (by decide) ?_
        refine go (by omega) _ ?_
        first
          | exact (cI_t (by omega)).symm
          | (rw [cI_f (show ¬ (its < yC (gat (tL c r) k) ∧ yC (gat (tL c r) k) < eoE (tL c r) its (tn c (r + 1)) k) by omega)]; exact hv)
      · refine E_aload_n dX12_endOfCluster_52 rfl ?_
        refine E_getRL dX12_endOfCluster_53 kF_X12_105 kY_12 (Or.inr ⟨_, rfl⟩) (l_128 hL) (k_128 hL) (r_128_38 hL) ?_
        refine E_iload dX12_endOfCluster_56 rfl ?_
        refine E_ialdL (v := nI (yC (gat (tL c r) k))) dX12_endOfCluster_58 (l_159 hL) (k_159 hL) rfl (by omega) (by decide) (h.oc hr (by omega)) ?_
        refine E_goto (tgt := 63) dX12_endOfCluster_59 (by decide) ?_
        refine E_istore_n dX12_endOfCluster_63 (Nat.le_of_ble_eq_true rfl) (by decide) rfl ?_
        refine E_iinc_n (d := 1) dX12_endOfCluster_64 rfl rfl rfl (by decide) rfl ?_
        refine E_goto (tgt := 17) dX12_endOfCluster_67 (by decide) ?_
        refine go (by omega) _ ?_
        first
          | exact (cI_t (by omega)).symm
          | (rw [cI_f (show ¬ (its < yC (gat (tL c r) k) ∧ yC (gat (tL c r) k) < eoE (tL c r) its (tn c (r + 1)) k) by omega)]; exact hv)
set_option maxRecDepth 100000 in
set_option maxHeartbeats 4000000 in
theorem sp_X12_endOfCluster {g : gG} {M : gM} {Q : Option Value ⊕ String → gM → Prop} {c : Cf} (h : qS c M) {r its : Nat} (hr : r < tr c) (hi : its < 16) (K : Q (.inl (some (.int (nI (eoC c r its))))) M) : E g 1 0 0 mX12_endOfCluster 0 [.ref 129, .int (nI r), .int (nI its), .null, .null] [] M Q := by
  have hL := h.lay
  have h16 := h.t16
  have hn := h.nr16
  have hg : tg c (tr c) ≤ 1024 := h.g1024
  have hok := h.ok hr
  have hs := tg_s c r
  have hm := tg_m c hr
  refine E_aload_n dX12_endOfCluster_0 rfl ?_
  refine E_getRL dX12_endOfCluster_1 kF_X12_126 kY_12 (Or.inr ⟨_, rfl⟩) (l_128 hL) (k_128 hL) (r_128_46 hL) ?_
  refine E_iload_n dX12_endOfCluster_4 rfl ?_
  refine E_iconst (v := nI 1) dX12_endOfCluster_5 (by decide) ?_
  refine E_iadd_n dX12_endOfCluster_6 ?_
  refine E_ialdL (v := _) dX12_endOfCluster_7 (l_166 hL) (k_166 hL) rfl (by omega) (by decide) (h.rf (by omega)) ?_
  refine E_istore_n dX12_endOfCluster_8 (Nat.le_of_ble_eq_true rfl) (by decide) rfl ?_
  refine E_aload_n dX12_endOfCluster_9 rfl ?_
  refine E_getRL dX12_endOfCluster_10 kF_X12_129 kY_12 (Or.inr ⟨_, rfl⟩) (l_128 hL) (k_128 hL) (r_128_47 hL) ?_
  refine E_iload_n dX12_endOfCluster_13 rfl ?_
  refine E_ialdL (v := _) dX12_endOfCluster_14 (l_167 hL) (k_167 hL) rfl (by omega) (by decide) (h.rg (by omega)) ?_
  refine E_istore dX12_endOfCluster_15 (Nat.le_of_ble_eq_true rfl) (by decide) rfl ?_
  exact lp_X12_endOfCluster h hr hi K 0 (Nat.zero_le _) _ rfl
noncomputable def adE (L : List Gl) (B : Pl) (P : Nat → Prop) : Nat → Int32
  | 0 => nI 0
  | k + 1 => adE L B P k + cI (P (yC (gat L k))) (B 0 k) (nI 0)
noncomputable def adL (c : Cf) (r its : Nat) : Int32 := adE (tL c r) (tB c r) (fun y => y < its) (tL c r).length
noncomputable def adQ (c : Cf) (r its : Nat) : Int32 := adE (tL c r) (tB c r) (fun y => y = its) (tL c r).length
set_option maxRecDepth 100000 in
set_option maxHeartbeats 4000000 in
theorem lp_X12_advancesL {g : gG} {M : gM} {Q : Option Value ⊕ String → gM → Prop} {c : Cf} (h : qS c M) {r its : Nat} (hr : r < tr c) (hi : its < 16) (K : Q (.inl (some (.int (adL c r its)))) M) : ∀ k, k ≤ (tL c r).length → ∀ v, v = adE (tL c r) (tB c r) (fun y => y < its) k → E g 1 0 0 mX12_advances 11 [.ref 129, .int (nI r), .int (nI its), .int (nI 1), .int v, .int (nI (tg c r + k))] [] M Q := by
  have hL := h.lay
  have h16 := h.t16
  have hn := h.nr16
  have hg : tg c (tr c) ≤ 1024 := h.g1024
  have hok := h.ok hr
  have hs := tg_s c r
  have hm := tg_m c hr
  refine lpUp (tL c r).length (fun k hk ih => ?_)
  intro v hv
  have hy := (hok.at k).2.1
  refine E_iload dX12_advances_11 rfl ?_
  refine E_aload_n dX12_advances_13 rfl ?_
  refine E_getRL dX12_advances_14 kF_X12_129 kY_12 (Or.inr ⟨_, rfl⟩) (l_128 hL) (k_128 hL) (r_128_47 hL) ?_
  refine E_iload_n dX12_advances_17 rfl ?_
  refine E_iconst (v := nI 1) dX12_advances_18 (by decide) ?_
  refine E_iadd_n dX12_advances_19 ?_
  refine E_ialdL (v := _) dX12_advances_20 (l_167 hL) (k_167 hL) rfl (by omega) (by decide) (h.rg (by omega)) ?_
  refine E_icmp_ge_n (tgt := 75) dX12_advances_21 (by decide) (by omega) (by omega) (fun c_21 => ?_) (fun c_21 => ?_)
  · refine E_iload dX12_advances_75 rfl ?_
    refine E_iret dX12_advances_77 (Or.inl rfl) ?_
    obtain rfl : k = (tL c r).length := by omega
    subst hv
    exact K
  · refine E_iload dX12_advances_24 rfl ?_
    refine E_iload_n dX12_advances_26 rfl ?_
    refine E_if_eq (tgt := 44) dX12_advances_27 (by decide) (fun c0 => absurd c0 (by decide)) (fun _ => ?_)
    refine E_aload_n dX12_advances_30 rfl ?_
    refine E_getRL dX12_advances_31 kF_X12_105 kY_12 (Or.inr ⟨_, rfl⟩) (l_128 hL) (k_128 hL) (r_128_38 hL) ?_
    refine E_iload dX12_advances_34 rfl ?_
    refine E_ialdL (v := nI (yC (gat (tL c r) k))) dX12_advances_36 (l_159 hL) (k_159 hL) rfl (by omega) (by decide) (h.oc hr (by omega)) ?_
    refine E_iload_n dX12_advances_37 rfl ?_
    refine E_icmp_ge_n (tgt := 65) dX12_advances_38 (by decide) (by omega) (by omega) (fun c_38 => ?_) (fun c_38 => ?_)
    · refine E_iconst (v := nI 0) dX12_advances_65 (by decide) ?_
      refine E_iadd dX12_advances_66 ?_
      refine E_istore dX12_advances_67 (Nat.le_of_ble_eq_true rfl) (by decide) rfl ?_
      refine E_iinc_n (d := 1) dX12_advances_69 rfl rfl rfl (by decide) rfl ?_
      refine E_goto (tgt := 11) dX12_advances_72 (by decide) ?_
      refine ih (by omega) _ ?_
      show _ = adE (tL c r) (tB c r) (fun y => y < its) k + cI ((fun y => y < its) (yC (gat (tL c r) k))) (tB c r 0 k) (nI 0)
      rw [hv]
      first
        | rw [cI_t (show (fun y => y < its) (yC (gat (tL c r) k)) from by assumption)]
        | rw [cI_f (show ¬ (fun y => y < its) (yC (gat (tL c r) k)) from by first | assumption | exact Nat.not_lt.mpr (by assumption))]
    · refine E_goto (tgt := 55) dX12_advances_41 (by decide) ?_
      refine E_aload_n dX12_advances_55 rfl ?_
      refine E_getRL dX12_advances_56 kF_X12_108 kY_12 (Or.inr ⟨_, rfl⟩) (l_128 hL) (k_128 hL) (r_128_39 hL) ?_
      refine E_iload dX12_advances_59 rfl ?_
      refine E_ialdL (v := _) dX12_advances_61 (l_160 hL) (k_160 hL) rfl (by omega) (by decide) (h.oa hr (by omega)) ?_
      refine E_goto (tgt := 66) dX12_advances_62 (by decide) ?_
      refine E_iadd dX12_advances_66 ?_
      refine E_istore dX12_advances_67 (Nat.le_of_ble_eq_true rfl) (by decide) rfl ?_
      refine E_iinc_n (d := 1) dX12_advances_69 rfl rfl rfl (by decide) rfl ?_
      refine E_goto (tgt := 11) dX12_advances_72 (by decide) ?_
      refine ih (by omega) _ ?_
      show _ = adE (tL c r) (tB c r) (fun y => y < its) k + cI ((fun y => y < its) (yC (gat (tL c r) k))) (tB c r 0 k) (nI 0)
      rw [hv]
      first
        | rw [cI_t (show (fun y => y < its) (yC (gat (tL c r) k)) from by assumption)]
        | rw [cI_f (show ¬ (fun y => y < its) (yC (gat (tL c r) k)) from by first | assumption | exact Nat.not_lt.mpr (by assumption))]
set_option maxRecDepth 100000 in
set_option maxHeartbeats 4000000 in
theorem sp_X12_advancesL {g : gG} {M : gM} {Q : Option Value ⊕ String → gM → Prop} {c : Cf} (h : qS c M) {r its : Nat} (hr : r < tr c) (hi : its < 16) (K : Q (.inl (some (.int (adL c r its)))) M) : E g 1 0 0 mX12_advances 0 [.ref 129, .int (nI r), .int (nI its), .int (nI 1), .null, .null] [] M Q := by
  have hL := h.lay
  have h16 := h.t16
  have hn := h.nr16
  have hg : tg c (tr c) ≤ 1024 := h.g1024
  have hok := h.ok hr
  have hs := tg_s c r
  have hm := tg_m c hr
  refine E_iconst (v := nI 0) dX12_advances_0 (by decide) ?_
  refine E_istore dX12_advances_1 (Nat.le_of_ble_eq_true rfl) (by decide) rfl ?_
  refine E_aload_n dX12_advances_3 rfl ?_
  refine E_getRL dX12_advances_4 kF_X12_129 kY_12 (Or.inr ⟨_, rfl⟩) (l_128 hL) (k_128 hL) (r_128_47 hL) ?_
  refine E_iload_n dX12_advances_7 rfl ?_
  refine E_ialdL (v := _) dX12_advances_8 (l_167 hL) (k_167 hL) rfl (by omega) (by decide) (h.rg (by omega)) ?_
  refine E_istore dX12_advances_9 (Nat.le_of_ble_eq_true rfl) (by decide) rfl ?_
  exact lp_X12_advancesL h hr hi K 0 (Nat.zero_le _) _ rfl
set_option maxRecDepth 100000 in
set_option maxHeartbeats 4000000 in
theorem lp_X12_advancesQ {g : gG} {M : gM} {Q : Option Value ⊕ String → gM → Prop} {c : Cf} (h : qS c M) {r its : Nat} (hr : r < tr c) (hi : its < 16) (K : Q (.inl (some (.int (adQ c r its)))) M) : ∀ k, k ≤ (tL c r).length → ∀ v, v = adE (tL c r) (tB c r) (fun y => y = its) k → E g 1 0 0 mX12_advances 11 [.ref 129, .int (nI r), .int (nI its), .int (nI 0), .int v, .int (nI (tg c r + k))] [] M Q := by
  have hL := h.lay
  have h16 := h.t16
  have hn := h.nr16
  have hg : tg c (tr c) ≤ 1024 := h.g1024
  have hok := h.ok hr
  have hs := tg_s c r
  have hm := tg_m c hr
  refine lpUp (tL c r).length (fun k hk ih => ?_)
  intro v hv
  have hy := (hok.at k).2.1
  refine E_iload dX12_advances_11 rfl ?_
  refine E_aload_n dX12_advances_13 rfl ?_
  refine E_getRL dX12_advances_14 kF_X12_129 kY_12 (Or.inr ⟨_, rfl⟩) (l_128 hL) (k_128 hL) (r_128_47 hL) ?_
  refine E_iload_n dX12_advances_17 rfl ?_
  refine E_iconst (v := nI 1) dX12_advances_18 (by decide) ?_
  refine E_iadd_n dX12_advances_19 ?_
  refine E_ialdL (v := _) dX12_advances_20 (l_167 hL) (k_167 hL) rfl (by omega) (by decide) (h.rg (by omega)) ?_
  refine E_icmp_ge_n (tgt := 75) dX12_advances_21 (by decide) (by omega) (by omega) (fun c_21 => ?_) (fun c_21 => ?_)
  · refine E_iload dX12_advances_75 rfl ?_
    refine E_iret dX12_advances_77 (Or.inl rfl) ?_
    obtain rfl : k = (tL c r).length := by omega
    subst hv
    exact K
  · refine E_iload dX12_advances_24 rfl ?_
    refine E_iload_n dX12_advances_26 rfl ?_
    refine E_if_eq (tgt := 44) dX12_advances_27 (by decide) (fun _ => ?_) (fun c0 => absurd (by decide) c0)
    refine E_aload_n dX12_advances_44 rfl ?_
    refine E_getRL dX12_advances_45 kF_X12_105 kY_12 (Or.inr ⟨_, rfl⟩) (l_128 hL) (k_128 hL) (r_128_38 hL) ?_
    refine E_iload dX12_advances_48 rfl ?_
    refine E_ialdL (v := nI (yC (gat (tL c r) k))) dX12_advances_50 (l_159 hL) (k_159 hL) rfl (by omega) (by decide) (h.oc hr (by omega)) ?_
    refine E_iload_n dX12_advances_51 rfl ?_
    refine E_icmp_ne_n (tgt := 65) dX12_advances_52 (by decide) (by omega) (by omega) (fun c_52 => ?_) (fun c_52 => ?_)
    · refine E_iconst (v := nI 0) dX12_advances_65 (by decide) ?_
      refine E_iadd dX12_advances_66 ?_
      refine E_istore dX12_advances_67 (Nat.le_of_ble_eq_true rfl) (by decide) rfl ?_
      refine E_iinc_n (d := 1) dX12_advances_69 rfl rfl rfl (by decide) rfl ?_
      refine E_goto (tgt := 11) dX12_advances_72 (by decide) ?_
      refine ih (by omega) _ ?_
      show _ = adE (tL c r) (tB c r) (fun y => y = its) k + cI ((fun y => y = its) (yC (gat (tL c r) k))) (tB c r 0 k) (nI 0)
      rw [hv]
      first
        | rw [cI_t (show (fun y => y = its) (yC (gat (tL c r) k)) from by assumption)]
        | rw [cI_f (show ¬ (fun y => y = its) (yC (gat (tL c r) k)) from by first | assumption | exact Nat.not_lt.mpr (by assumption))]
    · refine E_aload_n dX12_advances_55 rfl ?_
      refine E_getRL dX12_advances_56 kF_X12_108 kY_12 (Or.inr ⟨_, rfl⟩) (l_128 hL) (k_128 hL) (r_128_39 hL) ?_
      refine E_iload dX12_advances_59 rfl ?_
      refine E_ialdL (v := _) dX12_advances_61 (l_160 hL) (k_160 hL) rfl (by omega) (by decide) (h.oa hr (by omega)) ?_
      refine E_goto (tgt := 66) dX12_advances_62 (by decide) ?_
      refine E_iadd dX12_advances_66 ?_
      refine E_istore dX12_advances_67 (Nat.le_of_ble_eq_true rfl) (by decide) rfl ?_
      refine E_iinc_n (d := 1) dX12_advances_69 rfl rfl rfl (by decide) rfl ?_
      refine E_goto (tgt := 11) dX12_advances_72 (by decide) ?_
      refine ih (by omega) _ ?_
      show _ = adE (tL c r) (tB c r) (fun y => y = its) k + cI ((fun y => y = its) (yC (gat (tL c r) k))) (tB c r 0 k) (nI 0)
      rw [hv]
      first
        | rw [cI_t (show (fun y => y = its) (yC (gat (tL c r) k)) from by assumption)]
        | rw [cI_f (show ¬ (fun y => y = its) (yC (gat (tL c r) k)) from by first | assumption | exact Nat.not_lt.mpr (by assumption))]
set_option maxRecDepth 100000 in
set_option maxHeartbeats 4000000 in
theorem sp_X12_advancesQ {g : gG} {M : gM} {Q : Option Value ⊕ String → gM → Prop} {c : Cf} (h : qS c M) {r its : Nat} (hr : r < tr c) (hi : its < 16) (K : Q (.inl (some (.int (adQ c r its)))) M) : E g 1 0 0 mX12_advances 0 [.ref 129, .int (nI r), .int (nI its), .int (nI 0), .null, .null] [] M Q := by
  have hL := h.lay
  have h16 := h.t16
  have hn := h.nr16
  have hg : tg c (tr c) ≤ 1024 := h.g1024
  have hok := h.ok hr
  have hs := tg_s c r
  have hm := tg_m c hr
  refine E_iconst (v := nI 0) dX12_advances_0 (by decide) ?_
  refine E_istore dX12_advances_1 (Nat.le_of_ble_eq_true rfl) (by decide) rfl ?_
  refine E_aload_n dX12_advances_3 rfl ?_
  refine E_getRL dX12_advances_4 kF_X12_129 kY_12 (Or.inr ⟨_, rfl⟩) (l_128 hL) (k_128 hL) (r_128_47 hL) ?_
  refine E_iload_n dX12_advances_7 rfl ?_
  refine E_ialdL (v := _) dX12_advances_8 (l_167 hL) (k_167 hL) rfl (by omega) (by decide) (h.rg (by omega)) ?_
  refine E_istore dX12_advances_9 (Nat.le_of_ble_eq_true rfl) (by decide) rfl ?_
  exact lp_X12_advancesQ h hr hi K 0 (Nat.zero_le _) _ rfl
noncomputable def fdv (x : Int32) (m : Nat) : Int32 := x / nI m - cI (x < 0 ∧ ¬ x - x / nI m * nI m = 0) (nI 1) (nI 0)
noncomputable def crF (c : Cf) (p : Nat) : Int32 := cI (clO c (ru c p) p = 0) (nI 0) (adL c (ru c p) (clO c (ru c p) p - 1) + fdv (adQ c (ru c p) (clO c (ru c p) p - 1) * nI (p - (clO c (ru c p) p - 1))) (eoC c (ru c p) (clO c (ru c p) p - 1) - (clO c (ru c p) p - 1)))
noncomputable def crt (c : Cf) (p : Nat) : Int32 := cI (scr c 0 (tl c) p = 1) (tS c (ru c p) + crF c p) (tS c (ru c p + 1) - crF c p)
set_option maxRecDepth 100000 in
set_option maxHeartbeats 4000000 in
theorem sp_X12_caretOf {g : gG} {M : gM} {Q : Option Value ⊕ String → gM → Prop} {c : Cf} (h : qS c M) {p : Nat} (hp : p < tl c) (K : Q (.inl (some (.int (crt c p)))) M) : E g 2 0 0 mX12_caretOf 0 [.ref 129, .int (nI p), .null, .null, .null, .null, .null, .null] [] M Q := by
  have hL := h.lay
  have h16 := h.t16
  have hn := h.nr16
  obtain ⟨b1, b2, b3⟩ := ru_b h.wf hp
  have b4 := h.tn16 (show ru c p + 1 ≤ tr c by omega)
  have hsb := scr_b c 0 (tl c) p
  have hcb := clE_b (tL c (ru c p)) p (tL c (ru c p)).length
  have hcb : clO c (ru c p) p ≤ p + 1 := hcb
  have fin : ∀ v3 v5 v6 v7, E g 2 0 0 mX12_caretOf 87 [.ref 129, .int (nI p), .int (nI (ru c p)), v3, .int (crF c p), v5, v6, v7] [] M Q := by
    intro v3 v5 v6 v7
    unfold crt at K
    refine E_aload_n dX12_caretOf_87 rfl ?_
    refine E_getRL dX12_caretOf_88 kF_X12_57 kY_12 (Or.inr ⟨_, rfl⟩) (l_128 hL) (k_128 hL) (r_128_18 hL) ?_
    refine E_iload_n dX12_caretOf_91 rfl ?_
    refine E_ialdL (v := nI (scr c 0 (tl c) p)) dX12_caretOf_92 (l_143 hL) (k_143 hL) rfl (by omega) (by decide) (h.sc hp) ?_
    refine E_iconst (v := nI 1) dX12_caretOf_93 (by decide) ?_
    refine E_icmp_ne_n (tgt := 109) dX12_caretOf_94 (by decide) (by omega) (by omega) (fun c_94 => ?_) (fun c_94 => ?_)
    · refine E_aload_n dX12_caretOf_109 rfl ?_
      refine E_getRL dX12_caretOf_110 kF_X12_132 kY_12 (Or.inr ⟨_, rfl⟩) (l_128 hL) (k_128 hL) (r_128_48 hL) ?_
      refine E_iload_n dX12_caretOf_113 rfl ?_
      refine E_iconst (v := nI 1) dX12_caretOf_114 (by decide) ?_
      refine E_iadd_n dX12_caretOf_115 ?_
      refine E_ialdL (v := _) dX12_caretOf_116 (l_168 hL) (k_168 hL) rfl (by omega) (by decide) (h.rl (by omega)) ?_
      refine E_iload dX12_caretOf_117 rfl ?_
      refine E_isub dX12_caretOf_119 ?_
      refine E_iret dX12_caretOf_120 (Or.inl rfl) ?_
      first
        | (rw [cI_t (by omega)] at K; exact K)
        | (rw [cI_f (by omega)] at K; exact K)
    · refine E_aload_n dX12_caretOf_97 rfl ?_
      refine E_getRL dX12_caretOf_98 kF_X12_132 kY_12 (Or.inr ⟨_, rfl⟩) (l_128 hL) (k_128 hL) (r_128_48 hL) ?_
      refine E_iload_n dX12_caretOf_101 rfl ?_
      refine E_ialdL (v := _) dX12_caretOf_102 (l_168 hL) (k_168 hL) rfl (by omega) (by decide) (h.rl (by omega)) ?_
      refine E_iload dX12_caretOf_103 rfl ?_
      refine E_iadd dX12_caretOf_105 ?_
      refine E_goto (tgt := 120) dX12_caretOf_106 (by decide) ?_
      refine E_iret dX12_caretOf_120 (Or.inl rfl) ?_
      first
        | (rw [cI_t (by omega)] at K; exact K)
        | (rw [cI_f (by omega)] at K; exact K)
  refine E_aload_n dX12_caretOf_0 rfl ?_
  refine E_iload_n dX12_caretOf_1 rfl ?_
  refine E_callV1 (fr' := 1) (k1 := 0) (n1 := 0) (k2 := 0) (n2 := 0) dX12_caretOf_2 kO_X12_runOf kL_X12_430 (l_128 hL) (k_128 hL) ⟨by decide, rfl⟩ rfl (by decide) (by decide) (by exact Nat.le_of_ble_eq_true rfl) rfl ?_
  refine sp_X12_runOf h (by omega) ?_
  refine gKv ?_
  refine E_istore_n dX12_caretOf_5 (Nat.le_of_ble_eq_true rfl) (by decide) rfl ?_
  refine E_aload_n dX12_caretOf_6 rfl ?_
  refine E_iload_n dX12_caretOf_7 rfl ?_
  refine E_iload_n dX12_caretOf_8 rfl ?_
  refine E_callV2 (fr' := 1) (k1 := 0) (n1 := 0) (k2 := 0) (n2 := 0) dX12_caretOf_9 kO_X12_clusterOf kL_X12_433 (l_128 hL) (k_128 hL) ⟨by decide, rfl⟩ rfl rfl (by decide) (by decide) (by exact Nat.le_of_ble_eq_true rfl) rfl ?_
  refine sp_X12_clusterOf h (by omega) (by omega) ?_
  refine gKv ?_
  refine E_istore_n dX12_caretOf_12 (Nat.le_of_ble_eq_true rfl) (by decide) rfl ?_
  refine E_iconst (v := nI 0) dX12_caretOf_13 (by decide) ?_
  refine E_istore dX12_caretOf_14 (Nat.le_of_ble_eq_true rfl) (by decide) rfl ?_
  unfold clV
  by_cases e : clO c (ru c p) p = 0
  · rw [cI_t e]
    refine E_iload_n dX12_caretOf_16 rfl ?_
    refine E_bipush (v := -100) dX12_caretOf_17 (by decide) ?_
    refine E_icmp_eq (tgt := 87) dX12_caretOf_19 (by decide) (fun _ => ?_) (fun c0 => absurd (by decide) c0)
    have e1 : crF c p = nI 0 := cI_t e
    rw [← e1]
    exact fin _ _ _ _
  · rw [cI_f e]
    have hz : ∃ z, clO c (ru c p) p = z + 1 := ⟨clO c (ru c p) p - 1, by omega⟩
    obtain ⟨z, hz⟩ := hz
    have e1 : crF c p = adL c (ru c p) z + fdv (adQ c (ru c p) z * nI (p - z)) (eoC c (ru c p) z - z) := by
      unfold crF; rw [cI_f e, hz, Nat.add_sub_cancel]
    rw [hz, Nat.add_sub_cancel]
    have he := eoE_b (tL c (ru c p)) z (tn c (ru c p + 1)) (by omega) (tL c (ru c p)).length
    have he : z < eoC c (ru c p) z ∧ eoC c (ru c p) z ≤ tn c (ru c p + 1) := he
    have hm0 : ¬ nI (eoC c (ru c p) z - z) = 0 := fun q => by have := (nI_eq (show eoC c (ru c p) z - z < 2 ^ 31 by omega) (by decide : 0 < 2 ^ 31)).mp q; omega
    unfold fdv at e1
    refine E_iload_n dX12_caretOf_16 rfl ?_
    refine E_bipush (v := -100) dX12_caretOf_17 (by decide) ?_
    refine E_icmp_eq (tgt := 87) dX12_caretOf_19 (by decide) (fun c0 => absurd c0 (nI_ne100 (by omega))) (fun _ => ?_)
    refine E_aload_n dX12_caretOf_22 rfl ?_
    refine E_iload_n dX12_caretOf_23 rfl ?_
    refine E_iload_n dX12_caretOf_24 rfl ?_
    refine E_callV2 (fr' := 1) (k1 := 0) (n1 := 0) (k2 := 0) (n2 := 0) dX12_caretOf_25 kO_X12_endOfCluster kL_X12_436 (l_128 hL) (k_128 hL) ⟨by decide, rfl⟩ rfl rfl (by decide) (by decide) (by exact Nat.le_of_ble_eq_true rfl) rfl ?_
    refine sp_X12_endOfCluster h (by omega) (by omega) ?_
    refine gKv ?_
    refine E_iload_n dX12_caretOf_28 rfl ?_
    refine E_isub_n dX12_caretOf_29 (by omega) ?_
    refine E_istore dX12_caretOf_30 (Nat.le_of_ble_eq_true rfl) (by decide) rfl ?_
    refine E_aload_n dX12_caretOf_32 rfl ?_
    refine E_iload_n dX12_caretOf_33 rfl ?_
    refine E_iload_n dX12_caretOf_34 rfl ?_
    refine E_iconst (v := nI 0) dX12_caretOf_35 (by decide) ?_
    refine E_callV3 (fr' := 1) (k1 := 0) (n1 := 0) (k2 := 0) (n2 := 0) dX12_caretOf_36 kO_X12_advances kL_X12_439 (l_128 hL) (k_128 hL) ⟨by decide, rfl⟩ rfl rfl rfl (by decide) (by decide) (by exact Nat.le_of_ble_eq_true rfl) rfl ?_
    refine sp_X12_advancesQ h (by omega) (by omega) ?_
    refine gKv ?_
    refine E_iload_n dX12_caretOf_39 rfl ?_
    refine E_iload_n dX12_caretOf_40 rfl ?_
    refine E_isub_n dX12_caretOf_41 (by omega) ?_
    refine E_imul dX12_caretOf_42 ?_
    refine E_istore dX12_caretOf_43 (Nat.le_of_ble_eq_true rfl) (by decide) rfl ?_
    refine E_iload dX12_caretOf_45 rfl ?_
    refine E_iload dX12_caretOf_47 rfl ?_
    refine E_idiv dX12_caretOf_49 (by assumption) ?_
    refine E_istore dX12_caretOf_50 (Nat.le_of_ble_eq_true rfl) (by decide) rfl ?_
    refine E_iload dX12_caretOf_52 rfl ?_
    refine E_iload dX12_caretOf_54 rfl ?_
    refine E_if_ge (tgt := 71) dX12_caretOf_56 (by decide) (fun c_56 => ?_) (fun c_56 => ?_)
    · refine E_iconst (v := nI 0) dX12_caretOf_71 (by decide) ?_
      refine E_isub dX12_caretOf_72 ?_
      refine E_istore dX12_caretOf_73 (Nat.le_of_ble_eq_true rfl) (by decide) rfl ?_
      refine E_aload_n dX12_caretOf_75 rfl ?_
      refine E_iload_n dX12_caretOf_76 rfl ?_
      refine E_iload_n dX12_caretOf_77 rfl ?_
      refine E_iconst (v := nI 1) dX12_caretOf_78 (by decide) ?_
      refine E_callV3 (fr' := 1) (k1 := 0) (n1 := 0) (k2 := 0) (n2 := 0) dX12_caretOf_79 kO_X12_advances kL_X12_439 (l_128 hL) (k_128 hL) ⟨by decide, rfl⟩ rfl rfl rfl (by decide) (by decide) (by exact Nat.le_of_ble_eq_true rfl) rfl ?_
      refine sp_X12_advancesL h (by omega) (by omega) ?_
      refine gKv ?_
      refine E_iload dX12_caretOf_82 rfl ?_
      refine E_iadd dX12_caretOf_84 ?_
      refine E_istore dX12_caretOf_85 (Nat.le_of_ble_eq_true rfl) (by decide) rfl ?_
      first
        | (rw [cI_t ⟨Int32.not_le.mp c_56, c_64⟩] at e1; rw [← e1]; exact fin _ _ _ _)
        | (rw [cI_f (fun q => Int32.not_le.mpr q.1 c_56)] at e1; rw [← e1]; exact fin _ _ _ _)
        | (rw [cI_f (fun q => q.2 c_64)] at e1; rw [← e1]; exact fin _ _ _ _)
    · refine E_iload dX12_caretOf_59 rfl ?_
      refine E_iload dX12_caretOf_61 rfl ?_
      refine E_irem dX12_caretOf_63 (by assumption) ?_
      refine E_if_eq (tgt := 71) dX12_caretOf_64 (by decide) (fun c_64 => ?_) (fun c_64 => ?_)
      · refine E_iconst (v := nI 0) dX12_caretOf_71 (by decide) ?_
        refine E_isub dX12_caretOf_72 ?_
        refine E_istore dX12_caretOf_73 (Nat.le_of_ble_eq_true rfl) (by decide) rfl ?_
        refine E_aload_n dX12_caretOf_75 rfl ?_
        refine E_iload_n dX12_caretOf_76 rfl ?_
        refine E_iload_n dX12_caretOf_77 rfl ?_
        refine E_iconst (v := nI 1) dX12_caretOf_78 (by decide) ?_
        refine E_callV3 (fr' := 1) (k1 := 0) (n1 := 0) (k2 := 0) (n2 := 0) dX12_caretOf_79 kO_X12_advances kL_X12_439 (l_128 hL) (k_128 hL) ⟨by decide, rfl⟩ rfl rfl rfl (by decide) (by decide) (by exact Nat.le_of_ble_eq_true rfl) rfl ?_
        refine sp_X12_advancesL h (by omega) (by omega) ?_
        refine gKv ?_
        refine E_iload dX12_caretOf_82 rfl ?_
        refine E_iadd dX12_caretOf_84 ?_
        refine E_istore dX12_caretOf_85 (Nat.le_of_ble_eq_true rfl) (by decide) rfl ?_
        first
          | (rw [cI_t ⟨Int32.not_le.mp c_56, c_64⟩] at e1; rw [← e1]; exact fin _ _ _ _)
          | (rw [cI_f (fun q => Int32.not_le.mpr q.1 c_56)] at e1; rw [← e1]; exact fin _ _ _ _)
          | (rw [cI_f (fun q => q.2 c_64)] at e1; rw [← e1]; exact fin _ _ _ _)
      · refine E_iconst (v := nI 1) dX12_caretOf_67 (by decide) ?_
        refine E_goto (tgt := 72) dX12_caretOf_68 (by decide) ?_
        refine E_isub dX12_caretOf_72 ?_
        refine E_istore dX12_caretOf_73 (Nat.le_of_ble_eq_true rfl) (by decide) rfl ?_
        refine E_aload_n dX12_caretOf_75 rfl ?_
        refine E_iload_n dX12_caretOf_76 rfl ?_
        refine E_iload_n dX12_caretOf_77 rfl ?_
        refine E_iconst (v := nI 1) dX12_caretOf_78 (by decide) ?_
        refine E_callV3 (fr' := 1) (k1 := 0) (n1 := 0) (k2 := 0) (n2 := 0) dX12_caretOf_79 kO_X12_advances kL_X12_439 (l_128 hL) (k_128 hL) ⟨by decide, rfl⟩ rfl rfl rfl (by decide) (by decide) (by exact Nat.le_of_ble_eq_true rfl) rfl ?_
        refine sp_X12_advancesL h (by omega) (by omega) ?_
        refine gKv ?_
        refine E_iload dX12_caretOf_82 rfl ?_
        refine E_iadd dX12_caretOf_84 ?_
        refine E_istore dX12_caretOf_85 (Nat.le_of_ble_eq_true rfl) (by decide) rfl ?_
        first
          | (rw [cI_t ⟨Int32.not_le.mp c_56, c_64⟩] at e1; rw [← e1]; exact fin _ _ _ _)
          | (rw [cI_f (fun q => Int32.not_le.mpr q.1 c_56)] at e1; rw [← e1]; exact fin _ _ _ _)
          | (rw [cI_f (fun q => q.2 c_64)] at e1; rw [← e1]; exact fin _ _ _ _)
