/-! the class: what is shaped, asked -/
def pgOK (c : Cf) (M : gM) : Prop := pV c 78 0 (tl c) 0 (tl c) M ∧ pW c 78 0 (tl c) 0 0 (nI 0) (tr c) M
def qC (c : Cf) (P π : Nat → Nat) (M : gM) : Prop := kB c P M ∧ rK π M ∧ pgOK c M
theorem lC_0 (c : Cf) (a b : Nat) : ∀ i, lC c a b (nI 0) i = lS c a b i
  | 0 => rfl
  | i + 1 => by show lC c a b (nI 0) i + wdt c a b i = lS c a b i + wdt c a b i; rw [lC_0 c a b i]
theorem rn_same {c : Cf} {a b r p : Nat} (hab : a ≤ b) (hr : r < nr c a b) (h1 : rn c a b r ≤ p) (h2 : p < rn c a b (r + 1)) : scr c a b p = scr c a b (rn c a b r) ∧ fcO c p = fcO c (rn c a b r) := by
  have hlt := (rn_b (c := c) hab r (by omega)).2.2 hr
  have h := (fnd_spec (P := fun j => ¬ (scr c a b j = scr c a b (rn c a b r) ∧ fcO c j = fcO c (rn c a b r))) (Nat.le_of_lt hlt)).2.2.2 p h1 h2
  exact Classical.not_not.mp h
section QC
variable {c : Cf} {P π : Nat → Nat} {M : gM}
theorem qC.B (h : qC c P π M) : kB c P M := h.1
theorem qC.wf (h : qC c P π M) : WFc c := h.1.wf
theorem qC.t16 (h : qC c P π M) : tl c ≤ 16 := h.wf.tl
theorem qC.nr16 (h : qC c P π M) : tr c ≤ 16 := by have : tr c ≤ tl c - 0 := (nr_b (c := c) (Nat.zero_le (tl c)) h.t16).1; have := h.t16; omega
theorem qC.tn16 (h : qC c P π M) {j : Nat} (hj : j ≤ tr c) : tn c j ≤ tl c := (rn_b (c := c) (Nat.zero_le (tl c)) j hj).2.1
theorem qC.g9 (h : qC c P π M) : mI M 78 9 = nI (ng c) := h.2.2.2.2.1.trans (by rw [Nat.zero_add])
theorem qC.g10 (h : qC c P π M) : mI M 78 10 = tS c (tr c) := h.2.2.2.2.2.1.trans (lC_0 _ _ _ _)
theorem qC.g1024 (h : qC c P π M) : ng c ≤ 1024 := by have := h.nr16; have : tg c (tr c) ≤ 64 * tr c := h.2.2.2.1; show tg c (tr c) ≤ 1024; omega
theorem qC.r (h : qC c P π M) {j : Nat} (hj : j < tr c) : okL (tL c j) ∧ pO 78 (tg c j) (tL c j) (tB c j) (tL c j).length M ∧ mI M 86 j = nI (tg c j) ∧ mI M 87 j = nI (tg c (j + 1)) ∧ mI M 88 j = tS c j ∧ mI M 89 j = wdt c 0 (tl c) j := by
  have := h.2.2.2.2.2.2 j hj
  obtain ⟨a1, a2, a3, a4, a5, a6⟩ := this
  rw [Nat.zero_add] at a2 a3 a4 a5 a6
  rw [Nat.zero_add] at a3 a4
  refine ⟨a1, ?_, a3, a4, a5.trans (lC_0 _ _ _ _), a6⟩
  have e : rBl c 0 (tl c) (nI 0) j = tB c j := by
    show stB _ _ _ (lC c 0 (tl c) (nI 0) j) _ = stB _ _ _ (lS c 0 (tl c) j) _
    rw [lC_0]
  rw [e] at a2; exact a2
theorem qC.fg (h : qC c P π M) {j : Nat} (hj : j < tr c) : mI M 86 j = nI (tg c j) := (h.r hj).2.2.1
theorem qC.eg (h : qC c P π M) {j : Nat} (hj : j < tr c) : mI M 87 j = nI (tg c (j + 1)) := (h.r hj).2.2.2.1
theorem qC.lf (h : qC c P π M) {j : Nat} (hj : j < tr c) : mI M 88 j = tS c j := (h.r hj).2.2.2.2.1
theorem qC.wd (h : qC c P π M) {j : Nat} (hj : j < tr c) : mI M 89 j = wdt c 0 (tl c) j := (h.r hj).2.2.2.2.2
theorem qC.v (h : qC c P π M) {j : Nat} (hj : j < tr c) : mI M 84 j = nI (tn c j) ∧ mI M 85 j = nI (tn c (j + 1)) ∧ mI M 82 j = nI (scr c 0 (tl c) (tn c j)) ∧ mI M 83 j = nI (fcO c (tn c j)) ∧ ∀ p, tn c j ≤ p → p < tn c (j + 1) → mI M 80 p = nI j ∧ mI M 81 p = frm c (tn c j) (tn c (j + 1)) p := by
  have := h.2.2.1.2 j hj
  rw [Nat.zero_add] at this
  refine ⟨this.1, this.2.1, this.2.2.1, this.2.2.2.1, fun p q1 q2 => ⟨(this.2.2.2.2 p q1 q2).1, (this.2.2.2.2 p q1 q2).2 (by have := h.tn16 (show j + 1 ≤ tr c by omega); omega)⟩⟩
theorem qC.of (h : qC c P π M) {p : Nat} (hp : p < tl c) : mI M 80 p = nI (ru c p) := by
  obtain ⟨h1, h2, h3⟩ := ru_b h.wf hp
  exact ((h.v h1).2.2.2.2 p h2 h3).1
theorem qC.fo (h : qC c P π M) {p : Nat} (hp : p < tl c) : mI M 81 p = frm c (tn c (ru c p)) (tn c (ru c p + 1)) p := by
  obtain ⟨h1, h2, h3⟩ := ru_b h.wf hp
  exact ((h.v h1).2.2.2.2 p h2 h3).2
theorem qC.sS (h : qC c P π M) {p : Nat} (hp : p < tl c) : mI M 82 (ru c p) = nI (scr c 0 (tl c) p) := by
  obtain ⟨h1, h2, h3⟩ := ru_b h.wf hp
  rw [(rn_same (Nat.zero_le _) h1 h2 h3).1]; exact (h.v h1).2.2.1
theorem qC.fS (h : qC c P π M) {p : Nat} (hp : p < tl c) : mI M 83 (ru c p) = nI (fcO c p) := by
  obtain ⟨h1, h2, h3⟩ := ru_b h.wf hp
  rw [(rn_same (Nat.zero_le _) h1 h2 h3).2]; exact (h.v h1).2.2.2.1
theorem qC.en (h : qC c P π M) {j : Nat} (hj : j < tr c) : mI M 85 j = nI (tn c (j + 1)) := (h.v hj).2.1
theorem qC.pg (h : qC c P π M) {q G : Nat} (hq : q < 8) (hp : G < ng c) : mI M (90 + q) G = pgv c q G := by
  obtain ⟨h1, h2, h3⟩ := tj_b hp
  rw [tg_s] at h3
  have := (h.r h1).2.1 q (G - tg c (tj c G)) hq (by omega)
  rw [Nat.add_sub_cancel' h2] at this
  exact this
theorem qC.oc (h : qC c P π M) {j : Nat} (hj : j < tr c) {k : Nat} (hk : k < (tL c j).length) : mI M 91 (tg c j + k) = nI (yC (gat (tL c j) k)) := (h.r hj).2.1 1 k (by decide) hk
theorem qC.oa (h : qC c P π M) {j : Nat} (hj : j < tr c) {k : Nat} (hk : k < (tL c j).length) : mI M 92 (tg c j + k) = tB c j 0 k := (h.r hj).2.1 2 k (by decide) hk
end QC
set_option maxRecDepth 100000 in
set_option maxHeartbeats 4000000 in
theorem sp_X9_codeOf {g : gG} {M : gM} {Q : Option Value ⊕ String → gM → Prop} {c : Cf} {P π : Nat → Nat} (hQ : qC c P π M) {p : Nat} (hp : p < tl c) (K : Q (.inl (some (.int (nI (100 * ru c p + 10 * scr c 0 (tl c) p + fcO c p))))) M) : E g 1 0 0 mX9_codeOf 0 [.ref 80, .int (nI p), .null] [] M Q := by
  have hB := hQ.B
  have hL := hB.lay
  have h16 := hQ.t16
  have hn16 := hQ.nr16
  have hg := hQ.g1024
  have hgt : tg c (tr c) ≤ 1024 := hg
  have hru := ru_b hB.wf hp
  have hsb := scr_b c 0 (tl c) p
  have hfb := fcO_b hB.wf p
  refine E_aload_n dX9_codeOf_0 rfl ?_
  refine E_getRL dX9_codeOf_1 kF_X9_9 kY_9 (Or.inr ⟨_, rfl⟩) (l_79 hL) (k_79 hL) (r_79_0 hL) ?_
  refine E_iload_n dX9_codeOf_4 rfl ?_
  refine E_ialdL (v := nI (ru c _)) dX9_codeOf_5 (l_80 hL) (k_80 hL) rfl (by omega) (by decide) (hQ.of (by omega)) ?_
  refine E_istore_n dX9_codeOf_6 (Nat.le_of_ble_eq_true rfl) (by decide) rfl ?_
  refine E_bipush (v := nI 100) dX9_codeOf_7 (by decide) ?_
  refine E_iload_n dX9_codeOf_9 rfl ?_
  refine E_imul_n dX9_codeOf_10 ?_
  refine E_aload_n dX9_codeOf_11 rfl ?_
  refine E_getRL dX9_codeOf_12 kF_X9_18 kY_9 (Or.inr ⟨_, rfl⟩) (l_79 hL) (k_79 hL) (r_79_2 hL) ?_
  refine E_iload_n dX9_codeOf_15 rfl ?_
  refine E_zaldL (v := nI (scr c 0 (tl c) p)) dX9_codeOf_16 (l_82 hL) (k_82 hL) rfl (by omega) (by decide) (hQ.sS hp) ?_
  refine E_if_eq_n (tgt := 25) dX9_codeOf_17 (by decide) (by omega) (fun c_17 => ?_) (fun c_17 => ?_)
  · refine E_iconst (v := nI 0) dX9_codeOf_25 (by decide) ?_
    refine E_iadd_n dX9_codeOf_26 ?_
    refine E_aload_n dX9_codeOf_27 rfl ?_
    refine E_getRL dX9_codeOf_28 kF_X9_22 kY_9 (Or.inr ⟨_, rfl⟩) (l_79 hL) (k_79 hL) (r_79_3 hL) ?_
    refine E_iload_n dX9_codeOf_31 rfl ?_
    refine E_ialdL (v := nI (fcO c p)) dX9_codeOf_32 (l_83 hL) (k_83 hL) rfl (by omega) (by decide) (hQ.fS hp) ?_
    refine E_iadd_n dX9_codeOf_33 ?_
    refine E_iret dX9_codeOf_34 (Or.inl rfl) ?_
    first
      | (rw [show 100 * ru c p + 10 + fcO c p = 100 * ru c p + 10 * scr c 0 (tl c) p + fcO c p by omega]; exact K)
      | (rw [show 100 * ru c p + 0 + fcO c p = 100 * ru c p + 10 * scr c 0 (tl c) p + fcO c p by omega]; exact K)
  · refine E_bipush (v := nI 10) dX9_codeOf_20 (by decide) ?_
    refine E_goto (tgt := 26) dX9_codeOf_22 (by decide) ?_
    refine E_iadd_n dX9_codeOf_26 ?_
    refine E_aload_n dX9_codeOf_27 rfl ?_
    refine E_getRL dX9_codeOf_28 kF_X9_22 kY_9 (Or.inr ⟨_, rfl⟩) (l_79 hL) (k_79 hL) (r_79_3 hL) ?_
    refine E_iload_n dX9_codeOf_31 rfl ?_
    refine E_ialdL (v := nI (fcO c p)) dX9_codeOf_32 (l_83 hL) (k_83 hL) rfl (by omega) (by decide) (hQ.fS hp) ?_
    refine E_iadd_n dX9_codeOf_33 ?_
    refine E_iret dX9_codeOf_34 (Or.inl rfl) ?_
    first
      | (rw [show 100 * ru c p + 10 + fcO c p = 100 * ru c p + 10 * scr c 0 (tl c) p + fcO c p by omega]; exact K)
      | (rw [show 100 * ru c p + 0 + fcO c p = 100 * ru c p + 10 * scr c 0 (tl c) p + fcO c p by omega]; exact K)
set_option maxRecDepth 100000 in
set_option maxHeartbeats 4000000 in
theorem lp_X6_ownerOf {g : gG} {M : gM} {Q : Option Value ⊕ String → gM → Prop} {c : Cf} {P π : Nat → Nat} (hQ : qC c P π M) {p : Nat} (hp : p < tl c) (K : Q (.inl (some (.int (clV (clO c (ru c p) p))))) M) : ∀ k, k ≤ (tL c (ru c p)).length → ∀ v, v = clV (clE (tL c (ru c p)) p k) → E g 1 0 0 mX6_ownerOf 24 [.ref 79, .int (nI p), .int (nI (ru c p)), .int v, .int (nI (tg c (ru c p) + k))] [] M Q := by
  have hB := hQ.B
  have hL := hB.lay
  have h16 := hQ.t16
  have hn16 := hQ.nr16
  have hg := hQ.g1024
  have hgt : tg c (tr c) ≤ 1024 := hg
  have hru := ru_b hB.wf hp
  have hsb := scr_b c 0 (tl c) p
  have hfb := fcO_b hB.wf p
  have hgs := tg_s c (ru c p)
  have hok := (hQ.r hru.1).1
  have hl64 := hok.1
  have hgm := tg_m c hru.1
  refine lpUp (tL c (ru c p)).length (fun k hk ih => ?_)
  intro v hv
  have hcb := clE_b (tL c (ru c p)) p k
  have hc16 := (hok.at k).2.1
  have oc : k < (tL c (ru c p)).length → mI M 91 (tg c (ru c p) + k) = nI (yC (gat (tL c (ru c p)) k)) := fun z => hQ.oc hru.1 z
  have es : clE (tL c (ru c p)) p (k + 1) = cI (yC (gat (tL c (ru c p)) k) ≤ p ∧ clE (tL c (ru c p)) p k ≤ yC (gat (tL c (ru c p)) k)) (yC (gat (tL c (ru c p)) k) + 1) (clE (tL c (ru c p)) p k) := rfl
  by_cases e0 : clE (tL c (ru c p)) p k = 0
  · have hv : v = -100 := by rw [hv, e0]; exact cI_t rfl
    subst hv
    refine E_iload dX6_ownerOf_24 rfl ?_
    refine E_aload_n dX6_ownerOf_26 rfl ?_
    refine E_getRL dX6_ownerOf_27 kF_X6_12 kY_6 (Or.inl ⟨_, rfl⟩) (l_78 hL) (k_78 hL) (r_78_0 hL) ?_
    refine E_getRL dX6_ownerOf_30 kF_X6_89 kY_9 (Or.inr ⟨_, rfl⟩) (l_79 hL) (k_79 hL) (r_79_7 hL) ?_
    refine E_iload_n dX6_ownerOf_33 rfl ?_
    refine E_ialdL (v := nI (tg c _)) dX6_ownerOf_34 (l_87 hL) (k_87 hL) rfl (by omega) (by decide) (hQ.eg (by omega)) ?_
    refine E_icmp_ge_n (tgt := 74) dX6_ownerOf_35 (by decide) (by omega) (by omega) (fun c_35 => ?_) (fun c_35 => ?_)
    · refine E_iload_n dX6_ownerOf_74 rfl ?_
      refine E_iret dX6_ownerOf_75 (Or.inl rfl) ?_
      obtain rfl : k = (tL c (ru c p)).length := by omega
      have e2 : clO c (ru c p) p = 0 := e0
      rw [e2, show clV 0 = -100 from cI_t rfl] at K
      exact K
    · refine E_aload_n dX6_ownerOf_38 rfl ?_
      refine E_getRL dX6_ownerOf_39 kF_X6_22 kY_6 (Or.inr ⟨_, rfl⟩) (l_78 hL) (k_78 hL) (r_78_2 hL) ?_
      refine E_iload dX6_ownerOf_42 rfl ?_
      refine E_ialdL (v := nI (yC (gat (tL c (ru c p)) k))) dX6_ownerOf_44 (l_91 hL) (k_91 hL) rfl (by omega) (by decide) (oc (by omega)) ?_
      refine E_iload_n dX6_ownerOf_45 rfl ?_
      refine E_icmp_gt_n (tgt := 68) dX6_ownerOf_46 (by decide) (by omega) (by omega) (fun c_46 => ?_) (fun c_46 => ?_)
      · refine E_iinc_n (d := 1) dX6_ownerOf_68 rfl rfl rfl (by decide) rfl ?_
        refine E_goto (tgt := 24) dX6_ownerOf_71 (by decide) ?_
        first
          | exact ih (by omega) _ (by rw [es, cI_t ⟨by omega, by omega⟩]; exact (cI_f (by omega)).symm)
          | exact ih (by omega) _ (by rw [es, cI_f (fun z => by omega), e0]; exact (cI_t rfl).symm)
          | (exfalso; exact nI_nle100 (a := yC (gat (tL c (ru c p)) k)) (by omega) (by assumption))
      · refine E_aload_n dX6_ownerOf_49 rfl ?_
        refine E_getRL dX6_ownerOf_50 kF_X6_22 kY_6 (Or.inr ⟨_, rfl⟩) (l_78 hL) (k_78 hL) (r_78_2 hL) ?_
        refine E_iload dX6_ownerOf_53 rfl ?_
        refine E_ialdL (v := nI (yC (gat (tL c (ru c p)) k))) dX6_ownerOf_55 (l_91 hL) (k_91 hL) rfl (by omega) (by decide) (oc (by omega)) ?_
        refine E_iload_n dX6_ownerOf_56 rfl ?_
        refine E_icmp_le (tgt := 68) dX6_ownerOf_57 (by decide) (fun c_57 => ?_) (fun c_57 => ?_)
        · refine E_iinc_n (d := 1) dX6_ownerOf_68 rfl rfl rfl (by decide) rfl ?_
          refine E_goto (tgt := 24) dX6_ownerOf_71 (by decide) ?_
          first
            | exact ih (by omega) _ (by rw [es, cI_t ⟨by omega, by omega⟩]; exact (cI_f (by omega)).symm)
            | exact ih (by omega) _ (by rw [es, cI_f (fun z => by omega), e0]; exact (cI_t rfl).symm)
            | (exfalso; exact nI_nle100 (a := yC (gat (tL c (ru c p)) k)) (by omega) (by assumption))
        · refine E_aload_n dX6_ownerOf_60 rfl ?_
          refine E_getRL dX6_ownerOf_61 kF_X6_22 kY_6 (Or.inr ⟨_, rfl⟩) (l_78 hL) (k_78 hL) (r_78_2 hL) ?_
          refine E_iload dX6_ownerOf_64 rfl ?_
          refine E_ialdL (v := nI (yC (gat (tL c (ru c p)) k))) dX6_ownerOf_66 (l_91 hL) (k_91 hL) rfl (by omega) (by decide) (oc (by omega)) ?_
          refine E_istore_n dX6_ownerOf_67 (Nat.le_of_ble_eq_true rfl) (by decide) rfl ?_
          refine E_iinc_n (d := 1) dX6_ownerOf_68 rfl rfl rfl (by decide) rfl ?_
          refine E_goto (tgt := 24) dX6_ownerOf_71 (by decide) ?_
          first
            | exact ih (by omega) _ (by rw [es, cI_t ⟨by omega, by omega⟩]; exact (cI_f (by omega)).symm)
            | exact ih (by omega) _ (by rw [es, cI_f (fun z => by omega), e0]; exact (cI_t rfl).symm)
            | (exfalso; exact nI_nle100 (a := yC (gat (tL c (ru c p)) k)) (by omega) (by assumption))
  · have hv : v = nI (clE (tL c (ru c p)) p k - 1) := by rw [hv]; exact cI_f e0
    subst hv
    refine E_iload dX6_ownerOf_24 rfl ?_
    refine E_aload_n dX6_ownerOf_26 rfl ?_
    refine E_getRL dX6_ownerOf_27 kF_X6_12 kY_6 (Or.inl ⟨_, rfl⟩) (l_78 hL) (k_78 hL) (r_78_0 hL) ?_
    refine E_getRL dX6_ownerOf_30 kF_X6_89 kY_9 (Or.inr ⟨_, rfl⟩) (l_79 hL) (k_79 hL) (r_79_7 hL) ?_
    refine E_iload_n dX6_ownerOf_33 rfl ?_
    refine E_ialdL (v := nI (tg c _)) dX6_ownerOf_34 (l_87 hL) (k_87 hL) rfl (by omega) (by decide) (hQ.eg (by omega)) ?_
    refine E_icmp_ge_n (tgt := 74) dX6_ownerOf_35 (by decide) (by omega) (by omega) (fun c_35 => ?_) (fun c_35 => ?_)
    · refine E_iload_n dX6_ownerOf_74 rfl ?_
      refine E_iret dX6_ownerOf_75 (Or.inl rfl) ?_
      obtain rfl : k = (tL c (ru c p)).length := by omega
      have e2 : clV (clO c (ru c p) p) = nI (clE (tL c (ru c p)) p (tL c (ru c p)).length - 1) := cI_f e0
      rw [e2] at K
      exact K
    · refine E_aload_n dX6_ownerOf_38 rfl ?_
      refine E_getRL dX6_ownerOf_39 kF_X6_22 kY_6 (Or.inr ⟨_, rfl⟩) (l_78 hL) (k_78 hL) (r_78_2 hL) ?_
      refine E_iload dX6_ownerOf_42 rfl ?_
      refine E_ialdL (v := nI (yC (gat (tL c (ru c p)) k))) dX6_ownerOf_44 (l_91 hL) (k_91 hL) rfl (by omega) (by decide) (oc (by omega)) ?_
      refine E_iload_n dX6_ownerOf_45 rfl ?_
      refine E_icmp_gt_n (tgt := 68) dX6_ownerOf_46 (by decide) (by omega) (by omega) (fun c_46 => ?_) (fun c_46 => ?_)
      · refine E_iinc_n (d := 1) dX6_ownerOf_68 rfl rfl rfl (by decide) rfl ?_
        refine E_goto (tgt := 24) dX6_ownerOf_71 (by decide) ?_
        first
          | exact ih (by omega) _ (by rw [es, cI_t ⟨by omega, by omega⟩]; exact (cI_f (by omega)).symm)
          | exact ih (by omega) _ (by rw [es, cI_f (fun z => by omega)]; exact (cI_f e0).symm)
      · refine E_aload_n dX6_ownerOf_49 rfl ?_
        refine E_getRL dX6_ownerOf_50 kF_X6_22 kY_6 (Or.inr ⟨_, rfl⟩) (l_78 hL) (k_78 hL) (r_78_2 hL) ?_
        refine E_iload dX6_ownerOf_53 rfl ?_
        refine E_ialdL (v := nI (yC (gat (tL c (ru c p)) k))) dX6_ownerOf_55 (l_91 hL) (k_91 hL) rfl (by omega) (by decide) (oc (by omega)) ?_
        refine E_iload_n dX6_ownerOf_56 rfl ?_
        refine E_icmp_le_n (tgt := 68) dX6_ownerOf_57 (by decide) (by omega) (by omega) (fun c_57 => ?_) (fun c_57 => ?_)
        · refine E_iinc_n (d := 1) dX6_ownerOf_68 rfl rfl rfl (by decide) rfl ?_
          refine E_goto (tgt := 24) dX6_ownerOf_71 (by decide) ?_
          first
            | exact ih (by omega) _ (by rw [es, cI_t ⟨by omega, by omega⟩]; exact (cI_f (by omega)).symm)
            | exact ih (by omega) _ (by rw [es, cI_f (fun z => by omega)]; exact (cI_f e0).symm)
        · refine E_aload_n dX6_ownerOf_60 rfl ?_
          refine E_getRL dX6_ownerOf_61 kF_X6_22 kY_6 (Or.inr ⟨_, rfl⟩) (l_78 hL) (k_78 hL) (r_78_2 hL) ?_
          refine E_iload dX6_ownerOf_64 rfl ?_
          refine E_ialdL (v := nI (yC (gat (tL c (ru c p)) k))) dX6_ownerOf_66 (l_91 hL) (k_91 hL) rfl (by omega) (by decide) (oc (by omega)) ?_
          refine E_istore_n dX6_ownerOf_67 (Nat.le_of_ble_eq_true rfl) (by decide) rfl ?_
          refine E_iinc_n (d := 1) dX6_ownerOf_68 rfl rfl rfl (by decide) rfl ?_
          refine E_goto (tgt := 24) dX6_ownerOf_71 (by decide) ?_
          first
            | exact ih (by omega) _ (by rw [es, cI_t ⟨by omega, by omega⟩]; exact (cI_f (by omega)).symm)
            | exact ih (by omega) _ (by rw [es, cI_f (fun z => by omega)]; exact (cI_f e0).symm)
set_option maxRecDepth 100000 in
set_option maxHeartbeats 4000000 in
theorem sp_X6_ownerOf {g : gG} {M : gM} {Q : Option Value ⊕ String → gM → Prop} {c : Cf} {P π : Nat → Nat} (hQ : qC c P π M) {p : Nat} (hp : p < tl c) (K : Q (.inl (some (.int (clV (clO c (ru c p) p))))) M) : E g 1 0 0 mX6_ownerOf 0 [.ref 79, .int (nI p), .null, .null, .null] [] M Q := by
  have hB := hQ.B
  have hL := hB.lay
  have h16 := hQ.t16
  have hn16 := hQ.nr16
  have hg := hQ.g1024
  have hgt : tg c (tr c) ≤ 1024 := hg
  have hru := ru_b hB.wf hp
  have hsb := scr_b c 0 (tl c) p
  have hfb := fcO_b hB.wf p
  refine E_aload_n dX6_ownerOf_0 rfl ?_
  refine E_getRL dX6_ownerOf_1 kF_X6_12 kY_6 (Or.inl ⟨_, rfl⟩) (l_78 hL) (k_78 hL) (r_78_0 hL) ?_
  refine E_getRL dX6_ownerOf_4 kF_X6_96 kY_9 (Or.inr ⟨_, rfl⟩) (l_79 hL) (k_79 hL) (r_79_0 hL) ?_
  refine E_iload_n dX6_ownerOf_7 rfl ?_
  refine E_ialdL (v := nI (ru c _)) dX6_ownerOf_8 (l_80 hL) (k_80 hL) rfl (by omega) (by decide) (hQ.of (by omega)) ?_
  refine E_istore_n dX6_ownerOf_9 (Nat.le_of_ble_eq_true rfl) (by decide) rfl ?_
  refine E_bipush (v := -100) dX6_ownerOf_10 (by decide) ?_
  refine E_istore_n dX6_ownerOf_12 (Nat.le_of_ble_eq_true rfl) (by decide) rfl ?_
  refine E_aload_n dX6_ownerOf_13 rfl ?_
  refine E_getRL dX6_ownerOf_14 kF_X6_12 kY_6 (Or.inl ⟨_, rfl⟩) (l_78 hL) (k_78 hL) (r_78_0 hL) ?_
  refine E_getRL dX6_ownerOf_17 kF_X6_86 kY_9 (Or.inr ⟨_, rfl⟩) (l_79 hL) (k_79 hL) (r_79_6 hL) ?_
  refine E_iload_n dX6_ownerOf_20 rfl ?_
  refine E_ialdL (v := nI (tg c _)) dX6_ownerOf_21 (l_86 hL) (k_86 hL) rfl (by omega) (by decide) (hQ.fg (by omega)) ?_
  refine E_istore dX6_ownerOf_22 (Nat.le_of_ble_eq_true rfl) (by decide) rfl ?_
  exact lp_X6_ownerOf hQ hp K 0 (Nat.zero_le _) _ (cI_t rfl).symm
theorem xor_neg {x y : Int32} (hy : 0 ≤ y) : (x ^^^ y) < 0 ↔ x < 0 := by
  have hm : ∀ z : Int32, z < 0 ↔ z.toBitVec.msb = true := fun z => by
    rw [Int32.lt_iff_toBitVec_slt, show (0 : Int32).toBitVec = 0#32 from rfl, BitVec.slt_zero_iff_msb_cond]
  have hy2 : y.toBitVec.msb = false := by
    cases h : y.toBitVec.msb with
    | false => rfl
    | true => exact absurd ((hm y).mpr h) (Int32.not_lt.mpr hy)
  rw [hm, hm, Int32.toBitVec_xor, BitVec.msb_xor, hy2, Bool.xor_false]
theorem nI_nneg {m : Nat} (h : m < 2 ^ 31) : (0 : Int32) ≤ nI m := by
  have : nI 0 ≤ nI m := (nI_leI (by decide) h).mpr (Nat.zero_le _)
  exact this
theorem sub_eq0 (a b : Int32) : a - b = 0 ↔ b = a := by
  constructor
  · intro h; grind
  · intro h; grind
theorem gFD_fdv {x : Int32} {m : Nat} (h : m < 2 ^ 31) : gFD x (nI m) = fdv x m := by
  unfold gFD fdv
  by_cases hx : x < 0
  · rw [if_pos ((xor_neg (nI_nneg h)).mpr hx)]
    by_cases e : x / nI m * nI m = x
    · rw [if_pos e, cI_f (fun z => z.2 ((sub_eq0 _ _).mpr e))]
      have : nI 0 = (0 : Int32) := rfl
      rw [this]; grind
    · rw [if_neg e, cI_t ⟨hx, fun z => e ((sub_eq0 _ _).mp z)⟩]
      rfl
  · rw [if_neg (fun z => hx ((xor_neg (nI_nneg h)).mp z)), cI_f (fun z => hx z.1)]
    have : nI 0 = (0 : Int32) := rfl
    rw [this]; grind
theorem cl_o {c : Cf} {r p : Nat} : clO c r p ≤ p + 1 := clE_b _ _ _
noncomputable abbrev adK (c : Cf) (r : Nat) (P : Nat → Prop) (k : Nat) : Int32 := adE (tL c r) (tB c r) P k
theorem adE_s {L : List Gl} {B : Pl} {P : Nat → Prop} {k : Nat} : adE L B P (k + 1) = adE L B P k + cI (P (yC (gat L k))) (B 0 k) (nI 0) := rfl
set_option maxRecDepth 100000 in
set_option maxHeartbeats 4000000 in
theorem lp_X6_fromBeginning {g : gG} {M : gM} {Q : Option Value ⊕ String → gM → Prop} {c : Cf} {P π : Nat → Nat} (hQ : qC c P π M) {p : Nat} (hp : p < tl c) {o : Nat} (ho : o ≤ p) (K : Q (.inl (some (.int (adL c (ru c p) o + fdv (adQ c (ru c p) o * nI (p - o)) (eoC c (ru c p) o - o))))) M) : ∀ k, k ≤ (tL c (ru c p)).length → ∀ v5 v6 e, e = eoE (tL c (ru c p)) o (tn c (ru c p + 1)) k → v5 = adE (tL c (ru c p)) (tB c (ru c p)) (fun y => y < o) k → v6 = adE (tL c (ru c p)) (tB c (ru c p)) (fun y => y = o) k → E g 2 0 0 mX6_fromBeginning 42 [.ref 79, .int (nI p), .int (nI (ru c p)), .int (nI o), .int (nI e), .int v5, .int v6, .int (nI (tg c (ru c p) + k))] [] M Q := by
  have hB := hQ.B
  have hL := hB.lay
  have h16 := hQ.t16
  have hn16 := hQ.nr16
  have hg := hQ.g1024
  have hgt : tg c (tr c) ≤ 1024 := hg
  have hru := ru_b hB.wf hp
  have hsb := scr_b c 0 (tl c) p
  have hfb := fcO_b hB.wf p
  have hgs := tg_s c (ru c p)
  have hok := (hQ.r hru.1).1
  have hl64 := hok.1
  have hgm := tg_m c hru.1
  have htn := hQ.tn16 (show ru c p + 1 ≤ tr c by omega)
  refine lpUp (tL c (ru c p)).length (fun k hk ih => ?_)
  intro v5 v6 e he h5 h6
  have hc16 := (hok.at k).2.1
  have heb := eoE_b (tL c (ru c p)) o (tn c (ru c p + 1)) (by omega) k
  rw [← he] at heb
  have oc : k < (tL c (ru c p)).length → mI M 91 (tg c (ru c p) + k) = nI (yC (gat (tL c (ru c p)) k)) := fun z => hQ.oc hru.1 z
  have oa : k < (tL c (ru c p)).length → mI M 92 (tg c (ru c p) + k) = tB c (ru c p) 0 k := fun z => hQ.oa hru.1 z
  have es : eoE (tL c (ru c p)) o (tn c (ru c p + 1)) (k + 1) = cI (o < yC (gat (tL c (ru c p)) k) ∧ yC (gat (tL c (ru c p)) k) < e) (yC (gat (tL c (ru c p)) k)) e := by rw [he]; rfl
  have stp : k < (tL c (ru c p)).length → ∀ v5' v6' e', e' = eoE (tL c (ru c p)) o (tn c (ru c p + 1)) (k + 1) → v5' = v5 + cI (yC (gat (tL c (ru c p)) k) < o) (tB c (ru c p) 0 k) (nI 0) → v6' = v6 + cI (yC (gat (tL c (ru c p)) k) = o) (tB c (ru c p) 0 k) (nI 0) → E g 2 0 0 mX6_fromBeginning 42 [.ref 79, .int (nI p), .int (nI (ru c p)), .int (nI o), .int (nI e'), .int v5', .int v6', .int (nI (tg c (ru c p) + (k + 1)))] [] M Q := fun hkl v5' v6' e' q1 q2 q3 => ih hkl v5' v6' e' q1 (by rw [q2, h5]; rfl) (by rw [q3, h6]; rfl)
  refine E_iload dX6_fromBeginning_42 rfl ?_
  refine E_aload_n dX6_fromBeginning_44 rfl ?_
  refine E_getRL dX6_fromBeginning_45 kF_X6_12 kY_6 (Or.inl ⟨_, rfl⟩) (l_78 hL) (k_78 hL) (r_78_0 hL) ?_
  refine E_getRL dX6_fromBeginning_48 kF_X6_89 kY_9 (Or.inr ⟨_, rfl⟩) (l_79 hL) (k_79 hL) (r_79_7 hL) ?_
  refine E_iload_n dX6_fromBeginning_51 rfl ?_
  refine E_ialdL (v := nI (tg c _)) dX6_fromBeginning_52 (l_87 hL) (k_87 hL) rfl (by omega) (by decide) (hQ.eg (by omega)) ?_
  refine E_icmp_ge_n (tgt := 128) dX6_fromBeginning_53 (by decide) (by omega) (by omega) (fun c_53 => ?_) (fun c_53 => ?_)
  · obtain rfl : k = (tL c (ru c p)).length := by omega
    have e1 : e = eoC c (ru c p) o := he
    rw [← e1] at K
    rw [h5, h6]
    have hne : ¬ nI (e - o) = 0 := fun z => by
      have : e - o = 0 := (nI_eq (by omega) (by decide)).mp z
      omega
    refine E_iload dX6_fromBeginning_128 rfl ?_
    refine E_iload_n dX6_fromBeginning_130 rfl ?_
    refine E_isub_n dX6_fromBeginning_131 (by omega) ?_
    refine E_istore dX6_fromBeginning_132 (Nat.le_of_ble_eq_true rfl) (by decide) rfl ?_
    refine E_iload dX6_fromBeginning_134 rfl ?_
    refine E_if_le_n (tgt := 156) dX6_fromBeginning_136 (by decide) (by omega) (fun c_136 => ?_) (fun c_136 => ?_)
    · refine E_iload dX6_fromBeginning_156 rfl ?_
      refine E_iret dX6_fromBeginning_158 (Or.inl rfl) ?_
      first
        | (exfalso; omega)
        | (rw [gFD_fdv (by omega)]; exact K)
    · refine E_iload dX6_fromBeginning_139 rfl ?_
      refine E_iload dX6_fromBeginning_141 rfl ?_
      refine E_iload_n dX6_fromBeginning_143 rfl ?_
      refine E_iload_n dX6_fromBeginning_144 rfl ?_
      refine E_isub_n dX6_fromBeginning_145 (by omega) ?_
      refine E_imul dX6_fromBeginning_146 ?_
      refine E_iload dX6_fromBeginning_147 rfl ?_
      refine E_kfd (gW_at 1157 (by decide +kernel) (by decide +kernel)) dX6_fromBeginning_149 (by decide) (by exact Nat.le_of_ble_eq_true rfl) (by assumption) ?_
      refine E_iadd dX6_fromBeginning_152 ?_
      refine E_goto (tgt := 158) dX6_fromBeginning_153 (by decide) ?_
      refine E_iret dX6_fromBeginning_158 (Or.inl rfl) ?_
      first
        | (exfalso; omega)
        | (rw [gFD_fdv (by omega)]; exact K)
  · refine E_aload_n dX6_fromBeginning_56 rfl ?_
    refine E_getRL dX6_fromBeginning_57 kF_X6_22 kY_6 (Or.inr ⟨_, rfl⟩) (l_78 hL) (k_78 hL) (r_78_2 hL) ?_
    refine E_iload dX6_fromBeginning_60 rfl ?_
    refine E_ialdL (v := nI (yC (gat (tL c (ru c p)) k))) dX6_fromBeginning_62 (l_91 hL) (k_91 hL) rfl (by omega) (by decide) (oc (by omega)) ?_
    refine E_iload_n dX6_fromBeginning_63 rfl ?_
    refine E_icmp_ge_n (tgt := 82) dX6_fromBeginning_64 (by decide) (by omega) (by omega) (fun c_64 => ?_) (fun c_64 => ?_)
    · refine E_aload_n dX6_fromBeginning_82 rfl ?_
      refine E_getRL dX6_fromBeginning_83 kF_X6_22 kY_6 (Or.inr ⟨_, rfl⟩) (l_78 hL) (k_78 hL) (r_78_2 hL) ?_
      refine E_iload dX6_fromBeginning_86 rfl ?_
      refine E_ialdL (v := nI (yC (gat (tL c (ru c p)) k))) dX6_fromBeginning_88 (l_91 hL) (k_91 hL) rfl (by omega) (by decide) (oc (by omega)) ?_
      refine E_iload_n dX6_fromBeginning_89 rfl ?_
      refine E_icmp_ne_n (tgt := 108) dX6_fromBeginning_90 (by decide) (by omega) (by omega) (fun c_90 => ?_) (fun c_90 => ?_)
      · refine E_iload dX6_fromBeginning_108 rfl ?_
        refine E_aload_n dX6_fromBeginning_110 rfl ?_
        refine E_getRL dX6_fromBeginning_111 kF_X6_22 kY_6 (Or.inr ⟨_, rfl⟩) (l_78 hL) (k_78 hL) (r_78_2 hL) ?_
        refine E_iload dX6_fromBeginning_114 rfl ?_
        refine E_ialdL (v := nI (yC (gat (tL c (ru c p)) k))) dX6_fromBeginning_116 (l_91 hL) (k_91 hL) rfl (by omega) (by decide) (oc (by omega)) ?_
        refine E_kmin_n (gW_at 1156 (by decide +kernel) (by decide +kernel)) dX6_fromBeginning_117 (by decide) (by exact Nat.le_of_ble_eq_true rfl) (by omega) (by omega) ?_
        refine E_istore dX6_fromBeginning_120 (Nat.le_of_ble_eq_true rfl) (by decide) rfl ?_
        refine E_iinc_n (d := 1) dX6_fromBeginning_122 rfl rfl rfl (by decide) rfl ?_
        refine E_goto (tgt := 42) dX6_fromBeginning_125 (by decide) ?_
        first
          | exact stp (by omega) _ _ _ (by rw [es, cI_f (by omega)]) (by rw [cI_t (by omega)]) (by rw [cI_f (by omega), add_n0])
          | exact stp (by omega) _ _ _ (by rw [es, cI_f (by omega)]) (by rw [cI_f (by omega), add_n0]) (by rw [cI_t (by omega)])
          | (refine stp (by omega) _ _ _ ?_ (by rw [cI_f (by omega), add_n0]) (by rw [cI_f (by omega), add_n0])
             rw [es]
             by_cases q : yC (gat (tL c (ru c p)) k) < e
             · rw [cI_t ⟨by omega, q⟩, Nat.min_eq_right (by omega)]
             · rw [cI_f (fun z => q z.2), Nat.min_eq_left (by omega)])
      · refine E_iload dX6_fromBeginning_93 rfl ?_
        refine E_aload_n dX6_fromBeginning_95 rfl ?_
        refine E_getRL dX6_fromBeginning_96 kF_X6_25 kY_6 (Or.inr ⟨_, rfl⟩) (l_78 hL) (k_78 hL) (r_78_3 hL) ?_
        refine E_iload dX6_fromBeginning_99 rfl ?_
        refine E_ialdL (v := tB c (ru c p) 0 k) dX6_fromBeginning_101 (l_92 hL) (k_92 hL) rfl (by omega) (by decide) (oa (by omega)) ?_
        refine E_iadd dX6_fromBeginning_102 ?_
        refine E_istore dX6_fromBeginning_103 (Nat.le_of_ble_eq_true rfl) (by decide) rfl ?_
        refine E_goto (tgt := 122) dX6_fromBeginning_105 (by decide) ?_
        refine E_iinc_n (d := 1) dX6_fromBeginning_122 rfl rfl rfl (by decide) rfl ?_
        refine E_goto (tgt := 42) dX6_fromBeginning_125 (by decide) ?_
        first
          | exact stp (by omega) _ _ _ (by rw [es, cI_f (by omega)]) (by rw [cI_t (by omega)]) (by rw [cI_f (by omega), add_n0])
          | exact stp (by omega) _ _ _ (by rw [es, cI_f (by omega)]) (by rw [cI_f (by omega), add_n0]) (by rw [cI_t (by omega)])
          | (refine stp (by omega) _ _ _ ?_ (by rw [cI_f (by omega), add_n0]) (by rw [cI_f (by omega), add_n0])
             rw [es]
             by_cases q : yC (gat (tL c (ru c p)) k) < e
             · rw [cI_t ⟨by omega, q⟩, Nat.min_eq_right (by omega)]
             · rw [cI_f (fun z => q z.2), Nat.min_eq_left (by omega)])
    · refine E_iload dX6_fromBeginning_67 rfl ?_
      refine E_aload_n dX6_fromBeginning_69 rfl ?_
      refine E_getRL dX6_fromBeginning_70 kF_X6_25 kY_6 (Or.inr ⟨_, rfl⟩) (l_78 hL) (k_78 hL) (r_78_3 hL) ?_
      refine E_iload dX6_fromBeginning_73 rfl ?_
      refine E_ialdL (v := tB c (ru c p) 0 k) dX6_fromBeginning_75 (l_92 hL) (k_92 hL) rfl (by omega) (by decide) (oa (by omega)) ?_
      refine E_iadd dX6_fromBeginning_76 ?_
      refine E_istore dX6_fromBeginning_77 (Nat.le_of_ble_eq_true rfl) (by decide) rfl ?_
      refine E_goto (tgt := 122) dX6_fromBeginning_79 (by decide) ?_
      refine E_iinc_n (d := 1) dX6_fromBeginning_122 rfl rfl rfl (by decide) rfl ?_
      refine E_goto (tgt := 42) dX6_fromBeginning_125 (by decide) ?_
      first
        | exact stp (by omega) _ _ _ (by rw [es, cI_f (by omega)]) (by rw [cI_t (by omega)]) (by rw [cI_f (by omega), add_n0])
        | exact stp (by omega) _ _ _ (by rw [es, cI_f (by omega)]) (by rw [cI_f (by omega), add_n0]) (by rw [cI_t (by omega)])
        | (refine stp (by omega) _ _ _ ?_ (by rw [cI_f (by omega), add_n0]) (by rw [cI_f (by omega), add_n0])
           rw [es]
           by_cases q : yC (gat (tL c (ru c p)) k) < e
           · rw [cI_t ⟨by omega, q⟩, Nat.min_eq_right (by omega)]
           · rw [cI_f (fun z => q z.2), Nat.min_eq_left (by omega)])
set_option maxRecDepth 100000 in
set_option maxHeartbeats 4000000 in
theorem sp_X6_fromBeginning {g : gG} {M : gM} {Q : Option Value ⊕ String → gM → Prop} {c : Cf} {P π : Nat → Nat} (hQ : qC c P π M) {p : Nat} (hp : p < tl c) (K : Q (.inl (some (.int (crF c p)))) M) : E g 2 0 0 mX6_fromBeginning 0 [.ref 79, .int (nI p), .int (nI (ru c p)), .null, .null, .null, .null, .null] [] M Q := by
  have hB := hQ.B
  have hL := hB.lay
  have h16 := hQ.t16
  have hn16 := hQ.nr16
  have hg := hQ.g1024
  have hgt : tg c (tr c) ≤ 1024 := hg
  have hru := ru_b hB.wf hp
  have hsb := scr_b c 0 (tl c) p
  have hfb := fcO_b hB.wf p
  have hco := cl_o (c := c) (r := ru c p) (p := p)
  unfold crF at K
  refine E_aload_n dX6_fromBeginning_0 rfl ?_
  refine E_iload_n dX6_fromBeginning_1 rfl ?_
  refine E_callV1 (fr' := 1) (k1 := 0) (n1 := 0) (k2 := 0) (n2 := 0) dX6_fromBeginning_2 kO_X6_ownerOf kL_X6_107 (l_78 hL) (k_78 hL) ⟨by decide, rfl⟩ rfl (by decide) (by decide) (by exact Nat.le_of_ble_eq_true rfl) rfl ?_
  refine sp_X6_ownerOf hQ hp ?_
  refine gKv ?_
  by_cases e0 : clO c (ru c p) p = 0
  · rw [show clV (clO c (ru c p) p) = -100 by rw [e0]; exact cI_t rfl]
    rw [cI_t e0] at K
    refine E_istore_n dX6_fromBeginning_5 (Nat.le_of_ble_eq_true rfl) (by decide) rfl ?_
    refine E_iload_n dX6_fromBeginning_6 rfl ?_
    refine E_bipush (v := -100) dX6_fromBeginning_7 (by decide) ?_
    refine E_icmp_ne_r (tgt := 14) dX6_fromBeginning_9 (by decide) (fun c0 => absurd c0 (by decide)) (fun _ => ?_)
    refine E_iconst (v := nI 0) dX6_fromBeginning_12 (by decide) ?_
    refine E_iret dX6_fromBeginning_13 (Or.inl rfl) ?_
    exact K
  · rw [show clV (clO c (ru c p) p) = nI (clO c (ru c p) p - 1) from cI_f e0]
    rw [cI_f e0] at K
    have hg0 : tg c (ru c p) = tg c (ru c p) + 0 := rfl
    refine E_istore_n dX6_fromBeginning_5 (Nat.le_of_ble_eq_true rfl) (by decide) rfl ?_
    refine E_iload_n dX6_fromBeginning_6 rfl ?_
    refine E_bipush (v := -100) dX6_fromBeginning_7 (by decide) ?_
    refine E_icmp_ne (tgt := 14) dX6_fromBeginning_9 (by decide) (fun _ => ?_) (fun c0 => absurd (nI_ne100 (by omega)) c0)
    refine E_aload_n dX6_fromBeginning_14 rfl ?_
    refine E_getRL dX6_fromBeginning_15 kF_X6_12 kY_6 (Or.inl ⟨_, rfl⟩) (l_78 hL) (k_78 hL) (r_78_0 hL) ?_
    refine E_getRL dX6_fromBeginning_18 kF_X6_111 kY_9 (Or.inr ⟨_, rfl⟩) (l_79 hL) (k_79 hL) (r_79_5 hL) ?_
    refine E_iload_n dX6_fromBeginning_21 rfl ?_
    refine E_ialdL (v := nI (tn c _)) dX6_fromBeginning_22 (l_85 hL) (k_85 hL) rfl (by omega) (by decide) (hQ.en (by omega)) ?_
    refine E_istore dX6_fromBeginning_23 (Nat.le_of_ble_eq_true rfl) (by decide) rfl ?_
    refine E_iconst (v := nI 0) dX6_fromBeginning_25 (by decide) ?_
    refine E_istore dX6_fromBeginning_26 (Nat.le_of_ble_eq_true rfl) (by decide) rfl ?_
    refine E_iconst (v := nI 0) dX6_fromBeginning_28 (by decide) ?_
    refine E_istore dX6_fromBeginning_29 (Nat.le_of_ble_eq_true rfl) (by decide) rfl ?_
    refine E_aload_n dX6_fromBeginning_31 rfl ?_
    refine E_getRL dX6_fromBeginning_32 kF_X6_12 kY_6 (Or.inl ⟨_, rfl⟩) (l_78 hL) (k_78 hL) (r_78_0 hL) ?_
    refine E_getRL dX6_fromBeginning_35 kF_X6_86 kY_9 (Or.inr ⟨_, rfl⟩) (l_79 hL) (k_79 hL) (r_79_6 hL) ?_
    refine E_iload_n dX6_fromBeginning_38 rfl ?_
    refine E_ialdL (v := nI (tg c _)) dX6_fromBeginning_39 (l_86 hL) (k_86 hL) rfl (by omega) (by decide) (hQ.fg (by omega)) ?_
    refine E_istore dX6_fromBeginning_40 (Nat.le_of_ble_eq_true rfl) (by decide) rfl ?_
    exact lp_X6_fromBeginning hQ hp (by omega) K 0 (Nat.zero_le _) _ _ _ rfl rfl rfl
set_option maxRecDepth 100000 in
set_option maxHeartbeats 4000000 in
theorem sp_X6_caretOf {g : gG} {M : gM} {Q : Option Value ⊕ String → gM → Prop} {c : Cf} {P π : Nat → Nat} (hQ : qC c P π M) {p : Nat} (hp : p < tl c) (K : Q (.inl (some (.int (crt c p)))) M) : E g 3 0 0 mX6_caretOf 0 [.ref 79, .int (nI p), .null, .null] [] M Q := by
  have hB := hQ.B
  have hL := hB.lay
  have h16 := hQ.t16
  have hn16 := hQ.nr16
  have hg := hQ.g1024
  have hgt : tg c (tr c) ≤ 1024 := hg
  have hru := ru_b hB.wf hp
  have hsb := scr_b c 0 (tl c) p
  have hfb := fcO_b hB.wf p
  have ets : tS c (ru c p + 1) = tS c (ru c p) + wdt c 0 (tl c) (ru c p) := rfl
  unfold crt at K
  refine E_aload_n dX6_caretOf_0 rfl ?_
  refine E_getRL dX6_caretOf_1 kF_X6_12 kY_6 (Or.inl ⟨_, rfl⟩) (l_78 hL) (k_78 hL) (r_78_0 hL) ?_
  refine E_getRL dX6_caretOf_4 kF_X6_96 kY_9 (Or.inr ⟨_, rfl⟩) (l_79 hL) (k_79 hL) (r_79_0 hL) ?_
  refine E_iload_n dX6_caretOf_7 rfl ?_
  refine E_ialdL (v := nI (ru c _)) dX6_caretOf_8 (l_80 hL) (k_80 hL) rfl (by omega) (by decide) (hQ.of (by omega)) ?_
  refine E_istore_n dX6_caretOf_9 (Nat.le_of_ble_eq_true rfl) (by decide) rfl ?_
  refine E_aload_n dX6_caretOf_10 rfl ?_
  refine E_iload_n dX6_caretOf_11 rfl ?_
  refine E_iload_n dX6_caretOf_12 rfl ?_
  refine E_callV2 (fr' := 2) (k1 := 0) (n1 := 0) (k2 := 0) (n2 := 0) dX6_caretOf_13 kO_X6_fromBeginning kL_X6_99 (l_78 hL) (k_78 hL) ⟨by decide, rfl⟩ rfl rfl (by decide) (by decide) (by exact Nat.le_of_ble_eq_true rfl) rfl ?_
  refine sp_X6_fromBeginning hQ hp ?_
  refine gKv ?_
  refine E_istore_n dX6_caretOf_16 (Nat.le_of_ble_eq_true rfl) (by decide) rfl ?_
  refine E_aload_n dX6_caretOf_17 rfl ?_
  refine E_getRL dX6_caretOf_18 kF_X6_12 kY_6 (Or.inl ⟨_, rfl⟩) (l_78 hL) (k_78 hL) (r_78_0 hL) ?_
  refine E_getRL dX6_caretOf_21 kF_X6_103 kY_9 (Or.inr ⟨_, rfl⟩) (l_79 hL) (k_79 hL) (r_79_2 hL) ?_
  refine E_iload_n dX6_caretOf_24 rfl ?_
  refine E_zaldL (v := nI (scr c 0 (tl c) p)) dX6_caretOf_25 (l_82 hL) (k_82 hL) rfl (by omega) (by decide) (hQ.sS hp) ?_
  refine E_if_eq_n (tgt := 43) dX6_caretOf_26 (by decide) (by omega) (fun c_26 => ?_) (fun c_26 => ?_)
  · refine E_aload_n dX6_caretOf_43 rfl ?_
    refine E_getRL dX6_caretOf_44 kF_X6_12 kY_6 (Or.inl ⟨_, rfl⟩) (l_78 hL) (k_78 hL) (r_78_0 hL) ?_
    refine E_getRL dX6_caretOf_47 kF_X6_92 kY_9 (Or.inr ⟨_, rfl⟩) (l_79 hL) (k_79 hL) (r_79_8 hL) ?_
    refine E_iload_n dX6_caretOf_50 rfl ?_
    refine E_ialdL (v := tS c _) dX6_caretOf_51 (l_88 hL) (k_88 hL) rfl (by omega) (by decide) (hQ.lf (by omega)) ?_
    refine E_aload_n dX6_caretOf_52 rfl ?_
    refine E_getRL dX6_caretOf_53 kF_X6_12 kY_6 (Or.inl ⟨_, rfl⟩) (l_78 hL) (k_78 hL) (r_78_0 hL) ?_
    refine E_getRL dX6_caretOf_56 kF_X6_93 kY_9 (Or.inr ⟨_, rfl⟩) (l_79 hL) (k_79 hL) (r_79_9 hL) ?_
    refine E_iload_n dX6_caretOf_59 rfl ?_
    refine E_ialdL (v := wdt c 0 (tl c) _) dX6_caretOf_60 (l_89 hL) (k_89 hL) rfl (by omega) (by decide) (hQ.wd (by omega)) ?_
    refine E_iadd dX6_caretOf_61 ?_
    refine E_iload_n dX6_caretOf_62 rfl ?_
    refine E_isub dX6_caretOf_63 ?_
    refine E_iret dX6_caretOf_64 (Or.inl rfl) ?_
    first
      | (rw [cI_t (by omega)] at K; exact K)
      | (rw [cI_f (by omega), ets] at K; exact K)
  · refine E_aload_n dX6_caretOf_29 rfl ?_
    refine E_getRL dX6_caretOf_30 kF_X6_12 kY_6 (Or.inl ⟨_, rfl⟩) (l_78 hL) (k_78 hL) (r_78_0 hL) ?_
    refine E_getRL dX6_caretOf_33 kF_X6_92 kY_9 (Or.inr ⟨_, rfl⟩) (l_79 hL) (k_79 hL) (r_79_8 hL) ?_
    refine E_iload_n dX6_caretOf_36 rfl ?_
    refine E_ialdL (v := tS c _) dX6_caretOf_37 (l_88 hL) (k_88 hL) rfl (by omega) (by decide) (hQ.lf (by omega)) ?_
    refine E_iload_n dX6_caretOf_38 rfl ?_
    refine E_iadd dX6_caretOf_39 ?_
    refine E_goto (tgt := 64) dX6_caretOf_40 (by decide) ?_
    refine E_iret dX6_caretOf_64 (Or.inl rfl) ?_
    first
      | (rw [cI_t (by omega)] at K; exact K)
      | (rw [cI_f (by omega), ets] at K; exact K)
