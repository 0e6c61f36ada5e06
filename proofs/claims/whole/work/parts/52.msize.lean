/-! the reference: the size of a table -/
noncomputable def bgN (P : Nat → Prop) : Nat → Nat
  | 0 => 0
  | k + 1 => bgN P k + cI (P k) (2 ^ k) 0
theorem bgN_b (P : Nat → Prop) : ∀ k, bgN P k < 2 ^ k
  | 0 => Nat.one_pos
  | k + 1 => by
    have ih := bgN_b P k
    have e2 : 2 ^ (k + 1) = 2 ^ k + 2 ^ k := by rw [Nat.pow_succ]; omega
    show bgN P k + cI _ _ _ < _
    by_cases e : P k
    · rw [cI_t e]; omega
    · rw [cI_f e]; omega
theorem or_bit : ∀ x : Fin 256, ∀ k : Fin 8, x.val < 2 ^ k.val → nI x.val ||| (nI 1 <<< (nI k.val &&& 31)) = nI (x.val + 2 ^ k.val) := by decide +kernel
theorem begB_n (P : Nat → Prop) : ∀ k, k ≤ 8 → begB P k = nI (bgN P k)
  | 0, _ => rfl
  | k + 1, h => by
    have ih := begB_n P k (by omega)
    have hb := bgN_b P k
    have h2 : 2 ^ k ≤ 128 := by
      have : 2 ^ k ≤ 2 ^ 7 := Nat.pow_le_pow_right (by decide) (by omega)
      omega
    by_cases e : P k
    · rw [begB_t e, ih, or_bit ⟨bgN P k, by omega⟩ ⟨k, by omega⟩ hb]
      show nI (bgN P k + 2 ^ k) = nI (bgN P k + cI (P k) (2 ^ k) 0)
      rw [cI_t e]
    · rw [begB_f e, ih]
      show nI (bgN P k) = nI (bgN P k + cI (P k) (2 ^ k) 0)
      rw [cI_f e]; rfl
def begP (c : Cf) (f l g k : Nat) : Prop := isAt c f (rul c l k (leadOf (cN c 130 l))) g
noncomputable def bgB (c : Cf) (f l g : Nat) : Nat := bgN (begP c f l g) (cN c 135 l)
theorem bgB_b {c : Cf} (h : WFc c) (f l g : Nat) : bgB c f l g < 256 := by
  have h8 := (h.lk l).2.2.2.2.2
  have h1 := bgN_b (begP c f l g) (cN c 135 l)
  have : 2 ^ cN c 135 l ≤ 2 ^ 8 := Nat.pow_le_pow_right (by decide) h8
  unfold bgB; omega
def pcN : Nat → Nat → Nat
  | 0, _ => 0
  | t + 1, x => x % 2 + pcN t (x / 2)
theorem pcN_0 : ∀ t, pcN t 0 = 0
  | 0 => rfl
  | t + 1 => by show 0 % 2 + pcN t (0 / 2) = 0; rw [pcN_0 t]
theorem pcN_b : ∀ t x, pcN t x ≤ t
  | 0, _ => Nat.le_refl _
  | t + 1, x => by
    have := pcN_b t (x / 2)
    show x % 2 + pcN t (x / 2) ≤ t + 1
    omega
set_option maxRecDepth 100000 in
set_option maxHeartbeats 4000000 in
theorem sp_X12_beginsN {g : gG} {M : gM} {Q : Option Value ⊕ String → gM → Prop} {c : Cf} (h : bS c M) {l g0 : Nat} (hl : l < 24) (hg : g0 < 256) (K : Q (.inl (some (.int (nI (bgB c (fc0 c) l g0))))) M) : E g 2 0 0 mX12_begins 0 [.ref 129, .int (nI l), .int (nI g0), .null, .null, .null] [] M Q := by
  have h8 := (h.wf.lk l)
  refine sp_X12_begins h.lay (fc := fc0 c) (h.gc (Or.inr ⟨rfl, by decide⟩)) h.wf.fac (kd := cN c 130 l) (r := cN c 135 l) hl hg (h.gg _ _ (by decide)) h8.2.2.2.2.2 h8.1 (h.gg _ _ (by decide)) ?_
  have e : begB (iBg M (fc0 c) l (cN c 130 l) g0) (cN c 135 l) = nI (bgB c (fc0 c) l g0) := by
    show _ = nI (bgN (begP c (fc0 c) l g0) (cN c 135 l))
    rw [← begB_n _ _ h8.2.2.2.2.2]
    refine begB_congr (fun k hk => ?_)
    unfold begP isAt rul
    show iOf M (fc0 c) (mI M 136 (6 * (8 * l + k) + leadOf (cN c 130 l))) g0 ↔ _
    unfold iOf
    rw [h.gr, h.gg 138 _ (by decide)]
  rw [e]
  exact K
set_option maxRecDepth 100000 in
set_option maxHeartbeats 4000000 in
theorem lp_X12_count {g : gG} {M : gM} {Q : Option Value ⊕ String → gM → Prop} {x0 tot : Nat} (htt : tot ≤ 100) (K : Q (.inl (some (.int (nI tot)))) M) : ∀ t x m, x < 2 ^ t → t ≤ 20 → m + pcN t x = tot → E g 1 0 0 mX12_count 4 [.int (nI x0), .int (nI m), .int (nI x)] [] M Q := by
  intro t
  induction t with
  | zero =>
    intro x m hx ht he
    have hx : x = 0 := by simpa using hx
    have he : m + 0 = tot := he
    refine E_iload_n dX12_count_4 rfl ?_
    refine E_if_le_n (tgt := 21) dX12_count_5 (by decide) (by omega) (fun c_5 => ?_) (fun c_5 => ?_)
    · refine E_iload_n dX12_count_21 rfl ?_
      refine E_iret dX12_count_22 (Or.inl rfl) ?_
      rw [show m = tot by omega]; exact K
    · exfalso; omega
  | succ t ih =>
    intro x m hx ht he
    have e2 : 2 ^ (t + 1) = 2 ^ t + 2 ^ t := by rw [Nat.pow_succ]; omega
    have e3 : 2 ^ t ≤ 2 ^ 20 := Nat.pow_le_pow_right (by decide) (by omega)
    have he : m + (x % 2 + pcN t (x / 2)) = tot := he
    refine E_iload_n dX12_count_4 rfl ?_
    refine E_if_le_n (tgt := 21) dX12_count_5 (by decide) (by omega) (fun c_5 => ?_) (fun c_5 => ?_)
    · refine E_iload_n dX12_count_21 rfl ?_
      refine E_iret dX12_count_22 (Or.inl rfl) ?_
      subst c_5
      have := pcN_0 t
      rw [show m = tot by simp [this] at he; omega]; exact K
    · refine E_iload_n dX12_count_8 rfl ?_
      refine E_iload_n dX12_count_9 rfl ?_
      refine E_iconst (v := nI 2) dX12_count_10 (by decide) ?_
      refine E_irem_n dX12_count_11 (by omega) (by omega) (by omega) ?_
      refine E_iadd_n dX12_count_12 ?_
      refine E_istore_n dX12_count_13 (Nat.le_of_ble_eq_true rfl) (by decide) rfl ?_
      refine E_iload_n dX12_count_14 rfl ?_
      refine E_iconst (v := nI 2) dX12_count_15 (by decide) ?_
      refine E_idiv_n dX12_count_16 (by omega) (by omega) (by omega) ?_
      refine E_istore_n dX12_count_17 (Nat.le_of_ble_eq_true rfl) (by decide) rfl ?_
      refine E_goto (tgt := 4) dX12_count_18 (by decide) ?_
      exact ih _ _ (by omega) (by omega) (by omega)
set_option maxRecDepth 100000 in
set_option maxHeartbeats 4000000 in
theorem sp_X12_count {g : gG} {M : gM} {Q : Option Value ⊕ String → gM → Prop} {x : Nat} (hx : x < 256) (K : Q (.inl (some (.int (nI (pcN 8 x))))) M) : E g 1 0 0 mX12_count 0 [.int (nI x), .null, .null] [] M Q := by
  refine E_iconst (v := nI 0) dX12_count_0 (by decide) ?_
  refine E_istore_n dX12_count_1 (Nat.le_of_ble_eq_true rfl) (by decide) rfl ?_
  refine E_iload_n dX12_count_2 rfl ?_
  refine E_istore_n dX12_count_3 (Nat.le_of_ble_eq_true rfl) (by decide) rfl ?_
  exact lp_X12_count (by have := pcN_b 8 x; omega) K 8 x 0 hx (by decide) (Nat.zero_add _)
def seen (b : Nat → Nat) (k x : Nat) : Prop := x = 0 ∨ ∃ j, j < k ∧ b j = x
noncomputable def szS (b : Nat → Nat) : Nat → Nat
  | 0 => 0
  | k + 1 => szS b k + cI (b k = 0) 0 1 + cI (seen b k (b k)) 0 (pcN 8 (b k))
theorem szS_b (b : Nat → Nat) : ∀ k, szS b k ≤ 9 * k
  | 0 => Nat.le_refl _
  | k + 1 => by
    have ih := szS_b b k
    have := pcN_b 8 (b k)
    show szS b k + cI _ _ _ + cI _ _ _ ≤ _
    have h1 : cI (b k = 0) 0 1 ≤ 1 := by
      by_cases e : b k = 0
      · rw [cI_t e]; omega
      · rw [cI_f e]; omega
    have h2 : cI (seen b k (b k)) 0 (pcN 8 (b k)) ≤ 8 := by
      by_cases e : seen b k (b k)
      · rw [cI_t e]; omega
      · rw [cI_f e]; omega
    omega
theorem seen_s {b : Nat → Nat} {k x : Nat} : seen b (k + 1) x ↔ seen b k x ∨ b k = x := by
  unfold seen
  constructor
  · rintro (q | ⟨j, q1, q2⟩)
    · exact Or.inl (Or.inl q)
    · by_cases e : j = k
      · subst e; exact Or.inr q2
      · exact Or.inl (Or.inr ⟨j, by omega, q2⟩)
  · rintro ((q | ⟨j, q1, q2⟩) | q)
    · exact Or.inl q
    · exact Or.inr ⟨j, by omega, q2⟩
    · exact Or.inr ⟨k, by omega, q⟩
def seR (a j : Nat) : Prop := a = 176 ∨ (a = 128 ∧ j = 0)
theorem seR_q (a j : Nat) (h : seR a j) : qR a j := by unfold seR at h; unfold qR; omega
def seS (b : Nat → Nat) (k : Nat) (M : gM) : Prop := ∀ x, x < 256 → mI M 176 x = nI (cI (seen b k x) 1 0)
noncomputable def szV (c : Cf) (j : Nat) : Nat := szS (bgB c (fc0 c) (at0 c j)) 256
set_option maxRecDepth 100000 in
set_option maxHeartbeats 4000000 in
theorem lp_X12_size {g : gG} {Q : Option Value ⊕ String → gM → Prop} {c : Cf} {M0 : gM} {j : Nat} (h0 : bS c M0) (hj : j < 12) (K : ∀ M', fr seR M0 M' → mI M' 128 0 = mI M0 128 0 → Q (.inl (some (.int (nI (szV c j))))) M') : ∀ k, k ≤ 256 → ∀ M s v4, fr seR M0 M → mI M 128 0 = mI M0 128 0 → seS (bgB c (fc0 c) (at0 c j)) k M → s = szS (bgB c (fc0 c) (at0 c j)) k → E g 3 0 0 mX12_size 60 [.ref 129, .int (nI j), .int (nI s), .int (nI k), v4] [] M Q := by
  refine lpUp 256 (fun k hk ih => ?_)
  intro M s v4 hF hz hS hs
  have h := qbS h0 (hF.mono seR_q)
  have hL := h.lay
  have hfc := h.wf.fac
  have hsb := szS_b (bgB c (fc0 c) (at0 c j)) k
  have hbb := bgB_b h.wf (fc0 c) (at0 c j) k
  have hbb : bgB c (fc0 c) (12 * cN c 128 1 + j) k < 256 := hbb
  have hpc := pcN_b 8 (bgB c (fc0 c) (12 * cN c 128 1 + j) k)
  have es : szS (bgB c (fc0 c) (at0 c j)) (k + 1) = szS (bgB c (fc0 c) (at0 c j)) k + cI ((bgB c (fc0 c) (at0 c j)) k = 0) 0 1 + cI (seen (bgB c (fc0 c) (at0 c j)) k ((bgB c (fc0 c) (at0 c j)) k)) 0 (pcN 8 ((bgB c (fc0 c) (at0 c j)) k)) := rfl
  have hsk := hS (bgB c (fc0 c) (12 * cN c 128 1 + j) k) hbb
  have step : k < 256 → ∀ s', s' = szS (bgB c (fc0 c) (at0 c j)) (k + 1) → ∀ v4, E g 3 0 0 mX12_size 60 [.ref 129, .int (nI j), .int (nI s'), .int (nI (k + 1)), v4] [] (sI M 176 ((bgB c (fc0 c) (at0 c j)) k) (nI 1)) Q := fun hk2 s' e v4 =>
    ih hk2 _ _ _ (hF.wr (Or.inl rfl)) ((mI_ne (by decide)).trans hz) (fun x hx => by
      by_cases q : x = (bgB c (fc0 c) (at0 c j)) k
      · subst q; rw [mI_eq, cI_t (seen_s.mpr (Or.inr rfl))]
      · rw [mI_nj q, hS x hx]
        rw [cI_congr (seen_s (b := bgB c (fc0 c) (at0 c j)) (k := k) (x := x)), cI_congr (show seen (bgB c (fc0 c) (at0 c j)) k x ↔ seen (bgB c (fc0 c) (at0 c j)) k x ∨ (bgB c (fc0 c) (at0 c j)) k = x from ⟨Or.inl, fun z => z.elim id (fun z => absurd z.symm q)⟩)]) e
  by_cases e : seen (bgB c (fc0 c) (at0 c j)) k ((bgB c (fc0 c) (at0 c j)) k)
  · rw [cI_t e] at hsk
    rw [cI_t e] at es
    refine E_iload_n dX12_size_60 rfl ?_
    refine E_sipush (v := nI 256) dX12_size_61 (by decide) ?_
    refine E_icmp_ge_n (tgt := 132) dX12_size_64 (by decide) (by omega) (by omega) (fun c_64 => ?_) (fun c_64 => ?_)
    · refine E_iload_n dX12_size_132 rfl ?_
      refine E_iret dX12_size_133 (Or.inl rfl) ?_
      obtain rfl : k = 256 := by omega
      subst hs
      exact K M hF hz
    · refine E_aload_n dX12_size_67 rfl ?_
      refine E_bipush (v := nI 12) dX12_size_68 (by decide) ?_
      refine E_aload_n dX12_size_70 rfl ?_
      refine E_getIL (v := nI (cN _ 128 1)) dX12_size_71 kF_X12_169 kY_12 (Or.inl rfl) (l_128 hL) (k_128 hL) (h.gc (Or.inr ⟨rfl, by decide⟩)) ?_
      refine E_imul_n dX12_size_74 ?_
      refine E_iload_n dX12_size_75 rfl ?_
      refine E_iadd_n dX12_size_76 ?_
      refine E_iload_n dX12_size_77 rfl ?_
      refine E_callV2 (fr' := 2) (k1 := 0) (n1 := 0) (k2 := 0) (n2 := 0) dX12_size_78 kO_X12_begins kL_X12_211 (l_128 hL) (k_128 hL) ⟨by decide, rfl⟩ rfl rfl (by decide) (by decide) (by exact Nat.le_of_ble_eq_true rfl) rfl ?_
      refine sp_X12_beginsN h (by omega) (by omega) ?_
      refine gKv ?_
      refine E_istore dX12_size_81 (Nat.le_of_ble_eq_true rfl) (by decide) rfl ?_
      refine E_iload_n dX12_size_83 rfl ?_
      refine E_iload dX12_size_84 rfl ?_
      refine E_if_ne_n (tgt := 93) dX12_size_86 (by decide) (by omega) (fun c_86 => ?_) (fun c_86 => ?_)
      · refine E_iconst (v := nI 1) dX12_size_93 (by decide) ?_
        refine E_iadd_n dX12_size_94 ?_
        refine E_istore_n dX12_size_95 (Nat.le_of_ble_eq_true rfl) (by decide) rfl ?_
        refine E_iload_n dX12_size_96 rfl ?_
        refine E_aload_n dX12_size_97 rfl ?_
        refine E_getRL dX12_size_98 kF_X12_156 kY_12 (Or.inr ⟨_, rfl⟩) (l_128 hL) (k_128 hL) (r_128_56 hL) ?_
        refine E_iload dX12_size_101 rfl ?_
        refine E_zaldL (v := nI 1) dX12_size_103 (l_176 hL) (k_176 hL) rfl (by first | omega | exact h.n256 _) (by decide) hsk ?_
        refine E_if_eq (tgt := 111) dX12_size_104 (by decide) (fun c0 => absurd c0 (by decide)) (fun _ => ?_)
        refine E_iconst (v := nI 0) dX12_size_107 (by decide) ?_
        refine E_goto (tgt := 116) dX12_size_108 (by decide) ?_
        refine E_iadd_n dX12_size_116 ?_
        refine E_istore_n dX12_size_117 (Nat.le_of_ble_eq_true rfl) (by decide) rfl ?_
        refine E_aload_n dX12_size_118 rfl ?_
        refine E_getRL dX12_size_119 kF_X12_156 kY_12 (Or.inr ⟨_, rfl⟩) (l_128 hL) (k_128 hL) (r_128_56 hL) ?_
        refine E_iload dX12_size_122 rfl ?_
        refine E_iconst (v := nI 1) dX12_size_124 (by decide) ?_
        refine E_zast dX12_size_125 (l_176 hL) (k_176 hL) rfl (by first | omega | exact h.n256 _) (by decide) (by decide) ?_
        refine E_iinc_n (d := 1) dX12_size_126 rfl rfl rfl (by decide) rfl ?_
        refine E_goto (tgt := 60) dX12_size_129 (by decide) ?_
        refine step (by omega) _ ?_ _
        rw [es]
        first
          | (rw [cI_t (show bgB c (fc0 c) (at0 c j) k = 0 by assumption)]; omega)
          | (rw [cI_f (show ¬ bgB c (fc0 c) (at0 c j) k = 0 from Nat.pos_iff_ne_zero.mp (by assumption))]; omega)
      · refine E_iconst (v := nI 0) dX12_size_89 (by decide) ?_
        refine E_goto (tgt := 94) dX12_size_90 (by decide) ?_
        refine E_iadd_n dX12_size_94 ?_
        refine E_istore_n dX12_size_95 (Nat.le_of_ble_eq_true rfl) (by decide) rfl ?_
        refine E_iload_n dX12_size_96 rfl ?_
        refine E_aload_n dX12_size_97 rfl ?_
        refine E_getRL dX12_size_98 kF_X12_156 kY_12 (Or.inr ⟨_, rfl⟩) (l_128 hL) (k_128 hL) (r_128_56 hL) ?_
        refine E_iload dX12_size_101 rfl ?_
        refine E_zaldL (v := nI 1) dX12_size_103 (l_176 hL) (k_176 hL) rfl (by first | omega | exact h.n256 _) (by decide) hsk ?_
        refine E_if_eq (tgt := 111) dX12_size_104 (by decide) (fun c0 => absurd c0 (by decide)) (fun _ => ?_)
        refine E_iconst (v := nI 0) dX12_size_107 (by decide) ?_
        refine E_goto (tgt := 116) dX12_size_108 (by decide) ?_
        refine E_iadd_n dX12_size_116 ?_
        refine E_istore_n dX12_size_117 (Nat.le_of_ble_eq_true rfl) (by decide) rfl ?_
        refine E_aload_n dX12_size_118 rfl ?_
        refine E_getRL dX12_size_119 kF_X12_156 kY_12 (Or.inr ⟨_, rfl⟩) (l_128 hL) (k_128 hL) (r_128_56 hL) ?_
        refine E_iload dX12_size_122 rfl ?_
        refine E_iconst (v := nI 1) dX12_size_124 (by decide) ?_
        refine E_zast dX12_size_125 (l_176 hL) (k_176 hL) rfl (by first | omega | exact h.n256 _) (by decide) (by decide) ?_
        refine E_iinc_n (d := 1) dX12_size_126 rfl rfl rfl (by decide) rfl ?_
        refine E_goto (tgt := 60) dX12_size_129 (by decide) ?_
        refine step (by omega) _ ?_ _
        rw [es]
        first
          | (rw [cI_t (show bgB c (fc0 c) (at0 c j) k = 0 by assumption)]; omega)
          | (rw [cI_f (show ¬ bgB c (fc0 c) (at0 c j) k = 0 from Nat.pos_iff_ne_zero.mp (by assumption))]; omega)
  · rw [cI_f e] at hsk
    rw [cI_f e] at es
    have hnz : ¬ bgB c (fc0 c) (at0 c j) k = 0 := fun q => e (Or.inl q)
    refine E_iload_n dX12_size_60 rfl ?_
    refine E_sipush (v := nI 256) dX12_size_61 (by decide) ?_
    refine E_icmp_ge_n (tgt := 132) dX12_size_64 (by decide) (by omega) (by omega) (fun c_64 => ?_) (fun c_64 => ?_)
    · refine E_iload_n dX12_size_132 rfl ?_
      refine E_iret dX12_size_133 (Or.inl rfl) ?_
      obtain rfl : k = 256 := by omega
      subst hs
      exact K M hF hz
    · refine E_aload_n dX12_size_67 rfl ?_
      refine E_bipush (v := nI 12) dX12_size_68 (by decide) ?_
      refine E_aload_n dX12_size_70 rfl ?_
      refine E_getIL (v := nI (cN _ 128 1)) dX12_size_71 kF_X12_169 kY_12 (Or.inl rfl) (l_128 hL) (k_128 hL) (h.gc (Or.inr ⟨rfl, by decide⟩)) ?_
      refine E_imul_n dX12_size_74 ?_
      refine E_iload_n dX12_size_75 rfl ?_
      refine E_iadd_n dX12_size_76 ?_
      refine E_iload_n dX12_size_77 rfl ?_
      refine E_callV2 (fr' := 2) (k1 := 0) (n1 := 0) (k2 := 0) (n2 := 0) dX12_size_78 kO_X12_begins kL_X12_211 (l_128 hL) (k_128 hL) ⟨by decide, rfl⟩ rfl rfl (by decide) (by decide) (by exact Nat.le_of_ble_eq_true rfl) rfl ?_
      refine sp_X12_beginsN h (by omega) (by omega) ?_
      refine gKv ?_
      refine E_istore dX12_size_81 (Nat.le_of_ble_eq_true rfl) (by decide) rfl ?_
      refine E_iload_n dX12_size_83 rfl ?_
      refine E_iload dX12_size_84 rfl ?_
      refine E_if_ne_n (tgt := 93) dX12_size_86 (by decide) (by omega) (fun c_86 => ?_) (fun c_86 => ?_)
      · refine E_iconst (v := nI 1) dX12_size_93 (by decide) ?_
        refine E_iadd_n dX12_size_94 ?_
        refine E_istore_n dX12_size_95 (Nat.le_of_ble_eq_true rfl) (by decide) rfl ?_
        refine E_iload_n dX12_size_96 rfl ?_
        refine E_aload_n dX12_size_97 rfl ?_
        refine E_getRL dX12_size_98 kF_X12_156 kY_12 (Or.inr ⟨_, rfl⟩) (l_128 hL) (k_128 hL) (r_128_56 hL) ?_
        refine E_iload dX12_size_101 rfl ?_
        refine E_zaldL (v := nI 0) dX12_size_103 (l_176 hL) (k_176 hL) rfl (by first | omega | exact h.n256 _) (by decide) hsk ?_
        refine E_if_eq (tgt := 111) dX12_size_104 (by decide) (fun _ => ?_) (fun c0 => absurd (by decide) c0)
        refine E_iload dX12_size_111 rfl ?_
        refine E_callS1 (fr' := 1) (k1 := 0) (n1 := 0) (k2 := 0) (n2 := 0) dX12_size_113 kO_X12_count kL_X12_215 rfl (by decide) (by decide) (by exact Nat.le_of_ble_eq_true rfl) (Or.inl rfl) rfl ?_
        refine sp_X12_count (by omega) ?_
        refine gKv ?_
        refine E_iadd_n dX12_size_116 ?_
        refine E_istore_n dX12_size_117 (Nat.le_of_ble_eq_true rfl) (by decide) rfl ?_
        refine E_aload_n dX12_size_118 rfl ?_
        refine E_getRL dX12_size_119 kF_X12_156 kY_12 (Or.inr ⟨_, rfl⟩) (l_128 hL) (k_128 hL) (r_128_56 hL) ?_
        refine E_iload dX12_size_122 rfl ?_
        refine E_iconst (v := nI 1) dX12_size_124 (by decide) ?_
        refine E_zast dX12_size_125 (l_176 hL) (k_176 hL) rfl (by first | omega | exact h.n256 _) (by decide) (by decide) ?_
        refine E_iinc_n (d := 1) dX12_size_126 rfl rfl rfl (by decide) rfl ?_
        refine E_goto (tgt := 60) dX12_size_129 (by decide) ?_
        first
          | exact absurd (show bgB c (fc0 c) (at0 c j) k = 0 by assumption) hnz
          | (refine step (by omega) _ ?_ _
             rw [es, cI_f hnz]
             have e5 : pcN 8 (bgB c (fc0 c) (at0 c j) k) = pcN 8 (bgB c (fc0 c) (12 * cN c 128 1 + j) k) := rfl
             omega)
      · refine E_iconst (v := nI 0) dX12_size_89 (by decide) ?_
        refine E_goto (tgt := 94) dX12_size_90 (by decide) ?_
        refine E_iadd_n dX12_size_94 ?_
        refine E_istore_n dX12_size_95 (Nat.le_of_ble_eq_true rfl) (by decide) rfl ?_
        refine E_iload_n dX12_size_96 rfl ?_
        refine E_aload_n dX12_size_97 rfl ?_
        refine E_getRL dX12_size_98 kF_X12_156 kY_12 (Or.inr ⟨_, rfl⟩) (l_128 hL) (k_128 hL) (r_128_56 hL) ?_
        refine E_iload dX12_size_101 rfl ?_
        refine E_zaldL (v := nI 0) dX12_size_103 (l_176 hL) (k_176 hL) rfl (by first | omega | exact h.n256 _) (by decide) hsk ?_
        refine E_if_eq (tgt := 111) dX12_size_104 (by decide) (fun _ => ?_) (fun c0 => absurd (by decide) c0)
        refine E_iload dX12_size_111 rfl ?_
        refine E_callS1 (fr' := 1) (k1 := 0) (n1 := 0) (k2 := 0) (n2 := 0) dX12_size_113 kO_X12_count kL_X12_215 rfl (by decide) (by decide) (by exact Nat.le_of_ble_eq_true rfl) (Or.inl rfl) rfl ?_
        refine sp_X12_count (by omega) ?_
        refine gKv ?_
        refine E_iadd_n dX12_size_116 ?_
        refine E_istore_n dX12_size_117 (Nat.le_of_ble_eq_true rfl) (by decide) rfl ?_
        refine E_aload_n dX12_size_118 rfl ?_
        refine E_getRL dX12_size_119 kF_X12_156 kY_12 (Or.inr ⟨_, rfl⟩) (l_128 hL) (k_128 hL) (r_128_56 hL) ?_
        refine E_iload dX12_size_122 rfl ?_
        refine E_iconst (v := nI 1) dX12_size_124 (by decide) ?_
        refine E_zast dX12_size_125 (l_176 hL) (k_176 hL) rfl (by first | omega | exact h.n256 _) (by decide) (by decide) ?_
        refine E_iinc_n (d := 1) dX12_size_126 rfl rfl rfl (by decide) rfl ?_
        refine E_goto (tgt := 60) dX12_size_129 (by decide) ?_
        first
          | exact absurd (show bgB c (fc0 c) (at0 c j) k = 0 by assumption) hnz
          | (refine step (by omega) _ ?_ _
             rw [es, cI_f hnz]
             have e5 : pcN 8 (bgB c (fc0 c) (at0 c j) k) = pcN 8 (bgB c (fc0 c) (12 * cN c 128 1 + j) k) := rfl
             omega)
set_option maxRecDepth 100000 in
set_option maxHeartbeats 4000000 in
theorem lp0_X12_size {g : gG} {Q : Option Value ⊕ String → gM → Prop} {c : Cf} {M0 : gM} {j : Nat} (h0 : bS c M0) (K : ∀ M v2 v3 v4, fr seR M0 M → mI M 128 0 = mI M0 128 0 → seS (bgB c (fc0 c) (at0 c j)) 0 M → E g 3 0 0 mX12_size 56 [.ref 129, .int (nI j), v2, v3, v4] [] M Q) : ∀ k, k ≤ 256 → ∀ M v3 v4, fr seR M0 M → mI M 128 0 = mI M0 128 0 → (∀ x, x < k → mI M 176 x = nI (cI (seen (bgB c (fc0 c) (at0 c j)) 0 x) 1 0)) → E g 3 0 0 mX12_size 28 [.ref 129, .int (nI j), .int (nI k), v3, v4] [] M Q := by
  refine lpUp 256 (fun k hk ih => ?_)
  intro M v3 v4 hF hz hS
  have h := qbS h0 (hF.mono seR_q)
  have hL := h.lay
  have s0 : seen (bgB c (fc0 c) (at0 c j)) 0 k ↔ k = 0 := ⟨fun q => q.elim id (fun ⟨j, q1, _⟩ => by omega), Or.inl⟩
  have step : k < 256 → ∀ w, w = cI (k = 0) 1 0 → E g 3 0 0 mX12_size 28 [.ref 129, .int (nI j), .int (nI (k + 1)), v3, v4] [] (sI M 176 k (nI w)) Q := fun hk2 w e =>
    ih hk2 _ _ _ (hF.wr (Or.inl rfl)) ((mI_ne (by decide)).trans hz) (fun x hx => by
      by_cases q : x = k
      · subst q; rw [mI_eq, e, cI_congr s0]
      · rw [mI_nj q]; exact hS x (by omega))
  refine E_iload_n dX12_size_28 rfl ?_
  refine E_sipush (v := nI 256) dX12_size_29 (by decide) ?_
  refine E_icmp_ge_n (tgt := 56) dX12_size_32 (by decide) (by omega) (by omega) (fun c_32 => ?_) (fun c_32 => ?_)
  · obtain rfl : k = 256 := by omega
    exact K M _ _ _ hF hz hS
  · refine E_aload_n dX12_size_35 rfl ?_
    refine E_getRL dX12_size_36 kF_X12_156 kY_12 (Or.inr ⟨_, rfl⟩) (l_128 hL) (k_128 hL) (r_128_56 hL) ?_
    refine E_iload_n dX12_size_39 rfl ?_
    refine E_iload_n dX12_size_40 rfl ?_
    refine E_if_ne_n (tgt := 48) dX12_size_41 (by decide) (by omega) (fun c_41 => ?_) (fun c_41 => ?_)
    · refine E_iconst (v := nI 0) dX12_size_48 (by decide) ?_
      refine E_zast dX12_size_49 (l_176 hL) (k_176 hL) rfl (by first | omega | exact h.n256 _) (by decide) (by decide) ?_
      refine E_iinc_n (d := 1) dX12_size_50 rfl rfl rfl (by decide) rfl ?_
      refine E_goto (tgt := 28) dX12_size_53 (by decide) ?_
      first
        | exact step (by omega) _ (cI_t (by omega)).symm
        | exact step (by omega) _ (cI_f (by omega)).symm
    · refine E_iconst (v := nI 1) dX12_size_44 (by decide) ?_
      refine E_goto (tgt := 49) dX12_size_45 (by decide) ?_
      refine E_zast dX12_size_49 (l_176 hL) (k_176 hL) rfl (by first | omega | exact h.n256 _) (by decide) (by decide) ?_
      refine E_iinc_n (d := 1) dX12_size_50 rfl rfl rfl (by decide) rfl ?_
      refine E_goto (tgt := 28) dX12_size_53 (by decide) ?_
      first
        | exact step (by omega) _ (cI_t (by omega)).symm
        | exact step (by omega) _ (cI_f (by omega)).symm
set_option maxRecDepth 100000 in
set_option maxHeartbeats 4000000 in
theorem o_size {g : gG} {M : gM} {Q : Option Value ⊕ String → gM → Prop} {c : Cf} (h : bS c M) {p : Int32} (K1 : ¬ iBel p (cnt0 c) → ∀ M', bS (c) M' → fr refR M M' → mI M' 128 0 = nI 1 → Q (.inl (some (.int (nI 0)))) M') (K0 : ∀ j, j < cnt0 c → p = nI j → ∀ M', bS (c) M' → fr refR M M' → mI M' 128 0 = nI 0 → Q (.inl (some (.int (nI (szV c j))))) M') : E g 3 0 0 mX12_size 0 [.ref 129, .int p, .null, .null, .null] [] M Q := by
  have hL := h.lay
  have hfc := h.wf.fac
  have hct := h.wf.ct (cN c 128 1)
  refine E_aload_n dX12_size_0 rfl ?_
  refine E_aload_n dX12_size_1 rfl ?_
  refine E_iload_n dX12_size_2 rfl ?_
  refine E_callV1 (fr' := 2) (k1 := 0) (n1 := 0) (k2 := 0) (n2 := 0) dX12_size_3 kO_X12_isLookup kL_X12_194 (l_128 hL) (k_128 hL) ⟨by decide, rfl⟩ rfl (by decide) (by decide) (by exact Nat.le_of_ble_eq_true rfl) rfl ?_
  refine sp_X12_isLookup hL (h.gc (Or.inr ⟨rfl, by decide⟩)) hfc (h.gg 129 (cN c 128 1) (by decide)) hct ?_
  refine gKv ?_
  refine E_if_eq_b (tgt := 13) dX12_size_6 (by decide) (fun c_6 => ?_) (fun c_6 => ?_)
  · refine E_iconst (v := nI 1) dX12_size_13 (by decide) ?_
    refine E_putI dX12_size_14 kF_X12_166 kY_12 (Or.inl rfl) (l_128 hL) (k_128 hL) (Or.inl rfl) ?_
    refine E_aload_n dX12_size_17 rfl ?_
    refine E_getIL (v := nI 1) dX12_size_18 kF_X12_166 kY_12 (Or.inl rfl) (l_128 hL) (k_128 hL) rfl ?_
    refine E_if_le (tgt := 26) dX12_size_21 (by decide) (fun c0 => absurd c0 (by decide)) (fun _ => ?_)
    refine E_iconst (v := nI 0) dX12_size_24 (by decide) ?_
    refine E_iret dX12_size_25 (Or.inl rfl) ?_
    exact K1 c_6 _ (h.t _) frt mI_eq
  · have hb : iBel p (cnt0 c) := c_6
    obtain ⟨j, hj, ej⟩ := (iBel_iff (show cN c 129 (cN c 128 1) < 2 ^ 30 by omega)).mp hb
    subst ej
    have ht := h.t (nI 0)
    have hj12 : j < 12 := Nat.lt_of_lt_of_le hj hct
    refine E_iconst (v := nI 0) dX12_size_9 (by decide) ?_
    refine E_goto (tgt := 14) dX12_size_10 (by decide) ?_
    refine E_putI dX12_size_14 kF_X12_166 kY_12 (Or.inl rfl) (l_128 hL) (k_128 hL) (Or.inl rfl) ?_
    refine E_aload_n dX12_size_17 rfl ?_
    refine E_getIL (v := nI 0) dX12_size_18 kF_X12_166 kY_12 (Or.inl rfl) (l_128 hL) (k_128 hL) rfl ?_
    refine E_if_le (tgt := 26) dX12_size_21 (by decide) (fun _ => ?_) (fun c0 => absurd (by decide) c0)
    refine E_iconst (v := nI 0) dX12_size_26 (by decide) ?_
    refine E_istore_n dX12_size_27 (Nat.le_of_ble_eq_true rfl) (by decide) rfl ?_
    refine lp0_X12_size (j := j) ht (fun M v2 v3 v4 hF hz hS => ?_) 0 (Nat.zero_le _) _ _ _ fr.refl rfl (fun x hx => by omega)
    have hL := hF.lay hL
    refine E_iconst (v := nI 0) dX12_size_56 (by decide) ?_
    refine E_istore_n dX12_size_57 (Nat.le_of_ble_eq_true rfl) (by decide) rfl ?_
    refine E_iconst (v := nI 0) dX12_size_58 (by decide) ?_
    refine E_istore_n dX12_size_59 (Nat.le_of_ble_eq_true rfl) (by decide) rfl ?_
    exact lp_X12_size ht hj12 (fun M' hF' hz' => K0 j hj rfl M' (qbS ht (hF'.mono seR_q)) (frt.trans (hF'.mono (fun a j q => qR_r a j (seR_q a j q)))) (hz'.trans mI_eq)) 0 (Nat.zero_le _) M 0 _ hF hz hS rfl
