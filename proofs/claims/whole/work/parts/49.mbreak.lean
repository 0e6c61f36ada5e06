/-! the reference: whether a break is safe -/
noncomputable def jx (c : Cf) (a b P : Nat) : Nat := fnd (fun j => P < gS c a b (j + 1)) (nr c a b) 0
theorem jx_b {c : Cf} {a b P : Nat} (hp : P < gS c a b (nr c a b)) : jx c a b P < nr c a b ∧ gS c a b (jx c a b P) ≤ P ∧ P < gS c a b (jx c a b P + 1) := by
  obtain ⟨-, h2, h3, h4⟩ := fnd_spec (P := fun j => P < gS c a b (j + 1)) (Nat.zero_le (nr c a b))
  have h0 : 0 < nr c a b := Nat.pos_of_ne_zero (fun q => by
    rw [q] at hp
    exact absurd hp (Nat.not_lt_zero _))
  have hlt : jx c a b P < nr c a b := by
    refine Nat.lt_of_le_of_ne h2 (fun q => ?_)
    have h5 := h4 (nr c a b - 1) (Nat.zero_le _) (by show nr c a b - 1 < jx c a b P; rw [q]; omega)
    refine h5 ?_
    show P < gS c a b (nr c a b - 1 + 1)
    rw [Nat.sub_add_cancel h0]; exact hp
  refine ⟨hlt, ?_, h3 hlt⟩
  by_cases e : jx c a b P = 0
  · rw [e]; exact Nat.zero_le _
  · have h5 := h4 (jx c a b P - 1) (Nat.zero_le _) (by show jx c a b P - 1 < jx c a b P; omega)
    have h5 : ¬ P < gS c a b (jx c a b P - 1 + 1) := h5
    rw [Nat.sub_add_cancel (Nat.pos_of_ne_zero e)] at h5
    omega
/-- what is laid of a part of the text, behind G0 others -/
noncomputable def pgx (c : Cf) (a b G0 q P : Nat) : Int32 := og (G0 + gS c a b (jx c a b P)) (rL c a b (jx c a b P)) (rB c a b (jx c a b P)) q (P - gS c a b (jx c a b P))
theorem shS.px {c : Cf} {a b R0 G0 : Nat} {M : gM} (h : shS c a b R0 G0 (nr c a b) M) {q P : Nat} (hq : q < 8) (hp : P < gS c a b (nr c a b)) : mI M (158 + q) (G0 + P) = pgx c a b G0 q P := by
  obtain ⟨h1, h2, h3⟩ := jx_b hp
  have e : gS c a b (jx c a b P + 1) = gS c a b (jx c a b P) + (rL c a b (jx c a b P)).length := rfl
  have := (h.2.2.2.2 (jx c a b P) h1).2 q (P - gS c a b (jx c a b P)) hq (by omega)
  rwa [show G0 + gS c a b (jx c a b P) + (P - gS c a b (jx c a b P)) = G0 + P by omega] at this
theorem pgx_0 (c : Cf) (q P : Nat) : pgx c 0 (tl c) 0 q P = pgv c q P := by
  unfold pgx pgv
  rw [Nat.zero_add]; rfl
noncomputable def gEn (c : Cf) (a b : Nat) : Nat := gS c a b (nr c a b)
noncomputable def sfN (c : Cf) (p : Nat) : Nat := gEn c 0 p + gEn c p (tl c)
noncomputable def sfV (c : Cf) (p q P : Nat) : Int32 := cI (P < gEn c 0 p) (pgx c 0 p 0 q P) (pgx c p (tl c) (gEn c 0 p) q (P - gEn c 0 p))
def sfP (c : Cf) (p P : Nat) : Prop := ∀ q, q < 8 → ¬ q = 4 → sfV c p q P = pgv c q P
def sfe (c : Cf) (p : Nat) : Prop := sfN c p = ng c ∧ ∀ P, P < ng c → sfP c p P
theorem iIn1 {p : Int32} {c : Nat} (hc : c < 2 ^ 30) : iIn p (nI 1) (nI c - nI 1) ↔ ∃ j, 1 ≤ j ∧ j < c ∧ p = nI j := by
  constructor
  · intro h
    have h2 : iBel p c := ⟨by
      have := h.1
      rw [Int32.le_iff_toInt_le] at this ⊢
      rw [nI_toInt (by decide)] at this
      rw [nI_toInt (by decide)]
      omega, h.2⟩
    obtain ⟨j, hj, rfl⟩ := (iBel_iff hc).mp h2
    exact ⟨j, (nI_leI (by decide) (by omega)).mp h.1, hj, rfl⟩
  · rintro ⟨j, h1, h2, rfl⟩
    exact ⟨(nI_leI (by decide) (by omega)).mpr h1, ((iBel_iff hc).mpr ⟨j, h2, rfl⟩).2⟩
def waR (a _j : Nat) : Prop := 169 ≤ a ∧ a ≤ 175
def wasS (c : Cf) (k : Nat) (M : gM) : Prop := ∀ P, P < k → mI M 169 P = pgv c 0 P ∧ mI M 170 P = pgv c 1 P ∧ mI M 171 P = pgv c 2 P ∧ mI M 172 P = pgv c 3 P ∧ mI M 173 P = pgv c 5 P ∧ mI M 174 P = pgv c 6 P ∧ mI M 175 P = pgv c 7 P
set_option maxRecDepth 100000 in
set_option maxHeartbeats 4000000 in
theorem lp_X12_isSafe {g : gG} {Q : Option Value ⊕ String → gM → Prop} {c : Cf} {M0 : gM} {p : Nat} (K : ∀ M, qS c M → fr waR M0 M → wasS c (ng c) M → E g 16 0 0 mX12_isSafe 138 [.ref 129, .int (nI p), .int (nI (ng c)), .int (nI (ng c))] [] M Q) : ∀ k, k ≤ ng c → ∀ M, qS c M → fr waR M0 M → wasS c k M → E g 16 0 0 mX12_isSafe 43 [.ref 129, .int (nI p), .int (nI (ng c)), .int (nI k)] [] M Q := by
  refine lpUp (ng c) (fun k hk ih => ?_)
  intro M h hF hS
  have hL := h.lay
  have h16 := h.t16
  have hg : ng c ≤ 1024 := h.g1024
  refine E_iload_n dX12_isSafe_43 rfl ?_
  refine E_iload_n dX12_isSafe_44 rfl ?_
  refine E_icmp_ge_n (tgt := 138) dX12_isSafe_45 (by decide) (by omega) (by omega) (fun c_45 => ?_) (fun c_45 => ?_)
  · obtain rfl : k = ng c := by omega
    exact K M h hF hS
  · have hk2 : k < ng c := by omega
    refine E_aload_n dX12_isSafe_48 rfl ?_
    refine E_getRL dX12_isSafe_49 kF_X12_135 kY_12 (Or.inr ⟨_, rfl⟩) (l_128 hL) (k_128 hL) (r_128_49 hL) ?_
    refine E_iload_n dX12_isSafe_52 rfl ?_
    refine E_aload_n dX12_isSafe_53 rfl ?_
    refine E_getRL dX12_isSafe_54 kF_X12_102 kY_12 (Or.inr ⟨_, rfl⟩) (l_128 hL) (k_128 hL) (r_128_37 hL) ?_
    refine E_iload_n dX12_isSafe_57 rfl ?_
    refine E_ialdL (v := _) dX12_isSafe_58 (l_158 hL) (k_158 hL) rfl (by omega) (by decide) (h.pg (q := 0) (by decide) hk2) ?_
    refine E_iast dX12_isSafe_59 (l_169 hL) (k_169 hL) rfl (by omega) (by decide) ?_
    refine E_aload_n dX12_isSafe_60 rfl ?_
    refine E_getRL dX12_isSafe_61 kF_X12_138 kY_12 (Or.inr ⟨_, rfl⟩) (l_128 hL) (k_128 hL) (r_128_50 hL) ?_
    refine E_iload_n dX12_isSafe_64 rfl ?_
    refine E_aload_n dX12_isSafe_65 rfl ?_
    refine E_getRL dX12_isSafe_66 kF_X12_105 kY_12 (Or.inr ⟨_, rfl⟩) (l_128 hL) (k_128 hL) (r_128_38 hL) ?_
    refine E_iload_n dX12_isSafe_69 rfl ?_
    refine E_ialdL (v := _) dX12_isSafe_70 (l_159 hL) (k_159 hL) rfl (by omega) (by decide) ((mI_ne (by decide)).trans (h.pg (q := 1) (by decide) hk2)) ?_
    refine E_iast dX12_isSafe_71 (l_170 hL) (k_170 hL) rfl (by omega) (by decide) ?_
    refine E_aload_n dX12_isSafe_72 rfl ?_
    refine E_getRL dX12_isSafe_73 kF_X12_141 kY_12 (Or.inr ⟨_, rfl⟩) (l_128 hL) (k_128 hL) (r_128_51 hL) ?_
    refine E_iload_n dX12_isSafe_76 rfl ?_
    refine E_aload_n dX12_isSafe_77 rfl ?_
    refine E_getRL dX12_isSafe_78 kF_X12_108 kY_12 (Or.inr ⟨_, rfl⟩) (l_128 hL) (k_128 hL) (r_128_39 hL) ?_
    refine E_iload_n dX12_isSafe_81 rfl ?_
    refine E_ialdL (v := _) dX12_isSafe_82 (l_160 hL) (k_160 hL) rfl (by omega) (by decide) ((mI_ne (by decide)).trans ((mI_ne (by decide)).trans (h.pg (q := 2) (by decide) hk2))) ?_
    refine E_iast dX12_isSafe_83 (l_171 hL) (k_171 hL) rfl (by omega) (by decide) ?_
    refine E_aload_n dX12_isSafe_84 rfl ?_
    refine E_getRL dX12_isSafe_85 kF_X12_144 kY_12 (Or.inr ⟨_, rfl⟩) (l_128 hL) (k_128 hL) (r_128_52 hL) ?_
    refine E_iload_n dX12_isSafe_88 rfl ?_
    refine E_aload_n dX12_isSafe_89 rfl ?_
    refine E_getRL dX12_isSafe_90 kF_X12_111 kY_12 (Or.inr ⟨_, rfl⟩) (l_128 hL) (k_128 hL) (r_128_40 hL) ?_
    refine E_iload_n dX12_isSafe_93 rfl ?_
    refine E_ialdL (v := _) dX12_isSafe_94 (l_161 hL) (k_161 hL) rfl (by omega) (by decide) ((mI_ne (by decide)).trans ((mI_ne (by decide)).trans ((mI_ne (by decide)).trans (h.pg (q := 3) (by decide) hk2)))) ?_
    refine E_iast dX12_isSafe_95 (l_172 hL) (k_172 hL) rfl (by omega) (by decide) ?_
    refine E_aload_n dX12_isSafe_96 rfl ?_
    refine E_getRL dX12_isSafe_97 kF_X12_147 kY_12 (Or.inr ⟨_, rfl⟩) (l_128 hL) (k_128 hL) (r_128_53 hL) ?_
    refine E_iload_n dX12_isSafe_100 rfl ?_
    refine E_aload_n dX12_isSafe_101 rfl ?_
    refine E_getRL dX12_isSafe_102 kF_X12_117 kY_12 (Or.inr ⟨_, rfl⟩) (l_128 hL) (k_128 hL) (r_128_42 hL) ?_
    refine E_iload_n dX12_isSafe_105 rfl ?_
    refine E_ialdL (v := _) dX12_isSafe_106 (l_163 hL) (k_163 hL) rfl (by omega) (by decide) ((mI_ne (by decide)).trans ((mI_ne (by decide)).trans ((mI_ne (by decide)).trans ((mI_ne (by decide)).trans (h.pg (q := 5) (by decide) hk2))))) ?_
    refine E_iast dX12_isSafe_107 (l_173 hL) (k_173 hL) rfl (by omega) (by decide) ?_
    refine E_aload_n dX12_isSafe_108 rfl ?_
    refine E_getRL dX12_isSafe_109 kF_X12_150 kY_12 (Or.inr ⟨_, rfl⟩) (l_128 hL) (k_128 hL) (r_128_54 hL) ?_
    refine E_iload_n dX12_isSafe_112 rfl ?_
    refine E_aload_n dX12_isSafe_113 rfl ?_
    refine E_getRL dX12_isSafe_114 kF_X12_120 kY_12 (Or.inr ⟨_, rfl⟩) (l_128 hL) (k_128 hL) (r_128_43 hL) ?_
    refine E_iload_n dX12_isSafe_117 rfl ?_
    refine E_ialdL (v := _) dX12_isSafe_118 (l_164 hL) (k_164 hL) rfl (by omega) (by decide) ((mI_ne (by decide)).trans ((mI_ne (by decide)).trans ((mI_ne (by decide)).trans ((mI_ne (by decide)).trans ((mI_ne (by decide)).trans (h.pg (q := 6) (by decide) hk2)))))) ?_
    refine E_iast dX12_isSafe_119 (l_174 hL) (k_174 hL) rfl (by omega) (by decide) ?_
    refine E_aload_n dX12_isSafe_120 rfl ?_
    refine E_getRL dX12_isSafe_121 kF_X12_153 kY_12 (Or.inr ⟨_, rfl⟩) (l_128 hL) (k_128 hL) (r_128_55 hL) ?_
    refine E_iload_n dX12_isSafe_124 rfl ?_
    refine E_aload_n dX12_isSafe_125 rfl ?_
    refine E_getRL dX12_isSafe_126 kF_X12_123 kY_12 (Or.inr ⟨_, rfl⟩) (l_128 hL) (k_128 hL) (r_128_44 hL) ?_
    refine E_iload_n dX12_isSafe_129 rfl ?_
    refine E_ialdL (v := _) dX12_isSafe_130 (l_165 hL) (k_165 hL) rfl (by omega) (by decide) ((mI_ne (by decide)).trans ((mI_ne (by decide)).trans ((mI_ne (by decide)).trans ((mI_ne (by decide)).trans ((mI_ne (by decide)).trans ((mI_ne (by decide)).trans (h.pg (q := 7) (by decide) hk2))))))) ?_
    refine E_iast dX12_isSafe_131 (l_175 hL) (k_175 hL) rfl (by omega) (by decide) ?_
    have hF7 : fr waR M (sI (sI (sI (sI (sI (sI (sI M 169 k (pgv c 0 k)) 170 k (pgv c 1 k)) 171 k (pgv c 2 k)) 172 k (pgv c 3 k)) 173 k (pgv c 5 k)) 174 k (pgv c 6 k)) 175 k (pgv c 7 k)) := ((((((fr.refl.wr (by unfold waR; omega)).wr (by unfold waR; omega)).wr (by unfold waR; omega)).wr (by unfold waR; omega)).wr (by unfold waR; omega)).wr (by unfold waR; omega)).wr (by unfold waR; omega)
    have h := h.fr hF7 (fun a j q => by unfold waR at q; omega)
    have hS7 : wasS c (k + 1) (sI (sI (sI (sI (sI (sI (sI M 169 k (pgv c 0 k)) 170 k (pgv c 1 k)) 171 k (pgv c 2 k)) 172 k (pgv c 3 k)) 173 k (pgv c 5 k)) 174 k (pgv c 6 k)) 175 k (pgv c 7 k)) := fun P hP => by
      simp only [mI_sI]
      by_cases e : P = k
      · subst e; simp
      · have := hS P (by omega)
        simpa [e] using this
    have hL := h.lay
    refine E_iinc_n (d := 1) dX12_isSafe_132 rfl rfl rfl (by decide) rfl ?_
    refine E_goto (tgt := 43) dX12_isSafe_135 (by decide) ?_
    exact ih hk2 _ h (hF.trans hF7) hS7
set_option maxRecDepth 100000 in
set_option maxHeartbeats 4000000 in
theorem sp_X12_isSafe {g : gG} {M : gM} {Q : Option Value ⊕ String → gM → Prop} {c : Cf} (h : bS c M) {p : Int32} (K1 : ∀ j, 1 ≤ j → j < tl c → p = nI j → ∀ M', fr qR M M' → mI M' 128 0 = nI 0 → Q (.inl (some (.int (b2i (sfe c j))))) M') (K0 : ¬ iIn p (nI 1) (nI (tl c) - nI 1) → ∀ M', fr qR M M' → mI M' 128 0 = nI 1 → Q (.inl (some (.int (nI 0)))) M') : E g 16 0 0 mX12_isSafe 0 [.ref 129, .int p, .null, .null] [] M Q := by
  have hL := h.lay
  have h16 : tl c ≤ 16 := h.wf.tl
  refine E_aload_n dX12_isSafe_0 rfl ?_
  refine E_iload_n dX12_isSafe_1 rfl ?_
  refine E_iconst (v := nI 1) dX12_isSafe_2 (by decide) ?_
  refine E_aload_n dX12_isSafe_3 rfl ?_
  refine E_getIL (v := nI (tl c)) dX12_isSafe_4 kF_X12_219 kY_12 (Or.inl rfl) (l_128 hL) (k_128 hL) h.tl ?_
  refine E_iconst (v := nI 1) dX12_isSafe_7 (by decide) ?_
  refine E_isub_d dX12_isSafe_8 ?_
  refine E_callS3 (fr' := 1) (k1 := 0) (n1 := 0) (k2 := 0) (n2 := 0) dX12_isSafe_9 kO_X12_in kL_X12_162 rfl rfl rfl (by decide) (by decide) (by exact Nat.le_of_ble_eq_true rfl) (Or.inl rfl) rfl ?_
  refine sp_X12_in ?_
  refine gKv ?_
  refine E_if_eq_b (tgt := 19) dX12_isSafe_12 (by decide) (fun c_12 => ?_) (fun c_12 => ?_)
  · refine E_iconst (v := nI 1) dX12_isSafe_19 (by decide) ?_
    refine E_putI dX12_isSafe_20 kF_X12_166 kY_12 (Or.inl rfl) (l_128 hL) (k_128 hL) (Or.inl rfl) ?_
    refine E_aload_n dX12_isSafe_23 rfl ?_
    refine E_getIL (v := nI 1) dX12_isSafe_24 kF_X12_166 kY_12 (Or.inl rfl) (l_128 hL) (k_128 hL) rfl ?_
    refine E_if_le (tgt := 32) dX12_isSafe_27 (by decide) (fun c0 => absurd c0 (by decide)) (fun _ => ?_)
    refine E_iconst (v := nI 0) dX12_isSafe_30 (by decide) ?_
    refine E_iret dX12_isSafe_31 (Or.inr ⟨rfl, by decide⟩) ?_
    exact K0 c_12 _ (fr.refl.thr _) mI_eq
  · obtain ⟨j, hj1, hj, ej⟩ := (iIn1 (by omega)).mp c_12
    subst ej
    refine E_iconst (v := nI 0) dX12_isSafe_15 (by decide) ?_
    refine E_goto (tgt := 20) dX12_isSafe_16 (by decide) ?_
    refine E_putI dX12_isSafe_20 kF_X12_166 kY_12 (Or.inl rfl) (l_128 hL) (k_128 hL) (Or.inl rfl) ?_
    refine E_aload_n dX12_isSafe_23 rfl ?_
    refine E_getIL (v := nI 0) dX12_isSafe_24 kF_X12_166 kY_12 (Or.inl rfl) (l_128 hL) (k_128 hL) rfl ?_
    refine E_if_le (tgt := 32) dX12_isSafe_27 (by decide) (fun _ => ?_) (fun c0 => absurd (by decide) c0)
    refine E_aload_n dX12_isSafe_32 rfl ?_
    refine E_callV0 (fr' := 15) (k1 := 0) (n1 := 0) (k2 := 0) (n2 := 0) dX12_isSafe_33 kO_X12_shapesAll kL_X12_424 (l_128 hL) (k_128 hL) ⟨by decide, rfl⟩  (by decide) (by decide) (by exact Nat.le_of_ble_eq_true rfl) rfl ?_
    have h0 := h.thr (nI 0)
    have hL := h0.lay
    refine sp_X12_shapesAll h0 (fun M1 hF1 hA => ?_)
    have h := (show qS c M1 from ⟨qbS h0 (hF1.mono shR_q), hA⟩)
    have hL := h.lay
    have hn := h.nr16
    have hg : ng c ≤ 1024 := h.g1024
    refine gKn ?_
    refine E_aload_n dX12_isSafe_36 rfl ?_
    refine E_getIL (v := nI (ng c)) dX12_isSafe_37 kF_X12_406 kY_12 (Or.inl rfl) (l_128 hL) (k_128 hL) h.g36 ?_
    refine E_istore_n dX12_isSafe_40 (Nat.le_of_ble_eq_true rfl) (by decide) rfl ?_
    refine E_iconst (v := nI 0) dX12_isSafe_41 (by decide) ?_
    refine E_istore_n dX12_isSafe_42 (Nat.le_of_ble_eq_true rfl) (by decide) rfl ?_
    refine lp_X12_isSafe (fun M2 h2 hF2 hW => ?_) 0 (Nat.zero_le _) M1 h fr.refl (fun P hP => by omega)
    have hL := h2.lay
    have hB0 := h2.b
    have hF3 : fr qR M2 (sI (sI M2 128 36 (nI 0)) 128 45 (nI 0)) := (fr.refl.wr (by unfold qR; omega)).wr (by unfold qR; omega)
    have hB3 := qbS hB0 hF3
    refine E_aload_n dX12_isSafe_138 rfl ?_
    refine E_iconst (v := nI 0) dX12_isSafe_139 (by decide) ?_
    refine E_putI dX12_isSafe_140 kF_X12_406 kY_12 (Or.inl rfl) (l_128 hL) (k_128 hL) (Or.inl rfl) ?_
    refine E_aload_n dX12_isSafe_143 rfl ?_
    refine E_iconst (v := nI 0) dX12_isSafe_144 (by decide) ?_
    refine E_putI dX12_isSafe_145 kF_X12_412 kY_12 (Or.inl rfl) (l_128 hL) (k_128 hL) (Or.inl rfl) ?_
    refine E_aload_n dX12_isSafe_148 rfl ?_
    refine E_iconst (v := nI 0) dX12_isSafe_149 (by decide) ?_
    refine E_iload_n dX12_isSafe_150 rfl ?_
    refine E_callV2 (fr' := 14) (k1 := 0) (n1 := 0) (k2 := 0) (n2 := 0) dX12_isSafe_151 kO_X12_shapes kL_X12_421 (l_128 hL) (k_128 hL) ⟨by decide, rfl⟩ rfl rfl (by decide) (by decide) (by exact Nat.le_of_ble_eq_true rfl) rfl ?_
    refine sp_X12_shapes (R0 := 0) (G0 := 0) hB3 (Nat.zero_le _) (by omega) (by omega) (by omega) mI_eq ((mI_nj (by decide)).trans mI_eq) (fun M4 hF4 hH4 hE4 hS4 => ?_)
    have hB4 := qbS hB3 (hF4.mono shR_q)
    have hL := hB4.lay
    have hnr4 := (nr_b (c := c) (Nat.zero_le j) (by omega)).1
    have hg4 := hH4.1
    refine gKn ?_
    refine E_aload_n dX12_isSafe_154 rfl ?_
    refine E_iload_n dX12_isSafe_155 rfl ?_
    refine E_aload_n dX12_isSafe_156 rfl ?_
    refine E_getIL (v := nI (tl c)) dX12_isSafe_157 kF_X12_219 kY_12 (Or.inl rfl) (l_128 hL) (k_128 hL) hB4.tl ?_
    refine E_callV2 (fr' := 14) (k1 := 0) (n1 := 0) (k2 := 0) (n2 := 0) dX12_isSafe_160 kO_X12_shapes kL_X12_421 (l_128 hL) (k_128 hL) ⟨by decide, rfl⟩ rfl rfl (by decide) (by decide) (by exact Nat.le_of_ble_eq_true rfl) rfl ?_
    refine sp_X12_shapes (R0 := nr c 0 j) (G0 := gEn c 0 j) hB4 (Nat.le_of_lt hj) (by omega) (by omega) (by unfold gEn; omega) (hH4.2.1.trans (by rw [Nat.zero_add])) (hH4.2.2.1.trans (by rw [Nat.zero_add]; rfl)) (fun M5 hF5 hH5 hE5 hS5 => ?_)
    have hB5 := qbS hB4 (hF5.mono shR_q)
    have hL := hB5.lay
    have hnr5 := (nr_b (c := c) (Nat.le_of_lt hj) (by omega)).1
    have hg5 := hH5.1
    have h36 : mI M5 128 36 = nI (sfN c j) := hH5.2.2.1
    refine gKn ?_
    refine E_aload_n dX12_isSafe_163 rfl ?_
    refine E_iload_n dX12_isSafe_164 rfl ?_
    refine E_callV1 (fr' := 1) (k1 := 0) (n1 := 0) (k2 := 0) (n2 := 0) dX12_isSafe_165 kO_X12_areSame kL_X12_446 (l_128 hL) (k_128 hL) ⟨by decide, rfl⟩ rfl (by decide) (by decide) (by exact Nat.le_of_ble_eq_true rfl) rfl ?_
    refine sp_X12_areSame hL hg (by unfold sfN gEn; omega) h36 ?_
    have eA : eqA M5 (sfN c j) (ng c) ↔ sfe c j := by
      unfold eqA sfe
      refine and_congr_right (fun eN => forall_congr' (fun P => imp_congr_right (fun hP => ?_)))
      have hv : ∀ q, q < 8 → mI M5 (158 + q) P = sfV c j q P := fun q hq => by
        unfold sfV
        by_cases e : P < gEn c 0 j
        · rw [cI_t e]
          refine (hF5.bk (by unfold shR rowR; omega)).trans ?_
          have := hH4.px hq e
          rwa [Nat.zero_add] at this
        · rw [cI_f e]
          have := hH5.px (q := q) (P := P - gEn c 0 j) hq (by unfold sfN at eN; show _ < gEn c j (tl c); omega)
          rwa [show gEn c 0 j + (P - gEn c 0 j) = P by omega] at this
      have hw := hW P hP
      have bk : ∀ a, 169 ≤ a → a ≤ 175 → mI M5 a P = mI M2 a P := fun a h1 h2 => (hF5.bk (by unfold shR rowR; omega)).trans ((hF4.bk (by unfold shR rowR; omega)).trans ((mI_ne (by omega)).trans (mI_ne (by omega))))
      unfold eqP sfP
      rw [bk 169 (by decide) (by decide), bk 170 (by decide) (by decide), bk 171 (by decide) (by decide), bk 172 (by decide) (by decide), bk 173 (by decide) (by decide), bk 174 (by decide) (by decide), bk 175 (by decide) (by decide)]
      rw [hw.1, hw.2.1, hw.2.2.1, hw.2.2.2.1, hw.2.2.2.2.1, hw.2.2.2.2.2.1, hw.2.2.2.2.2.2]
      have e0 := hv 0 (by decide); have e1 := hv 1 (by decide); have e2 := hv 2 (by decide); have e3 := hv 3 (by decide); have e5 := hv 5 (by decide); have e6 := hv 6 (by decide); have e7 := hv 7 (by decide)
      rw [show mI M5 158 P = sfV c j 0 P from e0, show mI M5 159 P = sfV c j 1 P from e1, show mI M5 160 P = sfV c j 2 P from e2, show mI M5 161 P = sfV c j 3 P from e3, show mI M5 163 P = sfV c j 5 P from e5, show mI M5 164 P = sfV c j 6 P from e6, show mI M5 165 P = sfV c j 7 P from e7]
      constructor
      · rintro ⟨z0, z1, z2, z3, z5, z6, z7⟩ q hq hq4
        rcases (show q = 0 ∨ q = 1 ∨ q = 2 ∨ q = 3 ∨ q = 5 ∨ q = 6 ∨ q = 7 by omega) with rfl | rfl | rfl | rfl | rfl | rfl | rfl <;> assumption
      · intro z
        exact ⟨z 0 (by decide) (by decide), z 1 (by decide) (by decide), z 2 (by decide) (by decide), z 3 (by decide) (by decide), z 5 (by decide) (by decide), z 6 (by decide) (by decide), z 7 (by decide) (by decide)⟩
    rw [b2i_congr eA]
    refine gKv ?_
    refine E_iret dX12_isSafe_168 (Or.inr ⟨rfl, b2i_01 _⟩) ?_
    exact K1 j hj1 hj rfl _ (((((fr.refl.thr _).sh hF1).trans (hF2.mono (fun a j q => by unfold waR at q; unfold qR; omega))).trans hF3).trans ((hF4.mono shR_q).trans (hF5.mono shR_q))) ((sh0 hF5).trans ((sh0 hF4).trans ((mI_nj (by decide)).trans ((mI_nj (by decide)).trans ((hF2.bk (by unfold waR; omega)).trans ((sh0 hF1).trans mI_eq))))))
