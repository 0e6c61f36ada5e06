/-! the class: what a rule does, what a call does -/
noncomputable def chP (c : Cf) (f : Nat) (L : List Gl) (l k i : Nat) (π : Nat → Nat) : Nat → Nat :=
  cI (cN c 130 l = 1) (cI (rul c l k 3 = -100) (piB π L.length i) (piB (piB π L.length i) (L.length + 1) (i + 1))) (cI (cN c 130 l = 3) (cI (rul c l k 2 = -100) (piO π L.length (aft c f l L i)) (piO (piO π L.length (aft c f l L (aft c f l L i))) (L.length - 1) (aft c f l L i))) π)
theorem ouL_1 {sp : Nat → Nat} {X : List Gl} {π : Nat → Nat} : ouL sp 1 (X, π) = (closeL X (sp 1), piO π X.length (sp 1)) := rfl
theorem ouL_2 {sp : Nat → Nat} {X : List Gl} {π : Nat → Nat} : ouL sp 2 (X, π) = (closeL (closeL X (sp 2)) (sp 1), piO (piO π X.length (sp 2)) (closeL X (sp 2)).length (sp 1)) := rfl
theorem mI_s {M : gM} {a k b j : Nat} {v : Int32} (h : ¬ (b = a ∧ j = k)) : mI (sI M a k v) b j = mI M b j := by rw [mI_sI, if_neg h]
set_option maxRecDepth 100000 in
set_option maxHeartbeats 4000000 in
theorem sp_X0_change0 {g : gG} {M : gM} {Q : Option Value ⊕ String → gM → Prop} {c : Cf} {P : Nat → Nat} {M0 : gM} {L : List Gl} {π : Nat → Nat} (hc : cX c P M0 L π M) {f tb l p : Nat} (hf : f < 2) (hF0 : mR M0 73 2 = fb f + 1) (hT0 : mI M0 73 3 = nI tb) (htb : tb ≤ 1) (hk0 : kLk c M0 l p) (hfl : l / 12 = f) {k i : Nat} (hkl : k < cN c 135 l) (hi : i < L.length) (hft : fit c f L l k i) (hkd : cN c 130 l = 0) (K : ∀ M, cX c P M0 (chgL c f L l k i) (chP c f L l k i π) M → Q (.inl (some (.int (nI (chgI c l k i))))) M) : E g 3 0 0 mX0_change 0 [.ref 74, .int (nI 0), .ref (p + 2 + k + 1), .int (nI i), .null, .null] [] M Q := by
  have hB := hc.B
  have hL := hB.lay
  have hn := hc.len
  have hk := hc.lk hk0
  have hl := hB.wf.lk l
  have hwr := hB.wf.ru hkl
  rw [hkd] at hwr
  have w1 := gN_ok (iF0 hwr.1).2.1 (by decide)
  have e1 : chgL c f L l k i = numL L i (gN (rul c l k 1)) := cI_t hkd
  have e2 : chgI c l k i = i + 1 := cI_f (by omega)
  have e3 : chP c f L l k i π = π := (cI_f (by omega)).trans (cI_f (by omega))
  rw [e1, e2, e3] at K
  refine E_aload_n dX0_change_0 rfl ?_
  refine E_getRL dX0_change_1 kF_X0_39 kY_0 (Or.inl ⟨_, rfl⟩) (l_73 hL) (k_73 hL) (r_73_0 hL) ?_
  refine E_getRL dX0_change_4 kF_X0_58 kY_8 (Or.inr ⟨_, rfl⟩) (l_6 hL) (k_6 hL) (r_6_0 hL) ?_
  refine E_iload_n dX0_change_7 rfl ?_
  refine E_aaldL (v := _) dX0_change_8 (l_7 hL) (k_7 hL) (by decide) (by decide) rfl (by omega) (by decide) (hc.cell (by omega)) ?_
  refine E_astore dX0_change_9 (Nat.le_of_ble_eq_true rfl) (by decide) rfl ?_
  refine E_iload_n dX0_change_11 rfl ?_
  refine E_swIn (off := 32) (tgt := 44) dX0_change_12 (by decide) (by decide) (by decide) (by decide) ?_
  refine E_aload dX0_change_44 rfl ?_
  refine E_aload_n dX0_change_46 rfl ?_
  refine E_iconst (v := nI 1) dX0_change_47 (by decide) ?_
  refine E_ialdL (v := nI (gN (rul c l k 1))) dX0_change_48 (hk.ltu (by omega)) (hk.kdu (by omega)) rfl (by omega) (by decide) ((hk.rn (by omega) (by omega)).trans w1.1) ?_
  refine E_putI dX0_change_49 kF_X0_84 kY_2 (Or.inl rfl) (hc.glt (by omega)) (hc.gkd (by omega)) (Or.inl rfl) ?_
  refine E_iload_n dX0_change_52 rfl ?_
  refine E_iconst (v := nI 1) dX0_change_53 (by decide) ?_
  refine E_iadd_n dX0_change_54 ?_
  refine E_iret dX0_change_55 (Or.inl rfl) ?_
  exact K _ (hc.putN hi (by omega))
set_option maxRecDepth 100000 in
set_option maxHeartbeats 4000000 in
theorem sp_X0_change1 {g : gG} {M : gM} {Q : Option Value ⊕ String → gM → Prop} {c : Cf} {P : Nat → Nat} {M0 : gM} {L : List Gl} {π : Nat → Nat} (hc : cX c P M0 L π M) {f tb l p : Nat} (hf : f < 2) (hF0 : mR M0 73 2 = fb f + 1) (hT0 : mI M0 73 3 = nI tb) (htb : tb ≤ 1) (hk0 : kLk c M0 l p) (hfl : l / 12 = f) {k i : Nat} (hkl : k < cN c 135 l) (hi : i < L.length) (hft : fit c f L l k i) (hkd : cN c 130 l = 1) (K : ∀ M, cX c P M0 (chgL c f L l k i) (chP c f L l k i π) M → Q (.inl (some (.int (nI (chgI c l k i))))) M) : E g 3 0 0 mX0_change 0 [.ref 74, .int (nI 1), .ref (p + 2 + k + 1), .int (nI i), .null, .null] [] M Q := by
  have hB := hc.B
  have hL := hB.lay
  have hn := hc.len
  have hk := hc.lk hk0
  have hl := hB.wf.lk l
  have hwr := hB.wf.ru hkl
  rw [hkd] at hwr
  have w1 := gN_ok (iF1 hwr.1).2.1 (by decide)
  have w2 := gN_ok (iF1 hwr.1).2.2.1 (by decide)
  have hlen : L.length + mrN (rul c l k 3) ≤ 64 := by
    rcases hft.2 with q | q | q | q
    · omega
    · exact q.2
    · omega
    · omega
  have hmb := mrN_b (rul c l k 3)
  have hnl := num_len L i (gN (rul c l k 1))
  have e1 : chgL c f L l k i = ptL L i (rul c l k 1) (rul c l k 2) (rul c l k 3) := (cI_f (by omega)).trans (cI_t hkd)
  have e4 : chP c f L l k i π = cI (rul c l k 3 = -100) (piB π L.length i) (piB (piB π L.length i) (L.length + 1) (i + 1)) := cI_t hkd
  have e5 : chgI c l k i = i + mrN (rul c l k 3) + 1 := cI_t hkd
  rw [e1, e4, e5] at K
  unfold ptL at K
  by_cases e3 : rul c l k 3 = -100
  · have em : mrN (rul c l k 3) = 1 := cI_t e3
    rw [cI_t e3, em, cI_t e3] at K
    refine E_aload_n dX0_change_0 rfl ?_
    refine E_getRL dX0_change_1 kF_X0_39 kY_0 (Or.inl ⟨_, rfl⟩) (l_73 hL) (k_73 hL) (r_73_0 hL) ?_
    refine E_getRL dX0_change_4 kF_X0_58 kY_8 (Or.inr ⟨_, rfl⟩) (l_6 hL) (k_6 hL) (r_6_0 hL) ?_
    refine E_iload_n dX0_change_7 rfl ?_
    refine E_aaldL (v := _) dX0_change_8 (l_7 hL) (k_7 hL) (by decide) (by decide) rfl (by omega) (by decide) (hc.cell (by omega)) ?_
    refine E_astore dX0_change_9 (Nat.le_of_ble_eq_true rfl) (by decide) rfl ?_
    refine E_iload_n dX0_change_11 rfl ?_
    refine E_swIn (off := 44) (tgt := 56) dX0_change_12 (by decide) (by decide) (by decide) (by decide) ?_
    refine E_aload dX0_change_56 rfl ?_
    refine E_aload_n dX0_change_58 rfl ?_
    refine E_iconst (v := nI 1) dX0_change_59 (by decide) ?_
    refine E_ialdL (v := nI (gN (rul c l k 1))) dX0_change_60 (hk.ltu (by omega)) (hk.kdu (by omega)) rfl (by omega) (by decide) ((hk.rn (by omega) (by omega)).trans w1.1) ?_
    refine E_putI dX0_change_61 kF_X0_84 kY_2 (Or.inl rfl) (hc.glt (by omega)) (hc.gkd (by omega)) (Or.inl rfl) ?_
    have hc := hc.putN (i := i) (v := gN (rul c l k 1)) hi (by omega)
    have hB := hc.B
    have hL := hB.lay
    have hn := hc.len
    have hk := hc.lk hk0
    refine E_aload_n dX0_change_64 rfl ?_
    refine E_getRL dX0_change_65 kF_X0_39 kY_0 (Or.inl ⟨_, rfl⟩) (l_73 hL) (k_73 hL) (r_73_0 hL) ?_
    refine E_iload_n dX0_change_68 rfl ?_
    refine E_aload_n dX0_change_69 rfl ?_
    refine E_iconst (v := nI 2) dX0_change_70 (by decide) ?_
    refine E_ialdL (v := nI (gN (rul c l k 2))) dX0_change_71 (hk.ltu (by omega)) (hk.kdu (by omega)) rfl (by omega) (by decide) ((hk.rn (by omega) (by omega)).trans w2.1) ?_
    refine E_callV2 (fr' := 2) (k1 := 0) (n1 := 0) (k2 := 0) (n2 := 0) dX0_change_72 kO_X8_putBehind kL_X0_118 (l_6 hL) (k_6 hL) ⟨by decide, rfl⟩ rfl rfl (by decide) (by decide) (by exact Nat.le_of_ble_eq_true rfl) rfl ?_
    refine sp_X8_putBehindP hc (by omega) (by omega) (by omega) (fun M hc => ?_)
    rw [pt_1 hi, hnl] at hc
    have hB := hc.B
    have hL := hB.lay
    have hn := hc.len
    have hk := hc.lk hk0
    refine gKn ?_
    refine E_aload_n dX0_change_75 rfl ?_
    refine E_iconst (v := nI 3) dX0_change_76 (by decide) ?_
    refine E_ialdL (v := -100) dX0_change_77 (hk.ltu (by omega)) (hk.kdu (by omega)) rfl (by omega) (by decide) ((hk.rn (by omega) (by omega)).trans e3) ?_
    refine E_bipush (v := -100) dX0_change_78 (by decide) ?_
    refine E_icmp_ne_r (tgt := 87) dX0_change_80 (by decide) (fun c0 => absurd c0 (by decide)) (fun _ => ?_)
    refine E_iload_n dX0_change_83 rfl ?_
    refine E_iconst (v := nI 2) dX0_change_84 (by decide) ?_
    refine E_iadd_n dX0_change_85 ?_
    refine E_iret dX0_change_86 (Or.inl rfl) ?_
    exact K _ hc
  · have w3 := gN_ok ((iF1 hwr.1).2.2.2.resolve_left e3) (by decide)
    have em : mrN (rul c l k 3) = 2 := cI_f e3
    rw [cI_f e3, em, cI_f e3] at K
    refine E_aload_n dX0_change_0 rfl ?_
    refine E_getRL dX0_change_1 kF_X0_39 kY_0 (Or.inl ⟨_, rfl⟩) (l_73 hL) (k_73 hL) (r_73_0 hL) ?_
    refine E_getRL dX0_change_4 kF_X0_58 kY_8 (Or.inr ⟨_, rfl⟩) (l_6 hL) (k_6 hL) (r_6_0 hL) ?_
    refine E_iload_n dX0_change_7 rfl ?_
    refine E_aaldL (v := _) dX0_change_8 (l_7 hL) (k_7 hL) (by decide) (by decide) rfl (by omega) (by decide) (hc.cell (by omega)) ?_
    refine E_astore dX0_change_9 (Nat.le_of_ble_eq_true rfl) (by decide) rfl ?_
    refine E_iload_n dX0_change_11 rfl ?_
    refine E_swIn (off := 44) (tgt := 56) dX0_change_12 (by decide) (by decide) (by decide) (by decide) ?_
    refine E_aload dX0_change_56 rfl ?_
    refine E_aload_n dX0_change_58 rfl ?_
    refine E_iconst (v := nI 1) dX0_change_59 (by decide) ?_
    refine E_ialdL (v := nI (gN (rul c l k 1))) dX0_change_60 (hk.ltu (by omega)) (hk.kdu (by omega)) rfl (by omega) (by decide) ((hk.rn (by omega) (by omega)).trans w1.1) ?_
    refine E_putI dX0_change_61 kF_X0_84 kY_2 (Or.inl rfl) (hc.glt (by omega)) (hc.gkd (by omega)) (Or.inl rfl) ?_
    have hc := hc.putN (i := i) (v := gN (rul c l k 1)) hi (by omega)
    have hB := hc.B
    have hL := hB.lay
    have hn := hc.len
    have hk := hc.lk hk0
    refine E_aload_n dX0_change_64 rfl ?_
    refine E_getRL dX0_change_65 kF_X0_39 kY_0 (Or.inl ⟨_, rfl⟩) (l_73 hL) (k_73 hL) (r_73_0 hL) ?_
    refine E_iload_n dX0_change_68 rfl ?_
    refine E_aload_n dX0_change_69 rfl ?_
    refine E_iconst (v := nI 2) dX0_change_70 (by decide) ?_
    refine E_ialdL (v := nI (gN (rul c l k 2))) dX0_change_71 (hk.ltu (by omega)) (hk.kdu (by omega)) rfl (by omega) (by decide) ((hk.rn (by omega) (by omega)).trans w2.1) ?_
    refine E_callV2 (fr' := 2) (k1 := 0) (n1 := 0) (k2 := 0) (n2 := 0) dX0_change_72 kO_X8_putBehind kL_X0_118 (l_6 hL) (k_6 hL) ⟨by decide, rfl⟩ rfl rfl (by decide) (by decide) (by exact Nat.le_of_ble_eq_true rfl) rfl ?_
    refine sp_X8_putBehindP hc (by omega) (by omega) (by omega) (fun M hc => ?_)
    have hB := hc.B
    have hL := hB.lay
    have hn := hc.len
    have hk := hc.lk hk0
    refine gKn ?_
    refine E_aload_n dX0_change_75 rfl ?_
    refine E_iconst (v := nI 3) dX0_change_76 (by decide) ?_
    refine E_ialdL (v := nI (gN (rul c l k 3))) dX0_change_77 (hk.ltu (by omega)) (hk.kdu (by omega)) rfl (by omega) (by decide) ((hk.rn (by omega) (by omega)).trans w3.1) ?_
    refine E_bipush (v := -100) dX0_change_78 (by decide) ?_
    refine E_icmp_ne (tgt := 87) dX0_change_80 (by decide) (fun _ => ?_) (fun c0 => absurd (nI_ne100 (by omega)) c0)
    refine E_aload_n dX0_change_87 rfl ?_
    refine E_getRL dX0_change_88 kF_X0_39 kY_0 (Or.inl ⟨_, rfl⟩) (l_73 hL) (k_73 hL) (r_73_0 hL) ?_
    refine E_iload_n dX0_change_91 rfl ?_
    refine E_iconst (v := nI 1) dX0_change_92 (by decide) ?_
    refine E_iadd_n dX0_change_93 ?_
    refine E_aload_n dX0_change_94 rfl ?_
    refine E_iconst (v := nI 3) dX0_change_95 (by decide) ?_
    refine E_ialdL (v := nI (gN (rul c l k 3))) dX0_change_96 (hk.ltu (by omega)) (hk.kdu (by omega)) rfl (by omega) (by decide) ((hk.rn (by omega) (by omega)).trans w3.1) ?_
    refine E_callV2 (fr' := 2) (k1 := 0) (n1 := 0) (k2 := 0) (n2 := 0) dX0_change_97 kO_X8_putBehind kL_X0_118 (l_6 hL) (k_6 hL) ⟨by decide, rfl⟩ rfl rfl (by decide) (by decide) (by exact Nat.le_of_ble_eq_true rfl) rfl ?_
    refine sp_X8_putBehindP hc (by rw [pub_len, num_len]; omega) (by rw [pub_len, num_len]; omega) (by omega) (fun M hc => ?_)
    rw [pub_len, hnl, pt_2 hi] at hc
    have hB := hc.B
    have hL := hB.lay
    have hn := hc.len
    have hk := hc.lk hk0
    refine gKn ?_
    refine E_iload_n dX0_change_100 rfl ?_
    refine E_iconst (v := nI 3) dX0_change_101 (by decide) ?_
    refine E_iadd_n dX0_change_102 ?_
    refine E_iret dX0_change_103 (Or.inl rfl) ?_
    exact K _ hc
set_option maxRecDepth 100000 in
set_option maxHeartbeats 4000000 in
theorem sp_X0_change2 {g : gG} {M : gM} {Q : Option Value ⊕ String → gM → Prop} {c : Cf} {P : Nat → Nat} {M0 : gM} {L : List Gl} {π : Nat → Nat} (hc : cX c P M0 L π M) {f tb l p : Nat} (hf : f < 2) (hF0 : mR M0 73 2 = fb f + 1) (hT0 : mI M0 73 3 = nI tb) (htb : tb ≤ 1) (hk0 : kLk c M0 l p) (hfl : l / 12 = f) {k i : Nat} (hkl : k < cN c 135 l) (hi : i < L.length) (hft : fit c f L l k i) (hkd : cN c 130 l = 2) (K : ∀ M, cX c P M0 (chgL c f L l k i) (chP c f L l k i π) M → Q (.inl (some (.int (nI (chgI c l k i))))) M) : E g 3 0 0 mX0_change 0 [.ref 74, .int (nI 2), .ref (p + 2 + k + 1), .int (nI i), .null, .null] [] M Q := by
  have hB := hc.B
  have hL := hB.lay
  have hn := hc.len
  have hk := hc.lk hk0
  have hl := hB.wf.lk l
  have hwr := hB.wf.ru hkl
  rw [hkd] at hwr
  have he3 := hc.e4 i
  have hE : 0 < yE (gat L i) := by
    rcases hft.2 with q | q | q | q
    · omega
    · omega
    · exact q.2
    · omega
  have w4 : iGlyph (rul c l k (yE (gat L i))) := by
    have h := iF2 hwr.1
    rcases (show yE (gat L i) = 1 ∨ yE (gat L i) = 2 ∨ yE (gat L i) = 3 by omega) with e | e | e <;> rw [e]
    · exact h.2.1
    · exact h.2.2.1
    · exact h.2.2.2
  have w4 := gN_ok w4 (by decide)
  have e1 : chgL c f L l k i = numL L i (gN (rul c l k (yE (gat L i)))) := (cI_f (by omega)).trans ((cI_f (by omega)).trans (cI_t hkd))
  have e2 : chgI c l k i = i + 1 := cI_f (by omega)
  have e3 : chP c f L l k i π = π := (cI_f (by omega)).trans (cI_f (by omega))
  rw [e1, e2, e3] at K
  refine E_aload_n dX0_change_0 rfl ?_
  refine E_getRL dX0_change_1 kF_X0_39 kY_0 (Or.inl ⟨_, rfl⟩) (l_73 hL) (k_73 hL) (r_73_0 hL) ?_
  refine E_getRL dX0_change_4 kF_X0_58 kY_8 (Or.inr ⟨_, rfl⟩) (l_6 hL) (k_6 hL) (r_6_0 hL) ?_
  refine E_iload_n dX0_change_7 rfl ?_
  refine E_aaldL (v := _) dX0_change_8 (l_7 hL) (k_7 hL) (by decide) (by decide) rfl (by omega) (by decide) (hc.cell (by omega)) ?_
  refine E_astore dX0_change_9 (Nat.le_of_ble_eq_true rfl) (by decide) rfl ?_
  refine E_iload_n dX0_change_11 rfl ?_
  refine E_swIn (off := 92) (tgt := 104) dX0_change_12 (by decide) (by decide) (by decide) (by decide) ?_
  refine E_aload dX0_change_104 rfl ?_
  refine E_getIL (v := nI (yE (gat _ _))) dX0_change_106 kF_X0_111 kY_2 (Or.inl rfl) (hc.glt (by omega)) (hc.gkd (by omega)) (hc.g2 (by omega)) ?_
  refine E_if_le_n (tgt := 133) dX0_change_109 (by decide) (by omega) (fun c_109 => ?_) (fun c_109 => ?_)
  · refine E_iload_n dX0_change_133 rfl ?_
    refine E_iconst (v := nI 1) dX0_change_134 (by decide) ?_
    refine E_iadd_n dX0_change_135 ?_
    refine E_iret dX0_change_136 (Or.inl rfl) ?_
    exfalso; omega
  · refine E_aload dX0_change_112 rfl ?_
    refine E_getIL (v := nI (yE (gat _ _))) dX0_change_114 kF_X0_111 kY_2 (Or.inl rfl) (hc.glt (by omega)) (hc.gkd (by omega)) (hc.g2 (by omega)) ?_
    refine E_iconst (v := nI 3) dX0_change_117 (by decide) ?_
    refine E_icmp_gt_n (tgt := 133) dX0_change_118 (by decide) (by omega) (by omega) (fun c_118 => ?_) (fun c_118 => ?_)
    · refine E_iload_n dX0_change_133 rfl ?_
      refine E_iconst (v := nI 1) dX0_change_134 (by decide) ?_
      refine E_iadd_n dX0_change_135 ?_
      refine E_iret dX0_change_136 (Or.inl rfl) ?_
      exfalso; omega
    · refine E_aload dX0_change_121 rfl ?_
      refine E_aload_n dX0_change_123 rfl ?_
      refine E_aload dX0_change_124 rfl ?_
      refine E_getIL (v := nI (yE (gat _ _))) dX0_change_126 kF_X0_111 kY_2 (Or.inl rfl) (hc.glt (by omega)) (hc.gkd (by omega)) (hc.g2 (by omega)) ?_
      refine E_ialdL (v := nI (gN (rul c l k (yE (gat L i))))) dX0_change_129 (hk.ltu (by omega)) (hk.kdu (by omega)) rfl (by omega) (by decide) ((hk.rn (by omega) (by omega)).trans w4.1) ?_
      refine E_putI dX0_change_130 kF_X0_84 kY_2 (Or.inl rfl) (hc.glt (by omega)) (hc.gkd (by omega)) (Or.inl rfl) ?_
      refine E_iload_n dX0_change_133 rfl ?_
      refine E_iconst (v := nI 1) dX0_change_134 (by decide) ?_
      refine E_iadd_n dX0_change_135 ?_
      refine E_iret dX0_change_136 (Or.inl rfl) ?_
      exact K _ (hc.putN hi (by omega))
set_option maxRecDepth 100000 in
set_option maxHeartbeats 4000000 in
theorem sp_X0_change3 {g : gG} {M : gM} {Q : Option Value ⊕ String → gM → Prop} {c : Cf} {P : Nat → Nat} {M0 : gM} {L : List Gl} {π : Nat → Nat} (hc : cX c P M0 L π M) {f tb l p : Nat} (hf : f < 2) (hF0 : mR M0 73 2 = fb f + 1) (hT0 : mI M0 73 3 = nI tb) (htb : tb ≤ 1) (hk0 : kLk c M0 l p) (hfl : l / 12 = f) {k i : Nat} (hkl : k < cN c 135 l) (hi : i < L.length) (hft : fit c f L l k i) (hkd : cN c 130 l = 3) (h4 : mI M 73 4 = afV L.length (aft c f l L i)) (h5 : mI M 73 5 = afV L.length (thB c f l L i)) (K : ∀ M, cX c P M0 (chgL c f L l k i) (chP c f L l k i π) M → Q (.inl (some (.int (nI (chgI c l k i))))) M) : E g 3 0 0 mX0_change 0 [.ref 74, .int (nI 3), .ref (p + 2 + k + 1), .int (nI i), .null, .null] [] M Q := by
  have hB := hc.B
  have hL := hB.lay
  have hn := hc.len
  have hk := hc.lk hk0
  have hl := hB.wf.lk l
  have hwr := hB.wf.ru hkl
  rw [hkd] at hwr
  have w3 := gN_ok (iF3 hwr.1).2.2.2 (by decide)
  have hlg : lgF c f l L i (rul c l k 1) (rul c l k 2) := by
    rcases hft.2 with q | q | q | q
    · omega
    · omega
    · omega
    · exact q.2
  have h2l := hlg.1
  have hab := aft_b c f l hi
  have e1 : chgL c f L l k i = lgL c f l L i (rul c l k 2) (gN (rul c l k 3)) := (cI_f (by omega)).trans ((cI_f (by omega)).trans (cI_f (by omega)))
  have e4 : chP c f L l k i π = cI (rul c l k 2 = -100) (piO π L.length (aft c f l L i)) (piO (piO π L.length (aft c f l L (aft c f l L i))) (L.length - 1) (aft c f l L i)) := (cI_f (by omega)).trans (cI_t hkd)
  have e5 : chgI c l k i = i + 1 := cI_f (by omega)
  rw [e1, e4, e5] at K
  unfold lgL at K
  by_cases e2 : rul c l k 2 = -100
  · rw [cI_t e2, cI_t e2] at K
    refine E_aload_n dX0_change_0 rfl ?_
    refine E_getRL dX0_change_1 kF_X0_39 kY_0 (Or.inl ⟨_, rfl⟩) (l_73 hL) (k_73 hL) (r_73_0 hL) ?_
    refine E_getRL dX0_change_4 kF_X0_58 kY_8 (Or.inr ⟨_, rfl⟩) (l_6 hL) (k_6 hL) (r_6_0 hL) ?_
    refine E_iload_n dX0_change_7 rfl ?_
    refine E_aaldL (v := _) dX0_change_8 (l_7 hL) (k_7 hL) (by decide) (by decide) rfl (by omega) (by decide) (hc.cell (by omega)) ?_
    refine E_astore dX0_change_9 (Nat.le_of_ble_eq_true rfl) (by decide) rfl ?_
    refine E_iload_n dX0_change_11 rfl ?_
    refine E_swIn (off := 125) (tgt := 137) dX0_change_12 (by decide) (by decide) (by decide) (by decide) ?_
    refine E_aload_n dX0_change_137 rfl ?_
    refine E_iconst (v := nI 2) dX0_change_138 (by decide) ?_
    refine E_ialdL (v := -100) dX0_change_139 (hk.ltu (by omega)) (hk.kdu (by omega)) rfl (by omega) (by decide) ((hk.rn (by omega) (by omega)).trans e2) ?_
    refine E_bipush (v := -100) dX0_change_140 (by decide) ?_
    refine E_icmp_ne_r (tgt := 149) dX0_change_142 (by decide) (fun c0 => absurd c0 (by decide)) (fun _ => ?_)
    refine E_iconst (v := nI 2) dX0_change_145 (by decide) ?_
    refine E_goto (tgt := 150) dX0_change_146 (by decide) ?_
    refine E_istore dX0_change_150 (Nat.le_of_ble_eq_true rfl) (by decide) rfl ?_
    refine E_aload_n dX0_change_152 rfl ?_
    refine E_getRL dX0_change_153 kF_X0_39 kY_0 (Or.inl ⟨_, rfl⟩) (l_73 hL) (k_73 hL) (r_73_0 hL) ?_
    refine E_aload_n dX0_change_156 rfl ?_
    refine E_getIL (v := nI (aft c f l L i)) dX0_change_157 kF_X0_23 kY_0 (Or.inl rfl) (l_73 hL) (k_73 hL) (h4.trans (afV_n h2l)) ?_
    refine E_callV1 (fr' := 1) (k1 := 0) (n1 := 0) (k2 := 0) (n2 := 0) dX0_change_160 kO_X8_has kL_X0_122 (l_6 hL) (k_6 hL) ⟨by decide, rfl⟩ rfl (by decide) (by decide) (by exact Nat.le_of_ble_eq_true rfl) rfl ?_
    refine sp_X8_has hc (by omega) ?_
    refine gKv ?_
    refine E_if_eq_b (tgt := 186) dX0_change_163 (by decide) (fun c_163 => ?_) (fun c_163 => ?_)
    · first
        | contradiction
        | (exfalso; omega)
    · refine E_iload dX0_change_166 rfl ?_
      refine E_iconst (v := nI 3) dX0_change_168 (by decide) ?_
      refine E_icmp_ne (tgt := 190) dX0_change_169 (by decide) (fun _ => ?_) (fun c0 => absurd (by decide) c0)
      have hc := hc.aux (a := 74) (j := 0) (v := nI i) (Or.inr rfl)
      have hc := hc.aux (a := 74) (j := 1) (v := nI (aft c f l L i)) (Or.inr rfl)
      have hc := hc.aux (a := 74) (j := 2) (v := afV L.length (thB c f l L i)) (Or.inr rfl)
      have hL := hB.lay
      refine E_aload_n dX0_change_190 rfl ?_
      refine E_getRL dX0_change_191 kF_X0_9 kY_0 (Or.inr ⟨_, rfl⟩) (l_73 hL) (k_73 hL) (r_73_1 hL) ?_
      refine E_iconst (v := nI 0) dX0_change_194 (by decide) ?_
      refine E_iload_n dX0_change_195 rfl ?_
      refine E_iast dX0_change_196 (l_74 hL) (k_74 hL) rfl (by omega) (by decide) ?_
      refine E_aload_n dX0_change_197 rfl ?_
      refine E_getRL dX0_change_198 kF_X0_9 kY_0 (Or.inr ⟨_, rfl⟩) (l_73 hL) (k_73 hL) (r_73_1 hL) ?_
      refine E_iconst (v := nI 1) dX0_change_201 (by decide) ?_
      refine E_aload_n dX0_change_202 rfl ?_
      refine E_getIL (v := nI (aft c f l L i)) dX0_change_203 kF_X0_23 kY_0 (Or.inl rfl) (l_73 hL) (k_73 hL) ((mI_ne (by decide)).trans ((h4.trans (afV_n h2l)))) ?_
      refine E_iast dX0_change_206 (l_74 hL) (k_74 hL) rfl (by omega) (by decide) ?_
      refine E_aload_n dX0_change_207 rfl ?_
      refine E_getRL dX0_change_208 kF_X0_9 kY_0 (Or.inr ⟨_, rfl⟩) (l_73 hL) (k_73 hL) (r_73_1 hL) ?_
      refine E_iconst (v := nI 2) dX0_change_211 (by decide) ?_
      refine E_aload_n dX0_change_212 rfl ?_
      refine E_getIL (v := afV _ _) dX0_change_213 kF_X0_27 kY_0 (Or.inl rfl) (l_73 hL) (k_73 hL) ((mI_ne (by decide)).trans ((mI_ne (by decide)).trans (h5))) ?_
      refine E_iast dX0_change_216 (l_74 hL) (k_74 hL) rfl (by omega) (by decide) ?_
      refine E_aload_n dX0_change_217 rfl ?_
      refine E_iload dX0_change_218 rfl ?_
      refine E_callV1 (fr' := 2) (k1 := 0) (n1 := 0) (k2 := 0) (n2 := 0) dX0_change_220 kO_X0_giveParts kL_X0_126 (l_73 hL) (k_73 hL) ⟨by decide, rfl⟩ rfl (by decide) (by decide) (by exact Nat.le_of_ble_eq_true rfl) rfl ?_
      have hsp : spK L.length (sp3 i (aft c f l L i) (thB c f l L i)) 2 := by
        constructor
        · intro j hj
          rcases (show j = 0 ∨ j = 1 by omega) with rfl | rfl
          · exact hi
          · exact h2l
      
        · intro j hj
          rcases (show j = 0 by omega) with rfl
          · exact hab.1
      
      have hs74 : ∀ j, j < 2 → mI (sI (sI (sI M 74 0 (nI i)) 74 1 (nI (aft c f l L i))) 74 2 (afV L.length (thB c f l L i))) 74 j = nI ((sp3 i (aft c f l L i) (thB c f l L i)) j) := by
        intro j hj
        rcases (show j = 0 ∨ j = 1 by omega) with rfl | rfl
        · rw [mI_nj (by decide), mI_nj (by decide)]; exact mI_eq
        · rw [mI_nj (by decide)]; exact mI_eq
      
      refine sp_X0_giveParts hc hf hF0 (m := 2) (by decide) hsp hs74 (fun M2 hc h74 => ?_)
      have hgl := gpL_len (c := c) (f := f) (n := L.length) (sp := (sp3 i (aft c f l L i) (thB c f l L i))) (m := 2) (L := L) 2
      rw [← hgl] at hsp
      have hs74 : ∀ j, j < 2 → mI M2 74 j = nI ((sp3 i (aft c f l L i) (thB c f l L i)) j) := fun j hj => (h74 j).trans (hs74 j hj)
      have hL := hc.B.lay
      refine gKn ?_
      refine E_aload_n dX0_change_223 rfl ?_
      refine E_iload dX0_change_224 rfl ?_
      refine E_callV1 (fr' := 1) (k1 := 0) (n1 := 0) (k2 := 0) (n2 := 0) dX0_change_226 kO_X0_mergeClusters kL_X0_130 (l_73 hL) (k_73 hL) ⟨by decide, rfl⟩ rfl (by decide) (by decide) (by exact Nat.le_of_ble_eq_true rfl) rfl ?_
      refine sp_X0_mergeClusters hc (m := 2) (by decide) (by decide) hsp hs74 (fun M3 hc h74 => ?_)
      have hml := mrg_len (gpL c f L.length (sp3 i (aft c f l L i) (thB c f l L i)) 2 L 2).1 (loN (gpL c f L.length (sp3 i (aft c f l L i) (thB c f l L i)) 2 L 2).1 (sp3 i (aft c f l L i) (thB c f l L i)) (2 - 1)) (hiN (gpL c f L.length (sp3 i (aft c f l L i) (thB c f l L i)) 2 L 2).1 (sp3 i (aft c f l L i) (thB c f l L i)) (2 - 1))
      rw [← hml] at hsp
      have hs74 : ∀ j, j < 2 → mI M3 74 j = nI ((sp3 i (aft c f l L i) (thB c f l L i)) j) := fun j hj => (h74 j).trans (hs74 j hj)
      have hL := hc.B.lay
      have hk := hc.lk hk0
      refine gKn ?_
      refine E_aload_n dX0_change_229 rfl ?_
      refine E_iload dX0_change_230 rfl ?_
      refine E_aload_n dX0_change_232 rfl ?_
      refine E_iconst (v := nI 3) dX0_change_233 (by decide) ?_
      refine E_ialdL (v := nI (gN (rul c l k 3))) dX0_change_234 (hk.ltu (by omega)) (hk.kdu (by omega)) rfl (by omega) (by decide) ((hk.rn (by omega) (by omega)).trans w3.1) ?_
      refine E_callV2 (fr' := 2) (k1 := 0) (n1 := 0) (k2 := 0) (n2 := 0) dX0_change_235 kO_X0_fuse kL_X0_133 (l_73 hL) (k_73 hL) ⟨by decide, rfl⟩ rfl rfl (by decide) (by decide) (by exact Nat.le_of_ble_eq_true rfl) rfl ?_
      refine sp_X0_fuse hc (m := 2) (by omega) (by decide) (by decide) hsp hs74 (fun M4 hc => ?_)
      have hfl2 := fuL_len (mrgL (gpL c f L.length (sp3 i (aft c f l L i) (thB c f l L i)) 2 L 2).1 (loN (gpL c f L.length (sp3 i (aft c f l L i) (thB c f l L i)) 2 L 2).1 (sp3 i (aft c f l L i) (thB c f l L i)) (2 - 1)) (hiN (gpL c f L.length (sp3 i (aft c f l L i) (thB c f l L i)) 2 L 2).1 (sp3 i (aft c f l L i) (thB c f l L i)) (2 - 1))) (sp3 i (aft c f l L i) (thB c f l L i)) (gN (rul c l k 3)) (2 - 1)
      rw [hml, hgl] at hfl2
      have e6 := jn2_eq (c := c) (f := f) (L := L) (one := i) (two := aft c f l L i) (d := thB c f l L i) (its := gN (rul c l k 3)) hab.1 h2l (fun j q1 q2 => aft_marks hi q1 q2)
      simp only [Nat.reduceSub] at hc hfl2
      generalize hX : fuL _ _ _ 1 = X at hc hfl2 e6
      rw [ouL_1] at hc
      simp only [sp3] at hc
      rw [hfl2, e6] at hc
      refine gKn ?_
      refine E_iload_n dX0_change_238 rfl ?_
      refine E_iconst (v := nI 1) dX0_change_239 (by decide) ?_
      refine E_iadd_n dX0_change_240 ?_
      refine E_iret dX0_change_241 (Or.inl rfl) ?_
      exact K _ hc
  · have h3l : aft c f l L (aft c f l L i) < L.length := (hlg.2.2.resolve_left e2).1
    have hab2 := aft_b c f l h2l
    have et : thB c f l L i = aft c f l L (aft c f l L i) := cI_t h2l
    rw [et] at h5
    rw [cI_f e2, cI_f e2] at K
    refine E_aload_n dX0_change_0 rfl ?_
    refine E_getRL dX0_change_1 kF_X0_39 kY_0 (Or.inl ⟨_, rfl⟩) (l_73 hL) (k_73 hL) (r_73_0 hL) ?_
    refine E_getRL dX0_change_4 kF_X0_58 kY_8 (Or.inr ⟨_, rfl⟩) (l_6 hL) (k_6 hL) (r_6_0 hL) ?_
    refine E_iload_n dX0_change_7 rfl ?_
    refine E_aaldL (v := _) dX0_change_8 (l_7 hL) (k_7 hL) (by decide) (by decide) rfl (by omega) (by decide) (hc.cell (by omega)) ?_
    refine E_astore dX0_change_9 (Nat.le_of_ble_eq_true rfl) (by decide) rfl ?_
    refine E_iload_n dX0_change_11 rfl ?_
    refine E_swIn (off := 125) (tgt := 137) dX0_change_12 (by decide) (by decide) (by decide) (by decide) ?_
    refine E_aload_n dX0_change_137 rfl ?_
    refine E_iconst (v := nI 2) dX0_change_138 (by decide) ?_
    refine E_ialdL (v := rul c l k 2) dX0_change_139 (hk.ltu (by omega)) (hk.kdu (by omega)) rfl (by omega) (by decide) (hk.rn (by omega) (by omega)) ?_
    refine E_bipush (v := -100) dX0_change_140 (by decide) ?_
    refine E_icmp_ne (tgt := 149) dX0_change_142 (by decide) (fun _ => ?_) (fun c0 => absurd e2 c0)
    refine E_iconst (v := nI 3) dX0_change_149 (by decide) ?_
    refine E_istore dX0_change_150 (Nat.le_of_ble_eq_true rfl) (by decide) rfl ?_
    refine E_aload_n dX0_change_152 rfl ?_
    refine E_getRL dX0_change_153 kF_X0_39 kY_0 (Or.inl ⟨_, rfl⟩) (l_73 hL) (k_73 hL) (r_73_0 hL) ?_
    refine E_aload_n dX0_change_156 rfl ?_
    refine E_getIL (v := nI (aft c f l L i)) dX0_change_157 kF_X0_23 kY_0 (Or.inl rfl) (l_73 hL) (k_73 hL) (h4.trans (afV_n h2l)) ?_
    refine E_callV1 (fr' := 1) (k1 := 0) (n1 := 0) (k2 := 0) (n2 := 0) dX0_change_160 kO_X8_has kL_X0_122 (l_6 hL) (k_6 hL) ⟨by decide, rfl⟩ rfl (by decide) (by decide) (by exact Nat.le_of_ble_eq_true rfl) rfl ?_
    refine sp_X8_has hc (by omega) ?_
    refine gKv ?_
    refine E_if_eq_b (tgt := 186) dX0_change_163 (by decide) (fun c_163 => ?_) (fun c_163 => ?_)
    · first
        | contradiction
        | (exfalso; omega)
    · refine E_iload dX0_change_166 rfl ?_
      refine E_iconst (v := nI 3) dX0_change_168 (by decide) ?_
      refine E_icmp_ne_r (tgt := 190) dX0_change_169 (by decide) (fun c0 => absurd c0 (by decide)) (fun _ => ?_)
      refine E_aload_n dX0_change_172 rfl ?_
      refine E_getRL dX0_change_173 kF_X0_39 kY_0 (Or.inl ⟨_, rfl⟩) (l_73 hL) (k_73 hL) (r_73_0 hL) ?_
      refine E_aload_n dX0_change_176 rfl ?_
      refine E_getIL (v := nI (aft c f l L (aft c f l L i))) dX0_change_177 kF_X0_27 kY_0 (Or.inl rfl) (l_73 hL) (k_73 hL) ((h5.trans (afV_n h3l))) ?_
      refine E_callV1 (fr' := 1) (k1 := 0) (n1 := 0) (k2 := 0) (n2 := 0) dX0_change_180 kO_X8_has kL_X0_122 (l_6 hL) (k_6 hL) ⟨by decide, rfl⟩ rfl (by decide) (by decide) (by exact Nat.le_of_ble_eq_true rfl) rfl ?_
      refine sp_X8_has hc (by omega) ?_
      refine gKv ?_
      refine E_if_ne_b (tgt := 190) dX0_change_183 (by decide) (fun c_183 => ?_) (fun c_183 => ?_)
      · have hc := hc.aux (a := 74) (j := 0) (v := nI i) (Or.inr rfl)
        have hc := hc.aux (a := 74) (j := 1) (v := nI (aft c f l L i)) (Or.inr rfl)
        have hc := hc.aux (a := 74) (j := 2) (v := nI (aft c f l L (aft c f l L i))) (Or.inr rfl)
        have hL := hB.lay
        refine E_aload_n dX0_change_190 rfl ?_
        refine E_getRL dX0_change_191 kF_X0_9 kY_0 (Or.inr ⟨_, rfl⟩) (l_73 hL) (k_73 hL) (r_73_1 hL) ?_
        refine E_iconst (v := nI 0) dX0_change_194 (by decide) ?_
        refine E_iload_n dX0_change_195 rfl ?_
        refine E_iast dX0_change_196 (l_74 hL) (k_74 hL) rfl (by omega) (by decide) ?_
        refine E_aload_n dX0_change_197 rfl ?_
        refine E_getRL dX0_change_198 kF_X0_9 kY_0 (Or.inr ⟨_, rfl⟩) (l_73 hL) (k_73 hL) (r_73_1 hL) ?_
        refine E_iconst (v := nI 1) dX0_change_201 (by decide) ?_
        refine E_aload_n dX0_change_202 rfl ?_
        refine E_getIL (v := nI (aft c f l L i)) dX0_change_203 kF_X0_23 kY_0 (Or.inl rfl) (l_73 hL) (k_73 hL) ((mI_ne (by decide)).trans ((h4.trans (afV_n h2l)))) ?_
        refine E_iast dX0_change_206 (l_74 hL) (k_74 hL) rfl (by omega) (by decide) ?_
        refine E_aload_n dX0_change_207 rfl ?_
        refine E_getRL dX0_change_208 kF_X0_9 kY_0 (Or.inr ⟨_, rfl⟩) (l_73 hL) (k_73 hL) (r_73_1 hL) ?_
        refine E_iconst (v := nI 2) dX0_change_211 (by decide) ?_
        refine E_aload_n dX0_change_212 rfl ?_
        refine E_getIL (v := nI (aft c f l L (aft c f l L i))) dX0_change_213 kF_X0_27 kY_0 (Or.inl rfl) (l_73 hL) (k_73 hL) ((mI_ne (by decide)).trans ((mI_ne (by decide)).trans ((h5.trans (afV_n h3l))))) ?_
        refine E_iast dX0_change_216 (l_74 hL) (k_74 hL) rfl (by omega) (by decide) ?_
        refine E_aload_n dX0_change_217 rfl ?_
        refine E_iload dX0_change_218 rfl ?_
        refine E_callV1 (fr' := 2) (k1 := 0) (n1 := 0) (k2 := 0) (n2 := 0) dX0_change_220 kO_X0_giveParts kL_X0_126 (l_73 hL) (k_73 hL) ⟨by decide, rfl⟩ rfl (by decide) (by decide) (by exact Nat.le_of_ble_eq_true rfl) rfl ?_
        have hsp : spK L.length (sp3 i (aft c f l L i) (aft c f l L (aft c f l L i))) 3 := by
          constructor
          · intro j hj
            rcases (show j = 0 ∨ j = 1 ∨ j = 2 by omega) with rfl | rfl | rfl
            · exact hi
            · exact h2l
            · exact h3l
          · intro j hj
            rcases (show j = 0 ∨ j = 1 by omega) with rfl | rfl
            · exact hab.1
            · exact hab2.1
        have hs74 : ∀ j, j < 3 → mI (sI (sI (sI M 74 0 (nI i)) 74 1 (nI (aft c f l L i))) 74 2 (nI (aft c f l L (aft c f l L i)))) 74 j = nI ((sp3 i (aft c f l L i) (aft c f l L (aft c f l L i))) j) := by
          intro j hj
          rcases (show j = 0 ∨ j = 1 ∨ j = 2 by omega) with rfl | rfl | rfl
          · rw [mI_nj (by decide), mI_nj (by decide)]; exact mI_eq
          · rw [mI_nj (by decide)]; exact mI_eq
          · exact mI_eq
        refine sp_X0_giveParts hc hf hF0 (m := 3) (by decide) hsp hs74 (fun M2 hc h74 => ?_)
        have hgl := gpL_len (c := c) (f := f) (n := L.length) (sp := (sp3 i (aft c f l L i) (aft c f l L (aft c f l L i)))) (m := 3) (L := L) 3
        rw [← hgl] at hsp
        have hs74 : ∀ j, j < 3 → mI M2 74 j = nI ((sp3 i (aft c f l L i) (aft c f l L (aft c f l L i))) j) := fun j hj => (h74 j).trans (hs74 j hj)
        have hL := hc.B.lay
        refine gKn ?_
        refine E_aload_n dX0_change_223 rfl ?_
        refine E_iload dX0_change_224 rfl ?_
        refine E_callV1 (fr' := 1) (k1 := 0) (n1 := 0) (k2 := 0) (n2 := 0) dX0_change_226 kO_X0_mergeClusters kL_X0_130 (l_73 hL) (k_73 hL) ⟨by decide, rfl⟩ rfl (by decide) (by decide) (by exact Nat.le_of_ble_eq_true rfl) rfl ?_
        refine sp_X0_mergeClusters hc (m := 3) (by decide) (by decide) hsp hs74 (fun M3 hc h74 => ?_)
        have hml := mrg_len (gpL c f L.length (sp3 i (aft c f l L i) (aft c f l L (aft c f l L i))) 3 L 3).1 (loN (gpL c f L.length (sp3 i (aft c f l L i) (aft c f l L (aft c f l L i))) 3 L 3).1 (sp3 i (aft c f l L i) (aft c f l L (aft c f l L i))) (3 - 1)) (hiN (gpL c f L.length (sp3 i (aft c f l L i) (aft c f l L (aft c f l L i))) 3 L 3).1 (sp3 i (aft c f l L i) (aft c f l L (aft c f l L i))) (3 - 1))
        rw [← hml] at hsp
        have hs74 : ∀ j, j < 3 → mI M3 74 j = nI ((sp3 i (aft c f l L i) (aft c f l L (aft c f l L i))) j) := fun j hj => (h74 j).trans (hs74 j hj)
        have hL := hc.B.lay
        have hk := hc.lk hk0
        refine gKn ?_
        refine E_aload_n dX0_change_229 rfl ?_
        refine E_iload dX0_change_230 rfl ?_
        refine E_aload_n dX0_change_232 rfl ?_
        refine E_iconst (v := nI 3) dX0_change_233 (by decide) ?_
        refine E_ialdL (v := nI (gN (rul c l k 3))) dX0_change_234 (hk.ltu (by omega)) (hk.kdu (by omega)) rfl (by omega) (by decide) ((hk.rn (by omega) (by omega)).trans w3.1) ?_
        refine E_callV2 (fr' := 2) (k1 := 0) (n1 := 0) (k2 := 0) (n2 := 0) dX0_change_235 kO_X0_fuse kL_X0_133 (l_73 hL) (k_73 hL) ⟨by decide, rfl⟩ rfl rfl (by decide) (by decide) (by exact Nat.le_of_ble_eq_true rfl) rfl ?_
        refine sp_X0_fuse hc (m := 3) (by omega) (by decide) (by decide) hsp hs74 (fun M4 hc => ?_)
        have hfl2 := fuL_len (mrgL (gpL c f L.length (sp3 i (aft c f l L i) (aft c f l L (aft c f l L i))) 3 L 3).1 (loN (gpL c f L.length (sp3 i (aft c f l L i) (aft c f l L (aft c f l L i))) 3 L 3).1 (sp3 i (aft c f l L i) (aft c f l L (aft c f l L i))) (3 - 1)) (hiN (gpL c f L.length (sp3 i (aft c f l L i) (aft c f l L (aft c f l L i))) 3 L 3).1 (sp3 i (aft c f l L i) (aft c f l L (aft c f l L i))) (3 - 1))) (sp3 i (aft c f l L i) (aft c f l L (aft c f l L i))) (gN (rul c l k 3)) (3 - 1)
        rw [hml, hgl] at hfl2
        have e6 := jn3_eq (c := c) (f := f) (L := L) (one := i) (two := aft c f l L i) (three := aft c f l L (aft c f l L i)) (its := gN (rul c l k 3)) hab.1 hab2.1 h3l (fun j q1 q2 => aft_marks hi q1 q2) (fun j q1 q2 => aft_marks h2l q1 q2)
        simp only [Nat.reduceSub] at hc hfl2
        generalize hX : fuL _ _ _ 2 = X at hc hfl2 e6
        rw [ouL_2] at hc
        simp only [sp3] at hc
        rw [cl_len, hfl2, e6] at hc
        refine gKn ?_
        refine E_iload_n dX0_change_238 rfl ?_
        refine E_iconst (v := nI 1) dX0_change_239 (by decide) ?_
        refine E_iadd_n dX0_change_240 ?_
        refine E_iret dX0_change_241 (Or.inl rfl) ?_
        exact K _ hc
      · first
          | contradiction
          | (exfalso; omega)
theorem sp_X0_change {g : gG} {M : gM} {Q : Option Value ⊕ String → gM → Prop} {c : Cf} {P : Nat → Nat} {M0 : gM} {L : List Gl} {π : Nat → Nat} (hc : cX c P M0 L π M) {f tb l p : Nat} (hf : f < 2) (hF0 : mR M0 73 2 = fb f + 1) (hT0 : mI M0 73 3 = nI tb) (htb : tb ≤ 1) (hk0 : kLk c M0 l p) (hfl : l / 12 = f) {k i : Nat} (hkl : k < cN c 135 l) (hi : i < L.length) (hft : fit c f L l k i) (hkd : cN c 130 l ≤ 3) (h4 : mI M 73 4 = afV L.length (aft c f l L i)) (h5 : mI M 73 5 = afV L.length (thB c f l L i)) (K : ∀ M, cX c P M0 (chgL c f L l k i) (chP c f L l k i π) M → Q (.inl (some (.int (nI (chgI c l k i))))) M) : E g 3 0 0 mX0_change 0 [.ref 74, .int (nI (cN c 130 l)), .ref (p + 2 + k + 1), .int (nI i), .null, .null] [] M Q := by
  rcases (show cN c 130 l = 0 ∨ cN c 130 l = 1 ∨ cN c 130 l = 2 ∨ cN c 130 l = 3 by omega) with e | e | e | e
  · have z := sp_X0_change0 (g := g) (Q := Q) hc hf hF0 hT0 htb hk0 hfl hkl hi hft e K
    rw [e]; exact z
  · have z := sp_X0_change1 (g := g) (Q := Q) hc hf hF0 hT0 htb hk0 hfl hkl hi hft e K
    rw [e]; exact z
  · have z := sp_X0_change2 (g := g) (Q := Q) hc hf hF0 hT0 htb hk0 hfl hkl hi hft e K
    rw [e]; exact z
  · have z := sp_X0_change3 (g := g) (Q := Q) hc hf hF0 hT0 htb hk0 hfl hkl hi hft e h4 h5 K
    rw [e]; exact z
/-- where a glyph behind comes to stand, and where to go on when it is taken out -/
theorem chg_trk {c : Cf} {f : Nat} {L : List Gl} {l k i t : Nat} {π : Nat → Nat} (hn : L.length ≤ 64) (hinj : ∀ a b, a < 64 → b < 64 → π a = π b → a = b) (hft : fit c f L l k i) (hit : i < t) (ht : t < L.length) : ∃ t', chgW c f L (nI t) l k i = nI t' ∧ i ≤ t' ∧ t' ≤ 66 ∧ ((t' < (chgL c f L l k i).length ∧ chP c f L l k i π t' = π t) ∨ ((∀ j, j < (chgL c f L l k i).length → ¬ chP c f L l k i π j = π t) ∧ t' + 1 = chgI c l k i)) := by
  have kinds : cN c 130 l = 0 ∨ cN c 130 l = 1 ∨ cN c 130 l = 2 ∨ cN c 130 l = 3 := by
    rcases hft.2 with q | q | q | q <;> omega
  unfold chgW chgL chP chgI
  rcases kinds with e | e | e | e
  · rw [cI_t e, cI_t e, cI_f (show ¬ cN c 130 l = 1 by omega), cI_f (show ¬ cN c 130 l = 3 by omega)]
    exact ⟨t, rfl, by omega, by omega, Or.inl ⟨by rw [num_len]; exact ht, rfl⟩⟩
  · rw [cI_f (show ¬ cN c 130 l = 0 by omega), cI_f (show ¬ cN c 130 l = 0 by omega), cI_t e, cI_t e, cI_t e, cI_t e, wPu_n (by omega) (by omega), if_neg (by omega)]
    have hmb := mrN_b (rul c l k 3)
    refine ⟨t + mrN (rul c l k 3), rfl, by omega, by omega, Or.inl ⟨by rw [ptL_len]; omega, ?_⟩⟩
    by_cases e3 : rul c l k 3 = -100
    · rw [cI_t e3, show mrN (rul c l k 3) = 1 from cI_t e3, piB_at (by omega), if_neg (by omega), if_neg (by omega), Nat.add_sub_cancel]
    · rw [cI_f e3, show mrN (rul c l k 3) = 2 from cI_f e3, piB_at (by omega), if_neg (by omega), if_neg (by omega), show t + 2 - 1 = t + 1 by omega, piB_at (by omega), if_neg (by omega), if_neg (by omega), Nat.add_sub_cancel]
  · rw [cI_f (show ¬ cN c 130 l = 0 by omega), cI_f (show ¬ cN c 130 l = 0 by omega), cI_f (show ¬ cN c 130 l = 1 by omega), cI_f (show ¬ cN c 130 l = 1 by omega), cI_f (show ¬ cN c 130 l = 1 by omega), cI_f (show ¬ cN c 130 l = 1 by omega), cI_t e, cI_t e, cI_f (show ¬ cN c 130 l = 3 by omega)]
    exact ⟨t, rfl, by omega, by omega, Or.inl ⟨by rw [num_len]; exact ht, rfl⟩⟩
  · rw [cI_f (show ¬ cN c 130 l = 0 by omega), cI_f (show ¬ cN c 130 l = 0 by omega), cI_f (show ¬ cN c 130 l = 1 by omega), cI_f (show ¬ cN c 130 l = 1 by omega), cI_f (show ¬ cN c 130 l = 1 by omega), cI_f (show ¬ cN c 130 l = 1 by omega), cI_f (show ¬ cN c 130 l = 2 by omega), cI_f (show ¬ cN c 130 l = 2 by omega), cI_t e]
    have hlg : lgF c f l L i (rul c l k 1) (rul c l k 2) := by
      rcases hft.2 with q | q | q | q
      · omega
      · omega
      · omega
      · exact q.2
    have h2l := hlg.1
    have hab := aft_b c f l (show i < L.length by omega)
    unfold lgW lgL
    by_cases e2 : rul c l k 2 = -100
    · rw [cI_t e2, cI_t e2, cI_t e2, wTk_n (by omega) (by omega), jn2_len]
      by_cases q : t = aft c f l L i
      · rw [if_pos q]
        refine ⟨i, rfl, Nat.le_refl _, by omega, Or.inr ⟨fun j hj => ?_, rfl⟩⟩
        rw [piO_at hj]
        intro z
        have := hinj _ _ (by split <;> omega) (by omega) z
        split at this <;> omega
      · rw [if_neg q]
        by_cases q2 : t ≤ aft c f l L i
        · rw [if_pos q2]
          exact ⟨t, rfl, by omega, by omega, Or.inl ⟨by omega, by rw [piO_at (by omega), if_pos (by omega)]⟩⟩
        · rw [if_neg q2]
          exact ⟨t - 1, rfl, by omega, by omega, Or.inl ⟨by omega, by rw [piO_at (by omega), if_neg (by omega), Nat.sub_add_cancel (by omega)]⟩⟩
    · have h3l : aft c f l L (aft c f l L i) < L.length := (hlg.2.2.resolve_left e2).1
      have hab2 := aft_b c f l h2l
      rw [cI_f e2, cI_f e2, cI_f e2, wTk_n (by omega) (by omega), jn3_len]
      generalize aft c f l L (aft c f l L i) = tt at *
      generalize aft c f l L i = a at *
      have pat : ∀ j, j < L.length - 1 - 1 → piO (piO π L.length tt) (L.length - 1) a j = π (if j < a then j else if j + 1 < tt then j + 1 else j + 2) := fun j hj => by
        rw [piO_at hj]
        by_cases c1 : j < a
        · rw [if_pos c1, if_pos c1, piO_at (by omega), if_pos (by omega)]
        · rw [if_neg c1, if_neg c1, piO_at (by omega)]
      have out : ∀ x, x < L.length → (x = a ∨ x = tt) → ∀ j, j < L.length - 1 - 1 → ¬ piO (piO π L.length tt) (L.length - 1) a j = π x := fun x hx hxa j hj z => by
        rw [pat j hj] at z
        have := hinj _ _ (by repeat' split
                             all_goals omega) (by omega) z
        repeat' split at this
        all_goals omega
      by_cases q : t = tt
      · rw [if_pos q, wTk_n (by omega) (by omega), if_neg (by omega), if_pos (by omega)]
        exact ⟨i, rfl, Nat.le_refl _, by omega, Or.inr ⟨out t ht (Or.inr q), rfl⟩⟩
      · rw [if_neg q]
        by_cases q2 : t ≤ tt
        · rw [if_pos q2, wTk_n (by omega) (by omega)]
          by_cases q3 : t = a
          · rw [if_pos q3]
            exact ⟨i, rfl, Nat.le_refl _, by omega, Or.inr ⟨out t ht (Or.inl q3), rfl⟩⟩
          · rw [if_neg q3]
            by_cases q4 : t ≤ a
            · rw [if_pos q4]
              exact ⟨t, rfl, by omega, by omega, Or.inl ⟨by omega, by rw [pat t (by omega), if_pos (by omega)]⟩⟩
            · rw [if_neg q4]
              exact ⟨t - 1, rfl, by omega, by omega, Or.inl ⟨by omega, by rw [pat (t - 1) (by omega), if_neg (by omega), if_pos (by omega), Nat.sub_add_cancel (by omega)]⟩⟩
        · rw [if_neg q2, wTk_n (by omega) (by omega), if_neg (by omega), if_neg (by omega)]
          exact ⟨t - 1 - 1, rfl, by omega, by omega, Or.inl ⟨by omega, by rw [pat (t - 1 - 1) (by omega), if_neg (by omega), if_neg (by omega), show t - 1 - 1 + 2 = t by omega]⟩⟩
theorem chg_self {c : Cf} {f : Nat} {L : List Gl} {l k i : Nat} (hn : L.length ≤ 64) (hi : i < L.length) (hft : fit c f L l k i) : chgW c f L (nI i) l k i = nI (chgI c l k i - 1) ∧ chgI c l k i ≤ 67 ∧ i + 1 ≤ chgI c l k i := by
  have kinds : cN c 130 l = 0 ∨ cN c 130 l = 1 ∨ cN c 130 l = 2 ∨ cN c 130 l = 3 := by
    rcases hft.2 with q | q | q | q <;> omega
  have hcb := chgI_b c l k i
  refine ⟨?_, by omega, by omega⟩
  unfold chgW chgI
  rcases kinds with e | e | e | e
  · rw [cI_t e, cI_f (show ¬ cN c 130 l = 1 by omega), Nat.add_sub_cancel]
  · rw [cI_f (show ¬ cN c 130 l = 0 by omega), cI_t e, cI_t e, wPu_n (by omega) (by omega), if_neg (Nat.lt_irrefl i), Nat.add_sub_cancel]
  · rw [cI_f (show ¬ cN c 130 l = 0 by omega), cI_f (show ¬ cN c 130 l = 1 by omega), cI_t e, cI_f (show ¬ cN c 130 l = 1 by omega), Nat.add_sub_cancel]
  · rw [cI_f (show ¬ cN c 130 l = 0 by omega), cI_f (show ¬ cN c 130 l = 1 by omega), cI_f (show ¬ cN c 130 l = 2 by omega), cI_f (show ¬ cN c 130 l = 1 by omega), Nat.add_sub_cancel]
    have hlg : lgF c f l L i (rul c l k 1) (rul c l k 2) := by
      rcases hft.2 with q | q | q | q
      · omega
      · omega
      · omega
      · exact q.2
    have h2l := hlg.1
    have hab := aft_b c f l hi
    unfold lgW
    by_cases e2 : rul c l k 2 = -100
    · rw [cI_t e2, wTk_n (by omega) (by omega), if_neg (by omega), if_pos (by omega)]
    · have h3l : aft c f l L (aft c f l L i) < L.length := (hlg.2.2.resolve_left e2).1
      have hab2 := aft_b c f l h2l
      rw [cI_f e2, wTk_n (by omega) (by omega), if_neg (by omega), if_pos (by omega), wTk_n (by omega) (by omega), if_neg (by omega), if_pos (by omega)]
theorem cxI_no {c : Cf} {f : Nat} {L : List Gl} {l k i : Nat} (hn : L.length ≤ 64) (hw : twC c f L l k i < L.length) (h : ¬ caP c f L (gN (rul c l k 5)) (spo c f L l k i)) : cxL c f L l k i = L ∧ cxI c f L l k i = twC c f L l k i + 1 := by
  have e1 : cxW c f L l k i = nI (twC c f L l k i) := cI_f h
  refine ⟨cI_f h, ?_⟩
  show gN (cxW c f L l k i) + 1 = _
  rw [e1, gN_nI (by omega)]
theorem cxI_yes {c : Cf} {f : Nat} {L : List Gl} {l k i x : Nat} (h : caP c f L (gN (rul c l k 5)) (spo c f L l k i)) (hx : x < 2 ^ 31) (e : chgW c f L (nI (twC c f L l k i)) (12 * f + gN (rul c l k 5)) (ffA c f L (12 * f + gN (rul c l k 5)) (spo c f L l k i)) (spo c f L l k i) = nI x) : cxL c f L l k i = chgL c f L (12 * f + gN (rul c l k 5)) (ffA c f L (12 * f + gN (rul c l k 5)) (spo c f L l k i)) (spo c f L l k i) ∧ cxI c f L l k i = x + 1 := by
  have e1 : cxW c f L l k i = nI x := (cI_t h).trans e
  refine ⟨cI_t h, ?_⟩
  show gN (cxW c f L l k i) + 1 = _
  rw [e1, gN_nI hx]
set_option maxRecDepth 100000 in
set_option maxHeartbeats 4000000 in
theorem t3_X0_call {g : gG} {Q : Option Value ⊕ String → gM → Prop} {c : Cf} {P : Nat → Nat} {M0 : gM} {L : List Gl} {π : Nat → Nat} {f l p k i : Nat} (K : ∀ M π, cX c P M0 (cxL c f L l k i) π M → Q (.inl (some (.int (nI (cxI c f L l k i))))) M) (hp64 : ∀ a, a < 64 → π a < 64) (hinj : ∀ a b, a < 64 → b < 64 → π a = π b → a = b) (hn : L.length ≤ 64) (htw : i ≤ twC c f L l k i ∧ twC c f L l k i < L.length) (hsp : spo c f L l k i = i ∨ spo c f L l k i = twC c f L l k i) (hca : caP c f L (gN (rul c l k 5)) (spo c f L l k i)) {v5 v7 : Value} {M : gM} (hc : cX c P M0 (chgL c f L (12 * f + gN (rul c l k 5)) (ffA c f L (12 * f + gN (rul c l k 5)) (spo c f L l k i)) (spo c f L l k i)) (chP c f L (12 * f + gN (rul c l k 5)) (ffA c f L (12 * f + gN (rul c l k 5)) (spo c f L l k i)) (spo c f L l k i) π) M) : E g 4 0 0 mX0_call 172 [.ref 74, .ref (p + 2 + k + 1), .int (nI i), .int (nI (twC c f L l k i)), .int (nI (spo c f L l k i)), v5, .ref (8 + π (twC c f L l k i) + 1), v7, .int (nI (chgI c (12 * f + gN (rul c l k 5)) (ffA c f L (12 * f + gN (rul c l k 5)) (spo c f L l k i)) (spo c f L l k i))), .null] [] M Q := by
  have hB := hc.B
  have hL := hB.lay
  have hft := ffA_f hca.2.2.2
  have hcs := chg_self hn (show spo c f L l k i < L.length by omega) hft
  refine E_iload dX0_call_172 rfl ?_
  refine E_iload_n dX0_call_174 rfl ?_
  refine E_icmp_ne_n (tgt := 181) dX0_call_175 (by decide) (by omega) (by omega) (fun c_175 => ?_) (fun c_175 => ?_)
  · have hlt : spo c f L l k i < twC c f L l k i := by omega
    obtain ⟨t', g1, g2, g3, g4⟩ := chg_trk hn hinj hft hlt htw.2
    have e := cxI_yes hca (x := t') (by omega) g1
    rw [e.1, e.2] at K
    have hsi : spo c f L l k i = i := by omega
    refine E_aload_n dX0_call_181 rfl ?_
    refine E_getRL dX0_call_182 kF_X0_39 kY_0 (Or.inl ⟨_, rfl⟩) (l_73 hL) (k_73 hL) (r_73_0 hL) ?_
    refine E_aload dX0_call_185 rfl ?_
    refine E_callV1 (fr' := 1) (k1 := 0) (n1 := 0) (k2 := 0) (n2 := 0) dX0_call_187 kO_X8_indexOf kL_X0_168 (l_6 hL) (k_6 hL) ⟨by decide, rfl⟩ rfl (by decide) (by decide) (by exact Nat.le_of_ble_eq_true rfl) rfl ?_
    refine sp_X8_indexOf hc (hp64 _ (by omega)) (fun x hx hpx => ?_) (fun hno => ?_)
    · have ex : x = t' := by
        rcases g4 with ⟨h1, h2⟩ | ⟨h1, _⟩
        · have hl := hc.len
          exact hc.inj (by omega) (by omega) (by rw [hpx, h2])
        · exact absurd hpx (h1 x hx)
      subst ex
      refine gKv ?_
      refine E_istore dX0_call_190 (Nat.le_of_ble_eq_true rfl) (by decide) rfl ?_
      refine E_iload_n dX0_call_192 rfl ?_
      refine E_iload dX0_call_193 rfl ?_
      refine E_bipush (v := -100) dX0_call_195 (by decide) ?_
      refine E_icmp_ne (tgt := 207) dX0_call_197 (by decide) (fun _ => ?_) (fun c0 => absurd (nI_ne100 (by omega)) c0)
      refine E_iload dX0_call_207 rfl ?_
      refine E_kmax_n (gW_at 967 (by decide +kernel) (by decide +kernel)) dX0_call_209 (by decide) (by exact Nat.le_of_ble_eq_true rfl) (by omega) (by omega) ?_
      refine E_iconst (v := nI 1) dX0_call_212 (by decide) ?_
      refine E_iadd_n dX0_call_213 ?_
      refine E_iret dX0_call_214 (Or.inl rfl) ?_
      rw [show max i x = x by omega]
      exact K _ _ hc
    · have g5 : t' + 1 = chgI c (12 * f + gN (rul c l k 5)) (ffA c f L (12 * f + gN (rul c l k 5)) (spo c f L l k i)) (spo c f L l k i) := by
        rcases g4 with ⟨h1, h2⟩ | ⟨_, h2⟩
        · exact absurd h2 (hno _ h1)
        · exact h2
      rw [← g5]
      refine gKv ?_
      refine E_istore dX0_call_190 (Nat.le_of_ble_eq_true rfl) (by decide) rfl ?_
      refine E_iload_n dX0_call_192 rfl ?_
      refine E_iload dX0_call_193 rfl ?_
      refine E_bipush (v := -100) dX0_call_195 (by decide) ?_
      refine E_icmp_ne_r (tgt := 207) dX0_call_197 (by decide) (fun c0 => absurd c0 (by decide)) (fun _ => ?_)
      refine E_iload dX0_call_200 rfl ?_
      refine E_iconst (v := nI 1) dX0_call_202 (by decide) ?_
      refine E_isub_n dX0_call_203 (by omega) ?_
      refine E_goto (tgt := 209) dX0_call_204 (by decide) ?_
      refine E_kmax_n (gW_at 967 (by decide +kernel) (by decide +kernel)) dX0_call_209 (by decide) (by exact Nat.le_of_ble_eq_true rfl) (by omega) (by omega) ?_
      refine E_iconst (v := nI 1) dX0_call_212 (by decide) ?_
      refine E_iadd_n dX0_call_213 ?_
      refine E_iret dX0_call_214 (Or.inl rfl) ?_
      rw [show max i (t' + 1 - 1) = t' by omega]
      exact K _ _ hc
  · refine E_iload dX0_call_178 rfl ?_
    refine E_iret dX0_call_180 (Or.inl rfl) ?_
    have q : spo c f L l k i = twC c f L l k i := by omega
    have hcs1 := hcs.1
    rw [q] at hcs1
    have e := cxI_yes hca (x := chgI c (12 * f + gN (rul c l k 5)) (ffA c f L (12 * f + gN (rul c l k 5)) (spo c f L l k i)) (spo c f L l k i) - 1) (by omega) (by rw [q]; exact hcs1)
    rw [e.1, e.2, Nat.sub_add_cancel (by omega)] at K
    exact K _ _ hc
set_option maxRecDepth 100000 in
set_option maxHeartbeats 4000000 in
theorem t2_X0_call {g : gG} {M : gM} {Q : Option Value ⊕ String → gM → Prop} {c : Cf} {P : Nat → Nat} {M0 : gM} {L : List Gl} {π : Nat → Nat} (hc : cX c P M0 L π M) {f tb l p : Nat} (hf : f < 2) (hF0 : mR M0 73 2 = fb f + 1) (hT0 : mI M0 73 3 = nI tb) (htb : tb ≤ 1) (hk0 : kLk c M0 l p) (hfl : l / 12 = f) {k i : Nat} (hkl : k < cN c 135 l) (hi : i < L.length) (hkd : cN c 130 l = 4) (hcf : cfit c f L l k i) (K : ∀ M π, cX c P M0 (cxL c f L l k i) π M → Q (.inl (some (.int (nI (cxI c f L l k i))))) M) (htw : i ≤ twC c f L l k i ∧ twC c f L l k i < L.length) (hsp : spo c f L l k i = i ∨ spo c f L l k i = twC c f L l k i) : ∀ v5 v6 v7 v8, E g 4 0 0 mX0_call 33 [.ref 74, .ref (p + 2 + k + 1), .int (nI i), .int (nI (twC c f L l k i)), .int (nI (spo c f L l k i)), v5, v6, v7, v8, .null] [] M Q := by
  have hB := hc.B
  have hL := hB.lay
  have hn := hc.len
  have hk := hc.lk hk0
  have hl := hB.wf.lk l
  intro v5 v6 v7 v8
  have hc0 := hc
  have hB0 : kB c P M0 := hc.1
  have hwr := hB.wf.ru hkl
  rw [hkd] at hwr
  have w5 := gN_ok (show iIn (rul c l k 5) (nI 0) (nI 11) from hwr.2.2) (by decide)
  have hctb := hB.wf.ct f
  have fin0 : ¬ caP c f L (gN (rul c l k 5)) (spo c f L l k i) → ∀ M π, cX c P M0 L π M → Q (.inl (some (.int (nI (twC c f L l k i + 1))))) M := fun h M π hc => by
    have e := cxI_no hn htw.2 h
    rw [e.1, e.2] at K
    exact K _ _ hc
  refine E_aload_n dX0_call_33 rfl ?_
  refine E_getRL dX0_call_34 kF_X0_15 kY_0 (Or.inl ⟨_, rfl⟩) (l_73 hL) (k_73 hL) (hc.fac hF0) ?_
  refine E_aload_n dX0_call_37 rfl ?_
  refine E_iconst (v := nI 5) dX0_call_38 (by decide) ?_
  refine E_ialdL (v := nI (gN (rul c l k 5))) dX0_call_39 (hk.ltu (by omega)) (hk.kdu (by omega)) rfl (by omega) (by decide) ((hk.rn (by omega) (by omega)).trans w5.1) ?_
  refine E_callV1 (fr' := 1) (k1 := 0) (n1 := 0) (k2 := 0) (n2 := 0) dX0_call_40 kO_X1_lookupAt kL_X0_160 (hB.flt0 hf) (hB.fk0 hf) ⟨by decide, rfl⟩ rfl (by decide) (by decide) (by exact Nat.le_of_ble_eq_true rfl) rfl ?_
  refine sp_X1_lookupAt hB hf (fun j hj he => ?_) (fun hno => ?_)
  · have hJ : j = gN (rul c l k 5) := ((nI_eq (by omega) (by omega)).mp he).symm
    subst hJ
    have hk02 := hB0.kl hf hj
    have hk2 := hc.lk hk02
    have hfl2 : (12 * f + gN (rul c l k 5)) / 12 = f := by omega
    have hl2 := hB.wf.lk (12 * f + gN (rul c l k 5))
    refine gKv ?_
    refine E_astore dX0_call_43 (Nat.le_of_ble_eq_true rfl) (by decide) rfl ?_
    refine E_aload dX0_call_45 rfl ?_
    refine E_ifnull (tgt := 82) dX0_call_47 (by decide) (fun c_47 => ?_) (fun c_47 => ?_)
    · have hnc : ¬ caP c f L (gN (rul c l k 5)) (spo c f L l k i) := fun z => by have := z.2.1; first | omega | contradiction
      refine E_iload_n dX0_call_82 rfl ?_
      refine E_iload_n dX0_call_83 rfl ?_
      refine E_kmax_n (gW_at 967 (by decide +kernel) (by decide +kernel)) dX0_call_84 (by decide) (by exact Nat.le_of_ble_eq_true rfl) (by omega) (by omega) ?_
      refine E_iconst (v := nI 1) dX0_call_87 (by decide) ?_
      refine E_iadd_n dX0_call_88 ?_
      refine E_iret dX0_call_89 (Or.inl rfl) ?_
      rw [show max i (twC c f L l k i) = twC c f L l k i by omega]
      exact fin0 hnc _ _ hc
    · refine E_aload dX0_call_50 rfl ?_
      refine E_getIL (v := nI (cN _ 130 _)) dX0_call_52 kF_X0_43 kY_4 (Or.inl rfl) (hk2.lt0) (hk2.kd) hk2.f0 ?_
      refine E_iconst (v := nI 3) dX0_call_55 (by decide) ?_
      refine E_icmp_gt_n (tgt := 82) dX0_call_56 (by decide) (by omega) (by omega) (fun c_56 => ?_) (fun c_56 => ?_)
      · have hnc : ¬ caP c f L (gN (rul c l k 5)) (spo c f L l k i) := fun z => by have := z.2.1; first | omega | contradiction
        refine E_iload_n dX0_call_82 rfl ?_
        refine E_iload_n dX0_call_83 rfl ?_
        refine E_kmax_n (gW_at 967 (by decide +kernel) (by decide +kernel)) dX0_call_84 (by decide) (by exact Nat.le_of_ble_eq_true rfl) (by omega) (by omega) ?_
        refine E_iconst (v := nI 1) dX0_call_87 (by decide) ?_
        refine E_iadd_n dX0_call_88 ?_
        refine E_iret dX0_call_89 (Or.inl rfl) ?_
        rw [show max i (twC c f L l k i) = twC c f L l k i by omega]
        exact fin0 hnc _ _ hc
      · refine E_aload_n dX0_call_59 rfl ?_
        refine E_getRL dX0_call_60 kF_X0_39 kY_0 (Or.inl ⟨_, rfl⟩) (l_73 hL) (k_73 hL) (r_73_0 hL) ?_
        refine E_iload_n dX0_call_63 rfl ?_
        refine E_callV1 (fr' := 1) (k1 := 0) (n1 := 0) (k2 := 0) (n2 := 0) dX0_call_64 kO_X8_has kL_X0_122 (l_6 hL) (k_6 hL) ⟨by decide, rfl⟩ rfl (by decide) (by decide) (by exact Nat.le_of_ble_eq_true rfl) rfl ?_
        refine sp_X8_has hc (by omega) ?_
        refine gKv ?_
        refine E_if_eq_b (tgt := 82) dX0_call_67 (by decide) (fun c_67 => ?_) (fun c_67 => ?_)
        · have hnc : ¬ caP c f L (gN (rul c l k 5)) (spo c f L l k i) := fun z => by have := z.2.1; first | omega | contradiction
          refine E_iload_n dX0_call_82 rfl ?_
          refine E_iload_n dX0_call_83 rfl ?_
          refine E_kmax_n (gW_at 967 (by decide +kernel) (by decide +kernel)) dX0_call_84 (by decide) (by exact Nat.le_of_ble_eq_true rfl) (by omega) (by omega) ?_
          refine E_iconst (v := nI 1) dX0_call_87 (by decide) ?_
          refine E_iadd_n dX0_call_88 ?_
          refine E_iret dX0_call_89 (Or.inl rfl) ?_
          rw [show max i (twC c f L l k i) = twC c f L l k i by omega]
          exact fin0 hnc _ _ hc
        · refine E_aload_n dX0_call_70 rfl ?_
          refine E_getRL dX0_call_71 kF_X0_39 kY_0 (Or.inl ⟨_, rfl⟩) (l_73 hL) (k_73 hL) (r_73_0 hL) ?_
          refine E_iload dX0_call_74 rfl ?_
          refine E_callV1 (fr' := 1) (k1 := 0) (n1 := 0) (k2 := 0) (n2 := 0) dX0_call_76 kO_X8_has kL_X0_122 (l_6 hL) (k_6 hL) ⟨by decide, rfl⟩ rfl (by decide) (by decide) (by exact Nat.le_of_ble_eq_true rfl) rfl ?_
          refine sp_X8_has hc (by omega) ?_
          refine gKv ?_
          refine E_if_ne_b (tgt := 90) dX0_call_79 (by decide) (fun c_79 => ?_) (fun c_79 => ?_)
          · refine E_aload_n dX0_call_90 rfl ?_
            refine E_getRL dX0_call_91 kF_X0_39 kY_0 (Or.inl ⟨_, rfl⟩) (l_73 hL) (k_73 hL) (r_73_0 hL) ?_
            refine E_getRL dX0_call_94 kF_X0_58 kY_8 (Or.inr ⟨_, rfl⟩) (l_6 hL) (k_6 hL) (r_6_0 hL) ?_
            refine E_iload_n dX0_call_97 rfl ?_
            refine E_aaldL (v := _) dX0_call_98 (l_7 hL) (k_7 hL) (by decide) (by decide) rfl (by omega) (by decide) (hc.cell (by omega)) ?_
            refine E_astore dX0_call_99 (Nat.le_of_ble_eq_true rfl) (by decide) rfl ?_
            refine E_aload_n dX0_call_101 rfl ?_
            refine E_getRL dX0_call_102 kF_X0_15 kY_0 (Or.inl ⟨_, rfl⟩) (l_73 hL) (k_73 hL) (hc.fac hF0) ?_
            refine E_aload dX0_call_105 rfl ?_
            refine E_aload_n dX0_call_107 rfl ?_
            refine E_getRL dX0_call_108 kF_X0_39 kY_0 (Or.inl ⟨_, rfl⟩) (l_73 hL) (k_73 hL) (r_73_0 hL) ?_
            refine E_getRL dX0_call_111 kF_X0_58 kY_8 (Or.inr ⟨_, rfl⟩) (l_6 hL) (k_6 hL) (r_6_0 hL) ?_
            refine E_iload dX0_call_114 rfl ?_
            refine E_aaldL (v := _) dX0_call_116 (l_7 hL) (k_7 hL) (by decide) (by decide) rfl (by omega) (by decide) (hc.cell (by omega)) ?_
            refine E_getIL (v := nI (yN (gat _ _))) dX0_call_117 kF_X0_84 kY_2 (Or.inl rfl) (hc.glt (by omega)) (hc.gkd (by omega)) (hc.g0 (by omega)) ?_
            refine E_callV2 (fr' := 1) (k1 := 0) (n1 := 0) (k2 := 0) (n2 := 0) dX0_call_120 kO_X1_skips kL_X0_164 (hB.flt0 hf) (hB.fk0 hf) ⟨by decide, rfl⟩ rfl rfl (by decide) (by decide) (by exact Nat.le_of_ble_eq_true rfl) rfl ?_
            refine sp_X1_skips hB hf hk2 (hc.n256 _) ?_
            refine gKv ?_
            refine E_if_eq_b (tgt := 130) dX0_call_123 (by decide) (fun c_123 => ?_) (fun c_123 => ?_)
            · refine E_aload_n dX0_call_130 rfl ?_
              refine E_aload dX0_call_131 rfl ?_
              refine E_iload dX0_call_133 rfl ?_
              refine E_callV2 (fr' := 3) (k1 := 0) (n1 := 0) (k2 := 0) (n2 := 0) dX0_call_135 kO_X0_firstFit kL_X0_68 (l_73 hL) (k_73 hL) ⟨by decide, rfl⟩ rfl rfl (by decide) (by decide) (by exact Nat.le_of_ble_eq_true rfl) rfl ?_
              refine sp_X0_firstFit hc hf hF0 hT0 htb hk02 hfl2 (by omega) (by omega) (fun M hc h4 h5 hfi => ?_) (fun M hc hfi => ?_)
              · have hB := hc.B
                have hL := hB.lay
                have hk2 := hc.lk hk02
                have eff := fi_ff (f := f) (L := L) (l := 12 * f + gN (rul c l k 5)) (i := spo c f L l k i) hB.wf (by omega) (by omega)
                rw [eff] at hfi
                rw [eff]
                have hca : caP c f L (gN (rul c l k 5)) (spo c f L l k i) := ⟨hj, by omega, by assumption, hfi⟩
                refine gKv ?_
                refine E_istore dX0_call_138 (Nat.le_of_ble_eq_true rfl) (by decide) rfl ?_
                refine E_iload dX0_call_140 rfl ?_
                refine E_bipush (v := -100) dX0_call_142 (by decide) ?_
                refine E_icmp_ne (tgt := 151) dX0_call_144 (by decide) (fun _ => ?_) (fun c0 => absurd (nI_ne100 (by omega)) c0)
                refine E_aload_n dX0_call_151 rfl ?_
                refine E_aload dX0_call_152 rfl ?_
                refine E_getIL (v := nI (cN _ 130 _)) dX0_call_154 kF_X0_43 kY_4 (Or.inl rfl) (hk2.lt0) (hk2.kd) hk2.f0 ?_
                refine E_aload dX0_call_157 rfl ?_
                refine E_getRL dX0_call_159 kF_X0_72 kY_4 (Or.inr ⟨_, rfl⟩) (hk2.lt0) (hk2.kd) hk2.r6 ?_
                refine E_iload dX0_call_162 rfl ?_
                refine E_aaldL (v := _) dX0_call_164 (hk2.lt (i := 1) (by decide)) (hk2.kd1) (by decide) (by decide) rfl (by omega) (by decide) (hk2.ru (by omega)) ?_
                refine E_iload dX0_call_165 rfl ?_
                refine E_callV3 (fr' := 3) (k1 := 0) (n1 := 0) (k2 := 0) (n2 := 0) dX0_call_167 kO_X0_change kL_X0_80 (l_73 hL) (k_73 hL) ⟨by decide, rfl⟩ rfl rfl rfl (by decide) (by decide) (by exact Nat.le_of_ble_eq_true rfl) rfl ?_
                refine sp_X0_change hc hf hF0 hT0 htb hk02 hfl2 hfi (by omega) (ffA_f hfi) (by omega) h4 h5 (fun M hc => ?_)
                refine gKv ?_
                refine E_istore dX0_call_170 (Nat.le_of_ble_eq_true rfl) (by decide) rfl ?_
                exact t3_X0_call K (fun a ha => hc0.p64 ha) (fun a b ha hb e => hc0.inj ha hb e) hn htw hsp hca hc
              · have hL := hc.B.lay
                refine gKv ?_
                refine E_istore dX0_call_138 (Nat.le_of_ble_eq_true rfl) (by decide) rfl ?_
                refine E_iload dX0_call_140 rfl ?_
                refine E_bipush (v := -100) dX0_call_142 (by decide) ?_
                refine E_icmp_ne_r (tgt := 151) dX0_call_144 (by decide) (fun c0 => absurd c0 (by decide)) (fun _ => ?_)
                refine E_iload_n dX0_call_147 rfl ?_
                refine E_iconst (v := nI 1) dX0_call_148 (by decide) ?_
                refine E_iadd_n dX0_call_149 ?_
                refine E_iret dX0_call_150 (Or.inl rfl) ?_
                first
                  | exact fin0 (fun z => absurd z.2.2.1 (not_not_intro (by assumption))) _ _ hc
                  | exact fin0 (fun z => hfi (by rw [fi_ff (f := f) (L := L) (l := 12 * f + gN (rul c l k 5)) (i := spo c f L l k i) hB.wf (by omega) (by omega)]; exact z.2.2.2)) _ _ hc
            · refine E_iload_n dX0_call_126 rfl ?_
              refine E_iconst (v := nI 1) dX0_call_127 (by decide) ?_
              refine E_iadd_n dX0_call_128 ?_
              refine E_iret dX0_call_129 (Or.inl rfl) ?_
              first
                | exact fin0 (fun z => absurd z.2.2.1 (not_not_intro (by assumption))) _ _ hc
                | exact fin0 (fun z => hfi (by rw [fi_ff (f := f) (L := L) (l := 12 * f + gN (rul c l k 5)) (i := spo c f L l k i) hB.wf (by omega) (by omega)]; exact z.2.2.2)) _ _ hc
          · have hnc : ¬ caP c f L (gN (rul c l k 5)) (spo c f L l k i) := fun z => by have := z.2.1; first | omega | contradiction
            refine E_iload_n dX0_call_82 rfl ?_
            refine E_iload_n dX0_call_83 rfl ?_
            refine E_kmax_n (gW_at 967 (by decide +kernel) (by decide +kernel)) dX0_call_84 (by decide) (by exact Nat.le_of_ble_eq_true rfl) (by omega) (by omega) ?_
            refine E_iconst (v := nI 1) dX0_call_87 (by decide) ?_
            refine E_iadd_n dX0_call_88 ?_
            refine E_iret dX0_call_89 (Or.inl rfl) ?_
            rw [show max i (twC c f L l k i) = twC c f L l k i by omega]
            exact fin0 hnc _ _ hc
  · refine gKv ?_
    refine E_astore dX0_call_43 (Nat.le_of_ble_eq_true rfl) (by decide) rfl ?_
    refine E_aload dX0_call_45 rfl ?_
    refine E_ifnull (tgt := 82) dX0_call_47 (by decide) (fun c_47 => ?_) (fun c_47 => ?_)
    · refine E_iload_n dX0_call_82 rfl ?_
      refine E_iload_n dX0_call_83 rfl ?_
      refine E_kmax_n (gW_at 967 (by decide +kernel) (by decide +kernel)) dX0_call_84 (by decide) (by exact Nat.le_of_ble_eq_true rfl) (by omega) (by omega) ?_
      refine E_iconst (v := nI 1) dX0_call_87 (by decide) ?_
      refine E_iadd_n dX0_call_88 ?_
      refine E_iret dX0_call_89 (Or.inl rfl) ?_
      rw [show max i (twC c f L l k i) = twC c f L l k i by omega]
      exact fin0 (fun z => hno ((iBel_iff (by omega)).mpr ⟨_, z.1, rfl⟩)) _ _ hc
    · exfalso; omega
set_option maxRecDepth 100000 in
set_option maxHeartbeats 4000000 in
theorem sp_X0_call {g : gG} {M : gM} {Q : Option Value ⊕ String → gM → Prop} {c : Cf} {P : Nat → Nat} {M0 : gM} {L : List Gl} {π : Nat → Nat} (hc : cX c P M0 L π M) {f tb l p : Nat} (hf : f < 2) (hF0 : mR M0 73 2 = fb f + 1) (hT0 : mI M0 73 3 = nI tb) (htb : tb ≤ 1) (hk0 : kLk c M0 l p) (hfl : l / 12 = f) {k i : Nat} (hkl : k < cN c 135 l) (hi : i < L.length) (hkd : cN c 130 l = 4) (hcf : cfit c f L l k i) (K : ∀ M π, cX c P M0 (cxL c f L l k i) π M → Q (.inl (some (.int (nI (cxI c f L l k i))))) M) (h4 : mI M 73 4 = afV L.length (aft c f l L i)) : E g 4 0 0 mX0_call 0 [.ref 74, .ref (p + 2 + k + 1), .int (nI i), .null, .null, .null, .null, .null, .null, .null] [] M Q := by
  have hB := hc.B
  have hL := hB.lay
  have hn := hc.len
  have hk := hc.lk hk0
  have hl := hB.wf.lk l
  have hwr := hB.wf.ru hkl
  rw [hkd] at hwr
  have hla := hwr.2
  have htw := twC_b hi hcf.2.1
  have go := t2_X0_call (g := g) (Q := Q) hc hf hF0 hT0 htb hk0 hfl hkl hi hkd hcf K htw
  by_cases e2 : rul c l k 2 = -100
  · have et : twC c f L l k i = i := cI_t e2
    have e4 : rul c l k 4 = 0 := by
      rcases hla.1 with q | q
      · exact q
      · exact absurd e2 q.2
    have es : spo c f L l k i = i := cI_t e4
    rw [et, es] at go
    refine E_aload_n dX0_call_0 rfl ?_
    refine E_iconst (v := nI 2) dX0_call_1 (by decide) ?_
    refine E_ialdL (v := -100) dX0_call_2 (hk.ltu (by omega)) (hk.kdu (by omega)) rfl (by omega) (by decide) ((hk.rn (by omega) (by omega)).trans e2) ?_
    refine E_bipush (v := -100) dX0_call_3 (by decide) ?_
    refine E_icmp_ne_r (tgt := 12) dX0_call_5 (by decide) (fun c0 => absurd c0 (by decide)) (fun _ => ?_)
    refine E_iload_n dX0_call_8 rfl ?_
    refine E_goto (tgt := 16) dX0_call_9 (by decide) ?_
    refine E_istore_n dX0_call_16 (Nat.le_of_ble_eq_true rfl) (by decide) rfl ?_
    refine E_aload_n dX0_call_17 rfl ?_
    refine E_iconst (v := nI 4) dX0_call_18 (by decide) ?_
    refine E_ialdL (v := nI 0) dX0_call_19 (hk.ltu (by omega)) (hk.kdu (by omega)) rfl (by omega) (by decide) ((hk.rn (by omega) (by omega)).trans e4) ?_
    refine E_if_ne (tgt := 27) dX0_call_20 (by decide) (fun c0 => absurd c0 (by decide)) (fun _ => ?_)
    refine E_iload_n dX0_call_23 rfl ?_
    refine E_goto (tgt := 31) dX0_call_24 (by decide) ?_
    refine E_istore dX0_call_31 (Nat.le_of_ble_eq_true rfl) (by decide) rfl ?_
    exact go (Or.inl rfl) _ _ _ _
  · have et : twC c f L l k i = aft c f l L i := cI_f e2
    rw [et] at htw
    have h4 := h4.trans (afV_n htw.2)
    by_cases e4 : rul c l k 4 = 0
    · have es : spo c f L l k i = i := cI_t e4
      rw [et, es] at go
      refine E_aload_n dX0_call_0 rfl ?_
      refine E_iconst (v := nI 2) dX0_call_1 (by decide) ?_
      refine E_ialdL (v := _) dX0_call_2 (hk.ltu (by omega)) (hk.kdu (by omega)) rfl (by omega) (by decide) (hk.rn (by omega) (by omega)) ?_
      refine E_bipush (v := -100) dX0_call_3 (by decide) ?_
      refine E_icmp_ne (tgt := 12) dX0_call_5 (by decide) (fun _ => ?_) (fun c0 => absurd e2 c0)
      refine E_aload_n dX0_call_12 rfl ?_
      refine E_getIL (v := nI (aft c f l L i)) dX0_call_13 kF_X0_23 kY_0 (Or.inl rfl) (l_73 hL) (k_73 hL) h4 ?_
      refine E_istore_n dX0_call_16 (Nat.le_of_ble_eq_true rfl) (by decide) rfl ?_
      refine E_aload_n dX0_call_17 rfl ?_
      refine E_iconst (v := nI 4) dX0_call_18 (by decide) ?_
      refine E_ialdL (v := nI 0) dX0_call_19 (hk.ltu (by omega)) (hk.kdu (by omega)) rfl (by omega) (by decide) ((hk.rn (by omega) (by omega)).trans e4) ?_
      refine E_if_ne (tgt := 27) dX0_call_20 (by decide) (fun c0 => absurd c0 (by decide)) (fun _ => ?_)
      refine E_iload_n dX0_call_23 rfl ?_
      refine E_goto (tgt := 31) dX0_call_24 (by decide) ?_
      refine E_istore dX0_call_31 (Nat.le_of_ble_eq_true rfl) (by decide) rfl ?_
      exact go (Or.inl rfl) _ _ _ _
    · have es : spo c f L l k i = aft c f l L i := (cI_f e4).trans et
      rw [et, es] at go
      refine E_aload_n dX0_call_0 rfl ?_
      refine E_iconst (v := nI 2) dX0_call_1 (by decide) ?_
      refine E_ialdL (v := _) dX0_call_2 (hk.ltu (by omega)) (hk.kdu (by omega)) rfl (by omega) (by decide) (hk.rn (by omega) (by omega)) ?_
      refine E_bipush (v := -100) dX0_call_3 (by decide) ?_
      refine E_icmp_ne (tgt := 12) dX0_call_5 (by decide) (fun _ => ?_) (fun c0 => absurd e2 c0)
      refine E_aload_n dX0_call_12 rfl ?_
      refine E_getIL (v := nI (aft c f l L i)) dX0_call_13 kF_X0_23 kY_0 (Or.inl rfl) (l_73 hL) (k_73 hL) h4 ?_
      refine E_istore_n dX0_call_16 (Nat.le_of_ble_eq_true rfl) (by decide) rfl ?_
      refine E_aload_n dX0_call_17 rfl ?_
      refine E_iconst (v := nI 4) dX0_call_18 (by decide) ?_
      refine E_ialdL (v := _) dX0_call_19 (hk.ltu (by omega)) (hk.kdu (by omega)) rfl (by omega) (by decide) (hk.rn (by omega) (by omega)) ?_
      refine E_if_ne (tgt := 27) dX0_call_20 (by decide) (fun _ => ?_) (fun c0 => absurd e4 c0)
      refine E_aload_n dX0_call_27 rfl ?_
      refine E_getIL (v := nI (aft c f l L i)) dX0_call_28 kF_X0_23 kY_0 (Or.inl rfl) (l_73 hL) (k_73 hL) h4 ?_
      refine E_istore dX0_call_31 (Nat.le_of_ble_eq_true rfl) (by decide) rfl ?_
      exact go (Or.inr rfl) _ _ _ _
theorem goS_lt {c : Cf} {f l : Nat} {L : List Gl} {i s : Nat} (hn : L.length ≤ 64) (hi : i < L.length) (h : s + (L.length - i) ≤ 64) : s + 1 + ((goL c f l L i).length - goI c f l L i) ≤ 64 := by
  have := (go_b (c := c) (f := f) (l := l) hn hi).2.2
  omega
set_option maxRecDepth 100000 in
set_option maxHeartbeats 4000000 in
theorem lp_X0_go {g : gG} {Q : Option Value ⊕ String → gM → Prop} {c : Cf} {P : Nat → Nat} {M0 : gM} {f tb l p : Nat} (hf : f < 2) (hF0 : mR M0 73 2 = fb f + 1) (hT0 : mI M0 73 3 = nI tb) (htb : tb ≤ 1) (hk0 : kLk c M0 l p) (hfl : l / 12 = f) (hkd : cN c 130 l ≤ 4) : ∀ t (L : List Gl) i s π M, cX c P M0 L π M → L.length - i ≤ t → i ≤ 100 → s + (L.length - i) ≤ 64 → (K : ∀ M π, cX c P M0 (gos c f l t L i) π M → Q (.inl none) M) → ∀ v4, E g 5 0 0 mX0_go 26 [.ref 74, .ref (p + 1), .int (nI i), .int (nI s), v4] [] M Q := by
  intro t
  induction t with
  | zero =>
    intro L i s π M hc ht hi hs K v4
    have hB := hc.B
    have hL := hB.lay
    have hn := hc.len
    have hk := hc.lk hk0
    have hl := hB.wf.lk l
    refine E_iload_n dX0_go_26 rfl ?_
    refine E_aload_n dX0_go_27 rfl ?_
    refine E_getRL dX0_go_28 kF_X0_39 kY_0 (Or.inl ⟨_, rfl⟩) (l_73 hL) (k_73 hL) (r_73_0 hL) ?_
    refine E_getIL (v := nI (List.length _)) dX0_go_31 kF_X0_52 kY_8 (Or.inl rfl) (l_6 hL) (k_6 hL) hc.n ?_
    refine E_icmp_ge_n (tgt := 136) dX0_go_34 (by decide) (by omega) (by omega) (fun c_34 => ?_) (fun c_34 => ?_)
    · refine E_vret dX0_go_136 rfl ?_
      exact K _ _ hc
    · refine E_iload_n dX0_go_37 rfl ?_
      refine E_ldc (v := nI 1000000) dX0_go_38 (gW_at 960 (by decide +kernel) rfl) ?_
      refine E_icmp_ge_n (tgt := 136) dX0_go_40 (by decide) (by omega) (by omega) (fun c_40 => ?_) (fun c_40 => ?_)
      · refine E_vret dX0_go_136 rfl ?_
        exact K _ _ hc
      · exfalso; omega
  | succ t ih =>
    intro L i s π M hc ht hi hs K v4
    have K : ∀ M π, cX c P M0 (cI (i < L.length) (gos c f l t (goL c f l L i) (goI c f l L i)) L) π M → Q (.inl none) M := K
    have hB := hc.B
    have hL := hB.lay
    have hn := hc.len
    have hk := hc.lk hk0
    have hl := hB.wf.lk l
    have stp : i < L.length → ∀ M π L' i' v4, cX c P M0 L' π M → L' = goL c f l L i → i' = goI c f l L i → E g 5 0 0 mX0_go 26 [.ref 74, .ref (p + 1), .int (nI i'), .int (nI (s + 1)), v4] [] M Q := fun hil M π L' i' v4 hc e1 e2 => by
      rw [cI_t hil, ← e1, ← e2] at K
      have hgb := go_b (c := c) (f := f) (l := l) hn hil
      rw [← e1, ← e2] at hgb
      exact ih _ _ _ _ _ hc (by omega) (by omega) (by omega) K _
    refine E_iload_n dX0_go_26 rfl ?_
    refine E_aload_n dX0_go_27 rfl ?_
    refine E_getRL dX0_go_28 kF_X0_39 kY_0 (Or.inl ⟨_, rfl⟩) (l_73 hL) (k_73 hL) (r_73_0 hL) ?_
    refine E_getIL (v := nI (List.length _)) dX0_go_31 kF_X0_52 kY_8 (Or.inl rfl) (l_6 hL) (k_6 hL) hc.n ?_
    refine E_icmp_ge_n (tgt := 136) dX0_go_34 (by decide) (by omega) (by omega) (fun c_34 => ?_) (fun c_34 => ?_)
    · refine E_vret dX0_go_136 rfl ?_
      first
        | (exfalso; omega)
        | (rw [cI_f (by omega)] at K
           exact K _ _ hc)
    · refine E_iload_n dX0_go_37 rfl ?_
      refine E_ldc (v := nI 1000000) dX0_go_38 (gW_at 960 (by decide +kernel) rfl) ?_
      refine E_icmp_ge_n (tgt := 136) dX0_go_40 (by decide) (by omega) (by omega) (fun c_40 => ?_) (fun c_40 => ?_)
      · refine E_vret dX0_go_136 rfl ?_
        first
          | (exfalso; omega)
          | (rw [cI_f (by omega)] at K
             exact K _ _ hc)
      · have hil : i < L.length := by omega
        refine E_aload_n dX0_go_43 rfl ?_
        refine E_getRL dX0_go_44 kF_X0_15 kY_0 (Or.inl ⟨_, rfl⟩) (l_73 hL) (k_73 hL) (hc.fac hF0) ?_
        refine E_aload_n dX0_go_47 rfl ?_
        refine E_aload_n dX0_go_48 rfl ?_
        refine E_getRL dX0_go_49 kF_X0_39 kY_0 (Or.inl ⟨_, rfl⟩) (l_73 hL) (k_73 hL) (r_73_0 hL) ?_
        refine E_getRL dX0_go_52 kF_X0_58 kY_8 (Or.inr ⟨_, rfl⟩) (l_6 hL) (k_6 hL) (r_6_0 hL) ?_
        refine E_iload_n dX0_go_55 rfl ?_
        refine E_aaldL (v := _) dX0_go_56 (l_7 hL) (k_7 hL) (by decide) (by decide) rfl (by omega) (by decide) (hc.cell (by omega)) ?_
        refine E_callV2 (fr' := 2) (k1 := 0) (n1 := 0) (k2 := 0) (n2 := 0) dX0_go_57 kO_X1_hasTurn kL_X0_62 (hB.flt0 hf) (hB.fk0 hf) ⟨by decide, rfl⟩ rfl rfl (by decide) (by decide) (by exact Nat.le_of_ble_eq_true rfl) rfl ?_
        refine sp_X1_hasTurn hc hf hk (by omega) ?_
        refine gKv ?_
        refine E_if_eq_b (tgt := 72) dX0_go_60 (by decide) (fun c_60 => ?_) (fun c_60 => ?_)
        · refine E_bipush (v := -100) dX0_go_72 (by decide) ?_
          refine E_istore dX0_go_74 (Nat.le_of_ble_eq_true rfl) (by decide) rfl ?_
          refine E_iload dX0_go_76 rfl ?_
          refine E_bipush (v := -100) dX0_go_78 (by decide) ?_
          refine E_icmp_ne_r (tgt := 89) dX0_go_80 (by decide) (fun c0 => absurd c0 (by decide)) (fun _ => ?_)
          refine E_iinc_n (d := 1) dX0_go_83 rfl rfl rfl (by decide) rfl ?_
          refine E_goto (tgt := 130) dX0_go_86 (by decide) ?_
          refine E_iinc_n (d := 1) dX0_go_130 rfl rfl rfl (by decide) rfl ?_
          refine E_goto (tgt := 26) dX0_go_133 (by decide) ?_
          refine stp hil _ _ _ _ _ hc ?_ ?_
          · exact (cI_f (by assumption)).symm
          · exact (cI_f (by assumption)).symm
        · refine E_aload_n dX0_go_63 rfl ?_
          refine E_aload_n dX0_go_64 rfl ?_
          refine E_iload_n dX0_go_65 rfl ?_
          refine E_callV2 (fr' := 3) (k1 := 0) (n1 := 0) (k2 := 0) (n2 := 0) dX0_go_66 kO_X0_firstFit kL_X0_68 (l_73 hL) (k_73 hL) ⟨by decide, rfl⟩ rfl rfl (by decide) (by decide) (by exact Nat.le_of_ble_eq_true rfl) rfl ?_
          refine sp_X0_firstFit hc hf hF0 hT0 htb hk0 hfl hil (by omega) (fun M hc h4 h5 hfi => ?_) (fun M hc hfi => ?_)
          · have hB := hc.B
            have hL := hB.lay
            have hn := hc.len
            have hk := hc.lk hk0
            refine gKv ?_
            refine E_goto (tgt := 74) dX0_go_69 (by decide) ?_
            refine E_istore dX0_go_74 (Nat.le_of_ble_eq_true rfl) (by decide) rfl ?_
            refine E_iload dX0_go_76 rfl ?_
            refine E_bipush (v := -100) dX0_go_78 (by decide) ?_
            refine E_icmp_ne (tgt := 89) dX0_go_80 (by decide) (fun _ => ?_) (fun c0 => absurd (nI_ne100 (by omega)) c0)
            by_cases e4 : cN c 130 l = 4
            · have ect := fi_ct (f := f) (i := i) hil e4
              rw [ect] at hfi ⊢
              refine E_aload_n dX0_go_89 rfl ?_
              refine E_getIL (v := nI (cN _ 130 _)) dX0_go_90 kF_X0_43 kY_4 (Or.inl rfl) (hk.lt0) (hk.kd) hk.f0 ?_
              refine E_iconst (v := nI 4) dX0_go_93 (by decide) ?_
              refine E_icmp_ne (tgt := 113) dX0_go_94 (by decide) (fun c0 => absurd c0 (not_not_intro (by rw [e4]))) (fun _ => ?_)
              refine E_aload_n dX0_go_97 rfl ?_
              refine E_aload_n dX0_go_98 rfl ?_
              refine E_getRL dX0_go_99 kF_X0_72 kY_4 (Or.inr ⟨_, rfl⟩) (hk.lt0) (hk.kd) hk.r6 ?_
              refine E_iload dX0_go_102 rfl ?_
              refine E_aaldL (v := _) dX0_go_104 (hk.lt (i := 1) (by decide)) (hk.kd1) (by decide) (by decide) rfl (by omega) (by decide) (hk.ru (by omega)) ?_
              refine E_iload_n dX0_go_105 rfl ?_
              refine E_callV2 (fr' := 4) (k1 := 0) (n1 := 0) (k2 := 0) (n2 := 0) dX0_go_106 kO_X0_call kL_X0_76 (l_73 hL) (k_73 hL) ⟨by decide, rfl⟩ rfl rfl (by decide) (by decide) (by exact Nat.le_of_ble_eq_true rfl) rfl ?_
              refine sp_X0_call hc hf hF0 hT0 htb hk0 hfl hfi hil e4 (ctA_f hfi) (fun M π hc => ?_) h4
              have hL := hc.B.lay
              refine gKv ?_
              refine E_istore_n dX0_go_109 (Nat.le_of_ble_eq_true rfl) (by decide) rfl ?_
              refine E_goto (tgt := 130) dX0_go_110 (by decide) ?_
              refine E_iinc_n (d := 1) dX0_go_130 rfl rfl rfl (by decide) rfl ?_
              refine E_goto (tgt := 26) dX0_go_133 (by decide) ?_
              refine stp hil _ _ _ _ _ hc ?_ ?_
              · exact ((cI_t (by assumption)).trans ((cI_t e4).trans (cI_t hfi))).symm
              · exact ((cI_t (by assumption)).trans ((cI_t e4).trans (cI_t hfi))).symm
            · have eff := fi_ff (f := f) (i := i) hB.wf hil (show cN c 130 l ≤ 3 by omega)
              rw [eff] at hfi ⊢
              refine E_aload_n dX0_go_89 rfl ?_
              refine E_getIL (v := nI (cN _ 130 _)) dX0_go_90 kF_X0_43 kY_4 (Or.inl rfl) (hk.lt0) (hk.kd) hk.f0 ?_
              refine E_iconst (v := nI 4) dX0_go_93 (by decide) ?_
              refine E_icmp_ne (tgt := 113) dX0_go_94 (by decide) (fun _ => ?_) (fun c0 => absurd (fun q => e4 ((nI_eq (by omega) (by decide)).mp q)) c0)
              refine E_aload_n dX0_go_113 rfl ?_
              refine E_aload_n dX0_go_114 rfl ?_
              refine E_getIL (v := nI (cN _ 130 _)) dX0_go_115 kF_X0_43 kY_4 (Or.inl rfl) (hk.lt0) (hk.kd) hk.f0 ?_
              refine E_aload_n dX0_go_118 rfl ?_
              refine E_getRL dX0_go_119 kF_X0_72 kY_4 (Or.inr ⟨_, rfl⟩) (hk.lt0) (hk.kd) hk.r6 ?_
              refine E_iload dX0_go_122 rfl ?_
              refine E_aaldL (v := _) dX0_go_124 (hk.lt (i := 1) (by decide)) (hk.kd1) (by decide) (by decide) rfl (by omega) (by decide) (hk.ru (by omega)) ?_
              refine E_iload_n dX0_go_125 rfl ?_
              refine E_callV3 (fr' := 3) (k1 := 0) (n1 := 0) (k2 := 0) (n2 := 0) dX0_go_126 kO_X0_change kL_X0_80 (l_73 hL) (k_73 hL) ⟨by decide, rfl⟩ rfl rfl rfl (by decide) (by decide) (by exact Nat.le_of_ble_eq_true rfl) rfl ?_
              refine sp_X0_change hc hf hF0 hT0 htb hk0 hfl hfi hil (ffA_f hfi) (by omega) h4 h5 (fun M hc => ?_)
              have hL := hc.B.lay
              refine gKv ?_
              refine E_istore_n dX0_go_129 (Nat.le_of_ble_eq_true rfl) (by decide) rfl ?_
              refine E_iinc_n (d := 1) dX0_go_130 rfl rfl rfl (by decide) rfl ?_
              refine E_goto (tgt := 26) dX0_go_133 (by decide) ?_
              refine stp hil _ _ _ _ _ hc ?_ ?_
              · exact ((cI_t (by assumption)).trans ((cI_f e4).trans (cI_t hfi))).symm
              · exact ((cI_t (by assumption)).trans ((cI_f e4).trans (cI_t hfi))).symm
          · have hL := hc.B.lay
            refine gKv ?_
            refine E_goto (tgt := 74) dX0_go_69 (by decide) ?_
            refine E_istore dX0_go_74 (Nat.le_of_ble_eq_true rfl) (by decide) rfl ?_
            refine E_iload dX0_go_76 rfl ?_
            refine E_bipush (v := -100) dX0_go_78 (by decide) ?_
            refine E_icmp_ne_r (tgt := 89) dX0_go_80 (by decide) (fun c0 => absurd c0 (by decide)) (fun _ => ?_)
            refine E_iinc_n (d := 1) dX0_go_83 rfl rfl rfl (by decide) rfl ?_
            refine E_goto (tgt := 130) dX0_go_86 (by decide) ?_
            refine E_iinc_n (d := 1) dX0_go_130 rfl rfl rfl (by decide) rfl ?_
            refine E_goto (tgt := 26) dX0_go_133 (by decide) ?_
            refine stp hil _ _ _ _ _ hc ?_ ?_
            · by_cases e4 : cN c 130 l = 4
              · rw [fi_ct (f := f) (i := i) hil e4] at hfi
                exact ((cI_t (by assumption)).trans ((cI_t e4).trans (cI_f hfi))).symm
              · rw [fi_ff (f := f) (i := i) hB.wf hil (show cN c 130 l ≤ 3 by omega)] at hfi
                exact ((cI_t (by assumption)).trans ((cI_f e4).trans (cI_f hfi))).symm
            · by_cases e4 : cN c 130 l = 4
              · rw [fi_ct (f := f) (i := i) hil e4] at hfi
                exact ((cI_t (by assumption)).trans ((cI_t e4).trans (cI_f hfi))).symm
              · rw [fi_ff (f := f) (i := i) hB.wf hil (show cN c 130 l ≤ 3 by omega)] at hfi
                exact ((cI_t (by assumption)).trans ((cI_f e4).trans (cI_f hfi))).symm
set_option maxRecDepth 100000 in
set_option maxHeartbeats 4000000 in
theorem sp_X0_go {g : gG} {M : gM} {Q : Option Value ⊕ String → gM → Prop} {c : Cf} {P : Nat → Nat} {M0 : gM} {L : List Gl} {π : Nat → Nat} (hc : cX c P M0 L π M) {f tb l p : Nat} (hf : f < 2) (hF0 : mR M0 73 2 = fb f + 1) (hT0 : mI M0 73 3 = nI tb) (htb : tb ≤ 1) (hk0 : kLk c M0 l p) (hfl : l / 12 = f) (hkd : cN c 130 l ≤ 5) (K : ∀ M π, cX c P M0 (cI (cN c 130 l = 5) (gbk c f l L.length L) (gos c f l 64 L 0)) π M → Q (.inl none) M) : E g 5 0 0 mX0_go 0 [.ref 74, .ref (p + 1), .null, .null, .null] [] M Q := by
  have hB := hc.B
  have hL := hB.lay
  have hn := hc.len
  have hk := hc.lk hk0
  have hl := hB.wf.lk l
  refine E_aload_n dX0_go_0 rfl ?_
  refine E_getRL dX0_go_1 kF_X0_15 kY_0 (Or.inl ⟨_, rfl⟩) (l_73 hL) (k_73 hL) (hc.fac hF0) ?_
  refine E_ifnonnull (tgt := 8) dX0_go_4 (by decide) (fun c_4 => ?_) (fun c_4 => ?_)
  · refine E_aload_n dX0_go_8 rfl ?_
    refine E_getIL (v := nI (cN _ 130 _)) dX0_go_9 kF_X0_43 kY_4 (Or.inl rfl) (hk.lt0) (hk.kd) hk.f0 ?_
    refine E_iconst (v := nI 5) dX0_go_12 (by decide) ?_
    refine E_icmp_ne_n (tgt := 22) dX0_go_13 (by decide) (by omega) (by omega) (fun c_13 => ?_) (fun c_13 => ?_)
    · refine E_iconst (v := nI 0) dX0_go_22 (by decide) ?_
      refine E_istore_n dX0_go_23 (Nat.le_of_ble_eq_true rfl) (by decide) rfl ?_
      refine E_iconst (v := nI 0) dX0_go_24 (by decide) ?_
      refine E_istore_n dX0_go_25 (Nat.le_of_ble_eq_true rfl) (by decide) rfl ?_
      rw [cI_f (by omega)] at K
      exact lp_X0_go hf hF0 hT0 htb hk0 hfl (by omega) 64 L 0 0 π M hc (by omega) (by omega) (by omega) K _
    · rw [cI_t (by omega)] at K
      refine E_aload_n dX0_go_16 rfl ?_
      refine E_aload_n dX0_go_17 rfl ?_
      refine E_callV1 (fr' := 4) (k1 := 0) (n1 := 0) (k2 := 0) (n2 := 0) dX0_go_18 kO_X0_goBack kL_X0_48 (l_73 hL) (k_73 hL) ⟨by decide, rfl⟩ rfl (by decide) (by decide) (by exact Nat.le_of_ble_eq_true rfl) rfl ?_
      refine sp_X0_goBack hc hf hF0 hT0 htb hk0 hfl (by omega) (fun M π hc => ?_)
      have hL := hc.B.lay
      refine gKn ?_
      refine E_vret dX0_go_21 rfl ?_
      exact K _ _ hc
  · exfalso; omega
