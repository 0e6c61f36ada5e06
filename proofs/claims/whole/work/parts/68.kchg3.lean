/-! the class: what a rule does, what a call does -/
noncomputable def chP (c : Cf) (f : Nat) (L : List Gl) (l k i : Nat) (π : Nat → Nat) : Nat → Nat :=
  cI (cN c 130 l = 1) (cI (rul c l k 3 = -100) (piB π L.length i) (piB (piB π L.length i) (L.length + 1) (i + 1))) (cI (cN c 130 l = 3) (cI (rul c l k 2 = -100) (piO π L.length (aft c f l L i)) (piO (piO π L.length (aft c f l L (aft c f l L i))) (L.length - 1) (aft c f l L i))) π)
theorem ouL_1 {sp : Nat → Nat} {X : List Gl} {π : Nat → Nat} : ouL sp 1 (X, π) = (closeL X (sp 1), piO π X.length (sp 1)) := rfl
theorem ouL_2 {sp : Nat → Nat} {X : List Gl} {π : Nat → Nat} : ouL sp 2 (X, π) = (closeL (closeL X (sp 2)) (sp 1), piO (piO π X.length (sp 2)) (closeL X (sp 2)).length (sp 1)) := rfl
theorem mI_s {M : gM} {a k b j : Nat} {v : Int32} (h : ¬ (b = a ∧ j = k)) : mI (sI M a k v) b j = mI M b j := by rw [mI_sI, if_neg h]
set_option maxRecDepth 100000 in
set_option maxHeartbeats 4000000 in
theorem sp_X0_change0 {g : gG} {M : gM} {Q : Option Value ⊕ String → gM → Prop} {c : Cf} {P : Nat → Nat} {M0 : gM} {L : List Gl} {π : Nat → Nat} (hc : cX c P M0 L π M) {f tb l p : Nat} (hf : f < 2) (hF0 : mR M0 73 2 = fb f + 1) (hT0 : mI M0 73 3 = nI tb) (htb : tb ≤ 1) (hk0 : kLk c M0 l p) (hfl : l / 12 = f) {k i : Nat} (hkl : k < cN c 135 l) (hi : i < L.length) (hft : fit c f L l k i) (hkd : cN c 130 l = 0) (K : ∀ M, cX c P M0 (chgL c f L l k i) (chP c f L l k i π) M → Q (.inl (some (.int (nI (chgI c l k i))))) M) : E g 3 0 0 mX0_change 0 [.ref 74, .int (nI 0), .ref (p + 2 + k + 1), .int (nI i), .null, .null] [] M Q := by
  have hB := hc.B
  have hL := hB.lay
  have hn := hc.len
  have hk := hc.lk hk0
  have hl := hB.wf.lk l
  have hwr := hB.wf.ru hkl
  rw [hkd] at hwr
  have w1 := gN_ok (iF0 hwr.1).2.1 (by decide)
  have e1 : chgL c f L l k i = numL L i (gN (rul c l k 1)) := cI_t hkd
  have e2 : chgI c l k i = i + 1 := cI_f (by omega)
  have e3 : chP c f L l k i π = π := (cI_f (by omega)).trans (cI_f (by omega))
  rw [e1, e2, e3] at K
  refine E_aload_n dX0_change_0 rfl ?_
  refine E_getRL dX0_change_1 kF_X0_39 kY_0 (Or.inl ⟨_, rfl⟩) (l_73 hL) (k_73 hL) (r_73_0 hL) ?_
  refine E_getRL dX0_change_4 kF_X0_58 kY_8 (Or.inr ⟨_, rfl⟩) (l_6 hL) (k_6 hL) (r_6_0 hL) ?_
  refine E_iload_n dX0_change_7 rfl ?_
  refine E_aaldL (v := _) dX0_change_8 (l_7 hL) (k_7 hL) (by decide) (by decide) rfl (by omega) (by decide) (hc.cell (by omega)) ?_
  refine E_astore dX0_change_9 (Nat.le_of_ble_eq_true rfl) (by decide) rfl ?_
  refine E_iload_n dX0_change_11 rfl ?_
  refine E_swIn (off := 32) (tgt := 44) dX0_change_12 (by decide) (by decide) (by decide) (by decide) ?_
  refine E_aload dX0_change_44 rfl ?_
  refine E_aload_n dX0_change_46 rfl ?_
  refine E_iconst (v := nI 1) dX0_change_47 (by decide) ?_
  refine E_ialdL (v := nI (gN (rul c l k 1))) dX0_change_48 (hk.ltu (by omega)) (hk.kdu (by omega)) rfl (by omega) (by decide) ((hk.rn (by omega) (by omega)).trans w1.1) ?_
  refine E_putI dX0_change_49 kF_X0_84 kY_2 (Or.inl rfl) (hc.glt (by omega)) (hc.gkd (by omega)) (Or.inl rfl) ?_
  refine E_iload_n dX0_change_52 rfl ?_
  refine E_iconst (v := nI 1) dX0_change_53 (by decide) ?_
  refine E_iadd_n dX0_change_54 ?_
  refine E_iret dX0_change_55 (Or.inl rfl) ?_
  exact K _ (hc.putN hi (by omega))
set_option maxRecDepth 100000 in
set_option maxHeartbeats 4000000 in
theorem sp_X0_change1 {g : gG} {M : gM} {Q : Option Value ⊕ String → gM → Prop} {c : Cf} {P : Nat → Nat} {M0 : gM} {L : List Gl} {π : Nat → Nat} (hc : cX c P M0 L π M) {f tb l p : Nat} (hf : f < 2) (hF0 : mR M0 73 2 = fb f + 1) (hT0 : mI M0 73 3 = nI tb) (htb : tb ≤ 1) (hk0 : kLk c M0 l p) (hfl : l / 12 = f) {k i : Nat} (hkl : k < cN c 135 l) (hi : i < L.length) (hft : fit c f L l k i) (hkd : cN c 130 l = 1) (K : ∀ M, cX c P M0 (chgL c f L l k i) (chP c f L l k i π) M → Q (.inl (some (.int (nI (chgI c l k i))))) M) : E g 3 0 0 mX0_change 0 [.ref 74, .int (nI 1), .ref (p + 2 + k + 1), .int (nI i), .null, .null] [] M Q := by
  have hB := hc.B
  have hL := hB.lay
  have hn := hc.len
  have hk := hc.lk hk0
  have hl := hB.wf.lk l
  have hwr := hB.wf.ru hkl
  rw [hkd] at hwr
  have w1 := gN_ok (iF1 hwr.1).2.1 (by decide)
  have w2 := gN_ok (iF1 hwr.1).2.2.1 (by decide)
  have hlen : L.length + mrN (rul c l k 3) ≤ 64 := by
    rcases hft.2 with q | q | q | q
    · omega
    · exact q.2
    · omega
    · omega
  have hmb := mrN_b (rul c l k 3)
  have hnl := num_len L i (gN (rul c l k 1))
  have e1 : chgL c f L l k i = ptL L i (rul c l k 1) (rul c l k 2) (rul c l k 3) := (cI_f (by omega)).trans (cI_t hkd)
  have e4 : chP c f L l k i π = cI (rul c l k 3 = -100) (piB π L.length i) (piB (piB π L.length i) (L.length + 1) (i + 1)) := cI_t hkd
  have e5 : chgI c l k i = i + mrN (rul c l k 3) + 1 := cI_t hkd
  rw [e1, e4, e5] at K
  unfold ptL at K
  by_cases e3 : rul c l k 3 = -100
  · have em : mrN (rul c l k 3) = 1 := cI_t e3
    rw [cI_t e3, em, cI_t e3] at K
    refine E_aload_n dX0_change_0 rfl ?_
    refine E_getRL dX0_change_1 kF_X0_39 kY_0 (Or.inl ⟨_, rfl⟩) (l_73 hL) (k_73 hL) (r_73_0 hL) ?_
    refine E_getRL dX0_change_4 kF_X0_58 kY_8 (Or.inr ⟨_, rfl⟩) (l_6 hL) (k_6 hL) (r_6_0 hL) ?_
    refine E_iload_n dX0_change_7 rfl ?_
    refine E_aaldL (v := _) dX0_change_8 (l_7 hL) (k_7 hL) (by decide) (by decide) rfl (by omega) (by decide) (hc.cell (by omega)) ?_
    refine E_astore dX0_change_9 (Nat.le_of_ble_eq_true rfl) (by decide) rfl ?_
    refine E_iload_n dX0_change_11 rfl ?_
    refine E_swIn (off := 44) (tgt := 56) dX0_change_12 (by decide) (by decide) (by decide) (by decide) ?_
    refine E_aload dX0_change_56 rfl ?_
    refine E_aload_n dX0_change_58 rfl ?_
    refine E_iconst (v := nI 1) dX0_change_59 (by decide) ?_
    refine E_ialdL (v := nI (gN (rul c l k 1))) dX0_change_60 (hk.ltu (by omega)) (hk.kdu (by omega)) rfl (by omega) (by decide) ((hk.rn (by omega) (by omega)).trans w1.1) ?_
    refine E_putI dX0_change_61 kF_X0_84 kY_2 (Or.inl rfl) (hc.glt (by omega)) (hc.gkd (by omega)) (Or.inl rfl) ?_
    have hc := hc.putN (i := i) (v := gN (rul c l k 1)) hi (by omega)
    have hB := hc.B
    have hL := hB.lay
    have hn := hc.len
    have hk := hc.lk hk0
    refine E_aload_n dX0_change_64 rfl ?_
    refine E_getRL dX0_change_65 kF_X0_39 kY_0 (Or.inl ⟨_, rfl⟩) (l_73 hL) (k_73 hL) (r_73_0 hL) ?_
    refine E_iload_n dX0_change_68 rfl ?_
    refine E_aload_n dX0_change_69 rfl ?_
    refine E_iconst (v := nI 2) dX0_change_70 (by decide) ?_
    refine E_ialdL (v := nI (gN (rul c l k 2))) dX0_change_71 (hk.ltu (by omega)) (hk.kdu (by omega)) rfl (by omega) (by decide) ((hk.rn (by omega) (by omega)).trans w2.1) ?_
    refine E_callV2 (fr' := 2) (k1 := 0) (n1 := 0) (k2 := 0) (n2 := 0) dX0_change_72 kO_X8_putBehind kL_X0_118 (l_6 hL) (k_6 hL) ⟨by decide, rfl⟩ rfl rfl (by decide) (by decide) (by exact Nat.le_of_ble_eq_true rfl) rfl ?_
    refine sp_X8_putBehindP hc (by omega) (by omega) (by omega) (fun M hc => ?_)
    rw [pt_1 hi, hnl] at hc
    have hB := hc.B
    have hL := hB.lay
    have hn := hc.len
    have hk := hc.lk hk0
    refine gKn ?_
    refine E_aload_n dX0_change_75 rfl ?_
    refine E_iconst (v := nI 3) dX0_change_76 (by decide) ?_
    refine E_ialdL (v := -100) dX0_change_77 (hk.ltu (by omega)) (hk.kdu (by omega)) rfl (by omega) (by decide) ((hk.rn (by omega) (by omega)).trans e3) ?_
    refine E_bipush (v := -100) dX0_change_78 (by decide) ?_
    refine E_icmp_ne_r (tgt := 87) dX0_change_80 (by decide) (fun c0 => absurd c0 (by decide)) (fun _ => ?_)
    refine E_iload_n dX0_change_83 rfl ?_
    refine E_iconst (v := nI 2) dX0_change_84 (by decide) ?_
    refine E_iadd_n dX0_change_85 ?_
    refine E_iret dX0_change_86 (Or.inl rfl) ?_
    exact K _ hc
  · have w3 := gN_ok ((iF1 hwr.1).2.2.2.resolve_left e3) (by decide)
    have em : mrN (rul c l k 3) = 2 := cI_f e3
    rw [cI_f e3, em, cI_f e3] at K
    refine E_aload_n dX0_change_0 rfl ?_
    refine E_getRL dX0_change_1 kF_X0_39 kY_0 (Or.inl ⟨_, rfl⟩) (l_73 hL) (k_73 hL) (r_73_0 hL) ?_
    refine E_getRL dX0_change_4 kF_X0_58 kY_8 (Or.inr ⟨_, rfl⟩) (l_6 hL) (k_6 hL) (r_6_0 hL) ?_
    refine E_iload_n dX0_change_7 rfl ?_
    refine E_aaldL (v := _) dX0_change_8 (l_7 hL) (k_7 hL) (by decide) (by decide) rfl (by omega) (by decide) (hc.cell (by omega)) ?_
    refine E_astore dX0_change_9 (Nat.le_of_ble_eq_true rfl) (by decide) rfl ?_
    refine E_iload_n dX0_change_11 rfl ?_
    refine E_swIn (off := 44) (tgt := 56) dX0_change_12 (by decide) (by decide) (by decide) (by decide) ?_
    refine E_aload dX0_change_56 rfl ?_
    refine E_aload_n dX0_change_58 rfl ?_
    refine E_iconst (v := nI 1) dX0_change_59 (by decide) ?_
    refine E_ialdL (v := nI (gN (rul c l k 1))) dX0_change_60 (hk.ltu (by omega)) (hk.kdu (by omega)) rfl (by omega) (by decide) ((hk.rn (by omega) (by omega)).trans w1.1) ?_
    refine E_putI dX0_change_61 kF_X0_84 kY_2 (Or.inl rfl) (hc.glt (by omega)) (hc.gkd (by omega)) (Or.inl rfl) ?_
    have hc := hc.putN (i := i) (v := gN (rul c l k 1)) hi (by omega)
    have hB := hc.B
    have hL := hB.lay
    have hn := hc.len
    have hk := hc.lk hk0
    refine E_aload_n dX0_change_64 rfl ?_
    refine E_getRL dX0_change_65 kF_X0_39 kY_0 (Or.inl ⟨_, rfl⟩) (l_73 hL) (k_73 hL) (r_73_0 hL) ?_
    refine E_iload_n dX0_change_68 rfl ?_
    refine E_aload_n dX0_change_69 rfl ?_
    refine E_iconst (v := nI 2) dX0_change_70 (by decide) ?_
    refine E_ialdL (v := nI (gN (rul c l k 2))) dX0_change_71 (hk.ltu (by omega)) (hk.kdu (by omega)) rfl (by omega) (by decide) ((hk.rn (by omega) (by omega)).trans w2.1) ?_
    refine E_callV2 (fr' := 2) (k1 := 0) (n1 := 0) (k2 := 0) (n2 := 0) dX0_change_72 kO_X8_putBehind kL_X0_118 (l_6 hL) (k_6 hL) ⟨by decide, rfl⟩ rfl rfl (by decide) (by decide) (by exact Nat.le_of_ble_eq_true rfl) rfl ?_
    refine sp_X8_putBehindP hc (by omega) (by omega) (by omega) (fun M hc => ?_)
    have hB := hc.B
    have hL := hB.lay
    have hn := hc.len
    have hk := hc.lk hk0
    refine gKn ?_
    refine E_aload_n dX0_change_75 rfl ?_
    refine E_iconst (v := nI 3) dX0_change_76 (by decide) ?_
    refine E_ialdL (v := nI (gN (rul c l k 3))) dX0_change_77 (hk.ltu (by omega)) (hk.kdu (by omega)) rfl (by omega) (by decide) ((hk.rn (by omega) (by omega)).trans w3.1) ?_
    refine E_bipush (v := -100) dX0_change_78 (by decide) ?_
    refine E_icmp_ne (tgt := 87) dX0_change_80 (by decide) (fun _ => ?_) (fun c0 => absurd (nI_ne100 (by omega)) c0)
    refine E_aload_n dX0_change_87 rfl ?_
    refine E_getRL dX0_change_88 kF_X0_39 kY_0 (Or.inl ⟨_, rfl⟩) (l_73 hL) (k_73 hL) (r_73_0 hL) ?_
    refine E_iload_n dX0_change_91 rfl ?_
    refine E_iconst (v := nI 1) dX0_change_92 (by decide) ?_
    refine E_iadd_n dX0_change_93 ?_
    refine E_aload_n dX0_change_94 rfl ?_
    refine E_iconst (v := nI 3) dX0_change_95 (by decide) ?_
    refine E_ialdL (v := nI (gN (rul c l k 3))) dX0_change_96 (hk.ltu (by omega)) (hk.kdu (by omega)) rfl (by omega) (by decide) ((hk.rn (by omega) (by omega)).trans w3.1) ?_
    refine E_callV2 (fr' := 2) (k1 := 0) (n1 := 0) (k2 := 0) (n2 := 0) dX0_change_97 kO_X8_putBehind kL_X0_118 (l_6 hL) (k_6 hL) ⟨by decide, rfl⟩ rfl rfl (by decide) (by decide) (by exact Nat.le_of_ble_eq_true rfl) rfl ?_
    refine sp_X8_putBehindP hc (by rw [pub_len, num_len]; omega) (by rw [pub_len, num_len]; omega) (by omega) (fun M hc => ?_)
    rw [pub_len, hnl, pt_2 hi] at hc
    have hB := hc.B
    have hL := hB.lay
    have hn := hc.len
    have hk := hc.lk hk0
    refine gKn ?_
    refine E_iload_n dX0_change_100 rfl ?_
    refine E_iconst (v := nI 3) dX0_change_101 (by decide) ?_
    refine E_iadd_n dX0_change_102 ?_
    refine E_iret dX0_change_103 (Or.inl rfl) ?_
    exact K _ hc
set_option maxRecDepth 100000 in
set_option maxHeartbeats 4000000 in
theorem sp_X0_change2 {g : gG} {M : gM} {Q : Option Value ⊕ String → gM → Prop} {c : Cf} {P : Nat → Nat} {M0 : gM} {L : List Gl} {π : Nat → Nat} (hc : cX c P M0 L π M) {f tb l p : Nat} (hf : f < 2) (hF0 : mR M0 73 2 = fb f + 1) (hT0 : mI M0 73 3 = nI tb) (htb : tb ≤ 1) (hk0 : kLk c M0 l p) (hfl : l / 12 = f) {k i : Nat} (hkl : k < cN c 135 l) (hi : i < L.length) (hft : fit c f L l k i) (hkd : cN c 130 l = 2) (K : ∀ M, cX c P M0 (chgL c f L l k i) (chP c f L l k i π) M → Q (.inl (some (.int (nI (chgI c l k i))))) M) : E g 3 0 0 mX0_change 0 [.ref 74, .int (nI 2), .ref (p + 2 + k + 1), .int (nI i), .null, .null] [] M Q := by
  have hB := hc.B
  have hL := hB.lay
  have hn := hc.len
  have hk := hc.lk hk0
  have hl := hB.wf.lk l
  have hwr := hB.wf.ru hkl
  rw [hkd] at hwr
  have he3 := hc.e4 i
  have hE : 0 < yE (gat L i) := by
    rcases hft.2 with q | q | q | q
    · omega
    · omega
    · exact q.2
    · omega
  have w4 : iGlyph (rul c l k (yE (gat L i))) := by
    have h := iF2 hwr.1
    rcases (show yE (gat L i) = 1 ∨ yE (gat L i) = 2 ∨ yE (gat L i) = 3 by omega) with e | e | e <;> rw [e]
    · exact h.2.1
    · exact h.2.2.1
    · exact h.2.2.2
  have w4 := gN_ok w4 (by decide)
  have e1 : chgL c f L l k i = numL L i (gN (rul c l k (yE (gat L i)))) := (cI_f (by omega)).trans ((cI_f (by omega)).trans (cI_t hkd))
  have e2 : chgI c l k i = i + 1 := cI_f (by omega)
  have e3 : chP c f L l k i π = π := (cI_f (by omega)).trans (cI_f (by omega))
  rw [e1, e2, e3] at K
  refine E_aload_n dX0_change_0 rfl ?_
  refine E_getRL dX0_change_1 kF_X0_39 kY_0 (Or.inl ⟨_, rfl⟩) (l_73 hL) (k_73 hL) (r_73_0 hL) ?_
  refine E_getRL dX0_change_4 kF_X0_58 kY_8 (Or.inr ⟨_, rfl⟩) (l_6 hL) (k_6 hL) (r_6_0 hL) ?_
  refine E_iload_n dX0_change_7 rfl ?_
  refine E_aaldL (v := _) dX0_change_8 (l_7 hL) (k_7 hL) (by decide) (by decide) rfl (by omega) (by decide) (hc.cell (by omega)) ?_
  refine E_astore dX0_change_9 (Nat.le_of_ble_eq_true rfl) (by decide) rfl ?_
  refine E_iload_n dX0_change_11 rfl ?_
  refine E_swIn (off := 92) (tgt := 104) dX0_change_12 (by decide) (by decide) (by decide) (by decide) ?_
  refine E_aload dX0_change_104 rfl ?_
  refine E_getIL (v := nI (yE (gat _ _))) dX0_change_106 kF_X0_111 kY_2 (Or.inl rfl) (hc.glt (by omega)) (hc.gkd (by omega)) (hc.g2 (by omega)) ?_
  refine E_if_le_n (tgt := 133) dX0_change_109 (by decide) (by omega) (fun c_109 => ?_) (fun c_109 => ?_)
  · refine E_iload_n dX0_change_133 rfl ?_
    refine E_iconst (v := nI 1) dX0_change_134 (by decide) ?_
    refine E_iadd_n dX0_change_135 ?_
    refine E_iret dX0_change_136 (Or.inl rfl) ?_
    exfalso; omega
  · refine E_aload dX0_change_112 rfl ?_
    refine E_getIL (v := nI (yE (gat _ _))) dX0_change_114 kF_X0_111 kY_2 (Or.inl rfl) (hc.glt (by omega)) (hc.gkd (by omega)) (hc.g2 (by omega)) ?_
    refine E_iconst (v := nI 3) dX0_change_117 (by decide) ?_
    refine E_icmp_gt_n (tgt := 133) dX0_change_118 (by decide) (by omega) (by omega) (fun c_118 => ?_) (fun c_118 => ?_)
    · refine E_iload_n dX0_change_133 rfl ?_
      refine E_iconst (v := nI 1) dX0_change_134 (by decide) ?_
      refine E_iadd_n dX0_change_135 ?_
      refine E_iret dX0_change_136 (Or.inl rfl) ?_
      exfalso; omega
    · refine E_aload dX0_change_121 rfl ?_
      refine E_aload_n dX0_change_123 rfl ?_
      refine E_aload dX0_change_124 rfl ?_
      refine E_getIL (v := nI (yE (gat _ _))) dX0_change_126 kF_X0_111 kY_2 (Or.inl rfl) (hc.glt (by omega)) (hc.gkd (by omega)) (hc.g2 (by omega)) ?_
      refine E_ialdL (v := nI (gN (rul c l k (yE (gat L i))))) dX0_change_129 (hk.ltu (by omega)) (hk.kdu (by omega)) rfl (by omega) (by decide) ((hk.rn (by omega) (by omega)).trans w4.1) ?_
      refine E_putI dX0_change_130 kF_X0_84 kY_2 (Or.inl rfl) (hc.glt (by omega)) (hc.gkd (by omega)) (Or.inl rfl) ?_
      refine E_iload_n dX0_change_133 rfl ?_
      refine E_iconst (v := nI 1) dX0_change_134 (by decide) ?_
      refine E_iadd_n dX0_change_135 ?_
      refine E_iret dX0_change_136 (Or.inl rfl) ?_
      exact K _ (hc.putN hi (by omega))
set_option maxRecDepth 100000 in
set_option maxHeartbeats 4000000 in
theorem sp_X0_change3 {g : gG} {M : gM} {Q : Option Value ⊕ String → gM → Prop} {c : Cf} {P : Nat → Nat} {M0 : gM} {L : List Gl} {π : Nat → Nat} (hc : cX c P M0 L π M) {f tb l p : Nat} (hf : f < 2) (hF0 : mR M0 73 2 = fb f + 1) (hT0 : mI M0 73 3 = nI tb) (htb : tb ≤ 1) (hk0 : kLk c M0 l p) (hfl : l / 12 = f) {k i : Nat} (hkl : k < cN c 135 l) (hi : i < L.length) (hft : fit c f L l k i) (hkd : cN c 130 l = 3) (h4 : mI M 73 4 = afV L.length (aft c f l L i)) (h5 : mI M 73 5 = afV L.length (thB c f l L i)) (K : ∀ M, cX c P M0 (chgL c f L l k i) (chP c f L l k i π) M → Q (.inl (some (.int (nI (chgI c l k i))))) M) : E g 3 0 0 mX0_change 0 [.ref 74, .int (nI 3), .ref (p + 2 + k + 1), .int (nI i), .null, .null] [] M Q := by
  have hB := hc.B
  have hL := hB.lay
  have hn := hc.len
  have hk := hc.lk hk0
  have hl := hB.wf.lk l
  have hwr := hB.wf.ru hkl
  rw [hkd] at hwr
  have w3 := gN_ok (iF3 hwr.1).2.2.2 (by decide)
  have hlg : lgF c f l L i (rul c l k 1) (rul c l k 2) := by
    rcases hft.2 with q | q | q | q
    · omega
    · omega
    · omega
    · exact q.2
  have h2l := hlg.1
  have hab := aft_b c f l hi
  have e1 : chgL c f L l k i = lgL c f l L i (rul c l k 2) (gN (rul c l k 3)) := (cI_f (by omega)).trans ((cI_f (by omega)).trans (cI_f (by omega)))
  have e4 : chP c f L l k i π = cI (rul c l k 2 = -100) (piO π L.length (aft c f l L i)) (piO (piO π L.length (aft c f l L (aft c f l L i))) (L.length - 1) (aft c f l L i)) := (cI_f (by omega)).trans (cI_t hkd)
  have e5 : chgI c l k i = i + 1 := cI_f (by omega)
  rw [e1, e4, e5] at K
  unfold lgL at K
  by_cases e2 : rul c l k 2 = -100
  · rw [cI_t e2, cI_t e2] at K
    refine E_aload_n dX0_change_0 rfl ?_
    refine E_getRL dX0_change_1 kF_X0_39 kY_0 (Or.inl ⟨_, rfl⟩) (l_73 hL) (k_73 hL) (r_73_0 hL) ?_
    refine E_getRL dX0_change_4 kF_X0_58 kY_8 (Or.inr ⟨_, rfl⟩) (l_6 hL) (k_6 hL) (r_6_0 hL) ?_
    refine E_iload_n dX0_change_7 rfl ?_
    refine E_aaldL (v := _) dX0_change_8 (l_7 hL) (k_7 hL) (by decide) (by decide) rfl (by omega) (by decide) (hc.cell (by omega)) ?_
    refine E_astore dX0_change_9 (Nat.le_of_ble_eq_true rfl) (by decide) rfl ?_
    refine E_iload_n dX0_change_11 rfl ?_
    refine E_swIn (off := 125) (tgt := 137) dX0_change_12 (by decide) (by decide) (by decide) (by decide) ?_
    refine E_aload_n dX0_change_137 rfl ?_
    refine E_iconst (v := nI 2) dX0_change_138 (by decide) ?_
    refine E_ialdL (v := -100) dX0_change_139 (hk.ltu (by omega)) (hk.kdu (by omega)) rfl (by omega) (by decide) ((hk.rn (by omega) (by omega)).trans e2) ?_
    refine E_bipush (v := -100) dX0_change_140 (by decide) ?_
    refine E_icmp_ne_r (tgt := 149) dX0_change_142 (by decide) (fun c0 => absurd c0 (by decide)) (fun _ => ?_)
    refine E_iconst (v := nI 2) dX0_change_145 (by decide) ?_
    refine E_goto (tgt := 150) dX0_change_146 (by decide) ?_
    refine E_istore dX0_change_150 (Nat.le_of_ble_eq_true rfl) (by decide) rfl ?_
    refine E_aload_n dX0_change_152 rfl ?_
    refine E_getRL dX0_change_153 kF_X0_39 kY_0 (Or.inl ⟨_, rfl⟩) (l_73 hL) (k_73 hL) (r_73_0 hL) ?_
    refine E_aload_n dX0_change_156 rfl ?_
    refine E_getIL (v := nI (aft c f l L i)) dX0_change_157 kF_X0_23 kY_0 (Or.inl rfl) (l_73 hL) (k_73 hL) (h4.trans (afV_n h2l)) ?_
    refine E_callV1 (fr' := 1) (k1 := 0) (n1 := 0) (k2 := 0) (n2 := 0) dX0_change_160 kO_X8_has kL_X0_122 (l_6 hL) (k_6 hL) ⟨by decide, rfl⟩ rfl (by decide) (by decide) (by exact Nat.le_of_ble_eq_true rfl) rfl ?_
    refine sp_X8_has hc (by omega) ?_
    refine gKv ?_
    refine E_if_eq_b (tgt := 186) dX0_change_163 (by decide) (fun c_163 => ?_) (fun c_163 => ?_)
    · first
        | contradiction
        | (exfalso; omega)
    · refine E_iload dX0_change_166 rfl ?_
      refine E_iconst (v := nI 3) dX0_change_168 (by decide) ?_
      refine E_icmp_ne (tgt := 190) dX0_change_169 (by decide) (fun _ => ?_) (fun c0 => absurd (by decide) c0)
      have hc := hc.aux (a := 74) (j := 0) (v := nI i) (Or.inr rfl)
      have hc := hc.aux (a := 74) (j := 1) (v := nI (aft c f l L i)) (Or.inr rfl)
      have hc := hc.aux (a := 74) (j := 2) (v := afV L.length (thB c f l L i)) (Or.inr rfl)
      have hL := hB.lay
      refine E_aload_n dX0_change_190 rfl ?_
      refine E_getRL dX0_change_191 kF_X0_9 kY_0 (Or.inr ⟨_, rfl⟩) (l_73 hL) (k_73 hL) (r_73_1 hL) ?_
      refine E_iconst (v := nI 0) dX0_change_194 (by decide) ?_
      refine E_iload_n dX0_change_195 rfl ?_
      refine E_iast dX0_change_196 (l_74 hL) (k_74 hL) rfl (by omega) (by decide) ?_
      refine E_aload_n dX0_change_197 rfl ?_
      refine E_getRL dX0_change_198 kF_X0_9 kY_0 (Or.inr ⟨_, rfl⟩) (l_73 hL) (k_73 hL) (r_73_1 hL) ?_
      refine E_iconst (v := nI 1) dX0_change_201 (by decide) ?_
      refine E_aload_n dX0_change_202 rfl ?_
      refine E_getIL (v := nI (aft c f l L i)) dX0_change_203 kF_X0_23 kY_0 (Or.inl rfl) (l_73 hL) (k_73 hL) ((mI_ne (by decide)).trans ((h4.trans (afV_n h2l)))) ?_
      refine E_iast dX0_change_206 (l_74 hL) (k_74 hL) rfl (by omega) (by decide) ?_
      refine E_aload_n dX0_change_207 rfl ?_
      refine E_getRL dX0_change_208 kF_X0_9 kY_0 (Or.inr ⟨_, rfl⟩) (l_73 hL) (k_73 hL) (r_73_1 hL) ?_
      refine E_iconst (v := nI 2) dX0_change_211 (by decide) ?_
      refine E_aload_n dX0_change_212 rfl ?_
      refine E_getIL (v := afV _ _) dX0_change_213 kF_X0_27 kY_0 (Or.inl rfl) (l_73 hL) (k_73 hL) ((mI_ne (by decide)).trans ((mI_ne (by decide)).trans (h5))) ?_
      refine E_iast dX0_change_216 (l_74 hL) (k_74 hL) rfl (by omega) (by decide) ?_
      refine E_aload_n dX0_change_217 rfl ?_
      refine E_iload dX0_change_218 rfl ?_
      refine E_callV1 (fr' := 2) (k1 := 0) (n1 := 0) (k2 := 0) (n2 := 0) dX0_change_220 kO_X0_giveParts kL_X0_126 (l_73 hL) (k_73 hL) ⟨by decide, rfl⟩ rfl (by decide) (by decide) (by exact Nat.le_of_ble_eq_true rfl) rfl ?_
      have hsp : spK L.length (sp3 i (aft c f l L i) (thB c f l L i)) 2 := by
        constructor
        · intro j hj
          rcases (show j = 0 ∨ j = 1 by omega) with rfl | rfl
          · exact hi
          · exact h2l
      
        · intro j hj
          rcases (show j = 0 by omega) with rfl
          · exact hab.1
      
      have hs74 : ∀ j, j < 2 → mI (sI (sI (sI M 74 0 (nI i)) 74 1 (nI (aft c f l L i))) 74 2 (afV L.length (thB c f l L i))) 74 j = nI ((sp3 i (aft c f l L i) (thB c f l L i)) j) := by
        intro j hj
        rcases (show j = 0 ∨ j = 1 by omega) with rfl | rfl
        · rw [mI_nj (by decide), mI_nj (by decide)]; exact mI_eq
        · rw [mI_nj (by decide)]; exact mI_eq
      
      refine sp_X0_giveParts hc hf hF0 (m := 2) (by decide) hsp hs74 (fun M2 hc h74 => ?_)
      have hgl := gpL_len (c := c) (f := f) (n := L.length) (sp := (sp3 i (aft c f l L i) (thB c f l L i))) (m := 2) (L := L) 2
      rw [← hgl] at hsp
      have hs74 : ∀ j, j < 2 → mI M2 74 j = nI ((sp3 i (aft c f l L i) (thB c f l L i)) j) := fun j hj => (h74 j).trans (hs74 j hj)
      have hL := hc.B.lay
      refine gKn ?_
      refine E_aload_n dX0_change_223 rfl ?_
      refine E_iload dX0_change_224 rfl ?_
      refine E_callV1 (fr' := 1) (k1 := 0) (n1 := 0) (k2 := 0) (n2 := 0) dX0_change_226 kO_X0_mergeClusters kL_X0_130 (l_73 hL) (k_73 hL) ⟨by decide, rfl⟩ rfl (by decide) (by decide) (by exact Nat.le_of_ble_eq_true rfl) rfl ?_
      refine sp_X0_mergeClusters hc (m := 2) (by decide) (by decide) hsp hs74 (fun M3 hc h74 => ?_)
      have hml := mrg_len (gpL c f L.length (sp3 i (aft c f l L i) (thB c f l L i)) 2 L 2).1 (loN (gpL c f L.length (sp3 i (aft c f l L i) (thB c f l L i)) 2 L 2).1 (sp3 i (aft c f l L i) (thB c f l L i)) (2 - 1)) (hiN (gpL c f L.length (sp3 i (aft c f l L i) (thB c f l L i)) 2 L 2).1 (sp3 i (aft c f l L i) (thB c f l L i)) (2 - 1))
      rw [← hml] at hsp
      have hs74 : ∀ j, j < 2 → mI M3 74 j = nI ((sp3 i (aft c f l L i) (thB c f l L i)) j) := fun j hj => (h74 j).trans (hs74 j hj)
      have hL := hc.B.lay
      have hk := hc.lk hk0
      refine gKn ?_
      refine E_aload_n dX0_change_229 rfl ?_
      refine E_iload dX0_change_230 rfl ?_
      refine E_aload_n dX0_change_232 rfl ?_
      refine E_iconst (v := nI 3) dX0_change_233 (by decide) ?_
      refine E_ialdL (v := nI (gN (rul c l k 3))) dX0_change_234 (hk.ltu (by omega)) (hk.kdu (by omega)) rfl (by omega) (by decide) ((hk.rn (by omega) (by omega)).trans w3.1) ?_
      refine E_callV2 (fr' := 2) (k1 := 0) (n1 := 0) (k2 := 0) (n2 := 0) dX0_change_235 kO_X0_fuse kL_X0_133 (l_73 hL) (k_73 hL) ⟨by decide, rfl⟩ rfl rfl (by decide) (by decide) (by exact Nat.le_of_ble_eq_true rfl) rfl ?_
      refine sp_X0_fuse hc (m := 2) (by omega) (by decide) (by decide) hsp hs74 (fun M4 hc => ?_)
      have hfl2 := fuL_len (mrgL (gpL c f L.length (sp3 i (aft c f l L i) (thB c f l L i)) 2 L 2).1 (loN (gpL c f L.length (sp3 i (aft c f l L i) (thB c f l L i)) 2 L 2).1 (sp3 i (aft c f l L i) (thB c f l L i)) (2 - 1)) (hiN (gpL c f L.length (sp3 i (aft c f l L i) (thB c f l L i)) 2 L 2).1 (sp3 i (aft c f l L i) (thB c f l L i)) (2 - 1))) (sp3 i (aft c f l L i) (thB c f l L i)) (gN (rul c l k 3)) (2 - 1)
      rw [hml, hgl] at hfl2
      have e6 := jn2_eq (c := c) (f := f) (L := L) (one := i) (two := aft c f l L i) (d := thB c f l L i) (its := gN (rul c l k 3)) hab.1 h2l (fun j q1 q2 => aft_marks hi q1 q2)
      simp only [Nat.reduceSub] at hc hfl2
      generalize hX : fuL _ _ _ 1 = X at hc hfl2 e6
      rw [ouL_1] at hc
      simp only [sp3] at hc
      rw [hfl2, e6] at hc
      refine gKn ?_
      refine E_iload_n dX0_change_238 rfl ?_
      refine E_iconst (v := nI 1) dX0_change_239 (by decide) ?_
      refine E_iadd_n dX0_change_240 ?_
      refine E_iret dX0_change_241 (Or.inl rfl) ?_
      exact K _ hc
  · have h3l : aft c f l L (aft c f l L i) < L.length := (hlg.2.2.resolve_left e2).1
    have hab2 := aft_b c f l h2l
    have et : thB c f l L i = aft c f l L (aft c f l L i) := cI_t h2l
    rw [et] at h5
    rw [cI_f e2, cI_f e2] at K
    refine E_aload_n dX0_change_0 rfl ?_
    refine E_getRL dX0_change_1 kF_X0_39 kY_0 (Or.inl ⟨_, rfl⟩) (l_73 hL) (k_73 hL) (r_73_0 hL) ?_
    refine E_getRL dX0_change_4 kF_X0_58 kY_8 (Or.inr ⟨_, rfl⟩) (l_6 hL) (k_6 hL) (r_6_0 hL) ?_
    refine E_iload_n dX0_change_7 rfl ?_
    refine E_aaldL (v := _) dX0_change_8 (l_7 hL) (k_7 hL) (by decide) (by decide) rfl (by omega) (by decide) (hc.cell (by omega)) ?_
    refine E_astore dX0_change_9 (Nat.le_of_ble_eq_true rfl) (by decide) rfl ?_
    refine E_iload_n dX0_change_11 rfl ?_
    refine E_swIn (off := 125) (tgt := 137) dX0_change_12 (by decide) (by decide) (by decide) (by decide) ?_
    refine E_aload_n dX0_change_137 rfl ?_
    refine E_iconst (v := nI 2) dX0_change_138 (by decide) ?_
    refine E_ialdL (v := rul c l k 2) dX0_change_139 (hk.ltu (by omega)) (hk.kdu (by omega)) rfl (by omega) (by decide) (hk.rn (by omega) (by omega)) ?_
    refine E_bipush (v := -100) dX0_change_140 (by decide) ?_
    refine E_icmp_ne (tgt := 149) dX0_change_142 (by decide) (fun _ => ?_) (fun c0 => absurd e2 c0)
    refine E_iconst (v := nI 3) dX0_change_149 (by decide) ?_
    refine E_istore dX0_change_150 (Nat.le_of_ble_eq_true rfl) (by decide) rfl ?_
    refine E_aload_n dX0_change_152 rfl ?_
    refine E_getRL dX0_change_153 kF_X0_39 kY_0 (Or.inl ⟨_, rfl⟩) (l_73 hL) (k_73 hL) (r_73_0 hL) ?_
    refine E_aload_n dX0_change_156 rfl ?_
    refine E_getIL (v := nI (aft c f l L i)) dX0_change_157 kF_X0_23 kY_0 (Or.inl rfl) (l_73 hL) (k_73 hL) (h4.trans (afV_n h2l)) ?_
    refine E_callV1 (fr' := 1) (k1 := 0) (n1 := 0) (k2 := 0) (n2 := 0) dX0_change_160 kO_X8_has kL_X0_122 (l_6 hL) (k_6 hL) ⟨by decide, rfl⟩ rfl (by decide) (by decide) (by exact Nat.le_of_ble_eq_true rfl) rfl ?_
    refine sp_X8_has hc (by omega) ?_
    refine gKv ?_
    refine E_if_eq_b (tgt := 186) dX0_change_163 (by decide) (fun c_163 => ?_) (fun c_163 => ?_)
    · first
        | contradiction
        | (exfalso; omega)
    · refine E_iload dX0_change_166 rfl ?_
      refine E_iconst (v := nI 3) dX0_change_168 (by decide) ?_
      refine E_icmp_ne_r (tgt := 190) dX0_change_169 (by decide) (fun c0 => absurd c0 (by decide)) (fun _ => ?_)
      refine E_aload_n dX0_change_172 rfl ?_
      refine E_getRL dX0_change_173 kF_X0_39 kY_0 (Or.inl ⟨_, rfl⟩) (l_73 hL) (k_73 hL) (r_73_0 hL) ?_
      refine E_aload_n dX0_change_176 rfl ?_
      refine E_getIL (v := nI (aft c f l L (aft c f l L i))) dX0_change_177 kF_X0_27 kY_0 (Or.inl rfl) (l_73 hL) (k_73 hL) ((h5.trans (afV_n h3l))) ?_
      refine E_callV1 (fr' := 1) (k1 := 0) (n1 := 0) (k2 := 0) (n2 := 0) dX0_change_180 kO_X8_has kL_X0_122 (l_6 hL) (k_6 hL) ⟨by decide, rfl⟩ rfl (by decide) (by decide) (by exact Nat.le_of_ble_eq_true rfl) rfl ?_
      refine sp_X8_has hc (by omega) ?_
      refine gKv ?_
      refine E_if_ne_b (tgt := 190) dX0_change_183 (by decide) (fun c_183 => ?_) (fun c_183 => ?_)
      · have hc := hc.aux (a := 74) (j := 0) (v := nI i) (Or.inr rfl)
        have hc := hc.aux (a := 74) (j := 1) (v := nI (aft c f l L i)) (Or.inr rfl)
        have hc := hc.aux (a := 74) (j := 2) (v := nI (aft c f l L (aft c f l L i))) (Or.inr rfl)
        have hL := hB.lay
        refine E_aload_n dX0_change_190 rfl ?_
        refine E_getRL dX0_change_191 kF_X0_9 kY_0 (Or.inr ⟨_, rfl⟩) (l_73 hL) (k_73 hL) (r_73_1 hL) ?_
        refine E_iconst (v := nI 0) dX0_change_194 (by decide) ?_
        refine E_iload_n dX0_change_195 rfl ?_
        refine E_iast dX0_change_196 (l_74 hL) (k_74 hL) rfl (by omega) (by decide) ?_
        refine E_aload_n dX0_change_197 rfl ?_
        refine E_getRL dX0_change_198 kF_X0_9 kY_0 (Or.inr ⟨_, rfl⟩) (l_73 hL) (k_73 hL) (r_73_1 hL) ?_
        refine E_iconst (v := nI 1) dX0_change_201 (by decide) ?_
        refine E_aload_n dX0_change_202 rfl ?_
        refine E_getIL (v := nI (aft c f l L i)) dX0_change_203 kF_X0_23 kY_0 (Or.inl rfl) (l_73 hL) (k_73 hL) ((mI_ne (by decide)).trans ((h4.trans (afV_n h2l)))) ?_
        refine E_iast dX0_change_206 (l_74 hL) (k_74 hL) rfl (by omega) (by decide) ?_
        refine E_aload_n dX0_change_207 rfl ?_
        refine E_getRL dX0_change_208 kF_X0_9 kY_0 (Or.inr ⟨_, rfl⟩) (l_73 hL) (k_73 hL) (r_73_1 hL) ?_
        refine E_iconst (v := nI 2) dX0_change_211 (by decide) ?_
        refine E_aload_n dX0_change_212 rfl ?_
        refine E_getIL (v := nI (aft c f l L (aft c f l L i))) dX0_change_213 kF_X0_27 kY_0 (Or.inl rfl) (l_73 hL) (k_73 hL) ((mI_ne (by decide)).trans ((mI_ne (by decide)).trans ((h5.trans (afV_n h3l))))) ?_
        refine E_iast dX0_change_216 (l_74 hL) (k_74 hL) rfl (by omega) (by decide) ?_
        refine E_aload_n dX0_change_217 rfl ?_
        refine E_iload dX0_change_218 rfl ?_
        refine E_callV1 (fr' := 2) (k1 := 0) (n1 := 0) (k2 := 0) (n2 := 0) dX0_change_220 kO_X0_giveParts kL_X0_126 (l_73 hL) (k_73 hL) ⟨by decide, rfl⟩ rfl (by decide) (by decide) (by exact Nat.le_of_ble_eq_true rfl) rfl ?_
        have hsp : spK L.length (sp3 i (aft c f l L i) (aft c f l L (aft c f l L i))) 3 := by
          constructor
          · intro j hj
            rcases (show j = 0 ∨ j = 1 ∨ j = 2 by omega) with rfl | rfl | rfl
            · exact hi
            · exact h2l
            · exact h3l
          · intro j hj
            rcases (show j = 0 ∨ j = 1 by omega) with rfl | rfl
            · exact hab.1
            · exact hab2.1
        have hs74 : ∀ j, j < 3 → mI (sI (sI (sI M 74 0 (nI i)) 74 1 (nI (aft c f l L i))) 74 2 (nI (aft c f l L (aft c f l L i)))) 74 j = nI ((sp3 i (aft c f l L i) (aft c f l L (aft c f l L i))) j) := by
          intro j hj
          rcases (show j = 0 ∨ j = 1 ∨ j = 2 by omega) with rfl | rfl | rfl
          · rw [mI_nj (by decide), mI_nj (by decide)]; exact mI_eq
          · rw [mI_nj (by decide)]; exact mI_eq
          · exact mI_eq
        refine sp_X0_giveParts hc hf hF0 (m := 3) (by decide) hsp hs74 (fun M2 hc h74 => ?_)
        have hgl := gpL_len (c := c) (f := f) (n := L.length) (sp := (sp3 i (aft c f l L i) (aft c f l L (aft c f l L i)))) (m := 3) (L := L) 3
        rw [← hgl] at hsp
        have hs74 : ∀ j, j < 3 → mI M2 74 j = nI ((sp3 i (aft c f l L i) (aft c f l L (aft c f l L i))) j) := fun j hj => (h74 j).trans (hs74 j hj)
        have hL := hc.B.lay
        refine gKn ?_
        refine E_aload_n dX0_change_223 rfl ?_
        refine E_iload dX0_change_224 rfl ?_
        refine E_callV1 (fr' := 1) (k1 := 0) (n1 := 0) (k2 := 0) (n2 := 0) dX0_change_226 kO_X0_mergeClusters kL_X0_130 (l_73 hL) (k_73 hL) ⟨by decide, rfl⟩ rfl (by decide) (by decide) (by exact Nat.le_of_ble_eq_true rfl) rfl ?_
        refine sp_X0_mergeClusters hc (m := 3) (by decide) (by decide) hsp hs74 (fun M3 hc h74 => ?_)
        have hml := mrg_len (gpL c f L.length (sp3 i (aft c f l L i) (aft c f l L (aft c f l L i))) 3 L 3).1 (loN (gpL c f L.length (sp3 i (aft c f l L i) (aft c f l L (aft c f l L i))) 3 L 3).1 (sp3 i (aft c f l L i) (aft c f l L (aft c f l L i))) (3 - 1)) (hiN (gpL c f L.length (sp3 i (aft c f l L i) (aft c f l L (aft c f l L i))) 3 L 3).1 (sp3 i (aft c f l L i) (aft c f l L (aft c f l L i))) (3 - 1))
        rw [← hml] at hsp
        have hs74 : ∀ j, j < 3 → mI M3 74 j = nI ((sp3 i (aft c f l L i) (aft c f l L (aft c f l L i))) j) := fun j hj => (h74 j).trans (hs74 j hj)
        have hL := hc.B.lay
        have hk := hc.lk hk0
        refine gKn ?_
        refine E_aload_n dX0_change_229 rfl ?_
        refine E_iload dX0_change_230 rfl ?_
        refine E_aload_n dX0_change_232 rfl ?_
        refine E_iconst (v := nI 3) dX0_change_233 (by decide) ?_
        refine E_ialdL (v := nI (gN (rul c l k 3))) dX0_change_234 (hk.ltu (by omega)) (hk.kdu (by omega)) rfl (by omega) (by decide) ((hk.rn (by omega) (by omega)).trans w3.1) ?_
        refine E_callV2 (fr' := 2) (k1 := 0) (n1 := 0) (k2 := 0) (n2 := 0) dX0_change_235 kO_X0_fuse kL_X0_133 (l_73 hL) (k_73 hL) ⟨by decide, rfl⟩ rfl rfl (by decide) (by decide) (by exact Nat.le_of_ble_eq_true rfl) rfl ?_
        refine sp_X0_fuse hc (m := 3) (by omega) (by decide) (by decide) hsp hs74 (fun M4 hc => ?_)
        have hfl2 := fuL_len (mrgL (gpL c f L.length (sp3 i (aft c f l L i) (aft c f l L (aft c f l L i))) 3 L 3).1 (loN (gpL c f L.length (sp3 i (aft c f l L i) (aft c f l L (aft c f l L i))) 3 L 3).1 (sp3 i (aft c f l L i) (aft c f l L (aft c f l L i))) (3 - 1)) (hiN (gpL c f L.length (sp3 i (aft c f l L i) (aft c f l L (aft c f l L i))) 3 L 3).1 (sp3 i (aft c f l L i) (aft c f l L (aft c f l L i))) (3 - 1))) (sp3 i (aft c f l L i) (aft c f l L (aft c f l L i))) (gN (rul c l k 3)) (3 - 1)
        rw [hml, hgl] at hfl2
        have e6 := jn3_eq (c := c) (f := f) (L := L) (one := i) (two := aft c f l L i) (three := aft c f l L (aft c f l L i)) (its := gN (rul c l k 3)) hab.1 hab2.1 h3l (fun j q1 q2 => aft_marks hi q1 q2) (fun j q1 q2 => aft_marks h2l q1 q2)
        simp only [Nat.reduceSub] at hc hfl2
        generalize hX : fuL _ _ _ 2 = X at hc hfl2 e6
        rw [ouL_2] at hc
        simp only [sp3] at hc
        rw [cl_len, hfl2, e6] at hc
        refine gKn ?_
        refine E_iload_n dX0_change_238 rfl ?_
        refine E_iconst (v := nI 1) dX0_change_239 (by decide) ?_
        refine E_iadd_n dX0_change_240 ?_
        refine E_iret dX0_change_241 (Or.inl rfl) ?_
        exact K _ hc
      · first
          | contradiction
          | (exfalso; omega)
