/-! the class: lookup, rule -/
theorem kLn.mv {p1 p2 p3 p4 p5 : Int32} {M M' : gM} {p : Nat} (h : kLn p1 p2 p3 p4 p5 M p) (hk : mK M' = mK M) (hi : ∀ a j, p ≤ a → mI M' a j = mI M a j) (hr : ∀ a j, p ≤ a → mR M' a j = mR M a j) : kLn p1 p2 p3 p4 p5 M' p := by
  obtain ⟨l1, ⟨i0, i1, i2, i3, i4, i5, i8⟩, ⟨r6, r7, rr⟩, tz⟩ := h
  refine ⟨by rw [hk]; exact l1, ⟨?_, ?_, ?_, ?_, ?_, ?_, ?_⟩, ⟨?_, ?_, fun k q => ?_⟩, fun q => ?_⟩
  all_goals first | rw [hi _ _ (by omega)] | rw [hr _ _ (by omega)]
  · exact i0
  · exact i1
  · exact i2
  · exact i3
  · exact i4
  · exact i5
  · exact i8
  · exact r6
  · exact r7
  · exact rr k q
  · exact tz q
set_option maxRecDepth 100000 in
set_option maxHeartbeats 4000000 in
theorem sp_X11_lookup {g : gG} {M : gM} {Q : Option Value ⊕ String → gM → Prop} (hst : (gl1 g).stackTraces = false) {c : Cf} {P π : Nat → Nat} (hS : kS c P π M) {p1 p2 p3 p4 p5 : Int32} (K1 : ¬ iLk1 p1 p2 → Q (.inr "java/lang/IndexOutOfBoundsException") M) (K2 : iLk1 p1 p2 → ¬ iLk2 p3 p4 p5 → Q (.inr "java/lang/IllegalArgumentException") M) (K3 : iLk1 p1 p2 → iLk2 p3 p4 p5 → cN c 129 (cN c 128 1) = 12 → Q (.inr "java/lang/IllegalStateException") M) (K0 : iLk1 p1 p2 → iLk2 p3 p4 p5 → cN c 129 (cN c 128 1) < 12 → ∀ M' P', kS (nxL c (cN c 128 1) (cN c 129 (cN c 128 1)) p1 p2 p3 p4 p5) P' π M' → kd M M' → Q (.inl (some (.int (nI (cN c 129 (cN c 128 1)))))) M') : E g 7 11 321 mX11_lookup 0 [.ref 1, .int p1, .int p2, .int p3, .int p4, .int p5, .null] [] M Q := by
  have hB := hS.1
  have hL := hB.lay
  have hf : fc0 c < 2 := hB.wf.fac
  have hct := hB.wf.ct (fc0 c)
  refine E_iload_n dX11_lookup_0 rfl ?_
  refine E_if_lt (tgt := 10) dX11_lookup_1 (by decide) (fun c_1 => ?_) (fun c_1 => ?_)
  · refine E_thI (text := "no such kind") hst rfl rfl (gTW_at 503 (by decide +kernel)) dX11_lookup_10 dX11_lookup_13 dX11_lookup_14 dX11_lookup_16 dX11_lookup_19 (by decide) (by decide) (by decide) ?_
    exact K1 (by (try simp only [ltI, ge0, ge3, ge12, ge4, ge256, ge306, ge45, ge2, ge6] at *); grind)
  · refine E_iload_n dX11_lookup_4 rfl ?_
    refine E_bipush (v := nI 9) dX11_lookup_5 (by decide) ?_
    refine E_icmp_le (tgt := 20) dX11_lookup_7 (by decide) (fun c_7 => ?_) (fun c_7 => ?_)
    · refine E_iload_n dX11_lookup_20 rfl ?_
      refine E_if_lt (tgt := 30) dX11_lookup_21 (by decide) (fun c_21 => ?_) (fun c_21 => ?_)
      · refine E_thI (text := "no such feature") hst rfl rfl (gTW_at 530 (by decide +kernel)) dX11_lookup_30 dX11_lookup_33 dX11_lookup_34 dX11_lookup_36 dX11_lookup_39 (by decide) (by decide) (by decide) ?_
        exact K1 (by (try simp only [ltI, ge0, ge3, ge12, ge4, ge256, ge306, ge45, ge2, ge6] at *); grind)
      · refine E_iload_n dX11_lookup_24 rfl ?_
        refine E_bipush (v := nI 6) dX11_lookup_25 (by decide) ?_
        refine E_icmp_le (tgt := 40) dX11_lookup_27 (by decide) (fun c_27 => ?_) (fun c_27 => ?_)
        · refine E_iload_n dX11_lookup_40 rfl ?_
          refine E_if_lt (tgt := 49) dX11_lookup_41 (by decide) (fun c_41 => ?_) (fun c_41 => ?_)
          · refine E_thA (text := "stage is out of range") hst rfl rfl (gTW_at 540 (by decide +kernel)) dX11_lookup_49 dX11_lookup_52 dX11_lookup_53 dX11_lookup_55 dX11_lookup_58 (by decide) (by decide) (by decide) ?_
            exact K2 (by (try simp only [ltI, ge0, ge3, ge12, ge4, ge256, ge306, ge45, ge2, ge6] at *); grind) (by (try simp only [ltI, ge0, ge3, ge12, ge4, ge256, ge306, ge45, ge2, ge6] at *); grind)
          · refine E_iload_n dX11_lookup_44 rfl ?_
            refine E_iconst (v := nI 1) dX11_lookup_45 (by decide) ?_
            refine E_icmp_le (tgt := 59) dX11_lookup_46 (by decide) (fun c_46 => ?_) (fun c_46 => ?_)
            · refine E_iload dX11_lookup_59 rfl ?_
              refine E_if_lt (tgt := 70) dX11_lookup_61 (by decide) (fun c_61 => ?_) (fun c_61 => ?_)
              · refine E_thA (text := "tongue is out of range") hst rfl rfl (gTW_at 547 (by decide +kernel)) dX11_lookup_70 dX11_lookup_73 dX11_lookup_74 dX11_lookup_76 dX11_lookup_79 (by decide) (by decide) (by decide) ?_
                exact K2 (by (try simp only [ltI, ge0, ge3, ge12, ge4, ge256, ge306, ge45, ge2, ge6] at *); grind) (by (try simp only [ltI, ge0, ge3, ge12, ge4, ge256, ge306, ge45, ge2, ge6] at *); grind)
              · refine E_iload dX11_lookup_64 rfl ?_
                refine E_iconst (v := nI 2) dX11_lookup_66 (by decide) ?_
                refine E_icmp_le (tgt := 80) dX11_lookup_67 (by decide) (fun c_67 => ?_) (fun c_67 => ?_)
                · refine E_iload dX11_lookup_80 rfl ?_
                  refine E_if_lt (tgt := 91) dX11_lookup_82 (by decide) (fun c_82 => ?_) (fun c_82 => ?_)
                  · refine E_thA (text := "skip is out of range") hst rfl rfl (gTW_at 548 (by decide +kernel)) dX11_lookup_91 dX11_lookup_94 dX11_lookup_95 dX11_lookup_97 dX11_lookup_100 (by decide) (by decide) (by decide) ?_
                    exact K2 (by (try simp only [ltI, ge0, ge3, ge12, ge4, ge256, ge306, ge45, ge2, ge6] at *); grind) (by (try simp only [ltI, ge0, ge3, ge12, ge4, ge256, ge306, ge45, ge2, ge6] at *); grind)
                  · refine E_iload dX11_lookup_85 rfl ?_
                    refine E_iconst (v := nI 5) dX11_lookup_87 (by decide) ?_
                    refine E_icmp_le (tgt := 101) dX11_lookup_88 (by decide) (fun c_88 => ?_) (fun c_88 => ?_)
                    · have h1 : iLk1 p1 p2 := (by (try simp only [ltI, ge0, ge3, ge12, ge4, ge256, ge306, ge45, ge2, ge6] at *); grind)
                      have h2 : iLk2 p3 p4 p5 := (by (try simp only [ltI, ge0, ge3, ge12, ge4, ge256, ge306, ge45, ge2, ge6] at *); grind)
                      refine E_aload_n dX11_lookup_101 rfl ?_
                      refine E_getRL dX11_lookup_102 kF_X11_11 kY_11 (Or.inr ⟨_, rfl⟩) (l_0 hL) (k_0 hL) (r_0_0 hL) ?_
                      refine E_aload_n dX11_lookup_105 rfl ?_
                      refine E_getIL (v := nI (fc0 c)) dX11_lookup_106 kF_X11_69 kY_11 (Or.inl rfl) (l_0 hL) (k_0 hL) hB.used ?_
                      refine E_aaldL (v := _) dX11_lookup_109 (l_1 hL) (k_1 hL) (by decide) (by decide) rfl (by omega) (by decide) (hB.f1 hf) ?_
                      refine E_astore dX11_lookup_110 (Nat.le_of_ble_eq_true rfl) (by decide) rfl ?_
                      refine E_aload dX11_lookup_112 rfl ?_
                      refine E_getIL (v := nI (cN _ 129 _)) dX11_lookup_114 kF_X11_98 kY_1 (Or.inl rfl) (hB.flt0 hf) (hB.fk0 hf) (hB.fcnt hf) ?_
                      refine E_bipush (v := nI 12) dX11_lookup_117 (by decide) ?_
                      refine E_icmp_lt_n (tgt := 132) dX11_lookup_119 (by decide) (by omega) (by omega) (fun c_119 => ?_) (fun c_119 => ?_)
                      · refine E_aload dX11_lookup_132 rfl ?_
                        refine E_getRL dX11_lookup_134 kF_X11_106 kY_1 (Or.inr ⟨_, rfl⟩) (hB.flt0 hf) (hB.fk0 hf) (hB.fr0 hf) ?_
                        refine E_aload dX11_lookup_137 rfl ?_
                        refine E_getIL (v := nI (cN _ 129 _)) dX11_lookup_139 kF_X11_98 kY_1 (Or.inl rfl) (hB.flt0 hf) (hB.fk0 hf) (hB.fcnt hf) ?_
                        have hp179 : 139 ≤ mN M := hL.1
                        have hk1 : mK (mNew M (4, 0)) (mN M) = (4, 0) := by rw [mK_new, if_pos rfl]
                        refine E_new (c := 4) (k := 10) (n := 312) dX11_lookup_142 (by decide) kY_4 (gW_at 565 (by decide +kernel) (by decide +kernel)) (gW_at 566 (by decide +kernel) (by decide +kernel)) (gW_at 48 (by decide +kernel) (by decide +kernel)) ?_
                        have hpl : mN M < mN (mNew M (4, 0)) := Nat.lt_succ_self _
                        have hpk := hk1
                        refine E_dup dX11_lookup_145 rfl ?_
                        refine E_iload_n dX11_lookup_146 rfl ?_
                        refine E_iload_n dX11_lookup_147 rfl ?_
                        refine E_iload_n dX11_lookup_148 rfl ?_
                        refine E_iload dX11_lookup_149 rfl ?_
                        refine E_iload dX11_lookup_151 rfl ?_
                        refine E_callI5 (fr' := 1) (k1 := 10) (n1 := 312) (k2 := 0) (n2 := 0) dX11_lookup_153 kO_X4_init kL_X11_112 hpl rfl rfl rfl rfl rfl (by decide) (by decide) (by exact Nat.le_of_ble_eq_true rfl) rfl ?_
                        refine sp_X4_init (p := mN M) rfl hk1 (fun M2 n2 k2 s2 l2 => ?_)
                        have kk : ∀ a, a < mN M → mK M2 a = mK M a := fun a q => (k2 a (Nat.le_of_lt q)).trans (by rw [mK_new, if_neg (by omega)])
                        have ii : ∀ a j, a < mN M → mI M2 a j = mI M a j := fun a j q => (s2 a j q).1.trans (by rw [mI_new, if_neg (by omega)])
                        have ll : ∀ a j, a < mN M → mL M2 a j = mL M a j := fun a j q => (s2 a j q).2.1.trans (by rw [mL_new, if_neg (by omega)])
                        have rr : ∀ a j, a < mN M → mR M2 a j = mR M a j := fun a j q => (s2 a j q).2.2.trans (by rw [mR_new, if_neg (by omega)])
                        have hpk : mK M2 (mN M) = (4, 0) := (k2 _ (Nat.le_refl _)).trans hk1
                        have hpl : mN M < mN M2 := by omega
                        have hL2 : gLay M2 := hL.of (by omega) kk (fun t q => rr _ _ (by have := (gl_kT t q).2; omega))
                        have hBo := hB
                        have hB : gF M2 := hL2
                        have hL := hL2
                        have hcn : mI M2 (fb (fc0 c)) 4 = nI (cN c 129 (fc0 c)) := (ii _ _ (by unfold fb; omega)).trans (hBo.fcnt hf)
                        have hc3 : mI (sI (sR M2 (fb (fc0 c) + 1) (cN c 129 (fc0 c)) (mN M + 1)) (fb (fc0 c)) 4 (nI (cN c 129 (fc0 c) + 1))) (fb (fc0 c)) 4 = nI (cN c 129 (fc0 c) + 1) := mI_eq
                        have hc4 : mI (sI (sI (sR M2 (fb (fc0 c) + 1) (cN c 129 (fc0 c)) (mN M + 1)) (fb (fc0 c)) 4 (nI (cN c 129 (fc0 c) + 1))) 0 10 (nI 1)) (fb (fc0 c)) 4 = nI (cN c 129 (fc0 c) + 1) := (mI_ne (by unfold fb; omega)).trans mI_eq
                        refine gKn ?_
                        refine E_aast dX11_lookup_156 (hB.flt hf (i := 1) (by decide)) (hB.fk1 hf) (by decide) (by decide) hpl hpk (by decide) rfl rfl (by omega) (by decide) ?_
                        refine E_aload dX11_lookup_157 rfl ?_
                        refine E_dup dX11_lookup_159 rfl ?_
                        refine E_getIL (v := nI (cN c 129 (fc0 c))) dX11_lookup_160 kF_X11_98 kY_1 (Or.inl rfl) (hB.flt0 hf) (hB.fk0 hf) hcn ?_
                        refine E_iconst (v := nI 1) dX11_lookup_163 (by decide) ?_
                        refine E_iadd_n dX11_lookup_164 ?_
                        refine E_putI dX11_lookup_165 kF_X11_98 kY_1 (Or.inl rfl) (hB.flt0 hf) (hB.fk0 hf) (Or.inl rfl) ?_
                        have hB3 : kB (nxL c (fc0 c) (cN c 129 (fc0 c)) p1 p2 p3 p4 p5) (pAt P (12 * fc0 c + cN c 129 (fc0 c)) (mN M)) (sI (sR M2 (fb (fc0 c) + 1) (cN c 129 (fc0 c)) (mN M + 1)) (fb (fc0 c)) 4 (nI (cN c 129 (fc0 c) + 1))) := by
                          refine hBo.newL hf rfl (by omega) rfl h1 h2 (Nat.le_of_eq n2.symm) kk hpk (fun a j q q2 => (mI_sI _ _ _ _ _ _).trans ((if_neg q2).trans (ii a j q))) (fun a j q q2 => (mR_sR _ _ _ _ _ _).trans ((if_neg q2).trans (rr a j q))) (l2.mv rfl (fun a j q => mI_ne (by unfold fb; omega)) (fun a j q => mR_ne (by unfold fb; omega))) mI_eq mR_eq
                        have hL := hB3.lay
                        refine E_aload_n dX11_lookup_168 rfl ?_
                        refine E_iconst (v := nI 1) dX11_lookup_169 (by decide) ?_
                        refine E_putI dX11_lookup_170 kF_X11_73 kY_11 (Or.inr ⟨rfl, by decide⟩) (l_0 hL) (k_0 hL) (Or.inl rfl) ?_
                        refine E_aload dX11_lookup_173 rfl ?_
                        refine E_getIL (v := nI (cN c 129 (fc0 c) + 1)) dX11_lookup_175 kF_X11_98 kY_1 (Or.inl rfl) (hB.flt0 hf) (hB.fk0 hf) hc4 ?_
                        refine E_iconst (v := nI 1) dX11_lookup_178 (by decide) ?_
                        refine E_isub_n dX11_lookup_179 (by omega) ?_
                        refine E_iret dX11_lookup_180 (Or.inl rfl) ?_
                        exact K0 h1 h2 (by show cN c 129 (fc0 c) < 12; omega) _ _ (kS.st hB3 ⟨fun i hi => ⟨(hS.2.1.1 i hi).1, (mR_ne (by unfold fb; omega)).trans ((rr 7 i (by omega)).trans (hS.2.1.1 i hi).2)⟩, hS.2.1.2⟩) ⟨by show mN M ≤ mN M2; omega, kk, fun a j q q2 => ⟨(mI_ne (by omega)).trans ((mI_ne (by unfold fb; omega)).trans (ii a j (by omega))), ll a j (by omega), (mR_ne (by unfold fb; omega)).trans (rr a j (by omega))⟩⟩
                      · refine E_thS (text := "the face is full") hst rfl rfl (gTW_at 558 (by decide +kernel)) dX11_lookup_122 dX11_lookup_125 dX11_lookup_126 dX11_lookup_128 dX11_lookup_131 (by decide) (by decide) (by decide) ?_
                        exact K3 h1 h2 (by show cN c 129 (fc0 c) = 12; omega)
                    · refine E_thA (text := "skip is out of range") hst rfl rfl (gTW_at 548 (by decide +kernel)) dX11_lookup_91 dX11_lookup_94 dX11_lookup_95 dX11_lookup_97 dX11_lookup_100 (by decide) (by decide) (by decide) ?_
                      exact K2 (by (try simp only [ltI, ge0, ge3, ge12, ge4, ge256, ge306, ge45, ge2, ge6] at *); grind) (by (try simp only [ltI, ge0, ge3, ge12, ge4, ge256, ge306, ge45, ge2, ge6] at *); grind)
                · refine E_thA (text := "tongue is out of range") hst rfl rfl (gTW_at 547 (by decide +kernel)) dX11_lookup_70 dX11_lookup_73 dX11_lookup_74 dX11_lookup_76 dX11_lookup_79 (by decide) (by decide) (by decide) ?_
                  exact K2 (by (try simp only [ltI, ge0, ge3, ge12, ge4, ge256, ge306, ge45, ge2, ge6] at *); grind) (by (try simp only [ltI, ge0, ge3, ge12, ge4, ge256, ge306, ge45, ge2, ge6] at *); grind)
            · refine E_thA (text := "stage is out of range") hst rfl rfl (gTW_at 540 (by decide +kernel)) dX11_lookup_49 dX11_lookup_52 dX11_lookup_53 dX11_lookup_55 dX11_lookup_58 (by decide) (by decide) (by decide) ?_
              exact K2 (by (try simp only [ltI, ge0, ge3, ge12, ge4, ge256, ge306, ge45, ge2, ge6] at *); grind) (by (try simp only [ltI, ge0, ge3, ge12, ge4, ge256, ge306, ge45, ge2, ge6] at *); grind)
        · refine E_thI (text := "no such feature") hst rfl rfl (gTW_at 530 (by decide +kernel)) dX11_lookup_30 dX11_lookup_33 dX11_lookup_34 dX11_lookup_36 dX11_lookup_39 (by decide) (by decide) (by decide) ?_
          exact K1 (by (try simp only [ltI, ge0, ge3, ge12, ge4, ge256, ge306, ge45, ge2, ge6] at *); grind)
    · refine E_thI (text := "no such kind") hst rfl rfl (gTW_at 503 (by decide +kernel)) dX11_lookup_10 dX11_lookup_13 dX11_lookup_14 dX11_lookup_16 dX11_lookup_19 (by decide) (by decide) (by decide) ?_
      exact K1 (by (try simp only [ltI, ge0, ge3, ge12, ge4, ge256, ge306, ge45, ge2, ge6] at *); grind)
set_option maxRecDepth 100000 in
set_option maxHeartbeats 4000000 in
theorem sp_X11_rule {g : gG} {M : gM} {Q : Option Value ⊕ String → gM → Prop} (hst : (gl1 g).stackTraces = false) {c : Cf} {P π : Nat → Nat} (hS : kS c P π M) {p x0 x1 x2 x3 x4 x5 : Int32} (K1 : ¬ iBel p (cnt0 c) → Q (.inr "java/lang/IndexOutOfBoundsException") M) (K2 : ∀ j, j < cnt0 c → p = nI j → ¬ iRl (cN c 130 (at0 c j)) x0 x1 x2 x3 x4 x5 → Q (.inr "java/lang/IllegalArgumentException") M) (K3 : ∀ j, j < cnt0 c → p = nI j → iRl (cN c 130 (at0 c j)) x0 x1 x2 x3 x4 x5 → cN c 135 (at0 c j) = 8 → Q (.inr "java/lang/IllegalStateException") M) (K0 : ∀ j, j < cnt0 c → p = nI j → iRl (cN c 130 (at0 c j)) x0 x1 x2 x3 x4 x5 → cN c 135 (at0 c j) < 8 → ∀ M', kS (nxR c (at0 c j) (cN c 135 (at0 c j)) x0 x1 x2 x3 x4 x5) P π M' → kd M M' → Q (.inl (some (.int (nI (cN c 135 (at0 c j) + 1))))) M') : E g 7 1 6 mX11_rule 0 [.ref 1, .int p, .int x0, .int x1, .int x2, .int x3, .int x4, .int x5, .null] [] M Q := by
  have hB := hS.1
  have hL := hB.lay
  have hf : fc0 c < 2 := hB.wf.fac
  refine E_aload_n dX11_rule_0 rfl ?_
  refine E_getRL dX11_rule_1 kF_X11_11 kY_11 (Or.inr ⟨_, rfl⟩) (l_0 hL) (k_0 hL) (r_0_0 hL) ?_
  refine E_aload_n dX11_rule_4 rfl ?_
  refine E_getIL (v := nI (fc0 c)) dX11_rule_5 kF_X11_69 kY_11 (Or.inl rfl) (l_0 hL) (k_0 hL) hB.used ?_
  refine E_aaldL (v := _) dX11_rule_8 (l_1 hL) (k_1 hL) (by decide) (by decide) rfl (by omega) (by decide) (hB.f1 hf) ?_
  refine E_iload_n dX11_rule_9 rfl ?_
  refine E_callV1 (fr' := 1) (k1 := 0) (n1 := 0) (k2 := 1) (n2 := 6) dX11_rule_10 kO_X1_lookupAt kL_X11_115 (hB.flt0 hf) (hB.fk0 hf) ⟨by decide, rfl⟩ rfl (by decide) (by decide) (by exact Nat.le_of_ble_eq_true rfl) rfl ?_
  refine sp_X1_lookupAt hB hf (fun j hj ej => ?_) (fun hn => ?_)
  · have hk := hB.kl hf hj
    refine gKv ?_
    refine E_astore dX11_rule_13 (Nat.le_of_ble_eq_true rfl) (by decide) rfl ?_
    refine E_aload dX11_rule_15 rfl ?_
    refine E_ifnonnull (tgt := 30) dX11_rule_17 (by decide) (fun c_17 => ?_) (fun c_17 => ?_)
    · have h8 := (hB.wf.lk (12 * fc0 c + j)).2.2.2.2.2
      refine E_aload dX11_rule_30 rfl ?_
      refine E_iload_n dX11_rule_32 rfl ?_
      refine E_iload_n dX11_rule_33 rfl ?_
      refine E_iload dX11_rule_34 rfl ?_
      refine E_iload dX11_rule_36 rfl ?_
      refine E_iload dX11_rule_38 rfl ?_
      refine E_iload dX11_rule_40 rfl ?_
      refine E_callV6 (fr' := 4) (k1 := 0) (n1 := 0) (k2 := 1) (n2 := 6) dX11_rule_42 kO_X4_accepts kL_X11_121 (hk.lt0) (hk.kd) ⟨by decide, rfl⟩ rfl rfl rfl rfl rfl rfl (by decide) (by decide) (by exact Nat.le_of_ble_eq_true rfl) rfl ?_
      refine sp_X4_accepts hk.lt0 hk.kd (hB.wf.lk _).1 hk.f0 ?_
      refine gKv ?_
      refine E_if_ne_b (tgt := 58) dX11_rule_45 (by decide) (fun c_45 => ?_) (fun c_45 => ?_)
      · refine E_aload dX11_rule_58 rfl ?_
        refine E_getIL (v := nI (cN c 135 (12 * fc0 c + j))) dX11_rule_60 kF_X11_127 kY_4 (Or.inl rfl) (hk.lt0) (hk.kd) hk.f8 ?_
        refine E_bipush (v := nI 8) dX11_rule_63 (by decide) ?_
        refine E_icmp_lt_n (tgt := 78) dX11_rule_65 (by decide) (by omega) (by omega) (fun c_65 => ?_) (fun c_65 => ?_)
        · refine E_aload dX11_rule_78 rfl ?_
          refine E_iload_n dX11_rule_80 rfl ?_
          refine E_iload_n dX11_rule_81 rfl ?_
          refine E_iload dX11_rule_82 rfl ?_
          refine E_iload dX11_rule_84 rfl ?_
          refine E_iload dX11_rule_86 rfl ?_
          refine E_iload dX11_rule_88 rfl ?_
          refine E_callV6 (fr' := 1) (k1 := 0) (n1 := 0) (k2 := 1) (n2 := 6) dX11_rule_90 kO_X4_tell kL_X11_132 (hk.lt0) (hk.kd) ⟨by decide, rfl⟩ rfl rfl rfl rfl rfl rfl (by decide) (by decide) (by exact Nat.le_of_ble_eq_true rfl) rfl ?_
          refine sp_X4_tell hL hB.wf hk.w rfl (by omega) (fun M1 hk1 hf1 => ?_)
          have hge := hk.ge
          have hw1 := nxR_wf hB.wf (l := 12 * fc0 c + j) rfl (by omega) c_45
          have hu1 : mI M1 0 9 = nI (fc0 c) := (hf1.bk (by unfold tlK; omega)).trans hB.used
          have hL1 : gLay M1 := hf1.lay (fun _ _ z => z.elim) hL
          have hg1 : ∀ q, q < 256 → mI M1 (fb (fc0 c) + 3) q = nI (cN (nxR c (12 * fc0 c + j) (cN c 135 (12 * fc0 c + j)) x0 x1 x2 x3 x4 x5) 138 (256 * fc0 c + q)) := fun q hq => by
            rw [nxR_N, if_neg (by omega), hf1.bk (by unfold tlK fb; omega)]; exact hB.fgr hf hq
          have hBo := hB
          have hk0 := hk
          have hk := hk1
          have hB : gF M1 := hL1
          have hL := hL1
          refine gKn ?_
          refine E_aload_n dX11_rule_93 rfl ?_
          refine E_getRL dX11_rule_94 kF_X11_11 kY_11 (Or.inr ⟨_, rfl⟩) (l_0 hL) (k_0 hL) (r_0_0 hL) ?_
          refine E_aload_n dX11_rule_97 rfl ?_
          refine E_getIL (v := nI (fc0 c)) dX11_rule_98 kF_X11_69 kY_11 (Or.inl rfl) (l_0 hL) (k_0 hL) hu1 ?_
          refine E_aaldL (v := _) dX11_rule_101 (l_1 hL) (k_1 hL) (by decide) (by decide) rfl (by omega) (by decide) (hB.f1 hf) ?_
          refine E_aload dX11_rule_102 rfl ?_
          refine E_callV1 (fr' := 2) (k1 := 0) (n1 := 0) (k2 := 1) (n2 := 6) dX11_rule_104 kO_X1_tabulate kL_X11_136 (hB.flt0 hf) (hB.fk0 hf) ⟨by decide, rfl⟩ rfl (by decide) (by decide) (by exact Nat.le_of_ble_eq_true rfl) rfl ?_
          refine sp_X1_tabulate hf hB hw1 hk1 hg1 (fun M2 hf2 ht2 => ?_)
          have hB3 := hBo.nxR hf hj rfl (by omega) c_45 hk1 hf1 hf2 ht2
          have hL := hB3.lay
          have h14 : mI (sI M2 0 10 (nI 1)) (P (12 * fc0 c + j)) 8 = nI (cN c 135 (12 * fc0 c + j) + 1) := by
            rw [mI_ne (by omega), hf2.bk (by unfold tbK; omega), hk1.f8, nxR_N, if_pos ⟨rfl, rfl⟩]
          have hk : kLw (nxR c (12 * fc0 c + j) (cN c 135 (12 * fc0 c + j)) x0 x1 x2 x3 x4 x5) M2 (12 * fc0 c + j) (P (12 * fc0 c + j)) := (hB3.kl hf (by rw [nxR_N, if_neg (by omega)]; exact hj)).w
          refine gKn ?_
          refine E_aload_n dX11_rule_107 rfl ?_
          refine E_iconst (v := nI 1) dX11_rule_108 (by decide) ?_
          refine E_putI dX11_rule_109 kF_X11_73 kY_11 (Or.inr ⟨rfl, by decide⟩) (l_0 hL) (k_0 hL) (Or.inl rfl) ?_
          refine E_aload dX11_rule_112 rfl ?_
          refine E_getIL (v := nI (cN c 135 (12 * fc0 c + j) + 1)) dX11_rule_114 kF_X11_127 kY_4 (Or.inl rfl) (hk.lt0) (hk.kd) h14 ?_
          refine E_iret dX11_rule_117 (Or.inl rfl) ?_
          refine K0 j hj ej c_45 (by show cN c 135 (12 * fc0 c + j) < 8; omega) _ (kS.st hB3 ⟨fun i hi => ⟨(hS.2.1.1 i hi).1, (hf2.bkR (fun z => z)).trans ((hf1.bkR (fun z => z)).trans (hS.2.1.1 i hi).2)⟩, hS.2.1.2⟩) (((kd.of hf1 (fun a i z => by unfold tlK at z; omega) (fun _ _ z => z.elim)).trans (kd.of hf2 (fun a i z => by unfold tbK at z; omega) (fun _ _ z => z.elim))).trans (kd.wr (by decide)))
        · refine E_thS (text := "the lookup is full") hst rfl rfl (gTW_at 1255 (by decide +kernel)) dX11_rule_68 dX11_rule_71 dX11_rule_72 dX11_rule_74 dX11_rule_77 (by decide) (by decide) (by decide) ?_
          exact K3 j hj ej c_45 (by show cN c 135 (12 * fc0 c + j) = 8; omega)
      · refine E_thA (text := "not as its kind tells") hst rfl rfl (gTW_at 1254 (by decide +kernel)) dX11_rule_48 dX11_rule_51 dX11_rule_52 dX11_rule_54 dX11_rule_57 (by decide) (by decide) (by decide) ?_
        exact K2 j hj ej c_45
    · refine E_thI (text := "no such lookup") hst rfl rfl (gTW_at 1235 (by decide +kernel)) dX11_rule_20 dX11_rule_23 dX11_rule_24 dX11_rule_26 dX11_rule_29 (by decide) (by decide) (by decide) ?_
      first | exact K1 hn | (exfalso; omega)
  · refine gKv ?_
    refine E_astore dX11_rule_13 (Nat.le_of_ble_eq_true rfl) (by decide) rfl ?_
    refine E_aload dX11_rule_15 rfl ?_
    refine E_ifnonnull (tgt := 30) dX11_rule_17 (by decide) (fun c_17 => ?_) (fun c_17 => ?_)
    · exact absurd rfl c_17
    · refine E_thI (text := "no such lookup") hst rfl rfl (gTW_at 1235 (by decide +kernel)) dX11_rule_20 dX11_rule_23 dX11_rule_24 dX11_rule_26 dX11_rule_29 (by decide) (by decide) (by decide) ?_
      first | exact K1 hn | (exfalso; omega)
