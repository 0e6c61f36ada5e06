/-! the class: glyphAnew, hit, isSafe -/
theorem stS1_l {jn : Nat} {l l' all : Int32} {k : Nat} {A B : Pl} (h : ∀ q, ¬ q = 5 → A q = B q) : ∀ q, ¬ q = 5 → stS1 jn l all k A q = stS1 jn l' all k B q := fun q hq => by
  funext i
  have h2 := h 2 (by decide)
  have h1 := h 1 (by decide)
  have h4 := h 4 (by decide)
  have hq2 := h q hq
  unfold stS1
  rw [h2]
  by_cases e : B 2 k = -100
  · rw [cI_t e, cI_t e]
    unfold stX u2
    rw [if_neg (by omega), if_neg (by omega), hq2]
  · rw [cI_f e, cI_f e]
    unfold stH stX u2
    by_cases e1 : q = 1 ∧ i = k
    · obtain ⟨rfl, rfl⟩ := e1
      simp [h1, h2, h4]
    · simp [e1, hq, hq2]
theorem std_l {jn : Nat} {l l' all : Int32} {A : Pl} : ∀ k q, ¬ q = 5 → std jn l all k A q = std jn l' all k A q
  | 0, _, _ => rfl
  | k + 1, q, hq => stS1_l (std_l k) q hq
theorem rBl_r {c : Cf} {a b i q : Nat} {left : Int32} (hq : ¬ q = 5) : rBl c a b left i q = rB c a b i q := std_l _ q hq
theorem pW.px {c : Cf} {pb a b R0 G0 : Nat} {left : Int32} {M : gM} (h : pW c pb a b R0 G0 left (nr c a b) M) {q P : Nat} (hq : q < 8) (hq4 : ¬ q = 4) (hp : P < gS c a b (nr c a b)) : mI M (pb + 12 + q) (G0 + P) = pgx c a b G0 q P := by
  obtain ⟨h1, h2, h3⟩ := jx_b hp
  have e : gS c a b (jx c a b P + 1) = gS c a b (jx c a b P) + (rL c a b (jx c a b P)).length := rfl
  have := (h.2.2.2 (jx c a b P) h1).2.1 q (P - gS c a b (jx c a b P)) hq (by omega)
  rw [show G0 + gS c a b (jx c a b P) + (P - gS c a b (jx c a b P)) = G0 + P by omega] at this
  rw [this]
  unfold pgx og
  rw [rBl_r (q := 0) (by decide), rBl_r (q := 1) (by decide), rBl_r (q := 2) (by decide), rBl_r (q := 3) (by decide), rBl_r (q := 4) (by decide), if_neg hq4, if_neg hq4]
theorem htD_k {x v : Int32} (hx : bd x 10000) (hv : bd v 1500000) : (if 0 ≤ v - x then v - x else 0 - (v - x)) = htD x v := by
  unfold bd at hx hv
  have e1 : (v - x).toInt = v.toInt - x.toInt := by rw [Int32.toInt_sub, bm (by omega) (by omega)]
  have e2 : (x - v).toInt = x.toInt - v.toInt := by rw [Int32.toInt_sub, bm (by omega) (by omega)]
  have e3 : (0 - (v - x)).toInt = x.toInt - v.toInt := by rw [Int32.toInt_sub, e1, show (0 : Int32).toInt = 0 by decide, bm (by omega) (by omega)]; omega
  unfold htD
  by_cases e : v ≤ x
  · rw [cI_t e]
    have e4 := Int32.le_iff_toInt_le.mp e
    by_cases e5 : 0 ≤ v - x
    · rw [if_pos e5]
      have e6 := Int32.le_iff_toInt_le.mp e5
      rw [e1, show (0 : Int32).toInt = 0 by decide] at e6
      apply Int32.toInt_inj.mp; omega
    · rw [if_neg e5]
      apply Int32.toInt_inj.mp; omega
  · rw [cI_f e]
    have e4 : ¬ v.toInt ≤ x.toInt := fun q => e (Int32.le_iff_toInt_le.mpr q)
    rw [if_pos (Int32.le_iff_toInt_le.mpr (by rw [e1, show (0 : Int32).toInt = 0 by decide]; omega))]
theorem bd_in {x : Int32} (h : iIn x (-1000) (nI 10000)) : bd x 10000 := by
  obtain ⟨h1, h2⟩ := h
  rw [Int32.le_iff_toInt_le] at h1 h2
  rw [show (-1000 : Int32).toInt = -1000 by decide] at h1
  rw [show (nI 10000).toInt = 10000 by decide] at h2
  unfold bd; omega
set_option maxRecDepth 100000 in
set_option maxHeartbeats 4000000 in
theorem sp_X11_glyphAnew {g : gG} {M : gM} {Q : Option Value ⊕ String → gM → Prop} (hst : (gl1 g).stackTraces = false) {c : Cf} {P π : Nat → Nat} (hS : kS c P π M) {p : Int32} (K1 : ∀ j, j < ng c → p = nI j → ∀ M' π', kS c P π' M' → kq M M' → Q (.inl (some (.int (pgv c 0 j)))) M') (K0 : ¬ iBel p (ng c) → ∀ M' π', kS c P π' M' → kq M M' → Q (.inr "java/lang/IndexOutOfBoundsException") M') : E g 8 1 6 mX11_glyphAnew 0 [.ref 1, .int p] [] M Q := by
  have hB := hS.1
  have hL := hB.lay
  have hf : fc0 c < 2 := hB.wf.fac
  refine E_aload_n dX11_glyphAnew_0 rfl ?_
  refine E_getRL dX11_glyphAnew_1 kF_X11_66 kY_11 (Or.inl ⟨_, rfl⟩) (l_0 hL) (k_0 hL) (r_0_8 hL) ?_
  refine E_callV0 (fr' := 1) (k1 := 0) (n1 := 0) (k2 := 1) (n2 := 6) dX11_glyphAnew_4 kO_X6_clear kL_X11_220 (l_98 hL) (k_98 hL) ⟨by decide, rfl⟩  (by decide) (by decide) (by exact Nat.le_of_ble_eq_true rfl) rfl ?_
  refine sp_X6_clear hL (pb := 98) (Or.inr rfl) ?_
  have hBo := hB
  have hB : kB c P (clM 98 M) := hBo.cl (Or.inr rfl)
  have hL := hB.lay
  show gK _ _ _ _ _ _ _ _ _ _ (clM 98 M)
  refine gKn ?_
  refine E_aload_n dX11_glyphAnew_7 rfl ?_
  refine E_aload_n dX11_glyphAnew_8 rfl ?_
  refine E_getRL dX11_glyphAnew_9 kF_X11_66 kY_11 (Or.inl ⟨_, rfl⟩) (l_0 hL) (k_0 hL) (r_0_8 hL) ?_
  refine E_iconst (v := nI 0) dX11_glyphAnew_12 (by decide) ?_
  refine E_aload_n dX11_glyphAnew_13 rfl ?_
  refine E_getRL dX11_glyphAnew_14 kF_X11_18 kY_11 (Or.inl ⟨_, rfl⟩) (l_0 hL) (k_0 hL) (r_0_1 hL) ?_
  refine E_getIL (v := nI (tl c)) dX11_glyphAnew_17 kF_X11_179 kY_10 (Or.inl rfl) (l_2 hL) (k_2 hL) hB.len ?_
  refine E_iconst (v := nI 0) dX11_glyphAnew_20 (by decide) ?_
  refine E_callV4 (fr' := 6) (k1 := 0) (n1 := 0) (k2 := 1) (n2 := 6) dX11_glyphAnew_21 kO_X11_shape kL_X11_223 (l_0 hL) (k_0 hL) ⟨by decide, rfl⟩ rfl rfl rfl rfl (by decide) (by decide) (by exact Nat.le_of_ble_eq_true rfl) rfl ?_
  refine sp_X11_shape (pb := 98) (a := 0) (b := tl c) (R0 := 0) (G0 := 0) (tb := 0) (left := nI 0) (Or.inr rfl) (Nat.zero_le _) hB.wf.tl (Nat.le_refl _) (Nat.zero_le _) (Nat.zero_le _) (fun M1 π1 hB1 hr1 hF1 hV1 hW1 => ?_) hB hS.2.1 (clM_1 98 M) (clM_9 98 M) (clM_10 98 M)
  have hL := hB1.lay
  have hkd : kq M M1 := (kq.of (clM_f 98 M) (fun a j z => by unfold cpR at z; omega) (fun _ _ z => z.elim)).trans (kq.of hF1 (fun a j z => (ksR_k (Or.inr rfl) a j z).2.1) kT_k)
  have hS1 : kS c P π1 M1 := by
    refine ⟨hB1, hr1, ?_⟩
    have e10 : mI M1 0 10 = mI M 0 10 := (hF1.bk (fun z => (ksR_k (Or.inr rfl) _ _ z).2.2 rfl)).trans ((clM_f 98 M).bk (by unfold cpR; omega))
    rcases hS.2.2 with ⟨q1, q2⟩ | q1
    · refine Or.inl ⟨e10.trans q1, ?_, ?_⟩
      · exact (q2.1.mv (clM_f 98 M) (fun x j z => by unfold cpR at z; omega)).mv hF1 (fun x j z => by unfold ksR rwR usR plR at z; omega)
      · exact (q2.2.mv (clM_f 98 M) (fun x j z => by unfold cpR at z; omega)).mv hF1 (fun x j z => by unfold ksR rwR usR plR at z; omega)
    · exact Or.inr (e10.trans q1)
  have h16 : tl c ≤ 16 := hB1.wf.tl
  have hng : nr c 0 (tl c) ≤ 16 := by have : tr c ≤ tl c - 0 := (nr_b (c := c) (Nat.zero_le (tl c)) hB1.wf.tl).1; show tr c ≤ 16; omega
  have hg : ng c ≤ 1024 := by have := hW1.1; show gS c 0 (tl c) (nr c 0 (tl c)) ≤ 1024; omega
  have hg9 : mI M1 98 9 = nI (ng c) := hW1.2.1.trans (by rw [Nat.zero_add])
  have hn : ∀ j, j < ng c → mI M1 110 j = pgv c 0 j := fun j hj => by
    have e := hW1.px (q := 0) (P := j) (by decide) (by decide) hj
    rw [Nat.zero_add] at e
    rw [← pgx_0 c 0 j]; exact e
  refine gKn ?_
  refine E_aload_n dX11_glyphAnew_24 rfl ?_
  refine E_getRL dX11_glyphAnew_25 kF_X11_66 kY_11 (Or.inl ⟨_, rfl⟩) (l_0 hL) (k_0 hL) (r_0_8 hL) ?_
  refine E_iload_n dX11_glyphAnew_28 rfl ?_
  refine E_callS2 (fr' := 7) (k1 := 1) (n1 := 6) (k2 := 0) (n2 := 0) dX11_glyphAnew_29 kO_X11_needGlyph kL_X11_213 rfl rfl (by decide) (by decide) (by exact Nat.le_of_ble_eq_true rfl) (Or.inl rfl) rfl ?_
  refine sp_X11_needGlyph hst hL (Or.inr rfl) (n := ng c) (by omega) hg9 (fun j hj ej => ?_) (fun hn => gKx rfl (K0 hn _ _ hS1 hkd))
  refine gKn ?_
  subst ej
  refine E_aload_n dX11_glyphAnew_32 rfl ?_
  refine E_getRL dX11_glyphAnew_33 kF_X11_66 kY_11 (Or.inl ⟨_, rfl⟩) (l_0 hL) (k_0 hL) (r_0_8 hL) ?_
  refine E_getRL dX11_glyphAnew_36 kF_X11_217 kY_6 (Or.inr ⟨_, rfl⟩) (l_98 hL) (k_98 hL) (r_98_1 hL) ?_
  refine E_iload_n dX11_glyphAnew_39 rfl ?_
  refine E_ialdL (v := pgv c 0 j) dX11_glyphAnew_40 (l_110 hL) (k_110 hL) rfl (by omega) (by decide) (hn j hj) ?_
  refine E_iret dX11_glyphAnew_41 (Or.inl rfl) ?_
  exact K1 j hj rfl _ _ hS1 hkd
set_option maxRecDepth 100000 in
set_option maxHeartbeats 4000000 in
theorem lp_X11_hit {g : gG} {Q : Option Value ⊕ String → gM → Prop} {c : Cf} {P π : Nat → Nat} {M : gM} (hQ : qC c P π M) {x : Int32} (hx : bd x 10000) (K : Q (.inl (some (.int ((htS c x (tl c)).1)))) M) : ∀ k, k ≤ tl c → ∀ a b v6, a = (htS c x k).1 → b = (htS c x k).2 → E g 8 0 0 mX11_hit 39 [.ref 1, .int x, .ref 79, .int a, .int b, .int (nI k), v6] [] M Q := by
  have hB := hQ.B
  have hL := hB.lay
  have h16 : tl c ≤ 16 := hB.wf.tl
  refine lpUp (tl c) (fun k hk ih => ?_)
  intro a b v6 ea eb
  refine E_iload dX11_hit_39 rfl ?_
  refine E_aload_n dX11_hit_41 rfl ?_
  refine E_getRL dX11_hit_42 kF_X11_18 kY_11 (Or.inl ⟨_, rfl⟩) (l_0 hL) (k_0 hL) (r_0_1 hL) ?_
  refine E_getIL (v := nI (tl c)) dX11_hit_45 kF_X11_179 kY_10 (Or.inl rfl) (l_2 hL) (k_2 hL) hB.len ?_
  refine E_icmp_ge_n (tgt := 90) dX11_hit_48 (by decide) (by omega) (by omega) (fun c_48 => ?_) (fun c_48 => ?_)
  · refine E_iload_n dX11_hit_90 rfl ?_
    refine E_iret dX11_hit_91 (Or.inl rfl) ?_
    obtain rfl : k = tl c := by omega
    rw [ea]; exact K
  · refine E_aload_n dX11_hit_51 rfl ?_
    refine E_iload dX11_hit_52 rfl ?_
    refine E_callV1 (fr' := 3) (k1 := 0) (n1 := 0) (k2 := 0) (n2 := 0) dX11_hit_54 kO_X6_caretOf kL_X11_253 (l_78 hL) (k_78 hL) ⟨by decide, rfl⟩ rfl (by decide) (by decide) (by exact Nat.le_of_ble_eq_true rfl) rfl ?_
    refine sp_X6_caretOf hQ (by omega) ?_
    refine gKv ?_
    refine E_iload_n dX11_hit_57 rfl ?_
    refine E_isub dX11_hit_58 ?_
    refine E_kabs (gW_at 1168 (by decide +kernel) (by decide +kernel)) dX11_hit_59 (by decide) (by exact Nat.le_of_ble_eq_true rfl) ?_
    rw [htD_k hx (crt_bd hB.wf (by omega))]
    have step : ∀ a2 b2 v6, (a2, b2) = cI (a = -100 ∨ htD x (crt c k) < b) (nI k, htD x (crt c k)) (a, b) → E g 8 0 0 mX11_hit 39 [.ref 1, .int x, .ref 79, .int a2, .int b2, .int (nI (k + 1)), v6] [] M Q := fun a2 b2 v6 e => by
      have e4 : htS c x (k + 1) = (a2, b2) := by rw [e, ea, eb]; rfl
      exact ih (by omega) a2 b2 v6 (by rw [e4]) (by rw [e4])
    refine E_istore dX11_hit_62 (Nat.le_of_ble_eq_true rfl) (by decide) rfl ?_
    refine E_iload_n dX11_hit_64 rfl ?_
    refine E_bipush (v := -100) dX11_hit_65 (by decide) ?_
    refine E_icmp_eq (tgt := 77) dX11_hit_67 (by decide) (fun c_67 => ?_) (fun c_67 => ?_)
    · refine E_iload dX11_hit_77 rfl ?_
      refine E_istore_n dX11_hit_79 (Nat.le_of_ble_eq_true rfl) (by decide) rfl ?_
      refine E_iload dX11_hit_80 rfl ?_
      refine E_istore dX11_hit_82 (Nat.le_of_ble_eq_true rfl) (by decide) rfl ?_
      refine E_iinc_n (d := 1) dX11_hit_84 rfl rfl rfl (by decide) rfl ?_
      refine E_goto (tgt := 39) dX11_hit_87 (by decide) ?_
      first
        | exact step _ _ _ (cI_t (Or.inl (by assumption))).symm
        | exact step _ _ _ (cI_t (Or.inr (by first | assumption | exact Int32.not_le.mp (by assumption)))).symm
        | exact step _ _ _ (cI_f (fun q => q.elim (fun z => by first | exact (by assumption : ¬ _) z | contradiction) (fun z => by first | exact absurd z (Int32.not_lt.mpr (by assumption)) | contradiction))).symm
    · refine E_iload dX11_hit_70 rfl ?_
      refine E_iload dX11_hit_72 rfl ?_
      refine E_icmp_ge (tgt := 84) dX11_hit_74 (by decide) (fun c_74 => ?_) (fun c_74 => ?_)
      · refine E_iinc_n (d := 1) dX11_hit_84 rfl rfl rfl (by decide) rfl ?_
        refine E_goto (tgt := 39) dX11_hit_87 (by decide) ?_
        first
          | exact step _ _ _ (cI_t (Or.inl (by assumption))).symm
          | exact step _ _ _ (cI_t (Or.inr (by first | assumption | exact Int32.not_le.mp (by assumption)))).symm
          | exact step _ _ _ (cI_f (fun q => q.elim (fun z => by first | exact (by assumption : ¬ _) z | contradiction) (fun z => by first | exact absurd z (Int32.not_lt.mpr (by assumption)) | contradiction))).symm
      · refine E_iload dX11_hit_77 rfl ?_
        refine E_istore_n dX11_hit_79 (Nat.le_of_ble_eq_true rfl) (by decide) rfl ?_
        refine E_iload dX11_hit_80 rfl ?_
        refine E_istore dX11_hit_82 (Nat.le_of_ble_eq_true rfl) (by decide) rfl ?_
        refine E_iinc_n (d := 1) dX11_hit_84 rfl rfl rfl (by decide) rfl ?_
        refine E_goto (tgt := 39) dX11_hit_87 (by decide) ?_
        first
          | exact step _ _ _ (cI_t (Or.inl (by assumption))).symm
          | exact step _ _ _ (cI_t (Or.inr (by first | assumption | exact Int32.not_le.mp (by assumption)))).symm
          | exact step _ _ _ (cI_f (fun q => q.elim (fun z => by first | exact (by assumption : ¬ _) z | contradiction) (fun z => by first | exact absurd z (Int32.not_lt.mpr (by assumption)) | contradiction))).symm
set_option maxRecDepth 100000 in
set_option maxHeartbeats 4000000 in
theorem sp_X11_hit {g : gG} {M : gM} {Q : Option Value ⊕ String → gM → Prop} (hst : (gl1 g).stackTraces = false) {c : Cf} {P π : Nat → Nat} (hS : kS c P π M) {p : Int32} (K1 : iIn p (-1000) (nI 10000) → ∀ M' π', kS c P π' M' → kq M M' → Q (.inl (some (.int ((htS c p (tl c)).1)))) M') (K0 : ¬ iIn p (-1000) (nI 10000) → ∀ M' π', kS c P π' M' → kq M M' → Q (.inr "java/lang/IllegalArgumentException") M') : E g 8 1 6 mX11_hit 0 [.ref 1, .int p, .null, .null, .null, .null, .null] [] M Q := by
  have hB := hS.1
  have hL := hB.lay
  have hf : fc0 c < 2 := hB.wf.fac
  refine E_iload_n dX11_hit_0 rfl ?_
  refine E_sipush (v := -1000) dX11_hit_1 (by decide) ?_
  refine E_icmp_lt (tgt := 14) dX11_hit_4 (by decide) (fun c_4 => ?_) (fun c_4 => ?_)
  · exact E_thAW (text := "x is out of range") hst rfl rfl (gTW_at 1167 (by decide +kernel)) dX11_hit_14 dX11_hit_17 dX11_hit_18 dX11_hit_21 dX11_hit_24 (by decide) (by decide) (by decide) (K0 (by (try simp only [ltI, ge0, ge3, ge12, ge4, ge256, ge306, ge45, ge2, ge6] at *); grind) _ _ hS kq.refl)
  · refine E_iload_n dX11_hit_7 rfl ?_
    refine E_sipush (v := nI 10000) dX11_hit_8 (by decide) ?_
    refine E_icmp_le (tgt := 25) dX11_hit_11 (by decide) (fun c_11 => ?_) (fun c_11 => ?_)
    · have hp : iIn p (-1000) (nI 10000) := (by (try simp only [ltI, ge0, ge3, ge12, ge4, ge256, ge306, ge45, ge2, ge6] at *); grind)
      refine E_room (Nat.le_refl _) (Nat.zero_le _) (Nat.zero_le _) (k' := 0) (n' := 0) ?_
      refine E_aload_n dX11_hit_25 rfl ?_
      refine E_callV0 (fr' := 7) (k1 := 0) (n1 := 0) (k2 := 0) (n2 := 0) dX11_hit_26 kO_X11_shaped kL_X11_208 (l_0 hL) (k_0 hL) ⟨by decide, rfl⟩  (by decide) (by decide) (by exact Nat.le_of_ble_eq_true rfl) rfl ?_
      refine sp_X11_shaped hS (fun M1 π1 hQ h10 hkd => ?_)
      have hB := hQ.B
      have hL := hB.lay
      have hS1 := hQ.S h10
      have hg := hQ.g1024
      refine gKv ?_
      refine E_astore_n dX11_hit_29 (Nat.le_of_ble_eq_true rfl) (by decide) rfl ?_
      refine E_bipush (v := -100) dX11_hit_30 (by decide) ?_
      refine E_istore_n dX11_hit_32 (Nat.le_of_ble_eq_true rfl) (by decide) rfl ?_
      refine E_iconst (v := nI 0) dX11_hit_33 (by decide) ?_
      refine E_istore dX11_hit_34 (Nat.le_of_ble_eq_true rfl) (by decide) rfl ?_
      refine E_iconst (v := nI 0) dX11_hit_36 (by decide) ?_
      refine E_istore dX11_hit_37 (Nat.le_of_ble_eq_true rfl) (by decide) rfl ?_
      exact lp_X11_hit hQ (bd_in hp) (K1 hp _ _ hS1 hkd) 0 (Nat.zero_le _) _ _ _ rfl rfl
    · exact E_thAW (text := "x is out of range") hst rfl rfl (gTW_at 1167 (by decide +kernel)) dX11_hit_14 dX11_hit_17 dX11_hit_18 dX11_hit_21 dX11_hit_24 (by decide) (by decide) (by decide) (K0 (by (try simp only [ltI, ge0, ge3, ge12, ge4, ge256, ge306, ge45, ge2, ge6] at *); grind) _ _ hS kq.refl)
set_option maxRecDepth 100000 in
set_option maxHeartbeats 4000000 in
theorem lp_X6_isLike {g : gG} {M : gM} {Q : Option Value ⊕ String → gM → Prop} (hL : gLay M) {n1 n2 : Nat} (h1 : n1 ≤ 1024) (h2 : n2 ≤ 2048) (e1 : mI M 78 9 = nI n1) (e2 : mI M 98 9 = nI n2) (hn : n1 = n2) (K : Q (.inl (some (.int (b2i (n1 = n2 ∧ ∀ P, P < n1 → ∀ q, q < 8 → ¬ q = 4 → mI M (90 + q) P = mI M (110 + q) P))))) M) : ∀ k, k ≤ n1 → (∀ P, P < k → ∀ q, q < 8 → ¬ q = 4 → mI M (90 + q) P = mI M (110 + q) P) → E g 1 0 0 mX6_isLike 15 [.ref 79, .ref 99, .int (nI k)] [] M Q := by
  refine lpUp n1 (fun k hk ih => ?_)
  intro he
  refine E_iload_n dX6_isLike_15 rfl ?_
  refine E_aload_n dX6_isLike_16 rfl ?_
  refine E_getIL (v := nI n1) dX6_isLike_17 kF_X6_43 kY_6 (Or.inl rfl) (l_78 hL) (k_78 hL) e1 ?_
  refine E_icmp_ge_n (tgt := 140) dX6_isLike_20 (by decide) (by omega) (by omega) (fun c_20 => ?_) (fun c_20 => ?_)
  · refine E_iconst (v := nI 1) dX6_isLike_140 (by decide) ?_
    refine E_iret dX6_isLike_141 (Or.inr ⟨rfl, by decide⟩) ?_
    obtain rfl : k = n1 := by omega
    rw [← b2i_t (P := (k = n2 ∧ ∀ P, P < k → ∀ q, q < 8 → ¬ q = 4 → mI M (90 + q) P = mI M (110 + q) P)) ⟨hn, he⟩]; exact K
  · refine E_aload_n dX6_isLike_23 rfl ?_
    refine E_getRL dX6_isLike_24 kF_X6_18 kY_6 (Or.inr ⟨_, rfl⟩) (l_78 hL) (k_78 hL) (r_78_1 hL) ?_
    refine E_iload_n dX6_isLike_27 rfl ?_
    refine E_iald dX6_isLike_28 (l_90 hL) (k_90 hL) rfl (by omega) (by decide) ?_
    refine E_aload_n dX6_isLike_29 rfl ?_
    refine E_getRL dX6_isLike_30 kF_X6_18 kY_6 (Or.inr ⟨_, rfl⟩) (l_98 hL) (k_98 hL) (r_98_1 hL) ?_
    refine E_iload_n dX6_isLike_33 rfl ?_
    refine E_iald dX6_isLike_34 (l_110 hL) (k_110 hL) rfl (by omega) (by decide) ?_
    refine E_icmp_ne_r (tgt := 53) dX6_isLike_35 (by decide) (fun c_35 => ?_) (fun c_35 => ?_)
    · refine E_iconst (v := nI 0) dX6_isLike_53 (by decide) ?_
      refine E_iret dX6_isLike_54 (Or.inr ⟨rfl, by decide⟩) ?_
      have hkn : k < n1 := by omega
      rw [← b2i_f (P := (n1 = n2 ∧ ∀ P, P < n1 → ∀ q, q < 8 → ¬ q = 4 → mI M (90 + q) P = mI M (110 + q) P)) (fun z => ?_)]
      · exact K
      · have z := z.2 k hkn
        first
          | exact c_35 (z 0 (by decide) (by decide))
          | exact c_50 (z 1 (by decide) (by decide))
          | exact c_67 (z 2 (by decide) (by decide))
          | exact c_82 (z 3 (by decide) (by decide))
          | exact c_99 (z 5 (by decide) (by decide))
          | exact c_114 (z 6 (by decide) (by decide))
          | exact c_129 (z 7 (by decide) (by decide))
    · refine E_aload_n dX6_isLike_38 rfl ?_
      refine E_getRL dX6_isLike_39 kF_X6_22 kY_6 (Or.inr ⟨_, rfl⟩) (l_78 hL) (k_78 hL) (r_78_2 hL) ?_
      refine E_iload_n dX6_isLike_42 rfl ?_
      refine E_iald dX6_isLike_43 (l_91 hL) (k_91 hL) rfl (by omega) (by decide) ?_
      refine E_aload_n dX6_isLike_44 rfl ?_
      refine E_getRL dX6_isLike_45 kF_X6_22 kY_6 (Or.inr ⟨_, rfl⟩) (l_98 hL) (k_98 hL) (r_98_2 hL) ?_
      refine E_iload_n dX6_isLike_48 rfl ?_
      refine E_iald dX6_isLike_49 (l_111 hL) (k_111 hL) rfl (by omega) (by decide) ?_
      refine E_icmp_eq (tgt := 55) dX6_isLike_50 (by decide) (fun c_50 => ?_) (fun c_50 => ?_)
      · refine E_aload_n dX6_isLike_55 rfl ?_
        refine E_getRL dX6_isLike_56 kF_X6_25 kY_6 (Or.inr ⟨_, rfl⟩) (l_78 hL) (k_78 hL) (r_78_3 hL) ?_
        refine E_iload_n dX6_isLike_59 rfl ?_
        refine E_iald dX6_isLike_60 (l_92 hL) (k_92 hL) rfl (by omega) (by decide) ?_
        refine E_aload_n dX6_isLike_61 rfl ?_
        refine E_getRL dX6_isLike_62 kF_X6_25 kY_6 (Or.inr ⟨_, rfl⟩) (l_98 hL) (k_98 hL) (r_98_3 hL) ?_
        refine E_iload_n dX6_isLike_65 rfl ?_
        refine E_iald dX6_isLike_66 (l_112 hL) (k_112 hL) rfl (by omega) (by decide) ?_
        refine E_icmp_ne_r (tgt := 85) dX6_isLike_67 (by decide) (fun c_67 => ?_) (fun c_67 => ?_)
        · refine E_iconst (v := nI 0) dX6_isLike_85 (by decide) ?_
          refine E_iret dX6_isLike_86 (Or.inr ⟨rfl, by decide⟩) ?_
          have hkn : k < n1 := by omega
          rw [← b2i_f (P := (n1 = n2 ∧ ∀ P, P < n1 → ∀ q, q < 8 → ¬ q = 4 → mI M (90 + q) P = mI M (110 + q) P)) (fun z => ?_)]
          · exact K
          · have z := z.2 k hkn
            first
              | exact c_35 (z 0 (by decide) (by decide))
              | exact c_50 (z 1 (by decide) (by decide))
              | exact c_67 (z 2 (by decide) (by decide))
              | exact c_82 (z 3 (by decide) (by decide))
              | exact c_99 (z 5 (by decide) (by decide))
              | exact c_114 (z 6 (by decide) (by decide))
              | exact c_129 (z 7 (by decide) (by decide))
        · refine E_aload_n dX6_isLike_70 rfl ?_
          refine E_getRL dX6_isLike_71 kF_X6_28 kY_6 (Or.inr ⟨_, rfl⟩) (l_78 hL) (k_78 hL) (r_78_4 hL) ?_
          refine E_iload_n dX6_isLike_74 rfl ?_
          refine E_iald dX6_isLike_75 (l_93 hL) (k_93 hL) rfl (by omega) (by decide) ?_
          refine E_aload_n dX6_isLike_76 rfl ?_
          refine E_getRL dX6_isLike_77 kF_X6_28 kY_6 (Or.inr ⟨_, rfl⟩) (l_98 hL) (k_98 hL) (r_98_4 hL) ?_
          refine E_iload_n dX6_isLike_80 rfl ?_
          refine E_iald dX6_isLike_81 (l_113 hL) (k_113 hL) rfl (by omega) (by decide) ?_
          refine E_icmp_eq (tgt := 87) dX6_isLike_82 (by decide) (fun c_82 => ?_) (fun c_82 => ?_)
          · refine E_aload_n dX6_isLike_87 rfl ?_
            refine E_getRL dX6_isLike_88 kF_X6_34 kY_6 (Or.inr ⟨_, rfl⟩) (l_78 hL) (k_78 hL) (r_78_6 hL) ?_
            refine E_iload_n dX6_isLike_91 rfl ?_
            refine E_iald dX6_isLike_92 (l_95 hL) (k_95 hL) rfl (by omega) (by decide) ?_
            refine E_aload_n dX6_isLike_93 rfl ?_
            refine E_getRL dX6_isLike_94 kF_X6_34 kY_6 (Or.inr ⟨_, rfl⟩) (l_98 hL) (k_98 hL) (r_98_6 hL) ?_
            refine E_iload_n dX6_isLike_97 rfl ?_
            refine E_iald dX6_isLike_98 (l_115 hL) (k_115 hL) rfl (by omega) (by decide) ?_
            refine E_icmp_ne_r (tgt := 132) dX6_isLike_99 (by decide) (fun c_99 => ?_) (fun c_99 => ?_)
            · refine E_iconst (v := nI 0) dX6_isLike_132 (by decide) ?_
              refine E_iret dX6_isLike_133 (Or.inr ⟨rfl, by decide⟩) ?_
              have hkn : k < n1 := by omega
              rw [← b2i_f (P := (n1 = n2 ∧ ∀ P, P < n1 → ∀ q, q < 8 → ¬ q = 4 → mI M (90 + q) P = mI M (110 + q) P)) (fun z => ?_)]
              · exact K
              · have z := z.2 k hkn
                first
                  | exact c_35 (z 0 (by decide) (by decide))
                  | exact c_50 (z 1 (by decide) (by decide))
                  | exact c_67 (z 2 (by decide) (by decide))
                  | exact c_82 (z 3 (by decide) (by decide))
                  | exact c_99 (z 5 (by decide) (by decide))
                  | exact c_114 (z 6 (by decide) (by decide))
                  | exact c_129 (z 7 (by decide) (by decide))
            · refine E_aload_n dX6_isLike_102 rfl ?_
              refine E_getRL dX6_isLike_103 kF_X6_37 kY_6 (Or.inr ⟨_, rfl⟩) (l_78 hL) (k_78 hL) (r_78_7 hL) ?_
              refine E_iload_n dX6_isLike_106 rfl ?_
              refine E_iald dX6_isLike_107 (l_96 hL) (k_96 hL) rfl (by omega) (by decide) ?_
              refine E_aload_n dX6_isLike_108 rfl ?_
              refine E_getRL dX6_isLike_109 kF_X6_37 kY_6 (Or.inr ⟨_, rfl⟩) (l_98 hL) (k_98 hL) (r_98_7 hL) ?_
              refine E_iload_n dX6_isLike_112 rfl ?_
              refine E_iald dX6_isLike_113 (l_116 hL) (k_116 hL) rfl (by omega) (by decide) ?_
              refine E_icmp_ne_r (tgt := 132) dX6_isLike_114 (by decide) (fun c_114 => ?_) (fun c_114 => ?_)
              · refine E_iconst (v := nI 0) dX6_isLike_132 (by decide) ?_
                refine E_iret dX6_isLike_133 (Or.inr ⟨rfl, by decide⟩) ?_
                have hkn : k < n1 := by omega
                rw [← b2i_f (P := (n1 = n2 ∧ ∀ P, P < n1 → ∀ q, q < 8 → ¬ q = 4 → mI M (90 + q) P = mI M (110 + q) P)) (fun z => ?_)]
                · exact K
                · have z := z.2 k hkn
                  first
                    | exact c_35 (z 0 (by decide) (by decide))
                    | exact c_50 (z 1 (by decide) (by decide))
                    | exact c_67 (z 2 (by decide) (by decide))
                    | exact c_82 (z 3 (by decide) (by decide))
                    | exact c_99 (z 5 (by decide) (by decide))
                    | exact c_114 (z 6 (by decide) (by decide))
                    | exact c_129 (z 7 (by decide) (by decide))
              · refine E_aload_n dX6_isLike_117 rfl ?_
                refine E_getRL dX6_isLike_118 kF_X6_40 kY_6 (Or.inr ⟨_, rfl⟩) (l_78 hL) (k_78 hL) (r_78_8 hL) ?_
                refine E_iload_n dX6_isLike_121 rfl ?_
                refine E_iald dX6_isLike_122 (l_97 hL) (k_97 hL) rfl (by omega) (by decide) ?_
                refine E_aload_n dX6_isLike_123 rfl ?_
                refine E_getRL dX6_isLike_124 kF_X6_40 kY_6 (Or.inr ⟨_, rfl⟩) (l_98 hL) (k_98 hL) (r_98_8 hL) ?_
                refine E_iload_n dX6_isLike_127 rfl ?_
                refine E_iald dX6_isLike_128 (l_117 hL) (k_117 hL) rfl (by omega) (by decide) ?_
                refine E_icmp_eq (tgt := 134) dX6_isLike_129 (by decide) (fun c_129 => ?_) (fun c_129 => ?_)
                · refine E_iinc_n (d := 1) dX6_isLike_134 rfl rfl rfl (by decide) rfl ?_
                  refine E_goto (tgt := 15) dX6_isLike_137 (by decide) ?_
                  refine ih (by omega) (fun P hP q hq hq4 => ?_)
                  by_cases e : P = k
                  · subst e
                    rcases (show q = 0 ∨ q = 1 ∨ q = 2 ∨ q = 3 ∨ q = 5 ∨ q = 6 ∨ q = 7 by omega) with rfl | rfl | rfl | rfl | rfl | rfl | rfl
                    · first | exact c_35 | exact Classical.not_not.mp c_35
                    · first | exact c_50 | exact Classical.not_not.mp c_50
                    · first | exact c_67 | exact Classical.not_not.mp c_67
                    · first | exact c_82 | exact Classical.not_not.mp c_82
                    · first | exact c_99 | exact Classical.not_not.mp c_99
                    · first | exact c_114 | exact Classical.not_not.mp c_114
                    · first | exact c_129 | exact Classical.not_not.mp c_129
                  · exact he P (by omega) q hq hq4
                · refine E_iconst (v := nI 0) dX6_isLike_132 (by decide) ?_
                  refine E_iret dX6_isLike_133 (Or.inr ⟨rfl, by decide⟩) ?_
                  have hkn : k < n1 := by omega
                  rw [← b2i_f (P := (n1 = n2 ∧ ∀ P, P < n1 → ∀ q, q < 8 → ¬ q = 4 → mI M (90 + q) P = mI M (110 + q) P)) (fun z => ?_)]
                  · exact K
                  · have z := z.2 k hkn
                    first
                      | exact c_35 (z 0 (by decide) (by decide))
                      | exact c_50 (z 1 (by decide) (by decide))
                      | exact c_67 (z 2 (by decide) (by decide))
                      | exact c_82 (z 3 (by decide) (by decide))
                      | exact c_99 (z 5 (by decide) (by decide))
                      | exact c_114 (z 6 (by decide) (by decide))
                      | exact c_129 (z 7 (by decide) (by decide))
          · refine E_iconst (v := nI 0) dX6_isLike_85 (by decide) ?_
            refine E_iret dX6_isLike_86 (Or.inr ⟨rfl, by decide⟩) ?_
            have hkn : k < n1 := by omega
            rw [← b2i_f (P := (n1 = n2 ∧ ∀ P, P < n1 → ∀ q, q < 8 → ¬ q = 4 → mI M (90 + q) P = mI M (110 + q) P)) (fun z => ?_)]
            · exact K
            · have z := z.2 k hkn
              first
                | exact c_35 (z 0 (by decide) (by decide))
                | exact c_50 (z 1 (by decide) (by decide))
                | exact c_67 (z 2 (by decide) (by decide))
                | exact c_82 (z 3 (by decide) (by decide))
                | exact c_99 (z 5 (by decide) (by decide))
                | exact c_114 (z 6 (by decide) (by decide))
                | exact c_129 (z 7 (by decide) (by decide))
      · refine E_iconst (v := nI 0) dX6_isLike_53 (by decide) ?_
        refine E_iret dX6_isLike_54 (Or.inr ⟨rfl, by decide⟩) ?_
        have hkn : k < n1 := by omega
        rw [← b2i_f (P := (n1 = n2 ∧ ∀ P, P < n1 → ∀ q, q < 8 → ¬ q = 4 → mI M (90 + q) P = mI M (110 + q) P)) (fun z => ?_)]
        · exact K
        · have z := z.2 k hkn
          first
            | exact c_35 (z 0 (by decide) (by decide))
            | exact c_50 (z 1 (by decide) (by decide))
            | exact c_67 (z 2 (by decide) (by decide))
            | exact c_82 (z 3 (by decide) (by decide))
            | exact c_99 (z 5 (by decide) (by decide))
            | exact c_114 (z 6 (by decide) (by decide))
            | exact c_129 (z 7 (by decide) (by decide))
set_option maxRecDepth 100000 in
set_option maxHeartbeats 4000000 in
theorem sp_X6_isLike {g : gG} {M : gM} {Q : Option Value ⊕ String → gM → Prop} (hL : gLay M) {n1 n2 : Nat} (h1 : n1 ≤ 1024) (h2 : n2 ≤ 2048) (e1 : mI M 78 9 = nI n1) (e2 : mI M 98 9 = nI n2) (K : Q (.inl (some (.int (b2i (n1 = n2 ∧ ∀ P, P < n1 → ∀ q, q < 8 → ¬ q = 4 → mI M (90 + q) P = mI M (110 + q) P))))) M) : E g 1 0 0 mX6_isLike 0 [.ref 79, .ref 99, .null] [] M Q := by
  refine E_aload_n dX6_isLike_0 rfl ?_
  refine E_getIL (v := nI n1) dX6_isLike_1 kF_X6_43 kY_6 (Or.inl rfl) (l_78 hL) (k_78 hL) e1 ?_
  refine E_aload_n dX6_isLike_4 rfl ?_
  refine E_getIL (v := nI n2) dX6_isLike_5 kF_X6_43 kY_6 (Or.inl rfl) (l_98 hL) (k_98 hL) e2 ?_
  refine E_icmp_eq_n (tgt := 13) dX6_isLike_8 (by decide) (by omega) (by omega) (fun c_8 => ?_) (fun c_8 => ?_)
  · refine E_iconst (v := nI 0) dX6_isLike_13 (by decide) ?_
    refine E_istore_n dX6_isLike_14 (Nat.le_of_ble_eq_true rfl) (by decide) rfl ?_
    exact lp_X6_isLike hL h1 h2 e1 e2 (by assumption) K 0 (Nat.zero_le _) (fun P hP => absurd hP (Nat.not_lt_zero P))
  · refine E_iconst (v := nI 0) dX6_isLike_11 (by decide) ?_
    refine E_iret dX6_isLike_12 (Or.inr ⟨rfl, by decide⟩) ?_
    rw [← b2i_f (P := (n1 = n2 ∧ ∀ P, P < n1 → ∀ q, q < 8 → ¬ q = 4 → mI M (90 + q) P = mI M (110 + q) P)) (fun z => by omega)]; exact K
theorem in1_of {p : Int32} {n : Nat} (hn : n < 2 ^ 30) : iIn p (nI 1) (nI n - nI 1) ↔ ¬ p < nI 1 ∧ p < nI n := by
  have e : (nI n - nI 1).toInt = (n : Int) - 1 := pk_sub_toInt hn (by decide)
  have e2 : (nI n).toInt = n := nI_toInt (by omega)
  unfold iIn
  rw [Int32.le_iff_toInt_le, Int32.le_iff_toInt_le, Int32.lt_iff_toInt_lt, Int32.lt_iff_toInt_lt, e, e2, show (nI 1).toInt = 1 by decide]
  omega
set_option maxRecDepth 100000 in
set_option maxHeartbeats 4000000 in
theorem sp_X11_isSafe {g : gG} {M : gM} {Q : Option Value ⊕ String → gM → Prop} (hst : (gl1 g).stackTraces = false) {c : Cf} {P π : Nat → Nat} (hS : kS c P π M) {p : Int32} (K1 : ∀ j, 1 ≤ j → j < tl c → p = nI j → ∀ M' π', kS c P π' M' → kq M M' → Q (.inl (some (.int (b2i (sfe c j))))) M') (K0 : ¬ iIn p (nI 1) (nI (tl c) - nI 1) → ∀ M' π', kS c P π' M' → kq M M' → Q (.inr "java/lang/IndexOutOfBoundsException") M') : E g 8 1 6 mX11_isSafe 0 [.ref 1, .int p, .null] [] M Q := by
  have hB := hS.1
  have hL := hB.lay
  have hf : fc0 c < 2 := hB.wf.fac
  have h16 : tl c ≤ 16 := hB.wf.tl
  have hb := in1_of (p := p) (n := tl c) (by omega)
  refine E_iload_n dX11_isSafe_0 rfl ?_
  refine E_iconst (v := nI 1) dX11_isSafe_1 (by decide) ?_
  refine E_icmp_lt (tgt := 16) dX11_isSafe_2 (by decide) (fun c_2 => ?_) (fun c_2 => ?_)
  · refine E_thI (text := "no such place") hst rfl rfl (gTW_at 628 (by decide +kernel)) dX11_isSafe_16 dX11_isSafe_19 dX11_isSafe_20 dX11_isSafe_22 dX11_isSafe_25 (by decide) (by decide) (by decide) ?_
    exact K0 (fun z => by first | exact (hb.mp z).1 (by assumption) | exact absurd (hb.mp z).2 (by assumption)) _ _ hS kq.refl
  · refine E_iload_n dX11_isSafe_5 rfl ?_
    refine E_aload_n dX11_isSafe_6 rfl ?_
    refine E_getRL dX11_isSafe_7 kF_X11_18 kY_11 (Or.inl ⟨_, rfl⟩) (l_0 hL) (k_0 hL) (r_0_1 hL) ?_
    refine E_getIL (v := nI (tl c)) dX11_isSafe_10 kF_X11_179 kY_10 (Or.inl rfl) (l_2 hL) (k_2 hL) hB.len ?_
    refine E_icmp_lt (tgt := 26) dX11_isSafe_13 (by decide) (fun c_13 => ?_) (fun c_13 => ?_)
    · obtain ⟨j, hj1, hj, rfl⟩ := (iIn1 (by omega)).mp (hb.mpr ⟨by assumption, by assumption⟩)
      refine E_room (Nat.le_refl _) (Nat.zero_le _) (Nat.zero_le _) (k' := 0) (n' := 0) ?_
      refine E_aload_n dX11_isSafe_26 rfl ?_
      refine E_callV0 (fr' := 7) (k1 := 0) (n1 := 0) (k2 := 0) (n2 := 0) dX11_isSafe_27 kO_X11_shaped kL_X11_208 (l_0 hL) (k_0 hL) ⟨by decide, rfl⟩  (by decide) (by decide) (by exact Nat.le_of_ble_eq_true rfl) rfl ?_
      refine sp_X11_shaped hS (fun M1 π1 hQ h10 hkd => ?_)
      have hB := hQ.B
      have hL := hB.lay
      have hS1 := hQ.S h10
      have hg := hQ.g1024
      refine gKv ?_
      refine E_astore_n dX11_isSafe_30 (Nat.le_of_ble_eq_true rfl) (by decide) rfl ?_
      refine E_aload_n dX11_isSafe_31 rfl ?_
      refine E_getRL dX11_isSafe_32 kF_X11_66 kY_11 (Or.inl ⟨_, rfl⟩) (l_0 hL) (k_0 hL) (r_0_8 hL) ?_
      refine E_callV0 (fr' := 1) (k1 := 0) (n1 := 0) (k2 := 0) (n2 := 0) dX11_isSafe_35 kO_X6_clear kL_X11_220 (l_98 hL) (k_98 hL) ⟨by decide, rfl⟩  (by decide) (by decide) (by exact Nat.le_of_ble_eq_true rfl) rfl ?_
      refine sp_X6_clear hL (pb := 98) (Or.inr rfl) ?_
      have hBo := hB
      have hB : kB c P (clM 98 M1) := hBo.cl (Or.inr rfl)
      have hL := hB.lay
      show gK _ _ _ _ _ _ _ _ _ _ (clM 98 M1)
      refine gKn ?_
      refine E_aload_n dX11_isSafe_38 rfl ?_
      refine E_aload_n dX11_isSafe_39 rfl ?_
      refine E_getRL dX11_isSafe_40 kF_X11_66 kY_11 (Or.inl ⟨_, rfl⟩) (l_0 hL) (k_0 hL) (r_0_8 hL) ?_
      refine E_iconst (v := nI 0) dX11_isSafe_43 (by decide) ?_
      refine E_iload_n dX11_isSafe_44 rfl ?_
      refine E_iconst (v := nI 1) dX11_isSafe_45 (by decide) ?_
      refine E_callV4 (fr' := 6) (k1 := 0) (n1 := 0) (k2 := 0) (n2 := 0) dX11_isSafe_46 kO_X11_shape kL_X11_223 (l_0 hL) (k_0 hL) ⟨by decide, rfl⟩ rfl rfl rfl rfl (by decide) (by decide) (by exact Nat.le_of_ble_eq_true rfl) rfl ?_
      refine sp_X11_shape (pb := 98) (a := 0) (b := j) (R0 := 0) (G0 := 0) (tb := 1) (left := nI 0) (Or.inr rfl) (Nat.zero_le _) (by omega) (Nat.le_refl _) (Nat.zero_le _) (Nat.le_refl _) (fun M2 π2 hB2 hr2 hF2 hV2 hW2 => ?_) hB hQ.2.1 (clM_1 98 M1) (clM_9 98 M1) (clM_10 98 M1)
      have hB := hB2
      have hL := hB2.lay
      have hnr : nr c 0 j ≤ j - 0 := (nr_b (c := c) (Nat.zero_le j) (by omega)).1
      have hgs := hW2.1
      refine gKn ?_
      refine E_aload_n dX11_isSafe_49 rfl ?_
      refine E_aload_n dX11_isSafe_50 rfl ?_
      refine E_getRL dX11_isSafe_51 kF_X11_66 kY_11 (Or.inl ⟨_, rfl⟩) (l_0 hL) (k_0 hL) (r_0_8 hL) ?_
      refine E_iload_n dX11_isSafe_54 rfl ?_
      refine E_aload_n dX11_isSafe_55 rfl ?_
      refine E_getRL dX11_isSafe_56 kF_X11_18 kY_11 (Or.inl ⟨_, rfl⟩) (l_0 hL) (k_0 hL) (r_0_1 hL) ?_
      refine E_getIL (v := nI (tl c)) dX11_isSafe_59 kF_X11_179 kY_10 (Or.inl rfl) (l_2 hL) (k_2 hL) hB.len ?_
      refine E_iconst (v := nI 1) dX11_isSafe_62 (by decide) ?_
      refine E_callV4 (fr' := 6) (k1 := 0) (n1 := 0) (k2 := 0) (n2 := 0) dX11_isSafe_63 kO_X11_shape kL_X11_223 (l_0 hL) (k_0 hL) ⟨by decide, rfl⟩ rfl rfl rfl rfl (by decide) (by decide) (by exact Nat.le_of_ble_eq_true rfl) rfl ?_
      refine sp_X11_shape (pb := 98) (a := j) (b := tl c) (R0 := nr c 0 j) (G0 := gS c 0 j (nr c 0 j)) (tb := 1) (left := lC c 0 j (nI 0) (nr c 0 j)) (Or.inr rfl) (by omega) h16 (by omega) (by omega) (Nat.le_refl _) (fun M3 π3 hB3 hr3 hF3 hV3 hW3 => ?_) hB2 hr2 (hV2.1.trans (by rw [Nat.zero_add])) (hW2.2.1.trans (by rw [Nat.zero_add])) hW2.2.2.1
      have hL := hB3.lay
      have hg3 := hW3.1
      have hnr3 : nr c j (tl c) ≤ tl c - j := (nr_b (c := c) (by omega) h16).1
      have eb : ∀ a i, 78 ≤ a → a ≤ 97 → mI M3 a i = mI M1 a i := fun a i q q2 => (hF3.bk (by unfold ksR rwR usR plR; omega)).trans ((hF2.bk (by unfold ksR rwR usR plR; omega)).trans ((clM_f 98 M1).bk (by unfold cpR; omega)))
      have hkd3 : kq M M3 := hkd.trans ((kq.of (clM_f 98 M1) (fun a j z => by unfold cpR at z; omega) (fun _ _ z => z.elim)).trans ((kq.of hF2 (fun a j z => (ksR_k (Or.inr rfl) a j z).2.1) kT_k).trans (kq.of hF3 (fun a j z => (ksR_k (Or.inr rfl) a j z).2.1) kT_k)))
      have hS3 : kS c P π3 M3 := by
        refine ⟨hB3, hr3, Or.inl ⟨?_, ?_, ?_⟩⟩
        · exact (hF3.bk (fun z => (ksR_k (Or.inr rfl) _ _ z).2.2 rfl)).trans ((hF2.bk (fun z => (ksR_k (Or.inr rfl) _ _ z).2.2 rfl)).trans (((clM_f 98 M1).bk (by unfold cpR; omega)).trans h10))
        · exact ((hQ.2.2.1.mv (clM_f 98 M1) (fun x j z => by unfold cpR at z; omega)).mv hF2 (fun x j z => by unfold ksR rwR usR plR at z; omega)).mv hF3 (fun x j z => by unfold ksR rwR usR plR at z; omega)
        · exact ((hQ.2.2.2.mv (clM_f 98 M1) (fun x j z => by unfold cpR at z; omega)).mv hF2 (fun x j z => by unfold ksR rwR usR plR at z; omega)).mv hF3 (fun x j z => by unfold ksR rwR usR plR at z; omega)
      have e1 : mI M3 78 9 = nI (ng c) := (eb 78 9 (by decide) (by decide)).trans hQ.g9
      have e2 : mI M3 98 9 = nI (sfN c j) := hW3.2.1
      have hv : ∀ P, P < sfN c j → ∀ q, q < 8 → ¬ q = 4 → mI M3 (110 + q) P = sfV c j q P := fun P hP q hq hq4 => by
        unfold sfN gEn at hP
        unfold sfV gEn
        by_cases e : P < gS c 0 j (nr c 0 j)
        · rw [cI_t e]
          have z := hW2.px (q := q) (P := P) hq hq4 e
          rw [Nat.zero_add] at z
          rw [← z]
          exact hF3.bk (by unfold ksR rwR usR plR; omega)
        · rw [cI_f e]
          have z := hW3.px (q := q) (P := P - gS c 0 j (nr c 0 j)) hq hq4 (by omega)
          rw [show gS c 0 j (nr c 0 j) + (P - gS c 0 j (nr c 0 j)) = P by omega] at z
          exact z
      have hp9 : ∀ P, P < ng c → ∀ q, q < 8 → mI M3 (90 + q) P = pgv c q P := fun P hP q hq => (eb _ _ (by omega) (by omega)).trans (hQ.pg hq hP)
      have hR : (ng c = sfN c j ∧ ∀ P, P < ng c → ∀ q, q < 8 → ¬ q = 4 → mI M3 (90 + q) P = mI M3 (110 + q) P) ↔ sfe c j := by
        constructor
        · intro ⟨z1, z2⟩
          exact ⟨z1.symm, fun P hP q hq hq4 => by rw [← hv P (by omega) q hq hq4, ← z2 P hP q hq hq4, hp9 P hP q hq]⟩
        · intro ⟨z1, z2⟩
          exact ⟨z1.symm, fun P hP q hq hq4 => by rw [hv P (by omega) q hq hq4, z2 P hP q hq hq4, hp9 P hP q hq]⟩
      refine gKn ?_
      refine E_aload_n dX11_isSafe_66 rfl ?_
      refine E_aload_n dX11_isSafe_67 rfl ?_
      refine E_getRL dX11_isSafe_68 kF_X11_66 kY_11 (Or.inl ⟨_, rfl⟩) (l_0 hL) (k_0 hL) (r_0_8 hL) ?_
      refine E_callV1 (fr' := 1) (k1 := 0) (n1 := 0) (k2 := 0) (n2 := 0) dX11_isSafe_71 kO_X6_isLike kL_X11_263 (l_78 hL) (k_78 hL) ⟨by decide, rfl⟩ rfl (by decide) (by decide) (by exact Nat.le_of_ble_eq_true rfl) rfl ?_
      refine sp_X6_isLike hL (n1 := ng c) (n2 := sfN c j) (by omega) (by unfold sfN gEn; omega) e1 e2 ?_
      refine gKv ?_
      refine E_iret dX11_isSafe_74 (Or.inr ⟨rfl, b2i_01 _⟩) ?_
      rw [b2i_congr (R := sfe c j) hR]
      exact K1 j hj1 hj rfl _ _ hS3 hkd3
    · refine E_thI (text := "no such place") hst rfl rfl (gTW_at 628 (by decide +kernel)) dX11_isSafe_16 dX11_isSafe_19 dX11_isSafe_20 dX11_isSafe_22 dX11_isSafe_25 (by decide) (by decide) (by decide) ?_
      exact K0 (fun z => by first | exact (hb.mp z).1 (by assumption) | exact absurd (hb.mp z).2 (by assumption)) _ _ hS kq.refl
