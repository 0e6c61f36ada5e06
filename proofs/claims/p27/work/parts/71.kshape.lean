/-! the class: a part of the text shaped -/
def usR (a j : Nat) : Prop := a = 73 ∧ j = 3
def usT (a j : Nat) : Prop := a = 73 ∧ j = 2
noncomputable def lC (c : Cf) (a b : Nat) (left : Int32) : Nat → Int32
  | 0 => left
  | i + 1 => lC c a b left i + wdt c a b i
noncomputable def rBl (c : Cf) (a b : Nat) (left : Int32) (i : Nat) : Pl := stB c (rfc c a b i) (rsc c a b i) (lC c a b left i) (rL c a b i)
/-- what a page holds of the first t runs -/
def pW (c : Cf) (pb a b R0 G0 : Nat) (left : Int32) (t : Nat) (M : gM) : Prop := gS c a b t ≤ 64 * t ∧ mI M pb 9 = nI (G0 + gS c a b t) ∧ mI M pb 10 = lC c a b left t ∧ ∀ r, r < t → okL (rL c a b r) ∧ pO pb (G0 + gS c a b r) (rL c a b r) (rBl c a b left r) (rL c a b r).length M ∧ mI M (pb + 8) (R0 + r) = nI (G0 + gS c a b r) ∧ mI M (pb + 9) (R0 + r) = nI (G0 + gS c a b (r + 1)) ∧ mI M (pb + 10) (R0 + r) = lC c a b left r ∧ mI M (pb + 11) (R0 + r) = wdt c a b r
/-- what a shaping changes -/
def ksR (pb G0 a j : Nat) : Prop := rwR a j ∨ usR a j ∨ plR a j ∨ (pb ≤ a ∧ a ≤ pb + 19 ∧ (pb + 12 ≤ a → G0 ≤ j))
theorem usR_k (a j : Nat) (h : usR a j) : ¬ told a j ∧ offR a := by unfold usR at h; unfold told offR; omega
theorem usT_k (a j : Nat) (h : usT a j) : kT a j ∧ ¬ a = 7 := by unfold usT at h; unfold kT; omega
theorem kgS_m {c : Cf} {a b : Nat} {r t : Nat} (h : r ≤ t) : gS c a b r ≤ gS c a b t := by
  induction t with
  | zero => rw [Nat.le_zero.mp h]; exact Nat.le_refl _
  | succ t ih =>
    by_cases e : r = t + 1
    · rw [e]; exact Nat.le_refl _
    · have := ih (by omega)
      have e2 : gS c a b (t + 1) = gS c a b t + (rL c a b t).length := rfl
      omega
theorem pV.mv {c : Cf} {pb a b R0 k : Nat} {M M' : gM} (h : pV c pb a b R0 k M) {S T : Nat → Nat → Prop} (hf : kf S T M M') (hs : ∀ x j, S x j → ¬ (x = pb + 1 ∧ j = 10) ∧ ¬ (pb + 2 ≤ x ∧ x ≤ pb + 7)) : pV c pb a b R0 k M' := by
  have e : ∀ x j, (x = pb + 1 ∧ j = 10) ∨ (pb + 2 ≤ x ∧ x ≤ pb + 7) → mI M' x j = mI M x j := fun x j q => hf.bk (fun z => by have := hs x j z; omega)
  refine ⟨(e _ _ (Or.inl ⟨rfl, rfl⟩)).trans h.1, fun r hr => ?_⟩
  have h2 := h.2 r hr
  exact ⟨(e _ _ (by omega)).trans h2.1, (e _ _ (by omega)).trans h2.2.1, (e _ _ (by omega)).trans h2.2.2.1, (e _ _ (by omega)).trans h2.2.2.2.1, fun j g1 g2 => ⟨(e _ _ (by omega)).trans (h2.2.2.2.2 j g1 g2).1, fun q => (e _ _ (by omega)).trans ((h2.2.2.2.2 j g1 g2).2 q)⟩⟩
theorem pW.mv {c : Cf} {pb a b R0 G0 t : Nat} {left : Int32} {M M' : gM} (h : pW c pb a b R0 G0 left t M) {S T : Nat → Nat → Prop} (hf : kf S T M M') (hs : ∀ x j, S x j → ¬ (x = pb ∧ (j = 9 ∨ j = 10)) ∧ ¬ (pb + 8 ≤ x ∧ x ≤ pb + 19)) : pW c pb a b R0 G0 left t M' := by
  have e : ∀ x j, (x = pb ∧ (j = 9 ∨ j = 10)) ∨ (pb + 8 ≤ x ∧ x ≤ pb + 19) → mI M' x j = mI M x j := fun x j q => hf.bk (fun z => by have := hs x j z; omega)
  refine ⟨h.1, (e _ _ (by omega)).trans h.2.1, (e _ _ (by omega)).trans h.2.2.1, fun r hr => ?_⟩
  have h2 := h.2.2.2 r hr
  exact ⟨h2.1, fun q j g1 g2 => (e _ _ (by omega)).trans (h2.2.1 q j g1 g2), (e _ _ (by omega)).trans h2.2.2.1, (e _ _ (by omega)).trans h2.2.2.2.1, (e _ _ (by omega)).trans h2.2.2.2.2.1, (e _ _ (by omega)).trans h2.2.2.2.2.2⟩
theorem pW.step {c : Cf} {pb a b R0 G0 t : Nat} {left : Int32} {M M' : gM} (h : pW c pb a b R0 G0 left t M) (hf : kf (apR pb (G0 + gS c a b t) (R0 + t)) (fun _ _ => False) M M') (hok : okL (rL c a b t)) (h9 : mI M' pb 9 = nI (G0 + gS c a b t + (rL c a b t).length)) (h10 : mI M' pb 10 = lC c a b left t + wdt c a b t) (ho : pO pb (G0 + gS c a b t) (rL c a b t) (rBl c a b left t) (rL c a b t).length M') (q1 : mI M' (pb + 8) (R0 + t) = nI (G0 + gS c a b t)) (q2 : mI M' (pb + 9) (R0 + t) = nI (G0 + gS c a b t + (rL c a b t).length)) (q3 : mI M' (pb + 10) (R0 + t) = lC c a b left t) (q4 : mI M' (pb + 11) (R0 + t) = wdt c a b t) : pW c pb a b R0 G0 left (t + 1) M' := by
  have eg : gS c a b (t + 1) = gS c a b t + (rL c a b t).length := rfl
  have hl := hok.1
  refine ⟨by have := h.1; omega, by rw [eg, ← Nat.add_assoc]; exact h9, h10, fun r hr => ?_⟩
  by_cases e : r = t
  · subst e
    exact ⟨hok, ho, q1, by rw [eg, ← Nat.add_assoc]; exact q2, q3, q4⟩
  · have h2 := h.2.2.2 r (by omega)
    have hm := kgS_m (c := c) (a := a) (b := b) (show r + 1 ≤ t by omega)
    have er : gS c a b (r + 1) = gS c a b r + (rL c a b r).length := rfl
    have e8 : ∀ x, pb + 8 ≤ x → x ≤ pb + 11 → mI M' x (R0 + r) = mI M x (R0 + r) := fun x g1 g2 => hf.bk (by unfold apR; omega)
    exact ⟨h2.1, fun q j g1 g2 => (hf.bk (by unfold apR; omega)).trans (h2.2.1 q j g1 g2), (e8 _ (by omega) (by omega)).trans h2.2.2.1, (e8 _ (by omega) (by omega)).trans h2.2.2.2.1, (e8 _ (by omega) (by omega)).trans h2.2.2.2.2.1, (e8 _ (by omega) (by omega)).trans h2.2.2.2.2.2⟩
set_option maxRecDepth 100000 in
set_option maxHeartbeats 4000000 in
theorem sp_X0_use {g : gG} {M : gM} {Q : Option Value ⊕ String → gM → Prop} (hL : gLay M) {r tb : Nat} (htb : tb ≤ 1) (K : Q (.inl none) (sI (sR M 73 2 r) 73 3 (nI tb))) : E g 1 0 0 mX0_use 0 [.ref 74, .ref r, .int (nI tb)] [] M Q := by
  refine E_aload_n dX0_use_0 rfl ?_
  refine E_aload_n dX0_use_1 rfl ?_
  refine E_putR dX0_use_2 kF_X0_15 kY_0 (Or.inl ⟨_, rfl⟩) (l_73 hL) (k_73 hL) (Or.inl rfl) ?_
  have hL := (kf.refl.wrR (S := usR) (T := usT) (M := M) (M' := M) (a := 73) (k := 2) (v := r) ⟨rfl, rfl⟩).lay (fun a j q => (usT_k a j q).1) hL
  have ht01 : nI tb = 0 ∨ nI tb = 1 := by
    rcases (show tb = 0 ∨ tb = 1 by omega) with rfl | rfl
    · exact Or.inl rfl
    · exact Or.inr rfl
  refine E_aload_n dX0_use_5 rfl ?_
  refine E_iload_n dX0_use_6 rfl ?_
  refine E_putI dX0_use_7 kF_X0_19 kY_0 (Or.inr ⟨rfl, ht01⟩) (l_73 hL) (k_73 hL) (Or.inl rfl) ?_
  refine E_vret dX0_use_10 rfl ?_
  exact K
set_option maxRecDepth 100000 in
set_option maxHeartbeats 4000000 in
theorem lp_stg {g : gG} {Q : Option Value ⊕ String → gM → Prop} {c : Cf} {P : Nat → Nat} {pb a b R0 x tb f s : Nat} (hf : f < 2) (htb : tb ≤ 1) (hs : s ≤ 1) {M1 : gM} (hF0 : mR M1 73 2 = fb f + 1) (hT0 : mI M1 73 3 = nI tb) {R : List Gl} (K : ∀ M π v11, cX c P M1 R π M → E g 6 0 0 mX11_shape 155 [.ref 1, .ref (pb + 1), .int (nI a), .int (nI b), .int (nI tb), .ref (pb + 1 + 1), .int (nI R0), .int (nI x), .ref (fb f + 1), .int (nI s), .int (nI (cN c 129 f)), v11] [] M Q) : ∀ i, i ≤ cN c 129 f → ∀ (L : List Gl) π M v11, cX c P M1 L π M → stg c f s (cN c 129 f - i) (12 * f + i) L = R → E g 6 0 0 mX11_shape 99 [.ref 1, .ref (pb + 1), .int (nI a), .int (nI b), .int (nI tb), .ref (pb + 1 + 1), .int (nI R0), .int (nI x), .ref (fb f + 1), .int (nI s), .int (nI i), v11] [] M Q := by
  refine lpUp (cN c 129 f) (fun i hi ih => ?_)
  intro L π M v11 hc hR
  have hB := hc.B
  have hL := hB.lay
  have hn := hc.len
  have hB1 : kB c P M1 := hc.1
  have hctb := hB.wf.ct f
  have stp : i < cN c 129 f → ∀ M π v11, cX c P M1 (stS c f s (12 * f + i) L) π M → E g 6 0 0 mX11_shape 99 [.ref 1, .ref (pb + 1), .int (nI a), .int (nI b), .int (nI tb), .ref (pb + 1 + 1), .int (nI R0), .int (nI x), .ref (fb f + 1), .int (nI s), .int (nI (i + 1)), v11] [] M Q := fun hic M π v11 hc => by
    refine ih hic _ π M v11 hc ?_
    rw [← hR, show cN c 129 f - i = (cN c 129 f - (i + 1)) + 1 by omega]
    rfl
  refine E_iload dX11_shape_99 rfl ?_
  refine E_aload dX11_shape_101 rfl ?_
  refine E_getIL (v := nI (cN _ 129 _)) dX11_shape_103 kF_X11_98 kY_1 (Or.inl rfl) (hB.flt0 hf) (hB.fk0 hf) (hB.fcnt hf) ?_
  refine E_icmp_ge_n (tgt := 155) dX11_shape_106 (by decide) (by omega) (by omega) (fun c_106 => ?_) (fun c_106 => ?_)
  · obtain rfl : i = cN c 129 f := by omega
    rw [Nat.sub_self] at hR
    have hR : L = R := hR
    rw [hR] at hc
    exact K _ _ _ hc
  · refine E_aload dX11_shape_109 rfl ?_
    refine E_iload dX11_shape_111 rfl ?_
    refine E_callV1 (fr' := 1) (k1 := 0) (n1 := 0) (k2 := 0) (n2 := 0) dX11_shape_113 kO_X1_lookupAt kL_X11_115 (hB.flt0 hf) (hB.fk0 hf) ⟨by decide, rfl⟩ rfl (by decide) (by decide) (by exact Nat.le_of_ble_eq_true rfl) rfl ?_
    refine sp_X1_lookupAt hB hf (fun j hj he => ?_) (fun hno => ?_)
    · have hij : j = i := ((nI_eq (by omega) (by omega)).mp he).symm
      subst hij
      have hk0 := hB1.kl hf hj
      have hk2 := hc.lk hk0
      have hfl : (12 * f + j) / 12 = f := by omega
      refine gKv ?_
      refine E_astore dX11_shape_116 (Nat.le_of_ble_eq_true rfl) (by decide) rfl ?_
      refine E_aload dX11_shape_118 rfl ?_
      refine E_ifnull (tgt := 149) dX11_shape_120 (by decide) (fun c_120 => ?_) (fun c_120 => ?_)
      · exfalso; omega
      · refine E_aload dX11_shape_123 rfl ?_
        refine E_iload dX11_shape_125 rfl ?_
        refine E_aload_n dX11_shape_127 rfl ?_
        refine E_getRL dX11_shape_128 kF_X11_18 kY_11 (Or.inl ⟨_, rfl⟩) (l_0 hL) (k_0 hL) (r_0_1 hL) ?_
        refine E_getIL (v := nI (cN _ 128 17)) dX11_shape_131 kF_X11_197 kY_10 (Or.inl rfl) (l_2 hL) (k_2 hL) hB.tng ?_
        refine E_callV2 (fr' := 2) (k1 := 0) (n1 := 0) (k2 := 0) (n2 := 0) dX11_shape_134 kO_X4_isDue kL_X11_298 (hk2.lt0) (hk2.kd) ⟨by decide, rfl⟩ rfl rfl (by decide) (by decide) (by exact Nat.le_of_ble_eq_true rfl) rfl ?_
        refine sp_X4_isDue hB hk2 hs ?_
        refine gKv ?_
        refine E_if_eq_b (tgt := 149) dX11_shape_137 (by decide) (fun c_137 => ?_) (fun c_137 => ?_)
        · first
            | (refine E_iinc_n (d := 1) dX11_shape_149 rfl rfl rfl (by decide) rfl ?_
               refine E_goto (tgt := 99) dX11_shape_152 (by decide) ?_
               exact stp hj _ _ _ hc)
            | (have e : stS c f s (12 * f + j) L = L := cI_f (by assumption)
               refine E_iinc_n (d := 1) dX11_shape_149 rfl rfl rfl (by decide) rfl ?_
               refine E_goto (tgt := 99) dX11_shape_152 (by decide) ?_
               exact stp hj _ _ _ (by rw [e]; exact hc))
        · refine E_aload_n dX11_shape_140 rfl ?_
          refine E_getRL dX11_shape_141 kF_X11_41 kY_11 (Or.inl ⟨_, rfl⟩) (l_0 hL) (k_0 hL) (r_0_4 hL) ?_
          refine E_aload dX11_shape_144 rfl ?_
          refine E_callV1 (fr' := 5) (k1 := 0) (n1 := 0) (k2 := 0) (n2 := 0) dX11_shape_146 kO_X0_go kL_X11_302 (l_73 hL) (k_73 hL) ⟨by decide, rfl⟩ rfl (by decide) (by decide) (by exact Nat.le_of_ble_eq_true rfl) rfl ?_
          have hd : due c (12 * f + j) s := by assumption
          refine sp_X0_go hc hf hF0 hT0 htb hk0 hfl hd.1 (fun M π hc => ?_)
          have hL := hc.B.lay
          have e : stS c f s (12 * f + j) L = _ := cI_t hd
          rw [← e] at hc
          refine gKn ?_
          first
            | (refine E_iinc_n (d := 1) dX11_shape_149 rfl rfl rfl (by decide) rfl ?_
               refine E_goto (tgt := 99) dX11_shape_152 (by decide) ?_
               exact stp hj _ _ _ hc)
            | (have e : stS c f s (12 * f + j) L = L := cI_f (by assumption)
               refine E_iinc_n (d := 1) dX11_shape_149 rfl rfl rfl (by decide) rfl ?_
               refine E_goto (tgt := 99) dX11_shape_152 (by decide) ?_
               exact stp hj _ _ _ (by rw [e]; exact hc))
    · have hxx : i < cN c 129 f := by omega
      refine gKv ?_
      refine E_astore dX11_shape_116 (Nat.le_of_ble_eq_true rfl) (by decide) rfl ?_
      refine E_aload dX11_shape_118 rfl ?_
      refine E_ifnull (tgt := 149) dX11_shape_120 (by decide) (fun c_120 => ?_) (fun c_120 => ?_)
      · exact absurd ((iBel_iff (by omega)).mpr ⟨i, hxx, rfl⟩) hno
      · exfalso; omega
theorem usKf {M : gM} {r : Nat} {v : Int32} : kf usR usT M (sI (sR M 73 2 r) 73 3 v) := (kf.refl.wrR ⟨rfl, rfl⟩).wr ⟨rfl, rfl⟩
theorem ks_rw {pb G0 a j : Nat} (h : rwR a j) : ksR pb G0 a j := Or.inl h
theorem ks_us {pb G0 a j : Nat} (h : usR a j) : ksR pb G0 a j := Or.inr (Or.inl h)
theorem ks_pl {pb G0 a j : Nat} (h : plR a j) : ksR pb G0 a j := Or.inr (Or.inr (Or.inl h))
theorem ks_ap {pb G0 G r a j : Nat} (hG : G0 ≤ G) (h : apR pb G r a j) : ksR pb G0 a j := Or.inr (Or.inr (Or.inr (by unfold apR at h; omega)))
theorem kT_rw (a j : Nat) (h : rwT a j) : kT a j := Or.inl h
theorem kT_us (a j : Nat) (h : usT a j) : kT a j := (usT_k a j h).1
theorem kT_pl (a j : Nat) (h : plT a j) : kT a j := by unfold plT at h; unfold kT; omega
theorem sepR {pb : Nat} (hp : pb = 78 ∨ pb = 98) {a j : Nat} (h : rwR a j ∨ usR a j ∨ plR a j) : ¬ (pb ≤ a ∧ a ≤ pb + 19) := by
  rcases h with h | h | h
  · unfold rwR at h; omega
  · unfold usR at h; omega
  · unfold plR at h; omega
set_option maxRecDepth 100000 in
set_option maxHeartbeats 4000000 in
theorem t_run {g : gG} {Q : Option Value ⊕ String → gM → Prop} {c : Cf} {P : Nat → Nat} {pb a b R0 G0 tb : Nat} {left : Int32} (hp : pb = 78 ∨ pb = 98) (hab : a ≤ b) (hb : b ≤ 16) (hR : R0 ≤ a) (hG : G0 ≤ 64 * a) (htb : tb ≤ 1) {t f : Nat} (ht : t < nr c a b) (hf : f < 2) (hff : rfc c a b t = f) {M : gM} {π : Nat → Nat} (hB : kB c P M) (hr : rK π M) (hv : pV c pb a b R0 b M) (hw : pW c pb a b R0 G0 left t M) (K : ∀ M' π' v8 v9 v10 v11, kB c P M' → rK π' M' → kf (ksR pb G0) kT M M' → pV c pb a b R0 b M' → pW c pb a b R0 G0 left (t + 1) M' → E g 6 0 0 mX11_shape 28 [.ref 1, .ref (pb + 1), .int (nI a), .int (nI b), .int (nI tb), .ref (pb + 1 + 1), .int (nI R0), .int (nI (R0 + (t + 1))), v8, v9, v10, v11] [] M' Q) : ∀ v9 v10 v11, E g 6 0 0 mX11_shape 61 [.ref 1, .ref (pb + 1), .int (nI a), .int (nI b), .int (nI tb), .ref (pb + 1 + 1), .int (nI R0), .int (nI (R0 + t)), .ref (fb f + 1), v9, v10, v11] [] M Q := by
  intro v9 v10 v11
  have hL := hB.lay
  have hN := nr_b (c := c) hab hb
  have hrn := hv.2 t ht
  have hr1 := rn_b (c := c) hab t (by omega)
  have hr2 := rn_b (c := c) hab (t + 1) (by omega)
  have hrm := rn_m (c := c) hab (show t ≤ t + 1 by omega) (by omega)
  have hsb : rsc c a b t ≤ 1 := scr_b _ _ _ _
  have hS : mI M (pb + 4) (R0 + t) = nI (rsc c a b t) := hrn.2.2.1
  have hgs := hw.1
  have fin : ∀ M2 M' π', kf (ksR pb G0) kT M M2 → kf (fun a j => rwR a j ∨ usR a j ∨ plR a j) kT M M2 → cX c P M2 (r3 c f (rsc c a b t) (rn c a b t) (rn c a b (t + 1))) π' M' → ∀ v9 v10 v11, E g 6 0 0 mX11_shape 184 [.ref 1, .ref (pb + 1), .int (nI a), .int (nI b), .int (nI tb), .ref (pb + 1 + 1), .int (nI R0), .int (nI (R0 + t)), .ref (fb f + 1), v9, v10, v11] [] M' Q := by
    intro M2 M' π' hk1 hk2 hc v9 v10 v11
    have hB := hc.B
    have hL := hB.lay
    refine E_aload_n dX11_shape_184 rfl ?_
    refine E_getRL dX11_shape_185 kF_X11_25 kY_11 (Or.inl ⟨_, rfl⟩) (l_0 hL) (k_0 hL) (r_0_2 hL) ?_
    refine E_callV0 (fr' := 2) (k1 := 0) (n1 := 0) (k2 := 0) (n2 := 0) dX11_shape_188 kO_X8_dropJoiners kL_X11_311 (l_6 hL) (k_6 hL) ⟨by decide, rfl⟩  (by decide) (by decide) (by exact Nat.le_of_ble_eq_true rfl) rfl ?_
    refine sp_X8_dropJoiners hc (fun M3 π3 hc => ?_)
    have hc : cX c P M2 (r4 c f (rsc c a b t) (rn c a b t) (rn c a b (t + 1))) π3 M3 := hc
    have hB := hc.B
    have hL := hB.lay
    refine gKn ?_
    refine E_aload_n dX11_shape_191 rfl ?_
    refine E_getRL dX11_shape_192 kF_X11_48 kY_11 (Or.inl ⟨_, rfl⟩) (l_0 hL) (k_0 hL) (r_0_5 hL) ?_
    refine E_aload dX11_shape_195 rfl ?_
    refine E_aload_n dX11_shape_197 rfl ?_
    refine E_getRL dX11_shape_198 kF_X11_18 kY_11 (Or.inl ⟨_, rfl⟩) (l_0 hL) (k_0 hL) (r_0_1 hL) ?_
    refine E_getIL (v := nI (cN _ 128 17)) dX11_shape_201 kF_X11_197 kY_10 (Or.inl rfl) (l_2 hL) (k_2 hL) hB.tng ?_
    refine E_iload dX11_shape_204 rfl ?_
    refine E_callV3 (fr' := 5) (k1 := 0) (n1 := 0) (k2 := 0) (n2 := 0) dX11_shape_206 kO_X7_set kL_X11_314 (l_75 hL) (k_75 hL) ⟨by decide, rfl⟩ rfl rfl rfl (by decide) (by decide) (by exact Nat.le_of_ble_eq_true rfl) rfl ?_
    refine sp_X7_set hc hf htb (fun M4 M5 hk4 hq => ?_)
    have hk3 : kf (fun a j => rwR a j ∨ usR a j ∨ plR a j) kT M M3 := hk2.trans (hc.fr.mono (fun _ _ q => Or.inl q) kT_rw)
    have hk4 : kf (fun a j => rwR a j ∨ usR a j ∨ plR a j) kT M M4 := hk3.trans (hk4.mono (fun _ _ q => Or.inr (Or.inr q)) kT_pl)
    have hk5 : kf (fun a j => rwR a j ∨ usR a j ∨ plR a j) kT M M5 := hk4.trans (hq.1.fr.mono (fun _ _ q => Or.inl q) kT_rw)
    have hB := hq.1.B
    have hL := hB.lay
    have eL : r4 c f (rsc c a b t) (rn c a b t) (rn c a b (t + 1)) = rL c a b t := by rw [← hff]; rfl
    rw [eL] at hq
    have h10 : mI M5 pb 10 = lC c a b left t := (hk5.bk (fun z => sepR hp z (by omega))).trans hw.2.2.1
    have h9 : mI M5 pb 9 = nI (G0 + gS c a b t) := (hk5.bk (fun z => sepR hp z (by omega))).trans hw.2.1
    have hS5 : mI M5 (pb + 4) (R0 + t) = nI (rsc c a b t) := (hk5.bk (fun z => sepR hp z (by omega))).trans hS
    have hok := hq.1.ok
    have hlen := hok.1
    have stl : ∀ jn, jn ≤ 1 → jn = jnO (rsc c a b t) → ∀ v9 v10 v11, E g 6 0 0 mX11_shape 233 [.ref 1, .ref (pb + 1), .int (nI a), .int (nI b), .int (nI tb), .ref (pb + 1 + 1), .int (nI R0), .int (nI (R0 + t)), .ref (fb f + 1), v9, v10, v11] [.int (nI jn), .int (lC c a b left t), .ref 76] M5 Q := by
      intro jn hjn ej v9 v10 v11
      refine E_callV2 (fr' := 1) (k1 := 0) (n1 := 0) (k2 := 0) (n2 := 0) dX11_shape_233 kO_X7_settle kL_X11_321 (l_75 hL) (k_75 hL) ⟨by decide, rfl⟩ rfl rfl (by decide) (by decide) (by exact Nat.le_of_ble_eq_true rfl) rfl ?_
      refine sp_X7_settle hq hjn (onK_plc c f _ _) (fun M6 hq hx => ?_)
      rw [ej] at hq hx
      have eB : std (jnO (rsc c a b t)) (lC c a b left t) (smA (plc c f (rL c a b t)) (rL c a b t).length) (rL c a b t).length (plc c f (rL c a b t)) = rBl c a b left t := by rw [← hff]; rfl
      have eW : smA (rBl c a b left t) (rL c a b t).length = wdt c a b t := by rw [← eB]; refine (smA_std _ _).trans ?_; rw [← hff]; rfl
      rw [eB] at hq hx
      have hs := hq.S hx
      have hk6 : kf (fun a j => rwR a j ∨ usR a j ∨ plR a j) kT M M6 := hk4.trans (hq.1.fr.mono (fun _ _ q => Or.inl q) kT_rw)
      have hL := hq.1.B.lay
      refine gKn ?_
      refine E_aload_n dX11_shape_236 rfl ?_
      refine E_aload_n dX11_shape_237 rfl ?_
      refine E_getRL dX11_shape_238 kF_X11_25 kY_11 (Or.inl ⟨_, rfl⟩) (l_0 hL) (k_0 hL) (r_0_2 hL) ?_
      refine E_iload dX11_shape_241 rfl ?_
      refine E_callV2 (fr' := 1) (k1 := 0) (n1 := 0) (k2 := 0) (n2 := 0) dX11_shape_243 kO_X6_append kL_X11_325 (pg_lt0 hL hp) (pg_k0 hL hp) ⟨by decide, rfl⟩ rfl rfl (by decide) (by decide) (by exact Nat.le_of_ble_eq_true rfl) rfl ?_
      have h10 : mI M6 pb 10 = lC c a b left t := (hk6.bk (fun z => sepR hp z (by omega))).trans hw.2.2.1
      have h9 : mI M6 pb 9 = nI (G0 + gS c a b t) := (hk6.bk (fun z => sepR hp z (by omega))).trans hw.2.1
      refine sp_X6_append hp (G := G0 + gS c a b t) (r := R0 + t) (left := lC c a b left t) (by omega) (by omega) (fun M7 hs hka k9 k10 ho q1 q2 q3 q4 => ?_) hs h9 h10
      have hc7 := hs.1.1
      have hL := hc7.B.lay
      rw [eW] at k10 q4
      have hk7 : kf (ksR pb G0) kT M M7 := (hk6.mono (fun a j q => q.elim ks_rw (fun q => q.elim ks_us ks_pl)) (fun _ _ q => q)).trans (hka.mono (fun a j q => ks_ap (by omega) q) (fun _ _ q => q.elim))
      have hv6 := (hv.mv hk6 (fun x j z => by have := sepR hp z; omega)).mv hka (fun x j z => by unfold apR at z; omega)
      have hw6 := hw.mv hk6 (fun x j z => by have := sepR hp z; omega)
      have hw7 := hw6.step hka hok k9 k10 ho q1 q2 q3 q4
      refine gKn ?_
      refine E_iinc_n (d := 1) dX11_shape_246 rfl rfl rfl (by decide) rfl ?_
      refine E_goto (tgt := 28) dX11_shape_249 (by decide) ?_
      exact K _ _ _ _ _ _ hc7.B hc7.rK hk7 hv6 hw7
    refine gKn ?_
    refine E_aload_n dX11_shape_209 rfl ?_
    refine E_getRL dX11_shape_210 kF_X11_48 kY_11 (Or.inl ⟨_, rfl⟩) (l_0 hL) (k_0 hL) (r_0_5 hL) ?_
    refine E_aload_n dX11_shape_213 rfl ?_
    refine E_getIL (v := lC c a b left t) dX11_shape_214 kF_X11_318 kY_6 (Or.inl rfl) (pg_lt0 hL hp) (pg_k0 hL hp) h10 ?_
    refine E_aload dX11_shape_217 rfl ?_
    refine E_getRL dX11_shape_219 kF_X11_305 kY_9 (Or.inr ⟨_, rfl⟩) (pg_lt hL hp (i := 1) (by decide)) (pg_k1 hL hp) (pg_ru hL hp (i := 2) (by decide)) ?_
    refine E_iload dX11_shape_222 rfl ?_
    refine E_zaldL (v := nI (rsc c a b t)) dX11_shape_224 (pg_lt hL hp (i := 4) (by decide)) (pg_kz hL hp) rfl (by omega) (by decide) hS5 ?_
    refine E_if_ne_n (tgt := 232) dX11_shape_225 (by decide) (by omega) (fun c_225 => ?_) (fun c_225 => ?_)
    · refine E_iconst (v := nI 0) dX11_shape_232 (by decide) ?_
      first
        | exact stl 1 (by decide) (cI_t (by omega)).symm _ _ _
        | exact stl 0 (by decide) (cI_f (by omega)).symm _ _ _
    · refine E_iconst (v := nI 1) dX11_shape_228 (by decide) ?_
      refine E_goto (tgt := 233) dX11_shape_229 (by decide) ?_
      first
        | exact stl 1 (by decide) (cI_t (by omega)).symm _ _ _
        | exact stl 0 (by decide) (cI_f (by omega)).symm _ _ _
  refine E_aload_n dX11_shape_61 rfl ?_
  refine E_getRL dX11_shape_62 kF_X11_34 kY_11 (Or.inl ⟨_, rfl⟩) (l_0 hL) (k_0 hL) (r_0_3 hL) ?_
  refine E_aload_n dX11_shape_65 rfl ?_
  refine E_getRL dX11_shape_66 kF_X11_18 kY_11 (Or.inl ⟨_, rfl⟩) (l_0 hL) (k_0 hL) (r_0_1 hL) ?_
  refine E_aload dX11_shape_69 rfl ?_
  refine E_iload dX11_shape_71 rfl ?_
  refine E_callV3 (fr' := 5) (k1 := 0) (n1 := 0) (k2 := 0) (n2 := 0) dX11_shape_73 kO_X5_begin kL_X11_290 (l_72 hL) (k_72 hL) ⟨by decide, rfl⟩ rfl rfl rfl (by decide) (by decide) (by exact Nat.le_of_ble_eq_true rfl) rfl ?_
  refine sp_X5_begin hB hp hr (q := R0 + t) (by omega) hrn.1 hrn.2.1 hrn.2.2.1 hsb hrm (by omega) (fun j q1 q2 => (hrn.2.2.2.2 j q1 q2).2 (by omega)) (fun M1 π1 hc => ?_)
  have hk1 := hc.fr
  have hL := hc.B.lay
  refine gKn ?_
  refine E_aload_n dX11_shape_76 rfl ?_
  refine E_getRL dX11_shape_77 kF_X11_41 kY_11 (Or.inl ⟨_, rfl⟩) (l_0 hL) (k_0 hL) (r_0_4 hL) ?_
  refine E_aload dX11_shape_80 rfl ?_
  refine E_iload dX11_shape_82 rfl ?_
  refine E_callV2 (fr' := 1) (k1 := 0) (n1 := 0) (k2 := 0) (n2 := 0) dX11_shape_84 kO_X0_use kL_X11_294 (l_73 hL) (k_73 hL) ⟨by decide, rfl⟩ rfl rfl (by decide) (by decide) (by exact Nat.le_of_ble_eq_true rfl) rfl ?_
  refine sp_X0_use hL htb ?_
  have hk2 : kf usR usT M1 (sI (sR M1 73 2 (fb f + 1)) 73 3 (nI tb)) := usKf
  have hc := hc.rb hk2 usR_k usT_k
  have hkA : kf (fun a j => rwR a j ∨ usR a j ∨ plR a j) kT M (sI (sR M1 73 2 (fb f + 1)) 73 3 (nI tb)) := (hk1.mono (fun _ _ q => Or.inl q) kT_rw).trans (hk2.mono (fun _ _ q => Or.inr (Or.inl q)) kT_us)
  have hkB : kf (ksR pb G0) kT M (sI (sR M1 73 2 (fb f + 1)) 73 3 (nI tb)) := hkA.mono (fun a j q => q.elim ks_rw (fun q => q.elim ks_us ks_pl)) (fun _ _ q => q)
  have hF0 : mR (sI (sR M1 73 2 (fb f + 1)) 73 3 (nI tb)) 73 2 = fb f + 1 := by
    show mR (sR M1 73 2 (fb f + 1)) 73 2 = fb f + 1
    rw [mR_sR, if_pos ⟨rfl, rfl⟩]
  have hT0 : mI (sI (sR M1 73 2 (fb f + 1)) 73 3 (nI tb)) 73 3 = nI tb := mI_eq
  have hSA : mI (sI (sR M1 73 2 (fb f + 1)) 73 3 (nI tb)) (pb + 4) (R0 + t) = nI (rsc c a b t) := (hkA.bk (fun z => sepR hp z (by omega))).trans hS
  generalize sI (sR M1 73 2 (fb f + 1)) 73 3 (nI tb) = M2 at *
  have hL := hc.B.lay
  have two : ∀ M π v10 v11, cX c P M2 (r2 c f (rsc c a b t) (rn c a b t) (rn c a b (t + 1))) π M → E g 6 0 0 mX11_shape 178 [.ref 1, .ref (pb + 1), .int (nI a), .int (nI b), .int (nI tb), .ref (pb + 1 + 1), .int (nI R0), .int (nI (R0 + t)), .ref (fb f + 1), .int (nI 0), v10, v11] [] M Q := by
    intro M π v10 v11 hc
    have hB := hc.B
    have hL := hB.lay
    refine E_iinc_n (d := 1) dX11_shape_178 rfl rfl rfl (by decide) rfl ?_
    refine E_goto (tgt := 90) dX11_shape_181 (by decide) ?_
    refine E_iload dX11_shape_90 rfl ?_
    refine E_iconst (v := nI 1) dX11_shape_92 (by decide) ?_
    refine E_icmp_gt (tgt := 184) dX11_shape_93 (by decide) (fun c0 => absurd c0 (by decide)) (fun _ => ?_)
    refine E_iconst (v := nI 0) dX11_shape_96 (by decide) ?_
    refine E_istore dX11_shape_97 (Nat.le_of_ble_eq_true rfl) (by decide) rfl ?_
    refine lp_stg (s := 1) hf htb (by decide) hF0 hT0 (R := r3 c f (rsc c a b t) (rn c a b t) (rn c a b (t + 1))) (fun M π v11 hc => ?_) 0 (Nat.zero_le _) _ π M _ hc rfl
    have hB := hc.B
    have hL := hB.lay
    refine E_iload dX11_shape_155 rfl ?_
    refine E_if_ne (tgt := 178) dX11_shape_157 (by decide) (fun _ => ?_) (fun c0 => absurd (by decide) c0)
    refine E_iinc_n (d := 1) dX11_shape_178 rfl rfl rfl (by decide) rfl ?_
    refine E_goto (tgt := 90) dX11_shape_181 (by decide) ?_
    refine E_iload dX11_shape_90 rfl ?_
    refine E_iconst (v := nI 1) dX11_shape_92 (by decide) ?_
    refine E_icmp_gt (tgt := 184) dX11_shape_93 (by decide) (fun _ => ?_) (fun c0 => absurd (by decide) c0)
    exact fin M2 _ π hkB hkA hc _ _ _
  refine gKn ?_
  refine E_iconst (v := nI 0) dX11_shape_87 (by decide) ?_
  refine E_istore dX11_shape_88 (Nat.le_of_ble_eq_true rfl) (by decide) rfl ?_
  refine E_iload dX11_shape_90 rfl ?_
  refine E_iconst (v := nI 1) dX11_shape_92 (by decide) ?_
  refine E_icmp_gt (tgt := 184) dX11_shape_93 (by decide) (fun c0 => absurd c0 (by decide)) (fun _ => ?_)
  refine E_iconst (v := nI 0) dX11_shape_96 (by decide) ?_
  refine E_istore dX11_shape_97 (Nat.le_of_ble_eq_true rfl) (by decide) rfl ?_
  refine lp_stg (s := 0) hf htb (by decide) hF0 hT0 (R := r1 c f (rsc c a b t) (rn c a b t) (rn c a b (t + 1))) (fun M π v11 hc => ?_) 0 (Nat.zero_le _) _ π1 M2 _ hc rfl
  have hB := hc.B
  have hL := hB.lay
  have hSx : mI M (pb + 4) (R0 + t) = nI (rsc c a b t) := (hc.fr.bk (fun z => sepR hp (Or.inl z) (by omega))).trans hSA
  refine E_iload dX11_shape_155 rfl ?_
  refine E_if_ne (tgt := 178) dX11_shape_157 (by decide) (fun c0 => absurd c0 (by decide)) (fun _ => ?_)
  refine E_aload dX11_shape_160 rfl ?_
  refine E_getRL dX11_shape_162 kF_X11_305 kY_9 (Or.inr ⟨_, rfl⟩) (pg_lt hL hp (i := 1) (by decide)) (pg_k1 hL hp) (pg_ru hL hp (i := 2) (by decide)) ?_
  refine E_iload dX11_shape_165 rfl ?_
  refine E_zaldL (v := nI (rsc c a b t)) dX11_shape_167 (pg_lt hL hp (i := 4) (by decide)) (pg_kz hL hp) rfl (by omega) (by decide) hSx ?_
  refine E_if_eq_n (tgt := 178) dX11_shape_168 (by decide) (by omega) (fun c_168 => ?_) (fun c_168 => ?_)
  · refine two _ π _ _ ?_
    unfold r2
    first
      | (rw [cI_t (by omega)]; exact hc)
      | (rw [cI_f (by omega)]; exact hc)
  · refine E_aload_n dX11_shape_171 rfl ?_
    refine E_getRL dX11_shape_172 kF_X11_34 kY_11 (Or.inl ⟨_, rfl⟩) (l_0 hL) (k_0 hL) (r_0_3 hL) ?_
    refine E_callV0 (fr' := 3) (k1 := 0) (n1 := 0) (k2 := 0) (n2 := 0) dX11_shape_175 kO_X5_setBack kL_X11_308 (l_72 hL) (k_72 hL) ⟨by decide, rfl⟩  (by decide) (by decide) (by exact Nat.le_of_ble_eq_true rfl) rfl ?_
    refine sp_X5_setBack hc (fun M π hc => ?_)
    have hL := hc.B.lay
    refine gKn ?_
    refine two _ π _ _ ?_
    unfold r2
    first
      | (rw [cI_t (by omega)]; exact hc)
      | (rw [cI_f (by omega)]; exact hc)
set_option maxRecDepth 100000 in
set_option maxHeartbeats 4000000 in
theorem lp_X11_shape {g : gG} {Q : Option Value ⊕ String → gM → Prop} {c : Cf} {P : Nat → Nat} {pb a b R0 G0 tb : Nat} {left : Int32} (hp : pb = 78 ∨ pb = 98) (hab : a ≤ b) (hb : b ≤ 16) (hR : R0 ≤ a) (hG : G0 ≤ 64 * a) (htb : tb ≤ 1) {Mb : gM} (K : ∀ M' π', kB c P M' → rK π' M' → kf (ksR pb G0) kT Mb M' → pV c pb a b R0 b M' → pW c pb a b R0 G0 left (nr c a b) M' → Q (.inl none) M') : ∀ t, t ≤ nr c a b → ∀ M π v8 v9 v10 v11, kB c P M → rK π M → kf (ksR pb G0) kT Mb M → pV c pb a b R0 b M → pW c pb a b R0 G0 left t M → E g 6 0 0 mX11_shape 28 [.ref 1, .ref (pb + 1), .int (nI a), .int (nI b), .int (nI tb), .ref (pb + 1 + 1), .int (nI R0), .int (nI (R0 + t)), v8, v9, v10, v11] [] M Q := by
  refine lpUp (nr c a b) (fun t ht ih => ?_)
  intro M π v8 v9 v10 v11 hB hr hkf hv hw
  have hL := hB.lay
  have hN := nr_b (c := c) hab hb
  refine E_iload dX11_shape_28 rfl ?_
  refine E_aload dX11_shape_30 rfl ?_
  refine E_getIL (v := nI (R0 + nr c a b)) dX11_shape_32 kF_X11_283 kY_9 (Or.inl rfl) (pg_lt hL hp (i := 1) (by decide)) (pg_k1 hL hp) hv.1 ?_
  refine E_icmp_ge_n (tgt := 252) dX11_shape_35 (by decide) (by omega) (by omega) (fun c_35 => ?_) (fun c_35 => ?_)
  · refine E_vret dX11_shape_252 rfl ?_
    obtain rfl : t = nr c a b := by omega
    exact K M π hB hr hkf hv hw
  · have htl : t < nr c a b := by omega
    have hrn := hv.2 t htl
    have hfb := fcO_b hB.wf (rn c a b t)
    have hR16 : R0 + t < 16 := by have := rn_b (c := c) hab t (by omega); omega
    have go := fun f (hf : f < 2) (hff : rfc c a b t = f) => t_run (g := g) (Q := Q) hp hab hb hR hG htb htl hf hff hB hr hv hw (fun M' π' v8 v9 v10 v11 hB hr hk hv hw => ih htl M' π' v8 v9 v10 v11 hB hr (hkf.trans hk) hv hw)
    refine E_aload_n dX11_shape_38 rfl ?_
    refine E_getRL dX11_shape_39 kF_X11_11 kY_11 (Or.inr ⟨_, rfl⟩) (l_0 hL) (k_0 hL) (r_0_0 hL) ?_
    refine E_aload dX11_shape_42 rfl ?_
    refine E_getRL dX11_shape_44 kF_X11_288 kY_9 (Or.inr ⟨_, rfl⟩) (pg_lt hL hp (i := 1) (by decide)) (pg_k1 hL hp) (pg_ru hL hp (i := 3) (by decide)) ?_
    refine E_iload dX11_shape_47 rfl ?_
    refine E_ialdL (v := nI (fcO c (rn c a b t))) dX11_shape_49 (pg_lt hL hp (i := 5) (by decide)) (pg_ka hL hp (i := 5) (by decide)) rfl (by omega) (by decide) hrn.2.2.2.1 ?_
    refine E_if_ne_n (tgt := 57) dX11_shape_50 (by decide) (by omega) (fun c_50 => ?_) (fun c_50 => ?_)
    · refine E_iconst (v := nI 1) dX11_shape_57 (by decide) ?_
      refine E_aaldL (v := fb 1 + 1) dX11_shape_58 (l_1 hL) (k_1 hL) (by decide) (by decide) rfl (by decide) (by decide) (hB.f1 (f := 1) (by decide)) ?_
      refine E_astore dX11_shape_59 (Nat.le_of_ble_eq_true rfl) (by decide) rfl ?_
      exact go 1 (by decide) (show fcO c (rn c a b t) = 1 by omega) _ _ _
    · refine E_iconst (v := nI 0) dX11_shape_53 (by decide) ?_
      refine E_goto (tgt := 58) dX11_shape_54 (by decide) ?_
      refine E_aaldL (v := fb 0 + 1) dX11_shape_58 (l_1 hL) (k_1 hL) (by decide) (by decide) rfl (by decide) (by decide) (hB.f1 (f := 0) (by decide)) ?_
      refine E_astore dX11_shape_59 (Nat.le_of_ble_eq_true rfl) (by decide) rfl ?_
      exact go 0 (by decide) (show fcO c (rn c a b t) = 0 by omega) _ _ _
set_option maxRecDepth 100000 in
set_option maxHeartbeats 4000000 in
theorem sp_X11_shape {g : gG} {Q : Option Value ⊕ String → gM → Prop} {c : Cf} {P : Nat → Nat} {pb a b R0 G0 tb : Nat} {left : Int32} (hp : pb = 78 ∨ pb = 98) (hab : a ≤ b) (hb : b ≤ 16) (hR : R0 ≤ a) (hG : G0 ≤ 64 * a) (htb : tb ≤ 1) {Mb : gM} {π : Nat → Nat} (K : ∀ M' π', kB c P M' → rK π' M' → kf (ksR pb G0) kT Mb M' → pV c pb a b R0 b M' → pW c pb a b R0 G0 left (nr c a b) M' → Q (.inl none) M') (hB : kB c P Mb) (hr : rK π Mb) (h10 : mI Mb (pb + 1) 10 = nI R0) (h9 : mI Mb pb 9 = nI G0) (hw10 : mI Mb pb 10 = left) : E g 6 0 0 mX11_shape 0 [.ref 1, .ref (pb + 1), .int (nI a), .int (nI b), .int (nI tb), .null, .null, .null, .null, .null, .null, .null] [] Mb Q := by
  have hL := hB.lay
  refine E_aload_n dX11_shape_0 rfl ?_
  refine E_getRL dX11_shape_1 kF_X11_241 kY_6 (Or.inl ⟨_, rfl⟩) (pg_lt0 hL hp) (pg_k0 hL hp) (pg_r0 hL hp) ?_
  refine E_astore dX11_shape_4 (Nat.le_of_ble_eq_true rfl) (by decide) rfl ?_
  refine E_aload dX11_shape_6 rfl ?_
  refine E_getIL (v := nI R0) dX11_shape_8 kF_X11_283 kY_9 (Or.inl rfl) (pg_lt hL hp (i := 1) (by decide)) (pg_k1 hL hp) h10 ?_
  refine E_istore dX11_shape_11 (Nat.le_of_ble_eq_true rfl) (by decide) rfl ?_
  refine E_aload dX11_shape_13 rfl ?_
  refine E_aload_n dX11_shape_15 rfl ?_
  refine E_getRL dX11_shape_16 kF_X11_18 kY_11 (Or.inl ⟨_, rfl⟩) (l_0 hL) (k_0 hL) (r_0_1 hL) ?_
  refine E_iload_n dX11_shape_19 rfl ?_
  refine E_iload_n dX11_shape_20 rfl ?_
  refine E_callV3 (fr' := 5) (k1 := 0) (n1 := 0) (k2 := 0) (n2 := 0) dX11_shape_21 kO_X9_part kL_X11_284 (pg_lt hL hp (i := 1) (by decide)) (pg_k1 hL hp) ⟨by decide, rfl⟩ rfl rfl rfl (by decide) (by decide) (by exact Nat.le_of_ble_eq_true rfl) rfl ?_
  refine sp_X9_part hab hb hR (fun M hx hv => ?_) ⟨hB, hp, kf.refl⟩ h10
  have hB2 := hx.B
  have hL := hB2.lay
  have hkf : kf (ksR pb G0) kT Mb M := hx.2.2.mono (fun a j q => Or.inr (Or.inr (Or.inr (by unfold pR at q; omega)))) (fun _ _ q => q.elim)
  have hr2 : rK π M := ⟨fun i hi => ⟨(hr.1 i hi).1, (hx.2.2.bkR (fun q => q)).trans (hr.1 i hi).2⟩, hr.2⟩
  have k9 : mI M pb 9 = nI G0 := (hx.2.2.bk (by unfold pR; omega)).trans h9
  have k10 : mI M pb 10 = left := (hx.2.2.bk (by unfold pR; omega)).trans hw10
  refine gKn ?_
  refine E_iload dX11_shape_24 rfl ?_
  refine E_istore dX11_shape_26 (Nat.le_of_ble_eq_true rfl) (by decide) rfl ?_
  exact lp_X11_shape hp hab hb hR hG htb K 0 (Nat.zero_le _) M π _ _ _ _ hB2 hr2 hkf hv ⟨Nat.zero_le _, k9, k10, fun r hr => absurd hr (Nat.not_lt_zero r)⟩
