/-! the class: asked -/
theorem E_throwW {g : gG} {fr k n : Nat} {μ : gMu} {pc : Nat} {ls st : List Value} {M : gM} {Q : Option Value ⊕ String → gM → Prop} {ik is ic sa : Nat} {cls0 text : String} {names : List String} (hl : (gl1 g).stackTraces = false) (hh : ghh μ = []) (hcls : Bundle.fit cls0 = true) (hnames : ∀ n ∈ names, Bundle.fit n = true) (hk : Cond.classLink (gy μ).cls ik cls0 ∈ gW) (hini : Cond.initialized cls0 ∈ gW) (hstr : ((gy μ).cls, (is, text)) ∈ gTW)
    (hat : ∀ w ∈ vx_atS (gy μ).cls ic cls0 names, w ∈ gW ∨ w ∈ gNW ∨ w ∈ gCW) (hgood : ∀ w ∈ Cond.classLink (gy μ).cls ik cls0 :: Cond.initialized cls0 :: vx_atS (gy μ).cls ic cls0 names, vx_ot w = true)
    (d0 : decode (gcc μ) pc = .ok (.new ik, 3)) (d3 : decode (gcc μ) (pc + 3) = .ok (.dup, 1)) (d4 : decode (gcc μ) (pc + 4) = .ok (.ldc_w is, 3)) (d7 : decode (gcc μ) (pc + 7) = .ok (.invokespecial ic, 3)) (d10 : decode (gcc μ) (pc + 10) = .ok (.athrow, 1))
    (hfr : names.length + 4 ≤ fr) (hlo : (st.map fun v => v.category).sum + (13 * (names.length + 1) + 43) ≤ 55 * fr) (hk1 : 1 ≤ k) (hn1 : 6 ≤ n) (hQ : Q (.inr cls0) M) : E g fr k n μ pc ls st M Q := by
  intro p e R s m args below meth c H locs cells slots ρ0 ρ N0 cls C hls hst hlv
  have C0 := C
  obtain ⟨⟨hx, hb, hml, hown, hts⟩, c2, c3, c4, hT, hM, hS, c8, hF, c10, c11, c12, c13, c14, c15⟩ := C
  unfold gT at hT
  rw [hh] at hT
  obtain ⟨sa, hsa⟩ := hF.2.2.1 _ hstr
  have e1 : ((st.map (gv g ρ)).map fun v => v.category) = st.map fun v => v.category := by
    rw [List.map_map]
    exact List.map_congr_left fun v _ => gv_cat g ρ v
  refine vx_throwSW (names := names) (text := text) (sa := sa) hx hb hl hown hcls hnames (hts _ hk) (hts _ hini) hsa (fun w hw => ?_) hgood hF.2.2.2.2.1 hF.2.2.2.2.2.1 hS (hlv.1.trans hml.symm) d0 d3 d4 d7 d10 (fun z hz => (hT z hz).elim) (by omega) (by rw [e1]; omega) (by omega) (by omega) c3 (fun t hA h1 h2 => gXC.of C0 hQ h1 h2 hA) hS.2.2 (by omega) (by omega)
  rcases hat w hw with h | h | h
  · exact hts w h
  · obtain ⟨a, i, x, h', rfl⟩ := gNW_eq h
    exact va_Nw.use rfl (hF.1 _ h)
  · rcases gCW_eq h with ⟨a, b, rfl⟩ | ⟨y, rfl⟩
    · exact va_Nw.use rfl (hF.2.1 _ h)
    · exact va_Nw.use rfl (hF.2.1 _ h)
theorem E_thAW {g : gG} {fr k n : Nat} {μ : gMu} {pc : Nat} {ls : List Value} {M : gM} {Q : Option Value ⊕ String → gM → Prop} {is : Nat} {text : String} (hl : (gl1 g).stackTraces = false) (hy : (gy μ).cls = RX11) (hh : ghh μ = []) (hstr : (RX11, (is, text)) ∈ gTW)
    (d0 : decode (gcc μ) pc = .ok (.new 89, 3)) (d3 : decode (gcc μ) (pc + 3) = .ok (.dup, 1)) (d4 : decode (gcc μ) (pc + 4) = .ok (.ldc_w is, 3)) (d7 : decode (gcc μ) (pc + 7) = .ok (.invokespecial 93, 3)) (d10 : decode (gcc μ) (pc + 10) = .ok (.athrow, 1))
    (hfr : 7 ≤ fr) (hk1 : 1 ≤ k) (hn1 : 6 ≤ n) (hQ : Q (.inr "java/lang/IllegalArgumentException") M) : E g fr k n μ pc ls [] M Q :=
  E_throwW (sa := 0) (ik := 89) (is := is) (ic := 93) (cls0 := "java/lang/IllegalArgumentException") (text := text) (names := thN) hl hh (by decide +kernel) thN_fit (by rw [hy]; exact gW_at 531 (by decide +kernel) (by decide +kernel)) (gW_at 46 (by decide +kernel) (by decide +kernel)) (by rw [hy]; exact hstr) (by rw [hy]; exact thA_at) (by rw [hy]; exact thA_ok) d0 d3 d4 d7 d10 (by show 2 + 4 ≤ fr; omega) (by show 0 + (13 * (2 + 1) + 43) ≤ 55 * fr; omega) hk1 hn1 hQ
theorem ksR_k {pb G0 : Nat} (hp : pb = 78 ∨ pb = 98) (a j : Nat) (h : ksR pb G0 a j) : ¬ told a j ∧ ¬ 128 ≤ a ∧ ¬ a = 0 := by
  unfold ksR rwR usR plR at h
  unfold told
  omega
theorem kT_k (a j : Nat) (h : kT a j) : ¬ 128 ≤ a := by unfold kT at h; omega
theorem qC.S {c : Cf} {P π : Nat → Nat} {M : gM} (h : qC c P π M) (h10 : mI M 0 10 = nI 0) : kS c P π M := ⟨h.1, h.2.1, Or.inl ⟨h10, h.2.2⟩⟩
/-- the first of the two pages made empty -/
def clM (pb : Nat) (M : gM) : gM := sI (sI (sI M pb 9 (nI 0)) pb 10 (nI 0)) (pb + 1) 10 (nI 0)
def cpR (pb a j : Nat) : Prop := (a = pb ∧ (j = 9 ∨ j = 10)) ∨ (a = pb + 1 ∧ j = 10)
theorem clM_f (pb : Nat) (M : gM) : kf (cpR pb) nT M (clM pb M) := ((kf.refl.wr (Or.inl ⟨rfl, Or.inl rfl⟩)).wr (Or.inl ⟨rfl, Or.inr rfl⟩)).wr (Or.inr ⟨rfl, rfl⟩)
theorem clM_9 (pb : Nat) (M : gM) : mI (clM pb M) pb 9 = nI 0 := (mI_ne (by omega)).trans ((mI_nj (by decide)).trans mI_eq)
theorem clM_10 (pb : Nat) (M : gM) : mI (clM pb M) pb 10 = nI 0 := (mI_ne (by omega)).trans mI_eq
theorem clM_1 (pb : Nat) (M : gM) : mI (clM pb M) (pb + 1) 10 = nI 0 := mI_eq
theorem kB.cl {c : Cf} {P : Nat → Nat} {M : gM} (h : kB c P M) {pb : Nat} (hp : pb = 78 ∨ pb = 98) : kB c P (clM pb M) := h.mv (clM_f pb M) (fun a j z => by unfold cpR at z; unfold told; omega) (fun _ _ z => z.elim)
set_option maxRecDepth 100000 in
set_option maxHeartbeats 4000000 in
theorem sp_X11_shaped {g : gG} {M : gM} {Q : Option Value ⊕ String → gM → Prop} {c : Cf} {P π : Nat → Nat} (hS : kS c P π M) (K : ∀ M' π', qC c P π' M' → mI M' 0 10 = nI 0 → kq M M' → Q (.inl (some (.ref 79))) M') : E g 7 0 0 mX11_shaped 0 [.ref 1] [] M Q := by
  have hB := hS.1
  have hL := hB.lay
  have hf : fc0 c < 2 := hB.wf.fac
  rcases hS.2.2 with ⟨q1, q2⟩ | q1
  · refine E_aload_n dX11_shaped_0 rfl ?_
    refine E_getIL (v := nI 0) dX11_shaped_1 kF_X11_73 kY_11 (Or.inr rfl) (l_0 hL) (k_0 hL) q1 ?_
    refine E_if_eq (tgt := 36) dX11_shaped_4 (by decide) (fun _ => ?_) (fun c0 => absurd (by decide) c0)
    refine E_aload_n dX11_shaped_36 rfl ?_
    refine E_getRL dX11_shaped_37 kF_X11_62 kY_11 (Or.inl ⟨_, rfl⟩) (l_0 hL) (k_0 hL) (r_0_7 hL) ?_
    refine E_aret dX11_shaped_40 rfl (Or.inl ⟨_, rfl⟩) ?_
    exact K M π ⟨hB, hS.2.1, q2⟩ q1 kq.refl
  · refine E_aload_n dX11_shaped_0 rfl ?_
    refine E_getIL (v := nI 1) dX11_shaped_1 kF_X11_73 kY_11 (Or.inr rfl) (l_0 hL) (k_0 hL) q1 ?_
    refine E_if_eq (tgt := 36) dX11_shaped_4 (by decide) (fun c0 => absurd c0 (by decide)) (fun _ => ?_)
    refine E_aload_n dX11_shaped_7 rfl ?_
    refine E_getRL dX11_shaped_8 kF_X11_62 kY_11 (Or.inl ⟨_, rfl⟩) (l_0 hL) (k_0 hL) (r_0_7 hL) ?_
    refine E_callV0 (fr' := 1) (k1 := 0) (n1 := 0) (k2 := 0) (n2 := 0) dX11_shaped_11 kO_X6_clear kL_X11_220 (l_78 hL) (k_78 hL) ⟨by decide, rfl⟩  (by decide) (by decide) (by exact Nat.le_of_ble_eq_true rfl) rfl ?_
    refine sp_X6_clear hL (pb := 78) (Or.inl rfl) ?_
    have hBo := hB
    have hB : kB c P (clM 78 M) := hBo.cl (Or.inl rfl)
    have hL := hB.lay
    show gK _ _ _ _ _ _ _ _ _ _ (clM 78 M)
    refine gKn ?_
    refine E_aload_n dX11_shaped_14 rfl ?_
    refine E_aload_n dX11_shaped_15 rfl ?_
    refine E_getRL dX11_shaped_16 kF_X11_62 kY_11 (Or.inl ⟨_, rfl⟩) (l_0 hL) (k_0 hL) (r_0_7 hL) ?_
    refine E_iconst (v := nI 0) dX11_shaped_19 (by decide) ?_
    refine E_aload_n dX11_shaped_20 rfl ?_
    refine E_getRL dX11_shaped_21 kF_X11_18 kY_11 (Or.inl ⟨_, rfl⟩) (l_0 hL) (k_0 hL) (r_0_1 hL) ?_
    refine E_getIL (v := nI (tl c)) dX11_shaped_24 kF_X11_179 kY_10 (Or.inl rfl) (l_2 hL) (k_2 hL) hB.len ?_
    refine E_iconst (v := nI 1) dX11_shaped_27 (by decide) ?_
    refine E_callV4 (fr' := 6) (k1 := 0) (n1 := 0) (k2 := 0) (n2 := 0) dX11_shaped_28 kO_X11_shape kL_X11_223 (l_0 hL) (k_0 hL) ⟨by decide, rfl⟩ rfl rfl rfl rfl (by decide) (by decide) (by exact Nat.le_of_ble_eq_true rfl) rfl ?_
    refine sp_X11_shape (pb := 78) (a := 0) (b := tl c) (R0 := 0) (G0 := 0) (tb := 1) (left := nI 0) (Or.inl rfl) (Nat.zero_le _) hB.wf.tl (Nat.le_refl _) (Nat.zero_le _) (Nat.le_refl _) (fun M1 π1 hB1 hr1 hF1 hV1 hW1 => ?_) hB hS.2.1 (clM_1 78 M) (clM_9 78 M) (clM_10 78 M)
    have hL := hB1.lay
    refine gKn ?_
    refine E_aload_n dX11_shaped_31 rfl ?_
    refine E_iconst (v := nI 0) dX11_shaped_32 (by decide) ?_
    refine E_putI dX11_shaped_33 kF_X11_73 kY_11 (Or.inr ⟨rfl, by decide⟩) (l_0 hL) (k_0 hL) (Or.inl rfl) ?_
    refine E_aload_n dX11_shaped_36 rfl ?_
    refine E_getRL dX11_shaped_37 kF_X11_62 kY_11 (Or.inl ⟨_, rfl⟩) (l_0 hL) (k_0 hL) (r_0_7 hL) ?_
    refine E_aret dX11_shaped_40 rfl (Or.inl ⟨_, rfl⟩) ?_
    refine K _ π1 ⟨hB1.mv (S := fun a j => a = 0 ∧ j = 10) (T := nT) (kf.refl.wr ⟨rfl, rfl⟩) (fun a j z => by unfold told; omega) (fun _ _ z => z.elim), hr1, ?_⟩ mI_eq (((kq.of (clM_f 78 M) (fun a j z => by unfold cpR at z; omega) (fun _ _ z => z.elim)).trans (kq.of hF1 (fun a j z => (ksR_k (Or.inl rfl) a j z).2.1) kT_k)).trans (kq.wr (by decide)))
    exact ⟨hV1.mv (S := fun a j => a = 0 ∧ j = 10) (T := nT) (kf.refl.wr ⟨rfl, rfl⟩) (fun x j z => by omega), hW1.mv (S := fun a j => a = 0 ∧ j = 10) (T := nT) (kf.refl.wr ⟨rfl, rfl⟩) (fun x j z => by omega)⟩
set_option maxRecDepth 100000 in
set_option maxHeartbeats 4000000 in
theorem sp_X11_needGlyph {g : gG} {M : gM} {Q : Option Value ⊕ String → gM → Prop} (hst : (gl1 g).stackTraces = false) (hL : gLay M) {pb : Nat} (hp : pb = 78 ∨ pb = 98) {n : Nat} (hn : n < 2 ^ 30) (h9 : mI M pb 9 = nI n) {p : Int32} (K1 : ∀ j, j < n → p = nI j → Q (.inl none) M) (K0 : ¬ iBel p n → Q (.inr "java/lang/IndexOutOfBoundsException") M) : E g 7 1 6 mX11_needGlyph 0 [.ref (pb + 1), .int p] [] M Q := by
  have hb := bel_of (p := p) hn
  refine E_iload_n dX11_needGlyph_0 rfl ?_
  refine E_if_lt (tgt := 12) dX11_needGlyph_1 (by decide) (fun c_1 => ?_) (fun c_1 => ?_)
  · refine E_thI (text := "no such glyph") hst rfl rfl (gTW_at 1084 (by decide +kernel)) dX11_needGlyph_12 dX11_needGlyph_15 dX11_needGlyph_16 dX11_needGlyph_18 dX11_needGlyph_21 (by decide) (by decide) (by decide) ?_
    exact K0 (fun z => by first | exact (hb.mp z).1 (by assumption) | exact absurd (hb.mp z).2 (by assumption))
  · refine E_iload_n dX11_needGlyph_4 rfl ?_
    refine E_aload_n dX11_needGlyph_5 rfl ?_
    refine E_getIL (v := nI n) dX11_needGlyph_6 kF_X11_212 kY_6 (Or.inl rfl) (pg_lt0 hL hp) (pg_k0 hL hp) h9 ?_
    refine E_icmp_lt (tgt := 22) dX11_needGlyph_9 (by decide) (fun c_9 => ?_) (fun c_9 => ?_)
    · refine E_vret dX11_needGlyph_22 rfl ?_
      obtain ⟨j, hj, ej⟩ := (iBel_iff hn).mp (hb.mpr ⟨by assumption, by assumption⟩)
      exact K1 j hj ej
    · refine E_thI (text := "no such glyph") hst rfl rfl (gTW_at 1084 (by decide +kernel)) dX11_needGlyph_12 dX11_needGlyph_15 dX11_needGlyph_16 dX11_needGlyph_18 dX11_needGlyph_21 (by decide) (by decide) (by decide) ?_
      exact K0 (fun z => by first | exact (hb.mp z).1 (by assumption) | exact absurd (hb.mp z).2 (by assumption))
set_option maxRecDepth 100000 in
set_option maxHeartbeats 4000000 in
theorem sp_X11_needLine {g : gG} {M : gM} {Q : Option Value ⊕ String → gM → Prop} (hst : (gl1 g).stackTraces = false) {p : Int32} (K1 : iIn p (nI 0) (nI 10000) → Q (.inl none) M) (K0 : ¬ iIn p (nI 0) (nI 10000) → Q (.inr "java/lang/IllegalArgumentException") M) : E g 7 1 6 mX11_needLine 0 [.int p] [] M Q := by
  refine E_iload_n dX11_needLine_0 rfl ?_
  refine E_if_lt (tgt := 11) dX11_needLine_1 (by decide) (fun c_1 => ?_) (fun c_1 => ?_)
  · refine E_thA (text := "width is out of range") hst rfl rfl (gTW_at 1184 (by decide +kernel)) dX11_needLine_11 dX11_needLine_14 dX11_needLine_15 dX11_needLine_17 dX11_needLine_20 (by decide) (by decide) (by decide) ?_
    exact K0 (by (try simp only [ltI, ge0, ge3, ge12, ge4, ge256, ge306, ge45, ge2, ge6] at *); grind)
  · refine E_iload_n dX11_needLine_4 rfl ?_
    refine E_sipush (v := nI 10000) dX11_needLine_5 (by decide) ?_
    refine E_icmp_le (tgt := 21) dX11_needLine_8 (by decide) (fun c_8 => ?_) (fun c_8 => ?_)
    · refine E_vret dX11_needLine_21 rfl ?_
      exact K1 (by (try simp only [ltI, ge0, ge3, ge12, ge4, ge256, ge306, ge45, ge2, ge6] at *); grind)
    · refine E_thA (text := "width is out of range") hst rfl rfl (gTW_at 1184 (by decide +kernel)) dX11_needLine_11 dX11_needLine_14 dX11_needLine_15 dX11_needLine_17 dX11_needLine_20 (by decide) (by decide) (by decide) ?_
      exact K0 (by (try simp only [ltI, ge0, ge3, ge12, ge4, ge256, ge306, ge45, ge2, ge6] at *); grind)
set_option maxRecDepth 100000 in
set_option maxHeartbeats 4000000 in
theorem sp_X11_glyphs {g : gG} {M : gM} {Q : Option Value ⊕ String → gM → Prop} (hst : (gl1 g).stackTraces = false) {c : Cf} {P π : Nat → Nat} (hS : kS c P π M) (K1 : ∀ M' π', kS c P π' M' → kq M M' → Q (.inl (some (.int (nI (ng c))))) M') : E g 8 1 6 mX11_glyphs 0 [.ref 1] [] M Q := by
  have hB := hS.1
  have hL := hB.lay
  have hf : fc0 c < 2 := hB.wf.fac
  refine E_aload_n dX11_glyphs_0 rfl ?_
  refine E_callV0 (fr' := 7) (k1 := 0) (n1 := 0) (k2 := 1) (n2 := 6) dX11_glyphs_1 kO_X11_shaped kL_X11_208 (l_0 hL) (k_0 hL) ⟨by decide, rfl⟩  (by decide) (by decide) (by exact Nat.le_of_ble_eq_true rfl) rfl ?_
  refine sp_X11_shaped hS (fun M1 π1 hQ h10 hkd => ?_)
  have hB := hQ.B
  have hL := hB.lay
  have hS1 := hQ.S h10
  have hg := hQ.g1024
  refine gKv ?_
  refine E_getIL (v := nI (ng c)) dX11_glyphs_4 kF_X11_212 kY_6 (Or.inl rfl) (l_78 hL) (k_78 hL) hQ.g9 ?_
  refine E_iret dX11_glyphs_7 (Or.inl rfl) ?_
  exact K1 _ _ hS1 hkd
set_option maxRecDepth 100000 in
set_option maxHeartbeats 4000000 in
theorem sp_X11_glyph {g : gG} {M : gM} {Q : Option Value ⊕ String → gM → Prop} (hst : (gl1 g).stackTraces = false) {c : Cf} {P π : Nat → Nat} (hS : kS c P π M) {p : Int32} (K1 : ∀ j, j < ng c → p = nI j → ∀ M' π', kS c P π' M' → kq M M' → Q (.inl (some (.int (pgv c 0 j)))) M') (K0 : ¬ iBel p (ng c) → ∀ M' π', kS c P π' M' → kq M M' → Q (.inr "java/lang/IndexOutOfBoundsException") M') : E g 8 1 6 mX11_glyph 0 [.ref 1, .int p, .null] [] M Q := by
  have hB := hS.1
  have hL := hB.lay
  have hf : fc0 c < 2 := hB.wf.fac
  refine E_aload_n dX11_glyph_0 rfl ?_
  refine E_callV0 (fr' := 7) (k1 := 0) (n1 := 0) (k2 := 1) (n2 := 6) dX11_glyph_1 kO_X11_shaped kL_X11_208 (l_0 hL) (k_0 hL) ⟨by decide, rfl⟩  (by decide) (by decide) (by exact Nat.le_of_ble_eq_true rfl) rfl ?_
  refine sp_X11_shaped hS (fun M1 π1 hQ h10 hkd => ?_)
  have hB := hQ.B
  have hL := hB.lay
  have hS1 := hQ.S h10
  have hg := hQ.g1024
  refine gKv ?_
  refine E_astore_n dX11_glyph_4 (Nat.le_of_ble_eq_true rfl) (by decide) rfl ?_
  refine E_aload_n dX11_glyph_5 rfl ?_
  refine E_iload_n dX11_glyph_6 rfl ?_
  refine E_callS2 (fr' := 7) (k1 := 1) (n1 := 6) (k2 := 0) (n2 := 0) dX11_glyph_7 kO_X11_needGlyph kL_X11_213 rfl rfl (by decide) (by decide) (by exact Nat.le_of_ble_eq_true rfl) (Or.inl rfl) rfl ?_
  refine sp_X11_needGlyph hst hL (Or.inl rfl) (n := ng c) (by omega) hQ.g9 (fun j hj ej => ?_) (fun hn => gKx rfl (K0 hn _ _ hS1 hkd))
  refine gKn ?_
  subst ej
  refine E_aload_n dX11_glyph_10 rfl ?_
  refine E_getRL dX11_glyph_11 kF_X11_217 kY_6 (Or.inr ⟨_, rfl⟩) (l_78 hL) (k_78 hL) (r_78_1 hL) ?_
  refine E_iload_n dX11_glyph_14 rfl ?_
  refine E_ialdL (v := pgv c 0 j) dX11_glyph_15 (l_90 hL) (k_90 hL) rfl (by omega) (by decide) (hQ.pg (q := 0) (by decide) hj) ?_
  refine E_iret dX11_glyph_16 (Or.inl rfl) ?_
  exact K1 j hj rfl _ _ hS1 hkd
set_option maxRecDepth 100000 in
set_option maxHeartbeats 4000000 in
theorem sp_X11_cluster {g : gG} {M : gM} {Q : Option Value ⊕ String → gM → Prop} (hst : (gl1 g).stackTraces = false) {c : Cf} {P π : Nat → Nat} (hS : kS c P π M) {p : Int32} (K1 : ∀ j, j < ng c → p = nI j → ∀ M' π', kS c P π' M' → kq M M' → Q (.inl (some (.int (pgv c 1 j)))) M') (K0 : ¬ iBel p (ng c) → ∀ M' π', kS c P π' M' → kq M M' → Q (.inr "java/lang/IndexOutOfBoundsException") M') : E g 8 1 6 mX11_cluster 0 [.ref 1, .int p, .null] [] M Q := by
  have hB := hS.1
  have hL := hB.lay
  have hf : fc0 c < 2 := hB.wf.fac
  refine E_aload_n dX11_cluster_0 rfl ?_
  refine E_callV0 (fr' := 7) (k1 := 0) (n1 := 0) (k2 := 1) (n2 := 6) dX11_cluster_1 kO_X11_shaped kL_X11_208 (l_0 hL) (k_0 hL) ⟨by decide, rfl⟩  (by decide) (by decide) (by exact Nat.le_of_ble_eq_true rfl) rfl ?_
  refine sp_X11_shaped hS (fun M1 π1 hQ h10 hkd => ?_)
  have hB := hQ.B
  have hL := hB.lay
  have hS1 := hQ.S h10
  have hg := hQ.g1024
  refine gKv ?_
  refine E_astore_n dX11_cluster_4 (Nat.le_of_ble_eq_true rfl) (by decide) rfl ?_
  refine E_aload_n dX11_cluster_5 rfl ?_
  refine E_iload_n dX11_cluster_6 rfl ?_
  refine E_callS2 (fr' := 7) (k1 := 1) (n1 := 6) (k2 := 0) (n2 := 0) dX11_cluster_7 kO_X11_needGlyph kL_X11_213 rfl rfl (by decide) (by decide) (by exact Nat.le_of_ble_eq_true rfl) (Or.inl rfl) rfl ?_
  refine sp_X11_needGlyph hst hL (Or.inl rfl) (n := ng c) (by omega) hQ.g9 (fun j hj ej => ?_) (fun hn => gKx rfl (K0 hn _ _ hS1 hkd))
  refine gKn ?_
  subst ej
  refine E_aload_n dX11_cluster_10 rfl ?_
  refine E_getRL dX11_cluster_11 kF_X11_227 kY_6 (Or.inr ⟨_, rfl⟩) (l_78 hL) (k_78 hL) (r_78_2 hL) ?_
  refine E_iload_n dX11_cluster_14 rfl ?_
  refine E_ialdL (v := pgv c 1 j) dX11_cluster_15 (l_91 hL) (k_91 hL) rfl (by omega) (by decide) (hQ.pg (q := 1) (by decide) hj) ?_
  refine E_iret dX11_cluster_16 (Or.inl rfl) ?_
  exact K1 j hj rfl _ _ hS1 hkd
set_option maxRecDepth 100000 in
set_option maxHeartbeats 4000000 in
theorem sp_X11_place {g : gG} {M : gM} {Q : Option Value ⊕ String → gM → Prop} (hst : (gl1 g).stackTraces = false) {c : Cf} {P π : Nat → Nat} (hS : kS c P π M) {p w : Int32} (K1 : ∀ j, j < ng c → p = nI j → iIn w (nI 0) (nI 2) → ∀ M' π', kS c P π' M' → kq M M' → Q (.inl (some (.int (cI (w = nI 0) (pgv c 4 j) (cI (w = nI 1) (pgv c 3 j) (pgv c 2 j)))))) M') (K2 : ∀ j, j < ng c → p = nI j → ¬ iIn w (nI 0) (nI 2) → ∀ M' π', kS c P π' M' → kq M M' → Q (.inr "java/lang/IllegalArgumentException") M') (K0 : ¬ iBel p (ng c) → ∀ M' π', kS c P π' M' → kq M M' → Q (.inr "java/lang/IndexOutOfBoundsException") M') : E g 8 2 12 mX11_place 0 [.ref 1, .int p, .int w, .null] [] M Q := by
  have hB := hS.1
  have hL := hB.lay
  have hf : fc0 c < 2 := hB.wf.fac
  refine E_aload_n dX11_place_0 rfl ?_
  refine E_callV0 (fr' := 7) (k1 := 0) (n1 := 0) (k2 := 2) (n2 := 12) dX11_place_1 kO_X11_shaped kL_X11_208 (l_0 hL) (k_0 hL) ⟨by decide, rfl⟩  (by decide) (by decide) (by exact Nat.le_of_ble_eq_true rfl) rfl ?_
  refine sp_X11_shaped hS (fun M1 π1 hQ h10 hkd => ?_)
  have hB := hQ.B
  have hL := hB.lay
  have hS1 := hQ.S h10
  have hg := hQ.g1024
  refine gKv ?_
  refine E_astore_n dX11_place_4 (Nat.le_of_ble_eq_true rfl) (by decide) rfl ?_
  refine E_aload_n dX11_place_5 rfl ?_
  refine E_iload_n dX11_place_6 rfl ?_
  refine E_callS2 (fr' := 7) (k1 := 1) (n1 := 6) (k2 := 1) (n2 := 6) dX11_place_7 kO_X11_needGlyph kL_X11_213 rfl rfl (by decide) (by decide) (by exact Nat.le_of_ble_eq_true rfl) (Or.inl rfl) rfl ?_
  refine sp_X11_needGlyph hst hL (Or.inl rfl) (n := ng c) (by omega) hQ.g9 (fun j hj ej => ?_) (fun hn => gKx rfl (K0 hn _ _ hS1 hkd))
  refine gKn ?_
  subst ej
  by_cases hw : iIn w (nI 0) (nI 2)
  · obtain ⟨v, hv0, hv, rfl⟩ := iIn_of hw (by decide) (by decide)
    have K1 := K1 j hj rfl hw
    rcases (show v = 0 ∨ v = 1 ∨ v = 2 by omega) with rfl | rfl | rfl
    · rw [cI_t rfl] at K1
      refine E_iload_n dX11_place_10 rfl ?_
      refine E_swIn (off := 25) (tgt := 36) dX11_place_11 (by decide) (by decide) (by decide) (by decide) ?_
      refine E_aload_n dX11_place_36 rfl ?_
      refine E_getRL dX11_place_37 kF_X11_230 kY_6 (Or.inr ⟨_, rfl⟩) (l_78 hL) (k_78 hL) (r_78_5 hL) ?_
      refine E_iload_n dX11_place_40 rfl ?_
      refine E_ialdL (v := pgv c 4 j) dX11_place_41 (l_94 hL) (k_94 hL) rfl (by omega) (by decide) (hQ.pg (q := 4) (by decide) hj) ?_
      refine E_iret dX11_place_42 (Or.inl rfl) ?_
      exact K1 _ _ hS1 hkd
    · rw [cI_f (by decide), cI_t rfl] at K1
      refine E_iload_n dX11_place_10 rfl ?_
      refine E_swIn (off := 32) (tgt := 43) dX11_place_11 (by decide) (by decide) (by decide) (by decide) ?_
      refine E_aload_n dX11_place_43 rfl ?_
      refine E_getRL dX11_place_44 kF_X11_233 kY_6 (Or.inr ⟨_, rfl⟩) (l_78 hL) (k_78 hL) (r_78_4 hL) ?_
      refine E_iload_n dX11_place_47 rfl ?_
      refine E_ialdL (v := pgv c 3 j) dX11_place_48 (l_93 hL) (k_93 hL) rfl (by omega) (by decide) (hQ.pg (q := 3) (by decide) hj) ?_
      refine E_iret dX11_place_49 (Or.inl rfl) ?_
      exact K1 _ _ hS1 hkd
    · rw [cI_f (by decide), cI_f (by decide)] at K1
      refine E_iload_n dX11_place_10 rfl ?_
      refine E_swIn (off := 39) (tgt := 50) dX11_place_11 (by decide) (by decide) (by decide) (by decide) ?_
      refine E_aload_n dX11_place_50 rfl ?_
      refine E_getRL dX11_place_51 kF_X11_236 kY_6 (Or.inr ⟨_, rfl⟩) (l_78 hL) (k_78 hL) (r_78_3 hL) ?_
      refine E_iload_n dX11_place_54 rfl ?_
      refine E_ialdL (v := pgv c 2 j) dX11_place_55 (l_92 hL) (k_92 hL) rfl (by omega) (by decide) (hQ.pg (q := 2) (by decide) hj) ?_
      refine E_iret dX11_place_56 (Or.inl rfl) ?_
      exact K1 _ _ hS1 hkd
  · have ho : w.toInt < 0 ∨ 2 < w.toInt := by
      have hw2 : ¬ (nI 0 ≤ w ∧ w ≤ nI 2) := hw
      rw [Int32.le_iff_toInt_le, Int32.le_iff_toInt_le, show (nI 0).toInt = 0 by decide, show (nI 2).toInt = 2 by decide] at hw2
      omega
    refine E_iload_n dX11_place_10 rfl ?_
    refine E_swOut (tgt := 57) dX11_place_11 ho (by decide) ?_
    refine E_thA (text := "what is out of range") hst rfl rfl (gTW_at 1106 (by decide +kernel)) dX11_place_57 dX11_place_60 dX11_place_61 dX11_place_63 dX11_place_66 (by decide) (by decide) (by decide) ?_
    exact K2 j hj rfl hw _ _ hS1 hkd
set_option maxRecDepth 100000 in
set_option maxHeartbeats 4000000 in
theorem sp_X11_form {g : gG} {M : gM} {Q : Option Value ⊕ String → gM → Prop} (hst : (gl1 g).stackTraces = false) {c : Cf} {P π : Nat → Nat} (hS : kS c P π M) {p : Int32} (K1 : ∀ j, j < tl c → p = nI j → ∀ M' π', kS c P π' M' → kq M M' → Q (.inl (some (.int (frm c (tn c (ru c j)) (tn c (ru c j + 1)) j)))) M') (K0 : ¬ iBel p (tl c) → ∀ M' π', kS c P π' M' → kq M M' → Q (.inr "java/lang/IndexOutOfBoundsException") M') : E g 8 1 6 mX11_form 0 [.ref 1, .int p] [] M Q := by
  have hB := hS.1
  have hL := hB.lay
  have hf : fc0 c < 2 := hB.wf.fac
  have h16 : tl c ≤ 16 := hB.wf.tl
  refine E_aload_n dX11_form_0 rfl ?_
  refine E_iload_n dX11_form_1 rfl ?_
  refine E_callV1 (fr' := 7) (k1 := 1) (n1 := 6) (k2 := 0) (n2 := 0) dX11_form_2 kO_X11_needSign kL_X11_189 (l_0 hL) (k_0 hL) ⟨by decide, rfl⟩ rfl (by decide) (by decide) (by exact Nat.le_of_ble_eq_true rfl) rfl ?_
  refine sp_X11_needSign hst hB (fun j hj ej => ?_) (fun hn => gKx rfl (K0 hn _ _ hS kq.refl))
  refine gKn ?_
  subst ej
  refine E_aload_n dX11_form_5 rfl ?_
  refine E_callV0 (fr' := 7) (k1 := 0) (n1 := 0) (k2 := 0) (n2 := 0) dX11_form_6 kO_X11_shaped kL_X11_208 (l_0 hL) (k_0 hL) ⟨by decide, rfl⟩  (by decide) (by decide) (by exact Nat.le_of_ble_eq_true rfl) rfl ?_
  refine sp_X11_shaped hS (fun M1 π1 hQ h10 hkd => ?_)
  have hB := hQ.B
  have hL := hB.lay
  have hS1 := hQ.S h10
  have hg := hQ.g1024
  refine gKv ?_
  refine E_getRL dX11_form_9 kF_X11_241 kY_6 (Or.inl ⟨_, rfl⟩) (l_78 hL) (k_78 hL) (r_78_0 hL) ?_
  refine E_getRL dX11_form_12 kF_X11_245 kY_9 (Or.inr ⟨_, rfl⟩) (l_79 hL) (k_79 hL) (r_79_1 hL) ?_
  refine E_iload_n dX11_form_15 rfl ?_
  refine E_ialdL (v := _) dX11_form_16 (l_81 hL) (k_81 hL) rfl (by omega) (by decide) (hQ.fo hj) ?_
  refine E_iret dX11_form_17 (Or.inl rfl) ?_
  exact K1 j hj rfl _ _ hS1 hkd
set_option maxRecDepth 100000 in
set_option maxHeartbeats 4000000 in
theorem sp_X11_run {g : gG} {M : gM} {Q : Option Value ⊕ String → gM → Prop} (hst : (gl1 g).stackTraces = false) {c : Cf} {P π : Nat → Nat} (hS : kS c P π M) {p : Int32} (K1 : ∀ j, j < tl c → p = nI j → ∀ M' π', kS c P π' M' → kq M M' → Q (.inl (some (.int (nI (100 * ru c j + 10 * scr c 0 (tl c) j + fcO c j))))) M') (K0 : ¬ iBel p (tl c) → ∀ M' π', kS c P π' M' → kq M M' → Q (.inr "java/lang/IndexOutOfBoundsException") M') : E g 8 1 6 mX11_run 0 [.ref 1, .int p] [] M Q := by
  have hB := hS.1
  have hL := hB.lay
  have hf : fc0 c < 2 := hB.wf.fac
  have h16 : tl c ≤ 16 := hB.wf.tl
  refine E_aload_n dX11_run_0 rfl ?_
  refine E_iload_n dX11_run_1 rfl ?_
  refine E_callV1 (fr' := 7) (k1 := 1) (n1 := 6) (k2 := 0) (n2 := 0) dX11_run_2 kO_X11_needSign kL_X11_189 (l_0 hL) (k_0 hL) ⟨by decide, rfl⟩ rfl (by decide) (by decide) (by exact Nat.le_of_ble_eq_true rfl) rfl ?_
  refine sp_X11_needSign hst hB (fun j hj ej => ?_) (fun hn => gKx rfl (K0 hn _ _ hS kq.refl))
  refine gKn ?_
  subst ej
  refine E_aload_n dX11_run_5 rfl ?_
  refine E_callV0 (fr' := 7) (k1 := 0) (n1 := 0) (k2 := 0) (n2 := 0) dX11_run_6 kO_X11_shaped kL_X11_208 (l_0 hL) (k_0 hL) ⟨by decide, rfl⟩  (by decide) (by decide) (by exact Nat.le_of_ble_eq_true rfl) rfl ?_
  refine sp_X11_shaped hS (fun M1 π1 hQ h10 hkd => ?_)
  have hB := hQ.B
  have hL := hB.lay
  have hS1 := hQ.S h10
  have hg := hQ.g1024
  refine gKv ?_
  refine E_getRL dX11_run_9 kF_X11_241 kY_6 (Or.inl ⟨_, rfl⟩) (l_78 hL) (k_78 hL) (r_78_0 hL) ?_
  refine E_iload_n dX11_run_12 rfl ?_
  refine E_callV1 (fr' := 1) (k1 := 0) (n1 := 0) (k2 := 0) (n2 := 0) dX11_run_13 kO_X9_codeOf kL_X11_250 (l_79 hL) (k_79 hL) ⟨by decide, rfl⟩ rfl (by decide) (by decide) (by exact Nat.le_of_ble_eq_true rfl) rfl ?_
  refine sp_X9_codeOf hQ hj ?_
  refine gKv ?_
  refine E_iret dX11_run_16 (Or.inl rfl) ?_
  exact K1 j hj rfl _ _ hS1 hkd
set_option maxRecDepth 100000 in
set_option maxHeartbeats 4000000 in
theorem sp_X11_caret {g : gG} {M : gM} {Q : Option Value ⊕ String → gM → Prop} (hst : (gl1 g).stackTraces = false) {c : Cf} {P π : Nat → Nat} (hS : kS c P π M) {p : Int32} (K1 : ∀ j, j < tl c → p = nI j → ∀ M' π', kS c P π' M' → kq M M' → Q (.inl (some (.int (crt c j)))) M') (K0 : ¬ iBel p (tl c) → ∀ M' π', kS c P π' M' → kq M M' → Q (.inr "java/lang/IndexOutOfBoundsException") M') : E g 8 1 6 mX11_caret 0 [.ref 1, .int p] [] M Q := by
  have hB := hS.1
  have hL := hB.lay
  have hf : fc0 c < 2 := hB.wf.fac
  have h16 : tl c ≤ 16 := hB.wf.tl
  refine E_aload_n dX11_caret_0 rfl ?_
  refine E_iload_n dX11_caret_1 rfl ?_
  refine E_callV1 (fr' := 7) (k1 := 1) (n1 := 6) (k2 := 0) (n2 := 0) dX11_caret_2 kO_X11_needSign kL_X11_189 (l_0 hL) (k_0 hL) ⟨by decide, rfl⟩ rfl (by decide) (by decide) (by exact Nat.le_of_ble_eq_true rfl) rfl ?_
  refine sp_X11_needSign hst hB (fun j hj ej => ?_) (fun hn => gKx rfl (K0 hn _ _ hS kq.refl))
  refine gKn ?_
  subst ej
  refine E_aload_n dX11_caret_5 rfl ?_
  refine E_callV0 (fr' := 7) (k1 := 0) (n1 := 0) (k2 := 0) (n2 := 0) dX11_caret_6 kO_X11_shaped kL_X11_208 (l_0 hL) (k_0 hL) ⟨by decide, rfl⟩  (by decide) (by decide) (by exact Nat.le_of_ble_eq_true rfl) rfl ?_
  refine sp_X11_shaped hS (fun M1 π1 hQ h10 hkd => ?_)
  have hB := hQ.B
  have hL := hB.lay
  have hS1 := hQ.S h10
  have hg := hQ.g1024
  refine gKv ?_
  refine E_iload_n dX11_caret_9 rfl ?_
  refine E_callV1 (fr' := 3) (k1 := 0) (n1 := 0) (k2 := 0) (n2 := 0) dX11_caret_10 kO_X6_caretOf kL_X11_253 (l_78 hL) (k_78 hL) ⟨by decide, rfl⟩ rfl (by decide) (by decide) (by exact Nat.le_of_ble_eq_true rfl) rfl ?_
  refine sp_X6_caretOf hQ hj ?_
  refine gKv ?_
  refine E_iret dX11_caret_13 (Or.inl rfl) ?_
  exact K1 j hj rfl _ _ hS1 hkd
set_option maxRecDepth 100000 in
set_option maxHeartbeats 4000000 in
theorem sp_X11_fill {g : gG} {M : gM} {Q : Option Value ⊕ String → gM → Prop} (hst : (gl1 g).stackTraces = false) {c : Cf} {P π : Nat → Nat} (hS : kS c P π M) {p : Int32} (K1 : iIn p (nI 0) (nI 10000) → ∀ M' π', kS c P π' M' → kq M M' → Q (.inl (some (.int (fiV c p)))) M') (K0 : ¬ iIn p (nI 0) (nI 10000) → ∀ M' π', kS c P π' M' → kq M M' → Q (.inr "java/lang/IllegalArgumentException") M') : E g 8 1 6 mX11_fill 0 [.ref 1, .int p] [] M Q := by
  have hB := hS.1
  have hL := hB.lay
  have hf : fc0 c < 2 := hB.wf.fac
  refine E_iload_n dX11_fill_0 rfl ?_
  refine E_callS1 (fr' := 7) (k1 := 1) (n1 := 6) (k2 := 0) (n2 := 0) dX11_fill_1 kO_X11_needLine kL_X11_267 rfl (by decide) (by decide) (by exact Nat.le_of_ble_eq_true rfl) (Or.inl rfl) rfl ?_
  refine sp_X11_needLine hst (fun hw => ?_) (fun hn => gKx rfl (K0 hn _ _ hS kq.refl))
  refine gKn ?_
  refine E_aload_n dX11_fill_4 rfl ?_
  refine E_getRL dX11_fill_5 kF_X11_55 kY_11 (Or.inl ⟨_, rfl⟩) (l_0 hL) (k_0 hL) (r_0_6 hL) ?_
  refine E_aload_n dX11_fill_8 rfl ?_
  refine E_callV0 (fr' := 7) (k1 := 0) (n1 := 0) (k2 := 0) (n2 := 0) dX11_fill_9 kO_X11_shaped kL_X11_208 (l_0 hL) (k_0 hL) ⟨by decide, rfl⟩  (by decide) (by decide) (by exact Nat.le_of_ble_eq_true rfl) rfl ?_
  refine sp_X11_shaped hS (fun M1 π1 hQ h10 hkd => ?_)
  have hB := hQ.B
  have hL := hB.lay
  have hS1 := hQ.S h10
  have hg := hQ.g1024
  refine gKv ?_
  refine E_aload_n dX11_fill_12 rfl ?_
  refine E_getRL dX11_fill_13 kF_X11_18 kY_11 (Or.inl ⟨_, rfl⟩) (l_0 hL) (k_0 hL) (r_0_1 hL) ?_
  refine E_iload_n dX11_fill_16 rfl ?_
  refine E_aload_n dX11_fill_17 rfl ?_
  refine E_getRL dX11_fill_18 kF_X11_11 kY_11 (Or.inr ⟨_, rfl⟩) (l_0 hL) (k_0 hL) (r_0_0 hL) ?_
  refine E_iconst (v := nI 0) dX11_fill_21 (by decide) ?_
  refine E_aaldL (v := _) dX11_fill_22 (l_1 hL) (k_1 hL) (by decide) (by decide) rfl (by omega) (by decide) (hB.f1 (f := 0) (by decide)) ?_
  refine E_getRL dX11_fill_23 kF_X11_163 kY_1 (Or.inr ⟨_, rfl⟩) (l_118 hL) (k_118 hL) (r_118_3 hL) ?_
  refine E_bipush (v := nI 20) dX11_fill_26 (by decide) ?_
  refine E_ialdL (v := nI (wSt c)) dX11_fill_28 (l_122 hL) (k_122 hL) rfl (by omega) (by decide) (hB.fwd (f := 0) (by decide) (q := 20) (by decide)) ?_
  refine E_callV4 (fr' := 5) (k1 := 0) (n1 := 0) (k2 := 0) (n2 := 0) dX11_fill_29 kO_X3_reckon kL_X11_270 (l_76 hL) (k_76 hL) ⟨by decide, rfl⟩ rfl rfl rfl rfl (by decide) (by decide) (by exact Nat.le_of_ble_eq_true rfl) rfl ?_
  refine sp_X3_reckon hQ hw (fun hm M2 hQ2 hF2 h1 h2 h7 => ?_) (fun hm M2 hQ2 hF2 h1 h7 => ?_)
  · have hL := hQ2.B.lay
    have hS2 := hQ2.S ((hF2.bk (by unfold lnR; omega)).trans h10)
    have hkd2 := hkd.trans (kq.of hF2 (fun a j z => by unfold lnR at z; omega) (fun _ _ z => z.elim))
    refine gKn ?_
    refine E_aload_n dX11_fill_32 rfl ?_
    refine E_getRL dX11_fill_33 kF_X11_55 kY_11 (Or.inl ⟨_, rfl⟩) (l_0 hL) (k_0 hL) (r_0_6 hL) ?_
    refine E_getIL (v := nI 0) dX11_fill_36 kF_X11_274 kY_3 (Or.inr rfl) (l_76 hL) (k_76 hL) h1 ?_
    refine E_if_eq (tgt := 47) dX11_fill_39 (by decide) (fun _ => ?_) (fun c0 => absurd (by decide) c0)
    refine E_aload_n dX11_fill_47 rfl ?_
    refine E_getRL dX11_fill_48 kF_X11_55 kY_11 (Or.inl ⟨_, rfl⟩) (l_0 hL) (k_0 hL) (r_0_6 hL) ?_
    refine E_getIL (v := fiV c p) dX11_fill_51 kF_X11_277 kY_3 (Or.inl rfl) (l_76 hL) (k_76 hL) h2 ?_
    refine E_iret dX11_fill_54 (Or.inl rfl) ?_
    exact K1 hw _ _ hS2 hkd2
  · have hL := hQ2.B.lay
    have hS2 := hQ2.S ((hF2.bk (by unfold lnR; omega)).trans h10)
    have hkd2 := hkd.trans (kq.of hF2 (fun a j z => by unfold lnR at z; omega) (fun _ _ z => z.elim))
    refine gKn ?_
    refine E_aload_n dX11_fill_32 rfl ?_
    refine E_getRL dX11_fill_33 kF_X11_55 kY_11 (Or.inl ⟨_, rfl⟩) (l_0 hL) (k_0 hL) (r_0_6 hL) ?_
    refine E_getIL (v := nI 1) dX11_fill_36 kF_X11_274 kY_3 (Or.inr rfl) (l_76 hL) (k_76 hL) h1 ?_
    refine E_if_eq (tgt := 47) dX11_fill_39 (by decide) (fun c0 => absurd c0 (by decide)) (fun _ => ?_)
    refine E_bipush (v := -100) dX11_fill_42 (by decide) ?_
    refine E_goto (tgt := 54) dX11_fill_44 (by decide) ?_
    refine E_iret dX11_fill_54 (Or.inl rfl) ?_
    have e : fiV c p = -100 := by unfold fiV; exact cI_f hm
    rw [← e]
    exact K1 hw _ _ hS2 hkd2
set_option maxRecDepth 100000 in
set_option maxHeartbeats 4000000 in
theorem sp_X11_filling {g : gG} {M : gM} {Q : Option Value ⊕ String → gM → Prop} (hst : (gl1 g).stackTraces = false) {c : Cf} {P π : Nat → Nat} (hS : kS c P π M) {p w : Int32} (K1 : ∀ j, j < tl c → w = nI j → iIn p (nI 0) (nI 10000) → ∀ M' π', kS c P π' M' → kq M M' → Q (.inl (some (.int (fgV c p j)))) M') (K2 : ∀ j, j < tl c → w = nI j → ¬ iIn p (nI 0) (nI 10000) → ∀ M' π', kS c P π' M' → kq M M' → Q (.inr "java/lang/IllegalArgumentException") M') (K0 : ¬ iBel w (tl c) → ∀ M' π', kS c P π' M' → kq M M' → Q (.inr "java/lang/IndexOutOfBoundsException") M') : E g 8 2 12 mX11_filling 0 [.ref 1, .int p, .int w] [] M Q := by
  have hB := hS.1
  have hL := hB.lay
  have hf : fc0 c < 2 := hB.wf.fac
  have h16 : tl c ≤ 16 := hB.wf.tl
  refine E_aload_n dX11_filling_0 rfl ?_
  refine E_iload_n dX11_filling_1 rfl ?_
  refine E_callV1 (fr' := 7) (k1 := 1) (n1 := 6) (k2 := 1) (n2 := 6) dX11_filling_2 kO_X11_needSign kL_X11_189 (l_0 hL) (k_0 hL) ⟨by decide, rfl⟩ rfl (by decide) (by decide) (by exact Nat.le_of_ble_eq_true rfl) rfl ?_
  refine sp_X11_needSign hst hB (fun j hj ej => ?_) (fun hn => gKx rfl (K0 hn _ _ hS kq.refl))
  refine gKn ?_
  subst ej
  refine E_iload_n dX11_filling_5 rfl ?_
  refine E_callS1 (fr' := 7) (k1 := 1) (n1 := 6) (k2 := 0) (n2 := 0) dX11_filling_6 kO_X11_needLine kL_X11_267 rfl (by decide) (by decide) (by exact Nat.le_of_ble_eq_true rfl) (Or.inl rfl) rfl ?_
  refine sp_X11_needLine hst (fun hw => ?_) (fun hn => gKx rfl (K2 j hj rfl hn _ _ hS kq.refl))
  refine gKn ?_
  refine E_aload_n dX11_filling_9 rfl ?_
  refine E_getRL dX11_filling_10 kF_X11_55 kY_11 (Or.inl ⟨_, rfl⟩) (l_0 hL) (k_0 hL) (r_0_6 hL) ?_
  refine E_aload_n dX11_filling_13 rfl ?_
  refine E_callV0 (fr' := 7) (k1 := 0) (n1 := 0) (k2 := 0) (n2 := 0) dX11_filling_14 kO_X11_shaped kL_X11_208 (l_0 hL) (k_0 hL) ⟨by decide, rfl⟩  (by decide) (by decide) (by exact Nat.le_of_ble_eq_true rfl) rfl ?_
  refine sp_X11_shaped hS (fun M1 π1 hQ h10 hkd => ?_)
  have hB := hQ.B
  have hL := hB.lay
  have hS1 := hQ.S h10
  have hg := hQ.g1024
  refine gKv ?_
  refine E_aload_n dX11_filling_17 rfl ?_
  refine E_getRL dX11_filling_18 kF_X11_18 kY_11 (Or.inl ⟨_, rfl⟩) (l_0 hL) (k_0 hL) (r_0_1 hL) ?_
  refine E_iload_n dX11_filling_21 rfl ?_
  refine E_aload_n dX11_filling_22 rfl ?_
  refine E_getRL dX11_filling_23 kF_X11_11 kY_11 (Or.inr ⟨_, rfl⟩) (l_0 hL) (k_0 hL) (r_0_0 hL) ?_
  refine E_iconst (v := nI 0) dX11_filling_26 (by decide) ?_
  refine E_aaldL (v := _) dX11_filling_27 (l_1 hL) (k_1 hL) (by decide) (by decide) rfl (by omega) (by decide) (hB.f1 (f := 0) (by decide)) ?_
  refine E_getRL dX11_filling_28 kF_X11_163 kY_1 (Or.inr ⟨_, rfl⟩) (l_118 hL) (k_118 hL) (r_118_3 hL) ?_
  refine E_bipush (v := nI 20) dX11_filling_31 (by decide) ?_
  refine E_ialdL (v := nI (wSt c)) dX11_filling_33 (l_122 hL) (k_122 hL) rfl (by omega) (by decide) (hB.fwd (f := 0) (by decide) (q := 20) (by decide)) ?_
  refine E_callV4 (fr' := 5) (k1 := 0) (n1 := 0) (k2 := 0) (n2 := 0) dX11_filling_34 kO_X3_reckon kL_X11_270 (l_76 hL) (k_76 hL) ⟨by decide, rfl⟩ rfl rfl rfl rfl (by decide) (by decide) (by exact Nat.le_of_ble_eq_true rfl) rfl ?_
  refine sp_X3_reckon hQ hw (fun hm M2 hQ2 hF2 h1 h2 h7 => ?_) (fun hm M2 hQ2 hF2 h1 h7 => ?_)
  · have hL := hQ2.B.lay
    have hS2 := hQ2.S ((hF2.bk (by unfold lnR; omega)).trans h10)
    have hkd2 := hkd.trans (kq.of hF2 (fun a j z => by unfold lnR at z; omega) (fun _ _ z => z.elim))
    refine gKn ?_
    refine E_aload_n dX11_filling_37 rfl ?_
    refine E_getRL dX11_filling_38 kF_X11_55 kY_11 (Or.inl ⟨_, rfl⟩) (l_0 hL) (k_0 hL) (r_0_6 hL) ?_
    refine E_getRL dX11_filling_41 kF_X11_280 kY_3 (Or.inr ⟨_, rfl⟩) (l_76 hL) (k_76 hL) (r_76_0 hL) ?_
    refine E_iload_n dX11_filling_44 rfl ?_
    refine E_ialdL (v := fgV c p j) dX11_filling_45 (l_77 hL) (k_77 hL) rfl (by omega) (by decide) (h7 _ hj) ?_
    refine E_iret dX11_filling_46 (Or.inl rfl) ?_
    exact K1 j hj rfl hw _ _ hS2 hkd2
  · have hL := hQ2.B.lay
    have hS2 := hQ2.S ((hF2.bk (by unfold lnR; omega)).trans h10)
    have hkd2 := hkd.trans (kq.of hF2 (fun a j z => by unfold lnR at z; omega) (fun _ _ z => z.elim))
    refine gKn ?_
    refine E_aload_n dX11_filling_37 rfl ?_
    refine E_getRL dX11_filling_38 kF_X11_55 kY_11 (Or.inl ⟨_, rfl⟩) (l_0 hL) (k_0 hL) (r_0_6 hL) ?_
    refine E_getRL dX11_filling_41 kF_X11_280 kY_3 (Or.inr ⟨_, rfl⟩) (l_76 hL) (k_76 hL) (r_76_0 hL) ?_
    refine E_iload_n dX11_filling_44 rfl ?_
    refine E_ialdL (v := nI 0) dX11_filling_45 (l_77 hL) (k_77 hL) rfl (by omega) (by decide) (h7 _ hj) ?_
    refine E_iret dX11_filling_46 (Or.inl rfl) ?_
    have e : fgV c p j = nI 0 := by unfold fgV; exact cI_f hm
    rw [← e]
    exact K1 j hj rfl hw _ _ hS2 hkd2
