/-! the class: what tells it something -/
theorem bel_of {p : Int32} {n : Nat} (hn : n < 2 ^ 30) : iBel p n ↔ ¬ p < 0 ∧ p < nI n := by
  have e : (nI n - nI 1).toInt = (n : Int) - 1 := pk_sub_toInt hn (by decide)
  have e2 : (nI n).toInt = n := nI_toInt (by omega)
  unfold iBel iIn
  rw [Int32.le_iff_toInt_le, Int32.le_iff_toInt_le, Int32.lt_iff_toInt_lt, Int32.lt_iff_toInt_lt, e, e2, show (nI 0).toInt = 0 by decide, show (0 : Int32).toInt = 0 by decide]
  omega
theorem kS.st {c : Cf} {P π : Nat → Nat} {M : gM} (h : kB c P M) (hr : rK π M) : kS c P π (sI M 0 10 (nI 1)) :=
  ⟨h.mv (S := fun a j => a = 0 ∧ j = 10) (T := nT) (kf.refl.wr ⟨rfl, rfl⟩) (fun a j z => by unfold told; omega) (fun _ _ z => z.elim), hr, Or.inr mI_eq⟩
theorem kB.nxF {c : Cf} {P : Nat → Nat} {M : gM} (h : kB c P M) {v : Nat} (hv : v < 2) : kB (uN c 128 1 v) P (sI M 0 9 (nI v)) := by
  have hf : kf (fun a j => a = 0 ∧ j = 9) nT M (sI M 0 9 (nI v)) := kf.refl.wr ⟨rfl, rfl⟩
  refine h.of (gLay_sI h.lay) (h.wf.set (by decide) (by omega)) ?_ ⟨fun j hj => ⟨?_, ?_⟩, fun j hj => ?_, ?_, ?_⟩ (fun f hf2 => ?_) (fun f _ => by rw [cN_u, if_neg (by omega)])
  · show _ = nI (cN (uN c 128 1 v) 128 1)
    rw [cN_u, if_pos ⟨rfl, rfl⟩, mI_eq]
  · rw [cN_u, if_neg (by omega), mI_ne (by decide)]; exact h.sg hj
  · rw [cN_u, if_neg (by omega), mI_ne (by decide)]; exact h.ex hj
  · rw [cN_u, if_neg (by omega), mI_ne (by decide)]; exact h.lk hj
  · show _ = nI (cN (uN c 128 1 v) 128 14)
    rw [cN_u, if_neg (by omega), mI_ne (by decide)]; exact h.len
  · rw [cN_u, if_neg (by omega), mI_ne (by decide)]; exact h.tng
  · exact ((h.fc hf2).mv h.wf hf2 hf (fun a j z => by omega) (fun _ _ z => z.elim)).cg (fun a j q q2 => by rw [cN_u, if_neg (by omega)]) (fun j => rfl)
theorem kB.nxT {c : Cf} {P : Nat → Nat} {M : gM} (h : kB c P M) {v : Nat} (h1 : 1 ≤ v) (hv : v ≤ 2) : kB (uN c 128 17 v) P (sI M 2 4 (nI v)) := by
  have hf : kf (fun a j => a = 2 ∧ j = 4) nT M (sI M 2 4 (nI v)) := kf.refl.wr ⟨rfl, rfl⟩
  refine h.of (gLay_sI h.lay) (h.wf.set (by decide) (by omega)) ?_ ⟨fun j hj => ⟨?_, ?_⟩, fun j hj => ?_, ?_, ?_⟩ (fun f hf2 => ?_) (fun f _ => by rw [cN_u, if_neg (by omega)])
  · show _ = nI (cN (uN c 128 17 v) 128 1)
    rw [cN_u, if_neg (by omega), mI_ne (by decide)]; exact h.used
  · rw [cN_u, if_neg (by omega), mI_ne (by decide)]; exact h.sg hj
  · rw [cN_u, if_neg (by omega), mI_ne (by decide)]; exact h.ex hj
  · rw [cN_u, if_neg (by omega), mI_ne (by decide)]; exact h.lk hj
  · show _ = nI (cN (uN c 128 17 v) 128 14)
    rw [cN_u, if_neg (by omega), mI_nj (by decide)]; exact h.len
  · rw [cN_u, if_pos ⟨rfl, rfl⟩, mI_eq]
  · exact ((h.fc hf2).mv h.wf hf2 hf (fun a j z => by omega) (fun _ _ z => z.elim)).cg (fun a j q q2 => by rw [cN_u, if_neg (by omega)]) (fun j => rfl)
theorem kB.nxK {c : Cf} {P : Nat → Nat} {M : gM} (h : kB c P M) {k v : Nat} (hv : v ≤ 1) : kB (uN c 140 k v) P (sI M 5 k (nI v)) := by
  have hf : kf (fun a j => a = 5 ∧ j = k) nT M (sI M 5 k (nI v)) := kf.refl.wr ⟨rfl, rfl⟩
  refine h.of (gLay_sI h.lay) (h.wf.set (by decide) (by omega)) ?_ ⟨fun j hj => ⟨?_, ?_⟩, fun j hj => ?_, ?_, ?_⟩ (fun f hf2 => ?_) (fun f _ => by rw [cN_u, if_neg (by omega)])
  · show _ = nI (cN (uN c 140 k v) 128 1)
    rw [cN_u, if_neg (by omega), mI_ne (by decide)]; exact h.used
  · rw [cN_u, if_neg (by omega), mI_ne (by decide)]; exact h.sg hj
  · rw [cN_u, if_neg (by omega), mI_ne (by decide)]; exact h.ex hj
  · by_cases e : j = k
    · subst e; rw [cN_u, if_pos ⟨rfl, rfl⟩, mI_eq]
    · rw [cN_u, if_neg (by omega), mI_nj e]; exact h.lk hj
  · show _ = nI (cN (uN c 140 k v) 128 14)
    rw [cN_u, if_neg (by omega), mI_ne (by decide)]; exact h.len
  · rw [cN_u, if_neg (by omega), mI_ne (by decide)]; exact h.tng
  · exact ((h.fc hf2).mv h.wf hf2 hf (fun a j z => by omega) (fun _ _ z => z.elim)).cg (fun a j q q2 => by rw [cN_u, if_neg (by omega)]) (fun j => rfl)
theorem mkD_E {q : Int32} (h : q = -100 ∨ iClass q) : mkD (mkE q) = q := by
  unfold mkE
  by_cases e : q = -100
  · rw [cI_t e, mkD_0, e]
  · rw [cI_f e, mkD_t]
    exact (gN_ok (h.resolve_left e) (by decide)).1.symm
theorem kB.nxM {c : Cf} {P : Nat → Nat} {M : gM} (h : kB c P M) {f j v : Nat} {x : Int32} (hf : f < 2) (hj : j < 256) (hv : v ≤ 4) (hx : x = mkD v) : kB (uN c 137 (256 * f + j) v) P (sI M (fb f + 2) j x) := by
  have hw : WFc (uN c 137 (256 * f + j) v) := h.wf.set (by decide) (by omega)
  have hS : kf (fun a i => a = fb f + 2 ∧ i = j) nT M (sI M (fb f + 2) j x) := kf.refl.wr ⟨rfl, rfl⟩
  refine h.lkS hS hw (fun a i z => by unfold fb at z; omega) (fun a i q => by rw [cN_u, if_neg (by omega)]) (funext fun i => by rw [cN_u, if_neg (by omega)]) (fun f0 hf0 => ?_)
  obtain ⟨a1, a2, a3⟩ := h.fc hf0
  refine ⟨?_, fun q hq => ⟨?_, ?_, ?_⟩, fun j0 hj0 => ?_⟩
  · rw [cN_u, if_neg (by omega), hS.bk (by unfold fb; omega)]; exact a1
  · by_cases e : f0 = f ∧ q = j
    · obtain ⟨rfl, rfl⟩ := e
      rw [cN_u, if_pos ⟨rfl, rfl⟩, mI_eq, hx]
    · rw [cN_u, if_neg (by omega), hS.bk (by unfold fb; omega)]; exact (a2 q hq).1
  · rw [cN_u, if_neg (by omega), hS.bk (by unfold fb; omega)]; exact (a2 q hq).2.1
  · rw [cN_u, if_neg (by omega), hS.bk (by unfold fb; omega)]; exact (a2 q hq).2.2
  · rw [cN_u, if_neg (by omega)] at hj0
    obtain ⟨b1, b2⟩ := a3 j0 hj0
    refine ⟨b1, ?_⟩
    have hk2 := b2.mv (M' := sI M (fb f + 2) j x) (h.wf.lk _).2.2.2.2.2 (Nat.le_refl _) (fun _ _ => rfl) (fun a i q q2 => hS.bk (by unfold fb; omega)) (fun _ _ _ _ => rfl)
    refine (hk2.w.cg (c' := uN c 137 (256 * f + j) v) (fun a q q2 => by rw [cN_u, if_neg (by omega)]) (fun k w q q2 => rfl)).k (fun q hq => ?_)
    rw [hk2.tb hq, bgB_cg (c := c) (c' := uN c 137 (256 * f + j) v) (by rw [cN_u, if_neg (by omega)]) (by rw [cN_u, if_neg (by omega)]) (by rw [cN_u, if_neg (by omega)]) (fun k hk2 => rfl)]
theorem kB.nxW {c : Cf} {P : Nat → Nat} {M : gM} (h : kB c P M) {f j v : Nat} {x : Int32} (hf : f < 2) (hj : j < 256) (hv : v ≤ 100) (hx : x = nI v) : kB (uN c 139 (256 * f + j) v) P (sI M (fb f + 4) j x) := by
  have hw : WFc (uN c 139 (256 * f + j) v) := h.wf.set (by decide) (by omega)
  have hS : kf (fun a i => a = fb f + 4 ∧ i = j) nT M (sI M (fb f + 4) j x) := kf.refl.wr ⟨rfl, rfl⟩
  refine h.lkS hS hw (fun a i z => by unfold fb at z; omega) (fun a i q => by rw [cN_u, if_neg (by omega)]) (funext fun i => by rw [cN_u, if_neg (by omega)]) (fun f0 hf0 => ?_)
  obtain ⟨a1, a2, a3⟩ := h.fc hf0
  refine ⟨?_, fun q hq => ⟨?_, ?_, ?_⟩, fun j0 hj0 => ?_⟩
  · rw [cN_u, if_neg (by omega), hS.bk (by unfold fb; omega)]; exact a1
  · rw [cN_u, if_neg (by omega), hS.bk (by unfold fb; omega)]; exact (a2 q hq).1
  · rw [cN_u, if_neg (by omega), hS.bk (by unfold fb; omega)]; exact (a2 q hq).2.1
  · by_cases e : f0 = f ∧ q = j
    · obtain ⟨rfl, rfl⟩ := e
      rw [cN_u, if_pos ⟨rfl, rfl⟩, mI_eq, hx]
    · rw [cN_u, if_neg (by omega), hS.bk (by unfold fb; omega)]; exact (a2 q hq).2.2
  · rw [cN_u, if_neg (by omega)] at hj0
    obtain ⟨b1, b2⟩ := a3 j0 hj0
    refine ⟨b1, ?_⟩
    have hk2 := b2.mv (M' := sI M (fb f + 4) j x) (h.wf.lk _).2.2.2.2.2 (Nat.le_refl _) (fun _ _ => rfl) (fun a i q q2 => hS.bk (by unfold fb; omega)) (fun _ _ _ _ => rfl)
    refine (hk2.w.cg (c' := uN c 139 (256 * f + j) v) (fun a q q2 => by rw [cN_u, if_neg (by omega)]) (fun k w q q2 => rfl)).k (fun q hq => ?_)
    rw [hk2.tb hq, bgB_cg (c := c) (c' := uN c 139 (256 * f + j) v) (by rw [cN_u, if_neg (by omega)]) (by rw [cN_u, if_neg (by omega)]) (by rw [cN_u, if_neg (by omega)]) (fun k hk2 => rfl)]
set_option maxRecDepth 100000 in
set_option maxHeartbeats 4000000 in
theorem sp_X11_needSign {g : gG} {M : gM} {Q : Option Value ⊕ String → gM → Prop} (hst : (gl1 g).stackTraces = false) {c : Cf} {P : Nat → Nat} (hB : kB c P M) {p : Int32} (K1 : ∀ j, j < tl c → p = nI j → Q (.inl none) M) (K0 : ¬ iBel p (tl c) → Q (.inr "java/lang/IndexOutOfBoundsException") M) : E g 7 1 6 mX11_needSign 0 [.ref 1, .int p] [] M Q := by
  have hL := hB.lay
  have h16 : tl c ≤ 16 := hB.wf.tl
  have hb := bel_of (p := p) (n := tl c) (by omega)
  refine E_iload_n dX11_needSign_0 rfl ?_
  refine E_if_lt (tgt := 15) dX11_needSign_1 (by decide) (fun c_1 => ?_) (fun c_1 => ?_)
  · refine E_thI (text := "no such place") hst rfl rfl (gTW_at 628 (by decide +kernel)) dX11_needSign_15 dX11_needSign_18 dX11_needSign_19 dX11_needSign_21 dX11_needSign_24 (by decide) (by decide) (by decide) ?_
    exact K0 (fun z => by first | exact (hb.mp z).1 (by assumption) | exact absurd (hb.mp z).2 (by assumption))
  · refine E_iload_n dX11_needSign_4 rfl ?_
    refine E_aload_n dX11_needSign_5 rfl ?_
    refine E_getRL dX11_needSign_6 kF_X11_18 kY_11 (Or.inl ⟨_, rfl⟩) (l_0 hL) (k_0 hL) (r_0_1 hL) ?_
    refine E_getIL (v := nI (tl _)) dX11_needSign_9 kF_X11_179 kY_10 (Or.inl rfl) (l_2 hL) (k_2 hL) hB.len ?_
    refine E_icmp_lt (tgt := 25) dX11_needSign_12 (by decide) (fun c_12 => ?_) (fun c_12 => ?_)
    · refine E_vret dX11_needSign_25 rfl ?_
      obtain ⟨j, hj, ej⟩ := (iBel_iff (by omega)).mp (hb.mpr ⟨by assumption, by assumption⟩)
      exact K1 j hj ej
    · refine E_thI (text := "no such place") hst rfl rfl (gTW_at 628 (by decide +kernel)) dX11_needSign_15 dX11_needSign_18 dX11_needSign_19 dX11_needSign_21 dX11_needSign_24 (by decide) (by decide) (by decide) ?_
      exact K0 (fun z => by first | exact (hb.mp z).1 (by assumption) | exact absurd (hb.mp z).2 (by assumption))
set_option maxRecDepth 100000 in
set_option maxHeartbeats 4000000 in
theorem sp_X11_useFace {g : gG} {M : gM} {Q : Option Value ⊕ String → gM → Prop} (hst : (gl1 g).stackTraces = false) {c : Cf} {P π : Nat → Nat} (hS : kS c P π M) {p : Int32} (K1 : ¬ iIn p (nI 0) (nI 1) → Q (.inr "java/lang/IndexOutOfBoundsException") M) (K0 : iIn p (nI 0) (nI 1) → ∀ M', kS (uN c 128 1 (gN p)) P π M' → kd M M' → Q (.inl (some (.int (nI (fc0 c))))) M') : E g 7 1 6 mX11_useFace 0 [.ref 1, .int p, .null] [] M Q := by
  have hB := hS.1
  have hL := hB.lay
  have hf : fc0 c < 2 := hB.wf.fac
  refine E_iload_n dX11_useFace_0 rfl ?_
  refine E_if_lt (tgt := 9) dX11_useFace_1 (by decide) (fun c_1 => ?_) (fun c_1 => ?_)
  · refine E_thI (text := "no such face") hst rfl rfl (gTW_at 1292 (by decide +kernel)) dX11_useFace_9 dX11_useFace_12 dX11_useFace_13 dX11_useFace_15 dX11_useFace_18 (by decide) (by decide) (by decide) ?_
    exact K1 (by (try simp only [ltI, ge0, ge3, ge12, ge4, ge256, ge306, ge45, ge2, ge6] at *); grind)
  · refine E_iload_n dX11_useFace_4 rfl ?_
    refine E_iconst (v := nI 2) dX11_useFace_5 (by decide) ?_
    refine E_icmp_lt (tgt := 19) dX11_useFace_6 (by decide) (fun c_6 => ?_) (fun c_6 => ?_)
    · have hp : iIn p (nI 0) (nI 1) := (by (try simp only [ltI, ge0, ge3, ge12, ge4, ge256, ge306, ge45, ge2, ge6] at *); grind)
      obtain ⟨v, hv0, hv, rfl⟩ := iIn_of hp (by decide) (by decide)
      refine E_aload_n dX11_useFace_19 rfl ?_
      refine E_getIL (v := nI (fc0 c)) dX11_useFace_20 kF_X11_69 kY_11 (Or.inl rfl) (l_0 hL) (k_0 hL) hB.used ?_
      refine E_istore_n dX11_useFace_23 (Nat.le_of_ble_eq_true rfl) (by decide) rfl ?_
      refine E_aload_n dX11_useFace_24 rfl ?_
      refine E_iload_n dX11_useFace_25 rfl ?_
      refine E_putI dX11_useFace_26 kF_X11_69 kY_11 (Or.inl rfl) (l_0 hL) (k_0 hL) (Or.inl rfl) ?_
      refine E_iload_n dX11_useFace_29 rfl ?_
      refine E_iret dX11_useFace_30 (Or.inl rfl) ?_
      have eg : gN (nI v) = v := gN_nI (by omega)
      refine K0 hp _ ?_ (kd.wr (by decide))
      rw [eg]
      refine ⟨hB.nxF (by omega), hS.2.1, ?_⟩
      rcases hS.2.2 with ⟨q1, q2⟩ | q
      · refine Or.inl ⟨(mI_nj (by decide)).trans q1, ?_⟩
        rw [pgOK_U]
        exact ⟨q2.1.mv (S := fun a j => a = 0 ∧ j = 9) (T := nT) (kf.refl.wr ⟨rfl, rfl⟩) (fun x j z => by omega), q2.2.mv (S := fun a j => a = 0 ∧ j = 9) (T := nT) (kf.refl.wr ⟨rfl, rfl⟩) (fun x j z => by omega)⟩
      · exact Or.inr ((mI_nj (by decide)).trans q)
    · refine E_thI (text := "no such face") hst rfl rfl (gTW_at 1292 (by decide +kernel)) dX11_useFace_9 dX11_useFace_12 dX11_useFace_13 dX11_useFace_15 dX11_useFace_18 (by decide) (by decide) (by decide) ?_
      exact K1 (by (try simp only [ltI, ge0, ge3, ge12, ge4, ge256, ge306, ge45, ge2, ge6] at *); grind)
set_option maxRecDepth 100000 in
set_option maxHeartbeats 4000000 in
theorem sp_X11_setMark {g : gG} {M : gM} {Q : Option Value ⊕ String → gM → Prop} (hst : (gl1 g).stackTraces = false) {c : Cf} {P π : Nat → Nat} (hS : kS c P π M) {p q : Int32} (K1 : ¬ iGlyph p → Q (.inr "java/lang/IndexOutOfBoundsException") M) (K2 : iGlyph p → ¬ (q = -100 ∨ iClass q) → Q (.inr "java/lang/IllegalArgumentException") M) (K0 : ∀ j, j < 256 → p = nI j → (q = -100 ∨ iClass q) → ∀ M', kS (uN c 137 (256 * fc0 c + j) (mkE q)) P π M' → kd M M' → Q (.inl (some (.int (mkD (cN c 137 (256 * fc0 c + j)))))) M') : E g 7 1 6 mX11_setMark 0 [.ref 1, .int p, .int q, .null] [] M Q := by
  have hB := hS.1
  have hL := hB.lay
  have hf : fc0 c < 2 := hB.wf.fac
  refine E_iload_n dX11_setMark_0 rfl ?_
  refine E_callS1 (fr' := 1) (k1 := 0) (n1 := 0) (k2 := 1) (n2 := 6) dX11_setMark_1 kO_X11_isGlyph kL_X11_140 rfl (by decide) (by decide) (by exact Nat.le_of_ble_eq_true rfl) (Or.inl rfl) rfl ?_
  refine sp_X11_isGlyph ?_
  refine gKv ?_
  refine E_if_ne_b (tgt := 17) dX11_setMark_4 (by decide) (fun c_4 => ?_) (fun c_4 => ?_)
  · refine E_iload_n dX11_setMark_17 rfl ?_
    refine E_bipush (v := -100) dX11_setMark_18 (by decide) ?_
    refine E_icmp_eq (tgt := 42) dX11_setMark_20 (by decide) (fun c_20 => ?_) (fun c_20 => ?_)
    · have hq : q = -100 ∨ iClass q := (by (try simp only [ltI, ge0, ge3, ge12, ge4, ge256, ge306, ge45, ge2, ge6] at *); grind)
      obtain ⟨j, hj, rfl⟩ := iGl_of c_4
      refine E_aload_n dX11_setMark_42 rfl ?_
      refine E_getRL dX11_setMark_43 kF_X11_11 kY_11 (Or.inr ⟨_, rfl⟩) (l_0 hL) (k_0 hL) (r_0_0 hL) ?_
      refine E_aload_n dX11_setMark_46 rfl ?_
      refine E_getIL (v := nI (fc0 c)) dX11_setMark_47 kF_X11_69 kY_11 (Or.inl rfl) (l_0 hL) (k_0 hL) hB.used ?_
      refine E_aaldL (v := _) dX11_setMark_50 (l_1 hL) (k_1 hL) (by decide) (by decide) rfl (by omega) (by decide) (hB.f1 hf) ?_
      refine E_getRL dX11_setMark_51 kF_X11_148 kY_1 (Or.inr ⟨_, rfl⟩) (hB.flt0 hf) (hB.fk0 hf) (hB.fr1 hf) ?_
      refine E_iload_n dX11_setMark_54 rfl ?_
      refine E_ialdL (v := _) dX11_setMark_55 (hB.flt hf (i := 2) (by decide)) (hB.fk2 hf) rfl (by omega) (by decide) (hB.fmk hf (by omega)) ?_
      refine E_istore_n dX11_setMark_56 (Nat.le_of_ble_eq_true rfl) (by decide) rfl ?_
      refine E_aload_n dX11_setMark_57 rfl ?_
      refine E_getRL dX11_setMark_58 kF_X11_11 kY_11 (Or.inr ⟨_, rfl⟩) (l_0 hL) (k_0 hL) (r_0_0 hL) ?_
      refine E_aload_n dX11_setMark_61 rfl ?_
      refine E_getIL (v := nI (fc0 c)) dX11_setMark_62 kF_X11_69 kY_11 (Or.inl rfl) (l_0 hL) (k_0 hL) hB.used ?_
      refine E_aaldL (v := _) dX11_setMark_65 (l_1 hL) (k_1 hL) (by decide) (by decide) rfl (by omega) (by decide) (hB.f1 hf) ?_
      refine E_getRL dX11_setMark_66 kF_X11_148 kY_1 (Or.inr ⟨_, rfl⟩) (hB.flt0 hf) (hB.fk0 hf) (hB.fr1 hf) ?_
      refine E_iload_n dX11_setMark_69 rfl ?_
      refine E_iload_n dX11_setMark_70 rfl ?_
      refine E_iast dX11_setMark_71 (hB.flt hf (i := 2) (by decide)) (hB.fk2 hf) rfl (by omega) (by decide) ?_
      refine E_aload_n dX11_setMark_72 rfl ?_
      refine E_iconst (v := nI 1) dX11_setMark_73 (by decide) ?_
      refine E_putI dX11_setMark_74 kF_X11_73 kY_11 (Or.inr ⟨rfl, by decide⟩) (l_0 hL) (k_0 hL) (Or.inl rfl) ?_
      refine E_iload_n dX11_setMark_77 rfl ?_
      refine E_iret dX11_setMark_78 (Or.inl rfl) ?_
      exact K0 j hj rfl hq _ (kS.st (hB.nxM hf hj (mkE_ok hq).2 (mkD_E hq).symm) hS.2.1) ((kd.wr (by unfold fb; omega)).trans (kd.wr (by decide)))
    · refine E_iload_n dX11_setMark_23 rfl ?_
      refine E_if_lt (tgt := 32) dX11_setMark_24 (by decide) (fun c_24 => ?_) (fun c_24 => ?_)
      · refine E_thA (text := "its is out of range") hst rfl rfl (gTW_at 1310 (by decide +kernel)) dX11_setMark_32 dX11_setMark_35 dX11_setMark_36 dX11_setMark_38 dX11_setMark_41 (by decide) (by decide) (by decide) ?_
        exact K2 c_4 (by (try simp only [ltI, ge0, ge3, ge12, ge4, ge256, ge306, ge45, ge2, ge6] at *); grind)
      · refine E_iload_n dX11_setMark_27 rfl ?_
        refine E_iconst (v := nI 4) dX11_setMark_28 (by decide) ?_
        refine E_icmp_lt (tgt := 42) dX11_setMark_29 (by decide) (fun c_29 => ?_) (fun c_29 => ?_)
        · have hq : q = -100 ∨ iClass q := (by (try simp only [ltI, ge0, ge3, ge12, ge4, ge256, ge306, ge45, ge2, ge6] at *); grind)
          obtain ⟨j, hj, rfl⟩ := iGl_of c_4
          refine E_aload_n dX11_setMark_42 rfl ?_
          refine E_getRL dX11_setMark_43 kF_X11_11 kY_11 (Or.inr ⟨_, rfl⟩) (l_0 hL) (k_0 hL) (r_0_0 hL) ?_
          refine E_aload_n dX11_setMark_46 rfl ?_
          refine E_getIL (v := nI (fc0 c)) dX11_setMark_47 kF_X11_69 kY_11 (Or.inl rfl) (l_0 hL) (k_0 hL) hB.used ?_
          refine E_aaldL (v := _) dX11_setMark_50 (l_1 hL) (k_1 hL) (by decide) (by decide) rfl (by omega) (by decide) (hB.f1 hf) ?_
          refine E_getRL dX11_setMark_51 kF_X11_148 kY_1 (Or.inr ⟨_, rfl⟩) (hB.flt0 hf) (hB.fk0 hf) (hB.fr1 hf) ?_
          refine E_iload_n dX11_setMark_54 rfl ?_
          refine E_ialdL (v := _) dX11_setMark_55 (hB.flt hf (i := 2) (by decide)) (hB.fk2 hf) rfl (by omega) (by decide) (hB.fmk hf (by omega)) ?_
          refine E_istore_n dX11_setMark_56 (Nat.le_of_ble_eq_true rfl) (by decide) rfl ?_
          refine E_aload_n dX11_setMark_57 rfl ?_
          refine E_getRL dX11_setMark_58 kF_X11_11 kY_11 (Or.inr ⟨_, rfl⟩) (l_0 hL) (k_0 hL) (r_0_0 hL) ?_
          refine E_aload_n dX11_setMark_61 rfl ?_
          refine E_getIL (v := nI (fc0 c)) dX11_setMark_62 kF_X11_69 kY_11 (Or.inl rfl) (l_0 hL) (k_0 hL) hB.used ?_
          refine E_aaldL (v := _) dX11_setMark_65 (l_1 hL) (k_1 hL) (by decide) (by decide) rfl (by omega) (by decide) (hB.f1 hf) ?_
          refine E_getRL dX11_setMark_66 kF_X11_148 kY_1 (Or.inr ⟨_, rfl⟩) (hB.flt0 hf) (hB.fk0 hf) (hB.fr1 hf) ?_
          refine E_iload_n dX11_setMark_69 rfl ?_
          refine E_iload_n dX11_setMark_70 rfl ?_
          refine E_iast dX11_setMark_71 (hB.flt hf (i := 2) (by decide)) (hB.fk2 hf) rfl (by omega) (by decide) ?_
          refine E_aload_n dX11_setMark_72 rfl ?_
          refine E_iconst (v := nI 1) dX11_setMark_73 (by decide) ?_
          refine E_putI dX11_setMark_74 kF_X11_73 kY_11 (Or.inr ⟨rfl, by decide⟩) (l_0 hL) (k_0 hL) (Or.inl rfl) ?_
          refine E_iload_n dX11_setMark_77 rfl ?_
          refine E_iret dX11_setMark_78 (Or.inl rfl) ?_
          exact K0 j hj rfl hq _ (kS.st (hB.nxM hf hj (mkE_ok hq).2 (mkD_E hq).symm) hS.2.1) ((kd.wr (by unfold fb; omega)).trans (kd.wr (by decide)))
        · refine E_thA (text := "its is out of range") hst rfl rfl (gTW_at 1310 (by decide +kernel)) dX11_setMark_32 dX11_setMark_35 dX11_setMark_36 dX11_setMark_38 dX11_setMark_41 (by decide) (by decide) (by decide) ?_
          exact K2 c_4 (by (try simp only [ltI, ge0, ge3, ge12, ge4, ge256, ge306, ge45, ge2, ge6] at *); grind)
  · refine E_thI (text := "no such glyph") hst rfl rfl (gTW_at 1084 (by decide +kernel)) dX11_setMark_7 dX11_setMark_10 dX11_setMark_11 dX11_setMark_13 dX11_setMark_16 (by decide) (by decide) (by decide) ?_
    exact K1 c_4
set_option maxRecDepth 100000 in
set_option maxHeartbeats 4000000 in
theorem sp_X11_setWidth {g : gG} {M : gM} {Q : Option Value ⊕ String → gM → Prop} (hst : (gl1 g).stackTraces = false) {c : Cf} {P π : Nat → Nat} (hS : kS c P π M) {p q : Int32} (K1 : ¬ iGlyph p → Q (.inr "java/lang/IndexOutOfBoundsException") M) (K2 : iGlyph p → ¬ iIn q (nI 0) (nI 100) → Q (.inr "java/lang/IllegalArgumentException") M) (K0 : ∀ j, j < 256 → p = nI j → iIn q (nI 0) (nI 100) → ∀ M', kS (uN c 139 (256 * fc0 c + j) (gN q)) P π M' → kd M M' → Q (.inl (some (.int (nI (cN c 139 (256 * fc0 c + j)))))) M') : E g 7 1 6 mX11_setWidth 0 [.ref 1, .int p, .int q, .null] [] M Q := by
  have hB := hS.1
  have hL := hB.lay
  have hf : fc0 c < 2 := hB.wf.fac
  refine E_iload_n dX11_setWidth_0 rfl ?_
  refine E_callS1 (fr' := 1) (k1 := 0) (n1 := 0) (k2 := 1) (n2 := 6) dX11_setWidth_1 kO_X11_isGlyph kL_X11_140 rfl (by decide) (by decide) (by exact Nat.le_of_ble_eq_true rfl) (Or.inl rfl) rfl ?_
  refine sp_X11_isGlyph ?_
  refine gKv ?_
  refine E_if_ne_b (tgt := 17) dX11_setWidth_4 (by decide) (fun c_4 => ?_) (fun c_4 => ?_)
  · refine E_iload_n dX11_setWidth_17 rfl ?_
    refine E_if_lt (tgt := 27) dX11_setWidth_18 (by decide) (fun c_18 => ?_) (fun c_18 => ?_)
    · refine E_thA (text := "width is out of range") hst rfl rfl (gTW_at 1184 (by decide +kernel)) dX11_setWidth_27 dX11_setWidth_30 dX11_setWidth_31 dX11_setWidth_33 dX11_setWidth_36 (by decide) (by decide) (by decide) ?_
      exact K2 c_4 (by (try simp only [ltI, ge0, ge3, ge12, ge4, ge256, ge306, ge45, ge2, ge6] at *); grind)
    · refine E_iload_n dX11_setWidth_21 rfl ?_
      refine E_bipush (v := nI 100) dX11_setWidth_22 (by decide) ?_
      refine E_icmp_le (tgt := 37) dX11_setWidth_24 (by decide) (fun c_24 => ?_) (fun c_24 => ?_)
      · have hq : iIn q (nI 0) (nI 100) := (by (try simp only [ltI, ge0, ge3, ge12, ge4, ge256, ge306, ge45, ge2, ge6] at *); grind)
        obtain ⟨j, hj, rfl⟩ := iGl_of c_4
        have hgq := gN_ok hq (by decide)
        refine E_aload_n dX11_setWidth_37 rfl ?_
        refine E_getRL dX11_setWidth_38 kF_X11_11 kY_11 (Or.inr ⟨_, rfl⟩) (l_0 hL) (k_0 hL) (r_0_0 hL) ?_
        refine E_aload_n dX11_setWidth_41 rfl ?_
        refine E_getIL (v := nI (fc0 c)) dX11_setWidth_42 kF_X11_69 kY_11 (Or.inl rfl) (l_0 hL) (k_0 hL) hB.used ?_
        refine E_aaldL (v := _) dX11_setWidth_45 (l_1 hL) (k_1 hL) (by decide) (by decide) rfl (by omega) (by decide) (hB.f1 hf) ?_
        refine E_getRL dX11_setWidth_46 kF_X11_163 kY_1 (Or.inr ⟨_, rfl⟩) (hB.flt0 hf) (hB.fk0 hf) (hB.fr3 hf) ?_
        refine E_iload_n dX11_setWidth_49 rfl ?_
        refine E_ialdL (v := nI (cN _ 139 _)) dX11_setWidth_50 (hB.flt hf (i := 4) (by decide)) (hB.fk4 hf) rfl (by omega) (by decide) (hB.fwd hf (by omega)) ?_
        refine E_istore_n dX11_setWidth_51 (Nat.le_of_ble_eq_true rfl) (by decide) rfl ?_
        refine E_aload_n dX11_setWidth_52 rfl ?_
        refine E_getRL dX11_setWidth_53 kF_X11_11 kY_11 (Or.inr ⟨_, rfl⟩) (l_0 hL) (k_0 hL) (r_0_0 hL) ?_
        refine E_aload_n dX11_setWidth_56 rfl ?_
        refine E_getIL (v := nI (fc0 c)) dX11_setWidth_57 kF_X11_69 kY_11 (Or.inl rfl) (l_0 hL) (k_0 hL) hB.used ?_
        refine E_aaldL (v := _) dX11_setWidth_60 (l_1 hL) (k_1 hL) (by decide) (by decide) rfl (by omega) (by decide) (hB.f1 hf) ?_
        refine E_getRL dX11_setWidth_61 kF_X11_163 kY_1 (Or.inr ⟨_, rfl⟩) (hB.flt0 hf) (hB.fk0 hf) (hB.fr3 hf) ?_
        refine E_iload_n dX11_setWidth_64 rfl ?_
        refine E_iload_n dX11_setWidth_65 rfl ?_
        refine E_iast dX11_setWidth_66 (hB.flt hf (i := 4) (by decide)) (hB.fk4 hf) rfl (by omega) (by decide) ?_
        refine E_aload_n dX11_setWidth_67 rfl ?_
        refine E_iconst (v := nI 1) dX11_setWidth_68 (by decide) ?_
        refine E_putI dX11_setWidth_69 kF_X11_73 kY_11 (Or.inr ⟨rfl, by decide⟩) (l_0 hL) (k_0 hL) (Or.inl rfl) ?_
        refine E_iload_n dX11_setWidth_72 rfl ?_
        refine E_iret dX11_setWidth_73 (Or.inl rfl) ?_
        exact K0 j hj rfl hq _ (kS.st (hB.nxW hf hj hgq.2 hgq.1) hS.2.1) ((kd.wr (by unfold fb; omega)).trans (kd.wr (by decide)))
      · refine E_thA (text := "width is out of range") hst rfl rfl (gTW_at 1184 (by decide +kernel)) dX11_setWidth_27 dX11_setWidth_30 dX11_setWidth_31 dX11_setWidth_33 dX11_setWidth_36 (by decide) (by decide) (by decide) ?_
        exact K2 c_4 (by (try simp only [ltI, ge0, ge3, ge12, ge4, ge256, ge306, ge45, ge2, ge6] at *); grind)
  · refine E_thI (text := "no such glyph") hst rfl rfl (gTW_at 1084 (by decide +kernel)) dX11_setWidth_7 dX11_setWidth_10 dX11_setWidth_11 dX11_setWidth_13 dX11_setWidth_16 (by decide) (by decide) (by decide) ?_
    exact K1 c_4
set_option maxRecDepth 100000 in
set_option maxHeartbeats 4000000 in
theorem sp_X11_setGroup {g : gG} {M : gM} {Q : Option Value ⊕ String → gM → Prop} (hst : (gl1 g).stackTraces = false) {c : Cf} {P π : Nat → Nat} (hS : kS c P π M) {p q : Int32} (K1 : ¬ (iGlyph p ∧ iIn q (nI 0) (nI 5)) → Q (.inr "java/lang/IndexOutOfBoundsException") M) (K0 : ∀ j, j < 256 → p = nI j → iIn q (nI 0) (nI 5) → ∀ M', kS (uN c 138 (256 * fc0 c + j) (gN q)) P π M' → kd M M' → Q (.inl (some (.int (nI (cN c 138 (256 * fc0 c + j)))))) M') : E g 7 1 6 mX11_setGroup 0 [.ref 1, .int p, .int q, .null] [] M Q := by
  have hB := hS.1
  have hL := hB.lay
  have hf : fc0 c < 2 := hB.wf.fac
  refine E_iload_n dX11_setGroup_0 rfl ?_
  refine E_callS1 (fr' := 1) (k1 := 0) (n1 := 0) (k2 := 1) (n2 := 6) dX11_setGroup_1 kO_X11_isGlyph kL_X11_140 rfl (by decide) (by decide) (by exact Nat.le_of_ble_eq_true rfl) (Or.inl rfl) rfl ?_
  refine sp_X11_isGlyph ?_
  refine gKv ?_
  refine E_if_ne_b (tgt := 17) dX11_setGroup_4 (by decide) (fun c_4 => ?_) (fun c_4 => ?_)
  · refine E_iload_n dX11_setGroup_17 rfl ?_
    refine E_if_lt (tgt := 27) dX11_setGroup_18 (by decide) (fun c_18 => ?_) (fun c_18 => ?_)
    · refine E_thI (text := "no such group") hst rfl rfl (gTW_at 1318 (by decide +kernel)) dX11_setGroup_27 dX11_setGroup_30 dX11_setGroup_31 dX11_setGroup_33 dX11_setGroup_36 (by decide) (by decide) (by decide) ?_
      exact K1 (fun z => by first | exact c_4 z.1 | (have z2 := z.2; (try simp only [ltI, ge0, ge6] at *); grind))
    · refine E_iload_n dX11_setGroup_21 rfl ?_
      refine E_bipush (v := nI 6) dX11_setGroup_22 (by decide) ?_
      refine E_icmp_lt (tgt := 37) dX11_setGroup_24 (by decide) (fun c_24 => ?_) (fun c_24 => ?_)
      · have hq : iIn q (nI 0) (nI 5) := (by (try simp only [ltI, ge0, ge3, ge12, ge4, ge256, ge306, ge45, ge2, ge6] at *); grind)
        obtain ⟨j, hj, rfl⟩ := iGl_of c_4
        obtain ⟨v, hv0, hv, rfl⟩ := iIn_of hq (by decide) (by decide)
        have K0 := K0 j hj rfl hq
        rw [gN_nI (by omega)] at K0
        refine E_aload_n dX11_setGroup_37 rfl ?_
        refine E_getRL dX11_setGroup_38 kF_X11_11 kY_11 (Or.inr ⟨_, rfl⟩) (l_0 hL) (k_0 hL) (r_0_0 hL) ?_
        refine E_aload_n dX11_setGroup_41 rfl ?_
        refine E_getIL (v := nI (fc0 c)) dX11_setGroup_42 kF_X11_69 kY_11 (Or.inl rfl) (l_0 hL) (k_0 hL) hB.used ?_
        refine E_aaldL (v := _) dX11_setGroup_45 (l_1 hL) (k_1 hL) (by decide) (by decide) rfl (by omega) (by decide) (hB.f1 hf) ?_
        refine E_getRL dX11_setGroup_46 kF_X11_154 kY_1 (Or.inr ⟨_, rfl⟩) (hB.flt0 hf) (hB.fk0 hf) (hB.fr2 hf) ?_
        refine E_iload_n dX11_setGroup_49 rfl ?_
        refine E_ialdL (v := nI (cN _ 138 _)) dX11_setGroup_50 (hB.flt hf (i := 3) (by decide)) (hB.fk3 hf) rfl (by omega) (by decide) (hB.fgr hf (by omega)) ?_
        refine E_istore_n dX11_setGroup_51 (Nat.le_of_ble_eq_true rfl) (by decide) rfl ?_
        refine E_aload_n dX11_setGroup_52 rfl ?_
        refine E_getRL dX11_setGroup_53 kF_X11_11 kY_11 (Or.inr ⟨_, rfl⟩) (l_0 hL) (k_0 hL) (r_0_0 hL) ?_
        refine E_aload_n dX11_setGroup_56 rfl ?_
        refine E_getIL (v := nI (fc0 c)) dX11_setGroup_57 kF_X11_69 kY_11 (Or.inl rfl) (l_0 hL) (k_0 hL) hB.used ?_
        refine E_aaldL (v := _) dX11_setGroup_60 (l_1 hL) (k_1 hL) (by decide) (by decide) rfl (by omega) (by decide) (hB.f1 hf) ?_
        refine E_iload_n dX11_setGroup_61 rfl ?_
        refine E_iload_n dX11_setGroup_62 rfl ?_
        refine E_callV2 (fr' := 2) (k1 := 0) (n1 := 0) (k2 := 1) (n2 := 6) dX11_setGroup_63 kO_X1_regroup kL_X11_157 (hB.flt0 hf) (hB.fk0 hf) ⟨by decide, rfl⟩ rfl rfl (by decide) (by decide) (by exact Nat.le_of_ble_eq_true rfl) rfl ?_
        refine sp_X1_regroup hB hf hj hv (fun M1 hB1 hF1 => ?_)
        have hL := hB1.lay
        refine gKn ?_
        refine E_aload_n dX11_setGroup_66 rfl ?_
        refine E_iconst (v := nI 1) dX11_setGroup_67 (by decide) ?_
        refine E_putI dX11_setGroup_68 kF_X11_73 kY_11 (Or.inr ⟨rfl, by decide⟩) (l_0 hL) (k_0 hL) (Or.inl rfl) ?_
        refine E_iload_n dX11_setGroup_71 rfl ?_
        refine E_iret dX11_setGroup_72 (Or.inl rfl) ?_
        refine K0 _ (kS.st hB1 ⟨fun i hi => ?_, hS.2.1.2⟩) ((kd.of hF1 (fun a i z => ?_) (fun _ _ z => z.elim)).trans (kd.wr (by decide)))
        · exact ⟨(hS.2.1.1 i hi).1, (hF1.bkR (fun z => z)).trans (hS.2.1.1 i hi).2⟩
        · obtain ⟨z1, z2 | ⟨k, k1, k2⟩⟩ := z
          · unfold fb at z2; omega
          · have := (hB.kl hf k1).ge; omega
      · refine E_thI (text := "no such group") hst rfl rfl (gTW_at 1318 (by decide +kernel)) dX11_setGroup_27 dX11_setGroup_30 dX11_setGroup_31 dX11_setGroup_33 dX11_setGroup_36 (by decide) (by decide) (by decide) ?_
        exact K1 (fun z => by first | exact c_4 z.1 | (have z2 := z.2; (try simp only [ltI, ge0, ge6] at *); grind))
  · refine E_thI (text := "no such glyph") hst rfl rfl (gTW_at 1084 (by decide +kernel)) dX11_setGroup_7 dX11_setGroup_10 dX11_setGroup_11 dX11_setGroup_13 dX11_setGroup_16 (by decide) (by decide) (by decide) ?_
    exact K1 (fun z => by first | exact c_4 z.1 | (have z2 := z.2; (try simp only [ltI, ge0, ge6] at *); grind))
set_option maxRecDepth 100000 in
set_option maxHeartbeats 4000000 in
theorem sp_X11_lack {g : gG} {M : gM} {Q : Option Value ⊕ String → gM → Prop} (hst : (gl1 g).stackTraces = false) {c : Cf} {P π : Nat → Nat} (hS : kS c P π M) {p : Int32} (K1 : ¬ iSign p → Q (.inr "java/lang/IllegalArgumentException") M) (K0 : ∀ j, j < 45 → p = nI j → iSign p → ∀ M', kS (uN c 140 j (1 - cN c 140 j)) P π M' → kd M M' → Q (.inl (some (.int (nI (1 - cN c 140 j))))) M') : E g 7 1 6 mX11_lack 0 [.ref 1, .int p] [] M Q := by
  have hB := hS.1
  have hL := hB.lay
  have hf : fc0 c < 2 := hB.wf.fac
  refine E_iload_n dX11_lack_0 rfl ?_
  refine E_callS1 (fr' := 1) (k1 := 0) (n1 := 0) (k2 := 1) (n2 := 6) dX11_lack_1 kO_X11_isSign kL_X11_166 rfl (by decide) (by decide) (by exact Nat.le_of_ble_eq_true rfl) (Or.inl rfl) rfl ?_
  refine sp_X11_isSign ?_
  refine gKv ?_
  refine E_if_ne_b (tgt := 17) dX11_lack_4 (by decide) (fun c_4 => ?_) (fun c_4 => ?_)
  · obtain ⟨j, hj, rfl⟩ := iSi_of c_4
    have h1 := (hB.wf.gl j).2.2.2
    have K0 := K0 j hj rfl c_4
    refine E_aload_n dX11_lack_17 rfl ?_
    refine E_getRL dX11_lack_18 kF_X11_18 kY_11 (Or.inl ⟨_, rfl⟩) (l_0 hL) (k_0 hL) (r_0_1 hL) ?_
    refine E_getRL dX11_lack_21 kF_X11_171 kY_10 (Or.inr ⟨_, rfl⟩) (l_2 hL) (k_2 hL) (r_2_2 hL) ?_
    refine E_iload_n dX11_lack_24 rfl ?_
    refine E_aload_n dX11_lack_25 rfl ?_
    refine E_getRL dX11_lack_26 kF_X11_18 kY_11 (Or.inl ⟨_, rfl⟩) (l_0 hL) (k_0 hL) (r_0_1 hL) ?_
    refine E_getRL dX11_lack_29 kF_X11_171 kY_10 (Or.inr ⟨_, rfl⟩) (l_2 hL) (k_2 hL) (r_2_2 hL) ?_
    refine E_iload_n dX11_lack_32 rfl ?_
    refine E_zaldL (v := nI (cN _ 140 _)) dX11_lack_33 (l_5 hL) (k_5 hL) rfl (by omega) (by decide) (hB.lk (by omega)) ?_
    refine E_if_ne_n (tgt := 41) dX11_lack_34 (by decide) (by omega) (fun c_34 => ?_) (fun c_34 => ?_)
    · rw [show 1 - cN c 140 j = 0 by omega] at K0
      refine E_iconst (v := nI 0) dX11_lack_41 (by decide) ?_
      refine E_zast dX11_lack_42 (l_5 hL) (k_5 hL) rfl (by omega) (by decide) (by decide) ?_
      refine E_aload_n dX11_lack_43 rfl ?_
      refine E_iconst (v := nI 1) dX11_lack_44 (by decide) ?_
      refine E_putI dX11_lack_45 kF_X11_73 kY_11 (Or.inr ⟨rfl, by decide⟩) (l_0 hL) (k_0 hL) (Or.inl rfl) ?_
      refine E_aload_n dX11_lack_48 rfl ?_
      refine E_getRL dX11_lack_49 kF_X11_18 kY_11 (Or.inl ⟨_, rfl⟩) (l_0 hL) (k_0 hL) (r_0_1 hL) ?_
      refine E_getRL dX11_lack_52 kF_X11_171 kY_10 (Or.inr ⟨_, rfl⟩) (l_2 hL) (k_2 hL) (r_2_2 hL) ?_
      refine E_iload_n dX11_lack_55 rfl ?_
      refine E_zaldL (v := nI 0) dX11_lack_56 (l_5 hL) (k_5 hL) rfl (by omega) (by decide) ((mI_ne (by decide)).trans mI_eq) ?_
      refine E_iret dX11_lack_57 (Or.inr ⟨rfl, by decide⟩) ?_
      exact K0 _ (kS.st (hB.nxK (by decide)) hS.2.1) ((kd.wr (by decide)).trans (kd.wr (by decide)))
    · rw [show 1 - cN c 140 j = 1 by omega] at K0
      refine E_iconst (v := nI 1) dX11_lack_37 (by decide) ?_
      refine E_goto (tgt := 42) dX11_lack_38 (by decide) ?_
      refine E_zast dX11_lack_42 (l_5 hL) (k_5 hL) rfl (by omega) (by decide) (by decide) ?_
      refine E_aload_n dX11_lack_43 rfl ?_
      refine E_iconst (v := nI 1) dX11_lack_44 (by decide) ?_
      refine E_putI dX11_lack_45 kF_X11_73 kY_11 (Or.inr ⟨rfl, by decide⟩) (l_0 hL) (k_0 hL) (Or.inl rfl) ?_
      refine E_aload_n dX11_lack_48 rfl ?_
      refine E_getRL dX11_lack_49 kF_X11_18 kY_11 (Or.inl ⟨_, rfl⟩) (l_0 hL) (k_0 hL) (r_0_1 hL) ?_
      refine E_getRL dX11_lack_52 kF_X11_171 kY_10 (Or.inr ⟨_, rfl⟩) (l_2 hL) (k_2 hL) (r_2_2 hL) ?_
      refine E_iload_n dX11_lack_55 rfl ?_
      refine E_zaldL (v := nI 1) dX11_lack_56 (l_5 hL) (k_5 hL) rfl (by omega) (by decide) ((mI_ne (by decide)).trans mI_eq) ?_
      refine E_iret dX11_lack_57 (Or.inr ⟨rfl, by decide⟩) ?_
      exact K0 _ (kS.st (hB.nxK (by decide)) hS.2.1) ((kd.wr (by decide)).trans (kd.wr (by decide)))
  · refine E_thA (text := "no such sign") hst rfl rfl (gTW_at 620 (by decide +kernel)) dX11_lack_7 dX11_lack_10 dX11_lack_11 dX11_lack_13 dX11_lack_16 (by decide) (by decide) (by decide) ?_
    exact K1 c_4
set_option maxRecDepth 100000 in
set_option maxHeartbeats 4000000 in
theorem sp_X11_setTongue {g : gG} {M : gM} {Q : Option Value ⊕ String → gM → Prop} (hst : (gl1 g).stackTraces = false) {c : Cf} {P π : Nat → Nat} (hS : kS c P π M) {p : Int32} (K1 : ¬ iIn p (nI 1) (nI 2) → Q (.inr "java/lang/IllegalArgumentException") M) (K0 : iIn p (nI 1) (nI 2) → ∀ M', kS (uN c 128 17 (gN p)) P π M' → kd M M' → Q (.inl (some (.int (nI (cN c 128 17))))) M') : E g 7 1 6 mX11_setTongue 0 [.ref 1, .int p, .null] [] M Q := by
  have hB := hS.1
  have hL := hB.lay
  have hf : fc0 c < 2 := hB.wf.fac
  refine E_iload_n dX11_setTongue_0 rfl ?_
  refine E_iconst (v := nI 1) dX11_setTongue_1 (by decide) ?_
  refine E_icmp_lt (tgt := 10) dX11_setTongue_2 (by decide) (fun c_2 => ?_) (fun c_2 => ?_)
  · refine E_thA (text := "tongue is out of range") hst rfl rfl (gTW_at 547 (by decide +kernel)) dX11_setTongue_10 dX11_setTongue_13 dX11_setTongue_14 dX11_setTongue_16 dX11_setTongue_19 (by decide) (by decide) (by decide) ?_
    exact K1 (by (try simp only [ltI, ge0, ge3, ge12, ge4, ge256, ge306, ge45, ge2, ge6] at *); grind)
  · refine E_iload_n dX11_setTongue_5 rfl ?_
    refine E_iconst (v := nI 2) dX11_setTongue_6 (by decide) ?_
    refine E_icmp_le (tgt := 20) dX11_setTongue_7 (by decide) (fun c_7 => ?_) (fun c_7 => ?_)
    · have hp : iIn p (nI 1) (nI 2) := (by (try simp only [ltI, ge0, ge3, ge12, ge4, ge256, ge306, ge45, ge2, ge6] at *); grind)
      obtain ⟨v, hv0, hv, rfl⟩ := iIn_of hp (by decide) (by decide)
      have K0 := K0 hp
      rw [gN_nI (by omega)] at K0
      refine E_aload_n dX11_setTongue_20 rfl ?_
      refine E_getRL dX11_setTongue_21 kF_X11_18 kY_11 (Or.inl ⟨_, rfl⟩) (l_0 hL) (k_0 hL) (r_0_1 hL) ?_
      refine E_getIL (v := nI (cN _ 128 17)) dX11_setTongue_24 kF_X11_197 kY_10 (Or.inl rfl) (l_2 hL) (k_2 hL) hB.tng ?_
      refine E_istore_n dX11_setTongue_27 (Nat.le_of_ble_eq_true rfl) (by decide) rfl ?_
      refine E_aload_n dX11_setTongue_28 rfl ?_
      refine E_getRL dX11_setTongue_29 kF_X11_18 kY_11 (Or.inl ⟨_, rfl⟩) (l_0 hL) (k_0 hL) (r_0_1 hL) ?_
      refine E_iload_n dX11_setTongue_32 rfl ?_
      refine E_putI dX11_setTongue_33 kF_X11_197 kY_10 (Or.inl rfl) (l_2 hL) (k_2 hL) (Or.inl rfl) ?_
      refine E_aload_n dX11_setTongue_36 rfl ?_
      refine E_iconst (v := nI 1) dX11_setTongue_37 (by decide) ?_
      refine E_putI dX11_setTongue_38 kF_X11_73 kY_11 (Or.inr ⟨rfl, by decide⟩) (l_0 hL) (k_0 hL) (Or.inl rfl) ?_
      refine E_iload_n dX11_setTongue_41 rfl ?_
      refine E_iret dX11_setTongue_42 (Or.inl rfl) ?_
      exact K0 _ (kS.st (hB.nxT (by omega) (by omega)) hS.2.1) ((kd.wr (by decide)).trans (kd.wr (by decide)))
    · refine E_thA (text := "tongue is out of range") hst rfl rfl (gTW_at 547 (by decide +kernel)) dX11_setTongue_10 dX11_setTongue_13 dX11_setTongue_14 dX11_setTongue_16 dX11_setTongue_19 (by decide) (by decide) (by decide) ?_
      exact K1 (by (try simp only [ltI, ge0, ge3, ge12, ge4, ge256, ge306, ge45, ge2, ge6] at *); grind)
set_option maxRecDepth 100000 in
set_option maxHeartbeats 4000000 in
theorem sp_X11_insert {g : gG} {M : gM} {Q : Option Value ⊕ String → gM → Prop} (hst : (gl1 g).stackTraces = false) {c : Cf} {P π : Nat → Nat} (hS : kS c P π M) {p s : Int32} (K1 : ¬ iIn p (nI 0) (nI (tl c)) → Q (.inr "java/lang/IndexOutOfBoundsException") M) (K2 : iIn p (nI 0) (nI (tl c)) → ¬ iSign s → Q (.inr "java/lang/IllegalArgumentException") M) (K3 : iIn p (nI 0) (nI (tl c)) → iSign s → tl c = 16 → Q (.inr "java/lang/IllegalStateException") M) (K0 : ∀ j v, j ≤ tl c → p = nI j → v < 45 → s = nI v → iSign s → tl c < 16 → ∀ M', kS (nxI c j v) P π M' → kd M M' → Q (.inl (some (.int (nI (tl c + 1))))) M') : E g 7 1 6 mX11_insert 0 [.ref 1, .int p, .int s] [] M Q := by
  have hB := hS.1
  have hL := hB.lay
  have hf : fc0 c < 2 := hB.wf.fac
  have h16 : tl c ≤ 16 := hB.wf.tl
  refine E_iload_n dX11_insert_0 rfl ?_
  refine E_if_lt (tgt := 15) dX11_insert_1 (by decide) (fun c_1 => ?_) (fun c_1 => ?_)
  · refine E_thI (text := "no such place") hst rfl rfl (gTW_at 628 (by decide +kernel)) dX11_insert_15 dX11_insert_18 dX11_insert_19 dX11_insert_21 dX11_insert_24 (by decide) (by decide) (by decide) ?_
    exact K1 (by (try simp only [ltI, ge0, ge3, ge12, ge4, ge256, ge306, ge45, ge2, ge6] at *); grind)
  · refine E_iload_n dX11_insert_4 rfl ?_
    refine E_aload_n dX11_insert_5 rfl ?_
    refine E_getRL dX11_insert_6 kF_X11_18 kY_11 (Or.inl ⟨_, rfl⟩) (l_0 hL) (k_0 hL) (r_0_1 hL) ?_
    refine E_getIL (v := nI (tl _)) dX11_insert_9 kF_X11_179 kY_10 (Or.inl rfl) (l_2 hL) (k_2 hL) hB.len ?_
    refine E_icmp_le (tgt := 25) dX11_insert_12 (by decide) (fun c_12 => ?_) (fun c_12 => ?_)
    · refine E_iload_n dX11_insert_25 rfl ?_
      refine E_callS1 (fr' := 1) (k1 := 0) (n1 := 0) (k2 := 1) (n2 := 6) dX11_insert_26 kO_X11_isSign kL_X11_166 rfl (by decide) (by decide) (by exact Nat.le_of_ble_eq_true rfl) (Or.inl rfl) rfl ?_
      refine sp_X11_isSign ?_
      refine gKv ?_
      refine E_if_ne_b (tgt := 42) dX11_insert_29 (by decide) (fun c_29 => ?_) (fun c_29 => ?_)
      · have hp : iIn p (nI 0) (nI (tl c)) := (by (try simp only [ltI, ge0, ge3, ge12, ge4, ge256, ge306, ge45, ge2, ge6] at *); grind)
        obtain ⟨j, hj0, hj, rfl⟩ := iIn_of hp (by decide) (by omega)
        obtain ⟨v, hv, rfl⟩ := iSi_of c_29
        refine E_aload_n dX11_insert_42 rfl ?_
        refine E_getRL dX11_insert_43 kF_X11_18 kY_11 (Or.inl ⟨_, rfl⟩) (l_0 hL) (k_0 hL) (r_0_1 hL) ?_
        refine E_getIL (v := nI (tl _)) dX11_insert_46 kF_X11_179 kY_10 (Or.inl rfl) (l_2 hL) (k_2 hL) hB.len ?_
        refine E_bipush (v := nI 16) dX11_insert_49 (by decide) ?_
        refine E_icmp_lt_n (tgt := 64) dX11_insert_51 (by decide) (by omega) (by omega) (fun c_51 => ?_) (fun c_51 => ?_)
        · refine E_aload_n dX11_insert_64 rfl ?_
          refine E_getRL dX11_insert_65 kF_X11_18 kY_11 (Or.inl ⟨_, rfl⟩) (l_0 hL) (k_0 hL) (r_0_1 hL) ?_
          refine E_iload_n dX11_insert_68 rfl ?_
          refine E_iload_n dX11_insert_69 rfl ?_
          refine E_callV2 (fr' := 1) (k1 := 0) (n1 := 0) (k2 := 1) (n2 := 6) dX11_insert_70 kO_X10_putIn kL_X11_186 (l_2 hL) (k_2 hL) ⟨by decide, rfl⟩ rfl rfl (by decide) (by decide) (by exact Nat.le_of_ble_eq_true rfl) rfl ?_
          refine sp_X10_putIn hB hj (by omega) hv (fun M1 hB1 hF1 => ?_)
          have hL := hB1.lay
          refine gKn ?_
          refine E_aload_n dX11_insert_73 rfl ?_
          refine E_iconst (v := nI 1) dX11_insert_74 (by decide) ?_
          refine E_putI dX11_insert_75 kF_X11_73 kY_11 (Or.inr ⟨rfl, by decide⟩) (l_0 hL) (k_0 hL) (Or.inl rfl) ?_
          refine E_aload_n dX11_insert_78 rfl ?_
          refine E_getRL dX11_insert_79 kF_X11_18 kY_11 (Or.inl ⟨_, rfl⟩) (l_0 hL) (k_0 hL) (r_0_1 hL) ?_
          refine E_getIL (v := nI (tl (nxI c j v))) dX11_insert_82 kF_X11_179 kY_10 (Or.inl rfl) (l_2 hL) (k_2 hL) ((mI_ne (by decide)).trans hB1.len) ?_
          refine E_iret dX11_insert_85 (Or.inl rfl) ?_
          exact K0 j v hj rfl hv rfl c_29 (by omega) _ (kS.st hB1 ⟨fun i hi => ⟨(hS.2.1.1 i hi).1, (hF1.bkR (fun z => z)).trans (hS.2.1.1 i hi).2⟩, hS.2.1.2⟩) ((kd.of hF1 (fun a i z => by unfold txK at z; omega) (fun _ _ z => z.elim)).trans (kd.wr (by decide)))
        · refine E_thS (text := "the text is full") hst rfl rfl (gTW_at 629 (by decide +kernel)) dX11_insert_54 dX11_insert_57 dX11_insert_58 dX11_insert_60 dX11_insert_63 (by decide) (by decide) (by decide) ?_
          exact K3 hp c_29 (by omega)
      · refine E_thA (text := "no such sign") hst rfl rfl (gTW_at 620 (by decide +kernel)) dX11_insert_32 dX11_insert_35 dX11_insert_36 dX11_insert_38 dX11_insert_41 (by decide) (by decide) (by decide) ?_
        exact K2 (by (try simp only [ltI, ge0, ge3, ge12, ge4, ge256, ge306, ge45, ge2, ge6] at *); grind) c_29
    · refine E_thI (text := "no such place") hst rfl rfl (gTW_at 628 (by decide +kernel)) dX11_insert_15 dX11_insert_18 dX11_insert_19 dX11_insert_21 dX11_insert_24 (by decide) (by decide) (by decide) ?_
      exact K1 (by (try simp only [ltI, ge0, ge3, ge12, ge4, ge256, ge306, ge45, ge2, ge6] at *); grind)
set_option maxRecDepth 100000 in
set_option maxHeartbeats 4000000 in
theorem sp_X11_cut {g : gG} {M : gM} {Q : Option Value ⊕ String → gM → Prop} (hst : (gl1 g).stackTraces = false) {c : Cf} {P π : Nat → Nat} (hS : kS c P π M) {p : Int32} (K1 : ¬ iBel p (tl c) → Q (.inr "java/lang/IndexOutOfBoundsException") M) (K0 : ∀ j, j < tl c → p = nI j → ∀ M', kS (nxC c j) P π M' → kd M M' → Q (.inl (some (.int (nI (cN c 141 j))))) M') : E g 8 1 6 mX11_cut 0 [.ref 1, .int p, .null] [] M Q := by
  have hB := hS.1
  have hL := hB.lay
  have hf : fc0 c < 2 := hB.wf.fac
  refine E_aload_n dX11_cut_0 rfl ?_
  refine E_iload_n dX11_cut_1 rfl ?_
  refine E_callV1 (fr' := 7) (k1 := 1) (n1 := 6) (k2 := 0) (n2 := 0) dX11_cut_2 kO_X11_needSign kL_X11_189 (l_0 hL) (k_0 hL) ⟨by decide, rfl⟩ rfl (by decide) (by decide) (by exact Nat.le_of_ble_eq_true rfl) rfl ?_
  refine sp_X11_needSign hst hB (fun j hj ej => ?_) (fun hn => gKx rfl (K1 hn))
  refine gKn ?_
  subst ej
  refine E_aload_n dX11_cut_5 rfl ?_
  refine E_getRL dX11_cut_6 kF_X11_18 kY_11 (Or.inl ⟨_, rfl⟩) (l_0 hL) (k_0 hL) (r_0_1 hL) ?_
  refine E_iload_n dX11_cut_9 rfl ?_
  refine E_callV1 (fr' := 1) (k1 := 0) (n1 := 0) (k2 := 0) (n2 := 0) dX11_cut_10 kO_X10_takeOut kL_X11_193 (l_2 hL) (k_2 hL) ⟨by decide, rfl⟩ rfl (by decide) (by decide) (by exact Nat.le_of_ble_eq_true rfl) rfl ?_
  refine sp_X10_takeOut hB hj (fun M1 hB1 hF1 => ?_)
  have hL := hB1.lay
  refine gKv ?_
  refine E_istore_n dX11_cut_13 (Nat.le_of_ble_eq_true rfl) (by decide) rfl ?_
  refine E_aload_n dX11_cut_14 rfl ?_
  refine E_iconst (v := nI 1) dX11_cut_15 (by decide) ?_
  refine E_putI dX11_cut_16 kF_X11_73 kY_11 (Or.inr ⟨rfl, by decide⟩) (l_0 hL) (k_0 hL) (Or.inl rfl) ?_
  refine E_iload_n dX11_cut_19 rfl ?_
  refine E_iret dX11_cut_20 (Or.inl rfl) ?_
  exact K0 j hj rfl _ (kS.st hB1 ⟨fun i hi => ⟨(hS.2.1.1 i hi).1, (hF1.bkR (fun z => z)).trans (hS.2.1.1 i hi).2⟩, hS.2.1.2⟩) ((kd.of hF1 (fun a i z => by unfold txK at z; omega) (fun _ _ z => z.elim)).trans (kd.wr (by decide)))
set_option maxRecDepth 100000 in
set_option maxHeartbeats 4000000 in
theorem sp_X11_setExtra {g : gG} {M : gM} {Q : Option Value ⊕ String → gM → Prop} (hst : (gl1 g).stackTraces = false) {c : Cf} {P π : Nat → Nat} (hS : kS c P π M) {p q s : Int32} (K1 : ¬ (iBel p (tl c) ∧ iBel q (tl c) ∧ p ≤ q) → Q (.inr "java/lang/IndexOutOfBoundsException") M) (K2 : iBel p (tl c) ∧ iBel q (tl c) ∧ p ≤ q → ¬ iIn s (nI 0) (nI 3) → Q (.inr "java/lang/IllegalArgumentException") M) (K0 : ∀ i j v, i ≤ j → j < tl c → p = nI i → q = nI j → v ≤ 3 → s = nI v → ∀ M', kS (nxE c i j v) P π M' → kd M M' → Q (.inl (some (.int (nI (exC (cN c 142) i v (j + 1)))))) M') : E g 8 3 18 mX11_setExtra 0 [.ref 1, .int p, .int q, .int s] [] M Q := by
  have hB := hS.1
  have hL := hB.lay
  have hf : fc0 c < 2 := hB.wf.fac
  have h16 : tl c ≤ 16 := hB.wf.tl
  refine E_aload_n dX11_setExtra_0 rfl ?_
  refine E_iload_n dX11_setExtra_1 rfl ?_
  refine E_callV1 (fr' := 7) (k1 := 1) (n1 := 6) (k2 := 2) (n2 := 12) dX11_setExtra_2 kO_X11_needSign kL_X11_189 (l_0 hL) (k_0 hL) ⟨by decide, rfl⟩ rfl (by decide) (by decide) (by exact Nat.le_of_ble_eq_true rfl) rfl ?_
  refine sp_X11_needSign hst hB (fun i hi ei => ?_) (fun hn => gKx rfl (K1 (fun z => hn z.1)))
  refine gKn ?_
  refine E_aload_n dX11_setExtra_5 rfl ?_
  refine E_iload_n dX11_setExtra_6 rfl ?_
  refine E_callV1 (fr' := 7) (k1 := 1) (n1 := 6) (k2 := 1) (n2 := 6) dX11_setExtra_7 kO_X11_needSign kL_X11_189 (l_0 hL) (k_0 hL) ⟨by decide, rfl⟩ rfl (by decide) (by decide) (by exact Nat.le_of_ble_eq_true rfl) rfl ?_
  refine sp_X11_needSign hst hB (fun j hj ej => ?_) (fun hn => gKx rfl (K1 (fun z => hn z.2.1)))
  refine gKn ?_
  have hpi : iBel p (tl c) := (iBel_iff (by omega)).mpr ⟨i, hi, ei⟩
  have hqj : iBel q (tl c) := (iBel_iff (by omega)).mpr ⟨j, hj, ej⟩
  refine E_iload_n dX11_setExtra_10 rfl ?_
  refine E_iload_n dX11_setExtra_11 rfl ?_
  refine E_icmp_ge (tgt := 25) dX11_setExtra_12 (by decide) (fun c_12 => ?_) (fun c_12 => ?_)
  · refine E_iload_n dX11_setExtra_25 rfl ?_
    refine E_if_lt (tgt := 34) dX11_setExtra_26 (by decide) (fun c_26 => ?_) (fun c_26 => ?_)
    · refine E_thA (text := "value is out of range") hst rfl rfl (gTW_at 664 (by decide +kernel)) dX11_setExtra_34 dX11_setExtra_37 dX11_setExtra_38 dX11_setExtra_40 dX11_setExtra_43 (by decide) (by decide) (by decide) ?_
      exact K2 ⟨hpi, hqj, by (try simp only [ltI] at *); grind⟩ (by (try simp only [ltI, ge0, ge3, ge12, ge4, ge256, ge306, ge45, ge2, ge6] at *); grind)
    · refine E_iload_n dX11_setExtra_29 rfl ?_
      refine E_iconst (v := nI 3) dX11_setExtra_30 (by decide) ?_
      refine E_icmp_le (tgt := 44) dX11_setExtra_31 (by decide) (fun c_31 => ?_) (fun c_31 => ?_)
      · have hpq : p ≤ q := by (try simp only [ltI] at *); grind
        have hs : iIn s (nI 0) (nI 3) := (by (try simp only [ltI, ge0, ge3, ge12, ge4, ge256, ge306, ge45, ge2, ge6] at *); grind)
        obtain ⟨v, hv0, hv, rfl⟩ := iIn_of hs (by decide) (by decide)
        subst ei; subst ej
        have hij : i ≤ j := (nI_leI (by omega) (by omega)).mp hpq
        have hS1 : kS c P π (sI M 0 10 (nI 1)) := kS.st hB hS.2.1
        have hB := hS1.1
        have hS := hS1
        have hL := hB.lay
        refine E_aload_n dX11_setExtra_44 rfl ?_
        refine E_iconst (v := nI 1) dX11_setExtra_45 (by decide) ?_
        refine E_putI dX11_setExtra_46 kF_X11_73 kY_11 (Or.inr ⟨rfl, by decide⟩) (l_0 hL) (k_0 hL) (Or.inl rfl) ?_
        refine E_aload_n dX11_setExtra_49 rfl ?_
        refine E_getRL dX11_setExtra_50 kF_X11_18 kY_11 (Or.inl ⟨_, rfl⟩) (l_0 hL) (k_0 hL) (r_0_1 hL) ?_
        refine E_iload_n dX11_setExtra_53 rfl ?_
        refine E_iload_n dX11_setExtra_54 rfl ?_
        refine E_iload_n dX11_setExtra_55 rfl ?_
        refine E_callV3 (fr' := 1) (k1 := 0) (n1 := 0) (k2 := 1) (n2 := 6) dX11_setExtra_56 kO_X10_giveExtra kL_X11_204 (l_2 hL) (k_2 hL) ⟨by decide, rfl⟩ rfl rfl rfl (by decide) (by decide) (by exact Nat.le_of_ble_eq_true rfl) rfl ?_
        refine E_room (Nat.le_refl _) (Nat.zero_le _) (Nat.zero_le _) (sp_X10_giveExtra hB hij hj hv (fun M1 hB1 hF1 => ?_))
        refine gKv ?_
        refine E_iret dX11_setExtra_59 (Or.inl rfl) ?_
        refine K0 i j v hij hj rfl rfl hv rfl M1 ⟨hB1, ⟨fun i hi => ⟨(hS.2.1.1 i hi).1, (hF1.bkR (fun z => z)).trans (hS.2.1.1 i hi).2⟩, hS.2.1.2⟩, Or.inr ((hF1.bk (by unfold txK; omega)).trans mI_eq)⟩ ((kd.wr (by decide)).trans (kd.of hF1 (fun a i z => by unfold txK at z; omega) (fun _ _ z => z.elim)))
      · refine E_thA (text := "value is out of range") hst rfl rfl (gTW_at 664 (by decide +kernel)) dX11_setExtra_34 dX11_setExtra_37 dX11_setExtra_38 dX11_setExtra_40 dX11_setExtra_43 (by decide) (by decide) (by decide) ?_
        exact K2 ⟨hpi, hqj, by (try simp only [ltI] at *); grind⟩ (by (try simp only [ltI, ge0, ge3, ge12, ge4, ge256, ge306, ge45, ge2, ge6] at *); grind)
  · refine E_thI (text := "to is below from") hst rfl rfl (gTW_at 663 (by decide +kernel)) dX11_setExtra_15 dX11_setExtra_18 dX11_setExtra_19 dX11_setExtra_21 dX11_setExtra_24 (by decide) (by decide) (by decide) ?_
    exact K1 (fun z => by have z3 := z.2.2; (try simp only [ltI] at *); grind)
