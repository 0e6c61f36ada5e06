/-! the class: faces, changed -/
theorem bgN_cg {P R : Nat → Prop} : ∀ {n : Nat}, (∀ k, k < n → (P k ↔ R k)) → bgN P n = bgN R n
  | 0, _ => rfl
  | n + 1, h => by
    have ih := bgN_cg (P := P) (R := R) (n := n) (fun k hk => h k (by omega))
    simp only [bgN]
    rw [ih, cI_congr (h n (by omega))]
theorem bgB_cg {c c' : Cf} {f l q : Nat} (e135 : cN c' 135 l = cN c 135 l) (e130 : cN c' 130 l = cN c 130 l) (e138 : cN c' 138 (256 * f + q) = cN c 138 (256 * f + q)) (er : ∀ k, k < cN c 135 l → rul c' l k (leadOf (cN c 130 l)) = rul c l k (leadOf (cN c 130 l))) : bgB c' f l q = bgB c f l q := by
  unfold bgB
  rw [e135]
  refine bgN_cg (fun k hk => ?_)
  unfold begP isAt
  rw [e130, e138, er k hk]
/-- a memory that differs in lookups alone: what was told else -/
theorem kB.lkS {c c' : Cf} {P : Nat → Nat} {M M' : gM} {S : Nat → Nat → Prop} (h : kB c P M) (hf : kf S nT M M') (hw : WFc c') (hs : ∀ a j, S a j → 118 ≤ a) (e : ∀ a j, ¬ (129 ≤ a ∧ a ≤ 139) → cN c' a j = cN c a j) (h129 : cN c' 129 = cN c 129) (hF : ∀ f, f < 2 → kFc c' P M' f) : kB c' P M' := by
  refine h.of (hf.lay (fun _ _ z => z.elim) h.lay) hw ?_ ⟨fun j hj => ⟨?_, ?_⟩, fun j hj => ?_, ?_, ?_⟩ hF (fun f _ => by rw [h129])
  · rw [hf.bk (fun z => absurd (hs _ _ z) (by decide)), h.used]
    show _ = nI (cN c' 128 1)
    rw [e 128 1 (by decide)]
  · rw [hf.bk (fun z => absurd (hs _ _ z) (by decide)), h.sg hj, e 141 j (by decide)]
  · rw [hf.bk (fun z => absurd (hs _ _ z) (by decide)), h.ex hj, e 142 j (by decide)]
  · rw [hf.bk (fun z => absurd (hs _ _ z) (by decide)), h.lk hj, e 140 j (by decide)]
  · rw [hf.bk (fun z => absurd (hs _ _ z) (by decide)), h.len]
    show _ = nI (cN c' 128 14)
    rw [e 128 14 (by decide)]
  · rw [hf.bk (fun z => absurd (hs _ _ z) (by decide)), h.tng, e 128 17 (by decide)]
theorem kB.dj {c : Cf} {P : Nat → Nat} {M : gM} (h : kB c P M) {f j f' j' : Nat} (hf : f < 2) (hf' : f' < 2) (hj : j < cN c 129 f) (hj' : j' < cN c 129 f') (ne : ¬ 12 * f + j = 12 * f' + j') : P (12 * f + j) + 11 ≤ P (12 * f' + j') ∨ P (12 * f' + j') + 11 ≤ P (12 * f + j) := h.2.2.2.2.2 f j f' j' hf hf' hj hj' ne
/-- a rule told -/
theorem kB.nxR {c : Cf} {P : Nat → Nat} {M M1 M' : gM} (h : kB c P M) {f j : Nat} (hf : f < 2) (hj : j < cN c 129 f) {r : Nat} (hr : r = cN c 135 (12 * f + j)) (h8 : r < 8) {x0 x1 x2 x3 x4 x5 : Int32} (hi : iRl (cN c 130 (12 * f + j)) x0 x1 x2 x3 x4 x5)
    (hk : kLw (nxR c (12 * f + j) r x0 x1 x2 x3 x4 x5) M1 (12 * f + j) (P (12 * f + j))) (h1 : kf (tlK (P (12 * f + j)) r) nT M M1) (h2 : kf (tbK (P (12 * f + j))) nT M1 M') (ht : ∀ q, q < 256 → mI M' (P (12 * f + j) + 10) q = nI (bgB (nxR c (12 * f + j) r x0 x1 x2 x3 x4 x5) f (12 * f + j) q)) : kB (nxR c (12 * f + j) r x0 x1 x2 x3 x4 x5) P M' := by
  have hw := nxR_wf h.wf hr h8 hi
  have hge : 139 ≤ P (12 * f + j) := (h.kl hf hj).ge
  have hS : kf (fun a i => tlK (P (12 * f + j)) r a i ∨ tbK (P (12 * f + j)) a i) nT M M' := (h1.mono (fun _ _ z => Or.inl z) (fun _ _ z => z)).trans (h2.mono (fun _ _ z => Or.inr z) (fun _ _ z => z))
  have hct := h.wf.ct f
  refine h.lkS hS hw (fun a i z => by unfold tlK tbK at z; omega) (fun a i q => by rw [nxR_N, if_neg (by omega)]) (funext fun i => by rw [nxR_N, if_neg (by omega)]) (fun f0 hf0 => ?_)
  have hct0 := h.wf.ct f0
  obtain ⟨a1, a2, a3⟩ := h.fc hf0
  refine ⟨?_, fun q hq => ⟨?_, ?_, ?_⟩, fun j0 hj0 => ?_⟩
  · rw [nxR_N, if_neg (by omega), hS.bk (by unfold tlK tbK fb; omega)]; exact a1
  · rw [nxR_N, if_neg (by omega), hS.bk (by unfold tlK tbK fb; omega)]; exact (a2 q hq).1
  · rw [nxR_N, if_neg (by omega), hS.bk (by unfold tlK tbK fb; omega)]; exact (a2 q hq).2.1
  · rw [nxR_N, if_neg (by omega), hS.bk (by unfold tlK tbK fb; omega)]; exact (a2 q hq).2.2
  · rw [nxR_N, if_neg (by omega)] at hj0
    obtain ⟨b1, b2⟩ := a3 j0 hj0
    refine ⟨(hS.bkR (fun z => z)).trans b1, ?_⟩
    by_cases e : 12 * f + j = 12 * f0 + j0
    · obtain rfl : f = f0 := by omega
      obtain rfl : j = j0 := by omega
      refine (hk.mv (by rw [nxR_N, if_pos ⟨rfl, rfl⟩]; omega) (Nat.le_of_eq h2.n.symm) (fun a _ => by rw [h2.k]) (fun a i q q2 => h2.bk (by unfold tbK; omega)) (fun a i q q2 => h2.bkR (fun z => z))).k (fun q hq => ?_)
      rw [show (12 * f + j) / 12 = f by omega]
      exact ht q hq
    · have hd := h.dj hf hf0 hj hj0 e
      have hge0 := b2.ge
      refine ((b2.w.mv (h.wf.lk _).2.2.2.2.2 (Nat.le_of_eq hS.n.symm) (fun a _ => by rw [hS.k]) (fun a i q q2 => hS.bk (by unfold tlK tbK; omega)) (fun a i q q2 => hS.bkR (fun z => z))).cg (fun a q q2 => by rw [nxR_N, if_neg (by omega)]) (fun k w q q2 => nxR_o (by have := (h.wf.lk (12 * f0 + j0)).2.2.2.2.2; omega) h8 q2 (by omega))).k (fun q hq => ?_)
      rw [hS.bk (by unfold tlK tbK; omega), b2.tb hq]
      rw [bgB_cg (by rw [nxR_N, if_neg (by omega)]) (by rw [nxR_N, if_neg (by omega)]) (by rw [nxR_N, if_neg (by omega)]) (fun k hk2 => nxR_o (by have := (h.wf.lk (12 * f0 + j0)).2.2.2.2.2; omega) h8 (by have := lead_b (cN c 130 (12 * f0 + j0)); omega) (by omega))]
/-- a group given -/
def rgK (c : Cf) (P : Nat → Nat) (f j a i : Nat) : Prop := i = j ∧ (a = fb f + 3 ∨ ∃ k, k < cN c 129 f ∧ a = P (12 * f + k) + 10)
theorem kB.nxG {c : Cf} {P : Nat → Nat} {M M' : gM} (h : kB c P M) {f j v : Nat} (hf : f < 2) (hj : j < 256) (hv : v ≤ 5) (hS : kf (rgK c P f j) nT M M') (hg : mI M' (fb f + 3) j = nI v) (ht : ∀ k, k < cN c 129 f → mI M' (P (12 * f + k) + 10) j = nI (bgB (uN c 138 (256 * f + j) v) f (12 * f + k) j)) : kB (uN c 138 (256 * f + j) v) P M' := by
  have hw : WFc (uN c 138 (256 * f + j) v) := h.wf.set (by decide) (by omega)
  have hge : ∀ k, k < cN c 129 f → 139 ≤ P (12 * f + k) := fun k hk => (h.kl hf hk).ge
  have nS : ∀ a i, (¬ a = fb f + 3 ∧ a < 149) ∨ ¬ i = j → ¬ rgK c P f j a i := fun a i q z => by
    obtain ⟨z1, z2 | ⟨k, k1, k2⟩⟩ := z
    · omega
    · have := hge k k1; omega
  have hct := h.wf.ct f
  refine h.lkS hS hw (fun a i z => ?_) (fun a i q => by rw [cN_u, if_neg (by omega)]) (funext fun i => by rw [cN_u, if_neg (by omega)]) (fun f0 hf0 => ?_)
  · obtain ⟨z1, z2 | ⟨k, k1, k2⟩⟩ := z
    · unfold fb at z2; omega
    · have := hge k k1; omega
  have hct0 := h.wf.ct f0
  obtain ⟨a1, a2, a3⟩ := h.fc hf0
  refine ⟨?_, fun q hq => ⟨?_, ?_, ?_⟩, fun j0 hj0 => ?_⟩
  · rw [cN_u, if_neg (by omega), hS.bk (nS _ _ (Or.inl (by unfold fb; omega)))]; exact a1
  · rw [cN_u, if_neg (by omega), hS.bk (nS _ _ (Or.inl (by unfold fb; omega)))]; exact (a2 q hq).1
  · by_cases e : f0 = f ∧ q = j
    · obtain ⟨rfl, rfl⟩ := e
      rw [cN_u, if_pos ⟨rfl, rfl⟩]; exact hg
    · rw [cN_u, if_neg (by omega), hS.bk (nS _ _ (by unfold fb; omega))]; exact (a2 q hq).2.1
  · rw [cN_u, if_neg (by omega), hS.bk (nS _ _ (Or.inl (by unfold fb; omega)))]; exact (a2 q hq).2.2
  · rw [cN_u, if_neg (by omega)] at hj0
    obtain ⟨b1, b2⟩ := a3 j0 hj0
    have hge0 := b2.ge
    have nT2 : ∀ a i, P (12 * f0 + j0) ≤ a → a < P (12 * f0 + j0) + 10 → ¬ rgK c P f j a i := fun a i q q2 z => by
      obtain ⟨z1, z2 | ⟨k, k1, k2⟩⟩ := z
      · unfold fb at z2; omega
      · by_cases e : 12 * f + k = 12 * f0 + j0
        · rw [e] at k2; omega
        · have := h.dj hf hf0 k1 hj0 e; omega
    refine ⟨(hS.bkR (fun z => z)).trans b1, ?_⟩
    refine ((b2.w.mv (h.wf.lk _).2.2.2.2.2 (Nat.le_of_eq hS.n.symm) (fun a _ => by rw [hS.k]) (fun a i q q2 => hS.bk (nT2 a i q q2)) (fun a i q q2 => hS.bkR (fun z => z))).cg (c' := uN c 138 (256 * f + j) v) (fun a q q2 => by rw [cN_u, if_neg (by omega)]) (fun k w q q2 => rfl)).k (fun q hq => ?_)
    rw [show (12 * f0 + j0) / 12 = f0 by omega]
    by_cases e : f0 = f ∧ q = j
    · obtain ⟨rfl, rfl⟩ := e
      exact ht j0 hj0
    · have hb := b2.tb hq
      rw [show (12 * f0 + j0) / 12 = f0 by omega] at hb
      rw [hS.bk (fun z => ?_), hb]
      · rw [bgB_cg (c := c) (c' := uN c 138 (256 * f + j) v) (by rw [cN_u, if_neg (by omega)]) (by rw [cN_u, if_neg (by omega)]) (by rw [cN_u, if_neg (by omega)]) (fun k hk2 => rfl)]
      · obtain ⟨z1, z2 | ⟨k, k1, k2⟩⟩ := z
        · unfold fb at z2; omega
        · by_cases e2 : 12 * f + k = 12 * f0 + j0
          · omega
          · have := h.dj hf hf0 k1 hj0 e2; omega
theorem sp_X4_beginsG {g : gG} {Q : Option Value ⊕ String → gM → Prop} {c : Cf} {M : gM} (hB : gF M) (hw : WFc c) {l p : Nat} (hk : kLw c M l p) {f q v : Nat} (hv : v = cN c 138 (256 * f + q)) (hq : q < 256) (K : Q (.inl (some (.int (nI (bgB c f l q))))) M) : E g 1 0 0 mX4_begins 0 [.ref (p + 1), .int (nI q), .int (nI v), .null, .null, .null] [] M Q := by
  subst hv; exact sp_X4_beginsW hB hw hk hq K
set_option maxRecDepth 100000 in
set_option maxHeartbeats 4000000 in
theorem lp_X1_regroup {g : gG} {Q : Option Value ⊕ String → gM → Prop} {c : Cf} {P : Nat → Nat} {M0 : gM} (h : kB c P M0) {f : Nat} (hf : f < 2) {j v : Nat} (hj : j < 256) (hv : v ≤ 5) (K : ∀ M', kB (uN c 138 (256 * f + j) v) P M' → kf (rgK c P f j) nT M0 M' → Q (.inl none) M') : ∀ i, i ≤ cN c 129 f → ∀ M v4, kf (rgK c P f j) nT M0 M → mI M (fb f + 3) j = nI v → (∀ k, k < i → mI M (P (12 * f + k) + 10) j = nI (bgB (uN c 138 (256 * f + j) v) f (12 * f + k) j)) → E g 2 0 0 mX1_regroup 17 [.ref (fb f + 1), .int (nI j), .int (nI v), .int (nI i), v4] [] M Q := by
  have hct := h.wf.ct f
  have hw : WFc (uN c 138 (256 * f + j) v) := h.wf.set (by decide) (by omega)
  refine lpUp (cN c 129 f) (fun i hi ih => ?_)
  intro M v4 hF hg h1
  have hB : gF M := hF.lay (fun _ _ z => z.elim) h.lay
  have hL : gLay M := hB
  have hge : ∀ k, k < cN c 129 f → 139 ≤ P (12 * f + k) := fun k hk => (h.kl hf hk).ge
  have hcn : mI M (fb f) 4 = nI (cN c 129 f) := (hF.bk (fun z => by
    obtain ⟨z1, z2 | ⟨k, k1, k2⟩⟩ := z
    · unfold fb at z2; omega
    · have := hge k k1; unfold fb at k2; omega)).trans (h.fcnt hf)
  have hlr : i < cN c 129 f → mR M (fb f + 1) i = P (12 * f + i) + 1 := fun q => (hF.bkR (fun z => z)).trans (h.flk hf q)
  have hk : i < cN c 129 f → kLw (uN c 138 (256 * f + j) v) M (12 * f + i) (P (12 * f + i)) := fun q =>
    ((h.kl hf q).w.mv (h.wf.lk _).2.2.2.2.2 (Nat.le_of_eq hF.n.symm) (fun a _ => by rw [hF.k]) (fun a k q1 q2 => hF.bk (fun z => by
      obtain ⟨z1, z2 | ⟨k0, k1, k2⟩⟩ := z
      · have := hge i q; unfold fb at z2; omega
      · by_cases e : 12 * f + k0 = 12 * f + i
        · rw [e] at k2; omega
        · have := h.dj hf hf k1 q e; omega)) (fun a k q1 q2 => hF.bkR (fun z => z))).cg (fun a q q2 => by rw [cN_u, if_neg (by omega)]) (fun k w q q2 => rfl)
  refine E_iload_n dX1_regroup_17 rfl ?_
  refine E_aload_n dX1_regroup_18 rfl ?_
  refine E_getIL (v := nI (cN c 129 f)) dX1_regroup_19 kF_X1_27 kY_1 (Or.inl rfl) (hB.flt0 hf) (hB.fk0 hf) hcn ?_
  refine E_icmp_ge_n (tgt := 58) dX1_regroup_22 (by decide) (by omega) (by omega) (fun c_22 => ?_) (fun c_22 => ?_)
  · refine E_vret dX1_regroup_58 rfl ?_
    obtain rfl : i = cN c 129 f := by omega
    exact K M (h.nxG hf hj hv hF hg h1) hF
  · refine E_aload_n dX1_regroup_25 rfl ?_
    refine E_getRL dX1_regroup_26 kF_X1_11 kY_1 (Or.inr ⟨_, rfl⟩) (hB.flt0 hf) (hB.fk0 hf) (hB.fr0 hf) ?_
    refine E_iload_n dX1_regroup_29 rfl ?_
    refine E_aaldL (v := _) dX1_regroup_30 (hB.flt hf (i := 1) (by decide)) (hB.fk1 hf) (by decide) (by decide) rfl (by omega) (by decide) (hlr (by assumption)) ?_
    refine E_astore dX1_regroup_31 (Nat.le_of_ble_eq_true rfl) (by decide) rfl ?_
    refine E_aload dX1_regroup_33 rfl ?_
    refine E_ifnull (tgt := 52) dX1_regroup_35 (by decide) (fun c0 => absurd c0 (Nat.succ_ne_zero _)) (fun _ => ?_)
    have hk := hk (by assumption)
    refine E_aload dX1_regroup_38 rfl ?_
    refine E_getRL dX1_regroup_40 kF_X1_38 kY_4 (Or.inr ⟨_, rfl⟩) (hk.lt0) (hk.kd) hk.r7 ?_
    refine E_iload_n dX1_regroup_43 rfl ?_
    refine E_aload dX1_regroup_44 rfl ?_
    refine E_iload_n dX1_regroup_46 rfl ?_
    refine E_iload_n dX1_regroup_47 rfl ?_
    refine E_callV2 (fr' := 1) (k1 := 0) (n1 := 0) (k2 := 0) (n2 := 0) dX1_regroup_48 kO_X4_begins kL_X1_41 (hk.lt0) (hk.kd) ⟨by decide, rfl⟩ rfl rfl (by decide) (by decide) (by exact Nat.le_of_ble_eq_true rfl) rfl ?_
    refine sp_X4_beginsG hB hw hk (f := f) (by rw [cN_u, if_pos ⟨rfl, rfl⟩]) hj ?_
    refine gKv ?_
    refine E_iast dX1_regroup_51 (hk.lt (i := 10) (by decide)) (hk.kdt) rfl (by omega) (by decide) ?_
    have hfn := hF.wr (a := P (12 * f + i) + 10) (k := j) (v := nI (bgB (uN c 138 (256 * f + j) v) f (12 * f + i) j)) ⟨rfl, Or.inr ⟨i, by assumption, rfl⟩⟩
    have hgi := hge i (by assumption)
    refine E_iinc_n (d := 1) dX1_regroup_52 rfl rfl rfl (by decide) rfl ?_
    refine E_goto (tgt := 17) dX1_regroup_55 (by decide) ?_
    refine ih (by omega) _ _ hfn ((mI_ne (by unfold fb; omega)).trans hg) (fun k hk2 => ?_)
    by_cases e : k = i
    · subst e; exact mI_eq
    · exact (mI_ne (by have := h.dj hf hf (j := k) (j' := i) (by omega) (by assumption) (by omega); omega)).trans (h1 k (by omega))
set_option maxRecDepth 100000 in
set_option maxHeartbeats 4000000 in
theorem sp_X1_regroup {g : gG} {Q : Option Value ⊕ String → gM → Prop} {c : Cf} {P : Nat → Nat} {M0 : gM} (h : kB c P M0) {f : Nat} (hf : f < 2) {j v : Nat} (hj : j < 256) (hv : v ≤ 5) (K : ∀ M', kB (uN c 138 (256 * f + j) v) P M' → kf (rgK c P f j) nT M0 M' → Q (.inl none) M') : E g 2 0 0 mX1_regroup 0 [.ref (fb f + 1), .int (nI j), .int (nI v), .null, .null] [] M0 Q := by
  have hB : gF M0 := h.lay
  have hL : gLay M0 := hB
  refine E_iload_n dX1_regroup_0 rfl ?_
  refine E_callS1 (fr' := 1) (k1 := 0) (n1 := 0) (k2 := 0) (n2 := 0) dX1_regroup_1 kO_X11_isGlyph kL_X1_45 rfl (by decide) (by decide) (by exact Nat.le_of_ble_eq_true rfl) (Or.inl rfl) rfl ?_
  refine sp_X11_isGlyphN hj ?_
  refine gKv ?_
  refine E_if_ne (tgt := 8) dX1_regroup_4 (by decide) (fun _ => ?_) (fun c0 => absurd (by decide) c0)
  refine E_aload_n dX1_regroup_8 rfl ?_
  refine E_getRL dX1_regroup_9 kF_X1_21 kY_1 (Or.inr ⟨_, rfl⟩) (hB.flt0 hf) (hB.fk0 hf) (hB.fr2 hf) ?_
  refine E_iload_n dX1_regroup_12 rfl ?_
  refine E_iload_n dX1_regroup_13 rfl ?_
  refine E_iast dX1_regroup_14 (hB.flt hf (i := 3) (by decide)) (hB.fk3 hf) rfl (by omega) (by decide) ?_
  refine E_iconst (v := nI 0) dX1_regroup_15 (by decide) ?_
  refine E_istore_n dX1_regroup_16 (Nat.le_of_ble_eq_true rfl) (by decide) rfl ?_
  exact lp_X1_regroup h hf hj hv K 0 (Nat.zero_le _) _ .null (kf.refl.wr ⟨rfl, Or.inl rfl⟩) mI_eq (fun k hk => absurd hk (Nat.not_lt_zero k))
