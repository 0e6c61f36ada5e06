/-! the class: what it was told, changed; the text -/
/-- the reference's part, and the law's, of a memory is kept -/
def kd (M M' : gM) : Prop := mN M ≤ mN M' ∧ (∀ a, a < mN M → mK M' a = mK M a) ∧ ∀ a j, 128 ≤ a → a ≤ 138 → mI M' a j = mI M a j ∧ mL M' a j = mL M a j ∧ mR M' a j = mR M a j
theorem kd.refl {M : gM} : kd M M := ⟨Nat.le_refl _, fun _ _ => rfl, fun _ _ _ _ => ⟨rfl, rfl, rfl⟩⟩
theorem kd.trans {M M' M'' : gM} (h : kd M M') (h2 : kd M' M'') : kd M M'' :=
  ⟨Nat.le_trans h.1 h2.1, fun a q => (h2.2.1 a (Nat.lt_of_lt_of_le q h.1)).trans (h.2.1 a q), fun a j q q2 => ⟨(h2.2.2 a j q q2).1.trans (h.2.2 a j q q2).1, (h2.2.2 a j q q2).2.1.trans (h.2.2 a j q q2).2.1, (h2.2.2 a j q q2).2.2.trans (h.2.2 a j q q2).2.2⟩⟩
theorem kd.of {S T : Nat → Nat → Prop} {M M' : gM} (h : kf S T M M') (hs : ∀ a j, S a j → ¬ (128 ≤ a ∧ a ≤ 138)) (ht : ∀ a j, T a j → ¬ (128 ≤ a ∧ a ≤ 138)) : kd M M' :=
  ⟨Nat.le_of_eq h.n.symm, fun a _ => by rw [h.k], fun a j q q2 => ⟨h.bk (fun z => hs a j z ⟨q, q2⟩), by rw [h.2.1], h.bkR (fun z => ht a j z ⟨q, q2⟩)⟩⟩
theorem kd.wr {M : gM} {a k : Nat} {v : Int32} (h : ¬ (128 ≤ a ∧ a ≤ 138)) : kd M (sI M a k v) :=
  kd.of (S := fun b _ => b = a) (T := fun _ _ => False) (kf.refl.wr rfl) (fun b j z => by rw [z]; exact h) (fun _ _ z => z.elim)
/-- all that is not the class's own fixed places is kept -/
def kq (M M' : gM) : Prop := mN M ≤ mN M' ∧ (∀ a, a < mN M → mK M' a = mK M a) ∧ ∀ a j, 128 ≤ a → a < mN M → mI M' a j = mI M a j ∧ mL M' a j = mL M a j ∧ mR M' a j = mR M a j
theorem kq.refl {M : gM} : kq M M := ⟨Nat.le_refl _, fun _ _ => rfl, fun _ _ _ _ => ⟨rfl, rfl, rfl⟩⟩
theorem kq.trans {M M' M'' : gM} (h : kq M M') (h2 : kq M' M'') : kq M M'' :=
  ⟨Nat.le_trans h.1 h2.1, fun a q => (h2.2.1 a (Nat.lt_of_lt_of_le q h.1)).trans (h.2.1 a q), fun a j q q2 => ⟨(h2.2.2 a j q (Nat.lt_of_lt_of_le q2 h.1)).1.trans (h.2.2 a j q q2).1, (h2.2.2 a j q (Nat.lt_of_lt_of_le q2 h.1)).2.1.trans (h.2.2 a j q q2).2.1, (h2.2.2 a j q (Nat.lt_of_lt_of_le q2 h.1)).2.2.trans (h.2.2 a j q q2).2.2⟩⟩
theorem kq.of {S T : Nat → Nat → Prop} {M M' : gM} (h : kf S T M M') (hs : ∀ a j, S a j → ¬ 128 ≤ a) (ht : ∀ a j, T a j → ¬ 128 ≤ a) : kq M M' :=
  ⟨Nat.le_of_eq h.n.symm, fun a _ => by rw [h.k], fun a j q _ => ⟨h.bk (fun z => hs a j z q), by rw [h.2.1], h.bkR (fun z => ht a j z q)⟩⟩
theorem kq.wr {M : gM} {a k : Nat} {v : Int32} (h : ¬ 128 ≤ a) : kq M (sI M a k v) :=
  kq.of (S := fun b _ => b = a) (T := fun _ _ => False) (kf.refl.wr rfl) (fun b j z => by rw [z]; exact h) (fun _ _ z => z.elim)
theorem kq.kd {M M' : gM} (h : kq M M') (hL : gLay M) : kd M M' := ⟨h.1, h.2.1, fun a j q q2 => h.2.2 a j q (hL.lt (by show a < 139; omega))⟩
/-- the class: what it was told, its cells, its page unless that is stale -/
def kS (c : Cf) (P π : Nat → Nat) (M : gM) : Prop := kB c P M ∧ rK π M ∧ (mI M 0 10 = nI 0 ∧ pgOK c M ∨ mI M 0 10 = nI 1)
theorem kFc.mv {c : Cf} {P : Nat → Nat} {M M' : gM} {S T : Nat → Nat → Prop} {f : Nat} (h : kFc c P M f) (h2 : WFc c) (hf2 : f < 2) (hf : kf S T M M') (hs : ∀ a j, S a j → ¬ ((118 ≤ a ∧ a ≤ 127) ∨ 139 ≤ a)) (ht : ∀ a j, T a j → kT a j) : kFc c P M' f := by
  have e : ∀ a j, (118 ≤ a ∧ a ≤ 127) ∨ 139 ≤ a → mI M' a j = mI M a j := fun a j q => hf.bk (fun z => hs a j z q)
  have er : ∀ a j, ¬ kT a j → mR M' a j = mR M a j := fun a j q => hf.bkR (fun z => q (ht a j z))
  obtain ⟨a1, a2, a3⟩ := h
  refine ⟨(e _ _ (by unfold fb; omega)).trans a1, fun q hq => ?_, fun j hj => ?_⟩
  · obtain ⟨b1, b2, b3⟩ := a2 q hq
    exact ⟨(e _ _ (by unfold fb; omega)).trans b1, (e _ _ (by unfold fb; omega)).trans b2, (e _ _ (by unfold fb; omega)).trans b3⟩
  · obtain ⟨b1, b2⟩ := a3 j hj
    exact ⟨(er _ _ (by unfold kT fb; omega)).trans b1, b2.mv (h2.lk _).2.2.2.2.2 (Nat.le_of_eq hf.n.symm) (fun a _ => by rw [hf.k]) (fun a j q _ => e _ _ (by omega)) (fun a j q _ => er _ _ (by unfold kT; omega))⟩
theorem kFc.cg {c c' : Cf} {P : Nat → Nat} {M : gM} {f : Nat} (h : kFc c P M f) (e : ∀ a j, 129 ≤ a → a ≤ 139 → cN c' a j = cN c a j) (eR : ∀ j, cR c' j = cR c j) : kFc c' P M f := by
  have e129 : cN c' 129 = cN c 129 := funext fun j => e 129 j (by decide) (by decide)
  have e130 : cN c' 130 = cN c 130 := funext fun j => e 130 j (by decide) (by decide)
  have e131 : cN c' 131 = cN c 131 := funext fun j => e 131 j (by decide) (by decide)
  have e132 : cN c' 132 = cN c 132 := funext fun j => e 132 j (by decide) (by decide)
  have e133 : cN c' 133 = cN c 133 := funext fun j => e 133 j (by decide) (by decide)
  have e134 : cN c' 134 = cN c 134 := funext fun j => e 134 j (by decide) (by decide)
  have e135 : cN c' 135 = cN c 135 := funext fun j => e 135 j (by decide) (by decide)
  have e137 : cN c' 137 = cN c 137 := funext fun j => e 137 j (by decide) (by decide)
  have e138 : cN c' 138 = cN c 138 := funext fun j => e 138 j (by decide) (by decide)
  have e139 : cN c' 139 = cN c 139 := funext fun j => e 139 j (by decide) (by decide)
  have er : rul c' = rul c := by funext l k w; unfold rul; rw [eR]
  have eb : bgB c' = bgB c := by
    funext f l q
    have eq2 : begP c' f l q = begP c f l q := by funext k; unfold begP isAt; rw [e130, e138, er]
    unfold bgB
    rw [eq2, e135]
  have key : kFc c' P M f = kFc c P M f := by
    unfold kFc kLk
    rw [e129, e130, e131, e132, e133, e134, e135, e137, e138, e139, er, eb]
  rw [key]; exact h
theorem kB.of {c c' : Cf} {P : Nat → Nat} {M M' : gM} (h : kB c P M) (hL : gLay M') (hw : WFc c') (hu : mI M' 0 9 = nI (fc0 c')) (hx : kTx c' M') (hF : ∀ f, f < 2 → kFc c' P M' f) (hct : ∀ f, f < 2 → cN c' 129 f = cN c 129 f) : kB c' P M' :=
  ⟨hL, hw, hu, hx, hF, fun f j f' j' a b hj hj' ne => h.2.2.2.2.2 f j f' j' a b (by rw [← hct f a]; exact hj) (by rw [← hct f' b]; exact hj') ne⟩
def gxK (a _j : Nat) : Prop := a = 4
def txK (a j : Nat) : Prop := a = 3 ∨ a = 4 ∨ (a = 2 ∧ j = 3)
abbrev nT (_a _j : Nat) : Prop := False
theorem kB.tx {c c' : Cf} {P : Nat → Nat} {M M' : gM} (h : kB c P M) (hf : kf txK nT M M') (hw : WFc c') (e1 : ∀ j, j < 16 → mI M' 3 j = nI (cN c' 141 j)) (e2 : ∀ j, j < 16 → mI M' 4 j = nI (cN c' 142 j)) (e3 : mI M' 2 3 = nI (cN c' 128 14))
    (e4 : ∀ a j, ¬ a = 141 → ¬ a = 142 → ¬ (a = 128 ∧ j = 14) → cN c' a j = cN c a j) (e5 : ∀ j, cR c' j = cR c j) : kB c' P M' := by
  refine h.of (hf.lay (fun _ _ z => z.elim) h.lay) hw ?_ ⟨fun j hj => ⟨e1 j hj, e2 j hj⟩, fun j hj => ?_, e3, ?_⟩ (fun f hf2 => ?_) (fun f _ => e4 129 f (by decide) (by decide) (by omega))
  · rw [hf.bk (by unfold txK; omega), h.used]
    show _ = nI (cN c' 128 1)
    rw [e4 128 1 (by decide) (by decide) (by omega)]
  · rw [hf.bk (by unfold txK; omega), h.lk hj, e4 140 j (by decide) (by decide) (by omega)]
  · rw [hf.bk (by unfold txK; omega), h.tng, e4 128 17 (by decide) (by decide) (by omega)]
  · exact ((h.fc hf2).mv h.wf hf2 hf (fun a j z => by unfold txK at z; omega) (fun _ _ z => z.elim)).cg (fun a j q q2 => e4 a j (by omega) (by omega) (by omega)) e5
set_option maxRecDepth 100000 in
set_option maxHeartbeats 4000000 in
theorem lp_X10_putIn {g : gG} {Q : Option Value ⊕ String → gM → Prop} {c : Cf} {P : Nat → Nat} {M0 : gM} {p s : Nat} (h : kB c P M0) (hp : p ≤ tl c) (hl : tl c < 16) (hs : s < 45) (K : ∀ M', kB (nxI c p s) P M' → kf txK nT M0 M' → Q (.inl none) M') : ∀ k, p ≤ k → k ≤ tl c → ∀ M, kf txK nT M0 M → mI M 2 3 = nI (tl c) → (∀ i, i < 16 → mI M 3 i = nI (shF (cN c 141) k (tl c) i)) → (∀ i, i < 16 → mI M 4 i = nI (shF (cN c 142) k (tl c) i)) → E g 1 0 0 mX10_putIn 27 [.ref 3, .int (nI p), .int (nI s), .int (nI k)] [] M Q := by
  refine lpDn p (fun k hpk ih => ?_)
  intro hk M hF h14 h1 h2
  have hL := hF.lay (fun _ _ z => z.elim) h.lay
  refine E_iload_n dX10_putIn_27 rfl ?_
  refine E_iload_n dX10_putIn_28 rfl ?_
  refine E_icmp_le_n (tgt := 66) dX10_putIn_29 (by decide) (by omega) (by omega) (fun c_29 => ?_) (fun c_29 => ?_)
  · obtain rfl : k = p := by omega
    refine E_aload_n dX10_putIn_66 rfl ?_
    refine E_getRL dX10_putIn_67 kF_X10_9 kY_10 (Or.inr ⟨_, rfl⟩) (l_2 hL) (k_2 hL) (r_2_0 hL) ?_
    refine E_iload_n dX10_putIn_70 rfl ?_
    refine E_iload_n dX10_putIn_71 rfl ?_
    refine E_iast dX10_putIn_72 (l_3 hL) (k_3 hL) rfl (by omega) (by decide) ?_
    refine E_aload_n dX10_putIn_73 rfl ?_
    refine E_getRL dX10_putIn_74 kF_X10_15 kY_10 (Or.inr ⟨_, rfl⟩) (l_2 hL) (k_2 hL) (r_2_1 hL) ?_
    refine E_iload_n dX10_putIn_77 rfl ?_
    refine E_iconst (v := nI 0) dX10_putIn_78 (by decide) ?_
    refine E_iast dX10_putIn_79 (l_4 hL) (k_4 hL) rfl (by omega) (by decide) ?_
    refine E_aload_n dX10_putIn_80 rfl ?_
    refine E_dup dX10_putIn_81 rfl ?_
    refine E_getIL (v := nI (tl c)) dX10_putIn_82 kF_X10_22 kY_10 (Or.inl rfl) (l_2 hL) (k_2 hL) ((mI_ne (by decide)).trans ((mI_ne (by decide)).trans h14)) ?_
    refine E_iconst (v := nI 1) dX10_putIn_85 (by decide) ?_
    refine E_iadd_n dX10_putIn_86 ?_
    refine E_putI dX10_putIn_87 kF_X10_22 kY_10 (Or.inl rfl) (l_2 hL) (k_2 hL) (Or.inl rfl) ?_
    refine E_vret dX10_putIn_90 rfl ?_
    have hf9 := ((hF.wr (a := 3) (k := k) (v := nI s) (by unfold txK; omega)).wr (a := 4) (k := k) (v := nI 0) (by unfold txK; omega)).wr (a := 2) (k := 3) (v := nI (tl c + 1)) (by unfold txK; omega)
    refine K _ (h.tx (c' := nxI c k s) hf9 (nxI_wf h.wf hl hs) (fun j hj => ?_) (fun j hj => ?_) mI_eq (fun a j q1 q2 q3 => ?_) (fun _ => rfl)) hf9
    · refine (mI_ne (by decide)).trans ((mI_ne (by decide)).trans ?_)
      show _ = nI (insF (cN c 141) k (tl c) s j)
      unfold insF
      by_cases e : j = k
      · subst e; rw [mI_eq, if_neg (by omega), if_pos rfl]
      · rw [mI_nj e, h1 j hj]
        unfold shF
        by_cases e2 : k < j ∧ j ≤ tl c
        · rw [if_pos e2, if_neg (by omega), if_neg e]
        · rw [if_neg e2, if_pos (by omega)]
    · refine (mI_ne (by decide)).trans ?_
      show _ = nI (insF (cN c 142) k (tl c) 0 j)
      unfold insF
      by_cases e : j = k
      · subst e; rw [mI_eq, if_neg (by omega), if_pos rfl]
      · rw [mI_nj e, mI_ne (by decide), h2 j hj]
        unfold shF
        by_cases e2 : k < j ∧ j ≤ tl c
        · rw [if_pos e2, if_neg (by omega), if_neg e]
        · rw [if_neg e2, if_pos (by omega)]
    · show (if a = 128 ∧ j = 14 then _ else if a = 141 then _ else if a = 142 then _ else cN c a j) = _
      rw [if_neg q3, if_neg q1, if_neg q2]
  · refine E_aload_n dX10_putIn_32 rfl ?_
    refine E_getRL dX10_putIn_33 kF_X10_9 kY_10 (Or.inr ⟨_, rfl⟩) (l_2 hL) (k_2 hL) (r_2_0 hL) ?_
    refine E_iload_n dX10_putIn_36 rfl ?_
    refine E_aload_n dX10_putIn_37 rfl ?_
    refine E_getRL dX10_putIn_38 kF_X10_9 kY_10 (Or.inr ⟨_, rfl⟩) (l_2 hL) (k_2 hL) (r_2_0 hL) ?_
    refine E_iload_n dX10_putIn_41 rfl ?_
    refine E_iconst (v := nI 1) dX10_putIn_42 (by decide) ?_
    refine E_isub_n dX10_putIn_43 (by omega) ?_
    refine E_ialdL (v := nI (shF (cN c 141) k (tl c) (k - 1))) dX10_putIn_44 (l_3 hL) (k_3 hL) rfl (by omega) (by decide) (h1 _ (by omega)) ?_
    refine E_iast dX10_putIn_45 (l_3 hL) (k_3 hL) rfl (by omega) (by decide) ?_
    refine E_aload_n dX10_putIn_46 rfl ?_
    refine E_getRL dX10_putIn_47 kF_X10_15 kY_10 (Or.inr ⟨_, rfl⟩) (l_2 hL) (k_2 hL) (r_2_1 hL) ?_
    refine E_iload_n dX10_putIn_50 rfl ?_
    refine E_aload_n dX10_putIn_51 rfl ?_
    refine E_getRL dX10_putIn_52 kF_X10_15 kY_10 (Or.inr ⟨_, rfl⟩) (l_2 hL) (k_2 hL) (r_2_1 hL) ?_
    refine E_iload_n dX10_putIn_55 rfl ?_
    refine E_iconst (v := nI 1) dX10_putIn_56 (by decide) ?_
    refine E_isub_n dX10_putIn_57 (by omega) ?_
    refine E_ialdL (v := nI (shF (cN c 142) k (tl c) (k - 1))) dX10_putIn_58 (l_4 hL) (k_4 hL) rfl (by omega) (by decide) ((mI_ne (by decide)).trans (h2 _ (by omega))) ?_
    refine E_iast dX10_putIn_59 (l_4 hL) (k_4 hL) rfl (by omega) (by decide) ?_
    obtain ⟨k, rfl⟩ : ∃ z, k = z + 1 := ⟨k - 1, by omega⟩
    simp only [Nat.add_sub_cancel] at ih ⊢
    have g1 : ∀ i, i < 16 → mI (sI (sI M 3 (k + 1) (nI (shF (cN c 141) (k + 1) (tl c) k))) 4 (k + 1) (nI (shF (cN c 142) (k + 1) (tl c) k))) 3 i = nI (shF (cN c 141) k (tl c) i) := fun i hi => by
      rw [mI_ne (by decide)]
      by_cases e : i = k + 1
      · subst e; rw [mI_eq]; unfold shF; rw [if_neg (by omega), if_pos (by omega), Nat.add_sub_cancel]
      · rw [mI_nj e, h1 i hi]; unfold shF
        by_cases e2 : k + 1 < i ∧ i ≤ tl c
        · rw [if_pos e2, if_pos (by omega)]
        · rw [if_neg e2, if_neg (by omega)]
    have g2 : ∀ i, i < 16 → mI (sI (sI M 3 (k + 1) (nI (shF (cN c 141) (k + 1) (tl c) k))) 4 (k + 1) (nI (shF (cN c 142) (k + 1) (tl c) k))) 4 i = nI (shF (cN c 142) k (tl c) i) := fun i hi => by
      by_cases e : i = k + 1
      · subst e; rw [mI_eq]; unfold shF; rw [if_neg (by omega), if_pos (by omega), Nat.add_sub_cancel]
      · rw [mI_nj e, mI_ne (by decide), h2 i hi]; unfold shF
        by_cases e2 : k + 1 < i ∧ i ≤ tl c
        · rw [if_pos e2, if_pos (by omega)]
        · rw [if_neg e2, if_neg (by omega)]
    refine E_iinc_d dX10_putIn_60 rfl rfl (by decide) rfl ?_
    refine E_goto (tgt := 27) dX10_putIn_63 (by decide) ?_
    rw [show dI (k + 1) = nI k from dI_succ k]
    exact ih (by omega) (by omega) _ ((hF.wr (by unfold txK; omega)).wr (by unfold txK; omega)) ((mI_ne (by decide)).trans ((mI_ne (by decide)).trans h14)) g1 g2
set_option maxRecDepth 100000 in
set_option maxHeartbeats 4000000 in
theorem sp_X10_putIn {g : gG} {M : gM} {Q : Option Value ⊕ String → gM → Prop} {c : Cf} {P : Nat → Nat} (hB : kB c P M) {p s : Nat} (hp : p ≤ tl c) (hl : tl c < 16) (hs : s < 45) (K : ∀ M', kB (nxI c p s) P M' → kf txK nT M M' → Q (.inl none) M') : E g 1 0 0 mX10_putIn 0 [.ref 3, .int (nI p), .int (nI s), .null] [] M Q := by
  have hL := hB.lay
  refine E_iload_n dX10_putIn_0 rfl ?_
  refine E_if_lt_n (tgt := 21) dX10_putIn_1 (by decide) (by omega) ?_
  refine E_iload_n dX10_putIn_4 rfl ?_
  refine E_aload_n dX10_putIn_5 rfl ?_
  refine E_getIL (v := nI (tl _)) dX10_putIn_6 kF_X10_22 kY_10 (Or.inl rfl) (l_2 hL) (k_2 hL) hB.len ?_
  refine E_icmp_gt_n (tgt := 21) dX10_putIn_9 (by decide) (by omega) (by omega) (fun c_9 => ?_) (fun c_9 => ?_)
  · refine E_vret dX10_putIn_21 rfl ?_
    exfalso; omega
  · refine E_aload_n dX10_putIn_12 rfl ?_
    refine E_getIL (v := nI (tl _)) dX10_putIn_13 kF_X10_22 kY_10 (Or.inl rfl) (l_2 hL) (k_2 hL) hB.len ?_
    refine E_bipush (v := nI 16) dX10_putIn_16 (by decide) ?_
    refine E_icmp_lt_n (tgt := 22) dX10_putIn_18 (by decide) (by omega) (by omega) (fun c_18 => ?_) (fun c_18 => ?_)
    · refine E_aload_n dX10_putIn_22 rfl ?_
      refine E_getIL (v := nI (tl _)) dX10_putIn_23 kF_X10_22 kY_10 (Or.inl rfl) (l_2 hL) (k_2 hL) hB.len ?_
      refine E_istore_n dX10_putIn_26 (Nat.le_of_ble_eq_true rfl) (by decide) rfl ?_
      exact lp_X10_putIn hB hp hl hs K (tl c) hp (Nat.le_refl _) M kf.refl hB.len (fun i hi => by unfold shF; rw [if_neg (by omega)]; exact hB.sg hi) (fun i hi => by unfold shF; rw [if_neg (by omega)]; exact hB.ex hi)
    · refine E_vret dX10_putIn_21 rfl ?_
      exfalso; omega
set_option maxRecDepth 100000 in
set_option maxHeartbeats 4000000 in
theorem lp_X10_takeOut {g : gG} {Q : Option Value ⊕ String → gM → Prop} {c : Cf} {P : Nat → Nat} {M0 : gM} {p : Nat} (h : kB c P M0) (hp : p < tl c) (K : ∀ M', kB (nxC c p) P M' → kf txK nT M0 M' → Q (.inl (some (.int (nI (cN c 141 p))))) M') : ∀ k, k ≤ tl c - 1 → p ≤ k → ∀ M, kf txK nT M0 M → mI M 2 3 = nI (tl c) → (∀ i, i < 16 → mI M 3 i = nI (cutF (cN c 141) p k i)) → (∀ i, i < 16 → mI M 4 i = nI (cutF (cN c 142) p k i)) → E g 1 0 0 mX10_takeOut 24 [.ref 3, .int (nI p), .int (nI (cN c 141 p)), .int (nI k)] [] M Q := by
  refine lpUp (tl c - 1) (fun k hk ih => ?_)
  intro hpk M hF h14 h1 h2
  have h16 : tl c ≤ 16 := h.wf.tl
  have tx := (h.wf.tx p).1
  have hL := hF.lay (fun _ _ z => z.elim) h.lay
  refine E_iload_n dX10_takeOut_24 rfl ?_
  refine E_aload_n dX10_takeOut_25 rfl ?_
  refine E_getIL (v := nI (tl c)) dX10_takeOut_26 kF_X10_22 kY_10 (Or.inl rfl) (l_2 hL) (k_2 hL) h14 ?_
  refine E_iconst (v := nI 1) dX10_takeOut_29 (by decide) ?_
  refine E_isub_n dX10_takeOut_30 (by omega) ?_
  refine E_icmp_ge_n (tgt := 68) dX10_takeOut_31 (by decide) (by omega) (by omega) (fun c_31 => ?_) (fun c_31 => ?_)
  · obtain rfl : k = tl c - 1 := by omega
    refine E_aload_n dX10_takeOut_68 rfl ?_
    refine E_dup dX10_takeOut_69 rfl ?_
    refine E_getIL (v := nI (tl c)) dX10_takeOut_70 kF_X10_22 kY_10 (Or.inl rfl) (l_2 hL) (k_2 hL) h14 ?_
    refine E_iconst (v := nI 1) dX10_takeOut_73 (by decide) ?_
    refine E_isub_n dX10_takeOut_74 (by omega) ?_
    refine E_putI dX10_takeOut_75 kF_X10_22 kY_10 (Or.inl rfl) (l_2 hL) (k_2 hL) (Or.inl rfl) ?_
    refine E_iload_n dX10_takeOut_78 rfl ?_
    refine E_iret dX10_takeOut_79 (Or.inl rfl) ?_
    have hf9 := hF.wr (a := 2) (k := 3) (v := nI (tl c - 1)) (by unfold txK; omega)
    refine K _ (h.tx (c' := nxC c p) hf9 (nxC_wf h.wf) (fun j hj => (mI_ne (by decide)).trans (h1 j hj)) (fun j hj => (mI_ne (by decide)).trans (h2 j hj)) mI_eq (fun a j q1 q2 q3 => ?_) (fun _ => rfl)) hf9
    show (if a = 128 ∧ j = 14 then _ else if a = 141 then _ else if a = 142 then _ else cN c a j) = _
    rw [if_neg q3, if_neg q1, if_neg q2]
  · refine E_aload_n dX10_takeOut_34 rfl ?_
    refine E_getRL dX10_takeOut_35 kF_X10_9 kY_10 (Or.inr ⟨_, rfl⟩) (l_2 hL) (k_2 hL) (r_2_0 hL) ?_
    refine E_iload_n dX10_takeOut_38 rfl ?_
    refine E_aload_n dX10_takeOut_39 rfl ?_
    refine E_getRL dX10_takeOut_40 kF_X10_9 kY_10 (Or.inr ⟨_, rfl⟩) (l_2 hL) (k_2 hL) (r_2_0 hL) ?_
    refine E_iload_n dX10_takeOut_43 rfl ?_
    refine E_iconst (v := nI 1) dX10_takeOut_44 (by decide) ?_
    refine E_iadd_n dX10_takeOut_45 ?_
    refine E_ialdL (v := nI (cutF (cN c 141) p k (k + 1))) dX10_takeOut_46 (l_3 hL) (k_3 hL) rfl (by omega) (by decide) (h1 _ (by omega)) ?_
    refine E_iast dX10_takeOut_47 (l_3 hL) (k_3 hL) rfl (by omega) (by decide) ?_
    refine E_aload_n dX10_takeOut_48 rfl ?_
    refine E_getRL dX10_takeOut_49 kF_X10_15 kY_10 (Or.inr ⟨_, rfl⟩) (l_2 hL) (k_2 hL) (r_2_1 hL) ?_
    refine E_iload_n dX10_takeOut_52 rfl ?_
    refine E_aload_n dX10_takeOut_53 rfl ?_
    refine E_getRL dX10_takeOut_54 kF_X10_15 kY_10 (Or.inr ⟨_, rfl⟩) (l_2 hL) (k_2 hL) (r_2_1 hL) ?_
    refine E_iload_n dX10_takeOut_57 rfl ?_
    refine E_iconst (v := nI 1) dX10_takeOut_58 (by decide) ?_
    refine E_iadd_n dX10_takeOut_59 ?_
    refine E_ialdL (v := nI (cutF (cN c 142) p k (k + 1))) dX10_takeOut_60 (l_4 hL) (k_4 hL) rfl (by omega) (by decide) ((mI_ne (by decide)).trans (h2 _ (by omega))) ?_
    refine E_iast dX10_takeOut_61 (l_4 hL) (k_4 hL) rfl (by omega) (by decide) ?_
    have g1 : ∀ i, i < 16 → mI (sI (sI M 3 k (nI (cutF (cN c 141) p k (k + 1)))) 4 k (nI (cutF (cN c 142) p k (k + 1)))) 3 i = nI (cutF (cN c 141) p (k + 1) i) := fun i hi => by
      rw [mI_ne (by decide)]
      by_cases e : i = k
      · subst e; rw [mI_eq]; unfold cutF; rw [if_neg (by omega), if_pos (by omega)]
      · rw [mI_nj e, h1 i hi]; unfold cutF
        by_cases e2 : p ≤ i ∧ i < k
        · rw [if_pos e2, if_pos (by omega)]
        · rw [if_neg e2, if_neg (by omega)]
    have g2 : ∀ i, i < 16 → mI (sI (sI M 3 k (nI (cutF (cN c 141) p k (k + 1)))) 4 k (nI (cutF (cN c 142) p k (k + 1)))) 4 i = nI (cutF (cN c 142) p (k + 1) i) := fun i hi => by
      by_cases e : i = k
      · subst e; rw [mI_eq]; unfold cutF; rw [if_neg (by omega), if_pos (by omega)]
      · rw [mI_nj e, mI_ne (by decide), h2 i hi]; unfold cutF
        by_cases e2 : p ≤ i ∧ i < k
        · rw [if_pos e2, if_pos (by omega)]
        · rw [if_neg e2, if_neg (by omega)]
    refine E_iinc_n (d := 1) dX10_takeOut_62 rfl rfl rfl (by decide) rfl ?_
    refine E_goto (tgt := 24) dX10_takeOut_65 (by decide) ?_
    exact ih (by omega) (by omega) _ ((hF.wr (by unfold txK; omega)).wr (by unfold txK; omega)) ((mI_ne (by decide)).trans ((mI_ne (by decide)).trans h14)) g1 g2
set_option maxRecDepth 100000 in
set_option maxHeartbeats 4000000 in
theorem sp_X10_takeOut {g : gG} {M : gM} {Q : Option Value ⊕ String → gM → Prop} {c : Cf} {P : Nat → Nat} (hB : kB c P M) {p : Nat} (hp : p < tl c) (K : ∀ M', kB (nxC c p) P M' → kf txK nT M M' → Q (.inl (some (.int (nI (cN c 141 p))))) M') : E g 1 0 0 mX10_takeOut 0 [.ref 3, .int (nI p), .null, .null] [] M Q := by
  have hL := hB.lay
  have h16 : tl c ≤ 16 := hB.wf.tl
  refine E_iload_n dX10_takeOut_0 rfl ?_
  refine E_if_lt_n (tgt := 12) dX10_takeOut_1 (by decide) (by omega) ?_
  refine E_iload_n dX10_takeOut_4 rfl ?_
  refine E_aload_n dX10_takeOut_5 rfl ?_
  refine E_getIL (v := nI (tl _)) dX10_takeOut_6 kF_X10_22 kY_10 (Or.inl rfl) (l_2 hL) (k_2 hL) hB.len ?_
  refine E_icmp_lt_n (tgt := 15) dX10_takeOut_9 (by decide) (by omega) (by omega) (fun c_9 => ?_) (fun c_9 => ?_)
  · refine E_aload_n dX10_takeOut_15 rfl ?_
    refine E_getRL dX10_takeOut_16 kF_X10_9 kY_10 (Or.inr ⟨_, rfl⟩) (l_2 hL) (k_2 hL) (r_2_0 hL) ?_
    refine E_iload_n dX10_takeOut_19 rfl ?_
    refine E_ialdL (v := nI (cN _ 141 _)) dX10_takeOut_20 (l_3 hL) (k_3 hL) rfl (by omega) (by decide) (hB.sg (by omega)) ?_
    refine E_istore_n dX10_takeOut_21 (Nat.le_of_ble_eq_true rfl) (by decide) rfl ?_
    refine E_iload_n dX10_takeOut_22 rfl ?_
    refine E_istore_n dX10_takeOut_23 (Nat.le_of_ble_eq_true rfl) (by decide) rfl ?_
    exact lp_X10_takeOut hB hp K p (by omega) (Nat.le_refl _) M kf.refl hB.len (fun i hi => by unfold cutF; rw [if_neg (by omega)]; exact hB.sg hi) (fun i hi => by unfold cutF; rw [if_neg (by omega)]; exact hB.ex hi)
  · refine E_bipush (v := -100) dX10_takeOut_12 (by decide) ?_
    refine E_iret dX10_takeOut_14 (Or.inl rfl) ?_
    exfalso; omega
set_option maxRecDepth 100000 in
set_option maxHeartbeats 4000000 in
theorem lp_X10_giveExtra {g : gG} {Q : Option Value ⊕ String → gM → Prop} {c : Cf} {P : Nat → Nat} {M0 : gM} {a b v : Nat} (h : kB c P M0) (hb : b < tl c) (hv : v ≤ 3) (K : ∀ M', kB (nxE c a b v) P M' → kf txK nT M0 M' → Q (.inl (some (.int (nI (exC (cN c 142) a v (b + 1)))))) M') : ∀ k, k ≤ b + 1 → a ≤ k → ∀ M m, kf gxK nT M0 M → (∀ i, i < 16 → mI M 4 i = nI (exF (cN c 142) a k v i)) → m = exC (cN c 142) a v k → E g 1 0 0 mX10_giveExtra 10 [.ref 3, .int (nI a), .int (nI b), .int (nI v), .int (nI m), .int (nI k)] [] M Q := by
  refine lpUp (b + 1) (fun k hk ih => ?_)
  intro hak M m hF h2 hm
  have h16 : tl c ≤ 16 := h.wf.tl
  have hL := hF.lay (fun _ _ z => z.elim) h.lay
  have hmb := exC_b (cN c 142) a v k
  have hx := (h.wf.tx k).2
  have h14 : mI M 2 3 = nI (tl c) := (hF.bk (by unfold gxK; omega)).trans h.len
  have h1 : ∀ i, i < 16 → mI M 3 i = nI (cN c 141 i) := fun i hi => (hF.bk (by unfold gxK; omega)).trans (h.sg hi)
  have hk2 : k < 16 → mI M 4 k = nI (cN c 142 k) := fun q => by rw [h2 k q]; unfold exF; rw [if_neg (by omega)]
  refine E_iload dX10_giveExtra_10 rfl ?_
  refine E_iload_n dX10_giveExtra_12 rfl ?_
  refine E_icmp_gt_n (tgt := 53) dX10_giveExtra_13 (by decide) (by omega) (by omega) (fun c_13 => ?_) (fun c_13 => ?_)
  · obtain rfl : k = b + 1 := by omega
    refine E_iload dX10_giveExtra_53 rfl ?_
    refine E_iret dX10_giveExtra_55 (Or.inl rfl) ?_
    subst hm
    have hF := hF.mono (S' := txK) (T' := nT) (fun a j z => Or.inr (Or.inl z)) (fun _ _ z => z)
    refine K _ (h.tx (c' := nxE c a b v) hF (nxE_wf h.wf hv) h1 h2 h14 (fun q j q1 q2 q3 => ?_) (fun _ => rfl)) hF
    show (if q = 142 then _ else cN c q j) = _
    rw [if_neg q2]
  · refine E_iload dX10_giveExtra_16 rfl ?_
    refine E_aload_n dX10_giveExtra_18 rfl ?_
    refine E_getIL (v := nI (tl c)) dX10_giveExtra_19 kF_X10_22 kY_10 (Or.inl rfl) (l_2 hL) (k_2 hL) h14 ?_
    refine E_icmp_ge_n (tgt := 53) dX10_giveExtra_22 (by decide) (by omega) (by omega) (fun c_22 => ?_) (fun c_22 => ?_)
    · obtain rfl : k = b + 1 := by omega
      refine E_iload dX10_giveExtra_53 rfl ?_
      refine E_iret dX10_giveExtra_55 (Or.inl rfl) ?_
      subst hm
      have hF := hF.mono (S' := txK) (T' := nT) (fun a j z => Or.inr (Or.inl z)) (fun _ _ z => z)
      refine K _ (h.tx (c' := nxE c a b v) hF (nxE_wf h.wf hv) h1 h2 h14 (fun q j q1 q2 q3 => ?_) (fun _ => rfl)) hF
      show (if q = 142 then _ else cN c q j) = _
      rw [if_neg q2]
    · refine E_aload_n dX10_giveExtra_25 rfl ?_
      refine E_getRL dX10_giveExtra_26 kF_X10_15 kY_10 (Or.inr ⟨_, rfl⟩) (l_2 hL) (k_2 hL) (r_2_1 hL) ?_
      refine E_iload dX10_giveExtra_29 rfl ?_
      refine E_ialdL (v := nI (cN c 142 k)) dX10_giveExtra_31 (l_4 hL) (k_4 hL) rfl (by omega) (by decide) (hk2 (by omega)) ?_
      refine E_iload_n dX10_giveExtra_32 rfl ?_
      refine E_icmp_eq_n (tgt := 39) dX10_giveExtra_33 (by decide) (by omega) (by omega) (fun c_33 => ?_) (fun c_33 => ?_)
      · refine E_aload_n dX10_giveExtra_39 rfl ?_
        refine E_getRL dX10_giveExtra_40 kF_X10_15 kY_10 (Or.inr ⟨_, rfl⟩) (l_2 hL) (k_2 hL) (r_2_1 hL) ?_
        refine E_iload dX10_giveExtra_43 rfl ?_
        refine E_iload_n dX10_giveExtra_45 rfl ?_
        refine E_iast dX10_giveExtra_46 (l_4 hL) (k_4 hL) rfl (by omega) (by decide) ?_
        have g2 : ∀ i, i < 16 → mI (sI M 4 k (nI v)) 4 i = nI (exF (cN c 142) a (k + 1) v i) := fun i hi => by
          by_cases e : i = k
          · subst e; rw [mI_eq]; unfold exF; rw [if_pos (by omega)]
          · rw [mI_nj e, h2 i hi]; unfold exF
            by_cases e2 : a ≤ i ∧ i < k
            · rw [if_pos e2, if_pos (by omega)]
            · rw [if_neg e2, if_neg (by omega)]
        have gm : exC (cN c 142) a v (k + 1) = exC (cN c 142) a v k + cI (a ≤ k ∧ ¬ cN c 142 k = v) 1 0 := rfl
        refine E_iinc_n (d := 1) dX10_giveExtra_47 rfl rfl rfl (by decide) rfl ?_
        refine E_goto (tgt := 10) dX10_giveExtra_50 (by decide) ?_
        refine ih (by omega) (by omega) _ _ (hF.wr (by unfold gxK; omega)) g2 ?_
        rw [gm]
        first | (rw [cI_t (by omega)]; omega) | (rw [cI_f (by omega)]; omega)
      · refine E_iinc_n (d := 1) dX10_giveExtra_36 rfl rfl rfl (by decide) rfl ?_
        refine E_aload_n dX10_giveExtra_39 rfl ?_
        refine E_getRL dX10_giveExtra_40 kF_X10_15 kY_10 (Or.inr ⟨_, rfl⟩) (l_2 hL) (k_2 hL) (r_2_1 hL) ?_
        refine E_iload dX10_giveExtra_43 rfl ?_
        refine E_iload_n dX10_giveExtra_45 rfl ?_
        refine E_iast dX10_giveExtra_46 (l_4 hL) (k_4 hL) rfl (by omega) (by decide) ?_
        have g2 : ∀ i, i < 16 → mI (sI M 4 k (nI v)) 4 i = nI (exF (cN c 142) a (k + 1) v i) := fun i hi => by
          by_cases e : i = k
          · subst e; rw [mI_eq]; unfold exF; rw [if_pos (by omega)]
          · rw [mI_nj e, h2 i hi]; unfold exF
            by_cases e2 : a ≤ i ∧ i < k
            · rw [if_pos e2, if_pos (by omega)]
            · rw [if_neg e2, if_neg (by omega)]
        have gm : exC (cN c 142) a v (k + 1) = exC (cN c 142) a v k + cI (a ≤ k ∧ ¬ cN c 142 k = v) 1 0 := rfl
        refine E_iinc_n (d := 1) dX10_giveExtra_47 rfl rfl rfl (by decide) rfl ?_
        refine E_goto (tgt := 10) dX10_giveExtra_50 (by decide) ?_
        refine ih (by omega) (by omega) _ _ (hF.wr (by unfold gxK; omega)) g2 ?_
        rw [gm]
        first | (rw [cI_t (by omega)]; omega) | (rw [cI_f (by omega)]; omega)
set_option maxRecDepth 100000 in
set_option maxHeartbeats 4000000 in
theorem sp_X10_giveExtra {g : gG} {M : gM} {Q : Option Value ⊕ String → gM → Prop} {c : Cf} {P : Nat → Nat} (hB : kB c P M) {a b v : Nat} (hab : a ≤ b) (hb : b < tl c) (hv : v ≤ 3) (K : ∀ M', kB (nxE c a b v) P M' → kf txK nT M M' → Q (.inl (some (.int (nI (exC (cN c 142) a v (b + 1)))))) M') : E g 1 0 0 mX10_giveExtra 0 [.ref 3, .int (nI a), .int (nI b), .int (nI v), .null, .null] [] M Q := by
  have hL := hB.lay
  have h16 : tl c ≤ 16 := hB.wf.tl
  refine E_iconst (v := nI 0) dX10_giveExtra_0 (by decide) ?_
  refine E_istore dX10_giveExtra_1 (Nat.le_of_ble_eq_true rfl) (by decide) rfl ?_
  refine E_iload_n dX10_giveExtra_3 rfl ?_
  refine E_iconst (v := nI 0) dX10_giveExtra_4 (by decide) ?_
  refine E_kmax_n (gW_at 669 (by decide +kernel) (by decide +kernel)) dX10_giveExtra_5 (by decide) (by exact Nat.le_of_ble_eq_true rfl) (by omega) (by omega) ?_
  rw [show max a 0 = a by omega]
  refine E_istore dX10_giveExtra_8 (Nat.le_of_ble_eq_true rfl) (by decide) rfl ?_
  exact lp_X10_giveExtra hB hb hv K a (by omega) (Nat.le_refl _) M 0 kf.refl (fun i hi => by unfold exF; rw [if_neg (by omega)]; exact hB.ex hi) (exC_0 _ _ _ _ (Nat.le_refl _)).symm
