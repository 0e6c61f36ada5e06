/-! the class: rules told, tables made -/
def gF (M : gM) : Prop := gLay M
section GF
variable {M : gM} {f : Nat}
theorem gF.flt (h : gF M) (hf : f < 2) {i : Nat} (hi : i < 5) : fb f + i < mN M := h.lt (by show 118 + 5 * f + i < 139; omega)
theorem gF.flt0 (h : gF M) (hf : f < 2) : fb f < mN M := h.lt (by show 118 + 5 * f < 139; omega)
theorem gF.fk0 (h : gF M) (hf : f < 2) : mK M (fb f) = (1, 0) := by
  rcases (show f = 0 ∨ f = 1 by omega) with rfl | rfl
  · exact k_118 h
  · exact k_123 h
theorem gF.fk1 (h : gF M) (hf : f < 2) : mK M (fb f + 1) = (18, 12) := by
  rcases (show f = 0 ∨ f = 1 by omega) with rfl | rfl
  · exact k_119 h
  · exact k_124 h
theorem gF.fk2 (h : gF M) (hf : f < 2) : mK M (fb f + 2) = (13, 256) := by
  rcases (show f = 0 ∨ f = 1 by omega) with rfl | rfl
  · exact k_120 h
  · exact k_125 h
theorem gF.fk3 (h : gF M) (hf : f < 2) : mK M (fb f + 3) = (13, 256) := by
  rcases (show f = 0 ∨ f = 1 by omega) with rfl | rfl
  · exact k_121 h
  · exact k_126 h
theorem gF.fk4 (h : gF M) (hf : f < 2) : mK M (fb f + 4) = (13, 256) := by
  rcases (show f = 0 ∨ f = 1 by omega) with rfl | rfl
  · exact k_122 h
  · exact k_127 h
theorem gF.fr0 (h : gF M) (hf : f < 2) : mR M (fb f) 0 = fb f + 1 + 1 := by
  rcases (show f = 0 ∨ f = 1 by omega) with rfl | rfl
  · exact r_118_0 h
  · exact r_123_0 h
theorem gF.fr1 (h : gF M) (hf : f < 2) : mR M (fb f) 1 = fb f + 2 + 1 := by
  rcases (show f = 0 ∨ f = 1 by omega) with rfl | rfl
  · exact r_118_1 h
  · exact r_123_1 h
theorem gF.fr2 (h : gF M) (hf : f < 2) : mR M (fb f) 2 = fb f + 3 + 1 := by
  rcases (show f = 0 ∨ f = 1 by omega) with rfl | rfl
  · exact r_118_2 h
  · exact r_123_2 h
theorem gF.fr3 (h : gF M) (hf : f < 2) : mR M (fb f) 3 = fb f + 4 + 1 := by
  rcases (show f = 0 ∨ f = 1 by omega) with rfl | rfl
  · exact r_118_3 h
  · exact r_123_3 h
theorem gF.f1 (h : gF M) (hf : f < 2) : mR M 1 f = fb f + 1 := by
  rcases (show f = 0 ∨ f = 1 by omega) with rfl | rfl
  · exact r_1_0 h
  · exact r_1_1 h
end GF
/-- a lookup without its table -/
def kLw (c : Cf) (M : gM) (l p : Nat) : Prop :=
  (gN0 ≤ p ∧ p + 11 ≤ mN M ∧ mK M p = (4, 0) ∧ mK M (p + 1) = (16, 8) ∧ (∀ k, k < 8 → mK M (p + 2 + k) = (13, 6)) ∧ mK M (p + 10) = (13, 256)) ∧
  (mI M p 0 = nI (cN c 130 l) ∧ mI M p 1 = nI (cN c 131 l) ∧ mI M p 2 = nI (cN c 132 l) ∧ mI M p 3 = nI (cN c 133 l) ∧ mI M p 4 = nI (cN c 134 l) ∧ mI M p 5 = nI (leadOf (cN c 130 l)) ∧ mI M p 8 = nI (cN c 135 l)) ∧
  (mR M p 6 = p + 1 + 1 ∧ mR M p 7 = p + 10 + 1 ∧ ∀ k, k < 8 → mR M (p + 1) k = p + 2 + k + 1) ∧
  (∀ k w, k < cN c 135 l → w < 6 → mI M (p + 2 + k) w = rul c l k w)
theorem kLk.w {c : Cf} {M : gM} {l p : Nat} (h : kLk c M l p) : kLw c M l p := ⟨h.1, h.2.1, h.2.2.1, h.2.2.2.1⟩
theorem kLw.k {c : Cf} {M : gM} {l p : Nat} (h : kLw c M l p) (ht : ∀ q, q < 256 → mI M (p + 10) q = nI (bgB c (l / 12) l q)) : kLk c M l p := ⟨h.1, h.2.1, h.2.2.1, h.2.2.2, ht⟩
theorem kLw.mv {c : Cf} {M M' : gM} {l p : Nat} (h : kLw c M l p) (h8 : cN c 135 l ≤ 8) (hn : mN M ≤ mN M') (hk : ∀ a, a < mN M → mK M' a = mK M a) (hi : ∀ a j, p ≤ a → a < p + 10 → mI M' a j = mI M a j) (hr : ∀ a j, p ≤ a → a < p + 10 → mR M' a j = mR M a j) : kLw c M' l p := by
  obtain ⟨⟨a1, a2, a3, a4, a5, a6⟩, ⟨b1, b2, b3, b4, b5, b6, b7⟩, ⟨c1, c2, c3⟩, d1⟩ := h
  refine ⟨⟨a1, by omega, by rw [hk _ (by omega)]; exact a3, by rw [hk _ (by omega)]; exact a4, fun k q => by rw [hk _ (by omega)]; exact a5 k q, by rw [hk _ (by omega)]; exact a6⟩, ⟨?_, ?_, ?_, ?_, ?_, ?_, ?_⟩, ⟨?_, ?_, fun k q => ?_⟩, fun k w q q2 => ?_⟩
  all_goals first | rw [hi _ _ (by omega) (by omega)] | rw [hr _ _ (by omega) (by omega)]
  · exact b1
  · exact b2
  · exact b3
  · exact b4
  · exact b5
  · exact b6
  · exact b7
  · exact c1
  · exact c2
  · exact c3 k q
  · exact d1 k w q q2
theorem kLw.cg {c c' : Cf} {M : gM} {l p : Nat} (h : kLw c M l p) (e : ∀ a, 130 ≤ a → a ≤ 135 → cN c' a l = cN c a l) (er : ∀ k w, k < cN c 135 l → w < 6 → rul c' l k w = rul c l k w) : kLw c' M l p := by
  have e130 := e 130 (by decide) (by decide)
  have e131 := e 131 (by decide) (by decide)
  have e132 := e 132 (by decide) (by decide)
  have e133 := e 133 (by decide) (by decide)
  have e134 := e 134 (by decide) (by decide)
  have e135 := e 135 (by decide) (by decide)
  unfold kLw
  rw [e130, e131, e132, e133, e134, e135]
  exact ⟨h.1, h.2.1, h.2.2.1, fun k w q q2 => (h.2.2.2 k w q q2).trans (er k w q q2).symm⟩
section KLW
variable {c : Cf} {M : gM} {l p : Nat}
theorem kLw.lt (h : kLw c M l p) {i : Nat} (hi : i < 11) : p + i < mN M := by have := h.1.2.1; omega
theorem kLw.lt0 (h : kLw c M l p) : p < mN M := by have := h.1.2.1; omega
theorem kLw.ge (h : kLw c M l p) : 139 ≤ p := h.1.1
theorem kLw.kd (h : kLw c M l p) : mK M p = (4, 0) := h.1.2.2.1
theorem kLw.kd1 (h : kLw c M l p) : mK M (p + 1) = (16, 8) := h.1.2.2.2.1
theorem kLw.kdu (h : kLw c M l p) {k : Nat} (hk : k < 8) : mK M (p + 2 + k) = (13, 6) := h.1.2.2.2.2.1 k hk
theorem kLw.ltu (h : kLw c M l p) {k : Nat} (hk : k < 8) : p + 2 + k < mN M := by have := h.1.2.1; omega
theorem kLw.kdt (h : kLw c M l p) : mK M (p + 10) = (13, 256) := h.1.2.2.2.2.2
theorem kLw.f0 (h : kLw c M l p) : mI M p 0 = nI (cN c 130 l) := h.2.1.1
theorem kLw.f1 (h : kLw c M l p) : mI M p 1 = nI (cN c 131 l) := h.2.1.2.1
theorem kLw.f2 (h : kLw c M l p) : mI M p 2 = nI (cN c 132 l) := h.2.1.2.2.1
theorem kLw.f3 (h : kLw c M l p) : mI M p 3 = nI (cN c 133 l) := h.2.1.2.2.2.1
theorem kLw.f4 (h : kLw c M l p) : mI M p 4 = nI (cN c 134 l) := h.2.1.2.2.2.2.1
theorem kLw.f5 (h : kLw c M l p) : mI M p 5 = nI (leadOf (cN c 130 l)) := h.2.1.2.2.2.2.2.1
theorem kLw.f8 (h : kLw c M l p) : mI M p 8 = nI (cN c 135 l) := h.2.1.2.2.2.2.2.2
theorem kLw.r6 (h : kLw c M l p) : mR M p 6 = p + 1 + 1 := h.2.2.1.1
theorem kLw.r7 (h : kLw c M l p) : mR M p 7 = p + 10 + 1 := h.2.2.1.2.1
theorem kLw.ru (h : kLw c M l p) {k : Nat} (hk : k < 8) : mR M (p + 1) k = p + 2 + k + 1 := h.2.2.1.2.2 k hk
theorem kLw.rn (h : kLw c M l p) {k w : Nat} (hk : k < cN c 135 l) (hw : w < 6) : mI M (p + 2 + k) w = rul c l k w := h.2.2.2 k w hk hw
end KLW
set_option maxRecDepth 100000 in
set_option maxHeartbeats 4000000 in
theorem lp_X4_beginsW {g : gG} {Q : Option Value ⊕ String → gM → Prop} {c : Cf} {M : gM} (hB : gF M) (hw : WFc c) {l p : Nat} (hk : kLw c M l p) {f q : Nat} (hq : q < 256) (K : Q (.inl (some (.int (nI (bgB c f l q))))) M) : ∀ k, k ≤ cN c 135 l → ∀ v v5, v = begB (begP c f l q) k → E g 1 0 0 mX4_begins 5 [.ref (p + 1), .int (nI q), .int (nI (cN c 138 (256 * f + q))), .int v, .int (nI k), v5] [] M Q := by
  have hL : gLay M := hB
  have hl := hw.lk l
  have hld := lead_b (cN c 130 l)
  have hg5 := (hw.gl (256 * f + q)).2.1
  refine lpUp (cN c 135 l) (fun k hk8 ih => ?_)
  intro v v5 hv
  have key : ((nI 300 ≤ rul c l k (leadOf (cN c 130 l)) ∧ rul c l k (leadOf (cN c 130 l)) - nI 300 = nI (cN c 138 (256 * f + q))) ∨ (¬ nI 300 ≤ rul c l k (leadOf (cN c 130 l)) ∧ rul c l k (leadOf (cN c 130 l)) = nI q)) ↔ begP c f l q k := isAt_k rfl
  refine E_iload dX4_begins_5 rfl ?_
  refine E_aload_n dX4_begins_7 rfl ?_
  refine E_getIL (v := nI (cN _ 135 _)) dX4_begins_8 kF_X4_20 kY_4 (Or.inl rfl) (hk.lt0) (hk.kd) hk.f8 ?_
  refine E_icmp_ge_n (tgt := 68) dX4_begins_11 (by decide) (by omega) (by omega) (fun c_11 => ?_) (fun c_11 => ?_)
  · refine E_iload_n dX4_begins_68 rfl ?_
    refine E_iret dX4_begins_69 (Or.inl rfl) ?_
    obtain rfl : k = cN c 135 l := by omega
    rw [hv, begB_n _ _ hl.2.2.2.2.2]
    exact K
  · refine E_aload_n dX4_begins_14 rfl ?_
    refine E_getRL dX4_begins_15 kF_X4_11 kY_4 (Or.inr ⟨_, rfl⟩) (hk.lt0) (hk.kd) hk.r6 ?_
    refine E_iload dX4_begins_18 rfl ?_
    refine E_aaldL (v := _) dX4_begins_20 (hk.lt (i := 1) (by decide)) (hk.kd1) (by decide) (by decide) rfl (by omega) (by decide) (hk.ru (by omega)) ?_
    refine E_aload_n dX4_begins_21 rfl ?_
    refine E_getIL (v := nI (leadOf _)) dX4_begins_22 kF_X4_39 kY_4 (Or.inl rfl) (hk.lt0) (hk.kd) hk.f5 ?_
    refine E_ialdL (v := _) dX4_begins_25 (hk.ltu (by omega)) (hk.kdu (by omega)) rfl (by omega) (by decide) (hk.rn (by omega) (by omega)) ?_
    refine E_istore dX4_begins_26 (Nat.le_of_ble_eq_true rfl) (by decide) rfl ?_
    refine E_iload dX4_begins_28 rfl ?_
    refine E_sipush (v := nI 300) dX4_begins_30 (by decide) ?_
    refine E_icmp_lt (tgt := 49) dX4_begins_33 (by decide) (fun c_33 => ?_) (fun c_33 => ?_)
    · refine E_iload dX4_begins_49 rfl ?_
      refine E_iload_n dX4_begins_51 rfl ?_
      refine E_icmp_ne_r (tgt := 62) dX4_begins_52 (by decide) (fun c_52 => ?_) (fun c_52 => ?_)
      · refine E_iinc_n (d := 1) dX4_begins_62 rfl rfl rfl (by decide) rfl ?_
        refine E_goto (tgt := 5) dX4_begins_65 (by decide) ?_
        refine ih (by omega) _ _ ?_
        rw [hv]
        first
          | exact (begB_t (key.mp (by first | exact Or.inl ⟨Int32.not_lt.mp c_33, c_43⟩ | exact Or.inr ⟨Int32.not_le.mpr c_33, c_52⟩))).symm
          | exact (begB_f (fun z => (key.mpr z).elim (fun q => by first | exact c_43 q.2 | exact Int32.not_lt.mpr q.1 c_33) (fun q => by first | exact q.1 (Int32.not_lt.mp c_33) | exact c_52 q.2))).symm
      · refine E_iload_n dX4_begins_55 rfl ?_
        refine E_iconst (v := nI 1) dX4_begins_56 (by decide) ?_
        refine E_iload dX4_begins_57 rfl ?_
        refine E_ishl dX4_begins_59 ?_
        refine E_ior dX4_begins_60 ?_
        refine E_istore_n dX4_begins_61 (Nat.le_of_ble_eq_true rfl) (by decide) rfl ?_
        refine E_iinc_n (d := 1) dX4_begins_62 rfl rfl rfl (by decide) rfl ?_
        refine E_goto (tgt := 5) dX4_begins_65 (by decide) ?_
        refine ih (by omega) _ _ ?_
        rw [hv]
        first
          | exact (begB_t (key.mp (by first | exact Or.inl ⟨Int32.not_lt.mp c_33, c_43⟩ | exact Or.inr ⟨Int32.not_le.mpr c_33, c_52⟩))).symm
          | exact (begB_f (fun z => (key.mpr z).elim (fun q => by first | exact c_43 q.2 | exact Int32.not_lt.mpr q.1 c_33) (fun q => by first | exact q.1 (Int32.not_lt.mp c_33) | exact c_52 q.2))).symm
    · refine E_iload dX4_begins_36 rfl ?_
      refine E_sipush (v := nI 300) dX4_begins_38 (by decide) ?_
      refine E_isub dX4_begins_41 ?_
      refine E_iload_n dX4_begins_42 rfl ?_
      refine E_icmp_ne_r (tgt := 62) dX4_begins_43 (by decide) (fun c_43 => ?_) (fun c_43 => ?_)
      · refine E_iinc_n (d := 1) dX4_begins_62 rfl rfl rfl (by decide) rfl ?_
        refine E_goto (tgt := 5) dX4_begins_65 (by decide) ?_
        refine ih (by omega) _ _ ?_
        rw [hv]
        first
          | exact (begB_t (key.mp (by first | exact Or.inl ⟨Int32.not_lt.mp c_33, c_43⟩ | exact Or.inr ⟨Int32.not_le.mpr c_33, c_52⟩))).symm
          | exact (begB_f (fun z => (key.mpr z).elim (fun q => by first | exact c_43 q.2 | exact Int32.not_lt.mpr q.1 c_33) (fun q => by first | exact q.1 (Int32.not_lt.mp c_33) | exact c_52 q.2))).symm
      · refine E_goto (tgt := 55) dX4_begins_46 (by decide) ?_
        refine E_iload_n dX4_begins_55 rfl ?_
        refine E_iconst (v := nI 1) dX4_begins_56 (by decide) ?_
        refine E_iload dX4_begins_57 rfl ?_
        refine E_ishl dX4_begins_59 ?_
        refine E_ior dX4_begins_60 ?_
        refine E_istore_n dX4_begins_61 (Nat.le_of_ble_eq_true rfl) (by decide) rfl ?_
        refine E_iinc_n (d := 1) dX4_begins_62 rfl rfl rfl (by decide) rfl ?_
        refine E_goto (tgt := 5) dX4_begins_65 (by decide) ?_
        refine ih (by omega) _ _ ?_
        rw [hv]
        first
          | exact (begB_t (key.mp (by first | exact Or.inl ⟨Int32.not_lt.mp c_33, c_43⟩ | exact Or.inr ⟨Int32.not_le.mpr c_33, c_52⟩))).symm
          | exact (begB_f (fun z => (key.mpr z).elim (fun q => by first | exact c_43 q.2 | exact Int32.not_lt.mpr q.1 c_33) (fun q => by first | exact q.1 (Int32.not_lt.mp c_33) | exact c_52 q.2))).symm
set_option maxRecDepth 100000 in
set_option maxHeartbeats 4000000 in
theorem sp_X4_beginsW {g : gG} {Q : Option Value ⊕ String → gM → Prop} {c : Cf} {M : gM} (hB : gF M) (hw : WFc c) {l p : Nat} (hk : kLw c M l p) {f q : Nat} (hq : q < 256) (K : Q (.inl (some (.int (nI (bgB c f l q))))) M) : E g 1 0 0 mX4_begins 0 [.ref (p + 1), .int (nI q), .int (nI (cN c 138 (256 * f + q))), .null, .null, .null] [] M Q := by
  have hL : gLay M := hB
  have hl := hw.lk l
  refine E_iconst (v := nI 0) dX4_begins_0 (by decide) ?_
  refine E_istore_n dX4_begins_1 (Nat.le_of_ble_eq_true rfl) (by decide) rfl ?_
  refine E_iconst (v := nI 0) dX4_begins_2 (by decide) ?_
  refine E_istore dX4_begins_3 (Nat.le_of_ble_eq_true rfl) (by decide) rfl ?_
  exact lp_X4_beginsW hB hw hk hq K 0 (Nat.zero_le _) (nI 0) .null rfl
def tbK (p a _j : Nat) : Prop := a = p + 10
set_option maxRecDepth 100000 in
set_option maxHeartbeats 4000000 in
theorem lp_X1_tabulate {g : gG} {Q : Option Value ⊕ String → gM → Prop} {c : Cf} {M0 : gM} {f : Nat} (hf : f < 2) (hB0 : gF M0) (hw : WFc c) {l p : Nat} (hk0 : kLw c M0 l p) (hg0 : ∀ q, q < 256 → mI M0 (fb f + 3) q = nI (cN c 138 (256 * f + q))) (K : ∀ M', kf (tbK p) nT M0 M' → (∀ j, j < 256 → mI M' (p + 10) j = nI (bgB c f l j)) → Q (.inl none) M') : ∀ k, k ≤ 256 → ∀ M, kf (tbK p) nT M0 M → (∀ j, j < k → mI M (p + 10) j = nI (bgB c f l j)) → E g 2 0 0 mX1_tabulate 2 [.ref (fb f + 1), .ref (p + 1), .int (nI k)] [] M Q := by
  refine lpUp 256 (fun k hk8 ih => ?_)
  intro M hF h1
  have hB : gF M := hF.lay (fun _ _ z => z.elim) hB0
  have hL : gLay M := hB
  have hl := hw.lk l
  have hge := hk0.ge
  have hk : kLw c M l p := hk0.mv hl.2.2.2.2.2 (Nat.le_of_eq hF.n.symm) (fun a _ => by rw [hF.k]) (fun a j q q2 => hF.bk (by unfold tbK; omega)) (fun a j q q2 => hF.bkR (fun z => z))
  have hg : ∀ q, q < 256 → mI M (fb f + 3) q = nI (cN c 138 (256 * f + q)) := fun q hq => (hF.bk (by unfold tbK fb; omega)).trans (hg0 q hq)
  refine E_iload_n dX1_tabulate_2 rfl ?_
  refine E_sipush (v := nI 256) dX1_tabulate_3 (by decide) ?_
  refine E_icmp_ge_n (tgt := 32) dX1_tabulate_6 (by decide) (by omega) (by omega) (fun c_6 => ?_) (fun c_6 => ?_)
  · refine E_vret dX1_tabulate_32 rfl ?_
    obtain rfl : k = 256 := by omega
    exact K M hF h1
  · refine E_aload_n dX1_tabulate_9 rfl ?_
    refine E_getRL dX1_tabulate_10 kF_X1_38 kY_4 (Or.inr ⟨_, rfl⟩) (hk.lt0) (hk.kd) hk.r7 ?_
    refine E_iload_n dX1_tabulate_13 rfl ?_
    refine E_aload_n dX1_tabulate_14 rfl ?_
    refine E_iload_n dX1_tabulate_15 rfl ?_
    refine E_aload_n dX1_tabulate_16 rfl ?_
    refine E_getRL dX1_tabulate_17 kF_X1_21 kY_1 (Or.inr ⟨_, rfl⟩) (hB.flt0 hf) (hB.fk0 hf) (hB.fr2 hf) ?_
    refine E_iload_n dX1_tabulate_20 rfl ?_
    refine E_ialdL (v := nI (cN c 138 (256 * f + k))) dX1_tabulate_21 (hB.flt hf (i := 3) (by decide)) (hB.fk3 hf) rfl (by omega) (by decide) (hg _ (by omega)) ?_
    refine E_callV2 (fr' := 1) (k1 := 0) (n1 := 0) (k2 := 0) (n2 := 0) dX1_tabulate_22 kO_X4_begins kL_X1_41 (hk.lt0) (hk.kd) ⟨by decide, rfl⟩ rfl rfl (by decide) (by decide) (by exact Nat.le_of_ble_eq_true rfl) rfl ?_
    refine sp_X4_beginsW hB hw hk (by omega) ?_
    refine gKv ?_
    refine E_iast dX1_tabulate_25 (hk.lt (i := 10) (by decide)) (hk.kdt) rfl (by omega) (by decide) ?_
    refine E_iinc_n (d := 1) dX1_tabulate_26 rfl rfl rfl (by decide) rfl ?_
    refine E_goto (tgt := 2) dX1_tabulate_29 (by decide) ?_
    refine ih (by omega) _ (hF.wr rfl) (fun j hj => ?_)
    by_cases e : j = k
    · subst e; exact mI_eq
    · exact (mI_nj e).trans (h1 j (by omega))
set_option maxRecDepth 100000 in
set_option maxHeartbeats 4000000 in
theorem sp_X1_tabulate {g : gG} {Q : Option Value ⊕ String → gM → Prop} {c : Cf} {M0 : gM} {f : Nat} (hf : f < 2) (hB0 : gF M0) (hw : WFc c) {l p : Nat} (hk0 : kLw c M0 l p) (hg0 : ∀ q, q < 256 → mI M0 (fb f + 3) q = nI (cN c 138 (256 * f + q))) (K : ∀ M', kf (tbK p) nT M0 M' → (∀ j, j < 256 → mI M' (p + 10) j = nI (bgB c f l j)) → Q (.inl none) M') : E g 2 0 0 mX1_tabulate 0 [.ref (fb f + 1), .ref (p + 1), .null] [] M0 Q := by
  have hB := hB0
  refine E_iconst (v := nI 0) dX1_tabulate_0 (by decide) ?_
  refine E_istore_n dX1_tabulate_1 (Nat.le_of_ble_eq_true rfl) (by decide) rfl ?_
  exact lp_X1_tabulate hf hB0 hw hk0 hg0 K 0 (Nat.zero_le _) M0 kf.refl (fun j hj => absurd hj (Nat.not_lt_zero j))
theorem nxR_N {c : Cf} {l r a i : Nat} {x0 x1 x2 x3 x4 x5 : Int32} : cN (nxR c l r x0 x1 x2 x3 x4 x5) a i = if a = 135 ∧ i = l then r + 1 else cN c a i := id rfl
theorem nxR_o {c : Cf} {l r l' k w : Nat} {x0 x1 x2 x3 x4 x5 : Int32} (hk : k < 8) (hr : r < 8) (hw : w < 6) (h : ¬ (l' = l ∧ k = r)) : rul (nxR c l r x0 x1 x2 x3 x4 x5) l' k w = rul c l' k w := by
  unfold rul nxR
  rw [cR_u, cR_q, if_neg (by omega), cR_q, if_neg (by omega), cR_q, if_neg (by omega), cR_q, if_neg (by omega), cR_q, if_neg (by omega), cR_q, if_neg (by omega)]
theorem nxR_0 {c : Cf} {l r : Nat} {x0 x1 x2 x3 x4 x5 : Int32} : rul (nxR c l r x0 x1 x2 x3 x4 x5) l r 0 = x0 := by
  unfold rul nxR
  rw [cR_u, cR_q, if_neg (by omega), cR_q, if_neg (by omega), cR_q, if_neg (by omega), cR_q, if_neg (by omega), cR_q, if_neg (by omega), cR_q, if_pos (by omega)]
theorem nxR_1 {c : Cf} {l r : Nat} {x0 x1 x2 x3 x4 x5 : Int32} : rul (nxR c l r x0 x1 x2 x3 x4 x5) l r 1 = x1 := by
  unfold rul nxR
  rw [cR_u, cR_q, if_neg (by omega), cR_q, if_neg (by omega), cR_q, if_neg (by omega), cR_q, if_neg (by omega), cR_q, if_pos (by omega)]
theorem nxR_2 {c : Cf} {l r : Nat} {x0 x1 x2 x3 x4 x5 : Int32} : rul (nxR c l r x0 x1 x2 x3 x4 x5) l r 2 = x2 := by
  unfold rul nxR
  rw [cR_u, cR_q, if_neg (by omega), cR_q, if_neg (by omega), cR_q, if_neg (by omega), cR_q, if_pos (by omega)]
theorem nxR_3 {c : Cf} {l r : Nat} {x0 x1 x2 x3 x4 x5 : Int32} : rul (nxR c l r x0 x1 x2 x3 x4 x5) l r 3 = x3 := by
  unfold rul nxR
  rw [cR_u, cR_q, if_neg (by omega), cR_q, if_neg (by omega), cR_q, if_pos (by omega)]
theorem nxR_4 {c : Cf} {l r : Nat} {x0 x1 x2 x3 x4 x5 : Int32} : rul (nxR c l r x0 x1 x2 x3 x4 x5) l r 4 = x4 := by
  unfold rul nxR
  rw [cR_u, cR_q, if_neg (by omega), cR_q, if_pos (by omega)]
theorem nxR_5 {c : Cf} {l r : Nat} {x0 x1 x2 x3 x4 x5 : Int32} : rul (nxR c l r x0 x1 x2 x3 x4 x5) l r 5 = x5 := by
  unfold rul nxR
  rw [cR_u, cR_q, if_pos (by omega)]
def tlK (p r a j : Nat) : Prop := (a = p ∧ j = 8) ∨ a = p + 2 + r
set_option maxRecDepth 100000 in
set_option maxHeartbeats 4000000 in
theorem sp_X4_tell {g : gG} {Q : Option Value ⊕ String → gM → Prop} {c : Cf} {M : gM} (hB : gF M) (hw : WFc c) {l p : Nat} (hk : kLw c M l p) {r : Nat} (hr : r = cN c 135 l) (h8 : r < 8) {x0 x1 x2 x3 x4 x5 : Int32} (K : ∀ M', kLw (nxR c l r x0 x1 x2 x3 x4 x5) M' l p → kf (tlK p r) nT M M' → Q (.inl none) M') : E g 1 0 0 mX4_tell 0 [.ref (p + 1), .int x0, .int x1, .int x2, .int x3, .int x4, .int x5, .null] [] M Q := by
  have hL : gLay M := hB
  have hl := hw.lk l
  refine E_aload_n dX4_tell_0 rfl ?_
  refine E_getIL (v := nI r) dX4_tell_1 kF_X4_20 kY_4 (Or.inl rfl) (hk.lt0) (hk.kd) (hk.f8.trans (by rw [hr])) ?_
  refine E_bipush (v := nI 8) dX4_tell_4 (by decide) ?_
  refine E_icmp_lt_n (tgt := 10) dX4_tell_6 (by decide) (by omega) (by omega) (fun c_6 => ?_) (fun c_6 => ?_)
  · refine E_aload_n dX4_tell_10 rfl ?_
    refine E_getRL dX4_tell_11 kF_X4_11 kY_4 (Or.inr ⟨_, rfl⟩) (hk.lt0) (hk.kd) hk.r6 ?_
    refine E_aload_n dX4_tell_14 rfl ?_
    refine E_getIL (v := nI r) dX4_tell_15 kF_X4_20 kY_4 (Or.inl rfl) (hk.lt0) (hk.kd) (hk.f8.trans (by rw [hr])) ?_
    refine E_aaldL (v := _) dX4_tell_18 (hk.lt (i := 1) (by decide)) (hk.kd1) (by decide) (by decide) rfl (by omega) (by decide) (hk.ru (by omega)) ?_
    refine E_astore dX4_tell_19 (Nat.le_of_ble_eq_true rfl) (by decide) rfl ?_
    refine E_aload dX4_tell_21 rfl ?_
    refine E_iconst (v := nI 0) dX4_tell_23 (by decide) ?_
    refine E_iload_n dX4_tell_24 rfl ?_
    refine E_iast dX4_tell_25 (hk.ltu (by omega)) (hk.kdu (by omega)) rfl (by omega) (by decide) ?_
    refine E_aload dX4_tell_26 rfl ?_
    refine E_iconst (v := nI 1) dX4_tell_28 (by decide) ?_
    refine E_iload_n dX4_tell_29 rfl ?_
    refine E_iast dX4_tell_30 (hk.ltu (by omega)) (hk.kdu (by omega)) rfl (by omega) (by decide) ?_
    refine E_aload dX4_tell_31 rfl ?_
    refine E_iconst (v := nI 2) dX4_tell_33 (by decide) ?_
    refine E_iload_n dX4_tell_34 rfl ?_
    refine E_iast dX4_tell_35 (hk.ltu (by omega)) (hk.kdu (by omega)) rfl (by omega) (by decide) ?_
    refine E_aload dX4_tell_36 rfl ?_
    refine E_iconst (v := nI 3) dX4_tell_38 (by decide) ?_
    refine E_iload dX4_tell_39 rfl ?_
    refine E_iast dX4_tell_41 (hk.ltu (by omega)) (hk.kdu (by omega)) rfl (by omega) (by decide) ?_
    refine E_aload dX4_tell_42 rfl ?_
    refine E_iconst (v := nI 4) dX4_tell_44 (by decide) ?_
    refine E_iload dX4_tell_45 rfl ?_
    refine E_iast dX4_tell_47 (hk.ltu (by omega)) (hk.kdu (by omega)) rfl (by omega) (by decide) ?_
    refine E_aload dX4_tell_48 rfl ?_
    refine E_iconst (v := nI 5) dX4_tell_50 (by decide) ?_
    refine E_iload dX4_tell_51 rfl ?_
    refine E_iast dX4_tell_53 (hk.ltu (by omega)) (hk.kdu (by omega)) rfl (by omega) (by decide) ?_
    have hz : mI (sI (sI (sI (sI (sI (sI M (p + 2 + r) 0 x0) (p + 2 + r) 1 x1) (p + 2 + r) 2 x2) (p + 2 + r) 3 x3) (p + 2 + r) 4 x4) (p + 2 + r) 5 x5) p 8 = nI r := by
      rw [mI_ne (by omega), mI_ne (by omega), mI_ne (by omega), mI_ne (by omega), mI_ne (by omega), mI_ne (by omega), hr]
      exact hk.f8
    refine E_aload_n dX4_tell_54 rfl ?_
    refine E_dup dX4_tell_55 rfl ?_
    refine E_getIL (v := nI r) dX4_tell_56 kF_X4_20 kY_4 (Or.inl rfl) (hk.lt0) (hk.kd) hz ?_
    refine E_iconst (v := nI 1) dX4_tell_59 (by decide) ?_
    refine E_iadd_n dX4_tell_60 ?_
    refine E_putI dX4_tell_61 kF_X4_20 kY_4 (Or.inl rfl) (hk.lt0) (hk.kd) (Or.inl rfl) ?_
    refine E_vret dX4_tell_64 rfl ?_
    have hf : kf (tlK p r) nT M (sI (sI (sI (sI (sI (sI (sI M (p + 2 + r) 0 x0) (p + 2 + r) 1 x1) (p + 2 + r) 2 x2) (p + 2 + r) 3 x3) (p + 2 + r) 4 x4) (p + 2 + r) 5 x5) p 8 (nI (r + 1))) := ((((((kf.refl.wr (Or.inr rfl)).wr (Or.inr rfl)).wr (Or.inr rfl)).wr (Or.inr rfl)).wr (Or.inr rfl)).wr (Or.inr rfl)).wr (Or.inl ⟨rfl, rfl⟩)
    refine K _ ?_ hf
    obtain ⟨⟨a1, a2, a3, a4, a5, a6⟩, ⟨b1, b2, b3, b4, b5, b6, b7⟩, ⟨c1, c2, c3⟩, d1⟩ := hk
    have eo : ∀ j, ¬ j = 8 → ∀ M1 : gM, kf (tlK p r) nT M M1 → mI M1 p j = mI M p j := fun j hj M1 h1 => h1.bk (by unfold tlK; omega)
    refine ⟨⟨a1, a2, a3, a4, a5, a6⟩, ⟨?_, ?_, ?_, ?_, ?_, ?_, ?_⟩, ⟨c1, c2, c3⟩, fun k w q q2 => ?_⟩
    · rw [nxR_N, if_neg (by omega), eo 0 (by decide) _ hf]; exact b1
    · rw [nxR_N, if_neg (by omega), eo 1 (by decide) _ hf]; exact b2
    · rw [nxR_N, if_neg (by omega), eo 2 (by decide) _ hf]; exact b3
    · rw [nxR_N, if_neg (by omega), eo 3 (by decide) _ hf]; exact b4
    · rw [nxR_N, if_neg (by omega), eo 4 (by decide) _ hf]; exact b5
    · rw [nxR_N, if_neg (by omega), eo 5 (by decide) _ hf]; exact b6
    · rw [nxR_N, if_pos ⟨rfl, rfl⟩, mI_eq]
    · rw [nxR_N, if_pos ⟨rfl, rfl⟩] at q
      by_cases e : k = r
      · subst e
        rw [mI_ne (by omega)]
        rcases (show w = 0 ∨ w = 1 ∨ w = 2 ∨ w = 3 ∨ w = 4 ∨ w = 5 by omega) with rfl | rfl | rfl | rfl | rfl | rfl
        · rw [nxR_0, mI_nj (by decide), mI_nj (by decide), mI_nj (by decide), mI_nj (by decide), mI_nj (by decide), mI_eq]
        · rw [nxR_1, mI_nj (by decide), mI_nj (by decide), mI_nj (by decide), mI_nj (by decide), mI_eq]
        · rw [nxR_2, mI_nj (by decide), mI_nj (by decide), mI_nj (by decide), mI_eq]
        · rw [nxR_3, mI_nj (by decide), mI_nj (by decide), mI_eq]
        · rw [nxR_4, mI_nj (by decide), mI_eq]
        · rw [nxR_5, mI_eq]
      · rw [nxR_o (by omega) h8 q2 (by omega), hf.bk (by unfold tlK; omega)]
        exact d1 k w (by omega) q2
  · refine E_vret dX4_tell_9 rfl ?_
    exfalso; omega
