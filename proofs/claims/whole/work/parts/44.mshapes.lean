/-! the reference: a part of the text -/
noncomputable def rn (c : Cf) (a b : Nat) : Nat → Nat
  | 0 => a
  | i + 1 => eor c a b (rn c a b i)
noncomputable def rsc (c : Cf) (a b i : Nat) : Nat := scr c a b (rn c a b i)
noncomputable def rfc (c : Cf) (a b i : Nat) : Nat := fcO c (rn c a b i)
noncomputable def rL (c : Cf) (a b i : Nat) : List Gl := r4 c (rfc c a b i) (rsc c a b i) (rn c a b i) (rn c a b (i + 1))
noncomputable def gS (c : Cf) (a b : Nat) : Nat → Nat
  | 0 => 0
  | i + 1 => gS c a b i + (rL c a b i).length
noncomputable def wdt (c : Cf) (a b i : Nat) : Int32 := smA (plc c (rfc c a b i) (rL c a b i)) (rL c a b i).length
noncomputable def lS (c : Cf) (a b : Nat) : Nat → Int32
  | 0 => nI 0
  | i + 1 => lS c a b i + wdt c a b i
noncomputable def rB (c : Cf) (a b i : Nat) : Pl := stB c (rfc c a b i) (rsc c a b i) (lS c a b i) (rL c a b i)
noncomputable def nr (c : Cf) (a b : Nat) : Nat := fnd (fun i => b ≤ rn c a b i) 17 0
theorem rn_b {c : Cf} {a b : Nat} (hab : a ≤ b) : ∀ i, i ≤ nr c a b → a + i ≤ rn c a b i ∧ rn c a b i ≤ b ∧ (i < nr c a b → rn c a b i < b) := by
  have hlt : ∀ i, i < nr c a b → rn c a b i < b := fun i hi => Nat.not_le.mp ((fnd_spec (P := fun i => b ≤ rn c a b i) (Nat.zero_le 17)).2.2.2 i (Nat.zero_le _) hi)
  intro i
  induction i with
  | zero => exact fun _ => ⟨Nat.le_refl _, hab, hlt 0⟩
  | succ i ih =>
    intro hi
    have h1 := ih (by omega)
    have h2 := eor_b (c := c) (a := a) (hlt i (by omega))
    have e : rn c a b (i + 1) = eor c a b (rn c a b i) := rfl
    rw [e]
    exact ⟨by omega, h2.2, fun q => by rw [← e]; exact hlt _ q⟩
theorem nr_b {c : Cf} {a b : Nat} (hab : a ≤ b) (hb : b ≤ 16) : nr c a b ≤ b - a ∧ rn c a b (nr c a b) = b := by
  have h1 := rn_b (c := c) hab _ (Nat.le_refl (nr c a b))
  have h2 := (fnd_spec (P := fun i => b ≤ rn c a b i) (Nat.zero_le 17)).2.2.1
  have h3 : nr c a b < 17 := by omega
  have h4 := h2 h3
  have h4 : b ≤ rn c a b (nr c a b) := h4
  exact ⟨by omega, by omega⟩
theorem gS_m {c : Cf} {a b j : Nat} : ∀ i, j < i → gS c a b j + (rL c a b j).length ≤ gS c a b i
  | 0, h => by omega
  | i + 1, h => by
    have e : gS c a b (i + 1) = gS c a b i + (rL c a b i).length := rfl
    by_cases q : j = i
    · rw [q, e]; exact Nat.le_refl _
    · have := gS_m i (show j < i by omega) (c := c) (a := a) (b := b)
      omega
def shR (R0 G0 a j : Nat) : Prop := rowR a j ∨ a = 143 ∨ a = 144 ∨ (a = 128 ∧ (j = 20 ∨ j = 36 ∨ j = 45)) ∨ (166 ≤ a ∧ a ≤ 168 ∧ R0 ≤ j) ∨ (158 ≤ a ∧ a ≤ 165 ∧ G0 ≤ j)
theorem shR_c {R0 G0 a j : Nat} (h : shR R0 G0 a j) : ¬ cfA a j ∧ ¬ a = 136 := by unfold shR rowR at h; unfold cfA; omega
def shE (c : Cf) (a b R0 G0 j : Nat) (M : gM) : Prop := mI M 166 (R0 + j) = nI (rn c a b j) ∧ mI M 167 (R0 + j) = nI (G0 + gS c a b j) ∧ mI M 168 (R0 + j) = lS c a b j
def shS (c : Cf) (a b R0 G0 i : Nat) (M : gM) : Prop := gS c a b i ≤ 64 * i ∧ mI M 128 45 = nI (R0 + i) ∧ mI M 128 36 = nI (G0 + gS c a b i) ∧ (∀ j, j < i → shE c a b R0 G0 j M) ∧ ∀ j, j < i → okL (rL c a b j) ∧ oS (G0 + gS c a b j) (rL c a b j) (rB c a b j) (rL c a b j).length M
theorem shE.mv {c : Cf} {a b R0 G0 j : Nat} {M M' : gM} (h : shE c a b R0 G0 j M) (q : ∀ p, 166 ≤ p → p ≤ 168 → mI M' p (R0 + j) = mI M p (R0 + j)) : shE c a b R0 G0 j M' := by
  unfold shE at *
  rw [q _ (by decide) (by decide), q _ (by decide) (by decide), q _ (by decide) (by decide)]
  exact h
theorem oS.mv {G : Nat} {L : List Gl} {B : Pl} {k : Nat} {M M' : gM} (h : oS G L B k M) (e : ∀ q j, 158 ≤ q → q ≤ 165 → j < k → mI M' q (G + j) = mI M q (G + j)) : oS G L B k M' := fun q j hq hj => (e _ _ (by omega) (by omega) hj).trans (h q j hq hj)
set_option maxRecDepth 100000 in
set_option maxHeartbeats 4000000 in
theorem lp_X12_shapes {g : gG} {Q : Option Value ⊕ String → gM → Prop} {c : Cf} {a b R0 G0 : Nat} {M1 : gM} (h1 : bS c M1) (hS1 : scS c a b b M1) (hab : a ≤ b) (hb : b ≤ 16) (hR0 : R0 + (b - a) ≤ 16) (hG0 : G0 + 64 * (b - a) ≤ 1024) (K : ∀ M', fr (shR R0 G0) M1 M' → shS c a b R0 G0 (nr c a b) M' → (∀ j, j ≤ nr c a b → shE c a b R0 G0 j M') → scS c a b b M' → Q (.inl none) M') : ∀ i, i ≤ nr c a b → ∀ M, fr (shR R0 G0) M1 M → scS c a b b M → shS c a b R0 G0 i M → E g 14 0 0 mX12_shapes 11 [.ref 129, .int (nI a), .int (nI b), .int (lS c a b i), .int (nI (rn c a b i))] [] M Q := by
  have hnr := nr_b (c := c) hab hb
  refine lpUp (nr c a b) (fun i hi ih => ?_)
  intro M hF hS hH
  have h := h1.fr hF (fun _ _ => shR_c)
  have hL := h.lay
  have hrn := rn_b (c := c) hab i hi
  obtain ⟨hg64, h45, h36, hE, hO⟩ := hH
  have hgm : ∀ j, j < i → gS c a b j + (rL c a b j).length ≤ gS c a b i := fun j hj => gS_m i hj
  refine E_iload dX12_shapes_11 rfl ?_
  refine E_iload_n dX12_shapes_13 rfl ?_
  refine E_icmp_ge_n (tgt := 94) dX12_shapes_14 (by decide) (by omega) (by omega) (fun c_14 => ?_) (fun c_14 => ?_)
  · obtain rfl : i = nr c a b := by omega
    have eb := hnr.2
    refine E_aload_n dX12_shapes_94 rfl ?_
    refine E_getRL dX12_shapes_95 kF_X12_126 kY_12 (Or.inr ⟨_, rfl⟩) (l_128 hL) (k_128 hL) (r_128_46 hL) ?_
    refine E_aload_n dX12_shapes_98 rfl ?_
    refine E_getI dX12_shapes_99 kF_X12_412 kY_12 (Or.inl rfl) (l_128 hL) (k_128 hL) ?_
    refine E_iload_n dX12_shapes_102 rfl ?_
    refine E_iast dX12_shapes_103 (l_166 hL) (k_166 hL) (by assumption) (by first | omega | exact h.n256 _) (by decide) ?_
    refine E_aload_n dX12_shapes_104 rfl ?_
    refine E_getRL dX12_shapes_105 kF_X12_129 kY_12 (Or.inr ⟨_, rfl⟩) (l_128 hL) (k_128 hL) (r_128_47 hL) ?_
    refine E_aload_n dX12_shapes_108 rfl ?_
    refine E_getIL (v := nI (R0 + nr c a b)) dX12_shapes_109 kF_X12_412 kY_12 (Or.inl rfl) (l_128 hL) (k_128 hL) ((mI_ne (by decide)).trans h45) ?_
    refine E_aload_n dX12_shapes_112 rfl ?_
    refine E_getIL (v := nI (G0 + gS c a b (nr c a b))) dX12_shapes_113 kF_X12_406 kY_12 (Or.inl rfl) (l_128 hL) (k_128 hL) ((mI_ne (by decide)).trans h36) ?_
    refine E_iast dX12_shapes_116 (l_167 hL) (k_167 hL) rfl (by first | omega | exact h.n256 _) (by decide) ?_
    refine E_aload_n dX12_shapes_117 rfl ?_
    refine E_getRL dX12_shapes_118 kF_X12_132 kY_12 (Or.inr ⟨_, rfl⟩) (l_128 hL) (k_128 hL) (r_128_48 hL) ?_
    refine E_aload_n dX12_shapes_121 rfl ?_
    refine E_getIL (v := nI (R0 + nr c a b)) dX12_shapes_122 kF_X12_412 kY_12 (Or.inl rfl) (l_128 hL) (k_128 hL) ((mI_ne (by decide)).trans ((mI_ne (by decide)).trans h45)) ?_
    refine E_iload_n dX12_shapes_125 rfl ?_
    refine E_iast dX12_shapes_126 (l_168 hL) (k_168 hL) rfl (by first | omega | exact h.n256 _) (by decide) ?_
    refine E_vret dX12_shapes_127 rfl ?_
    have hE2 : ∀ j, j < nr c a b → shE c a b R0 G0 j (sI (sI (sI M 166 (R0 + nr c a b) (nI b)) 167 (R0 + nr c a b) (nI (G0 + gS c a b (nr c a b)))) 168 (R0 + nr c a b) (lS c a b (nr c a b))) := fun j hj => (hE j hj).mv (fun p _ _ => (mI_nj (by omega)).trans ((mI_nj (by omega)).trans (mI_nj (by omega))))
    refine K _ (((hF.wr (by unfold shR; omega)).wr (by unfold shR; omega)).wr (by unfold shR; omega)) ⟨hg64, (mI_ne (by decide)).trans ((mI_ne (by decide)).trans ((mI_ne (by decide)).trans h45)), (mI_ne (by decide)).trans ((mI_ne (by decide)).trans ((mI_ne (by decide)).trans h36)), hE2, fun j hj => ⟨(hO j hj).1, (hO j hj).2.mv (fun q p _ _ _ => (mI_ne (by omega)).trans ((mI_ne (by omega)).trans (mI_ne (by omega))))⟩⟩ (fun j hj => ?_) (hS.mv (fun j => (mI_ne (by decide)).trans ((mI_ne (by decide)).trans (mI_ne (by decide)))) (fun j => (mI_ne (by decide)).trans ((mI_ne (by decide)).trans (mI_ne (by decide)))))
    by_cases e : j = nr c a b
    · subst e
      exact ⟨(mI_ne (by decide)).trans ((mI_ne (by decide)).trans (mI_eq.trans (by rw [eb]))), (mI_ne (by decide)).trans mI_eq, mI_eq⟩
    · exact hE2 j (by omega)
  · refine E_aload_n dX12_shapes_17 rfl ?_
    refine E_getRL dX12_shapes_18 kF_X12_126 kY_12 (Or.inr ⟨_, rfl⟩) (l_128 hL) (k_128 hL) (r_128_46 hL) ?_
    refine E_aload_n dX12_shapes_21 rfl ?_
    refine E_getIL (v := nI (R0 + i)) dX12_shapes_22 kF_X12_412 kY_12 (Or.inl rfl) (l_128 hL) (k_128 hL) h45 ?_
    refine E_iload dX12_shapes_25 rfl ?_
    refine E_iast dX12_shapes_27 (l_166 hL) (k_166 hL) rfl (by first | omega | exact h.n256 _) (by decide) ?_
    refine E_aload_n dX12_shapes_28 rfl ?_
    refine E_getRL dX12_shapes_29 kF_X12_129 kY_12 (Or.inr ⟨_, rfl⟩) (l_128 hL) (k_128 hL) (r_128_47 hL) ?_
    refine E_aload_n dX12_shapes_32 rfl ?_
    refine E_getIL (v := nI (R0 + i)) dX12_shapes_33 kF_X12_412 kY_12 (Or.inl rfl) (l_128 hL) (k_128 hL) ((mI_ne (by decide)).trans h45) ?_
    refine E_aload_n dX12_shapes_36 rfl ?_
    refine E_getIL (v := nI (G0 + gS c a b i)) dX12_shapes_37 kF_X12_406 kY_12 (Or.inl rfl) (l_128 hL) (k_128 hL) ((mI_ne (by decide)).trans h36) ?_
    refine E_iast dX12_shapes_40 (l_167 hL) (k_167 hL) rfl (by first | omega | exact h.n256 _) (by decide) ?_
    refine E_aload_n dX12_shapes_41 rfl ?_
    refine E_getRL dX12_shapes_42 kF_X12_132 kY_12 (Or.inr ⟨_, rfl⟩) (l_128 hL) (k_128 hL) (r_128_48 hL) ?_
    refine E_aload_n dX12_shapes_45 rfl ?_
    refine E_getIL (v := nI (R0 + i)) dX12_shapes_46 kF_X12_412 kY_12 (Or.inl rfl) (l_128 hL) (k_128 hL) ((mI_ne (by decide)).trans ((mI_ne (by decide)).trans h45)) ?_
    refine E_iload_n dX12_shapes_49 rfl ?_
    refine E_iast dX12_shapes_50 (l_168 hL) (k_168 hL) rfl (by first | omega | exact h.n256 _) (by decide) ?_
    refine E_aload_n dX12_shapes_51 rfl ?_
    refine E_dup dX12_shapes_52 rfl ?_
    refine E_getIL (v := nI (R0 + i)) dX12_shapes_53 kF_X12_412 kY_12 (Or.inl rfl) (l_128 hL) (k_128 hL) ((mI_ne (by decide)).trans ((mI_ne (by decide)).trans ((mI_ne (by decide)).trans h45))) ?_
    refine E_iconst (v := nI 1) dX12_shapes_56 (by decide) ?_
    refine E_iadd_n dX12_shapes_57 ?_
    refine E_putI dX12_shapes_58 kF_X12_412 kY_12 (Or.inl rfl) (l_128 hL) (k_128 hL) (Or.inl rfl) ?_
    have hin : i < nr c a b := Nat.lt_of_le_of_ne hi (fun q => by subst q; omega)
    have hrl := hrn.2.2 hin
    have her := eor_b (c := c) (a := a) hrl
    have e1 : rn c a b (i + 1) = eor c a b (rn c a b i) := rfl
    have hF4 : fr (shR R0 G0) M1 (sI (sI (sI (sI M 166 (R0 + i) (nI (rn c a b i))) 167 (R0 + i) (nI (G0 + gS c a b i))) 168 (R0 + i) (lS c a b i)) 128 45 (nI (R0 + i + 1))) := (((hF.wr (by unfold shR; omega)).wr (by unfold shR; omega)).wr (by unfold shR; omega)).wr (by unfold shR; omega)
    have h := h1.fr hF4 (fun _ _ => shR_c)
    have hS : scS c a b b (sI (sI (sI (sI M 166 (R0 + i) (nI (rn c a b i))) 167 (R0 + i) (nI (G0 + gS c a b i))) 168 (R0 + i) (lS c a b i)) 128 45 (nI (R0 + i + 1))) := hS.mv (fun j => (mI_ne (by decide)).trans ((mI_ne (by decide)).trans ((mI_ne (by decide)).trans (mI_ne (by decide))))) (fun j => (mI_ne (by decide)).trans ((mI_ne (by decide)).trans ((mI_ne (by decide)).trans (mI_ne (by decide)))))
    have hL := h.lay
    have h36' : mI (sI (sI (sI (sI M 166 (R0 + i) (nI (rn c a b i))) 167 (R0 + i) (nI (G0 + gS c a b i))) 168 (R0 + i) (lS c a b i)) 128 45 (nI (R0 + i + 1))) 128 36 = nI (G0 + gS c a b i) := (mI_nj (by decide)).trans ((mI_ne (by decide)).trans ((mI_ne (by decide)).trans ((mI_ne (by decide)).trans h36)))
    have hEi : ∀ j, j < i + 1 → shE c a b R0 G0 j (sI (sI (sI (sI M 166 (R0 + i) (nI (rn c a b i))) 167 (R0 + i) (nI (G0 + gS c a b i))) 168 (R0 + i) (lS c a b i)) 128 45 (nI (R0 + i + 1))) := fun j hj => by
      by_cases e : j = i
      · subst e
        exact ⟨(mI_ne (by decide)).trans ((mI_ne (by decide)).trans ((mI_ne (by decide)).trans mI_eq)), (mI_ne (by decide)).trans ((mI_ne (by decide)).trans mI_eq), (mI_ne (by decide)).trans mI_eq⟩
      · exact (hE j (by omega)).mv (fun p _ _ => (mI_ne (by omega)).trans ((mI_nj (by omega)).trans ((mI_nj (by omega)).trans (mI_nj (by omega)))))
    have hO4 : ∀ j, j < i → okL (rL c a b j) ∧ oS (G0 + gS c a b j) (rL c a b j) (rB c a b j) (rL c a b j).length (sI (sI (sI (sI M 166 (R0 + i) (nI (rn c a b i))) 167 (R0 + i) (nI (G0 + gS c a b i))) 168 (R0 + i) (lS c a b i)) 128 45 (nI (R0 + i + 1))) := fun j hj => ⟨(hO j hj).1, (hO j hj).2.mv (fun q p _ _ _ => (mI_ne (by omega)).trans ((mI_ne (by omega)).trans ((mI_ne (by omega)).trans (mI_ne (by omega)))))⟩
    have h45' : mI (sI (sI (sI (sI M 166 (R0 + i) (nI (rn c a b i))) 167 (R0 + i) (nI (G0 + gS c a b i))) 168 (R0 + i) (lS c a b i)) 128 45 (nI (R0 + i + 1))) 128 45 = nI (R0 + i + 1) := mI_eq
    generalize (sI (sI (sI (sI M 166 (R0 + i) (nI (rn c a b i))) 167 (R0 + i) (nI (G0 + gS c a b i))) 168 (R0 + i) (lS c a b i)) 128 45 (nI (R0 + i + 1))) = M at *
    refine E_aload_n dX12_shapes_61 rfl ?_
    refine E_iload dX12_shapes_62 rfl ?_
    refine E_aload_n dX12_shapes_64 rfl ?_
    refine E_iload dX12_shapes_65 rfl ?_
    refine E_iload_n dX12_shapes_67 rfl ?_
    refine E_callV2 (fr' := 1) (k1 := 0) (n1 := 0) (k2 := 0) (n2 := 0) dX12_shapes_68 kO_X12_endOfRun kL_X12_415 (l_128 hL) (k_128 hL) ⟨by decide, rfl⟩ rfl rfl (by decide) (by decide) (by exact Nat.le_of_ble_eq_true rfl) rfl ?_
    refine sp_X12_endOfRun hL h.wf hS (by omega) (by omega) (by omega) ?_
    refine gKv ?_
    refine E_iload_n dX12_shapes_71 rfl ?_
    refine E_callV3 (fr' := 13) (k1 := 0) (n1 := 0) (k2 := 0) (n2 := 0) dX12_shapes_72 kO_X12_shapesRun kL_X12_418 (l_128 hL) (k_128 hL) ⟨by decide, rfl⟩ rfl rfl rfl (by decide) (by decide) (by exact Nat.le_of_ble_eq_true rfl) rfl ?_
    refine sp_X12_shapesRun (left := lS c a b i) (G := G0 + gS c a b i) h hS rfl (by omega) (by omega) (by omega) (by omega) h36' (by omega) (fun M5 hF5 hN => ?_)
    have hF6 : fr (shR R0 G0) M1 M5 := hF4.trans (hF5.mono (fun a j q => by unfold rnR rowR oR at q; unfold shR rowR; omega))
    have h := h1.fr hF6 (fun _ _ => shR_c)
    have hL := h.lay
    have hS : scS c a b b M5 := hS.mv (fun j => hF5.bk (by unfold rnR rowR oR; omega)) (fun j => hF5.bk (by unfold rnR rowR oR; omega))
    obtain ⟨n1, n2, n3, n4, n5⟩ := hN
    refine gKn ?_
    refine E_iload_n dX12_shapes_75 rfl ?_
    refine E_aload_n dX12_shapes_76 rfl ?_
    refine E_callV0 (fr' := 1) (k1 := 0) (n1 := 0) (k2 := 0) (n2 := 0) dX12_shapes_77 kO_X12_wide kL_X12_380 (l_128 hL) (k_128 hL) ⟨by decide, rfl⟩  (by decide) (by decide) (by exact Nat.le_of_ble_eq_true rfl) rfl ?_
    refine sp_X12_wide hL n1.1 n2 n4 ?_
    refine gKv ?_
    refine E_iadd dX12_shapes_80 ?_
    refine E_istore_n dX12_shapes_81 (Nat.le_of_ble_eq_true rfl) (by decide) rfl ?_
    refine E_aload_n dX12_shapes_82 rfl ?_
    refine E_iload dX12_shapes_83 rfl ?_
    refine E_iload_n dX12_shapes_85 rfl ?_
    refine E_callV2 (fr' := 1) (k1 := 0) (n1 := 0) (k2 := 0) (n2 := 0) dX12_shapes_86 kO_X12_endOfRun kL_X12_415 (l_128 hL) (k_128 hL) ⟨by decide, rfl⟩ rfl rfl (by decide) (by decide) (by exact Nat.le_of_ble_eq_true rfl) rfl ?_
    refine sp_X12_endOfRun hL h.wf hS (by omega) (by omega) (by omega) ?_
    refine gKv ?_
    refine E_istore dX12_shapes_89 (Nat.le_of_ble_eq_true rfl) (by decide) rfl ?_
    refine E_goto (tgt := 11) dX12_shapes_91 (by decide) ?_
    refine ih hin M5 hF6 hS ⟨?_, ?_, ?_, ?_, ?_⟩
    · show gS c a b i + (rL c a b i).length ≤ _
      have n1 : (rL c a b i).length ≤ 64 := n1.1
      omega
    · rw [← Nat.add_assoc]; exact (hF5.bk (by unfold rnR rowR oR; omega)).trans h45'
    · exact n3.trans (congrArg nI (Nat.add_assoc _ _ _))
    · exact fun j hj => (hEi j hj).mv (fun p _ _ => hF5.bk (by unfold rnR rowR oR; omega))
    · intro j hj
      by_cases e : j = i
      · subst e; exact ⟨n1, n5⟩
      · have hg := hgm j (by omega)
        exact ⟨(hO4 j (by omega)).1, (hO4 j (by omega)).2.mv (fun q p _ _ hp => hF5.bk (by unfold rnR rowR oR; omega))⟩
set_option maxRecDepth 100000 in
set_option maxHeartbeats 4000000 in
theorem sp_X12_shapes {g : gG} {Q : Option Value ⊕ String → gM → Prop} {c : Cf} {a b R0 G0 : Nat} {M : gM} (h : bS c M) (hab : a ≤ b) (hb : b ≤ 16) (hR0 : R0 + (b - a) ≤ 16) (hG0 : G0 + 64 * (b - a) ≤ 1024) (h45 : mI M 128 45 = nI R0) (h36 : mI M 128 36 = nI G0) (K : ∀ M', fr (shR R0 G0) M M' → shS c a b R0 G0 (nr c a b) M' → (∀ j, j ≤ nr c a b → shE c a b R0 G0 j M') → scS c a b b M' → Q (.inl none) M') : E g 14 0 0 mX12_shapes 0 [.ref 129, .int (nI a), .int (nI b), .null, .null] [] M Q := by
  have hL := h.lay
  refine E_aload_n dX12_shapes_0 rfl ?_
  refine E_iload_n dX12_shapes_1 rfl ?_
  refine E_iload_n dX12_shapes_2 rfl ?_
  refine E_callV2 (fr' := 1) (k1 := 0) (n1 := 0) (k2 := 0) (n2 := 0) dX12_shapes_3 kO_X12_laysScripts kL_X12_409 (l_128 hL) (k_128 hL) ⟨by decide, rfl⟩ rfl rfl (by decide) (by decide) (by exact Nat.le_of_ble_eq_true rfl) rfl ?_
  refine sp_X12_laysScripts h hab hb (fun M1 hF0 hS => ?_)
  have hL := hF0.lay hL
  have hFa : fr (shR R0 G0) M M1 := hF0.mono (fun a j q => by unfold scR at q; unfold shR; omega)
  have h := h.fr hFa (fun _ _ => shR_c)
  have h45 := (hF0.bk (a := 128) (j := 45) (by unfold scR; omega)).trans h45
  have h36 := (hF0.bk (a := 128) (j := 36) (by unfold scR; omega)).trans h36
  refine gKn ?_
  refine E_iconst (v := nI 0) dX12_shapes_6 (by decide) ?_
  refine E_istore_n dX12_shapes_7 (Nat.le_of_ble_eq_true rfl) (by decide) rfl ?_
  refine E_iload_n dX12_shapes_8 rfl ?_
  refine E_istore dX12_shapes_9 (Nat.le_of_ble_eq_true rfl) (by decide) rfl ?_
  exact lp_X12_shapes h hS hab hb hR0 hG0 (fun M' hF hH hE hS => K M' (hFa.trans hF) hH hE hS) 0 (Nat.zero_le _) M1 fr.refl hS ⟨Nat.zero_le _, h45, h36, fun j hj => by omega, fun j hj => by omega⟩
abbrev tl (c : Cf) : Nat := cN c 128 14
/-- the reference has shaped the whole text -/
def shA (c : Cf) (M : gM) : Prop := shS c 0 (tl c) 0 0 (nr c 0 (tl c)) M ∧ (∀ j, j ≤ nr c 0 (tl c) → shE c 0 (tl c) 0 0 j M) ∧ scS c 0 (tl c) (tl c) M
theorem WFc.tl {c : Cf} (h : WFc c) : cN c 128 14 ≤ 16 := h.1.2.1
set_option maxRecDepth 100000 in
set_option maxHeartbeats 4000000 in
theorem sp_X12_shapesAll {g : gG} {M : gM} {Q : Option Value ⊕ String → gM → Prop} {c : Cf} (h : bS c M) (K : ∀ M', fr (shR 0 0) M M' → shA c M' → Q (.inl none) M') : E g 15 0 0 mX12_shapesAll 0 [.ref 129] [] M Q := by
  have hL := h.lay
  have hl : tl c ≤ 16 := h.wf.tl
  have hF : fr (shR 0 0) M (sI (sI M 128 36 (nI 0)) 128 45 (nI 0)) := (fr.refl.wr (by unfold shR; omega)).wr (by unfold shR; omega)
  have hlen : mI (sI (sI M 128 36 (nI 0)) 128 45 (nI 0)) 128 14 = nI (tl c) := (mI_nj (by decide)).trans ((mI_nj (by decide)).trans (h.gc (Or.inr ⟨rfl, by decide⟩)))
  refine E_aload_n dX12_shapesAll_0 rfl ?_
  refine E_iconst (v := nI 0) dX12_shapesAll_1 (by decide) ?_
  refine E_putI dX12_shapesAll_2 kF_X12_406 kY_12 (Or.inl rfl) (l_128 hL) (k_128 hL) (Or.inl rfl) ?_
  refine E_aload_n dX12_shapesAll_5 rfl ?_
  refine E_iconst (v := nI 0) dX12_shapesAll_6 (by decide) ?_
  refine E_putI dX12_shapesAll_7 kF_X12_412 kY_12 (Or.inl rfl) (l_128 hL) (k_128 hL) (Or.inl rfl) ?_
  refine E_aload_n dX12_shapesAll_10 rfl ?_
  refine E_iconst (v := nI 0) dX12_shapesAll_11 (by decide) ?_
  refine E_aload_n dX12_shapesAll_12 rfl ?_
  refine E_getIL (v := nI (tl c)) dX12_shapesAll_13 kF_X12_219 kY_12 (Or.inl rfl) (l_128 hL) (k_128 hL) hlen ?_
  refine E_callV2 (fr' := 14) (k1 := 0) (n1 := 0) (k2 := 0) (n2 := 0) dX12_shapesAll_16 kO_X12_shapes kL_X12_421 (l_128 hL) (k_128 hL) ⟨by decide, rfl⟩ rfl rfl (by decide) (by decide) (by exact Nat.le_of_ble_eq_true rfl) rfl ?_
  refine sp_X12_shapes (h.fr hF (fun _ _ => shR_c)) (Nat.zero_le _) hl (by omega) (by omega) ((mI_eq)) ((mI_nj (by decide)).trans mI_eq) (fun M' hF2 hH hE hS => ?_)
  have hL := hF2.lay (hF.lay hL)
  refine gKn ?_
  refine E_vret dX12_shapesAll_19 rfl ?_
  exact K _ (hF.trans hF2) ⟨hH, hE, hS⟩
