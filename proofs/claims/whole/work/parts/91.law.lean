/-! the law's calls of the class -/
theorem gKc {g : gG} {fr k n : Nat} {μ : gMu} {pc : Nat} {ls rest : List Value} {M : gM} {Q : Option Value ⊕ String → gM → Prop} {x : String} (h : Ex g fr k n μ pc ls x M Q) : gK g fr k n μ pc ls rest Q (.inr x) M := h
/-- what the reference, and the law, have of a memory is kept, but for longs -/
def ke (M M' : gM) : Prop := mN M ≤ mN M' ∧ (∀ a, a < mN M → mK M' a = mK M a) ∧ ∀ a j, 128 ≤ a → a ≤ 178 → mI M' a j = mI M a j ∧ mR M' a j = mR M a j
theorem kd.e {M M' : gM} (h : kd M M') : ke M M' := ⟨h.1, h.2.1, fun a j q q2 => ⟨(h.2.2 a j q q2).1, (h.2.2 a j q q2).2.2⟩⟩
theorem ke.refl {M : gM} : ke M M := kd.refl.e
theorem ke.sL {M M' : gM} (h : ke M M') {a j : Nat} {v : Int64} : ke M (sL M' a j v) := h
theorem kS.sL {c : Cf} {P π : Nat → Nat} {M : gM} (h : kS c P π M) {a j : Nat} {v : Int64} : kS c P π (sL M a j v) := h
theorem bS.ke {c : Cf} {M M' : gM} (h : bS c M) (hk : ke M M') (hL : gLay M') : bS c M' :=
  ⟨hL, ⟨fun a j q => (hk.2.2 a j (by unfold cfA at q; omega) (by unfold cfA at q; omega)).1.trans (h.gc q), fun j => (hk.2.2 136 j (by decide) (by decide)).1.trans (h.gr j)⟩, h.wf⟩
theorem mL_eq {M : gM} {a k : Nat} {v : Int64} : mL (sL M a k v) a k = v := by rw [mL_sL, if_pos ⟨rfl, rfl⟩]
set_option maxRecDepth 100000 in
set_option maxHeartbeats 4000000 in
theorem w_useFace {g : gG} {M : gM} {Q : Option Value ⊕ String → gM → Prop} (hst : (gl1 g).stackTraces = false) {c : Cf} {P π : Nat → Nat} (hS : kS c P π M) {p : Int32} (W0 : iIn p (nI 0) (nI 1) → ∀ M' P' π', kS (uN c 128 1 (gN p)) P' π' M' → ke M M' → mL M' 178 0 = Int32.toInt64 (nI (fc0 c)) → Q (.inl (some (.int (nI 0)))) M') (W1 : ¬ iIn p (nI 0) (nI 1) → ∀ M' P' π', kS c P' π' M' → ke M M' → Q (.inl (some (.int (nI 1)))) M') : E g 8 1 6 mL_useFace 0 [.ref 1, .int p, .ref 179, .null] [] M Q := by
  have hL := hS.1.lay
  refine E_aload_n dL_useFace_0 rfl ?_
  refine E_iconst (v := nI 0) dL_useFace_1 (by decide) ?_
  refine E_aload_n dL_useFace_2 rfl ?_
  refine E_iload_n dL_useFace_3 rfl ?_
  refine E_callV1 (fr' := 7) (k1 := 1) (n1 := 6) (k2 := 0) (n2 := 0) dL_useFace_4 kO_X11_useFace kL_L_7 (l_0 hL) (k_0 hL) ⟨by decide, rfl⟩ rfl (by decide) (by decide) (by exact Nat.le_of_ble_eq_true rfl) rfl ?_
  refine sp_X11_useFace hst hS (fun z1 => ?_) (fun z1 M1 hS1 hkd => ?_)
  · have hS1 := hS
    have hkd : kd M M := kd.refl
    have hL := hS1.1.lay
    refine gKc (Ex_catch [] [] 0 9 12 13 3 1 rfl (fun z e => by subst e; decide) (by decide) (gW_at 819 (by decide +kernel) (by decide +kernel)) (List.mem_filter.mpr ⟨List.mem_of_getElem? (i := 826) (by decide +kernel), rfl⟩) (fun w hw => by cases hw) (Or.inl ⟨⟨3, by decide⟩, rfl, rfl, dL_useFace_12⟩) (by decide) rfl ?_)
    refine E_iconst (v := nI 1) dL_useFace_13 (by decide) ?_
    refine E_iret dL_useFace_14 (Or.inl rfl) ?_
    exact W1 z1 _ _ _ hS1 hkd.e
  · have hL := hS1.1.lay
    refine gKv ?_
    refine E_i2l dL_useFace_7 ?_
    refine E_last dL_useFace_8 (l_178 hL) (k_178 hL) rfl (by omega) (by decide) ?_
    refine E_goto (tgt := 15) dL_useFace_9 (by decide) ?_
    refine E_iconst (v := nI 0) dL_useFace_15 (by decide) ?_
    refine E_iret dL_useFace_16 (Or.inl rfl) ?_
    exact W0 z1 _ _ _ hS1.sL hkd.e.sL mL_eq
set_option maxRecDepth 100000 in
set_option maxHeartbeats 4000000 in
theorem w_lookup {g : gG} {M : gM} {Q : Option Value ⊕ String → gM → Prop} (hst : (gl1 g).stackTraces = false) {c : Cf} {P π : Nat → Nat} (hS : kS c P π M) {p1 p2 p3 p4 p5 : Int32} (W0 : iLk1 p1 p2 → iLk2 p3 p4 p5 → cN c 129 (cN c 128 1) < 12 → ∀ M' P' π', kS (nxL c (cN c 128 1) (cN c 129 (cN c 128 1)) p1 p2 p3 p4 p5) P' π' M' → ke M M' → mL M' 178 0 = Int32.toInt64 (nI (cN c 129 (cN c 128 1))) → Q (.inl (some (.int (nI 0)))) M') (W1 : ¬ iLk1 p1 p2 → ∀ M' P' π', kS c P' π' M' → ke M M' → Q (.inl (some (.int (nI 1)))) M') (W2 : iLk1 p1 p2 → ¬ iLk2 p3 p4 p5 → ∀ M' P' π', kS c P' π' M' → ke M M' → Q (.inl (some (.int (nI 2)))) M') (W3 : iLk1 p1 p2 → iLk2 p3 p4 p5 → cN c 129 (cN c 128 1) = 12 → ∀ M' P' π', kS c P' π' M' → ke M M' → Q (.inl (some (.int (nI 3)))) M') : E g 8 11 321 mL_lookup 0 [.ref 1, .int p1, .int p2, .int p3, .int p4, .int p5, .ref 179, .null] [] M Q := by
  have hL := hS.1.lay
  refine E_aload dL_lookup_0 rfl ?_
  refine E_iconst (v := nI 0) dL_lookup_2 (by decide) ?_
  refine E_aload_n dL_lookup_3 rfl ?_
  refine E_iload_n dL_lookup_4 rfl ?_
  refine E_iload_n dL_lookup_5 rfl ?_
  refine E_iload_n dL_lookup_6 rfl ?_
  refine E_iload dL_lookup_7 rfl ?_
  refine E_iload dL_lookup_9 rfl ?_
  refine E_callV5 (fr' := 7) (k1 := 11) (n1 := 321) (k2 := 0) (n2 := 0) dL_lookup_11 kO_X11_lookup kL_L_15 (l_0 hL) (k_0 hL) ⟨by decide, rfl⟩ rfl rfl rfl rfl rfl (by decide) (by decide) (by exact Nat.le_of_ble_eq_true rfl) rfl ?_
  refine sp_X11_lookup hst hS (fun z1 => ?_) (fun z1 z2 => ?_) (fun z1 z2 z3 => ?_) (fun z1 z2 z3 M1 P1 hS1 hkd => ?_)
  · have hS1 := hS
    have hkd : kd M M := kd.refl
    have hL := hS1.1.lay
    refine gKc (Ex_catch [] [(0, 16, 23, 19), (0, 16, 27, 21)] 0 16 19 13 7 2 rfl (fun z e => by subst e; decide) (by decide) (gW_at 819 (by decide +kernel) (by decide +kernel)) (List.mem_filter.mpr ⟨List.mem_of_getElem? (i := 826) (by decide +kernel), rfl⟩) (fun w hw => by cases hw) (Or.inr ⟨rfl, dL_lookup_19⟩) (by decide) rfl ?_)
    refine E_iconst (v := nI 1) dL_lookup_21 (by decide) ?_
    refine E_iret dL_lookup_22 (Or.inl rfl) ?_
    exact W1 z1 _ _ _ hS1 hkd.e
  · have hS1 := hS
    have hkd : kd M M := kd.refl
    have hL := hS1.1.lay
    refine gKc (Ex_catch [(0, 16, 19, 13)] [(0, 16, 27, 21)] 0 16 23 19 7 2 rfl (fun z e => by subst e; decide) (by decide) (gW_at 895 (by decide +kernel) (by decide +kernel)) (List.mem_filter.mpr ⟨List.mem_of_getElem? (i := 905) (by decide +kernel), rfl⟩) (List.forall_mem_cons.mpr ⟨⟨by decide, "java/lang/IndexOutOfBoundsException", gW_at 819 (by decide +kernel) (by decide +kernel), by decide⟩, fun w hw => by cases hw⟩) (Or.inr ⟨rfl, dL_lookup_23⟩) (by decide) rfl ?_)
    refine E_iconst (v := nI 2) dL_lookup_25 (by decide) ?_
    refine E_iret dL_lookup_26 (Or.inl rfl) ?_
    exact W2 z1 z2 _ _ _ hS1 hkd.e
  · have hS1 := hS
    have hkd : kd M M := kd.refl
    have hL := hS1.1.lay
    refine gKc (Ex_catch [(0, 16, 19, 13), (0, 16, 23, 19)] [] 0 16 27 21 7 2 rfl (fun z e => by subst e; decide) (by decide) (gW_at 896 (by decide +kernel) (by decide +kernel)) (List.mem_filter.mpr ⟨List.mem_of_getElem? (i := 923) (by decide +kernel), rfl⟩) (List.forall_mem_cons.mpr ⟨⟨by decide, "java/lang/IndexOutOfBoundsException", gW_at 819 (by decide +kernel) (by decide +kernel), by decide⟩, (List.forall_mem_cons.mpr ⟨⟨by decide, "java/lang/IllegalArgumentException", gW_at 895 (by decide +kernel) (by decide +kernel), by decide⟩, fun w hw => by cases hw⟩)⟩) (Or.inr ⟨rfl, dL_lookup_27⟩) (by decide) rfl ?_)
    refine E_iconst (v := nI 3) dL_lookup_29 (by decide) ?_
    refine E_iret dL_lookup_30 (Or.inl rfl) ?_
    exact W3 z1 z2 z3 _ _ _ hS1 hkd.e
  · have hL := hS1.1.lay
    refine gKv ?_
    refine E_i2l dL_lookup_14 ?_
    refine E_last dL_lookup_15 (l_178 hL) (k_178 hL) rfl (by omega) (by decide) ?_
    refine E_goto (tgt := 31) dL_lookup_16 (by decide) ?_
    refine E_iconst (v := nI 0) dL_lookup_31 (by decide) ?_
    refine E_iret dL_lookup_32 (Or.inl rfl) ?_
    exact W0 z1 z2 z3 _ _ _ hS1.sL hkd.e.sL mL_eq
set_option maxRecDepth 100000 in
set_option maxHeartbeats 4000000 in
theorem w_rule {g : gG} {M : gM} {Q : Option Value ⊕ String → gM → Prop} (hst : (gl1 g).stackTraces = false) {c : Cf} {P π : Nat → Nat} (hS : kS c P π M) {p x0 x1 x2 x3 x4 x5 : Int32} (W0 : ∀ j, j < cnt0 c → p = nI j → iRl (cN c 130 (at0 c j)) x0 x1 x2 x3 x4 x5 → cN c 135 (at0 c j) < 8 → ∀ M' P' π', kS (nxR c (at0 c j) (cN c 135 (at0 c j)) x0 x1 x2 x3 x4 x5) P' π' M' → ke M M' → mL M' 178 0 = Int32.toInt64 (nI (cN c 135 (at0 c j) + 1)) → Q (.inl (some (.int (nI 0)))) M') (W1 : ¬ iBel p (cnt0 c) → ∀ M' P' π', kS c P' π' M' → ke M M' → Q (.inl (some (.int (nI 1)))) M') (W2 : ∀ j, j < cnt0 c → p = nI j → ¬ iRl (cN c 130 (at0 c j)) x0 x1 x2 x3 x4 x5 → ∀ M' P' π', kS c P' π' M' → ke M M' → Q (.inl (some (.int (nI 2)))) M') (W3 : ∀ j, j < cnt0 c → p = nI j → iRl (cN c 130 (at0 c j)) x0 x1 x2 x3 x4 x5 → cN c 135 (at0 c j) = 8 → ∀ M' P' π', kS c P' π' M' → ke M M' → Q (.inl (some (.int (nI 3)))) M') : E g 8 1 6 mL_rule 0 [.ref 1, .int p, .int x0, .int x1, .int x2, .int x3, .int x4, .int x5, .ref 179, .null] [] M Q := by
  have hL := hS.1.lay
  refine E_aload dL_rule_0 rfl ?_
  refine E_iconst (v := nI 0) dL_rule_2 (by decide) ?_
  refine E_aload_n dL_rule_3 rfl ?_
  refine E_iload_n dL_rule_4 rfl ?_
  refine E_iload_n dL_rule_5 rfl ?_
  refine E_iload_n dL_rule_6 rfl ?_
  refine E_iload dL_rule_7 rfl ?_
  refine E_iload dL_rule_9 rfl ?_
  refine E_iload dL_rule_11 rfl ?_
  refine E_iload dL_rule_13 rfl ?_
  refine E_callV7 (fr' := 7) (k1 := 1) (n1 := 6) (k2 := 0) (n2 := 0) dL_rule_15 kO_X11_rule kL_L_23 (l_0 hL) (k_0 hL) ⟨by decide, rfl⟩ rfl rfl rfl rfl rfl rfl rfl (by decide) (by decide) (by exact Nat.le_of_ble_eq_true rfl) rfl ?_
  refine sp_X11_rule hst hS (fun z1 => ?_) (fun j z1 z2 z3 => ?_) (fun j z1 z2 z3 z4 => ?_) (fun j z1 z2 z3 z4 M1 hS1 hkd => ?_)
  · have hS1 := hS
    have hkd : kd M M := kd.refl
    have hL := hS1.1.lay
    refine gKc (Ex_catch [] [(0, 20, 27, 19), (0, 20, 31, 21)] 0 20 23 13 9 2 rfl (fun z e => by subst e; decide) (by decide) (gW_at 819 (by decide +kernel) (by decide +kernel)) (List.mem_filter.mpr ⟨List.mem_of_getElem? (i := 826) (by decide +kernel), rfl⟩) (fun w hw => by cases hw) (Or.inr ⟨rfl, dL_rule_23⟩) (by decide) rfl ?_)
    refine E_iconst (v := nI 1) dL_rule_25 (by decide) ?_
    refine E_iret dL_rule_26 (Or.inl rfl) ?_
    exact W1 z1 _ _ _ hS1 hkd.e
  · have hS1 := hS
    have hkd : kd M M := kd.refl
    have hL := hS1.1.lay
    refine gKc (Ex_catch [(0, 20, 23, 13)] [(0, 20, 31, 21)] 0 20 27 19 9 2 rfl (fun z e => by subst e; decide) (by decide) (gW_at 895 (by decide +kernel) (by decide +kernel)) (List.mem_filter.mpr ⟨List.mem_of_getElem? (i := 905) (by decide +kernel), rfl⟩) (List.forall_mem_cons.mpr ⟨⟨by decide, "java/lang/IndexOutOfBoundsException", gW_at 819 (by decide +kernel) (by decide +kernel), by decide⟩, fun w hw => by cases hw⟩) (Or.inr ⟨rfl, dL_rule_27⟩) (by decide) rfl ?_)
    refine E_iconst (v := nI 2) dL_rule_29 (by decide) ?_
    refine E_iret dL_rule_30 (Or.inl rfl) ?_
    exact W2 j z1 z2 z3 _ _ _ hS1 hkd.e
  · have hS1 := hS
    have hkd : kd M M := kd.refl
    have hL := hS1.1.lay
    refine gKc (Ex_catch [(0, 20, 23, 13), (0, 20, 27, 19)] [] 0 20 31 21 9 2 rfl (fun z e => by subst e; decide) (by decide) (gW_at 896 (by decide +kernel) (by decide +kernel)) (List.mem_filter.mpr ⟨List.mem_of_getElem? (i := 923) (by decide +kernel), rfl⟩) (List.forall_mem_cons.mpr ⟨⟨by decide, "java/lang/IndexOutOfBoundsException", gW_at 819 (by decide +kernel) (by decide +kernel), by decide⟩, (List.forall_mem_cons.mpr ⟨⟨by decide, "java/lang/IllegalArgumentException", gW_at 895 (by decide +kernel) (by decide +kernel), by decide⟩, fun w hw => by cases hw⟩)⟩) (Or.inr ⟨rfl, dL_rule_31⟩) (by decide) rfl ?_)
    refine E_iconst (v := nI 3) dL_rule_33 (by decide) ?_
    refine E_iret dL_rule_34 (Or.inl rfl) ?_
    exact W3 j z1 z2 z3 z4 _ _ _ hS1 hkd.e
  · have hL := hS1.1.lay
    refine gKv ?_
    refine E_i2l dL_rule_18 ?_
    refine E_last dL_rule_19 (l_178 hL) (k_178 hL) rfl (by omega) (by decide) ?_
    refine E_goto (tgt := 35) dL_rule_20 (by decide) ?_
    refine E_iconst (v := nI 0) dL_rule_35 (by decide) ?_
    refine E_iret dL_rule_36 (Or.inl rfl) ?_
    exact W0 j z1 z2 z3 z4 _ _ _ hS1.sL hkd.e.sL mL_eq
set_option maxRecDepth 100000 in
set_option maxHeartbeats 4000000 in
theorem w_setMark {g : gG} {M : gM} {Q : Option Value ⊕ String → gM → Prop} (hst : (gl1 g).stackTraces = false) {c : Cf} {P π : Nat → Nat} (hS : kS c P π M) {p q : Int32} (W0 : ∀ j, j < 256 → p = nI j → (q = -100 ∨ iClass q) → ∀ M' P' π', kS (uN c 137 (256 * fc0 c + j) (mkE q)) P' π' M' → ke M M' → mL M' 178 0 = Int32.toInt64 (mkD (cN c 137 (256 * fc0 c + j))) → Q (.inl (some (.int (nI 0)))) M') (W1 : ¬ iGlyph p → ∀ M' P' π', kS c P' π' M' → ke M M' → Q (.inl (some (.int (nI 1)))) M') (W2 : iGlyph p → ¬ (q = -100 ∨ iClass q) → ∀ M' P' π', kS c P' π' M' → ke M M' → Q (.inl (some (.int (nI 2)))) M') : E g 8 1 6 mL_setMark 0 [.ref 1, .int p, .int q, .ref 179, .null] [] M Q := by
  have hL := hS.1.lay
  refine E_aload_n dL_setMark_0 rfl ?_
  refine E_iconst (v := nI 0) dL_setMark_1 (by decide) ?_
  refine E_aload_n dL_setMark_2 rfl ?_
  refine E_iload_n dL_setMark_3 rfl ?_
  refine E_iload_n dL_setMark_4 rfl ?_
  refine E_callV2 (fr' := 7) (k1 := 1) (n1 := 6) (k2 := 0) (n2 := 0) dL_setMark_5 kO_X11_setMark kL_L_27 (l_0 hL) (k_0 hL) ⟨by decide, rfl⟩ rfl rfl (by decide) (by decide) (by exact Nat.le_of_ble_eq_true rfl) rfl ?_
  refine sp_X11_setMark hst hS (fun z1 => ?_) (fun z1 z2 => ?_) (fun j z1 z2 z3 M1 hS1 hkd => ?_)
  · have hS1 := hS
    have hkd : kd M M := kd.refl
    have hL := hS1.1.lay
    refine gKc (Ex_catch [] [(0, 10, 17, 19)] 0 10 13 13 4 2 rfl (fun z e => by subst e; decide) (by decide) (gW_at 819 (by decide +kernel) (by decide +kernel)) (List.mem_filter.mpr ⟨List.mem_of_getElem? (i := 826) (by decide +kernel), rfl⟩) (fun w hw => by cases hw) (Or.inr ⟨rfl, dL_setMark_13⟩) (by decide) rfl ?_)
    refine E_iconst (v := nI 1) dL_setMark_15 (by decide) ?_
    refine E_iret dL_setMark_16 (Or.inl rfl) ?_
    exact W1 z1 _ _ _ hS1 hkd.e
  · have hS1 := hS
    have hkd : kd M M := kd.refl
    have hL := hS1.1.lay
    refine gKc (Ex_catch [(0, 10, 13, 13)] [] 0 10 17 19 4 2 rfl (fun z e => by subst e; decide) (by decide) (gW_at 895 (by decide +kernel) (by decide +kernel)) (List.mem_filter.mpr ⟨List.mem_of_getElem? (i := 905) (by decide +kernel), rfl⟩) (List.forall_mem_cons.mpr ⟨⟨by decide, "java/lang/IndexOutOfBoundsException", gW_at 819 (by decide +kernel) (by decide +kernel), by decide⟩, fun w hw => by cases hw⟩) (Or.inr ⟨rfl, dL_setMark_17⟩) (by decide) rfl ?_)
    refine E_iconst (v := nI 2) dL_setMark_19 (by decide) ?_
    refine E_iret dL_setMark_20 (Or.inl rfl) ?_
    exact W2 z1 z2 _ _ _ hS1 hkd.e
  · have hL := hS1.1.lay
    refine gKv ?_
    refine E_i2l dL_setMark_8 ?_
    refine E_last dL_setMark_9 (l_178 hL) (k_178 hL) rfl (by omega) (by decide) ?_
    refine E_goto (tgt := 21) dL_setMark_10 (by decide) ?_
    refine E_iconst (v := nI 0) dL_setMark_21 (by decide) ?_
    refine E_iret dL_setMark_22 (Or.inl rfl) ?_
    exact W0 j z1 z2 z3 _ _ _ hS1.sL hkd.e.sL mL_eq
set_option maxRecDepth 100000 in
set_option maxHeartbeats 4000000 in
theorem w_setGroup {g : gG} {M : gM} {Q : Option Value ⊕ String → gM → Prop} (hst : (gl1 g).stackTraces = false) {c : Cf} {P π : Nat → Nat} (hS : kS c P π M) {p q : Int32} (W0 : ∀ j, j < 256 → p = nI j → iIn q (nI 0) (nI 5) → ∀ M' P' π', kS (uN c 138 (256 * fc0 c + j) (gN q)) P' π' M' → ke M M' → mL M' 178 0 = Int32.toInt64 (nI (cN c 138 (256 * fc0 c + j))) → Q (.inl (some (.int (nI 0)))) M') (W1 : ¬ (iGlyph p ∧ iIn q (nI 0) (nI 5)) → ∀ M' P' π', kS c P' π' M' → ke M M' → Q (.inl (some (.int (nI 1)))) M') : E g 8 1 6 mL_setGroup 0 [.ref 1, .int p, .int q, .ref 179, .null] [] M Q := by
  have hL := hS.1.lay
  refine E_aload_n dL_setGroup_0 rfl ?_
  refine E_iconst (v := nI 0) dL_setGroup_1 (by decide) ?_
  refine E_aload_n dL_setGroup_2 rfl ?_
  refine E_iload_n dL_setGroup_3 rfl ?_
  refine E_iload_n dL_setGroup_4 rfl ?_
  refine E_callV2 (fr' := 7) (k1 := 1) (n1 := 6) (k2 := 0) (n2 := 0) dL_setGroup_5 kO_X11_setGroup kL_L_31 (l_0 hL) (k_0 hL) ⟨by decide, rfl⟩ rfl rfl (by decide) (by decide) (by exact Nat.le_of_ble_eq_true rfl) rfl ?_
  refine sp_X11_setGroup hst hS (fun z1 => ?_) (fun j z1 z2 z3 M1 hS1 hkd => ?_)
  · have hS1 := hS
    have hkd : kd M M := kd.refl
    have hL := hS1.1.lay
    refine gKc (Ex_catch [] [] 0 10 13 13 4 2 rfl (fun z e => by subst e; decide) (by decide) (gW_at 819 (by decide +kernel) (by decide +kernel)) (List.mem_filter.mpr ⟨List.mem_of_getElem? (i := 826) (by decide +kernel), rfl⟩) (fun w hw => by cases hw) (Or.inr ⟨rfl, dL_setGroup_13⟩) (by decide) rfl ?_)
    refine E_iconst (v := nI 1) dL_setGroup_15 (by decide) ?_
    refine E_iret dL_setGroup_16 (Or.inl rfl) ?_
    exact W1 z1 _ _ _ hS1 hkd.e
  · have hL := hS1.1.lay
    refine gKv ?_
    refine E_i2l dL_setGroup_8 ?_
    refine E_last dL_setGroup_9 (l_178 hL) (k_178 hL) rfl (by omega) (by decide) ?_
    refine E_goto (tgt := 17) dL_setGroup_10 (by decide) ?_
    refine E_iconst (v := nI 0) dL_setGroup_17 (by decide) ?_
    refine E_iret dL_setGroup_18 (Or.inl rfl) ?_
    exact W0 j z1 z2 z3 _ _ _ hS1.sL hkd.e.sL mL_eq
set_option maxRecDepth 100000 in
set_option maxHeartbeats 4000000 in
theorem w_setWidth {g : gG} {M : gM} {Q : Option Value ⊕ String → gM → Prop} (hst : (gl1 g).stackTraces = false) {c : Cf} {P π : Nat → Nat} (hS : kS c P π M) {p q : Int32} (W0 : ∀ j, j < 256 → p = nI j → iIn q (nI 0) (nI 100) → ∀ M' P' π', kS (uN c 139 (256 * fc0 c + j) (gN q)) P' π' M' → ke M M' → mL M' 178 0 = Int32.toInt64 (nI (cN c 139 (256 * fc0 c + j))) → Q (.inl (some (.int (nI 0)))) M') (W1 : ¬ iGlyph p → ∀ M' P' π', kS c P' π' M' → ke M M' → Q (.inl (some (.int (nI 1)))) M') (W2 : iGlyph p → ¬ iIn q (nI 0) (nI 100) → ∀ M' P' π', kS c P' π' M' → ke M M' → Q (.inl (some (.int (nI 2)))) M') : E g 8 1 6 mL_setWidth 0 [.ref 1, .int p, .int q, .ref 179, .null] [] M Q := by
  have hL := hS.1.lay
  refine E_aload_n dL_setWidth_0 rfl ?_
  refine E_iconst (v := nI 0) dL_setWidth_1 (by decide) ?_
  refine E_aload_n dL_setWidth_2 rfl ?_
  refine E_iload_n dL_setWidth_3 rfl ?_
  refine E_iload_n dL_setWidth_4 rfl ?_
  refine E_callV2 (fr' := 7) (k1 := 1) (n1 := 6) (k2 := 0) (n2 := 0) dL_setWidth_5 kO_X11_setWidth kL_L_34 (l_0 hL) (k_0 hL) ⟨by decide, rfl⟩ rfl rfl (by decide) (by decide) (by exact Nat.le_of_ble_eq_true rfl) rfl ?_
  refine sp_X11_setWidth hst hS (fun z1 => ?_) (fun z1 z2 => ?_) (fun j z1 z2 z3 M1 hS1 hkd => ?_)
  · have hS1 := hS
    have hkd : kd M M := kd.refl
    have hL := hS1.1.lay
    refine gKc (Ex_catch [] [(0, 10, 17, 19)] 0 10 13 13 4 2 rfl (fun z e => by subst e; decide) (by decide) (gW_at 819 (by decide +kernel) (by decide +kernel)) (List.mem_filter.mpr ⟨List.mem_of_getElem? (i := 826) (by decide +kernel), rfl⟩) (fun w hw => by cases hw) (Or.inr ⟨rfl, dL_setWidth_13⟩) (by decide) rfl ?_)
    refine E_iconst (v := nI 1) dL_setWidth_15 (by decide) ?_
    refine E_iret dL_setWidth_16 (Or.inl rfl) ?_
    exact W1 z1 _ _ _ hS1 hkd.e
  · have hS1 := hS
    have hkd : kd M M := kd.refl
    have hL := hS1.1.lay
    refine gKc (Ex_catch [(0, 10, 13, 13)] [] 0 10 17 19 4 2 rfl (fun z e => by subst e; decide) (by decide) (gW_at 895 (by decide +kernel) (by decide +kernel)) (List.mem_filter.mpr ⟨List.mem_of_getElem? (i := 905) (by decide +kernel), rfl⟩) (List.forall_mem_cons.mpr ⟨⟨by decide, "java/lang/IndexOutOfBoundsException", gW_at 819 (by decide +kernel) (by decide +kernel), by decide⟩, fun w hw => by cases hw⟩) (Or.inr ⟨rfl, dL_setWidth_17⟩) (by decide) rfl ?_)
    refine E_iconst (v := nI 2) dL_setWidth_19 (by decide) ?_
    refine E_iret dL_setWidth_20 (Or.inl rfl) ?_
    exact W2 z1 z2 _ _ _ hS1 hkd.e
  · have hL := hS1.1.lay
    refine gKv ?_
    refine E_i2l dL_setWidth_8 ?_
    refine E_last dL_setWidth_9 (l_178 hL) (k_178 hL) rfl (by omega) (by decide) ?_
    refine E_goto (tgt := 21) dL_setWidth_10 (by decide) ?_
    refine E_iconst (v := nI 0) dL_setWidth_21 (by decide) ?_
    refine E_iret dL_setWidth_22 (Or.inl rfl) ?_
    exact W0 j z1 z2 z3 _ _ _ hS1.sL hkd.e.sL mL_eq
set_option maxRecDepth 100000 in
set_option maxHeartbeats 4000000 in
theorem w_lack {g : gG} {M : gM} {Q : Option Value ⊕ String → gM → Prop} (hst : (gl1 g).stackTraces = false) {c : Cf} {P π : Nat → Nat} (hS : kS c P π M) {p : Int32} (W0 : ∀ j, j < 45 → p = nI j → iSign p → ∀ M' P' π', kS (uN c 140 j (1 - cN c 140 j)) P' π' M' → ke M M' → mL M' 178 0 = Int32.toInt64 (nI (1 - cN c 140 j)) → Q (.inl (some (.int (nI 0)))) M') (W1 : ¬ iSign p → ∀ M' P' π', kS c P' π' M' → ke M M' → Q (.inl (some (.int (nI 1)))) M') : E g 8 1 6 mL_lack 0 [.ref 1, .int p, .ref 179, .null] [] M Q := by
  have hL := hS.1.lay
  refine E_aload_n dL_lack_0 rfl ?_
  refine E_iconst (v := nI 0) dL_lack_1 (by decide) ?_
  refine E_aload_n dL_lack_2 rfl ?_
  refine E_iload_n dL_lack_3 rfl ?_
  refine E_callV1 (fr' := 7) (k1 := 1) (n1 := 6) (k2 := 0) (n2 := 0) dL_lack_4 kO_X11_lack kL_L_37 (l_0 hL) (k_0 hL) ⟨by decide, rfl⟩ rfl (by decide) (by decide) (by exact Nat.le_of_ble_eq_true rfl) rfl ?_
  refine sp_X11_lack hst hS (fun z1 => ?_) (fun j z1 z2 z3 M1 hS1 hkd => ?_)
  · have hS1 := hS
    have hkd : kd M M := kd.refl
    have hL := hS1.1.lay
    refine gKc (Ex_catch [] [] 0 16 19 19 3 1 rfl (fun z e => by subst e; decide) (by decide) (gW_at 895 (by decide +kernel) (by decide +kernel)) (List.mem_filter.mpr ⟨List.mem_of_getElem? (i := 905) (by decide +kernel), rfl⟩) (fun w hw => by cases hw) (Or.inl ⟨⟨3, by decide⟩, rfl, rfl, dL_lack_19⟩) (by decide) rfl ?_)
    refine E_iconst (v := nI 1) dL_lack_20 (by decide) ?_
    refine E_iret dL_lack_21 (Or.inl rfl) ?_
    exact W1 z1 _ _ _ hS1 hkd.e
  · have hL := hS1.1.lay
    have h1c := (hS.1.wf.gl j).2.2.2
    refine gKv ?_
    refine E_if_eq_n (tgt := 14) dL_lack_7 (by decide) (by omega) (fun e_7 => ?_) (fun e_7 => ?_)
    · refine E_lconst (v := 0) dL_lack_14 (by decide) ?_
      refine E_last dL_lack_15 (l_178 hL) (k_178 hL) rfl (by omega) (by decide) ?_
      refine E_goto (tgt := 22) dL_lack_16 (by decide) ?_
      refine E_iconst (v := nI 0) dL_lack_22 (by decide) ?_
      refine E_iret dL_lack_23 (Or.inl rfl) ?_
      exact W0 j z1 z2 z3 _ _ _ hS1.sL hkd.e.sL (mL_eq.trans (by first | (rw [show 1 - cN c 140 j = 1 by omega]; decide) | (rw [show 1 - cN c 140 j = 0 by omega]; decide)))
    · refine E_lconst (v := 1) dL_lack_10 (by decide) ?_
      refine E_goto (tgt := 15) dL_lack_11 (by decide) ?_
      refine E_last dL_lack_15 (l_178 hL) (k_178 hL) rfl (by omega) (by decide) ?_
      refine E_goto (tgt := 22) dL_lack_16 (by decide) ?_
      refine E_iconst (v := nI 0) dL_lack_22 (by decide) ?_
      refine E_iret dL_lack_23 (Or.inl rfl) ?_
      exact W0 j z1 z2 z3 _ _ _ hS1.sL hkd.e.sL (mL_eq.trans (by first | (rw [show 1 - cN c 140 j = 1 by omega]; decide) | (rw [show 1 - cN c 140 j = 0 by omega]; decide)))
set_option maxRecDepth 100000 in
set_option maxHeartbeats 4000000 in
theorem w_size {g : gG} {M : gM} {Q : Option Value ⊕ String → gM → Prop} (hst : (gl1 g).stackTraces = false) {c : Cf} {P π : Nat → Nat} (hS : kS c P π M) {p : Int32} (W0 : ∀ j, j < cnt0 c → p = nI j → ∀ M' P' π', kS (c) P' π' M' → ke M M' → mL M' 178 0 = Int32.toInt64 (nI (szV c j)) → Q (.inl (some (.int (nI 0)))) M') (W1 : ¬ iBel p (cnt0 c) → ∀ M' P' π', kS c P' π' M' → ke M M' → Q (.inl (some (.int (nI 1)))) M') : E g 8 1 6 mL_size 0 [.ref 1, .int p, .ref 179, .null] [] M Q := by
  have hL := hS.1.lay
  refine E_aload_n dL_size_0 rfl ?_
  refine E_iconst (v := nI 0) dL_size_1 (by decide) ?_
  refine E_aload_n dL_size_2 rfl ?_
  refine E_iload_n dL_size_3 rfl ?_
  refine E_callV1 (fr' := 7) (k1 := 1) (n1 := 6) (k2 := 0) (n2 := 0) dL_size_4 kO_X11_size kL_L_41 (l_0 hL) (k_0 hL) ⟨by decide, rfl⟩ rfl (by decide) (by decide) (by exact Nat.le_of_ble_eq_true rfl) rfl ?_
  refine sp_X11_size hst hS (fun z1 => ?_) (fun j z1 z2 M1 hS1 hkd => ?_)
  · have hS1 := hS
    have hkd : kd M M := kd.refl
    have hL := hS1.1.lay
    refine gKc (Ex_catch [] [] 0 9 12 13 3 1 rfl (fun z e => by subst e; decide) (by decide) (gW_at 819 (by decide +kernel) (by decide +kernel)) (List.mem_filter.mpr ⟨List.mem_of_getElem? (i := 826) (by decide +kernel), rfl⟩) (fun w hw => by cases hw) (Or.inl ⟨⟨3, by decide⟩, rfl, rfl, dL_size_12⟩) (by decide) rfl ?_)
    refine E_iconst (v := nI 1) dL_size_13 (by decide) ?_
    refine E_iret dL_size_14 (Or.inl rfl) ?_
    exact W1 z1 _ _ _ hS1 hkd.e
  · have hL := hS1.1.lay
    refine gKv ?_
    refine E_i2l dL_size_7 ?_
    refine E_last dL_size_8 (l_178 hL) (k_178 hL) rfl (by omega) (by decide) ?_
    refine E_goto (tgt := 15) dL_size_9 (by decide) ?_
    refine E_iconst (v := nI 0) dL_size_15 (by decide) ?_
    refine E_iret dL_size_16 (Or.inl rfl) ?_
    exact W0 j z1 z2 _ _ _ hS1.sL hkd.e.sL mL_eq
set_option maxRecDepth 100000 in
set_option maxHeartbeats 4000000 in
theorem w_insert {g : gG} {M : gM} {Q : Option Value ⊕ String → gM → Prop} (hst : (gl1 g).stackTraces = false) {c : Cf} {P π : Nat → Nat} (hS : kS c P π M) {p s : Int32} (W0 : ∀ j v, j ≤ tl c → p = nI j → v < 45 → s = nI v → iSign s → tl c < 16 → ∀ M' P' π', kS (nxI c j v) P' π' M' → ke M M' → mL M' 178 0 = Int32.toInt64 (nI (tl c + 1)) → Q (.inl (some (.int (nI 0)))) M') (W1 : ¬ iIn p (nI 0) (nI (tl c)) → ∀ M' P' π', kS c P' π' M' → ke M M' → Q (.inl (some (.int (nI 1)))) M') (W2 : iIn p (nI 0) (nI (tl c)) → ¬ iSign s → ∀ M' P' π', kS c P' π' M' → ke M M' → Q (.inl (some (.int (nI 2)))) M') (W3 : iIn p (nI 0) (nI (tl c)) → iSign s → tl c = 16 → ∀ M' P' π', kS c P' π' M' → ke M M' → Q (.inl (some (.int (nI 3)))) M') : E g 8 1 6 mL_insert 0 [.ref 1, .int p, .int s, .ref 179, .null] [] M Q := by
  have hL := hS.1.lay
  refine E_aload_n dL_insert_0 rfl ?_
  refine E_iconst (v := nI 0) dL_insert_1 (by decide) ?_
  refine E_aload_n dL_insert_2 rfl ?_
  refine E_iload_n dL_insert_3 rfl ?_
  refine E_iload_n dL_insert_4 rfl ?_
  refine E_callV2 (fr' := 7) (k1 := 1) (n1 := 6) (k2 := 0) (n2 := 0) dL_insert_5 kO_X11_insert kL_L_44 (l_0 hL) (k_0 hL) ⟨by decide, rfl⟩ rfl rfl (by decide) (by decide) (by exact Nat.le_of_ble_eq_true rfl) rfl ?_
  refine sp_X11_insert hst hS (fun z1 => ?_) (fun z1 z2 => ?_) (fun z1 z2 z3 => ?_) (fun j v z1 z2 z3 z4 z5 z6 M1 hS1 hkd => ?_)
  · have hS1 := hS
    have hkd : kd M M := kd.refl
    have hL := hS1.1.lay
    refine gKc (Ex_catch [] [(0, 10, 17, 19), (0, 10, 21, 21)] 0 10 13 13 4 2 rfl (fun z e => by subst e; decide) (by decide) (gW_at 819 (by decide +kernel) (by decide +kernel)) (List.mem_filter.mpr ⟨List.mem_of_getElem? (i := 826) (by decide +kernel), rfl⟩) (fun w hw => by cases hw) (Or.inr ⟨rfl, dL_insert_13⟩) (by decide) rfl ?_)
    refine E_iconst (v := nI 1) dL_insert_15 (by decide) ?_
    refine E_iret dL_insert_16 (Or.inl rfl) ?_
    exact W1 z1 _ _ _ hS1 hkd.e
  · have hS1 := hS
    have hkd : kd M M := kd.refl
    have hL := hS1.1.lay
    refine gKc (Ex_catch [(0, 10, 13, 13)] [(0, 10, 21, 21)] 0 10 17 19 4 2 rfl (fun z e => by subst e; decide) (by decide) (gW_at 895 (by decide +kernel) (by decide +kernel)) (List.mem_filter.mpr ⟨List.mem_of_getElem? (i := 905) (by decide +kernel), rfl⟩) (List.forall_mem_cons.mpr ⟨⟨by decide, "java/lang/IndexOutOfBoundsException", gW_at 819 (by decide +kernel) (by decide +kernel), by decide⟩, fun w hw => by cases hw⟩) (Or.inr ⟨rfl, dL_insert_17⟩) (by decide) rfl ?_)
    refine E_iconst (v := nI 2) dL_insert_19 (by decide) ?_
    refine E_iret dL_insert_20 (Or.inl rfl) ?_
    exact W2 z1 z2 _ _ _ hS1 hkd.e
  · have hS1 := hS
    have hkd : kd M M := kd.refl
    have hL := hS1.1.lay
    refine gKc (Ex_catch [(0, 10, 13, 13), (0, 10, 17, 19)] [] 0 10 21 21 4 2 rfl (fun z e => by subst e; decide) (by decide) (gW_at 896 (by decide +kernel) (by decide +kernel)) (List.mem_filter.mpr ⟨List.mem_of_getElem? (i := 923) (by decide +kernel), rfl⟩) (List.forall_mem_cons.mpr ⟨⟨by decide, "java/lang/IndexOutOfBoundsException", gW_at 819 (by decide +kernel) (by decide +kernel), by decide⟩, (List.forall_mem_cons.mpr ⟨⟨by decide, "java/lang/IllegalArgumentException", gW_at 895 (by decide +kernel) (by decide +kernel), by decide⟩, fun w hw => by cases hw⟩)⟩) (Or.inr ⟨rfl, dL_insert_21⟩) (by decide) rfl ?_)
    refine E_iconst (v := nI 3) dL_insert_23 (by decide) ?_
    refine E_iret dL_insert_24 (Or.inl rfl) ?_
    exact W3 z1 z2 z3 _ _ _ hS1 hkd.e
  · have hL := hS1.1.lay
    refine gKv ?_
    refine E_i2l dL_insert_8 ?_
    refine E_last dL_insert_9 (l_178 hL) (k_178 hL) rfl (by omega) (by decide) ?_
    refine E_goto (tgt := 25) dL_insert_10 (by decide) ?_
    refine E_iconst (v := nI 0) dL_insert_25 (by decide) ?_
    refine E_iret dL_insert_26 (Or.inl rfl) ?_
    exact W0 j v z1 z2 z3 z4 z5 z6 _ _ _ hS1.sL hkd.e.sL mL_eq
set_option maxRecDepth 100000 in
set_option maxHeartbeats 4000000 in
theorem w_cut {g : gG} {M : gM} {Q : Option Value ⊕ String → gM → Prop} (hst : (gl1 g).stackTraces = false) {c : Cf} {P π : Nat → Nat} (hS : kS c P π M) {p : Int32} (W0 : ∀ j, j < tl c → p = nI j → ∀ M' P' π', kS (nxC c j) P' π' M' → ke M M' → mL M' 178 0 = Int32.toInt64 (nI (cN c 141 j)) → Q (.inl (some (.int (nI 0)))) M') (W1 : ¬ iBel p (tl c) → ∀ M' P' π', kS c P' π' M' → ke M M' → Q (.inl (some (.int (nI 1)))) M') : E g 9 1 6 mL_cut 0 [.ref 1, .int p, .ref 179, .null] [] M Q := by
  have hL := hS.1.lay
  refine E_aload_n dL_cut_0 rfl ?_
  refine E_iconst (v := nI 0) dL_cut_1 (by decide) ?_
  refine E_aload_n dL_cut_2 rfl ?_
  refine E_iload_n dL_cut_3 rfl ?_
  refine E_callV1 (fr' := 8) (k1 := 1) (n1 := 6) (k2 := 0) (n2 := 0) dL_cut_4 kO_X11_cut kL_L_47 (l_0 hL) (k_0 hL) ⟨by decide, rfl⟩ rfl (by decide) (by decide) (by exact Nat.le_of_ble_eq_true rfl) rfl ?_
  refine sp_X11_cut hst hS (fun z1 => ?_) (fun j z1 z2 M1 hS1 hkd => ?_)
  · have hS1 := hS
    have hkd : kd M M := kd.refl
    have hL := hS1.1.lay
    refine gKc (Ex_catch [] [] 0 9 12 13 3 1 rfl (fun z e => by subst e; decide) (by decide) (gW_at 819 (by decide +kernel) (by decide +kernel)) (List.mem_filter.mpr ⟨List.mem_of_getElem? (i := 826) (by decide +kernel), rfl⟩) (fun w hw => by cases hw) (Or.inl ⟨⟨3, by decide⟩, rfl, rfl, dL_cut_12⟩) (by decide) rfl ?_)
    refine E_iconst (v := nI 1) dL_cut_13 (by decide) ?_
    refine E_iret dL_cut_14 (Or.inl rfl) ?_
    exact W1 z1 _ _ _ hS1 hkd.e
  · have hL := hS1.1.lay
    refine gKv ?_
    refine E_i2l dL_cut_7 ?_
    refine E_last dL_cut_8 (l_178 hL) (k_178 hL) rfl (by omega) (by decide) ?_
    refine E_goto (tgt := 15) dL_cut_9 (by decide) ?_
    refine E_iconst (v := nI 0) dL_cut_15 (by decide) ?_
    refine E_iret dL_cut_16 (Or.inl rfl) ?_
    exact W0 j z1 z2 _ _ _ hS1.sL hkd.e.sL mL_eq
set_option maxRecDepth 100000 in
set_option maxHeartbeats 4000000 in
theorem w_setTongue {g : gG} {M : gM} {Q : Option Value ⊕ String → gM → Prop} (hst : (gl1 g).stackTraces = false) {c : Cf} {P π : Nat → Nat} (hS : kS c P π M) {p : Int32} (W0 : iIn p (nI 1) (nI 2) → ∀ M' P' π', kS (uN c 128 17 (gN p)) P' π' M' → ke M M' → mL M' 178 0 = Int32.toInt64 (nI (cN c 128 17)) → Q (.inl (some (.int (nI 0)))) M') (W1 : ¬ iIn p (nI 1) (nI 2) → ∀ M' P' π', kS c P' π' M' → ke M M' → Q (.inl (some (.int (nI 1)))) M') : E g 8 1 6 mL_setTongue 0 [.ref 1, .int p, .ref 179, .null] [] M Q := by
  have hL := hS.1.lay
  refine E_aload_n dL_setTongue_0 rfl ?_
  refine E_iconst (v := nI 0) dL_setTongue_1 (by decide) ?_
  refine E_aload_n dL_setTongue_2 rfl ?_
  refine E_iload_n dL_setTongue_3 rfl ?_
  refine E_callV1 (fr' := 7) (k1 := 1) (n1 := 6) (k2 := 0) (n2 := 0) dL_setTongue_4 kO_X11_setTongue kL_L_50 (l_0 hL) (k_0 hL) ⟨by decide, rfl⟩ rfl (by decide) (by decide) (by exact Nat.le_of_ble_eq_true rfl) rfl ?_
  refine sp_X11_setTongue hst hS (fun z1 => ?_) (fun z1 M1 hS1 hkd => ?_)
  · have hS1 := hS
    have hkd : kd M M := kd.refl
    have hL := hS1.1.lay
    refine gKc (Ex_catch [] [] 0 9 12 19 3 1 rfl (fun z e => by subst e; decide) (by decide) (gW_at 895 (by decide +kernel) (by decide +kernel)) (List.mem_filter.mpr ⟨List.mem_of_getElem? (i := 905) (by decide +kernel), rfl⟩) (fun w hw => by cases hw) (Or.inl ⟨⟨3, by decide⟩, rfl, rfl, dL_setTongue_12⟩) (by decide) rfl ?_)
    refine E_iconst (v := nI 1) dL_setTongue_13 (by decide) ?_
    refine E_iret dL_setTongue_14 (Or.inl rfl) ?_
    exact W1 z1 _ _ _ hS1 hkd.e
  · have hL := hS1.1.lay
    refine gKv ?_
    refine E_i2l dL_setTongue_7 ?_
    refine E_last dL_setTongue_8 (l_178 hL) (k_178 hL) rfl (by omega) (by decide) ?_
    refine E_goto (tgt := 15) dL_setTongue_9 (by decide) ?_
    refine E_iconst (v := nI 0) dL_setTongue_15 (by decide) ?_
    refine E_iret dL_setTongue_16 (Or.inl rfl) ?_
    exact W0 z1 _ _ _ hS1.sL hkd.e.sL mL_eq
set_option maxRecDepth 100000 in
set_option maxHeartbeats 4000000 in
theorem w_setExtra {g : gG} {M : gM} {Q : Option Value ⊕ String → gM → Prop} (hst : (gl1 g).stackTraces = false) {c : Cf} {P π : Nat → Nat} (hS : kS c P π M) {p q s : Int32} (W0 : ∀ i j v, i ≤ j → j < tl c → p = nI i → q = nI j → v ≤ 3 → s = nI v → ∀ M' P' π', kS (nxE c i j v) P' π' M' → ke M M' → mL M' 178 0 = Int32.toInt64 (nI (exC (cN c 142) i v (j + 1))) → Q (.inl (some (.int (nI 0)))) M') (W1 : ¬ (iBel p (tl c) ∧ iBel q (tl c) ∧ p ≤ q) → ∀ M' P' π', kS c P' π' M' → ke M M' → Q (.inl (some (.int (nI 1)))) M') (W2 : iBel p (tl c) ∧ iBel q (tl c) ∧ p ≤ q → ¬ iIn s (nI 0) (nI 3) → ∀ M' P' π', kS c P' π' M' → ke M M' → Q (.inl (some (.int (nI 2)))) M') : E g 9 3 18 mL_setExtra 0 [.ref 1, .int p, .int q, .int s, .ref 179, .null] [] M Q := by
  have hL := hS.1.lay
  refine E_aload dL_setExtra_0 rfl ?_
  refine E_iconst (v := nI 0) dL_setExtra_2 (by decide) ?_
  refine E_aload_n dL_setExtra_3 rfl ?_
  refine E_iload_n dL_setExtra_4 rfl ?_
  refine E_iload_n dL_setExtra_5 rfl ?_
  refine E_iload_n dL_setExtra_6 rfl ?_
  refine E_callV3 (fr' := 8) (k1 := 3) (n1 := 18) (k2 := 0) (n2 := 0) dL_setExtra_7 kO_X11_setExtra kL_L_53 (l_0 hL) (k_0 hL) ⟨by decide, rfl⟩ rfl rfl rfl (by decide) (by decide) (by exact Nat.le_of_ble_eq_true rfl) rfl ?_
  refine sp_X11_setExtra hst hS (fun z1 => ?_) (fun z1 z2 => ?_) (fun i j v z1 z2 z3 z4 z5 z6 M1 hS1 hkd => ?_)
  · have hS1 := hS
    have hkd : kd M M := kd.refl
    have hL := hS1.1.lay
    refine gKc (Ex_catch [] [(0, 12, 19, 19)] 0 12 15 13 5 2 rfl (fun z e => by subst e; decide) (by decide) (gW_at 819 (by decide +kernel) (by decide +kernel)) (List.mem_filter.mpr ⟨List.mem_of_getElem? (i := 826) (by decide +kernel), rfl⟩) (fun w hw => by cases hw) (Or.inr ⟨rfl, dL_setExtra_15⟩) (by decide) rfl ?_)
    refine E_iconst (v := nI 1) dL_setExtra_17 (by decide) ?_
    refine E_iret dL_setExtra_18 (Or.inl rfl) ?_
    exact W1 z1 _ _ _ hS1 hkd.e
  · have hS1 := hS
    have hkd : kd M M := kd.refl
    have hL := hS1.1.lay
    refine gKc (Ex_catch [(0, 12, 15, 13)] [] 0 12 19 19 5 2 rfl (fun z e => by subst e; decide) (by decide) (gW_at 895 (by decide +kernel) (by decide +kernel)) (List.mem_filter.mpr ⟨List.mem_of_getElem? (i := 905) (by decide +kernel), rfl⟩) (List.forall_mem_cons.mpr ⟨⟨by decide, "java/lang/IndexOutOfBoundsException", gW_at 819 (by decide +kernel) (by decide +kernel), by decide⟩, fun w hw => by cases hw⟩) (Or.inr ⟨rfl, dL_setExtra_19⟩) (by decide) rfl ?_)
    refine E_iconst (v := nI 2) dL_setExtra_21 (by decide) ?_
    refine E_iret dL_setExtra_22 (Or.inl rfl) ?_
    exact W2 z1 z2 _ _ _ hS1 hkd.e
  · have hL := hS1.1.lay
    refine gKv ?_
    refine E_i2l dL_setExtra_10 ?_
    refine E_last dL_setExtra_11 (l_178 hL) (k_178 hL) rfl (by omega) (by decide) ?_
    refine E_goto (tgt := 23) dL_setExtra_12 (by decide) ?_
    refine E_iconst (v := nI 0) dL_setExtra_23 (by decide) ?_
    refine E_iret dL_setExtra_24 (Or.inl rfl) ?_
    exact W0 i j v z1 z2 z3 z4 z5 z6 _ _ _ hS1.sL hkd.e.sL mL_eq
set_option maxRecDepth 100000 in
set_option maxHeartbeats 4000000 in
theorem w_glyph {g : gG} {M : gM} {Q : Option Value ⊕ String → gM → Prop} (hst : (gl1 g).stackTraces = false) {c : Cf} {P π : Nat → Nat} (hS : kS c P π M) {p : Int32} (W0 : ∀ j, j < ng c → p = nI j → ∀ M' P' π', kS (c) P' π' M' → ke M M' → mL M' 178 0 = Int32.toInt64 (pgv c 0 j) → Q (.inl (some (.int (nI 0)))) M') (W1 : ¬ iBel p (ng c) → ∀ M' P' π', kS c P' π' M' → ke M M' → Q (.inl (some (.int (nI 1)))) M') : E g 9 1 6 mL_glyph 0 [.ref 1, .int p, .ref 179, .null] [] M Q := by
  have hL := hS.1.lay
  refine E_aload_n dL_glyph_0 rfl ?_
  refine E_iconst (v := nI 0) dL_glyph_1 (by decide) ?_
  refine E_aload_n dL_glyph_2 rfl ?_
  refine E_iload_n dL_glyph_3 rfl ?_
  refine E_callV1 (fr' := 8) (k1 := 1) (n1 := 6) (k2 := 0) (n2 := 0) dL_glyph_4 kO_X11_glyph kL_L_57 (l_0 hL) (k_0 hL) ⟨by decide, rfl⟩ rfl (by decide) (by decide) (by exact Nat.le_of_ble_eq_true rfl) rfl ?_
  refine sp_X11_glyph hst hS (fun j z1 z2 M1 π1 hS1 hkd => ?_) (fun z1 M1 π1 hS1 hkd => ?_)
  · have hL := hS1.1.lay
    refine gKv ?_
    refine E_i2l dL_glyph_7 ?_
    refine E_last dL_glyph_8 (l_178 hL) (k_178 hL) rfl (by omega) (by decide) ?_
    refine E_goto (tgt := 15) dL_glyph_9 (by decide) ?_
    refine E_iconst (v := nI 0) dL_glyph_15 (by decide) ?_
    refine E_iret dL_glyph_16 (Or.inl rfl) ?_
    exact W0 j z1 z2 _ _ _ hS1.sL hkd.e.sL mL_eq
  · have hL := hS1.1.lay
    refine gKc (Ex_catch [] [] 0 9 12 13 3 1 rfl (fun z e => by subst e; decide) (by decide) (gW_at 819 (by decide +kernel) (by decide +kernel)) (List.mem_filter.mpr ⟨List.mem_of_getElem? (i := 826) (by decide +kernel), rfl⟩) (fun w hw => by cases hw) (Or.inl ⟨⟨3, by decide⟩, rfl, rfl, dL_glyph_12⟩) (by decide) rfl ?_)
    refine E_iconst (v := nI 1) dL_glyph_13 (by decide) ?_
    refine E_iret dL_glyph_14 (Or.inl rfl) ?_
    exact W1 z1 _ _ _ hS1 hkd.e
set_option maxRecDepth 100000 in
set_option maxHeartbeats 4000000 in
theorem w_glyphAnew {g : gG} {M : gM} {Q : Option Value ⊕ String → gM → Prop} (hst : (gl1 g).stackTraces = false) {c : Cf} {P π : Nat → Nat} (hS : kS c P π M) {p : Int32} (W0 : ∀ j, j < ng c → p = nI j → ∀ M' P' π', kS (c) P' π' M' → ke M M' → mL M' 178 0 = Int32.toInt64 (pgv c 0 j) → Q (.inl (some (.int (nI 0)))) M') (W1 : ¬ iBel p (ng c) → ∀ M' P' π', kS c P' π' M' → ke M M' → Q (.inl (some (.int (nI 1)))) M') : E g 9 1 6 mL_glyphAnew 0 [.ref 1, .int p, .ref 179, .null] [] M Q := by
  have hL := hS.1.lay
  refine E_aload_n dL_glyphAnew_0 rfl ?_
  refine E_iconst (v := nI 0) dL_glyphAnew_1 (by decide) ?_
  refine E_aload_n dL_glyphAnew_2 rfl ?_
  refine E_iload_n dL_glyphAnew_3 rfl ?_
  refine E_callV1 (fr' := 8) (k1 := 1) (n1 := 6) (k2 := 0) (n2 := 0) dL_glyphAnew_4 kO_X11_glyphAnew kL_L_60 (l_0 hL) (k_0 hL) ⟨by decide, rfl⟩ rfl (by decide) (by decide) (by exact Nat.le_of_ble_eq_true rfl) rfl ?_
  refine sp_X11_glyphAnew hst hS (fun j z1 z2 M1 π1 hS1 hkd => ?_) (fun z1 M1 π1 hS1 hkd => ?_)
  · have hL := hS1.1.lay
    refine gKv ?_
    refine E_i2l dL_glyphAnew_7 ?_
    refine E_last dL_glyphAnew_8 (l_178 hL) (k_178 hL) rfl (by omega) (by decide) ?_
    refine E_goto (tgt := 15) dL_glyphAnew_9 (by decide) ?_
    refine E_iconst (v := nI 0) dL_glyphAnew_15 (by decide) ?_
    refine E_iret dL_glyphAnew_16 (Or.inl rfl) ?_
    exact W0 j z1 z2 _ _ _ hS1.sL hkd.e.sL mL_eq
  · have hL := hS1.1.lay
    refine gKc (Ex_catch [] [] 0 9 12 13 3 1 rfl (fun z e => by subst e; decide) (by decide) (gW_at 819 (by decide +kernel) (by decide +kernel)) (List.mem_filter.mpr ⟨List.mem_of_getElem? (i := 826) (by decide +kernel), rfl⟩) (fun w hw => by cases hw) (Or.inl ⟨⟨3, by decide⟩, rfl, rfl, dL_glyphAnew_12⟩) (by decide) rfl ?_)
    refine E_iconst (v := nI 1) dL_glyphAnew_13 (by decide) ?_
    refine E_iret dL_glyphAnew_14 (Or.inl rfl) ?_
    exact W1 z1 _ _ _ hS1 hkd.e
set_option maxRecDepth 100000 in
set_option maxHeartbeats 4000000 in
theorem w_cluster {g : gG} {M : gM} {Q : Option Value ⊕ String → gM → Prop} (hst : (gl1 g).stackTraces = false) {c : Cf} {P π : Nat → Nat} (hS : kS c P π M) {p : Int32} (W0 : ∀ j, j < ng c → p = nI j → ∀ M' P' π', kS (c) P' π' M' → ke M M' → mL M' 178 0 = Int32.toInt64 (pgv c 1 j) → Q (.inl (some (.int (nI 0)))) M') (W1 : ¬ iBel p (ng c) → ∀ M' P' π', kS c P' π' M' → ke M M' → Q (.inl (some (.int (nI 1)))) M') : E g 9 1 6 mL_cluster 0 [.ref 1, .int p, .ref 179, .null] [] M Q := by
  have hL := hS.1.lay
  refine E_aload_n dL_cluster_0 rfl ?_
  refine E_iconst (v := nI 0) dL_cluster_1 (by decide) ?_
  refine E_aload_n dL_cluster_2 rfl ?_
  refine E_iload_n dL_cluster_3 rfl ?_
  refine E_callV1 (fr' := 8) (k1 := 1) (n1 := 6) (k2 := 0) (n2 := 0) dL_cluster_4 kO_X11_cluster kL_L_63 (l_0 hL) (k_0 hL) ⟨by decide, rfl⟩ rfl (by decide) (by decide) (by exact Nat.le_of_ble_eq_true rfl) rfl ?_
  refine sp_X11_cluster hst hS (fun j z1 z2 M1 π1 hS1 hkd => ?_) (fun z1 M1 π1 hS1 hkd => ?_)
  · have hL := hS1.1.lay
    refine gKv ?_
    refine E_i2l dL_cluster_7 ?_
    refine E_last dL_cluster_8 (l_178 hL) (k_178 hL) rfl (by omega) (by decide) ?_
    refine E_goto (tgt := 15) dL_cluster_9 (by decide) ?_
    refine E_iconst (v := nI 0) dL_cluster_15 (by decide) ?_
    refine E_iret dL_cluster_16 (Or.inl rfl) ?_
    exact W0 j z1 z2 _ _ _ hS1.sL hkd.e.sL mL_eq
  · have hL := hS1.1.lay
    refine gKc (Ex_catch [] [] 0 9 12 13 3 1 rfl (fun z e => by subst e; decide) (by decide) (gW_at 819 (by decide +kernel) (by decide +kernel)) (List.mem_filter.mpr ⟨List.mem_of_getElem? (i := 826) (by decide +kernel), rfl⟩) (fun w hw => by cases hw) (Or.inl ⟨⟨3, by decide⟩, rfl, rfl, dL_cluster_12⟩) (by decide) rfl ?_)
    refine E_iconst (v := nI 1) dL_cluster_13 (by decide) ?_
    refine E_iret dL_cluster_14 (Or.inl rfl) ?_
    exact W1 z1 _ _ _ hS1 hkd.e
set_option maxRecDepth 100000 in
set_option maxHeartbeats 4000000 in
theorem w_place {g : gG} {M : gM} {Q : Option Value ⊕ String → gM → Prop} (hst : (gl1 g).stackTraces = false) {c : Cf} {P π : Nat → Nat} (hS : kS c P π M) {p w : Int32} (W0 : ∀ j, j < ng c → p = nI j → iIn w (nI 0) (nI 2) → ∀ M' P' π', kS (c) P' π' M' → ke M M' → mL M' 178 0 = Int32.toInt64 (cI (w = nI 0) (pgv c 4 j) (cI (w = nI 1) (pgv c 3 j) (pgv c 2 j))) → Q (.inl (some (.int (nI 0)))) M') (W1 : ¬ iBel p (ng c) → ∀ M' P' π', kS c P' π' M' → ke M M' → Q (.inl (some (.int (nI 1)))) M') (W2 : ∀ j, j < ng c → p = nI j → ¬ iIn w (nI 0) (nI 2) → ∀ M' P' π', kS c P' π' M' → ke M M' → Q (.inl (some (.int (nI 2)))) M') : E g 9 2 12 mL_place 0 [.ref 1, .int p, .int w, .ref 179, .null] [] M Q := by
  have hL := hS.1.lay
  refine E_aload_n dL_place_0 rfl ?_
  refine E_iconst (v := nI 0) dL_place_1 (by decide) ?_
  refine E_aload_n dL_place_2 rfl ?_
  refine E_iload_n dL_place_3 rfl ?_
  refine E_iload_n dL_place_4 rfl ?_
  refine E_callV2 (fr' := 8) (k1 := 2) (n1 := 12) (k2 := 0) (n2 := 0) dL_place_5 kO_X11_place kL_L_66 (l_0 hL) (k_0 hL) ⟨by decide, rfl⟩ rfl rfl (by decide) (by decide) (by exact Nat.le_of_ble_eq_true rfl) rfl ?_
  refine sp_X11_place hst hS (fun j z1 z2 z3 M1 π1 hS1 hkd => ?_) (fun j z1 z2 z3 M1 π1 hS1 hkd => ?_) (fun z1 M1 π1 hS1 hkd => ?_)
  · have hL := hS1.1.lay
    refine gKv ?_
    refine E_i2l dL_place_8 ?_
    refine E_last dL_place_9 (l_178 hL) (k_178 hL) rfl (by omega) (by decide) ?_
    refine E_goto (tgt := 21) dL_place_10 (by decide) ?_
    refine E_iconst (v := nI 0) dL_place_21 (by decide) ?_
    refine E_iret dL_place_22 (Or.inl rfl) ?_
    exact W0 j z1 z2 z3 _ _ _ hS1.sL hkd.e.sL mL_eq
  · have hL := hS1.1.lay
    refine gKc (Ex_catch [(0, 10, 13, 13)] [] 0 10 17 19 4 2 rfl (fun z e => by subst e; decide) (by decide) (gW_at 895 (by decide +kernel) (by decide +kernel)) (List.mem_filter.mpr ⟨List.mem_of_getElem? (i := 905) (by decide +kernel), rfl⟩) (List.forall_mem_cons.mpr ⟨⟨by decide, "java/lang/IndexOutOfBoundsException", gW_at 819 (by decide +kernel) (by decide +kernel), by decide⟩, fun w hw => by cases hw⟩) (Or.inr ⟨rfl, dL_place_17⟩) (by decide) rfl ?_)
    refine E_iconst (v := nI 2) dL_place_19 (by decide) ?_
    refine E_iret dL_place_20 (Or.inl rfl) ?_
    exact W2 j z1 z2 z3 _ _ _ hS1 hkd.e
  · have hL := hS1.1.lay
    refine gKc (Ex_catch [] [(0, 10, 17, 19)] 0 10 13 13 4 2 rfl (fun z e => by subst e; decide) (by decide) (gW_at 819 (by decide +kernel) (by decide +kernel)) (List.mem_filter.mpr ⟨List.mem_of_getElem? (i := 826) (by decide +kernel), rfl⟩) (fun w hw => by cases hw) (Or.inr ⟨rfl, dL_place_13⟩) (by decide) rfl ?_)
    refine E_iconst (v := nI 1) dL_place_15 (by decide) ?_
    refine E_iret dL_place_16 (Or.inl rfl) ?_
    exact W1 z1 _ _ _ hS1 hkd.e
set_option maxRecDepth 100000 in
set_option maxHeartbeats 4000000 in
theorem w_form {g : gG} {M : gM} {Q : Option Value ⊕ String → gM → Prop} (hst : (gl1 g).stackTraces = false) {c : Cf} {P π : Nat → Nat} (hS : kS c P π M) {p : Int32} (W0 : ∀ j, j < tl c → p = nI j → ∀ M' P' π', kS (c) P' π' M' → ke M M' → mL M' 178 0 = Int32.toInt64 (frm c (tn c (ru c j)) (tn c (ru c j + 1)) j) → Q (.inl (some (.int (nI 0)))) M') (W1 : ¬ iBel p (tl c) → ∀ M' P' π', kS c P' π' M' → ke M M' → Q (.inl (some (.int (nI 1)))) M') : E g 9 1 6 mL_form 0 [.ref 1, .int p, .ref 179, .null] [] M Q := by
  have hL := hS.1.lay
  refine E_aload_n dL_form_0 rfl ?_
  refine E_iconst (v := nI 0) dL_form_1 (by decide) ?_
  refine E_aload_n dL_form_2 rfl ?_
  refine E_iload_n dL_form_3 rfl ?_
  refine E_callV1 (fr' := 8) (k1 := 1) (n1 := 6) (k2 := 0) (n2 := 0) dL_form_4 kO_X11_form kL_L_69 (l_0 hL) (k_0 hL) ⟨by decide, rfl⟩ rfl (by decide) (by decide) (by exact Nat.le_of_ble_eq_true rfl) rfl ?_
  refine sp_X11_form hst hS (fun j z1 z2 M1 π1 hS1 hkd => ?_) (fun z1 M1 π1 hS1 hkd => ?_)
  · have hL := hS1.1.lay
    refine gKv ?_
    refine E_i2l dL_form_7 ?_
    refine E_last dL_form_8 (l_178 hL) (k_178 hL) rfl (by omega) (by decide) ?_
    refine E_goto (tgt := 15) dL_form_9 (by decide) ?_
    refine E_iconst (v := nI 0) dL_form_15 (by decide) ?_
    refine E_iret dL_form_16 (Or.inl rfl) ?_
    exact W0 j z1 z2 _ _ _ hS1.sL hkd.e.sL mL_eq
  · have hL := hS1.1.lay
    refine gKc (Ex_catch [] [] 0 9 12 13 3 1 rfl (fun z e => by subst e; decide) (by decide) (gW_at 819 (by decide +kernel) (by decide +kernel)) (List.mem_filter.mpr ⟨List.mem_of_getElem? (i := 826) (by decide +kernel), rfl⟩) (fun w hw => by cases hw) (Or.inl ⟨⟨3, by decide⟩, rfl, rfl, dL_form_12⟩) (by decide) rfl ?_)
    refine E_iconst (v := nI 1) dL_form_13 (by decide) ?_
    refine E_iret dL_form_14 (Or.inl rfl) ?_
    exact W1 z1 _ _ _ hS1 hkd.e
set_option maxRecDepth 100000 in
set_option maxHeartbeats 4000000 in
theorem w_run {g : gG} {M : gM} {Q : Option Value ⊕ String → gM → Prop} (hst : (gl1 g).stackTraces = false) {c : Cf} {P π : Nat → Nat} (hS : kS c P π M) {p : Int32} (W0 : ∀ j, j < tl c → p = nI j → ∀ M' P' π', kS (c) P' π' M' → ke M M' → mL M' 178 0 = Int32.toInt64 (nI (100 * ru c j + 10 * scr c 0 (tl c) j + fcO c j)) → Q (.inl (some (.int (nI 0)))) M') (W1 : ¬ iBel p (tl c) → ∀ M' P' π', kS c P' π' M' → ke M M' → Q (.inl (some (.int (nI 1)))) M') : E g 9 1 6 mL_run 0 [.ref 1, .int p, .ref 179, .null] [] M Q := by
  have hL := hS.1.lay
  refine E_aload_n dL_run_0 rfl ?_
  refine E_iconst (v := nI 0) dL_run_1 (by decide) ?_
  refine E_aload_n dL_run_2 rfl ?_
  refine E_iload_n dL_run_3 rfl ?_
  refine E_callV1 (fr' := 8) (k1 := 1) (n1 := 6) (k2 := 0) (n2 := 0) dL_run_4 kO_X11_run kL_L_72 (l_0 hL) (k_0 hL) ⟨by decide, rfl⟩ rfl (by decide) (by decide) (by exact Nat.le_of_ble_eq_true rfl) rfl ?_
  refine sp_X11_run hst hS (fun j z1 z2 M1 π1 hS1 hkd => ?_) (fun z1 M1 π1 hS1 hkd => ?_)
  · have hL := hS1.1.lay
    refine gKv ?_
    refine E_i2l dL_run_7 ?_
    refine E_last dL_run_8 (l_178 hL) (k_178 hL) rfl (by omega) (by decide) ?_
    refine E_goto (tgt := 15) dL_run_9 (by decide) ?_
    refine E_iconst (v := nI 0) dL_run_15 (by decide) ?_
    refine E_iret dL_run_16 (Or.inl rfl) ?_
    exact W0 j z1 z2 _ _ _ hS1.sL hkd.e.sL mL_eq
  · have hL := hS1.1.lay
    refine gKc (Ex_catch [] [] 0 9 12 13 3 1 rfl (fun z e => by subst e; decide) (by decide) (gW_at 819 (by decide +kernel) (by decide +kernel)) (List.mem_filter.mpr ⟨List.mem_of_getElem? (i := 826) (by decide +kernel), rfl⟩) (fun w hw => by cases hw) (Or.inl ⟨⟨3, by decide⟩, rfl, rfl, dL_run_12⟩) (by decide) rfl ?_)
    refine E_iconst (v := nI 1) dL_run_13 (by decide) ?_
    refine E_iret dL_run_14 (Or.inl rfl) ?_
    exact W1 z1 _ _ _ hS1 hkd.e
set_option maxRecDepth 100000 in
set_option maxHeartbeats 4000000 in
theorem w_caret {g : gG} {M : gM} {Q : Option Value ⊕ String → gM → Prop} (hst : (gl1 g).stackTraces = false) {c : Cf} {P π : Nat → Nat} (hS : kS c P π M) {p : Int32} (W0 : ∀ j, j < tl c → p = nI j → ∀ M' P' π', kS (c) P' π' M' → ke M M' → mL M' 178 0 = Int32.toInt64 (crt c j) → Q (.inl (some (.int (nI 0)))) M') (W1 : ¬ iBel p (tl c) → ∀ M' P' π', kS c P' π' M' → ke M M' → Q (.inl (some (.int (nI 1)))) M') : E g 9 1 6 mL_caret 0 [.ref 1, .int p, .ref 179, .null] [] M Q := by
  have hL := hS.1.lay
  refine E_aload_n dL_caret_0 rfl ?_
  refine E_iconst (v := nI 0) dL_caret_1 (by decide) ?_
  refine E_aload_n dL_caret_2 rfl ?_
  refine E_iload_n dL_caret_3 rfl ?_
  refine E_callV1 (fr' := 8) (k1 := 1) (n1 := 6) (k2 := 0) (n2 := 0) dL_caret_4 kO_X11_caret kL_L_75 (l_0 hL) (k_0 hL) ⟨by decide, rfl⟩ rfl (by decide) (by decide) (by exact Nat.le_of_ble_eq_true rfl) rfl ?_
  refine sp_X11_caret hst hS (fun j z1 z2 M1 π1 hS1 hkd => ?_) (fun z1 M1 π1 hS1 hkd => ?_)
  · have hL := hS1.1.lay
    refine gKv ?_
    refine E_i2l dL_caret_7 ?_
    refine E_last dL_caret_8 (l_178 hL) (k_178 hL) rfl (by omega) (by decide) ?_
    refine E_goto (tgt := 15) dL_caret_9 (by decide) ?_
    refine E_iconst (v := nI 0) dL_caret_15 (by decide) ?_
    refine E_iret dL_caret_16 (Or.inl rfl) ?_
    exact W0 j z1 z2 _ _ _ hS1.sL hkd.e.sL mL_eq
  · have hL := hS1.1.lay
    refine gKc (Ex_catch [] [] 0 9 12 13 3 1 rfl (fun z e => by subst e; decide) (by decide) (gW_at 819 (by decide +kernel) (by decide +kernel)) (List.mem_filter.mpr ⟨List.mem_of_getElem? (i := 826) (by decide +kernel), rfl⟩) (fun w hw => by cases hw) (Or.inl ⟨⟨3, by decide⟩, rfl, rfl, dL_caret_12⟩) (by decide) rfl ?_)
    refine E_iconst (v := nI 1) dL_caret_13 (by decide) ?_
    refine E_iret dL_caret_14 (Or.inl rfl) ?_
    exact W1 z1 _ _ _ hS1 hkd.e
set_option maxRecDepth 100000 in
set_option maxHeartbeats 4000000 in
theorem w_hit {g : gG} {M : gM} {Q : Option Value ⊕ String → gM → Prop} (hst : (gl1 g).stackTraces = false) {c : Cf} {P π : Nat → Nat} (hS : kS c P π M) {p : Int32} (W0 : iIn p (-1000) (nI 10000) → ∀ M' P' π', kS (c) P' π' M' → ke M M' → mL M' 178 0 = Int32.toInt64 ((htS c p (tl c)).1) → Q (.inl (some (.int (nI 0)))) M') (W1 : ¬ iIn p (-1000) (nI 10000) → ∀ M' P' π', kS c P' π' M' → ke M M' → Q (.inl (some (.int (nI 1)))) M') : E g 9 1 6 mL_hit 0 [.ref 1, .int p, .ref 179, .null] [] M Q := by
  have hL := hS.1.lay
  refine E_aload_n dL_hit_0 rfl ?_
  refine E_iconst (v := nI 0) dL_hit_1 (by decide) ?_
  refine E_aload_n dL_hit_2 rfl ?_
  refine E_iload_n dL_hit_3 rfl ?_
  refine E_callV1 (fr' := 8) (k1 := 1) (n1 := 6) (k2 := 0) (n2 := 0) dL_hit_4 kO_X11_hit kL_L_78 (l_0 hL) (k_0 hL) ⟨by decide, rfl⟩ rfl (by decide) (by decide) (by exact Nat.le_of_ble_eq_true rfl) rfl ?_
  refine sp_X11_hit hst hS (fun z1 M1 π1 hS1 hkd => ?_) (fun z1 M1 π1 hS1 hkd => ?_)
  · have hL := hS1.1.lay
    refine gKv ?_
    refine E_i2l dL_hit_7 ?_
    refine E_last dL_hit_8 (l_178 hL) (k_178 hL) rfl (by omega) (by decide) ?_
    refine E_goto (tgt := 15) dL_hit_9 (by decide) ?_
    refine E_iconst (v := nI 0) dL_hit_15 (by decide) ?_
    refine E_iret dL_hit_16 (Or.inl rfl) ?_
    exact W0 z1 _ _ _ hS1.sL hkd.e.sL mL_eq
  · have hL := hS1.1.lay
    refine gKc (Ex_catch [] [] 0 9 12 19 3 1 rfl (fun z e => by subst e; decide) (by decide) (gW_at 895 (by decide +kernel) (by decide +kernel)) (List.mem_filter.mpr ⟨List.mem_of_getElem? (i := 905) (by decide +kernel), rfl⟩) (fun w hw => by cases hw) (Or.inl ⟨⟨3, by decide⟩, rfl, rfl, dL_hit_12⟩) (by decide) rfl ?_)
    refine E_iconst (v := nI 1) dL_hit_13 (by decide) ?_
    refine E_iret dL_hit_14 (Or.inl rfl) ?_
    exact W1 z1 _ _ _ hS1 hkd.e
set_option maxRecDepth 100000 in
set_option maxHeartbeats 4000000 in
theorem w_isSafe {g : gG} {M : gM} {Q : Option Value ⊕ String → gM → Prop} (hst : (gl1 g).stackTraces = false) {c : Cf} {P π : Nat → Nat} (hS : kS c P π M) {p : Int32} (W0 : ∀ j, 1 ≤ j → j < tl c → p = nI j → ∀ M' P' π', kS (c) P' π' M' → ke M M' → mL M' 178 0 = Int32.toInt64 (b2i (sfe c j)) → Q (.inl (some (.int (nI 0)))) M') (W1 : ¬ iIn p (nI 1) (nI (tl c) - nI 1) → ∀ M' P' π', kS c P' π' M' → ke M M' → Q (.inl (some (.int (nI 1)))) M') : E g 9 1 6 mL_isSafe 0 [.ref 1, .int p, .ref 179, .null] [] M Q := by
  have hL := hS.1.lay
  refine E_aload_n dL_isSafe_0 rfl ?_
  refine E_iconst (v := nI 0) dL_isSafe_1 (by decide) ?_
  refine E_aload_n dL_isSafe_2 rfl ?_
  refine E_iload_n dL_isSafe_3 rfl ?_
  refine E_callV1 (fr' := 8) (k1 := 1) (n1 := 6) (k2 := 0) (n2 := 0) dL_isSafe_4 kO_X11_isSafe kL_L_81 (l_0 hL) (k_0 hL) ⟨by decide, rfl⟩ rfl (by decide) (by decide) (by exact Nat.le_of_ble_eq_true rfl) rfl ?_
  refine sp_X11_isSafe hst hS (fun j z1 z2 z3 M1 π1 hS1 hkd => ?_) (fun z1 M1 π1 hS1 hkd => ?_)
  · have hL := hS1.1.lay
    refine gKv ?_
    refine E_if_eq_b (tgt := 14) dL_isSafe_7 (by decide) (fun e_7 => ?_) (fun e_7 => ?_)
    · refine E_lconst (v := 0) dL_isSafe_14 (by decide) ?_
      refine E_last dL_isSafe_15 (l_178 hL) (k_178 hL) rfl (by omega) (by decide) ?_
      refine E_goto (tgt := 22) dL_isSafe_16 (by decide) ?_
      refine E_iconst (v := nI 0) dL_isSafe_22 (by decide) ?_
      refine E_iret dL_isSafe_23 (Or.inl rfl) ?_
      exact W0 j z1 z2 z3 _ _ _ hS1.sL hkd.e.sL (mL_eq.trans (by first | (rw [b2i_t (by assumption)]; decide) | (rw [b2i_f (by assumption)]; decide)))
    · refine E_lconst (v := 1) dL_isSafe_10 (by decide) ?_
      refine E_goto (tgt := 15) dL_isSafe_11 (by decide) ?_
      refine E_last dL_isSafe_15 (l_178 hL) (k_178 hL) rfl (by omega) (by decide) ?_
      refine E_goto (tgt := 22) dL_isSafe_16 (by decide) ?_
      refine E_iconst (v := nI 0) dL_isSafe_22 (by decide) ?_
      refine E_iret dL_isSafe_23 (Or.inl rfl) ?_
      exact W0 j z1 z2 z3 _ _ _ hS1.sL hkd.e.sL (mL_eq.trans (by first | (rw [b2i_t (by assumption)]; decide) | (rw [b2i_f (by assumption)]; decide)))
  · have hL := hS1.1.lay
    refine gKc (Ex_catch [] [] 0 16 19 13 3 1 rfl (fun z e => by subst e; decide) (by decide) (gW_at 819 (by decide +kernel) (by decide +kernel)) (List.mem_filter.mpr ⟨List.mem_of_getElem? (i := 826) (by decide +kernel), rfl⟩) (fun w hw => by cases hw) (Or.inl ⟨⟨3, by decide⟩, rfl, rfl, dL_isSafe_19⟩) (by decide) rfl ?_)
    refine E_iconst (v := nI 1) dL_isSafe_20 (by decide) ?_
    refine E_iret dL_isSafe_21 (Or.inl rfl) ?_
    exact W1 z1 _ _ _ hS1 hkd.e
set_option maxRecDepth 100000 in
set_option maxHeartbeats 4000000 in
theorem w_fill {g : gG} {M : gM} {Q : Option Value ⊕ String → gM → Prop} (hst : (gl1 g).stackTraces = false) {c : Cf} {P π : Nat → Nat} (hS : kS c P π M) {p : Int32} (W0 : iIn p (nI 0) (nI 10000) → ∀ M' P' π', kS (c) P' π' M' → ke M M' → mL M' 178 0 = Int32.toInt64 (fiV c p) → Q (.inl (some (.int (nI 0)))) M') (W1 : ¬ iIn p (nI 0) (nI 10000) → ∀ M' P' π', kS c P' π' M' → ke M M' → Q (.inl (some (.int (nI 1)))) M') : E g 9 1 6 mL_fill 0 [.ref 1, .int p, .ref 179, .null] [] M Q := by
  have hL := hS.1.lay
  refine E_aload_n dL_fill_0 rfl ?_
  refine E_iconst (v := nI 0) dL_fill_1 (by decide) ?_
  refine E_aload_n dL_fill_2 rfl ?_
  refine E_iload_n dL_fill_3 rfl ?_
  refine E_callV1 (fr' := 8) (k1 := 1) (n1 := 6) (k2 := 0) (n2 := 0) dL_fill_4 kO_X11_fill kL_L_84 (l_0 hL) (k_0 hL) ⟨by decide, rfl⟩ rfl (by decide) (by decide) (by exact Nat.le_of_ble_eq_true rfl) rfl ?_
  refine sp_X11_fill hst hS (fun z1 M1 π1 hS1 hkd => ?_) (fun z1 M1 π1 hS1 hkd => ?_)
  · have hL := hS1.1.lay
    refine gKv ?_
    refine E_i2l dL_fill_7 ?_
    refine E_last dL_fill_8 (l_178 hL) (k_178 hL) rfl (by omega) (by decide) ?_
    refine E_goto (tgt := 15) dL_fill_9 (by decide) ?_
    refine E_iconst (v := nI 0) dL_fill_15 (by decide) ?_
    refine E_iret dL_fill_16 (Or.inl rfl) ?_
    exact W0 z1 _ _ _ hS1.sL hkd.e.sL mL_eq
  · have hL := hS1.1.lay
    refine gKc (Ex_catch [] [] 0 9 12 19 3 1 rfl (fun z e => by subst e; decide) (by decide) (gW_at 895 (by decide +kernel) (by decide +kernel)) (List.mem_filter.mpr ⟨List.mem_of_getElem? (i := 905) (by decide +kernel), rfl⟩) (fun w hw => by cases hw) (Or.inl ⟨⟨3, by decide⟩, rfl, rfl, dL_fill_12⟩) (by decide) rfl ?_)
    refine E_iconst (v := nI 1) dL_fill_13 (by decide) ?_
    refine E_iret dL_fill_14 (Or.inl rfl) ?_
    exact W1 z1 _ _ _ hS1 hkd.e
set_option maxRecDepth 100000 in
set_option maxHeartbeats 4000000 in
theorem w_filling {g : gG} {M : gM} {Q : Option Value ⊕ String → gM → Prop} (hst : (gl1 g).stackTraces = false) {c : Cf} {P π : Nat → Nat} (hS : kS c P π M) {p w : Int32} (W0 : ∀ j, j < tl c → w = nI j → iIn p (nI 0) (nI 10000) → ∀ M' P' π', kS (c) P' π' M' → ke M M' → mL M' 178 0 = Int32.toInt64 (fgV c p j) → Q (.inl (some (.int (nI 0)))) M') (W1 : ¬ iBel w (tl c) → ∀ M' P' π', kS c P' π' M' → ke M M' → Q (.inl (some (.int (nI 1)))) M') (W2 : ∀ j, j < tl c → w = nI j → ¬ iIn p (nI 0) (nI 10000) → ∀ M' P' π', kS c P' π' M' → ke M M' → Q (.inl (some (.int (nI 2)))) M') : E g 9 2 12 mL_filling 0 [.ref 1, .int p, .int w, .ref 179, .null] [] M Q := by
  have hL := hS.1.lay
  refine E_aload_n dL_filling_0 rfl ?_
  refine E_iconst (v := nI 0) dL_filling_1 (by decide) ?_
  refine E_aload_n dL_filling_2 rfl ?_
  refine E_iload_n dL_filling_3 rfl ?_
  refine E_iload_n dL_filling_4 rfl ?_
  refine E_callV2 (fr' := 8) (k1 := 2) (n1 := 12) (k2 := 0) (n2 := 0) dL_filling_5 kO_X11_filling kL_L_87 (l_0 hL) (k_0 hL) ⟨by decide, rfl⟩ rfl rfl (by decide) (by decide) (by exact Nat.le_of_ble_eq_true rfl) rfl ?_
  refine sp_X11_filling hst hS (fun j z1 z2 z3 M1 π1 hS1 hkd => ?_) (fun j z1 z2 z3 M1 π1 hS1 hkd => ?_) (fun z1 M1 π1 hS1 hkd => ?_)
  · have hL := hS1.1.lay
    refine gKv ?_
    refine E_i2l dL_filling_8 ?_
    refine E_last dL_filling_9 (l_178 hL) (k_178 hL) rfl (by omega) (by decide) ?_
    refine E_goto (tgt := 21) dL_filling_10 (by decide) ?_
    refine E_iconst (v := nI 0) dL_filling_21 (by decide) ?_
    refine E_iret dL_filling_22 (Or.inl rfl) ?_
    exact W0 j z1 z2 z3 _ _ _ hS1.sL hkd.e.sL mL_eq
  · have hL := hS1.1.lay
    refine gKc (Ex_catch [(0, 10, 13, 13)] [] 0 10 17 19 4 2 rfl (fun z e => by subst e; decide) (by decide) (gW_at 895 (by decide +kernel) (by decide +kernel)) (List.mem_filter.mpr ⟨List.mem_of_getElem? (i := 905) (by decide +kernel), rfl⟩) (List.forall_mem_cons.mpr ⟨⟨by decide, "java/lang/IndexOutOfBoundsException", gW_at 819 (by decide +kernel) (by decide +kernel), by decide⟩, fun w hw => by cases hw⟩) (Or.inr ⟨rfl, dL_filling_17⟩) (by decide) rfl ?_)
    refine E_iconst (v := nI 2) dL_filling_19 (by decide) ?_
    refine E_iret dL_filling_20 (Or.inl rfl) ?_
    exact W2 j z1 z2 z3 _ _ _ hS1 hkd.e
  · have hL := hS1.1.lay
    refine gKc (Ex_catch [] [(0, 10, 17, 19)] 0 10 13 13 4 2 rfl (fun z e => by subst e; decide) (by decide) (gW_at 819 (by decide +kernel) (by decide +kernel)) (List.mem_filter.mpr ⟨List.mem_of_getElem? (i := 826) (by decide +kernel), rfl⟩) (fun w hw => by cases hw) (Or.inr ⟨rfl, dL_filling_13⟩) (by decide) rfl ?_)
    refine E_iconst (v := nI 1) dL_filling_15 (by decide) ?_
    refine E_iret dL_filling_16 (Or.inl rfl) ?_
    exact W1 z1 _ _ _ hS1 hkd.e
