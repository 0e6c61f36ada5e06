/-! the law: its calls of the class -/
theorem gKc {g : gG} {fr k n : Nat} {μ : gMu} {pc : Nat} {ls rest : List Value} {M : gM} {Q : Option Value ⊕ String → gM → Prop} {x : String} (h : Ex g fr k n μ pc ls x M Q) : gK g fr k n μ pc ls rest Q (.inr x) M := h
set_option maxRecDepth 100000 in
set_option maxHeartbeats 4000000 in
theorem w_useFace {g : gG} {M : gM} {Q : Option Value ⊕ String → gM → Prop} (hst : (gl1 g).stackTraces = false) {c : Cf} {P π : Nat → Nat} (hS : kS c P π M) {p : Int32} (W0 : iIn p (nI 0) (nI 1) → ∀ M', kS (uN c 128 1 (gN p)) P π M' → kd M M' → Q (.inl (some (.int (nI (fc0 c))))) M') (W1 : ¬ iIn p (nI 0) (nI 1) → Q (.inl (some (.int (-7100)))) M) : E g 8 1 6 mL_useFace 0 [.ref 1, .int p, .null, .null] [] M Q := by
  have hL := hS.1.lay
  refine E_aload_n dL_useFace_0 rfl ?_
  refine E_iload_n dL_useFace_1 rfl ?_
  refine E_callV1 (fr' := 7) (k1 := 1) (n1 := 6) (k2 := 0) (n2 := 0) dL_useFace_2 kO_X11_useFace kL_L_8 (l_0 hL) (k_0 hL) ⟨by decide, rfl⟩ rfl (by decide) (by decide) (by exact Nat.le_of_ble_eq_true rfl) rfl ?_
  refine sp_X11_useFace hst hS (fun z1 => ?_) (fun z1 M1 hS1 hkd => ?_)
  · have hS1 := hS
    have hL := hS1.1.lay
    refine gKc (Ex_catch [] [] 0 6 9 14 3 1 rfl (fun z e => by subst e; decide) (by decide) (gW_at 455 (by decide +kernel) (by decide +kernel)) (List.mem_filter.mpr ⟨List.mem_of_getElem? (i := 464) (by decide +kernel), rfl⟩) (fun w hw => by cases hw) (Or.inl ⟨⟨3, by decide⟩, rfl, rfl, dL_useFace_9⟩) (by decide) rfl ?_)
    refine E_sipush (v := -7100) dL_useFace_10 (by decide) ?_
    refine E_iret dL_useFace_13 (Or.inl rfl) ?_
    exact W1 z1
  · have hL := hS1.1.lay
    refine gKv ?_
    refine E_istore_n dL_useFace_5 (Nat.le_of_ble_eq_true rfl) (by decide) rfl ?_
    refine E_goto (tgt := 14) dL_useFace_6 (by decide) ?_
    refine E_iload_n dL_useFace_14 rfl ?_
    refine E_iret dL_useFace_15 (Or.inl rfl) ?_
    exact W0 z1 _ hS1 hkd
set_option maxRecDepth 100000 in
set_option maxHeartbeats 4000000 in
theorem w_lookup {g : gG} {M : gM} {Q : Option Value ⊕ String → gM → Prop} (hst : (gl1 g).stackTraces = false) {c : Cf} {P π : Nat → Nat} (hS : kS c P π M) {p1 p2 p3 p4 p5 : Int32} (W0 : iLk1 p1 p2 → iLk2 p3 p4 p5 → cN c 129 (cN c 128 1) < 12 → ∀ M' P', kS (nxL c (cN c 128 1) (cN c 129 (cN c 128 1)) p1 p2 p3 p4 p5) P' π M' → kd M M' → Q (.inl (some (.int (nI (cN c 129 (cN c 128 1)))))) M') (W1 : ¬ iLk1 p1 p2 → Q (.inl (some (.int (-7100)))) M) (W2 : iLk1 p1 p2 → ¬ iLk2 p3 p4 p5 → Q (.inl (some (.int (-7200)))) M) (W3 : iLk1 p1 p2 → iLk2 p3 p4 p5 → cN c 129 (cN c 128 1) = 12 → Q (.inl (some (.int (-7300)))) M) : E g 8 11 321 mL_lookup 0 [.ref 1, .int p1, .int p2, .int p3, .int p4, .int p5, .null, .null] [] M Q := by
  have hL := hS.1.lay
  refine E_aload_n dL_lookup_0 rfl ?_
  refine E_iload_n dL_lookup_1 rfl ?_
  refine E_iload_n dL_lookup_2 rfl ?_
  refine E_iload_n dL_lookup_3 rfl ?_
  refine E_iload dL_lookup_4 rfl ?_
  refine E_iload dL_lookup_6 rfl ?_
  refine E_callV5 (fr' := 7) (k1 := 11) (n1 := 321) (k2 := 0) (n2 := 0) dL_lookup_8 kO_X11_lookup kL_L_16 (l_0 hL) (k_0 hL) ⟨by decide, rfl⟩ rfl rfl rfl rfl rfl (by decide) (by decide) (by exact Nat.le_of_ble_eq_true rfl) rfl ?_
  refine sp_X11_lookup hst hS (fun z1 => ?_) (fun z1 z2 => ?_) (fun z1 z2 z3 => ?_) (fun z1 z2 z3 M1 P1 hS1 hkd => ?_)
  · have hS1 := hS
    have hL := hS1.1.lay
    refine gKc (Ex_catch [] [(0, 13, 22, 20), (0, 13, 28, 22)] 0 13 16 14 7 2 rfl (fun z e => by subst e; decide) (by decide) (gW_at 455 (by decide +kernel) (by decide +kernel)) (List.mem_filter.mpr ⟨List.mem_of_getElem? (i := 464) (by decide +kernel), rfl⟩) (fun w hw => by cases hw) (Or.inr ⟨rfl, dL_lookup_16⟩) (by decide) rfl ?_)
    refine E_sipush (v := -7100) dL_lookup_18 (by decide) ?_
    refine E_iret dL_lookup_21 (Or.inl rfl) ?_
    exact W1 z1
  · have hS1 := hS
    have hL := hS1.1.lay
    refine gKc (Ex_catch [(0, 13, 16, 14)] [(0, 13, 28, 22)] 0 13 22 20 7 2 rfl (fun z e => by subst e; decide) (by decide) (gW_at 456 (by decide +kernel) (by decide +kernel)) (List.mem_filter.mpr ⟨List.mem_of_getElem? (i := 533) (by decide +kernel), rfl⟩) (List.forall_mem_cons.mpr ⟨⟨by decide, "java/lang/IndexOutOfBoundsException", gW_at 455 (by decide +kernel) (by decide +kernel), by decide⟩, fun w hw => by cases hw⟩) (Or.inr ⟨rfl, dL_lookup_22⟩) (by decide) rfl ?_)
    refine E_sipush (v := -7200) dL_lookup_24 (by decide) ?_
    refine E_iret dL_lookup_27 (Or.inl rfl) ?_
    exact W2 z1 z2
  · have hS1 := hS
    have hL := hS1.1.lay
    refine gKc (Ex_catch [(0, 13, 16, 14), (0, 13, 22, 20)] [] 0 13 28 22 7 2 rfl (fun z e => by subst e; decide) (by decide) (gW_at 457 (by decide +kernel) (by decide +kernel)) (List.mem_filter.mpr ⟨List.mem_of_getElem? (i := 551) (by decide +kernel), rfl⟩) (List.forall_mem_cons.mpr ⟨⟨by decide, "java/lang/IndexOutOfBoundsException", gW_at 455 (by decide +kernel) (by decide +kernel), by decide⟩, (List.forall_mem_cons.mpr ⟨⟨by decide, "java/lang/IllegalArgumentException", gW_at 456 (by decide +kernel) (by decide +kernel), by decide⟩, fun w hw => by cases hw⟩)⟩) (Or.inr ⟨rfl, dL_lookup_28⟩) (by decide) rfl ?_)
    refine E_sipush (v := -7300) dL_lookup_30 (by decide) ?_
    refine E_iret dL_lookup_33 (Or.inl rfl) ?_
    exact W3 z1 z2 z3
  · have hL := hS1.1.lay
    refine gKv ?_
    refine E_istore dL_lookup_11 (Nat.le_of_ble_eq_true rfl) (by decide) rfl ?_
    refine E_goto (tgt := 34) dL_lookup_13 (by decide) ?_
    refine E_iload dL_lookup_34 rfl ?_
    refine E_iret dL_lookup_36 (Or.inl rfl) ?_
    exact W0 z1 z2 z3 _ _ hS1 hkd
set_option maxRecDepth 100000 in
set_option maxHeartbeats 4000000 in
theorem w_rule {g : gG} {M : gM} {Q : Option Value ⊕ String → gM → Prop} (hst : (gl1 g).stackTraces = false) {c : Cf} {P π : Nat → Nat} (hS : kS c P π M) {p x0 x1 x2 x3 x4 x5 : Int32} (W0 : ∀ j, j < cnt0 c → p = nI j → iRl (cN c 130 (at0 c j)) x0 x1 x2 x3 x4 x5 → cN c 135 (at0 c j) < 8 → ∀ M', kS (nxR c (at0 c j) (cN c 135 (at0 c j)) x0 x1 x2 x3 x4 x5) P π M' → kd M M' → Q (.inl (some (.int (nI (cN c 135 (at0 c j) + 1))))) M') (W1 : ¬ iBel p (cnt0 c) → Q (.inl (some (.int (-7100)))) M) (W2 : ∀ j, j < cnt0 c → p = nI j → ¬ iRl (cN c 130 (at0 c j)) x0 x1 x2 x3 x4 x5 → Q (.inl (some (.int (-7200)))) M) (W3 : ∀ j, j < cnt0 c → p = nI j → iRl (cN c 130 (at0 c j)) x0 x1 x2 x3 x4 x5 → cN c 135 (at0 c j) = 8 → Q (.inl (some (.int (-7300)))) M) : E g 8 1 6 mL_rule 0 [.ref 1, .int p, .int x0, .int x1, .int x2, .int x3, .int x4, .int x5, .null, .null] [] M Q := by
  have hL := hS.1.lay
  refine E_aload_n dL_rule_0 rfl ?_
  refine E_iload_n dL_rule_1 rfl ?_
  refine E_iload_n dL_rule_2 rfl ?_
  refine E_iload_n dL_rule_3 rfl ?_
  refine E_iload dL_rule_4 rfl ?_
  refine E_iload dL_rule_6 rfl ?_
  refine E_iload dL_rule_8 rfl ?_
  refine E_iload dL_rule_10 rfl ?_
  refine E_callV7 (fr' := 7) (k1 := 1) (n1 := 6) (k2 := 0) (n2 := 0) dL_rule_12 kO_X11_rule kL_L_24 (l_0 hL) (k_0 hL) ⟨by decide, rfl⟩ rfl rfl rfl rfl rfl rfl rfl (by decide) (by decide) (by exact Nat.le_of_ble_eq_true rfl) rfl ?_
  refine sp_X11_rule hst hS (fun z1 => ?_) (fun j z1 z2 z3 => ?_) (fun j z1 z2 z3 z4 => ?_) (fun j z1 z2 z3 z4 M1 hS1 hkd => ?_)
  · have hS1 := hS
    have hL := hS1.1.lay
    refine gKc (Ex_catch [] [(0, 17, 26, 20), (0, 17, 32, 22)] 0 17 20 14 9 2 rfl (fun z e => by subst e; decide) (by decide) (gW_at 455 (by decide +kernel) (by decide +kernel)) (List.mem_filter.mpr ⟨List.mem_of_getElem? (i := 464) (by decide +kernel), rfl⟩) (fun w hw => by cases hw) (Or.inr ⟨rfl, dL_rule_20⟩) (by decide) rfl ?_)
    refine E_sipush (v := -7100) dL_rule_22 (by decide) ?_
    refine E_iret dL_rule_25 (Or.inl rfl) ?_
    exact W1 z1
  · have hS1 := hS
    have hL := hS1.1.lay
    refine gKc (Ex_catch [(0, 17, 20, 14)] [(0, 17, 32, 22)] 0 17 26 20 9 2 rfl (fun z e => by subst e; decide) (by decide) (gW_at 456 (by decide +kernel) (by decide +kernel)) (List.mem_filter.mpr ⟨List.mem_of_getElem? (i := 533) (by decide +kernel), rfl⟩) (List.forall_mem_cons.mpr ⟨⟨by decide, "java/lang/IndexOutOfBoundsException", gW_at 455 (by decide +kernel) (by decide +kernel), by decide⟩, fun w hw => by cases hw⟩) (Or.inr ⟨rfl, dL_rule_26⟩) (by decide) rfl ?_)
    refine E_sipush (v := -7200) dL_rule_28 (by decide) ?_
    refine E_iret dL_rule_31 (Or.inl rfl) ?_
    exact W2 j z1 z2 z3
  · have hS1 := hS
    have hL := hS1.1.lay
    refine gKc (Ex_catch [(0, 17, 20, 14), (0, 17, 26, 20)] [] 0 17 32 22 9 2 rfl (fun z e => by subst e; decide) (by decide) (gW_at 457 (by decide +kernel) (by decide +kernel)) (List.mem_filter.mpr ⟨List.mem_of_getElem? (i := 551) (by decide +kernel), rfl⟩) (List.forall_mem_cons.mpr ⟨⟨by decide, "java/lang/IndexOutOfBoundsException", gW_at 455 (by decide +kernel) (by decide +kernel), by decide⟩, (List.forall_mem_cons.mpr ⟨⟨by decide, "java/lang/IllegalArgumentException", gW_at 456 (by decide +kernel) (by decide +kernel), by decide⟩, fun w hw => by cases hw⟩)⟩) (Or.inr ⟨rfl, dL_rule_32⟩) (by decide) rfl ?_)
    refine E_sipush (v := -7300) dL_rule_34 (by decide) ?_
    refine E_iret dL_rule_37 (Or.inl rfl) ?_
    exact W3 j z1 z2 z3 z4
  · have hL := hS1.1.lay
    refine gKv ?_
    refine E_istore dL_rule_15 (Nat.le_of_ble_eq_true rfl) (by decide) rfl ?_
    refine E_goto (tgt := 38) dL_rule_17 (by decide) ?_
    refine E_iload dL_rule_38 rfl ?_
    refine E_iret dL_rule_40 (Or.inl rfl) ?_
    exact W0 j z1 z2 z3 z4 _ hS1 hkd
set_option maxRecDepth 100000 in
set_option maxHeartbeats 4000000 in
theorem w_setMark {g : gG} {M : gM} {Q : Option Value ⊕ String → gM → Prop} (hst : (gl1 g).stackTraces = false) {c : Cf} {P π : Nat → Nat} (hS : kS c P π M) {p q : Int32} (W0 : ∀ j, j < 256 → p = nI j → (q = -100 ∨ iClass q) → ∀ M', kS (uN c 137 (256 * fc0 c + j) (mkE q)) P π M' → kd M M' → Q (.inl (some (.int (mkD (cN c 137 (256 * fc0 c + j)))))) M') (W1 : ¬ iGlyph p → Q (.inl (some (.int (-7100)))) M) (W2 : iGlyph p → ¬ (q = -100 ∨ iClass q) → Q (.inl (some (.int (-7200)))) M) : E g 8 1 6 mL_setMark 0 [.ref 1, .int p, .int q, .null, .null] [] M Q := by
  have hL := hS.1.lay
  refine E_aload_n dL_setMark_0 rfl ?_
  refine E_iload_n dL_setMark_1 rfl ?_
  refine E_iload_n dL_setMark_2 rfl ?_
  refine E_callV2 (fr' := 7) (k1 := 1) (n1 := 6) (k2 := 0) (n2 := 0) dL_setMark_3 kO_X11_setMark kL_L_28 (l_0 hL) (k_0 hL) ⟨by decide, rfl⟩ rfl rfl (by decide) (by decide) (by exact Nat.le_of_ble_eq_true rfl) rfl ?_
  refine sp_X11_setMark hst hS (fun z1 => ?_) (fun z1 z2 => ?_) (fun j z1 z2 z3 M1 hS1 hkd => ?_)
  · have hS1 := hS
    have hL := hS1.1.lay
    refine gKc (Ex_catch [] [(0, 7, 16, 20)] 0 7 10 14 4 2 rfl (fun z e => by subst e; decide) (by decide) (gW_at 455 (by decide +kernel) (by decide +kernel)) (List.mem_filter.mpr ⟨List.mem_of_getElem? (i := 464) (by decide +kernel), rfl⟩) (fun w hw => by cases hw) (Or.inr ⟨rfl, dL_setMark_10⟩) (by decide) rfl ?_)
    refine E_sipush (v := -7100) dL_setMark_12 (by decide) ?_
    refine E_iret dL_setMark_15 (Or.inl rfl) ?_
    exact W1 z1
  · have hS1 := hS
    have hL := hS1.1.lay
    refine gKc (Ex_catch [(0, 7, 10, 14)] [] 0 7 16 20 4 2 rfl (fun z e => by subst e; decide) (by decide) (gW_at 456 (by decide +kernel) (by decide +kernel)) (List.mem_filter.mpr ⟨List.mem_of_getElem? (i := 533) (by decide +kernel), rfl⟩) (List.forall_mem_cons.mpr ⟨⟨by decide, "java/lang/IndexOutOfBoundsException", gW_at 455 (by decide +kernel) (by decide +kernel), by decide⟩, fun w hw => by cases hw⟩) (Or.inr ⟨rfl, dL_setMark_16⟩) (by decide) rfl ?_)
    refine E_sipush (v := -7200) dL_setMark_18 (by decide) ?_
    refine E_iret dL_setMark_21 (Or.inl rfl) ?_
    exact W2 z1 z2
  · have hL := hS1.1.lay
    refine gKv ?_
    refine E_istore_n dL_setMark_6 (Nat.le_of_ble_eq_true rfl) (by decide) rfl ?_
    refine E_goto (tgt := 22) dL_setMark_7 (by decide) ?_
    refine E_iload_n dL_setMark_22 rfl ?_
    refine E_iret dL_setMark_23 (Or.inl rfl) ?_
    exact W0 j z1 z2 z3 _ hS1 hkd
set_option maxRecDepth 100000 in
set_option maxHeartbeats 4000000 in
theorem w_setGroup {g : gG} {M : gM} {Q : Option Value ⊕ String → gM → Prop} (hst : (gl1 g).stackTraces = false) {c : Cf} {P π : Nat → Nat} (hS : kS c P π M) {p q : Int32} (W0 : ∀ j, j < 256 → p = nI j → iIn q (nI 0) (nI 5) → ∀ M', kS (uN c 138 (256 * fc0 c + j) (gN q)) P π M' → kd M M' → Q (.inl (some (.int (nI (cN c 138 (256 * fc0 c + j)))))) M') (W1 : ¬ (iGlyph p ∧ iIn q (nI 0) (nI 5)) → Q (.inl (some (.int (-7100)))) M) : E g 8 1 6 mL_setGroup 0 [.ref 1, .int p, .int q, .null, .null] [] M Q := by
  have hL := hS.1.lay
  refine E_aload_n dL_setGroup_0 rfl ?_
  refine E_iload_n dL_setGroup_1 rfl ?_
  refine E_iload_n dL_setGroup_2 rfl ?_
  refine E_callV2 (fr' := 7) (k1 := 1) (n1 := 6) (k2 := 0) (n2 := 0) dL_setGroup_3 kO_X11_setGroup kL_L_32 (l_0 hL) (k_0 hL) ⟨by decide, rfl⟩ rfl rfl (by decide) (by decide) (by exact Nat.le_of_ble_eq_true rfl) rfl ?_
  refine sp_X11_setGroup hst hS (fun z1 => ?_) (fun j z1 z2 z3 M1 hS1 hkd => ?_)
  · have hS1 := hS
    have hL := hS1.1.lay
    refine gKc (Ex_catch [] [] 0 7 10 14 4 2 rfl (fun z e => by subst e; decide) (by decide) (gW_at 455 (by decide +kernel) (by decide +kernel)) (List.mem_filter.mpr ⟨List.mem_of_getElem? (i := 464) (by decide +kernel), rfl⟩) (fun w hw => by cases hw) (Or.inr ⟨rfl, dL_setGroup_10⟩) (by decide) rfl ?_)
    refine E_sipush (v := -7100) dL_setGroup_12 (by decide) ?_
    refine E_iret dL_setGroup_15 (Or.inl rfl) ?_
    exact W1 z1
  · have hL := hS1.1.lay
    refine gKv ?_
    refine E_istore_n dL_setGroup_6 (Nat.le_of_ble_eq_true rfl) (by decide) rfl ?_
    refine E_goto (tgt := 16) dL_setGroup_7 (by decide) ?_
    refine E_iload_n dL_setGroup_16 rfl ?_
    refine E_iret dL_setGroup_17 (Or.inl rfl) ?_
    exact W0 j z1 z2 z3 _ hS1 hkd
set_option maxRecDepth 100000 in
set_option maxHeartbeats 4000000 in
theorem w_setWidth {g : gG} {M : gM} {Q : Option Value ⊕ String → gM → Prop} (hst : (gl1 g).stackTraces = false) {c : Cf} {P π : Nat → Nat} (hS : kS c P π M) {p q : Int32} (W0 : ∀ j, j < 256 → p = nI j → iIn q (nI 0) (nI 100) → ∀ M', kS (uN c 139 (256 * fc0 c + j) (gN q)) P π M' → kd M M' → Q (.inl (some (.int (nI (cN c 139 (256 * fc0 c + j)))))) M') (W1 : ¬ iGlyph p → Q (.inl (some (.int (-7100)))) M) (W2 : iGlyph p → ¬ iIn q (nI 0) (nI 100) → Q (.inl (some (.int (-7200)))) M) : E g 8 1 6 mL_setWidth 0 [.ref 1, .int p, .int q, .null, .null] [] M Q := by
  have hL := hS.1.lay
  refine E_aload_n dL_setWidth_0 rfl ?_
  refine E_iload_n dL_setWidth_1 rfl ?_
  refine E_iload_n dL_setWidth_2 rfl ?_
  refine E_callV2 (fr' := 7) (k1 := 1) (n1 := 6) (k2 := 0) (n2 := 0) dL_setWidth_3 kO_X11_setWidth kL_L_35 (l_0 hL) (k_0 hL) ⟨by decide, rfl⟩ rfl rfl (by decide) (by decide) (by exact Nat.le_of_ble_eq_true rfl) rfl ?_
  refine sp_X11_setWidth hst hS (fun z1 => ?_) (fun z1 z2 => ?_) (fun j z1 z2 z3 M1 hS1 hkd => ?_)
  · have hS1 := hS
    have hL := hS1.1.lay
    refine gKc (Ex_catch [] [(0, 7, 16, 20)] 0 7 10 14 4 2 rfl (fun z e => by subst e; decide) (by decide) (gW_at 455 (by decide +kernel) (by decide +kernel)) (List.mem_filter.mpr ⟨List.mem_of_getElem? (i := 464) (by decide +kernel), rfl⟩) (fun w hw => by cases hw) (Or.inr ⟨rfl, dL_setWidth_10⟩) (by decide) rfl ?_)
    refine E_sipush (v := -7100) dL_setWidth_12 (by decide) ?_
    refine E_iret dL_setWidth_15 (Or.inl rfl) ?_
    exact W1 z1
  · have hS1 := hS
    have hL := hS1.1.lay
    refine gKc (Ex_catch [(0, 7, 10, 14)] [] 0 7 16 20 4 2 rfl (fun z e => by subst e; decide) (by decide) (gW_at 456 (by decide +kernel) (by decide +kernel)) (List.mem_filter.mpr ⟨List.mem_of_getElem? (i := 533) (by decide +kernel), rfl⟩) (List.forall_mem_cons.mpr ⟨⟨by decide, "java/lang/IndexOutOfBoundsException", gW_at 455 (by decide +kernel) (by decide +kernel), by decide⟩, fun w hw => by cases hw⟩) (Or.inr ⟨rfl, dL_setWidth_16⟩) (by decide) rfl ?_)
    refine E_sipush (v := -7200) dL_setWidth_18 (by decide) ?_
    refine E_iret dL_setWidth_21 (Or.inl rfl) ?_
    exact W2 z1 z2
  · have hL := hS1.1.lay
    refine gKv ?_
    refine E_istore_n dL_setWidth_6 (Nat.le_of_ble_eq_true rfl) (by decide) rfl ?_
    refine E_goto (tgt := 22) dL_setWidth_7 (by decide) ?_
    refine E_iload_n dL_setWidth_22 rfl ?_
    refine E_iret dL_setWidth_23 (Or.inl rfl) ?_
    exact W0 j z1 z2 z3 _ hS1 hkd
set_option maxRecDepth 100000 in
set_option maxHeartbeats 4000000 in
theorem w_lack {g : gG} {M : gM} {Q : Option Value ⊕ String → gM → Prop} (hst : (gl1 g).stackTraces = false) {c : Cf} {P π : Nat → Nat} (hS : kS c P π M) {p : Int32} (W0 : ∀ j, j < 45 → p = nI j → iSign p → ∀ M', kS (uN c 140 j (1 - cN c 140 j)) P π M' → kd M M' → Q (.inl (some (.int (nI (1 - cN c 140 j))))) M') (W1 : ¬ iSign p → Q (.inl (some (.int (-7200)))) M) : E g 8 1 6 mL_lack 0 [.ref 1, .int p, .null, .null] [] M Q := by
  have hL := hS.1.lay
  refine E_aload_n dL_lack_0 rfl ?_
  refine E_iload_n dL_lack_1 rfl ?_
  refine E_callV1 (fr' := 7) (k1 := 1) (n1 := 6) (k2 := 0) (n2 := 0) dL_lack_2 kO_X11_lack kL_L_38 (l_0 hL) (k_0 hL) ⟨by decide, rfl⟩ rfl (by decide) (by decide) (by exact Nat.le_of_ble_eq_true rfl) rfl ?_
  refine sp_X11_lack hst hS (fun z1 => ?_) (fun j z1 z2 z3 M1 hS1 hkd => ?_)
  · have hS1 := hS
    have hL := hS1.1.lay
    refine gKc (Ex_catch [] [] 0 6 9 20 3 1 rfl (fun z e => by subst e; decide) (by decide) (gW_at 456 (by decide +kernel) (by decide +kernel)) (List.mem_filter.mpr ⟨List.mem_of_getElem? (i := 533) (by decide +kernel), rfl⟩) (fun w hw => by cases hw) (Or.inl ⟨⟨3, by decide⟩, rfl, rfl, dL_lack_9⟩) (by decide) rfl ?_)
    refine E_sipush (v := -7200) dL_lack_10 (by decide) ?_
    refine E_iret dL_lack_13 (Or.inl rfl) ?_
    exact W1 z1
  · have hL := hS1.1.lay
    have h1c := (hS.1.wf.gl j).2.2.2
    refine gKv ?_
    refine E_istore_n dL_lack_5 (Nat.le_of_ble_eq_true rfl) (by decide) rfl ?_
    refine E_goto (tgt := 14) dL_lack_6 (by decide) ?_
    refine E_iload_n dL_lack_14 rfl ?_
    refine E_if_eq_n (tgt := 22) dL_lack_15 (by decide) (by omega) (fun e_15 => ?_) (fun e_15 => ?_)
    · refine E_iconst (v := nI 0) dL_lack_22 (by decide) ?_
      refine E_iret dL_lack_23 (Or.inl rfl) ?_
      have W0 := W0 j z1 z2 z3 _ hS1 hkd
      first
        | (rw [show 1 - cN c 140 j = 1 by omega] at W0; exact W0)
        | (rw [show 1 - cN c 140 j = 0 by omega] at W0; exact W0)
    · refine E_iconst (v := nI 1) dL_lack_18 (by decide) ?_
      refine E_goto (tgt := 23) dL_lack_19 (by decide) ?_
      refine E_iret dL_lack_23 (Or.inl rfl) ?_
      have W0 := W0 j z1 z2 z3 _ hS1 hkd
      first
        | (rw [show 1 - cN c 140 j = 1 by omega] at W0; exact W0)
        | (rw [show 1 - cN c 140 j = 0 by omega] at W0; exact W0)
set_option maxRecDepth 100000 in
set_option maxHeartbeats 4000000 in
theorem w_size {g : gG} {M : gM} {Q : Option Value ⊕ String → gM → Prop} (hst : (gl1 g).stackTraces = false) {c : Cf} {P π : Nat → Nat} (hS : kS c P π M) {p : Int32} (W0 : ∀ j, j < cnt0 c → p = nI j → ∀ M', kS (c) P π M' → kq M M' → Q (.inl (some (.int (nI (szV c j))))) M') (W1 : ¬ iBel p (cnt0 c) → Q (.inl (some (.int (-7100)))) M) : E g 8 1 6 mL_size 0 [.ref 1, .int p, .null, .null] [] M Q := by
  have hL := hS.1.lay
  refine E_aload_n dL_size_0 rfl ?_
  refine E_iload_n dL_size_1 rfl ?_
  refine E_callV1 (fr' := 7) (k1 := 1) (n1 := 6) (k2 := 0) (n2 := 0) dL_size_2 kO_X11_size kL_L_42 (l_0 hL) (k_0 hL) ⟨by decide, rfl⟩ rfl (by decide) (by decide) (by exact Nat.le_of_ble_eq_true rfl) rfl ?_
  refine sp_X11_size hst hS (fun z1 => ?_) (fun j z1 z2 M1 hS1 hkd => ?_)
  · have hS1 := hS
    have hL := hS1.1.lay
    refine gKc (Ex_catch [] [] 0 6 9 14 3 1 rfl (fun z e => by subst e; decide) (by decide) (gW_at 455 (by decide +kernel) (by decide +kernel)) (List.mem_filter.mpr ⟨List.mem_of_getElem? (i := 464) (by decide +kernel), rfl⟩) (fun w hw => by cases hw) (Or.inl ⟨⟨3, by decide⟩, rfl, rfl, dL_size_9⟩) (by decide) rfl ?_)
    refine E_sipush (v := -7100) dL_size_10 (by decide) ?_
    refine E_iret dL_size_13 (Or.inl rfl) ?_
    exact W1 z1
  · have hL := hS1.1.lay
    refine gKv ?_
    refine E_istore_n dL_size_5 (Nat.le_of_ble_eq_true rfl) (by decide) rfl ?_
    refine E_goto (tgt := 14) dL_size_6 (by decide) ?_
    refine E_iload_n dL_size_14 rfl ?_
    refine E_iret dL_size_15 (Or.inl rfl) ?_
    exact W0 j z1 z2 _ hS1 hkd
set_option maxRecDepth 100000 in
set_option maxHeartbeats 4000000 in
theorem w_insert {g : gG} {M : gM} {Q : Option Value ⊕ String → gM → Prop} (hst : (gl1 g).stackTraces = false) {c : Cf} {P π : Nat → Nat} (hS : kS c P π M) {p s : Int32} (W0 : ∀ j v, j ≤ tl c → p = nI j → v < 45 → s = nI v → iSign s → tl c < 16 → ∀ M', kS (nxI c j v) P π M' → kd M M' → Q (.inl (some (.int (nI (tl c + 1))))) M') (W1 : ¬ iIn p (nI 0) (nI (tl c)) → Q (.inl (some (.int (-7100)))) M) (W2 : iIn p (nI 0) (nI (tl c)) → ¬ iSign s → Q (.inl (some (.int (-7200)))) M) (W3 : iIn p (nI 0) (nI (tl c)) → iSign s → tl c = 16 → Q (.inl (some (.int (-7300)))) M) : E g 8 1 6 mL_insert 0 [.ref 1, .int p, .int s, .null, .null] [] M Q := by
  have hL := hS.1.lay
  refine E_aload_n dL_insert_0 rfl ?_
  refine E_iload_n dL_insert_1 rfl ?_
  refine E_iload_n dL_insert_2 rfl ?_
  refine E_callV2 (fr' := 7) (k1 := 1) (n1 := 6) (k2 := 0) (n2 := 0) dL_insert_3 kO_X11_insert kL_L_45 (l_0 hL) (k_0 hL) ⟨by decide, rfl⟩ rfl rfl (by decide) (by decide) (by exact Nat.le_of_ble_eq_true rfl) rfl ?_
  refine sp_X11_insert hst hS (fun z1 => ?_) (fun z1 z2 => ?_) (fun z1 z2 z3 => ?_) (fun j v z1 z2 z3 z4 z5 z6 M1 hS1 hkd => ?_)
  · have hS1 := hS
    have hL := hS1.1.lay
    refine gKc (Ex_catch [] [(0, 7, 16, 20), (0, 7, 22, 22)] 0 7 10 14 4 2 rfl (fun z e => by subst e; decide) (by decide) (gW_at 455 (by decide +kernel) (by decide +kernel)) (List.mem_filter.mpr ⟨List.mem_of_getElem? (i := 464) (by decide +kernel), rfl⟩) (fun w hw => by cases hw) (Or.inr ⟨rfl, dL_insert_10⟩) (by decide) rfl ?_)
    refine E_sipush (v := -7100) dL_insert_12 (by decide) ?_
    refine E_iret dL_insert_15 (Or.inl rfl) ?_
    exact W1 z1
  · have hS1 := hS
    have hL := hS1.1.lay
    refine gKc (Ex_catch [(0, 7, 10, 14)] [(0, 7, 22, 22)] 0 7 16 20 4 2 rfl (fun z e => by subst e; decide) (by decide) (gW_at 456 (by decide +kernel) (by decide +kernel)) (List.mem_filter.mpr ⟨List.mem_of_getElem? (i := 533) (by decide +kernel), rfl⟩) (List.forall_mem_cons.mpr ⟨⟨by decide, "java/lang/IndexOutOfBoundsException", gW_at 455 (by decide +kernel) (by decide +kernel), by decide⟩, fun w hw => by cases hw⟩) (Or.inr ⟨rfl, dL_insert_16⟩) (by decide) rfl ?_)
    refine E_sipush (v := -7200) dL_insert_18 (by decide) ?_
    refine E_iret dL_insert_21 (Or.inl rfl) ?_
    exact W2 z1 z2
  · have hS1 := hS
    have hL := hS1.1.lay
    refine gKc (Ex_catch [(0, 7, 10, 14), (0, 7, 16, 20)] [] 0 7 22 22 4 2 rfl (fun z e => by subst e; decide) (by decide) (gW_at 457 (by decide +kernel) (by decide +kernel)) (List.mem_filter.mpr ⟨List.mem_of_getElem? (i := 551) (by decide +kernel), rfl⟩) (List.forall_mem_cons.mpr ⟨⟨by decide, "java/lang/IndexOutOfBoundsException", gW_at 455 (by decide +kernel) (by decide +kernel), by decide⟩, (List.forall_mem_cons.mpr ⟨⟨by decide, "java/lang/IllegalArgumentException", gW_at 456 (by decide +kernel) (by decide +kernel), by decide⟩, fun w hw => by cases hw⟩)⟩) (Or.inr ⟨rfl, dL_insert_22⟩) (by decide) rfl ?_)
    refine E_sipush (v := -7300) dL_insert_24 (by decide) ?_
    refine E_iret dL_insert_27 (Or.inl rfl) ?_
    exact W3 z1 z2 z3
  · have hL := hS1.1.lay
    refine gKv ?_
    refine E_istore_n dL_insert_6 (Nat.le_of_ble_eq_true rfl) (by decide) rfl ?_
    refine E_goto (tgt := 28) dL_insert_7 (by decide) ?_
    refine E_iload_n dL_insert_28 rfl ?_
    refine E_iret dL_insert_29 (Or.inl rfl) ?_
    exact W0 j v z1 z2 z3 z4 z5 z6 _ hS1 hkd
set_option maxRecDepth 100000 in
set_option maxHeartbeats 4000000 in
theorem w_cut {g : gG} {M : gM} {Q : Option Value ⊕ String → gM → Prop} (hst : (gl1 g).stackTraces = false) {c : Cf} {P π : Nat → Nat} (hS : kS c P π M) {p : Int32} (W0 : ∀ j, j < tl c → p = nI j → ∀ M', kS (nxC c j) P π M' → kd M M' → Q (.inl (some (.int (nI (cN c 141 j))))) M') (W1 : ¬ iBel p (tl c) → Q (.inl (some (.int (-7100)))) M) : E g 9 1 6 mL_cut 0 [.ref 1, .int p, .null, .null] [] M Q := by
  have hL := hS.1.lay
  refine E_aload_n dL_cut_0 rfl ?_
  refine E_iload_n dL_cut_1 rfl ?_
  refine E_callV1 (fr' := 8) (k1 := 1) (n1 := 6) (k2 := 0) (n2 := 0) dL_cut_2 kO_X11_cut kL_L_48 (l_0 hL) (k_0 hL) ⟨by decide, rfl⟩ rfl (by decide) (by decide) (by exact Nat.le_of_ble_eq_true rfl) rfl ?_
  refine sp_X11_cut hst hS (fun z1 => ?_) (fun j z1 z2 M1 hS1 hkd => ?_)
  · have hS1 := hS
    have hL := hS1.1.lay
    refine gKc (Ex_catch [] [] 0 6 9 14 3 1 rfl (fun z e => by subst e; decide) (by decide) (gW_at 455 (by decide +kernel) (by decide +kernel)) (List.mem_filter.mpr ⟨List.mem_of_getElem? (i := 464) (by decide +kernel), rfl⟩) (fun w hw => by cases hw) (Or.inl ⟨⟨3, by decide⟩, rfl, rfl, dL_cut_9⟩) (by decide) rfl ?_)
    refine E_sipush (v := -7100) dL_cut_10 (by decide) ?_
    refine E_iret dL_cut_13 (Or.inl rfl) ?_
    exact W1 z1
  · have hL := hS1.1.lay
    refine gKv ?_
    refine E_istore_n dL_cut_5 (Nat.le_of_ble_eq_true rfl) (by decide) rfl ?_
    refine E_goto (tgt := 14) dL_cut_6 (by decide) ?_
    refine E_iload_n dL_cut_14 rfl ?_
    refine E_iret dL_cut_15 (Or.inl rfl) ?_
    exact W0 j z1 z2 _ hS1 hkd
set_option maxRecDepth 100000 in
set_option maxHeartbeats 4000000 in
theorem w_setTongue {g : gG} {M : gM} {Q : Option Value ⊕ String → gM → Prop} (hst : (gl1 g).stackTraces = false) {c : Cf} {P π : Nat → Nat} (hS : kS c P π M) {p : Int32} (W0 : iIn p (nI 1) (nI 2) → ∀ M', kS (uN c 128 17 (gN p)) P π M' → kd M M' → Q (.inl (some (.int (nI (cN c 128 17))))) M') (W1 : ¬ iIn p (nI 1) (nI 2) → Q (.inl (some (.int (-7200)))) M) : E g 8 1 6 mL_setTongue 0 [.ref 1, .int p, .null, .null] [] M Q := by
  have hL := hS.1.lay
  refine E_aload_n dL_setTongue_0 rfl ?_
  refine E_iload_n dL_setTongue_1 rfl ?_
  refine E_callV1 (fr' := 7) (k1 := 1) (n1 := 6) (k2 := 0) (n2 := 0) dL_setTongue_2 kO_X11_setTongue kL_L_51 (l_0 hL) (k_0 hL) ⟨by decide, rfl⟩ rfl (by decide) (by decide) (by exact Nat.le_of_ble_eq_true rfl) rfl ?_
  refine sp_X11_setTongue hst hS (fun z1 => ?_) (fun z1 M1 hS1 hkd => ?_)
  · have hS1 := hS
    have hL := hS1.1.lay
    refine gKc (Ex_catch [] [] 0 6 9 20 3 1 rfl (fun z e => by subst e; decide) (by decide) (gW_at 456 (by decide +kernel) (by decide +kernel)) (List.mem_filter.mpr ⟨List.mem_of_getElem? (i := 533) (by decide +kernel), rfl⟩) (fun w hw => by cases hw) (Or.inl ⟨⟨3, by decide⟩, rfl, rfl, dL_setTongue_9⟩) (by decide) rfl ?_)
    refine E_sipush (v := -7200) dL_setTongue_10 (by decide) ?_
    refine E_iret dL_setTongue_13 (Or.inl rfl) ?_
    exact W1 z1
  · have hL := hS1.1.lay
    refine gKv ?_
    refine E_istore_n dL_setTongue_5 (Nat.le_of_ble_eq_true rfl) (by decide) rfl ?_
    refine E_goto (tgt := 14) dL_setTongue_6 (by decide) ?_
    refine E_iload_n dL_setTongue_14 rfl ?_
    refine E_iret dL_setTongue_15 (Or.inl rfl) ?_
    exact W0 z1 _ hS1 hkd
set_option maxRecDepth 100000 in
set_option maxHeartbeats 4000000 in
theorem w_setExtra {g : gG} {M : gM} {Q : Option Value ⊕ String → gM → Prop} (hst : (gl1 g).stackTraces = false) {c : Cf} {P π : Nat → Nat} (hS : kS c P π M) {p q s : Int32} (W0 : ∀ i j v, i ≤ j → j < tl c → p = nI i → q = nI j → v ≤ 3 → s = nI v → ∀ M', kS (nxE c i j v) P π M' → kd M M' → Q (.inl (some (.int (nI (exC (cN c 142) i v (j + 1)))))) M') (W1 : ¬ (iBel p (tl c) ∧ iBel q (tl c) ∧ p ≤ q) → Q (.inl (some (.int (-7100)))) M) (W2 : iBel p (tl c) ∧ iBel q (tl c) ∧ p ≤ q → ¬ iIn s (nI 0) (nI 3) → Q (.inl (some (.int (-7200)))) M) : E g 9 3 18 mL_setExtra 0 [.ref 1, .int p, .int q, .int s, .null, .null] [] M Q := by
  have hL := hS.1.lay
  refine E_aload_n dL_setExtra_0 rfl ?_
  refine E_iload_n dL_setExtra_1 rfl ?_
  refine E_iload_n dL_setExtra_2 rfl ?_
  refine E_iload_n dL_setExtra_3 rfl ?_
  refine E_callV3 (fr' := 8) (k1 := 3) (n1 := 18) (k2 := 0) (n2 := 0) dL_setExtra_4 kO_X11_setExtra kL_L_54 (l_0 hL) (k_0 hL) ⟨by decide, rfl⟩ rfl rfl rfl (by decide) (by decide) (by exact Nat.le_of_ble_eq_true rfl) rfl ?_
  refine sp_X11_setExtra hst hS (fun z1 => ?_) (fun z1 z2 => ?_) (fun i j v z1 z2 z3 z4 z5 z6 M1 hS1 hkd => ?_)
  · have hS1 := hS
    have hL := hS1.1.lay
    refine gKc (Ex_catch [] [(0, 9, 18, 20)] 0 9 12 14 5 2 rfl (fun z e => by subst e; decide) (by decide) (gW_at 455 (by decide +kernel) (by decide +kernel)) (List.mem_filter.mpr ⟨List.mem_of_getElem? (i := 464) (by decide +kernel), rfl⟩) (fun w hw => by cases hw) (Or.inr ⟨rfl, dL_setExtra_12⟩) (by decide) rfl ?_)
    refine E_sipush (v := -7100) dL_setExtra_14 (by decide) ?_
    refine E_iret dL_setExtra_17 (Or.inl rfl) ?_
    exact W1 z1
  · have hS1 := hS
    have hL := hS1.1.lay
    refine gKc (Ex_catch [(0, 9, 12, 14)] [] 0 9 18 20 5 2 rfl (fun z e => by subst e; decide) (by decide) (gW_at 456 (by decide +kernel) (by decide +kernel)) (List.mem_filter.mpr ⟨List.mem_of_getElem? (i := 533) (by decide +kernel), rfl⟩) (List.forall_mem_cons.mpr ⟨⟨by decide, "java/lang/IndexOutOfBoundsException", gW_at 455 (by decide +kernel) (by decide +kernel), by decide⟩, fun w hw => by cases hw⟩) (Or.inr ⟨rfl, dL_setExtra_18⟩) (by decide) rfl ?_)
    refine E_sipush (v := -7200) dL_setExtra_20 (by decide) ?_
    refine E_iret dL_setExtra_23 (Or.inl rfl) ?_
    exact W2 z1 z2
  · have hL := hS1.1.lay
    refine gKv ?_
    refine E_istore dL_setExtra_7 (Nat.le_of_ble_eq_true rfl) (by decide) rfl ?_
    refine E_goto (tgt := 24) dL_setExtra_9 (by decide) ?_
    refine E_iload dL_setExtra_24 rfl ?_
    refine E_iret dL_setExtra_26 (Or.inl rfl) ?_
    exact W0 i j v z1 z2 z3 z4 z5 z6 _ hS1 hkd
set_option maxRecDepth 100000 in
set_option maxHeartbeats 4000000 in
theorem w_glyph {g : gG} {M : gM} {Q : Option Value ⊕ String → gM → Prop} (hst : (gl1 g).stackTraces = false) {c : Cf} {P π : Nat → Nat} (hS : kS c P π M) {p : Int32} (W0 : ∀ j, j < ng c → p = nI j → ∀ M' π', kS c P π' M' → kq M M' → Q (.inl (some (.int (pgv c 0 j)))) M') (W1 : ¬ iBel p (ng c) → ∀ M' π', kS c P π' M' → kq M M' → Q (.inl (some (.int (-7100)))) M') : E g 9 1 6 mL_glyph 0 [.ref 1, .int p, .null, .null] [] M Q := by
  have hL := hS.1.lay
  refine E_aload_n dL_glyph_0 rfl ?_
  refine E_iload_n dL_glyph_1 rfl ?_
  refine E_callV1 (fr' := 8) (k1 := 1) (n1 := 6) (k2 := 0) (n2 := 0) dL_glyph_2 kO_X11_glyph kL_L_58 (l_0 hL) (k_0 hL) ⟨by decide, rfl⟩ rfl (by decide) (by decide) (by exact Nat.le_of_ble_eq_true rfl) rfl ?_
  refine sp_X11_glyph hst hS (fun j z1 z2 M1 π1 hS1 hkd => ?_) (fun z1 M1 π1 hS1 hkd => ?_)
  · have hL := hS1.1.lay
    refine gKv ?_
    refine E_istore_n dL_glyph_5 (Nat.le_of_ble_eq_true rfl) (by decide) rfl ?_
    refine E_goto (tgt := 14) dL_glyph_6 (by decide) ?_
    refine E_iload_n dL_glyph_14 rfl ?_
    refine E_iret dL_glyph_15 (Or.inl rfl) ?_
    exact W0 j z1 z2 _ _ hS1 hkd
  · have hL := hS1.1.lay
    refine gKc (Ex_catch [] [] 0 6 9 14 3 1 rfl (fun z e => by subst e; decide) (by decide) (gW_at 455 (by decide +kernel) (by decide +kernel)) (List.mem_filter.mpr ⟨List.mem_of_getElem? (i := 464) (by decide +kernel), rfl⟩) (fun w hw => by cases hw) (Or.inl ⟨⟨3, by decide⟩, rfl, rfl, dL_glyph_9⟩) (by decide) rfl ?_)
    refine E_sipush (v := -7100) dL_glyph_10 (by decide) ?_
    refine E_iret dL_glyph_13 (Or.inl rfl) ?_
    exact W1 z1 _ _ hS1 hkd
set_option maxRecDepth 100000 in
set_option maxHeartbeats 4000000 in
theorem w_glyphAnew {g : gG} {M : gM} {Q : Option Value ⊕ String → gM → Prop} (hst : (gl1 g).stackTraces = false) {c : Cf} {P π : Nat → Nat} (hS : kS c P π M) {p : Int32} (W0 : ∀ j, j < ng c → p = nI j → ∀ M' π', kS c P π' M' → kq M M' → Q (.inl (some (.int (pgv c 0 j)))) M') (W1 : ¬ iBel p (ng c) → ∀ M' π', kS c P π' M' → kq M M' → Q (.inl (some (.int (-7100)))) M') : E g 9 1 6 mL_glyphAnew 0 [.ref 1, .int p, .null, .null] [] M Q := by
  have hL := hS.1.lay
  refine E_aload_n dL_glyphAnew_0 rfl ?_
  refine E_iload_n dL_glyphAnew_1 rfl ?_
  refine E_callV1 (fr' := 8) (k1 := 1) (n1 := 6) (k2 := 0) (n2 := 0) dL_glyphAnew_2 kO_X11_glyphAnew kL_L_61 (l_0 hL) (k_0 hL) ⟨by decide, rfl⟩ rfl (by decide) (by decide) (by exact Nat.le_of_ble_eq_true rfl) rfl ?_
  refine sp_X11_glyphAnew hst hS (fun j z1 z2 M1 π1 hS1 hkd => ?_) (fun z1 M1 π1 hS1 hkd => ?_)
  · have hL := hS1.1.lay
    refine gKv ?_
    refine E_istore_n dL_glyphAnew_5 (Nat.le_of_ble_eq_true rfl) (by decide) rfl ?_
    refine E_goto (tgt := 14) dL_glyphAnew_6 (by decide) ?_
    refine E_iload_n dL_glyphAnew_14 rfl ?_
    refine E_iret dL_glyphAnew_15 (Or.inl rfl) ?_
    exact W0 j z1 z2 _ _ hS1 hkd
  · have hL := hS1.1.lay
    refine gKc (Ex_catch [] [] 0 6 9 14 3 1 rfl (fun z e => by subst e; decide) (by decide) (gW_at 455 (by decide +kernel) (by decide +kernel)) (List.mem_filter.mpr ⟨List.mem_of_getElem? (i := 464) (by decide +kernel), rfl⟩) (fun w hw => by cases hw) (Or.inl ⟨⟨3, by decide⟩, rfl, rfl, dL_glyphAnew_9⟩) (by decide) rfl ?_)
    refine E_sipush (v := -7100) dL_glyphAnew_10 (by decide) ?_
    refine E_iret dL_glyphAnew_13 (Or.inl rfl) ?_
    exact W1 z1 _ _ hS1 hkd
set_option maxRecDepth 100000 in
set_option maxHeartbeats 4000000 in
theorem w_cluster {g : gG} {M : gM} {Q : Option Value ⊕ String → gM → Prop} (hst : (gl1 g).stackTraces = false) {c : Cf} {P π : Nat → Nat} (hS : kS c P π M) {p : Int32} (W0 : ∀ j, j < ng c → p = nI j → ∀ M' π', kS c P π' M' → kq M M' → Q (.inl (some (.int (pgv c 1 j)))) M') (W1 : ¬ iBel p (ng c) → ∀ M' π', kS c P π' M' → kq M M' → Q (.inl (some (.int (-7100)))) M') : E g 9 1 6 mL_cluster 0 [.ref 1, .int p, .null, .null] [] M Q := by
  have hL := hS.1.lay
  refine E_aload_n dL_cluster_0 rfl ?_
  refine E_iload_n dL_cluster_1 rfl ?_
  refine E_callV1 (fr' := 8) (k1 := 1) (n1 := 6) (k2 := 0) (n2 := 0) dL_cluster_2 kO_X11_cluster kL_L_64 (l_0 hL) (k_0 hL) ⟨by decide, rfl⟩ rfl (by decide) (by decide) (by exact Nat.le_of_ble_eq_true rfl) rfl ?_
  refine sp_X11_cluster hst hS (fun j z1 z2 M1 π1 hS1 hkd => ?_) (fun z1 M1 π1 hS1 hkd => ?_)
  · have hL := hS1.1.lay
    refine gKv ?_
    refine E_istore_n dL_cluster_5 (Nat.le_of_ble_eq_true rfl) (by decide) rfl ?_
    refine E_goto (tgt := 14) dL_cluster_6 (by decide) ?_
    refine E_iload_n dL_cluster_14 rfl ?_
    refine E_iret dL_cluster_15 (Or.inl rfl) ?_
    exact W0 j z1 z2 _ _ hS1 hkd
  · have hL := hS1.1.lay
    refine gKc (Ex_catch [] [] 0 6 9 14 3 1 rfl (fun z e => by subst e; decide) (by decide) (gW_at 455 (by decide +kernel) (by decide +kernel)) (List.mem_filter.mpr ⟨List.mem_of_getElem? (i := 464) (by decide +kernel), rfl⟩) (fun w hw => by cases hw) (Or.inl ⟨⟨3, by decide⟩, rfl, rfl, dL_cluster_9⟩) (by decide) rfl ?_)
    refine E_sipush (v := -7100) dL_cluster_10 (by decide) ?_
    refine E_iret dL_cluster_13 (Or.inl rfl) ?_
    exact W1 z1 _ _ hS1 hkd
set_option maxRecDepth 100000 in
set_option maxHeartbeats 4000000 in
theorem w_place {g : gG} {M : gM} {Q : Option Value ⊕ String → gM → Prop} (hst : (gl1 g).stackTraces = false) {c : Cf} {P π : Nat → Nat} (hS : kS c P π M) {p w : Int32} (W0 : ∀ j, j < ng c → p = nI j → iIn w (nI 0) (nI 2) → ∀ M' π', kS c P π' M' → kq M M' → Q (.inl (some (.int (cI (w = nI 0) (pgv c 4 j) (cI (w = nI 1) (pgv c 3 j) (pgv c 2 j)))))) M') (W1 : ¬ iBel p (ng c) → ∀ M' π', kS c P π' M' → kq M M' → Q (.inl (some (.int (-7100)))) M') (W2 : ∀ j, j < ng c → p = nI j → ¬ iIn w (nI 0) (nI 2) → ∀ M' π', kS c P π' M' → kq M M' → Q (.inl (some (.int (-7200)))) M') : E g 9 2 12 mL_place 0 [.ref 1, .int p, .int w, .null, .null] [] M Q := by
  have hL := hS.1.lay
  refine E_aload_n dL_place_0 rfl ?_
  refine E_iload_n dL_place_1 rfl ?_
  refine E_iload_n dL_place_2 rfl ?_
  refine E_callV2 (fr' := 8) (k1 := 2) (n1 := 12) (k2 := 0) (n2 := 0) dL_place_3 kO_X11_place kL_L_67 (l_0 hL) (k_0 hL) ⟨by decide, rfl⟩ rfl rfl (by decide) (by decide) (by exact Nat.le_of_ble_eq_true rfl) rfl ?_
  refine sp_X11_place hst hS (fun j z1 z2 z3 M1 π1 hS1 hkd => ?_) (fun j z1 z2 z3 M1 π1 hS1 hkd => ?_) (fun z1 M1 π1 hS1 hkd => ?_)
  · have hL := hS1.1.lay
    refine gKv ?_
    refine E_istore_n dL_place_6 (Nat.le_of_ble_eq_true rfl) (by decide) rfl ?_
    refine E_goto (tgt := 22) dL_place_7 (by decide) ?_
    refine E_iload_n dL_place_22 rfl ?_
    refine E_iret dL_place_23 (Or.inl rfl) ?_
    exact W0 j z1 z2 z3 _ _ hS1 hkd
  · have hL := hS1.1.lay
    refine gKc (Ex_catch [(0, 7, 10, 14)] [] 0 7 16 20 4 2 rfl (fun z e => by subst e; decide) (by decide) (gW_at 456 (by decide +kernel) (by decide +kernel)) (List.mem_filter.mpr ⟨List.mem_of_getElem? (i := 533) (by decide +kernel), rfl⟩) (List.forall_mem_cons.mpr ⟨⟨by decide, "java/lang/IndexOutOfBoundsException", gW_at 455 (by decide +kernel) (by decide +kernel), by decide⟩, fun w hw => by cases hw⟩) (Or.inr ⟨rfl, dL_place_16⟩) (by decide) rfl ?_)
    refine E_sipush (v := -7200) dL_place_18 (by decide) ?_
    refine E_iret dL_place_21 (Or.inl rfl) ?_
    exact W2 j z1 z2 z3 _ _ hS1 hkd
  · have hL := hS1.1.lay
    refine gKc (Ex_catch [] [(0, 7, 16, 20)] 0 7 10 14 4 2 rfl (fun z e => by subst e; decide) (by decide) (gW_at 455 (by decide +kernel) (by decide +kernel)) (List.mem_filter.mpr ⟨List.mem_of_getElem? (i := 464) (by decide +kernel), rfl⟩) (fun w hw => by cases hw) (Or.inr ⟨rfl, dL_place_10⟩) (by decide) rfl ?_)
    refine E_sipush (v := -7100) dL_place_12 (by decide) ?_
    refine E_iret dL_place_15 (Or.inl rfl) ?_
    exact W1 z1 _ _ hS1 hkd
set_option maxRecDepth 100000 in
set_option maxHeartbeats 4000000 in
theorem w_form {g : gG} {M : gM} {Q : Option Value ⊕ String → gM → Prop} (hst : (gl1 g).stackTraces = false) {c : Cf} {P π : Nat → Nat} (hS : kS c P π M) {p : Int32} (W0 : ∀ j, j < tl c → p = nI j → ∀ M' π', kS c P π' M' → kq M M' → Q (.inl (some (.int (frm c (tn c (ru c j)) (tn c (ru c j + 1)) j)))) M') (W1 : ¬ iBel p (tl c) → ∀ M' π', kS c P π' M' → kq M M' → Q (.inl (some (.int (-7100)))) M') : E g 9 1 6 mL_form 0 [.ref 1, .int p, .null, .null] [] M Q := by
  have hL := hS.1.lay
  refine E_aload_n dL_form_0 rfl ?_
  refine E_iload_n dL_form_1 rfl ?_
  refine E_callV1 (fr' := 8) (k1 := 1) (n1 := 6) (k2 := 0) (n2 := 0) dL_form_2 kO_X11_form kL_L_70 (l_0 hL) (k_0 hL) ⟨by decide, rfl⟩ rfl (by decide) (by decide) (by exact Nat.le_of_ble_eq_true rfl) rfl ?_
  refine sp_X11_form hst hS (fun j z1 z2 M1 π1 hS1 hkd => ?_) (fun z1 M1 π1 hS1 hkd => ?_)
  · have hL := hS1.1.lay
    refine gKv ?_
    refine E_istore_n dL_form_5 (Nat.le_of_ble_eq_true rfl) (by decide) rfl ?_
    refine E_goto (tgt := 14) dL_form_6 (by decide) ?_
    refine E_iload_n dL_form_14 rfl ?_
    refine E_iret dL_form_15 (Or.inl rfl) ?_
    exact W0 j z1 z2 _ _ hS1 hkd
  · have hL := hS1.1.lay
    refine gKc (Ex_catch [] [] 0 6 9 14 3 1 rfl (fun z e => by subst e; decide) (by decide) (gW_at 455 (by decide +kernel) (by decide +kernel)) (List.mem_filter.mpr ⟨List.mem_of_getElem? (i := 464) (by decide +kernel), rfl⟩) (fun w hw => by cases hw) (Or.inl ⟨⟨3, by decide⟩, rfl, rfl, dL_form_9⟩) (by decide) rfl ?_)
    refine E_sipush (v := -7100) dL_form_10 (by decide) ?_
    refine E_iret dL_form_13 (Or.inl rfl) ?_
    exact W1 z1 _ _ hS1 hkd
set_option maxRecDepth 100000 in
set_option maxHeartbeats 4000000 in
theorem w_run {g : gG} {M : gM} {Q : Option Value ⊕ String → gM → Prop} (hst : (gl1 g).stackTraces = false) {c : Cf} {P π : Nat → Nat} (hS : kS c P π M) {p : Int32} (W0 : ∀ j, j < tl c → p = nI j → ∀ M' π', kS c P π' M' → kq M M' → Q (.inl (some (.int (nI (100 * ru c j + 10 * scr c 0 (tl c) j + fcO c j))))) M') (W1 : ¬ iBel p (tl c) → ∀ M' π', kS c P π' M' → kq M M' → Q (.inl (some (.int (-7100)))) M') : E g 9 1 6 mL_run 0 [.ref 1, .int p, .null, .null] [] M Q := by
  have hL := hS.1.lay
  refine E_aload_n dL_run_0 rfl ?_
  refine E_iload_n dL_run_1 rfl ?_
  refine E_callV1 (fr' := 8) (k1 := 1) (n1 := 6) (k2 := 0) (n2 := 0) dL_run_2 kO_X11_run kL_L_73 (l_0 hL) (k_0 hL) ⟨by decide, rfl⟩ rfl (by decide) (by decide) (by exact Nat.le_of_ble_eq_true rfl) rfl ?_
  refine sp_X11_run hst hS (fun j z1 z2 M1 π1 hS1 hkd => ?_) (fun z1 M1 π1 hS1 hkd => ?_)
  · have hL := hS1.1.lay
    refine gKv ?_
    refine E_istore_n dL_run_5 (Nat.le_of_ble_eq_true rfl) (by decide) rfl ?_
    refine E_goto (tgt := 14) dL_run_6 (by decide) ?_
    refine E_iload_n dL_run_14 rfl ?_
    refine E_iret dL_run_15 (Or.inl rfl) ?_
    exact W0 j z1 z2 _ _ hS1 hkd
  · have hL := hS1.1.lay
    refine gKc (Ex_catch [] [] 0 6 9 14 3 1 rfl (fun z e => by subst e; decide) (by decide) (gW_at 455 (by decide +kernel) (by decide +kernel)) (List.mem_filter.mpr ⟨List.mem_of_getElem? (i := 464) (by decide +kernel), rfl⟩) (fun w hw => by cases hw) (Or.inl ⟨⟨3, by decide⟩, rfl, rfl, dL_run_9⟩) (by decide) rfl ?_)
    refine E_sipush (v := -7100) dL_run_10 (by decide) ?_
    refine E_iret dL_run_13 (Or.inl rfl) ?_
    exact W1 z1 _ _ hS1 hkd
set_option maxRecDepth 100000 in
set_option maxHeartbeats 4000000 in
theorem w_caret {g : gG} {M : gM} {Q : Option Value ⊕ String → gM → Prop} (hst : (gl1 g).stackTraces = false) {c : Cf} {P π : Nat → Nat} (hS : kS c P π M) {p : Int32} (W0 : ∀ j, j < tl c → p = nI j → ∀ M' π', kS c P π' M' → kq M M' → Q (.inl (some (.int (crt c j)))) M') (W1 : ¬ iBel p (tl c) → ∀ M' π', kS c P π' M' → kq M M' → Q (.inl (some (.int (-7100)))) M') : E g 9 1 6 mL_caret 0 [.ref 1, .int p, .null, .null] [] M Q := by
  have hL := hS.1.lay
  refine E_aload_n dL_caret_0 rfl ?_
  refine E_iload_n dL_caret_1 rfl ?_
  refine E_callV1 (fr' := 8) (k1 := 1) (n1 := 6) (k2 := 0) (n2 := 0) dL_caret_2 kO_X11_caret kL_L_76 (l_0 hL) (k_0 hL) ⟨by decide, rfl⟩ rfl (by decide) (by decide) (by exact Nat.le_of_ble_eq_true rfl) rfl ?_
  refine sp_X11_caret hst hS (fun j z1 z2 M1 π1 hS1 hkd => ?_) (fun z1 M1 π1 hS1 hkd => ?_)
  · have hL := hS1.1.lay
    refine gKv ?_
    refine E_istore_n dL_caret_5 (Nat.le_of_ble_eq_true rfl) (by decide) rfl ?_
    refine E_goto (tgt := 14) dL_caret_6 (by decide) ?_
    refine E_iload_n dL_caret_14 rfl ?_
    refine E_iret dL_caret_15 (Or.inl rfl) ?_
    exact W0 j z1 z2 _ _ hS1 hkd
  · have hL := hS1.1.lay
    refine gKc (Ex_catch [] [] 0 6 9 14 3 1 rfl (fun z e => by subst e; decide) (by decide) (gW_at 455 (by decide +kernel) (by decide +kernel)) (List.mem_filter.mpr ⟨List.mem_of_getElem? (i := 464) (by decide +kernel), rfl⟩) (fun w hw => by cases hw) (Or.inl ⟨⟨3, by decide⟩, rfl, rfl, dL_caret_9⟩) (by decide) rfl ?_)
    refine E_sipush (v := -7100) dL_caret_10 (by decide) ?_
    refine E_iret dL_caret_13 (Or.inl rfl) ?_
    exact W1 z1 _ _ hS1 hkd
set_option maxRecDepth 100000 in
set_option maxHeartbeats 4000000 in
theorem w_hit {g : gG} {M : gM} {Q : Option Value ⊕ String → gM → Prop} (hst : (gl1 g).stackTraces = false) {c : Cf} {P π : Nat → Nat} (hS : kS c P π M) {p : Int32} (W0 : iIn p (-1000) (nI 10000) → ∀ M' π', kS c P π' M' → kq M M' → Q (.inl (some (.int ((htS c p (tl c)).1)))) M') (W1 : ¬ iIn p (-1000) (nI 10000) → ∀ M' π', kS c P π' M' → kq M M' → Q (.inl (some (.int (-7200)))) M') : E g 9 1 6 mL_hit 0 [.ref 1, .int p, .null, .null] [] M Q := by
  have hL := hS.1.lay
  refine E_aload_n dL_hit_0 rfl ?_
  refine E_iload_n dL_hit_1 rfl ?_
  refine E_callV1 (fr' := 8) (k1 := 1) (n1 := 6) (k2 := 0) (n2 := 0) dL_hit_2 kO_X11_hit kL_L_79 (l_0 hL) (k_0 hL) ⟨by decide, rfl⟩ rfl (by decide) (by decide) (by exact Nat.le_of_ble_eq_true rfl) rfl ?_
  refine sp_X11_hit hst hS (fun z1 M1 π1 hS1 hkd => ?_) (fun z1 M1 π1 hS1 hkd => ?_)
  · have hL := hS1.1.lay
    refine gKv ?_
    refine E_istore_n dL_hit_5 (Nat.le_of_ble_eq_true rfl) (by decide) rfl ?_
    refine E_goto (tgt := 14) dL_hit_6 (by decide) ?_
    refine E_iload_n dL_hit_14 rfl ?_
    refine E_iret dL_hit_15 (Or.inl rfl) ?_
    exact W0 z1 _ _ hS1 hkd
  · have hL := hS1.1.lay
    refine gKc (Ex_catch [] [] 0 6 9 20 3 1 rfl (fun z e => by subst e; decide) (by decide) (gW_at 456 (by decide +kernel) (by decide +kernel)) (List.mem_filter.mpr ⟨List.mem_of_getElem? (i := 533) (by decide +kernel), rfl⟩) (fun w hw => by cases hw) (Or.inl ⟨⟨3, by decide⟩, rfl, rfl, dL_hit_9⟩) (by decide) rfl ?_)
    refine E_sipush (v := -7200) dL_hit_10 (by decide) ?_
    refine E_iret dL_hit_13 (Or.inl rfl) ?_
    exact W1 z1 _ _ hS1 hkd
set_option maxRecDepth 100000 in
set_option maxHeartbeats 4000000 in
theorem w_isSafe {g : gG} {M : gM} {Q : Option Value ⊕ String → gM → Prop} (hst : (gl1 g).stackTraces = false) {c : Cf} {P π : Nat → Nat} (hS : kS c P π M) {p : Int32} (W0 : ∀ j, 1 ≤ j → j < tl c → p = nI j → ∀ M' π', kS c P π' M' → kq M M' → Q (.inl (some (.int (b2i (sfe c j))))) M') (W1 : ¬ iIn p (nI 1) (nI (tl c) - nI 1) → ∀ M' π', kS c P π' M' → kq M M' → Q (.inl (some (.int (-7100)))) M') : E g 9 1 6 mL_isSafe 0 [.ref 1, .int p, .null, .null] [] M Q := by
  have hL := hS.1.lay
  refine E_aload_n dL_isSafe_0 rfl ?_
  refine E_iload_n dL_isSafe_1 rfl ?_
  refine E_callV1 (fr' := 8) (k1 := 1) (n1 := 6) (k2 := 0) (n2 := 0) dL_isSafe_2 kO_X11_isSafe kL_L_82 (l_0 hL) (k_0 hL) ⟨by decide, rfl⟩ rfl (by decide) (by decide) (by exact Nat.le_of_ble_eq_true rfl) rfl ?_
  refine sp_X11_isSafe hst hS (fun j z1 z2 z3 M1 π1 hS1 hkd => ?_) (fun z1 M1 π1 hS1 hkd => ?_)
  · have hL := hS1.1.lay
    refine gKv ?_
    refine E_istore_n dL_isSafe_5 (Nat.le_of_ble_eq_true rfl) (by decide) rfl ?_
    refine E_goto (tgt := 14) dL_isSafe_6 (by decide) ?_
    refine E_iload_n dL_isSafe_14 rfl ?_
    refine E_if_eq_b (tgt := 22) dL_isSafe_15 (by decide) (fun e_15 => ?_) (fun e_15 => ?_)
    · refine E_iconst (v := nI 0) dL_isSafe_22 (by decide) ?_
      refine E_iret dL_isSafe_23 (Or.inl rfl) ?_
      have W0 := W0 j z1 z2 z3 _ _ hS1 hkd
      first
        | (rw [b2i_t (by assumption)] at W0; exact W0)
        | (rw [b2i_f (by assumption)] at W0; exact W0)
    · refine E_iconst (v := nI 1) dL_isSafe_18 (by decide) ?_
      refine E_goto (tgt := 23) dL_isSafe_19 (by decide) ?_
      refine E_iret dL_isSafe_23 (Or.inl rfl) ?_
      have W0 := W0 j z1 z2 z3 _ _ hS1 hkd
      first
        | (rw [b2i_t (by assumption)] at W0; exact W0)
        | (rw [b2i_f (by assumption)] at W0; exact W0)
  · have hL := hS1.1.lay
    refine gKc (Ex_catch [] [] 0 6 9 14 3 1 rfl (fun z e => by subst e; decide) (by decide) (gW_at 455 (by decide +kernel) (by decide +kernel)) (List.mem_filter.mpr ⟨List.mem_of_getElem? (i := 464) (by decide +kernel), rfl⟩) (fun w hw => by cases hw) (Or.inl ⟨⟨3, by decide⟩, rfl, rfl, dL_isSafe_9⟩) (by decide) rfl ?_)
    refine E_sipush (v := -7100) dL_isSafe_10 (by decide) ?_
    refine E_iret dL_isSafe_13 (Or.inl rfl) ?_
    exact W1 z1 _ _ hS1 hkd
set_option maxRecDepth 100000 in
set_option maxHeartbeats 4000000 in
theorem w_fill {g : gG} {M : gM} {Q : Option Value ⊕ String → gM → Prop} (hst : (gl1 g).stackTraces = false) {c : Cf} {P π : Nat → Nat} (hS : kS c P π M) {p : Int32} (W0 : iIn p (nI 0) (nI 10000) → ∀ M' π', kS c P π' M' → kq M M' → Q (.inl (some (.int (fiV c p)))) M') (W1 : ¬ iIn p (nI 0) (nI 10000) → ∀ M' π', kS c P π' M' → kq M M' → Q (.inl (some (.int (-7200)))) M') : E g 9 1 6 mL_fill 0 [.ref 1, .int p, .null, .null] [] M Q := by
  have hL := hS.1.lay
  refine E_aload_n dL_fill_0 rfl ?_
  refine E_iload_n dL_fill_1 rfl ?_
  refine E_callV1 (fr' := 8) (k1 := 1) (n1 := 6) (k2 := 0) (n2 := 0) dL_fill_2 kO_X11_fill kL_L_85 (l_0 hL) (k_0 hL) ⟨by decide, rfl⟩ rfl (by decide) (by decide) (by exact Nat.le_of_ble_eq_true rfl) rfl ?_
  refine sp_X11_fill hst hS (fun z1 M1 π1 hS1 hkd => ?_) (fun z1 M1 π1 hS1 hkd => ?_)
  · have hL := hS1.1.lay
    refine gKv ?_
    refine E_istore_n dL_fill_5 (Nat.le_of_ble_eq_true rfl) (by decide) rfl ?_
    refine E_goto (tgt := 14) dL_fill_6 (by decide) ?_
    refine E_iload_n dL_fill_14 rfl ?_
    refine E_iret dL_fill_15 (Or.inl rfl) ?_
    exact W0 z1 _ _ hS1 hkd
  · have hL := hS1.1.lay
    refine gKc (Ex_catch [] [] 0 6 9 20 3 1 rfl (fun z e => by subst e; decide) (by decide) (gW_at 456 (by decide +kernel) (by decide +kernel)) (List.mem_filter.mpr ⟨List.mem_of_getElem? (i := 533) (by decide +kernel), rfl⟩) (fun w hw => by cases hw) (Or.inl ⟨⟨3, by decide⟩, rfl, rfl, dL_fill_9⟩) (by decide) rfl ?_)
    refine E_sipush (v := -7200) dL_fill_10 (by decide) ?_
    refine E_iret dL_fill_13 (Or.inl rfl) ?_
    exact W1 z1 _ _ hS1 hkd
set_option maxRecDepth 100000 in
set_option maxHeartbeats 4000000 in
theorem w_filling {g : gG} {M : gM} {Q : Option Value ⊕ String → gM → Prop} (hst : (gl1 g).stackTraces = false) {c : Cf} {P π : Nat → Nat} (hS : kS c P π M) {p w : Int32} (W0 : ∀ j, j < tl c → w = nI j → iIn p (nI 0) (nI 10000) → ∀ M' π', kS c P π' M' → kq M M' → Q (.inl (some (.int (fgV c p j)))) M') (W1 : ¬ iBel w (tl c) → ∀ M' π', kS c P π' M' → kq M M' → Q (.inl (some (.int (-7100)))) M') (W2 : ∀ j, j < tl c → w = nI j → ¬ iIn p (nI 0) (nI 10000) → ∀ M' π', kS c P π' M' → kq M M' → Q (.inl (some (.int (-7200)))) M') : E g 9 2 12 mL_filling 0 [.ref 1, .int p, .int w, .null, .null] [] M Q := by
  have hL := hS.1.lay
  refine E_aload_n dL_filling_0 rfl ?_
  refine E_iload_n dL_filling_1 rfl ?_
  refine E_iload_n dL_filling_2 rfl ?_
  refine E_callV2 (fr' := 8) (k1 := 2) (n1 := 12) (k2 := 0) (n2 := 0) dL_filling_3 kO_X11_filling kL_L_88 (l_0 hL) (k_0 hL) ⟨by decide, rfl⟩ rfl rfl (by decide) (by decide) (by exact Nat.le_of_ble_eq_true rfl) rfl ?_
  refine sp_X11_filling hst hS (fun j z1 z2 z3 M1 π1 hS1 hkd => ?_) (fun j z1 z2 z3 M1 π1 hS1 hkd => ?_) (fun z1 M1 π1 hS1 hkd => ?_)
  · have hL := hS1.1.lay
    refine gKv ?_
    refine E_istore_n dL_filling_6 (Nat.le_of_ble_eq_true rfl) (by decide) rfl ?_
    refine E_goto (tgt := 22) dL_filling_7 (by decide) ?_
    refine E_iload_n dL_filling_22 rfl ?_
    refine E_iret dL_filling_23 (Or.inl rfl) ?_
    exact W0 j z1 z2 z3 _ _ hS1 hkd
  · have hL := hS1.1.lay
    refine gKc (Ex_catch [(0, 7, 10, 14)] [] 0 7 16 20 4 2 rfl (fun z e => by subst e; decide) (by decide) (gW_at 456 (by decide +kernel) (by decide +kernel)) (List.mem_filter.mpr ⟨List.mem_of_getElem? (i := 533) (by decide +kernel), rfl⟩) (List.forall_mem_cons.mpr ⟨⟨by decide, "java/lang/IndexOutOfBoundsException", gW_at 455 (by decide +kernel) (by decide +kernel), by decide⟩, fun w hw => by cases hw⟩) (Or.inr ⟨rfl, dL_filling_16⟩) (by decide) rfl ?_)
    refine E_sipush (v := -7200) dL_filling_18 (by decide) ?_
    refine E_iret dL_filling_21 (Or.inl rfl) ?_
    exact W2 j z1 z2 z3 _ _ hS1 hkd
  · have hL := hS1.1.lay
    refine gKc (Ex_catch [] [(0, 7, 16, 20)] 0 7 10 14 4 2 rfl (fun z e => by subst e; decide) (by decide) (gW_at 455 (by decide +kernel) (by decide +kernel)) (List.mem_filter.mpr ⟨List.mem_of_getElem? (i := 464) (by decide +kernel), rfl⟩) (fun w hw => by cases hw) (Or.inr ⟨rfl, dL_filling_10⟩) (by decide) rfl ?_)
    refine E_sipush (v := -7100) dL_filling_12 (by decide) ?_
    refine E_iret dL_filling_15 (Or.inl rfl) ?_
    exact W1 z1 _ _ hS1 hkd
