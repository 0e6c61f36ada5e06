/-! the law: its small methods -/
theorem nI_m1 (k : Nat) : nI k + -1 = dI k := by unfold dI; rw [Int32.sub_eq_add_neg]; rfl
theorem zF_dI {x : Gl} (hx : okZ x) {k : Nat} (h1 : 1 ≤ k) (h5 : k < 5) : zF x = k - 1 ↔ yF x = dI k := by
  obtain ⟨j, rfl⟩ : ∃ j, k = j + 1 := ⟨k - 1, by omega⟩
  rw [dI_succ, Nat.add_sub_cancel]
  rcases hx.2.2.1 with q | ⟨i, q1, q2⟩
  · rw [zF_4 q, q]
    exact ⟨fun e => by omega, fun e => absurd e.symm (m100_nI (by omega))⟩
  · rw [zF_j q1 q2, q2]
    exact ⟨fun e => by rw [e], fun e => (nI_eq (by omega) (by omega)).mp e⟩
theorem hasF_n {c : Cf} {l : Nat} {x : Gl} (hx : okZ x) : hasF c l x ↔ cN c 131 l = 0 ∨ (1 ≤ cN c 131 l ∧ cN c 131 l < 5 ∧ zF x = cN c 131 l - 1) ∨ (cN c 131 l = 5 ∧ 0 < yE x) := by
  unfold hasF
  by_cases h1 : 1 ≤ cN c 131 l
  · by_cases h5 : cN c 131 l < 5
    · rw [← zF_dI hx h1 h5]; omega
    · omega
  · omega
set_option maxRecDepth 100000 in
set_option maxHeartbeats 4000000 in
theorem sp_L_of {g : gG} {M : gM} {Q : Option Value ⊕ String → gM → Prop} {v : Nat} (hv : glZ v) (K : Q (.inl (some (.int (nI (ofN v))))) M) : E g 1 0 0 mL_of 0 [.int (nI v)] [] M Q := by
  have hv2 := glZ_256 hv
  refine E_iload_n dL_of_0 rfl ?_
  refine E_bipush (v := nI 45) dL_of_1 (by decide) ?_
  refine E_icmp_ge_n (tgt := 10) dL_of_3 (by decide) (by omega) (by omega) (fun c_3 => ?_) (fun c_3 => ?_)
  · refine E_iload_n dL_of_10 rfl ?_
    refine E_bipush (v := nI 19) dL_of_11 (by decide) ?_
    refine E_isub_n dL_of_13 (by omega) ?_
    refine E_iret dL_of_14 (Or.inl rfl) ?_
    first
      | (rw [show ofN v = v from if_pos (by omega)] at K; exact K)
      | (rw [show ofN v = v - 19 from if_neg (by omega)] at K; exact K)
  · refine E_iload_n dL_of_6 rfl ?_
    refine E_goto (tgt := 14) dL_of_7 (by decide) ?_
    refine E_iret dL_of_14 (Or.inl rfl) ?_
    first
      | (rw [show ofN v = v from if_pos (by omega)] at K; exact K)
      | (rw [show ofN v = v - 19 from if_neg (by omega)] at K; exact K)
set_option maxRecDepth 100000 in
set_option maxHeartbeats 4000000 in
theorem sp_L_mark {g : gG} {M : gM} {Q : Option Value ⊕ String → gM → Prop} {c : Cf} (h : zS c M) {f v : Nat} (hf : f < 2) (hv : glZ v) (K : Q (.inl (some (.int (dI (cN c 137 (256 * f + v)))))) M) : E g 2 0 0 mL_mark 0 [.ref 132, .int (nI f), .int (nI v)] [] M Q := by
  have hL := h.lay
  have hv2 := glZ_256 hv
  have ho := ofN_lt hv
  refine E_aload_n dL_mark_0 rfl ?_
  refine E_iload_n dL_mark_1 rfl ?_
  refine E_callT1 (fr' := 1) (k1 := 0) (n1 := 0) (k2 := 0) (n2 := 0) dL_mark_2 kO_L_of kL_L_91 (by exact Nat.le_of_ble_eq_true rfl) (by decide) (by exact Nat.le_of_ble_eq_true rfl) (Or.inl rfl) rfl ?_
  refine sp_L_of (by first | assumption | exact h.gl (by omega)) ?_
  refine gKv ?_
  refine E_ialdL (v := nI (pEn c v)) dL_mark_5 (l_131 hL) (k_131 hL) rfl (by first | omega | exact h.n256 _) (by decide) (h.pe hv) ?_
  refine E_bipush (v := nI 13) dL_mark_6 (by decide) ?_
  refine E_iload_n dL_mark_8 rfl ?_
  refine E_imul_n dL_mark_9 ?_
  refine E_ishr dL_mark_10 ?_
  refine E_bipush (v := nI 7) dL_mark_11 (by decide) ?_
  refine E_iand dL_mark_13 ?_
  rw [pE_0 h.wf hf]
  refine E_iconst (v := nI 1) dL_mark_14 (by decide) ?_
  refine E_isub_d dL_mark_15 ?_
  refine E_iret dL_mark_16 (Or.inl rfl) ?_
  exact K
set_option maxRecDepth 100000 in
set_option maxHeartbeats 4000000 in
theorem sp_L_is {g : gG} {M : gM} {Q : Option Value ⊕ String → gM → Prop} {c : Cf} (h : zS c M) {f v : Nat} (hf : f < 2) (hv : glZ v) {item : Int32} (K : Q (.inl (some (.int (b2i (isAt c f item v))))) M) : E g 2 0 0 mL_is 0 [.ref 132, .int (nI f), .int item, .int (nI v)] [] M Q := by
  have hL := h.lay
  have hv2 := glZ_256 hv
  have ho := ofN_lt hv
  have hw := pEf_b h.wf f v
  refine E_iload_n dL_is_0 rfl ?_
  refine E_sipush (v := nI 300) dL_is_1 (by decide) ?_
  refine E_icmp_ge (tgt := 20) dL_is_4 (by decide) (fun c_4 => ?_) (fun c_4 => ?_)
  · refine E_aload_n dL_is_20 rfl ?_
    refine E_iload_n dL_is_21 rfl ?_
    refine E_callT1 (fr' := 1) (k1 := 0) (n1 := 0) (k2 := 0) (n2 := 0) dL_is_22 kO_L_of kL_L_91 (by exact Nat.le_of_ble_eq_true rfl) (by decide) (by exact Nat.le_of_ble_eq_true rfl) (Or.inl rfl) rfl ?_
    refine sp_L_of (by first | assumption | exact h.gl (by omega)) ?_
    refine gKv ?_
    refine E_ialdL (v := nI (pEn c v)) dL_is_25 (l_131 hL) (k_131 hL) rfl (by first | omega | exact h.n256 _) (by decide) (h.pe hv) ?_
    refine E_bipush (v := nI 13) dL_is_26 (by decide) ?_
    refine E_iload_n dL_is_28 rfl ?_
    refine E_imul_n dL_is_29 ?_
    refine E_iconst (v := nI 3) dL_is_30 (by decide) ?_
    refine E_iadd_n dL_is_31 ?_
    refine E_ishr dL_is_32 ?_
    refine E_bipush (v := nI 7) dL_is_33 (by decide) ?_
    refine E_iand dL_is_35 ?_
    rw [pE_3 h.wf hf]
    refine E_iload_n dL_is_36 rfl ?_
    refine E_sipush (v := nI 300) dL_is_37 (by decide) ?_
    refine E_isub dL_is_40 ?_
    refine E_icmp_ne_r (tgt := 48) dL_is_41 (by decide) (fun c_41 => ?_) (fun c_41 => ?_)
    · refine E_iconst (v := nI 0) dL_is_48 (by decide) ?_
      refine E_iret dL_is_49 (Or.inr ⟨rfl, by decide⟩) ?_
      rw [← b2i_f (P := isAt c f item v) (by unfold isAt; grind)]; exact K
    · refine E_iconst (v := nI 1) dL_is_44 (by decide) ?_
      refine E_goto (tgt := 49) dL_is_45 (by decide) ?_
      refine E_iret dL_is_49 (Or.inr ⟨rfl, by decide⟩) ?_
      rw [← b2i_t (P := isAt c f item v) (by unfold isAt; grind)]; exact K
  · refine E_iload_n dL_is_7 rfl ?_
    refine E_iload_n dL_is_8 rfl ?_
    refine E_icmp_ne_r (tgt := 16) dL_is_9 (by decide) (fun c_9 => ?_) (fun c_9 => ?_)
    · refine E_iconst (v := nI 0) dL_is_16 (by decide) ?_
      refine E_goto (tgt := 49) dL_is_17 (by decide) ?_
      refine E_iret dL_is_49 (Or.inr ⟨rfl, by decide⟩) ?_
      rw [← b2i_f (P := isAt c f item v) (by unfold isAt; grind)]; exact K
    · refine E_iconst (v := nI 1) dL_is_12 (by decide) ?_
      refine E_goto (tgt := 49) dL_is_13 (by decide) ?_
      refine E_iret dL_is_49 (Or.inr ⟨rfl, by decide⟩) ?_
      rw [← b2i_t (P := isAt c f item v) (by unfold isAt; grind)]; exact K
set_option maxRecDepth 100000 in
set_option maxHeartbeats 4000000 in
theorem sp_L_glyphOf {g : gG} {M : gM} {Q : Option Value ⊕ String → gM → Prop} {x : Gl} (hx : okZ x) (K : Q (.inl (some (.int (nI (yN x))))) M) : E g 1 0 0 mL_glyphOf 0 [.long (pk x), .null] [] M Q := by
  refine E_lload_n dL_glyphOf_0 rfl ?_
  refine E_ldc2 (v := lN 255) dL_glyphOf_1 (gW_at 714 (by decide +kernel) (by decide +kernel)) ?_
  refine E_land dL_glyphOf_4 ?_
  refine E_l2i dL_glyphOf_5 ?_
  refine E_iret dL_glyphOf_6 (Or.inl rfl) ?_
  rw [pk_low hx]; exact K
set_option maxRecDepth 100000 in
set_option maxHeartbeats 4000000 in
theorem sp_L_part_C {g : gG} {M : gM} {Q : Option Value ⊕ String → gM → Prop} {x : Gl} (hx : okZ x) (K : Q (.inl (some (.int (nI (yC x))))) M) : E g 1 0 0 mL_part 0 [.long (pk x), .null, .int (nI 8), .int (nI 15)] [] M Q := by
  refine E_lload_n dL_part_0 rfl ?_
  refine E_iload_n dL_part_1 rfl ?_
  refine E_lshr dL_part_2 ?_
  refine E_l2i dL_part_3 ?_
  refine E_iload_n dL_part_4 rfl ?_
  refine E_iand dL_part_5 ?_
  refine E_iret dL_part_6 (Or.inl rfl) ?_
  rw [pk_C hx]; exact K
set_option maxRecDepth 100000 in
set_option maxHeartbeats 4000000 in
theorem sp_L_part_F {g : gG} {M : gM} {Q : Option Value ⊕ String → gM → Prop} {x : Gl} (hx : okZ x) (K : Q (.inl (some (.int (nI (zF x))))) M) : E g 1 0 0 mL_part 0 [.long (pk x), .null, .int (nI 12), .int (nI 7)] [] M Q := by
  refine E_lload_n dL_part_0 rfl ?_
  refine E_iload_n dL_part_1 rfl ?_
  refine E_lshr dL_part_2 ?_
  refine E_l2i dL_part_3 ?_
  refine E_iload_n dL_part_4 rfl ?_
  refine E_iand dL_part_5 ?_
  refine E_iret dL_part_6 (Or.inl rfl) ?_
  rw [pk_F hx]; exact K
set_option maxRecDepth 100000 in
set_option maxHeartbeats 4000000 in
theorem sp_L_part_E {g : gG} {M : gM} {Q : Option Value ⊕ String → gM → Prop} {x : Gl} (hx : okZ x) (K : Q (.inl (some (.int (nI (yE x))))) M) : E g 1 0 0 mL_part 0 [.long (pk x), .null, .int (nI 15), .int (nI 3)] [] M Q := by
  refine E_lload_n dL_part_0 rfl ?_
  refine E_iload_n dL_part_1 rfl ?_
  refine E_lshr dL_part_2 ?_
  refine E_l2i dL_part_3 ?_
  refine E_iload_n dL_part_4 rfl ?_
  refine E_iand dL_part_5 ?_
  refine E_iret dL_part_6 (Or.inl rfl) ?_
  rw [pk_E hx]; exact K
set_option maxRecDepth 100000 in
set_option maxHeartbeats 4000000 in
theorem sp_L_part_P {g : gG} {M : gM} {Q : Option Value ⊕ String → gM → Prop} {x : Gl} (hx : okZ x) (K : Q (.inl (some (.int (nI (zP x))))) M) : E g 1 0 0 mL_part 0 [.long (pk x), .null, .int (nI 17), .int (nI 262143)] [] M Q := by
  refine E_lload_n dL_part_0 rfl ?_
  refine E_iload_n dL_part_1 rfl ?_
  refine E_lshr dL_part_2 ?_
  refine E_l2i dL_part_3 ?_
  refine E_iload_n dL_part_4 rfl ?_
  refine E_iand dL_part_5 ?_
  refine E_iret dL_part_6 (Or.inl rfl) ?_
  rw [pk_P hx]; exact K
set_option maxRecDepth 100000 in
set_option maxHeartbeats 4000000 in
theorem sp_L_part_T {g : gG} {M : gM} {Q : Option Value ⊕ String → gM → Prop} {x : Gl} (hx : okZ x) (K : Q (.inl (some (.int (nI (zT x))))) M) : E g 1 0 0 mL_part 0 [.long (pk x), .null, .int (nI 35), .int (nI 262143)] [] M Q := by
  refine E_lload_n dL_part_0 rfl ?_
  refine E_iload_n dL_part_1 rfl ?_
  refine E_lshr dL_part_2 ?_
  refine E_l2i dL_part_3 ?_
  refine E_iload_n dL_part_4 rfl ?_
  refine E_iand dL_part_5 ?_
  refine E_iret dL_part_6 (Or.inl rfl) ?_
  rw [pk_T hx]; exact K
set_option maxRecDepth 100000 in
set_option maxHeartbeats 4000000 in
theorem sp_L_part_O {g : gG} {M : gM} {Q : Option Value ⊕ String → gM → Prop} {x : Gl} (hx : okZ x) (K : Q (.inl (some (.int (nI (yO x))))) M) : E g 1 0 0 mL_part 0 [.long (pk x), .null, .int (nI 53), .int (nI 255)] [] M Q := by
  refine E_lload_n dL_part_0 rfl ?_
  refine E_iload_n dL_part_1 rfl ?_
  refine E_lshr dL_part_2 ?_
  refine E_l2i dL_part_3 ?_
  refine E_iload_n dL_part_4 rfl ?_
  refine E_iand dL_part_5 ?_
  refine E_iret dL_part_6 (Or.inl rfl) ?_
  rw [pk_O hx]; exact K
set_option maxRecDepth 100000 in
set_option maxHeartbeats 4000000 in
theorem sp_L_with_N {g : gG} {M : gM} {Q : Option Value ⊕ String → gM → Prop} {x : Gl} (hx : okZ x) {v : Nat} (hv : v < 256) (K : Q (.inl (some (.long (pk (sN x v))))) M) : E g 1 0 0 mL_with 0 [.long (pk x), .null, .int (nI 0), .int (nI 255), .int (nI v)] [] M Q := by
  refine E_lload_n dL_with_0 rfl ?_
  refine E_iload_n dL_with_1 rfl ?_
  refine E_i2l dL_with_2 ?_
  refine E_iload_n dL_with_3 rfl ?_
  refine E_lshl dL_with_4 ?_
  refine E_ldc2 (v := -1) dL_with_5 (gW_at 749 (by decide +kernel) (by decide +kernel)) ?_
  refine E_lxor dL_with_8 ?_
  refine E_land dL_with_9 ?_
  refine E_iload dL_with_10 rfl ?_
  refine E_i2l dL_with_12 ?_
  refine E_iload_n dL_with_13 rfl ?_
  refine E_lshl dL_with_14 ?_
  refine E_lor dL_with_15 ?_
  refine E_lret dL_with_16 rfl ?_
  rw [pkw_N hx hv]; exact K
set_option maxRecDepth 100000 in
set_option maxHeartbeats 4000000 in
theorem sp_L_with_C {g : gG} {M : gM} {Q : Option Value ⊕ String → gM → Prop} {x : Gl} (hx : okZ x) {v : Nat} (hv : v < 16) (K : Q (.inl (some (.long (pk (sC x v))))) M) : E g 1 0 0 mL_with 0 [.long (pk x), .null, .int (nI 8), .int (nI 15), .int (nI v)] [] M Q := by
  refine E_lload_n dL_with_0 rfl ?_
  refine E_iload_n dL_with_1 rfl ?_
  refine E_i2l dL_with_2 ?_
  refine E_iload_n dL_with_3 rfl ?_
  refine E_lshl dL_with_4 ?_
  refine E_ldc2 (v := -1) dL_with_5 (gW_at 749 (by decide +kernel) (by decide +kernel)) ?_
  refine E_lxor dL_with_8 ?_
  refine E_land dL_with_9 ?_
  refine E_iload dL_with_10 rfl ?_
  refine E_i2l dL_with_12 ?_
  refine E_iload_n dL_with_13 rfl ?_
  refine E_lshl dL_with_14 ?_
  refine E_lor dL_with_15 ?_
  refine E_lret dL_with_16 rfl ?_
  rw [pkw_C hx hv]; exact K
set_option maxRecDepth 100000 in
set_option maxHeartbeats 4000000 in
theorem sp_L_with_P {g : gG} {M : gM} {Q : Option Value ⊕ String → gM → Prop} {x : Gl} (hx : okZ x) {v : Nat} (hv : v + 1 < 2 ^ 18) (K : Q (.inl (some (.long (pk (sP x (nI v)))))) M) : E g 1 0 0 mL_with 0 [.long (pk x), .null, .int (nI 17), .int (nI 262143), .int (nI (v + 1))] [] M Q := by
  refine E_lload_n dL_with_0 rfl ?_
  refine E_iload_n dL_with_1 rfl ?_
  refine E_i2l dL_with_2 ?_
  refine E_iload_n dL_with_3 rfl ?_
  refine E_lshl dL_with_4 ?_
  refine E_ldc2 (v := -1) dL_with_5 (gW_at 749 (by decide +kernel) (by decide +kernel)) ?_
  refine E_lxor dL_with_8 ?_
  refine E_land dL_with_9 ?_
  refine E_iload dL_with_10 rfl ?_
  refine E_i2l dL_with_12 ?_
  refine E_iload_n dL_with_13 rfl ?_
  refine E_lshl dL_with_14 ?_
  refine E_lor dL_with_15 ?_
  refine E_lret dL_with_16 rfl ?_
  rw [pkw_P hx hv]; exact K
set_option maxRecDepth 100000 in
set_option maxHeartbeats 4000000 in
theorem sp_L_with_T {g : gG} {M : gM} {Q : Option Value ⊕ String → gM → Prop} {x : Gl} (hx : okZ x) {v : Nat} (hv : v < 2 ^ 18) (K : Q (.inl (some (.long (pk (sT x (nI v)))))) M) : E g 1 0 0 mL_with 0 [.long (pk x), .null, .int (nI 35), .int (nI 262143), .int (nI v)] [] M Q := by
  refine E_lload_n dL_with_0 rfl ?_
  refine E_iload_n dL_with_1 rfl ?_
  refine E_i2l dL_with_2 ?_
  refine E_iload_n dL_with_3 rfl ?_
  refine E_lshl dL_with_4 ?_
  refine E_ldc2 (v := -1) dL_with_5 (gW_at 749 (by decide +kernel) (by decide +kernel)) ?_
  refine E_lxor dL_with_8 ?_
  refine E_land dL_with_9 ?_
  refine E_iload dL_with_10 rfl ?_
  refine E_i2l dL_with_12 ?_
  refine E_iload_n dL_with_13 rfl ?_
  refine E_lshl dL_with_14 ?_
  refine E_lor dL_with_15 ?_
  refine E_lret dL_with_16 rfl ?_
  rw [pkw_T hx hv]; exact K
set_option maxRecDepth 100000 in
set_option maxHeartbeats 4000000 in
theorem sp_L_packed {g : gG} {M : gM} {Q : Option Value ⊕ String → gM → Prop} {its cl fo ex : Nat} {form : Int32} (h1 : its < 256) (h2 : cl < 16) (h3 : fo < 8) (h4 : ex < 4) (hf : form = -100 ∧ fo = 4 ∨ fo < 4 ∧ form = nI fo) (K : Q (.inl (some (.long (pk (newG its cl ex form))))) M) : E g 1 0 0 mL_packed 0 [.int (nI its), .int (nI cl), .int (nI fo), .int (nI ex)] [] M Q := by
  refine E_iload_n dL_packed_0 rfl ?_
  refine E_i2l dL_packed_1 ?_
  refine E_ldc2 (v := lN 256) dL_packed_2 (gW_at 693 (by decide +kernel) (by decide +kernel)) ?_
  refine E_iload_n dL_packed_5 rfl ?_
  refine E_i2l dL_packed_6 ?_
  refine E_lmul dL_packed_7 ?_
  refine E_ladd dL_packed_8 ?_
  refine E_ldc2 (v := lN 4096) dL_packed_9 (gW_at 694 (by decide +kernel) (by decide +kernel)) ?_
  refine E_iload_n dL_packed_12 rfl ?_
  refine E_i2l dL_packed_13 ?_
  refine E_lmul dL_packed_14 ?_
  refine E_ladd dL_packed_15 ?_
  refine E_iload_n dL_packed_16 rfl ?_
  refine E_i2l dL_packed_17 ?_
  refine E_bipush (v := nI 15) dL_packed_18 (by decide) ?_
  refine E_lshl dL_packed_20 ?_
  refine E_ladd dL_packed_21 ?_
  refine E_ldc2 (v := lN 34359738368) dL_packed_22 (gW_at 695 (by decide +kernel) (by decide +kernel)) ?_
  refine E_ladd dL_packed_25 ?_
  refine E_iload_n dL_packed_26 rfl ?_
  refine E_i2l dL_packed_27 ?_
  refine E_bipush (v := nI 53) dL_packed_28 (by decide) ?_
  refine E_lshl dL_packed_30 ?_
  refine E_ladd dL_packed_31 ?_
  refine E_lret dL_packed_32 rfl ?_
  rw [nI_l (show its < 2 ^ 31 by omega), nI_l (show cl < 2 ^ 31 by omega), nI_l (show fo < 2 ^ 31 by omega), nI_l (show ex < 2 ^ 31 by omega), pk_new hf]; exact K
set_option maxRecDepth 100000 in
set_option maxHeartbeats 4000000 in
theorem sp_L_number {g : gG} {M : gM} {Q : Option Value ⊕ String → gM → Prop} {c : Cf} (h : zS c M) {f l k w : Nat} (hf : f < 2) (hl : l < cN c 129 f) (hk : k < cN c 135 (12 * f + l)) (hw : w < 6) (K : Q (.inl (some (.int (rul c (12 * f + l) k w)))) M) : E g 1 0 0 mL_number 0 [.ref 131, .int (nI (8 * f + l)), .int (nI k), .int (nI w)] [] M Q := by
  have hL := h.lay
  have hc := h.ct hf
  have hr := h.r4 (12 * f + l)
  refine E_aload_n dL_number_0 rfl ?_
  refine E_iconst (v := nI 4) dL_number_1 (by decide) ?_
  refine E_iload_n dL_number_2 rfl ?_
  refine E_imul_n dL_number_3 ?_
  refine E_iload_n dL_number_4 rfl ?_
  refine E_iadd_n dL_number_5 ?_
  refine E_laldL (v := lN (rEn c (12 * f + l) k)) dL_number_6 (l_130 hL) (k_130 hL) rfl (by omega) (by decide) (h.re hf hl hk) ?_
  refine E_bipush (v := nI 10) dL_number_7 (by decide) ?_
  refine E_iload_n dL_number_9 rfl ?_
  refine E_imul_n dL_number_10 ?_
  refine E_lshr dL_number_11 ?_
  refine E_ldc2 (v := lN 1023) dL_number_12 (gW_at 736 (by decide +kernel) (by decide +kernel)) ?_
  refine E_land dL_number_15 ?_
  refine E_l2i dL_number_16 ?_
  refine E_bipush (v := nI 100) dL_number_17 (by decide) ?_
  refine E_isub dL_number_19 ?_
  refine E_iret dL_number_20 (Or.inl rfl) ?_
  rw [rE_w h.wz hk hw]; exact K
set_option maxRecDepth 100000 in
set_option maxHeartbeats 4000000 in
theorem sp_L_passed {g : gG} {M : gM} {Q : Option Value ⊕ String → gM → Prop} {c : Cf} (h : zS c M) {f l : Nat} {x : Gl} (hf : f < 2) (hl : l < cN c 129 f) (hx : okZ x) (K : Q (.inl (some (.int (b2i (skp c f (12 * f + l) (yN x)))))) M) : E g 3 0 0 mL_passed 0 [.ref 130, .ref 132, .int (nI f), .int (nI (8 * f + l)), .long (pk x), .null, .null, .null] [] M Q := by
  have hL := h.lay
  have hc := h.ct hf
  have hg := hx.1
  have hm := pEf_b h.wf f (yN x)
  have hm2 := mEn_b h.wf (12 * f + l)
  refine E_aload_n dL_passed_0 rfl ?_
  refine E_iload_n dL_passed_1 rfl ?_
  refine E_lload dL_passed_2 rfl ?_
  refine E_callT1 (fr' := 1) (k1 := 0) (n1 := 0) (k2 := 0) (n2 := 0) dL_passed_4 kO_L_glyphOf kL_L_108 (by exact Nat.le_of_ble_eq_true rfl) (by decide) (by exact Nat.le_of_ble_eq_true rfl) (Or.inl rfl) rfl ?_
  refine sp_L_glyphOf hx ?_
  refine gKv ?_
  refine E_callT3 (fr' := 2) (k1 := 0) (n1 := 0) (k2 := 0) (n2 := 0) dL_passed_7 kO_L_mark kL_L_112 (by exact Nat.le_of_ble_eq_true rfl) (by decide) (by exact Nat.le_of_ble_eq_true rfl) (Or.inl rfl) rfl ?_
  refine sp_L_mark (by first | exact h | exact h.S) hf (by first | assumption | exact h.gl (by omega)) ?_
  refine gKv ?_
  refine E_istore dL_passed_10 (Nat.le_of_ble_eq_true rfl) (by decide) rfl ?_
  refine E_aload_n dL_passed_12 rfl ?_
  refine E_iload_n dL_passed_13 rfl ?_
  refine E_ialdL (v := nI (mEn _ _)) dL_passed_14 (l_129 hL) (k_129 hL) rfl (by omega) (by decide) (h.me hf hl) ?_
  refine E_bipush (v := nI 10) dL_passed_15 (by decide) ?_
  refine E_ishr dL_passed_17 ?_
  refine E_bipush (v := nI 7) dL_passed_18 (by decide) ?_
  refine E_iand dL_passed_20 ?_
  rw [mE_10_7 h.wf]
  refine E_istore dL_passed_21 (Nat.le_of_ble_eq_true rfl) (by decide) rfl ?_
  refine E_iload dL_passed_23 rfl ?_
  refine E_if_lt_d (tgt := 53) dL_passed_25 (by decide) (by omega) (fun c_25 => ?_) (fun c_25 => ?_)
  · refine E_iconst (v := nI 0) dL_passed_53 (by decide) ?_
    refine E_iret dL_passed_54 (Or.inr ⟨rfl, by decide⟩) ?_
    rw [← b2i_f (P := skp c f (12 * f + l) (yN x)) (by unfold skp; omega)]; exact K
  · refine E_iload dL_passed_28 rfl ?_
    refine E_iconst (v := nI 1) dL_passed_30 (by decide) ?_
    refine E_icmp_eq_n (tgt := 49) dL_passed_31 (by decide) (by omega) (by omega) (fun c_31 => ?_) (fun c_31 => ?_)
    · refine E_iconst (v := nI 1) dL_passed_49 (by decide) ?_
      refine E_goto (tgt := 54) dL_passed_50 (by decide) ?_
      refine E_iret dL_passed_54 (Or.inr ⟨rfl, by decide⟩) ?_
      rw [← b2i_t (P := skp c f (12 * f + l) (yN x)) (by unfold skp; omega)]; exact K
    · refine E_iload dL_passed_34 rfl ?_
      refine E_iconst (v := nI 1) dL_passed_36 (by decide) ?_
      refine E_icmp_le_n (tgt := 53) dL_passed_37 (by decide) (by omega) (by omega) (fun c_37 => ?_) (fun c_37 => ?_)
      · refine E_iconst (v := nI 0) dL_passed_53 (by decide) ?_
        refine E_iret dL_passed_54 (Or.inr ⟨rfl, by decide⟩) ?_
        rw [← b2i_f (P := skp c f (12 * f + l) (yN x)) (by unfold skp; omega)]; exact K
      · refine E_iload dL_passed_40 rfl ?_
        refine E_iload dL_passed_42 rfl ?_
        refine E_iconst (v := nI 2) dL_passed_44 (by decide) ?_
        refine E_isub_n dL_passed_45 (by omega) ?_
        refine E_icmp_eq_d (tgt := 53) dL_passed_46 (by decide) (by omega) (by omega) (fun c_46 => ?_) (fun c_46 => ?_)
        · refine E_iconst (v := nI 0) dL_passed_53 (by decide) ?_
          refine E_iret dL_passed_54 (Or.inr ⟨rfl, by decide⟩) ?_
          rw [← b2i_f (P := skp c f (12 * f + l) (yN x)) (by unfold skp; omega)]; exact K
        · refine E_iconst (v := nI 1) dL_passed_49 (by decide) ?_
          refine E_goto (tgt := 54) dL_passed_50 (by decide) ?_
          refine E_iret dL_passed_54 (Or.inr ⟨rfl, by decide⟩) ?_
          rw [← b2i_t (P := skp c f (12 * f + l) (yN x)) (by unfold skp; omega)]; exact K
set_option maxRecDepth 100000 in
set_option maxHeartbeats 4000000 in
theorem sp_L_has {g : gG} {M : gM} {Q : Option Value ⊕ String → gM → Prop} {c : Cf} (h : zS c M) {f l : Nat} {x : Gl} (hf : f < 2) (hl : l < cN c 129 f) (hx : okZ x) (K : Q (.inl (some (.int (b2i (hasF c (12 * f + l) x))))) M) : E g 2 0 0 mL_has 0 [.ref 130, .int (nI (8 * f + l)), .long (pk x), .null, .null] [] M Q := by
  have hL := h.lay
  have hc := h.ct hf
  have hm2 := mEn_b h.wf (12 * f + l)
  have hb := hx.b
  refine E_aload_n dL_has_0 rfl ?_
  refine E_iload_n dL_has_1 rfl ?_
  refine E_ialdL (v := nI (mEn _ _)) dL_has_2 (l_129 hL) (k_129 hL) rfl (by omega) (by decide) (h.me hf hl) ?_
  refine E_iconst (v := nI 4) dL_has_3 (by decide) ?_
  refine E_ishr dL_has_4 ?_
  refine E_bipush (v := nI 7) dL_has_5 (by decide) ?_
  refine E_iand dL_has_7 ?_
  rw [mE_4_7 h.wf]
  refine E_istore dL_has_8 (Nat.le_of_ble_eq_true rfl) (by decide) rfl ?_
  refine E_iload dL_has_10 rfl ?_
  refine E_if_eq_n (tgt := 52) dL_has_12 (by decide) (by omega) (fun c_12 => ?_) (fun c_12 => ?_)
  · refine E_iconst (v := nI 1) dL_has_52 (by decide) ?_
    refine E_goto (tgt := 57) dL_has_53 (by decide) ?_
    refine E_iret dL_has_57 (Or.inr ⟨rfl, by decide⟩) ?_
    rw [← b2i_t (P := hasF c (12 * f + l) x) (by rw [hasF_n hx]; omega)]; exact K
  · refine E_iload dL_has_15 rfl ?_
    refine E_iconst (v := nI 5) dL_has_17 (by decide) ?_
    refine E_icmp_ge_n (tgt := 36) dL_has_18 (by decide) (by omega) (by omega) (fun c_18 => ?_) (fun c_18 => ?_)
    · refine E_iload dL_has_36 rfl ?_
      refine E_iconst (v := nI 5) dL_has_38 (by decide) ?_
      refine E_icmp_ne_n (tgt := 56) dL_has_39 (by decide) (by omega) (by omega) (fun c_39 => ?_) (fun c_39 => ?_)
      · refine E_iconst (v := nI 0) dL_has_56 (by decide) ?_
        refine E_iret dL_has_57 (Or.inr ⟨rfl, by decide⟩) ?_
        rw [← b2i_f (P := hasF c (12 * f + l) x) (by rw [hasF_n hx]; omega)]; exact K
      · refine E_lload_n dL_has_42 rfl ?_
        refine E_bipush (v := nI 15) dL_has_43 (by decide) ?_
        refine E_iconst (v := nI 3) dL_has_45 (by decide) ?_
        refine E_callT3 (fr' := 1) (k1 := 0) (n1 := 0) (k2 := 0) (n2 := 0) dL_has_46 kO_L_part kL_L_116 (by exact Nat.le_of_ble_eq_true rfl) (by decide) (by exact Nat.le_of_ble_eq_true rfl) (Or.inl rfl) rfl ?_
        refine sp_L_part_E hx ?_
        refine gKv ?_
        refine E_if_le_n (tgt := 56) dL_has_49 (by decide) (by omega) (fun c_49 => ?_) (fun c_49 => ?_)
        · refine E_iconst (v := nI 0) dL_has_56 (by decide) ?_
          refine E_iret dL_has_57 (Or.inr ⟨rfl, by decide⟩) ?_
          rw [← b2i_f (P := hasF c (12 * f + l) x) (by rw [hasF_n hx]; omega)]; exact K
        · refine E_iconst (v := nI 1) dL_has_52 (by decide) ?_
          refine E_goto (tgt := 57) dL_has_53 (by decide) ?_
          refine E_iret dL_has_57 (Or.inr ⟨rfl, by decide⟩) ?_
          rw [← b2i_t (P := hasF c (12 * f + l) x) (by rw [hasF_n hx]; omega)]; exact K
    · refine E_lload_n dL_has_21 rfl ?_
      refine E_bipush (v := nI 12) dL_has_22 (by decide) ?_
      refine E_bipush (v := nI 7) dL_has_24 (by decide) ?_
      refine E_callT3 (fr' := 1) (k1 := 0) (n1 := 0) (k2 := 0) (n2 := 0) dL_has_26 kO_L_part kL_L_116 (by exact Nat.le_of_ble_eq_true rfl) (by decide) (by exact Nat.le_of_ble_eq_true rfl) (Or.inl rfl) rfl ?_
      refine sp_L_part_F hx ?_
      refine gKv ?_
      refine E_iload dL_has_29 rfl ?_
      refine E_iconst (v := nI 1) dL_has_31 (by decide) ?_
      refine E_isub_n dL_has_32 (by omega) ?_
      refine E_icmp_eq_n (tgt := 52) dL_has_33 (by decide) (by omega) (by omega) (fun c_33 => ?_) (fun c_33 => ?_)
      · refine E_iconst (v := nI 1) dL_has_52 (by decide) ?_
        refine E_goto (tgt := 57) dL_has_53 (by decide) ?_
        refine E_iret dL_has_57 (Or.inr ⟨rfl, by decide⟩) ?_
        rw [← b2i_t (P := hasF c (12 * f + l) x) (by rw [hasF_n hx]; omega)]; exact K
      · refine E_iload dL_has_36 rfl ?_
        refine E_iconst (v := nI 5) dL_has_38 (by decide) ?_
        refine E_icmp_ne_n (tgt := 56) dL_has_39 (by decide) (by omega) (by omega) (fun c_39 => ?_) (fun c_39 => ?_)
        · refine E_iconst (v := nI 0) dL_has_56 (by decide) ?_
          refine E_iret dL_has_57 (Or.inr ⟨rfl, by decide⟩) ?_
          rw [← b2i_f (P := hasF c (12 * f + l) x) (by rw [hasF_n hx]; omega)]; exact K
        · refine E_lload_n dL_has_42 rfl ?_
          refine E_bipush (v := nI 15) dL_has_43 (by decide) ?_
          refine E_iconst (v := nI 3) dL_has_45 (by decide) ?_
          refine E_callT3 (fr' := 1) (k1 := 0) (n1 := 0) (k2 := 0) (n2 := 0) dL_has_46 kO_L_part kL_L_116 (by exact Nat.le_of_ble_eq_true rfl) (by decide) (by exact Nat.le_of_ble_eq_true rfl) (Or.inl rfl) rfl ?_
          refine sp_L_part_E hx ?_
          refine gKv ?_
          refine E_if_le_n (tgt := 56) dL_has_49 (by decide) (by omega) (fun c_49 => ?_) (fun c_49 => ?_)
          · refine E_iconst (v := nI 0) dL_has_56 (by decide) ?_
            refine E_iret dL_has_57 (Or.inr ⟨rfl, by decide⟩) ?_
            rw [← b2i_f (P := hasF c (12 * f + l) x) (by rw [hasF_n hx]; omega)]; exact K
          · refine E_iconst (v := nI 1) dL_has_52 (by decide) ?_
            refine E_goto (tgt := 57) dL_has_53 (by decide) ?_
            refine E_iret dL_has_57 (Or.inr ⟨rfl, by decide⟩) ?_
            rw [← b2i_t (P := hasF c (12 * f + l) x) (by rw [hasF_n hx]; omega)]; exact K
set_option maxRecDepth 100000 in
set_option maxHeartbeats 4000000 in
theorem sp_L_letter {g : gG} {M : gM} {Q : Option Value ⊕ String → gM → Prop} {s : Nat} (hs : s < 256) (K : Q (.inl (some (.int (b2i (cBo s))))) M) : E g 1 0 0 mL_letter 0 [.int (nI s)] [] M Q := by
  refine E_iload_n dL_letter_0 rfl ?_
  refine E_bipush (v := nI 10) dL_letter_1 (by decide) ?_
  refine E_icmp_lt_n (tgt := 12) dL_letter_3 (by decide) (by omega) (by omega) (fun c_3 => ?_) (fun c_3 => ?_)
  · refine E_iload_n dL_letter_12 rfl ?_
    refine E_bipush (v := nI 20) dL_letter_13 (by decide) ?_
    refine E_icmp_ne_n (tgt := 22) dL_letter_15 (by decide) (by omega) (by omega) (fun c_15 => ?_) (fun c_15 => ?_)
    · refine E_iconst (v := nI 0) dL_letter_22 (by decide) ?_
      refine E_iret dL_letter_23 (Or.inr ⟨rfl, by decide⟩) ?_
      rw [← b2i_f (P := cBo s) (by omega)]; exact K
    · refine E_iconst (v := nI 1) dL_letter_18 (by decide) ?_
      refine E_goto (tgt := 23) dL_letter_19 (by decide) ?_
      refine E_iret dL_letter_23 (Or.inr ⟨rfl, by decide⟩) ?_
      rw [← b2i_t (P := cBo s) (by omega)]; exact K
  · refine E_iload_n dL_letter_6 rfl ?_
    refine E_bipush (v := nI 16) dL_letter_7 (by decide) ?_
    refine E_icmp_lt_n (tgt := 18) dL_letter_9 (by decide) (by omega) (by omega) (fun c_9 => ?_) (fun c_9 => ?_)
    · refine E_iconst (v := nI 1) dL_letter_18 (by decide) ?_
      refine E_goto (tgt := 23) dL_letter_19 (by decide) ?_
      refine E_iret dL_letter_23 (Or.inr ⟨rfl, by decide⟩) ?_
      rw [← b2i_t (P := cBo s) (by omega)]; exact K
    · refine E_iload_n dL_letter_12 rfl ?_
      refine E_bipush (v := nI 20) dL_letter_13 (by decide) ?_
      refine E_icmp_ne_n (tgt := 22) dL_letter_15 (by decide) (by omega) (by omega) (fun c_15 => ?_) (fun c_15 => ?_)
      · refine E_iconst (v := nI 0) dL_letter_22 (by decide) ?_
        refine E_iret dL_letter_23 (Or.inr ⟨rfl, by decide⟩) ?_
        rw [← b2i_f (P := cBo s) (by omega)]; exact K
      · refine E_iconst (v := nI 1) dL_letter_18 (by decide) ?_
        refine E_goto (tgt := 23) dL_letter_19 (by decide) ?_
        refine E_iret dL_letter_23 (Or.inr ⟨rfl, by decide⟩) ?_
        rw [← b2i_t (P := cBo s) (by omega)]; exact K
set_option maxRecDepth 100000 in
set_option maxHeartbeats 4000000 in
theorem sp_L_markSign {g : gG} {M : gM} {Q : Option Value ⊕ String → gM → Prop} {s : Nat} (hs : s < 256) (K : Q (.inl (some (.int (b2i (cMk s))))) M) : E g 1 0 0 mL_markSign 0 [.int (nI s)] [] M Q := by
  refine E_iload_n dL_markSign_0 rfl ?_
  refine E_bipush (v := nI 20) dL_markSign_1 (by decide) ?_
  refine E_icmp_le_n (tgt := 16) dL_markSign_3 (by decide) (by omega) (by omega) (fun c_3 => ?_) (fun c_3 => ?_)
  · refine E_iconst (v := nI 0) dL_markSign_16 (by decide) ?_
    refine E_iret dL_markSign_17 (Or.inr ⟨rfl, by decide⟩) ?_
    rw [← b2i_f (P := cMk s) (by omega)]; exact K
  · refine E_iload_n dL_markSign_6 rfl ?_
    refine E_bipush (v := nI 24) dL_markSign_7 (by decide) ?_
    refine E_icmp_ge_n (tgt := 16) dL_markSign_9 (by decide) (by omega) (by omega) (fun c_9 => ?_) (fun c_9 => ?_)
    · refine E_iconst (v := nI 0) dL_markSign_16 (by decide) ?_
      refine E_iret dL_markSign_17 (Or.inr ⟨rfl, by decide⟩) ?_
      rw [← b2i_f (P := cMk s) (by omega)]; exact K
    · refine E_iconst (v := nI 1) dL_markSign_12 (by decide) ?_
      refine E_goto (tgt := 17) dL_markSign_13 (by decide) ?_
      refine E_iret dL_markSign_17 (Or.inr ⟨rfl, by decide⟩) ?_
      rw [← b2i_t (P := cMk s) (by omega)]; exact K
set_option maxRecDepth 100000 in
set_option maxHeartbeats 4000000 in
theorem sp_L_consonant {g : gG} {M : gM} {Q : Option Value ⊕ String → gM → Prop} {s : Nat} (hs : s < 256) (K : Q (.inl (some (.int (b2i (cCo s))))) M) : E g 1 0 0 mL_consonant 0 [.int (nI s)] [] M Q := by
  refine E_iload_n dL_consonant_0 rfl ?_
  refine E_bipush (v := nI 29) dL_consonant_1 (by decide) ?_
  refine E_icmp_le_n (tgt := 16) dL_consonant_3 (by decide) (by omega) (by omega) (fun c_3 => ?_) (fun c_3 => ?_)
  · refine E_iconst (v := nI 0) dL_consonant_16 (by decide) ?_
    refine E_iret dL_consonant_17 (Or.inr ⟨rfl, by decide⟩) ?_
    rw [← b2i_f (P := cCo s) (by omega)]; exact K
  · refine E_iload_n dL_consonant_6 rfl ?_
    refine E_bipush (v := nI 39) dL_consonant_7 (by decide) ?_
    refine E_icmp_ge_n (tgt := 16) dL_consonant_9 (by decide) (by omega) (by omega) (fun c_9 => ?_) (fun c_9 => ?_)
    · refine E_iconst (v := nI 0) dL_consonant_16 (by decide) ?_
      refine E_iret dL_consonant_17 (Or.inr ⟨rfl, by decide⟩) ?_
      rw [← b2i_f (P := cCo s) (by omega)]; exact K
    · refine E_iconst (v := nI 1) dL_consonant_12 (by decide) ?_
      refine E_goto (tgt := 17) dL_consonant_13 (by decide) ?_
      refine E_iret dL_consonant_17 (Or.inr ⟨rfl, by decide⟩) ?_
      rw [← b2i_t (P := cCo s) (by omega)]; exact K
