/-! the class: lookups and faces, asked -/
theorem lead_b (kd : Nat) : leadOf kd ≤ 1 := by unfold leadOf; split <;> omega
theorem mkD_ne {w : Nat} (h : w ≤ 4) : mkD w = -100 ↔ w = 0 := by
  unfold mkD
  by_cases e : w = 0
  · rw [cI_t e]; exact ⟨fun _ => e, fun _ => rfl⟩
  · rw [cI_f e]
    obtain ⟨z, rfl⟩ : ∃ z, w = z + 1 := ⟨w - 1, by omega⟩
    rw [dI_succ]
    exact ⟨fun q => absurd q (nI_ne100 (by omega)), fun q => absurd q e⟩
theorem mkD_t (w : Nat) : mkD (w + 1) = nI w := by unfold mkD; rw [cI_f (by omega), dI_succ]
theorem mkD_0 : mkD 0 = -100 := cI_t rfl
def forP (c : Cf) (l : Nat) (x : Gl) : Prop := hasF c l x
set_option maxRecDepth 100000 in
set_option maxHeartbeats 4000000 in
theorem sp_X4_isOf {g : gG} {M : gM} {Q : Option Value ⊕ String → gM → Prop} {c : Cf} {P : Nat → Nat} (hB : kB c P M) {l p : Nat} (hk : kLk c M l p) {t : Nat} (ht : t ≤ 2) (K : Q (.inl (some (.int (b2i (cN c 133 l = 0 ∨ cN c 133 l = t))))) M) : E g 1 0 0 mX4_isOf 0 [.ref (p + 1), .int (nI t)] [] M Q := by
  have hL := hB.lay
  have hl := hB.wf.lk l
  refine E_aload_n dX4_isOf_0 rfl ?_
  refine E_getIL (v := nI (cN _ 133 _)) dX4_isOf_1 kF_X4_33 kY_4 (Or.inl rfl) (hk.lt0) (hk.kd) hk.f3 ?_
  refine E_if_eq_n (tgt := 15) dX4_isOf_4 (by decide) (by omega) (fun c_4 => ?_) (fun c_4 => ?_)
  · refine E_iconst (v := nI 1) dX4_isOf_15 (by decide) ?_
    refine E_goto (tgt := 20) dX4_isOf_16 (by decide) ?_
    refine E_iret dX4_isOf_20 (Or.inr ⟨rfl, by decide⟩) ?_
    rw [← b2i_t (P := cN c 133 l = 0 ∨ cN c 133 l = t) (by omega)]; exact K
  · refine E_aload_n dX4_isOf_7 rfl ?_
    refine E_getIL (v := nI (cN _ 133 _)) dX4_isOf_8 kF_X4_33 kY_4 (Or.inl rfl) (hk.lt0) (hk.kd) hk.f3 ?_
    refine E_iload_n dX4_isOf_11 rfl ?_
    refine E_icmp_ne_n (tgt := 19) dX4_isOf_12 (by decide) (by omega) (by omega) (fun c_12 => ?_) (fun c_12 => ?_)
    · refine E_iconst (v := nI 0) dX4_isOf_19 (by decide) ?_
      refine E_iret dX4_isOf_20 (Or.inr ⟨rfl, by decide⟩) ?_
      rw [← b2i_f (P := cN c 133 l = 0 ∨ cN c 133 l = t) (by omega)]; exact K
    · refine E_iconst (v := nI 1) dX4_isOf_15 (by decide) ?_
      refine E_goto (tgt := 20) dX4_isOf_16 (by decide) ?_
      refine E_iret dX4_isOf_20 (Or.inr ⟨rfl, by decide⟩) ?_
      rw [← b2i_t (P := cN c 133 l = 0 ∨ cN c 133 l = t) (by omega)]; exact K
set_option maxRecDepth 100000 in
set_option maxHeartbeats 4000000 in
theorem sp_X4_isDue {g : gG} {M : gM} {Q : Option Value ⊕ String → gM → Prop} {c : Cf} {P : Nat → Nat} (hB : kB c P M) {l p : Nat} (hk : kLk c M l p) {s : Nat} (hs : s ≤ 1) (K : Q (.inl (some (.int (b2i (due c l s))))) M) : E g 2 0 0 mX4_isDue 0 [.ref (p + 1), .int (nI s), .int (nI (cN c 128 17))] [] M Q := by
  have hL := hB.lay
  have hl := hB.wf.lk l
  have ht := hB.wf.1.2.2.2
  refine E_aload_n dX4_isDue_0 rfl ?_
  refine E_getIL (v := nI (cN _ 130 _)) dX4_isDue_1 kF_X4_24 kY_4 (Or.inl rfl) (hk.lt0) (hk.kd) hk.f0 ?_
  refine E_iconst (v := nI 5) dX4_isDue_4 (by decide) ?_
  refine E_icmp_gt_n (tgt := 28) dX4_isDue_5 (by decide) (by omega) (by omega) (fun c_5 => ?_) (fun c_5 => ?_)
  · refine E_iconst (v := nI 0) dX4_isDue_28 (by decide) ?_
    refine E_iret dX4_isDue_29 (Or.inr ⟨rfl, by decide⟩) ?_
    rw [← b2i_f (P := due c l s) (by unfold due; omega)]; exact K
  · refine E_aload_n dX4_isDue_8 rfl ?_
    refine E_getIL (v := nI (cN _ 132 _)) dX4_isDue_9 kF_X4_30 kY_4 (Or.inl rfl) (hk.lt0) (hk.kd) hk.f2 ?_
    refine E_iload_n dX4_isDue_12 rfl ?_
    refine E_icmp_ne_n (tgt := 28) dX4_isDue_13 (by decide) (by omega) (by omega) (fun c_13 => ?_) (fun c_13 => ?_)
    · refine E_iconst (v := nI 0) dX4_isDue_28 (by decide) ?_
      refine E_iret dX4_isDue_29 (Or.inr ⟨rfl, by decide⟩) ?_
      rw [← b2i_f (P := due c l s) (by unfold due; omega)]; exact K
    · refine E_aload_n dX4_isDue_16 rfl ?_
      refine E_iload_n dX4_isDue_17 rfl ?_
      refine E_callV1 (fr' := 1) (k1 := 0) (n1 := 0) (k2 := 0) (n2 := 0) dX4_isDue_18 kO_X4_isOf kL_X4_64 (hk.lt0) (hk.kd) ⟨by decide, rfl⟩ rfl (by decide) (by decide) (by exact Nat.le_of_ble_eq_true rfl) rfl ?_
      refine sp_X4_isOf hB hk (by omega) ?_
      refine gKv ?_
      refine E_if_eq_b (tgt := 28) dX4_isDue_21 (by decide) (fun c_21 => ?_) (fun c_21 => ?_)
      · refine E_iconst (v := nI 0) dX4_isDue_28 (by decide) ?_
        refine E_iret dX4_isDue_29 (Or.inr ⟨rfl, by decide⟩) ?_
        rw [← b2i_f (P := due c l s) (by unfold due; omega)]; exact K
      · refine E_iconst (v := nI 1) dX4_isDue_24 (by decide) ?_
        refine E_goto (tgt := 29) dX4_isDue_25 (by decide) ?_
        refine E_iret dX4_isDue_29 (Or.inr ⟨rfl, by decide⟩) ?_
        rw [← b2i_t (P := due c l s) (by unfold due; omega)]; exact K
set_option maxRecDepth 100000 in
set_option maxHeartbeats 4000000 in
theorem sp_X1_isMark {g : gG} {M : gM} {Q : Option Value ⊕ String → gM → Prop} {c : Cf} {P : Nat → Nat} (hB : kB c P M) {f : Nat} (hf : f < 2) {q : Nat} (hq : q < 256) (K : Q (.inl (some (.int (b2i (0 < cN c 137 (256 * f + q)))))) M) : E g 1 0 0 mX1_isMark 0 [.ref (fb f + 1), .int (nI q)] [] M Q := by
  have hL := hB.lay
  have hm := (hB.wf.gl (256 * f + q)).1
  have hmd := mkD_ne hm
  refine E_iload_n dX1_isMark_0 rfl ?_
  refine E_if_lt_n (tgt := 26) dX1_isMark_1 (by decide) (by omega) ?_
  refine E_iload_n dX1_isMark_4 rfl ?_
  refine E_sipush (v := nI 256) dX1_isMark_5 (by decide) ?_
  refine E_icmp_ge_n (tgt := 26) dX1_isMark_8 (by decide) (by omega) (by omega) (fun c_8 => ?_) (fun c_8 => ?_)
  · refine E_iconst (v := nI 0) dX1_isMark_26 (by decide) ?_
    refine E_iret dX1_isMark_27 (Or.inr ⟨rfl, by decide⟩) ?_
    rw [← b2i_f (P := 0 < cN c 137 (256 * f + q)) (by simp_all; try omega)]; exact K
  · refine E_aload_n dX1_isMark_11 rfl ?_
    refine E_getRL dX1_isMark_12 kF_X1_17 kY_1 (Or.inr ⟨_, rfl⟩) (hB.flt0 hf) (hB.fk0 hf) (hB.fr1 hf) ?_
    refine E_iload_n dX1_isMark_15 rfl ?_
    refine E_ialdL (v := _) dX1_isMark_16 (hB.flt hf (i := 2) (by decide)) (hB.fk2 hf) rfl (by omega) (by decide) (hB.fmk hf (by omega)) ?_
    refine E_bipush (v := -100) dX1_isMark_17 (by decide) ?_
    refine E_icmp_eq (tgt := 26) dX1_isMark_19 (by decide) (fun c_19 => ?_) (fun c_19 => ?_)
    · refine E_iconst (v := nI 0) dX1_isMark_26 (by decide) ?_
      refine E_iret dX1_isMark_27 (Or.inr ⟨rfl, by decide⟩) ?_
      rw [← b2i_f (P := 0 < cN c 137 (256 * f + q)) (by simp_all; try omega)]; exact K
    · refine E_iconst (v := nI 1) dX1_isMark_22 (by decide) ?_
      refine E_goto (tgt := 27) dX1_isMark_23 (by decide) ?_
      refine E_iret dX1_isMark_27 (Or.inr ⟨rfl, by decide⟩) ?_
      rw [← b2i_t (P := 0 < cN c 137 (256 * f + q)) (by simp_all; try omega)]; exact K
set_option maxRecDepth 100000 in
set_option maxHeartbeats 4000000 in
theorem sp_X1_skips {g : gG} {M : gM} {Q : Option Value ⊕ String → gM → Prop} {c : Cf} {P : Nat → Nat} (hB : kB c P M) {f : Nat} (hf : f < 2) {l p : Nat} (hk : kLk c M l p) {q : Nat} (hq : q < 256) (K : Q (.inl (some (.int (b2i (skp c f l q))))) M) : E g 1 0 0 mX1_skips 0 [.ref (fb f + 1), .ref (p + 1), .int (nI q), .null] [] M Q := by
  have hL := hB.lay
  have hl := hB.wf.lk l
  have hm := (hB.wf.gl (256 * f + q)).1
  by_cases e : cN c 137 (256 * f + q) = 0
  · have hv : mI M (fb f + 2) q = -100 := (hB.fmk hf hq).trans (by rw [e]; exact mkD_0)
    refine E_iload_n dX1_skips_0 rfl ?_
    refine E_if_lt_n (tgt := 20) dX1_skips_1 (by decide) (by omega) ?_
    refine E_iload_n dX1_skips_4 rfl ?_
    refine E_sipush (v := nI 256) dX1_skips_5 (by decide) ?_
    refine E_icmp_ge_n (tgt := 20) dX1_skips_8 (by decide) (by omega) (by omega) (fun c_8 => ?_) (fun c_8 => ?_)
    · refine E_bipush (v := -100) dX1_skips_20 (by decide) ?_
      refine E_istore_n dX1_skips_22 (Nat.le_of_ble_eq_true rfl) (by decide) rfl ?_
      refine E_iload_n dX1_skips_23 rfl ?_
      refine E_bipush (v := -100) dX1_skips_24 (by decide) ?_
      refine E_icmp_eq (tgt := 37) dX1_skips_26 (by decide) (fun _ => ?_) (fun c0 => absurd (by decide) c0)
      refine E_iconst (v := nI 0) dX1_skips_37 (by decide) ?_
      refine E_iret dX1_skips_38 (Or.inr ⟨rfl, by decide⟩) ?_
      rw [← b2i_f (P := skp c f l q) (by unfold skp; omega)]; exact K
    · refine E_aload_n dX1_skips_11 rfl ?_
      refine E_getRL dX1_skips_12 kF_X1_17 kY_1 (Or.inr ⟨_, rfl⟩) (hB.flt0 hf) (hB.fk0 hf) (hB.fr1 hf) ?_
      refine E_iload_n dX1_skips_15 rfl ?_
      refine E_ialdL (v := -100) dX1_skips_16 (hB.flt hf (i := 2) (by decide)) (hB.fk2 hf) rfl (by omega) (by decide) hv ?_
      refine E_goto (tgt := 22) dX1_skips_17 (by decide) ?_
      refine E_istore_n dX1_skips_22 (Nat.le_of_ble_eq_true rfl) (by decide) rfl ?_
      refine E_iload_n dX1_skips_23 rfl ?_
      refine E_bipush (v := -100) dX1_skips_24 (by decide) ?_
      refine E_icmp_eq (tgt := 37) dX1_skips_26 (by decide) (fun _ => ?_) (fun c0 => absurd (by decide) c0)
      refine E_iconst (v := nI 0) dX1_skips_37 (by decide) ?_
      refine E_iret dX1_skips_38 (Or.inr ⟨rfl, by decide⟩) ?_
      rw [← b2i_f (P := skp c f l q) (by unfold skp; omega)]; exact K
  · obtain ⟨z, hz⟩ : ∃ z, cN c 137 (256 * f + q) = z + 1 := ⟨cN c 137 (256 * f + q) - 1, by omega⟩
    have hv : mI M (fb f + 2) q = nI z := (hB.fmk hf hq).trans (by rw [hz]; exact mkD_t z)
    refine E_iload_n dX1_skips_0 rfl ?_
    refine E_if_lt_n (tgt := 20) dX1_skips_1 (by decide) (by omega) ?_
    refine E_iload_n dX1_skips_4 rfl ?_
    refine E_sipush (v := nI 256) dX1_skips_5 (by decide) ?_
    refine E_icmp_ge_n (tgt := 20) dX1_skips_8 (by decide) (by omega) (by omega) (fun c_8 => ?_) (fun c_8 => ?_)
    · refine E_bipush (v := -100) dX1_skips_20 (by decide) ?_
      refine E_istore_n dX1_skips_22 (Nat.le_of_ble_eq_true rfl) (by decide) rfl ?_
      refine E_iload_n dX1_skips_23 rfl ?_
      refine E_bipush (v := -100) dX1_skips_24 (by decide) ?_
      refine E_icmp_eq (tgt := 37) dX1_skips_26 (by decide) (fun _ => ?_) (fun c0 => absurd (by decide) c0)
      refine E_iconst (v := nI 0) dX1_skips_37 (by decide) ?_
      refine E_iret dX1_skips_38 (Or.inr ⟨rfl, by decide⟩) ?_
      rw [← b2i_f (P := skp c f l q) (by unfold skp; omega)]; exact K
    · refine E_aload_n dX1_skips_11 rfl ?_
      refine E_getRL dX1_skips_12 kF_X1_17 kY_1 (Or.inr ⟨_, rfl⟩) (hB.flt0 hf) (hB.fk0 hf) (hB.fr1 hf) ?_
      refine E_iload_n dX1_skips_15 rfl ?_
      refine E_ialdL (v := nI z) dX1_skips_16 (hB.flt hf (i := 2) (by decide)) (hB.fk2 hf) rfl (by omega) (by decide) hv ?_
      refine E_goto (tgt := 22) dX1_skips_17 (by decide) ?_
      refine E_istore_n dX1_skips_22 (Nat.le_of_ble_eq_true rfl) (by decide) rfl ?_
      refine E_iload_n dX1_skips_23 rfl ?_
      refine E_bipush (v := -100) dX1_skips_24 (by decide) ?_
      refine E_icmp_eq (tgt := 37) dX1_skips_26 (by decide) (fun c0 => absurd c0 (nI_ne100 (by omega))) (fun _ => ?_)
      refine E_aload_n dX1_skips_29 rfl ?_
      refine E_getIL (v := nI (cN _ 134 _)) dX1_skips_30 kF_X1_48 kY_4 (Or.inl rfl) (hk.lt0) (hk.kd) hk.f4 ?_
      refine E_iconst (v := nI 1) dX1_skips_33 (by decide) ?_
      refine E_icmp_ge_n (tgt := 39) dX1_skips_34 (by decide) (by omega) (by omega) (fun c_34 => ?_) (fun c_34 => ?_)
      · refine E_aload_n dX1_skips_39 rfl ?_
        refine E_getIL (v := nI (cN _ 134 _)) dX1_skips_40 kF_X1_48 kY_4 (Or.inl rfl) (hk.lt0) (hk.kd) hk.f4 ?_
        refine E_iconst (v := nI 1) dX1_skips_43 (by decide) ?_
        refine E_icmp_eq_n (tgt := 57) dX1_skips_44 (by decide) (by omega) (by omega) (fun c_44 => ?_) (fun c_44 => ?_)
        · refine E_iconst (v := nI 1) dX1_skips_57 (by decide) ?_
          refine E_goto (tgt := 62) dX1_skips_58 (by decide) ?_
          refine E_iret dX1_skips_62 (Or.inr ⟨rfl, by decide⟩) ?_
          rw [← b2i_t (P := skp c f l q) (by unfold skp; omega)]; exact K
        · refine E_iload_n dX1_skips_47 rfl ?_
          refine E_aload_n dX1_skips_48 rfl ?_
          refine E_getIL (v := nI (cN _ 134 _)) dX1_skips_49 kF_X1_48 kY_4 (Or.inl rfl) (hk.lt0) (hk.kd) hk.f4 ?_
          refine E_iconst (v := nI 2) dX1_skips_52 (by decide) ?_
          refine E_isub dX1_skips_53 ?_
          refine E_icmp_eq (tgt := 61) dX1_skips_54 (by decide) (fun c_54 => ?_) (fun c_54 => ?_)
          · have c_54 : z + 2 = cN c 134 l := by
              have c_54 : nI z = nI (cN c 134 l) - nI 2 := c_54
              have e1 : nI z = nI (z + 1) - nI 1 := (dI_succ z).symm
              rw [e1] at c_54
              exact (dI_eq2 (by omega) (by omega)).mp c_54
            refine E_iconst (v := nI 0) dX1_skips_61 (by decide) ?_
            refine E_iret dX1_skips_62 (Or.inr ⟨rfl, by decide⟩) ?_
            rw [← b2i_f (P := skp c f l q) (by unfold skp; omega)]; exact K
          · have c_54 : ¬ z + 2 = cN c 134 l := fun q => c_54 (by
              show nI z = nI (cN c 134 l) - nI 2
              rw [← q, pk_sub (by omega)]; rfl)
            refine E_iconst (v := nI 1) dX1_skips_57 (by decide) ?_
            refine E_goto (tgt := 62) dX1_skips_58 (by decide) ?_
            refine E_iret dX1_skips_62 (Or.inr ⟨rfl, by decide⟩) ?_
            rw [← b2i_t (P := skp c f l q) (by unfold skp; omega)]; exact K
      · refine E_iconst (v := nI 0) dX1_skips_37 (by decide) ?_
        refine E_iret dX1_skips_38 (Or.inr ⟨rfl, by decide⟩) ?_
        rw [← b2i_f (P := skp c f l q) (by unfold skp; omega)]; exact K
/-- an item, or nothing, at a glyph, or nothing -/
def suiP (c : Cf) (f : Nat) (item : Int32) (e q : Nat) : Prop := item = -100 ∨ (0 < e ∧ isAt c f item q)
set_option maxRecDepth 100000 in
set_option maxHeartbeats 4000000 in
theorem sp_X1_suits {g : gG} {M : gM} {Q : Option Value ⊕ String → gM → Prop} {c : Cf} {P : Nat → Nat} (hB : kB c P M) {f : Nat} (hf : f < 2) {item : Int32} {q : Nat} (hq : q < 256) (K : Q (.inl (some (.int (b2i (item = -100 ∨ isAt c f item q))))) M) : E g 1 0 0 mX1_suits 0 [.ref (fb f + 1), .int item, .int (nI q)] [] M Q := by
  have hL := hB.lay
  have hg := (hB.wf.gl (256 * f + q)).2.1
  refine E_iload_n dX1_suits_0 rfl ?_
  refine E_bipush (v := -100) dX1_suits_1 (by decide) ?_
  refine E_icmp_ne_r (tgt := 8) dX1_suits_3 (by decide) (fun c_3 => ?_) (fun c_3 => ?_)
  · refine E_iload_n dX1_suits_8 rfl ?_
    refine E_if_lt_n (tgt := 19) dX1_suits_9 (by decide) (by omega) ?_
    refine E_iload_n dX1_suits_12 rfl ?_
    refine E_sipush (v := nI 256) dX1_suits_13 (by decide) ?_
    refine E_icmp_lt_n (tgt := 21) dX1_suits_16 (by decide) (by omega) (by omega) (fun c_16 => ?_) (fun c_16 => ?_)
    · refine E_iload_n dX1_suits_21 rfl ?_
      refine E_sipush (v := nI 300) dX1_suits_22 (by decide) ?_
      refine E_icmp_lt (tgt := 50) dX1_suits_25 (by decide) (fun c_25 => ?_) (fun c_25 => ?_)
      · refine E_iload_n dX1_suits_50 rfl ?_
        refine E_iload_n dX1_suits_51 rfl ?_
        refine E_icmp_ne_r (tgt := 59) dX1_suits_52 (by decide) (fun c_52 => ?_) (fun c_52 => ?_)
        · refine E_iconst (v := nI 0) dX1_suits_59 (by decide) ?_
          refine E_iret dX1_suits_60 (Or.inr ⟨rfl, by decide⟩) ?_
          rw [← b2i_f (P := item = -100 ∨ isAt c f item q) (by first | (exfalso; omega) | (simp only [isAt, Int32.lt_iff_toInt_lt, Int32.le_iff_toInt_le, Int32.not_lt] at *; grind))]; exact K
        · refine E_iconst (v := nI 1) dX1_suits_55 (by decide) ?_
          refine E_goto (tgt := 60) dX1_suits_56 (by decide) ?_
          refine E_iret dX1_suits_60 (Or.inr ⟨rfl, by decide⟩) ?_
          rw [← b2i_t (P := item = -100 ∨ isAt c f item q) (by first | (exfalso; omega) | (simp only [isAt, Int32.lt_iff_toInt_lt, Int32.le_iff_toInt_le, Int32.not_lt] at *; grind))]; exact K
      · refine E_aload_n dX1_suits_28 rfl ?_
        refine E_getRL dX1_suits_29 kF_X1_21 kY_1 (Or.inr ⟨_, rfl⟩) (hB.flt0 hf) (hB.fk0 hf) (hB.fr2 hf) ?_
        refine E_iload_n dX1_suits_32 rfl ?_
        refine E_ialdL (v := nI (cN _ 138 _)) dX1_suits_33 (hB.flt hf (i := 3) (by decide)) (hB.fk3 hf) rfl (by omega) (by decide) (hB.fgr hf (by omega)) ?_
        refine E_iload_n dX1_suits_34 rfl ?_
        refine E_sipush (v := nI 300) dX1_suits_35 (by decide) ?_
        refine E_isub dX1_suits_38 ?_
        refine E_icmp_ne_r (tgt := 46) dX1_suits_39 (by decide) (fun c_39 => ?_) (fun c_39 => ?_)
        · refine E_iconst (v := nI 0) dX1_suits_46 (by decide) ?_
          refine E_goto (tgt := 60) dX1_suits_47 (by decide) ?_
          refine E_iret dX1_suits_60 (Or.inr ⟨rfl, by decide⟩) ?_
          rw [← b2i_f (P := item = -100 ∨ isAt c f item q) (by first | (exfalso; omega) | (simp only [isAt, Int32.lt_iff_toInt_lt, Int32.le_iff_toInt_le, Int32.not_lt] at *; grind))]; exact K
        · refine E_iconst (v := nI 1) dX1_suits_42 (by decide) ?_
          refine E_goto (tgt := 60) dX1_suits_43 (by decide) ?_
          refine E_iret dX1_suits_60 (Or.inr ⟨rfl, by decide⟩) ?_
          rw [← b2i_t (P := item = -100 ∨ isAt c f item q) (by first | (exfalso; omega) | (simp only [isAt, Int32.lt_iff_toInt_lt, Int32.le_iff_toInt_le, Int32.not_lt] at *; grind))]; exact K
    · refine E_iconst (v := nI 0) dX1_suits_19 (by decide) ?_
      refine E_iret dX1_suits_20 (Or.inr ⟨rfl, by decide⟩) ?_
      rw [← b2i_f (P := item = -100 ∨ isAt c f item q) (by first | (exfalso; omega) | (simp only [isAt, Int32.lt_iff_toInt_lt, Int32.le_iff_toInt_le, Int32.not_lt] at *; grind))]; exact K
  · refine E_iconst (v := nI 1) dX1_suits_6 (by decide) ?_
    refine E_iret dX1_suits_7 (Or.inr ⟨rfl, by decide⟩) ?_
    rw [← b2i_t (P := item = -100 ∨ isAt c f item q) (by first | (exfalso; omega) | (simp only [isAt, Int32.lt_iff_toInt_lt, Int32.le_iff_toInt_le, Int32.not_lt] at *; grind))]; exact K
set_option maxRecDepth 100000 in
set_option maxHeartbeats 4000000 in
theorem sp_X1_suitsN {g : gG} {M : gM} {Q : Option Value ⊕ String → gM → Prop} {c : Cf} {P : Nat → Nat} (hB : kB c P M) {f : Nat} (hf : f < 2) {item : Int32} (K : Q (.inl (some (.int (b2i (item = -100))))) M) : E g 1 0 0 mX1_suits 0 [.ref (fb f + 1), .int item, .int (-100)] [] M Q := by
  have hL := hB.lay
  refine E_iload_n dX1_suits_0 rfl ?_
  refine E_bipush (v := -100) dX1_suits_1 (by decide) ?_
  refine E_icmp_ne_r (tgt := 8) dX1_suits_3 (by decide) (fun c_3 => ?_) (fun c_3 => ?_)
  · refine E_iload_n dX1_suits_8 rfl ?_
    refine E_if_lt (tgt := 19) dX1_suits_9 (by decide) (fun _ => ?_) (fun c0 => absurd (by decide) c0)
    refine E_iconst (v := nI 0) dX1_suits_19 (by decide) ?_
    refine E_iret dX1_suits_20 (Or.inr ⟨rfl, by decide⟩) ?_
    rw [← b2i_f (P := item = -100) (by simp_all)]; exact K
  · refine E_iconst (v := nI 1) dX1_suits_6 (by decide) ?_
    refine E_iret dX1_suits_7 (Or.inr ⟨rfl, by decide⟩) ?_
    rw [← b2i_t (P := item = -100) (by simp_all)]; exact K
theorem isAt_k {c : Cf} {f : Nat} {item : Int32} {q gr : Nat} (hg : gr = cN c 138 (256 * f + q)) : ((nI 300 ≤ item ∧ item - nI 300 = nI gr) ∨ (¬ nI 300 ≤ item ∧ item = nI q)) ↔ isAt c f item q := by
  unfold isAt
  subst hg
  exact or_congr_left (and_congr_right (fun _ => ⟨fun z => z.symm, fun z => z.symm⟩))
set_option maxRecDepth 100000 in
set_option maxHeartbeats 4000000 in
theorem lp_X4_begins {g : gG} {M : gM} {Q : Option Value ⊕ String → gM → Prop} {c : Cf} {P : Nat → Nat} (hB : kB c P M) {l p : Nat} (hk : kLk c M l p) {f q : Nat} (hq : q < 256) (K : Q (.inl (some (.int (nI (bgB c f l q))))) M) : ∀ k, k ≤ cN c 135 l → ∀ v v5, v = begB (begP c f l q) k → E g 1 0 0 mX4_begins 5 [.ref (p + 1), .int (nI q), .int (nI (cN c 138 (256 * f + q))), .int v, .int (nI k), v5] [] M Q := by
  have hL := hB.lay
  have hl := hB.wf.lk l
  have hld := lead_b (cN c 130 l)
  refine lpUp (cN c 135 l) (fun k hk8 ih => ?_)
  intro v v5 hv
  have key : ((nI 300 ≤ rul c l k (leadOf (cN c 130 l)) ∧ rul c l k (leadOf (cN c 130 l)) - nI 300 = nI (cN c 138 (256 * f + q))) ∨ (¬ nI 300 ≤ rul c l k (leadOf (cN c 130 l)) ∧ rul c l k (leadOf (cN c 130 l)) = nI q)) ↔ begP c f l q k := isAt_k rfl
  refine E_iload dX4_begins_5 rfl ?_
  refine E_aload_n dX4_begins_7 rfl ?_
  refine E_getIL (v := nI (cN _ 135 _)) dX4_begins_8 kF_X4_20 kY_4 (Or.inl rfl) (hk.lt0) (hk.kd) hk.f8 ?_
  refine E_icmp_ge_n (tgt := 68) dX4_begins_11 (by decide) (by omega) (by omega) (fun c_11 => ?_) (fun c_11 => ?_)
  · refine E_iload_n dX4_begins_68 rfl ?_
    refine E_iret dX4_begins_69 (Or.inl rfl) ?_
    obtain rfl : k = cN c 135 l := by omega
    rw [hv, begB_n _ _ hl.2.2.2.2.2]
    exact K
  · refine E_aload_n dX4_begins_14 rfl ?_
    refine E_getRL dX4_begins_15 kF_X4_11 kY_4 (Or.inr ⟨_, rfl⟩) (hk.lt0) (hk.kd) hk.r6 ?_
    refine E_iload dX4_begins_18 rfl ?_
    refine E_aaldL (v := _) dX4_begins_20 (hk.lt (i := 1) (by decide)) (hk.kd1) (by decide) (by decide) rfl (by omega) (by decide) (hk.ru (by omega)) ?_
    refine E_aload_n dX4_begins_21 rfl ?_
    refine E_getIL (v := nI (leadOf _)) dX4_begins_22 kF_X4_39 kY_4 (Or.inl rfl) (hk.lt0) (hk.kd) hk.f5 ?_
    refine E_ialdL (v := _) dX4_begins_25 (hk.ltu (by omega)) (hk.kdu (by omega)) rfl (by omega) (by decide) (hk.rn (by omega) (by omega)) ?_
    refine E_istore dX4_begins_26 (Nat.le_of_ble_eq_true rfl) (by decide) rfl ?_
    refine E_iload dX4_begins_28 rfl ?_
    refine E_sipush (v := nI 300) dX4_begins_30 (by decide) ?_
    refine E_icmp_lt (tgt := 49) dX4_begins_33 (by decide) (fun c_33 => ?_) (fun c_33 => ?_)
    · refine E_iload dX4_begins_49 rfl ?_
      refine E_iload_n dX4_begins_51 rfl ?_
      refine E_icmp_ne_r (tgt := 62) dX4_begins_52 (by decide) (fun c_52 => ?_) (fun c_52 => ?_)
      · refine E_iinc_n (d := 1) dX4_begins_62 rfl rfl rfl (by decide) rfl ?_
        refine E_goto (tgt := 5) dX4_begins_65 (by decide) ?_
        refine ih (by omega) _ _ ?_
        rw [hv]
        first
          | exact (begB_t (key.mp (by first | exact Or.inl ⟨Int32.not_lt.mp c_33, c_43⟩ | exact Or.inr ⟨Int32.not_le.mpr c_33, c_52⟩))).symm
          | exact (begB_f (fun z => (key.mpr z).elim (fun q => by first | exact c_43 q.2 | exact Int32.not_lt.mpr q.1 c_33) (fun q => by first | exact q.1 (Int32.not_lt.mp c_33) | exact c_52 q.2))).symm
      · refine E_iload_n dX4_begins_55 rfl ?_
        refine E_iconst (v := nI 1) dX4_begins_56 (by decide) ?_
        refine E_iload dX4_begins_57 rfl ?_
        refine E_ishl dX4_begins_59 ?_
        refine E_ior dX4_begins_60 ?_
        refine E_istore_n dX4_begins_61 (Nat.le_of_ble_eq_true rfl) (by decide) rfl ?_
        refine E_iinc_n (d := 1) dX4_begins_62 rfl rfl rfl (by decide) rfl ?_
        refine E_goto (tgt := 5) dX4_begins_65 (by decide) ?_
        refine ih (by omega) _ _ ?_
        rw [hv]
        first
          | exact (begB_t (key.mp (by first | exact Or.inl ⟨Int32.not_lt.mp c_33, c_43⟩ | exact Or.inr ⟨Int32.not_le.mpr c_33, c_52⟩))).symm
          | exact (begB_f (fun z => (key.mpr z).elim (fun q => by first | exact c_43 q.2 | exact Int32.not_lt.mpr q.1 c_33) (fun q => by first | exact q.1 (Int32.not_lt.mp c_33) | exact c_52 q.2))).symm
    · refine E_iload dX4_begins_36 rfl ?_
      refine E_sipush (v := nI 300) dX4_begins_38 (by decide) ?_
      refine E_isub dX4_begins_41 ?_
      refine E_iload_n dX4_begins_42 rfl ?_
      refine E_icmp_ne_r (tgt := 62) dX4_begins_43 (by decide) (fun c_43 => ?_) (fun c_43 => ?_)
      · refine E_iinc_n (d := 1) dX4_begins_62 rfl rfl rfl (by decide) rfl ?_
        refine E_goto (tgt := 5) dX4_begins_65 (by decide) ?_
        refine ih (by omega) _ _ ?_
        rw [hv]
        first
          | exact (begB_t (key.mp (by first | exact Or.inl ⟨Int32.not_lt.mp c_33, c_43⟩ | exact Or.inr ⟨Int32.not_le.mpr c_33, c_52⟩))).symm
          | exact (begB_f (fun z => (key.mpr z).elim (fun q => by first | exact c_43 q.2 | exact Int32.not_lt.mpr q.1 c_33) (fun q => by first | exact q.1 (Int32.not_lt.mp c_33) | exact c_52 q.2))).symm
      · refine E_goto (tgt := 55) dX4_begins_46 (by decide) ?_
        refine E_iload_n dX4_begins_55 rfl ?_
        refine E_iconst (v := nI 1) dX4_begins_56 (by decide) ?_
        refine E_iload dX4_begins_57 rfl ?_
        refine E_ishl dX4_begins_59 ?_
        refine E_ior dX4_begins_60 ?_
        refine E_istore_n dX4_begins_61 (Nat.le_of_ble_eq_true rfl) (by decide) rfl ?_
        refine E_iinc_n (d := 1) dX4_begins_62 rfl rfl rfl (by decide) rfl ?_
        refine E_goto (tgt := 5) dX4_begins_65 (by decide) ?_
        refine ih (by omega) _ _ ?_
        rw [hv]
        first
          | exact (begB_t (key.mp (by first | exact Or.inl ⟨Int32.not_lt.mp c_33, c_43⟩ | exact Or.inr ⟨Int32.not_le.mpr c_33, c_52⟩))).symm
          | exact (begB_f (fun z => (key.mpr z).elim (fun q => by first | exact c_43 q.2 | exact Int32.not_lt.mpr q.1 c_33) (fun q => by first | exact q.1 (Int32.not_lt.mp c_33) | exact c_52 q.2))).symm
set_option maxRecDepth 100000 in
set_option maxHeartbeats 4000000 in
theorem sp_X4_begins {g : gG} {M : gM} {Q : Option Value ⊕ String → gM → Prop} {c : Cf} {P : Nat → Nat} (hB : kB c P M) {l p : Nat} (hk : kLk c M l p) {f q : Nat} (hq : q < 256) (K : Q (.inl (some (.int (nI (bgB c f l q))))) M) : E g 1 0 0 mX4_begins 0 [.ref (p + 1), .int (nI q), .int (nI (cN c 138 (256 * f + q))), .null, .null, .null] [] M Q := by
  have hL := hB.lay
  have hl := hB.wf.lk l
  refine E_iconst (v := nI 0) dX4_begins_0 (by decide) ?_
  refine E_istore_n dX4_begins_1 (Nat.le_of_ble_eq_true rfl) (by decide) rfl ?_
  refine E_iconst (v := nI 0) dX4_begins_2 (by decide) ?_
  refine E_istore dX4_begins_3 (Nat.le_of_ble_eq_true rfl) (by decide) rfl ?_
  exact lp_X4_begins hB hk hq K 0 (Nat.zero_le _) (nI 0) .null rfl
set_option maxRecDepth 100000 in
set_option maxHeartbeats 4000000 in
theorem sp_X1_beginning {g : gG} {M : gM} {Q : Option Value ⊕ String → gM → Prop} {c : Cf} {P : Nat → Nat} (hB : kB c P M) {f : Nat} (hf : f < 2) {l p : Nat} (hk : kLk c M l p) (hfl : l / 12 = f) {q t : Nat} (hq : q < 256) (ht : t ≤ 1) (K : Q (.inl (some (.int (nI (bgB c f l q))))) M) : E g 2 0 0 mX1_beginning 0 [.ref (fb f + 1), .ref (p + 1), .int (nI q), .int (nI t)] [] M Q := by
  have hL := hB.lay
  have hl := hB.wf.lk l
  refine E_iload_n dX1_beginning_0 rfl ?_
  refine E_if_lt_n (tgt := 11) dX1_beginning_1 (by decide) (by omega) ?_
  refine E_iload_n dX1_beginning_4 rfl ?_
  refine E_sipush (v := nI 256) dX1_beginning_5 (by decide) ?_
  refine E_icmp_lt_n (tgt := 13) dX1_beginning_8 (by decide) (by omega) (by omega) (fun c_8 => ?_) (fun c_8 => ?_)
  · refine E_iload_n dX1_beginning_13 rfl ?_
    refine E_if_eq_n (tgt := 26) dX1_beginning_14 (by decide) (by omega) (fun c_14 => ?_) (fun c_14 => ?_)
    · refine E_aload_n dX1_beginning_26 rfl ?_
      refine E_iload_n dX1_beginning_27 rfl ?_
      refine E_aload_n dX1_beginning_28 rfl ?_
      refine E_getRL dX1_beginning_29 kF_X1_21 kY_1 (Or.inr ⟨_, rfl⟩) (hB.flt0 hf) (hB.fk0 hf) (hB.fr2 hf) ?_
      refine E_iload_n dX1_beginning_32 rfl ?_
      refine E_ialdL (v := nI (cN _ 138 _)) dX1_beginning_33 (hB.flt hf (i := 3) (by decide)) (hB.fk3 hf) rfl (by omega) (by decide) (hB.fgr hf (by omega)) ?_
      refine E_callV2 (fr' := 1) (k1 := 0) (n1 := 0) (k2 := 0) (n2 := 0) dX1_beginning_34 kO_X4_begins kL_X1_41 (hk.lt0) (hk.kd) ⟨by decide, rfl⟩ rfl rfl (by decide) (by decide) (by exact Nat.le_of_ble_eq_true rfl) rfl ?_
      refine sp_X4_begins hB hk hq ?_
      refine gKv ?_
      refine E_iret dX1_beginning_37 (Or.inl rfl) ?_
      first
        | exact K
        | (rw [hfl]; exact K)
        | (exfalso; omega)
    · refine E_aload_n dX1_beginning_17 rfl ?_
      refine E_getRL dX1_beginning_18 kF_X1_38 kY_4 (Or.inr ⟨_, rfl⟩) (hk.lt0) (hk.kd) hk.r7 ?_
      refine E_iload_n dX1_beginning_21 rfl ?_
      refine E_ialdL (v := nI (bgB _ _ _ _)) dX1_beginning_22 (hk.lt (i := 10) (by decide)) (hk.kdt) rfl (by omega) (by decide) (hk.tb (by omega)) ?_
      refine E_goto (tgt := 37) dX1_beginning_23 (by decide) ?_
      refine E_iret dX1_beginning_37 (Or.inl rfl) ?_
      first
        | exact K
        | (rw [hfl]; exact K)
        | (exfalso; omega)
  · refine E_iconst (v := nI 0) dX1_beginning_11 (by decide) ?_
    refine E_iret dX1_beginning_12 (Or.inl rfl) ?_
    first
      | exact K
      | (rw [hfl]; exact K)
      | (exfalso; omega)
set_option maxRecDepth 100000 in
set_option maxHeartbeats 4000000 in
theorem sp_X1_lookupAt {g : gG} {M : gM} {Q : Option Value ⊕ String → gM → Prop} {c : Cf} {P : Nat → Nat} (hB : kB c P M) {f : Nat} (hf : f < 2) {p0 : Int32} (K1 : ∀ j, j < cN c 129 f → p0 = nI j → Q (.inl (some (.ref (P (12 * f + j) + 1)))) M) (K0 : ¬ iBel p0 (cN c 129 f) → Q (.inl (some (.ref 0))) M) : E g 1 0 0 mX1_lookupAt 0 [.ref (fb f + 1), .int p0] [] M Q := by
  have hL := hB.lay
  have hct := hB.wf.ct f
  have hbi := iBel_iff (p := p0) (c := cN c 129 f) (by omega)
  refine E_iload_n dX1_lookupAt_0 rfl ?_
  refine E_if_lt (tgt := 21) dX1_lookupAt_1 (by decide) (fun c_1 => ?_) (fun c_1 => ?_)
  · have nt : ¬ iBel p0 (cN c 129 f) := fun z => by
      obtain ⟨j, hj, rfl⟩ := hbi.mp z
      first
        | exact nI_pos (by omega) c_1
        | (have := (nI_leI (by omega) (by omega)).mp c_9; omega)
    refine E_null dX1_lookupAt_21 ?_
    refine E_aret dX1_lookupAt_22 rfl (Or.inl ⟨_, rfl⟩) ?_
    exact K0 nt
  · refine E_iload_n dX1_lookupAt_4 rfl ?_
    refine E_aload_n dX1_lookupAt_5 rfl ?_
    refine E_getIL (v := nI (cN _ 129 _)) dX1_lookupAt_6 kF_X1_27 kY_1 (Or.inl rfl) (hB.flt0 hf) (hB.fk0 hf) (hB.fcnt hf) ?_
    refine E_icmp_ge (tgt := 21) dX1_lookupAt_9 (by decide) (fun c_9 => ?_) (fun c_9 => ?_)
    · have nt : ¬ iBel p0 (cN c 129 f) := fun z => by
        obtain ⟨j, hj, rfl⟩ := hbi.mp z
        first
          | exact nI_pos (by omega) c_1
          | (have := (nI_leI (by omega) (by omega)).mp c_9; omega)
      refine E_null dX1_lookupAt_21 ?_
      refine E_aret dX1_lookupAt_22 rfl (Or.inl ⟨_, rfl⟩) ?_
      exact K0 nt
    · obtain ⟨j, hj, rfl⟩ := nI_of (x := p0) (by assumption)
      have hj2 : j < cN c 129 f := Nat.not_le.mp (fun z => c_9 ((nI_leI (by omega) hj).mpr z))
      refine E_aload_n dX1_lookupAt_12 rfl ?_
      refine E_getRL dX1_lookupAt_13 kF_X1_11 kY_1 (Or.inr ⟨_, rfl⟩) (hB.flt0 hf) (hB.fk0 hf) (hB.fr0 hf) ?_
      refine E_iload_n dX1_lookupAt_16 rfl ?_
      refine E_aaldL (v := _) dX1_lookupAt_17 (hB.flt hf (i := 1) (by decide)) (hB.fk1 hf) (by decide) (by decide) rfl (by omega) (by decide) (hB.flk hf (by omega)) ?_
      refine E_goto (tgt := 22) dX1_lookupAt_18 (by decide) ?_
      refine E_aret dX1_lookupAt_22 rfl (Or.inl ⟨_, rfl⟩) ?_
      exact K1 j hj2 rfl
theorem bit_at : ∀ x : Fin 256, ∀ k : Fin 8, ((nI x.val >>> (nI k.val &&& 31)) &&& nI 1 = 0) ↔ ¬ (x.val / 2 ^ k.val % 2 = 1) := by decide +kernel
theorem bgN_hi (P : Nat → Prop) : ∀ n k, n ≤ k → bgN P n / 2 ^ k % 2 = 0 := fun n k h => by
  have h1 := bgN_b P n
  have h2 : 2 ^ n ≤ 2 ^ k := Nat.pow_le_pow_right (by decide) h
  rw [Nat.div_eq_of_lt (by omega)]
theorem bgN_bit (P : Nat → Prop) : ∀ n k, k < n → (bgN P n / 2 ^ k % 2 = 1 ↔ P k)
  | 0, k, h => by omega
  | n + 1, k, h => by
    have e0 : bgN P (n + 1) = bgN P n + cI (P n) (2 ^ n) 0 := rfl
    have hb := bgN_b P n
    by_cases e : k = n
    · subst e
      by_cases q : P k
      · rw [e0, cI_t q, Nat.add_div_right _ (Nat.two_pow_pos k), Nat.div_eq_of_lt hb]; simp [q]
      · rw [e0, cI_f q, Nat.add_zero, Nat.div_eq_of_lt hb]; simp [q]
    · have ih := bgN_bit P n k (by omega)
      have e2 : 2 ^ n = 2 ^ k * (2 * 2 ^ (n - k - 1)) := by
        rw [← Nat.pow_succ', ← Nat.pow_add]; congr 1; omega
      by_cases q : P n
      · rw [e0, cI_t q, e2, Nat.add_mul_div_left _ _ (Nat.two_pow_pos k), Nat.add_mul_mod_self_left]; exact ih
      · rw [e0, cI_f q, Nat.add_zero]; exact ih
theorem bit_no {P : Nat → Prop} {n k : Nat} (hn : n ≤ 8) (hk : k < n) : (nI (bgN P n) >>> (nI k &&& 31)) &&& nI 1 = 0 ↔ ¬ P k := by
  have h1 := bgN_b P n
  have h2 : 2 ^ n ≤ 2 ^ 8 := Nat.pow_le_pow_right (by decide) hn
  rw [bit_at ⟨bgN P n, by omega⟩ ⟨k, by omega⟩, not_congr (bgN_bit P n k hk)]
theorem bgN_z {P : Nat → Prop} : ∀ n, bgN P n = 0 ↔ ∀ k, k < n → ¬ P k
  | 0 => ⟨fun _ k h => by omega, fun _ => rfl⟩
  | n + 1 => by
    have e0 : bgN P (n + 1) = bgN P n + cI (P n) (2 ^ n) 0 := rfl
    have ih := bgN_z (P := P) n
    have hp := Nat.two_pow_pos n
    by_cases q : P n
    · rw [e0, cI_t q]; exact ⟨fun z => by omega, fun z => absurd q (z n (by omega))⟩
    · rw [e0, cI_f q, Nat.add_zero, ih]
      exact ⟨fun z k hk => by
        by_cases e : k = n
        · subst e; exact q
        · exact z k (by omega), fun z k hk => z k (by omega)⟩
noncomputable def foV (c : Cf) (f l q : Nat) : Int32 := cI (fnd (begP c f l q) (cN c 135 l) 0 < cN c 135 l) (nI (fnd (begP c f l q) (cN c 135 l) 0)) (-100)
set_option maxRecDepth 100000 in
set_option maxHeartbeats 4000000 in
theorem lp_X4_firstOf {g : gG} {M : gM} {Q : Option Value ⊕ String → gM → Prop} {c : Cf} {P : Nat → Nat} (hB : kB c P M) {l p : Nat} (hk : kLk c M l p) {f q : Nat} (K : Q (.inl (some (.int (foV c f l q)))) M) : ∀ k, k ≤ cN c 135 l → fnd (begP c f l q) (cN c 135 l) k = fnd (begP c f l q) (cN c 135 l) 0 → E g 1 0 0 mX4_firstOf 2 [.ref (p + 1), .int (nI (bgB c f l q)), .int (nI k)] [] M Q := by
  have hL := hB.lay
  have hl := hB.wf.lk l
  refine lpUp (cN c 135 l) (fun k hk8 ih => ?_)
  intro he
  unfold foV at K
  have hbn : k < cN c 135 l → ((nI (bgB c f l q) >>> (nI k &&& 31)) &&& nI 1 = 0 ↔ ¬ begP c f l q k) := fun z => bit_no hl.2.2.2.2.2 z
  refine E_iload_n dX4_firstOf_2 rfl ?_
  refine E_aload_n dX4_firstOf_3 rfl ?_
  refine E_getIL (v := nI (cN _ 135 _)) dX4_firstOf_4 kF_X4_20 kY_4 (Or.inl rfl) (hk.lt0) (hk.kd) hk.f8 ?_
  refine E_icmp_ge_n (tgt := 26) dX4_firstOf_7 (by decide) (by omega) (by omega) (fun c_7 => ?_) (fun c_7 => ?_)
  · refine E_bipush (v := -100) dX4_firstOf_26 (by decide) ?_
    refine E_iret dX4_firstOf_28 (Or.inl rfl) ?_
    first
      | (rw [fnd_end (by omega)] at he; rw [← he, cI_f (by omega)] at K; exact K)
      | (rw [fnd_hit (by omega) (Classical.byContradiction (fun z => c_15 ((hbn (by omega)).mpr z)))] at he; rw [← he, cI_t (by omega)] at K; exact K)
  · refine E_iload_n dX4_firstOf_10 rfl ?_
    refine E_iload_n dX4_firstOf_11 rfl ?_
    refine E_ishr dX4_firstOf_12 ?_
    refine E_iconst (v := nI 1) dX4_firstOf_13 (by decide) ?_
    refine E_iand dX4_firstOf_14 ?_
    refine E_if_eq (tgt := 20) dX4_firstOf_15 (by decide) (fun c_15 => ?_) (fun c_15 => ?_)
    · refine E_iinc_n (d := 1) dX4_firstOf_20 rfl rfl rfl (by decide) rfl ?_
      refine E_goto (tgt := 2) dX4_firstOf_23 (by decide) ?_
      exact ih (by omega) (by rw [← he]; exact (fnd_skip (by omega) ((hbn (by omega)).mp c_15)).symm)
    · refine E_iload_n dX4_firstOf_18 rfl ?_
      refine E_iret dX4_firstOf_19 (Or.inl rfl) ?_
      first
        | (rw [fnd_end (by omega)] at he; rw [← he, cI_f (by omega)] at K; exact K)
        | (rw [fnd_hit (by omega) (Classical.byContradiction (fun z => c_15 ((hbn (by omega)).mpr z)))] at he; rw [← he, cI_t (by omega)] at K; exact K)
set_option maxRecDepth 100000 in
set_option maxHeartbeats 4000000 in
theorem sp_X4_firstOf {g : gG} {M : gM} {Q : Option Value ⊕ String → gM → Prop} {c : Cf} {P : Nat → Nat} (hB : kB c P M) {l p : Nat} (hk : kLk c M l p) {f q : Nat} (K : Q (.inl (some (.int (foV c f l q)))) M) : E g 1 0 0 mX4_firstOf 0 [.ref (p + 1), .int (nI (bgB c f l q)), .null] [] M Q := by
  have hL := hB.lay
  have hl := hB.wf.lk l
  refine E_iconst (v := nI 0) dX4_firstOf_0 (by decide) ?_
  refine E_istore_n dX4_firstOf_1 (Nat.le_of_ble_eq_true rfl) (by decide) rfl ?_
  exact lp_X4_firstOf hB hk K 0 (Nat.zero_le _) rfl
