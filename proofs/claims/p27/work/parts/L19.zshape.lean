/-! the law: a part of the text shaped -/
def shO (p G0 a j : Nat) : Prop := (a = 132 ∧ 5 ≤ j) ∨ (p ≤ a ∧ a ≤ p + 4 ∧ G0 ≤ j) ∨ a = p + 5
def shZ (c : Cf) (a b p G0 R0 i : Nat) (M : gM) : Prop := ∀ j, j < i → mI M (p + 5) (R0 + j) = nI (rn c a b j + 100 * rsc c a b j) ∧ mI M (p + 5) (20 + (R0 + j)) = nI (G0 + gS c a b j) ∧ mI M (p + 5) (40 + (R0 + j)) = lS c a b j
def shG (c : Cf) (a b p G0 i : Nat) (M : gM) : Prop := ∀ j, j < i → (okZL (rL c a b j) ∧ onZ (plc c (rfc c a b j) (rL c a b j)) (rL c a b j).length) ∧ lG p (G0 + gS c a b j) (rL c a b j) (rB c a b j) (rL c a b j).length M
def shP (c : Cf) (a b p : Nat) (M0 : gM) (G0 R0 : Nat) (z : Int32) (i : Nat) (M : gM) (z1 : Int32) (G1 : Nat) (left1 : Int32) : Prop := lR (shO p G0) M0 M ∧ zS c M ∧ mI M 132 8 = nI G1 ∧ (G0 ≤ G1 ∧ G1 ≤ 64) ∧ mI M 132 9 = nI (R0 + i) ∧ mI M 132 10 = z1 ∧ (z1 = nI 1 ∨ z1 = z ∧ G1 = G0 + gS c a b i ∧ left1 = lS c a b i ∧ shZ c a b p G0 R0 i M ∧ shG c a b p G0 i M)
theorem shG.mv {c : Cf} {a b p G0 i : Nat} {M M' : gM} (h : shG c a b p G0 i M) (e : ∀ q j, q < 5 → j < G0 + gS c a b i → mI M' (p + q) j = mI M (p + q) j) : shG c a b p G0 i M' := fun j hj => by
  obtain ⟨h1, h2⟩ := h j hj
  refine ⟨h1, fun t ht => ?_⟩
  have hm := gS_m (c := c) (a := a) (b := b) i hj
  have h3 := h2 t ht
  have e0 := e 0 (G0 + gS c a b j + t) (by decide) (by omega)
  rw [Nat.add_zero] at e0
  rw [e0, e 1 _ (by decide) (by omega), e 2 _ (by decide) (by omega), e 3 _ (by decide) (by omega), e 4 _ (by decide) (by omega)]
  exact h3
theorem shZ.mv {c : Cf} {a b p G0 R0 i : Nat} {M M' : gM} (h : shZ c a b p G0 R0 i M) (e : ∀ j, mI M' (p + 5) j = mI M (p + 5) j) : shZ c a b p G0 R0 i M' := fun j hj => by rw [e, e, e]; exact h j hj
theorem shO_Z {p G0 : Nat} (hp : 133 ≤ p) : ∀ a j, 128 ≤ a → a < 133 → (a = 132 → j < 5) → ¬ shO p G0 a j := fun a j h1 h2 h3 q => by unfold shO at q; omega
theorem lN_e {a b : Nat} (ha : a < 2 ^ 31) (hb : b < 2 ^ 31) : lg_cmp (lN a) (lN b) = 0 ↔ a = b := by
  rw [lg_cmp_eq]
  refine ⟨fun h => ?_, fun h => by rw [h]⟩
  have h1 := congrArg Int64.toInt h
  rw [pf_lI (by omega), pf_lI (by omega)] at h1
  omega
theorem scr_e {c : Cf} {a b k : Nat} (hk : a ≤ k) : scr c a b k = if 10 ≤ cN c 141 k then sgS (cN c 141 k) else scB c a b k := scB_s hk
theorem sgS_v {s : Nat} : (30 ≤ s → sgS s = 1) ∧ (s < 30 → sgS s = 0) := ⟨fun h => if_pos h, fun h => if_neg (by omega)⟩
set_option maxRecDepth 100000 in
set_option maxHeartbeats 4000000 in
theorem l1_L_shape {g : gG} {M : gM} {Q : Option Value ⊕ String → gM → Prop} {c : Cf} (h : zS c M) {lk : Int64} {a0 b0 p : Nat} {kk nn : Nat} {left : Int32} (hab : a0 ≤ b0) (hbt : b0 ≤ tl c) (K : ∀ x17, E g 10 kk nn mL_shape 61 [.ref 129, .ref 130, .ref 131, .ref 132, .ref 133, .long lk, .null, .int (nI a0), .int (nI b0), .ref (p + 0 + 1), .ref (p + 1 + 1), .ref (p + 2 + 1), .ref (p + 3 + 1), .ref (p + 4 + 1), .ref (p + 5 + 1), .int left, .int (nI (scF c b0 a0)), .int x17, .null] [] M Q) : ∀ k, a0 ≤ k → k ≤ b0 → E g 10 kk nn mL_shape 12 [.ref 129, .ref 130, .ref 131, .ref 132, .ref 133, .long lk, .null, .int (nI a0), .int (nI b0), .ref (p + 0 + 1), .ref (p + 1 + 1), .ref (p + 2 + 1), .ref (p + 3 + 1), .ref (p + 4 + 1), .ref (p + 5 + 1), .int left, .int (nI (scF c b0 k)), .int (dI k), .null] [] M Q := by
  refine lpDn a0 (fun k hak ih => ?_)
  intro hkb
  have hL := h.lay
  have ht10 := h.t10
  have hsb := scF_b c b0 k
  refine E_iload dL_shape_12 rfl ?_
  refine E_iload dL_shape_14 rfl ?_
  refine E_icmp_lt_d (tgt := 61) dL_shape_16 (by decide) (by omega) (by omega) (fun c_16 => ?_) (fun c_16 => ?_)
  · obtain rfl : k = a0 := by omega
    exact K _
  · obtain ⟨k, rfl⟩ : ∃ q, k = q + 1 := ⟨k - 1, by omega⟩
    have e1 := scF_s (c := c) (b := b0) (k := k) (by omega)
    have ih := ih (by omega) (by omega)
    have hx9 := tEn_b h.wf k
    rw [dI_succ]
    have go : ∀ q, q = scF c b0 k → E g 10 kk nn mL_shape 53 [.ref 129, .ref 130, .ref 131, .ref 132, .ref 133, .long lk, .null, .int (nI a0), .int (nI b0), .ref (p + 0 + 1), .ref (p + 1 + 1), .ref (p + 2 + 1), .ref (p + 3 + 1), .ref (p + 4 + 1), .ref (p + 5 + 1), .int left, .int (nI (scF c b0 (k + 1))), .int (nI k), .null] [.int (nI q)] M Q := by
      intro q hq
      rw [hq]
      refine E_istore dL_shape_53 (Nat.le_of_ble_eq_true rfl) (by decide) rfl ?_
      refine E_iinc_d dL_shape_55 rfl rfl (by decide) rfl ?_
      refine E_goto (tgt := 12) dL_shape_58 (by decide) ?_
      exact ih
    refine E_aload_n dL_shape_19 rfl ?_
    refine E_iload dL_shape_20 rfl ?_
    refine E_ialdL (v := nI (tEn _ _)) dL_shape_22 (l_128 hL) (k_128 hL) rfl (by omega) (by decide) (h.tx (by omega)) ?_
    refine E_bipush (v := nI 63) dL_shape_23 (by decide) ?_
    refine E_iand dL_shape_25 ?_
    rw [tE_63 h.wf]
    refine E_bipush (v := nI 29) dL_shape_26 (by decide) ?_
    refine E_icmp_le_n (tgt := 35) dL_shape_28 (by decide) (by omega) (by omega) (fun c_28 => ?_) (fun c_28 => ?_)
    · refine E_aload_n dL_shape_35 rfl ?_
      refine E_iload dL_shape_36 rfl ?_
      refine E_ialdL (v := nI (tEn _ _)) dL_shape_38 (l_128 hL) (k_128 hL) rfl (by omega) (by decide) (h.tx (by omega)) ?_
      refine E_bipush (v := nI 63) dL_shape_39 (by decide) ?_
      refine E_iand dL_shape_41 ?_
      rw [tE_63 h.wf]
      refine E_bipush (v := nI 9) dL_shape_42 (by decide) ?_
      refine E_icmp_le_n (tgt := 51) dL_shape_44 (by decide) (by omega) (by omega) (fun c_44 => ?_) (fun c_44 => ?_)
      · refine E_iload dL_shape_51 rfl ?_
        refine go _ ?_
        rw [e1]
        first
          | (rw [if_pos (by omega)]; exact (sgS_v.1 (by omega)).symm)
          | (rw [if_pos (by omega)]; exact (sgS_v.2 (by omega)).symm)
          | (rw [if_neg (by omega)])
      · refine E_iconst (v := nI 0) dL_shape_47 (by decide) ?_
        refine E_goto (tgt := 53) dL_shape_48 (by decide) ?_
        refine go _ ?_
        rw [e1]
        first
          | (rw [if_pos (by omega)]; exact (sgS_v.1 (by omega)).symm)
          | (rw [if_pos (by omega)]; exact (sgS_v.2 (by omega)).symm)
          | (rw [if_neg (by omega)])
    · refine E_iconst (v := nI 1) dL_shape_31 (by decide) ?_
      refine E_goto (tgt := 53) dL_shape_32 (by decide) ?_
      refine go _ ?_
      rw [e1]
      first
        | (rw [if_pos (by omega)]; exact (sgS_v.1 (by omega)).symm)
        | (rw [if_pos (by omega)]; exact (sgS_v.2 (by omega)).symm)
        | (rw [if_neg (by omega)])
set_option maxRecDepth 100000 in
set_option maxHeartbeats 4000000 in
theorem l2_L_shape {g : gG} {M : gM} {Q : Option Value ⊕ String → gM → Prop} {c : Cf} (h : zS c M) {lk : Int64} {a0 b0 p : Nat} {kk nn i : Nat} {left : Int32} (hlk : lkS c lk) (hai : a0 ≤ i) (hib : i < b0) (hbt : b0 ≤ tl c) (K : E g 10 kk nn mL_shape 198 [.ref 129, .ref 130, .ref 131, .ref 132, .ref 133, .long lk, .null, .int (nI a0), .int (nI b0), .ref (p + 0 + 1), .ref (p + 1 + 1), .ref (p + 2 + 1), .ref (p + 3 + 1), .ref (p + 4 + 1), .ref (p + 5 + 1), .int left, .int (nI (scr c a0 b0 i)), .int (nI i), .int (nI (eor c a0 b0 i))] [] M Q) : ∀ k, k ≤ b0 → i + 1 ≤ k → scB c a0 b0 k = scr c a0 b0 i → fnd (fun j => ¬ (scr c a0 b0 j = scr c a0 b0 i ∧ fcO c j = fcO c i)) b0 k = eor c a0 b0 i → E g 10 kk nn mL_shape 114 [.ref 129, .ref 130, .ref 131, .ref 132, .ref 133, .long lk, .null, .int (nI a0), .int (nI b0), .ref (p + 0 + 1), .ref (p + 1 + 1), .ref (p + 2 + 1), .ref (p + 3 + 1), .ref (p + 4 + 1), .ref (p + 5 + 1), .int left, .int (nI (scr c a0 b0 i)), .int (nI i), .int (nI k)] [] M Q := by
  refine lpUp b0 (fun k hk ih => ?_)
  intro hik hsc he
  have hL := h.lay
  have ht10 := h.t10
  have hx1 := tEn_b h.wf k
  have hx2 := tEn_b h.wf i
  have hf1 := fcO_b h.wf k
  have hf2 := fcO_b h.wf i
  have hs2 := scr_b c a0 b0 i
  have e1 := scr_e (c := c) (a := a0) (b := b0) (k := k) (by omega)
  have hend : k = b0 ∨ (k < b0 ∧ ¬ (scr c a0 b0 k = scr c a0 b0 i ∧ fcO c k = fcO c i)) → E g 10 kk nn mL_shape 198 [.ref 129, .ref 130, .ref 131, .ref 132, .ref 133, .long lk, .null, .int (nI a0), .int (nI b0), .ref (p + 0 + 1), .ref (p + 1 + 1), .ref (p + 2 + 1), .ref (p + 3 + 1), .ref (p + 4 + 1), .ref (p + 5 + 1), .int left, .int (nI (scr c a0 b0 i)), .int (nI i), .int (nI k)] [] M Q := by
    intro q
    have ek : k = eor c a0 b0 i := by
      rw [← he]
      rcases q with q | ⟨q1, q2⟩
      · rw [q]; exact (fnd_end (Nat.le_refl _)).symm
      · exact (fnd_hit q1 q2).symm
    rw [ek]; exact K
  have hgo : k < b0 → scr c a0 b0 k = scr c a0 b0 i → fcO c k = fcO c i → E g 10 kk nn mL_shape 192 [.ref 129, .ref 130, .ref 131, .ref 132, .ref 133, .long lk, .null, .int (nI a0), .int (nI b0), .ref (p + 0 + 1), .ref (p + 1 + 1), .ref (p + 2 + 1), .ref (p + 3 + 1), .ref (p + 4 + 1), .ref (p + 5 + 1), .int left, .int (nI (scr c a0 b0 i)), .int (nI i), .int (nI k)] [] M Q := by
    intro q1 q2 q3
    refine E_iinc_n (d := 1) dL_shape_192 rfl rfl rfl (by decide) rfl ?_
    refine E_goto (tgt := 114) dL_shape_195 (by decide) ?_
    exact ih q1 (by omega) q2 (by rw [← he]; exact (fnd_skip (P := (fun j => ¬ (scr c a0 b0 j = scr c a0 b0 i ∧ fcO c j = fcO c i))) q1 (fun z => z ⟨q2, q3⟩)).symm)
  refine E_iload dL_shape_114 rfl ?_
  refine E_iload dL_shape_116 rfl ?_
  refine E_icmp_ge_n (tgt := 198) dL_shape_118 (by decide) (by omega) (by omega) (fun c_118 => ?_) (fun c_118 => ?_)
  · first
      | exact hend (Or.inl (by omega))
      | exact hend (Or.inr ⟨by omega, fun q => c_146 ((lN_e (by first | omega | (unfold fcO at hf1; omega)) (by first | omega | (unfold fcO at hf2; omega))).mpr q.2)⟩)
      | (refine hend (Or.inr ⟨by omega, fun q => ?_⟩)
         have q1 := q.1
         rw [e1] at q1
         first
           | (rw [if_pos (by omega), sgS_v.1 (by omega)] at q1; omega)
           | (rw [if_pos (by omega), sgS_v.2 (by omega)] at q1; omega))
  · refine E_lload dL_shape_121 rfl ?_
    refine E_aload_n dL_shape_123 rfl ?_
    refine E_iload dL_shape_124 rfl ?_
    refine E_ialdL (v := nI (tEn _ _)) dL_shape_126 (l_128 hL) (k_128 hL) rfl (by omega) (by decide) (h.tx (by omega)) ?_
    refine E_bipush (v := nI 63) dL_shape_127 (by decide) ?_
    refine E_iand dL_shape_129 ?_
    rw [tE_63 h.wf]
    refine E_lshr dL_shape_130 ?_
    refine E_lconst (v := 1) dL_shape_131 (by decide) ?_
    refine E_land dL_shape_132 ?_
    rw [hlk _ (by omega)]
    refine E_lload dL_shape_133 rfl ?_
    refine E_aload_n dL_shape_135 rfl ?_
    refine E_iload dL_shape_136 rfl ?_
    refine E_ialdL (v := nI (tEn _ _)) dL_shape_138 (l_128 hL) (k_128 hL) rfl (by omega) (by decide) (h.tx (by omega)) ?_
    refine E_bipush (v := nI 63) dL_shape_139 (by decide) ?_
    refine E_iand dL_shape_141 ?_
    rw [tE_63 h.wf]
    refine E_lshr dL_shape_142 ?_
    refine E_lconst (v := 1) dL_shape_143 (by decide) ?_
    refine E_land dL_shape_144 ?_
    rw [hlk _ (by omega)]
    refine E_lcmp dL_shape_145 ?_
    refine E_if_ne_r (tgt := 198) dL_shape_146 (by decide) (fun c_146 => ?_) (fun c_146 => ?_)
    · first
        | exact hend (Or.inl (by omega))
        | exact hend (Or.inr ⟨by omega, fun q => c_146 ((lN_e (by first | omega | (unfold fcO at hf1; omega)) (by first | omega | (unfold fcO at hf2; omega))).mpr q.2)⟩)
        | (refine hend (Or.inr ⟨by omega, fun q => ?_⟩)
           have q1 := q.1
           rw [e1] at q1
           first
             | (rw [if_pos (by omega), sgS_v.1 (by omega)] at q1; omega)
             | (rw [if_pos (by omega), sgS_v.2 (by omega)] at q1; omega))
    · refine E_aload_n dL_shape_149 rfl ?_
      refine E_iload dL_shape_150 rfl ?_
      refine E_ialdL (v := nI (tEn _ _)) dL_shape_152 (l_128 hL) (k_128 hL) rfl (by omega) (by decide) (h.tx (by omega)) ?_
      refine E_bipush (v := nI 63) dL_shape_153 (by decide) ?_
      refine E_iand dL_shape_155 ?_
      rw [tE_63 h.wf]
      refine E_bipush (v := nI 10) dL_shape_156 (by decide) ?_
      refine E_icmp_lt_n (tgt := 192) dL_shape_158 (by decide) (by omega) (by omega) (fun c_158 => ?_) (fun c_158 => ?_)
      · have c_f : fcO c k = fcO c i := (lN_e (by first | omega | (unfold fcO at hf1; omega)) (by first | omega | (unfold fcO at hf2; omega))).mp c_146
        refine hgo (by omega) ?_ c_f
        rw [e1]
        first
          | (rw [if_neg (by omega)]; exact hsc)
          | (rw [if_pos (by omega), sgS_v.1 (by omega)]; omega)
          | (rw [if_pos (by omega), sgS_v.2 (by omega)]; omega)
      · refine E_aload_n dL_shape_161 rfl ?_
        refine E_iload dL_shape_162 rfl ?_
        refine E_ialdL (v := nI (tEn _ _)) dL_shape_164 (l_128 hL) (k_128 hL) rfl (by omega) (by decide) (h.tx (by omega)) ?_
        refine E_bipush (v := nI 63) dL_shape_165 (by decide) ?_
        refine E_iand dL_shape_167 ?_
        rw [tE_63 h.wf]
        refine E_bipush (v := nI 29) dL_shape_168 (by decide) ?_
        refine E_icmp_le_n (tgt := 177) dL_shape_170 (by decide) (by omega) (by omega) (fun c_170 => ?_) (fun c_170 => ?_)
        · refine E_iconst (v := nI 0) dL_shape_177 (by decide) ?_
          refine E_iload dL_shape_178 rfl ?_
          refine E_iconst (v := nI 1) dL_shape_180 (by decide) ?_
          refine E_icmp_ne_n (tgt := 188) dL_shape_181 (by decide) (by omega) (by omega) (fun c_181 => ?_) (fun c_181 => ?_)
          · refine E_iconst (v := nI 0) dL_shape_188 (by decide) ?_
            refine E_icmp_ne_r (tgt := 198) dL_shape_189 (by decide) (fun c0 => absurd c0 (by decide)) (fun _ => ?_)
            have c_f : fcO c k = fcO c i := (lN_e (by first | omega | (unfold fcO at hf1; omega)) (by first | omega | (unfold fcO at hf2; omega))).mp c_146
            refine hgo (by omega) ?_ c_f
            rw [e1]
            first
              | (rw [if_neg (by omega)]; exact hsc)
              | (rw [if_pos (by omega), sgS_v.1 (by omega)]; omega)
              | (rw [if_pos (by omega), sgS_v.2 (by omega)]; omega)
          · refine E_iconst (v := nI 1) dL_shape_184 (by decide) ?_
            refine E_goto (tgt := 189) dL_shape_185 (by decide) ?_
            refine E_icmp_ne (tgt := 198) dL_shape_189 (by decide) (fun _ => ?_) (fun c0 => absurd (by decide) c0)
            first
              | exact hend (Or.inl (by omega))
              | exact hend (Or.inr ⟨by omega, fun q => c_146 ((lN_e (by first | omega | (unfold fcO at hf1; omega)) (by first | omega | (unfold fcO at hf2; omega))).mpr q.2)⟩)
              | (refine hend (Or.inr ⟨by omega, fun q => ?_⟩)
                 have q1 := q.1
                 rw [e1] at q1
                 first
                   | (rw [if_pos (by omega), sgS_v.1 (by omega)] at q1; omega)
                   | (rw [if_pos (by omega), sgS_v.2 (by omega)] at q1; omega))
        · refine E_iconst (v := nI 1) dL_shape_173 (by decide) ?_
          refine E_goto (tgt := 178) dL_shape_174 (by decide) ?_
          refine E_iload dL_shape_178 rfl ?_
          refine E_iconst (v := nI 1) dL_shape_180 (by decide) ?_
          refine E_icmp_ne_n (tgt := 188) dL_shape_181 (by decide) (by omega) (by omega) (fun c_181 => ?_) (fun c_181 => ?_)
          · refine E_iconst (v := nI 0) dL_shape_188 (by decide) ?_
            refine E_icmp_ne (tgt := 198) dL_shape_189 (by decide) (fun _ => ?_) (fun c0 => absurd (by decide) c0)
            first
              | exact hend (Or.inl (by omega))
              | exact hend (Or.inr ⟨by omega, fun q => c_146 ((lN_e (by first | omega | (unfold fcO at hf1; omega)) (by first | omega | (unfold fcO at hf2; omega))).mpr q.2)⟩)
              | (refine hend (Or.inr ⟨by omega, fun q => ?_⟩)
                 have q1 := q.1
                 rw [e1] at q1
                 first
                   | (rw [if_pos (by omega), sgS_v.1 (by omega)] at q1; omega)
                   | (rw [if_pos (by omega), sgS_v.2 (by omega)] at q1; omega))
          · refine E_iconst (v := nI 1) dL_shape_184 (by decide) ?_
            refine E_goto (tgt := 189) dL_shape_185 (by decide) ?_
            refine E_icmp_ne_r (tgt := 198) dL_shape_189 (by decide) (fun c0 => absurd c0 (by decide)) (fun _ => ?_)
            have c_f : fcO c k = fcO c i := (lN_e (by first | omega | (unfold fcO at hf1; omega)) (by first | omega | (unfold fcO at hf2; omega))).mp c_146
            refine hgo (by omega) ?_ c_f
            rw [e1]
            first
              | (rw [if_neg (by omega)]; exact hsc)
              | (rw [if_pos (by omega), sgS_v.1 (by omega)]; omega)
              | (rw [if_pos (by omega), sgS_v.2 (by omega)]; omega)
def shQ (c : Cf) (a b p : Nat) (M0 : gM) (G0 R0 : Nat) (z : Int32) (i : Nat) (M : gM) (z1 : Int32) (G1 : Nat) (left1 : Int32) : Prop := lR (shO p G0) M0 M ∧ zS c M ∧ mI M 132 8 = nI G1 ∧ (G0 ≤ G1 ∧ G1 ≤ 64) ∧ mI M 132 9 = nI (R0 + i + 1) ∧ mI M 132 10 = z1 ∧ (z1 = nI 1 ∨ z1 = z ∧ G1 = G0 + gS c a b i ∧ left1 = lS c a b i ∧ shZ c a b p G0 R0 (i + 1) M ∧ shG c a b p G0 i M)
theorem shQ_of {c : Cf} {a b p : Nat} {M0 : gM} {G0 R0 : Nat} {z : Int32} {i : Nat} {M : gM} {z1 : Int32} {G1 : Nat} {left1 : Int32} (h : shP c a b p M0 G0 R0 z i M z1 G1 left1) (hp : 133 ≤ p) (hR : R0 + i < 20) :
    shQ c a b p M0 G0 R0 z i (sI (sI (sI (sI (sI M (p + 5) (R0 + i) (nI (rn c a b i + 100 * rsc c a b i))) (p + 5) (20 + (R0 + i)) (nI G1)) (p + 5) (40 + (R0 + i)) left1) 132 9 (nI (R0 + i + 1))) 132 11 (nI 0)) z1 G1 left1 := by
  obtain ⟨h1, h2, h3, h4, h5, h6, h7⟩ := h
  have e5 : ∀ q, q = p + 5 → shO p G0 q = fun _ => True := fun q e => by subst e; funext j; unfold shO; simp
  have w : ∀ {M' : gM} {q k : Nat} {v : Int32}, lR (shO p G0) M0 M' → (q = p + 5 ∨ (q = 132 ∧ 5 ≤ k)) → lR (shO p G0) M0 (sI M' q k v) := fun h q => h.wr (fun _ => by unfold shO; omega)
  have hl : ∀ {M' : gM}, zS c M' → ∀ {q k : Nat} {v : Int32}, (q = p + 5 ∨ (q = 132 ∧ 5 ≤ k)) → zS c (sI M' q k v) := fun hz q k v e => hz.mvG (hz.lay.of (Nat.le_refl _) (fun _ _ => rfl) (fun _ _ => rfl)) (fun a j q1 q2 q3 => by rw [mI_sI, if_neg (by omega)]) (fun _ => rfl)
  refine ⟨w (w (w (w (w h1 (Or.inl rfl)) (Or.inl rfl)) (Or.inl rfl)) (Or.inr ⟨rfl, by decide⟩)) (Or.inr ⟨rfl, by decide⟩),
    hl (hl (hl (hl (hl h2 (Or.inl rfl)) (Or.inl rfl)) (Or.inl rfl)) (Or.inr ⟨rfl, by decide⟩)) (Or.inr ⟨rfl, by decide⟩), ?_, h4, ?_, ?_, ?_⟩
  · rw [mI_nj (by decide), mI_nj (by decide), mI_ne (by omega), mI_ne (by omega), mI_ne (by omega)]; exact h3
  · rw [mI_nj (by decide), mI_eq]
  · rw [mI_nj (by decide), mI_nj (by decide), mI_ne (by omega), mI_ne (by omega), mI_ne (by omega)]; exact h6
  · refine h7.imp id (fun ⟨q1, q2, q3, q4, q5⟩ => ⟨q1, q2, q3, fun j hj => ?_, q5.mv (fun q j hq _ => by rw [mI_ne (by omega), mI_ne (by omega), mI_ne (by omega), mI_ne (by omega), mI_ne (by omega)])⟩)
    simp only [mI_sI]
    by_cases e : j = i
    · subst e
      refine ⟨?_, ?_, ?_⟩
      · rw [if_neg (by omega), if_neg (by omega), if_neg (by omega), if_neg (by omega), if_pos (by simp)]
      · rw [if_neg (by omega), if_neg (by omega), if_neg (by omega), if_pos (by simp), q2]
      · rw [if_neg (by omega), if_neg (by omega), if_pos (by simp), q3]
    · have := q4 j (by omega)
      rw [if_neg (by omega), if_neg (by omega), if_neg (by omega), if_neg (by omega), if_neg (by omega), if_neg (by omega), if_neg (by omega), if_neg (by omega), if_neg (by omega), if_neg (by omega), if_neg (by omega), if_neg (by omega), if_neg (by omega), if_neg (by omega), if_neg (by omega)]
      exact this
/-- a run more -/
theorem shP_s {c : Cf} {a b p : Nat} {M0 : gM} {G0 R0 : Nat} {z : Int32} {i : Nat} {M M' : gM} {z1 z2 : Int32} {G1 G2 : Nat} {left1 : Int32} (h : shQ c a b p M0 G0 R0 z i M z1 G1 left1) (hP : oP p M) (hl : lR (rnO p G1) M M') (hS : zS c M') (h8 : mI M' 132 8 = nI G2) (hG : G1 ≤ G2 ∧ G2 ≤ 64) (h10 : mI M' 132 10 = z2)
    (hx : z2 = nI 1 ∨ z2 = z1 ∧ G2 = G1 + (rL c a b i).length ∧ (okZL (rL c a b i) ∧ onZ (plc c (rfc c a b i) (rL c a b i)) (rL c a b i).length) ∧ mI M' 132 11 = smA (plc c (rfc c a b i) (rL c a b i)) (rL c a b i).length ∧ lG p G1 (rL c a b i) (stB c (rfc c a b i) (rsc c a b i) left1 (rL c a b i)) (rL c a b i).length M') :
    shP c a b p M0 G0 R0 z (i + 1) M' z2 G2 (left1 + mI M' 132 11) := by
  obtain ⟨g1, g2, g3, g4, g5, g6, g7⟩ := h
  have hp := hP.1
  have hp2 := hP.2.1
  have h139 : 139 ≤ mN M := g2.lay.1
  have h1 : lR (shO p G0) M M' := hl.mono (fun a j _ q => by unfold rnO at q; unfold shO; omega)
  refine ⟨g1.trans h1, hS, h8, ⟨by omega, hG.2⟩, ?_, h10, ?_⟩
  · rw [hl.2.2.1 132 9 (by omega) (by unfold rnO; omega)]; exact g5
  · rcases hx with q | ⟨q1, q2, q3, q4, q5⟩
    · exact Or.inl q
    · rcases g7 with q | ⟨r1, r2, r3, r4, r5⟩
      · exact Or.inl (q1.trans q)
      · subst r2 r3
        refine Or.inr ⟨q1.trans r1, by rw [q2]; show _ = G0 + (gS c a b i + (rL c a b i).length); omega, by rw [q4]; rfl, r4.mv (fun j => hl.2.2.1 _ _ (by omega) (by unfold rnO; omega)), fun j hj => ?_⟩
        by_cases e : j = i
        · subst e; exact ⟨q3, q5⟩
        · exact r5.mv (fun q j hq hj => hl.2.2.1 _ _ (by omega) (by unfold rnO; omega)) j (by omega)
set_option maxRecDepth 100000 in
set_option maxHeartbeats 4000000 in
theorem s3_L_shape {g : gG} {M : gM} {Q : Option Value ⊕ String → gM → Prop} {c : Cf} {lk : Int64} {a0 b0 p : Nat} {M0 : gM} {G0 R0 i G1 : Nat} {z z1 left1 : Int32} (hs : shP c a0 b0 p M0 G0 R0 z i M z1 G1 left1) (hP : oP p M) (hlk : lkS c lk) (hR : R0 + i < 20) (hij : (rn c a0 b0 i) < (rn c a0 b0 (i + 1))) (hjb : (rn c a0 b0 (i + 1)) ≤ b0) (hbt : b0 ≤ tl c) (K : ∀ M z1 G1 left1 v18, shP c a0 b0 p M0 G0 R0 z (i + 1) M z1 G1 left1 → oP p M → E g 10 (4 * (b0 - (rn c a0 b0 (i + 1)))) (256 * (b0 - (rn c a0 b0 (i + 1)))) mL_shape 65 [.ref 129, .ref 130, .ref 131, .ref 132, .ref 133, .long lk, .null, .int (nI a0), .int (nI b0), .ref (p + 0 + 1), .ref (p + 1 + 1), .ref (p + 2 + 1), .ref (p + 3 + 1), .ref (p + 4 + 1), .ref (p + 5 + 1), .int left1, .int (nI (scr c a0 b0 (rn c a0 b0 i))), .int (nI (rn c a0 b0 (i + 1))), v18] [] M Q) : E g 10 (4 * (b0 - (rn c a0 b0 i))) (256 * (b0 - (rn c a0 b0 i))) mL_shape 198 [.ref 129, .ref 130, .ref 131, .ref 132, .ref 133, .long lk, .null, .int (nI a0), .int (nI b0), .ref (p + 0 + 1), .ref (p + 1 + 1), .ref (p + 2 + 1), .ref (p + 3 + 1), .ref (p + 4 + 1), .ref (p + 5 + 1), .int left1, .int (nI (scr c a0 b0 (rn c a0 b0 i))), .int (nI (rn c a0 b0 i)), .int (nI (rn c a0 b0 (i + 1)))] [] M Q := by
  have h := hs.2.1
  have hL := h.lay
  have ht10 := h.t10
  have hp := hP.1
  have hzl := hP.2.1
  have hzk := hP.2.2.2
  have h8 := hs.2.2.1
  have h9 := hs.2.2.2.2.1
  have hsc := scr_b c a0 b0 (rn c a0 b0 i)
  have hq := shQ_of hs hp hR
  refine E_aload dL_shape_198 rfl ?_
  refine E_aload dL_shape_200 rfl ?_
  refine E_bipush (v := nI 9) dL_shape_202 (by decide) ?_
  refine E_ialdL (v := nI (R0 + i)) dL_shape_204 (l_132 hL) (k_132 hL) rfl (by omega) (by decide) h9 ?_
  refine E_iload dL_shape_205 rfl ?_
  refine E_bipush (v := nI 100) dL_shape_207 (by decide) ?_
  refine E_iload dL_shape_209 rfl ?_
  refine E_imul_n dL_shape_211 ?_
  refine E_iadd_n dL_shape_212 ?_
  refine E_iast dL_shape_213 hzl hzk rfl (by omega) (by decide) ?_
  refine E_aload dL_shape_214 rfl ?_
  refine E_bipush (v := nI 20) dL_shape_216 (by decide) ?_
  refine E_aload dL_shape_218 rfl ?_
  refine E_bipush (v := nI 9) dL_shape_220 (by decide) ?_
  refine E_ialdL (v := nI (R0 + i)) dL_shape_222 (l_132 hL) (k_132 hL) rfl (by omega) (by decide) ((mI_ne (by omega)).trans h9) ?_
  refine E_iadd_n dL_shape_223 ?_
  refine E_aload dL_shape_224 rfl ?_
  refine E_bipush (v := nI 8) dL_shape_226 (by decide) ?_
  refine E_ialdL (v := nI G1) dL_shape_228 (l_132 hL) (k_132 hL) rfl (by omega) (by decide) ((mI_ne (by omega)).trans h8) ?_
  refine E_iast dL_shape_229 hzl hzk rfl (by omega) (by decide) ?_
  refine E_aload dL_shape_230 rfl ?_
  refine E_bipush (v := nI 40) dL_shape_232 (by decide) ?_
  refine E_aload dL_shape_234 rfl ?_
  refine E_bipush (v := nI 9) dL_shape_236 (by decide) ?_
  refine E_ialdL (v := nI (R0 + i)) dL_shape_238 (l_132 hL) (k_132 hL) rfl (by omega) (by decide) ((mI_ne (by omega)).trans ((mI_ne (by omega)).trans h9)) ?_
  refine E_iadd_n dL_shape_239 ?_
  refine E_iload dL_shape_240 rfl ?_
  refine E_iast dL_shape_242 hzl hzk rfl (by omega) (by decide) ?_
  refine E_aload dL_shape_243 rfl ?_
  refine E_bipush (v := nI 9) dL_shape_245 (by decide) ?_
  refine E_dup2 dL_shape_247 rfl rfl ?_
  refine E_ialdL (v := nI (R0 + i)) dL_shape_248 (l_132 hL) (k_132 hL) rfl (by omega) (by decide) ((mI_ne (by omega)).trans ((mI_ne (by omega)).trans ((mI_ne (by omega)).trans h9))) ?_
  refine E_iconst (v := nI 1) dL_shape_249 (by decide) ?_
  refine E_iadd_n dL_shape_250 ?_
  refine E_iast dL_shape_251 (l_132 hL) (k_132 hL) rfl (by omega) (by decide) ?_
  refine E_aload dL_shape_252 rfl ?_
  refine E_bipush (v := nI 11) dL_shape_254 (by decide) ?_
  refine E_iconst (v := nI 0) dL_shape_256 (by decide) ?_
  refine E_iast dL_shape_257 (l_132 hL) (k_132 hL) rfl (by omega) (by decide) ?_
  have hP3 : oP p (sI (sI (sI (sI (sI M (p + 5) (R0 + i) (nI ((rn c a0 b0 i) + 100 * scr c a0 b0 (rn c a0 b0 i)))) (p + 5) (20 + (R0 + i)) (nI G1)) (p + 5) (40 + (R0 + i)) left1) 132 9 (nI (R0 + i + 1))) 132 11 (nI 0)) := hP
  have hq3 : shQ c a0 b0 p M0 G0 R0 z i (sI (sI (sI (sI (sI M (p + 5) (R0 + i) (nI ((rn c a0 b0 i) + 100 * scr c a0 b0 (rn c a0 b0 i)))) (p + 5) (20 + (R0 + i)) (nI G1)) (p + 5) (40 + (R0 + i)) left1) 132 9 (nI (R0 + i + 1))) 132 11 (nI 0)) z1 G1 left1 := hq
  generalize sI (sI (sI (sI (sI M (p + 5) (R0 + i) (nI ((rn c a0 b0 i) + 100 * scr c a0 b0 (rn c a0 b0 i)))) (p + 5) (20 + (R0 + i)) (nI G1)) (p + 5) (40 + (R0 + i)) left1) 132 9 (nI (R0 + i + 1))) 132 11 (nI 0) = M3 at hP3 hq3 ⊢
  have h3 := hq3.2.1
  have hL := h3.lay
  have go : ∀ q, q = jnO (scr c a0 b0 (rn c a0 b0 i)) → E g 10 (4 * (b0 - (rn c a0 b0 i))) (256 * (b0 - (rn c a0 b0 i))) mL_shape 282 [.ref 129, .ref 130, .ref 131, .ref 132, .ref 133, .long lk, .null, .int (nI a0), .int (nI b0), .ref (p + 0 + 1), .ref (p + 1 + 1), .ref (p + 2 + 1), .ref (p + 3 + 1), .ref (p + 4 + 1), .ref (p + 5 + 1), .int left1, .int (nI (scr c a0 b0 (rn c a0 b0 i))), .int (nI (rn c a0 b0 i)), .int (nI (rn c a0 b0 (i + 1)))] [.int (nI q), .int left1, .int (nI (rn c a0 b0 (i + 1))), .int (nI (rn c a0 b0 i)), .long lk, .ref 133, .ref 132, .ref 131, .ref 130, .ref 129] M3 Q := by
    intro q hq
    rw [hq]
    refine E_aload dL_shape_282 rfl ?_
    refine E_aload dL_shape_284 rfl ?_
    refine E_aload dL_shape_286 rfl ?_
    refine E_aload dL_shape_288 rfl ?_
    refine E_aload dL_shape_290 rfl ?_
    refine E_room (Nat.le_refl _) (k' := 4 + (4 * (b0 - (rn c a0 b0 (i + 1))))) (n' := 256 + (256 * (b0 - (rn c a0 b0 (i + 1))))) (by omega) (by omega) ?_
    refine E_callT15 (fr' := 9) (k1 := 4) (n1 := 256) (k2 := (4 * (b0 - (rn c a0 b0 (i + 1))))) (n2 := (256 * (b0 - (rn c a0 b0 (i + 1))))) dL_shape_292 kO_L_runs kL_L_217 (by exact Nat.le_of_ble_eq_true rfl) (by decide) (by exact Nat.le_of_ble_eq_true rfl) (Or.inl rfl) rfl ?_
    refine sp_L_runs h3 hlk hij (by omega) hsc hP3 hq3.2.2.1 hq3.2.2.2.1.2 hq3.2.2.2.2.2.1 (fun M' z' G' f1 f2 f3 f4 f5 f6 => ?_)
    have hs' := shP_s hq3 hP3 f1 f2 f3 f4 f5 f6
    have hP' := hP3.mv f1
    have hL := f2.lay
    refine gKn ?_
    refine E_iload dL_shape_295 rfl ?_
    refine E_aload dL_shape_297 rfl ?_
    refine E_bipush (v := nI 11) dL_shape_299 (by decide) ?_
    refine E_ialdL (v := _) dL_shape_301 (l_132 hL) (k_132 hL) rfl (by omega) (by decide) rfl ?_
    refine E_iadd dL_shape_302 ?_
    refine E_istore dL_shape_303 (Nat.le_of_ble_eq_true rfl) (by decide) rfl ?_
    refine E_iload dL_shape_305 rfl ?_
    refine E_istore dL_shape_307 (Nat.le_of_ble_eq_true rfl) (by decide) rfl ?_
    refine E_goto (tgt := 65) dL_shape_309 (by decide) ?_
    exact K _ _ _ _ _ hs' hP'
  refine E_aload_n dL_shape_258 rfl ?_
  refine E_aload_n dL_shape_259 rfl ?_
  refine E_aload_n dL_shape_260 rfl ?_
  refine E_aload_n dL_shape_261 rfl ?_
  refine E_aload dL_shape_262 rfl ?_
  refine E_lload dL_shape_264 rfl ?_
  refine E_iload dL_shape_266 rfl ?_
  refine E_iload dL_shape_268 rfl ?_
  refine E_iload dL_shape_270 rfl ?_
  refine E_iload dL_shape_272 rfl ?_
  refine E_if_ne_n (tgt := 281) dL_shape_274 (by decide) (by omega) (fun c_274 => ?_) (fun c_274 => ?_)
  · refine E_iconst (v := nI 0) dL_shape_281 (by decide) ?_
    refine go _ ?_
    unfold jnO
    first
      | exact (cI_f (by omega)).symm
      | exact (cI_t (by omega)).symm
  · refine E_iconst (v := nI 1) dL_shape_277 (by decide) ?_
    refine E_goto (tgt := 282) dL_shape_278 (by decide) ?_
    refine go _ ?_
    unfold jnO
    first
      | exact (cI_f (by omega)).symm
      | exact (cI_t (by omega)).symm
set_option maxRecDepth 100000 in
set_option maxHeartbeats 4000000 in
theorem lp_L_shape {g : gG} {Q : Option Value ⊕ String → gM → Prop} {c : Cf} {lk : Int64} {a0 b0 p : Nat} {M0 : gM} {G0 R0 : Nat} {z : Int32} (hlk : lkS c lk) (hab : a0 ≤ b0) (hbt : b0 ≤ tl c) (hR : R0 + (b0 - a0) ≤ 19) (K : ∀ M z' G' left', shP c a0 b0 p M0 G0 R0 z (nr c a0 b0) M z' G' left' → oP p M → ∀ x16 x17 v18, E g 10 0 0 mL_shape 312 [.ref 129, .ref 130, .ref 131, .ref 132, .ref 133, .long lk, .null, .int (nI a0), .int (nI b0), .ref (p + 0 + 1), .ref (p + 1 + 1), .ref (p + 2 + 1), .ref (p + 3 + 1), .ref (p + 4 + 1), .ref (p + 5 + 1), .int left', .int x16, .int x17, v18] [] M Q) : ∀ t i M z1 G1 left1, nr c a0 b0 - i ≤ t → i ≤ nr c a0 b0 → shP c a0 b0 p M0 G0 R0 z i M z1 G1 left1 → oP p M → ∀ v18, E g 10 (4 * (b0 - (rn c a0 b0 i))) (256 * (b0 - (rn c a0 b0 i))) mL_shape 65 [.ref 129, .ref 130, .ref 131, .ref 132, .ref 133, .long lk, .null, .int (nI a0), .int (nI b0), .ref (p + 0 + 1), .ref (p + 1 + 1), .ref (p + 2 + 1), .ref (p + 3 + 1), .ref (p + 4 + 1), .ref (p + 5 + 1), .int left1, .int (nI (scB c a0 b0 (rn c a0 b0 i))), .int (nI (rn c a0 b0 i)), v18] [] M Q := by
  have fin : ∀ i M z1 G1 left1, i = nr c a0 b0 → shP c a0 b0 p M0 G0 R0 z i M z1 G1 left1 → oP p M → ∀ v18, E g 10 (4 * (b0 - (rn c a0 b0 i))) (256 * (b0 - (rn c a0 b0 i))) mL_shape 65 [.ref 129, .ref 130, .ref 131, .ref 132, .ref 133, .long lk, .null, .int (nI a0), .int (nI b0), .ref (p + 0 + 1), .ref (p + 1 + 1), .ref (p + 2 + 1), .ref (p + 3 + 1), .ref (p + 4 + 1), .ref (p + 5 + 1), .int left1, .int (nI (scB c a0 b0 (rn c a0 b0 i))), .int (nI (rn c a0 b0 i)), v18] [] M Q := by
    intro i M z1 G1 left1 hi hs hP v18
    have h := hs.2.1
    have hL := h.lay
    have ht10 := h.t10
    have hn := nr_b (c := c) hab (by omega)
    have e : (rn c a0 b0 i) = b0 := by rw [hi]; exact hn.2
    have hm := rn_b (c := c) hab i (by omega)
    have hsc := scB_b c a0 b0 (rn c a0 b0 i)
    refine E_iload dL_shape_65 rfl ?_
    refine E_iload dL_shape_67 rfl ?_
    refine E_icmp_ge_n (tgt := 312) dL_shape_69 (by decide) (by omega) (by omega) (fun c_69 => ?_) (fun c_69 => ?_)
    · subst hi
      exact E_room (Nat.le_refl _) (Nat.zero_le _) (Nat.zero_le _) (K M z1 G1 left1 hs hP _ _ _)
    · exfalso; omega
  intro t
  induction t with
  | zero =>
    intro i M z1 G1 left1 ht hi hs hP v18
    exact fin i M z1 G1 left1 (by omega) hs hP v18
  | succ t ih =>
    intro i M z1 G1 left1 ht hi hs hP v18
    by_cases hin : i = nr c a0 b0
    · exact fin i M z1 G1 left1 hin hs hP v18
    · have h := hs.2.1
      have hL := h.lay
      have ht10 := h.t10
      have hm := rn_b (c := c) hab i (by omega)
      have hn := nr_b (c := c) hab (by omega)
      have hlt := hm.2.2 (by omega)
      have hsB := scB_b c a0 b0 (rn c a0 b0 i)
      have hsc := scr_b c a0 b0 (rn c a0 b0 i)
      have hx9 := tEn_b h.wf (rn c a0 b0 i)
      have heo := eor_b (c := c) (a := a0) hlt
      have e1 := scr_e (c := c) (a := a0) (b := b0) (k := (rn c a0 b0 i)) (by omega)
      have e2 : scB c a0 b0 (rn c a0 b0 (i + 1)) = scr c a0 b0 (rn c a0 b0 i) := by
        show scB c a0 b0 (eor c a0 b0 (rn c a0 b0 i)) = _
        have hq := (fnd_spec (P := fun j => ¬ (scr c a0 b0 j = scr c a0 b0 (rn c a0 b0 i) ∧ fcO c j = fcO c (rn c a0 b0 i))) (n := b0) (i := (rn c a0 b0 i)) (by omega)).2.2.2 (eor c a0 b0 (rn c a0 b0 i) - 1) (by omega) (by unfold eor at *; omega)
        have hq := (Classical.not_not.mp hq).1
        rw [← hq]
        unfold scr
        rw [Nat.sub_add_cancel (by omega)]
      have go : ∀ q, q = scr c a0 b0 (rn c a0 b0 i) → E g 10 (4 * (b0 - (rn c a0 b0 i))) (256 * (b0 - (rn c a0 b0 i))) mL_shape 106 [.ref 129, .ref 130, .ref 131, .ref 132, .ref 133, .long lk, .null, .int (nI a0), .int (nI b0), .ref (p + 0 + 1), .ref (p + 1 + 1), .ref (p + 2 + 1), .ref (p + 3 + 1), .ref (p + 4 + 1), .ref (p + 5 + 1), .int left1, .int (nI (scB c a0 b0 (rn c a0 b0 i))), .int (nI (rn c a0 b0 i)), v18] [.int (nI q)] M Q := by
        intro q hq
        rw [hq]
        refine E_istore dL_shape_106 (Nat.le_of_ble_eq_true rfl) (by decide) rfl ?_
        refine E_iload dL_shape_108 rfl ?_
        refine E_iconst (v := nI 1) dL_shape_110 (by decide) ?_
        refine E_iadd_n dL_shape_111 ?_
        refine E_istore dL_shape_112 (Nat.le_of_ble_eq_true rfl) (by decide) rfl ?_
        refine l2_L_shape h hlk (by omega) hlt hbt ?_ ((rn c a0 b0 i) + 1) (by omega) (Nat.le_refl _) rfl (fnd_skip (P := fun j => ¬ (scr c a0 b0 j = scr c a0 b0 (rn c a0 b0 i) ∧ fcO c j = fcO c (rn c a0 b0 i))) hlt (fun q => q ⟨rfl, rfl⟩)).symm
        refine s3_L_shape hs hP hlk (by omega) heo.1 heo.2 hbt (fun M z1 G1 left1 v18 hs hP => ?_)
        rw [← e2]
        exact ih (i + 1) M z1 G1 left1 (by omega) (by omega) hs hP v18
      refine E_iload dL_shape_65 rfl ?_
      refine E_iload dL_shape_67 rfl ?_
      refine E_icmp_ge_n (tgt := 312) dL_shape_69 (by decide) (by omega) (by omega) (fun c_69 => ?_) (fun c_69 => ?_)
      · exfalso; omega
      · refine E_aload_n dL_shape_72 rfl ?_
        refine E_iload dL_shape_73 rfl ?_
        refine E_ialdL (v := nI (tEn _ _)) dL_shape_75 (l_128 hL) (k_128 hL) rfl (by omega) (by decide) (h.tx (by omega)) ?_
        refine E_bipush (v := nI 63) dL_shape_76 (by decide) ?_
        refine E_iand dL_shape_78 ?_
        rw [tE_63 h.wf]
        refine E_bipush (v := nI 29) dL_shape_79 (by decide) ?_
        refine E_icmp_le_n (tgt := 88) dL_shape_81 (by decide) (by omega) (by omega) (fun c_81 => ?_) (fun c_81 => ?_)
        · refine E_aload_n dL_shape_88 rfl ?_
          refine E_iload dL_shape_89 rfl ?_
          refine E_ialdL (v := nI (tEn _ _)) dL_shape_91 (l_128 hL) (k_128 hL) rfl (by omega) (by decide) (h.tx (by omega)) ?_
          refine E_bipush (v := nI 63) dL_shape_92 (by decide) ?_
          refine E_iand dL_shape_94 ?_
          rw [tE_63 h.wf]
          refine E_bipush (v := nI 9) dL_shape_95 (by decide) ?_
          refine E_icmp_le_n (tgt := 104) dL_shape_97 (by decide) (by omega) (by omega) (fun c_97 => ?_) (fun c_97 => ?_)
          · refine E_iload dL_shape_104 rfl ?_
            refine go _ ?_
            rw [e1]
            first
              | (rw [if_pos (by omega)]; exact (sgS_v.1 (by omega)).symm)
              | (rw [if_pos (by omega)]; exact (sgS_v.2 (by omega)).symm)
              | (rw [if_neg (by omega)])
          · refine E_iconst (v := nI 0) dL_shape_100 (by decide) ?_
            refine E_goto (tgt := 106) dL_shape_101 (by decide) ?_
            refine go _ ?_
            rw [e1]
            first
              | (rw [if_pos (by omega)]; exact (sgS_v.1 (by omega)).symm)
              | (rw [if_pos (by omega)]; exact (sgS_v.2 (by omega)).symm)
              | (rw [if_neg (by omega)])
        · refine E_iconst (v := nI 1) dL_shape_84 (by decide) ?_
          refine E_goto (tgt := 106) dL_shape_85 (by decide) ?_
          refine go _ ?_
          rw [e1]
          first
            | (rw [if_pos (by omega)]; exact (sgS_v.1 (by omega)).symm)
            | (rw [if_pos (by omega)]; exact (sgS_v.2 (by omega)).symm)
            | (rw [if_neg (by omega)])
/-- what is laid of a part -/
def shL (c : Cf) (a b p G0 R0 G' : Nat) (M : gM) : Prop := G' = G0 + gS c a b (nr c a b) ∧ shZ c a b p G0 R0 (nr c a b) M ∧ shG c a b p G0 (nr c a b) M ∧ mI M (p + 5) (R0 + nr c a b) = nI b ∧ mI M (p + 5) (20 + (R0 + nr c a b)) = nI G' ∧ mI M (p + 5) (40 + (R0 + nr c a b)) = lS c a b (nr c a b)
def shK (c : Cf) (a b p G0 R0 : Nat) (z : Int32) (M0 : gM) (Q : Option Value ⊕ String → gM → Prop) : Prop := ∀ M' z' G', lR (shO p G0) M0 M' → zS c M' → mI M' 132 8 = nI G' → G' ≤ 64 → mI M' 132 9 = nI (R0 + nr c a b) → mI M' 132 10 = z' → (z' = nI 1 ∨ z' = z ∧ shL c a b p G0 R0 G' M') → Q (.inl none) M'
theorem shL_of {c : Cf} {a b p : Nat} {M0 : gM} {G0 R0 : Nat} {z : Int32} {M : gM} {z1 : Int32} {G1 : Nat} {left1 : Int32} {Q : Option Value ⊕ String → gM → Prop} (h : shP c a b p M0 G0 R0 z (nr c a b) M z1 G1 left1) (hp : 133 ≤ p) (hR : R0 + nr c a b < 20) (K : shK c a b p G0 R0 z M0 Q) :
    Q (.inl none) (sI (sI (sI M (p + 5) (R0 + nr c a b) (nI b)) (p + 5) (20 + (R0 + nr c a b)) (nI G1)) (p + 5) (40 + (R0 + nr c a b)) left1) := by
  obtain ⟨h1, h2, h3, h4, h5, h6, h7⟩ := h
  have w : ∀ {M' : gM} {k : Nat} {v : Int32}, lR (shO p G0) M0 M' → lR (shO p G0) M0 (sI M' (p + 5) k v) := fun h => h.wr (fun _ => by unfold shO; omega)
  have hl : ∀ {M' : gM}, zS c M' → ∀ {k : Nat} {v : Int32}, zS c (sI M' (p + 5) k v) := fun hz k v => hz.mvG (hz.lay.of (Nat.le_refl _) (fun _ _ => rfl) (fun _ _ => rfl)) (fun a j q1 q2 q3 => by rw [mI_sI, if_neg (by omega)]) (fun _ => rfl)
  refine K _ z1 G1 (w (w (w h1))) (hl (hl (hl h2))) ?_ h4.2 ?_ ?_ ?_
  · rw [mI_ne (by omega), mI_ne (by omega), mI_ne (by omega)]; exact h3
  · rw [mI_ne (by omega), mI_ne (by omega), mI_ne (by omega)]; exact h5
  · rw [mI_ne (by omega), mI_ne (by omega), mI_ne (by omega)]; exact h6
  · refine h7.imp id (fun ⟨q1, q2, q3, q4, q5⟩ => ⟨q1, q2, fun j hj => ?_, q5.mv (fun q j hq _ => by rw [mI_ne (by omega), mI_ne (by omega), mI_ne (by omega)]), ?_, ?_, ?_⟩)
    · have := q4 j hj
      simp only [mI_sI]
      rw [if_neg (by omega), if_neg (by omega), if_neg (by omega), if_neg (by omega), if_neg (by omega), if_neg (by omega), if_neg (by omega), if_neg (by omega), if_neg (by omega)]
      exact this
    · simp only [mI_sI]
      rw [if_neg (by omega), if_neg (by omega), if_pos (by simp)]
    · simp only [mI_sI]
      rw [if_neg (by omega), if_pos (by simp)]
    · simp only [mI_sI]
      rw [if_pos (by simp), q3]
set_option maxRecDepth 100000 in
set_option maxHeartbeats 4000000 in
theorem sp_L_shape {g : gG} {M : gM} {Q : Option Value ⊕ String → gM → Prop} {c : Cf} (h : zS c M) {lk : Int64} {a0 b0 p : Nat} {G0 R0 : Nat} {z : Int32} (hlk : lkS c lk) (hab : a0 ≤ b0) (hbt : b0 ≤ tl c) (hP : oP p M) (hR : R0 + (b0 - a0) ≤ 19) (h8 : mI M 132 8 = nI G0) (hG : G0 ≤ 64) (h9 : mI M 132 9 = nI R0) (h10 : mI M 132 10 = z) (K : shK c a0 b0 p G0 R0 z M Q) : E g 10 40 2560 mL_shape 0 [.ref 129, .ref 130, .ref 131, .ref 132, .ref 133, .long lk, .null, .int (nI a0), .int (nI b0), .ref (p + 0 + 1), .ref (p + 1 + 1), .ref (p + 2 + 1), .ref (p + 3 + 1), .ref (p + 4 + 1), .ref (p + 5 + 1), .null, .null, .null, .null] [] M Q := by
  have hL := h.lay
  have ht10 := h.t10
  have hn := nr_b (c := c) hab (by omega)
  have hl : ∀ x17, E g 10 (4 * (b0 - rn c a0 b0 0)) (256 * (b0 - rn c a0 b0 0)) mL_shape 61 [.ref 129, .ref 130, .ref 131, .ref 132, .ref 133, .long lk, .null, .int (nI a0), .int (nI b0), .ref (p + 0 + 1), .ref (p + 1 + 1), .ref (p + 2 + 1), .ref (p + 3 + 1), .ref (p + 4 + 1), .ref (p + 5 + 1), .int (nI 0), .int (nI (scF c b0 a0)), .int x17, .null] [] M Q := by
    intro x17
    refine E_iload dL_shape_61 rfl ?_
    refine E_istore dL_shape_63 (Nat.le_of_ble_eq_true rfl) (by decide) rfl ?_
    rw [← scB_0]
    refine lp_L_shape (M0 := M) (G0 := G0) (R0 := R0) (z := z) hlk hab hbt hR (fun M z' G' left' hs hP => ?_) 17 0 M z G0 (nI 0) (by omega) (Nat.zero_le _) ⟨lR.refl, h, h8, ⟨Nat.le_refl _, hG⟩, h9, h10, Or.inr ⟨rfl, rfl, rfl, fun j hj => absurd hj (Nat.not_lt_zero j), fun j hj => absurd hj (Nat.not_lt_zero j)⟩⟩ hP _
    intro x16 x17 v18
    have h := hs.2.1
    have hL := h.lay
    have hp := hP.1
    have hzl := hP.2.1
    have hzk := hP.2.2.2
    have h8 := hs.2.2.1
    have h9 := hs.2.2.2.2.1
    refine E_aload dL_shape_312 rfl ?_
    refine E_aload dL_shape_314 rfl ?_
    refine E_bipush (v := nI 9) dL_shape_316 (by decide) ?_
    refine E_ialdL (v := nI (R0 + nr c a0 b0)) dL_shape_318 (l_132 hL) (k_132 hL) rfl (by omega) (by decide) h9 ?_
    refine E_iload dL_shape_319 rfl ?_
    refine E_iast dL_shape_321 hzl hzk rfl (by omega) (by decide) ?_
    refine E_aload dL_shape_322 rfl ?_
    refine E_bipush (v := nI 20) dL_shape_324 (by decide) ?_
    refine E_aload dL_shape_326 rfl ?_
    refine E_bipush (v := nI 9) dL_shape_328 (by decide) ?_
    refine E_ialdL (v := nI (R0 + nr c a0 b0)) dL_shape_330 (l_132 hL) (k_132 hL) rfl (by omega) (by decide) ((mI_ne (by omega)).trans h9) ?_
    refine E_iadd_n dL_shape_331 ?_
    refine E_aload dL_shape_332 rfl ?_
    refine E_bipush (v := nI 8) dL_shape_334 (by decide) ?_
    refine E_ialdL (v := nI G') dL_shape_336 (l_132 hL) (k_132 hL) rfl (by omega) (by decide) ((mI_ne (by omega)).trans h8) ?_
    refine E_iast dL_shape_337 hzl hzk rfl (by omega) (by decide) ?_
    refine E_aload dL_shape_338 rfl ?_
    refine E_bipush (v := nI 40) dL_shape_340 (by decide) ?_
    refine E_aload dL_shape_342 rfl ?_
    refine E_bipush (v := nI 9) dL_shape_344 (by decide) ?_
    refine E_ialdL (v := nI (R0 + nr c a0 b0)) dL_shape_346 (l_132 hL) (k_132 hL) rfl (by omega) (by decide) ((mI_ne (by omega)).trans ((mI_ne (by omega)).trans h9)) ?_
    refine E_iadd_n dL_shape_347 ?_
    refine E_iload dL_shape_348 rfl ?_
    refine E_iast dL_shape_350 hzl hzk rfl (by omega) (by decide) ?_
    refine E_vret dL_shape_351 rfl ?_
    exact shL_of hs hp (by omega) K
  refine E_room (k' := 4 * (b0 - rn c a0 b0 0)) (n' := 256 * (b0 - rn c a0 b0 0)) (Nat.le_refl _) (by omega) (by omega) ?_
  refine E_iconst (v := nI 0) dL_shape_0 (by decide) ?_
  refine E_istore dL_shape_1 (Nat.le_of_ble_eq_true rfl) (by decide) rfl ?_
  refine E_iconst (v := nI 0) dL_shape_3 (by decide) ?_
  refine E_istore dL_shape_4 (Nat.le_of_ble_eq_true rfl) (by decide) rfl ?_
  refine E_iload dL_shape_6 rfl ?_
  refine E_iconst (v := nI 1) dL_shape_8 (by decide) ?_
  refine E_isub_d dL_shape_9 ?_
  refine E_istore dL_shape_10 (Nat.le_of_ble_eq_true rfl) (by decide) rfl ?_
  have z0 := l1_L_shape (kk := 4 * (b0 - rn c a0 b0 0)) (nn := 256 * (b0 - rn c a0 b0 0)) (lk := lk) (p := p) (Q := Q) (left := nI 0) h hab hbt hl b0 hab (Nat.le_refl _)
  rw [scF_0 (Nat.le_refl _)] at z0
  exact z0
