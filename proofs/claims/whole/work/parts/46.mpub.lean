/-! the reference: what is asked from outside -/
theorem qbS {c : Cf} {M M' : gM} (h : bS c M) (hf : fr qR M M') : bS c M' := h.fr hf qR_c
theorem bS.tl {c : Cf} {M : gM} (h : bS c M) : mI M 128 14 = nI (tl c) := h.gc (Or.inr ⟨rfl, by decide⟩)
theorem bS.thr {c : Cf} {M : gM} (h : bS c M) (v : Int32) : bS c (sI M 128 0 v) := qbS h (fr.refl.wr (by unfold qR; omega))
theorem fr.thr {M M' : gM} (h : fr qR M M') (v : Int32) : fr qR M (sI M' 128 0 v) := h.wr (by unfold qR; omega)
theorem fr.sh {M M' M'' : gM} {R0 G0 : Nat} (h : fr qR M M') (h2 : fr (shR R0 G0) M' M'') : fr qR M M'' := h.trans (h2.mono shR_q)
theorem qS.thr {c : Cf} {M : gM} (h : qS c M) (v : Int32) : qS c (sI M 128 0 v) := h.fr (S := fun a j => a = 128 ∧ j = 0) (fr.refl.wr ⟨rfl, rfl⟩) (fun a j q => Or.inr q)
theorem sh0 {M M' : gM} {R0 G0 : Nat} (h : fr (shR R0 G0) M M') : mI M' 128 0 = mI M 128 0 := h.bk (by unfold shR rowR; omega)
set_option maxRecDepth 100000 in
set_option maxHeartbeats 4000000 in
theorem sp_X12_glyphs {g : gG} {M : gM} {Q : Option Value ⊕ String → gM → Prop} {c : Cf} (h : bS c M) (K : ∀ M', fr qR M M' → mI M' 128 0 = nI 0 → Q (.inl (some (.int (nI (ng c))))) M') : E g 16 0 0 mX12_glyphs 0 [.ref 129] [] M Q := by
  have hL := h.lay
  have h0 := h.thr (nI 0)
  have hL := h0.lay
  refine E_aload_n dX12_glyphs_0 rfl ?_
  refine E_iconst (v := nI 0) dX12_glyphs_1 (by decide) ?_
  refine E_putI dX12_glyphs_2 kF_X12_166 kY_12 (Or.inl rfl) (l_128 hL) (k_128 hL) (Or.inl rfl) ?_
  refine E_aload_n dX12_glyphs_5 rfl ?_
  refine E_callV0 (fr' := 15) (k1 := 0) (n1 := 0) (k2 := 0) (n2 := 0) dX12_glyphs_6 kO_X12_shapesAll kL_X12_424 (l_128 hL) (k_128 hL) ⟨by decide, rfl⟩  (by decide) (by decide) (by exact Nat.le_of_ble_eq_true rfl) rfl ?_
  refine sp_X12_shapesAll h0 (fun M1 hF1 hA => ?_)
  have h := (show qS c M1 from ⟨qbS h0 (hF1.mono shR_q), hA⟩)
  have hL := h.lay
  refine gKn ?_
  refine E_aload_n dX12_glyphs_9 rfl ?_
  refine E_getIL (v := nI (ng _)) dX12_glyphs_10 kF_X12_406 kY_12 (Or.inl rfl) (l_128 hL) (k_128 hL) h.g36 ?_
  refine E_iret dX12_glyphs_13 (Or.inl rfl) ?_
  exact K _ ((fr.refl.thr _).sh hF1) ((sh0 hF1).trans mI_eq)
set_option maxRecDepth 100000 in
set_option maxHeartbeats 4000000 in
theorem sp_X12_asksGlyph {g : gG} {M : gM} {Q : Option Value ⊕ String → gM → Prop} {c : Cf} (h : bS c M) {p : Int32} (K1 : ∀ M' j, j < ng c → p = nI j → qS c M' → fr qR M M' → mI M' 128 0 = nI 0 → Q (.inl (some (.int (nI 1)))) M') (K0 : ¬ iBel p (ng c) → ∀ M', qS c M' → fr qR M M' → mI M' 128 0 = nI 1 → Q (.inl (some (.int (nI 0)))) M') : E g 16 0 0 mX12_asksGlyph 0 [.ref 129, .int p] [] M Q := by
  have hL := h.lay
  refine E_aload_n dX12_asksGlyph_0 rfl ?_
  refine E_callV0 (fr' := 15) (k1 := 0) (n1 := 0) (k2 := 0) (n2 := 0) dX12_asksGlyph_1 kO_X12_shapesAll kL_X12_424 (l_128 hL) (k_128 hL) ⟨by decide, rfl⟩  (by decide) (by decide) (by exact Nat.le_of_ble_eq_true rfl) rfl ?_
  refine sp_X12_shapesAll h.b (fun M1 hF1 hA => ?_)
  have h := (show qS c M1 from ⟨qbS h.b (hF1.mono shR_q), hA⟩)
  have hL := h.lay
  refine gKn ?_
  refine E_aload_n dX12_asksGlyph_4 rfl ?_
  refine E_iload_n dX12_asksGlyph_5 rfl ?_
  refine E_iconst (v := nI 0) dX12_asksGlyph_6 (by decide) ?_
  refine E_aload_n dX12_asksGlyph_7 rfl ?_
  refine E_getIL (v := nI (ng _)) dX12_asksGlyph_8 kF_X12_406 kY_12 (Or.inl rfl) (l_128 hL) (k_128 hL) h.g36 ?_
  refine E_iconst (v := nI 1) dX12_asksGlyph_11 (by decide) ?_
  refine E_isub_d dX12_asksGlyph_12 ?_
  refine E_callS3 (fr' := 1) (k1 := 0) (n1 := 0) (k2 := 0) (n2 := 0) dX12_asksGlyph_13 kO_X12_in kL_X12_162 rfl rfl rfl (by decide) (by decide) (by exact Nat.le_of_ble_eq_true rfl) (Or.inl rfl) rfl ?_
  have hg : ng c ≤ 1024 := h.g1024
  refine sp_X12_in ?_
  refine gKv ?_
  refine E_if_eq_b (tgt := 23) dX12_asksGlyph_16 (by decide) (fun c_16 => ?_) (fun c_16 => ?_)
  · refine E_iconst (v := nI 1) dX12_asksGlyph_23 (by decide) ?_
    refine E_putI dX12_asksGlyph_24 kF_X12_166 kY_12 (Or.inl rfl) (l_128 hL) (k_128 hL) (Or.inl rfl) ?_
    refine E_aload_n dX12_asksGlyph_27 rfl ?_
    refine E_getIL (v := nI 1) dX12_asksGlyph_28 kF_X12_166 kY_12 (Or.inl rfl) (l_128 hL) (k_128 hL) rfl ?_
    refine E_if_ne (tgt := 38) dX12_asksGlyph_31 (by decide) (fun _ => ?_) (fun c0 => absurd (by decide) c0)
    refine E_iconst (v := nI 0) dX12_asksGlyph_38 (by decide) ?_
    refine E_iret dX12_asksGlyph_39 (Or.inr ⟨rfl, by decide⟩) ?_
    exact K0 c_16 _ (h.thr _) ((fr.refl.sh hF1).thr _) mI_eq
  · have hb : iBel p (ng c) := c_16
    obtain ⟨j, hj, ej⟩ := (iBel_iff (by omega)).mp hb
    refine E_iconst (v := nI 0) dX12_asksGlyph_19 (by decide) ?_
    refine E_goto (tgt := 24) dX12_asksGlyph_20 (by decide) ?_
    refine E_putI dX12_asksGlyph_24 kF_X12_166 kY_12 (Or.inl rfl) (l_128 hL) (k_128 hL) (Or.inl rfl) ?_
    refine E_aload_n dX12_asksGlyph_27 rfl ?_
    refine E_getIL (v := nI 0) dX12_asksGlyph_28 kF_X12_166 kY_12 (Or.inl rfl) (l_128 hL) (k_128 hL) rfl ?_
    refine E_if_ne (tgt := 38) dX12_asksGlyph_31 (by decide) (fun c0 => absurd c0 (by decide)) (fun _ => ?_)
    refine E_iconst (v := nI 1) dX12_asksGlyph_34 (by decide) ?_
    refine E_goto (tgt := 39) dX12_asksGlyph_35 (by decide) ?_
    refine E_iret dX12_asksGlyph_39 (Or.inr ⟨rfl, by decide⟩) ?_
    exact K1 _ j hj ej (h.thr _) ((fr.refl.sh hF1).thr _) mI_eq
set_option maxRecDepth 100000 in
set_option maxHeartbeats 4000000 in
theorem sp_X12_glyph {g : gG} {M : gM} {Q : Option Value ⊕ String → gM → Prop} {c : Cf} (h : bS c M) {p : Int32} (K1 : ∀ j, j < ng c → p = nI j → ∀ M', fr qR M M' → mI M' 128 0 = nI 0 → Q (.inl (some (.int (pgv c 0 j)))) M') (K0 : ¬ iBel p (ng c) → ∀ M', fr qR M M' → mI M' 128 0 = nI 1 → Q (.inl (some (.int (nI 0)))) M') : E g 17 0 0 mX12_glyph 0 [.ref 129, .int p] [] M Q := by
  have hL := h.lay
  refine E_aload_n dX12_glyph_0 rfl ?_
  refine E_iload_n dX12_glyph_1 rfl ?_
  refine E_callV1 (fr' := 16) (k1 := 0) (n1 := 0) (k2 := 0) (n2 := 0) dX12_glyph_2 kO_X12_asksGlyph kL_X12_427 (l_128 hL) (k_128 hL) ⟨by decide, rfl⟩ rfl (by decide) (by decide) (by exact Nat.le_of_ble_eq_true rfl) rfl ?_
  refine sp_X12_asksGlyph h (fun M' j hj ej h hF ht => ?_) (fun hn M' h hF ht => ?_)
  · subst ej
    have hL := h.lay
    have hg : ng c ≤ 1024 := h.g1024
    refine gKv ?_
    refine E_if_eq (tgt := 17) dX12_glyph_5 (by decide) (fun c0 => absurd c0 (by decide)) (fun _ => ?_)
    refine E_aload_n dX12_glyph_8 rfl ?_
    refine E_getRL dX12_glyph_9 kF_X12_102 kY_12 (Or.inr ⟨_, rfl⟩) (l_128 hL) (k_128 hL) (r_128_37 hL) ?_
    refine E_iload_n dX12_glyph_12 rfl ?_
    refine E_ialdL (v := pgv c 0 j) dX12_glyph_13 (l_158 hL) (k_158 hL) rfl (by omega) (by decide) (h.pg (q := 0) (by decide) hj) ?_
    refine E_goto (tgt := 18) dX12_glyph_14 (by decide) ?_
    refine E_iret dX12_glyph_18 (Or.inl rfl) ?_
    exact K1 j hj rfl _ hF ht
  · have hL := h.lay
    refine gKv ?_
    refine E_if_eq (tgt := 17) dX12_glyph_5 (by decide) (fun _ => ?_) (fun c0 => absurd (by decide) c0)
    refine E_iconst (v := nI 0) dX12_glyph_17 (by decide) ?_
    refine E_iret dX12_glyph_18 (Or.inl rfl) ?_
    exact K0 hn _ hF ht
set_option maxRecDepth 100000 in
set_option maxHeartbeats 4000000 in
theorem sp_X12_glyphAnew {g : gG} {M : gM} {Q : Option Value ⊕ String → gM → Prop} {c : Cf} (h : bS c M) {p : Int32} (K1 : ∀ j, j < ng c → p = nI j → ∀ M', fr qR M M' → mI M' 128 0 = nI 0 → Q (.inl (some (.int (pgv c 0 j)))) M') (K0 : ¬ iBel p (ng c) → ∀ M', fr qR M M' → mI M' 128 0 = nI 1 → Q (.inl (some (.int (nI 0)))) M') : E g 17 0 0 mX12_glyphAnew 0 [.ref 129, .int p] [] M Q := by
  have hL := h.lay
  refine E_aload_n dX12_glyphAnew_0 rfl ?_
  refine E_iload_n dX12_glyphAnew_1 rfl ?_
  refine E_callV1 (fr' := 16) (k1 := 0) (n1 := 0) (k2 := 0) (n2 := 0) dX12_glyphAnew_2 kO_X12_asksGlyph kL_X12_427 (l_128 hL) (k_128 hL) ⟨by decide, rfl⟩ rfl (by decide) (by decide) (by exact Nat.le_of_ble_eq_true rfl) rfl ?_
  refine sp_X12_asksGlyph h (fun M' j hj ej h hF ht => ?_) (fun hn M' h hF ht => ?_)
  · subst ej
    have hL := h.lay
    have hg : ng c ≤ 1024 := h.g1024
    refine gKv ?_
    refine E_if_eq (tgt := 17) dX12_glyphAnew_5 (by decide) (fun c0 => absurd c0 (by decide)) (fun _ => ?_)
    refine E_aload_n dX12_glyphAnew_8 rfl ?_
    refine E_getRL dX12_glyphAnew_9 kF_X12_102 kY_12 (Or.inr ⟨_, rfl⟩) (l_128 hL) (k_128 hL) (r_128_37 hL) ?_
    refine E_iload_n dX12_glyphAnew_12 rfl ?_
    refine E_ialdL (v := pgv c 0 j) dX12_glyphAnew_13 (l_158 hL) (k_158 hL) rfl (by omega) (by decide) (h.pg (q := 0) (by decide) hj) ?_
    refine E_goto (tgt := 18) dX12_glyphAnew_14 (by decide) ?_
    refine E_iret dX12_glyphAnew_18 (Or.inl rfl) ?_
    exact K1 j hj rfl _ hF ht
  · have hL := h.lay
    refine gKv ?_
    refine E_if_eq (tgt := 17) dX12_glyphAnew_5 (by decide) (fun _ => ?_) (fun c0 => absurd (by decide) c0)
    refine E_iconst (v := nI 0) dX12_glyphAnew_17 (by decide) ?_
    refine E_iret dX12_glyphAnew_18 (Or.inl rfl) ?_
    exact K0 hn _ hF ht
set_option maxRecDepth 100000 in
set_option maxHeartbeats 4000000 in
theorem sp_X12_cluster {g : gG} {M : gM} {Q : Option Value ⊕ String → gM → Prop} {c : Cf} (h : bS c M) {p : Int32} (K1 : ∀ j, j < ng c → p = nI j → ∀ M', fr qR M M' → mI M' 128 0 = nI 0 → Q (.inl (some (.int (pgv c 1 j)))) M') (K0 : ¬ iBel p (ng c) → ∀ M', fr qR M M' → mI M' 128 0 = nI 1 → Q (.inl (some (.int (nI 0)))) M') : E g 17 0 0 mX12_cluster 0 [.ref 129, .int p] [] M Q := by
  have hL := h.lay
  refine E_aload_n dX12_cluster_0 rfl ?_
  refine E_iload_n dX12_cluster_1 rfl ?_
  refine E_callV1 (fr' := 16) (k1 := 0) (n1 := 0) (k2 := 0) (n2 := 0) dX12_cluster_2 kO_X12_asksGlyph kL_X12_427 (l_128 hL) (k_128 hL) ⟨by decide, rfl⟩ rfl (by decide) (by decide) (by exact Nat.le_of_ble_eq_true rfl) rfl ?_
  refine sp_X12_asksGlyph h (fun M' j hj ej h hF ht => ?_) (fun hn M' h hF ht => ?_)
  · subst ej
    have hL := h.lay
    have hg : ng c ≤ 1024 := h.g1024
    refine gKv ?_
    refine E_if_eq (tgt := 17) dX12_cluster_5 (by decide) (fun c0 => absurd c0 (by decide)) (fun _ => ?_)
    refine E_aload_n dX12_cluster_8 rfl ?_
    refine E_getRL dX12_cluster_9 kF_X12_105 kY_12 (Or.inr ⟨_, rfl⟩) (l_128 hL) (k_128 hL) (r_128_38 hL) ?_
    refine E_iload_n dX12_cluster_12 rfl ?_
    refine E_ialdL (v := pgv c 1 j) dX12_cluster_13 (l_159 hL) (k_159 hL) rfl (by omega) (by decide) (h.pg (q := 1) (by decide) hj) ?_
    refine E_goto (tgt := 18) dX12_cluster_14 (by decide) ?_
    refine E_iret dX12_cluster_18 (Or.inl rfl) ?_
    exact K1 j hj rfl _ hF ht
  · have hL := h.lay
    refine gKv ?_
    refine E_if_eq (tgt := 17) dX12_cluster_5 (by decide) (fun _ => ?_) (fun c0 => absurd (by decide) c0)
    refine E_iconst (v := nI 0) dX12_cluster_17 (by decide) ?_
    refine E_iret dX12_cluster_18 (Or.inl rfl) ?_
    exact K0 hn _ hF ht
theorem Q_rw {Q : Option Value ⊕ String → gM → Prop} {M : gM} {x y : Int32} (e : y = x) (h : Q (.inl (some (.int y))) M) : Q (.inl (some (.int x))) M := e ▸ h
set_option maxRecDepth 100000 in
set_option maxHeartbeats 4000000 in
theorem sp_X12_place {g : gG} {M : gM} {Q : Option Value ⊕ String → gM → Prop} {c : Cf} (h : bS c M) {p w : Int32} (K1 : ∀ j, j < ng c → p = nI j → iIn w (nI 0) (nI 2) → ∀ M', fr qR M M' → mI M' 128 0 = nI 0 → Q (.inl (some (.int (cI (w = nI 0) (pgv c 4 j) (cI (w = nI 1) (pgv c 3 j) (pgv c 2 j)))))) M') (K2 : ∀ j, j < ng c → p = nI j → ¬ iIn w (nI 0) (nI 2) → ∀ M', fr qR M M' → mI M' 128 0 = nI 2 → Q (.inl (some (.int (nI 0)))) M') (K0 : ¬ iBel p (ng c) → ∀ M', fr qR M M' → mI M' 128 0 = nI 1 → Q (.inl (some (.int (nI 0)))) M') : E g 17 0 0 mX12_place 0 [.ref 129, .int p, .int w] [] M Q := by
  have hL := h.lay
  refine E_aload_n dX12_place_0 rfl ?_
  refine E_iload_n dX12_place_1 rfl ?_
  refine E_callV1 (fr' := 16) (k1 := 0) (n1 := 0) (k2 := 0) (n2 := 0) dX12_place_2 kO_X12_asksGlyph kL_X12_427 (l_128 hL) (k_128 hL) ⟨by decide, rfl⟩ rfl (by decide) (by decide) (by exact Nat.le_of_ble_eq_true rfl) rfl ?_
  refine sp_X12_asksGlyph h (fun M' j hj ej h hF ht => ?_) (fun hn M' h hF ht => ?_)
  · subst ej
    have hL := h.lay
    have hg : ng c ≤ 1024 := h.g1024
    refine gKv ?_
    refine E_if_ne (tgt := 10) dX12_place_5 (by decide) (fun _ => ?_) (fun c0 => absurd (by decide) c0)
    refine E_aload_n dX12_place_10 rfl ?_
    refine E_iload_n dX12_place_11 rfl ?_
    refine E_iconst (v := nI 0) dX12_place_12 (by decide) ?_
    refine E_iconst (v := nI 2) dX12_place_13 (by decide) ?_
    refine E_callS3 (fr' := 1) (k1 := 0) (n1 := 0) (k2 := 0) (n2 := 0) dX12_place_14 kO_X12_in kL_X12_162 rfl rfl rfl (by decide) (by decide) (by exact Nat.le_of_ble_eq_true rfl) (Or.inl rfl) rfl ?_
    refine sp_X12_in ?_
    refine gKv ?_
    refine E_if_eq_b (tgt := 24) dX12_place_17 (by decide) (fun c_17 => ?_) (fun c_17 => ?_)
    · refine E_iconst (v := nI 2) dX12_place_24 (by decide) ?_
      refine E_putI dX12_place_25 kF_X12_166 kY_12 (Or.inl rfl) (l_128 hL) (k_128 hL) (Or.inl rfl) ?_
      refine E_aload_n dX12_place_28 rfl ?_
      refine E_getIL (v := nI 2) dX12_place_29 kF_X12_166 kY_12 (Or.inl rfl) (l_128 hL) (k_128 hL) rfl ?_
      refine E_if_le (tgt := 39) dX12_place_32 (by decide) (fun c0 => absurd c0 (by decide)) (fun _ => ?_)
      refine E_iconst (v := nI 0) dX12_place_35 (by decide) ?_
      refine E_goto (tgt := 72) dX12_place_36 (by decide) ?_
      refine E_iret dX12_place_72 (Or.inl rfl) ?_
      first
        | exact K2 j hj rfl c_17 _ (hF.thr _) mI_eq
        | (refine Q_rw ?_ (K1 j hj rfl c_17 _ (hF.thr _) mI_eq)
           first
             | rw [cI_t (show w = nI 0 from c_40)]
             | rw [cI_f (show ¬ w = nI 0 from c_40), cI_t c_54]
             | rw [cI_f (show ¬ w = nI 0 from c_40), cI_f c_54])
    · refine E_iconst (v := nI 0) dX12_place_20 (by decide) ?_
      refine E_goto (tgt := 25) dX12_place_21 (by decide) ?_
      refine E_putI dX12_place_25 kF_X12_166 kY_12 (Or.inl rfl) (l_128 hL) (k_128 hL) (Or.inl rfl) ?_
      refine E_aload_n dX12_place_28 rfl ?_
      refine E_getIL (v := nI 0) dX12_place_29 kF_X12_166 kY_12 (Or.inl rfl) (l_128 hL) (k_128 hL) rfl ?_
      refine E_if_le (tgt := 39) dX12_place_32 (by decide) (fun _ => ?_) (fun c0 => absurd (by decide) c0)
      refine E_iload_n dX12_place_39 rfl ?_
      refine E_if_ne_r (tgt := 52) dX12_place_40 (by decide) (fun c_40 => ?_) (fun c_40 => ?_)
      · refine E_iload_n dX12_place_52 rfl ?_
        refine E_iconst (v := nI 1) dX12_place_53 (by decide) ?_
        refine E_icmp_ne_r (tgt := 66) dX12_place_54 (by decide) (fun c_54 => ?_) (fun c_54 => ?_)
        · refine E_aload_n dX12_place_66 rfl ?_
          refine E_getRL dX12_place_67 kF_X12_108 kY_12 (Or.inr ⟨_, rfl⟩) (l_128 hL) (k_128 hL) (r_128_39 hL) ?_
          refine E_iload_n dX12_place_70 rfl ?_
          refine E_ialdL (v := pgv c 2 j) dX12_place_71 (l_160 hL) (k_160 hL) rfl (by omega) (by decide) ((mI_ne (by decide)).trans (h.pg (q := 2) (by decide) hj)) ?_
          refine E_iret dX12_place_72 (Or.inl rfl) ?_
          first
            | exact K2 j hj rfl c_17 _ (hF.thr _) mI_eq
            | (refine Q_rw ?_ (K1 j hj rfl c_17 _ (hF.thr _) mI_eq)
               first
                 | rw [cI_t (show w = nI 0 from c_40)]
                 | rw [cI_f (show ¬ w = nI 0 from c_40), cI_t c_54]
                 | rw [cI_f (show ¬ w = nI 0 from c_40), cI_f c_54])
        · refine E_aload_n dX12_place_57 rfl ?_
          refine E_getRL dX12_place_58 kF_X12_111 kY_12 (Or.inr ⟨_, rfl⟩) (l_128 hL) (k_128 hL) (r_128_40 hL) ?_
          refine E_iload_n dX12_place_61 rfl ?_
          refine E_ialdL (v := pgv c 3 j) dX12_place_62 (l_161 hL) (k_161 hL) rfl (by omega) (by decide) ((mI_ne (by decide)).trans (h.pg (q := 3) (by decide) hj)) ?_
          refine E_goto (tgt := 72) dX12_place_63 (by decide) ?_
          refine E_iret dX12_place_72 (Or.inl rfl) ?_
          first
            | exact K2 j hj rfl c_17 _ (hF.thr _) mI_eq
            | (refine Q_rw ?_ (K1 j hj rfl c_17 _ (hF.thr _) mI_eq)
               first
                 | rw [cI_t (show w = nI 0 from c_40)]
                 | rw [cI_f (show ¬ w = nI 0 from c_40), cI_t c_54]
                 | rw [cI_f (show ¬ w = nI 0 from c_40), cI_f c_54])
      · refine E_aload_n dX12_place_43 rfl ?_
        refine E_getRL dX12_place_44 kF_X12_114 kY_12 (Or.inr ⟨_, rfl⟩) (l_128 hL) (k_128 hL) (r_128_41 hL) ?_
        refine E_iload_n dX12_place_47 rfl ?_
        refine E_ialdL (v := pgv c 4 j) dX12_place_48 (l_162 hL) (k_162 hL) rfl (by omega) (by decide) ((mI_ne (by decide)).trans (h.pg (q := 4) (by decide) hj)) ?_
        refine E_goto (tgt := 72) dX12_place_49 (by decide) ?_
        refine E_iret dX12_place_72 (Or.inl rfl) ?_
        first
          | exact K2 j hj rfl c_17 _ (hF.thr _) mI_eq
          | (refine Q_rw ?_ (K1 j hj rfl c_17 _ (hF.thr _) mI_eq)
             first
               | rw [cI_t (show w = nI 0 from c_40)]
               | rw [cI_f (show ¬ w = nI 0 from c_40), cI_t c_54]
               | rw [cI_f (show ¬ w = nI 0 from c_40), cI_f c_54])
  · have hL := h.lay
    refine gKv ?_
    refine E_if_ne (tgt := 10) dX12_place_5 (by decide) (fun c0 => absurd c0 (by decide)) (fun _ => ?_)
    refine E_iconst (v := nI 0) dX12_place_8 (by decide) ?_
    refine E_iret dX12_place_9 (Or.inl rfl) ?_
    exact K0 hn _ hF ht
set_option maxRecDepth 100000 in
set_option maxHeartbeats 4000000 in
theorem sp_X12_form {g : gG} {M : gM} {Q : Option Value ⊕ String → gM → Prop} {c : Cf} (h : bS c M) {p : Int32} (K1 : ∀ j, j < tl c → p = nI j → ∀ M', fr qR M M' → mI M' 128 0 = nI 0 → Q (.inl (some (.int (frm c (tn c (ru c j)) (tn c (ru c j + 1)) j)))) M') (K0 : ¬ iBel p (tl c) → ∀ M', fr qR M M' → mI M' 128 0 = nI 1 → Q (.inl (some (.int (nI 0)))) M') : E g 16 0 0 mX12_form 0 [.ref 129, .int p, .null] [] M Q := by
  have hL := h.lay
  have h16 : tl c ≤ 16 := h.wf.tl
  refine E_aload_n dX12_form_0 rfl ?_
  refine E_aload_n dX12_form_1 rfl ?_
  refine E_iload_n dX12_form_2 rfl ?_
  refine E_callV1 (fr' := 2) (k1 := 0) (n1 := 0) (k2 := 0) (n2 := 0) dX12_form_3 kO_X12_isPlace kL_X12_222 (l_128 hL) (k_128 hL) ⟨by decide, rfl⟩ rfl (by decide) (by decide) (by exact Nat.le_of_ble_eq_true rfl) rfl ?_
  refine sp_X12_isPlace hL h.tl h.wf.tl ?_
  refine gKv ?_
  refine E_if_eq_b (tgt := 13) dX12_form_6 (by decide) (fun c_6 => ?_) (fun c_6 => ?_)
  · refine E_iconst (v := nI 1) dX12_form_13 (by decide) ?_
    refine E_putI dX12_form_14 kF_X12_166 kY_12 (Or.inl rfl) (l_128 hL) (k_128 hL) (Or.inl rfl) ?_
    refine E_aload_n dX12_form_17 rfl ?_
    refine E_getIL (v := nI 1) dX12_form_18 kF_X12_166 kY_12 (Or.inl rfl) (l_128 hL) (k_128 hL) rfl ?_
    refine E_if_le (tgt := 26) dX12_form_21 (by decide) (fun c0 => absurd c0 (by decide)) (fun _ => ?_)
    refine E_iconst (v := nI 0) dX12_form_24 (by decide) ?_
    refine E_iret dX12_form_25 (Or.inl rfl) ?_
    exact K0 c_6 _ (fr.refl.thr _) mI_eq
  · have hb : iBel p (tl c) := c_6
    obtain ⟨j, hj, ej⟩ := (iBel_iff (by omega)).mp hb
    subst ej
    refine E_iconst (v := nI 0) dX12_form_9 (by decide) ?_
    refine E_goto (tgt := 14) dX12_form_10 (by decide) ?_
    refine E_putI dX12_form_14 kF_X12_166 kY_12 (Or.inl rfl) (l_128 hL) (k_128 hL) (Or.inl rfl) ?_
    refine E_aload_n dX12_form_17 rfl ?_
    refine E_getIL (v := nI 0) dX12_form_18 kF_X12_166 kY_12 (Or.inl rfl) (l_128 hL) (k_128 hL) rfl ?_
    refine E_if_le (tgt := 26) dX12_form_21 (by decide) (fun _ => ?_) (fun c0 => absurd (by decide) c0)
    refine E_aload_n dX12_form_26 rfl ?_
    refine E_callV0 (fr' := 15) (k1 := 0) (n1 := 0) (k2 := 0) (n2 := 0) dX12_form_27 kO_X12_shapesAll kL_X12_424 (l_128 hL) (k_128 hL) ⟨by decide, rfl⟩  (by decide) (by decide) (by exact Nat.le_of_ble_eq_true rfl) rfl ?_
    have h0 := h.thr (nI 0)
    have hL := h0.lay
    refine sp_X12_shapesAll h0 (fun M1 hF1 hA => ?_)
    have h := (show qS c M1 from ⟨qbS h0 (hF1.mono shR_q), hA⟩)
    have hL := h.lay
    obtain ⟨b1, b2, b3⟩ := ru_b h.wf hj
    have b4 := h.tn16 (show ru c j + 1 ≤ tr c by omega)
    have hsb := scr_b c 0 (tl c) j
    have hfb := fcO_b h.wf j
    have h16 := h.t16
    have hn := h.nr16
    refine gKn ?_
    refine E_aload_n dX12_form_30 rfl ?_
    refine E_iload_n dX12_form_31 rfl ?_
    refine E_callV1 (fr' := 1) (k1 := 0) (n1 := 0) (k2 := 0) (n2 := 0) dX12_form_32 kO_X12_runOf kL_X12_430 (l_128 hL) (k_128 hL) ⟨by decide, rfl⟩ rfl (by decide) (by decide) (by exact Nat.le_of_ble_eq_true rfl) rfl ?_
    refine sp_X12_runOf h (by omega) ?_
    refine gKv ?_
    refine E_istore_n dX12_form_35 (Nat.le_of_ble_eq_true rfl) (by decide) rfl ?_
    refine E_aload_n dX12_form_36 rfl ?_
    refine E_aload_n dX12_form_37 rfl ?_
    refine E_getRL dX12_form_38 kF_X12_126 kY_12 (Or.inr ⟨_, rfl⟩) (l_128 hL) (k_128 hL) (r_128_46 hL) ?_
    refine E_iload_n dX12_form_41 rfl ?_
    refine E_ialdL (v := _) dX12_form_42 (l_166 hL) (k_166 hL) rfl (by omega) (by decide) (h.rf (by omega)) ?_
    refine E_aload_n dX12_form_43 rfl ?_
    refine E_getRL dX12_form_44 kF_X12_126 kY_12 (Or.inr ⟨_, rfl⟩) (l_128 hL) (k_128 hL) (r_128_46 hL) ?_
    refine E_iload_n dX12_form_47 rfl ?_
    refine E_iconst (v := nI 1) dX12_form_48 (by decide) ?_
    refine E_iadd_n dX12_form_49 ?_
    refine E_ialdL (v := _) dX12_form_50 (l_166 hL) (k_166 hL) rfl (by omega) (by decide) (h.rf (by omega)) ?_
    refine E_iload_n dX12_form_51 rfl ?_
    refine E_callV3 (fr' := 4) (k1 := 0) (n1 := 0) (k2 := 0) (n2 := 0) dX12_form_52 kO_X12_formOf kL_X12_238 (l_128 hL) (k_128 hL) ⟨by decide, rfl⟩ rfl rfl rfl (by decide) (by decide) (by exact Nat.le_of_ble_eq_true rfl) rfl ?_
    refine sp_X12_formOf h.b (by omega) (by omega) (by omega) ?_
    refine gKv ?_
    refine E_iret dX12_form_55 (Or.inl rfl) ?_
    exact K1 j hj rfl _ ((fr.refl.thr _).sh hF1) ((sh0 hF1).trans mI_eq)
set_option maxRecDepth 100000 in
set_option maxHeartbeats 4000000 in
theorem sp_X12_run {g : gG} {M : gM} {Q : Option Value ⊕ String → gM → Prop} {c : Cf} (h : bS c M) {p : Int32} (K1 : ∀ j, j < tl c → p = nI j → ∀ M', fr qR M M' → mI M' 128 0 = nI 0 → Q (.inl (some (.int (nI (100 * ru c j + 10 * scr c 0 (tl c) j + fcO c j))))) M') (K0 : ¬ iBel p (tl c) → ∀ M', fr qR M M' → mI M' 128 0 = nI 1 → Q (.inl (some (.int (nI 0)))) M') : E g 16 0 0 mX12_run 0 [.ref 129, .int p] [] M Q := by
  have hL := h.lay
  have h16 : tl c ≤ 16 := h.wf.tl
  refine E_aload_n dX12_run_0 rfl ?_
  refine E_aload_n dX12_run_1 rfl ?_
  refine E_iload_n dX12_run_2 rfl ?_
  refine E_callV1 (fr' := 2) (k1 := 0) (n1 := 0) (k2 := 0) (n2 := 0) dX12_run_3 kO_X12_isPlace kL_X12_222 (l_128 hL) (k_128 hL) ⟨by decide, rfl⟩ rfl (by decide) (by decide) (by exact Nat.le_of_ble_eq_true rfl) rfl ?_
  refine sp_X12_isPlace hL h.tl h.wf.tl ?_
  refine gKv ?_
  refine E_if_eq_b (tgt := 13) dX12_run_6 (by decide) (fun c_6 => ?_) (fun c_6 => ?_)
  · refine E_iconst (v := nI 1) dX12_run_13 (by decide) ?_
    refine E_putI dX12_run_14 kF_X12_166 kY_12 (Or.inl rfl) (l_128 hL) (k_128 hL) (Or.inl rfl) ?_
    refine E_aload_n dX12_run_17 rfl ?_
    refine E_getIL (v := nI 1) dX12_run_18 kF_X12_166 kY_12 (Or.inl rfl) (l_128 hL) (k_128 hL) rfl ?_
    refine E_if_le (tgt := 26) dX12_run_21 (by decide) (fun c0 => absurd c0 (by decide)) (fun _ => ?_)
    refine E_iconst (v := nI 0) dX12_run_24 (by decide) ?_
    refine E_iret dX12_run_25 (Or.inl rfl) ?_
    exact K0 c_6 _ (fr.refl.thr _) mI_eq
  · have hb : iBel p (tl c) := c_6
    obtain ⟨j, hj, ej⟩ := (iBel_iff (by omega)).mp hb
    subst ej
    refine E_iconst (v := nI 0) dX12_run_9 (by decide) ?_
    refine E_goto (tgt := 14) dX12_run_10 (by decide) ?_
    refine E_putI dX12_run_14 kF_X12_166 kY_12 (Or.inl rfl) (l_128 hL) (k_128 hL) (Or.inl rfl) ?_
    refine E_aload_n dX12_run_17 rfl ?_
    refine E_getIL (v := nI 0) dX12_run_18 kF_X12_166 kY_12 (Or.inl rfl) (l_128 hL) (k_128 hL) rfl ?_
    refine E_if_le (tgt := 26) dX12_run_21 (by decide) (fun _ => ?_) (fun c0 => absurd (by decide) c0)
    refine E_aload_n dX12_run_26 rfl ?_
    refine E_callV0 (fr' := 15) (k1 := 0) (n1 := 0) (k2 := 0) (n2 := 0) dX12_run_27 kO_X12_shapesAll kL_X12_424 (l_128 hL) (k_128 hL) ⟨by decide, rfl⟩  (by decide) (by decide) (by exact Nat.le_of_ble_eq_true rfl) rfl ?_
    have h0 := h.thr (nI 0)
    have hL := h0.lay
    refine sp_X12_shapesAll h0 (fun M1 hF1 hA => ?_)
    have h := (show qS c M1 from ⟨qbS h0 (hF1.mono shR_q), hA⟩)
    have hL := h.lay
    obtain ⟨b1, b2, b3⟩ := ru_b h.wf hj
    have b4 := h.tn16 (show ru c j + 1 ≤ tr c by omega)
    have hsb := scr_b c 0 (tl c) j
    have hfb := fcO_b h.wf j
    have h16 := h.t16
    have hn := h.nr16
    refine gKn ?_
    refine E_bipush (v := nI 100) dX12_run_30 (by decide) ?_
    refine E_aload_n dX12_run_32 rfl ?_
    refine E_iload_n dX12_run_33 rfl ?_
    refine E_callV1 (fr' := 1) (k1 := 0) (n1 := 0) (k2 := 0) (n2 := 0) dX12_run_34 kO_X12_runOf kL_X12_430 (l_128 hL) (k_128 hL) ⟨by decide, rfl⟩ rfl (by decide) (by decide) (by exact Nat.le_of_ble_eq_true rfl) rfl ?_
    refine sp_X12_runOf h (by omega) ?_
    refine gKv ?_
    refine E_imul_n dX12_run_37 ?_
    refine E_bipush (v := nI 10) dX12_run_38 (by decide) ?_
    refine E_aload_n dX12_run_40 rfl ?_
    refine E_getRL dX12_run_41 kF_X12_57 kY_12 (Or.inr ⟨_, rfl⟩) (l_128 hL) (k_128 hL) (r_128_18 hL) ?_
    refine E_iload_n dX12_run_44 rfl ?_
    refine E_ialdL (v := nI (scr c 0 (tl c) j)) dX12_run_45 (l_143 hL) (k_143 hL) rfl (by omega) (by decide) (h.sc hj) ?_
    refine E_imul_n dX12_run_46 ?_
    refine E_iadd_n dX12_run_47 ?_
    refine E_aload_n dX12_run_48 rfl ?_
    refine E_getRL dX12_run_49 kF_X12_60 kY_12 (Or.inr ⟨_, rfl⟩) (l_128 hL) (k_128 hL) (r_128_19 hL) ?_
    refine E_iload_n dX12_run_52 rfl ?_
    refine E_ialdL (v := nI (fcO c j)) dX12_run_53 (l_144 hL) (k_144 hL) rfl (by omega) (by decide) (h.fc hj) ?_
    refine E_iadd_n dX12_run_54 ?_
    refine E_iret dX12_run_55 (Or.inl rfl) ?_
    exact K1 j hj rfl _ ((fr.refl.thr _).sh hF1) ((sh0 hF1).trans mI_eq)
set_option maxRecDepth 100000 in
set_option maxHeartbeats 4000000 in
theorem sp_X12_caret {g : gG} {M : gM} {Q : Option Value ⊕ String → gM → Prop} {c : Cf} (h : bS c M) {p : Int32} (K1 : ∀ j, j < tl c → p = nI j → ∀ M', fr qR M M' → mI M' 128 0 = nI 0 → Q (.inl (some (.int (crt c j)))) M') (K0 : ¬ iBel p (tl c) → ∀ M', fr qR M M' → mI M' 128 0 = nI 1 → Q (.inl (some (.int (nI 0)))) M') : E g 16 0 0 mX12_caret 0 [.ref 129, .int p] [] M Q := by
  have hL := h.lay
  have h16 : tl c ≤ 16 := h.wf.tl
  refine E_aload_n dX12_caret_0 rfl ?_
  refine E_aload_n dX12_caret_1 rfl ?_
  refine E_iload_n dX12_caret_2 rfl ?_
  refine E_callV1 (fr' := 2) (k1 := 0) (n1 := 0) (k2 := 0) (n2 := 0) dX12_caret_3 kO_X12_isPlace kL_X12_222 (l_128 hL) (k_128 hL) ⟨by decide, rfl⟩ rfl (by decide) (by decide) (by exact Nat.le_of_ble_eq_true rfl) rfl ?_
  refine sp_X12_isPlace hL h.tl h.wf.tl ?_
  refine gKv ?_
  refine E_if_eq_b (tgt := 13) dX12_caret_6 (by decide) (fun c_6 => ?_) (fun c_6 => ?_)
  · refine E_iconst (v := nI 1) dX12_caret_13 (by decide) ?_
    refine E_putI dX12_caret_14 kF_X12_166 kY_12 (Or.inl rfl) (l_128 hL) (k_128 hL) (Or.inl rfl) ?_
    refine E_aload_n dX12_caret_17 rfl ?_
    refine E_getIL (v := nI 1) dX12_caret_18 kF_X12_166 kY_12 (Or.inl rfl) (l_128 hL) (k_128 hL) rfl ?_
    refine E_if_le (tgt := 26) dX12_caret_21 (by decide) (fun c0 => absurd c0 (by decide)) (fun _ => ?_)
    refine E_iconst (v := nI 0) dX12_caret_24 (by decide) ?_
    refine E_iret dX12_caret_25 (Or.inl rfl) ?_
    exact K0 c_6 _ (fr.refl.thr _) mI_eq
  · have hb : iBel p (tl c) := c_6
    obtain ⟨j, hj, ej⟩ := (iBel_iff (by omega)).mp hb
    subst ej
    refine E_iconst (v := nI 0) dX12_caret_9 (by decide) ?_
    refine E_goto (tgt := 14) dX12_caret_10 (by decide) ?_
    refine E_putI dX12_caret_14 kF_X12_166 kY_12 (Or.inl rfl) (l_128 hL) (k_128 hL) (Or.inl rfl) ?_
    refine E_aload_n dX12_caret_17 rfl ?_
    refine E_getIL (v := nI 0) dX12_caret_18 kF_X12_166 kY_12 (Or.inl rfl) (l_128 hL) (k_128 hL) rfl ?_
    refine E_if_le (tgt := 26) dX12_caret_21 (by decide) (fun _ => ?_) (fun c0 => absurd (by decide) c0)
    refine E_aload_n dX12_caret_26 rfl ?_
    refine E_callV0 (fr' := 15) (k1 := 0) (n1 := 0) (k2 := 0) (n2 := 0) dX12_caret_27 kO_X12_shapesAll kL_X12_424 (l_128 hL) (k_128 hL) ⟨by decide, rfl⟩  (by decide) (by decide) (by exact Nat.le_of_ble_eq_true rfl) rfl ?_
    have h0 := h.thr (nI 0)
    have hL := h0.lay
    refine sp_X12_shapesAll h0 (fun M1 hF1 hA => ?_)
    have h := (show qS c M1 from ⟨qbS h0 (hF1.mono shR_q), hA⟩)
    have hL := h.lay
    obtain ⟨b1, b2, b3⟩ := ru_b h.wf hj
    have b4 := h.tn16 (show ru c j + 1 ≤ tr c by omega)
    have hsb := scr_b c 0 (tl c) j
    have hfb := fcO_b h.wf j
    have h16 := h.t16
    have hn := h.nr16
    refine gKn ?_
    refine E_aload_n dX12_caret_30 rfl ?_
    refine E_iload_n dX12_caret_31 rfl ?_
    refine E_callV1 (fr' := 2) (k1 := 0) (n1 := 0) (k2 := 0) (n2 := 0) dX12_caret_32 kO_X12_caretOf kL_X12_443 (l_128 hL) (k_128 hL) ⟨by decide, rfl⟩ rfl (by decide) (by decide) (by exact Nat.le_of_ble_eq_true rfl) rfl ?_
    refine sp_X12_caretOf h (by omega) ?_
    refine gKv ?_
    refine E_iret dX12_caret_35 (Or.inl rfl) ?_
    exact K1 j hj rfl _ ((fr.refl.thr _).sh hF1) ((sh0 hF1).trans mI_eq)
noncomputable def htD (x v : Int32) : Int32 := cI (v ≤ x) (x - v) (v - x)
noncomputable def htS (c : Cf) (x : Int32) : Nat → Int32 × Int32
  | 0 => (-100, nI 0)
  | k + 1 => cI ((htS c x k).1 = -100 ∨ htD x (crt c k) < (htS c x k).2) (nI k, htD x (crt c k)) (htS c x k)
set_option maxRecDepth 100000 in
set_option maxHeartbeats 4000000 in
theorem lp_X12_hit {g : gG} {M : gM} {Q : Option Value ⊕ String → gM → Prop} {c : Cf} (h : qS c M) {x : Int32} (K : Q (.inl (some (.int ((htS c x (tl c)).1)))) M) : ∀ k, k ≤ tl c → ∀ v2 v3 v5 v6, v2 = (htS c x k).1 → v3 = (htS c x k).2 → E g 16 0 0 mX12_hit 43 [.ref 129, .int x, .int v2, .int v3, .int (nI k), v5, v6] [] M Q := by
  have hL := h.lay
  have h16 := h.t16
  refine lpUp (tl c) (fun k hk ih => ?_)
  intro v2 v3 v5 v6 e2 e3
  have fin : k < tl c → ∀ d, d = htD x (crt c k) → E g 16 0 0 mX12_hit 81 [.ref 129, .int x, .int v2, .int v3, .int (nI k), v5, v6] [.int d] M Q := by
    intro hkt d hd
    have step : ∀ a b v5 v6, (a, b) = cI (v2 = -100 ∨ d < v3) (nI k, d) (v2, v3) → E g 16 0 0 mX12_hit 43 [.ref 129, .int x, .int a, .int b, .int (nI (k + 1)), v5, v6] [] M Q := fun a b v5 v6 e => by
      have e4 : htS c x (k + 1) = (a, b) := by rw [e, e2, e3, hd]; rfl
      exact ih hkt a b v5 v6 (by rw [e4]) (by rw [e4])
    refine E_istore dX12_hit_81 (Nat.le_of_ble_eq_true rfl) (by decide) rfl ?_
    refine E_iload_n dX12_hit_83 rfl ?_
    refine E_bipush (v := -100) dX12_hit_84 (by decide) ?_
    refine E_icmp_eq (tgt := 95) dX12_hit_86 (by decide) (fun c_86 => ?_) (fun c_86 => ?_)
    · refine E_iconst (v := nI 1) dX12_hit_95 (by decide) ?_
      refine E_goto (tgt := 100) dX12_hit_96 (by decide) ?_
      refine E_istore dX12_hit_100 (Nat.le_of_ble_eq_true rfl) (by decide) rfl ?_
      refine E_iload dX12_hit_102 rfl ?_
      refine E_if_eq (tgt := 112) dX12_hit_104 (by decide) (fun c0 => absurd c0 (by decide)) (fun _ => ?_)
      refine E_iload dX12_hit_107 rfl ?_
      refine E_goto (tgt := 113) dX12_hit_109 (by decide) ?_
      refine E_istore_n dX12_hit_113 (Nat.le_of_ble_eq_true rfl) (by decide) rfl ?_
      refine E_iload dX12_hit_114 rfl ?_
      refine E_if_eq (tgt := 124) dX12_hit_116 (by decide) (fun c0 => absurd c0 (by decide)) (fun _ => ?_)
      refine E_iload dX12_hit_119 rfl ?_
      refine E_goto (tgt := 125) dX12_hit_121 (by decide) ?_
      refine E_istore_n dX12_hit_125 (Nat.le_of_ble_eq_true rfl) (by decide) rfl ?_
      refine E_iinc_n (d := 1) dX12_hit_126 rfl rfl rfl (by decide) rfl ?_
      refine E_goto (tgt := 43) dX12_hit_129 (by decide) ?_
      first
        | exact step _ _ _ _ (cI_t (Or.inl c_86)).symm
        | exact step _ _ _ _ (cI_t (Or.inr (Int32.not_le.mp c_92))).symm
        | exact step _ _ _ _ (cI_f (fun q => q.elim c_86 (fun q => Int32.not_le.mpr q c_92))).symm
    · refine E_iload dX12_hit_89 rfl ?_
      refine E_iload_n dX12_hit_91 rfl ?_
      refine E_icmp_ge (tgt := 99) dX12_hit_92 (by decide) (fun c_92 => ?_) (fun c_92 => ?_)
      · refine E_iconst (v := nI 0) dX12_hit_99 (by decide) ?_
        refine E_istore dX12_hit_100 (Nat.le_of_ble_eq_true rfl) (by decide) rfl ?_
        refine E_iload dX12_hit_102 rfl ?_
        refine E_if_eq (tgt := 112) dX12_hit_104 (by decide) (fun _ => ?_) (fun c0 => absurd (by decide) c0)
        refine E_iload_n dX12_hit_112 rfl ?_
        refine E_istore_n dX12_hit_113 (Nat.le_of_ble_eq_true rfl) (by decide) rfl ?_
        refine E_iload dX12_hit_114 rfl ?_
        refine E_if_eq (tgt := 124) dX12_hit_116 (by decide) (fun _ => ?_) (fun c0 => absurd (by decide) c0)
        refine E_iload_n dX12_hit_124 rfl ?_
        refine E_istore_n dX12_hit_125 (Nat.le_of_ble_eq_true rfl) (by decide) rfl ?_
        refine E_iinc_n (d := 1) dX12_hit_126 rfl rfl rfl (by decide) rfl ?_
        refine E_goto (tgt := 43) dX12_hit_129 (by decide) ?_
        first
          | exact step _ _ _ _ (cI_t (Or.inl c_86)).symm
          | exact step _ _ _ _ (cI_t (Or.inr (Int32.not_le.mp c_92))).symm
          | exact step _ _ _ _ (cI_f (fun q => q.elim c_86 (fun q => Int32.not_le.mpr q c_92))).symm
      · refine E_iconst (v := nI 1) dX12_hit_95 (by decide) ?_
        refine E_goto (tgt := 100) dX12_hit_96 (by decide) ?_
        refine E_istore dX12_hit_100 (Nat.le_of_ble_eq_true rfl) (by decide) rfl ?_
        refine E_iload dX12_hit_102 rfl ?_
        refine E_if_eq (tgt := 112) dX12_hit_104 (by decide) (fun c0 => absurd c0 (by decide)) (fun _ => ?_)
        refine E_iload dX12_hit_107 rfl ?_
        refine E_goto (tgt := 113) dX12_hit_109 (by decide) ?_
        refine E_istore_n dX12_hit_113 (Nat.le_of_ble_eq_true rfl) (by decide) rfl ?_
        refine E_iload dX12_hit_114 rfl ?_
        refine E_if_eq (tgt := 124) dX12_hit_116 (by decide) (fun c0 => absurd c0 (by decide)) (fun _ => ?_)
        refine E_iload dX12_hit_119 rfl ?_
        refine E_goto (tgt := 125) dX12_hit_121 (by decide) ?_
        refine E_istore_n dX12_hit_125 (Nat.le_of_ble_eq_true rfl) (by decide) rfl ?_
        refine E_iinc_n (d := 1) dX12_hit_126 rfl rfl rfl (by decide) rfl ?_
        refine E_goto (tgt := 43) dX12_hit_129 (by decide) ?_
        first
          | exact step _ _ _ _ (cI_t (Or.inl c_86)).symm
          | exact step _ _ _ _ (cI_t (Or.inr (Int32.not_le.mp c_92))).symm
          | exact step _ _ _ _ (cI_f (fun q => q.elim c_86 (fun q => Int32.not_le.mpr q c_92))).symm
  refine E_iload dX12_hit_43 rfl ?_
  refine E_aload_n dX12_hit_45 rfl ?_
  refine E_getIL (v := nI (tl c)) dX12_hit_46 kF_X12_219 kY_12 (Or.inl rfl) (l_128 hL) (k_128 hL) h.b.tl ?_
  refine E_icmp_ge_n (tgt := 132) dX12_hit_49 (by decide) (by omega) (by omega) (fun c_49 => ?_) (fun c_49 => ?_)
  · refine E_iload_n dX12_hit_132 rfl ?_
    refine E_iret dX12_hit_133 (Or.inl rfl) ?_
    obtain rfl : k = tl c := by omega
    rw [e2]; exact K
  · refine E_aload_n dX12_hit_52 rfl ?_
    refine E_iload dX12_hit_53 rfl ?_
    refine E_callV1 (fr' := 2) (k1 := 0) (n1 := 0) (k2 := 0) (n2 := 0) dX12_hit_55 kO_X12_caretOf kL_X12_443 (l_128 hL) (k_128 hL) ⟨by decide, rfl⟩ rfl (by decide) (by decide) (by exact Nat.le_of_ble_eq_true rfl) rfl ?_
    refine sp_X12_caretOf h (by omega) ?_
    refine gKv ?_
    refine E_iload_n dX12_hit_58 rfl ?_
    refine E_icmp_le (tgt := 73) dX12_hit_59 (by decide) (fun c_59 => ?_) (fun c_59 => ?_)
    · refine E_iload_n dX12_hit_73 rfl ?_
      refine E_aload_n dX12_hit_74 rfl ?_
      refine E_iload dX12_hit_75 rfl ?_
      refine E_callV1 (fr' := 2) (k1 := 0) (n1 := 0) (k2 := 0) (n2 := 0) dX12_hit_77 kO_X12_caretOf kL_X12_443 (l_128 hL) (k_128 hL) ⟨by decide, rfl⟩ rfl (by decide) (by decide) (by exact Nat.le_of_ble_eq_true rfl) rfl ?_
      refine sp_X12_caretOf h (by omega) ?_
      refine gKv ?_
      refine E_isub dX12_hit_80 ?_
      refine fin (by omega) _ ?_
      unfold htD
      first | exact (cI_t c_59).symm | exact (cI_f c_59).symm
    · refine E_aload_n dX12_hit_62 rfl ?_
      refine E_iload dX12_hit_63 rfl ?_
      refine E_callV1 (fr' := 2) (k1 := 0) (n1 := 0) (k2 := 0) (n2 := 0) dX12_hit_65 kO_X12_caretOf kL_X12_443 (l_128 hL) (k_128 hL) ⟨by decide, rfl⟩ rfl (by decide) (by decide) (by exact Nat.le_of_ble_eq_true rfl) rfl ?_
      refine sp_X12_caretOf h (by omega) ?_
      refine gKv ?_
      refine E_iload_n dX12_hit_68 rfl ?_
      refine E_isub dX12_hit_69 ?_
      refine E_goto (tgt := 81) dX12_hit_70 (by decide) ?_
      refine fin (by omega) _ ?_
      unfold htD
      first | exact (cI_t c_59).symm | exact (cI_f c_59).symm
set_option maxRecDepth 100000 in
set_option maxHeartbeats 4000000 in
theorem sp_X12_hit {g : gG} {M : gM} {Q : Option Value ⊕ String → gM → Prop} {c : Cf} (h : bS c M) {p : Int32} (K1 : iIn p (-1000) (nI 10000) → ∀ M', fr qR M M' → mI M' 128 0 = nI 0 → Q (.inl (some (.int ((htS c p (tl c)).1)))) M') (K0 : ¬ iIn p (-1000) (nI 10000) → ∀ M', fr qR M M' → mI M' 128 0 = nI 1 → Q (.inl (some (.int (nI 0)))) M') : E g 16 0 0 mX12_hit 0 [.ref 129, .int p, .null, .null, .null, .null, .null] [] M Q := by
  have hL := h.lay
  refine E_aload_n dX12_hit_0 rfl ?_
  refine E_iload_n dX12_hit_1 rfl ?_
  refine E_sipush (v := -1000) dX12_hit_2 (by decide) ?_
  refine E_sipush (v := nI 10000) dX12_hit_5 (by decide) ?_
  refine E_callS3 (fr' := 1) (k1 := 0) (n1 := 0) (k2 := 0) (n2 := 0) dX12_hit_8 kO_X12_in kL_X12_162 rfl rfl rfl (by decide) (by decide) (by exact Nat.le_of_ble_eq_true rfl) (Or.inl rfl) rfl ?_
  refine sp_X12_in ?_
  refine gKv ?_
  refine E_if_eq_b (tgt := 18) dX12_hit_11 (by decide) (fun c_11 => ?_) (fun c_11 => ?_)
  · refine E_iconst (v := nI 1) dX12_hit_18 (by decide) ?_
    refine E_putI dX12_hit_19 kF_X12_166 kY_12 (Or.inl rfl) (l_128 hL) (k_128 hL) (Or.inl rfl) ?_
    refine E_aload_n dX12_hit_22 rfl ?_
    refine E_getIL (v := nI 1) dX12_hit_23 kF_X12_166 kY_12 (Or.inl rfl) (l_128 hL) (k_128 hL) rfl ?_
    refine E_if_le (tgt := 31) dX12_hit_26 (by decide) (fun c0 => absurd c0 (by decide)) (fun _ => ?_)
    refine E_iconst (v := nI 0) dX12_hit_29 (by decide) ?_
    refine E_iret dX12_hit_30 (Or.inl rfl) ?_
    exact K0 c_11 _ (fr.refl.thr _) mI_eq
  · refine E_iconst (v := nI 0) dX12_hit_14 (by decide) ?_
    refine E_goto (tgt := 19) dX12_hit_15 (by decide) ?_
    refine E_putI dX12_hit_19 kF_X12_166 kY_12 (Or.inl rfl) (l_128 hL) (k_128 hL) (Or.inl rfl) ?_
    refine E_aload_n dX12_hit_22 rfl ?_
    refine E_getIL (v := nI 0) dX12_hit_23 kF_X12_166 kY_12 (Or.inl rfl) (l_128 hL) (k_128 hL) rfl ?_
    refine E_if_le (tgt := 31) dX12_hit_26 (by decide) (fun _ => ?_) (fun c0 => absurd (by decide) c0)
    refine E_aload_n dX12_hit_31 rfl ?_
    refine E_callV0 (fr' := 15) (k1 := 0) (n1 := 0) (k2 := 0) (n2 := 0) dX12_hit_32 kO_X12_shapesAll kL_X12_424 (l_128 hL) (k_128 hL) ⟨by decide, rfl⟩  (by decide) (by decide) (by exact Nat.le_of_ble_eq_true rfl) rfl ?_
    have h0 := h.thr (nI 0)
    have hL := h0.lay
    refine sp_X12_shapesAll h0 (fun M1 hF1 hA => ?_)
    have h := (show qS c M1 from ⟨qbS h0 (hF1.mono shR_q), hA⟩)
    have hL := h.lay
    refine gKn ?_
    refine E_bipush (v := -100) dX12_hit_35 (by decide) ?_
    refine E_istore_n dX12_hit_37 (Nat.le_of_ble_eq_true rfl) (by decide) rfl ?_
    refine E_iconst (v := nI 0) dX12_hit_38 (by decide) ?_
    refine E_istore_n dX12_hit_39 (Nat.le_of_ble_eq_true rfl) (by decide) rfl ?_
    refine E_iconst (v := nI 0) dX12_hit_40 (by decide) ?_
    refine E_istore dX12_hit_41 (Nat.le_of_ble_eq_true rfl) (by decide) rfl ?_
    exact lp_X12_hit h (K1 c_11 _ ((fr.refl.thr _).sh hF1) ((sh0 hF1).trans mI_eq)) 0 (Nat.zero_le _) _ _ _ _ rfl rfl
