/-! the reference: what it asks of its row -/
def skp (c : Cf) (f l q : Nat) : Prop := 1 ≤ cN c 137 (256 * f + q) ∧ 1 ≤ cN c 134 l ∧ ¬ cN c 137 (256 * f + q) + 1 = cN c 134 l
def isAt (c : Cf) (f : Nat) (item : Int32) (q : Nat) : Prop := (nI 300 ≤ item ∧ nI (cN c 138 (256 * f + q)) = item - nI 300) ∨ (¬ nI 300 ≤ item ∧ item = nI q)
def hasF (c : Cf) (l : Nat) (x : Gl) : Prop := cN c 131 l = 0 ∨ (cN c 131 l < 5 ∧ yF x = dI (cN c 131 l)) ∨ (cN c 131 l = 5 ∧ 0 < yE x)
noncomputable def aft (c : Cf) (f l : Nat) (L : List Gl) (i : Nat) : Nat := fnd (fun k => ¬ skp c f l (yN (gat L k))) L.length (i + 1)
noncomputable def ahd (c : Cf) (f l : Nat) (L : List Gl) (i : Nat) : Nat := rfd (fun k => ¬ skp c f l (yN (gat L k))) i
def thr (c : Cf) (f : Nat) (L : List Gl) (item : Int32) (p : Nat) : Prop := item = -100 ∨ (1 ≤ p ∧ p ≤ L.length ∧ isAt c f item (yN (gat L (p - 1))))
theorem aft_b (c : Cf) (f l : Nat) {L : List Gl} {i : Nat} (h : i < L.length) : i + 1 ≤ aft c f l L i ∧ aft c f l L i ≤ L.length := ⟨(fnd_spec h).1, (fnd_spec h).2.1⟩
set_option maxRecDepth 100000 in
set_option maxHeartbeats 4000000 in
theorem sp_X12_markAt {g : gG} {M : gM} {Q : Option Value ⊕ String → gM → Prop} {c : Cf} {f : Nat} {M0 : gM} {L : List Gl} {w : Int32} (h : mX c f M0 L w M) {i : Nat} (hi : i < L.length) (K : Q (.inl (some (.int (dI (cN c 137 (256 * f + yN (gat L i))))))) M) : E g 1 0 0 mX12_markAt 0 [.ref 129, .int (nI i)] [] M Q := by
  have hL := h.lay
  have hf := h.hf
  have hn := h.len
  refine E_aload_n dX12_markAt_0 rfl ?_
  refine E_getRL dX12_markAt_1 kF_X12_34 kY_12 (Or.inr ⟨_, rfl⟩) (l_128 hL) (k_128 hL) (r_128_10 hL) ?_
  refine E_sipush (v := nI 256) dX12_markAt_4 (by decide) ?_
  refine E_aload_n dX12_markAt_7 rfl ?_
  refine E_getIL (v := nI f) dX12_markAt_8 kF_X12_279 kY_12 (Or.inl rfl) (l_128 hL) (k_128 hL) h.gf ?_
  refine E_imul_n dX12_markAt_11 ?_
  refine E_aload_n dX12_markAt_12 rfl ?_
  refine E_getRL dX12_markAt_13 kF_X12_63 kY_12 (Or.inr ⟨_, rfl⟩) (l_128 hL) (k_128 hL) (r_128_22 hL) ?_
  refine E_iload_n dX12_markAt_16 rfl ?_
  refine E_ialdL (v := nI (yN (gat _ _))) dX12_markAt_17 (l_145 hL) (k_145 hL) rfl (by first | omega | exact h.n256 _) (by decide) (h.at (by omega)).1 ?_
  refine E_iadd_n dX12_markAt_18 ?_
  refine E_ialdL (v := nI (cN _ 137 _)) dX12_markAt_19 (l_137 hL) (k_137 hL) rfl (by first | omega | exact h.n256 _) (by decide) (h.gc (Or.inl ⟨by decide, by decide, by decide⟩)) ?_
  refine E_iconst (v := nI 1) dX12_markAt_20 (by decide) ?_
  refine E_isub_d dX12_markAt_21 ?_
  refine E_iret dX12_markAt_22 (Or.inl rfl) ?_
  exact K
set_option maxRecDepth 100000 in
set_option maxHeartbeats 4000000 in
theorem sp_X12_skips {g : gG} {M : gM} {Q : Option Value ⊕ String → gM → Prop} {c : Cf} {f : Nat} {M0 : gM} {L : List Gl} {w : Int32} (h : mX c f M0 L w M) {l : Nat} (hl : l < 24) {i : Nat} (hi : i < L.length) (K : Q (.inl (some (.int (b2i (skp c f l (yN (gat L i))))))) M) : E g 2 0 0 mX12_skips 0 [.ref 129, .int (nI l), .int (nI i), .null] [] M Q := by
  have hL := h.lay
  have hf := h.hf
  have hn := h.len
  have h1 := (h.wf.gl (256 * f + yN (gat L i))).1
  have h2 := (h.wf.lk l).2.2.2.2.1
  refine E_aload_n dX12_skips_0 rfl ?_
  refine E_iload_n dX12_skips_1 rfl ?_
  refine E_callV1 (fr' := 1) (k1 := 0) (n1 := 0) (k2 := 0) (n2 := 0) dX12_skips_2 kO_X12_markAt kL_X12_282 (l_128 hL) (k_128 hL) ⟨by decide, rfl⟩ rfl (by decide) (by decide) (by exact Nat.le_of_ble_eq_true rfl) rfl ?_
  refine sp_X12_markAt h (by omega) ?_
  refine gKv ?_
  refine E_istore_n dX12_skips_5 (Nat.le_of_ble_eq_true rfl) (by decide) rfl ?_
  refine E_iload_n dX12_skips_6 rfl ?_
  refine E_if_lt_d (tgt := 35) dX12_skips_7 (by decide) (by omega) (fun c_7 => ?_) (fun c_7 => ?_)
  · refine E_iconst (v := nI 0) dX12_skips_35 (by decide) ?_
    refine E_iret dX12_skips_36 (Or.inr ⟨rfl, by decide⟩) ?_
    rw [← b2i_f (P := skp c f l (yN (gat L i))) (by unfold skp; omega)]; exact K
  · refine E_aload_n dX12_skips_10 rfl ?_
    refine E_getRL dX12_skips_11 kF_X12_25 kY_12 (Or.inr ⟨_, rfl⟩) (l_128 hL) (k_128 hL) (r_128_7 hL) ?_
    refine E_iload_n dX12_skips_14 rfl ?_
    refine E_ialdL (v := nI (cN _ 134 _)) dX12_skips_15 (l_134 hL) (k_134 hL) rfl (by first | omega | exact h.n256 _) (by decide) (h.gc (Or.inl ⟨by decide, by decide, by decide⟩)) ?_
    refine E_if_le_n (tgt := 35) dX12_skips_16 (by decide) (by omega) (fun c_16 => ?_) (fun c_16 => ?_)
    · refine E_iconst (v := nI 0) dX12_skips_35 (by decide) ?_
      refine E_iret dX12_skips_36 (Or.inr ⟨rfl, by decide⟩) ?_
      rw [← b2i_f (P := skp c f l (yN (gat L i))) (by unfold skp; omega)]; exact K
    · refine E_iload_n dX12_skips_19 rfl ?_
      refine E_aload_n dX12_skips_20 rfl ?_
      refine E_getRL dX12_skips_21 kF_X12_25 kY_12 (Or.inr ⟨_, rfl⟩) (l_128 hL) (k_128 hL) (r_128_7 hL) ?_
      refine E_iload_n dX12_skips_24 rfl ?_
      refine E_ialdL (v := nI (cN _ 134 _)) dX12_skips_25 (l_134 hL) (k_134 hL) rfl (by first | omega | exact h.n256 _) (by decide) (h.gc (Or.inl ⟨by decide, by decide, by decide⟩)) ?_
      refine E_iconst (v := nI 2) dX12_skips_26 (by decide) ?_
      refine E_isub dX12_skips_27 ?_
      refine E_icmp_eq (tgt := 35) dX12_skips_28 (by decide) (fun c_28 => ?_) (fun c_28 => ?_)
      · have c_28 := (dI_eq2 (by omega) (by omega)).mp c_28
        refine E_iconst (v := nI 0) dX12_skips_35 (by decide) ?_
        refine E_iret dX12_skips_36 (Or.inr ⟨rfl, by decide⟩) ?_
        rw [← b2i_f (P := skp c f l (yN (gat L i))) (by unfold skp; omega)]; exact K
      · have c_28 : ¬ cN c 137 (256 * f + yN (gat L i)) + 1 = cN c 134 l := fun q => c_28 ((dI_eq2 (by omega) (by omega)).mpr q)
        refine E_iconst (v := nI 1) dX12_skips_31 (by decide) ?_
        refine E_goto (tgt := 36) dX12_skips_32 (by decide) ?_
        refine E_iret dX12_skips_36 (Or.inr ⟨rfl, by decide⟩) ?_
        rw [← b2i_t (P := skp c f l (yN (gat L i))) (by unfold skp; omega)]; exact K
set_option maxRecDepth 100000 in
set_option maxHeartbeats 4000000 in
theorem sp_X12_is {g : gG} {M : gM} {Q : Option Value ⊕ String → gM → Prop} {c : Cf} {f : Nat} {M0 : gM} {L : List Gl} {w : Int32} (h : mX c f M0 L w M) {item : Int32} {i : Nat} (hi : i < L.length) (K : Q (.inl (some (.int (b2i (isAt c f item (yN (gat L i))))))) M) : E g 2 0 0 mX12_is 0 [.ref 129, .int item, .int (nI i)] [] M Q := by
  have hL := h.lay
  have hf := h.hf
  have hn := h.len
  have h1 := (h.ok.at i).1
  refine E_aload_n dX12_is_0 rfl ?_
  refine E_iload_n dX12_is_1 rfl ?_
  refine E_aload_n dX12_is_2 rfl ?_
  refine E_getRL dX12_is_3 kF_X12_63 kY_12 (Or.inr ⟨_, rfl⟩) (l_128 hL) (k_128 hL) (r_128_22 hL) ?_
  refine E_iload_n dX12_is_6 rfl ?_
  refine E_ialdL (v := nI (yN (gat _ _))) dX12_is_7 (l_145 hL) (k_145 hL) rfl (by first | omega | exact h.n256 _) (by decide) (h.at (by omega)).1 ?_
  refine E_aload_n dX12_is_8 rfl ?_
  refine E_getIL (v := nI f) dX12_is_9 kF_X12_279 kY_12 (Or.inl rfl) (l_128 hL) (k_128 hL) h.gf ?_
  refine E_callV3 (fr' := 1) (k1 := 0) (n1 := 0) (k2 := 0) (n2 := 0) dX12_is_12 kO_X12_isOf kL_X12_208 (l_128 hL) (k_128 hL) ⟨by decide, rfl⟩ rfl rfl rfl (by decide) (by decide) (by exact Nat.le_of_ble_eq_true rfl) rfl ?_
  refine sp_X12_isOf hL hf h1 ?_
  refine gKv ?_
  refine E_iret dX12_is_15 (Or.inr ⟨rfl, b2i_01 _⟩) ?_
  rw [b2i_congr (R := isAt c f item (yN (gat L i))) (by unfold iOf isAt; rw [h.gc (Or.inl ⟨by decide, by decide, by decide⟩)])]; exact K
set_option maxRecDepth 100000 in
set_option maxHeartbeats 4000000 in
theorem sp_X12_has {g : gG} {M : gM} {Q : Option Value ⊕ String → gM → Prop} {c : Cf} {f : Nat} {M0 : gM} {L : List Gl} {w : Int32} (h : mX c f M0 L w M) {l : Nat} (hl : l < 24) {i : Nat} (hi : i < L.length) (K : Q (.inl (some (.int (b2i (hasF c l (gat L i)))))) M) : E g 1 0 0 mX12_has 0 [.ref 129, .int (nI l), .int (nI i), .null] [] M Q := by
  have hL := h.lay
  have hf := h.hf
  have hn := h.len
  have h1 := (h.wf.lk l).2.1
  have h2 := h.e4 i
  refine E_aload_n dX12_has_0 rfl ?_
  refine E_getRL dX12_has_1 kF_X12_16 kY_12 (Or.inr ⟨_, rfl⟩) (l_128 hL) (k_128 hL) (r_128_4 hL) ?_
  refine E_iload_n dX12_has_4 rfl ?_
  refine E_ialdL (v := nI (cN _ 131 _)) dX12_has_5 (l_131 hL) (k_131 hL) rfl (by first | omega | exact h.n256 _) (by decide) (h.gc (Or.inl ⟨by decide, by decide, by decide⟩)) ?_
  refine E_istore_n dX12_has_6 (Nat.le_of_ble_eq_true rfl) (by decide) rfl ?_
  refine E_iload_n dX12_has_7 rfl ?_
  refine E_if_eq_n (tgt := 42) dX12_has_8 (by decide) (by omega) (fun c_8 => ?_) (fun c_8 => ?_)
  · refine E_iconst (v := nI 1) dX12_has_42 (by decide) ?_
    refine E_goto (tgt := 47) dX12_has_43 (by decide) ?_
    refine E_iret dX12_has_47 (Or.inr ⟨rfl, by decide⟩) ?_
    rw [← b2i_t (P := hasF c l (gat L i)) (by unfold hasF; clear K h hL; grind)]; exact K
  · refine E_iload_n dX12_has_11 rfl ?_
    refine E_iconst (v := nI 5) dX12_has_12 (by decide) ?_
    refine E_icmp_ge_n (tgt := 28) dX12_has_13 (by decide) (by omega) (by omega) (fun c_13 => ?_) (fun c_13 => ?_)
    · refine E_iload_n dX12_has_28 rfl ?_
      refine E_iconst (v := nI 5) dX12_has_29 (by decide) ?_
      refine E_icmp_ne_n (tgt := 46) dX12_has_30 (by decide) (by omega) (by omega) (fun c_30 => ?_) (fun c_30 => ?_)
      · refine E_iconst (v := nI 0) dX12_has_46 (by decide) ?_
        refine E_iret dX12_has_47 (Or.inr ⟨rfl, by decide⟩) ?_
        rw [← b2i_f (P := hasF c l (gat L i)) (by unfold hasF; clear K h hL; grind)]; exact K
      · refine E_aload_n dX12_has_33 rfl ?_
        refine E_getRL dX12_has_34 kF_X12_72 kY_12 (Or.inr ⟨_, rfl⟩) (l_128 hL) (k_128 hL) (r_128_25 hL) ?_
        refine E_iload_n dX12_has_37 rfl ?_
        refine E_ialdL (v := nI (yE (gat _ _))) dX12_has_38 (l_148 hL) (k_148 hL) rfl (by first | omega | exact h.n256 _) (by decide) (h.at (by omega)).2.2.2.1 ?_
        refine E_if_le_n (tgt := 46) dX12_has_39 (by decide) (by omega) (fun c_39 => ?_) (fun c_39 => ?_)
        · refine E_iconst (v := nI 0) dX12_has_46 (by decide) ?_
          refine E_iret dX12_has_47 (Or.inr ⟨rfl, by decide⟩) ?_
          rw [← b2i_f (P := hasF c l (gat L i)) (by unfold hasF; clear K h hL; grind)]; exact K
        · refine E_iconst (v := nI 1) dX12_has_42 (by decide) ?_
          refine E_goto (tgt := 47) dX12_has_43 (by decide) ?_
          refine E_iret dX12_has_47 (Or.inr ⟨rfl, by decide⟩) ?_
          rw [← b2i_t (P := hasF c l (gat L i)) (by unfold hasF; clear K h hL; grind)]; exact K
    · refine E_aload_n dX12_has_16 rfl ?_
      refine E_getRL dX12_has_17 kF_X12_69 kY_12 (Or.inr ⟨_, rfl⟩) (l_128 hL) (k_128 hL) (r_128_24 hL) ?_
      refine E_iload_n dX12_has_20 rfl ?_
      refine E_ialdL (v := yF (gat _ _)) dX12_has_21 (l_147 hL) (k_147 hL) rfl (by first | omega | exact h.n256 _) (by decide) (h.at (by omega)).2.2.1 ?_
      refine E_iload_n dX12_has_22 rfl ?_
      refine E_iconst (v := nI 1) dX12_has_23 (by decide) ?_
      refine E_isub_d dX12_has_24 ?_
      refine E_icmp_eq (tgt := 42) dX12_has_25 (by decide) (fun c_25 => ?_) (fun c_25 => ?_)
      · refine E_iconst (v := nI 1) dX12_has_42 (by decide) ?_
        refine E_goto (tgt := 47) dX12_has_43 (by decide) ?_
        refine E_iret dX12_has_47 (Or.inr ⟨rfl, by decide⟩) ?_
        rw [← b2i_t (P := hasF c l (gat L i)) (by unfold hasF; clear K h hL; grind)]; exact K
      · refine E_iload_n dX12_has_28 rfl ?_
        refine E_iconst (v := nI 5) dX12_has_29 (by decide) ?_
        refine E_icmp_ne_n (tgt := 46) dX12_has_30 (by decide) (by omega) (by omega) (fun c_30 => ?_) (fun c_30 => ?_)
        · refine E_iconst (v := nI 0) dX12_has_46 (by decide) ?_
          refine E_iret dX12_has_47 (Or.inr ⟨rfl, by decide⟩) ?_
          rw [← b2i_f (P := hasF c l (gat L i)) (by unfold hasF; clear K h hL; grind)]; exact K
        · refine E_aload_n dX12_has_33 rfl ?_
          refine E_getRL dX12_has_34 kF_X12_72 kY_12 (Or.inr ⟨_, rfl⟩) (l_128 hL) (k_128 hL) (r_128_25 hL) ?_
          refine E_iload_n dX12_has_37 rfl ?_
          refine E_ialdL (v := nI (yE (gat _ _))) dX12_has_38 (l_148 hL) (k_148 hL) rfl (by first | omega | exact h.n256 _) (by decide) (h.at (by omega)).2.2.2.1 ?_
          refine E_if_le_n (tgt := 46) dX12_has_39 (by decide) (by omega) (fun c_39 => ?_) (fun c_39 => ?_)
          · refine E_iconst (v := nI 0) dX12_has_46 (by decide) ?_
            refine E_iret dX12_has_47 (Or.inr ⟨rfl, by decide⟩) ?_
            rw [← b2i_f (P := hasF c l (gat L i)) (by unfold hasF; clear K h hL; grind)]; exact K
          · refine E_iconst (v := nI 1) dX12_has_42 (by decide) ?_
            refine E_goto (tgt := 47) dX12_has_43 (by decide) ?_
            refine E_iret dX12_has_47 (Or.inr ⟨rfl, by decide⟩) ?_
            rw [← b2i_t (P := hasF c l (gat L i)) (by unfold hasF; clear K h hL; grind)]; exact K
set_option maxRecDepth 100000 in
set_option maxHeartbeats 4000000 in
theorem lp_X12_after {g : gG} {M : gM} {Q : Option Value ⊕ String → gM → Prop} {c : Cf} {f : Nat} {M0 : gM} {L : List Gl} {w : Int32} (h : mX c f M0 L w M) {l : Nat} (hl : l < 24) {i : Nat} (K : Q (.inl (some (.int (nI (aft c f l L i))))) M) : ∀ k, k ≤ L.length → fnd (fun k => ¬ skp c f l (yN (gat L k))) L.length k = aft c f l L i → E g 3 0 0 mX12_after 4 [.ref 129, .int (nI l), .int (nI i), .int (nI k)] [] M Q := by
  have hL := h.lay
  have hf := h.hf
  have hn := h.len
  refine lpUp L.length (fun k hk ih => ?_)
  intro he
  refine E_iload_n dX12_after_4 rfl ?_
  refine E_aload_n dX12_after_5 rfl ?_
  refine E_getIL (v := nI _) dX12_after_6 kF_X12_235 kY_12 (Or.inl rfl) (l_128 hL) (k_128 hL) h.gn ?_
  refine E_icmp_ge_n (tgt := 27) dX12_after_9 (by decide) (by omega) (by omega) (fun c_9 => ?_) (fun c_9 => ?_)
  · refine E_iload_n dX12_after_27 rfl ?_
    refine E_iret dX12_after_28 (Or.inl rfl) ?_
    first
      | (rw [fnd_end (by omega)] at he; rw [he]; exact K)
      | (rw [fnd_hit (by omega) (by assumption)] at he; rw [he]; exact K)
  · refine E_aload_n dX12_after_12 rfl ?_
    refine E_iload_n dX12_after_13 rfl ?_
    refine E_iload_n dX12_after_14 rfl ?_
    refine E_callV2 (fr' := 2) (k1 := 0) (n1 := 0) (k2 := 0) (n2 := 0) dX12_after_15 kO_X12_skips kL_X12_285 (l_128 hL) (k_128 hL) ⟨by decide, rfl⟩ rfl rfl (by decide) (by decide) (by exact Nat.le_of_ble_eq_true rfl) rfl ?_
    refine sp_X12_skips h (by omega) (by omega) ?_
    refine gKv ?_
    refine E_if_eq_b (tgt := 27) dX12_after_18 (by decide) (fun c_18 => ?_) (fun c_18 => ?_)
    · refine E_iload_n dX12_after_27 rfl ?_
      refine E_iret dX12_after_28 (Or.inl rfl) ?_
      first
        | (rw [fnd_end (by omega)] at he; rw [he]; exact K)
        | (rw [fnd_hit (by omega) (by assumption)] at he; rw [he]; exact K)
    · refine E_iinc_n (d := 1) dX12_after_21 rfl rfl rfl (by decide) rfl ?_
      refine E_goto (tgt := 4) dX12_after_24 (by decide) ?_
      exact ih (by omega) (by rw [← he]; exact (fnd_skip (by omega) (not_not_intro (by assumption))).symm)
set_option maxRecDepth 100000 in
set_option maxHeartbeats 4000000 in
theorem sp_X12_after {g : gG} {M : gM} {Q : Option Value ⊕ String → gM → Prop} {c : Cf} {f : Nat} {M0 : gM} {L : List Gl} {w : Int32} (h : mX c f M0 L w M) {l : Nat} (hl : l < 24) {i : Nat} (hi : i < L.length) (K : Q (.inl (some (.int (nI (aft c f l L i))))) M) : E g 3 0 0 mX12_after 0 [.ref 129, .int (nI l), .int (nI i), .null] [] M Q := by
  have hL := h.lay
  have hf := h.hf
  have hn := h.len
  refine E_iload_n dX12_after_0 rfl ?_
  refine E_iconst (v := nI 1) dX12_after_1 (by decide) ?_
  refine E_iadd_n dX12_after_2 ?_
  refine E_istore_n dX12_after_3 (Nat.le_of_ble_eq_true rfl) (by decide) rfl ?_
  exact lp_X12_after h hl K (i + 1) (by omega) rfl
set_option maxRecDepth 100000 in
set_option maxHeartbeats 4000000 in
theorem lp_X12_ahead {g : gG} {M : gM} {Q : Option Value ⊕ String → gM → Prop} {c : Cf} {f : Nat} {M0 : gM} {L : List Gl} {w : Int32} (h : mX c f M0 L w M) {l : Nat} (hl : l < 24) {i : Nat} (hi : i ≤ L.length) (K : Q (.inl (some (.int (dI (ahd c f l L i))))) M) : ∀ k, 0 ≤ k → k ≤ i → rfd (fun k => ¬ skp c f l (yN (gat L k))) k = ahd c f l L i → E g 3 0 0 mX12_ahead 4 [.ref 129, .int (nI l), .int (nI i), .int (dI k)] [] M Q := by
  have hL := h.lay
  have hf := h.hf
  have hn := h.len
  refine lpDn 0 (fun k _ ih => ?_)
  intro hk he
  refine E_iload_n dX12_ahead_4 rfl ?_
  refine E_if_lt_d (tgt := 23) dX12_ahead_5 (by decide) (by omega) (fun c_5 => ?_) (fun c_5 => ?_)
  · refine E_iload_n dX12_ahead_23 rfl ?_
    refine E_iret dX12_ahead_24 (Or.inl rfl) ?_
    rw [← he] at K; subst c_5; exact K
  · obtain ⟨k, rfl⟩ : ∃ z, k = z + 1 := ⟨k - 1, by omega⟩
    rw [dI_succ]
    refine E_aload_n dX12_ahead_8 rfl ?_
    refine E_iload_n dX12_ahead_9 rfl ?_
    refine E_iload_n dX12_ahead_10 rfl ?_
    refine E_callV2 (fr' := 2) (k1 := 0) (n1 := 0) (k2 := 0) (n2 := 0) dX12_ahead_11 kO_X12_skips kL_X12_285 (l_128 hL) (k_128 hL) ⟨by decide, rfl⟩ rfl rfl (by decide) (by decide) (by exact Nat.le_of_ble_eq_true rfl) rfl ?_
    refine sp_X12_skips h (by omega) (by omega) ?_
    refine gKv ?_
    refine E_if_eq_b (tgt := 23) dX12_ahead_14 (by decide) (fun c_14 => ?_) (fun c_14 => ?_)
    · refine E_iload_n dX12_ahead_23 rfl ?_
      refine E_iret dX12_ahead_24 (Or.inl rfl) ?_
      rw [rfd_t (by assumption)] at he; rw [← he, dI_succ] at K; exact K
    · refine E_iinc_d dX12_ahead_17 rfl rfl (by decide) rfl ?_
      refine E_goto (tgt := 4) dX12_ahead_20 (by decide) ?_
      exact ih (by omega) (by omega) (by rw [← he]; exact (rfd_f (not_not_intro (by assumption))).symm)
set_option maxRecDepth 100000 in
set_option maxHeartbeats 4000000 in
theorem sp_X12_ahead {g : gG} {M : gM} {Q : Option Value ⊕ String → gM → Prop} {c : Cf} {f : Nat} {M0 : gM} {L : List Gl} {w : Int32} (h : mX c f M0 L w M) {l : Nat} (hl : l < 24) {i : Nat} (hi : i ≤ L.length) (K : Q (.inl (some (.int (dI (ahd c f l L i))))) M) : E g 3 0 0 mX12_ahead 0 [.ref 129, .int (nI l), .int (nI i), .null] [] M Q := by
  have hL := h.lay
  have hf := h.hf
  have hn := h.len
  refine E_iload_n dX12_ahead_0 rfl ?_
  refine E_iconst (v := nI 1) dX12_ahead_1 (by decide) ?_
  refine E_isub_d dX12_ahead_2 ?_
  refine E_istore_n dX12_ahead_3 (Nat.le_of_ble_eq_true rfl) (by decide) rfl ?_
  exact lp_X12_ahead h hl hi K i (Nat.zero_le _) (Nat.le_refl _) rfl
theorem in_row {n p : Nat} (hn : n < 2 ^ 30) (hp : p < 2 ^ 30) : iIn (dI p) (nI 0) (dI n) ↔ 1 ≤ p ∧ p ≤ n := by
  unfold iIn
  rw [Int32.le_iff_toInt_le, Int32.le_iff_toInt_le, dI_toInt hn, dI_toInt hp, nI_toInt (by decide)]
  omega
set_option maxRecDepth 100000 in
set_option maxHeartbeats 4000000 in
theorem sp_X12_isThere {g : gG} {M : gM} {Q : Option Value ⊕ String → gM → Prop} {c : Cf} {f : Nat} {M0 : gM} {L : List Gl} {w : Int32} (h : mX c f M0 L w M) {item : Int32} {p : Nat} (hp : p ≤ L.length + 1) (K : Q (.inl (some (.int (b2i (thr c f L item p))))) M) : E g 3 0 0 mX12_isThere 0 [.ref 129, .int item, .int (dI p)] [] M Q := by
  have hL := h.lay
  have hf := h.hf
  have hn := h.len
  refine E_iload_n dX12_isThere_0 rfl ?_
  refine E_bipush (v := -100) dX12_isThere_1 (by decide) ?_
  refine E_icmp_eq (tgt := 29) dX12_isThere_3 (by decide) (fun c_3 => ?_) (fun c_3 => ?_)
  · refine E_iconst (v := nI 1) dX12_isThere_29 (by decide) ?_
    refine E_goto (tgt := 34) dX12_isThere_30 (by decide) ?_
    refine E_iret dX12_isThere_34 (Or.inr ⟨rfl, by decide⟩) ?_
    rw [← b2i_t (P := thr c f L item p) (by unfold thr; simp_all [in_row]; try omega)]; exact K
  · refine E_iload_n dX12_isThere_6 rfl ?_
    refine E_iconst (v := nI 0) dX12_isThere_7 (by decide) ?_
    refine E_aload_n dX12_isThere_8 rfl ?_
    refine E_getIL (v := nI _) dX12_isThere_9 kF_X12_235 kY_12 (Or.inl rfl) (l_128 hL) (k_128 hL) h.gn ?_
    refine E_iconst (v := nI 1) dX12_isThere_12 (by decide) ?_
    refine E_isub_d dX12_isThere_13 ?_
    refine E_callS3 (fr' := 1) (k1 := 0) (n1 := 0) (k2 := 0) (n2 := 0) dX12_isThere_14 kO_X12_in kL_X12_162 rfl rfl rfl (by decide) (by decide) (by exact Nat.le_of_ble_eq_true rfl) (Or.inl rfl) rfl ?_
    refine sp_X12_in ?_
    refine gKv ?_
    refine E_if_eq_b (tgt := 33) dX12_isThere_17 (by decide) (fun c_17 => ?_) (fun c_17 => ?_)
    · rw [in_row (by omega) (by omega)] at c_17
      refine E_iconst (v := nI 0) dX12_isThere_33 (by decide) ?_
      refine E_iret dX12_isThere_34 (Or.inr ⟨rfl, by decide⟩) ?_
      rw [← b2i_f (P := thr c f L item p) (by unfold thr; exact fun q => q.elim c_3 (fun q => c_17 ⟨q.1, q.2.1⟩))]; exact K
    · rw [in_row (by omega) (by omega)] at c_17
      obtain ⟨p, rfl⟩ : ∃ z, p = z + 1 := ⟨p - 1, by omega⟩
      rw [dI_succ]
      refine E_aload_n dX12_isThere_20 rfl ?_
      refine E_iload_n dX12_isThere_21 rfl ?_
      refine E_iload_n dX12_isThere_22 rfl ?_
      refine E_callV2 (fr' := 2) (k1 := 0) (n1 := 0) (k2 := 0) (n2 := 0) dX12_isThere_23 kO_X12_is kL_X12_288 (l_128 hL) (k_128 hL) ⟨by decide, rfl⟩ rfl rfl (by decide) (by decide) (by exact Nat.le_of_ble_eq_true rfl) rfl ?_
      refine sp_X12_is h (by omega) ?_
      refine gKv ?_
      refine E_if_eq_b (tgt := 33) dX12_isThere_26 (by decide) (fun c_26 => ?_) (fun c_26 => ?_)
      · refine E_iconst (v := nI 0) dX12_isThere_33 (by decide) ?_
        refine E_iret dX12_isThere_34 (Or.inr ⟨rfl, by decide⟩) ?_
        rw [← b2i_f (P := thr c f L item (p + 1)) (by unfold thr; rw [Nat.add_sub_cancel]; clear K h hL; grind)]; exact K
      · refine E_iconst (v := nI 1) dX12_isThere_29 (by decide) ?_
        refine E_goto (tgt := 34) dX12_isThere_30 (by decide) ?_
        refine E_iret dX12_isThere_34 (Or.inr ⟨rfl, by decide⟩) ?_
        rw [← b2i_t (P := thr c f L item (p + 1)) (by unfold thr; rw [Nat.add_sub_cancel]; clear K h hL; grind)]; exact K
set_option maxRecDepth 100000 in
set_option maxHeartbeats 4000000 in
theorem sp_X12_isThereN {g : gG} {M : gM} {Q : Option Value ⊕ String → gM → Prop} {c : Cf} {f : Nat} {M0 : gM} {L : List Gl} {w : Int32} (h : mX c f M0 L w M) {item : Int32} {i : Nat} (hp : i ≤ L.length) (K : Q (.inl (some (.int (b2i (thr c f L item (i + 1)))))) M) : E g 3 0 0 mX12_isThere 0 [.ref 129, .int item, .int (nI i)] [] M Q := by
  rw [← dI_succ]
  exact sp_X12_isThere h (by omega) K
set_option maxRecDepth 100000 in
set_option maxHeartbeats 4000000 in
theorem sp_X12_numberOf {g : gG} {M : gM} {Q : Option Value ⊕ String → gM → Prop} {c : Cf} {f : Nat} {M0 : gM} {L : List Gl} {w : Int32} (h : mX c f M0 L w M) {l : Nat} (hl : l < 24) {k w0 : Nat} (hk : k < 8) (hw : w0 < 6) (K : Q (.inl (some (.int (rul c l k w0)))) M) : E g 1 0 0 mX12_numberOf 0 [.ref 129, .int (nI l), .int (nI k), .int (nI w0)] [] M Q := by
  have hL := h.lay
  have hf := h.hf
  have hn := h.len
  refine E_aload_n dX12_numberOf_0 rfl ?_
  refine E_getRL dX12_numberOf_1 kF_X12_31 kY_12 (Or.inr ⟨_, rfl⟩) (l_128 hL) (k_128 hL) (r_128_9 hL) ?_
  refine E_bipush (v := nI 6) dX12_numberOf_4 (by decide) ?_
  refine E_bipush (v := nI 8) dX12_numberOf_6 (by decide) ?_
  refine E_iload_n dX12_numberOf_8 rfl ?_
  refine E_imul_n dX12_numberOf_9 ?_
  refine E_iload_n dX12_numberOf_10 rfl ?_
  refine E_iadd_n dX12_numberOf_11 ?_
  refine E_imul_n dX12_numberOf_12 ?_
  refine E_iload_n dX12_numberOf_13 rfl ?_
  refine E_iadd_n dX12_numberOf_14 ?_
  refine E_ialdL (v := cR _ _) dX12_numberOf_15 (l_136 hL) (k_136 hL) rfl (by first | omega | exact h.n256 _) (by decide) (h.gr _) ?_
  refine E_iret dX12_numberOf_16 (Or.inl rfl) ?_
  exact K
set_option maxRecDepth 100000 in
set_option maxHeartbeats 4000000 in
theorem sp_X12_isForTongue {g : gG} {M : gM} {Q : Option Value ⊕ String → gM → Prop} {c : Cf} {f : Nat} {M0 : gM} {L : List Gl} {w : Int32} (h : mX c f M0 L w M) {l : Nat} (hl : l < 24) (K : Q (.inl (some (.int (b2i (cN c 133 l = 0 ∨ cN c 133 l = cN c 128 17))))) M) : E g 1 0 0 mX12_isForTongue 0 [.ref 129, .int (nI l)] [] M Q := by
  have hL := h.lay
  have hf := h.hf
  have hn := h.len
  have h1 := (h.wf.lk l).2.2.2.1
  have h2 := h.wf.1.2.2.2
  refine E_aload_n dX12_isForTongue_0 rfl ?_
  refine E_getRL dX12_isForTongue_1 kF_X12_22 kY_12 (Or.inr ⟨_, rfl⟩) (l_128 hL) (k_128 hL) (r_128_6 hL) ?_
  refine E_iload_n dX12_isForTongue_4 rfl ?_
  refine E_ialdL (v := nI (cN _ 133 _)) dX12_isForTongue_5 (l_133 hL) (k_133 hL) rfl (by first | omega | exact h.n256 _) (by decide) (h.gc (Or.inl ⟨by decide, by decide, by decide⟩)) ?_
  refine E_if_eq_n (tgt := 22) dX12_isForTongue_6 (by decide) (by omega) (fun c_6 => ?_) (fun c_6 => ?_)
  · refine E_iconst (v := nI 1) dX12_isForTongue_22 (by decide) ?_
    refine E_goto (tgt := 27) dX12_isForTongue_23 (by decide) ?_
    refine E_iret dX12_isForTongue_27 (Or.inr ⟨rfl, by decide⟩) ?_
    rw [← b2i_t (P := cN c 133 l = 0 ∨ cN c 133 l = cN c 128 17) (by omega)]; exact K
  · refine E_aload_n dX12_isForTongue_9 rfl ?_
    refine E_getRL dX12_isForTongue_10 kF_X12_22 kY_12 (Or.inr ⟨_, rfl⟩) (l_128 hL) (k_128 hL) (r_128_6 hL) ?_
    refine E_iload_n dX12_isForTongue_13 rfl ?_
    refine E_ialdL (v := nI (cN _ 133 _)) dX12_isForTongue_14 (l_133 hL) (k_133 hL) rfl (by first | omega | exact h.n256 _) (by decide) (h.gc (Or.inl ⟨by decide, by decide, by decide⟩)) ?_
    refine E_aload_n dX12_isForTongue_15 rfl ?_
    refine E_getIL (v := nI (cN _ 128 17)) dX12_isForTongue_16 kF_X12_53 kY_12 (Or.inl rfl) (l_128 hL) (k_128 hL) (h.gc (Or.inr ⟨rfl, by decide⟩)) ?_
    refine E_icmp_ne_n (tgt := 26) dX12_isForTongue_19 (by decide) (by omega) (by omega) (fun c_19 => ?_) (fun c_19 => ?_)
    · refine E_iconst (v := nI 0) dX12_isForTongue_26 (by decide) ?_
      refine E_iret dX12_isForTongue_27 (Or.inr ⟨rfl, by decide⟩) ?_
      rw [← b2i_f (P := cN c 133 l = 0 ∨ cN c 133 l = cN c 128 17) (by omega)]; exact K
    · refine E_iconst (v := nI 1) dX12_isForTongue_22 (by decide) ?_
      refine E_goto (tgt := 27) dX12_isForTongue_23 (by decide) ?_
      refine E_iret dX12_isForTongue_27 (Or.inr ⟨rfl, by decide⟩) ?_
      rw [← b2i_t (P := cN c 133 l = 0 ∨ cN c 133 l = cN c 128 17) (by omega)]; exact K
noncomputable def bhm (c : Cf) (f : Nat) (L : List Gl) (i : Nat) : Nat := fnd (fun k => ¬ 0 < cN c 137 (256 * f + yN (gat L k))) L.length i
set_option maxRecDepth 100000 in
set_option maxHeartbeats 4000000 in
theorem lp_X12_behindMarks {g : gG} {M : gM} {Q : Option Value ⊕ String → gM → Prop} {c : Cf} {f : Nat} {M0 : gM} {L : List Gl} {w : Int32} (h : mX c f M0 L w M) {i : Nat} (K : Q (.inl (some (.int (nI (bhm c f L i))))) M) : ∀ k, k ≤ L.length → fnd (fun k => ¬ 0 < cN c 137 (256 * f + yN (gat L k))) L.length k = bhm c f L i → E g 2 0 0 mX12_behindMarks 2 [.ref 129, .int (nI i), .int (nI k)] [] M Q := by
  have hL := h.lay
  have hf := h.hf
  have hn := h.len
  refine lpUp L.length (fun k hk ih => ?_)
  intro he
  have h1 := (h.wf.gl (256 * f + yN (gat L k))).1
  refine E_iload_n dX12_behindMarks_2 rfl ?_
  refine E_aload_n dX12_behindMarks_3 rfl ?_
  refine E_getIL (v := nI _) dX12_behindMarks_4 kF_X12_235 kY_12 (Or.inl rfl) (l_128 hL) (k_128 hL) h.gn ?_
  refine E_icmp_ge_n (tgt := 24) dX12_behindMarks_7 (by decide) (by omega) (by omega) (fun c_7 => ?_) (fun c_7 => ?_)
  · refine E_iload_n dX12_behindMarks_24 rfl ?_
    refine E_iret dX12_behindMarks_25 (Or.inl rfl) ?_
    first
      | (rw [fnd_end (by omega)] at he; rw [he]; exact K)
      | (rw [fnd_hit (by omega) (by simp; omega)] at he; rw [he]; exact K)
  · refine E_aload_n dX12_behindMarks_10 rfl ?_
    refine E_iload_n dX12_behindMarks_11 rfl ?_
    refine E_callV1 (fr' := 1) (k1 := 0) (n1 := 0) (k2 := 0) (n2 := 0) dX12_behindMarks_12 kO_X12_markAt kL_X12_282 (l_128 hL) (k_128 hL) ⟨by decide, rfl⟩ rfl (by decide) (by decide) (by exact Nat.le_of_ble_eq_true rfl) rfl ?_
    refine sp_X12_markAt h (by omega) ?_
    refine gKv ?_
    refine E_if_lt_d (tgt := 24) dX12_behindMarks_15 (by decide) (by omega) (fun c_15 => ?_) (fun c_15 => ?_)
    · refine E_iload_n dX12_behindMarks_24 rfl ?_
      refine E_iret dX12_behindMarks_25 (Or.inl rfl) ?_
      first
        | (rw [fnd_end (by omega)] at he; rw [he]; exact K)
        | (rw [fnd_hit (by omega) (by simp; omega)] at he; rw [he]; exact K)
    · refine E_iinc_n (d := 1) dX12_behindMarks_18 rfl rfl rfl (by decide) rfl ?_
      refine E_goto (tgt := 2) dX12_behindMarks_21 (by decide) ?_
      exact ih (by omega) (by rw [← he]; exact (fnd_skip (by omega) (by simp; omega)).symm)
set_option maxRecDepth 100000 in
set_option maxHeartbeats 4000000 in
theorem sp_X12_behindMarks {g : gG} {M : gM} {Q : Option Value ⊕ String → gM → Prop} {c : Cf} {f : Nat} {M0 : gM} {L : List Gl} {w : Int32} (h : mX c f M0 L w M) {i : Nat} (hi : i ≤ L.length) (K : Q (.inl (some (.int (nI (bhm c f L i))))) M) : E g 2 0 0 mX12_behindMarks 0 [.ref 129, .int (nI i), .null] [] M Q := by
  have hL := h.lay
  have hf := h.hf
  have hn := h.len
  refine E_iload_n dX12_behindMarks_0 rfl ?_
  refine E_istore_n dX12_behindMarks_1 (Nat.le_of_ble_eq_true rfl) (by decide) rfl ?_
  exact lp_X12_behindMarks h K i hi rfl
