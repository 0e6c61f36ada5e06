/-! the law: syllables; what goes back -/
theorem wPt_m {a : Nat} (h : a < 2 ^ 20) : wPt (-1) a = -1 := cI_t (by rw [← dI_0, dI_lt (by omega) (by omega)]; omega)
theorem wTa_m {a : Nat} (h : a < 2 ^ 20) : wTa (-1) a = -1 := cI_t (by rw [← dI_0, dI_le' (by omega) (by omega)]; omega)
theorem gat_rot {L : List Gl} {a b e j : Nat} (h : j < L.length) : gat (rotL L a b e) j = gat L (rotS a b e j) := gat_mkL h
theorem gat_add {L : List Gl} {x : Gl} {j : Nat} (h : j < L.length + 1) : gat (addL L x) j = if j < L.length then gat L j else x := gat_mkL h
theorem ins_add (L : List Gl) (x : Gl) : insL L L.length x = addL L x := row_ext (by rw [ins_len, add_len]) (fun j hj => by
  rw [ins_len] at hj
  rw [gat_ins hj, gat_add hj]
  by_cases e : j < L.length
  · rw [if_pos e, if_pos e]
  · rw [if_neg e, if_neg e, if_pos (by omega)])
theorem ins_rot {L : List Gl} {a i : Nat} (ha : a ≤ i) (hi : i < L.length) : insL (closeL L i) a (gat L i) = rotL L a i (i + 1) := row_ext (by rw [ins_len, clo_len, rot_len]; omega) (fun j hj => by
  rw [ins_len, clo_len] at hj
  rw [gat_ins (by rw [clo_len]; exact hj), gat_rot (by omega)]
  by_cases e1 : j < a
  · rw [if_pos e1, gat_close (by omega), if_pos (by omega)]; congr 1; unfold rotS; rw [if_pos e1]
  · rw [if_neg e1]; by_cases e2 : j = a
    · rw [if_pos e2]; congr 1; unfold rotS; rw [if_neg e1, if_pos (by omega)]; omega
    · rw [if_neg e2, gat_close (by omega)]; congr 1; unfold rotS; (repeat' split) <;> omega)
theorem ins_rot2 {L : List Gl} {a b : Nat} (ha : a ≤ b) (hb : b < L.length) : insL (closeL L a) b (gat L a) = rotL L a (a + 1) (b + 1) := row_ext (by rw [ins_len, clo_len, rot_len]; omega) (fun j hj => by
  rw [ins_len, clo_len] at hj
  rw [gat_ins (by rw [clo_len]; exact hj), gat_rot (by omega)]
  by_cases e1 : j < b
  · rw [if_pos e1, gat_close (by omega)]; congr 1; unfold rotS; (repeat' split) <;> omega
  · rw [if_neg e1]; by_cases e2 : j = b
    · rw [if_pos e2]; congr 1; unfold rotS; rw [if_neg (by omega), if_neg (by omega), if_pos (by omega)]; omega
    · rw [if_neg e2, gat_close (by omega), if_neg (by omega)]; congr 1; unfold rotS; rw [if_neg (by omega), if_neg (by omega), if_neg (by omega)]; omega)
theorem ins_clm {L : List Gl} {a : Nat} {x : Gl} (ha : a ≤ L.length) : insL L a x = rotL (addL L x) a L.length (L.length + 1) := row_ext (by rw [ins_len, rot_len, add_len]) (fun j hj => by
  rw [ins_len] at hj
  rw [gat_ins hj, gat_rot (by rw [add_len]; exact hj)]
  unfold rotS
  by_cases e1 : j < a
  · rw [if_pos e1, if_pos e1, gat_add hj, if_pos (by omega)]
  · rw [if_neg e1, if_neg e1]; by_cases e2 : j = a
    · rw [if_pos e2, if_pos (by omega), gat_add (by omega), if_neg (by omega)]
    · rw [if_neg e2, if_neg (by omega), if_pos (by omega), gat_add (by omega), if_pos (by omega)]; congr 1; omega)
theorem rot_step {L : List Gl} {a k e : Nat} (hk : a + k + 1 ≤ e) (he : e ≤ L.length) : rotL (rotL L a (a + k) e) a (a + 1) e = rotL L a (a + k + 1) e := row_ext (by rw [rot_len, rot_len, rot_len]) (fun j hj => by
  rw [rot_len, rot_len] at hj
  have h1 : rotS a (a + 1) e j < L.length := by unfold rotS; repeat' split
                                                all_goals omega
  rw [gat_rot (by rw [rot_len]; exact hj), gat_rot h1, gat_rot hj]
  congr 1
  unfold rotS
  repeat' split
  all_goals omega)
/-- all glyphs are new: one part each, none told -/
def nwL (L : List Gl) : Prop := ∀ k, k < L.length → zT (gat L k) = 1 ∧ zP (gat L k) = 0
theorem nw_new {its cl ex : Nat} {form : Int32} : zT (newG its cl ex form) = 1 ∧ zP (newG its cl ex form) = 0 := ⟨zT_j (by decide) rfl, zP_0 rfl⟩
theorem nw_ins {L : List Gl} {a : Nat} {x : Gl} (h : nwL L) (ha : a ≤ L.length) (hx : zT x = 1 ∧ zP x = 0) : nwL (insL L a x) := fun k hk => by
  rw [ins_len] at hk
  rw [gat_ins hk]
  split
  · exact h _ (by omega)
  · split
    · exact hx
    · exact h _ (by omega)
theorem nw_close {L : List Gl} (h : nwL L) (a : Nat) : nwL (closeL L a) := fun k hk => by
  rw [clo_len] at hk
  rw [gat_close hk]
  exact h _ (by split <;> omega)
theorem nw_E {L : List Gl} (h : nwL L) : bdE (3 ^ 0) L := fun k hk => by
  have := h k hk
  omega
theorem adS_at (c : Cf) (i : Nat) : ∀ t k L, (∀ j, j < L.length → gat (adS c i t k L) j = gat L j) ∧ ∀ j, j < t → gat (adS c i t k L) (L.length + j) = sgG c i (k + j) := by
  intro t
  induction t with
  | zero => exact fun k L => ⟨fun j _ => rfl, fun j hj => by omega⟩
  | succ t ih =>
    intro k L
    obtain ⟨h1, h2⟩ := ih (k + 1) (addL L (sgG c i k))
    have hl := add_len L (sgG c i k)
    refine ⟨fun j hj => ?_, fun j hj => ?_⟩
    · show gat (adS c i t (k + 1) (addL L (sgG c i k))) j = _
      rw [h1 j (by omega), gat_add (by omega), if_pos hj]
    · show gat (adS c i t (k + 1) (addL L (sgG c i k))) (L.length + j) = _
      by_cases e : j = 0
      · subst e
        rw [h1 _ (by omega), gat_add (by omega), if_neg (by omega)]; rfl
      · have := h2 (j - 1) (by omega)
        rw [hl, show L.length + 1 + (j - 1) = L.length + j by omega, show k + 1 + (j - 1) = k + j by omega] at this
        exact this
theorem b2i_ior (P : Prop) : b2i P ||| nI 1 = nI 1 ∧ b2i P ||| nI 0 = b2i P := by
  by_cases h : P
  · rw [b2i_t h]; decide
  · rw [b2i_f h]; decide
set_option maxRecDepth 100000 in
set_option maxHeartbeats 4000000 in
theorem sa_L_syllables {g : gG} {Q : Option Value ⊕ String → gM → Prop} {c : Cf} {f : Nat} {M0 : gM} {pw : Nat} {z : Int32} {a0 b i s e sg : Nat} : ∀ t (k to : Nat) (L : List Gl) (M : gM), lX c f M0 pw L (-1) z M → nwL L → k + t = L.length → to ≤ k → (∀ M v9 v10, lX c f M0 pw (sA t k to L) (-1) z M → nwL (sA t k to L) → E g 3 0 0 mL_syllables 379 [.ref (pw + 1), .ref 129, .ref 133, .int (nI a0), .int (nI b), .int (nI i), .int (nI sg), .int (nI s), .int (nI e), v9, v10] [] M Q) → E g 3 0 0 mL_syllables 333 [.ref (pw + 1), .ref 129, .ref 133, .int (nI a0), .int (nI b), .int (nI i), .int (nI sg), .int (nI s), .int (nI e), .int (nI to), .int (nI k)] [] M Q := by
  intro t
  induction t with
  | zero =>
    intro k to L M h hw hk hto K
    have hL := h.lay
    have hn := h.len
    have ht10 := h.S.t10
    refine E_iload dL_syllables_333 rfl ?_
    refine E_aload_n dL_syllables_335 rfl ?_
    refine E_iconst (v := nI 5) dL_syllables_336 (by decide) ?_
    refine E_ialdL (v := nI (List.length _)) dL_syllables_337 (l_132 hL) (k_132 hL) rfl (by omega) (by decide) h.a5 ?_
    refine E_icmp_ge_n (tgt := 379) dL_syllables_338 (by decide) (by omega) (by omega) (fun c_338 => ?_) (fun c_338 => ?_)
    · exact K M _ _ h hw
    · exfalso; omega
  | succ t ih =>
    intro k to L M h hw hk hto K
    have hL := h.lay
    have hn := h.len
    have ht10 := h.S.t10
    have hgl := (h.ok (i := k) (by omega)).b.1
    have hok := h.ok (i := k) (by omega)
    have hnw := hw k (by omega)
    refine E_iload dL_syllables_333 rfl ?_
    refine E_aload_n dL_syllables_335 rfl ?_
    refine E_iconst (v := nI 5) dL_syllables_336 (by decide) ?_
    refine E_ialdL (v := nI (List.length _)) dL_syllables_337 (l_132 hL) (k_132 hL) rfl (by omega) (by decide) h.a5 ?_
    refine E_icmp_ge_n (tgt := 379) dL_syllables_338 (by decide) (by omega) (by omega) (fun c_338 => ?_) (fun c_338 => ?_)
    · exfalso; omega
    · refine E_aload_n dL_syllables_341 rfl ?_
      refine E_iload dL_syllables_342 rfl ?_
      refine E_laldL (v := pk _) dL_syllables_344 h.plt h.pkd rfl (by omega) (by decide) (h.wk (by omega)) ?_
      refine E_callT1 (fr' := 1) (k1 := 0) (n1 := 0) (k2 := 0) (n2 := 0) dL_syllables_345 kO_L_glyphOf kL_L_108 (by exact Nat.le_of_ble_eq_true rfl) (by decide) (by exact Nat.le_of_ble_eq_true rfl) (Or.inl rfl) rfl ?_
      refine sp_L_glyphOf (h.ok (by omega)) ?_
      refine gKv ?_
      refine E_bipush (v := nI 40) dL_syllables_348 (by decide) ?_
      refine E_icmp_eq_n (tgt := 356) dL_syllables_350 (by decide) (by omega) (by omega) (fun c_350 => ?_) (fun c_350 => ?_)
      · refine E_aload_n dL_syllables_356 rfl ?_
        refine E_aload_n dL_syllables_357 rfl ?_
        refine E_iload dL_syllables_358 rfl ?_
        refine E_aload_n dL_syllables_360 rfl ?_
        refine E_aload_n dL_syllables_361 rfl ?_
        refine E_iload dL_syllables_362 rfl ?_
        refine E_callT3 (fr' := 1) (k1 := 0) (n1 := 0) (k2 := 0) (n2 := 0) dL_syllables_364 kO_L_take kL_L_153 (by exact Nat.le_of_ble_eq_true rfl) (by decide) (by exact Nat.le_of_ble_eq_true rfl) (Or.inl rfl) rfl ?_
        refine sp_L_take h (by omega) (fun M h => ?_)
        rw [wTa_m (by omega)] at h
        have hL := h.lay
        have hln := clo_len L k
        refine gKv ?_
        refine E_callT4 (fr' := 1) (k1 := 0) (n1 := 0) (k2 := 0) (n2 := 0) dL_syllables_367 kO_L_put kL_L_136 (by exact Nat.le_of_ble_eq_true rfl) (by decide) (by exact Nat.le_of_ble_eq_true rfl) (Or.inl rfl) rfl ?_
        refine sp_L_put h (by omega) (by omega) hok (fun M h => ?_)
        rw [wPt_m (by omega), ins_rot hto (by omega)] at h
        have hL := h.lay
        refine gKn ?_
        refine E_iinc_n (d := 1) dL_syllables_370 rfl rfl rfl (by decide) rfl ?_
        refine E_iinc_n (d := 1) dL_syllables_373 rfl rfl rfl (by decide) rfl ?_
        refine E_goto (tgt := 333) dL_syllables_376 (by decide) ?_
        first
          | (have e : sA (t + 1) k to L = sA t (k + 1) (to + 1) (rotL L to k (k + 1)) := cI_t c_350
             rw [e] at K
             exact ih _ _ _ M h (by rw [← ins_rot hto (by omega)]; exact nw_ins (nw_close hw k) (by rw [clo_len]; omega) hnw) (by rw [rot_len]; omega) (by omega) K)
          | (have e : sA (t + 1) k to L = sA t (k + 1) to L := cI_f c_350
             rw [e] at K
             exact ih _ _ _ M h hw (by omega) (by omega) K)
      · refine E_goto (tgt := 373) dL_syllables_353 (by decide) ?_
        refine E_iinc_n (d := 1) dL_syllables_373 rfl rfl rfl (by decide) rfl ?_
        refine E_goto (tgt := 333) dL_syllables_376 (by decide) ?_
        first
          | (have e : sA (t + 1) k to L = sA t (k + 1) (to + 1) (rotL L to k (k + 1)) := cI_t c_350
             rw [e] at K
             exact ih _ _ _ M h (by rw [← ins_rot hto (by omega)]; exact nw_ins (nw_close hw k) (by rw [clo_len]; omega) hnw) (by rw [rot_len]; omega) (by omega) K)
          | (have e : sA (t + 1) k to L = sA t (k + 1) to L := cI_f c_350
             rw [e] at K
             exact ih _ _ _ M h hw (by omega) (by omega) K)
set_option maxRecDepth 100000 in
set_option maxHeartbeats 4000000 in
theorem ad_L_syllables {g : gG} {Q : Option Value ⊕ String → gM → Prop} {c : Cf} {f : Nat} {M0 : gM} {pw : Nat} {z : Int32} {v10 : Value} {a0 b i s e sg : Nat} (hib : i < 16) (he : e ≤ tl c) : ∀ t (k : Nat) (L : List Gl) (M : gM), lX c f M0 pw L (-1) z M → nwL L → k + t = e → L.length + t ≤ 60 → (∀ M v9, lX c f M0 pw (adS c i t k L) (-1) z M → nwL (adS c i t k L) → E g 3 0 0 mL_syllables 168 [.ref (pw + 1), .ref 129, .ref 133, .int (nI a0), .int (nI b), .int (nI i), .int (nI sg), .int (nI s), .int (nI e), v9, v10] [] M Q) → E g 3 0 0 mL_syllables 127 [.ref (pw + 1), .ref 129, .ref 133, .int (nI a0), .int (nI b), .int (nI i), .int (nI sg), .int (nI s), .int (nI e), .int (nI k), v10] [] M Q := by
  intro t
  induction t with
  | zero =>
    intro k L M h hw hk hl K
    have hL := h.lay
    have hn := h.len
    have ht10 := h.S.t10
    refine E_iload dL_syllables_127 rfl ?_
    refine E_iload dL_syllables_129 rfl ?_
    refine E_icmp_ge_n (tgt := 168) dL_syllables_131 (by decide) (by omega) (by omega) (fun c_131 => ?_) (fun c_131 => ?_)
    · exact K M _ h hw
    · exfalso; omega
  | succ t ih =>
    intro k L M h hw hk hl K
    have hL := h.lay
    have hn := h.len
    have ht10 := h.S.t10
    have hsg := sgZ_gl (h.S.sg (k := k) (by omega))
    have hx1 := glZ_256 hsg
    have hx2 := tEn_b h.wf k
    have hnk : okZ (newG (cN c 141 k) i (cN c 142 k) (-100)) := okZ_new hsg (by omega) (by omega) (Or.inl rfl)
    refine E_iload dL_syllables_127 rfl ?_
    refine E_iload dL_syllables_129 rfl ?_
    refine E_icmp_ge_n (tgt := 168) dL_syllables_131 (by decide) (by omega) (by omega) (fun c_131 => ?_) (fun c_131 => ?_)
    · exfalso; omega
    · refine E_aload_n dL_syllables_134 rfl ?_
      refine E_aload_n dL_syllables_135 rfl ?_
      refine E_aload_n dL_syllables_136 rfl ?_
      refine E_iconst (v := nI 5) dL_syllables_137 (by decide) ?_
      refine E_ialdL (v := nI (List.length _)) dL_syllables_138 (l_132 hL) (k_132 hL) rfl (by omega) (by decide) h.a5 ?_
      refine E_aload_n dL_syllables_139 rfl ?_
      refine E_iload dL_syllables_140 rfl ?_
      refine E_ialdL (v := nI (tEn _ _)) dL_syllables_142 (l_128 hL) (k_128 hL) rfl (by omega) (by decide) (h.tx (by omega)) ?_
      refine E_bipush (v := nI 63) dL_syllables_143 (by decide) ?_
      refine E_iand dL_syllables_145 ?_
      rw [tE_63 h.wf]
      refine E_iload dL_syllables_146 rfl ?_
      refine E_iconst (v := nI 4) dL_syllables_148 (by decide) ?_
      refine E_aload_n dL_syllables_149 rfl ?_
      refine E_iload dL_syllables_150 rfl ?_
      refine E_ialdL (v := nI (tEn _ _)) dL_syllables_152 (l_128 hL) (k_128 hL) rfl (by omega) (by decide) (h.tx (by omega)) ?_
      refine E_bipush (v := nI 6) dL_syllables_153 (by decide) ?_
      refine E_ishr dL_syllables_155 ?_
      rw [tE_6 h.wf]
      refine E_callT4 (fr' := 1) (k1 := 0) (n1 := 0) (k2 := 0) (n2 := 0) dL_syllables_156 kO_L_packed kL_L_185 (by exact Nat.le_of_ble_eq_true rfl) (by decide) (by exact Nat.le_of_ble_eq_true rfl) (Or.inl rfl) rfl ?_
      refine sp_L_packed (form := -100) hx1 (by omega) (by decide) (by omega) (Or.inl ⟨rfl, rfl⟩) ?_
      refine gKv ?_
      refine E_callT4 (fr' := 1) (k1 := 0) (n1 := 0) (k2 := 0) (n2 := 0) dL_syllables_159 kO_L_put kL_L_136 (by exact Nat.le_of_ble_eq_true rfl) (by decide) (by exact Nat.le_of_ble_eq_true rfl) (Or.inl rfl) rfl ?_
      refine sp_L_put h (Nat.le_refl _) (by omega) hnk (fun M h => ?_)
      rw [wPt_m (by omega), ins_add] at h
      have hL := h.lay
      refine gKn ?_
      refine E_iinc_n (d := 1) dL_syllables_162 rfl rfl rfl (by decide) rfl ?_
      refine E_goto (tgt := 127) dL_syllables_165 (by decide) ?_
      exact ih (k + 1) _ M h (by rw [← ins_add]; exact nw_ins hw (Nat.le_refl _) nw_new) (by omega) (by rw [add_len]; omega) K
set_option maxRecDepth 100000 in
set_option maxHeartbeats 4000000 in
theorem cb_L_syllables {g : gG} {M : gM} {Q : Option Value ⊕ String → gM → Prop} {c : Cf} {f : Nat} {M0 : gM} {pw : Nat} {L : List Gl} {z : Int32} (h : lX c f M0 pw L (-1) z M) {a0 b i s e sg : Nat} {v10 : Value} (hi : i < tl c) (hw : nwL L) (hs : s < L.length) (hl : L.length ≤ 60) (K : ∀ M v9, lX c f M0 pw (clmC L s i (cN c 142 i)) (-1) z M → nwL (clmC L s i (cN c 142 i)) → E g 3 0 0 mL_syllables 325 [.ref (pw + 1), .ref 129, .ref 133, .int (nI a0), .int (nI b), .int (nI i), .int (nI sg), .int (nI s), .int (nI e), v9, v10] [] M Q) : ∀ k, k ≤ L.length → clmA L s ≤ k → fnd (fun j => ¬ (yN (gat L j) = 39 ∨ yN (gat L j) = 2 ∨ yN (gat L j) = 3)) L.length k = clmB L s → E g 3 0 0 mL_syllables 255 [.ref (pw + 1), .ref 129, .ref 133, .int (nI a0), .int (nI b), .int (nI i), .int (nI sg), .int (nI s), .int (nI e), .int (nI k), v10] [] M Q := by
  refine lpUp L.length (fun k hk ih => ?_)
  intro hak he
  have hL := h.lay
  have hn := h.len
  have ht10 := h.S.t10
  have hx2 := tEn_b h.wf i
  have hnk : okZ (newG 65 i (cN c 142 i) (-100)) := okZ_new (by unfold glZ; omega) (by omega) (by omega) (Or.inl rfl)
  refine E_iload dL_syllables_255 rfl ?_
  refine E_aload_n dL_syllables_257 rfl ?_
  refine E_iconst (v := nI 5) dL_syllables_258 (by decide) ?_
  refine E_ialdL (v := nI (List.length _)) dL_syllables_259 (l_132 hL) (k_132 hL) rfl (by omega) (by decide) h.a5 ?_
  refine E_icmp_ge_n (tgt := 303) dL_syllables_260 (by decide) (by omega) (by omega) (fun c_260 => ?_) (fun c_260 => ?_)
  · have ek : k = clmB L s := by rw [← he]; first | exact (fnd_hit (P := fun j => ¬ (yN (gat L j) = 39 ∨ yN (gat L j) = 2 ∨ yN (gat L j) = 3)) (by omega) (by omega)).symm | exact (fnd_end (by omega)).symm
    rw [ek] at hk ⊢
    refine E_aload_n dL_syllables_303 rfl ?_
    refine E_aload_n dL_syllables_304 rfl ?_
    refine E_iload dL_syllables_305 rfl ?_
    refine E_bipush (v := nI 65) dL_syllables_307 (by decide) ?_
    refine E_iload dL_syllables_309 rfl ?_
    refine E_iconst (v := nI 4) dL_syllables_311 (by decide) ?_
    refine E_aload_n dL_syllables_312 rfl ?_
    refine E_iload dL_syllables_313 rfl ?_
    refine E_ialdL (v := nI (tEn _ _)) dL_syllables_315 (l_128 hL) (k_128 hL) rfl (by omega) (by decide) (h.tx (by omega)) ?_
    refine E_bipush (v := nI 6) dL_syllables_316 (by decide) ?_
    refine E_ishr dL_syllables_318 ?_
    rw [tE_6 h.wf]
    refine E_callT4 (fr' := 1) (k1 := 0) (n1 := 0) (k2 := 0) (n2 := 0) dL_syllables_319 kO_L_packed kL_L_185 (by exact Nat.le_of_ble_eq_true rfl) (by decide) (by exact Nat.le_of_ble_eq_true rfl) (Or.inl rfl) rfl ?_
    refine sp_L_packed (its := 65) (form := -100) (by omega) (by omega) (by decide) (by omega) (Or.inl ⟨rfl, rfl⟩) ?_
    refine gKv ?_
    refine E_callT4 (fr' := 1) (k1 := 0) (n1 := 0) (k2 := 0) (n2 := 0) dL_syllables_322 kO_L_put kL_L_136 (by exact Nat.le_of_ble_eq_true rfl) (by decide) (by exact Nat.le_of_ble_eq_true rfl) (Or.inl rfl) rfl ?_
    refine sp_L_put h hk (by omega) hnk (fun M h => ?_)
    have hw2 := nw_ins hw hk (x := newG 65 i (cN c 142 i) (-100)) nw_new
    rw [wPt_m (by omega), ins_clm hk] at h
    rw [ins_clm hk] at hw2
    have hL := h.lay
    refine gKn ?_
    exact K M _ h hw2
  · have hgl := (h.ok (i := k) (by omega)).b.1
    refine E_aload_n dL_syllables_263 rfl ?_
    refine E_iload dL_syllables_264 rfl ?_
    refine E_laldL (v := pk _) dL_syllables_266 h.plt h.pkd rfl (by omega) (by decide) (h.wk (by omega)) ?_
    refine E_callT1 (fr' := 1) (k1 := 0) (n1 := 0) (k2 := 0) (n2 := 0) dL_syllables_267 kO_L_glyphOf kL_L_108 (by exact Nat.le_of_ble_eq_true rfl) (by decide) (by exact Nat.le_of_ble_eq_true rfl) (Or.inl rfl) rfl ?_
    refine sp_L_glyphOf (h.ok (by omega)) ?_
    refine gKv ?_
    refine E_bipush (v := nI 39) dL_syllables_270 (by decide) ?_
    refine E_icmp_eq_n (tgt := 297) dL_syllables_272 (by decide) (by omega) (by omega) (fun c_272 => ?_) (fun c_272 => ?_)
    · refine E_iinc_n (d := 1) dL_syllables_297 rfl rfl rfl (by decide) rfl ?_
      refine E_goto (tgt := 255) dL_syllables_300 (by decide) ?_
      exact ih (by omega) (by omega) (by rw [← he]; exact (fnd_skip (P := fun j => ¬ (yN (gat L j) = 39 ∨ yN (gat L j) = 2 ∨ yN (gat L j) = 3)) (by omega) (fun q => q (by omega))).symm)
    · refine E_aload_n dL_syllables_275 rfl ?_
      refine E_iload dL_syllables_276 rfl ?_
      refine E_laldL (v := pk _) dL_syllables_278 h.plt h.pkd rfl (by omega) (by decide) (h.wk (by omega)) ?_
      refine E_callT1 (fr' := 1) (k1 := 0) (n1 := 0) (k2 := 0) (n2 := 0) dL_syllables_279 kO_L_glyphOf kL_L_108 (by exact Nat.le_of_ble_eq_true rfl) (by decide) (by exact Nat.le_of_ble_eq_true rfl) (Or.inl rfl) rfl ?_
      refine sp_L_glyphOf (h.ok (by omega)) ?_
      refine gKv ?_
      refine E_iconst (v := nI 2) dL_syllables_282 (by decide) ?_
      refine E_icmp_eq_n (tgt := 297) dL_syllables_283 (by decide) (by omega) (by omega) (fun c_283 => ?_) (fun c_283 => ?_)
      · refine E_iinc_n (d := 1) dL_syllables_297 rfl rfl rfl (by decide) rfl ?_
        refine E_goto (tgt := 255) dL_syllables_300 (by decide) ?_
        exact ih (by omega) (by omega) (by rw [← he]; exact (fnd_skip (P := fun j => ¬ (yN (gat L j) = 39 ∨ yN (gat L j) = 2 ∨ yN (gat L j) = 3)) (by omega) (fun q => q (by omega))).symm)
      · refine E_aload_n dL_syllables_286 rfl ?_
        refine E_iload dL_syllables_287 rfl ?_
        refine E_laldL (v := pk _) dL_syllables_289 h.plt h.pkd rfl (by omega) (by decide) (h.wk (by omega)) ?_
        refine E_callT1 (fr' := 1) (k1 := 0) (n1 := 0) (k2 := 0) (n2 := 0) dL_syllables_290 kO_L_glyphOf kL_L_108 (by exact Nat.le_of_ble_eq_true rfl) (by decide) (by exact Nat.le_of_ble_eq_true rfl) (Or.inl rfl) rfl ?_
        refine sp_L_glyphOf (h.ok (by omega)) ?_
        refine gKv ?_
        refine E_iconst (v := nI 3) dL_syllables_293 (by decide) ?_
        refine E_icmp_ne_n (tgt := 303) dL_syllables_294 (by decide) (by omega) (by omega) (fun c_294 => ?_) (fun c_294 => ?_)
        · have ek : k = clmB L s := by rw [← he]; first | exact (fnd_hit (P := fun j => ¬ (yN (gat L j) = 39 ∨ yN (gat L j) = 2 ∨ yN (gat L j) = 3)) (by omega) (by omega)).symm | exact (fnd_end (by omega)).symm
          rw [ek] at hk ⊢
          refine E_aload_n dL_syllables_303 rfl ?_
          refine E_aload_n dL_syllables_304 rfl ?_
          refine E_iload dL_syllables_305 rfl ?_
          refine E_bipush (v := nI 65) dL_syllables_307 (by decide) ?_
          refine E_iload dL_syllables_309 rfl ?_
          refine E_iconst (v := nI 4) dL_syllables_311 (by decide) ?_
          refine E_aload_n dL_syllables_312 rfl ?_
          refine E_iload dL_syllables_313 rfl ?_
          refine E_ialdL (v := nI (tEn _ _)) dL_syllables_315 (l_128 hL) (k_128 hL) rfl (by omega) (by decide) (h.tx (by omega)) ?_
          refine E_bipush (v := nI 6) dL_syllables_316 (by decide) ?_
          refine E_ishr dL_syllables_318 ?_
          rw [tE_6 h.wf]
          refine E_callT4 (fr' := 1) (k1 := 0) (n1 := 0) (k2 := 0) (n2 := 0) dL_syllables_319 kO_L_packed kL_L_185 (by exact Nat.le_of_ble_eq_true rfl) (by decide) (by exact Nat.le_of_ble_eq_true rfl) (Or.inl rfl) rfl ?_
          refine sp_L_packed (its := 65) (form := -100) (by omega) (by omega) (by decide) (by omega) (Or.inl ⟨rfl, rfl⟩) ?_
          refine gKv ?_
          refine E_callT4 (fr' := 1) (k1 := 0) (n1 := 0) (k2 := 0) (n2 := 0) dL_syllables_322 kO_L_put kL_L_136 (by exact Nat.le_of_ble_eq_true rfl) (by decide) (by exact Nat.le_of_ble_eq_true rfl) (Or.inl rfl) rfl ?_
          refine sp_L_put h hk (by omega) hnk (fun M h => ?_)
          have hw2 := nw_ins hw hk (x := newG 65 i (cN c 142 i) (-100)) nw_new
          rw [wPt_m (by omega), ins_clm hk] at h
          rw [ins_clm hk] at hw2
          have hL := h.lay
          refine gKn ?_
          exact K M _ h hw2
        · refine E_iinc_n (d := 1) dL_syllables_297 rfl rfl rfl (by decide) rfl ?_
          refine E_goto (tgt := 255) dL_syllables_300 (by decide) ?_
          exact ih (by omega) (by omega) (by rw [← he]; exact (fnd_skip (P := fun j => ¬ (yN (gat L j) = 39 ∨ yN (gat L j) = 2 ∨ yN (gat L j) = 3)) (by omega) (fun q => q (by omega))).symm)
set_option maxRecDepth 100000 in
set_option maxHeartbeats 4000000 in
theorem ca_L_syllables {g : gG} {M : gM} {Q : Option Value ⊕ String → gM → Prop} {c : Cf} {f : Nat} {M0 : gM} {pw : Nat} {L : List Gl} {z : Int32} (h : lX c f M0 pw L (-1) z M) {a0 b i s e sg : Nat} {v10 : Value} (hi : i < tl c) (hw : nwL L) (hs : s < L.length) (hl : L.length ≤ 60) (hc : cCo (yN (gat L s))) (K : ∀ M v9, lX c f M0 pw (clmC L s i (cN c 142 i)) (-1) z M → nwL (clmC L s i (cN c 142 i)) → E g 3 0 0 mL_syllables 325 [.ref (pw + 1), .ref 129, .ref 133, .int (nI a0), .int (nI b), .int (nI i), .int (nI sg), .int (nI s), .int (nI e), v9, v10] [] M Q) : ∀ q, s + 1 ≤ q → q ≤ L.length → rfd (fun j => j < s ∨ cCo (yN (gat L j))) q = clmA L s → E g 3 0 0 mL_syllables 234 [.ref (pw + 1), .ref 129, .ref 133, .int (nI a0), .int (nI b), .int (nI i), .int (nI sg), .int (nI s), .int (nI e), .int (nI q), v10] [] M Q := by
  refine lpDn (s + 1) (fun q hsq ih => ?_)
  intro hqn he
  have hL := h.lay
  have hn := h.len
  have ht10 := h.S.t10
  obtain ⟨q, rfl⟩ : ∃ z, q = z + 1 := ⟨q - 1, by omega⟩
  have hgl := (h.ok (i := q) (by omega)).b.1
  refine E_aload_n dL_syllables_234 rfl ?_
  refine E_iload dL_syllables_235 rfl ?_
  refine E_iconst (v := nI 1) dL_syllables_237 (by decide) ?_
  refine E_isub_n dL_syllables_238 (by omega) ?_
  refine E_laldL (v := pk (gat L q)) dL_syllables_239 h.plt h.pkd rfl (by omega) (by decide) (h.wk (by omega)) ?_
  refine E_callT1 (fr' := 1) (k1 := 0) (n1 := 0) (k2 := 0) (n2 := 0) dL_syllables_240 kO_L_glyphOf kL_L_108 (by exact Nat.le_of_ble_eq_true rfl) (by decide) (by exact Nat.le_of_ble_eq_true rfl) (Or.inl rfl) rfl ?_
  refine sp_L_glyphOf (h.ok (by omega)) ?_
  refine gKv ?_
  refine E_callT1 (fr' := 1) (k1 := 0) (n1 := 0) (k2 := 0) (n2 := 0) dL_syllables_243 kO_L_consonant kL_L_178 (by exact Nat.le_of_ble_eq_true rfl) (by decide) (by exact Nat.le_of_ble_eq_true rfl) (Or.inl rfl) rfl ?_
  refine sp_L_consonant (by omega) ?_
  refine gKv ?_
  refine E_if_ne_b (tgt := 255) dL_syllables_246 (by decide) (fun c_246 => ?_) (fun c_246 => ?_)
  · rw [rfd_t (P := fun j => j < s ∨ cCo (yN (gat L j))) (Or.inr c_246)] at he
    exact cb_L_syllables h hi hw hs hl K (q + 1) hqn (by omega) (by rw [he]; rfl)
  · refine E_iinc (v := nI q) dL_syllables_249 rfl (pk_m1 q) (by decide) rfl ?_
    refine E_goto (tgt := 234) dL_syllables_252 (by decide) ?_
    have hne : ¬ q = s := fun e => by rw [e] at c_246; exact c_246 hc
    exact ih (by omega) (by omega) (by rw [← he]; exact (rfd_f (fun z => z.elim (fun z => by omega) (fun z => c_246 z))).symm)
set_option maxRecDepth 100000 in
set_option maxHeartbeats 4000000 in
theorem s3_L_syllables {g : gG} {Q : Option Value ⊕ String → gM → Prop} {c : Cf} {f : Nat} {M0 : gM} {pw : Nat} {L : List Gl} {z : Int32} {a0 b i : Nat} {v10 : Value} (hi : i < b) (hb : b ≤ tl c) (hl : L.length + 2 * (b - i) ≤ 60) (hwf : WFc c) (K : ∀ M v6 v7 v8 v9 v10, lX c f M0 pw (syL c b i L) (-1) z M → nwL (syL c b i L) → E g 3 0 0 mL_syllables 3 [.ref (pw + 1), .ref 129, .ref 133, .int (nI a0), .int (nI b), .int (nI (syE c b i)), v6, v7, v8, v9, v10] [] M Q) : ∀ M v9, lX c f M0 pw (sy2 c b i L) (-1) z M → nwL (sy2 c b i L) → E g 3 0 0 mL_syllables 168 [.ref (pw + 1), .ref 129, .ref 133, .int (nI a0), .int (nI b), .int (nI i), .int (nI (cN c 141 i)), .int (nI L.length), .int (nI (syE c b i)), v9, v10] [] M Q := by
  intro M v9 h hw
  have he := syE_b hwf hi
  have h1 := sy1_len c i L
  have h2 := sy2_len c b i L
  have hL := h.lay
  have hn := h.len
  have ht10 := h.S.t10
  have hb0 := tEn_b h.wf i
  have fin : ∀ M v9 v10, lX c f M0 pw (sy3 c b i L.length (sy2 c b i L)) (-1) z M → nwL (sy3 c b i L.length (sy2 c b i L)) → (sy3 c b i L.length (sy2 c b i L)).length ≥ L.length → E g 3 0 0 mL_syllables 325 [.ref (pw + 1), .ref 129, .ref 133, .int (nI a0), .int (nI b), .int (nI i), .int (nI (cN c 141 i)), .int (nI L.length), .int (nI (syE c b i)), v9, v10] [] M Q := by
    intro M v9 v10 h hw hge
    have hL := h.lay
    refine E_iload dL_syllables_325 rfl ?_
    refine E_istore dL_syllables_327 (Nat.le_of_ble_eq_true rfl) (by decide) rfl ?_
    refine E_iload dL_syllables_329 rfl ?_
    refine E_istore dL_syllables_331 (Nat.le_of_ble_eq_true rfl) (by decide) rfl ?_
    refine sa_L_syllables _ _ _ _ M h hw (show L.length + ((sy3 c b i L.length (sy2 c b i L)).length - L.length) = _ by omega) (Nat.le_refl _) (fun M v9 v10 h hw => ?_)
    have hL := h.lay
    refine E_iload dL_syllables_379 rfl ?_
    refine E_istore dL_syllables_381 (Nat.le_of_ble_eq_true rfl) (by decide) rfl ?_
    refine E_goto (tgt := 3) dL_syllables_383 (by decide) ?_
    exact K M _ _ _ _ _ h hw
  refine E_iload dL_syllables_168 rfl ?_
  refine E_bipush (v := nI 38) dL_syllables_170 (by decide) ?_
  refine E_icmp_ne_n (tgt := 325) dL_syllables_172 (by decide) (by omega) (by omega) (fun c_172 => ?_) (fun c_172 => ?_)
  · have hp : ¬ syP c b i := fun q => by
      obtain ⟨q1, q2, q3, q4⟩ := q
      omega
    have e3 : sy3 c b i L.length (sy2 c b i L) = sy2 c b i L := cI_f hp
    exact fin M _ _ (by rw [e3]; exact h) (by rw [e3]; exact hw) (by rw [e3]; omega)
  · refine E_iload dL_syllables_175 rfl ?_
    refine E_iconst (v := nI 2) dL_syllables_177 (by decide) ?_
    refine E_iadd_n dL_syllables_178 ?_
    refine E_iload dL_syllables_179 rfl ?_
    refine E_icmp_ge_n (tgt := 325) dL_syllables_181 (by decide) (by omega) (by omega) (fun c_181 => ?_) (fun c_181 => ?_)
    · have hp : ¬ syP c b i := fun q => by
        obtain ⟨q1, q2, q3, q4⟩ := q
        omega
      have e3 : sy3 c b i L.length (sy2 c b i L) = sy2 c b i L := cI_f hp
      exact fin M _ _ (by rw [e3]; exact h) (by rw [e3]; exact hw) (by rw [e3]; omega)
    · have hb1 := tEn_b h.wf (i + 1)
      have hb2 := tEn_b h.wf (i + 2)
      refine E_aload_n dL_syllables_184 rfl ?_
      refine E_iload dL_syllables_185 rfl ?_
      refine E_iconst (v := nI 1) dL_syllables_187 (by decide) ?_
      refine E_iadd_n dL_syllables_188 ?_
      refine E_ialdL (v := nI (tEn _ _)) dL_syllables_189 (l_128 hL) (k_128 hL) rfl (by omega) (by decide) (h.tx (by omega)) ?_
      refine E_bipush (v := nI 63) dL_syllables_190 (by decide) ?_
      refine E_iand dL_syllables_192 ?_
      rw [tE_63 h.wf]
      refine E_bipush (v := nI 39) dL_syllables_193 (by decide) ?_
      refine E_icmp_ne_n (tgt := 325) dL_syllables_195 (by decide) (by omega) (by omega) (fun c_195 => ?_) (fun c_195 => ?_)
      · have hp : ¬ syP c b i := fun q => by
          obtain ⟨q1, q2, q3, q4⟩ := q
          first
            | omega
            | exact c_210 q4
        have e3 : sy3 c b i L.length (sy2 c b i L) = sy2 c b i L := cI_f hp
        exact fin M _ _ (by rw [e3]; exact h) (by rw [e3]; exact hw) (by rw [e3]; omega)
      · refine E_aload_n dL_syllables_198 rfl ?_
        refine E_iload dL_syllables_199 rfl ?_
        refine E_iconst (v := nI 2) dL_syllables_201 (by decide) ?_
        refine E_iadd_n dL_syllables_202 ?_
        refine E_ialdL (v := nI (tEn _ _)) dL_syllables_203 (l_128 hL) (k_128 hL) rfl (by omega) (by decide) (h.tx (by omega)) ?_
        refine E_bipush (v := nI 63) dL_syllables_204 (by decide) ?_
        refine E_iand dL_syllables_206 ?_
        rw [tE_63 h.wf]
        refine E_callT1 (fr' := 1) (k1 := 0) (n1 := 0) (k2 := 0) (n2 := 0) dL_syllables_207 kO_L_consonant kL_L_178 (by exact Nat.le_of_ble_eq_true rfl) (by decide) (by exact Nat.le_of_ble_eq_true rfl) (Or.inl rfl) rfl ?_
        refine sp_L_consonant (by omega) ?_
        refine gKv ?_
        refine E_if_eq_b (tgt := 325) dL_syllables_210 (by decide) (fun c_210 => ?_) (fun c_210 => ?_)
        · have hp : ¬ syP c b i := fun q => by
            obtain ⟨q1, q2, q3, q4⟩ := q
            first
              | omega
              | exact c_210 q4
          have e3 : sy3 c b i L.length (sy2 c b i L) = sy2 c b i L := cI_f hp
          exact fin M _ _ (by rw [e3]; exact h) (by rw [e3]; exact hw) (by rw [e3]; omega)
        · have hp : syP c b i := ⟨by omega, by omega, by omega, c_210⟩
          have e1 : sy1 c i L = L := cI_f (by omega)
          have e3 : sy3 c b i L.length (sy2 c b i L) = clmL (sy2 c b i L) L.length i (cN c 142 i) := cI_t hp
          obtain ⟨L2, hL2⟩ : ∃ L2, L2 = sy2 c b i L := ⟨_, rfl⟩
          rw [← hL2] at h hw h2 e3 hn
          rw [e1] at h2
          have hcl := clmL_len (L := L2) (s := L.length) (i := i) (e := cN c 142 i) (by omega)
          have ha := (adS_at c i (syE c b i - i) i L).2 2 (by omega)
          have hg2 : gat L2 (L.length + 2) = sgG c i (i + 2) := by rw [hL2]; unfold sy2; rw [e1]; exact ha
          have l3 := clo_len L2 L.length
          have l4 := clo_len (closeL L2 L.length) L.length
          have hcc : cCo (yN (gat (closeL (closeL L2 L.length) L.length) L.length)) := by
            rw [gat_close (by omega), if_neg (Nat.lt_irrefl _), gat_close (by omega), if_neg (by omega), hg2]; exact c_210
          refine E_aload_n dL_syllables_213 rfl ?_
          refine E_aload_n dL_syllables_214 rfl ?_
          refine E_iload dL_syllables_215 rfl ?_
          refine E_callT3 (fr' := 1) (k1 := 0) (n1 := 0) (k2 := 0) (n2 := 0) dL_syllables_217 kO_L_take kL_L_153 (by exact Nat.le_of_ble_eq_true rfl) (by decide) (by exact Nat.le_of_ble_eq_true rfl) (Or.inl rfl) rfl ?_
          refine sp_L_take h (by omega) (fun M h => ?_)
          rw [wTa_m (by omega)] at h
          have hL := h.lay
          refine gKv ?_
          refine E_pop2L dL_syllables_220 ?_
          refine E_aload_n dL_syllables_221 rfl ?_
          refine E_aload_n dL_syllables_222 rfl ?_
          refine E_iload dL_syllables_223 rfl ?_
          refine E_callT3 (fr' := 1) (k1 := 0) (n1 := 0) (k2 := 0) (n2 := 0) dL_syllables_225 kO_L_take kL_L_153 (by exact Nat.le_of_ble_eq_true rfl) (by decide) (by exact Nat.le_of_ble_eq_true rfl) (Or.inl rfl) rfl ?_
          refine sp_L_take h (by omega) (fun M h => ?_)
          rw [wTa_m (by omega)] at h
          have hL := h.lay
          refine gKv ?_
          refine E_pop2L dL_syllables_228 ?_
          refine E_aload_n dL_syllables_229 rfl ?_
          refine E_iconst (v := nI 5) dL_syllables_230 (by decide) ?_
          refine E_ialdL (v := nI (List.length _)) dL_syllables_231 (l_132 hL) (k_132 hL) rfl (by omega) (by decide) h.a5 ?_
          refine E_istore dL_syllables_232 (Nat.le_of_ble_eq_true rfl) (by decide) rfl ?_
          refine ca_L_syllables h (by omega) (nw_close (nw_close hw _) _) (by omega) (by omega) hcc (fun M v9 h hw => fin M _ _ ?_ ?_ ?_) _ (by omega) (Nat.le_refl _) rfl
          · rw [← hL2, e3]; exact h
          · rw [← hL2, e3]; exact hw
          · rw [← hL2, e3]; omega
set_option maxRecDepth 100000 in
set_option maxHeartbeats 4000000 in
theorem s2_L_syllables {g : gG} {M : gM} {Q : Option Value ⊕ String → gM → Prop} {c : Cf} {f : Nat} {M0 : gM} {pw : Nat} {L : List Gl} {z : Int32} (h : lX c f M0 pw L (-1) z M) {a0 b i : Nat} {v9 v10 : Value} (hi : i < b) (hb : b ≤ tl c) (hl : L.length + 2 * (b - i) ≤ 60) (hw : nwL L) (K : ∀ M v6 v7 v8 v9 v10, lX c f M0 pw (syL c b i L) (-1) z M → nwL (syL c b i L) → E g 3 0 0 mL_syllables 3 [.ref (pw + 1), .ref 129, .ref 133, .int (nI a0), .int (nI b), .int (nI (syE c b i)), v6, v7, v8, v9, v10] [] M Q) : E g 3 0 0 mL_syllables 92 [.ref (pw + 1), .ref 129, .ref 133, .int (nI a0), .int (nI b), .int (nI i), .int (nI (cN c 141 i)), .int (nI L.length), .int (nI (syE c b i)), v9, v10] [] M Q := by
  have hL := h.lay
  have hn := h.len
  have ht10 := h.S.t10
  have hb0 := tEn_b h.wf i
  have he := syE_b h.wf hi
  have h1 := sy1_len c i L
  have hnk : okZ (newG 64 i 0 (-100)) := okZ_new (by unfold glZ; omega) (by omega) (by omega) (Or.inl rfl)
  have nxt : ∀ M v9, lX c f M0 pw (sy1 c i L) (-1) z M → nwL (sy1 c i L) → E g 3 0 0 mL_syllables 123 [.ref (pw + 1), .ref 129, .ref 133, .int (nI a0), .int (nI b), .int (nI i), .int (nI (cN c 141 i)), .int (nI L.length), .int (nI (syE c b i)), v9, v10] [] M Q := by
    intro M v9 h hw
    have hL := h.lay
    have hwf := h.wf
    refine E_iload dL_syllables_123 rfl ?_
    refine E_istore dL_syllables_125 (Nat.le_of_ble_eq_true rfl) (by decide) rfl ?_
    exact ad_L_syllables (by omega) (by omega) (syE c b i - i) i _ M h hw (by omega) (by omega) (fun M v9 h hw => s3_L_syllables hi hb hl hwf K M _ h hw)
  refine E_iload dL_syllables_92 rfl ?_
  refine E_bipush (v := nI 38) dL_syllables_94 (by decide) ?_
  refine E_icmp_le_n (tgt := 123) dL_syllables_96 (by decide) (by omega) (by omega) (fun c_96 => ?_) (fun c_96 => ?_)
  · first
      | (have e : sy1 c i L = addL L (newG 64 i 0 (-100)) := cI_t (by omega)
         exact nxt M _ (by rw [e]; exact h) (by rw [e, ← ins_add]; exact nw_ins hw (Nat.le_refl _) nw_new))
      | (have e : sy1 c i L = L := cI_f (by omega)
         exact nxt M _ (by rw [e]; exact h) (by rw [e]; exact hw))
  · refine E_iload dL_syllables_99 rfl ?_
    refine E_bipush (v := nI 43) dL_syllables_101 (by decide) ?_
    refine E_icmp_eq_n (tgt := 123) dL_syllables_103 (by decide) (by omega) (by omega) (fun c_103 => ?_) (fun c_103 => ?_)
    · first
        | (have e : sy1 c i L = addL L (newG 64 i 0 (-100)) := cI_t (by omega)
           exact nxt M _ (by rw [e]; exact h) (by rw [e, ← ins_add]; exact nw_ins hw (Nat.le_refl _) nw_new))
        | (have e : sy1 c i L = L := cI_f (by omega)
           exact nxt M _ (by rw [e]; exact h) (by rw [e]; exact hw))
    · refine E_aload_n dL_syllables_106 rfl ?_
      refine E_aload_n dL_syllables_107 rfl ?_
      refine E_aload_n dL_syllables_108 rfl ?_
      refine E_iconst (v := nI 5) dL_syllables_109 (by decide) ?_
      refine E_ialdL (v := nI (List.length _)) dL_syllables_110 (l_132 hL) (k_132 hL) rfl (by omega) (by decide) h.a5 ?_
      refine E_bipush (v := nI 64) dL_syllables_111 (by decide) ?_
      refine E_iload dL_syllables_113 rfl ?_
      refine E_iconst (v := nI 4) dL_syllables_115 (by decide) ?_
      refine E_iconst (v := nI 0) dL_syllables_116 (by decide) ?_
      refine E_callT4 (fr' := 1) (k1 := 0) (n1 := 0) (k2 := 0) (n2 := 0) dL_syllables_117 kO_L_packed kL_L_185 (by exact Nat.le_of_ble_eq_true rfl) (by decide) (by exact Nat.le_of_ble_eq_true rfl) (Or.inl rfl) rfl ?_
      refine sp_L_packed (its := 64) (form := -100) (by omega) (by omega) (by decide) (by omega) (Or.inl ⟨rfl, rfl⟩) ?_
      refine gKv ?_
      refine E_callT4 (fr' := 1) (k1 := 0) (n1 := 0) (k2 := 0) (n2 := 0) dL_syllables_120 kO_L_put kL_L_136 (by exact Nat.le_of_ble_eq_true rfl) (by decide) (by exact Nat.le_of_ble_eq_true rfl) (Or.inl rfl) rfl ?_
      refine sp_L_put h (Nat.le_refl _) (by omega) hnk (fun M h => ?_)
      rw [wPt_m (by omega), ins_add] at h
      have hL := h.lay
      refine gKn ?_
      first
        | (have e : sy1 c i L = addL L (newG 64 i 0 (-100)) := cI_t (by omega)
           exact nxt M _ (by rw [e]; exact h) (by rw [e, ← ins_add]; exact nw_ins hw (Nat.le_refl _) nw_new))
        | (have e : sy1 c i L = L := cI_f (by omega)
           exact nxt M _ (by rw [e]; exact h) (by rw [e]; exact hw))
set_option maxRecDepth 100000 in
set_option maxHeartbeats 4000000 in
theorem lp_L_syllables {g : gG} {Q : Option Value ⊕ String → gM → Prop} {c : Cf} {f : Nat} {M0 : gM} {pw : Nat} {z : Int32} {a0 b : Nat} (hb : b ≤ tl c) : ∀ t (i : Nat) (L : List Gl) (M : gM), lX c f M0 pw L (-1) z M → b - i ≤ t → i ≤ b → nwL L → L.length + 2 * (b - i) ≤ 60 → (∀ M, lX c f M0 pw (sys c b t i L) (-1) z M → nwL (sys c b t i L) → Q (.inl none) M) → ∀ v6 v7 v8 v9 v10, E g 3 0 0 mL_syllables 3 [.ref (pw + 1), .ref 129, .ref 133, .int (nI a0), .int (nI b), .int (nI i), v6, v7, v8, v9, v10] [] M Q := by
  intro t
  induction t with
  | zero =>
    intro i L M h ht hi hw hl K v6 v7 v8 v9 v10
    have hL := h.lay
    have hn := h.len
    have ht10 := h.S.t10
    refine E_iload dL_syllables_3 rfl ?_
    refine E_iload dL_syllables_5 rfl ?_
    refine E_icmp_ge_n (tgt := 386) dL_syllables_7 (by decide) (by omega) (by omega) (fun c_7 => ?_) (fun c_7 => ?_)
    · refine E_vret dL_syllables_386 rfl ?_
      exact K M h hw
    · exfalso; omega
  | succ t ih =>
    intro i L M h ht hi hw hl K v6 v7 v8 v9 v10
    have hL := h.lay
    have hn := h.len
    have ht10 := h.S.t10
    refine E_iload dL_syllables_3 rfl ?_
    refine E_iload dL_syllables_5 rfl ?_
    refine E_icmp_ge_n (tgt := 386) dL_syllables_7 (by decide) (by omega) (by omega) (fun c_7 => ?_) (fun c_7 => ?_)
    · refine E_vret dL_syllables_386 rfl ?_
      have e : sys c b (t + 1) i L = L := cI_f (by omega)
      rw [e] at K
      exact K M h hw
    · have hib : i < b := by omega
      have hb0 := tEn_b h.wf i
      have he := syE_b h.wf hib
      have e : sys c b (t + 1) i L = sys c b t (syE c b i) (syL c b i L) := cI_t hib
      rw [e] at K
      have hsl := syL_len (L := L) h.wf hib
      have K3 : ∀ M v6 v7 v8 v9 v10, lX c f M0 pw (syL c b i L) (-1) z M → nwL (syL c b i L) → E g 3 0 0 mL_syllables 3 [.ref (pw + 1), .ref 129, .ref 133, .int (nI a0), .int (nI b), .int (nI (syE c b i)), v6, v7, v8, v9, v10] [] M Q := fun M v6 v7 v8 v9 v10 h hw => ih (syE c b i) _ M h (by omega) (by omega) hw (by omega) K _ _ _ _ _
      refine E_aload_n dL_syllables_10 rfl ?_
      refine E_iload dL_syllables_11 rfl ?_
      refine E_ialdL (v := nI (tEn _ _)) dL_syllables_13 (l_128 hL) (k_128 hL) rfl (by omega) (by decide) (h.tx (by omega)) ?_
      refine E_bipush (v := nI 63) dL_syllables_14 (by decide) ?_
      refine E_iand dL_syllables_16 ?_
      rw [tE_63 h.wf]
      refine E_istore dL_syllables_17 (Nat.le_of_ble_eq_true rfl) (by decide) rfl ?_
      refine E_aload_n dL_syllables_19 rfl ?_
      refine E_iconst (v := nI 5) dL_syllables_20 (by decide) ?_
      refine E_ialdL (v := nI (List.length _)) dL_syllables_21 (l_132 hL) (k_132 hL) rfl (by omega) (by decide) h.a5 ?_
      refine E_istore dL_syllables_22 (Nat.le_of_ble_eq_true rfl) (by decide) rfl ?_
      refine E_iload dL_syllables_24 rfl ?_
      refine E_callT1 (fr' := 1) (k1 := 0) (n1 := 0) (k2 := 0) (n2 := 0) dL_syllables_26 kO_L_consonant kL_L_178 (by exact Nat.le_of_ble_eq_true rfl) (by decide) (by exact Nat.le_of_ble_eq_true rfl) (Or.inl rfl) rfl ?_
      refine sp_L_consonant (by omega) ?_
      refine gKv ?_
      refine E_if_eq_b (tgt := 46) dL_syllables_29 (by decide) (fun c_29 => ?_) (fun c_29 => ?_)
      · refine E_iload dL_syllables_46 rfl ?_
        refine E_bipush (v := nI 43) dL_syllables_48 (by decide) ?_
        refine E_icmp_ne_n (tgt := 67) dL_syllables_50 (by decide) (by omega) (by omega) (fun c_50 => ?_) (fun c_50 => ?_)
        · refine E_iload dL_syllables_67 rfl ?_
          refine E_bipush (v := nI 38) dL_syllables_69 (by decide) ?_
          refine E_icmp_le_n (tgt := 86) dL_syllables_71 (by decide) (by omega) (by omega) (fun c_71 => ?_) (fun c_71 => ?_)
          · refine E_iload dL_syllables_86 rfl ?_
            refine E_iconst (v := nI 1) dL_syllables_88 (by decide) ?_
            refine E_iadd_n dL_syllables_89 ?_
            refine E_istore dL_syllables_90 (Nat.le_of_ble_eq_true rfl) (by decide) rfl ?_
            first
              | (rw [show bhV c b 0 (i + 1) = syE c b i from by rw [bhV_0]; exact (cI_t c_29).symm]
                 exact s2_L_syllables h hib hb hl hw K3)
              | (rw [show bhV c b 3 (i + 1) = syE c b i from by rw [bhV_3]; exact ((cI_f c_29).trans (cI_t (by omega))).symm]
                 exact s2_L_syllables h hib hb hl hw K3)
              | (rw [show bhV c b 0 i = syE c b i from by rw [bhV_0]; exact ((cI_f c_29).trans ((cI_f (by omega)).trans (cI_t (by omega)))).symm]
                 exact s2_L_syllables h hib hb hl hw K3)
              | (rw [show i + 1 = syE c b i from ((cI_f c_29).trans ((cI_f (by omega)).trans (cI_f (by omega)))).symm]
                 exact s2_L_syllables h hib hb hl hw K3)
          · refine E_aload_n dL_syllables_74 rfl ?_
            refine E_iload dL_syllables_75 rfl ?_
            refine E_iload dL_syllables_77 rfl ?_
            refine E_iconst (v := nI 0) dL_syllables_79 (by decide) ?_
            refine E_callT4 (fr' := 2) (k1 := 0) (n1 := 0) (k2 := 0) (n2 := 0) dL_syllables_80 kO_L_behind kL_L_181 (by exact Nat.le_of_ble_eq_true rfl) (by decide) (by exact Nat.le_of_ble_eq_true rfl) (Or.inl rfl) rfl ?_
            refine sp_L_behind h.S (by omega) hb (by decide) ?_
            refine gKv ?_
            refine E_goto (tgt := 90) dL_syllables_83 (by decide) ?_
            refine E_istore dL_syllables_90 (Nat.le_of_ble_eq_true rfl) (by decide) rfl ?_
            first
              | (rw [show bhV c b 0 (i + 1) = syE c b i from by rw [bhV_0]; exact (cI_t c_29).symm]
                 exact s2_L_syllables h hib hb hl hw K3)
              | (rw [show bhV c b 3 (i + 1) = syE c b i from by rw [bhV_3]; exact ((cI_f c_29).trans (cI_t (by omega))).symm]
                 exact s2_L_syllables h hib hb hl hw K3)
              | (rw [show bhV c b 0 i = syE c b i from by rw [bhV_0]; exact ((cI_f c_29).trans ((cI_f (by omega)).trans (cI_t (by omega)))).symm]
                 exact s2_L_syllables h hib hb hl hw K3)
              | (rw [show i + 1 = syE c b i from ((cI_f c_29).trans ((cI_f (by omega)).trans (cI_f (by omega)))).symm]
                 exact s2_L_syllables h hib hb hl hw K3)
        · refine E_aload_n dL_syllables_53 rfl ?_
          refine E_iload dL_syllables_54 rfl ?_
          refine E_iconst (v := nI 1) dL_syllables_56 (by decide) ?_
          refine E_iadd_n dL_syllables_57 ?_
          refine E_iload dL_syllables_58 rfl ?_
          refine E_iconst (v := nI 3) dL_syllables_60 (by decide) ?_
          refine E_callT4 (fr' := 2) (k1 := 0) (n1 := 0) (k2 := 0) (n2 := 0) dL_syllables_61 kO_L_behind kL_L_181 (by exact Nat.le_of_ble_eq_true rfl) (by decide) (by exact Nat.le_of_ble_eq_true rfl) (Or.inl rfl) rfl ?_
          refine sp_L_behind h.S (by omega) hb (by decide) ?_
          refine gKv ?_
          refine E_goto (tgt := 90) dL_syllables_64 (by decide) ?_
          refine E_istore dL_syllables_90 (Nat.le_of_ble_eq_true rfl) (by decide) rfl ?_
          first
            | (rw [show bhV c b 0 (i + 1) = syE c b i from by rw [bhV_0]; exact (cI_t c_29).symm]
               exact s2_L_syllables h hib hb hl hw K3)
            | (rw [show bhV c b 3 (i + 1) = syE c b i from by rw [bhV_3]; exact ((cI_f c_29).trans (cI_t (by omega))).symm]
               exact s2_L_syllables h hib hb hl hw K3)
            | (rw [show bhV c b 0 i = syE c b i from by rw [bhV_0]; exact ((cI_f c_29).trans ((cI_f (by omega)).trans (cI_t (by omega)))).symm]
               exact s2_L_syllables h hib hb hl hw K3)
            | (rw [show i + 1 = syE c b i from ((cI_f c_29).trans ((cI_f (by omega)).trans (cI_f (by omega)))).symm]
               exact s2_L_syllables h hib hb hl hw K3)
      · refine E_aload_n dL_syllables_32 rfl ?_
        refine E_iload dL_syllables_33 rfl ?_
        refine E_iconst (v := nI 1) dL_syllables_35 (by decide) ?_
        refine E_iadd_n dL_syllables_36 ?_
        refine E_iload dL_syllables_37 rfl ?_
        refine E_iconst (v := nI 0) dL_syllables_39 (by decide) ?_
        refine E_callT4 (fr' := 2) (k1 := 0) (n1 := 0) (k2 := 0) (n2 := 0) dL_syllables_40 kO_L_behind kL_L_181 (by exact Nat.le_of_ble_eq_true rfl) (by decide) (by exact Nat.le_of_ble_eq_true rfl) (Or.inl rfl) rfl ?_
        refine sp_L_behind h.S (by omega) hb (by decide) ?_
        refine gKv ?_
        refine E_goto (tgt := 90) dL_syllables_43 (by decide) ?_
        refine E_istore dL_syllables_90 (Nat.le_of_ble_eq_true rfl) (by decide) rfl ?_
        first
          | (rw [show bhV c b 0 (i + 1) = syE c b i from by rw [bhV_0]; exact (cI_t c_29).symm]
             exact s2_L_syllables h hib hb hl hw K3)
          | (rw [show bhV c b 3 (i + 1) = syE c b i from by rw [bhV_3]; exact ((cI_f c_29).trans (cI_t (by omega))).symm]
             exact s2_L_syllables h hib hb hl hw K3)
          | (rw [show bhV c b 0 i = syE c b i from by rw [bhV_0]; exact ((cI_f c_29).trans ((cI_f (by omega)).trans (cI_t (by omega)))).symm]
             exact s2_L_syllables h hib hb hl hw K3)
          | (rw [show i + 1 = syE c b i from ((cI_f c_29).trans ((cI_f (by omega)).trans (cI_f (by omega)))).symm]
             exact s2_L_syllables h hib hb hl hw K3)
set_option maxRecDepth 100000 in
set_option maxHeartbeats 4000000 in
theorem sp_L_syllables {g : gG} {M : gM} {Q : Option Value ⊕ String → gM → Prop} {c : Cf} {f : Nat} {M0 : gM} {pw : Nat} {L : List Gl} {z : Int32} (h : lX c f M0 pw L (-1) z M) {a0 b : Nat} (hb : b ≤ tl c) (ha : a0 ≤ b) (hw : nwL L) (hl : L.length + 2 * (b - a0) ≤ 60) (K : ∀ M, lX c f M0 pw (sys c b (b - a0) a0 L) (-1) z M → nwL (sys c b (b - a0) a0 L) → Q (.inl none) M) : E g 3 0 0 mL_syllables 0 [.ref (pw + 1), .ref 129, .ref 133, .int (nI a0), .int (nI b), .null, .null, .null, .null, .null, .null] [] M Q := by
  have hL := h.lay
  have hn := h.len
  have ht10 := h.S.t10
  refine E_iload_n dL_syllables_0 rfl ?_
  refine E_istore dL_syllables_1 (Nat.le_of_ble_eq_true rfl) (by decide) rfl ?_
  exact lp_L_syllables hb (b - a0) a0 L M h (Nat.le_refl _) ha hw hl K _ _ _ _ _
