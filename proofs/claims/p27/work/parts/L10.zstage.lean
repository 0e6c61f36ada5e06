/-! the law: a stage -/
theorem m1_w : ∃ t, t < 2 ^ 20 ∧ (-1 : Int32) = dI t := ⟨0, by decide, by decide⟩
/-- how many of some lookups are of a stage -/
def ecs (c : Cf) (f s : Nat) : Nat → Nat → Nat
  | _, 0 => 0
  | l, m + 1 => (if cN c 132 (12 * f + l) = s then 1 else 0) + ecs c f s (l + 1) m
theorem ecs_le (c : Cf) (f s : Nat) : ∀ m l, ecs c f s l m ≤ m
  | 0, _ => Nat.le_refl _
  | m + 1, l => by
    have := ecs_le c f s m (l + 1)
    unfold ecs
    split <;> omega
theorem ecs_2 (c : Cf) (f : Nat) (h : ∀ l, cN c 132 l ≤ 1) : ∀ m l, ecs c f 0 l m + ecs c f 1 l m = m
  | 0, _ => rfl
  | m + 1, l => by
    have := ecs_2 c f h m (l + 1)
    have := h (12 * f + l)
    unfold ecs
    split <;> split <;> omega
theorem pow3_le {e : Nat} (h : e ≤ 7) : 1 ≤ 3 ^ e ∧ 3 ^ e ≤ 2187 := ⟨Nat.one_le_pow _ _ (by decide), Nat.pow_le_pow_right (n := 3) (by decide) h⟩
theorem bdE_num {B i v : Nat} {L : List Gl} (h : bdE B L) : bdE B (numL L i v) := fun k hk => by
  rw [num_len] at hk
  rw [gat_numz hk]
  split
  · rename_i e; subst e; exact h k hk
  · exact h k hk
/-- nothing watched: so it stays -/
theorem chgW_m1 {c : Cf} {f : Nat} {L : List Gl} {l k i : Nat} (hn : L.length ≤ 64) (hi : i < L.length) (hf : fit c f L l k i) : chgW c f L (-1) l k i = -1 := by
  have e0 : ∀ a, a < 2 ^ 20 → ¬ (-1 : Int32) = nI a := fun a ha q => by
    rw [← dI_0, dI_eqn (by omega) (by omega)] at q; omega
  have e1 : ∀ a, a < 2 ^ 20 → (-1 : Int32) ≤ nI a := fun a ha => by rw [← dI_0, dI_le' (by omega) (by omega)]; omega
  have e2 : ∀ a, a < 2 ^ 20 → (-1 : Int32) < nI a := fun a ha => by rw [← dI_0, dI_lt (by omega) (by omega)]; omega
  have e3 : ∀ a into, a < 2 ^ 20 → wTk (-1) a into = -1 := fun a into ha => (cI_f (e0 a ha)).trans (cI_t (e1 a ha))
  unfold chgW
  by_cases q0 : cN c 130 l = 0
  · rw [cI_t q0]
  · rw [cI_f q0]
    by_cases q1 : cN c 130 l = 1
    · rw [cI_t q1]
      unfold wPu
      rw [cI_t (e2 i (by omega))]; decide
    · rw [cI_f q1]
      by_cases q2 : cN c 130 l = 2
      · rw [cI_t q2]
      · rw [cI_f q2]
        rcases hf.2 with z | z | z | ⟨z, z2, -, z3⟩
        · omega
        · omega
        · omega
        unfold lgW
        have h2 := aft_b c f l hi
        by_cases q3 : rul c l k 2 = -100
        · rw [cI_t q3]; exact e3 _ _ (by omega)
        · rw [cI_f q3]
          have z4 := (z3.resolve_left q3).1
          rw [e3 _ _ (by omega), e3 _ _ (by omega)]
set_option maxRecDepth 100000 in
set_option maxHeartbeats 4000000 in
theorem st_L_stage {g : gG} {M : gM} {Q : Option Value ⊕ String → gM → Prop} {c : Cf} {f : Nat} {M0 : gM} {pw : Nat} {L : List Gl} {z : Int32} (h : lX c f M0 pw L (-1) z M) {l : Nat} (hl : l < cN c 129 f) {s i : Nat} {x8 : Int32} {B : Nat} (bd : bdJ B i L) (hi : i < L.length) (hkd : cN c 130 (12 * f + l) ≤ 4) (K : ∀ M z1 L1 i1 v10 v11 v12, lX c f M0 pw L1 (-1) z1 M → stpB L i L1 i1 → (z1 = nI 1 ∨ (z1 = z ∧ L1 = goL c f (12 * f + l) L i ∧ i1 = goI c f (12 * f + l) L i)) → E g 8 0 0 mL_stage 109 [.ref (pw + 1), .ref 130, .ref 131, .ref 132, .ref 133, .int (nI s), .int (nI (8 * f + l)), .int (nI (cN c 130 (12 * f + l))), .int x8, .int (nI i1), v10, v11, v12] [] M Q) : ∀ v10 v11 v12, E g 8 0 0 mL_stage 123 [.ref (pw + 1), .ref 130, .ref 131, .ref 132, .ref 133, .int (nI s), .int (nI (8 * f + l)), .int (nI (cN c 130 (12 * f + l))), .int x8, .int (nI i), v10, v11, v12] [] M Q := by
  intro v10 v11 v12
  have ho := h.2
  have hL := h.lay
  have hf := h.f2
  have hn := h.len
  have hct := h.ct
  have hgo : ¬ goP c f L (12 * f + l) i → goL c f (12 * f + l) L i = L ∧ goI c f (12 * f + l) L i = i + 1 := fun q => ⟨cI_f q, cI_f q⟩
  have hg4 : goP c f L (12 * f + l) i → cN c 130 (12 * f + l) = 4 → goL c f (12 * f + l) L i = cI (ctA c f L (12 * f + l) i < cN c 135 (12 * f + l)) (cxL c f L (12 * f + l) (ctA c f L (12 * f + l) i) i) L ∧ goI c f (12 * f + l) L i = cI (ctA c f L (12 * f + l) i < cN c 135 (12 * f + l)) (cxI c f L (12 * f + l) (ctA c f L (12 * f + l) i) i) (i + 1) := fun q q2 => ⟨(cI_t q).trans (cI_t q2), (cI_t q).trans (cI_t q2)⟩
  have hg3 : goP c f L (12 * f + l) i → ¬ cN c 130 (12 * f + l) = 4 → goL c f (12 * f + l) L i = cI (ffA c f L (12 * f + l) i < cN c 135 (12 * f + l)) (chgL c f L (12 * f + l) (ffA c f L (12 * f + l) i) i) L ∧ goI c f (12 * f + l) L i = cI (ffA c f L (12 * f + l) i < cN c 135 (12 * f + l)) (chgI c (12 * f + l) (ffA c f L (12 * f + l) i) i) (i + 1) := fun q q2 => ⟨(cI_t q).trans (cI_f q2), (cI_t q).trans (cI_f q2)⟩
  refine E_iconst (v := -1) dL_stage_123 (by decide) ?_
  refine E_istore dL_stage_124 (Nat.le_of_ble_eq_true rfl) (by decide) rfl ?_
  refine E_aload_n dL_stage_126 rfl ?_
  refine E_aload_n dL_stage_127 rfl ?_
  refine E_aload dL_stage_128 rfl ?_
  refine E_bipush (v := nI 6) dL_stage_130 (by decide) ?_
  refine E_ialdL (v := nI _) dL_stage_132 (l_132 hL) (k_132 hL) rfl (by omega) (by decide) h.a6 ?_
  refine E_iload dL_stage_133 rfl ?_
  refine E_aload_n dL_stage_135 rfl ?_
  refine E_iload dL_stage_136 rfl ?_
  refine E_laldL (v := pk _) dL_stage_138 h.plt h.pkd rfl (by omega) (by decide) (h.wk (by omega)) ?_
  refine E_callT5 (fr' := 3) (k1 := 0) (n1 := 0) (k2 := 0) (n2 := 0) dL_stage_139 kO_L_passed kL_L_120 (by exact Nat.le_of_ble_eq_true rfl) (by decide) (by exact Nat.le_of_ble_eq_true rfl) (Or.inl rfl) rfl ?_
  refine sp_L_passed (by first | exact h | exact h.S) hf hl (h.ok (by omega)) ?_
  refine gKv ?_
  refine E_if_ne_b (tgt := 162) dL_stage_142 (by decide) (fun c_142 => ?_) (fun c_142 => ?_)
  · refine E_iconst (v := nI 0) dL_stage_162 (by decide) ?_
    refine E_istore dL_stage_163 (Nat.le_of_ble_eq_true rfl) (by decide) rfl ?_
    refine E_iload dL_stage_165 rfl ?_
    refine E_if_eq (tgt := 315) dL_stage_167 (by decide) (fun _ => ?_) (fun c0 => absurd (by decide) c0)
    refine E_iload dL_stage_315 rfl ?_
    refine E_if_eq (tgt := 357) dL_stage_317 (by decide) (fun _ => ?_) (fun c0 => absurd (by decide) c0)
    refine E_iload dL_stage_357 rfl ?_
    refine E_iconst (v := nI 5) dL_stage_359 (by decide) ?_
    refine E_icmp_ne_n (tgt := 370) dL_stage_360 (by decide) (by omega) (by omega) (fun c_360 => ?_) (fun c_360 => ?_)
    · refine E_iload dL_stage_370 rfl ?_
      refine E_if_ge (tgt := 382) dL_stage_372 (by decide) (fun c0 => absurd c0 (by decide)) (fun _ => ?_)
      refine E_iload dL_stage_375 rfl ?_
      refine E_iconst (v := nI 1) dL_stage_377 (by decide) ?_
      refine E_iadd_n dL_stage_378 ?_
      refine E_goto (tgt := 384) dL_stage_379 (by decide) ?_
      refine E_istore dL_stage_384 (Nat.le_of_ble_eq_true rfl) (by decide) rfl ?_
      refine E_goto (tgt := 109) dL_stage_386 (by decide) ?_
      refine K M z L (i + 1) _ _ _ h (stpB_1 (by omega) (by omega) hi) (Or.inr ⟨rfl, ?_⟩)
      obtain ⟨q1, q2⟩ := hgo (fun q => by first | exact q.1 c_142 | exact c_155 q.2)
      exact ⟨q1.symm, q2.symm⟩
    · exfalso; omega
  · refine E_aload_n dL_stage_145 rfl ?_
    refine E_iload dL_stage_146 rfl ?_
    refine E_aload_n dL_stage_148 rfl ?_
    refine E_iload dL_stage_149 rfl ?_
    refine E_laldL (v := pk _) dL_stage_151 h.plt h.pkd rfl (by omega) (by decide) (h.wk (by omega)) ?_
    refine E_callT3 (fr' := 2) (k1 := 0) (n1 := 0) (k2 := 0) (n2 := 0) dL_stage_152 kO_L_has kL_L_165 (by exact Nat.le_of_ble_eq_true rfl) (by decide) (by exact Nat.le_of_ble_eq_true rfl) (Or.inl rfl) rfl ?_
    refine sp_L_has (by first | exact h | exact h.S) hf hl (h.ok (by omega)) ?_
    refine gKv ?_
    refine E_if_eq_b (tgt := 162) dL_stage_155 (by decide) (fun c_155 => ?_) (fun c_155 => ?_)
    · refine E_iconst (v := nI 0) dL_stage_162 (by decide) ?_
      refine E_istore dL_stage_163 (Nat.le_of_ble_eq_true rfl) (by decide) rfl ?_
      refine E_iload dL_stage_165 rfl ?_
      refine E_if_eq (tgt := 315) dL_stage_167 (by decide) (fun _ => ?_) (fun c0 => absurd (by decide) c0)
      refine E_iload dL_stage_315 rfl ?_
      refine E_if_eq (tgt := 357) dL_stage_317 (by decide) (fun _ => ?_) (fun c0 => absurd (by decide) c0)
      refine E_iload dL_stage_357 rfl ?_
      refine E_iconst (v := nI 5) dL_stage_359 (by decide) ?_
      refine E_icmp_ne_n (tgt := 370) dL_stage_360 (by decide) (by omega) (by omega) (fun c_360 => ?_) (fun c_360 => ?_)
      · refine E_iload dL_stage_370 rfl ?_
        refine E_if_ge (tgt := 382) dL_stage_372 (by decide) (fun c0 => absurd c0 (by decide)) (fun _ => ?_)
        refine E_iload dL_stage_375 rfl ?_
        refine E_iconst (v := nI 1) dL_stage_377 (by decide) ?_
        refine E_iadd_n dL_stage_378 ?_
        refine E_goto (tgt := 384) dL_stage_379 (by decide) ?_
        refine E_istore dL_stage_384 (Nat.le_of_ble_eq_true rfl) (by decide) rfl ?_
        refine E_goto (tgt := 109) dL_stage_386 (by decide) ?_
        refine K M z L (i + 1) _ _ _ h (stpB_1 (by omega) (by omega) hi) (Or.inr ⟨rfl, ?_⟩)
        obtain ⟨q1, q2⟩ := hgo (fun q => by first | exact q.1 c_142 | exact c_155 q.2)
        exact ⟨q1.symm, q2.symm⟩
      · exfalso; omega
    · refine E_iconst (v := nI 1) dL_stage_158 (by decide) ?_
      refine E_goto (tgt := 163) dL_stage_159 (by decide) ?_
      refine E_istore dL_stage_163 (Nat.le_of_ble_eq_true rfl) (by decide) rfl ?_
      refine E_iload dL_stage_165 rfl ?_
      refine E_if_eq (tgt := 315) dL_stage_167 (by decide) (fun c0 => absurd c0 (by decide)) (fun _ => ?_)
      refine E_iload dL_stage_170 rfl ?_
      refine E_iconst (v := nI 5) dL_stage_172 (by decide) ?_
      refine E_icmp_ne_n (tgt := 315) dL_stage_173 (by decide) (by omega) (by omega) (fun c_173 => ?_) (fun c_173 => ?_)
      · refine E_iload dL_stage_315 rfl ?_
        refine E_if_eq (tgt := 357) dL_stage_317 (by decide) (fun c0 => absurd c0 (by decide)) (fun _ => ?_)
        refine E_iload dL_stage_320 rfl ?_
        refine E_iconst (v := nI 4) dL_stage_322 (by decide) ?_
        refine E_icmp_ne_n (tgt := 342) dL_stage_323 (by decide) (by omega) (by omega) (fun c_323 => ?_) (fun c_323 => ?_)
        · refine E_aload_n dL_stage_342 rfl ?_
          refine E_aload_n dL_stage_343 rfl ?_
          refine E_aload_n dL_stage_344 rfl ?_
          refine E_aload_n dL_stage_345 rfl ?_
          refine E_aload dL_stage_346 rfl ?_
          refine E_iload dL_stage_348 rfl ?_
          refine E_iload dL_stage_350 rfl ?_
          refine E_callT7 (fr' := 6) (k1 := 0) (n1 := 0) (k2 := 0) (n2 := 0) dL_stage_352 kO_L_rules kL_L_161 (by exact Nat.le_of_ble_eq_true rfl) (by decide) (by exact Nat.le_of_ble_eq_true rfl) (Or.inl rfl) rfl ?_
          have hp : goP c f L (12 * f + l) i := ⟨c_142, c_155⟩
          obtain ⟨k1, k2⟩ := hg3 hp (by omega)
          refine sp_L_rules h hl hi (by omega) bd m1_w (fun M z1 h hz => ?_) (fun k M z1 hk hf2 h hz => ?_)
          · have hL := h.lay
            refine gKv ?_
            refine E_istore dL_stage_355 (Nat.le_of_ble_eq_true rfl) (by decide) rfl ?_
            refine E_iload dL_stage_357 rfl ?_
            refine E_iconst (v := nI 5) dL_stage_359 (by decide) ?_
            refine E_icmp_ne_n (tgt := 370) dL_stage_360 (by decide) (by omega) (by omega) (fun c_360 => ?_) (fun c_360 => ?_)
            · refine E_iload dL_stage_370 rfl ?_
              refine E_if_ge (tgt := 382) dL_stage_372 (by decide) (fun c0 => absurd c0 (by decide)) (fun _ => ?_)
              refine E_iload dL_stage_375 rfl ?_
              refine E_iconst (v := nI 1) dL_stage_377 (by decide) ?_
              refine E_iadd_n dL_stage_378 ?_
              refine E_goto (tgt := 384) dL_stage_379 (by decide) ?_
              refine E_istore dL_stage_384 (Nat.le_of_ble_eq_true rfl) (by decide) rfl ?_
              refine E_goto (tgt := 109) dL_stage_386 (by decide) ?_
              exact K M z1 L (i + 1) _ _ _ h (stpB_1 (by omega) (by omega) hi) (hz.imp id (fun q => ⟨q.1, by rw [k1, cI_f q.2], by rw [k2, cI_f q.2]⟩))
            · exfalso; omega
          · have hL := h.lay
            have hlt := chgI_b c (12 * f + l) k i
            have hw : chgW c f L (-1) (12 * f + l) k i = -1 := chgW_m1 hn hi hf2
            rw [hw] at h
            refine gKv ?_
            refine E_istore dL_stage_355 (Nat.le_of_ble_eq_true rfl) (by decide) rfl ?_
            refine E_iload dL_stage_357 rfl ?_
            refine E_iconst (v := nI 5) dL_stage_359 (by decide) ?_
            refine E_icmp_ne_n (tgt := 370) dL_stage_360 (by decide) (by omega) (by omega) (fun c_360 => ?_) (fun c_360 => ?_)
            · refine E_iload dL_stage_370 rfl ?_
              refine E_if_ge_n (tgt := 382) dL_stage_372 (by decide) (by omega) ?_
              refine E_iload dL_stage_382 rfl ?_
              refine E_istore dL_stage_384 (Nat.le_of_ble_eq_true rfl) (by decide) rfl ?_
              refine E_goto (tgt := 109) dL_stage_386 (by decide) ?_
              exact K M z1 _ _ _ _ _ h (stpB_c ho hi hf2) (hz.imp id (fun q => ⟨q.1, by rw [k1, ← q.2, cI_t (by omega)], by rw [k2, ← q.2, cI_t (by omega)]⟩))
            · exfalso; omega
        · refine E_aload_n dL_stage_326 rfl ?_
          refine E_aload_n dL_stage_327 rfl ?_
          refine E_aload_n dL_stage_328 rfl ?_
          refine E_aload_n dL_stage_329 rfl ?_
          refine E_aload dL_stage_330 rfl ?_
          refine E_iload dL_stage_332 rfl ?_
          refine E_iload dL_stage_334 rfl ?_
          refine E_callT7 (fr' := 7) (k1 := 0) (n1 := 0) (k2 := 0) (n2 := 0) dL_stage_336 kO_L_context kL_L_169 (by exact Nat.le_of_ble_eq_true rfl) (by decide) (by exact Nat.le_of_ble_eq_true rfl) (Or.inl rfl) rfl ?_
          have hp : goP c f L (12 * f + l) i := ⟨c_142, c_155⟩
          obtain ⟨k1, k2⟩ := hg4 hp (by omega)
          refine sp_L_context h hl bd hi (by omega) (fun hc => ?_) (fun hc M z1 L1 i1 h hs hz => ?_)
          · rw [cI_f hc] at k1 k2
            refine gKv ?_
            refine E_goto (tgt := 355) dL_stage_339 (by decide) ?_
            refine E_istore dL_stage_355 (Nat.le_of_ble_eq_true rfl) (by decide) rfl ?_
            refine E_iload dL_stage_357 rfl ?_
            refine E_iconst (v := nI 5) dL_stage_359 (by decide) ?_
            refine E_icmp_ne_n (tgt := 370) dL_stage_360 (by decide) (by omega) (by omega) (fun c_360 => ?_) (fun c_360 => ?_)
            · refine E_iload dL_stage_370 rfl ?_
              refine E_if_ge (tgt := 382) dL_stage_372 (by decide) (fun c0 => absurd c0 (by decide)) (fun _ => ?_)
              refine E_iload dL_stage_375 rfl ?_
              refine E_iconst (v := nI 1) dL_stage_377 (by decide) ?_
              refine E_iadd_n dL_stage_378 ?_
              refine E_goto (tgt := 384) dL_stage_379 (by decide) ?_
              refine E_istore dL_stage_384 (Nat.le_of_ble_eq_true rfl) (by decide) rfl ?_
              refine E_goto (tgt := 109) dL_stage_386 (by decide) ?_
              exact K M z L (i + 1) _ _ _ h (stpB_1 (by omega) (by omega) hi) (Or.inr ⟨rfl, k1.symm, k2.symm⟩)
            · exfalso; omega
          · rw [cI_t hc] at k1 k2
            have hL := h.lay
            have hi1 := hs.2.1
            refine gKv ?_
            refine E_goto (tgt := 355) dL_stage_339 (by decide) ?_
            refine E_istore dL_stage_355 (Nat.le_of_ble_eq_true rfl) (by decide) rfl ?_
            refine E_iload dL_stage_357 rfl ?_
            refine E_iconst (v := nI 5) dL_stage_359 (by decide) ?_
            refine E_icmp_ne_n (tgt := 370) dL_stage_360 (by decide) (by omega) (by omega) (fun c_360 => ?_) (fun c_360 => ?_)
            · refine E_iload dL_stage_370 rfl ?_
              refine E_if_ge_n (tgt := 382) dL_stage_372 (by decide) (by omega) ?_
              refine E_iload dL_stage_382 rfl ?_
              refine E_istore dL_stage_384 (Nat.le_of_ble_eq_true rfl) (by decide) rfl ?_
              refine E_goto (tgt := 109) dL_stage_386 (by decide) ?_
              exact K M z1 L1 i1 _ _ _ h hs (hz.imp id (fun q => ⟨q.1, by rw [k1]; exact q.2.1, by rw [k2]; exact q.2.2⟩))
            · exfalso; omega
      · exfalso; omega
set_option maxRecDepth 100000 in
set_option maxHeartbeats 4000000 in
theorem lp_L_fwd {g : gG} {Q : Option Value ⊕ String → gM → Prop} {c : Cf} {f : Nat} {M0 : gM} {pw : Nat} {l : Nat} (hl : l < cN c 129 f) {s B P : Nat} {x8 : Int32} (hkd : cN c 130 (12 * f + l) ≤ 4) (h3 : 3 * B < 2 ^ 18) (hP : P + 2 * B < 2 ^ 18) : ∀ t (L : List Gl) (i : Nat) (z : Int32) (M : gM), lX c f M0 pw L (-1) z M → L.length - i ≤ t → i ≤ 100 → bdI B P i L → (∀ M z' L' i' v9 v10 v11 v12, lX c f M0 pw L' (-1) z' M → L'.length ≤ i' → bdI B P i' L' → (z' = nI 1 ∨ (z' = z ∧ L' = gos c f (12 * f + l) t L i)) → E g 8 0 0 mL_stage 389 [.ref (pw + 1), .ref 130, .ref 131, .ref 132, .ref 133, .int (nI s), .int (nI (8 * f + l)), .int (nI (cN c 130 (12 * f + l))), .int x8, v9, v10, v11, v12] [] M Q) → ∀ v10 v11 v12, E g 8 0 0 mL_stage 109 [.ref (pw + 1), .ref 130, .ref 131, .ref 132, .ref 133, .int (nI s), .int (nI (8 * f + l)), .int (nI (cN c 130 (12 * f + l))), .int x8, .int (nI i), v10, v11, v12] [] M Q := by
  intro t
  induction t with
  | zero =>
    intro L i z M h hm hi hb K v10 v11 v12
    have hL := h.lay
    have hf := h.f2
    have hn := h.len
    have hct := h.ct
    refine E_iload dL_stage_109 rfl ?_
    refine E_if_lt_n (tgt := 389) dL_stage_111 (by decide) (by omega) ?_
    refine E_iload dL_stage_114 rfl ?_
    refine E_aload dL_stage_116 rfl ?_
    refine E_iconst (v := nI 5) dL_stage_118 (by decide) ?_
    refine E_ialdL (v := nI (List.length _)) dL_stage_119 (l_132 hL) (k_132 hL) rfl (by omega) (by decide) h.a5 ?_
    refine E_icmp_ge_n (tgt := 389) dL_stage_120 (by decide) (by omega) (by omega) (fun c_120 => ?_) (fun c_120 => ?_)
    · exact K M z L i _ _ _ _ h (by omega) hb (Or.inr ⟨rfl, rfl⟩)
    · exfalso; omega
  | succ t ih =>
    intro L i z M h hm hi hb K v10 v11 v12
    have hL := h.lay
    have hf := h.f2
    have hn := h.len
    have hct := h.ct
    refine E_iload dL_stage_109 rfl ?_
    refine E_if_lt_n (tgt := 389) dL_stage_111 (by decide) (by omega) ?_
    refine E_iload dL_stage_114 rfl ?_
    refine E_aload dL_stage_116 rfl ?_
    refine E_iconst (v := nI 5) dL_stage_118 (by decide) ?_
    refine E_ialdL (v := nI (List.length _)) dL_stage_119 (l_132 hL) (k_132 hL) rfl (by omega) (by decide) h.a5 ?_
    refine E_icmp_ge_n (tgt := 389) dL_stage_120 (by decide) (by omega) (by omega) (fun c_120 => ?_) (fun c_120 => ?_)
    · exact K M z L i _ _ _ _ h (by omega) hb (Or.inr ⟨rfl, (show gos c f (12 * f + l) (t + 1) L i = L from cI_f (by omega)).symm⟩)
    · have hgs : gos c f (12 * f + l) (t + 1) L i = gos c f (12 * f + l) t (goL c f (12 * f + l) L i) (goI c f (12 * f + l) L i) := cI_t (by omega)
      have bd := bdI_J hb h3 hP
      refine st_L_stage h hl bd (by omega) hkd (fun M z1 L1 i1 v10 v11 v12 h hs hz => ?_) _ _ _
      refine ih L1 i1 z1 M h (by have := hs.2.2.1; omega) hs.2.1 (hs.2.2.2 B P hb bd) (fun M z' L' i' v9 v10 v11 v12 h hl2 hb2 hz2 => ?_) _ _ _
      refine K M z' L' i' _ _ _ _ h hl2 hb2 ?_
      rcases hz2 with q | ⟨q1, q2⟩
      · exact Or.inl q
      · rcases hz with q3 | ⟨q3, q4, q5⟩
        · exact Or.inl (q1.trans q3)
        · exact Or.inr ⟨q1.trans q3, by rw [q2, q4, q5, hgs]⟩
set_option maxRecDepth 100000 in
set_option maxHeartbeats 4000000 in
theorem bk_L_stage {g : gG} {M : gM} {Q : Option Value ⊕ String → gM → Prop} {c : Cf} {f : Nat} {M0 : gM} {pw : Nat} {L : List Gl} {w z : Int32} (h : lX c f M0 pw L w z M) {l : Nat} (hl : l < cN c 129 f) {s i : Nat} {x8 : Int32} (hi : i < L.length) (hkd : cN c 130 (12 * f + l) = 5) (hg : goP c f L (12 * f + l) i) (K : ∀ M v10 v11 v12, lX c f M0 pw (gbS c f (12 * f + l) L i) w z M → E g 8 0 0 mL_stage 357 [.ref (pw + 1), .ref 130, .ref 131, .ref 132, .ref 133, .int (nI s), .int (nI (8 * f + l)), .int (nI 5), .int x8, .int (nI i), v10, v11, v12] [] M Q) : ∀ k, k ≤ cN c 135 (12 * f + l) → fnd (fun k => bfit c f L (12 * f + l) k i) (cN c 135 (12 * f + l)) k = bkA c f L (12 * f + l) i → ∀ v10 (x11 : Int32), E g 8 0 0 mL_stage 179 [.ref (pw + 1), .ref 130, .ref 131, .ref 132, .ref 133, .int (nI s), .int (nI (8 * f + l)), .int (nI 5), .int x8, .int (nI i), v10, .int x11, .int (nI k)] [] M Q := by
  refine lpUp (cN c 135 (12 * f + l)) (fun k hk ih => ?_)
  intro he v10 x11
  have hL := h.lay
  have hf := h.f2
  have hn := h.len
  have hct := h.ct
  have hr4 := h.S.r4 (12 * f + l)
  have hb := aft_b c f (12 * f + l) hi
  have hi2 := h.ok hi
  have hi1 : k < cN c 135 (12 * f + l) → ¬ rul c (12 * f + l) k 1 = -100 := fun z => by
    have hr := h.wf.ru z
    rw [hkd] at hr
    exact iItem_z (iF5 hr.1).2.1
  refine E_iload dL_stage_179 rfl ?_
  refine E_aload_n dL_stage_181 rfl ?_
  refine E_iload dL_stage_182 rfl ?_
  refine E_ialdL (v := nI (mEn _ _)) dL_stage_184 (l_129 hL) (k_129 hL) rfl (by omega) (by decide) (h.me hl) ?_
  refine E_bipush (v := nI 13) dL_stage_185 (by decide) ?_
  refine E_ishr dL_stage_187 ?_
  rw [mE_13 h.wf]
  refine E_icmp_ge_n (tgt := 312) dL_stage_188 (by decide) (by omega) (by omega) (fun c_188 => ?_) (fun c_188 => ?_)
  · refine E_goto (tgt := 357) dL_stage_312 (by decide) ?_
    refine K M _ _ _ ?_
    have e1 : gbS c f (12 * f + l) L i = L := cI_f (fun q => by have := q.2; rw [← he, fnd_end (by omega)] at this; omega)
    rw [e1]
    exact h
  · refine E_aload_n dL_stage_191 rfl ?_
    refine E_aload_n dL_stage_192 rfl ?_
    refine E_aload dL_stage_193 rfl ?_
    refine E_aload_n dL_stage_195 rfl ?_
    refine E_iload dL_stage_196 rfl ?_
    refine E_iload dL_stage_198 rfl ?_
    refine E_iconst (v := nI 1) dL_stage_200 (by decide) ?_
    refine E_callT4 (fr' := 1) (k1 := 0) (n1 := 0) (k2 := 0) (n2 := 0) dL_stage_201 kO_L_number kL_L_124 (by exact Nat.le_of_ble_eq_true rfl) (by decide) (by exact Nat.le_of_ble_eq_true rfl) (Or.inl rfl) rfl ?_
    refine sp_L_number (by first | exact h | exact h.S) hf hl (by omega) (by decide) ?_
    refine gKv ?_
    refine E_iload dL_stage_204 rfl ?_
    refine E_callT5 (fr' := 3) (k1 := 0) (n1 := 0) (k2 := 0) (n2 := 0) dL_stage_206 kO_L_fits kL_L_157 (by exact Nat.le_of_ble_eq_true rfl) (by decide) (by exact Nat.le_of_ble_eq_true rfl) (Or.inl rfl) rfl ?_
    refine sp_L_fitsN h (by omega) ?_
    refine gKv ?_
    refine E_if_eq_b (tgt := 306) dL_stage_209 (by decide) (fun c_209 => ?_) (fun c_209 => ?_)
    · refine E_iinc_n (d := 1) dL_stage_306 rfl rfl rfl (by decide) rfl ?_
      refine E_goto (tgt := 179) dL_stage_309 (by decide) ?_
      have hnf : ¬ bfit c f L (12 * f + l) k i := fun q => by
        obtain ⟨q1, q2, q3⟩ := q
        first
          | exact c_209 ((thr_i (hi1 (by omega)) hi).mpr q1)
          | exact c_241 q2
          | exact c_273 (thr_0.mpr ((thr_o (by omega)).mp q3))
          | exact c_273 q3
      exact ih (by omega) (by rw [← he]; exact (fnd_skip (P := fun k => bfit c f L (12 * f + l) k i) (by omega) hnf).symm) _ _
    · refine E_aload_n dL_stage_212 rfl ?_
      refine E_aload_n dL_stage_213 rfl ?_
      refine E_aload dL_stage_214 rfl ?_
      refine E_aload_n dL_stage_216 rfl ?_
      refine E_iload dL_stage_217 rfl ?_
      refine E_iload dL_stage_219 rfl ?_
      refine E_iconst (v := nI 0) dL_stage_221 (by decide) ?_
      refine E_callT4 (fr' := 1) (k1 := 0) (n1 := 0) (k2 := 0) (n2 := 0) dL_stage_222 kO_L_number kL_L_124 (by exact Nat.le_of_ble_eq_true rfl) (by decide) (by exact Nat.le_of_ble_eq_true rfl) (Or.inl rfl) rfl ?_
      refine sp_L_number (by first | exact h | exact h.S) hf hl (by omega) (by decide) ?_
      refine gKv ?_
      refine E_aload_n dL_stage_225 rfl ?_
      refine E_aload_n dL_stage_226 rfl ?_
      refine E_aload_n dL_stage_227 rfl ?_
      refine E_aload dL_stage_228 rfl ?_
      refine E_iload dL_stage_230 rfl ?_
      refine E_iload dL_stage_232 rfl ?_
      refine E_iconst (v := -1) dL_stage_234 (by decide) ?_
      refine E_callT7 (fr' := 4) (k1 := 0) (n1 := 0) (k2 := 0) (n2 := 0) dL_stage_235 kO_L_next kL_L_145 (by exact Nat.le_of_ble_eq_true rfl) (by decide) (by exact Nat.le_of_ble_eq_true rfl) (Or.inl rfl) rfl ?_
      refine sp_L_nextB h hl (by omega) ?_
      refine gKv ?_
      refine E_callT5 (fr' := 3) (k1 := 0) (n1 := 0) (k2 := 0) (n2 := 0) dL_stage_238 kO_L_fits kL_L_157 (by exact Nat.le_of_ble_eq_true rfl) (by decide) (by exact Nat.le_of_ble_eq_true rfl) (Or.inl rfl) rfl ?_
      refine sp_L_fits h (Nat.le_trans (ahd_le _ _ _ _ _) (by omega)) ?_
      refine gKv ?_
      refine E_if_eq_b (tgt := 306) dL_stage_241 (by decide) (fun c_241 => ?_) (fun c_241 => ?_)
      · refine E_iinc_n (d := 1) dL_stage_306 rfl rfl rfl (by decide) rfl ?_
        refine E_goto (tgt := 179) dL_stage_309 (by decide) ?_
        have hnf : ¬ bfit c f L (12 * f + l) k i := fun q => by
          obtain ⟨q1, q2, q3⟩ := q
          first
            | exact c_209 ((thr_i (hi1 (by omega)) hi).mpr q1)
            | exact c_241 q2
            | exact c_273 (thr_0.mpr ((thr_o (by omega)).mp q3))
            | exact c_273 q3
        exact ih (by omega) (by rw [← he]; exact (fnd_skip (P := fun k => bfit c f L (12 * f + l) k i) (by omega) hnf).symm) _ _
      · refine E_aload_n dL_stage_244 rfl ?_
        refine E_aload_n dL_stage_245 rfl ?_
        refine E_aload dL_stage_246 rfl ?_
        refine E_aload_n dL_stage_248 rfl ?_
        refine E_iload dL_stage_249 rfl ?_
        refine E_iload dL_stage_251 rfl ?_
        refine E_iconst (v := nI 2) dL_stage_253 (by decide) ?_
        refine E_callT4 (fr' := 1) (k1 := 0) (n1 := 0) (k2 := 0) (n2 := 0) dL_stage_254 kO_L_number kL_L_124 (by exact Nat.le_of_ble_eq_true rfl) (by decide) (by exact Nat.le_of_ble_eq_true rfl) (Or.inl rfl) rfl ?_
        refine sp_L_number (by first | exact h | exact h.S) hf hl (by omega) (by decide) ?_
        refine gKv ?_
        refine E_aload_n dL_stage_257 rfl ?_
        refine E_aload_n dL_stage_258 rfl ?_
        refine E_aload_n dL_stage_259 rfl ?_
        refine E_aload dL_stage_260 rfl ?_
        refine E_iload dL_stage_262 rfl ?_
        refine E_iload dL_stage_264 rfl ?_
        refine E_iconst (v := nI 1) dL_stage_266 (by decide) ?_
        refine E_callT7 (fr' := 4) (k1 := 0) (n1 := 0) (k2 := 0) (n2 := 0) dL_stage_267 kO_L_next kL_L_145 (by exact Nat.le_of_ble_eq_true rfl) (by decide) (by exact Nat.le_of_ble_eq_true rfl) (Or.inl rfl) rfl ?_
        refine sp_L_nextF h hl hi (fun hn1 => ?_) (fun hn1 => ?_)
        · refine gKv ?_
          refine E_callT5 (fr' := 3) (k1 := 0) (n1 := 0) (k2 := 0) (n2 := 0) dL_stage_270 kO_L_fits kL_L_157 (by exact Nat.le_of_ble_eq_true rfl) (by decide) (by exact Nat.le_of_ble_eq_true rfl) (Or.inl rfl) rfl ?_
          refine sp_L_fitsM h ?_
          refine gKv ?_
          refine E_if_ne_b (tgt := 279) dL_stage_273 (by decide) (fun c_273 => ?_) (fun c_273 => ?_)
          · refine E_aload_n dL_stage_279 rfl ?_
            refine E_iload dL_stage_280 rfl ?_
            refine E_aload_n dL_stage_282 rfl ?_
            refine E_iload dL_stage_283 rfl ?_
            refine E_laldL (v := pk (gat L i)) dL_stage_285 h.plt h.pkd rfl (by omega) (by decide) (h.wk hi) ?_
            refine E_iconst (v := nI 0) dL_stage_286 (by decide) ?_
            refine E_sipush (v := nI 255) dL_stage_287 (by decide) ?_
            refine E_aload_n dL_stage_290 rfl ?_
            refine E_iload dL_stage_291 rfl ?_
            refine E_iload dL_stage_293 rfl ?_
            refine E_iconst (v := nI 3) dL_stage_295 (by decide) ?_
            refine E_callT4 (fr' := 1) (k1 := 0) (n1 := 0) (k2 := 0) (n2 := 0) dL_stage_296 kO_L_number kL_L_124 (by exact Nat.le_of_ble_eq_true rfl) (by decide) (by exact Nat.le_of_ble_eq_true rfl) (Or.inl rfl) rfl ?_
            refine sp_L_number h.S hf hl (by omega) (by decide) ?_
            have hrg := (h.S.wz.2.2.2.2.1 _ k (by omega)).2
            rw [hkd] at hrg
            obtain ⟨g1, g2⟩ := gZ_n (hrg.2.2.2 (Or.inr rfl))
            have g3 := glZ_256 g2
            rw [g1]
            refine gKv ?_
            refine E_callT4 (fr' := 1) (k1 := 0) (n1 := 0) (k2 := 0) (n2 := 0) dL_stage_299 kO_L_with kL_L_132 (by exact Nat.le_of_ble_eq_true rfl) (by decide) (by exact Nat.le_of_ble_eq_true rfl) (Or.inl rfl) rfl ?_
            refine sp_L_with_N hi2 g3 ?_
            refine gKv ?_
            have hfit : bfit c f L (12 * f + l) k i := ⟨(thr_i (hi1 (by omega)) hi).mp c_209, c_241, by
              first
                | exact (thr_o (by omega)).mpr (thr_0.mp c_273)
                | exact c_273⟩
            rw [fnd_hit (P := fun k => bfit c f L (12 * f + l) k i) (by omega) hfit] at he
            have e1 : gbS c f (12 * f + l) L i = numL L i (gN (rul c (12 * f + l) (bkA c f L (12 * f + l) i) 3)) := cI_t ⟨hg, by omega⟩
            rw [← he] at e1
            rw [e1] at K
            refine E_putK dL_stage_302 h rfl hi rfl (okZ_sN hi2 g2) (fun M h => ?_)
            have hL := h.lay
            refine E_goto (tgt := 312) dL_stage_303 (by decide) ?_
            refine E_goto (tgt := 357) dL_stage_312 (by decide) ?_
            exact K M _ _ _ h
          · refine E_goto (tgt := 306) dL_stage_276 (by decide) ?_
            refine E_iinc_n (d := 1) dL_stage_306 rfl rfl rfl (by decide) rfl ?_
            refine E_goto (tgt := 179) dL_stage_309 (by decide) ?_
            have hnf : ¬ bfit c f L (12 * f + l) k i := fun q => by
              obtain ⟨q1, q2, q3⟩ := q
              first
                | exact c_209 ((thr_i (hi1 (by omega)) hi).mpr q1)
                | exact c_241 q2
                | exact c_273 (thr_0.mpr ((thr_o (by omega)).mp q3))
                | exact c_273 q3
            exact ih (by omega) (by rw [← he]; exact (fnd_skip (P := fun k => bfit c f L (12 * f + l) k i) (by omega) hnf).symm) _ _
        · refine gKv ?_
          refine E_callT5 (fr' := 3) (k1 := 0) (n1 := 0) (k2 := 0) (n2 := 0) dL_stage_270 kO_L_fits kL_L_157 (by exact Nat.le_of_ble_eq_true rfl) (by decide) (by exact Nat.le_of_ble_eq_true rfl) (Or.inl rfl) rfl ?_
          refine sp_L_fitsN h (by omega) ?_
          refine gKv ?_
          refine E_if_ne_b (tgt := 279) dL_stage_273 (by decide) (fun c_273 => ?_) (fun c_273 => ?_)
          · refine E_aload_n dL_stage_279 rfl ?_
            refine E_iload dL_stage_280 rfl ?_
            refine E_aload_n dL_stage_282 rfl ?_
            refine E_iload dL_stage_283 rfl ?_
            refine E_laldL (v := pk (gat L i)) dL_stage_285 h.plt h.pkd rfl (by omega) (by decide) (h.wk hi) ?_
            refine E_iconst (v := nI 0) dL_stage_286 (by decide) ?_
            refine E_sipush (v := nI 255) dL_stage_287 (by decide) ?_
            refine E_aload_n dL_stage_290 rfl ?_
            refine E_iload dL_stage_291 rfl ?_
            refine E_iload dL_stage_293 rfl ?_
            refine E_iconst (v := nI 3) dL_stage_295 (by decide) ?_
            refine E_callT4 (fr' := 1) (k1 := 0) (n1 := 0) (k2 := 0) (n2 := 0) dL_stage_296 kO_L_number kL_L_124 (by exact Nat.le_of_ble_eq_true rfl) (by decide) (by exact Nat.le_of_ble_eq_true rfl) (Or.inl rfl) rfl ?_
            refine sp_L_number h.S hf hl (by omega) (by decide) ?_
            have hrg := (h.S.wz.2.2.2.2.1 _ k (by omega)).2
            rw [hkd] at hrg
            obtain ⟨g1, g2⟩ := gZ_n (hrg.2.2.2 (Or.inr rfl))
            have g3 := glZ_256 g2
            rw [g1]
            refine gKv ?_
            refine E_callT4 (fr' := 1) (k1 := 0) (n1 := 0) (k2 := 0) (n2 := 0) dL_stage_299 kO_L_with kL_L_132 (by exact Nat.le_of_ble_eq_true rfl) (by decide) (by exact Nat.le_of_ble_eq_true rfl) (Or.inl rfl) rfl ?_
            refine sp_L_with_N hi2 g3 ?_
            refine gKv ?_
            have hfit : bfit c f L (12 * f + l) k i := ⟨(thr_i (hi1 (by omega)) hi).mp c_209, c_241, by
              first
                | exact (thr_o (by omega)).mpr (thr_0.mp c_273)
                | exact c_273⟩
            rw [fnd_hit (P := fun k => bfit c f L (12 * f + l) k i) (by omega) hfit] at he
            have e1 : gbS c f (12 * f + l) L i = numL L i (gN (rul c (12 * f + l) (bkA c f L (12 * f + l) i) 3)) := cI_t ⟨hg, by omega⟩
            rw [← he] at e1
            rw [e1] at K
            refine E_putK dL_stage_302 h rfl hi rfl (okZ_sN hi2 g2) (fun M h => ?_)
            have hL := h.lay
            refine E_goto (tgt := 312) dL_stage_303 (by decide) ?_
            refine E_goto (tgt := 357) dL_stage_312 (by decide) ?_
            exact K M _ _ _ h
          · refine E_goto (tgt := 306) dL_stage_276 (by decide) ?_
            refine E_iinc_n (d := 1) dL_stage_306 rfl rfl rfl (by decide) rfl ?_
            refine E_goto (tgt := 179) dL_stage_309 (by decide) ?_
            have hnf : ¬ bfit c f L (12 * f + l) k i := fun q => by
              obtain ⟨q1, q2, q3⟩ := q
              first
                | exact c_209 ((thr_i (hi1 (by omega)) hi).mpr q1)
                | exact c_241 q2
                | exact c_273 (thr_0.mpr ((thr_o (by omega)).mp q3))
                | exact c_273 q3
            exact ih (by omega) (by rw [← he]; exact (fnd_skip (P := fun k => bfit c f L (12 * f + l) k i) (by omega) hnf).symm) _ _
set_option maxRecDepth 100000 in
set_option maxHeartbeats 4000000 in
theorem lp_L_bwd {g : gG} {Q : Option Value ⊕ String → gM → Prop} {c : Cf} {f : Nat} {M0 : gM} {pw : Nat} {z : Int32} {l : Nat} (hl : l < cN c 129 f) {s B : Nat} {x8 : Int32} (hkd : cN c 130 (12 * f + l) = 5) : ∀ i, 0 ≤ i → ∀ (L : List Gl) (M : gM), lX c f M0 pw L (-1) z M → i ≤ L.length → bdE B L → (∀ M v9 v10 v11 v12, lX c f M0 pw (gbk c f (12 * f + l) i L) (-1) z M → bdE B (gbk c f (12 * f + l) i L) → E g 8 0 0 mL_stage 389 [.ref (pw + 1), .ref 130, .ref 131, .ref 132, .ref 133, .int (nI s), .int (nI (8 * f + l)), .int (nI 5), .int x8, v9, v10, v11, v12] [] M Q) → ∀ v10 v11 v12, E g 8 0 0 mL_stage 109 [.ref (pw + 1), .ref 130, .ref 131, .ref 132, .ref 133, .int (nI s), .int (nI (8 * f + l)), .int (nI 5), .int x8, .int (dI i), v10, v11, v12] [] M Q := by
  refine lpDn 0 (fun i _ ih => ?_)
  intro L M h hil hb K v10 v11 v12
  have hL := h.lay
  have hf := h.f2
  have hn := h.len
  have hct := h.ct
  refine E_iload dL_stage_109 rfl ?_
  refine E_if_lt_d (tgt := 389) dL_stage_111 (by decide) (by omega) (fun c_111 => ?_) (fun c_111 => ?_)
  · first
      | (subst c_111; exact K M _ _ _ _ h hb)
      | (exfalso; omega)
  · obtain ⟨i, rfl⟩ : ∃ q, i = q + 1 := ⟨i - 1, by omega⟩
    rw [dI_succ]
    have hb2 : bdE B (gbS c f (12 * f + l) L i) := by
      unfold gbS
      by_cases q : goP c f L (12 * f + l) i ∧ bkA c f L (12 * f + l) i < cN c 135 (12 * f + l)
      · rw [cI_t q]; exact bdE_num hb
      · rw [cI_f q]; exact hb
    have K2 : ∀ M v10 v11 v12, lX c f M0 pw (gbS c f (12 * f + l) L i) (-1) z M → E g 8 0 0 mL_stage 357 [.ref (pw + 1), .ref 130, .ref 131, .ref 132, .ref 133, .int (nI s), .int (nI (8 * f + l)), .int (nI 5), .int x8, .int (nI i), v10, v11, v12] [] M Q := by
      intro M v10 v11 v12 h
      have hL := h.lay
      refine E_iload dL_stage_357 rfl ?_
      refine E_iconst (v := nI 5) dL_stage_359 (by decide) ?_
      refine E_icmp_ne_r (tgt := 370) dL_stage_360 (by decide) (fun c0 => absurd c0 (by decide)) (fun _ => ?_)
      refine E_iload dL_stage_363 rfl ?_
      refine E_iconst (v := nI 1) dL_stage_365 (by decide) ?_
      refine E_isub_d dL_stage_366 ?_
      refine E_goto (tgt := 384) dL_stage_367 (by decide) ?_
      refine E_istore dL_stage_384 (Nat.le_of_ble_eq_true rfl) (by decide) rfl ?_
      refine E_goto (tgt := 109) dL_stage_386 (by decide) ?_
      exact ih (by omega) _ M h (by rw [gbS_len]; omega) hb2 (fun M v9 v10 v11 v12 h hb => K M _ _ _ _ h hb) _ _ _
    refine E_iload dL_stage_114 rfl ?_
    refine E_aload dL_stage_116 rfl ?_
    refine E_iconst (v := nI 5) dL_stage_118 (by decide) ?_
    refine E_ialdL (v := nI (List.length _)) dL_stage_119 (l_132 hL) (k_132 hL) rfl (by omega) (by decide) h.a5 ?_
    refine E_icmp_ge_n (tgt := 389) dL_stage_120 (by decide) (by omega) (by omega) (fun c_120 => ?_) (fun c_120 => ?_)
    · exfalso; omega
    · refine E_iconst (v := -1) dL_stage_123 (by decide) ?_
      refine E_istore dL_stage_124 (Nat.le_of_ble_eq_true rfl) (by decide) rfl ?_
      refine E_aload_n dL_stage_126 rfl ?_
      refine E_aload_n dL_stage_127 rfl ?_
      refine E_aload dL_stage_128 rfl ?_
      refine E_bipush (v := nI 6) dL_stage_130 (by decide) ?_
      refine E_ialdL (v := nI _) dL_stage_132 (l_132 hL) (k_132 hL) rfl (by omega) (by decide) h.a6 ?_
      refine E_iload dL_stage_133 rfl ?_
      refine E_aload_n dL_stage_135 rfl ?_
      refine E_iload dL_stage_136 rfl ?_
      refine E_laldL (v := pk _) dL_stage_138 h.plt h.pkd rfl (by omega) (by decide) (h.wk (by omega)) ?_
      refine E_callT5 (fr' := 3) (k1 := 0) (n1 := 0) (k2 := 0) (n2 := 0) dL_stage_139 kO_L_passed kL_L_120 (by exact Nat.le_of_ble_eq_true rfl) (by decide) (by exact Nat.le_of_ble_eq_true rfl) (Or.inl rfl) rfl ?_
      refine sp_L_passed (by first | exact h | exact h.S) hf hl (h.ok (by omega)) ?_
      refine gKv ?_
      refine E_if_ne_b (tgt := 162) dL_stage_142 (by decide) (fun c_142 => ?_) (fun c_142 => ?_)
      · refine E_iconst (v := nI 0) dL_stage_162 (by decide) ?_
        refine E_istore dL_stage_163 (Nat.le_of_ble_eq_true rfl) (by decide) rfl ?_
        refine E_iload dL_stage_165 rfl ?_
        refine E_if_eq (tgt := 315) dL_stage_167 (by decide) (fun _ => ?_) (fun c0 => absurd (by decide) c0)
        refine E_iload dL_stage_315 rfl ?_
        refine E_if_eq (tgt := 357) dL_stage_317 (by decide) (fun _ => ?_) (fun c0 => absurd (by decide) c0)
        have e1 : gbS c f (12 * f + l) L i = L := cI_f (fun q => by first | exact q.1.1 c_142 | exact c_155 q.1.2)
        rw [e1] at K2
        exact K2 M _ _ _ h
      · refine E_aload_n dL_stage_145 rfl ?_
        refine E_iload dL_stage_146 rfl ?_
        refine E_aload_n dL_stage_148 rfl ?_
        refine E_iload dL_stage_149 rfl ?_
        refine E_laldL (v := pk _) dL_stage_151 h.plt h.pkd rfl (by omega) (by decide) (h.wk (by omega)) ?_
        refine E_callT3 (fr' := 2) (k1 := 0) (n1 := 0) (k2 := 0) (n2 := 0) dL_stage_152 kO_L_has kL_L_165 (by exact Nat.le_of_ble_eq_true rfl) (by decide) (by exact Nat.le_of_ble_eq_true rfl) (Or.inl rfl) rfl ?_
        refine sp_L_has (by first | exact h | exact h.S) hf hl (h.ok (by omega)) ?_
        refine gKv ?_
        refine E_if_eq_b (tgt := 162) dL_stage_155 (by decide) (fun c_155 => ?_) (fun c_155 => ?_)
        · refine E_iconst (v := nI 0) dL_stage_162 (by decide) ?_
          refine E_istore dL_stage_163 (Nat.le_of_ble_eq_true rfl) (by decide) rfl ?_
          refine E_iload dL_stage_165 rfl ?_
          refine E_if_eq (tgt := 315) dL_stage_167 (by decide) (fun _ => ?_) (fun c0 => absurd (by decide) c0)
          refine E_iload dL_stage_315 rfl ?_
          refine E_if_eq (tgt := 357) dL_stage_317 (by decide) (fun _ => ?_) (fun c0 => absurd (by decide) c0)
          have e1 : gbS c f (12 * f + l) L i = L := cI_f (fun q => by first | exact q.1.1 c_142 | exact c_155 q.1.2)
          rw [e1] at K2
          exact K2 M _ _ _ h
        · refine E_iconst (v := nI 1) dL_stage_158 (by decide) ?_
          refine E_goto (tgt := 163) dL_stage_159 (by decide) ?_
          refine E_istore dL_stage_163 (Nat.le_of_ble_eq_true rfl) (by decide) rfl ?_
          refine E_iload dL_stage_165 rfl ?_
          refine E_if_eq (tgt := 315) dL_stage_167 (by decide) (fun c0 => absurd c0 (by decide)) (fun _ => ?_)
          refine E_iload dL_stage_170 rfl ?_
          refine E_iconst (v := nI 5) dL_stage_172 (by decide) ?_
          refine E_icmp_ne_r (tgt := 315) dL_stage_173 (by decide) (fun c0 => absurd c0 (by decide)) (fun _ => ?_)
          refine E_iconst (v := nI 0) dL_stage_176 (by decide) ?_
          refine E_istore dL_stage_177 (Nat.le_of_ble_eq_true rfl) (by decide) rfl ?_
          exact bk_L_stage h hl (by omega) hkd ⟨c_142, c_155⟩ K2 0 (Nat.zero_le _) rfl _ _
set_option maxRecDepth 100000 in
set_option maxHeartbeats 4000000 in
theorem lp_L_stage {g : gG} {Q : Option Value ⊕ String → gM → Prop} {c : Cf} {f : Nat} {M0 : gM} {pw : Nat} {s : Nat} (hs1 : s ≤ 1) : ∀ m (l e : Nat) (L : List Gl) (z : Int32) (M : gM), lX c f M0 pw L (-1) z M → l + m = cN c 129 f → bdE (3 ^ e) L → e + ecs c f s l m ≤ 8 → (∀ M z' L', lX c f M0 pw L' (-1) z' M → bdE (3 ^ (e + ecs c f s l m)) L' → (z' = nI 1 ∨ (z' = z ∧ L' = stg c f s m (12 * f + l) L)) → Q (.inl none) M) → ∀ v7 v8 v9 v10 v11 v12, E g 8 0 0 mL_stage 10 [.ref (pw + 1), .ref 130, .ref 131, .ref 132, .ref 133, .int (nI s), .int (nI (8 * f + l)), v7, v8, v9, v10, v11, v12] [] M Q := by
  intro m
  induction m with
  | zero =>
    intro l e L z M h hm hb he K v7 v8 v9 v10 v11 v12
    have hL := h.lay
    have hf := h.f2
    have hn := h.len
    have hct := h.ct
    refine E_iload dL_stage_10 rfl ?_
    refine E_bipush (v := nI 8) dL_stage_12 (by decide) ?_
    refine E_aload dL_stage_14 rfl ?_
    refine E_bipush (v := nI 6) dL_stage_16 (by decide) ?_
    refine E_ialdL (v := nI _) dL_stage_18 (l_132 hL) (k_132 hL) rfl (by omega) (by decide) h.a6 ?_
    refine E_imul_n dL_stage_19 ?_
    refine E_aload dL_stage_20 rfl ?_
    refine E_iconst (v := nI 3) dL_stage_22 (by decide) ?_
    refine E_aload dL_stage_23 rfl ?_
    refine E_bipush (v := nI 6) dL_stage_25 (by decide) ?_
    refine E_ialdL (v := nI _) dL_stage_27 (l_132 hL) (k_132 hL) rfl (by omega) (by decide) h.a6 ?_
    refine E_iadd_n dL_stage_28 ?_
    refine E_ialdL (v := nI (cN c 129 f)) dL_stage_29 (l_132 hL) (k_132 hL) rfl (by omega) (by decide) (h.S.b3 hf) ?_
    refine E_iadd_n dL_stage_30 ?_
    refine E_icmp_ge_n (tgt := 395) dL_stage_31 (by decide) (by omega) (by omega) (fun c_31 => ?_) (fun c_31 => ?_)
    · refine E_vret dL_stage_395 rfl ?_
      exact K M z L h hb (Or.inr ⟨rfl, rfl⟩)
    · exfalso; omega
  | succ m ih =>
    intro l e L z M h hm hb he K v7 v8 v9 v10 v11 v12
    have hL := h.lay
    have hf := h.f2
    have hn := h.len
    have hct := h.ct
    have hl : l < cN c 129 f := by omega
    have hmb := mEn_b h.wf (12 * f + l)
    have htg := h.wf.1
    have hec : ecs c f s l (m + 1) = (if cN c 132 (12 * f + l) = s then 1 else 0) + ecs c f s (l + 1) m := rfl
    have hst : stg c f s (m + 1) (12 * f + l) L = stg c f s m (12 * f + (l + 1)) (stS c f s (12 * f + l) L) := rfl
    have hgo : ∀ M z' L' v7 v8 v9 v10 v11 v12, lX c f M0 pw L' (-1) z' M → bdE (3 ^ (e + (if cN c 132 (12 * f + l) = s then 1 else 0))) L' → (z' = nI 1 ∨ (z' = z ∧ L' = stS c f s (12 * f + l) L)) → E g 8 0 0 mL_stage 389 [.ref (pw + 1), .ref 130, .ref 131, .ref 132, .ref 133, .int (nI s), .int (nI (8 * f + l)), v7, v8, v9, v10, v11, v12] [] M Q := by
      intro M z' L' v7 v8 v9 v10 v11 v12 h hb hz
      refine E_iinc_n (d := 1) dL_stage_389 rfl rfl rfl (by decide) rfl ?_
      refine E_goto (tgt := 10) dL_stage_392 (by decide) ?_
      refine ih (l + 1) _ L' z' M h (by omega) hb (by omega) (fun M z'' L'' h hb2 hz2 => ?_) _ _ _ _ _ _
      refine K M z'' L'' h (by rw [hec, ← Nat.add_assoc]; exact hb2) ?_
      rcases hz2 with q | ⟨q1, q2⟩
      · exact Or.inl q
      · rcases hz with q3 | ⟨q3, q4⟩
        · exact Or.inl (q1.trans q3)
        · exact Or.inr ⟨q1.trans q3, by rw [hst, q2, q4]⟩
    have hno : ¬ due c (12 * f + l) s → ∀ v7 v8 v9 v10 v11 v12, E g 8 0 0 mL_stage 389 [.ref (pw + 1), .ref 130, .ref 131, .ref 132, .ref 133, .int (nI s), .int (nI (8 * f + l)), v7, v8, v9, v10, v11, v12] [] M Q := fun hd v7 v8 v9 v10 v11 v12 =>
      hgo M z L _ _ _ _ _ _ h (bdE_up hb (Nat.pow_le_pow_right (by decide) (by omega))) (Or.inr ⟨rfl, (show stS c f s (12 * f + l) L = L from cI_f hd).symm⟩)
    refine E_iload dL_stage_10 rfl ?_
    refine E_bipush (v := nI 8) dL_stage_12 (by decide) ?_
    refine E_aload dL_stage_14 rfl ?_
    refine E_bipush (v := nI 6) dL_stage_16 (by decide) ?_
    refine E_ialdL (v := nI _) dL_stage_18 (l_132 hL) (k_132 hL) rfl (by omega) (by decide) h.a6 ?_
    refine E_imul_n dL_stage_19 ?_
    refine E_aload dL_stage_20 rfl ?_
    refine E_iconst (v := nI 3) dL_stage_22 (by decide) ?_
    refine E_aload dL_stage_23 rfl ?_
    refine E_bipush (v := nI 6) dL_stage_25 (by decide) ?_
    refine E_ialdL (v := nI _) dL_stage_27 (l_132 hL) (k_132 hL) rfl (by omega) (by decide) h.a6 ?_
    refine E_iadd_n dL_stage_28 ?_
    refine E_ialdL (v := nI (cN c 129 f)) dL_stage_29 (l_132 hL) (k_132 hL) rfl (by omega) (by decide) (h.S.b3 hf) ?_
    refine E_iadd_n dL_stage_30 ?_
    refine E_icmp_ge_n (tgt := 395) dL_stage_31 (by decide) (by omega) (by omega) (fun c_31 => ?_) (fun c_31 => ?_)
    · refine E_vret dL_stage_395 rfl ?_
      exfalso; omega
    · refine E_aload_n dL_stage_34 rfl ?_
      refine E_iload dL_stage_35 rfl ?_
      refine E_ialdL (v := nI (mEn _ _)) dL_stage_37 (l_129 hL) (k_129 hL) rfl (by omega) (by decide) (h.me hl) ?_
      refine E_bipush (v := nI 15) dL_stage_38 (by decide) ?_
      refine E_iand dL_stage_40 ?_
      rw [mE_0_15 h.wf]
      refine E_istore dL_stage_41 (Nat.le_of_ble_eq_true rfl) (by decide) rfl ?_
      refine E_aload_n dL_stage_43 rfl ?_
      refine E_iload dL_stage_44 rfl ?_
      refine E_ialdL (v := nI (mEn _ _)) dL_stage_46 (l_129 hL) (k_129 hL) rfl (by omega) (by decide) (h.me hl) ?_
      refine E_bipush (v := nI 8) dL_stage_47 (by decide) ?_
      refine E_ishr dL_stage_49 ?_
      refine E_iconst (v := nI 3) dL_stage_50 (by decide) ?_
      refine E_iand dL_stage_51 ?_
      rw [mE_8_3 h.wf]
      refine E_istore dL_stage_52 (Nat.le_of_ble_eq_true rfl) (by decide) rfl ?_
      refine E_iload dL_stage_54 rfl ?_
      refine E_iconst (v := nI 5) dL_stage_56 (by decide) ?_
      refine E_icmp_gt_n (tgt := 389) dL_stage_57 (by decide) (by omega) (by omega) (fun c_57 => ?_) (fun c_57 => ?_)
      · refine hno (fun q => ?_) _ _ _ _ _ _
        obtain ⟨q1, q2, q3⟩ := q
        omega
      · refine E_aload_n dL_stage_60 rfl ?_
        refine E_iload dL_stage_61 rfl ?_
        refine E_ialdL (v := nI (mEn _ _)) dL_stage_63 (l_129 hL) (k_129 hL) rfl (by omega) (by decide) (h.me hl) ?_
        refine E_bipush (v := nI 7) dL_stage_64 (by decide) ?_
        refine E_ishr dL_stage_66 ?_
        refine E_iconst (v := nI 1) dL_stage_67 (by decide) ?_
        refine E_iand dL_stage_68 ?_
        rw [mE_7_1 h.wf]
        refine E_iload dL_stage_69 rfl ?_
        refine E_icmp_ne_n (tgt := 389) dL_stage_71 (by decide) (by omega) (by omega) (fun c_71 => ?_) (fun c_71 => ?_)
        · refine hno (fun q => ?_) _ _ _ _ _ _
          obtain ⟨q1, q2, q3⟩ := q
          omega
        · refine E_iload dL_stage_74 rfl ?_
          refine E_if_eq_n (tgt := 91) dL_stage_76 (by decide) (by omega) (fun c_76 => ?_) (fun c_76 => ?_)
          · refine E_iload dL_stage_91 rfl ?_
            refine E_iconst (v := nI 5) dL_stage_93 (by decide) ?_
            refine E_icmp_ne_n (tgt := 106) dL_stage_94 (by decide) (by omega) (by omega) (fun c_94 => ?_) (fun c_94 => ?_)
            · refine E_iconst (v := nI 0) dL_stage_106 (by decide) ?_
              refine E_istore dL_stage_107 (Nat.le_of_ble_eq_true rfl) (by decide) rfl ?_
              have hdue : due c (12 * f + l) s := by refine ⟨by omega, by omega, ?_⟩; omega
              have hp3 := pow3_le (show e ≤ 7 by rw [if_pos (by omega)] at hec; omega)
              first
                | (have h5 : cN c 130 (12 * f + l) = 5 := by omega
                   rw [h5]
                   refine lp_L_bwd hl h5 L.length (Nat.zero_le _) L M h (Nat.le_refl _) hb (fun M v9 v10 v11 v12 h hb => ?_) _ _ _
                   have hgo2 := hgo M z _ (.int (nI 5)) (.int (nI (cN c 133 (12 * f + l)))) v9 v10 v11 v12 h (bdE_up hb (Nat.pow_le_pow_right (by decide) (by omega))) (Or.inr ⟨rfl, (show stS c f s (12 * f + l) L = gbk c f (12 * f + l) L.length L from (cI_t hdue).trans (cI_t h5)).symm⟩)
                   exact hgo2)
                | (have h5 : ¬ cN c 130 (12 * f + l) = 5 := by omega
                   refine lp_L_fwd (B := 3 ^ e) (P := 96 * 3 ^ e - 32) hl (by omega) (by omega) (by omega) 64 L 0 z M h (by omega) (by omega) (bdE_I hb hn) (fun M z' L' i' v9 v10 v11 v12 h hl2 hb2 hz => ?_) _ _ _
                   have e3 : 3 ^ (e + 1) = 3 * 3 ^ e := by rw [Nat.pow_succ]; omega
                   exact hgo M z' L' _ _ _ _ _ _ h (by rw [if_pos (by omega), e3]; exact bdI_E hb2 hp3.1 hl2) (hz.imp id (fun q => ⟨q.1, by rw [q.2]; exact (show stS c f s (12 * f + l) L = gos c f (12 * f + l) 64 L 0 from (cI_t hdue).trans (cI_f h5)).symm⟩)))
            · refine E_aload dL_stage_97 rfl ?_
              refine E_iconst (v := nI 5) dL_stage_99 (by decide) ?_
              refine E_ialdL (v := nI (List.length _)) dL_stage_100 (l_132 hL) (k_132 hL) rfl (by omega) (by decide) h.a5 ?_
              refine E_iconst (v := nI 1) dL_stage_101 (by decide) ?_
              refine E_isub_d dL_stage_102 ?_
              refine E_goto (tgt := 107) dL_stage_103 (by decide) ?_
              refine E_istore dL_stage_107 (Nat.le_of_ble_eq_true rfl) (by decide) rfl ?_
              have hdue : due c (12 * f + l) s := by refine ⟨by omega, by omega, ?_⟩; omega
              have hp3 := pow3_le (show e ≤ 7 by rw [if_pos (by omega)] at hec; omega)
              first
                | (have h5 : cN c 130 (12 * f + l) = 5 := by omega
                   rw [h5]
                   refine lp_L_bwd hl h5 L.length (Nat.zero_le _) L M h (Nat.le_refl _) hb (fun M v9 v10 v11 v12 h hb => ?_) _ _ _
                   have hgo2 := hgo M z _ (.int (nI 5)) (.int (nI (cN c 133 (12 * f + l)))) v9 v10 v11 v12 h (bdE_up hb (Nat.pow_le_pow_right (by decide) (by omega))) (Or.inr ⟨rfl, (show stS c f s (12 * f + l) L = gbk c f (12 * f + l) L.length L from (cI_t hdue).trans (cI_t h5)).symm⟩)
                   exact hgo2)
                | (have h5 : ¬ cN c 130 (12 * f + l) = 5 := by omega
                   refine lp_L_fwd (B := 3 ^ e) (P := 96 * 3 ^ e - 32) hl (by omega) (by omega) (by omega) 64 L 0 z M h (by omega) (by omega) (bdE_I hb hn) (fun M z' L' i' v9 v10 v11 v12 h hl2 hb2 hz => ?_) _ _ _
                   have e3 : 3 ^ (e + 1) = 3 * 3 ^ e := by rw [Nat.pow_succ]; omega
                   exact hgo M z' L' _ _ _ _ _ _ h (by rw [if_pos (by omega), e3]; exact bdI_E hb2 hp3.1 hl2) (hz.imp id (fun q => ⟨q.1, by rw [q.2]; exact (show stS c f s (12 * f + l) L = gos c f (12 * f + l) 64 L 0 from (cI_t hdue).trans (cI_f h5)).symm⟩)))
          · refine E_iload dL_stage_79 rfl ?_
            refine E_aload dL_stage_81 rfl ?_
            refine E_iconst (v := nI 2) dL_stage_83 (by decide) ?_
            refine E_ialdL (v := nI (cN _ 128 17)) dL_stage_84 (l_132 hL) (k_132 hL) rfl (by omega) (by decide) h.S.b2 ?_
            refine E_icmp_eq_n (tgt := 91) dL_stage_85 (by decide) (by omega) (by omega) (fun c_85 => ?_) (fun c_85 => ?_)
            · refine E_iload dL_stage_91 rfl ?_
              refine E_iconst (v := nI 5) dL_stage_93 (by decide) ?_
              refine E_icmp_ne_n (tgt := 106) dL_stage_94 (by decide) (by omega) (by omega) (fun c_94 => ?_) (fun c_94 => ?_)
              · refine E_iconst (v := nI 0) dL_stage_106 (by decide) ?_
                refine E_istore dL_stage_107 (Nat.le_of_ble_eq_true rfl) (by decide) rfl ?_
                have hdue : due c (12 * f + l) s := by refine ⟨by omega, by omega, ?_⟩; omega
                have hp3 := pow3_le (show e ≤ 7 by rw [if_pos (by omega)] at hec; omega)
                first
                  | (have h5 : cN c 130 (12 * f + l) = 5 := by omega
                     rw [h5]
                     refine lp_L_bwd hl h5 L.length (Nat.zero_le _) L M h (Nat.le_refl _) hb (fun M v9 v10 v11 v12 h hb => ?_) _ _ _
                     have hgo2 := hgo M z _ (.int (nI 5)) (.int (nI (cN c 133 (12 * f + l)))) v9 v10 v11 v12 h (bdE_up hb (Nat.pow_le_pow_right (by decide) (by omega))) (Or.inr ⟨rfl, (show stS c f s (12 * f + l) L = gbk c f (12 * f + l) L.length L from (cI_t hdue).trans (cI_t h5)).symm⟩)
                     exact hgo2)
                  | (have h5 : ¬ cN c 130 (12 * f + l) = 5 := by omega
                     refine lp_L_fwd (B := 3 ^ e) (P := 96 * 3 ^ e - 32) hl (by omega) (by omega) (by omega) 64 L 0 z M h (by omega) (by omega) (bdE_I hb hn) (fun M z' L' i' v9 v10 v11 v12 h hl2 hb2 hz => ?_) _ _ _
                     have e3 : 3 ^ (e + 1) = 3 * 3 ^ e := by rw [Nat.pow_succ]; omega
                     exact hgo M z' L' _ _ _ _ _ _ h (by rw [if_pos (by omega), e3]; exact bdI_E hb2 hp3.1 hl2) (hz.imp id (fun q => ⟨q.1, by rw [q.2]; exact (show stS c f s (12 * f + l) L = gos c f (12 * f + l) 64 L 0 from (cI_t hdue).trans (cI_f h5)).symm⟩)))
              · refine E_aload dL_stage_97 rfl ?_
                refine E_iconst (v := nI 5) dL_stage_99 (by decide) ?_
                refine E_ialdL (v := nI (List.length _)) dL_stage_100 (l_132 hL) (k_132 hL) rfl (by omega) (by decide) h.a5 ?_
                refine E_iconst (v := nI 1) dL_stage_101 (by decide) ?_
                refine E_isub_d dL_stage_102 ?_
                refine E_goto (tgt := 107) dL_stage_103 (by decide) ?_
                refine E_istore dL_stage_107 (Nat.le_of_ble_eq_true rfl) (by decide) rfl ?_
                have hdue : due c (12 * f + l) s := by refine ⟨by omega, by omega, ?_⟩; omega
                have hp3 := pow3_le (show e ≤ 7 by rw [if_pos (by omega)] at hec; omega)
                first
                  | (have h5 : cN c 130 (12 * f + l) = 5 := by omega
                     rw [h5]
                     refine lp_L_bwd hl h5 L.length (Nat.zero_le _) L M h (Nat.le_refl _) hb (fun M v9 v10 v11 v12 h hb => ?_) _ _ _
                     have hgo2 := hgo M z _ (.int (nI 5)) (.int (nI (cN c 133 (12 * f + l)))) v9 v10 v11 v12 h (bdE_up hb (Nat.pow_le_pow_right (by decide) (by omega))) (Or.inr ⟨rfl, (show stS c f s (12 * f + l) L = gbk c f (12 * f + l) L.length L from (cI_t hdue).trans (cI_t h5)).symm⟩)
                     exact hgo2)
                  | (have h5 : ¬ cN c 130 (12 * f + l) = 5 := by omega
                     refine lp_L_fwd (B := 3 ^ e) (P := 96 * 3 ^ e - 32) hl (by omega) (by omega) (by omega) 64 L 0 z M h (by omega) (by omega) (bdE_I hb hn) (fun M z' L' i' v9 v10 v11 v12 h hl2 hb2 hz => ?_) _ _ _
                     have e3 : 3 ^ (e + 1) = 3 * 3 ^ e := by rw [Nat.pow_succ]; omega
                     exact hgo M z' L' _ _ _ _ _ _ h (by rw [if_pos (by omega), e3]; exact bdI_E hb2 hp3.1 hl2) (hz.imp id (fun q => ⟨q.1, by rw [q.2]; exact (show stS c f s (12 * f + l) L = gos c f (12 * f + l) 64 L 0 from (cI_t hdue).trans (cI_f h5)).symm⟩)))
            · refine E_goto (tgt := 389) dL_stage_88 (by decide) ?_
              refine hno (fun q => ?_) _ _ _ _ _ _
              obtain ⟨q1, q2, q3⟩ := q
              omega
set_option maxRecDepth 100000 in
set_option maxHeartbeats 4000000 in
theorem sp_L_stage {g : gG} {M : gM} {Q : Option Value ⊕ String → gM → Prop} {c : Cf} {f : Nat} {M0 : gM} {pw : Nat} {L : List Gl} {z : Int32} (h : lX c f M0 pw L (-1) z M) {s e : Nat} (hs1 : s ≤ 1) (hb : bdE (3 ^ e) L) (he : e + ecs c f s 0 (cN c 129 f) ≤ 8) (K : ∀ M z' L', lX c f M0 pw L' (-1) z' M → bdE (3 ^ (e + ecs c f s 0 (cN c 129 f))) L' → (z' = nI 1 ∨ (z' = z ∧ L' = stg c f s (cN c 129 f) (12 * f) L)) → Q (.inl none) M) : E g 8 0 0 mL_stage 0 [.ref (pw + 1), .ref 130, .ref 131, .ref 132, .ref 133, .int (nI s), .null, .null, .null, .null, .null, .null, .null] [] M Q := by
  have hL := h.lay
  have hf := h.f2
  have hn := h.len
  have hct := h.ct
  refine E_bipush (v := nI 8) dL_stage_0 (by decide) ?_
  refine E_aload dL_stage_2 rfl ?_
  refine E_bipush (v := nI 6) dL_stage_4 (by decide) ?_
  refine E_ialdL (v := nI _) dL_stage_6 (l_132 hL) (k_132 hL) rfl (by omega) (by decide) h.a6 ?_
  refine E_imul_n dL_stage_7 ?_
  refine E_istore dL_stage_8 (Nat.le_of_ble_eq_true rfl) (by decide) rfl ?_
  exact lp_L_stage hs1 _ 0 e L z M h (by omega) hb he K _ _ _ _ _ _
