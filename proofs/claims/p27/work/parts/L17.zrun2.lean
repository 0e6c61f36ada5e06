/-! the law: the loops of a run -/
def rnK (c : Cf) (M0 : gM) (pw p G jn : Nat) (left : Int32) (f : Nat) (L : List Gl) (z : Int32) (A : Pl) (Q : Option Value ⊕ String → gM → Prop) : Prop := ∀ M' z' G', pF pw p G M0 M' → zS c M' → mI M' 132 8 = nI G' → (G ≤ G' ∧ G' ≤ 64) → mI M' 132 10 = z' → (z' = nI 1 ∨ z' = z ∧ G' = G + L.length ∧ (okZL L ∧ onZ A L.length) ∧ mI M' 132 11 = smA A L.length ∧ lG p G L (std jn left (smA A L.length) L.length A) L.length M') → Q (.inl none) M'
theorem pF.zf {pw p G : Nat} {M0 M : gM} (h : zf_ pw M0 M) : pF pw p G M0 M := ⟨h.1, h.2.1, fun a j q _ => h.2.2.1 a j (fun z => q (Or.inl (by unfold zR at z; omega))), h.2.2.2⟩
set_option maxRecDepth 100000 in
set_option maxHeartbeats 4000000 in
theorem lp9_L_runs {g : gG} {Q : Option Value ⊕ String → gM → Prop} {c : Cf} {f : Nat} {M0 : gM} {pw : Nat} {L : List Gl} {z : Int32} {A : Pl}  {lk : Int64} {v6 : Value} {a0 b0 jn p G : Nat} {left x20 : Int32} (hG : G + L.length ≤ 64) (hjn : jn ≤ 1) (K : rnK c M0 pw p G jn left f L z A Q) : ∀ k, k ≤ L.length → 0 ≤ k → ∀ M V v24 v25, lF c f M0 pw p G L z A V M → lGV G L (std jn left (smA A L.length) k A) k V → E g 9 0 0 mL_runs 453 [.ref 129, .ref 130, .ref 131, .ref 132, .ref 133, .long lk, v6, .int (nI a0), .int (nI b0), .int left, .int (nI jn), .ref (p + 0 + 1), .ref (p + 1 + 1), .ref (p + 2 + 1), .ref (p + 3 + 1), .ref (p + 4 + 1), .ref (pw + 1), .ref (pw + 2), .ref (pw + 3), .ref (pw + 4), .int x20, .int (smA A L.length), .int (smA A k), .int (nI k), v24, v25] [] M Q := by
  refine lpUp L.length (fun k hk ih => ?_)
  intro _ M V v24 v25 hF hv
  have h := hF.X
  have hL := h.lay
  have hf := h.f2
  have hn := h.len
  have hct := h.ct
  refine E_iload dL_runs_453 rfl ?_
  refine E_aload dL_runs_455 rfl ?_
  refine E_iconst (v := nI 5) dL_runs_457 (by decide) ?_
  refine E_ialdL (v := nI (List.length _)) dL_runs_458 (l_132 hL) (k_132 hL) rfl (by omega) (by decide) h.a5 ?_
  refine E_icmp_ge_n (tgt := 677) dL_runs_459 (by decide) (by omega) (by omega) (fun c_459 => ?_) (fun c_459 => ?_)
  · refine E_aload dL_runs_677 rfl ?_
    refine E_bipush (v := nI 8) dL_runs_679 (by decide) ?_
    refine E_dup2 dL_runs_681 rfl rfl ?_
    refine E_ialdL (v := nI G) dL_runs_682 (l_132 hL) (k_132 hL) rfl (by omega) (by decide) hF.a8 ?_
    refine E_aload dL_runs_683 rfl ?_
    refine E_iconst (v := nI 5) dL_runs_685 (by decide) ?_
    refine E_ialdL (v := nI (List.length _)) dL_runs_686 (l_132 hL) (k_132 hL) rfl (by omega) (by decide) h.a5 ?_
    refine E_iadd_n dL_runs_687 ?_
    refine E_iast dL_runs_688 (l_132 hL) (k_132 hL) rfl (by omega) (by decide) ?_
    refine E_aload dL_runs_689 rfl ?_
    refine E_bipush (v := nI 11) dL_runs_691 (by decide) ?_
    refine E_iload dL_runs_693 rfl ?_
    refine E_iast dL_runs_695 (l_132 hL) (k_132 hL) rfl (by omega) (by decide) ?_
    refine E_vret dL_runs_696 rfl ?_
    obtain rfl : k = L.length := by omega
    refine K _ z (G + L.length) ((hF.2.1.wr (Or.inl (by decide))).wr (Or.inl (by decide))) ((h.far (Or.inr (by decide))).far (Or.inr (by decide))).S ((mI_nj (by decide)).trans mI_eq) ⟨by omega, hG⟩ ((mI_nj (by decide)).trans ((mI_nj (by decide)).trans h.a10)) (Or.inr ⟨rfl, rfl, ⟨hF.X.2, hF.on⟩, mI_eq, fun j hj => ?_⟩)
    have hp := hF.oK.1
    have e : ∀ q, q < 5 → mI (sI (sI M 132 8 (nI (G + L.length))) 132 11 (smA A L.length)) (p + q) (G + j) = V q j := fun q hq => by rw [mI_ne (by omega), mI_ne (by omega)]; exact hF.v hq
    have := hv j hj
    rw [← e 0 (by decide), ← e 1 (by decide), ← e 2 (by decide), ← e 3 (by decide), ← e 4 (by decide)] at this
    exact this
  · refine s1_L_runs hF hv (by omega) hG hjn (fun M V v24 v25 hF hv => ?_) _ _
    have h := hF.X
    have hL := h.lay
    refine E_iinc_n (d := 1) dL_runs_671 rfl rfl rfl (by decide) rfl ?_
    refine E_goto (tgt := 453) dL_runs_674 (by decide) ?_
    exact ih (by omega) (Nat.zero_le _) M V _ _ hF hv
set_option maxRecDepth 100000 in
set_option maxHeartbeats 4000000 in
theorem lp8_L_runs {g : gG} {M : gM} {Q : Option Value ⊕ String → gM → Prop} {c : Cf} {f : Nat} {M0 : gM} {pw : Nat} {L : List Gl} {z : Int32} {A : Pl}  {lk : Int64} {v6 : Value} {a0 b0 jn p G : Nat} {left x20 : Int32} (hq : lQ c f M0 pw L (-1) z A M) (ho : oK p pw M0) (h8 : mI M0 132 8 = nI G) (hG : G ≤ 64) (hjn : jn ≤ 1) (K : rnK c M0 pw p G jn left f L z A Q) : ∀ k, k ≤ L.length → 0 ≤ k → ∀ v23 v24 v25, E g 9 0 0 mL_runs 400 [.ref 129, .ref 130, .ref 131, .ref 132, .ref 133, .long lk, v6, .int (nI a0), .int (nI b0), .int left, .int (nI jn), .ref (p + 0 + 1), .ref (p + 1 + 1), .ref (p + 2 + 1), .ref (p + 3 + 1), .ref (p + 4 + 1), .ref (pw + 1), .ref (pw + 2), .ref (pw + 3), .ref (pw + 4), .int x20, .int (smA A k), .int (nI k), v23, v24, v25] [] M Q := by
  refine lpUp L.length (fun k hk ih => ?_)
  intro _ v23 v24 v25
  have h := hq.X
  have hoM := ho.mv hq.2.1.1
  have ha8 : mI M 132 8 = nI G := (hq.2.1.2.2.1 132 8 (by unfold zR; omega) (by have := h.p9; omega)).trans h8
  have hL := h.lay
  have hf := h.f2
  have hn := h.len
  have hct := h.ct
  refine E_iload dL_runs_400 rfl ?_
  refine E_aload dL_runs_402 rfl ?_
  refine E_iconst (v := nI 5) dL_runs_404 (by decide) ?_
  refine E_ialdL (v := nI (List.length _)) dL_runs_405 (l_132 hL) (k_132 hL) rfl (by omega) (by decide) h.a5 ?_
  refine E_icmp_ge_n (tgt := 425) dL_runs_406 (by decide) (by omega) (by omega) (fun c_406 => ?_) (fun c_406 => ?_)
  · refine E_aload dL_runs_425 rfl ?_
    refine E_bipush (v := nI 8) dL_runs_427 (by decide) ?_
    refine E_ialdL (v := nI G) dL_runs_429 (l_132 hL) (k_132 hL) rfl (by omega) (by decide) ha8 ?_
    refine E_aload dL_runs_430 rfl ?_
    refine E_iconst (v := nI 5) dL_runs_432 (by decide) ?_
    refine E_ialdL (v := nI (List.length _)) dL_runs_433 (l_132 hL) (k_132 hL) rfl (by omega) (by decide) h.a5 ?_
    refine E_iadd_n dL_runs_434 ?_
    refine E_bipush (v := nI 64) dL_runs_435 (by decide) ?_
    refine E_icmp_le_n (tgt := 447) dL_runs_437 (by decide) (by omega) (by omega) (fun c_437 => ?_) (fun c_437 => ?_)
    · refine E_iconst (v := nI 0) dL_runs_447 (by decide) ?_
      refine E_istore dL_runs_448 (Nat.le_of_ble_eq_true rfl) (by decide) rfl ?_
      refine E_iconst (v := nI 0) dL_runs_450 (by decide) ?_
      refine E_istore dL_runs_451 (Nat.le_of_ble_eq_true rfl) (by decide) rfl ?_
      obtain rfl : k = L.length := by omega
      exact lp9_L_runs (by omega) hjn K 0 (Nat.zero_le _) (Nat.le_refl _) M _ _ _ (hq.F hoM ha8) (fun j hj => absurd hj (Nat.not_lt_zero j))
    · refine E_aload dL_runs_440 rfl ?_
      refine E_bipush (v := nI 10) dL_runs_442 (by decide) ?_
      refine E_iconst (v := nI 1) dL_runs_444 (by decide) ?_
      refine E_iast dL_runs_445 (l_132 hL) (k_132 hL) rfl (by decide) (by decide) ?_
      refine E_vret dL_runs_446 rfl ?_
      exact K _ (nI 1) G (hq.2.1.F.wr (Or.inl (by decide))) (h.setZ (v := nI 1)).S ((mI_nj (by decide)).trans ha8) ⟨Nat.le_refl _, hG⟩ mI_eq (Or.inl rfl)
  · refine E_iload dL_runs_409 rfl ?_
    refine E_aload dL_runs_411 rfl ?_
    refine E_iload dL_runs_413 rfl ?_
    refine E_ialdL (v := _) dL_runs_415 (hq.l1) (hq.k1) rfl (by omega) (by decide) (hq.v1 (by omega)) ?_
    refine E_iadd dL_runs_416 ?_
    refine E_istore dL_runs_417 (Nat.le_of_ble_eq_true rfl) (by decide) rfl ?_
    refine E_iinc_n (d := 1) dL_runs_419 rfl rfl rfl (by decide) rfl ?_
    refine E_goto (tgt := 400) dL_runs_422 (by decide) ?_
    exact ih (by omega) (Nat.zero_le _) _ _ _
set_option maxRecDepth 100000 in
set_option maxHeartbeats 4000000 in
theorem lp7_L_runs {g : gG} {Q : Option Value ⊕ String → gM → Prop} {c : Cf} {f : Nat} {M0 : gM} {pw : Nat} {L : List Gl} {z : Int32} {lk : Int64} {v6 : Value} {a0 b0 jn p G : Nat} {left x20 : Int32} : ∀ m l (A : Pl) (M : gM), l + m = cN c 129 f → lQ c f M0 pw L (-1) z A M → (∀ M x21 v22 v23 v24 v25, lQ c f M0 pw L (-1) z (pla c f L m (12 * f + l) A) M → E g 9 0 0 mL_runs 394 [.ref 129, .ref 130, .ref 131, .ref 132, .ref 133, .long lk, v6, .int (nI a0), .int (nI b0), .int left, .int (nI jn), .ref (p + 0 + 1), .ref (p + 1 + 1), .ref (p + 2 + 1), .ref (p + 3 + 1), .ref (p + 4 + 1), .ref (pw + 1), .ref (pw + 2), .ref (pw + 3), .ref (pw + 4), .int x20, .int x21, v22, v23, v24, v25] [] M Q) → ∀ v22 v23 v24 v25, E g 9 0 0 mL_runs 310 [.ref 129, .ref 130, .ref 131, .ref 132, .ref 133, .long lk, v6, .int (nI a0), .int (nI b0), .int left, .int (nI jn), .ref (p + 0 + 1), .ref (p + 1 + 1), .ref (p + 2 + 1), .ref (p + 3 + 1), .ref (p + 4 + 1), .ref (pw + 1), .ref (pw + 2), .ref (pw + 3), .ref (pw + 4), .int x20, .int (nI (8 * f + l)), v22, v23, v24, v25] [] M Q := by
  intro m
  induction m with
  | zero =>
    intro l A M hm hq K v22 v23 v24 v25
    have h := hq.X
    have hL := h.lay
    have hf := h.f2
    have hn := h.len
    have hct := h.ct
    refine E_iload dL_runs_310 rfl ?_
    refine E_bipush (v := nI 8) dL_runs_312 (by decide) ?_
    refine E_aload dL_runs_314 rfl ?_
    refine E_bipush (v := nI 6) dL_runs_316 (by decide) ?_
    refine E_ialdL (v := nI _) dL_runs_318 (l_132 hL) (k_132 hL) rfl (by omega) (by decide) h.a6 ?_
    refine E_imul_n dL_runs_319 ?_
    refine E_aload dL_runs_320 rfl ?_
    refine E_iconst (v := nI 3) dL_runs_322 (by decide) ?_
    refine E_aload dL_runs_323 rfl ?_
    refine E_bipush (v := nI 6) dL_runs_325 (by decide) ?_
    refine E_ialdL (v := nI _) dL_runs_327 (l_132 hL) (k_132 hL) rfl (by omega) (by decide) h.a6 ?_
    refine E_iadd_n dL_runs_328 ?_
    refine E_ialdL (v := nI (cN c 129 f)) dL_runs_329 (l_132 hL) (k_132 hL) rfl (by omega) (by decide) (h.S.b3 hf) ?_
    refine E_iadd_n dL_runs_330 ?_
    refine E_icmp_ge_n (tgt := 394) dL_runs_331 (by decide) (by omega) (by omega) (fun c_331 => ?_) (fun c_331 => ?_)
    · exact K M _ _ _ _ _ hq
    · exfalso; omega
  | succ m ih =>
    intro l A M hm hq K v22 v23 v24 v25
    have h := hq.X
    have hL := h.lay
    have hf := h.f2
    have hn := h.len
    have hct := h.ct
    have hl : l < cN c 129 f := by omega
    have hmb := mEn_b h.wf (12 * f + l)
    have htg := h.wf.1
    have hgo : ∀ M v22 v23 v24 v25, lQ c f M0 pw L (-1) z (plS c f (12 * f + l) L A) M → E g 9 0 0 mL_runs 388 [.ref 129, .ref 130, .ref 131, .ref 132, .ref 133, .long lk, v6, .int (nI a0), .int (nI b0), .int left, .int (nI jn), .ref (p + 0 + 1), .ref (p + 1 + 1), .ref (p + 2 + 1), .ref (p + 3 + 1), .ref (p + 4 + 1), .ref (pw + 1), .ref (pw + 2), .ref (pw + 3), .ref (pw + 4), .int x20, .int (nI (8 * f + l)), v22, v23, v24, v25] [] M Q := by
      intro M v22 v23 v24 v25 hq
      have h := hq.X
      have hL := h.lay
      refine E_iinc_n (d := 1) dL_runs_388 rfl rfl rfl (by decide) rfl ?_
      refine E_goto (tgt := 310) dL_runs_391 (by decide) ?_
      exact ih (l + 1) _ M (by omega) hq K _ _ _ _
    refine E_iload dL_runs_310 rfl ?_
    refine E_bipush (v := nI 8) dL_runs_312 (by decide) ?_
    refine E_aload dL_runs_314 rfl ?_
    refine E_bipush (v := nI 6) dL_runs_316 (by decide) ?_
    refine E_ialdL (v := nI _) dL_runs_318 (l_132 hL) (k_132 hL) rfl (by omega) (by decide) h.a6 ?_
    refine E_imul_n dL_runs_319 ?_
    refine E_aload dL_runs_320 rfl ?_
    refine E_iconst (v := nI 3) dL_runs_322 (by decide) ?_
    refine E_aload dL_runs_323 rfl ?_
    refine E_bipush (v := nI 6) dL_runs_325 (by decide) ?_
    refine E_ialdL (v := nI _) dL_runs_327 (l_132 hL) (k_132 hL) rfl (by omega) (by decide) h.a6 ?_
    refine E_iadd_n dL_runs_328 ?_
    refine E_ialdL (v := nI (cN c 129 f)) dL_runs_329 (l_132 hL) (k_132 hL) rfl (by omega) (by decide) (h.S.b3 hf) ?_
    refine E_iadd_n dL_runs_330 ?_
    refine E_icmp_ge_n (tgt := 394) dL_runs_331 (by decide) (by omega) (by omega) (fun c_331 => ?_) (fun c_331 => ?_)
    · exfalso; omega
    · refine E_aload_n dL_runs_334 rfl ?_
      refine E_iload dL_runs_335 rfl ?_
      refine E_ialdL (v := nI (mEn _ _)) dL_runs_337 (l_129 hL) (k_129 hL) rfl (by omega) (by decide) (h.me hl) ?_
      refine E_bipush (v := nI 8) dL_runs_338 (by decide) ?_
      refine E_ishr dL_runs_340 ?_
      refine E_iconst (v := nI 3) dL_runs_341 (by decide) ?_
      refine E_iand dL_runs_342 ?_
      rw [mE_8_3 h.wf]
      refine E_istore dL_runs_343 (Nat.le_of_ble_eq_true rfl) (by decide) rfl ?_
      refine E_aload_n dL_runs_345 rfl ?_
      refine E_iload dL_runs_346 rfl ?_
      refine E_ialdL (v := nI (mEn _ _)) dL_runs_348 (l_129 hL) (k_129 hL) rfl (by omega) (by decide) (h.me hl) ?_
      refine E_bipush (v := nI 15) dL_runs_349 (by decide) ?_
      refine E_iand dL_runs_351 ?_
      rw [mE_0_15 h.wf]
      refine E_iconst (v := nI 5) dL_runs_352 (by decide) ?_
      refine E_icmp_le_n (tgt := 388) dL_runs_353 (by decide) (by omega) (by omega) (fun c_353 => ?_) (fun c_353 => ?_)
      · first
          | (have e0 : plS c f (12 * f + l) L A = plK c f (12 * f + l) L A := cI_t (by unfold pDue; omega)
             rw [e0] at hgo
             exact hgo M _ _ _ _ hq)
          | (have e0 : plS c f (12 * f + l) L A = A := by
               unfold plS
               by_cases q : pDue c (12 * f + l)
               · rw [cI_t q]
                 unfold plK
                 unfold pDue at q
                 rw [cI_f (by omega), cI_f (by omega), cI_f (by omega), cI_f (by omega)]
               · rw [cI_f q]
             rw [e0] at hgo
             exact hgo M _ _ _ _ hq)
      · refine E_iload dL_runs_356 rfl ?_
        refine E_if_eq_n (tgt := 370) dL_runs_358 (by decide) (by omega) (fun c_358 => ?_) (fun c_358 => ?_)
        · refine E_aload dL_runs_370 rfl ?_
          refine E_aload_n dL_runs_372 rfl ?_
          refine E_aload_n dL_runs_373 rfl ?_
          refine E_aload_n dL_runs_374 rfl ?_
          refine E_aload dL_runs_375 rfl ?_
          refine E_aload dL_runs_377 rfl ?_
          refine E_aload dL_runs_379 rfl ?_
          refine E_aload dL_runs_381 rfl ?_
          refine E_iload dL_runs_383 rfl ?_
          refine E_callT9 (fr' := 5) (k1 := 0) (n1 := 0) (k2 := 0) (n2 := 0) dL_runs_385 kO_L_placed kL_L_213 (by exact Nat.le_of_ble_eq_true rfl) (by decide) (by exact Nat.le_of_ble_eq_true rfl) (Or.inl rfl) rfl ?_
          refine sp_L_placed hq hl (by omega) (fun M hq => ?_)
          have h := hq.X
          have hL := h.lay
          refine gKn ?_
          first
            | (have e0 : plS c f (12 * f + l) L A = plK c f (12 * f + l) L A := cI_t (by unfold pDue; omega)
               rw [e0] at hgo
               exact hgo M _ _ _ _ hq)
            | (have e0 : plS c f (12 * f + l) L A = A := by
                 unfold plS
                 by_cases q : pDue c (12 * f + l)
                 · rw [cI_t q]
                   unfold plK
                   unfold pDue at q
                   rw [cI_f (by omega), cI_f (by omega), cI_f (by omega), cI_f (by omega)]
                 · rw [cI_f q]
               rw [e0] at hgo
               exact hgo M _ _ _ _ hq)
        · refine E_iload dL_runs_361 rfl ?_
          refine E_aload dL_runs_363 rfl ?_
          refine E_iconst (v := nI 2) dL_runs_365 (by decide) ?_
          refine E_ialdL (v := nI (cN _ 128 17)) dL_runs_366 (l_132 hL) (k_132 hL) rfl (by omega) (by decide) h.S.b2 ?_
          refine E_icmp_ne_n (tgt := 388) dL_runs_367 (by decide) (by omega) (by omega) (fun c_367 => ?_) (fun c_367 => ?_)
          · first
              | (have e0 : plS c f (12 * f + l) L A = plK c f (12 * f + l) L A := cI_t (by unfold pDue; omega)
                 rw [e0] at hgo
                 exact hgo M _ _ _ _ hq)
              | (have e0 : plS c f (12 * f + l) L A = A := by
                   unfold plS
                   by_cases q : pDue c (12 * f + l)
                   · rw [cI_t q]
                     unfold plK
                     unfold pDue at q
                     rw [cI_f (by omega), cI_f (by omega), cI_f (by omega), cI_f (by omega)]
                   · rw [cI_f q]
                 rw [e0] at hgo
                 exact hgo M _ _ _ _ hq)
          · refine E_aload dL_runs_370 rfl ?_
            refine E_aload_n dL_runs_372 rfl ?_
            refine E_aload_n dL_runs_373 rfl ?_
            refine E_aload_n dL_runs_374 rfl ?_
            refine E_aload dL_runs_375 rfl ?_
            refine E_aload dL_runs_377 rfl ?_
            refine E_aload dL_runs_379 rfl ?_
            refine E_aload dL_runs_381 rfl ?_
            refine E_iload dL_runs_383 rfl ?_
            refine E_callT9 (fr' := 5) (k1 := 0) (n1 := 0) (k2 := 0) (n2 := 0) dL_runs_385 kO_L_placed kL_L_213 (by exact Nat.le_of_ble_eq_true rfl) (by decide) (by exact Nat.le_of_ble_eq_true rfl) (Or.inl rfl) rfl ?_
            refine sp_L_placed hq hl (by omega) (fun M hq => ?_)
            have h := hq.X
            have hL := h.lay
            refine gKn ?_
            first
              | (have e0 : plS c f (12 * f + l) L A = plK c f (12 * f + l) L A := cI_t (by unfold pDue; omega)
                 rw [e0] at hgo
                 exact hgo M _ _ _ _ hq)
              | (have e0 : plS c f (12 * f + l) L A = A := by
                   unfold plS
                   by_cases q : pDue c (12 * f + l)
                   · rw [cI_t q]
                     unfold plK
                     unfold pDue at q
                     rw [cI_f (by omega), cI_f (by omega), cI_f (by omega), cI_f (by omega)]
                   · rw [cI_f q]
                 rw [e0] at hgo
                 exact hgo M _ _ _ _ hq)
noncomputable def wS (c : Cf) (f : Nat) (L : List Gl) : Nat → Pl → Pl := fun i A => u2 A 0 i (nI (cN c 139 (256 * f + yN (gat L i))))
def zA : Pl := fun q _ => if q = 2 then -100 else nI 0
theorem wS_at {c : Cf} {f : Nat} {L : List Gl} : ∀ k q i, fo (wS c f L) k zA q i = if q = 0 then (if i < k then nI (cN c 139 (256 * f + yN (gat L i))) else nI 0) else zA q i
  | 0, q, i => by
    show zA q i = _
    by_cases e : q = 0
    · rw [if_pos e, if_neg (by omega)]; subst e; rfl
    · rw [if_neg e]
  | k + 1, q, i => by
    show u2 (fo (wS c f L) k zA) 0 k _ q i = _
    unfold u2
    rw [wS_at k q i]
    by_cases e : q = 0
    · by_cases e2 : i = k
      · rw [if_pos ⟨e, e2⟩, if_pos e, if_pos (by omega), e2]
      · rw [if_neg (by omega), if_pos e, if_pos e]
        by_cases e3 : i < k
        · rw [if_pos e3, if_pos (by omega)]
        · rw [if_neg e3, if_neg (by omega)]
    · rw [if_neg (by omega), if_neg e, if_neg e]
theorem lQ.zA {c : Cf} {f : Nat} {M0 M : gM} {pw : Nat} {L : List Gl} {z : Int32} (h : lX c f M0 pw L (-1) z M) (hw : lW pw M0) : lQ c f M0 pw L (-1) z zA M := by
  have h9 := h.p9
  have hz := hw.z h.fr h9
  refine ⟨h.here, ⟨h.fr.1, h.fr.2.1, fun a j q _ => h.fr.2.2.1 a j q, h.fr.2.2.2⟩, ⟨hz.1.1, hz.1.2, fun i _ => ⟨hz.2 1 i (by decide) (by decide), hz.2 2 i (by decide) (by decide), (hz.2 3 i (by decide) (by decide)).trans (cI_t rfl).symm⟩⟩, fun i _ => Or.inl ⟨rfl, rfl, rfl⟩⟩
set_option maxRecDepth 100000 in
set_option maxHeartbeats 4000000 in
theorem lp6_L_runs {g : gG} {Q : Option Value ⊕ String → gM → Prop} {c : Cf} {f : Nat} {M0 : gM} {pw : Nat} {L : List Gl} {z : Int32} {lk : Int64} {v6 : Value} {a0 b0 jn p G : Nat} {left x20 : Int32} (K : ∀ M x21 v22 v23 v24 v25, lQ c f M0 pw L (-1) z (pl0 c f L) M → E g 9 0 0 mL_runs 300 [.ref 129, .ref 130, .ref 131, .ref 132, .ref 133, .long lk, v6, .int (nI a0), .int (nI b0), .int left, .int (nI jn), .ref (p + 0 + 1), .ref (p + 1 + 1), .ref (p + 2 + 1), .ref (p + 3 + 1), .ref (p + 4 + 1), .ref (pw + 1), .ref (pw + 2), .ref (pw + 3), .ref (pw + 4), .int x20, .int x21, v22, v23, v24, v25] [] M Q) : ∀ k, k ≤ L.length → 0 ≤ k → ∀ M v22 v23 v24 v25, lQ c f M0 pw L (-1) z (fo (wS c f L) k zA) M → E g 9 0 0 mL_runs 252 [.ref 129, .ref 130, .ref 131, .ref 132, .ref 133, .long lk, v6, .int (nI a0), .int (nI b0), .int left, .int (nI jn), .ref (p + 0 + 1), .ref (p + 1 + 1), .ref (p + 2 + 1), .ref (p + 3 + 1), .ref (p + 4 + 1), .ref (pw + 1), .ref (pw + 2), .ref (pw + 3), .ref (pw + 4), .int x20, .int (nI k), v22, v23, v24, v25] [] M Q := by
  refine lpUp L.length (fun k hk ih => ?_)
  intro _ M v22 v23 v24 v25 hq
  have h := hq.X
  have hL := h.lay
  have hf := h.f2
  have hn := h.len
  have hct := h.ct
  refine E_iload dL_runs_252 rfl ?_
  refine E_aload dL_runs_254 rfl ?_
  refine E_iconst (v := nI 5) dL_runs_256 (by decide) ?_
  refine E_ialdL (v := nI (List.length _)) dL_runs_257 (l_132 hL) (k_132 hL) rfl (by omega) (by decide) h.a5 ?_
  refine E_icmp_ge_n (tgt := 300) dL_runs_258 (by decide) (by omega) (by omega) (fun c_258 => ?_) (fun c_258 => ?_)
  · obtain rfl : k = L.length := by omega
    refine K M _ _ _ _ _ (hq.congr (fun q i _ hi => ?_))
    rw [wS_at]
    unfold pl0 zA
    by_cases e : q = 0
    · rw [if_pos e, if_pos e, if_pos hi]
    · rw [if_neg e, if_neg e]
  · have hgk := h.gl (i := k) (by omega)
    have hof := ofN_lt hgk
    have hgb := glZ_256 hgk
    refine E_aload dL_runs_261 rfl ?_
    refine E_iload dL_runs_263 rfl ?_
    refine E_aload_n dL_runs_265 rfl ?_
    refine E_aload dL_runs_266 rfl ?_
    refine E_iload dL_runs_268 rfl ?_
    refine E_laldL (v := pk _) dL_runs_270 h.plt h.pkd rfl (by omega) (by decide) (h.wk (by omega)) ?_
    refine E_callT1 (fr' := 1) (k1 := 0) (n1 := 0) (k2 := 0) (n2 := 0) dL_runs_271 kO_L_glyphOf kL_L_108 (by exact Nat.le_of_ble_eq_true rfl) (by decide) (by exact Nat.le_of_ble_eq_true rfl) (Or.inl rfl) rfl ?_
    refine sp_L_glyphOf (h.ok (by omega)) ?_
    refine gKv ?_
    refine E_callT1 (fr' := 1) (k1 := 0) (n1 := 0) (k2 := 0) (n2 := 0) dL_runs_274 kO_L_of kL_L_91 (by exact Nat.le_of_ble_eq_true rfl) (by decide) (by exact Nat.le_of_ble_eq_true rfl) (Or.inl rfl) rfl ?_
    refine sp_L_of (by first | assumption | exact h.gl (by omega)) ?_
    refine gKv ?_
    refine E_ialdL (v := nI (pEn c (yN (gat L k)))) dL_runs_277 (l_131 hL) (k_131 hL) rfl (by omega) (by decide) (h.S.pe hgk) ?_
    refine E_bipush (v := nI 13) dL_runs_278 (by decide) ?_
    refine E_aload dL_runs_280 rfl ?_
    refine E_bipush (v := nI 6) dL_runs_282 (by decide) ?_
    refine E_ialdL (v := nI _) dL_runs_284 (l_132 hL) (k_132 hL) rfl (by omega) (by decide) h.a6 ?_
    refine E_imul_n dL_runs_285 ?_
    refine E_bipush (v := nI 6) dL_runs_286 (by decide) ?_
    refine E_iadd_n dL_runs_288 ?_
    refine E_ishr dL_runs_289 ?_
    refine E_bipush (v := nI 127) dL_runs_290 (by decide) ?_
    refine E_iand dL_runs_292 ?_
    rw [pE_6 h.wf hf]
    refine E_setV dL_runs_293 hq rfl (by omega) (fun M hq => ?_)
    have h := hq.X
    have hL := h.lay
    refine E_iinc_n (d := 1) dL_runs_294 rfl rfl rfl (by decide) rfl ?_
    refine E_goto (tgt := 252) dL_runs_297 (by decide) ?_
    exact ih (by omega) (Nat.zero_le _) M _ _ _ _ hq
set_option maxRecDepth 100000 in
set_option maxHeartbeats 4000000 in
theorem lp5_L_runs {g : gG} {Q : Option Value ⊕ String → gM → Prop} {c : Cf} {f : Nat} {M0 : gM} {pw : Nat} {z : Int32} {lk : Int64} {v6 : Value} {a0 b0 jn p G : Nat} {left x20 : Int32} (hw : lW pw M0) : ∀ k, 0 ≤ k → ∀ (L : List Gl) (M : gM), lX c f M0 pw L (-1) z M → k ≤ L.length → (∀ M x21 v22 v23 v24 v25, lX c f M0 pw (tko k L) (-1) z M → E g 9 0 0 mL_runs 249 [.ref 129, .ref 130, .ref 131, .ref 132, .ref 133, .long lk, v6, .int (nI a0), .int (nI b0), .int left, .int (nI jn), .ref (p + 0 + 1), .ref (p + 1 + 1), .ref (p + 2 + 1), .ref (p + 3 + 1), .ref (p + 4 + 1), .ref (pw + 1), .ref (pw + 2), .ref (pw + 3), .ref (pw + 4), .int x20, .int x21, v22, v23, v24, v25] [] M Q) → ∀ v22 v23 v24 v25, E g 9 0 0 mL_runs 204 [.ref 129, .ref 130, .ref 131, .ref 132, .ref 133, .long lk, v6, .int (nI a0), .int (nI b0), .int left, .int (nI jn), .ref (p + 0 + 1), .ref (p + 1 + 1), .ref (p + 2 + 1), .ref (p + 3 + 1), .ref (p + 4 + 1), .ref (pw + 1), .ref (pw + 2), .ref (pw + 3), .ref (pw + 4), .int x20, .int (dI k), v22, v23, v24, v25] [] M Q := by
  refine lpDn 0 (fun k _ ih => ?_)
  intro L M h hkl K v22 v23 v24 v25
  have hL := h.lay
  have hf := h.f2
  have hn := h.len
  have hct := h.ct
  have hz := hw.z h.fr h.p9
  refine E_iload dL_runs_204 rfl ?_
  refine E_if_lt_d (tgt := 249) dL_runs_206 (by decide) (by omega) (fun c_206 => ?_) (fun c_206 => ?_)
  · obtain rfl : k = 0 := by omega
    exact K M _ _ _ _ _ h
  · obtain ⟨k, rfl⟩ : ∃ q, k = q + 1 := ⟨k - 1, by omega⟩
    rw [dI_succ]
    have hok := h.ok (i := k) (by omega)
    have hgb := glZ_256 hok.1
    have hN : ∀ M v22 v23 v24 v25, lX c f M0 pw (cI (yN (gat L k) = 2 ∨ yN (gat L k) = 3) (closeL L k) L) (-1) z M → E g 9 0 0 mL_runs 243 [.ref 129, .ref 130, .ref 131, .ref 132, .ref 133, .long lk, v6, .int (nI a0), .int (nI b0), .int left, .int (nI jn), .ref (p + 0 + 1), .ref (p + 1 + 1), .ref (p + 2 + 1), .ref (p + 3 + 1), .ref (p + 4 + 1), .ref (pw + 1), .ref (pw + 2), .ref (pw + 3), .ref (pw + 4), .int x20, .int (nI k), v22, v23, v24, v25] [] M Q := by
      intro M v22 v23 v24 v25 h
      have hlen : k ≤ (cI (yN (gat L k) = 2 ∨ yN (gat L k) = 3) (closeL L k) L).length := by
        by_cases q : yN (gat L k) = 2 ∨ yN (gat L k) = 3
        · rw [cI_t q, clo_len]; omega
        · rw [cI_f q]; omega
      refine E_iinc_d dL_runs_243 rfl rfl (by decide) rfl ?_
      refine E_goto (tgt := 204) dL_runs_246 (by decide) ?_
      exact ih (by omega) _ M h hlen K _ _ _ _
    refine E_aload dL_runs_209 rfl ?_
    refine E_iload dL_runs_211 rfl ?_
    refine E_laldL (v := pk _) dL_runs_213 h.plt h.pkd rfl (by omega) (by decide) (h.wk (by omega)) ?_
    refine E_callT1 (fr' := 1) (k1 := 0) (n1 := 0) (k2 := 0) (n2 := 0) dL_runs_214 kO_L_glyphOf kL_L_108 (by exact Nat.le_of_ble_eq_true rfl) (by decide) (by exact Nat.le_of_ble_eq_true rfl) (Or.inl rfl) rfl ?_
    refine sp_L_glyphOf (h.ok (by omega)) ?_
    refine gKv ?_
    refine E_iconst (v := nI 2) dL_runs_217 (by decide) ?_
    refine E_icmp_eq_n (tgt := 233) dL_runs_218 (by decide) (by omega) (by omega) (fun c_218 => ?_) (fun c_218 => ?_)
    · refine E_aload dL_runs_233 rfl ?_
      refine E_aload dL_runs_235 rfl ?_
      refine E_iload dL_runs_237 rfl ?_
      refine E_callT3 (fr' := 1) (k1 := 0) (n1 := 0) (k2 := 0) (n2 := 0) dL_runs_239 kO_L_take kL_L_153 (by exact Nat.le_of_ble_eq_true rfl) (by decide) (by exact Nat.le_of_ble_eq_true rfl) (Or.inl rfl) rfl ?_
      refine sp_L_take h (by omega) (fun M h => ?_)
      rw [wTa_m (by omega), ← cI_t (P := yN (gat L k) = 2 ∨ yN (gat L k) = 3) (a := closeL L k) (b := L) (by omega)] at h
      have hL := h.lay
      refine gKv ?_
      refine E_pop2L dL_runs_242 ?_
      first
        | exact hN M _ _ _ _ h
        | (rw [cI_f (by omega)] at hN
           exact hN M _ _ _ _ h)
    · refine E_aload dL_runs_221 rfl ?_
      refine E_iload dL_runs_223 rfl ?_
      refine E_laldL (v := pk _) dL_runs_225 h.plt h.pkd rfl (by omega) (by decide) (h.wk (by omega)) ?_
      refine E_callT1 (fr' := 1) (k1 := 0) (n1 := 0) (k2 := 0) (n2 := 0) dL_runs_226 kO_L_glyphOf kL_L_108 (by exact Nat.le_of_ble_eq_true rfl) (by decide) (by exact Nat.le_of_ble_eq_true rfl) (Or.inl rfl) rfl ?_
      refine sp_L_glyphOf (h.ok (by omega)) ?_
      refine gKv ?_
      refine E_iconst (v := nI 3) dL_runs_229 (by decide) ?_
      refine E_icmp_ne_n (tgt := 243) dL_runs_230 (by decide) (by omega) (by omega) (fun c_230 => ?_) (fun c_230 => ?_)
      · first
          | exact hN M _ _ _ _ h
          | (rw [cI_f (by omega)] at hN
             exact hN M _ _ _ _ h)
      · refine E_aload dL_runs_233 rfl ?_
        refine E_aload dL_runs_235 rfl ?_
        refine E_iload dL_runs_237 rfl ?_
        refine E_callT3 (fr' := 1) (k1 := 0) (n1 := 0) (k2 := 0) (n2 := 0) dL_runs_239 kO_L_take kL_L_153 (by exact Nat.le_of_ble_eq_true rfl) (by decide) (by exact Nat.le_of_ble_eq_true rfl) (Or.inl rfl) rfl ?_
        refine sp_L_take h (by omega) (fun M h => ?_)
        rw [wTa_m (by omega), ← cI_t (P := yN (gat L k) = 2 ∨ yN (gat L k) = 3) (a := closeL L k) (b := L) (by omega)] at h
        have hL := h.lay
        refine gKv ?_
        refine E_pop2L dL_runs_242 ?_
        first
          | exact hN M _ _ _ _ h
          | (rw [cI_f (by omega)] at hN
             exact hN M _ _ _ _ h)
set_option maxRecDepth 100000 in
set_option maxHeartbeats 4000000 in
theorem sg_L_runs {g : gG} {M : gM} {Q : Option Value ⊕ String → gM → Prop} {c : Cf} {f : Nat} {M0 : gM} {pw : Nat} {L : List Gl} {z : Int32}  {lk : Int64} {v6 : Value} {a0 b0 jn p G : Nat} {left x20 : Int32} (h : lX c f M0 pw L (-1) z M) (hw : lW pw M0) (ho : oK p pw M0) (h8 : mI M0 132 8 = nI G) (hG : G ≤ 64) (hjn : jn ≤ 1) (K : rnK c M0 pw p G jn left f (tko L.length L) z (plc c f (tko L.length L)) Q) : ∀ v21 v22 v23 v24 v25, E g 9 0 0 mL_runs 196 [.ref 129, .ref 130, .ref 131, .ref 132, .ref 133, .long lk, v6, .int (nI a0), .int (nI b0), .int left, .int (nI jn), .ref (p + 0 + 1), .ref (p + 1 + 1), .ref (p + 2 + 1), .ref (p + 3 + 1), .ref (p + 4 + 1), .ref (pw + 1), .ref (pw + 2), .ref (pw + 3), .ref (pw + 4), .int x20, v21, v22, v23, v24, v25] [] M Q := by
  intro v21 v22 v23 v24 v25
  have hL := h.lay
  have hf := h.f2
  have hn := h.len
  have hct := h.ct
  refine E_aload dL_runs_196 rfl ?_
  refine E_iconst (v := nI 5) dL_runs_198 (by decide) ?_
  refine E_ialdL (v := nI (List.length _)) dL_runs_199 (l_132 hL) (k_132 hL) rfl (by omega) (by decide) h.a5 ?_
  refine E_iconst (v := nI 1) dL_runs_200 (by decide) ?_
  refine E_isub_d dL_runs_201 ?_
  refine E_istore dL_runs_202 (Nat.le_of_ble_eq_true rfl) (by decide) rfl ?_
  refine lp5_L_runs (G := G) hw L.length (Nat.zero_le _) L M h (Nat.le_refl _) (fun M x21 v22 v23 v24 v25 h => ?_) _ _ _ _
  generalize tko L.length L = L at h K
  have hL := h.lay
  refine E_iconst (v := nI 0) dL_runs_249 (by decide) ?_
  refine E_istore dL_runs_250 (Nat.le_of_ble_eq_true rfl) (by decide) rfl ?_
  refine lp6_L_runs (G := G) (fun M x21 v22 v23 v24 v25 hq => ?_) 0 (Nat.zero_le _) (Nat.le_refl _) M _ _ _ _ (lQ.zA h hw)
  have h := hq.X
  have hL := h.lay
  refine E_bipush (v := nI 8) dL_runs_300 (by decide) ?_
  refine E_aload dL_runs_302 rfl ?_
  refine E_bipush (v := nI 6) dL_runs_304 (by decide) ?_
  refine E_ialdL (v := nI _) dL_runs_306 (l_132 hL) (k_132 hL) rfl (by omega) (by decide) h.a6 ?_
  refine E_imul_n dL_runs_307 ?_
  refine E_istore dL_runs_308 (Nat.le_of_ble_eq_true rfl) (by decide) rfl ?_
  refine lp7_L_runs (G := G) (cN c 129 f) 0 (pl0 c f L) M (by omega) hq (fun M x21 v22 v23 v24 v25 hq => ?_) _ _ _ _
  have h := hq.X
  have hL := h.lay
  refine E_iconst (v := nI 0) dL_runs_394 (by decide) ?_
  refine E_istore dL_runs_395 (Nat.le_of_ble_eq_true rfl) (by decide) rfl ?_
  refine E_iconst (v := nI 0) dL_runs_397 (by decide) ?_
  refine E_istore dL_runs_398 (Nat.le_of_ble_eq_true rfl) (by decide) rfl ?_
  exact lp8_L_runs hq ho h8 hG hjn K 0 (Nat.zero_le _) (Nat.le_refl _) _ _ _
