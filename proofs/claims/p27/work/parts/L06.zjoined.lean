/-! the law: a ligature made -/
theorem wTk_two {w : Int32} {two i : Nat} (h : w = nI two) : wTk w two i = nI i := cI_t h
theorem wTk_ta {w : Int32} {a i : Nat} (h : ¬ w = nI a) : wTk w a i = wTa w a := cI_f h
theorem w_tt {w : Int32} {two three i : Nat} (h1 : i < two) (h2 : two < three) (h3 : three < 2 ^ 20) (h : w = nI two ∨ w = nI three) : wTk (wTk w three i) two i = nI i := by
  rcases h with rfl | rfl
  · have e : wTk (nI two) three i = nI two := by
      rw [wTk_n (by omega) (by omega), if_neg (by omega), if_pos (by omega)]
    rw [e]; exact wTk_two rfl
  · rw [wTk_two rfl, wTk_n (by omega) (by omega), if_neg (by omega), if_pos (by omega)]
theorem w_tn {w : Int32} {two three i : Nat} (h2 : two < three) (h3 : three < 2 ^ 20) (a : ¬ w = nI two) (b : ¬ w = nI three) : wTk (wTk w three i) two i = wTa (wTa w three) two := by
  rw [wTk_ta b]
  refine wTk_ta (fun q => ?_)
  unfold wTa at q
  by_cases e : w ≤ nI three
  · rw [cI_t e] at q; exact a q
  · rw [cI_f e] at q
    have e1 := congrArg Int32.toInt q
    have e2 : ¬ w.toInt ≤ (nI three).toInt := fun z => e (Int32.le_iff_toInt_le.mpr z)
    rw [nI_toInt (by omega)] at e2
    have hr := Int32.toInt_lt w
    rw [nI_toInt (show two < 2 ^ 31 by omega), Int32.toInt_sub, nI_toInt (show 1 < 2 ^ 31 by decide), Int.bmod_eq_of_le (by omega) (by omega)] at e1
    omega
theorem put_put (L : List Gl) (i : Nat) (x y : Gl) : putL (putL L i x) i y = putL L i y := row_ext (by rw [put_len, put_len, put_len]) (fun j hj => by
  rw [put_len, put_len] at hj
  rw [gat_put (by rw [put_len]; exact hj), gat_put hj, gat_put hj]
  by_cases e : j = i
  · rw [if_pos e, if_pos e]
  · rw [if_neg e, if_neg e, if_neg e])
theorem jnA_z {L : List Gl} {one its last lo hi : Nat} {al : Int32} (h : one < L.length) : jnA L one its last al lo hi = closeL (putL (mrgL L lo hi) one (sT (sN (gat (mrgL L lo hi) one) its) al)) last := by
  unfold jnA numL
  rw [put_put, gat_put (by rw [mrg_len]; exact h), if_pos rfl]
theorem aft_sk {c : Cf} {f l : Nat} {L : List Gl} {i k : Nat} (hi : i < L.length) (h1 : i < k) (h2 : k < aft c f l L i) : 0 < cN c 137 (256 * f + yN (gat L k)) := by
  have := (fnd_spec (P := fun k => ¬ skp c f l (yN (gat L k))) (show i + 1 ≤ L.length by omega)).2.2.2 k (by omega) h2
  have h3 : skp c f l (yN (gat L k)) := Classical.byContradiction this
  exact h3.1
/-- bounds under which ligatures keep the row's longs -/
def bdJ (B i : Nat) (L : List Gl) : Prop := 3 * B < 2 ^ 18 ∧ (∀ k, i ≤ k → k < L.length → zT (gat L k) ≤ B) ∧ ∀ k, k < L.length → zP (gat L k) + 2 * B < 2 ^ 18
theorem zT_eq {x : Gl} {y : Gl} (h : yT x = yT y) : zT x = zT y := by unfold zT; rw [h]
theorem zP_le {c : Cf} {f a b s p j : Nat} {x : Gl} (hx : okZ x) (hp : 1 ≤ p) (hb : s + p < 2 ^ 18) (hb2 : s + zP x < 2 ^ 18) : zP (prF c f a b (nI s) (nI p) j x) ≤ s + (if zP x = 0 then p else zP x) := by
  unfold prF
  by_cases q : a ≤ j ∧ j < b ∧ 0 < cN c 137 (256 * f + yN x)
  · rw [cI_t q, pr_val hx hp]
    have e : zP (sP x (nI (s + (if zP x = 0 then p else zP x) - 1))) = s + (if zP x = 0 then p else zP x) - 1 + 1 := zP_j (by split <;> omega) rfl
    rw [e]
    split <;> omega
  · rw [cI_f q]; split <;> omega
theorem zP_out {c : Cf} {f a b j : Nat} {s p : Int32} {x : Gl} (q : j < a ∨ b ≤ j) : zP (prF c f a b s p j x) = zP x := by
  rcases q with q | q
  · rw [pr_lo q]
  · rw [pr_hi q]
set_option maxRecDepth 100000 in
set_option maxHeartbeats 4000000 in
theorem tl2_L_joined {g : gG} {Q : Option Value ⊕ String → gM → Prop} {c : Cf} {f : Nat} {M0 : gM} {pw : Nat} {L : List Gl} {w z : Int32} {l i two s p lo mo d0 : Nat} {b cc : Int32} (hlo : lo < 16) (hmo : mo < 16) (h1 : i < two) (h2 : two < L.length) (hd : glZ d0) (hs : 1 ≤ s + p) (hs2 : s + p < 2 ^ 18) (K : ∀ M, lX c f M0 pw (closeL (putL (mrgL L lo mo) i (sT (sN (gat (mrgL L lo mo) i) d0) (nI (s + p)))) two) (wTk w two i) z M → Q (.inl (some (.int (nI 1)))) M) : ∀ M v15 v16, lX c f M0 pw L w z M → E g 5 0 0 mL_joined 279 [.ref (pw + 1), .ref 130, .ref 132, .ref 133, .int (nI (8 * f + l)), .int (nI i), .int b, .int cc, .int (nI d0), .int (nI two), .int (nI two), .int (nI s), .int (nI p), .int (nI lo), .int (nI mo), v15, v16] [] M Q := by
  intro M v15 v16 h
  have hd2 := glZ_256 hd
  have hL := h.lay
  have hf := h.f2
  have hn := h.len
  have hct := h.ct
  refine E_iconst (v := nI 0) dL_joined_279 (by decide) ?_
  refine E_istore dL_joined_280 (Nat.le_of_ble_eq_true rfl) (by decide) rfl ?_
  refine mg_L_joined hlo hmo (fun M v15 v16 h => ?_) 0 (Nat.zero_le _) M _ (by rw [upK_0 (fun j hj => by omega)]; exact h)
  have hL := h.lay
  have hm := mrg_len L lo mo
  have ho := h.ok (i := i) (by omega)
  have hln : (putL (mrgL L lo mo) i (sT (sN (gat (mrgL L lo mo) i) d0) (nI (s + p)))).length = L.length := by rw [put_len, mrg_len]
  refine E_aload_n dL_joined_345 rfl ?_
  refine E_iload dL_joined_346 rfl ?_
  refine E_aload_n dL_joined_348 rfl ?_
  refine E_iload dL_joined_349 rfl ?_
  refine E_laldL (v := pk (gat (mrgL L lo mo) i)) dL_joined_351 h.plt h.pkd rfl (by omega) (by decide) (h.wk (by omega)) ?_
  refine E_iconst (v := nI 0) dL_joined_352 (by decide) ?_
  refine E_sipush (v := nI 255) dL_joined_353 (by decide) ?_
  refine E_iload dL_joined_356 rfl ?_
  refine E_callT4 (fr' := 1) (k1 := 0) (n1 := 0) (k2 := 0) (n2 := 0) dL_joined_358 kO_L_with kL_L_132 (by exact Nat.le_of_ble_eq_true rfl) (by decide) (by exact Nat.le_of_ble_eq_true rfl) (Or.inl rfl) rfl ?_
  refine sp_L_with_N ho hd2 ?_
  refine gKv ?_
  refine E_bipush (v := nI 35) dL_joined_361 (by decide) ?_
  refine E_ldc (v := nI 262143) dL_joined_363 (gW_at 759 (by decide +kernel) (by decide +kernel)) ?_
  refine E_iload dL_joined_365 rfl ?_
  refine E_iload dL_joined_367 rfl ?_
  refine E_iadd_n dL_joined_369 ?_
  refine E_callT4 (fr' := 1) (k1 := 0) (n1 := 0) (k2 := 0) (n2 := 0) dL_joined_370 kO_L_with kL_L_132 (by exact Nat.le_of_ble_eq_true rfl) (by decide) (by exact Nat.le_of_ble_eq_true rfl) (Or.inl rfl) rfl ?_
  refine sp_L_with_T (okZ_sN ho hd) hs2 ?_
  refine gKv ?_
  refine E_putK dL_joined_373 h rfl (by omega) rfl (okZ_sT (okZ_sN ho hd) hs hs2) (fun M h => ?_)
  have hL := h.lay
  have hln2 := h.len
  refine E_aload_n dL_joined_374 rfl ?_
  refine E_bipush (v := nI 7) dL_joined_375 (by decide) ?_
  refine E_ialdL (v := _) dL_joined_377 (l_132 hL) (k_132 hL) rfl (by omega) (by decide) h.a7 ?_
  refine E_iload dL_joined_378 rfl ?_
  refine E_icmp_eq (tgt := 392) dL_joined_380 (by decide) (fun e_380 => ?_) (fun e_380 => ?_)
  · refine E_iconst (v := nI 1) dL_joined_392 (by decide) ?_
    refine E_goto (tgt := 397) dL_joined_393 (by decide) ?_
    refine E_istore dL_joined_397 (Nat.le_of_ble_eq_true rfl) (by decide) rfl ?_
    refine E_iload dL_joined_399 rfl ?_
    refine E_iload dL_joined_401 rfl ?_
    refine E_icmp_eq (tgt := 414) dL_joined_403 (by decide) (fun _ => ?_) (fun c0 => absurd rfl c0)
    refine E_aload_n dL_joined_414 rfl ?_
    refine E_aload_n dL_joined_415 rfl ?_
    refine E_iload dL_joined_416 rfl ?_
    refine E_callT3 (fr' := 1) (k1 := 0) (n1 := 0) (k2 := 0) (n2 := 0) dL_joined_418 kO_L_take kL_L_153 (by exact Nat.le_of_ble_eq_true rfl) (by decide) (by exact Nat.le_of_ble_eq_true rfl) (Or.inl rfl) rfl ?_
    refine sp_L_take h (by omega) (fun M h => ?_)
    have hL := h.lay
    refine gKv ?_
    refine E_pop2L dL_joined_421 ?_
    refine E_iload dL_joined_422 rfl ?_
    refine E_if_eq (tgt := 433) dL_joined_424 (by decide) (fun c0 => absurd c0 (by decide)) (fun _ => ?_)
    refine E_aload_n dL_joined_427 rfl ?_
    refine E_bipush (v := nI 7) dL_joined_428 (by decide) ?_
    refine E_iload dL_joined_430 rfl ?_
    refine E_setW dL_joined_432 h (fun M h => ?_)
    have hL := h.lay
    refine E_iconst (v := nI 1) dL_joined_433 (by decide) ?_
    refine E_iret dL_joined_434 (Or.inr ⟨rfl, by decide⟩) ?_
    first
      | (rw [← wTk_two (i := i) e_380] at h; exact K M h)
      | exact absurd e_389 e_380
      | (rw [← wTk_ta (i := i) e_380] at h; exact K M h)
  · refine E_aload_n dL_joined_383 rfl ?_
    refine E_bipush (v := nI 7) dL_joined_384 (by decide) ?_
    refine E_ialdL (v := _) dL_joined_386 (l_132 hL) (k_132 hL) rfl (by omega) (by decide) h.a7 ?_
    refine E_iload dL_joined_387 rfl ?_
    refine E_icmp_ne_r (tgt := 396) dL_joined_389 (by decide) (fun e_389 => ?_) (fun e_389 => ?_)
    · refine E_iconst (v := nI 0) dL_joined_396 (by decide) ?_
      refine E_istore dL_joined_397 (Nat.le_of_ble_eq_true rfl) (by decide) rfl ?_
      refine E_iload dL_joined_399 rfl ?_
      refine E_iload dL_joined_401 rfl ?_
      refine E_icmp_eq (tgt := 414) dL_joined_403 (by decide) (fun _ => ?_) (fun c0 => absurd rfl c0)
      refine E_aload_n dL_joined_414 rfl ?_
      refine E_aload_n dL_joined_415 rfl ?_
      refine E_iload dL_joined_416 rfl ?_
      refine E_callT3 (fr' := 1) (k1 := 0) (n1 := 0) (k2 := 0) (n2 := 0) dL_joined_418 kO_L_take kL_L_153 (by exact Nat.le_of_ble_eq_true rfl) (by decide) (by exact Nat.le_of_ble_eq_true rfl) (Or.inl rfl) rfl ?_
      refine sp_L_take h (by omega) (fun M h => ?_)
      have hL := h.lay
      refine gKv ?_
      refine E_pop2L dL_joined_421 ?_
      refine E_iload dL_joined_422 rfl ?_
      refine E_if_eq (tgt := 433) dL_joined_424 (by decide) (fun _ => ?_) (fun c0 => absurd (by decide) c0)
      refine E_iconst (v := nI 1) dL_joined_433 (by decide) ?_
      refine E_iret dL_joined_434 (Or.inr ⟨rfl, by decide⟩) ?_
      first
        | (rw [← wTk_two (i := i) e_380] at h; exact K M h)
        | exact absurd e_389 e_380
        | (rw [← wTk_ta (i := i) e_380] at h; exact K M h)
    · refine E_iconst (v := nI 1) dL_joined_392 (by decide) ?_
      refine E_goto (tgt := 397) dL_joined_393 (by decide) ?_
      refine E_istore dL_joined_397 (Nat.le_of_ble_eq_true rfl) (by decide) rfl ?_
      refine E_iload dL_joined_399 rfl ?_
      refine E_iload dL_joined_401 rfl ?_
      refine E_icmp_eq (tgt := 414) dL_joined_403 (by decide) (fun _ => ?_) (fun c0 => absurd rfl c0)
      refine E_aload_n dL_joined_414 rfl ?_
      refine E_aload_n dL_joined_415 rfl ?_
      refine E_iload dL_joined_416 rfl ?_
      refine E_callT3 (fr' := 1) (k1 := 0) (n1 := 0) (k2 := 0) (n2 := 0) dL_joined_418 kO_L_take kL_L_153 (by exact Nat.le_of_ble_eq_true rfl) (by decide) (by exact Nat.le_of_ble_eq_true rfl) (Or.inl rfl) rfl ?_
      refine sp_L_take h (by omega) (fun M h => ?_)
      have hL := h.lay
      refine gKv ?_
      refine E_pop2L dL_joined_421 ?_
      refine E_iload dL_joined_422 rfl ?_
      refine E_if_eq (tgt := 433) dL_joined_424 (by decide) (fun c0 => absurd c0 (by decide)) (fun _ => ?_)
      refine E_aload_n dL_joined_427 rfl ?_
      refine E_bipush (v := nI 7) dL_joined_428 (by decide) ?_
      refine E_iload dL_joined_430 rfl ?_
      refine E_setW dL_joined_432 h (fun M h => ?_)
      have hL := h.lay
      refine E_iconst (v := nI 1) dL_joined_433 (by decide) ?_
      refine E_iret dL_joined_434 (Or.inr ⟨rfl, by decide⟩) ?_
      first
        | (rw [← wTk_two (i := i) e_380] at h; exact K M h)
        | exact absurd e_389 e_380
        | (rw [← wTk_ta (i := i) e_380] at h; exact K M h)
set_option maxRecDepth 100000 in
set_option maxHeartbeats 4000000 in
theorem tl3_L_joined {g : gG} {Q : Option Value ⊕ String → gM → Prop} {c : Cf} {f : Nat} {M0 : gM} {pw : Nat} {L : List Gl} {w z : Int32} {l i two three s p lo mo d0 : Nat} {b cc : Int32} (hlo : lo < 16) (hmo : mo < 16) (h1 : i < two) (h2 : two < three) (h3 : three < L.length) (hd : glZ d0) (hs : 1 ≤ s + p) (hs2 : s + p < 2 ^ 18) (K : ∀ M, lX c f M0 pw (closeL (closeL (putL (mrgL L lo mo) i (sT (sN (gat (mrgL L lo mo) i) d0) (nI (s + p)))) three) two) (wTk (wTk w three i) two i) z M → Q (.inl (some (.int (nI 1)))) M) : ∀ M v15 v16, lX c f M0 pw L w z M → E g 5 0 0 mL_joined 279 [.ref (pw + 1), .ref 130, .ref 132, .ref 133, .int (nI (8 * f + l)), .int (nI i), .int b, .int cc, .int (nI d0), .int (nI two), .int (nI three), .int (nI s), .int (nI p), .int (nI lo), .int (nI mo), v15, v16] [] M Q := by
  intro M v15 v16 h
  have hd2 := glZ_256 hd
  have hL := h.lay
  have hf := h.f2
  have hn := h.len
  have hct := h.ct
  refine E_iconst (v := nI 0) dL_joined_279 (by decide) ?_
  refine E_istore dL_joined_280 (Nat.le_of_ble_eq_true rfl) (by decide) rfl ?_
  refine mg_L_joined hlo hmo (fun M v15 v16 h => ?_) 0 (Nat.zero_le _) M _ (by rw [upK_0 (fun j hj => by omega)]; exact h)
  have hL := h.lay
  have hm := mrg_len L lo mo
  have ho := h.ok (i := i) (by omega)
  have hln : (putL (mrgL L lo mo) i (sT (sN (gat (mrgL L lo mo) i) d0) (nI (s + p)))).length = L.length := by rw [put_len, mrg_len]
  refine E_aload_n dL_joined_345 rfl ?_
  refine E_iload dL_joined_346 rfl ?_
  refine E_aload_n dL_joined_348 rfl ?_
  refine E_iload dL_joined_349 rfl ?_
  refine E_laldL (v := pk (gat (mrgL L lo mo) i)) dL_joined_351 h.plt h.pkd rfl (by omega) (by decide) (h.wk (by omega)) ?_
  refine E_iconst (v := nI 0) dL_joined_352 (by decide) ?_
  refine E_sipush (v := nI 255) dL_joined_353 (by decide) ?_
  refine E_iload dL_joined_356 rfl ?_
  refine E_callT4 (fr' := 1) (k1 := 0) (n1 := 0) (k2 := 0) (n2 := 0) dL_joined_358 kO_L_with kL_L_132 (by exact Nat.le_of_ble_eq_true rfl) (by decide) (by exact Nat.le_of_ble_eq_true rfl) (Or.inl rfl) rfl ?_
  refine sp_L_with_N ho hd2 ?_
  refine gKv ?_
  refine E_bipush (v := nI 35) dL_joined_361 (by decide) ?_
  refine E_ldc (v := nI 262143) dL_joined_363 (gW_at 759 (by decide +kernel) (by decide +kernel)) ?_
  refine E_iload dL_joined_365 rfl ?_
  refine E_iload dL_joined_367 rfl ?_
  refine E_iadd_n dL_joined_369 ?_
  refine E_callT4 (fr' := 1) (k1 := 0) (n1 := 0) (k2 := 0) (n2 := 0) dL_joined_370 kO_L_with kL_L_132 (by exact Nat.le_of_ble_eq_true rfl) (by decide) (by exact Nat.le_of_ble_eq_true rfl) (Or.inl rfl) rfl ?_
  refine sp_L_with_T (okZ_sN ho hd) hs2 ?_
  refine gKv ?_
  refine E_putK dL_joined_373 h rfl (by omega) rfl (okZ_sT (okZ_sN ho hd) hs hs2) (fun M h => ?_)
  have hL := h.lay
  have hln2 := h.len
  refine E_aload_n dL_joined_374 rfl ?_
  refine E_bipush (v := nI 7) dL_joined_375 (by decide) ?_
  refine E_ialdL (v := _) dL_joined_377 (l_132 hL) (k_132 hL) rfl (by omega) (by decide) h.a7 ?_
  refine E_iload dL_joined_378 rfl ?_
  refine E_icmp_eq (tgt := 392) dL_joined_380 (by decide) (fun e_380 => ?_) (fun e_380 => ?_)
  · refine E_iconst (v := nI 1) dL_joined_392 (by decide) ?_
    refine E_goto (tgt := 397) dL_joined_393 (by decide) ?_
    refine E_istore dL_joined_397 (Nat.le_of_ble_eq_true rfl) (by decide) rfl ?_
    refine E_iload dL_joined_399 rfl ?_
    refine E_iload dL_joined_401 rfl ?_
    refine E_icmp_eq (tgt := 414) dL_joined_403 (by decide) (fun c0 => absurd c0 (by rw [nI_eq (by omega) (by omega)]; omega)) (fun _ => ?_)
    refine E_aload_n dL_joined_406 rfl ?_
    refine E_aload_n dL_joined_407 rfl ?_
    refine E_iload dL_joined_408 rfl ?_
    refine E_callT3 (fr' := 1) (k1 := 0) (n1 := 0) (k2 := 0) (n2 := 0) dL_joined_410 kO_L_take kL_L_153 (by exact Nat.le_of_ble_eq_true rfl) (by decide) (by exact Nat.le_of_ble_eq_true rfl) (Or.inl rfl) rfl ?_
    refine sp_L_take h (by omega) (fun M h => ?_)
    have hL := h.lay
    refine gKv ?_
    refine E_pop2L dL_joined_413 ?_
    refine E_aload_n dL_joined_414 rfl ?_
    refine E_aload_n dL_joined_415 rfl ?_
    refine E_iload dL_joined_416 rfl ?_
    refine E_callT3 (fr' := 1) (k1 := 0) (n1 := 0) (k2 := 0) (n2 := 0) dL_joined_418 kO_L_take kL_L_153 (by exact Nat.le_of_ble_eq_true rfl) (by decide) (by exact Nat.le_of_ble_eq_true rfl) (Or.inl rfl) rfl ?_
    refine sp_L_take h (by rw [clo_len]; omega) (fun M h => ?_)
    have hL := h.lay
    refine gKv ?_
    refine E_pop2L dL_joined_421 ?_
    refine E_iload dL_joined_422 rfl ?_
    refine E_if_eq (tgt := 433) dL_joined_424 (by decide) (fun c0 => absurd c0 (by decide)) (fun _ => ?_)
    refine E_aload_n dL_joined_427 rfl ?_
    refine E_bipush (v := nI 7) dL_joined_428 (by decide) ?_
    refine E_iload dL_joined_430 rfl ?_
    refine E_setW dL_joined_432 h (fun M h => ?_)
    have hL := h.lay
    refine E_iconst (v := nI 1) dL_joined_433 (by decide) ?_
    refine E_iret dL_joined_434 (Or.inr ⟨rfl, by decide⟩) ?_
    first
      | (rw [← w_tt h1 h2 (by omega) (Or.inl e_380)] at h; exact K M h)
      | (rw [← w_tt h1 h2 (by omega) (Or.inr e_389)] at h; exact K M h)
      | (rw [← w_tn (i := i) h2 (by omega) e_380 e_389] at h; exact K M h)
  · refine E_aload_n dL_joined_383 rfl ?_
    refine E_bipush (v := nI 7) dL_joined_384 (by decide) ?_
    refine E_ialdL (v := _) dL_joined_386 (l_132 hL) (k_132 hL) rfl (by omega) (by decide) h.a7 ?_
    refine E_iload dL_joined_387 rfl ?_
    refine E_icmp_ne_r (tgt := 396) dL_joined_389 (by decide) (fun e_389 => ?_) (fun e_389 => ?_)
    · refine E_iconst (v := nI 0) dL_joined_396 (by decide) ?_
      refine E_istore dL_joined_397 (Nat.le_of_ble_eq_true rfl) (by decide) rfl ?_
      refine E_iload dL_joined_399 rfl ?_
      refine E_iload dL_joined_401 rfl ?_
      refine E_icmp_eq (tgt := 414) dL_joined_403 (by decide) (fun c0 => absurd c0 (by rw [nI_eq (by omega) (by omega)]; omega)) (fun _ => ?_)
      refine E_aload_n dL_joined_406 rfl ?_
      refine E_aload_n dL_joined_407 rfl ?_
      refine E_iload dL_joined_408 rfl ?_
      refine E_callT3 (fr' := 1) (k1 := 0) (n1 := 0) (k2 := 0) (n2 := 0) dL_joined_410 kO_L_take kL_L_153 (by exact Nat.le_of_ble_eq_true rfl) (by decide) (by exact Nat.le_of_ble_eq_true rfl) (Or.inl rfl) rfl ?_
      refine sp_L_take h (by omega) (fun M h => ?_)
      have hL := h.lay
      refine gKv ?_
      refine E_pop2L dL_joined_413 ?_
      refine E_aload_n dL_joined_414 rfl ?_
      refine E_aload_n dL_joined_415 rfl ?_
      refine E_iload dL_joined_416 rfl ?_
      refine E_callT3 (fr' := 1) (k1 := 0) (n1 := 0) (k2 := 0) (n2 := 0) dL_joined_418 kO_L_take kL_L_153 (by exact Nat.le_of_ble_eq_true rfl) (by decide) (by exact Nat.le_of_ble_eq_true rfl) (Or.inl rfl) rfl ?_
      refine sp_L_take h (by rw [clo_len]; omega) (fun M h => ?_)
      have hL := h.lay
      refine gKv ?_
      refine E_pop2L dL_joined_421 ?_
      refine E_iload dL_joined_422 rfl ?_
      refine E_if_eq (tgt := 433) dL_joined_424 (by decide) (fun _ => ?_) (fun c0 => absurd (by decide) c0)
      refine E_iconst (v := nI 1) dL_joined_433 (by decide) ?_
      refine E_iret dL_joined_434 (Or.inr ⟨rfl, by decide⟩) ?_
      first
        | (rw [← w_tt h1 h2 (by omega) (Or.inl e_380)] at h; exact K M h)
        | (rw [← w_tt h1 h2 (by omega) (Or.inr e_389)] at h; exact K M h)
        | (rw [← w_tn (i := i) h2 (by omega) e_380 e_389] at h; exact K M h)
    · refine E_iconst (v := nI 1) dL_joined_392 (by decide) ?_
      refine E_goto (tgt := 397) dL_joined_393 (by decide) ?_
      refine E_istore dL_joined_397 (Nat.le_of_ble_eq_true rfl) (by decide) rfl ?_
      refine E_iload dL_joined_399 rfl ?_
      refine E_iload dL_joined_401 rfl ?_
      refine E_icmp_eq (tgt := 414) dL_joined_403 (by decide) (fun c0 => absurd c0 (by rw [nI_eq (by omega) (by omega)]; omega)) (fun _ => ?_)
      refine E_aload_n dL_joined_406 rfl ?_
      refine E_aload_n dL_joined_407 rfl ?_
      refine E_iload dL_joined_408 rfl ?_
      refine E_callT3 (fr' := 1) (k1 := 0) (n1 := 0) (k2 := 0) (n2 := 0) dL_joined_410 kO_L_take kL_L_153 (by exact Nat.le_of_ble_eq_true rfl) (by decide) (by exact Nat.le_of_ble_eq_true rfl) (Or.inl rfl) rfl ?_
      refine sp_L_take h (by omega) (fun M h => ?_)
      have hL := h.lay
      refine gKv ?_
      refine E_pop2L dL_joined_413 ?_
      refine E_aload_n dL_joined_414 rfl ?_
      refine E_aload_n dL_joined_415 rfl ?_
      refine E_iload dL_joined_416 rfl ?_
      refine E_callT3 (fr' := 1) (k1 := 0) (n1 := 0) (k2 := 0) (n2 := 0) dL_joined_418 kO_L_take kL_L_153 (by exact Nat.le_of_ble_eq_true rfl) (by decide) (by exact Nat.le_of_ble_eq_true rfl) (Or.inl rfl) rfl ?_
      refine sp_L_take h (by rw [clo_len]; omega) (fun M h => ?_)
      have hL := h.lay
      refine gKv ?_
      refine E_pop2L dL_joined_421 ?_
      refine E_iload dL_joined_422 rfl ?_
      refine E_if_eq (tgt := 433) dL_joined_424 (by decide) (fun c0 => absurd c0 (by decide)) (fun _ => ?_)
      refine E_aload_n dL_joined_427 rfl ?_
      refine E_bipush (v := nI 7) dL_joined_428 (by decide) ?_
      refine E_iload dL_joined_430 rfl ?_
      refine E_setW dL_joined_432 h (fun M h => ?_)
      have hL := h.lay
      refine E_iconst (v := nI 1) dL_joined_433 (by decide) ?_
      refine E_iret dL_joined_434 (Or.inr ⟨rfl, by decide⟩) ?_
      first
        | (rw [← w_tt h1 h2 (by omega) (Or.inl e_380)] at h; exact K M h)
        | (rw [← w_tt h1 h2 (by omega) (Or.inr e_389)] at h; exact K M h)
        | (rw [← w_tn (i := i) h2 (by omega) e_380 e_389] at h; exact K M h)
theorem al2_z {L : List Gl} {i two : Nat} (h1 : okZ (gat L i)) (h2 : okZ (gat L two)) : al2 L i two = nI (zT (gat L i) + zT (gat L two)) := by
  unfold al2
  rw [yT_tN h1, yT_tN h2, nI_add, nI_add, Nat.add_zero]
theorem al3_z {L : List Gl} {i two three : Nat} (h1 : okZ (gat L i)) (h2 : okZ (gat L two)) (h3 : okZ (gat L three)) : al3 L i two three = nI (zT (gat L i) + zT (gat L two) + zT (gat L three)) := by
  unfold al3
  rw [yT_tN h1, yT_tN h2, yT_tN h3, nI_add, nI_add]
theorem nI_asub (a b : Nat) : nI (a + b) - nI b = nI a := by rw [pk_sub (by omega), Nat.add_sub_cancel]
theorem jn2_z {c : Cf} {f : Nat} {L L1 : List Gl} {i two d0 : Nat} (ho : okZL L) (h1 : i < two) (h2 : two < L.length) (e1 : L1 = prtL c f L (i + 1) two (nI 0) (nI (zT (gat L i)))) {L2 : List Gl} (e2 : L2 = prtL c f L1 (two + 1) (bhm c f L1 (two + 1)) (nI (zT (gat L i))) (nI (zT (gat L two)))) {lo mo : Nat} (elo : lo = min (yC (gat L i)) (yC (gat L two))) (emo : mo = max (yC (gat L i)) (yC (gat L two))) :
    jn2 c f L i two d0 = closeL (putL (mrgL L2 lo mo) i (sT (sN (gat (mrgL L2 lo mo) i) d0) (nI (zT (gat L i) + zT (gat L two))))) two := by
  have o1 := ho.at (i := i) (by omega)
  have o2 := ho.at h2
  have l1 : L1.length = L.length := by rw [e1, prt_len]
  have l2 : L2.length = L.length := by rw [e2, prt_len, l1]
  have p1 : jnP c f L i two = L1 := by rw [e1]; unfold jnP; rw [yT_tN o1]
  have n1 : ∀ j, j < L.length → yN (gat L1 j) = yN (gat L j) ∧ yC (gat L1 j) = yC (gat L j) ∧ yT (gat L1 j) = yT (gat L j) := fun j hj => by rw [e1]; exact prt_N hj
  have n2 : ∀ j, j < L.length → yC (gat L2 j) = yC (gat L j) := fun j hj => by rw [e2]; exact (prt_N (by rw [l1]; exact hj)).2.1.trans (n1 j hj).2.1
  have p2 : jnB c f L1 two (al2 L i two) = L2 := by
    unfold jnB
    rw [al2_z o1 o2, (n1 two h2).2.2, yT_tN o2, nI_asub, e2]
  unfold jn2
  rw [p1, p2]
  unfold jnC
  rw [n2 i (by omega), n2 two h2, ← elo, ← emo, al2_z o1 o2, jnA_z (by omega)]
theorem jn3_z {c : Cf} {f : Nat} {L L1 L2 : List Gl} {i two three d0 : Nat} (ho : okZL L) (h1 : i < two) (h2 : two < three) (h3 : three < L.length) (e1 : L1 = prtL c f L (i + 1) two (nI 0) (nI (zT (gat L i)))) (e2 : L2 = prtL c f L1 (two + 1) three (nI (zT (gat L i))) (nI (zT (gat L two)))) {L3 : List Gl} (e3 : L3 = prtL c f L2 (three + 1) (bhm c f L2 (three + 1)) (nI (zT (gat L i) + zT (gat L two))) (nI (zT (gat L three)))) {lo mo : Nat} (elo : lo = min (min (yC (gat L i)) (yC (gat L two))) (yC (gat L three))) (emo : mo = max (max (yC (gat L i)) (yC (gat L two))) (yC (gat L three))) :
    jn3 c f L i two three d0 = closeL (closeL (putL (mrgL L3 lo mo) i (sT (sN (gat (mrgL L3 lo mo) i) d0) (nI (zT (gat L i) + zT (gat L two) + zT (gat L three))))) three) two := by
  have o1 := ho.at (i := i) (by omega)
  have o2 := ho.at (i := two) (by omega)
  have o3 := ho.at h3
  have l1 : L1.length = L.length := by rw [e1, prt_len]
  have l2 : L2.length = L.length := by rw [e2, prt_len, l1]
  have l3 : L3.length = L.length := by rw [e3, prt_len, l2]
  have p1 : jnP c f L i two = L1 := by rw [e1]; unfold jnP; rw [yT_tN o1]
  have n1 : ∀ j, j < L.length → yN (gat L1 j) = yN (gat L j) ∧ yC (gat L1 j) = yC (gat L j) ∧ yT (gat L1 j) = yT (gat L j) := fun j hj => by rw [e1]; exact prt_N hj
  have n2 : ∀ j, j < L.length → yC (gat L2 j) = yC (gat L j) ∧ yT (gat L2 j) = yT (gat L j) := fun j hj => by
    have q := prt_N (c := c) (f := f) (L := L1) (a := two + 1) (b := three) (s := nI (zT (gat L i))) (p := nI (zT (gat L two))) (j := j) (by rw [l1]; exact hj)
    rw [e2]; exact ⟨q.2.1.trans (n1 j hj).2.1, q.2.2.trans (n1 j hj).2.2⟩
  have n3 : ∀ j, j < L.length → yC (gat L3 j) = yC (gat L j) := fun j hj => by rw [e3]; exact (prt_N (by rw [l2]; exact hj)).2.1.trans (n2 j hj).1
  have p2 : jnQ c f L1 i two three = L2 := by
    unfold jnQ
    rw [(n1 i (by omega)).2.2, (n1 two (by omega)).2.2, yT_tN o1, yT_tN o2, e2]
  have p3 : jnB c f L2 three (al3 L i two three) = L3 := by
    unfold jnB
    rw [al3_z o1 o2 o3, (n2 three h3).2, yT_tN o3, nI_asub, e3]
  unfold jn3
  rw [p1, p2, p3]
  unfold jnD
  rw [n3 i (by omega), n3 two (by omega), n3 three h3, ← elo, ← emo, al3_z o1 o2 o3, jnA_z (by omega)]
theorem bhm_sp {c : Cf} {f : Nat} {L : List Gl} {a : Nat} (ha : a ≤ L.length) : a ≤ bhm c f L a ∧ bhm c f L a ≤ L.length ∧ (bhm c f L a < L.length → ¬ 0 < cN c 137 (256 * f + yN (gat L (bhm c f L a)))) ∧ ∀ k, a ≤ k → k < bhm c f L a → 0 < cN c 137 (256 * f + yN (gat L k)) := by
  obtain ⟨q1, q2, q3, q4⟩ := fnd_spec (P := fun k => ¬ 0 < cN c 137 (256 * f + yN (gat L k))) ha
  exact ⟨q1, q2, q3, fun k z1 z2 => Classical.byContradiction (fun z => q4 k z1 z2 z)⟩
set_option maxRecDepth 100000 in
set_option maxHeartbeats 4000000 in
theorem md2_L_joined {g : gG} {M : gM} {Q : Option Value ⊕ String → gM → Prop} {c : Cf} {f : Nat} {M0 : gM} {pw : Nat} {L : List Gl} {w z : Int32} (h : lX c f M0 pw L w z M) {l i two d0 : Nat} {b cc : Int32} {B : Nat} (bd : bdJ B i L) (h1 : i < two) (h2 : two < L.length) (hm1 : ∀ k, i < k → k < two → 0 < cN c 137 (256 * f + yN (gat L k))) (hd : glZ d0) (K : ∀ M, lX c f M0 pw (jn2 c f L i two d0) (wTk w two i) z M → Q (.inl (some (.int (nI 1)))) M) : E g 5 0 0 mL_joined 101 [.ref (pw + 1), .ref 130, .ref 132, .ref 133, .int (nI (8 * f + l)), .int (nI i), .int b, .int cc, .int (nI d0), .int (nI two), .int (nI two), .null, .null, .null, .null, .null, .null] [] M Q := by
  have hL := h.lay
  have hf := h.f2
  have hn := h.len
  have hct := h.ct
  have ho := h.2
  have o1 := h.ok (i := i) (by omega)
  have o2 := h.ok (i := two) (by omega)
  have b1 := o1.b
  have b2 := o2.b
  have p1 := zT_pos o1
  have p2 := zT_pos o2
  obtain ⟨bB, bT, bP⟩ := bd
  have t1 := bT i (Nat.le_refl _) (by omega)
  have t2 := bT two (by omega) (by omega)
  refine E_iconst (v := nI 0) dL_joined_101 (by decide) ?_
  refine E_istore dL_joined_102 (Nat.le_of_ble_eq_true rfl) (by decide) rfl ?_
  refine E_aload_n dL_joined_104 rfl ?_
  refine E_iload dL_joined_105 rfl ?_
  refine E_laldL (v := pk _) dL_joined_107 h.plt h.pkd rfl (by omega) (by decide) (h.wk (by omega)) ?_
  refine E_bipush (v := nI 35) dL_joined_108 (by decide) ?_
  refine E_ldc (v := nI 262143) dL_joined_110 (gW_at 759 (by decide +kernel) (by decide +kernel)) ?_
  refine E_callT3 (fr' := 1) (k1 := 0) (n1 := 0) (k2 := 0) (n2 := 0) dL_joined_112 kO_L_part kL_L_116 (by exact Nat.le_of_ble_eq_true rfl) (by decide) (by exact Nat.le_of_ble_eq_true rfl) (Or.inl rfl) rfl ?_
  refine sp_L_part_T (h.ok (by omega)) ?_
  refine gKv ?_
  refine E_istore dL_joined_115 (Nat.le_of_ble_eq_true rfl) (by decide) rfl ?_
  refine E_aload_n dL_joined_117 rfl ?_
  refine E_iload dL_joined_118 rfl ?_
  refine E_laldL (v := pk _) dL_joined_120 h.plt h.pkd rfl (by omega) (by decide) (h.wk (by omega)) ?_
  refine E_bipush (v := nI 8) dL_joined_121 (by decide) ?_
  refine E_bipush (v := nI 15) dL_joined_123 (by decide) ?_
  refine E_callT3 (fr' := 1) (k1 := 0) (n1 := 0) (k2 := 0) (n2 := 0) dL_joined_125 kO_L_part kL_L_116 (by exact Nat.le_of_ble_eq_true rfl) (by decide) (by exact Nat.le_of_ble_eq_true rfl) (Or.inl rfl) rfl ?_
  refine sp_L_part_C (h.ok (by omega)) ?_
  refine gKv ?_
  refine E_istore dL_joined_128 (Nat.le_of_ble_eq_true rfl) (by decide) rfl ?_
  refine E_iload dL_joined_130 rfl ?_
  refine E_istore dL_joined_132 (Nat.le_of_ble_eq_true rfl) (by decide) rfl ?_
  refine E_iload dL_joined_134 rfl ?_
  refine E_iconst (v := nI 1) dL_joined_136 (by decide) ?_
  refine E_iadd_n dL_joined_137 ?_
  refine E_istore dL_joined_138 (Nat.le_of_ble_eq_true rfl) (by decide) rfl ?_
  refine ph_L_joined (L := L) (a := i + 1) (e := two) (s := 0) (p := zT (gat L i)) (by omega) (fun k z1 z2 => by omega) (fun k z1 z2 => hm1 k (by omega) z2) (by omega) (by omega) (fun k z1 z2 => by have := bP k (by omega); omega) (by omega) (by omega) (fun M v16 h => ?_) (i + 1) (by omega) (Nat.le_refl _) M _ (by rw [upK_0 (fun j hj => pr_lo hj)]; exact h)
  obtain ⟨L1, e1⟩ : ∃ L1, L1 = prtL c f L (i + 1) two (nI 0) (nI (zT (gat L i))) := ⟨_, rfl⟩
  rw [← e1] at h
  have hl1 : L1.length = L.length := by rw [e1, prt_len]
  have hx1 : ∀ k, two ≤ k → k < L.length → gat L1 k = gat L k := fun k z1 z2 => by rw [e1]; exact prt_out z2 (Or.inr z1)
  have hc1 : yC (gat L1 two) < 16 := by rw [hx1 two (Nat.le_refl _) (by omega)]; omega
  have hL := h.lay
  have hn := h.len
  have key : ∀ lo mo M v16, lX c f M0 pw L1 w z M → lo = min (yC (gat L i)) (yC (gat L two)) → mo = max (yC (gat L i)) (yC (gat L two)) → E g 5 0 0 mL_joined 273 [.ref (pw + 1), .ref 130, .ref 132, .ref 133, .int (nI (8 * f + l)), .int (nI i), .int b, .int cc, .int (nI d0), .int (nI two), .int (nI two), .int (nI (0 + zT (gat L i))), .int (nI (zT (gat L1 two))), .int (nI lo), .int (nI mo), .int (nI two), .int v16] [] M Q := by
    intro lo mo M v16 h elo emo
    have hL := h.lay
    have hn := h.len
    rw [Nat.zero_add, hx1 two (by omega) (by omega)]
    refine E_iinc_n (d := 1) dL_joined_273 rfl rfl rfl (by decide) rfl ?_
    refine E_goto (tgt := 140) dL_joined_276 (by decide) ?_
    have he := bhm_sp (c := c) (f := f) (L := L1) (a := two + 1) (by omega)
    refine ph_L_joined (L := L1) (a := two + 1) (e := bhm c f L1 (two + 1)) (s := zT (gat L i)) (p := zT (gat L two)) he.2.1 (fun k z1 z2 => by omega) he.2.2.2 (by omega) (by omega) (fun k z1 z2 => by rw [hx1 k (by omega) (by omega)]; have := bP k (by omega); omega) (by omega) (by omega) (fun M v16 h => ?_) (two + 1) he.1 (Nat.le_refl _) M _ (by rw [upK_0 (fun j hj => pr_lo hj)]; exact h)
    have hL := h.lay
    have hn := h.len
    have hlz : (prtL c f L1 (two + 1) (bhm c f L1 (two + 1)) (nI (zT (gat L i))) (nI (zT (gat L two)))).length = L.length := by rw [prt_len]; exact hl1
    have fin : ∀ v15 v16 M, lX c f M0 pw (prtL c f L1 (two + 1) (bhm c f L1 (two + 1)) (nI (zT (gat L i))) (nI (zT (gat L two)))) w z M → E g 5 0 0 mL_joined 279 [.ref (pw + 1), .ref 130, .ref 132, .ref 133, .int (nI (8 * f + l)), .int (nI i), .int b, .int cc, .int (nI d0), .int (nI two), .int (nI two), .int (nI (zT (gat L i))), .int (nI (zT (gat L two))), .int (nI lo), .int (nI mo), v15, v16] [] M Q := by
      intro v15 v16 M h
      refine tl2_L_joined (by omega) (by omega) h1 (by omega) hd (by omega) (by omega) (fun M h => ?_) M v15 v16 h
      rw [← jn2_z ho h1 (by omega) e1 rfl elo emo] at h
      exact K M h
    by_cases hee : bhm c f L1 (two + 1) < L.length
    · have hq := he.2.2.1 (by omega)
      have hnn : yN (gat (prtL c f L1 (two + 1) (bhm c f L1 (two + 1)) (nI (zT (gat L i))) (nI (zT (gat L two)))) (bhm c f L1 (two + 1))) = yN (gat L1 (bhm c f L1 (two + 1))) := (prt_N (by omega)).1
      have hm9 := pEf_b h.wf f (yN (gat (prtL c f L1 (two + 1) (bhm c f L1 (two + 1)) (nI (zT (gat L i))) (nI (zT (gat L two)))) (bhm c f L1 (two + 1))))
      refine E_iload dL_joined_140 rfl ?_
      refine E_aload_n dL_joined_142 rfl ?_
      refine E_iconst (v := nI 5) dL_joined_143 (by decide) ?_
      refine E_ialdL (v := nI (List.length _)) dL_joined_144 (l_132 hL) (k_132 hL) rfl (by omega) (by decide) h.a5 ?_
      refine E_icmp_ge_n (tgt := 279) dL_joined_145 (by decide) (by omega) (by omega) (fun e_145 => ?_) (fun e_145 => ?_)
      · first
          | exact fin _ _ _ h
          | (exfalso; omega)
      · refine E_iload dL_joined_148 rfl ?_
        refine E_iload dL_joined_150 rfl ?_
        refine E_icmp_eq (tgt := 162) dL_joined_152 (by decide) (fun c0 => absurd c0 (by rw [nI_eq (by omega) (by omega)]; omega)) (fun _ => ?_)
        refine E_iload dL_joined_155 rfl ?_
        refine E_iload dL_joined_157 rfl ?_
        refine E_icmp_ne (tgt := 230) dL_joined_159 (by decide) (fun _ => ?_) (fun c0 => absurd (by rw [nI_eq (by omega) (by omega)]; omega) c0)
        refine E_aload_n dL_joined_230 rfl ?_
        refine E_aload_n dL_joined_231 rfl ?_
        refine E_bipush (v := nI 6) dL_joined_232 (by decide) ?_
        refine E_ialdL (v := nI _) dL_joined_234 (l_132 hL) (k_132 hL) rfl (by omega) (by decide) h.a6 ?_
        refine E_aload_n dL_joined_235 rfl ?_
        refine E_iload dL_joined_236 rfl ?_
        refine E_laldL (v := pk _) dL_joined_238 h.plt h.pkd rfl (by omega) (by decide) (h.wk (by omega)) ?_
        refine E_callT1 (fr' := 1) (k1 := 0) (n1 := 0) (k2 := 0) (n2 := 0) dL_joined_239 kO_L_glyphOf kL_L_108 (by exact Nat.le_of_ble_eq_true rfl) (by decide) (by exact Nat.le_of_ble_eq_true rfl) (Or.inl rfl) rfl ?_
        refine sp_L_glyphOf (h.ok (by omega)) ?_
        refine gKv ?_
        refine E_callT3 (fr' := 2) (k1 := 0) (n1 := 0) (k2 := 0) (n2 := 0) dL_joined_242 kO_L_mark kL_L_112 (by exact Nat.le_of_ble_eq_true rfl) (by decide) (by exact Nat.le_of_ble_eq_true rfl) (Or.inl rfl) rfl ?_
        refine sp_L_mark (by first | exact h | exact h.S) hf (by first | assumption | exact h.gl (by omega)) ?_
        refine gKv ?_
        refine E_if_lt_d (tgt := 263) dL_joined_245 (by decide) (by omega) (fun e_245 => ?_) (fun e_245 => ?_)
        · refine E_iload dL_joined_263 rfl ?_
          refine E_iload dL_joined_265 rfl ?_
          refine E_icmp_le_n (tgt := 273) dL_joined_267 (by decide) (by omega) (by omega) (fun e_267 => ?_) (fun e_267 => ?_)
          · exfalso; omega
          · refine E_goto (tgt := 279) dL_joined_270 (by decide) ?_
            first
              | exact fin _ _ _ h
              | (exfalso; omega)
        · exfalso; rw [hnn] at e_245; omega
    · refine E_iload dL_joined_140 rfl ?_
      refine E_aload_n dL_joined_142 rfl ?_
      refine E_iconst (v := nI 5) dL_joined_143 (by decide) ?_
      refine E_ialdL (v := nI (List.length _)) dL_joined_144 (l_132 hL) (k_132 hL) rfl (by omega) (by decide) h.a5 ?_
      refine E_icmp_ge_n (tgt := 279) dL_joined_145 (by decide) (by omega) (by omega) (fun e_145 => ?_) (fun e_145 => ?_)
      · exact fin _ _ _ h
      · exfalso; omega
  refine E_iload dL_joined_140 rfl ?_
  refine E_aload_n dL_joined_142 rfl ?_
  refine E_iconst (v := nI 5) dL_joined_143 (by decide) ?_
  refine E_ialdL (v := nI (List.length _)) dL_joined_144 (l_132 hL) (k_132 hL) rfl (by omega) (by decide) h.a5 ?_
  refine E_icmp_ge_n (tgt := 279) dL_joined_145 (by decide) (by omega) (by omega) (fun c_145 => ?_) (fun c_145 => ?_)
  · exfalso; omega
  · refine E_iload dL_joined_148 rfl ?_
    refine E_iload dL_joined_150 rfl ?_
    refine E_icmp_eq (tgt := 162) dL_joined_152 (by decide) (fun _ => ?_) (fun c0 => absurd rfl c0)
    refine E_iload dL_joined_162 rfl ?_
    refine E_iload dL_joined_164 rfl ?_
    refine E_iadd_n dL_joined_166 ?_
    refine E_istore dL_joined_167 (Nat.le_of_ble_eq_true rfl) (by decide) rfl ?_
    refine E_aload_n dL_joined_169 rfl ?_
    refine E_iload dL_joined_170 rfl ?_
    refine E_laldL (v := pk _) dL_joined_172 h.plt h.pkd rfl (by omega) (by decide) (h.wk (by omega)) ?_
    refine E_bipush (v := nI 35) dL_joined_173 (by decide) ?_
    refine E_ldc (v := nI 262143) dL_joined_175 (gW_at 759 (by decide +kernel) (by decide +kernel)) ?_
    refine E_callT3 (fr' := 1) (k1 := 0) (n1 := 0) (k2 := 0) (n2 := 0) dL_joined_177 kO_L_part kL_L_116 (by exact Nat.le_of_ble_eq_true rfl) (by decide) (by exact Nat.le_of_ble_eq_true rfl) (Or.inl rfl) rfl ?_
    refine sp_L_part_T (h.ok (by omega)) ?_
    refine gKv ?_
    refine E_istore dL_joined_180 (Nat.le_of_ble_eq_true rfl) (by decide) rfl ?_
    refine E_aload_n dL_joined_182 rfl ?_
    refine E_iload dL_joined_183 rfl ?_
    refine E_laldL (v := pk _) dL_joined_185 h.plt h.pkd rfl (by omega) (by decide) (h.wk (by omega)) ?_
    refine E_bipush (v := nI 8) dL_joined_186 (by decide) ?_
    refine E_bipush (v := nI 15) dL_joined_188 (by decide) ?_
    refine E_callT3 (fr' := 1) (k1 := 0) (n1 := 0) (k2 := 0) (n2 := 0) dL_joined_190 kO_L_part kL_L_116 (by exact Nat.le_of_ble_eq_true rfl) (by decide) (by exact Nat.le_of_ble_eq_true rfl) (Or.inl rfl) rfl ?_
    refine sp_L_part_C (h.ok (by omega)) ?_
    refine gKv ?_
    refine E_istore dL_joined_193 (Nat.le_of_ble_eq_true rfl) (by decide) rfl ?_
    refine E_iload dL_joined_195 rfl ?_
    refine E_iload dL_joined_197 rfl ?_
    refine E_icmp_ge_n (tgt := 207) dL_joined_199 (by decide) (by omega) (by omega) (fun c_199 => ?_) (fun c_199 => ?_)
    · refine E_iload dL_joined_207 rfl ?_
      refine E_istore dL_joined_209 (Nat.le_of_ble_eq_true rfl) (by decide) rfl ?_
      refine E_iload dL_joined_211 rfl ?_
      refine E_iload dL_joined_213 rfl ?_
      refine E_icmp_le_n (tgt := 223) dL_joined_215 (by decide) (by omega) (by omega) (fun c_215 => ?_) (fun c_215 => ?_)
      · refine E_iload dL_joined_223 rfl ?_
        refine E_istore dL_joined_225 (Nat.le_of_ble_eq_true rfl) (by decide) rfl ?_
        refine E_goto (tgt := 273) dL_joined_227 (by decide) ?_
        exact key _ _ M _ h (by rw [← hx1 two (by omega) (by omega)]; omega) (by rw [← hx1 two (by omega) (by omega)]; omega)
      · refine E_iload dL_joined_218 rfl ?_
        refine E_goto (tgt := 225) dL_joined_220 (by decide) ?_
        refine E_istore dL_joined_225 (Nat.le_of_ble_eq_true rfl) (by decide) rfl ?_
        refine E_goto (tgt := 273) dL_joined_227 (by decide) ?_
        exact key _ _ M _ h (by rw [← hx1 two (by omega) (by omega)]; omega) (by rw [← hx1 two (by omega) (by omega)]; omega)
    · refine E_iload dL_joined_202 rfl ?_
      refine E_goto (tgt := 209) dL_joined_204 (by decide) ?_
      refine E_istore dL_joined_209 (Nat.le_of_ble_eq_true rfl) (by decide) rfl ?_
      refine E_iload dL_joined_211 rfl ?_
      refine E_iload dL_joined_213 rfl ?_
      refine E_icmp_le_n (tgt := 223) dL_joined_215 (by decide) (by omega) (by omega) (fun c_215 => ?_) (fun c_215 => ?_)
      · refine E_iload dL_joined_223 rfl ?_
        refine E_istore dL_joined_225 (Nat.le_of_ble_eq_true rfl) (by decide) rfl ?_
        refine E_goto (tgt := 273) dL_joined_227 (by decide) ?_
        exact key _ _ M _ h (by rw [← hx1 two (by omega) (by omega)]; omega) (by rw [← hx1 two (by omega) (by omega)]; omega)
      · refine E_iload dL_joined_218 rfl ?_
        refine E_goto (tgt := 225) dL_joined_220 (by decide) ?_
        refine E_istore dL_joined_225 (Nat.le_of_ble_eq_true rfl) (by decide) rfl ?_
        refine E_goto (tgt := 273) dL_joined_227 (by decide) ?_
        exact key _ _ M _ h (by rw [← hx1 two (by omega) (by omega)]; omega) (by rw [← hx1 two (by omega) (by omega)]; omega)
set_option maxRecDepth 100000 in
set_option maxHeartbeats 4000000 in
theorem md3_L_joined {g : gG} {M : gM} {Q : Option Value ⊕ String → gM → Prop} {c : Cf} {f : Nat} {M0 : gM} {pw : Nat} {L : List Gl} {w z : Int32} (h : lX c f M0 pw L w z M) {l i two three d0 : Nat} {b cc : Int32} {B : Nat} (bd : bdJ B i L) (h1 : i < two) (h2 : two < three) (h3 : three < L.length) (hm2 : ∀ k, two < k → k < three → 0 < cN c 137 (256 * f + yN (gat L k))) (hm1 : ∀ k, i < k → k < two → 0 < cN c 137 (256 * f + yN (gat L k))) (hd : glZ d0) (K : ∀ M, lX c f M0 pw (jn3 c f L i two three d0) (wTk (wTk w three i) two i) z M → Q (.inl (some (.int (nI 1)))) M) : E g 5 0 0 mL_joined 101 [.ref (pw + 1), .ref 130, .ref 132, .ref 133, .int (nI (8 * f + l)), .int (nI i), .int b, .int cc, .int (nI d0), .int (nI two), .int (nI three), .null, .null, .null, .null, .null, .null] [] M Q := by
  have hL := h.lay
  have hf := h.f2
  have hn := h.len
  have hct := h.ct
  have ho := h.2
  have o1 := h.ok (i := i) (by omega)
  have o2 := h.ok (i := two) (by omega)
  have b1 := o1.b
  have b2 := o2.b
  have p1 := zT_pos o1
  have p2 := zT_pos o2
  obtain ⟨bB, bT, bP⟩ := bd
  have t1 := bT i (Nat.le_refl _) (by omega)
  have t2 := bT two (by omega) (by omega)
  have o3 := h.ok (i := three) (by omega)
  have b3 := o3.b
  have p3 := zT_pos o3
  have t3 := bT three (by omega) (by omega)
  refine E_iconst (v := nI 0) dL_joined_101 (by decide) ?_
  refine E_istore dL_joined_102 (Nat.le_of_ble_eq_true rfl) (by decide) rfl ?_
  refine E_aload_n dL_joined_104 rfl ?_
  refine E_iload dL_joined_105 rfl ?_
  refine E_laldL (v := pk _) dL_joined_107 h.plt h.pkd rfl (by omega) (by decide) (h.wk (by omega)) ?_
  refine E_bipush (v := nI 35) dL_joined_108 (by decide) ?_
  refine E_ldc (v := nI 262143) dL_joined_110 (gW_at 759 (by decide +kernel) (by decide +kernel)) ?_
  refine E_callT3 (fr' := 1) (k1 := 0) (n1 := 0) (k2 := 0) (n2 := 0) dL_joined_112 kO_L_part kL_L_116 (by exact Nat.le_of_ble_eq_true rfl) (by decide) (by exact Nat.le_of_ble_eq_true rfl) (Or.inl rfl) rfl ?_
  refine sp_L_part_T (h.ok (by omega)) ?_
  refine gKv ?_
  refine E_istore dL_joined_115 (Nat.le_of_ble_eq_true rfl) (by decide) rfl ?_
  refine E_aload_n dL_joined_117 rfl ?_
  refine E_iload dL_joined_118 rfl ?_
  refine E_laldL (v := pk _) dL_joined_120 h.plt h.pkd rfl (by omega) (by decide) (h.wk (by omega)) ?_
  refine E_bipush (v := nI 8) dL_joined_121 (by decide) ?_
  refine E_bipush (v := nI 15) dL_joined_123 (by decide) ?_
  refine E_callT3 (fr' := 1) (k1 := 0) (n1 := 0) (k2 := 0) (n2 := 0) dL_joined_125 kO_L_part kL_L_116 (by exact Nat.le_of_ble_eq_true rfl) (by decide) (by exact Nat.le_of_ble_eq_true rfl) (Or.inl rfl) rfl ?_
  refine sp_L_part_C (h.ok (by omega)) ?_
  refine gKv ?_
  refine E_istore dL_joined_128 (Nat.le_of_ble_eq_true rfl) (by decide) rfl ?_
  refine E_iload dL_joined_130 rfl ?_
  refine E_istore dL_joined_132 (Nat.le_of_ble_eq_true rfl) (by decide) rfl ?_
  refine E_iload dL_joined_134 rfl ?_
  refine E_iconst (v := nI 1) dL_joined_136 (by decide) ?_
  refine E_iadd_n dL_joined_137 ?_
  refine E_istore dL_joined_138 (Nat.le_of_ble_eq_true rfl) (by decide) rfl ?_
  refine ph_L_joined (L := L) (a := i + 1) (e := two) (s := 0) (p := zT (gat L i)) (by omega) (fun k z1 z2 => by omega) (fun k z1 z2 => hm1 k (by omega) z2) (by omega) (by omega) (fun k z1 z2 => by have := bP k (by omega); omega) (by omega) (by omega) (fun M v16 h => ?_) (i + 1) (by omega) (Nat.le_refl _) M _ (by rw [upK_0 (fun j hj => pr_lo hj)]; exact h)
  obtain ⟨L1, e1⟩ : ∃ L1, L1 = prtL c f L (i + 1) two (nI 0) (nI (zT (gat L i))) := ⟨_, rfl⟩
  rw [← e1] at h
  have hl1 : L1.length = L.length := by rw [e1, prt_len]
  have hx1 : ∀ k, two ≤ k → k < L.length → gat L1 k = gat L k := fun k z1 z2 => by rw [e1]; exact prt_out z2 (Or.inr z1)
  have hc1 : yC (gat L1 two) < 16 := by rw [hx1 two (Nat.le_refl _) (by omega)]; omega
  have hL := h.lay
  have hn := h.len
  have key : ∀ lo mo M v16, lX c f M0 pw L1 w z M → lo = min (yC (gat L i)) (yC (gat L two)) → mo = max (yC (gat L i)) (yC (gat L two)) → E g 5 0 0 mL_joined 273 [.ref (pw + 1), .ref 130, .ref 132, .ref 133, .int (nI (8 * f + l)), .int (nI i), .int b, .int cc, .int (nI d0), .int (nI two), .int (nI three), .int (nI (0 + zT (gat L i))), .int (nI (zT (gat L1 two))), .int (nI lo), .int (nI mo), .int (nI two), .int v16] [] M Q := by
    intro lo mo M v16 h elo emo
    have hL := h.lay
    have hn := h.len
    rw [Nat.zero_add, hx1 two (by omega) (by omega)]
    refine E_iinc_n (d := 1) dL_joined_273 rfl rfl rfl (by decide) rfl ?_
    refine E_goto (tgt := 140) dL_joined_276 (by decide) ?_
    refine ph_L_joined (L := L1) (a := two + 1) (e := three) (s := zT (gat L i)) (p := zT (gat L two)) (by omega) (fun k z1 z2 => by omega) (fun k z1 z2 => by rw [hx1 k (by omega) (by omega)]; exact hm2 k (by omega) z2) (by omega) (by omega) (fun k z1 z2 => by rw [hx1 k (by omega) (by omega)]; have := bP k (by omega); omega) (by omega) (by omega) (fun M v16 h => ?_) (two + 1) (by omega) (Nat.le_refl _) M _ (by rw [upK_0 (fun j hj => pr_lo hj)]; exact h)
    obtain ⟨L2, e2⟩ : ∃ L2, L2 = prtL c f L1 (two + 1) three (nI (zT (gat L i))) (nI (zT (gat L two))) := ⟨_, rfl⟩
    rw [← e2] at h
    have hl2 : L2.length = L.length := by rw [e2, prt_len, hl1]
    have hx2 : ∀ k, three ≤ k → k < L.length → gat L2 k = gat L k := fun k z1 z2 => by rw [e2, prt_out (by omega) (Or.inr z1)]; exact hx1 k (by omega) z2
    have hc2 : yC (gat L2 three) < 16 := by rw [hx2 three (Nat.le_refl _) (by omega)]; omega
    have hL := h.lay
    have hn := h.len
    obtain ⟨lo0, elo0⟩ : ∃ q, q = lo := ⟨_, rfl⟩
    obtain ⟨mo0, emo0⟩ : ∃ q, q = mo := ⟨_, rfl⟩
    rw [← elo0, ← emo0]
    have key : ∀ lo mo M v16, lX c f M0 pw L2 w z M → lo = min lo0 (yC (gat L three)) → mo = max mo0 (yC (gat L three)) → E g 5 0 0 mL_joined 273 [.ref (pw + 1), .ref 130, .ref 132, .ref 133, .int (nI (8 * f + l)), .int (nI i), .int b, .int cc, .int (nI d0), .int (nI two), .int (nI three), .int (nI (zT (gat L i) + zT (gat L two))), .int (nI (zT (gat L2 three))), .int (nI lo), .int (nI mo), .int (nI three), .int v16] [] M Q := by
      intro lo mo M v16 h elo9 emo9
      have elo : lo = min (min (yC (gat L i)) (yC (gat L two))) (yC (gat L three)) := by omega
      have emo : mo = max (max (yC (gat L i)) (yC (gat L two))) (yC (gat L three)) := by omega
      clear elo9 emo9
      have hL := h.lay
      have hn := h.len
      rw [hx2 three (by omega) (by omega)]
      refine E_iinc_n (d := 1) dL_joined_273 rfl rfl rfl (by decide) rfl ?_
      refine E_goto (tgt := 140) dL_joined_276 (by decide) ?_
      have he := bhm_sp (c := c) (f := f) (L := L2) (a := three + 1) (by omega)
      refine ph_L_joined (L := L2) (a := three + 1) (e := bhm c f L2 (three + 1)) (s := zT (gat L i) + zT (gat L two)) (p := zT (gat L three)) he.2.1 (fun k z1 z2 => by omega) he.2.2.2 (by omega) (by omega) (fun k z1 z2 => by rw [hx2 k (by omega) (by omega)]; have := bP k (by omega); omega) (by omega) (by omega) (fun M v16 h => ?_) (three + 1) he.1 (Nat.le_refl _) M _ (by rw [upK_0 (fun j hj => pr_lo hj)]; exact h)
      have hL := h.lay
      have hn := h.len
      have hlz : (prtL c f L2 (three + 1) (bhm c f L2 (three + 1)) (nI (zT (gat L i) + zT (gat L two))) (nI (zT (gat L three)))).length = L.length := by rw [prt_len]; exact hl2
      have fin : ∀ v15 v16 M, lX c f M0 pw (prtL c f L2 (three + 1) (bhm c f L2 (three + 1)) (nI (zT (gat L i) + zT (gat L two))) (nI (zT (gat L three)))) w z M → E g 5 0 0 mL_joined 279 [.ref (pw + 1), .ref 130, .ref 132, .ref 133, .int (nI (8 * f + l)), .int (nI i), .int b, .int cc, .int (nI d0), .int (nI two), .int (nI three), .int (nI (zT (gat L i) + zT (gat L two))), .int (nI (zT (gat L three))), .int (nI lo), .int (nI mo), v15, v16] [] M Q := by
        intro v15 v16 M h
        refine tl3_L_joined (by omega) (by omega) h1 h2 (by omega) hd (by omega) (by omega) (fun M h => ?_) M v15 v16 h
        rw [← jn3_z ho h1 h2 h3 e1 e2 rfl elo emo] at h
        exact K M h
      by_cases hee : bhm c f L2 (three + 1) < L.length
      · have hq := he.2.2.1 (by omega)
        have hnn : yN (gat (prtL c f L2 (three + 1) (bhm c f L2 (three + 1)) (nI (zT (gat L i) + zT (gat L two))) (nI (zT (gat L three)))) (bhm c f L2 (three + 1))) = yN (gat L2 (bhm c f L2 (three + 1))) := (prt_N (by omega)).1
        have hm9 := pEf_b h.wf f (yN (gat (prtL c f L2 (three + 1) (bhm c f L2 (three + 1)) (nI (zT (gat L i) + zT (gat L two))) (nI (zT (gat L three)))) (bhm c f L2 (three + 1))))
        refine E_iload dL_joined_140 rfl ?_
        refine E_aload_n dL_joined_142 rfl ?_
        refine E_iconst (v := nI 5) dL_joined_143 (by decide) ?_
        refine E_ialdL (v := nI (List.length _)) dL_joined_144 (l_132 hL) (k_132 hL) rfl (by omega) (by decide) h.a5 ?_
        refine E_icmp_ge_n (tgt := 279) dL_joined_145 (by decide) (by omega) (by omega) (fun e_145 => ?_) (fun e_145 => ?_)
        · first
            | exact fin _ _ _ h
            | (exfalso; omega)
        · refine E_iload dL_joined_148 rfl ?_
          refine E_iload dL_joined_150 rfl ?_
          refine E_icmp_eq (tgt := 162) dL_joined_152 (by decide) (fun c0 => absurd c0 (by rw [nI_eq (by omega) (by omega)]; omega)) (fun _ => ?_)
          refine E_iload dL_joined_155 rfl ?_
          refine E_iload dL_joined_157 rfl ?_
          refine E_icmp_ne (tgt := 230) dL_joined_159 (by decide) (fun _ => ?_) (fun c0 => absurd (by rw [nI_eq (by omega) (by omega)]; omega) c0)
          refine E_aload_n dL_joined_230 rfl ?_
          refine E_aload_n dL_joined_231 rfl ?_
          refine E_bipush (v := nI 6) dL_joined_232 (by decide) ?_
          refine E_ialdL (v := nI _) dL_joined_234 (l_132 hL) (k_132 hL) rfl (by omega) (by decide) h.a6 ?_
          refine E_aload_n dL_joined_235 rfl ?_
          refine E_iload dL_joined_236 rfl ?_
          refine E_laldL (v := pk _) dL_joined_238 h.plt h.pkd rfl (by omega) (by decide) (h.wk (by omega)) ?_
          refine E_callT1 (fr' := 1) (k1 := 0) (n1 := 0) (k2 := 0) (n2 := 0) dL_joined_239 kO_L_glyphOf kL_L_108 (by exact Nat.le_of_ble_eq_true rfl) (by decide) (by exact Nat.le_of_ble_eq_true rfl) (Or.inl rfl) rfl ?_
          refine sp_L_glyphOf (h.ok (by omega)) ?_
          refine gKv ?_
          refine E_callT3 (fr' := 2) (k1 := 0) (n1 := 0) (k2 := 0) (n2 := 0) dL_joined_242 kO_L_mark kL_L_112 (by exact Nat.le_of_ble_eq_true rfl) (by decide) (by exact Nat.le_of_ble_eq_true rfl) (Or.inl rfl) rfl ?_
          refine sp_L_mark (by first | exact h | exact h.S) hf (by first | assumption | exact h.gl (by omega)) ?_
          refine gKv ?_
          refine E_if_lt_d (tgt := 263) dL_joined_245 (by decide) (by omega) (fun e_245 => ?_) (fun e_245 => ?_)
          · refine E_iload dL_joined_263 rfl ?_
            refine E_iload dL_joined_265 rfl ?_
            refine E_icmp_le_n (tgt := 273) dL_joined_267 (by decide) (by omega) (by omega) (fun e_267 => ?_) (fun e_267 => ?_)
            · exfalso; omega
            · refine E_goto (tgt := 279) dL_joined_270 (by decide) ?_
              first
                | exact fin _ _ _ h
                | (exfalso; omega)
          · exfalso; rw [hnn] at e_245; omega
      · refine E_iload dL_joined_140 rfl ?_
        refine E_aload_n dL_joined_142 rfl ?_
        refine E_iconst (v := nI 5) dL_joined_143 (by decide) ?_
        refine E_ialdL (v := nI (List.length _)) dL_joined_144 (l_132 hL) (k_132 hL) rfl (by omega) (by decide) h.a5 ?_
        refine E_icmp_ge_n (tgt := 279) dL_joined_145 (by decide) (by omega) (by omega) (fun e_145 => ?_) (fun e_145 => ?_)
        · exact fin _ _ _ h
        · exfalso; omega
    refine E_iload dL_joined_140 rfl ?_
    refine E_aload_n dL_joined_142 rfl ?_
    refine E_iconst (v := nI 5) dL_joined_143 (by decide) ?_
    refine E_ialdL (v := nI (List.length _)) dL_joined_144 (l_132 hL) (k_132 hL) rfl (by omega) (by decide) h.a5 ?_
    refine E_icmp_ge_n (tgt := 279) dL_joined_145 (by decide) (by omega) (by omega) (fun g_145 => ?_) (fun g_145 => ?_)
    · exfalso; omega
    · refine E_iload dL_joined_148 rfl ?_
      refine E_iload dL_joined_150 rfl ?_
      refine E_icmp_eq (tgt := 162) dL_joined_152 (by decide) (fun c0 => absurd c0 (by rw [nI_eq (by omega) (by omega)]; omega)) (fun _ => ?_)
      refine E_iload dL_joined_155 rfl ?_
      refine E_iload dL_joined_157 rfl ?_
      refine E_icmp_ne (tgt := 230) dL_joined_159 (by decide) (fun c0 => absurd c0 (fun q => q rfl)) (fun _ => ?_)
      refine E_iload dL_joined_162 rfl ?_
      refine E_iload dL_joined_164 rfl ?_
      refine E_iadd_n dL_joined_166 ?_
      refine E_istore dL_joined_167 (Nat.le_of_ble_eq_true rfl) (by decide) rfl ?_
      refine E_aload_n dL_joined_169 rfl ?_
      refine E_iload dL_joined_170 rfl ?_
      refine E_laldL (v := pk _) dL_joined_172 h.plt h.pkd rfl (by omega) (by decide) (h.wk (by omega)) ?_
      refine E_bipush (v := nI 35) dL_joined_173 (by decide) ?_
      refine E_ldc (v := nI 262143) dL_joined_175 (gW_at 759 (by decide +kernel) (by decide +kernel)) ?_
      refine E_callT3 (fr' := 1) (k1 := 0) (n1 := 0) (k2 := 0) (n2 := 0) dL_joined_177 kO_L_part kL_L_116 (by exact Nat.le_of_ble_eq_true rfl) (by decide) (by exact Nat.le_of_ble_eq_true rfl) (Or.inl rfl) rfl ?_
      refine sp_L_part_T (h.ok (by omega)) ?_
      refine gKv ?_
      refine E_istore dL_joined_180 (Nat.le_of_ble_eq_true rfl) (by decide) rfl ?_
      refine E_aload_n dL_joined_182 rfl ?_
      refine E_iload dL_joined_183 rfl ?_
      refine E_laldL (v := pk _) dL_joined_185 h.plt h.pkd rfl (by omega) (by decide) (h.wk (by omega)) ?_
      refine E_bipush (v := nI 8) dL_joined_186 (by decide) ?_
      refine E_bipush (v := nI 15) dL_joined_188 (by decide) ?_
      refine E_callT3 (fr' := 1) (k1 := 0) (n1 := 0) (k2 := 0) (n2 := 0) dL_joined_190 kO_L_part kL_L_116 (by exact Nat.le_of_ble_eq_true rfl) (by decide) (by exact Nat.le_of_ble_eq_true rfl) (Or.inl rfl) rfl ?_
      refine sp_L_part_C (h.ok (by omega)) ?_
      refine gKv ?_
      refine E_istore dL_joined_193 (Nat.le_of_ble_eq_true rfl) (by decide) rfl ?_
      refine E_iload dL_joined_195 rfl ?_
      refine E_iload dL_joined_197 rfl ?_
      refine E_icmp_ge_n (tgt := 207) dL_joined_199 (by decide) (by omega) (by omega) (fun g_199 => ?_) (fun g_199 => ?_)
      · refine E_iload dL_joined_207 rfl ?_
        refine E_istore dL_joined_209 (Nat.le_of_ble_eq_true rfl) (by decide) rfl ?_
        refine E_iload dL_joined_211 rfl ?_
        refine E_iload dL_joined_213 rfl ?_
        refine E_icmp_le_n (tgt := 223) dL_joined_215 (by decide) (by omega) (by omega) (fun g_215 => ?_) (fun g_215 => ?_)
        · refine E_iload dL_joined_223 rfl ?_
          refine E_istore dL_joined_225 (Nat.le_of_ble_eq_true rfl) (by decide) rfl ?_
          refine E_goto (tgt := 273) dL_joined_227 (by decide) ?_
          exact key _ _ M _ h (by rw [← hx2 three (by omega) (by omega)]; omega) (by rw [← hx2 three (by omega) (by omega)]; omega)
        · refine E_iload dL_joined_218 rfl ?_
          refine E_goto (tgt := 225) dL_joined_220 (by decide) ?_
          refine E_istore dL_joined_225 (Nat.le_of_ble_eq_true rfl) (by decide) rfl ?_
          refine E_goto (tgt := 273) dL_joined_227 (by decide) ?_
          exact key _ _ M _ h (by rw [← hx2 three (by omega) (by omega)]; omega) (by rw [← hx2 three (by omega) (by omega)]; omega)
      · refine E_iload dL_joined_202 rfl ?_
        refine E_goto (tgt := 209) dL_joined_204 (by decide) ?_
        refine E_istore dL_joined_209 (Nat.le_of_ble_eq_true rfl) (by decide) rfl ?_
        refine E_iload dL_joined_211 rfl ?_
        refine E_iload dL_joined_213 rfl ?_
        refine E_icmp_le_n (tgt := 223) dL_joined_215 (by decide) (by omega) (by omega) (fun g_215 => ?_) (fun g_215 => ?_)
        · refine E_iload dL_joined_223 rfl ?_
          refine E_istore dL_joined_225 (Nat.le_of_ble_eq_true rfl) (by decide) rfl ?_
          refine E_goto (tgt := 273) dL_joined_227 (by decide) ?_
          exact key _ _ M _ h (by rw [← hx2 three (by omega) (by omega)]; omega) (by rw [← hx2 three (by omega) (by omega)]; omega)
        · refine E_iload dL_joined_218 rfl ?_
          refine E_goto (tgt := 225) dL_joined_220 (by decide) ?_
          refine E_istore dL_joined_225 (Nat.le_of_ble_eq_true rfl) (by decide) rfl ?_
          refine E_goto (tgt := 273) dL_joined_227 (by decide) ?_
          exact key _ _ M _ h (by rw [← hx2 three (by omega) (by omega)]; omega) (by rw [← hx2 three (by omega) (by omega)]; omega)
  refine E_iload dL_joined_140 rfl ?_
  refine E_aload_n dL_joined_142 rfl ?_
  refine E_iconst (v := nI 5) dL_joined_143 (by decide) ?_
  refine E_ialdL (v := nI (List.length _)) dL_joined_144 (l_132 hL) (k_132 hL) rfl (by omega) (by decide) h.a5 ?_
  refine E_icmp_ge_n (tgt := 279) dL_joined_145 (by decide) (by omega) (by omega) (fun c_145 => ?_) (fun c_145 => ?_)
  · exfalso; omega
  · refine E_iload dL_joined_148 rfl ?_
    refine E_iload dL_joined_150 rfl ?_
    refine E_icmp_eq (tgt := 162) dL_joined_152 (by decide) (fun _ => ?_) (fun c0 => absurd rfl c0)
    refine E_iload dL_joined_162 rfl ?_
    refine E_iload dL_joined_164 rfl ?_
    refine E_iadd_n dL_joined_166 ?_
    refine E_istore dL_joined_167 (Nat.le_of_ble_eq_true rfl) (by decide) rfl ?_
    refine E_aload_n dL_joined_169 rfl ?_
    refine E_iload dL_joined_170 rfl ?_
    refine E_laldL (v := pk _) dL_joined_172 h.plt h.pkd rfl (by omega) (by decide) (h.wk (by omega)) ?_
    refine E_bipush (v := nI 35) dL_joined_173 (by decide) ?_
    refine E_ldc (v := nI 262143) dL_joined_175 (gW_at 759 (by decide +kernel) (by decide +kernel)) ?_
    refine E_callT3 (fr' := 1) (k1 := 0) (n1 := 0) (k2 := 0) (n2 := 0) dL_joined_177 kO_L_part kL_L_116 (by exact Nat.le_of_ble_eq_true rfl) (by decide) (by exact Nat.le_of_ble_eq_true rfl) (Or.inl rfl) rfl ?_
    refine sp_L_part_T (h.ok (by omega)) ?_
    refine gKv ?_
    refine E_istore dL_joined_180 (Nat.le_of_ble_eq_true rfl) (by decide) rfl ?_
    refine E_aload_n dL_joined_182 rfl ?_
    refine E_iload dL_joined_183 rfl ?_
    refine E_laldL (v := pk _) dL_joined_185 h.plt h.pkd rfl (by omega) (by decide) (h.wk (by omega)) ?_
    refine E_bipush (v := nI 8) dL_joined_186 (by decide) ?_
    refine E_bipush (v := nI 15) dL_joined_188 (by decide) ?_
    refine E_callT3 (fr' := 1) (k1 := 0) (n1 := 0) (k2 := 0) (n2 := 0) dL_joined_190 kO_L_part kL_L_116 (by exact Nat.le_of_ble_eq_true rfl) (by decide) (by exact Nat.le_of_ble_eq_true rfl) (Or.inl rfl) rfl ?_
    refine sp_L_part_C (h.ok (by omega)) ?_
    refine gKv ?_
    refine E_istore dL_joined_193 (Nat.le_of_ble_eq_true rfl) (by decide) rfl ?_
    refine E_iload dL_joined_195 rfl ?_
    refine E_iload dL_joined_197 rfl ?_
    refine E_icmp_ge_n (tgt := 207) dL_joined_199 (by decide) (by omega) (by omega) (fun c_199 => ?_) (fun c_199 => ?_)
    · refine E_iload dL_joined_207 rfl ?_
      refine E_istore dL_joined_209 (Nat.le_of_ble_eq_true rfl) (by decide) rfl ?_
      refine E_iload dL_joined_211 rfl ?_
      refine E_iload dL_joined_213 rfl ?_
      refine E_icmp_le_n (tgt := 223) dL_joined_215 (by decide) (by omega) (by omega) (fun c_215 => ?_) (fun c_215 => ?_)
      · refine E_iload dL_joined_223 rfl ?_
        refine E_istore dL_joined_225 (Nat.le_of_ble_eq_true rfl) (by decide) rfl ?_
        refine E_goto (tgt := 273) dL_joined_227 (by decide) ?_
        exact key _ _ M _ h (by rw [← hx1 two (by omega) (by omega)]; omega) (by rw [← hx1 two (by omega) (by omega)]; omega)
      · refine E_iload dL_joined_218 rfl ?_
        refine E_goto (tgt := 225) dL_joined_220 (by decide) ?_
        refine E_istore dL_joined_225 (Nat.le_of_ble_eq_true rfl) (by decide) rfl ?_
        refine E_goto (tgt := 273) dL_joined_227 (by decide) ?_
        exact key _ _ M _ h (by rw [← hx1 two (by omega) (by omega)]; omega) (by rw [← hx1 two (by omega) (by omega)]; omega)
    · refine E_iload dL_joined_202 rfl ?_
      refine E_goto (tgt := 209) dL_joined_204 (by decide) ?_
      refine E_istore dL_joined_209 (Nat.le_of_ble_eq_true rfl) (by decide) rfl ?_
      refine E_iload dL_joined_211 rfl ?_
      refine E_iload dL_joined_213 rfl ?_
      refine E_icmp_le_n (tgt := 223) dL_joined_215 (by decide) (by omega) (by omega) (fun c_215 => ?_) (fun c_215 => ?_)
      · refine E_iload dL_joined_223 rfl ?_
        refine E_istore dL_joined_225 (Nat.le_of_ble_eq_true rfl) (by decide) rfl ?_
        refine E_goto (tgt := 273) dL_joined_227 (by decide) ?_
        exact key _ _ M _ h (by rw [← hx1 two (by omega) (by omega)]; omega) (by rw [← hx1 two (by omega) (by omega)]; omega)
      · refine E_iload dL_joined_218 rfl ?_
        refine E_goto (tgt := 225) dL_joined_220 (by decide) ?_
        refine E_istore dL_joined_225 (Nat.le_of_ble_eq_true rfl) (by decide) rfl ?_
        refine E_goto (tgt := 273) dL_joined_227 (by decide) ?_
        exact key _ _ M _ h (by rw [← hx1 two (by omega) (by omega)]; omega) (by rw [← hx1 two (by omega) (by omega)]; omega)
