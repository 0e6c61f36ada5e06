/-! the law: a lookup told -/
theorem nxL_a {c : Cf} {f n : Nat} {p1 p2 p3 p4 p5 : Int32} {a j : Nat} : cN (nxL c f n p1 p2 p3 p4 p5) a j = if a = 129 ∧ j = f then n + 1 else if a = 135 ∧ j = 12 * f + n then 0 else if a = 134 ∧ j = 12 * f + n then gN p5 else if a = 133 ∧ j = 12 * f + n then gN p4 else if a = 132 ∧ j = 12 * f + n then gN p3 else if a = 131 ∧ j = 12 * f + n then gN p2 else if a = 130 ∧ j = 12 * f + n then gN p1 else cN c a j := id rfl
theorem nxL_ne {c : Cf} {f n : Nat} {p1 p2 p3 p4 p5 : Int32} {a j : Nat} (h : ¬ (a = 129 ∧ j = f)) (h2 : ¬ (130 ≤ a ∧ a ≤ 135 ∧ j = 12 * f + n)) : cN (nxL c f n p1 p2 p3 p4 p5) a j = cN c a j := by
  rw [nxL_a, if_neg h, if_neg (by omega), if_neg (by omega), if_neg (by omega), if_neg (by omega), if_neg (by omega), if_neg (by omega)]
theorem zS_look {c : Cf} {M : gM} (h : zS c M) {n kd ft sg tg sk : Nat} (hn : cN c 129 (fc0 c) = n) (h8 : n < 8) (b1 : kd < 10) (b2 : ft < 7) (b3 : sg < 2) (b4 : tg < 3) (b5 : sk < 6) :
    zS (nxL c (fc0 c) n (nI kd) (nI ft) (nI sg) (nI tg) (nI sk)) (sI (sI M 129 (8 * fc0 c + n) (nI (kd + 16 * ft + 128 * sg + 256 * tg + 1024 * sk))) 132 (3 + fc0 c) (nI (n + 1))) := by
  have hf0 : fc0 c < 2 := h.wf.1.1
  have hw' : WFc (nxL c (fc0 c) n (nI kd) (nI ft) (nI sg) (nI tg) (nI sk)) := nxL_wf h.wf ⟨in_n (by omega) (by decide), in_n (by omega) (by decide)⟩ ⟨in_n (by omega) (by decide), in_n (by omega) (by decide), in_n (by omega) (by decide)⟩ (by omega)
  have hb : ∀ a i, ¬ (129 ≤ a ∧ a ≤ 135) → cN (nxL c (fc0 c) n (nI kd) (nI ft) (nI sg) (nI tg) (nI sk)) a i = cN c a i := fun a i q => nxL_ne (by omega) (by omega)
  have hru : ∀ l k w, rul (nxL c (fc0 c) n (nI kd) (nI ft) (nI sg) (nI tg) (nI sk)) l k w = rul c l k w := fun _ _ _ => rfl
  have h135 : cN (nxL c (fc0 c) n (nI kd) (nI ft) (nI sg) (nI tg) (nI sk)) 135 (12 * fc0 c + n) = 0 := by rw [nxL_a, if_neg (by omega), if_pos ⟨rfl, rfl⟩]
  have hls : ∀ f i, f < 2 → i < cN (nxL c (fc0 c) n (nI kd) (nI ft) (nI sg) (nI tg) (nI sk)) 129 f → (f = fc0 c ∧ i = n) ∨ (i < cN c 129 f ∧ ¬ 12 * f + i = 12 * fc0 c + n ∧ ¬ 8 * f + i = 8 * fc0 c + n) := by
    intro f i hf hi
    have hct := h.ct hf
    by_cases e : f = fc0 c
    · rw [nxL_a, if_pos ⟨rfl, e⟩] at hi
      by_cases e2 : i = n
      · exact Or.inl ⟨e, e2⟩
      · refine Or.inr ⟨?_, ?_, ?_⟩
        · rw [e, hn]; omega
        · rw [e]; omega
        · rw [e]; omega
    · rw [nxL_ne (by omega) (by omega)] at hi
      exact Or.inr ⟨hi, by omega, by omega⟩
  have htl : tl (nxL c (fc0 c) n (nI kd) (nI ft) (nI sg) (nI tg) (nI sk)) = tl c := hb _ _ (by decide)
  refine ⟨h.lay.of (Nat.le_refl _) (fun _ _ => rfl) (fun _ _ => rfl), hw', ⟨fun f hf => ?_, fun i => ?_, ?_, fun k hk => ?_, fun i k hk => ?_, fun f v hf hv hg => ?_⟩, fun k hk => ?_, fun f i hf hi => ?_, fun f i k hf hi hk => ?_, fun v hv => ?_, ?_, ?_, ?_, fun f hf => ?_⟩
  · by_cases e : f = fc0 c
    · rw [nxL_a, if_pos ⟨rfl, e⟩]; omega
    · rw [nxL_ne (by omega) (by omega)]; exact h.ct hf
  · by_cases e : i = 12 * fc0 c + n
    · rw [e, h135]; decide
    · rw [nxL_ne (by omega) (by omega)]; exact h.r4 _
  · rw [htl]; exact h.t10
  · rw [hb _ _ (by decide)]; rw [htl] at hk; exact h.sg hk
  · by_cases e : i = 12 * fc0 c + n
    · rw [e, h135] at hk; exact absurd hk (Nat.not_lt_zero k)
    · rw [nxL_ne (by omega) (by omega)] at hk
      have := h.wz.2.2.2.2.1 i k hk
      refine ⟨fun w hw => by rw [hru]; exact this.1 w hw, ?_⟩
      rw [hru, hru, hru, nxL_ne (by omega) (by omega)]; exact this.2
  · rw [hb _ _ (by decide)]; exact h.wz.2.2.2.2.2 f v hf hv hg
  · rw [mI_ne (by decide), mI_ne (by decide)]
    rw [htl] at hk
    rw [h.tx hk]
    unfold tEn
    rw [hb _ _ (by decide), hb _ _ (by decide)]
  · rw [mI_ne (by decide)]
    rcases hls f i hf hi with ⟨rfl, rfl⟩ | ⟨e1, e2, e3⟩
    · rw [mI_eq]
      unfold mEn
      rw [h135]
      rw [nxL_a, if_neg (by omega), if_neg (by omega), if_neg (by omega), if_neg (by omega), if_neg (by omega), if_neg (by omega), if_pos ⟨rfl, rfl⟩, gN_nI (by omega)]
      rw [nxL_a, if_neg (by omega), if_neg (by omega), if_neg (by omega), if_neg (by omega), if_neg (by omega), if_pos ⟨rfl, rfl⟩, gN_nI (by omega)]
      rw [nxL_a, if_neg (by omega), if_neg (by omega), if_neg (by omega), if_neg (by omega), if_pos ⟨rfl, rfl⟩, gN_nI (by omega)]
      rw [nxL_a, if_neg (by omega), if_neg (by omega), if_neg (by omega), if_pos ⟨rfl, rfl⟩, gN_nI (by omega)]
      rw [nxL_a, if_neg (by omega), if_neg (by omega), if_pos ⟨rfl, rfl⟩, gN_nI (by omega)]
      exact congrArg nI (by omega)
    · rw [mI_nj e3, h.me hf e1]
      unfold mEn
      rw [nxL_ne (by omega) (by omega), nxL_ne (by omega) (by omega), nxL_ne (by omega) (by omega), nxL_ne (by omega) (by omega), nxL_ne (by omega) (by omega), nxL_ne (by omega) (by omega)]
  · rcases hls f i hf hi with ⟨rfl, rfl⟩ | ⟨e1, e2, e3⟩
    · rw [h135] at hk; exact absurd hk (Nat.not_lt_zero k)
    · rw [nxL_ne (by omega) (by omega)] at hk
      show mL M 130 _ = _
      rw [h.re hf e1 hk]
      rfl
  · rw [mI_ne (by decide), mI_ne (by decide), h.pe hv]
    unfold pEn pEf
    rw [hb _ _ (by decide), hb _ _ (by decide), hb _ _ (by decide), hb _ _ (by decide), hb _ _ (by decide), hb _ _ (by decide)]
  · rw [mI_nj (by omega), mI_ne (by decide)]
    exact h.b0.trans (congrArg nI (hb 128 1 (by decide)).symm)
  · rw [mI_nj (by omega), mI_ne (by decide), htl]; exact h.b1
  · rw [mI_nj (by omega), mI_ne (by decide), hb _ _ (by decide)]; exact h.b2
  · by_cases e : f = fc0 c
    · rw [e, mI_eq, nxL_a, if_pos ⟨rfl, rfl⟩]
    · rw [mI_nj (by omega), mI_ne (by decide), nxL_ne (by omega) (by omega)]; exact h.b3 hf
theorem wf_look {c : Cf} {f n : Nat} {p1 p2 p3 p4 p5 : Int32} (hI : wfI c) (hW : wfW c) : wfI (nxL c f n p1 p2 p3 p4 p5) ∧ wfW (nxL c f n p1 p2 p3 p4 p5) := by
  have hru : ∀ l k w, rul (nxL c f n p1 p2 p3 p4 p5) l k w = rul c l k w := fun _ _ _ => rfl
  have hk0 : ∀ l k, k < cN (nxL c f n p1 p2 p3 p4 p5) 135 l → ¬ l = 12 * f + n := fun l k hk e => by
    rw [e, nxL_a, if_neg (by omega), if_pos ⟨rfl, rfl⟩] at hk; exact absurd hk (Nat.not_lt_zero k)
  refine ⟨fun l k hk => ?_, fun j => ?_, fun l k hk h6 => ?_⟩
  · have e := hk0 l k hk
    rw [nxL_ne (by omega) (by omega)] at hk
    rw [hru, nxL_ne (by omega) (by omega)]; exact hI l k hk
  · rw [nxL_ne (by omega) (by omega)]; exact hW.1 j
  · have e := hk0 l k hk
    rw [nxL_ne (by omega) (by omega)] at hk h6
    rw [hru]; exact hW.2 l k hk h6
set_option maxRecDepth 100000 in
set_option maxHeartbeats 4000000 in
theorem l1_L_law {g : gG} {Q : Option Value ⊕ String → gM → Prop} (hst : (gl1 g).stackTraces = false) {i kk nn : Nat} (hi : i < 110) (K : ∀ M, Q (.inl (some (.int (nI 1)))) M) (IH : ∀ c P π M lk v16 v17 v18 v19 v20 v21 v22 v23 v24, lwS c P π M → lkS c lk → E g 13 kk nn mL_law 205 [.float 0, .ref 1, .ref 129, .ref 130, .ref 131, .ref 132, .ref 133, .ref 134, .ref 135, .ref 136, .ref 137, .ref 138, .ref 139, .long lk, .null, .int (nI (i + 1)), v16, v17, v18, v19, v20, v21, v22, v23, v24] [] M Q) {M : gM} {c : Cf} {P π : Nat → Nat} {lk : Int64} (hs : lwS c P π M) (hlk : lkS c lk) {act : Nat} {u cc : Int32} {v20 v21 v22 v23 v24 : Value} (N : ∀ kd ft, kd < 10 → ft < 7 → E g 13 (kk + 900) (nn + 15000) mL_law 311 [.float 0, .ref 1, .ref 129, .ref 130, .ref 131, .ref 132, .ref 133, .ref 134, .ref 135, .ref 136, .ref 137, .ref 138, .ref 139, .long lk, .null, .int (nI i), .int (nI act), .int u, .int cc, .int (nI 1), .int (nI kd), .int (nI ft), v22, v23, v24] [] M Q) : E g 13 (kk + 900) (nn + 15000) mL_law 278 [.float 0, .ref 1, .ref 129, .ref 130, .ref 131, .ref 132, .ref 133, .ref 134, .ref 135, .ref 136, .ref 137, .ref 138, .ref 139, .long lk, .null, .int (nI i), .int (nI act), .int u, .int cc, .int (nI 1), v20, v21, v22, v23, v24] [] M Q := by
  have hS := hs.1
  have h := hs.2.1
  have hI := hs.2.2.1
  have hW := hs.2.2.2.1
  have h10 := hs.2.2.2.2
  have hL := h.lay
  have hf : fc0 c < 2 := h.wf.1.1
  have hct := h.ct hf
  have ht10 := h.t10
  refine E_iload dL_law_278 rfl ?_
  refine E_bipush (v := nI 10) dL_law_280 (by decide) ?_
  refine E_room (Nat.le_refl _) (k' := 0 + (kk + 900)) (n' := 0 + (nn + 15000)) (by omega) (by omega) ?_
  refine E_callT2 (fr' := 1) (k1 := 0) (n1 := 0) (k2 := (kk + 900)) (n2 := (nn + 15000)) dL_law_282 kO_L_low kL_L_229 (by exact Nat.le_of_ble_eq_true rfl) (by decide) (by exact Nat.le_of_ble_eq_true rfl) (Or.inl rfl) rfl ?_
  refine sp_L_low (by omega) (by omega) ?_
  refine gKv ?_
  refine E_istore dL_law_285 (Nat.le_of_ble_eq_true rfl) (by decide) rfl ?_
  refine E_iload dL_law_287 rfl ?_
  refine E_bipush (v := nI 96) dL_law_289 (by decide) ?_
  refine E_iand dL_law_291 ?_
  refine E_if_le (tgt := 299) dL_law_292 (by decide) (fun c_292 => ?_) (fun c_292 => ?_)
  · refine E_iload dL_law_299 rfl ?_
    refine E_bipush (v := nI 7) dL_law_301 (by decide) ?_
    refine E_ishr dL_law_303 ?_
    refine E_bipush (v := nI 7) dL_law_304 (by decide) ?_
    refine E_room (Nat.le_refl _) (k' := 0 + (kk + 900)) (n' := 0 + (nn + 15000)) (by omega) (by omega) ?_
    refine E_callT2 (fr' := 1) (k1 := 0) (n1 := 0) (k2 := (kk + 900)) (n2 := (nn + 15000)) dL_law_306 kO_L_low kL_L_229 (by exact Nat.le_of_ble_eq_true rfl) (by decide) (by exact Nat.le_of_ble_eq_true rfl) (Or.inl rfl) rfl ?_
    refine sp_L_low (by omega) (by omega) ?_
    refine gKv ?_
    refine E_istore dL_law_309 (Nat.le_of_ble_eq_true rfl) (by decide) rfl ?_
    exact N _ _ (lowN_lt _ (by decide)) (by first | decide | exact lowN_lt _ (by decide))
  · refine E_iconst (v := nI 0) dL_law_295 (by decide) ?_
    refine E_goto (tgt := 309) dL_law_296 (by decide) ?_
    refine E_istore dL_law_309 (Nat.le_of_ble_eq_true rfl) (by decide) rfl ?_
    exact N _ _ (lowN_lt _ (by decide)) (by first | decide | exact lowN_lt _ (by decide))
set_option maxRecDepth 100000 in
set_option maxHeartbeats 4000000 in
theorem l2_L_law {g : gG} {Q : Option Value ⊕ String → gM → Prop} (hst : (gl1 g).stackTraces = false) {i kk nn : Nat} (hi : i < 110) (K : ∀ M, Q (.inl (some (.int (nI 1)))) M) (IH : ∀ c P π M lk v16 v17 v18 v19 v20 v21 v22 v23 v24, lwS c P π M → lkS c lk → E g 13 kk nn mL_law 205 [.float 0, .ref 1, .ref 129, .ref 130, .ref 131, .ref 132, .ref 133, .ref 134, .ref 135, .ref 136, .ref 137, .ref 138, .ref 139, .long lk, .null, .int (nI (i + 1)), v16, v17, v18, v19, v20, v21, v22, v23, v24] [] M Q) {M : gM} {c : Cf} {P π : Nat → Nat} {lk : Int64} (hs : lwS c P π M) (hlk : lkS c lk) {act : Nat} {u cc : Int32} {v22 v23 v24 : Value} {kd ft : Nat} (b1 : kd < 10) (b2 : ft < 7) (N : ∀ sk, sk < 6 → E g 13 (kk + 900) (nn + 15000) mL_law 341 [.float 0, .ref 1, .ref 129, .ref 130, .ref 131, .ref 132, .ref 133, .ref 134, .ref 135, .ref 136, .ref 137, .ref 138, .ref 139, .long lk, .null, .int (nI i), .int (nI act), .int u, .int cc, .int (nI 1), .int (nI kd), .int (nI ft), .int (nI sk), v23, v24] [] M Q) : E g 13 (kk + 900) (nn + 15000) mL_law 311 [.float 0, .ref 1, .ref 129, .ref 130, .ref 131, .ref 132, .ref 133, .ref 134, .ref 135, .ref 136, .ref 137, .ref 138, .ref 139, .long lk, .null, .int (nI i), .int (nI act), .int u, .int cc, .int (nI 1), .int (nI kd), .int (nI ft), v22, v23, v24] [] M Q := by
  have hS := hs.1
  have h := hs.2.1
  have hI := hs.2.2.1
  have hW := hs.2.2.2.1
  have h10 := hs.2.2.2.2
  have hL := h.lay
  have hf : fc0 c < 2 := h.wf.1.1
  have hct := h.ct hf
  have ht10 := h.t10
  refine E_iload dL_law_311 rfl ?_
  refine E_bipush (v := nI 6) dL_law_313 (by decide) ?_
  refine E_iand dL_law_315 ?_
  refine E_if_le (tgt := 330) dL_law_316 (by decide) (fun c_316 => ?_) (fun c_316 => ?_)
  · refine E_iload dL_law_330 rfl ?_
    refine E_iconst (v := nI 3) dL_law_332 (by decide) ?_
    refine E_ishr dL_law_333 ?_
    refine E_bipush (v := nI 6) dL_law_334 (by decide) ?_
    refine E_room (Nat.le_refl _) (k' := 0 + (kk + 900)) (n' := 0 + (nn + 15000)) (by omega) (by omega) ?_
    refine E_callT2 (fr' := 1) (k1 := 0) (n1 := 0) (k2 := (kk + 900)) (n2 := (nn + 15000)) dL_law_336 kO_L_low kL_L_229 (by exact Nat.le_of_ble_eq_true rfl) (by decide) (by exact Nat.le_of_ble_eq_true rfl) (Or.inl rfl) rfl ?_
    refine sp_L_low (by omega) (by omega) ?_
    refine gKv ?_
    refine E_istore dL_law_339 (Nat.le_of_ble_eq_true rfl) (by decide) rfl ?_
    first
      | exact N _ (Nat.lt_of_lt_of_le (lowN_lt _ (by decide : 0 < 2)) (by decide))
      | exact N _ (lowN_lt _ (by decide))
  · refine E_iload dL_law_319 rfl ?_
    refine E_iconst (v := nI 3) dL_law_321 (by decide) ?_
    refine E_ishr dL_law_322 ?_
    refine E_iconst (v := nI 2) dL_law_323 (by decide) ?_
    refine E_room (Nat.le_refl _) (k' := 0 + (kk + 900)) (n' := 0 + (nn + 15000)) (by omega) (by omega) ?_
    refine E_callT2 (fr' := 1) (k1 := 0) (n1 := 0) (k2 := (kk + 900)) (n2 := (nn + 15000)) dL_law_324 kO_L_low kL_L_229 (by exact Nat.le_of_ble_eq_true rfl) (by decide) (by exact Nat.le_of_ble_eq_true rfl) (Or.inl rfl) rfl ?_
    refine sp_L_low (by omega) (by omega) ?_
    refine gKv ?_
    refine E_goto (tgt := 339) dL_law_327 (by decide) ?_
    refine E_istore dL_law_339 (Nat.le_of_ble_eq_true rfl) (by decide) rfl ?_
    first
      | exact N _ (Nat.lt_of_lt_of_le (lowN_lt _ (by decide : 0 < 2)) (by decide))
      | exact N _ (lowN_lt _ (by decide))
set_option maxRecDepth 100000 in
set_option maxHeartbeats 4000000 in
theorem l3_L_law {g : gG} {Q : Option Value ⊕ String → gM → Prop} (hst : (gl1 g).stackTraces = false) {i kk nn : Nat} (hi : i < 110) (K : ∀ M, Q (.inl (some (.int (nI 1)))) M) (IH : ∀ c P π M lk v16 v17 v18 v19 v20 v21 v22 v23 v24, lwS c P π M → lkS c lk → E g 13 kk nn mL_law 205 [.float 0, .ref 1, .ref 129, .ref 130, .ref 131, .ref 132, .ref 133, .ref 134, .ref 135, .ref 136, .ref 137, .ref 138, .ref 139, .long lk, .null, .int (nI (i + 1)), v16, v17, v18, v19, v20, v21, v22, v23, v24] [] M Q) {M : gM} {c : Cf} {P π : Nat → Nat} {lk : Int64} (hs : lwS c P π M) (hlk : lkS c lk) {act : Nat} {u cc : Int32} {v23 v24 : Value} {kd ft : Nat} (b1 : kd < 10) (b2 : ft < 7) {sk : Nat} (N : ∀ sg tg, sg < 2 → tg < 3 → E g 13 (kk + 900) (nn + 15000) mL_law 376 [.float 0, .ref 1, .ref 129, .ref 130, .ref 131, .ref 132, .ref 133, .ref 134, .ref 135, .ref 136, .ref 137, .ref 138, .ref 139, .long lk, .null, .int (nI i), .int (nI act), .int u, .int cc, .int (nI 1), .int (nI kd), .int (nI ft), .int (nI sk), .int (nI sg), .int (nI tg)] [] M Q) : E g 13 (kk + 900) (nn + 15000) mL_law 341 [.float 0, .ref 1, .ref 129, .ref 130, .ref 131, .ref 132, .ref 133, .ref 134, .ref 135, .ref 136, .ref 137, .ref 138, .ref 139, .long lk, .null, .int (nI i), .int (nI act), .int u, .int cc, .int (nI 1), .int (nI kd), .int (nI ft), .int (nI sk), v23, v24] [] M Q := by
  have hS := hs.1
  have h := hs.2.1
  have hI := hs.2.2.1
  have hW := hs.2.2.2.1
  have h10 := hs.2.2.2.2
  have hL := h.lay
  have hf : fc0 c < 2 := h.wf.1.1
  have hct := h.ct hf
  have ht10 := h.t10
  refine E_iload dL_law_341 rfl ?_
  refine E_bipush (v := nI 7) dL_law_343 (by decide) ?_
  refine E_ishr dL_law_345 ?_
  refine E_iconst (v := nI 2) dL_law_346 (by decide) ?_
  refine E_room (Nat.le_refl _) (k' := 0 + (kk + 900)) (n' := 0 + (nn + 15000)) (by omega) (by omega) ?_
  refine E_callT2 (fr' := 1) (k1 := 0) (n1 := 0) (k2 := (kk + 900)) (n2 := (nn + 15000)) dL_law_347 kO_L_low kL_L_229 (by exact Nat.le_of_ble_eq_true rfl) (by decide) (by exact Nat.le_of_ble_eq_true rfl) (Or.inl rfl) rfl ?_
  refine sp_L_low (by omega) (by omega) ?_
  refine gKv ?_
  refine E_istore dL_law_350 (Nat.le_of_ble_eq_true rfl) (by decide) rfl ?_
  refine E_iload dL_law_352 rfl ?_
  refine E_sipush (v := nI 768) dL_law_354 (by decide) ?_
  refine E_iand dL_law_357 ?_
  refine E_if_ne_r (tgt := 373) dL_law_358 (by decide) (fun c_358 => ?_) (fun c_358 => ?_)
  · refine E_iconst (v := nI 0) dL_law_373 (by decide) ?_
    refine E_istore dL_law_374 (Nat.le_of_ble_eq_true rfl) (by decide) rfl ?_
    exact N _ _ (lowN_lt _ (by decide)) (by first | decide | exact lowN_lt _ (by decide))
  · refine E_iload dL_law_361 rfl ?_
    refine E_bipush (v := nI 10) dL_law_363 (by decide) ?_
    refine E_ishr dL_law_365 ?_
    refine E_iconst (v := nI 3) dL_law_366 (by decide) ?_
    refine E_room (Nat.le_refl _) (k' := 0 + (kk + 900)) (n' := 0 + (nn + 15000)) (by omega) (by omega) ?_
    refine E_callT2 (fr' := 1) (k1 := 0) (n1 := 0) (k2 := (kk + 900)) (n2 := (nn + 15000)) dL_law_367 kO_L_low kL_L_229 (by exact Nat.le_of_ble_eq_true rfl) (by decide) (by exact Nat.le_of_ble_eq_true rfl) (Or.inl rfl) rfl ?_
    refine sp_L_low (by omega) (by omega) ?_
    refine gKv ?_
    refine E_goto (tgt := 374) dL_law_370 (by decide) ?_
    refine E_istore dL_law_374 (Nat.le_of_ble_eq_true rfl) (by decide) rfl ?_
    exact N _ _ (lowN_lt _ (by decide)) (by first | decide | exact lowN_lt _ (by decide))
set_option maxRecDepth 100000 in
set_option maxHeartbeats 4000000 in
theorem tl_L_law {g : gG} {Q : Option Value ⊕ String → gM → Prop} (hst : (gl1 g).stackTraces = false) {i kk nn : Nat} (hi : i < 110) (K : ∀ M, Q (.inl (some (.int (nI 1)))) M) (IH : ∀ c P π M lk v16 v17 v18 v19 v20 v21 v22 v23 v24, lwS c P π M → lkS c lk → E g 13 kk nn mL_law 205 [.float 0, .ref 1, .ref 129, .ref 130, .ref 131, .ref 132, .ref 133, .ref 134, .ref 135, .ref 136, .ref 137, .ref 138, .ref 139, .long lk, .null, .int (nI (i + 1)), v16, v17, v18, v19, v20, v21, v22, v23, v24] [] M Q) {M : gM} {c : Cf} {P π : Nat → Nat} {lk : Int64} (hs : lwS c P π M) (hlk : lkS c lk) {act : Nat} {u cc : Int32} {v20 v21 v22 v23 v24 : Value} : E g 13 (kk + 900) (nn + 15000) mL_law 278 [.float 0, .ref 1, .ref 129, .ref 130, .ref 131, .ref 132, .ref 133, .ref 134, .ref 135, .ref 136, .ref 137, .ref 138, .ref 139, .long lk, .null, .int (nI i), .int (nI act), .int u, .int cc, .int (nI 1), v20, v21, v22, v23, v24] [] M Q := by
  have hS := hs.1
  have h := hs.2.1
  have hI := hs.2.2.1
  have hW := hs.2.2.2.1
  have h10 := hs.2.2.2.2
  have hL := h.lay
  have hf : fc0 c < 2 := h.wf.1.1
  have hct := h.ct hf
  have ht10 := h.t10
  refine l1_L_law hst hi K IH hs hlk (fun kd ft b1 b2 => ?_)
  refine l2_L_law hst hi K IH hs hlk b1 b2 (fun sk b5 => ?_)
  refine l3_L_law hst hi K IH hs hlk b1 b2 (fun sg tg b3 b4 => ?_)
  have hk1 : iLk1 (nI kd) (nI ft) := ⟨in_n (by omega) (by decide), in_n (by omega) (by decide)⟩
  have hk2 : iLk2 (nI sg) (nI tg) (nI sk) := ⟨in_n (by omega) (by decide), in_n (by omega) (by decide), in_n (by omega) (by decide)⟩
  have hct' : cN c 129 (cN c 128 1) ≤ 8 := hct
  have key : (cN c 129 (fc0 c)) < 8 → ∀ MM, MM = (sI (sI M 129 (8 * fc0 c + (cN c 129 (fc0 c))) (nI (kd + 16 * ft + 128 * sg + 256 * tg + 1024 * sk))) 132 (3 + fc0 c) (nI ((cN c 129 (fc0 c)) + 1))) → E g 13 (kk + 845) (nn + 13395) mL_law 542 [.float 0, .ref 1, .ref 129, .ref 130, .ref 131, .ref 132, .ref 133, .ref 134, .ref 135, .ref 136, .ref 137, .ref 138, .ref 139, .long lk, .null, .int (nI i), .int (nI act), .int u, .int cc, .int (nI 1), .int (nI kd), .int (nI ft), .int (nI sk), .int (nI sg), .int (nI tg)] [] MM Q := by
    intro h8 MM eM
    have h8' : cN c 129 (cN c 128 1) < 8 := h8
    have hz1 : zS (nxL c (fc0 c) (cN c 129 (fc0 c)) (nI kd) (nI ft) (nI sg) (nI tg) (nI sk)) MM := by rw [eM]; exact zS_look h rfl h8 b1 b2 b3 b4 b5
    have hS1 : kS c P π MM := by rw [eM]; exact hS.law hS.C (Nat.le_refl _) (fun _ _ => rfl) (fun a j q q2 => (mI_ne (by omega)).trans (mI_ne (by omega))) (fun _ _ _ => rfl)
    have h101 : mI MM 132 10 = nI 0 := by rw [eM]; exact (mI_nj (by omega)).trans ((mI_ne (by decide)).trans h10)
    have hm0 : mI MM 132 0 = nI (fc0 c) := by rw [eM]; exact (mI_nj (by omega)).trans ((mI_ne (by decide)).trans h.b0)
    have hm3 : mI MM 132 (3 + fc0 c) = nI ((cN c 129 (fc0 c)) + 1) := by rw [eM]; exact mI_eq
    have hL := hz1.lay
    have hx := wf_look (f := fc0 c) (n := (cN c 129 (fc0 c))) (p1 := nI kd) (p2 := nI ft) (p3 := nI sg) (p4 := nI tg) (p5 := nI sk) hI hW
    refine E_iload dL_law_542 rfl ?_
    refine E_aload_n dL_law_544 rfl ?_
    refine E_iload dL_law_545 rfl ?_
    refine E_iload dL_law_547 rfl ?_
    refine E_iload dL_law_549 rfl ?_
    refine E_iload dL_law_551 rfl ?_
    refine E_iload dL_law_553 rfl ?_
    refine E_room (Nat.le_refl _) (k' := 11 + (kk + 834)) (n' := 321 + (nn + 13074)) (by omega) (by omega) ?_
    refine E_callT6 (fr' := 8) (k1 := 11) (n1 := 321) (k2 := (kk + 834)) (n2 := (nn + 13074)) dL_law_555 kO_L_lookup kL_L_310 (by exact Nat.le_of_ble_eq_true rfl) (by decide) (by exact Nat.le_of_ble_eq_true rfl) (Or.inr (gW_at 452 (by decide +kernel) (by decide +kernel))) rfl ?_
    refine w_lookup hst hS1 (fun _ _ _ M2 P2 hS2 hkd => ?_) (fun z => absurd hk1 z) (fun _ z => absurd hk2 z) (fun _ _ z => absurd z (by omega))
    have hL2 := hS2.1.lay
    have hz2 := hz1.kd hkd hL2
    have h102 := ((hkd.2.2 132 10 (by decide) (by decide)).1).trans h101
    have hA0 := ((hkd.2.2 132 0 (by decide) (by decide)).1).trans hm0
    have hA3 := ((hkd.2.2 132 (3 + fc0 c) (by decide) (by decide)).1).trans hm3
    have hL := hL2
    refine gKv ?_
    refine E_aload dL_law_558 rfl ?_
    refine E_iconst (v := nI 3) dL_law_560 (by decide) ?_
    refine E_aload dL_law_561 rfl ?_
    refine E_iconst (v := nI 0) dL_law_563 (by decide) ?_
    refine E_ialdL (v := nI (fc0 c)) dL_law_564 (l_132 hL) (k_132 hL) rfl (by omega) (by decide) hA0 ?_
    refine E_iadd_n dL_law_565 ?_
    refine E_ialdL (v := nI ((cN c 129 (fc0 c)) + 1)) dL_law_566 (l_132 hL) (k_132 hL) rfl (by omega) (by decide) hA3 ?_
    refine E_iconst (v := nI 1) dL_law_567 (by decide) ?_
    refine E_isub_n dL_law_568 (by omega) ?_
    refine E_icmp_ne_n (tgt := 576) dL_law_569 (by decide) (by omega) (by omega) (fun c_569 => ?_) (fun c_569 => ?_)
    · exact absurd (show cN c 129 (cN c 128 1) = cN c 129 (fc0 c) + 1 - 1 from (Nat.add_sub_cancel (cN c 129 (fc0 c)) 1).symm) c_569
    · refine E_iconst (v := nI 1) dL_law_572 (by decide) ?_
      refine E_goto (tgt := 577) dL_law_573 (by decide) ?_
      refine E_iand dL_law_577 ?_
      rw [show nI 1 &&& nI 1 = nI 1 by decide]
      refine E_istore dL_law_578 (Nat.le_of_ble_eq_true rfl) (by decide) rfl ?_
      refine E_goto (tgt := 1260) dL_law_580 (by decide) ?_
      exact E_room (Nat.le_refl _) (by omega) (by omega) (te_L_law (act := 0) hst hi K IH ⟨hS2, hz2, hx.1, hx.2, h102⟩ (hlk.cg (fun j => nxL_ne (by omega) (by omega))))
  refine E_aload_n dL_law_376 rfl ?_
  refine E_bipush (v := nI 10) dL_law_377 (by decide) ?_
  refine E_iconst (v := nI 0) dL_law_379 (by decide) ?_
  refine E_iconst (v := nI 0) dL_law_380 (by decide) ?_
  refine E_iconst (v := nI 0) dL_law_381 (by decide) ?_
  refine E_iconst (v := nI 0) dL_law_382 (by decide) ?_
  refine E_room (Nat.le_refl _) (k' := 11 + (kk + 889)) (n' := 321 + (nn + 14679)) (by omega) (by omega) ?_
  refine E_callT6 (fr' := 8) (k1 := 11) (n1 := 321) (k2 := (kk + 889)) (n2 := (nn + 14679)) dL_law_383 kO_L_lookup kL_L_310 (by exact Nat.le_of_ble_eq_true rfl) (by decide) (by exact Nat.le_of_ble_eq_true rfl) (Or.inr (gW_at 452 (by decide +kernel) (by decide +kernel))) rfl ?_
  refine w_lookup hst hS (fun z _ _ _ _ _ _ => absurd z (by decide)) (fun z => ?_) (fun z _ => absurd z (by decide)) (fun z _ _ => absurd z (by decide))
  refine gKv ?_
  refine E_sipush (v := -7100) dL_law_386 (by decide) ?_
  refine E_icmp_ne_r (tgt := 464) dL_law_389 (by decide) (fun c0 => absurd c0 (by decide)) (fun _ => ?_)
  refine E_aload_n dL_law_392 rfl ?_
  refine E_iconst (v := nI 0) dL_law_393 (by decide) ?_
  refine E_bipush (v := nI 7) dL_law_394 (by decide) ?_
  refine E_iconst (v := nI 2) dL_law_396 (by decide) ?_
  refine E_iconst (v := nI 0) dL_law_397 (by decide) ?_
  refine E_iconst (v := nI 0) dL_law_398 (by decide) ?_
  refine E_room (Nat.le_refl _) (k' := 11 + (kk + 878)) (n' := 321 + (nn + 14358)) (by omega) (by omega) ?_
  refine E_callT6 (fr' := 8) (k1 := 11) (n1 := 321) (k2 := (kk + 878)) (n2 := (nn + 14358)) dL_law_399 kO_L_lookup kL_L_310 (by exact Nat.le_of_ble_eq_true rfl) (by decide) (by exact Nat.le_of_ble_eq_true rfl) (Or.inr (gW_at 452 (by decide +kernel) (by decide +kernel))) rfl ?_
  refine w_lookup hst hS (fun z _ _ _ _ _ _ => absurd z (by decide)) (fun z => ?_) (fun z _ => absurd z (by decide)) (fun z _ _ => absurd z (by decide))
  refine gKv ?_
  refine E_sipush (v := -7100) dL_law_402 (by decide) ?_
  refine E_icmp_ne_r (tgt := 464) dL_law_405 (by decide) (fun c0 => absurd c0 (by decide)) (fun _ => ?_)
  refine E_aload_n dL_law_408 rfl ?_
  refine E_iload dL_law_409 rfl ?_
  refine E_iload dL_law_411 rfl ?_
  refine E_iconst (v := nI 2) dL_law_413 (by decide) ?_
  refine E_iconst (v := nI 0) dL_law_414 (by decide) ?_
  refine E_iconst (v := nI 0) dL_law_415 (by decide) ?_
  refine E_room (Nat.le_refl _) (k' := 11 + (kk + 867)) (n' := 321 + (nn + 14037)) (by omega) (by omega) ?_
  refine E_callT6 (fr' := 8) (k1 := 11) (n1 := 321) (k2 := (kk + 867)) (n2 := (nn + 14037)) dL_law_416 kO_L_lookup kL_L_310 (by exact Nat.le_of_ble_eq_true rfl) (by decide) (by exact Nat.le_of_ble_eq_true rfl) (Or.inr (gW_at 452 (by decide +kernel) (by decide +kernel))) rfl ?_
  refine w_lookup hst hS (fun _ z _ _ _ _ _ => absurd z (by decide)) (fun z => absurd hk1 z) (fun _ z => ?_) (fun _ z _ => absurd z (by decide))
  refine gKv ?_
  refine E_sipush (v := -7200) dL_law_419 (by decide) ?_
  refine E_icmp_ne_r (tgt := 464) dL_law_422 (by decide) (fun c0 => absurd c0 (by decide)) (fun _ => ?_)
  refine E_aload_n dL_law_425 rfl ?_
  refine E_iload dL_law_426 rfl ?_
  refine E_iload dL_law_428 rfl ?_
  refine E_iconst (v := nI 0) dL_law_430 (by decide) ?_
  refine E_iconst (v := nI 3) dL_law_431 (by decide) ?_
  refine E_iconst (v := nI 0) dL_law_432 (by decide) ?_
  refine E_room (Nat.le_refl _) (k' := 11 + (kk + 856)) (n' := 321 + (nn + 13716)) (by omega) (by omega) ?_
  refine E_callT6 (fr' := 8) (k1 := 11) (n1 := 321) (k2 := (kk + 856)) (n2 := (nn + 13716)) dL_law_433 kO_L_lookup kL_L_310 (by exact Nat.le_of_ble_eq_true rfl) (by decide) (by exact Nat.le_of_ble_eq_true rfl) (Or.inr (gW_at 452 (by decide +kernel) (by decide +kernel))) rfl ?_
  refine w_lookup hst hS (fun _ z _ _ _ _ _ => absurd z (by decide)) (fun z => absurd hk1 z) (fun _ z => ?_) (fun _ z _ => absurd z (by decide))
  refine gKv ?_
  refine E_sipush (v := -7200) dL_law_436 (by decide) ?_
  refine E_icmp_ne_r (tgt := 464) dL_law_439 (by decide) (fun c0 => absurd c0 (by decide)) (fun _ => ?_)
  refine E_aload_n dL_law_442 rfl ?_
  refine E_iload dL_law_443 rfl ?_
  refine E_iload dL_law_445 rfl ?_
  refine E_iconst (v := nI 0) dL_law_447 (by decide) ?_
  refine E_iconst (v := nI 0) dL_law_448 (by decide) ?_
  refine E_bipush (v := nI 6) dL_law_449 (by decide) ?_
  refine E_room (Nat.le_refl _) (k' := 11 + (kk + 845)) (n' := 321 + (nn + 13395)) (by omega) (by omega) ?_
  refine E_callT6 (fr' := 8) (k1 := 11) (n1 := 321) (k2 := (kk + 845)) (n2 := (nn + 13395)) dL_law_451 kO_L_lookup kL_L_310 (by exact Nat.le_of_ble_eq_true rfl) (by decide) (by exact Nat.le_of_ble_eq_true rfl) (Or.inr (gW_at 452 (by decide +kernel) (by decide +kernel))) rfl ?_
  refine w_lookup hst hS (fun _ z _ _ _ _ _ => absurd z (by decide)) (fun z => absurd hk1 z) (fun _ z => ?_) (fun _ z _ => absurd z (by decide))
  refine gKv ?_
  refine E_sipush (v := -7200) dL_law_454 (by decide) ?_
  refine E_icmp_ne_r (tgt := 464) dL_law_457 (by decide) (fun c0 => absurd c0 (by decide)) (fun _ => ?_)
  refine E_iconst (v := nI 1) dL_law_460 (by decide) ?_
  refine E_goto (tgt := 465) dL_law_461 (by decide) ?_
  refine E_istore dL_law_465 (Nat.le_of_ble_eq_true rfl) (by decide) rfl ?_
  refine E_aload dL_law_467 rfl ?_
  refine E_iconst (v := nI 3) dL_law_469 (by decide) ?_
  refine E_aload dL_law_470 rfl ?_
  refine E_iconst (v := nI 0) dL_law_472 (by decide) ?_
  refine E_ialdL (v := nI (fc0 c)) dL_law_473 (l_132 hL) (k_132 hL) rfl (by omega) (by decide) h.b0 ?_
  refine E_iadd_n dL_law_474 ?_
  refine E_ialdL (v := nI (cN c 129 (fc0 c))) dL_law_475 (l_132 hL) (k_132 hL) rfl (by omega) (by decide) (h.b3 hf) ?_
  refine E_bipush (v := nI 8) dL_law_476 (by decide) ?_
  refine E_icmp_ge_n (tgt := 580) dL_law_478 (by decide) (by omega) (by omega) (fun c_478 => ?_) (fun c_478 => ?_)
  · refine E_goto (tgt := 1260) dL_law_580 (by decide) ?_
    exact E_room (Nat.le_refl _) (by omega) (by omega) (te_L_law (act := 0) hst hi K IH hs hlk)
  · refine E_aload_n dL_law_481 rfl ?_
    refine E_bipush (v := nI 8) dL_law_482 (by decide) ?_
    refine E_aload dL_law_484 rfl ?_
    refine E_iconst (v := nI 0) dL_law_486 (by decide) ?_
    refine E_ialdL (v := nI (fc0 c)) dL_law_487 (l_132 hL) (k_132 hL) rfl (by omega) (by decide) h.b0 ?_
    refine E_imul_n dL_law_488 ?_
    refine E_aload dL_law_489 rfl ?_
    refine E_iconst (v := nI 3) dL_law_491 (by decide) ?_
    refine E_aload dL_law_492 rfl ?_
    refine E_iconst (v := nI 0) dL_law_494 (by decide) ?_
    refine E_ialdL (v := nI (fc0 c)) dL_law_495 (l_132 hL) (k_132 hL) rfl (by omega) (by decide) h.b0 ?_
    refine E_iadd_n dL_law_496 ?_
    refine E_ialdL (v := nI (cN c 129 (fc0 c))) dL_law_497 (l_132 hL) (k_132 hL) rfl (by omega) (by decide) (h.b3 hf) ?_
    refine E_iadd_n dL_law_498 ?_
    refine E_iload dL_law_499 rfl ?_
    refine E_bipush (v := nI 16) dL_law_501 (by decide) ?_
    refine E_iload dL_law_503 rfl ?_
    refine E_imul_n dL_law_505 ?_
    refine E_iadd_n dL_law_506 ?_
    refine E_sipush (v := nI 128) dL_law_507 (by decide) ?_
    refine E_iload dL_law_510 rfl ?_
    refine E_imul_n dL_law_512 ?_
    refine E_iadd_n dL_law_513 ?_
    refine E_sipush (v := nI 256) dL_law_514 (by decide) ?_
    refine E_iload dL_law_517 rfl ?_
    refine E_imul_n dL_law_519 ?_
    refine E_iadd_n dL_law_520 ?_
    refine E_sipush (v := nI 1024) dL_law_521 (by decide) ?_
    refine E_iload dL_law_524 rfl ?_
    refine E_imul_n dL_law_526 ?_
    refine E_iadd_n dL_law_527 ?_
    refine E_iast dL_law_528 (l_129 hL) (k_129 hL) rfl (by omega) (by decide) ?_
    refine E_aload dL_law_529 rfl ?_
    refine E_iconst (v := nI 3) dL_law_531 (by decide) ?_
    refine E_aload dL_law_532 rfl ?_
    refine E_iconst (v := nI 0) dL_law_534 (by decide) ?_
    refine E_ialdL (v := nI (fc0 c)) dL_law_535 (l_132 hL) (k_132 hL) rfl (by omega) (by decide) h.b0 ?_
    refine E_iadd_n dL_law_536 ?_
    refine E_dup2 dL_law_537 rfl rfl ?_
    refine E_ialdL (v := nI (cN c 129 (fc0 c))) dL_law_538 (l_132 hL) (k_132 hL) rfl (by omega) (by decide) ((mI_ne (by decide)).trans (h.b3 hf)) ?_
    refine E_iconst (v := nI 1) dL_law_539 (by decide) ?_
    refine E_iadd_n dL_law_540 ?_
    refine E_iast dL_law_541 (l_132 hL) (k_132 hL) rfl (by omega) (by decide) ?_
    exact key c_478 _ rfl
