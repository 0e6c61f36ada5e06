/-! the law: a rule told -/
theorem n10_e {x : Int32} (h : n10 x) : x + nI 100 = nI (gN (x + nI 100)) ∧ gN (x + nI 100) < 1024 := by
  obtain ⟨j, h1, h2⟩ := h
  rw [h2, gN_nI (by omega)]
  exact ⟨rfl, h1⟩
theorem n10_L {x : Int32} (h : n10 x) : x.toInt64 + lN 100 = lN (gN (x + nI 100)) := by
  obtain ⟨h2, h1⟩ := n10_e h
  have e1 : x = nI (gN (x + nI 100)) - nI 100 := by rw [← h2, Int32.add_sub_cancel]
  generalize gN (x + nI 100) = j at h1 e1 ⊢
  have e2 : x.toInt = (j : Int) - 100 := by rw [e1, Int32.toInt_sub, nI_toInt (by omega), nI_toInt (by decide), bm (by omega) (by omega)]; rfl
  apply Int64.toInt_inj.mp
  rw [Int64.toInt_add, Int32.toInt_toInt64, e2, pf_lI (by omega), pf_lI (by omega), Int.bmod_eq_of_le (by omega) (by omega)]
  omega
theorem or_pw {a b k : Nat} (h : a < 2 ^ k) : a ||| (b * 2 ^ k) = a + b * 2 ^ k := by rw [Nat.mul_comm, Nat.or_comm, ← Nat.two_pow_add_eq_or_of_lt h, Nat.add_comm]
theorem or_lp {a b k : Nat} (hk : k < 64) (h : a < 2 ^ k) : lN a ||| (lN b <<< ((nI k).toInt64 &&& 63)) = lN (a + b * 2 ^ k) := by rw [wb_shl b hk, fb_orL, or_pw h]
def p6 (x0 x1 x2 x3 x4 x5 : Int32) : Nat := gN (x0 + nI 100) + 1024 * gN (x1 + nI 100) + 1048576 * gN (x2 + nI 100) + 1073741824 * gN (x3 + nI 100) + 1099511627776 * gN (x4 + nI 100) + 1125899906842624 * gN (x5 + nI 100)
theorem p6_L {x0 x1 x2 x3 x4 x5 : Int32} (h0 : n10 x0) (h1 : n10 x1) (h2 : n10 x2) (h3 : n10 x3) (h4 : n10 x4) (h5 : n10 x5) : (0 : Int64) ||| (((((x0.toInt64 + lN 100 ||| (x1.toInt64 + lN 100) <<< ((nI 10).toInt64 &&& 63)) ||| (x2.toInt64 + lN 100) <<< ((nI 20).toInt64 &&& 63)) ||| (x3.toInt64 + lN 100) <<< ((nI 30).toInt64 &&& 63)) ||| (x4.toInt64 + lN 100) <<< ((nI 40).toInt64 &&& 63)) ||| (x5.toInt64 + lN 100) <<< ((nI 50).toInt64 &&& 63)) = lN (p6 x0 x1 x2 x3 x4 x5) := by
  have e0 := (n10_e h0).2
  have e1 := (n10_e h1).2
  have e2 := (n10_e h2).2
  have e3 := (n10_e h3).2
  have e4 := (n10_e h4).2
  have e5 := (n10_e h5).2
  rw [n10_L h0, n10_L h1, n10_L h2, n10_L h3, n10_L h4, n10_L h5]
  rw [or_lp (by decide) (by omega), or_lp (by decide) (by omega), or_lp (by decide) (by omega), or_lp (by decide) (by omega), or_lp (by decide) (by omega), Int64.zero_or]
  congr 1
  unfold p6
  omega
theorem zS_rule {c : Cf} {M : gM} (h : zS c M) {l : Nat} (hl : l < cN c 129 (fc0 c)) {x0 x1 x2 x3 x4 x5 : Int32} (hr4 : cN c 135 (12 * fc0 c + l) < 4) (hd : drZ (cN c 130 (12 * fc0 c + l)) x0 x1 x2 x3 x4 x5) :
    zS (nxR c (12 * fc0 c + l) (cN c 135 (12 * fc0 c + l)) x0 x1 x2 x3 x4 x5) (sI (sL M 130 (4 * (8 * fc0 c + l) + cN c 135 (12 * fc0 c + l)) (lN (p6 x0 x1 x2 x3 x4 x5))) 129 (8 * fc0 c + l) (nI (mEn c (12 * fc0 c + l) + 8192))) := by
  have hf0 : fc0 c < 2 := h.wf.1.1
  have hct := h.ct hf0
  obtain ⟨d0, d1, d2, d3, d4, d5, d6, d7, d8, d9⟩ := hd
  have hw' := nxR_wf h.wf (l := 12 * fc0 c + l) (r := cN c 135 (12 * fc0 c + l)) rfl (by omega) d0
  have hb : ∀ a i, ¬ a = 135 → cN (nxR c (12 * fc0 c + l) (cN c 135 (12 * fc0 c + l)) x0 x1 x2 x3 x4 x5) a i = cN c a i := fun a i q => by rw [nxR_N, if_neg (fun z => q z.1)]
  have h135 : ∀ i, ¬ i = 12 * fc0 c + l → cN (nxR c (12 * fc0 c + l) (cN c 135 (12 * fc0 c + l)) x0 x1 x2 x3 x4 x5) 135 i = cN c 135 i := fun i q => by rw [nxR_N, if_neg (fun z => q z.2)]
  have h135b : cN (nxR c (12 * fc0 c + l) (cN c 135 (12 * fc0 c + l)) x0 x1 x2 x3 x4 x5) 135 (12 * fc0 c + l) = cN c 135 (12 * fc0 c + l) + 1 := by rw [nxR_N, if_pos ⟨rfl, rfl⟩]
  refine ⟨h.lay.of (Nat.le_refl _) (fun _ _ => rfl) (fun _ _ => rfl), hw', ⟨fun f hf => ?_, fun i => ?_, ?_, fun k hk => ?_, fun i k hk => ?_, fun f v hf hv hg => ?_⟩, fun k hk => ?_, fun f i hf hi => ?_, fun f i k hf hi hk => ?_, fun v hv => ?_, ?_, ?_, ?_, fun f hf => ?_⟩
  · rw [hb _ _ (by decide)]; exact h.ct hf
  · by_cases e : i = 12 * fc0 c + l
    · subst e; rw [h135b]; omega
    · rw [h135 _ e]; exact h.r4 _
  · exact h.t10
  · rw [hb _ _ (by decide)]; exact h.sg hk
  · by_cases e : i = 12 * fc0 c + l ∧ k = cN c 135 (12 * fc0 c + l)
    · obtain ⟨e1, e2⟩ := e
      subst e1 e2
      refine ⟨fun w hw => ?_, ?_⟩
      · rcases (show w = 0 ∨ w = 1 ∨ w = 2 ∨ w = 3 ∨ w = 4 ∨ w = 5 by omega) with rfl | rfl | rfl | rfl | rfl | rfl
        · rw [nxR_0]; exact d1
        · rw [nxR_1]; exact d2
        · rw [nxR_2]; exact d3
        · rw [nxR_3]; exact d4
        · rw [nxR_4]; exact d5
        · rw [nxR_5]; exact d6
      · rw [nxR_1, nxR_2, nxR_3, hb _ _ (by decide)]; exact d7
    · have hk2 : k < cN c 135 i := by
        by_cases e2 : i = 12 * fc0 c + l
        · subst e2; rw [h135b] at hk; omega
        · rw [h135 _ e2] at hk; exact hk
      have h8 := (mEn_b h.wf i).2.2.2.2.2
      have := h.wz.2.2.2.2.1 i k hk2
      refine ⟨fun w hw => ?_, ?_⟩
      · rw [nxR_o (by omega) (by omega) hw e]; exact this.1 w hw
      · rw [nxR_o (by omega) (by omega) (by decide) e, nxR_o (by omega) (by omega) (by decide) e, nxR_o (by omega) (by omega) (by decide) e, hb _ _ (by decide)]; exact this.2
  · rw [hb _ _ (by decide)]; exact h.wz.2.2.2.2.2 f v hf hv hg
  · rw [mI_ne (by decide)]
    show mI M 128 k = nI (tEn (nxR c _ _ x0 x1 x2 x3 x4 x5) k)
    unfold tEn
    rw [hb _ _ (by decide), hb _ _ (by decide)]; exact h.tx hk
  · rw [hb _ _ (by decide)] at hi
    have hc2 := h.ct hf
    by_cases e : f = fc0 c ∧ i = l
    · obtain ⟨rfl, rfl⟩ := e
      rw [mI_eq]
      unfold mEn
      rw [hb _ _ (by decide), hb _ _ (by decide), hb _ _ (by decide), hb _ _ (by decide), hb _ _ (by decide), h135b]
      exact congrArg nI (by omega)
    · rw [mI_sI, if_neg (by omega)]
      show mI M 129 _ = _
      rw [h.me hf hi]
      unfold mEn
      rw [hb _ _ (by decide), hb _ _ (by decide), hb _ _ (by decide), hb _ _ (by decide), hb _ _ (by decide), h135 _ (by omega)]
  · rw [hb _ _ (by decide)] at hi
    have hc2 := h.ct hf
    have h4 := h.r4 (12 * f + i)
    show mL (sL M 130 _ _) 130 _ = _
    rw [mL_sL]
    by_cases e : f = fc0 c ∧ i = l
    · obtain ⟨rfl, rfl⟩ := e
      rw [h135b] at hk
      by_cases e2 : k = cN c 135 (12 * fc0 c + i)
      · rw [if_pos ⟨rfl, by omega⟩]
        subst e2
        unfold rEn rEm
        rw [nxR_0, nxR_1, nxR_2, nxR_3, nxR_4, nxR_5]
        rfl
      · rw [if_neg (by omega), h.re hf hi (by omega)]
        unfold rEn rEm
        rw [nxR_o (by omega) (by omega) (by decide) (by omega), nxR_o (by omega) (by omega) (by decide) (by omega), nxR_o (by omega) (by omega) (by decide) (by omega), nxR_o (by omega) (by omega) (by decide) (by omega), nxR_o (by omega) (by omega) (by decide) (by omega), nxR_o (by omega) (by omega) (by decide) (by omega)]
    · rw [h135 _ (by omega)] at hk
      rw [if_neg (by omega), h.re hf hi hk]
      unfold rEn rEm
      rw [nxR_o (by omega) (by omega) (by decide) (by omega), nxR_o (by omega) (by omega) (by decide) (by omega), nxR_o (by omega) (by omega) (by decide) (by omega), nxR_o (by omega) (by omega) (by decide) (by omega), nxR_o (by omega) (by omega) (by decide) (by omega), nxR_o (by omega) (by omega) (by decide) (by omega)]
  · rw [mI_ne (by decide)]
    show mI M 131 _ = _
    rw [h.pe hv]
    unfold pEn pEf
    rw [hb _ _ (by decide), hb _ _ (by decide), hb _ _ (by decide), hb _ _ (by decide), hb _ _ (by decide), hb _ _ (by decide)]
  · rw [mI_ne (by decide)]; exact h.b0
  · rw [mI_ne (by decide)]; exact h.b1
  · rw [mI_ne (by decide), hb _ _ (by decide)]; exact h.b2
  · rw [mI_ne (by decide), hb _ _ (by decide)]; exact h.b3 hf
theorem wfI_rule {c : Cf} {l r : Nat} {x0 x1 x2 x3 x4 x5 : Int32} (hI : wfI c) (hw : WFc c) (hr : r = cN c 135 l) (h8 : r < 8) (hd : drZ (cN c 130 l) x0 x1 x2 x3 x4 x5) : wfI (nxR c l r x0 x1 x2 x3 x4 x5) := fun i k hk => by
  obtain ⟨d0, d1, d2, d3, d4, d5, d6, d7, d8, d9⟩ := hd
  rw [show cN (nxR c l r x0 x1 x2 x3 x4 x5) 130 i = cN c 130 i by rw [nxR_N, if_neg (by omega)]]
  rw [nxR_N] at hk
  have hld : leadOf (cN c 130 i) = 0 ∨ leadOf (cN c 130 i) = 1 := by unfold leadOf; split <;> omega
  have h88 := (mEn_b hw i).2.2.2.2.2
  by_cases e : i = l ∧ k = r
  · obtain ⟨rfl, rfl⟩ := e
    obtain ⟨j, j1, j2⟩ := d8
    refine ⟨j, ?_, j2⟩
    rcases hld with q | q
    · rw [q, nxR_0, ← j1, if_pos q]
    · rw [q, nxR_1, ← j1, if_neg (by omega)]
  · have hk2 : k < cN c 135 i := by
      by_cases e2 : i = l
      · rw [if_pos ⟨rfl, e2⟩] at hk; subst e2; omega
      · rw [if_neg (fun z => e2 z.2)] at hk; exact hk
    rw [nxR_o (by omega) h8 (by omega) e]
    exact hI i k hk2
theorem wfW_rule {c : Cf} {l r : Nat} {x0 x1 x2 x3 x4 x5 : Int32} (hW : wfW c) (hw : WFc c) (hr : r = cN c 135 l) (h8 : r < 8) (hd : drZ (cN c 130 l) x0 x1 x2 x3 x4 x5) : wfW (nxR c l r x0 x1 x2 x3 x4 x5) := by
  obtain ⟨d0, d1, d2, d3, d4, d5, d6, d7, d8, d9⟩ := hd
  refine ⟨fun j => by rw [nxR_N, if_neg (by omega)]; exact hW.1 j, fun i k hk h6 => ?_⟩
  rw [show cN (nxR c l r x0 x1 x2 x3 x4 x5) 130 i = cN c 130 i by rw [nxR_N, if_neg (by omega)]] at h6
  rw [nxR_N] at hk
  have h88 := (mEn_b hw i).2.2.2.2.2
  by_cases e : i = l ∧ k = r
  · obtain ⟨rfl, rfl⟩ := e
    rw [nxR_2]; exact d9 h6
  · have hk2 : k < cN c 135 i := by
      by_cases e2 : i = l
      · rw [if_pos ⟨rfl, e2⟩] at hk; subst e2; omega
      · rw [if_neg (fun z => e2 z.2)] at hk; exact hk
    rw [nxR_o (by omega) h8 (by decide) e]
    exact hW.2 i k hk2 h6
