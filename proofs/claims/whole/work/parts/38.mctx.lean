/-! the reference: contexts, and the ways through a row -/
theorem wTk_n {t i into : Nat} (ht : t < 2 ^ 31) (hi : i < 2 ^ 31) : wTk (nI t) i into = nI (if t = i then into else if t ≤ i then t else t - 1) := by
  unfold wTk
  by_cases e : t = i
  · subst e; rw [cI_t rfl, if_pos rfl]
  · rw [cI_f (fun q => e ((nI_eq ht hi).mp q)), if_neg e]
    by_cases e2 : t ≤ i
    · rw [cI_t ((nI_leI ht hi).mpr e2), if_pos e2]
    · rw [cI_f (fun q => e2 ((nI_leI ht hi).mp q)), if_neg e2, pk_sub (by omega)]
theorem wPu_n {t i m : Nat} (ht : t < 2 ^ 31) (hi : i < 2 ^ 31) : wPu (nI t) i m = nI (t + if t < i then 0 else m) := by
  unfold wPu
  by_cases e : t < i
  · rw [cI_t ((nI_ltI ht hi).mpr e), if_pos e, nI_add]
  · rw [cI_f (fun q => e ((nI_ltI ht hi).mp q)), if_neg e, nI_add]
theorem jnD_len (L : List Gl) (one two three its : Nat) (al : Int32) : (jnD L one two three its al).length = L.length - 1 - 1 := by unfold jnD; rw [cl_len, jnA_len]
theorem jn2_len (c : Cf) (f : Nat) (L : List Gl) (one two its : Nat) : (jn2 c f L one two its).length = L.length - 1 := by unfold jn2 jnC; rw [jnA_len, jnB_len, jnP_len]
theorem jn3_len (c : Cf) (f : Nat) (L : List Gl) (one two three its : Nat) : (jn3 c f L one two three its).length = L.length - 1 - 1 := by unfold jn3; rw [jnD_len, jnB_len, jnQ_len, jnP_len]
theorem ptL_len (L : List Gl) (i : Nat) (b cc d : Int32) : (ptL L i b cc d).length = L.length + mrN d := puts_len _ _ _ _ _ _
/-- where what was watched comes to stand, when a rule was done at s -/
theorem chg_w {c : Cf} {f : Nat} {L : List Gl} {l k s t : Nat} (hn : L.length ≤ 64) (hs : s ≤ t) (ht : t < L.length) (hf : fit c f L l k s) : ∃ t', chgW c f L (nI t) l k s = nI t' ∧ s ≤ t' ∧ t' ≤ t + 2 ∧ (chgL c f L l k s).length - (t' + 1) < L.length - s := by
  unfold chgW chgL
  obtain ⟨-, hf⟩ := hf
  by_cases e0 : cN c 130 l = 0
  · rw [cI_t e0, cI_t e0]; exact ⟨t, rfl, hs, by omega, by rw [num_len]; omega⟩
  · rw [cI_f e0, cI_f e0]
    by_cases e1 : cN c 130 l = 1
    · rw [cI_t e1, cI_t e1, wPu_n (by omega) (by omega), if_neg (by omega)]
      have := mrN_b (rul c l k 3)
      exact ⟨_, rfl, by omega, by omega, by rw [ptL_len]; omega⟩
    · rw [cI_f e1, cI_f e1]
      by_cases e2 : cN c 130 l = 2
      · rw [cI_t e2, cI_t e2]; exact ⟨t, rfl, hs, by omega, by rw [num_len]; omega⟩
      · rw [cI_f e2, cI_f e2]
        rcases hf with q | q | q | ⟨q, q2, -, q3⟩
        · omega
        · omega
        · omega
        have h2 := aft_b c f l (show s < L.length by omega)
        unfold lgW lgL
        by_cases e3 : rul c l k 2 = -100
        · rw [cI_t e3, cI_t e3, wTk_n (by omega) (by omega)]
          refine ⟨_, rfl, ?_, ?_, ?_⟩
          · repeat' split
            all_goals omega
          · repeat' split
            all_goals omega
          · rw [jn2_len]; repeat' split
            all_goals omega
        · rw [cI_f e3, cI_f e3]
          have q4 := (q3.resolve_left e3).1
          have h3 := aft_b c f l q2
          rw [wTk_n (by omega) (by omega), wTk_n (by split <;> (try split) <;> omega) (by omega)]
          refine ⟨_, rfl, ?_, ?_, ?_⟩
          · repeat' split
            all_goals omega
          · repeat' split
            all_goals omega
          · rw [jn3_len]; repeat' split
            all_goals omega
theorem chg_d {c : Cf} {f : Nat} {L : List Gl} {l k s : Nat} (hn : L.length ≤ 64) (ht : s < L.length) (hf : fit c f L l k s) : (chgL c f L l k s).length - chgI c l k s < L.length - s := by
  unfold chgI chgL
  obtain ⟨-, hf⟩ := hf
  by_cases e0 : cN c 130 l = 0
  · rw [cI_t e0, cI_f (by omega), num_len]; omega
  · rw [cI_f e0]
    by_cases e1 : cN c 130 l = 1
    · rw [cI_t e1, cI_t e1, ptL_len]; omega
    · rw [cI_f e1, cI_f e1]
      by_cases e2 : cN c 130 l = 2
      · rw [cI_t e2, num_len]; omega
      · rw [cI_f e2]
        unfold lgL
        by_cases e3 : rul c l k 2 = -100
        · rw [cI_t e3, jn2_len]; omega
        · rw [cI_f e3, jn3_len]; omega
def caP (c : Cf) (f : Nat) (L : List Gl) (its i : Nat) : Prop := its < cN c 129 f ∧ cN c 130 (12 * f + its) ≤ 3 ∧ ¬ skp c f (12 * f + its) (yN (gat L i)) ∧ ffA c f L (12 * f + its) i < cN c 135 (12 * f + its)
noncomputable def caL (c : Cf) (f : Nat) (L : List Gl) (its i : Nat) : List Gl := cI (caP c f L its i) (chgL c f L (12 * f + its) (ffA c f L (12 * f + its) i) i) L
noncomputable def caW (c : Cf) (f : Nat) (L : List Gl) (w : Int32) (its i : Nat) : Int32 := cI (caP c f L its i) (chgW c f L w (12 * f + its) (ffA c f L (12 * f + its) i) i) w
set_option maxRecDepth 100000 in
set_option maxHeartbeats 4000000 in
theorem sp_X12_calls {g : gG} {M : gM} {Q : Option Value ⊕ String → gM → Prop} {c : Cf} {f : Nat} {M0 : gM} {L : List Gl} {w : Int32} (h : mX c f M0 L w M) {its i : Nat} {it : Int32} (hit : it = nI its) (h12 : its < 12) (hi : i < L.length) (K : ∀ M, mX c f M0 (caL c f L its i) (caW c f L w its i) M → Q (.inl none) M) : E g 8 0 0 mX12_calls 0 [.ref 129, .int it, .int (nI i), .null] [] M Q := by
  subst hit
  have hL := h.lay
  have hf := h.hf
  have hn := h.len
  have hc := h.wf.ct f
  have hkd := (h.wf.lk (12 * f + its)).1
  have fin : ¬ caP c f L its i → mX c f M0 (caL c f L its i) (caW c f L w its i) M := fun q => by
    unfold caL caW; rw [cI_f q, cI_f q]; exact h
  refine E_bipush (v := nI 12) dX12_calls_0 (by decide) ?_
  refine E_aload_n dX12_calls_2 rfl ?_
  refine E_getIL (v := nI f) dX12_calls_3 kF_X12_279 kY_12 (Or.inl rfl) (l_128 hL) (k_128 hL) h.gf ?_
  refine E_imul_n dX12_calls_6 ?_
  refine E_iload_n dX12_calls_7 rfl ?_
  refine E_iadd_n dX12_calls_8 ?_
  refine E_istore_n dX12_calls_9 (Nat.le_of_ble_eq_true rfl) (by decide) rfl ?_
  refine E_iload_n dX12_calls_10 rfl ?_
  refine E_aload_n dX12_calls_11 rfl ?_
  refine E_getRL dX12_calls_12 kF_X12_7 kY_12 (Or.inr ⟨_, rfl⟩) (l_128 hL) (k_128 hL) (r_128_2 hL) ?_
  refine E_aload_n dX12_calls_15 rfl ?_
  refine E_getIL (v := nI f) dX12_calls_16 kF_X12_279 kY_12 (Or.inl rfl) (l_128 hL) (k_128 hL) h.gf ?_
  refine E_ialdL (v := nI (cN _ 129 _)) dX12_calls_19 (l_129 hL) (k_129 hL) rfl (by first | omega | exact h.n256 _) (by decide) (h.gc (Or.inl ⟨by decide, by decide, by decide⟩)) ?_
  refine E_icmp_ge_n (tgt := 49) dX12_calls_20 (by decide) (by omega) (by omega) (fun c_20 => ?_) (fun c_20 => ?_)
  · refine E_vret dX12_calls_49 rfl ?_
    refine K _ (fin (fun q => ?_))
    unfold caP at q
    first | omega | exact q.2.2.1 c_39
  · refine E_aload_n dX12_calls_23 rfl ?_
    refine E_getRL dX12_calls_24 kF_X12_13 kY_12 (Or.inr ⟨_, rfl⟩) (l_128 hL) (k_128 hL) (r_128_3 hL) ?_
    refine E_iload_n dX12_calls_27 rfl ?_
    refine E_ialdL (v := nI (cN _ 130 _)) dX12_calls_28 (l_130 hL) (k_130 hL) rfl (by first | omega | exact h.n256 _) (by decide) (h.gc (Or.inl ⟨by decide, by decide, by decide⟩)) ?_
    refine E_iconst (v := nI 3) dX12_calls_29 (by decide) ?_
    refine E_icmp_gt_n (tgt := 49) dX12_calls_30 (by decide) (by omega) (by omega) (fun c_30 => ?_) (fun c_30 => ?_)
    · refine E_vret dX12_calls_49 rfl ?_
      refine K _ (fin (fun q => ?_))
      unfold caP at q
      first | omega | exact q.2.2.1 c_39
    · refine E_aload_n dX12_calls_33 rfl ?_
      refine E_iload_n dX12_calls_34 rfl ?_
      refine E_iload_n dX12_calls_35 rfl ?_
      refine E_callV2 (fr' := 2) (k1 := 0) (n1 := 0) (k2 := 0) (n2 := 0) dX12_calls_36 kO_X12_skips kL_X12_285 (l_128 hL) (k_128 hL) ⟨by decide, rfl⟩ rfl rfl (by decide) (by decide) (by exact Nat.le_of_ble_eq_true rfl) rfl ?_
      refine sp_X12_skips h (by omega) (by omega) ?_
      refine gKv ?_
      refine E_if_ne_b (tgt := 49) dX12_calls_39 (by decide) (fun c_39 => ?_) (fun c_39 => ?_)
      · refine E_vret dX12_calls_49 rfl ?_
        refine K _ (fin (fun q => ?_))
        unfold caP at q
        first | omega | exact q.2.2.1 c_39
      · refine E_aload_n dX12_calls_42 rfl ?_
        refine E_iload_n dX12_calls_43 rfl ?_
        refine E_iload_n dX12_calls_44 rfl ?_
        refine E_callV2 (fr' := 7) (k1 := 0) (n1 := 0) (k2 := 0) (n2 := 0) dX12_calls_45 kO_X12_doesFirst kL_X12_329 (l_128 hL) (k_128 hL) ⟨by decide, rfl⟩ rfl rfl (by decide) (by decide) (by exact Nat.le_of_ble_eq_true rfl) rfl ?_
        refine sp_X12_doesFirst h (by omega) (by omega) (by omega) (fun hn => ?_) (fun hn M h => ?_)
        · refine gKv ?_
          refine E_pop dX12_calls_48 rfl ?_
          refine E_vret dX12_calls_49 rfl ?_
          exact K _ (fin (fun q => hn q.2.2.2))
        · refine gKv ?_
          refine E_pop dX12_calls_48 rfl ?_
          refine E_vret dX12_calls_49 rfl ?_
          refine K _ ?_
          unfold caL caW
          rw [cI_t ⟨by omega, by omega, c_39, hn⟩, cI_t ⟨by omega, by omega, c_39, hn⟩]
          exact h
noncomputable def twC (c : Cf) (f : Nat) (L : List Gl) (l k i : Nat) : Nat := cI (rul c l k 2 = -100) i (aft c f l L i)
def cfit (c : Cf) (f : Nat) (L : List Gl) (l k i : Nat) : Prop := isAt c f (rul c l k 1) (yN (gat L i)) ∧ thr c f L (rul c l k 2) (twC c f L l k i + 1) ∧ thr c f L (rul c l k 0) (ahd c f l L i) ∧ thr c f L (rul c l k 3) (aft c f l L (twC c f L l k i) + 1)
noncomputable def spo (c : Cf) (f : Nat) (L : List Gl) (l k i : Nat) : Nat := cI (rul c l k 4 = 0) i (twC c f L l k i)
noncomputable def cxL (c : Cf) (f : Nat) (L : List Gl) (l k i : Nat) : List Gl := caL c f L (gN (rul c l k 5)) (spo c f L l k i)
noncomputable def cxW (c : Cf) (f : Nat) (L : List Gl) (l k i : Nat) : Int32 := caW c f L (nI (twC c f L l k i)) (gN (rul c l k 5)) (spo c f L l k i)
theorem twC_b {c : Cf} {f : Nat} {L : List Gl} {l k i : Nat} (hi : i < L.length) (h : thr c f L (rul c l k 2) (twC c f L l k i + 1)) : i ≤ twC c f L l k i ∧ twC c f L l k i < L.length := by
  have h2 := aft_b c f l hi
  unfold twC at *
  by_cases e : rul c l k 2 = -100
  · rw [cI_t e]; omega
  · rw [cI_f e] at *
    have := h.resolve_left e
    omega
theorem ffA_f {c : Cf} {f : Nat} {L : List Gl} {l i : Nat} (h : ffA c f L l i < cN c 135 l) : fit c f L l (ffA c f L l i) i := (fnd_spec (P := fun k => fit c f L l k i) (Nat.zero_le (cN c 135 l))).2.2.1 h
theorem cx_w {c : Cf} {f : Nat} {L : List Gl} {l k i : Nat} (hn : L.length ≤ 64) (hi : i < L.length) (h : cfit c f L l k i) : ∃ t', cxW c f L l k i = nI t' ∧ i ≤ t' ∧ t' ≤ 66 ∧ (cxL c f L l k i).length - (t' + 1) < L.length - i := by
  obtain ⟨h1, h2⟩ := twC_b hi h.2.1
  have hs : i ≤ spo c f L l k i ∧ spo c f L l k i ≤ twC c f L l k i := by
    unfold spo
    by_cases e : rul c l k 4 = 0
    · rw [cI_t e]; omega
    · rw [cI_f e]; omega
  unfold cxW cxL caL caW
  by_cases e : caP c f L (gN (rul c l k 5)) (spo c f L l k i)
  · rw [cI_t e, cI_t e]
    obtain ⟨t', g1, g2, g3, g4⟩ := chg_w hn hs.2 h2 (ffA_f e.2.2.2)
    exact ⟨t', g1, by omega, by omega, by omega⟩
  · rw [cI_f e, cI_f e]
    exact ⟨_, rfl, h1, by omega, by omega⟩
noncomputable def cxI (c : Cf) (f : Nat) (L : List Gl) (l k i : Nat) : Nat := gN (cxW c f L l k i) + 1
theorem cxI_b {c : Cf} {f : Nat} {L : List Gl} {l k i : Nat} (hn : L.length ≤ 64) (hi : i < L.length) (h : cfit c f L l k i) : cxW c f L l k i + nI 1 = nI (cxI c f L l k i) ∧ nI i ≤ cxW c f L l k i ∧ i + 1 ≤ cxI c f L l k i ∧ cxI c f L l k i ≤ 67 ∧ (cxL c f L l k i).length - cxI c f L l k i < L.length - i := by
  obtain ⟨t', h1, h2, h3, h4⟩ := cx_w hn hi h
  unfold cxI
  rw [h1, gN_nI (by omega), nI_add]
  exact ⟨rfl, (nI_leI (by omega) (by omega)).mpr h2, by omega, by omega, h4⟩
set_option maxRecDepth 100000 in
set_option maxHeartbeats 4000000 in
theorem sp_X12_doesContext_t {g : gG} {M : gM} {Q : Option Value ⊕ String → gM → Prop} {c : Cf} {f : Nat} {M0 : gM} {L : List Gl} {w : Int32} (h : mX c f M0 L w M) {l k i : Nat} {v4 : Int32} (hl : l < 24) (hk : k < cN c 135 l) (hi : i < L.length) (hkd : cN c 130 l = 4) (hc : cfit c f L l k i) (K : ∀ M, mX c f M0 (cxL c f L l k i) (cxW c f L l k i) M → Q (.inl (some (.int (nI (cxI c f L l k i))))) M) : E g 9 0 0 mX12_doesContext 101 [.ref 129, .int (nI l), .int (nI k), .int (nI i), .int v4, .int (nI (twC c f L l k i))] [] M Q := by
  have hL := h.lay
  have hf := h.hf
  have hn := h.len
  have hk8 := (h.wf.lk l).2.2.2.2.2
  have hr := h.wf.ru hk
  rw [hkd] at hr
  have hr : (rul c l k 4 = 0 ∨ _) ∧ iIn (rul c l k 5) (nI 0) (nI 11) := hr.2
  obtain ⟨b1, b2⟩ := gN_ok hr.2 (by decide)
  obtain ⟨t1, t2⟩ := twC_b hi hc.2.1
  obtain ⟨x1, x2, x3, x4, x5⟩ := cxI_b hn hi hc
  refine E_aload_n dX12_doesContext_101 rfl ?_
  refine E_iload dX12_doesContext_102 rfl ?_
  refine E_putI dX12_doesContext_104 kF_X12_303 kY_12 (Or.inl rfl) (l_128 hL) (k_128 hL) (Or.inl rfl) ?_
  refine E_aload_n dX12_doesContext_107 rfl ?_
  refine E_aload_n dX12_doesContext_108 rfl ?_
  refine E_iload_n dX12_doesContext_109 rfl ?_
  refine E_iload_n dX12_doesContext_110 rfl ?_
  refine E_iconst (v := nI 5) dX12_doesContext_111 (by decide) ?_
  refine E_callV3 (fr' := 1) (k1 := 0) (n1 := 0) (k2 := 0) (n2 := 0) dX12_doesContext_112 kO_X12_numberOf kL_X12_306 (l_128 hL) (k_128 hL) ⟨by decide, rfl⟩ rfl rfl rfl (by decide) (by decide) (by exact Nat.le_of_ble_eq_true rfl) rfl ?_
  have h := h.setW (nI (twC c f L l k i))
  refine sp_X12_numberOf h (by omega) (by omega) (by decide) ?_
  refine gKv ?_
  refine E_aload_n dX12_doesContext_115 rfl ?_
  refine E_iload_n dX12_doesContext_116 rfl ?_
  refine E_iload_n dX12_doesContext_117 rfl ?_
  refine E_iconst (v := nI 4) dX12_doesContext_118 (by decide) ?_
  refine E_callV3 (fr' := 1) (k1 := 0) (n1 := 0) (k2 := 0) (n2 := 0) dX12_doesContext_119 kO_X12_numberOf kL_X12_306 (l_128 hL) (k_128 hL) ⟨by decide, rfl⟩ rfl rfl rfl (by decide) (by decide) (by exact Nat.le_of_ble_eq_true rfl) rfl ?_
  refine sp_X12_numberOf h (by omega) (by omega) (by decide) ?_
  refine gKv ?_
  refine E_if_ne_r (tgt := 129) dX12_doesContext_122 (by decide) (fun c_122 => ?_) (fun c_122 => ?_)
  · refine E_iload dX12_doesContext_129 rfl ?_
    refine E_callV2 (fr' := 8) (k1 := 0) (n1 := 0) (k2 := 0) (n2 := 0) dX12_doesContext_131 kO_X12_calls kL_X12_338 (l_128 hL) (k_128 hL) ⟨by decide, rfl⟩ rfl rfl (by decide) (by decide) (by exact Nat.le_of_ble_eq_true rfl) rfl ?_
    refine sp_X12_calls h b1 (by omega) (by omega) (fun M h => ?_)
    have hL := h.lay
    have hn := h.len
    have s1 : spo c f L l k i = _ := (by unfold spo; first | exact cI_t c_122 | exact cI_f c_122)
    have h : mX c f M0 (cxL c f L l k i) (cxW c f L l k i) M := by unfold cxL cxW; rw [s1]; exact h
    refine gKn ?_
    refine E_aload_n dX12_doesContext_134 rfl ?_
    refine E_getIL (v := _) dX12_doesContext_135 kF_X12_303 kY_12 (Or.inl rfl) (l_128 hL) (k_128 hL) h.gw ?_
    refine E_iload_n dX12_doesContext_138 rfl ?_
    refine E_icmp_ge (tgt := 148) dX12_doesContext_139 (by decide) (fun c_139 => ?_) (fun c_139 => ?_)
    · refine E_aload_n dX12_doesContext_148 rfl ?_
      refine E_getIL (v := _) dX12_doesContext_149 kF_X12_303 kY_12 (Or.inl rfl) (l_128 hL) (k_128 hL) h.gw ?_
      refine E_iconst (v := nI 1) dX12_doesContext_152 (by decide) ?_
      refine E_iadd dX12_doesContext_153 ?_
      refine E_iret dX12_doesContext_154 (Or.inl rfl) ?_
      rw [x1]
      exact K _ h
    · exact absurd x2 c_139
  · refine E_iload_n dX12_doesContext_125 rfl ?_
    refine E_goto (tgt := 131) dX12_doesContext_126 (by decide) ?_
    refine E_callV2 (fr' := 8) (k1 := 0) (n1 := 0) (k2 := 0) (n2 := 0) dX12_doesContext_131 kO_X12_calls kL_X12_338 (l_128 hL) (k_128 hL) ⟨by decide, rfl⟩ rfl rfl (by decide) (by decide) (by exact Nat.le_of_ble_eq_true rfl) rfl ?_
    refine sp_X12_calls h b1 (by omega) (by omega) (fun M h => ?_)
    have hL := h.lay
    have hn := h.len
    have s1 : spo c f L l k i = _ := (by unfold spo; first | exact cI_t c_122 | exact cI_f c_122)
    have h : mX c f M0 (cxL c f L l k i) (cxW c f L l k i) M := by unfold cxL cxW; rw [s1]; exact h
    refine gKn ?_
    refine E_aload_n dX12_doesContext_134 rfl ?_
    refine E_getIL (v := _) dX12_doesContext_135 kF_X12_303 kY_12 (Or.inl rfl) (l_128 hL) (k_128 hL) h.gw ?_
    refine E_iload_n dX12_doesContext_138 rfl ?_
    refine E_icmp_ge (tgt := 148) dX12_doesContext_139 (by decide) (fun c_139 => ?_) (fun c_139 => ?_)
    · refine E_aload_n dX12_doesContext_148 rfl ?_
      refine E_getIL (v := _) dX12_doesContext_149 kF_X12_303 kY_12 (Or.inl rfl) (l_128 hL) (k_128 hL) h.gw ?_
      refine E_iconst (v := nI 1) dX12_doesContext_152 (by decide) ?_
      refine E_iadd dX12_doesContext_153 ?_
      refine E_iret dX12_doesContext_154 (Or.inl rfl) ?_
      rw [x1]
      exact K _ h
    · exact absurd x2 c_139
set_option maxRecDepth 100000 in
set_option maxHeartbeats 4000000 in
theorem sp_X12_doesContext {g : gG} {M : gM} {Q : Option Value ⊕ String → gM → Prop} {c : Cf} {f : Nat} {M0 : gM} {L : List Gl} {w : Int32} (h : mX c f M0 L w M) {l k i : Nat} (hl : l < 24) (hk : k < cN c 135 l) (hi : i < L.length) (hkd : cN c 130 l = 4) (K0 : ¬ cfit c f L l k i → Q (.inl (some (.int (-100)))) M) (K : cfit c f L l k i → ∀ M, mX c f M0 (cxL c f L l k i) (cxW c f L l k i) M → Q (.inl (some (.int (nI (cxI c f L l k i))))) M) : E g 9 0 0 mX12_doesContext 0 [.ref 129, .int (nI l), .int (nI k), .int (nI i), .null, .null] [] M Q := by
  have hL := h.lay
  have hf := h.hf
  have hn := h.len
  have hk8 := (h.wf.lk l).2.2.2.2.2
  have hb := aft_b c f l hi
  have ha := rfd_le (P := fun k => ¬ skp c f l (yN (gat L k))) i
  have ha : ahd c f l L i ≤ i := ha
  refine E_aload_n dX12_doesContext_0 rfl ?_
  refine E_iload_n dX12_doesContext_1 rfl ?_
  refine E_iload_n dX12_doesContext_2 rfl ?_
  refine E_iconst (v := nI 2) dX12_doesContext_3 (by decide) ?_
  refine E_callV3 (fr' := 1) (k1 := 0) (n1 := 0) (k2 := 0) (n2 := 0) dX12_doesContext_4 kO_X12_numberOf kL_X12_306 (l_128 hL) (k_128 hL) ⟨by decide, rfl⟩ rfl rfl rfl (by decide) (by decide) (by exact Nat.le_of_ble_eq_true rfl) rfl ?_
  refine sp_X12_numberOf h (by omega) (by omega) (by decide) ?_
  refine gKv ?_
  refine E_istore dX12_doesContext_7 (Nat.le_of_ble_eq_true rfl) (by decide) rfl ?_
  refine E_iload dX12_doesContext_9 rfl ?_
  refine E_bipush (v := -100) dX12_doesContext_11 (by decide) ?_
  refine E_icmp_ne_r (tgt := 20) dX12_doesContext_13 (by decide) (fun c_13 => ?_) (fun c_13 => ?_)
  · refine E_aload_n dX12_doesContext_20 rfl ?_
    refine E_iload_n dX12_doesContext_21 rfl ?_
    refine E_iload_n dX12_doesContext_22 rfl ?_
    refine E_callV2 (fr' := 3) (k1 := 0) (n1 := 0) (k2 := 0) (n2 := 0) dX12_doesContext_23 kO_X12_after kL_X12_320 (l_128 hL) (k_128 hL) ⟨by decide, rfl⟩ rfl rfl (by decide) (by decide) (by exact Nat.le_of_ble_eq_true rfl) rfl ?_
    refine sp_X12_after h (by omega) (by omega) ?_
    refine gKv ?_
    refine E_istore dX12_doesContext_26 (Nat.le_of_ble_eq_true rfl) (by decide) rfl ?_
    refine E_aload_n dX12_doesContext_28 rfl ?_
    refine E_aload_n dX12_doesContext_29 rfl ?_
    refine E_iload_n dX12_doesContext_30 rfl ?_
    refine E_iload_n dX12_doesContext_31 rfl ?_
    refine E_iconst (v := nI 1) dX12_doesContext_32 (by decide) ?_
    refine E_callV3 (fr' := 1) (k1 := 0) (n1 := 0) (k2 := 0) (n2 := 0) dX12_doesContext_33 kO_X12_numberOf kL_X12_306 (l_128 hL) (k_128 hL) ⟨by decide, rfl⟩ rfl rfl rfl (by decide) (by decide) (by exact Nat.le_of_ble_eq_true rfl) rfl ?_
    refine sp_X12_numberOf h (by omega) (by omega) (by decide) ?_
    refine gKv ?_
    refine E_iload_n dX12_doesContext_36 rfl ?_
    refine E_callV2 (fr' := 2) (k1 := 0) (n1 := 0) (k2 := 0) (n2 := 0) dX12_doesContext_37 kO_X12_is kL_X12_288 (l_128 hL) (k_128 hL) ⟨by decide, rfl⟩ rfl rfl (by decide) (by decide) (by exact Nat.le_of_ble_eq_true rfl) rfl ?_
    refine sp_X12_is h (by omega) ?_
    refine gKv ?_
    refine E_if_eq_b (tgt := 74) dX12_doesContext_40 (by decide) (fun c_40 => ?_) (fun c_40 => ?_)
    · refine E_bipush (v := -100) dX12_doesContext_74 (by decide) ?_
      refine E_iret dX12_doesContext_76 (Or.inl rfl) ?_
      exact K0 (fun q => by
        first
          | exact c_40 q.1
          | (have q2 := q.2.1; rw [s1] at q2; exact c_51 q2)
          | exact c_71 q.2.2.1
          | (have q4 := q.2.2.2; rw [s1] at q4; exact c_95 q4))
    · refine E_aload_n dX12_doesContext_43 rfl ?_
      refine E_iload dX12_doesContext_44 rfl ?_
      refine E_iload dX12_doesContext_46 rfl ?_
      refine E_callV2 (fr' := 3) (k1 := 0) (n1 := 0) (k2 := 0) (n2 := 0) dX12_doesContext_48 kO_X12_isThere kL_X12_332 (l_128 hL) (k_128 hL) ⟨by decide, rfl⟩ rfl rfl (by decide) (by decide) (by exact Nat.le_of_ble_eq_true rfl) rfl ?_
      have s1 : twC c f L l k i = _ := (by unfold twC; first | exact cI_t c_13 | exact cI_f c_13)
      refine sp_X12_isThereN h (by omega) ?_
      refine gKv ?_
      refine E_if_eq_b (tgt := 74) dX12_doesContext_51 (by decide) (fun c_51 => ?_) (fun c_51 => ?_)
      · refine E_bipush (v := -100) dX12_doesContext_74 (by decide) ?_
        refine E_iret dX12_doesContext_76 (Or.inl rfl) ?_
        exact K0 (fun q => by
          first
            | exact c_40 q.1
            | (have q2 := q.2.1; rw [s1] at q2; exact c_51 q2)
            | exact c_71 q.2.2.1
            | (have q4 := q.2.2.2; rw [s1] at q4; exact c_95 q4))
      · refine E_aload_n dX12_doesContext_54 rfl ?_
        refine E_aload_n dX12_doesContext_55 rfl ?_
        refine E_iload_n dX12_doesContext_56 rfl ?_
        refine E_iload_n dX12_doesContext_57 rfl ?_
        refine E_iconst (v := nI 0) dX12_doesContext_58 (by decide) ?_
        refine E_callV3 (fr' := 1) (k1 := 0) (n1 := 0) (k2 := 0) (n2 := 0) dX12_doesContext_59 kO_X12_numberOf kL_X12_306 (l_128 hL) (k_128 hL) ⟨by decide, rfl⟩ rfl rfl rfl (by decide) (by decide) (by exact Nat.le_of_ble_eq_true rfl) rfl ?_
        refine sp_X12_numberOf h (by omega) (by omega) (by decide) ?_
        refine gKv ?_
        refine E_aload_n dX12_doesContext_62 rfl ?_
        refine E_iload_n dX12_doesContext_63 rfl ?_
        refine E_iload_n dX12_doesContext_64 rfl ?_
        refine E_callV2 (fr' := 3) (k1 := 0) (n1 := 0) (k2 := 0) (n2 := 0) dX12_doesContext_65 kO_X12_ahead kL_X12_335 (l_128 hL) (k_128 hL) ⟨by decide, rfl⟩ rfl rfl (by decide) (by decide) (by exact Nat.le_of_ble_eq_true rfl) rfl ?_
        refine sp_X12_ahead h (by omega) (by omega) ?_
        refine gKv ?_
        refine E_callV2 (fr' := 3) (k1 := 0) (n1 := 0) (k2 := 0) (n2 := 0) dX12_doesContext_68 kO_X12_isThere kL_X12_332 (l_128 hL) (k_128 hL) ⟨by decide, rfl⟩ rfl rfl (by decide) (by decide) (by exact Nat.le_of_ble_eq_true rfl) rfl ?_
        refine sp_X12_isThere h (by omega) ?_
        refine gKv ?_
        refine E_if_ne_b (tgt := 77) dX12_doesContext_71 (by decide) (fun c_71 => ?_) (fun c_71 => ?_)
        · refine E_aload_n dX12_doesContext_77 rfl ?_
          refine E_aload_n dX12_doesContext_78 rfl ?_
          refine E_iload_n dX12_doesContext_79 rfl ?_
          refine E_iload_n dX12_doesContext_80 rfl ?_
          refine E_iconst (v := nI 3) dX12_doesContext_81 (by decide) ?_
          refine E_callV3 (fr' := 1) (k1 := 0) (n1 := 0) (k2 := 0) (n2 := 0) dX12_doesContext_82 kO_X12_numberOf kL_X12_306 (l_128 hL) (k_128 hL) ⟨by decide, rfl⟩ rfl rfl rfl (by decide) (by decide) (by exact Nat.le_of_ble_eq_true rfl) rfl ?_
          refine sp_X12_numberOf h (by omega) (by omega) (by decide) ?_
          refine gKv ?_
          refine E_aload_n dX12_doesContext_85 rfl ?_
          refine E_iload_n dX12_doesContext_86 rfl ?_
          refine E_iload dX12_doesContext_87 rfl ?_
          refine E_callV2 (fr' := 3) (k1 := 0) (n1 := 0) (k2 := 0) (n2 := 0) dX12_doesContext_89 kO_X12_after kL_X12_320 (l_128 hL) (k_128 hL) ⟨by decide, rfl⟩ rfl rfl (by decide) (by decide) (by exact Nat.le_of_ble_eq_true rfl) rfl ?_
          have t0 := twC_b hi (by rw [s1]; exact c_51)
          rw [s1] at t0
          obtain ⟨t1, t2⟩ := t0
          have hb3 := aft_b c f l t2
          refine sp_X12_after h (by omega) (by omega) ?_
          refine gKv ?_
          refine E_callV2 (fr' := 3) (k1 := 0) (n1 := 0) (k2 := 0) (n2 := 0) dX12_doesContext_92 kO_X12_isThere kL_X12_332 (l_128 hL) (k_128 hL) ⟨by decide, rfl⟩ rfl rfl (by decide) (by decide) (by exact Nat.le_of_ble_eq_true rfl) rfl ?_
          refine sp_X12_isThereN h (by omega) ?_
          refine gKv ?_
          refine E_if_ne_b (tgt := 101) dX12_doesContext_95 (by decide) (fun c_95 => ?_) (fun c_95 => ?_)
          · have hc : cfit c f L l k i := ⟨c_40, by rw [s1]; exact c_51, c_71, by rw [s1]; exact c_95⟩
            have z := sp_X12_doesContext_t (g := g) (Q := Q) (v4 := rul c l k 2) h hl hk hi hkd hc (K hc)
            rw [s1] at z
            exact z
          · refine E_bipush (v := -100) dX12_doesContext_98 (by decide) ?_
            refine E_iret dX12_doesContext_100 (Or.inl rfl) ?_
            exact K0 (fun q => by
              first
                | exact c_40 q.1
                | (have q2 := q.2.1; rw [s1] at q2; exact c_51 q2)
                | exact c_71 q.2.2.1
                | (have q4 := q.2.2.2; rw [s1] at q4; exact c_95 q4))
        · refine E_bipush (v := -100) dX12_doesContext_74 (by decide) ?_
          refine E_iret dX12_doesContext_76 (Or.inl rfl) ?_
          exact K0 (fun q => by
            first
              | exact c_40 q.1
              | (have q2 := q.2.1; rw [s1] at q2; exact c_51 q2)
              | exact c_71 q.2.2.1
              | (have q4 := q.2.2.2; rw [s1] at q4; exact c_95 q4))
  · refine E_iload_n dX12_doesContext_16 rfl ?_
    refine E_goto (tgt := 26) dX12_doesContext_17 (by decide) ?_
    refine E_istore dX12_doesContext_26 (Nat.le_of_ble_eq_true rfl) (by decide) rfl ?_
    refine E_aload_n dX12_doesContext_28 rfl ?_
    refine E_aload_n dX12_doesContext_29 rfl ?_
    refine E_iload_n dX12_doesContext_30 rfl ?_
    refine E_iload_n dX12_doesContext_31 rfl ?_
    refine E_iconst (v := nI 1) dX12_doesContext_32 (by decide) ?_
    refine E_callV3 (fr' := 1) (k1 := 0) (n1 := 0) (k2 := 0) (n2 := 0) dX12_doesContext_33 kO_X12_numberOf kL_X12_306 (l_128 hL) (k_128 hL) ⟨by decide, rfl⟩ rfl rfl rfl (by decide) (by decide) (by exact Nat.le_of_ble_eq_true rfl) rfl ?_
    refine sp_X12_numberOf h (by omega) (by omega) (by decide) ?_
    refine gKv ?_
    refine E_iload_n dX12_doesContext_36 rfl ?_
    refine E_callV2 (fr' := 2) (k1 := 0) (n1 := 0) (k2 := 0) (n2 := 0) dX12_doesContext_37 kO_X12_is kL_X12_288 (l_128 hL) (k_128 hL) ⟨by decide, rfl⟩ rfl rfl (by decide) (by decide) (by exact Nat.le_of_ble_eq_true rfl) rfl ?_
    refine sp_X12_is h (by omega) ?_
    refine gKv ?_
    refine E_if_eq_b (tgt := 74) dX12_doesContext_40 (by decide) (fun c_40 => ?_) (fun c_40 => ?_)
    · refine E_bipush (v := -100) dX12_doesContext_74 (by decide) ?_
      refine E_iret dX12_doesContext_76 (Or.inl rfl) ?_
      exact K0 (fun q => by
        first
          | exact c_40 q.1
          | (have q2 := q.2.1; rw [s1] at q2; exact c_51 q2)
          | exact c_71 q.2.2.1
          | (have q4 := q.2.2.2; rw [s1] at q4; exact c_95 q4))
    · refine E_aload_n dX12_doesContext_43 rfl ?_
      refine E_iload dX12_doesContext_44 rfl ?_
      refine E_iload dX12_doesContext_46 rfl ?_
      refine E_callV2 (fr' := 3) (k1 := 0) (n1 := 0) (k2 := 0) (n2 := 0) dX12_doesContext_48 kO_X12_isThere kL_X12_332 (l_128 hL) (k_128 hL) ⟨by decide, rfl⟩ rfl rfl (by decide) (by decide) (by exact Nat.le_of_ble_eq_true rfl) rfl ?_
      have s1 : twC c f L l k i = _ := (by unfold twC; first | exact cI_t c_13 | exact cI_f c_13)
      refine sp_X12_isThereN h (by omega) ?_
      refine gKv ?_
      refine E_if_eq_b (tgt := 74) dX12_doesContext_51 (by decide) (fun c_51 => ?_) (fun c_51 => ?_)
      · refine E_bipush (v := -100) dX12_doesContext_74 (by decide) ?_
        refine E_iret dX12_doesContext_76 (Or.inl rfl) ?_
        exact K0 (fun q => by
          first
            | exact c_40 q.1
            | (have q2 := q.2.1; rw [s1] at q2; exact c_51 q2)
            | exact c_71 q.2.2.1
            | (have q4 := q.2.2.2; rw [s1] at q4; exact c_95 q4))
      · refine E_aload_n dX12_doesContext_54 rfl ?_
        refine E_aload_n dX12_doesContext_55 rfl ?_
        refine E_iload_n dX12_doesContext_56 rfl ?_
        refine E_iload_n dX12_doesContext_57 rfl ?_
        refine E_iconst (v := nI 0) dX12_doesContext_58 (by decide) ?_
        refine E_callV3 (fr' := 1) (k1 := 0) (n1 := 0) (k2 := 0) (n2 := 0) dX12_doesContext_59 kO_X12_numberOf kL_X12_306 (l_128 hL) (k_128 hL) ⟨by decide, rfl⟩ rfl rfl rfl (by decide) (by decide) (by exact Nat.le_of_ble_eq_true rfl) rfl ?_
        refine sp_X12_numberOf h (by omega) (by omega) (by decide) ?_
        refine gKv ?_
        refine E_aload_n dX12_doesContext_62 rfl ?_
        refine E_iload_n dX12_doesContext_63 rfl ?_
        refine E_iload_n dX12_doesContext_64 rfl ?_
        refine E_callV2 (fr' := 3) (k1 := 0) (n1 := 0) (k2 := 0) (n2 := 0) dX12_doesContext_65 kO_X12_ahead kL_X12_335 (l_128 hL) (k_128 hL) ⟨by decide, rfl⟩ rfl rfl (by decide) (by decide) (by exact Nat.le_of_ble_eq_true rfl) rfl ?_
        refine sp_X12_ahead h (by omega) (by omega) ?_
        refine gKv ?_
        refine E_callV2 (fr' := 3) (k1 := 0) (n1 := 0) (k2 := 0) (n2 := 0) dX12_doesContext_68 kO_X12_isThere kL_X12_332 (l_128 hL) (k_128 hL) ⟨by decide, rfl⟩ rfl rfl (by decide) (by decide) (by exact Nat.le_of_ble_eq_true rfl) rfl ?_
        refine sp_X12_isThere h (by omega) ?_
        refine gKv ?_
        refine E_if_ne_b (tgt := 77) dX12_doesContext_71 (by decide) (fun c_71 => ?_) (fun c_71 => ?_)
        · refine E_aload_n dX12_doesContext_77 rfl ?_
          refine E_aload_n dX12_doesContext_78 rfl ?_
          refine E_iload_n dX12_doesContext_79 rfl ?_
          refine E_iload_n dX12_doesContext_80 rfl ?_
          refine E_iconst (v := nI 3) dX12_doesContext_81 (by decide) ?_
          refine E_callV3 (fr' := 1) (k1 := 0) (n1 := 0) (k2 := 0) (n2 := 0) dX12_doesContext_82 kO_X12_numberOf kL_X12_306 (l_128 hL) (k_128 hL) ⟨by decide, rfl⟩ rfl rfl rfl (by decide) (by decide) (by exact Nat.le_of_ble_eq_true rfl) rfl ?_
          refine sp_X12_numberOf h (by omega) (by omega) (by decide) ?_
          refine gKv ?_
          refine E_aload_n dX12_doesContext_85 rfl ?_
          refine E_iload_n dX12_doesContext_86 rfl ?_
          refine E_iload dX12_doesContext_87 rfl ?_
          refine E_callV2 (fr' := 3) (k1 := 0) (n1 := 0) (k2 := 0) (n2 := 0) dX12_doesContext_89 kO_X12_after kL_X12_320 (l_128 hL) (k_128 hL) ⟨by decide, rfl⟩ rfl rfl (by decide) (by decide) (by exact Nat.le_of_ble_eq_true rfl) rfl ?_
          have t0 := twC_b hi (by rw [s1]; exact c_51)
          rw [s1] at t0
          obtain ⟨t1, t2⟩ := t0
          have hb3 := aft_b c f l t2
          refine sp_X12_after h (by omega) (by omega) ?_
          refine gKv ?_
          refine E_callV2 (fr' := 3) (k1 := 0) (n1 := 0) (k2 := 0) (n2 := 0) dX12_doesContext_92 kO_X12_isThere kL_X12_332 (l_128 hL) (k_128 hL) ⟨by decide, rfl⟩ rfl rfl (by decide) (by decide) (by exact Nat.le_of_ble_eq_true rfl) rfl ?_
          refine sp_X12_isThereN h (by omega) ?_
          refine gKv ?_
          refine E_if_ne_b (tgt := 101) dX12_doesContext_95 (by decide) (fun c_95 => ?_) (fun c_95 => ?_)
          · have hc : cfit c f L l k i := ⟨c_40, by rw [s1]; exact c_51, c_71, by rw [s1]; exact c_95⟩
            have z := sp_X12_doesContext_t (g := g) (Q := Q) (v4 := rul c l k 2) h hl hk hi hkd hc (K hc)
            rw [s1] at z
            exact z
          · refine E_bipush (v := -100) dX12_doesContext_98 (by decide) ?_
            refine E_iret dX12_doesContext_100 (Or.inl rfl) ?_
            exact K0 (fun q => by
              first
                | exact c_40 q.1
                | (have q2 := q.2.1; rw [s1] at q2; exact c_51 q2)
                | exact c_71 q.2.2.1
                | (have q4 := q.2.2.2; rw [s1] at q4; exact c_95 q4))
        · refine E_bipush (v := -100) dX12_doesContext_74 (by decide) ?_
          refine E_iret dX12_doesContext_76 (Or.inl rfl) ?_
          exact K0 (fun q => by
            first
              | exact c_40 q.1
              | (have q2 := q.2.1; rw [s1] at q2; exact c_51 q2)
              | exact c_71 q.2.2.1
              | (have q4 := q.2.2.2; rw [s1] at q4; exact c_95 q4))
noncomputable def ctA (c : Cf) (f : Nat) (L : List Gl) (l i : Nat) : Nat := fnd (fun k => cfit c f L l k i) (cN c 135 l) 0
theorem ctA_f {c : Cf} {f : Nat} {L : List Gl} {l i : Nat} (h : ctA c f L l i < cN c 135 l) : cfit c f L l (ctA c f L l i) i := (fnd_spec (P := fun k => cfit c f L l k i) (Nat.zero_le (cN c 135 l))).2.2.1 h
set_option maxRecDepth 100000 in
set_option maxHeartbeats 4000000 in
theorem lp_X12_contexts {g : gG} {M : gM} {Q : Option Value ⊕ String → gM → Prop} {c : Cf} {f : Nat} {M0 : gM} {L : List Gl} {w : Int32} (h : mX c f M0 L w M) {l i : Nat} (hl : l < 24) (hi : i < L.length) (hkd : cN c 130 l = 4) (K0 : ¬ ctA c f L l i < cN c 135 l → Q (.inl (some (.int (-100)))) M) (K : ctA c f L l i < cN c 135 l → ∀ M, mX c f M0 (cxL c f L l (ctA c f L l i) i) (cxW c f L l (ctA c f L l i) i) M → Q (.inl (some (.int (nI (cxI c f L l (ctA c f L l i) i))))) M) : ∀ k, k ≤ cN c 135 l → fnd (fun k => cfit c f L l k i) (cN c 135 l) k = ctA c f L l i → E g 10 0 0 mX12_contexts 6 [.ref 129, .int (nI l), .int (nI i), .int (-100), .int (nI k)] [] M Q := by
  have hL := h.lay
  have hf := h.hf
  have hn := h.len
  have hk8 := (h.wf.lk l).2.2.2.2.2
  refine lpUp (cN c 135 l) (fun k hk ih => ?_)
  intro he
  refine E_iload dX12_contexts_6 rfl ?_
  refine E_aload_n dX12_contexts_8 rfl ?_
  refine E_getRL dX12_contexts_9 kF_X12_28 kY_12 (Or.inr ⟨_, rfl⟩) (l_128 hL) (k_128 hL) (r_128_8 hL) ?_
  refine E_iload_n dX12_contexts_12 rfl ?_
  refine E_ialdL (v := nI (cN _ 135 _)) dX12_contexts_13 (l_135 hL) (k_135 hL) rfl (by first | omega | exact h.n256 _) (by decide) (h.gc (Or.inl ⟨by decide, by decide, by decide⟩)) ?_
  refine E_icmp_ge_n (tgt := 38) dX12_contexts_14 (by decide) (by omega) (by omega) (fun c_14 => ?_) (fun c_14 => ?_)
  · refine E_iload_n dX12_contexts_38 rfl ?_
    refine E_iret dX12_contexts_39 (Or.inl rfl) ?_
    exact K0 (by rw [← he, fnd_end c_14]; omega)
  · refine E_iload_n dX12_contexts_17 rfl ?_
    refine E_bipush (v := -100) dX12_contexts_18 (by decide) ?_
    refine E_icmp_ne_r (tgt := 38) dX12_contexts_20 (by decide) (fun c0 => absurd c0 (by decide)) (fun _ => ?_)
    refine E_aload_n dX12_contexts_23 rfl ?_
    refine E_iload_n dX12_contexts_24 rfl ?_
    refine E_iload dX12_contexts_25 rfl ?_
    refine E_iload_n dX12_contexts_27 rfl ?_
    refine E_callV3 (fr' := 9) (k1 := 0) (n1 := 0) (k2 := 0) (n2 := 0) dX12_contexts_28 kO_X12_doesContext kL_X12_341 (l_128 hL) (k_128 hL) ⟨by decide, rfl⟩ rfl rfl rfl (by decide) (by decide) (by exact Nat.le_of_ble_eq_true rfl) rfl ?_
    refine sp_X12_doesContext h hl c_14 hi hkd (fun hc => ?_) (fun hc M h => ?_)
    · refine gKv ?_
      refine E_istore_n dX12_contexts_31 (Nat.le_of_ble_eq_true rfl) (by decide) rfl ?_
      refine E_iinc_n (d := 1) dX12_contexts_32 rfl rfl rfl (by decide) rfl ?_
      refine E_goto (tgt := 6) dX12_contexts_35 (by decide) ?_
      exact ih c_14 (by rw [← he]; exact (fnd_skip c_14 hc).symm)
    · have he2 := he
      rw [fnd_hit c_14 hc] at he2
      have hL := h.lay
      have hx := cxI_b hn hi hc
      subst he2
      refine gKv ?_
      refine E_istore_n dX12_contexts_31 (Nat.le_of_ble_eq_true rfl) (by decide) rfl ?_
      refine E_iinc_n (d := 1) dX12_contexts_32 rfl rfl rfl (by decide) rfl ?_
      refine E_goto (tgt := 6) dX12_contexts_35 (by decide) ?_
      refine E_iload dX12_contexts_6 rfl ?_
      refine E_aload_n dX12_contexts_8 rfl ?_
      refine E_getRL dX12_contexts_9 kF_X12_28 kY_12 (Or.inr ⟨_, rfl⟩) (l_128 hL) (k_128 hL) (r_128_8 hL) ?_
      refine E_iload_n dX12_contexts_12 rfl ?_
      refine E_ialdL (v := nI (cN _ 135 _)) dX12_contexts_13 (l_135 hL) (k_135 hL) rfl (by first | omega | exact h.n256 _) (by decide) (h.gc (Or.inl ⟨by decide, by decide, by decide⟩)) ?_
      refine E_icmp_ge_n (tgt := 38) dX12_contexts_14 (by decide) (by omega) (by omega) (fun e_14 => ?_) (fun e_14 => ?_)
      · refine E_iload_n dX12_contexts_38 rfl ?_
        refine E_iret dX12_contexts_39 (Or.inl rfl) ?_
        exact K c_14 _ h
      · refine E_iload_n dX12_contexts_17 rfl ?_
        refine E_bipush (v := -100) dX12_contexts_18 (by decide) ?_
        refine E_icmp_ne (tgt := 38) dX12_contexts_20 (by decide) (fun _ => ?_) (fun c0 => absurd (nI_ne100 (by omega)) c0)
        refine E_iload_n dX12_contexts_38 rfl ?_
        refine E_iret dX12_contexts_39 (Or.inl rfl) ?_
        exact K c_14 _ h
set_option maxRecDepth 100000 in
set_option maxHeartbeats 4000000 in
theorem sp_X12_contexts {g : gG} {M : gM} {Q : Option Value ⊕ String → gM → Prop} {c : Cf} {f : Nat} {M0 : gM} {L : List Gl} {w : Int32} (h : mX c f M0 L w M) {l i : Nat} (hl : l < 24) (hi : i < L.length) (hkd : cN c 130 l = 4) (K0 : ¬ ctA c f L l i < cN c 135 l → Q (.inl (some (.int (-100)))) M) (K : ctA c f L l i < cN c 135 l → ∀ M, mX c f M0 (cxL c f L l (ctA c f L l i) i) (cxW c f L l (ctA c f L l i) i) M → Q (.inl (some (.int (nI (cxI c f L l (ctA c f L l i) i))))) M) : E g 10 0 0 mX12_contexts 0 [.ref 129, .int (nI l), .int (nI i), .null, .null] [] M Q := by
  have hL := h.lay
  have hf := h.hf
  have hn := h.len
  refine E_bipush (v := -100) dX12_contexts_0 (by decide) ?_
  refine E_istore_n dX12_contexts_2 (Nat.le_of_ble_eq_true rfl) (by decide) rfl ?_
  refine E_iconst (v := nI 0) dX12_contexts_3 (by decide) ?_
  refine E_istore dX12_contexts_4 (Nat.le_of_ble_eq_true rfl) (by decide) rfl ?_
  exact lp_X12_contexts h hl hi hkd K0 K 0 (Nat.zero_le _) rfl
def bfit (c : Cf) (f : Nat) (L : List Gl) (l k i : Nat) : Prop := isAt c f (rul c l k 1) (yN (gat L i)) ∧ thr c f L (rul c l k 0) (ahd c f l L i) ∧ thr c f L (rul c l k 2) (aft c f l L i + 1)
noncomputable def bkA (c : Cf) (f : Nat) (L : List Gl) (l i : Nat) : Nat := fnd (fun k => bfit c f L l k i) (cN c 135 l) 0
def goP (c : Cf) (f : Nat) (L : List Gl) (l i : Nat) : Prop := ¬ skp c f l (yN (gat L i)) ∧ hasF c l (gat L i)
noncomputable def gbS (c : Cf) (f l : Nat) (L : List Gl) (i : Nat) : List Gl := cI (goP c f L l i ∧ bkA c f L l i < cN c 135 l) (numL L i (gN (rul c l (bkA c f L l i) 3))) L
noncomputable def gbk (c : Cf) (f l : Nat) : Nat → List Gl → List Gl
  | 0, L => L
  | i + 1, L => gbk c f l i (gbS c f l L i)
theorem gbS_len (c : Cf) (f l : Nat) (L : List Gl) (i : Nat) : (gbS c f l L i).length = L.length := by
  unfold gbS
  by_cases h : goP c f L l i ∧ bkA c f L l i < cN c 135 l
  · rw [cI_t h, num_len]
  · rw [cI_f h]
set_option maxRecDepth 100000 in
set_option maxHeartbeats 4000000 in
theorem lp1_X12_goesBack {g : gG} {M : gM} {Q : Option Value ⊕ String → gM → Prop} {c : Cf} {f : Nat} {M0 : gM} {L : List Gl} {w : Int32} (h : mX c f M0 L w M) {l i : Nat} (hl : l < 24) (hi : i < L.length) (hkd : cN c 130 l = 5) (hg : goP c f L l i) (K : ∀ M v3 v4 v5, mX c f M0 (gbS c f l L i) w M → E g 4 0 0 mX12_goesBack 155 [.ref 129, .int (nI l), .int (nI i), v3, v4, v5] [] M Q) : ∀ k, k ≤ cN c 135 l → fnd (fun k => bfit c f L l k i) (cN c 135 l) k = bkA c f L l i → ∀ v5, E g 4 0 0 mX12_goesBack 38 [.ref 129, .int (nI l), .int (nI i), .int (nI 0), .int (nI k), v5] [] M Q := by
  have hL := h.lay
  have hf := h.hf
  have hn := h.len
  have hk8 := (h.wf.lk l).2.2.2.2.2
  have hb := aft_b c f l hi
  have ha : ahd c f l L i ≤ i := rfd_le (P := fun k => ¬ skp c f l (yN (gat L k))) i
  refine lpUp (cN c 135 l) (fun k hk ih => ?_)
  intro he v5
  refine E_iload dX12_goesBack_38 rfl ?_
  refine E_aload_n dX12_goesBack_40 rfl ?_
  refine E_getRL dX12_goesBack_41 kF_X12_28 kY_12 (Or.inr ⟨_, rfl⟩) (l_128 hL) (k_128 hL) (r_128_8 hL) ?_
  refine E_iload_n dX12_goesBack_44 rfl ?_
  refine E_ialdL (v := nI (cN _ 135 _)) dX12_goesBack_45 (l_135 hL) (k_135 hL) rfl (by first | omega | exact h.n256 _) (by decide) (h.gc (Or.inl ⟨by decide, by decide, by decide⟩)) ?_
  refine E_icmp_ge_n (tgt := 155) dX12_goesBack_46 (by decide) (by omega) (by omega) (fun c_46 => ?_) (fun c_46 => ?_)
  · refine K M _ _ _ ?_
    have e1 : gbS c f l L i = L := cI_f (fun q => by have := q.2; rw [← he, fnd_end (by omega)] at this; omega)
    rw [e1]
    exact h
  · refine E_iload_n dX12_goesBack_49 rfl ?_
    refine E_if_ne (tgt := 155) dX12_goesBack_50 (by decide) (fun c0 => absurd c0 (by decide)) (fun _ => ?_)
    refine E_aload_n dX12_goesBack_53 rfl ?_
    refine E_aload_n dX12_goesBack_54 rfl ?_
    refine E_iload_n dX12_goesBack_55 rfl ?_
    refine E_iload dX12_goesBack_56 rfl ?_
    refine E_iconst (v := nI 1) dX12_goesBack_58 (by decide) ?_
    refine E_callV3 (fr' := 1) (k1 := 0) (n1 := 0) (k2 := 0) (n2 := 0) dX12_goesBack_59 kO_X12_numberOf kL_X12_306 (l_128 hL) (k_128 hL) ⟨by decide, rfl⟩ rfl rfl rfl (by decide) (by decide) (by exact Nat.le_of_ble_eq_true rfl) rfl ?_
    refine sp_X12_numberOf h (by omega) (by omega) (by decide) ?_
    refine gKv ?_
    refine E_iload_n dX12_goesBack_62 rfl ?_
    refine E_callV2 (fr' := 2) (k1 := 0) (n1 := 0) (k2 := 0) (n2 := 0) dX12_goesBack_63 kO_X12_is kL_X12_288 (l_128 hL) (k_128 hL) ⟨by decide, rfl⟩ rfl rfl (by decide) (by decide) (by exact Nat.le_of_ble_eq_true rfl) rfl ?_
    refine sp_X12_is h (by omega) ?_
    refine gKv ?_
    refine E_if_eq_b (tgt := 115) dX12_goesBack_66 (by decide) (fun c_66 => ?_) (fun c_66 => ?_)
    · refine E_iconst (v := nI 0) dX12_goesBack_115 (by decide) ?_
      refine E_istore dX12_goesBack_116 (Nat.le_of_ble_eq_true rfl) (by decide) rfl ?_
      refine E_aload_n dX12_goesBack_118 rfl ?_
      refine E_getRL dX12_goesBack_119 kF_X12_63 kY_12 (Or.inr ⟨_, rfl⟩) (l_128 hL) (k_128 hL) (r_128_22 hL) ?_
      refine E_iload_n dX12_goesBack_122 rfl ?_
      refine E_iload dX12_goesBack_123 rfl ?_
      refine E_if_eq (tgt := 139) dX12_goesBack_125 (by decide) (fun _ => ?_) (fun c0 => absurd (by decide) c0)
      refine E_aload_n dX12_goesBack_139 rfl ?_
      refine E_getRL dX12_goesBack_140 kF_X12_63 kY_12 (Or.inr ⟨_, rfl⟩) (l_128 hL) (k_128 hL) (r_128_22 hL) ?_
      refine E_iload_n dX12_goesBack_143 rfl ?_
      refine E_ialdL (v := nI (yN (gat _ _))) dX12_goesBack_144 (l_145 hL) (k_145 hL) rfl (by first | omega | exact h.n256 _) (by decide) (h.at (by omega)).1 ?_
      refine E_iast dX12_goesBack_145 (l_145 hL) (k_145 hL) rfl (by first | omega | exact h.n256 _) (by decide) ?_
      refine E_iload dX12_goesBack_146 rfl ?_
      refine E_istore_n dX12_goesBack_148 (Nat.le_of_ble_eq_true rfl) (by decide) rfl ?_
      refine E_iinc_n (d := 1) dX12_goesBack_149 rfl rfl rfl (by decide) rfl ?_
      refine E_goto (tgt := 38) dX12_goesBack_152 (by decide) ?_
      rw [sI_same (h.at hi).1]
      exact ih (by omega) (by rw [← he]; exact (fnd_skip (by omega) (fun q => by first | exact c_66 q.1 | exact c_87 q.2.1 | exact c_108 q.2.2)).symm) _
    · refine E_aload_n dX12_goesBack_69 rfl ?_
      refine E_aload_n dX12_goesBack_70 rfl ?_
      refine E_iload_n dX12_goesBack_71 rfl ?_
      refine E_iload dX12_goesBack_72 rfl ?_
      refine E_iconst (v := nI 0) dX12_goesBack_74 (by decide) ?_
      refine E_callV3 (fr' := 1) (k1 := 0) (n1 := 0) (k2 := 0) (n2 := 0) dX12_goesBack_75 kO_X12_numberOf kL_X12_306 (l_128 hL) (k_128 hL) ⟨by decide, rfl⟩ rfl rfl rfl (by decide) (by decide) (by exact Nat.le_of_ble_eq_true rfl) rfl ?_
      refine sp_X12_numberOf h (by omega) (by omega) (by decide) ?_
      refine gKv ?_
      refine E_aload_n dX12_goesBack_78 rfl ?_
      refine E_iload_n dX12_goesBack_79 rfl ?_
      refine E_iload_n dX12_goesBack_80 rfl ?_
      refine E_callV2 (fr' := 3) (k1 := 0) (n1 := 0) (k2 := 0) (n2 := 0) dX12_goesBack_81 kO_X12_ahead kL_X12_335 (l_128 hL) (k_128 hL) ⟨by decide, rfl⟩ rfl rfl (by decide) (by decide) (by exact Nat.le_of_ble_eq_true rfl) rfl ?_
      refine sp_X12_ahead h (by omega) (by omega) ?_
      refine gKv ?_
      refine E_callV2 (fr' := 3) (k1 := 0) (n1 := 0) (k2 := 0) (n2 := 0) dX12_goesBack_84 kO_X12_isThere kL_X12_332 (l_128 hL) (k_128 hL) ⟨by decide, rfl⟩ rfl rfl (by decide) (by decide) (by exact Nat.le_of_ble_eq_true rfl) rfl ?_
      refine sp_X12_isThere h (by omega) ?_
      refine gKv ?_
      refine E_if_eq_b (tgt := 115) dX12_goesBack_87 (by decide) (fun c_87 => ?_) (fun c_87 => ?_)
      · refine E_iconst (v := nI 0) dX12_goesBack_115 (by decide) ?_
        refine E_istore dX12_goesBack_116 (Nat.le_of_ble_eq_true rfl) (by decide) rfl ?_
        refine E_aload_n dX12_goesBack_118 rfl ?_
        refine E_getRL dX12_goesBack_119 kF_X12_63 kY_12 (Or.inr ⟨_, rfl⟩) (l_128 hL) (k_128 hL) (r_128_22 hL) ?_
        refine E_iload_n dX12_goesBack_122 rfl ?_
        refine E_iload dX12_goesBack_123 rfl ?_
        refine E_if_eq (tgt := 139) dX12_goesBack_125 (by decide) (fun _ => ?_) (fun c0 => absurd (by decide) c0)
        refine E_aload_n dX12_goesBack_139 rfl ?_
        refine E_getRL dX12_goesBack_140 kF_X12_63 kY_12 (Or.inr ⟨_, rfl⟩) (l_128 hL) (k_128 hL) (r_128_22 hL) ?_
        refine E_iload_n dX12_goesBack_143 rfl ?_
        refine E_ialdL (v := nI (yN (gat _ _))) dX12_goesBack_144 (l_145 hL) (k_145 hL) rfl (by first | omega | exact h.n256 _) (by decide) (h.at (by omega)).1 ?_
        refine E_iast dX12_goesBack_145 (l_145 hL) (k_145 hL) rfl (by first | omega | exact h.n256 _) (by decide) ?_
        refine E_iload dX12_goesBack_146 rfl ?_
        refine E_istore_n dX12_goesBack_148 (Nat.le_of_ble_eq_true rfl) (by decide) rfl ?_
        refine E_iinc_n (d := 1) dX12_goesBack_149 rfl rfl rfl (by decide) rfl ?_
        refine E_goto (tgt := 38) dX12_goesBack_152 (by decide) ?_
        rw [sI_same (h.at hi).1]
        exact ih (by omega) (by rw [← he]; exact (fnd_skip (by omega) (fun q => by first | exact c_66 q.1 | exact c_87 q.2.1 | exact c_108 q.2.2)).symm) _
      · refine E_aload_n dX12_goesBack_90 rfl ?_
        refine E_aload_n dX12_goesBack_91 rfl ?_
        refine E_iload_n dX12_goesBack_92 rfl ?_
        refine E_iload dX12_goesBack_93 rfl ?_
        refine E_iconst (v := nI 2) dX12_goesBack_95 (by decide) ?_
        refine E_callV3 (fr' := 1) (k1 := 0) (n1 := 0) (k2 := 0) (n2 := 0) dX12_goesBack_96 kO_X12_numberOf kL_X12_306 (l_128 hL) (k_128 hL) ⟨by decide, rfl⟩ rfl rfl rfl (by decide) (by decide) (by exact Nat.le_of_ble_eq_true rfl) rfl ?_
        refine sp_X12_numberOf h (by omega) (by omega) (by decide) ?_
        refine gKv ?_
        refine E_aload_n dX12_goesBack_99 rfl ?_
        refine E_iload_n dX12_goesBack_100 rfl ?_
        refine E_iload_n dX12_goesBack_101 rfl ?_
        refine E_callV2 (fr' := 3) (k1 := 0) (n1 := 0) (k2 := 0) (n2 := 0) dX12_goesBack_102 kO_X12_after kL_X12_320 (l_128 hL) (k_128 hL) ⟨by decide, rfl⟩ rfl rfl (by decide) (by decide) (by exact Nat.le_of_ble_eq_true rfl) rfl ?_
        refine sp_X12_after h (by omega) (by omega) ?_
        refine gKv ?_
        refine E_callV2 (fr' := 3) (k1 := 0) (n1 := 0) (k2 := 0) (n2 := 0) dX12_goesBack_105 kO_X12_isThere kL_X12_332 (l_128 hL) (k_128 hL) ⟨by decide, rfl⟩ rfl rfl (by decide) (by decide) (by exact Nat.le_of_ble_eq_true rfl) rfl ?_
        refine sp_X12_isThereN h (by omega) ?_
        refine gKv ?_
        refine E_if_eq_b (tgt := 115) dX12_goesBack_108 (by decide) (fun c_108 => ?_) (fun c_108 => ?_)
        · refine E_iconst (v := nI 0) dX12_goesBack_115 (by decide) ?_
          refine E_istore dX12_goesBack_116 (Nat.le_of_ble_eq_true rfl) (by decide) rfl ?_
          refine E_aload_n dX12_goesBack_118 rfl ?_
          refine E_getRL dX12_goesBack_119 kF_X12_63 kY_12 (Or.inr ⟨_, rfl⟩) (l_128 hL) (k_128 hL) (r_128_22 hL) ?_
          refine E_iload_n dX12_goesBack_122 rfl ?_
          refine E_iload dX12_goesBack_123 rfl ?_
          refine E_if_eq (tgt := 139) dX12_goesBack_125 (by decide) (fun _ => ?_) (fun c0 => absurd (by decide) c0)
          refine E_aload_n dX12_goesBack_139 rfl ?_
          refine E_getRL dX12_goesBack_140 kF_X12_63 kY_12 (Or.inr ⟨_, rfl⟩) (l_128 hL) (k_128 hL) (r_128_22 hL) ?_
          refine E_iload_n dX12_goesBack_143 rfl ?_
          refine E_ialdL (v := nI (yN (gat _ _))) dX12_goesBack_144 (l_145 hL) (k_145 hL) rfl (by first | omega | exact h.n256 _) (by decide) (h.at (by omega)).1 ?_
          refine E_iast dX12_goesBack_145 (l_145 hL) (k_145 hL) rfl (by first | omega | exact h.n256 _) (by decide) ?_
          refine E_iload dX12_goesBack_146 rfl ?_
          refine E_istore_n dX12_goesBack_148 (Nat.le_of_ble_eq_true rfl) (by decide) rfl ?_
          refine E_iinc_n (d := 1) dX12_goesBack_149 rfl rfl rfl (by decide) rfl ?_
          refine E_goto (tgt := 38) dX12_goesBack_152 (by decide) ?_
          rw [sI_same (h.at hi).1]
          exact ih (by omega) (by rw [← he]; exact (fnd_skip (by omega) (fun q => by first | exact c_66 q.1 | exact c_87 q.2.1 | exact c_108 q.2.2)).symm) _
        · have hfit : bfit c f L l k i := ⟨c_66, c_87, c_108⟩
          have hr := h.wf.ru (show k < cN c 135 l by omega)
          rw [hkd] at hr
          obtain ⟨b1, b2⟩ := gN_ok (iF5 hr.1).2.2.2 (by decide)
          have h5 := h.putN (v := gN (rul c l k 3)) hi (by omega)
          rw [← b1] at h5
          rw [fnd_hit (P := fun k => bfit c f L l k i) (by omega) hfit] at he
          have e1 : gbS c f l L i = numL L i (gN (rul c l (bkA c f L l i) 3)) := cI_t ⟨hg, by omega⟩
          rw [← he] at e1
          rw [e1] at K
          refine E_iconst (v := nI 1) dX12_goesBack_111 (by decide) ?_
          refine E_goto (tgt := 116) dX12_goesBack_112 (by decide) ?_
          refine E_istore dX12_goesBack_116 (Nat.le_of_ble_eq_true rfl) (by decide) rfl ?_
          refine E_aload_n dX12_goesBack_118 rfl ?_
          refine E_getRL dX12_goesBack_119 kF_X12_63 kY_12 (Or.inr ⟨_, rfl⟩) (l_128 hL) (k_128 hL) (r_128_22 hL) ?_
          refine E_iload_n dX12_goesBack_122 rfl ?_
          refine E_iload dX12_goesBack_123 rfl ?_
          refine E_if_eq (tgt := 139) dX12_goesBack_125 (by decide) (fun c0 => absurd c0 (by decide)) (fun _ => ?_)
          refine E_aload_n dX12_goesBack_128 rfl ?_
          refine E_iload_n dX12_goesBack_129 rfl ?_
          refine E_iload dX12_goesBack_130 rfl ?_
          refine E_iconst (v := nI 3) dX12_goesBack_132 (by decide) ?_
          refine E_callV3 (fr' := 1) (k1 := 0) (n1 := 0) (k2 := 0) (n2 := 0) dX12_goesBack_133 kO_X12_numberOf kL_X12_306 (l_128 hL) (k_128 hL) ⟨by decide, rfl⟩ rfl rfl rfl (by decide) (by decide) (by exact Nat.le_of_ble_eq_true rfl) rfl ?_
          refine sp_X12_numberOf h (by omega) (by omega) (by decide) ?_
          refine gKv ?_
          refine E_goto (tgt := 145) dX12_goesBack_136 (by decide) ?_
          refine E_iast dX12_goesBack_145 (l_145 hL) (k_145 hL) rfl (by first | omega | exact h.n256 _) (by decide) ?_
          refine E_iload dX12_goesBack_146 rfl ?_
          refine E_istore_n dX12_goesBack_148 (Nat.le_of_ble_eq_true rfl) (by decide) rfl ?_
          refine E_iinc_n (d := 1) dX12_goesBack_149 rfl rfl rfl (by decide) rfl ?_
          refine E_goto (tgt := 38) dX12_goesBack_152 (by decide) ?_
          refine E_iload dX12_goesBack_38 rfl ?_
          refine E_aload_n dX12_goesBack_40 rfl ?_
          refine E_getRL dX12_goesBack_41 kF_X12_28 kY_12 (Or.inr ⟨_, rfl⟩) (l_128 hL) (k_128 hL) (r_128_8 hL) ?_
          refine E_iload_n dX12_goesBack_44 rfl ?_
          refine E_ialdL (v := nI (cN _ 135 _)) dX12_goesBack_45 (l_135 hL) (k_135 hL) rfl (by first | omega | exact h.n256 _) (by decide) (h.gc (Or.inl ⟨by decide, by decide, by decide⟩)) ?_
          refine E_icmp_ge_n (tgt := 155) dX12_goesBack_46 (by decide) (by omega) (by omega) (fun i_46 => ?_) (fun i_46 => ?_)
          · exact K _ _ _ _ h5
          · refine E_iload_n dX12_goesBack_49 rfl ?_
            refine E_if_ne (tgt := 155) dX12_goesBack_50 (by decide) (fun _ => ?_) (fun c0 => absurd (by decide) c0)
            exact K _ _ _ _ h5
set_option maxRecDepth 100000 in
set_option maxHeartbeats 4000000 in
theorem lp_X12_goesBack {g : gG} {Q : Option Value ⊕ String → gM → Prop} {c : Cf} {f : Nat} {M0 : gM} {w : Int32} {l : Nat} (hl : l < 24) (hkd : cN c 130 l = 5) : ∀ i, 0 ≤ i → ∀ (L : List Gl) (M : gM), mX c f M0 L w M → i ≤ L.length → (∀ M, mX c f M0 (gbk c f l i L) w M → Q (.inl none) M) → ∀ v3 v4 v5, E g 4 0 0 mX12_goesBack 7 [.ref 129, .int (nI l), .int (dI i), v3, v4, v5] [] M Q := by
  refine lpDn 0 (fun i _ ih => ?_)
  intro L M h hil K v3 v4 v5
  have hL := h.lay
  have hf := h.hf
  have hn := h.len
  have hk8 := (h.wf.lk l).2.2.2.2.2
  refine E_iload_n dX12_goesBack_7 rfl ?_
  refine E_if_lt_d (tgt := 161) dX12_goesBack_8 (by decide) (by omega) (fun c_8 => ?_) (fun c_8 => ?_)
  · refine E_vret dX12_goesBack_161 rfl ?_
    subst c_8; exact K M h
  · obtain ⟨i, rfl⟩ : ∃ z, i = z + 1 := ⟨i - 1, by omega⟩
    rw [dI_succ]
    have K2 : ∀ M v3 v4 v5, mX c f M0 (gbS c f l L i) w M → E g 4 0 0 mX12_goesBack 155 [.ref 129, .int (nI l), .int (nI i), v3, v4, v5] [] M Q := by
      intro M v3 v4 v5 h
      refine E_iinc_d dX12_goesBack_155 rfl rfl (by decide) rfl ?_
      refine E_goto (tgt := 7) dX12_goesBack_158 (by decide) ?_
      exact ih (by omega) _ _ h (by rw [gbS_len]; omega) K _ _ _
    refine E_aload_n dX12_goesBack_11 rfl ?_
    refine E_iload_n dX12_goesBack_12 rfl ?_
    refine E_iload_n dX12_goesBack_13 rfl ?_
    refine E_callV2 (fr' := 2) (k1 := 0) (n1 := 0) (k2 := 0) (n2 := 0) dX12_goesBack_14 kO_X12_skips kL_X12_285 (l_128 hL) (k_128 hL) ⟨by decide, rfl⟩ rfl rfl (by decide) (by decide) (by exact Nat.le_of_ble_eq_true rfl) rfl ?_
    refine sp_X12_skips h (by omega) (by omega) ?_
    refine gKv ?_
    refine E_if_ne_b (tgt := 29) dX12_goesBack_17 (by decide) (fun c_17 => ?_) (fun c_17 => ?_)
    · have e1 : gbS c f l L i = L := cI_f (fun q => by first | exact q.1.1 c_17 | exact c_26 q.1.2)
      rw [e1] at K2
      refine E_iconst (v := nI 1) dX12_goesBack_29 (by decide) ?_
      refine E_goto (tgt := 34) dX12_goesBack_30 (by decide) ?_
      refine E_istore_n dX12_goesBack_34 (Nat.le_of_ble_eq_true rfl) (by decide) rfl ?_
      refine E_iconst (v := nI 0) dX12_goesBack_35 (by decide) ?_
      refine E_istore dX12_goesBack_36 (Nat.le_of_ble_eq_true rfl) (by decide) rfl ?_
      refine E_iload dX12_goesBack_38 rfl ?_
      refine E_aload_n dX12_goesBack_40 rfl ?_
      refine E_getRL dX12_goesBack_41 kF_X12_28 kY_12 (Or.inr ⟨_, rfl⟩) (l_128 hL) (k_128 hL) (r_128_8 hL) ?_
      refine E_iload_n dX12_goesBack_44 rfl ?_
      refine E_ialdL (v := nI (cN _ 135 _)) dX12_goesBack_45 (l_135 hL) (k_135 hL) rfl (by first | omega | exact h.n256 _) (by decide) (h.gc (Or.inl ⟨by decide, by decide, by decide⟩)) ?_
      refine E_icmp_ge_n (tgt := 155) dX12_goesBack_46 (by decide) (by omega) (by omega) (fun i_46 => ?_) (fun i_46 => ?_)
      · exact K2 _ _ _ _ h
      · refine E_iload_n dX12_goesBack_49 rfl ?_
        refine E_if_ne (tgt := 155) dX12_goesBack_50 (by decide) (fun _ => ?_) (fun c0 => absurd (by decide) c0)
        exact K2 _ _ _ _ h
    · refine E_aload_n dX12_goesBack_20 rfl ?_
      refine E_iload_n dX12_goesBack_21 rfl ?_
      refine E_iload_n dX12_goesBack_22 rfl ?_
      refine E_callV2 (fr' := 1) (k1 := 0) (n1 := 0) (k2 := 0) (n2 := 0) dX12_goesBack_23 kO_X12_has kL_X12_344 (l_128 hL) (k_128 hL) ⟨by decide, rfl⟩ rfl rfl (by decide) (by decide) (by exact Nat.le_of_ble_eq_true rfl) rfl ?_
      refine sp_X12_has h (by omega) (by omega) ?_
      refine gKv ?_
      refine E_if_ne_b (tgt := 33) dX12_goesBack_26 (by decide) (fun c_26 => ?_) (fun c_26 => ?_)
      · refine E_iconst (v := nI 0) dX12_goesBack_33 (by decide) ?_
        refine E_istore_n dX12_goesBack_34 (Nat.le_of_ble_eq_true rfl) (by decide) rfl ?_
        refine E_iconst (v := nI 0) dX12_goesBack_35 (by decide) ?_
        refine E_istore dX12_goesBack_36 (Nat.le_of_ble_eq_true rfl) (by decide) rfl ?_
        exact lp1_X12_goesBack h hl hil hkd ⟨c_17, c_26⟩ K2 0 (Nat.zero_le _) rfl _
      · have e1 : gbS c f l L i = L := cI_f (fun q => by first | exact q.1.1 c_17 | exact c_26 q.1.2)
        rw [e1] at K2
        refine E_iconst (v := nI 1) dX12_goesBack_29 (by decide) ?_
        refine E_goto (tgt := 34) dX12_goesBack_30 (by decide) ?_
        refine E_istore_n dX12_goesBack_34 (Nat.le_of_ble_eq_true rfl) (by decide) rfl ?_
        refine E_iconst (v := nI 0) dX12_goesBack_35 (by decide) ?_
        refine E_istore dX12_goesBack_36 (Nat.le_of_ble_eq_true rfl) (by decide) rfl ?_
        refine E_iload dX12_goesBack_38 rfl ?_
        refine E_aload_n dX12_goesBack_40 rfl ?_
        refine E_getRL dX12_goesBack_41 kF_X12_28 kY_12 (Or.inr ⟨_, rfl⟩) (l_128 hL) (k_128 hL) (r_128_8 hL) ?_
        refine E_iload_n dX12_goesBack_44 rfl ?_
        refine E_ialdL (v := nI (cN _ 135 _)) dX12_goesBack_45 (l_135 hL) (k_135 hL) rfl (by first | omega | exact h.n256 _) (by decide) (h.gc (Or.inl ⟨by decide, by decide, by decide⟩)) ?_
        refine E_icmp_ge_n (tgt := 155) dX12_goesBack_46 (by decide) (by omega) (by omega) (fun i_46 => ?_) (fun i_46 => ?_)
        · exact K2 _ _ _ _ h
        · refine E_iload_n dX12_goesBack_49 rfl ?_
          refine E_if_ne (tgt := 155) dX12_goesBack_50 (by decide) (fun _ => ?_) (fun c0 => absurd (by decide) c0)
          exact K2 _ _ _ _ h
set_option maxRecDepth 100000 in
set_option maxHeartbeats 4000000 in
theorem sp_X12_goesBack {g : gG} {M : gM} {Q : Option Value ⊕ String → gM → Prop} {c : Cf} {f : Nat} {M0 : gM} {L : List Gl} {w : Int32} (h : mX c f M0 L w M) {l : Nat} (hl : l < 24) (hkd : cN c 130 l = 5) (K : ∀ M, mX c f M0 (gbk c f l L.length L) w M → Q (.inl none) M) : E g 4 0 0 mX12_goesBack 0 [.ref 129, .int (nI l), .null, .null, .null, .null] [] M Q := by
  have hL := h.lay
  have hf := h.hf
  have hn := h.len
  refine E_aload_n dX12_goesBack_0 rfl ?_
  refine E_getIL (v := nI _) dX12_goesBack_1 kF_X12_235 kY_12 (Or.inl rfl) (l_128 hL) (k_128 hL) h.gn ?_
  refine E_iconst (v := nI 1) dX12_goesBack_4 (by decide) ?_
  refine E_isub_d dX12_goesBack_5 ?_
  refine E_istore_n dX12_goesBack_6 (Nat.le_of_ble_eq_true rfl) (by decide) rfl ?_
  exact lp_X12_goesBack hl hkd L.length (Nat.zero_le _) L M h (Nat.le_refl _) K _ _ _
noncomputable def goL (c : Cf) (f l : Nat) (L : List Gl) (i : Nat) : List Gl := cI (goP c f L l i) (cI (cN c 130 l = 4) (cI (ctA c f L l i < cN c 135 l) (cxL c f L l (ctA c f L l i) i) L) (cI (ffA c f L l i < cN c 135 l) (chgL c f L l (ffA c f L l i) i) L)) L
noncomputable def goI (c : Cf) (f l : Nat) (L : List Gl) (i : Nat) : Nat := cI (goP c f L l i) (cI (cN c 130 l = 4) (cI (ctA c f L l i < cN c 135 l) (cxI c f L l (ctA c f L l i) i) (i + 1)) (cI (ffA c f L l i < cN c 135 l) (chgI c l (ffA c f L l i) i) (i + 1))) (i + 1)
noncomputable def gos (c : Cf) (f l : Nat) : Nat → List Gl → Nat → List Gl
  | 0, L, _ => L
  | t + 1, L, i => cI (i < L.length) (gos c f l t (goL c f l L i) (goI c f l L i)) L
theorem go_b {c : Cf} {f l : Nat} {L : List Gl} {i : Nat} (hn : L.length ≤ 64) (hi : i < L.length) : i + 1 ≤ goI c f l L i ∧ goI c f l L i ≤ 67 ∧ (goL c f l L i).length - goI c f l L i < L.length - i := by
  unfold goI goL
  by_cases h : goP c f L l i
  · rw [cI_t h, cI_t h]
    by_cases h2 : cN c 130 l = 4
    · rw [cI_t h2, cI_t h2]
      by_cases h3 : ctA c f L l i < cN c 135 l
      · rw [cI_t h3, cI_t h3]
        obtain ⟨-, -, x3, x4, x5⟩ := cxI_b hn hi (ctA_f h3)
        exact ⟨x3, x4, x5⟩
      · rw [cI_f h3, cI_f h3]; omega
    · rw [cI_f h2, cI_f h2]
      by_cases h3 : ffA c f L l i < cN c 135 l
      · rw [cI_t h3, cI_t h3]
        have h4 := chg_d hn hi (ffA_f h3)
        have h5 := chgI_b c l (ffA c f L l i) i
        omega
      · rw [cI_f h3, cI_f h3]; omega
  · rw [cI_f h, cI_f h]; omega
set_option maxRecDepth 100000 in
set_option maxHeartbeats 4000000 in
theorem st_X12_goesThrough {g : gG} {M : gM} {Q : Option Value ⊕ String → gM → Prop} {c : Cf} {f : Nat} {M0 : gM} {L : List Gl} {w : Int32} (h : mX c f M0 L w M) {l i : Nat} (hl : l < 24) (hkd : cN c 130 l ≤ 4) (hi : i < L.length) (K : ∀ M w v3, mX c f M0 (goL c f l L i) w M → E g 11 0 0 mX12_goesThrough 2 [.ref 129, .int (nI l), .int (nI (goI c f l L i)), v3] [] M Q) : ∀ v3, E g 11 0 0 mX12_goesThrough 10 [.ref 129, .int (nI l), .int (nI i), v3] [] M Q := by
  have hL := h.lay
  have hf := h.hf
  have hn := h.len
  intro v3
  have hb := go_b (c := c) (f := f) (l := l) hn hi
  unfold goL goI at K hb
  refine E_bipush (v := -100) dX12_goesThrough_10 (by decide) ?_
  refine E_istore_n dX12_goesThrough_12 (Nat.le_of_ble_eq_true rfl) (by decide) rfl ?_
  refine E_aload_n dX12_goesThrough_13 rfl ?_
  refine E_iload_n dX12_goesThrough_14 rfl ?_
  refine E_iload_n dX12_goesThrough_15 rfl ?_
  refine E_callV2 (fr' := 2) (k1 := 0) (n1 := 0) (k2 := 0) (n2 := 0) dX12_goesThrough_16 kO_X12_skips kL_X12_285 (l_128 hL) (k_128 hL) ⟨by decide, rfl⟩ rfl rfl (by decide) (by decide) (by exact Nat.le_of_ble_eq_true rfl) rfl ?_
  refine sp_X12_skips h (by omega) (by omega) ?_
  refine gKv ?_
  refine E_if_ne_b (tgt := 57) dX12_goesThrough_19 (by decide) (fun c_19 => ?_) (fun c_19 => ?_)
  · rw [cI_f (fun q => by first | exact q.1 c_19 | exact c_28 q.2), cI_f (fun q => by first | exact q.1 c_19 | exact c_28 q.2)] at K
    refine E_iload_n dX12_goesThrough_57 rfl ?_
    refine E_bipush (v := -100) dX12_goesThrough_58 (by decide) ?_
    refine E_icmp_ne_r (tgt := 69) dX12_goesThrough_60 (by decide) (fun c0 => absurd c0 (by decide)) (fun _ => ?_)
    refine E_iload_n dX12_goesThrough_63 rfl ?_
    refine E_iconst (v := nI 1) dX12_goesThrough_64 (by decide) ?_
    refine E_iadd_n dX12_goesThrough_65 ?_
    refine E_goto (tgt := 70) dX12_goesThrough_66 (by decide) ?_
    refine E_istore_n dX12_goesThrough_70 (Nat.le_of_ble_eq_true rfl) (by decide) rfl ?_
    refine E_goto (tgt := 2) dX12_goesThrough_71 (by decide) ?_
    exact K _ _ _ h
  · refine E_aload_n dX12_goesThrough_22 rfl ?_
    refine E_iload_n dX12_goesThrough_23 rfl ?_
    refine E_iload_n dX12_goesThrough_24 rfl ?_
    refine E_callV2 (fr' := 1) (k1 := 0) (n1 := 0) (k2 := 0) (n2 := 0) dX12_goesThrough_25 kO_X12_has kL_X12_344 (l_128 hL) (k_128 hL) ⟨by decide, rfl⟩ rfl rfl (by decide) (by decide) (by exact Nat.le_of_ble_eq_true rfl) rfl ?_
    refine sp_X12_has h (by omega) (by omega) ?_
    refine gKv ?_
    refine E_if_eq_b (tgt := 57) dX12_goesThrough_28 (by decide) (fun c_28 => ?_) (fun c_28 => ?_)
    · rw [cI_f (fun q => by first | exact q.1 c_19 | exact c_28 q.2), cI_f (fun q => by first | exact q.1 c_19 | exact c_28 q.2)] at K
      refine E_iload_n dX12_goesThrough_57 rfl ?_
      refine E_bipush (v := -100) dX12_goesThrough_58 (by decide) ?_
      refine E_icmp_ne_r (tgt := 69) dX12_goesThrough_60 (by decide) (fun c0 => absurd c0 (by decide)) (fun _ => ?_)
      refine E_iload_n dX12_goesThrough_63 rfl ?_
      refine E_iconst (v := nI 1) dX12_goesThrough_64 (by decide) ?_
      refine E_iadd_n dX12_goesThrough_65 ?_
      refine E_goto (tgt := 70) dX12_goesThrough_66 (by decide) ?_
      refine E_istore_n dX12_goesThrough_70 (Nat.le_of_ble_eq_true rfl) (by decide) rfl ?_
      refine E_goto (tgt := 2) dX12_goesThrough_71 (by decide) ?_
      exact K _ _ _ h
    · refine E_aload_n dX12_goesThrough_31 rfl ?_
      refine E_getRL dX12_goesThrough_32 kF_X12_13 kY_12 (Or.inr ⟨_, rfl⟩) (l_128 hL) (k_128 hL) (r_128_3 hL) ?_
      refine E_iload_n dX12_goesThrough_35 rfl ?_
      refine E_ialdL (v := nI (cN _ 130 _)) dX12_goesThrough_36 (l_130 hL) (k_130 hL) rfl (by first | omega | exact h.n256 _) (by decide) (h.gc (Or.inl ⟨by decide, by decide, by decide⟩)) ?_
      refine E_iconst (v := nI 4) dX12_goesThrough_37 (by decide) ?_
      refine E_icmp_ne_n (tgt := 50) dX12_goesThrough_38 (by decide) (by omega) (by omega) (fun c_38 => ?_) (fun c_38 => ?_)
      · refine E_aload_n dX12_goesThrough_50 rfl ?_
        refine E_iload_n dX12_goesThrough_51 rfl ?_
        refine E_iload_n dX12_goesThrough_52 rfl ?_
        refine E_callV2 (fr' := 7) (k1 := 0) (n1 := 0) (k2 := 0) (n2 := 0) dX12_goesThrough_53 kO_X12_doesFirst kL_X12_329 (l_128 hL) (k_128 hL) ⟨by decide, rfl⟩ rfl rfl (by decide) (by decide) (by exact Nat.le_of_ble_eq_true rfl) rfl ?_
        rw [cI_t (show goP c f L l i from ⟨c_19, c_28⟩), cI_t (show goP c f L l i from ⟨c_19, c_28⟩), cI_f c_38, cI_f c_38] at K hb
        refine sp_X12_doesFirst h hl hi (by omega) (fun hc => ?_) (fun hc M h => ?_)
        · rw [cI_f hc, cI_f hc] at K
          refine gKv ?_
          refine E_istore_n dX12_goesThrough_56 (Nat.le_of_ble_eq_true rfl) (by decide) rfl ?_
          refine E_iload_n dX12_goesThrough_57 rfl ?_
          refine E_bipush (v := -100) dX12_goesThrough_58 (by decide) ?_
          refine E_icmp_ne_r (tgt := 69) dX12_goesThrough_60 (by decide) (fun c0 => absurd c0 (by decide)) (fun _ => ?_)
          refine E_iload_n dX12_goesThrough_63 rfl ?_
          refine E_iconst (v := nI 1) dX12_goesThrough_64 (by decide) ?_
          refine E_iadd_n dX12_goesThrough_65 ?_
          refine E_goto (tgt := 70) dX12_goesThrough_66 (by decide) ?_
          refine E_istore_n dX12_goesThrough_70 (Nat.le_of_ble_eq_true rfl) (by decide) rfl ?_
          refine E_goto (tgt := 2) dX12_goesThrough_71 (by decide) ?_
          exact K _ _ _ h
        · rw [cI_t hc, cI_t hc] at K hb
          refine gKv ?_
          refine E_istore_n dX12_goesThrough_56 (Nat.le_of_ble_eq_true rfl) (by decide) rfl ?_
          refine E_iload_n dX12_goesThrough_57 rfl ?_
          refine E_bipush (v := -100) dX12_goesThrough_58 (by decide) ?_
          refine E_icmp_ne (tgt := 69) dX12_goesThrough_60 (by decide) (fun _ => ?_) (fun c0 => absurd (nI_ne100 (by omega)) c0)
          refine E_iload_n dX12_goesThrough_69 rfl ?_
          refine E_istore_n dX12_goesThrough_70 (Nat.le_of_ble_eq_true rfl) (by decide) rfl ?_
          refine E_goto (tgt := 2) dX12_goesThrough_71 (by decide) ?_
          exact K _ _ _ h
      · refine E_aload_n dX12_goesThrough_41 rfl ?_
        refine E_iload_n dX12_goesThrough_42 rfl ?_
        refine E_iload_n dX12_goesThrough_43 rfl ?_
        refine E_callV2 (fr' := 10) (k1 := 0) (n1 := 0) (k2 := 0) (n2 := 0) dX12_goesThrough_44 kO_X12_contexts kL_X12_347 (l_128 hL) (k_128 hL) ⟨by decide, rfl⟩ rfl rfl (by decide) (by decide) (by exact Nat.le_of_ble_eq_true rfl) rfl ?_
        rw [cI_t (show goP c f L l i from ⟨c_19, c_28⟩), cI_t (show goP c f L l i from ⟨c_19, c_28⟩), cI_t c_38, cI_t c_38] at K hb
        refine sp_X12_contexts h hl hi (by omega) (fun hc => ?_) (fun hc M h => ?_)
        · rw [cI_f hc, cI_f hc] at K
          refine gKv ?_
          refine E_goto (tgt := 56) dX12_goesThrough_47 (by decide) ?_
          refine E_istore_n dX12_goesThrough_56 (Nat.le_of_ble_eq_true rfl) (by decide) rfl ?_
          refine E_iload_n dX12_goesThrough_57 rfl ?_
          refine E_bipush (v := -100) dX12_goesThrough_58 (by decide) ?_
          refine E_icmp_ne_r (tgt := 69) dX12_goesThrough_60 (by decide) (fun c0 => absurd c0 (by decide)) (fun _ => ?_)
          refine E_iload_n dX12_goesThrough_63 rfl ?_
          refine E_iconst (v := nI 1) dX12_goesThrough_64 (by decide) ?_
          refine E_iadd_n dX12_goesThrough_65 ?_
          refine E_goto (tgt := 70) dX12_goesThrough_66 (by decide) ?_
          refine E_istore_n dX12_goesThrough_70 (Nat.le_of_ble_eq_true rfl) (by decide) rfl ?_
          refine E_goto (tgt := 2) dX12_goesThrough_71 (by decide) ?_
          exact K _ _ _ h
        · rw [cI_t hc, cI_t hc] at K hb
          refine gKv ?_
          refine E_goto (tgt := 56) dX12_goesThrough_47 (by decide) ?_
          refine E_istore_n dX12_goesThrough_56 (Nat.le_of_ble_eq_true rfl) (by decide) rfl ?_
          refine E_iload_n dX12_goesThrough_57 rfl ?_
          refine E_bipush (v := -100) dX12_goesThrough_58 (by decide) ?_
          refine E_icmp_ne (tgt := 69) dX12_goesThrough_60 (by decide) (fun _ => ?_) (fun c0 => absurd (nI_ne100 (by omega)) c0)
          refine E_iload_n dX12_goesThrough_69 rfl ?_
          refine E_istore_n dX12_goesThrough_70 (Nat.le_of_ble_eq_true rfl) (by decide) rfl ?_
          refine E_goto (tgt := 2) dX12_goesThrough_71 (by decide) ?_
          exact K _ _ _ h
set_option maxRecDepth 100000 in
set_option maxHeartbeats 4000000 in
theorem lp_X12_goesThrough {g : gG} {Q : Option Value ⊕ String → gM → Prop} {c : Cf} {f : Nat} {M0 : gM} {l : Nat} (hl : l < 24) (hkd : cN c 130 l ≤ 4) : ∀ t (L : List Gl) (i : Nat) (w : Int32) (M : gM), mX c f M0 L w M → L.length - i ≤ t → i ≤ 100 → (∀ M w, mX c f M0 (gos c f l t L i) w M → Q (.inl none) M) → ∀ v3, E g 11 0 0 mX12_goesThrough 2 [.ref 129, .int (nI l), .int (nI i), v3] [] M Q := by
  intro t
  induction t with
  | zero =>
    intro L i w M h hm hi K v3
    have hL := h.lay
    have hf := h.hf
    have hn := h.len
    refine E_iload_n dX12_goesThrough_2 rfl ?_
    refine E_aload_n dX12_goesThrough_3 rfl ?_
    refine E_getIL (v := nI _) dX12_goesThrough_4 kF_X12_235 kY_12 (Or.inl rfl) (l_128 hL) (k_128 hL) h.gn ?_
    refine E_icmp_ge_n (tgt := 74) dX12_goesThrough_7 (by decide) (by omega) (by omega) (fun c_7 => ?_) (fun c_7 => ?_)
    · refine E_vret dX12_goesThrough_74 rfl ?_
      exact K _ _ h
    · exfalso; omega
  | succ t ih =>
    intro L i w M h hm hi K v3
    have hL := h.lay
    have hf := h.hf
    have hn := h.len
    refine E_iload_n dX12_goesThrough_2 rfl ?_
    refine E_aload_n dX12_goesThrough_3 rfl ?_
    refine E_getIL (v := nI _) dX12_goesThrough_4 kF_X12_235 kY_12 (Or.inl rfl) (l_128 hL) (k_128 hL) h.gn ?_
    refine E_icmp_ge_n (tgt := 74) dX12_goesThrough_7 (by decide) (by omega) (by omega) (fun c_7 => ?_) (fun c_7 => ?_)
    · refine E_vret dX12_goesThrough_74 rfl ?_
      refine K M w ?_
      rw [show gos c f l (t + 1) L i = L from cI_f (by omega)]
      exact h
    · have hb := go_b (c := c) (f := f) (l := l) hn c_7
      refine st_X12_goesThrough h hl hkd c_7 (fun M w v3 h => ih _ _ _ _ h (by omega) (by omega) (fun M w h => K M w ?_) v3) _
      rw [show gos c f l (t + 1) L i = _ from cI_t c_7]
      exact h
set_option maxRecDepth 100000 in
set_option maxHeartbeats 4000000 in
theorem sp_X12_goesThrough {g : gG} {M : gM} {Q : Option Value ⊕ String → gM → Prop} {c : Cf} {f : Nat} {M0 : gM} {L : List Gl} {w : Int32} (h : mX c f M0 L w M) {l : Nat} (hl : l < 24) (hkd : cN c 130 l ≤ 4) (K : ∀ M w, mX c f M0 (gos c f l 64 L 0) w M → Q (.inl none) M) : E g 11 0 0 mX12_goesThrough 0 [.ref 129, .int (nI l), .null, .null] [] M Q := by
  have hL := h.lay
  have hf := h.hf
  have hn := h.len
  refine E_iconst (v := nI 0) dX12_goesThrough_0 (by decide) ?_
  refine E_istore_n dX12_goesThrough_1 (Nat.le_of_ble_eq_true rfl) (by decide) rfl ?_
  exact lp_X12_goesThrough hl hkd 64 L 0 w M h (by omega) (by omega) K _
def due (c : Cf) (l s : Nat) : Prop := cN c 130 l ≤ 5 ∧ cN c 132 l = s ∧ (cN c 133 l = 0 ∨ cN c 133 l = cN c 128 17)
noncomputable def stS (c : Cf) (f s l : Nat) (L : List Gl) : List Gl := cI (due c l s) (cI (cN c 130 l = 5) (gbk c f l L.length L) (gos c f l 64 L 0)) L
noncomputable def stg (c : Cf) (f s : Nat) : Nat → Nat → List Gl → List Gl
  | 0, _, L => L
  | m + 1, l, L => stg c f s m (l + 1) (stS c f s l L)
set_option maxRecDepth 100000 in
set_option maxHeartbeats 4000000 in
theorem lp_X12_doesStage {g : gG} {Q : Option Value ⊕ String → gM → Prop} {c : Cf} {f : Nat} {M0 : gM} {s : Nat} (hs : s ≤ 1) : ∀ m (l : Nat) (L : List Gl) (w : Int32) (M : gM), mX c f M0 L w M → l + m = 12 * f + cN c 129 f → (∀ M w, mX c f M0 (stg c f s m l L) w M → Q (.inl none) M) → E g 12 0 0 mX12_doesStage 8 [.ref 129, .int (nI s), .int (nI l)] [] M Q := by
  intro m
  induction m with
  | zero =>
    intro l L w M h hm K
    have hL := h.lay
    have hf := h.hf
    have hn := h.len
    have hc := h.wf.ct f
    refine E_iload_n dX12_doesStage_8 rfl ?_
    refine E_bipush (v := nI 12) dX12_doesStage_9 (by decide) ?_
    refine E_aload_n dX12_doesStage_11 rfl ?_
    refine E_getIL (v := nI f) dX12_doesStage_12 kF_X12_279 kY_12 (Or.inl rfl) (l_128 hL) (k_128 hL) h.gf ?_
    refine E_imul_n dX12_doesStage_15 ?_
    refine E_aload_n dX12_doesStage_16 rfl ?_
    refine E_getRL dX12_doesStage_17 kF_X12_7 kY_12 (Or.inr ⟨_, rfl⟩) (l_128 hL) (k_128 hL) (r_128_2 hL) ?_
    refine E_aload_n dX12_doesStage_20 rfl ?_
    refine E_getIL (v := nI f) dX12_doesStage_21 kF_X12_279 kY_12 (Or.inl rfl) (l_128 hL) (k_128 hL) h.gf ?_
    refine E_ialdL (v := nI (cN _ 129 _)) dX12_doesStage_24 (l_129 hL) (k_129 hL) rfl (by first | omega | exact h.n256 _) (by decide) (h.gc (Or.inl ⟨by decide, by decide, by decide⟩)) ?_
    refine E_iadd_n dX12_doesStage_25 ?_
    refine E_icmp_ge_n (tgt := 86) dX12_doesStage_26 (by decide) (by omega) (by omega) (fun c_26 => ?_) (fun c_26 => ?_)
    · refine E_vret dX12_doesStage_86 rfl ?_
      exact K _ _ h
    · exfalso; omega
  | succ m ih =>
    intro l L w M h hm K
    have hL := h.lay
    have hf := h.hf
    have hn := h.len
    have hc := h.wf.ct f
    have hk := (h.wf.lk l)
    have K : ∀ M w, mX c f M0 (stg c f s m (l + 1) (stS c f s l L)) w M → Q (.inl none) M := K
    unfold stS at K
    refine E_iload_n dX12_doesStage_8 rfl ?_
    refine E_bipush (v := nI 12) dX12_doesStage_9 (by decide) ?_
    refine E_aload_n dX12_doesStage_11 rfl ?_
    refine E_getIL (v := nI f) dX12_doesStage_12 kF_X12_279 kY_12 (Or.inl rfl) (l_128 hL) (k_128 hL) h.gf ?_
    refine E_imul_n dX12_doesStage_15 ?_
    refine E_aload_n dX12_doesStage_16 rfl ?_
    refine E_getRL dX12_doesStage_17 kF_X12_7 kY_12 (Or.inr ⟨_, rfl⟩) (l_128 hL) (k_128 hL) (r_128_2 hL) ?_
    refine E_aload_n dX12_doesStage_20 rfl ?_
    refine E_getIL (v := nI f) dX12_doesStage_21 kF_X12_279 kY_12 (Or.inl rfl) (l_128 hL) (k_128 hL) h.gf ?_
    refine E_ialdL (v := nI (cN _ 129 _)) dX12_doesStage_24 (l_129 hL) (k_129 hL) rfl (by first | omega | exact h.n256 _) (by decide) (h.gc (Or.inl ⟨by decide, by decide, by decide⟩)) ?_
    refine E_iadd_n dX12_doesStage_25 ?_
    refine E_icmp_ge_n (tgt := 86) dX12_doesStage_26 (by decide) (by omega) (by omega) (fun c_26 => ?_) (fun c_26 => ?_)
    · refine E_vret dX12_doesStage_86 rfl ?_
      exfalso; omega
    · refine E_aload_n dX12_doesStage_29 rfl ?_
      refine E_getRL dX12_doesStage_30 kF_X12_13 kY_12 (Or.inr ⟨_, rfl⟩) (l_128 hL) (k_128 hL) (r_128_3 hL) ?_
      refine E_iload_n dX12_doesStage_33 rfl ?_
      refine E_ialdL (v := nI (cN _ 130 _)) dX12_doesStage_34 (l_130 hL) (k_130 hL) rfl (by first | omega | exact h.n256 _) (by decide) (h.gc (Or.inl ⟨by decide, by decide, by decide⟩)) ?_
      refine E_iconst (v := nI 5) dX12_doesStage_35 (by decide) ?_
      refine E_icmp_gt_n (tgt := 80) dX12_doesStage_36 (by decide) (by omega) (by omega) (fun c_36 => ?_) (fun c_36 => ?_)
      · refine E_iinc_n (d := 1) dX12_doesStage_80 rfl rfl rfl (by decide) rfl ?_
        refine E_goto (tgt := 8) dX12_doesStage_83 (by decide) ?_
        first
          | exact ih _ _ _ _ h (by omega) K
          | (rw [cI_f (fun q => by have q1 := q.1; have q2 := q.2.1; have q3 := q.2.2; first | omega | exact c_54 q3)] at K; exact ih _ _ _ _ h (by omega) K)
      · refine E_aload_n dX12_doesStage_39 rfl ?_
        refine E_getRL dX12_doesStage_40 kF_X12_19 kY_12 (Or.inr ⟨_, rfl⟩) (l_128 hL) (k_128 hL) (r_128_5 hL) ?_
        refine E_iload_n dX12_doesStage_43 rfl ?_
        refine E_ialdL (v := nI (cN _ 132 _)) dX12_doesStage_44 (l_132 hL) (k_132 hL) rfl (by first | omega | exact h.n256 _) (by decide) (h.gc (Or.inl ⟨by decide, by decide, by decide⟩)) ?_
        refine E_iload_n dX12_doesStage_45 rfl ?_
        refine E_icmp_ne_n (tgt := 80) dX12_doesStage_46 (by decide) (by omega) (by omega) (fun c_46 => ?_) (fun c_46 => ?_)
        · refine E_iinc_n (d := 1) dX12_doesStage_80 rfl rfl rfl (by decide) rfl ?_
          refine E_goto (tgt := 8) dX12_doesStage_83 (by decide) ?_
          first
            | exact ih _ _ _ _ h (by omega) K
            | (rw [cI_f (fun q => by have q1 := q.1; have q2 := q.2.1; have q3 := q.2.2; first | omega | exact c_54 q3)] at K; exact ih _ _ _ _ h (by omega) K)
        · refine E_aload_n dX12_doesStage_49 rfl ?_
          refine E_iload_n dX12_doesStage_50 rfl ?_
          refine E_callV1 (fr' := 1) (k1 := 0) (n1 := 0) (k2 := 0) (n2 := 0) dX12_doesStage_51 kO_X12_isForTongue kL_X12_350 (l_128 hL) (k_128 hL) ⟨by decide, rfl⟩ rfl (by decide) (by decide) (by exact Nat.le_of_ble_eq_true rfl) rfl ?_
          refine sp_X12_isForTongue h (by omega) ?_
          refine gKv ?_
          refine E_if_eq_b (tgt := 80) dX12_doesStage_54 (by decide) (fun c_54 => ?_) (fun c_54 => ?_)
          · refine E_iinc_n (d := 1) dX12_doesStage_80 rfl rfl rfl (by decide) rfl ?_
            refine E_goto (tgt := 8) dX12_doesStage_83 (by decide) ?_
            first
              | exact ih _ _ _ _ h (by omega) K
              | (rw [cI_f (fun q => by have q1 := q.1; have q2 := q.2.1; have q3 := q.2.2; first | omega | exact c_54 q3)] at K; exact ih _ _ _ _ h (by omega) K)
          · refine E_aload_n dX12_doesStage_57 rfl ?_
            refine E_getRL dX12_doesStage_58 kF_X12_13 kY_12 (Or.inr ⟨_, rfl⟩) (l_128 hL) (k_128 hL) (r_128_3 hL) ?_
            refine E_iload_n dX12_doesStage_61 rfl ?_
            refine E_ialdL (v := nI (cN _ 130 _)) dX12_doesStage_62 (l_130 hL) (k_130 hL) rfl (by first | omega | exact h.n256 _) (by decide) (h.gc (Or.inl ⟨by decide, by decide, by decide⟩)) ?_
            refine E_iconst (v := nI 5) dX12_doesStage_63 (by decide) ?_
            refine E_icmp_ne_n (tgt := 75) dX12_doesStage_64 (by decide) (by omega) (by omega) (fun c_64 => ?_) (fun c_64 => ?_)
            · refine E_aload_n dX12_doesStage_75 rfl ?_
              refine E_iload_n dX12_doesStage_76 rfl ?_
              refine E_callV1 (fr' := 11) (k1 := 0) (n1 := 0) (k2 := 0) (n2 := 0) dX12_doesStage_77 kO_X12_goesThrough kL_X12_356 (l_128 hL) (k_128 hL) ⟨by decide, rfl⟩ rfl (by decide) (by decide) (by exact Nat.le_of_ble_eq_true rfl) rfl ?_
              rw [cI_t ⟨by omega, by omega, c_54⟩, cI_f (by omega)] at K
              refine sp_X12_goesThrough h (by omega) (by omega) (fun M w h => ?_)
              have hL := h.lay
              refine gKn ?_
              refine E_iinc_n (d := 1) dX12_doesStage_80 rfl rfl rfl (by decide) rfl ?_
              refine E_goto (tgt := 8) dX12_doesStage_83 (by decide) ?_
              first
                | exact ih _ _ _ _ h (by omega) K
                | (rw [cI_f (fun q => by have q1 := q.1; have q2 := q.2.1; have q3 := q.2.2; first | omega | exact c_54 q3)] at K; exact ih _ _ _ _ h (by omega) K)
            · refine E_aload_n dX12_doesStage_67 rfl ?_
              refine E_iload_n dX12_doesStage_68 rfl ?_
              refine E_callV1 (fr' := 4) (k1 := 0) (n1 := 0) (k2 := 0) (n2 := 0) dX12_doesStage_69 kO_X12_goesBack kL_X12_353 (l_128 hL) (k_128 hL) ⟨by decide, rfl⟩ rfl (by decide) (by decide) (by exact Nat.le_of_ble_eq_true rfl) rfl ?_
              rw [cI_t ⟨by omega, by omega, c_54⟩, cI_t (by omega)] at K
              refine sp_X12_goesBack h (by omega) (by omega) (fun M h => ?_)
              have hL := h.lay
              refine gKn ?_
              refine E_goto (tgt := 80) dX12_doesStage_72 (by decide) ?_
              refine E_iinc_n (d := 1) dX12_doesStage_80 rfl rfl rfl (by decide) rfl ?_
              refine E_goto (tgt := 8) dX12_doesStage_83 (by decide) ?_
              first
                | exact ih _ _ _ _ h (by omega) K
                | (rw [cI_f (fun q => by have q1 := q.1; have q2 := q.2.1; have q3 := q.2.2; first | omega | exact c_54 q3)] at K; exact ih _ _ _ _ h (by omega) K)
set_option maxRecDepth 100000 in
set_option maxHeartbeats 4000000 in
theorem sp_X12_doesStage {g : gG} {M : gM} {Q : Option Value ⊕ String → gM → Prop} {c : Cf} {f : Nat} {M0 : gM} {L : List Gl} {w : Int32} (h : mX c f M0 L w M) {s : Nat} (hs : s ≤ 1) (K : ∀ M w, mX c f M0 (stg c f s (cN c 129 f) (12 * f) L) w M → Q (.inl none) M) : E g 12 0 0 mX12_doesStage 0 [.ref 129, .int (nI s), .null] [] M Q := by
  have hL := h.lay
  have hf := h.hf
  have hn := h.len
  refine E_bipush (v := nI 12) dX12_doesStage_0 (by decide) ?_
  refine E_aload_n dX12_doesStage_2 rfl ?_
  refine E_getIL (v := nI f) dX12_doesStage_3 kF_X12_279 kY_12 (Or.inl rfl) (l_128 hL) (k_128 hL) h.gf ?_
  refine E_imul_n dX12_doesStage_6 ?_
  refine E_istore_n dX12_doesStage_7 (Nat.le_of_ble_eq_true rfl) (by decide) rfl ?_
  exact lp_X12_doesStage hs _ _ _ _ _ h rfl K
