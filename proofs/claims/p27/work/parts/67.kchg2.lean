/-! the class: what a rule does -/
/-- the glyphs of the cells when one is taken out, when one is put behind another -/
def piO (π : Nat → Nat) (n a : Nat) : Nat → Nat := updP (mvU π a (n - 1)) (n - 1) (π a)
def piB (π : Nat → Nat) (n a : Nat) : Nat → Nat := updP (mvD π n (a + 1)) (a + 1) (π n)
theorem piO_at {π : Nat → Nat} {n a j : Nat} (hj : j < n - 1) : piO π n a j = π (if j < a then j else j + 1) := by
  unfold piO updP mvU
  rw [if_neg (by omega)]
  by_cases e : j < a
  · rw [if_neg (by omega), if_pos e]
  · rw [if_pos (by omega), if_neg e]
theorem piO_n {π : Nat → Nat} {n a : Nat} : piO π n a (n - 1) = π a := by unfold piO updP; rw [if_pos rfl]
theorem piB_at {π : Nat → Nat} {n a j : Nat} (hj : j ≤ n) : piB π n a j = π (if j ≤ a then j else if j = a + 1 then n else j - 1) := by
  unfold piB updP mvD
  by_cases e : j = a + 1
  · rw [if_pos e, if_neg (by omega), if_pos e]
  · rw [if_neg e]
    by_cases e2 : j ≤ a
    · rw [if_neg (by omega), if_pos e2]
    · rw [if_pos (by omega), if_neg e2, if_neg e]
set_option maxRecDepth 100000 in
set_option maxHeartbeats 4000000 in
theorem sp_X8_takeOutP {g : gG} {M : gM} {Q : Option Value ⊕ String → gM → Prop} {c : Cf} {P : Nat → Nat} {M0 : gM} {L : List Gl} {π : Nat → Nat} (hc : cX c P M0 L π M) {a : Nat} (ha : a < L.length) (K : ∀ M, cX c P M0 (closeL L a) (piO π L.length a) M → Q (.inl none) M) : E g 1 0 0 mX8_takeOut 0 [.ref 7, .int (nI a), .null, .null] [] M Q := by
  have hB := hc.B
  have hL := hB.lay
  have hn := hc.len
  refine E_iload_n dX8_takeOut_0 rfl ?_
  refine E_if_lt_n (tgt := 12) dX8_takeOut_1 (by decide) (by omega) ?_
  refine E_iload_n dX8_takeOut_4 rfl ?_
  refine E_aload_n dX8_takeOut_5 rfl ?_
  refine E_getIL (v := nI (List.length _)) dX8_takeOut_6 kF_X8_17 kY_8 (Or.inl rfl) (l_6 hL) (k_6 hL) hc.n ?_
  refine E_icmp_lt_n (tgt := 13) dX8_takeOut_9 (by decide) (by omega) (by omega) (fun c_9 => ?_) (fun c_9 => ?_)
  · refine E_aload_n dX8_takeOut_13 rfl ?_
    refine E_getRL dX8_takeOut_14 kF_X8_11 kY_8 (Or.inr ⟨_, rfl⟩) (l_6 hL) (k_6 hL) (r_6_0 hL) ?_
    refine E_iload_n dX8_takeOut_17 rfl ?_
    refine E_aaldL (v := _) dX8_takeOut_18 (l_7 hL) (k_7 hL) (by decide) (by decide) rfl (by omega) (by decide) (hc.cell (by omega)) ?_
    refine E_astore_n dX8_takeOut_19 (Nat.le_of_ble_eq_true rfl) (by decide) rfl ?_
    refine E_iload_n dX8_takeOut_20 rfl ?_
    refine E_istore_n dX8_takeOut_21 (Nat.le_of_ble_eq_true rfl) (by decide) rfl ?_
    exact lp_X8_takeOut hL (fun i hi => hc.p64 hi) hc.n hn ha (hc.p64 (by omega)) (fun M hm => K _ (hc.out ha hm)) a (by omega) (Nat.le_refl _) M (hc.cm.congr (fun i _ => by unfold mvU; rw [if_neg (by omega)]))
  · refine E_vret dX8_takeOut_12 rfl ?_
    exfalso; omega
set_option maxRecDepth 100000 in
set_option maxHeartbeats 4000000 in
theorem sp_X8_putBehindP {g : gG} {M : gM} {Q : Option Value ⊕ String → gM → Prop} {c : Cf} {P : Nat → Nat} {M0 : gM} {L : List Gl} {π : Nat → Nat} (hc : cX c P M0 L π M) {a v : Nat} (ha : a < L.length) (hl : L.length < 64) (hv : v < 256) (K : ∀ M, cX c P M0 (pubL L a v) (piB π L.length a) M → Q (.inl none) M) : E g 2 0 0 mX8_putBehind 0 [.ref 7, .int (nI a), .int (nI v), .null, .null] [] M Q := by
  have hB := hc.B
  have hL := hB.lay
  have hn := hc.len
  have hqa : ¬ π a = π L.length := fun q => by have := hc.inj (show a < 64 by omega) hl q; omega
  refine E_iload_n dX8_putBehind_0 rfl ?_
  refine E_if_lt_n (tgt := 21) dX8_putBehind_1 (by decide) (by omega) ?_
  refine E_iload_n dX8_putBehind_4 rfl ?_
  refine E_aload_n dX8_putBehind_5 rfl ?_
  refine E_getIL (v := nI (List.length _)) dX8_putBehind_6 kF_X8_17 kY_8 (Or.inl rfl) (l_6 hL) (k_6 hL) hc.n ?_
  refine E_icmp_ge_n (tgt := 21) dX8_putBehind_9 (by decide) (by omega) (by omega) (fun c_9 => ?_) (fun c_9 => ?_)
  · refine E_vret dX8_putBehind_21 rfl ?_
    exfalso; omega
  · refine E_aload_n dX8_putBehind_12 rfl ?_
    refine E_getIL (v := nI (List.length _)) dX8_putBehind_13 kF_X8_17 kY_8 (Or.inl rfl) (l_6 hL) (k_6 hL) hc.n ?_
    refine E_bipush (v := nI 64) dX8_putBehind_16 (by decide) ?_
    refine E_icmp_lt_n (tgt := 22) dX8_putBehind_18 (by decide) (by omega) (by omega) (fun c_18 => ?_) (fun c_18 => ?_)
    · refine E_aload_n dX8_putBehind_22 rfl ?_
      refine E_getRL dX8_putBehind_23 kF_X8_11 kY_8 (Or.inr ⟨_, rfl⟩) (l_6 hL) (k_6 hL) (r_6_0 hL) ?_
      refine E_aload_n dX8_putBehind_26 rfl ?_
      refine E_getIL (v := nI (List.length _)) dX8_putBehind_27 kF_X8_17 kY_8 (Or.inl rfl) (l_6 hL) (k_6 hL) hc.n ?_
      refine E_aaldL (v := _) dX8_putBehind_30 (l_7 hL) (k_7 hL) (by decide) (by decide) rfl (by omega) (by decide) (hc.cell (by omega)) ?_
      refine E_astore_n dX8_putBehind_31 (Nat.le_of_ble_eq_true rfl) (by decide) rfl ?_
      refine E_aload_n dX8_putBehind_32 rfl ?_
      refine E_getIL (v := nI (List.length _)) dX8_putBehind_33 kF_X8_17 kY_8 (Or.inl rfl) (l_6 hL) (k_6 hL) hc.n ?_
      refine E_istore dX8_putBehind_36 (Nat.le_of_ble_eq_true rfl) (by decide) rfl ?_
      refine lp_X8_putBehind hL (fun i hi => hc.p64 hi) hc.n hl ha (hc.p64 hl) hqa rfl (fun M2 hm => ?_) L.length (by omega) (Nat.le_refl _) M (hc.cm.congr (fun i _ => by unfold mvD; rw [if_neg (by omega)]))
      have hL := hm.lay hL
      have hq := hc.p64 hl
      have h62 := hm.n6 hc
      have hpa := hc.p64 (show a < 64 by omega)
      have hcel : mR M2 7 a = 8 + π a + 1 := (hm.cell (by omega)).trans (by unfold updP mvD; rw [if_neg (by omega), if_neg (by omega)])
      refine E_aload_n dX8_putBehind_77 rfl ?_
      refine E_dup dX8_putBehind_78 rfl ?_
      refine E_getIL (v := nI L.length) dX8_putBehind_79 kF_X8_17 kY_8 (Or.inl rfl) (l_6 hL) (k_6 hL) h62 ?_
      refine E_iconst (v := nI 1) dX8_putBehind_82 (by decide) ?_
      refine E_iadd_n dX8_putBehind_83 ?_
      refine E_putI dX8_putBehind_84 kF_X8_17 kY_8 (Or.inl rfl) (l_6 hL) (k_6 hL) (Or.inl rfl) ?_
      refine E_aload_n dX8_putBehind_87 rfl ?_
      refine E_aload_n dX8_putBehind_88 rfl ?_
      refine E_getRL dX8_putBehind_89 kF_X8_11 kY_8 (Or.inr ⟨_, rfl⟩) (l_6 hL) (k_6 hL) (r_6_0 hL) ?_
      refine E_iload_n dX8_putBehind_92 rfl ?_
      refine E_aaldL (v := _) dX8_putBehind_93 (l_7 hL) (k_7 hL) (by decide) (by decide) rfl (by omega) (by decide) hcel ?_
      refine E_callV1 (fr' := 1) (k1 := 0) (n1 := 0) (k2 := 0) (n2 := 0) dX8_putBehind_94 kO_X2_takeOver kL_X8_32 (gl_lt hL hq) (gl_k hL hq) ⟨by decide, rfl⟩ rfl (by decide) (by decide) (by exact Nat.le_of_ble_eq_true rfl) rfl ?_
      refine sp_X2_takeOver (gl_lt hL hq) (gl_k hL hq) (gl_lt hL hpa) (gl_k hL hpa) (by omega) ?_
      have e6 : ¬ 8 + π a = 6 := by omega
      rw [mI_ne e6, mI_ne e6, mI_ne e6, mI_ne e6, mI_ne e6, mI_ne e6, hm.i, hm.i, hm.i, hm.i, hm.i, hm.i]
      refine gKn ?_
      refine E_aload_n dX8_putBehind_97 rfl ?_
      refine E_iload_n dX8_putBehind_98 rfl ?_
      refine E_putI dX8_putBehind_99 kF_X8_36 kY_2 (Or.inl rfl) (gl_lt hL hq) (gl_k hL hq) (Or.inl rfl) ?_
      refine E_vret dX8_putBehind_102 rfl ?_
      exact K _ (hc.behind ha hl hv hm)
    · refine E_vret dX8_putBehind_21 rfl ?_
      exfalso; omega
abbrev isM (c : Cf) (f : Nat) (L : List Gl) (k : Nat) : Prop := 0 < cN c 137 (256 * f + yN (gat L k))
/-- where the marks behind a spot end; the spots of a ligature -/
noncomputable def gpT (c : Cf) (f : Nat) (L : List Gl) (a e : Nat) : Nat := fnd (fun k => ¬ isM c f L k) e a
theorem gpT_b {c : Cf} {f : Nat} {L : List Gl} {a e : Nat} (h : a ≤ e) : a ≤ gpT c f L a e ∧ gpT c f L a e ≤ e := ⟨(fnd_spec h).1, (fnd_spec h).2.1⟩
theorem gpT_all {c : Cf} {f : Nat} {L : List Gl} {a e : Nat} (h : a ≤ e) (hm : ∀ k, a ≤ k → k < e → isM c f L k) : gpT c f L a e = e := fnd_eq h (Nat.le_refl _) (fun q => by omega) (fun j h1 h2 q => q (hm j h1 h2))
def gpE (n : Nat) (sp : Nat → Nat) (m i : Nat) : Nat := if i + 1 < m then sp (i + 1) else n
noncomputable def gpS (c : Cf) (f n : Nat) (sp : Nat → Nat) (m i : Nat) (b : Int32) (L : List Gl) : List Gl := prtL c f L (sp i + 1) (gpT c f L (sp i + 1) (gpE n sp m i)) b (yT (gat L (sp i)))
noncomputable def gpL (c : Cf) (f n : Nat) (sp : Nat → Nat) (m : Nat) (L : List Gl) : Nat → List Gl × Int32
  | 0 => (L, nI 0)
  | i + 1 => (gpS c f n sp m i (gpL c f n sp m L i).2 (gpL c f n sp m L i).1, (gpL c f n sp m L i).2 + yT (gat (gpL c f n sp m L i).1 (sp i)))
theorem gpL_len {c : Cf} {f n : Nat} {sp : Nat → Nat} {m : Nat} {L : List Gl} : ∀ i, (gpL c f n sp m L i).1.length = L.length
  | 0 => rfl
  | i + 1 => (prt_len _ _ _ _ _ _ _).trans (gpL_len i)
/-- the spots are in the row, one behind the other -/
def spK (n : Nat) (sp : Nat → Nat) (m : Nat) : Prop := (∀ i, i < m → sp i < n) ∧ ∀ i, i + 1 < m → sp i < sp (i + 1)
set_option maxRecDepth 100000 in
set_option maxHeartbeats 4000000 in
theorem lp2_X0_giveParts {g : gG} {Q : Option Value ⊕ String → gM → Prop} {c : Cf} {P : Nat → Nat} {M0 : gM} {f : Nat} (hf : f < 2) (hF0 : mR M0 73 2 = fb f + 1) {M1 : gM} {L : List Gl} {π : Nat → Nat} {m i a e : Nat} {b p : Int32} (hae : a ≤ e) (hel : e ≤ L.length) (K : ∀ M v7, cX c P M0 (prtL c f L a (gpT c f L a e) b p) π M → (∀ j, mI M 74 j = mI M1 74 j) → E g 2 0 0 mX0_giveParts 142 [.ref 74, .int (nI m), .int b, .int (nI i), .int p, .int (nI e), .int (nI (gpT c f L a e)), v7] [] M Q) : ∀ k, k ≤ e → a ≤ k → fnd (fun k => ¬ isM c f L k) e k = gpT c f L a e → ∀ M v7, cX c P M0 (upK L (prF c f a (gpT c f L a e) b p) k) π M → (∀ j, mI M 74 j = mI M1 74 j) → E g 2 0 0 mX0_giveParts 65 [.ref 74, .int (nI m), .int b, .int (nI i), .int p, .int (nI e), .int (nI k), v7] [] M Q := by
  refine lpUp e (fun k hk ih => ?_)
  intro hak he M v7 hc h74
  have hx := upK_len L (prF c f a (gpT c f L a e) b p) k
  have hgb := gpT_b (c := c) (f := f) (L := L) hae
  have hB := hc.B
  have hL := hB.lay
  have hn := hc.len
  have hgk : k < e → gat (upK L (prF c f a (gpT c f L a e) b p) k) k = gat L k := fun z => by rw [gat_upK (by omega), if_neg (by omega)]
  have h256 := hc.n256 k
  have fin : gpT c f L a e = k → ∀ v7, E g 2 0 0 mX0_giveParts 142 [.ref 74, .int (nI m), .int b, .int (nI i), .int p, .int (nI e), .int (nI k), v7] [] M Q := fun q v7 => by
    have := K M v7 (by
      have e2 : upK L (prF c f a (gpT c f L a e) b p) k = prtL c f L a (gpT c f L a e) b p := by
        rw [← q]; exact upK_n (fun j hj => pr_hi hj)
      rw [← e2]; exact hc) h74
    rw [q] at this; exact this
  have stp : isM c f L k → k < e → ∀ v, v = cI (yP (gat L k) = -100) (p - nI 1) (yP (gat L k)) → ∀ M' v7, cX c P M0 (putL (upK L (prF c f a (gpT c f L a e) b p) k) k (sP (gat (upK L (prF c f a (gpT c f L a e) b p) k) k) (b + v))) π M' → (∀ j, mI M' 74 j = mI M1 74 j) → E g 2 0 0 mX0_giveParts 65 [.ref 74, .int (nI m), .int b, .int (nI i), .int p, .int (nI e), .int (nI (k + 1)), v7] [] M' Q := fun hm hke v hv M' v7 hc' h74' => by
    have hne : fnd (fun k => ¬ isM c f L k) e (k + 1) = gpT c f L a e := by rw [← he]; exact (fnd_skip (P := fun k => ¬ isM c f L k) hke (not_not_intro hm)).symm
    have hkt : k < gpT c f L a e := by have := (fnd_spec (P := fun k => ¬ isM c f L k) (show k + 1 ≤ e by omega)).1; omega
    refine ih hke (by omega) hne M' v7 ?_ h74'
    rw [← upK_s (by omega)]
    have e2 : prF c f a (gpT c f L a e) b p k (gat (upK L (prF c f a (gpT c f L a e) b p) k) k) = sP (gat (upK L (prF c f a (gpT c f L a e) b p) k) k) (b + v) := by
      rw [hgk hke]
      unfold prF
      rw [cI_t ⟨hak, hkt, hm⟩, hv]
    rw [e2]; exact hc'
  refine E_iload dX0_giveParts_65 rfl ?_
  refine E_iload dX0_giveParts_67 rfl ?_
  refine E_icmp_ge_n (tgt := 142) dX0_giveParts_69 (by decide) (by omega) (by omega) (fun c_69 => ?_) (fun c_69 => ?_)
  · refine fin ?_ _
    rw [← he]
    first
      | exact fnd_end (by omega)
      | exact fnd_hit (by omega) (by rw [isM, ← hgk (by omega)]; assumption)
  · refine E_aload_n dX0_giveParts_72 rfl ?_
    refine E_getRL dX0_giveParts_73 kF_X0_15 kY_0 (Or.inl ⟨_, rfl⟩) (l_73 hL) (k_73 hL) (hc.fac hF0) ?_
    refine E_aload_n dX0_giveParts_76 rfl ?_
    refine E_getRL dX0_giveParts_77 kF_X0_39 kY_0 (Or.inl ⟨_, rfl⟩) (l_73 hL) (k_73 hL) (r_73_0 hL) ?_
    refine E_getRL dX0_giveParts_80 kF_X0_58 kY_8 (Or.inr ⟨_, rfl⟩) (l_6 hL) (k_6 hL) (r_6_0 hL) ?_
    refine E_iload dX0_giveParts_83 rfl ?_
    refine E_aaldL (v := _) dX0_giveParts_85 (l_7 hL) (k_7 hL) (by decide) (by decide) rfl (by omega) (by decide) (hc.cell (by omega)) ?_
    refine E_getIL (v := nI (yN (gat _ _))) dX0_giveParts_86 kF_X0_84 kY_2 (Or.inl rfl) (hc.glt (by omega)) (hc.gkd (by omega)) (hc.g0 (by omega)) ?_
    refine E_callV1 (fr' := 1) (k1 := 0) (n1 := 0) (k2 := 0) (n2 := 0) dX0_giveParts_89 kO_X1_isMark kL_X0_139 (hB.flt0 hf) (hB.fk0 hf) ⟨by decide, rfl⟩ rfl (by decide) (by decide) (by exact Nat.le_of_ble_eq_true rfl) rfl ?_
    refine sp_X1_isMark hB hf (by omega) ?_
    refine gKv ?_
    refine E_if_eq_b (tgt := 142) dX0_giveParts_92 (by decide) (fun c_92 => ?_) (fun c_92 => ?_)
    · refine fin ?_ _
      rw [← he]
      first
        | exact fnd_end (by omega)
        | exact fnd_hit (by omega) (by rw [isM, ← hgk (by omega)]; assumption)
    · have hke : k < e := by omega
      have hm : isM c f L k := by have z := c_92; rw [hgk hke] at z; exact z
      refine E_aload_n dX0_giveParts_95 rfl ?_
      refine E_getRL dX0_giveParts_96 kF_X0_39 kY_0 (Or.inl ⟨_, rfl⟩) (l_73 hL) (k_73 hL) (r_73_0 hL) ?_
      refine E_getRL dX0_giveParts_99 kF_X0_58 kY_8 (Or.inr ⟨_, rfl⟩) (l_6 hL) (k_6 hL) (r_6_0 hL) ?_
      refine E_iload dX0_giveParts_102 rfl ?_
      refine E_aaldL (v := _) dX0_giveParts_104 (l_7 hL) (k_7 hL) (by decide) (by decide) rfl (by omega) (by decide) (hc.cell (by omega)) ?_
      refine E_astore dX0_giveParts_105 (Nat.le_of_ble_eq_true rfl) (by decide) rfl ?_
      refine E_aload dX0_giveParts_107 rfl ?_
      refine E_iload_n dX0_giveParts_109 rfl ?_
      refine E_aload dX0_giveParts_110 rfl ?_
      refine E_getIL (v := _) dX0_giveParts_112 kF_X0_142 kY_2 (Or.inl rfl) (hc.glt (by omega)) (hc.gkd (by omega)) (hc.g5 (by omega)) ?_
      refine E_bipush (v := -100) dX0_giveParts_115 (by decide) ?_
      refine E_icmp_ne_r (tgt := 127) dX0_giveParts_117 (by decide) (fun c_117 => ?_) (fun c_117 => ?_)
      · refine E_aload dX0_giveParts_127 rfl ?_
        refine E_getIL (v := _) dX0_giveParts_129 kF_X0_142 kY_2 (Or.inl rfl) (hc.glt (by omega)) (hc.gkd (by omega)) (hc.g5 (by omega)) ?_
        refine E_iadd dX0_giveParts_132 ?_
        refine E_putI dX0_giveParts_133 kF_X0_142 kY_2 (Or.inl rfl) (hc.glt (by omega)) (hc.gkd (by omega)) (Or.inl rfl) ?_
        refine E_iinc_n (d := 1) dX0_giveParts_136 rfl rfl rfl (by decide) rfl ?_
        refine E_goto (tgt := 65) dX0_giveParts_139 (by decide) ?_
        have hp := hc.p64 (show k < 64 by omega)
        first
          | exact stp hm hke _ (cI_t (by rw [← hgk hke]; assumption)).symm _ _ (hc.putP (by omega)) (fun j => (mI_ne (by omega)).trans (h74 j))
          | exact stp hm hke _ ((cI_f (by rw [← hgk hke]; assumption)).trans (by rw [hgk hke])).symm _ _ (hc.putP (by omega)) (fun j => (mI_ne (by omega)).trans (h74 j))
      · refine E_iload dX0_giveParts_120 rfl ?_
        refine E_iconst (v := nI 1) dX0_giveParts_122 (by decide) ?_
        refine E_isub dX0_giveParts_123 ?_
        refine E_goto (tgt := 132) dX0_giveParts_124 (by decide) ?_
        refine E_iadd dX0_giveParts_132 ?_
        refine E_putI dX0_giveParts_133 kF_X0_142 kY_2 (Or.inl rfl) (hc.glt (by omega)) (hc.gkd (by omega)) (Or.inl rfl) ?_
        refine E_iinc_n (d := 1) dX0_giveParts_136 rfl rfl rfl (by decide) rfl ?_
        refine E_goto (tgt := 65) dX0_giveParts_139 (by decide) ?_
        have hp := hc.p64 (show k < 64 by omega)
        first
          | exact stp hm hke _ (cI_t (by rw [← hgk hke]; assumption)).symm _ _ (hc.putP (by omega)) (fun j => (mI_ne (by omega)).trans (h74 j))
          | exact stp hm hke _ ((cI_f (by rw [← hgk hke]; assumption)).trans (by rw [hgk hke])).symm _ _ (hc.putP (by omega)) (fun j => (mI_ne (by omega)).trans (h74 j))
set_option maxRecDepth 100000 in
set_option maxHeartbeats 4000000 in
theorem lp_X0_giveParts {g : gG} {Q : Option Value ⊕ String → gM → Prop} {c : Cf} {P : Nat → Nat} {M0 : gM} {f : Nat} (hf : f < 2) (hF0 : mR M0 73 2 = fb f + 1) {M1 : gM} {L : List Gl} {π : Nat → Nat} {sp : Nat → Nat} {m : Nat} (hm3 : m ≤ 3) (hsp : spK L.length sp m) (hs74 : ∀ i, i < m → mI M1 74 i = nI (sp i)) (K : ∀ M, cX c P M0 (gpL c f L.length sp m L m).1 π M → (∀ j, mI M 74 j = mI M1 74 j) → Q (.inl none) M) : ∀ i, i ≤ m → ∀ M v4 v5 v6 v7, cX c P M0 (gpL c f L.length sp m L i).1 π M → (∀ j, mI M 74 j = mI M1 74 j) → E g 2 0 0 mX0_giveParts 4 [.ref 74, .int (nI m), .int (gpL c f L.length sp m L i).2, .int (nI i), v4, v5, v6, v7] [] M Q := by
  refine lpUp m (fun i him ih => ?_)
  intro M v4 v5 v6 v7 hc h74
  have hlen := gpL_len (c := c) (f := f) (n := L.length) (sp := sp) (m := m) (L := L) i
  have hB := hc.B
  have hL := hB.lay
  have hn := hc.len
  have h1 := hsp.1
  have h2 := hsp.2
  have go : i < m → ∀ e, e = gpE L.length sp m i → sp i + 1 ≤ e → e ≤ L.length → E g 2 0 0 mX0_giveParts 53 [.ref 74, .int (nI m), .int (gpL c f L.length sp m L i).2, .int (nI i), .int (yT (gat (gpL c f L.length sp m L i).1 (sp i))), v5, v6, v7] [.int (nI e)] M Q := by
    intro hi e he hse hel
    have hl1 := h1 i hi
    refine E_istore dX0_giveParts_53 (Nat.le_of_ble_eq_true rfl) (by decide) rfl ?_
    refine E_aload_n dX0_giveParts_55 rfl ?_
    refine E_getRL dX0_giveParts_56 kF_X0_9 kY_0 (Or.inr ⟨_, rfl⟩) (l_73 hL) (k_73 hL) (r_73_1 hL) ?_
    refine E_iload_n dX0_giveParts_59 rfl ?_
    refine E_ialdL (v := nI (sp _)) dX0_giveParts_60 (l_74 hL) (k_74 hL) rfl (by omega) (by decide) ((h74 _).trans (hs74 _ (by omega))) ?_
    refine E_iconst (v := nI 1) dX0_giveParts_61 (by decide) ?_
    refine E_iadd_n dX0_giveParts_62 ?_
    refine E_istore dX0_giveParts_63 (Nat.le_of_ble_eq_true rfl) (by decide) rfl ?_
    refine lp2_X0_giveParts (c := c) (P := P) hf hF0 (M1 := M1) (L := (gpL c f L.length sp m L i).1) (π := π) hse (by omega) (fun M v7 hc h74 => ?_) (sp i + 1) hse (Nat.le_refl _) rfl M _ ?_ h74
    · have hL := hc.B.lay
      refine E_iload_n dX0_giveParts_142 rfl ?_
      refine E_iload dX0_giveParts_143 rfl ?_
      refine E_iadd dX0_giveParts_145 ?_
      refine E_istore_n dX0_giveParts_146 (Nat.le_of_ble_eq_true rfl) (by decide) rfl ?_
      refine E_iinc_n (d := 1) dX0_giveParts_147 rfl rfl rfl (by decide) rfl ?_
      refine E_goto (tgt := 4) dX0_giveParts_150 (by decide) ?_
      refine ih hi _ _ _ _ _ ?_ h74
      show cX c P M0 (gpS c f L.length sp m i (gpL c f L.length sp m L i).2 (gpL c f L.length sp m L i).1) π _
      unfold gpS
      rw [← he]; exact hc
    · rw [upK_0 (fun j hj => pr_lo hj)]; exact hc
  refine E_iload_n dX0_giveParts_4 rfl ?_
  refine E_iload_n dX0_giveParts_5 rfl ?_
  refine E_icmp_ge_n (tgt := 153) dX0_giveParts_6 (by decide) (by omega) (by omega) (fun c_6 => ?_) (fun c_6 => ?_)
  · refine E_vret dX0_giveParts_153 rfl ?_
    obtain rfl : i = m := by omega
    exact K M hc h74
  · have hi1 := h1 i (by omega)
    refine E_aload_n dX0_giveParts_9 rfl ?_
    refine E_getRL dX0_giveParts_10 kF_X0_39 kY_0 (Or.inl ⟨_, rfl⟩) (l_73 hL) (k_73 hL) (r_73_0 hL) ?_
    refine E_getRL dX0_giveParts_13 kF_X0_58 kY_8 (Or.inr ⟨_, rfl⟩) (l_6 hL) (k_6 hL) (r_6_0 hL) ?_
    refine E_aload_n dX0_giveParts_16 rfl ?_
    refine E_getRL dX0_giveParts_17 kF_X0_9 kY_0 (Or.inr ⟨_, rfl⟩) (l_73 hL) (k_73 hL) (r_73_1 hL) ?_
    refine E_iload_n dX0_giveParts_20 rfl ?_
    refine E_ialdL (v := nI (sp _)) dX0_giveParts_21 (l_74 hL) (k_74 hL) rfl (by omega) (by decide) ((h74 _).trans (hs74 _ (by omega))) ?_
    refine E_aaldL (v := _) dX0_giveParts_22 (l_7 hL) (k_7 hL) (by decide) (by decide) rfl (by omega) (by decide) (hc.cell (by omega)) ?_
    refine E_getIL (v := _) dX0_giveParts_23 kF_X0_136 kY_2 (Or.inl rfl) (hc.glt (by omega)) (hc.gkd (by omega)) (hc.g6 (by omega)) ?_
    refine E_istore dX0_giveParts_26 (Nat.le_of_ble_eq_true rfl) (by decide) rfl ?_
    refine E_iload_n dX0_giveParts_28 rfl ?_
    refine E_iconst (v := nI 1) dX0_giveParts_29 (by decide) ?_
    refine E_iadd_n dX0_giveParts_30 ?_
    refine E_iload_n dX0_giveParts_31 rfl ?_
    refine E_icmp_ge_n (tgt := 46) dX0_giveParts_32 (by decide) (by omega) (by omega) (fun c_32 => ?_) (fun c_32 => ?_)
    · refine E_aload_n dX0_giveParts_46 rfl ?_
      refine E_getRL dX0_giveParts_47 kF_X0_39 kY_0 (Or.inl ⟨_, rfl⟩) (l_73 hL) (k_73 hL) (r_73_0 hL) ?_
      refine E_getIL (v := nI (List.length _)) dX0_giveParts_50 kF_X0_52 kY_8 (Or.inl rfl) (l_6 hL) (k_6 hL) hc.n ?_
      first
        | exact go (by omega) _ (by unfold gpE; rw [if_pos (by omega)]) (by have := h2 i (by omega); omega) (by have := h1 (i + 1) (by omega); omega)
        | (rw [hlen]; exact go (by omega) _ (by unfold gpE; rw [if_neg (by omega)]) (by omega) (Nat.le_refl _))
    · refine E_aload_n dX0_giveParts_35 rfl ?_
      refine E_getRL dX0_giveParts_36 kF_X0_9 kY_0 (Or.inr ⟨_, rfl⟩) (l_73 hL) (k_73 hL) (r_73_1 hL) ?_
      refine E_iload_n dX0_giveParts_39 rfl ?_
      refine E_iconst (v := nI 1) dX0_giveParts_40 (by decide) ?_
      refine E_iadd_n dX0_giveParts_41 ?_
      refine E_ialdL (v := nI (sp _)) dX0_giveParts_42 (l_74 hL) (k_74 hL) rfl (by omega) (by decide) ((h74 _).trans (hs74 _ (by omega))) ?_
      refine E_goto (tgt := 53) dX0_giveParts_43 (by decide) ?_
      first
        | exact go (by omega) _ (by unfold gpE; rw [if_pos (by omega)]) (by have := h2 i (by omega); omega) (by have := h1 (i + 1) (by omega); omega)
        | (rw [hlen]; exact go (by omega) _ (by unfold gpE; rw [if_neg (by omega)]) (by omega) (Nat.le_refl _))
set_option maxRecDepth 100000 in
set_option maxHeartbeats 4000000 in
theorem sp_X0_giveParts {g : gG} {M : gM} {Q : Option Value ⊕ String → gM → Prop} {c : Cf} {P : Nat → Nat} {M0 : gM} {L : List Gl} {π : Nat → Nat} (hc : cX c P M0 L π M) {f : Nat} (hf : f < 2) (hF0 : mR M0 73 2 = fb f + 1) {sp : Nat → Nat} {m : Nat} (hm3 : m ≤ 3) (hsp : spK L.length sp m) (hs74 : ∀ i, i < m → mI M 74 i = nI (sp i)) (K : ∀ M', cX c P M0 (gpL c f L.length sp m L m).1 π M' → (∀ j, mI M' 74 j = mI M 74 j) → Q (.inl none) M') : E g 2 0 0 mX0_giveParts 0 [.ref 74, .int (nI m), .null, .null, .null, .null, .null, .null] [] M Q := by
  have hB := hc.B
  have hL := hB.lay
  have hn := hc.len
  refine E_iconst (v := nI 0) dX0_giveParts_0 (by decide) ?_
  refine E_istore_n dX0_giveParts_1 (Nat.le_of_ble_eq_true rfl) (by decide) rfl ?_
  refine E_iconst (v := nI 0) dX0_giveParts_2 (by decide) ?_
  refine E_istore_n dX0_giveParts_3 (Nat.le_of_ble_eq_true rfl) (by decide) rfl ?_
  exact lp_X0_giveParts hf hF0 hm3 hsp hs74 K 0 (Nat.zero_le _) M _ _ _ _ hc (fun _ => rfl)
noncomputable def loN (L : List Gl) (sp : Nat → Nat) : Nat → Nat
  | 0 => yC (gat L (sp 0))
  | k + 1 => min (loN L sp k) (yC (gat L (sp (k + 1))))
noncomputable def hiN (L : List Gl) (sp : Nat → Nat) : Nat → Nat
  | 0 => yC (gat L (sp 0))
  | k + 1 => max (hiN L sp k) (yC (gat L (sp (k + 1))))
theorem lohi_b {L : List Gl} (h : okL L) (sp : Nat → Nat) : ∀ k, loN L sp k < 16 ∧ hiN L sp k < 16
  | 0 => ⟨(h.at _).2.1, (h.at _).2.1⟩
  | k + 1 => by
    have h1 := lohi_b h sp k
    have h2 := (h.at (sp (k + 1))).2.1
    have e1 : loN L sp (k + 1) = min (loN L sp k) (yC (gat L (sp (k + 1)))) := rfl
    have e2 : hiN L sp (k + 1) = max (hiN L sp k) (yC (gat L (sp (k + 1)))) := rfl
    omega
theorem mgF_keep {lo hi k : Nat} {x : Gl} (hn : ¬ (lo < yC x ∧ yC x ≤ hi)) : mgF lo hi k x = x := by
  unfold mgF
  by_cases q : lo ≤ yC x ∧ yC x ≤ hi
  · rw [cI_t q]
    have e : lo = yC x := by omega
    subst e
    exact sC_self x
  · rw [cI_f q]
set_option maxRecDepth 100000 in
set_option maxHeartbeats 4000000 in
theorem lp2_X0_mergeClusters {g : gG} {Q : Option Value ⊕ String → gM → Prop} {c : Cf} {P : Nat → Nat} {M0 : gM} {M1 : gM} {L : List Gl} {π : Nat → Nat} {m lo hi : Nat} (hlo : lo < 16) (hhi : hi < 16) (K : ∀ M, cX c P M0 (mrgL L lo hi) π M → (∀ j, mI M 74 j = mI M1 74 j) → Q (.inl none) M) : ∀ k, k ≤ L.length → ∀ M v5, cX c P M0 (upK L (mgF lo hi) k) π M → (∀ j, mI M 74 j = mI M1 74 j) → E g 1 0 0 mX0_mergeClusters 72 [.ref 74, .int (nI m), .int (nI lo), .int (nI hi), .int (nI k), v5] [] M Q := by
  refine lpUp L.length (fun k hk ih => ?_)
  intro M v5 hc h74
  have hx := upK_len L (mgF lo hi) k
  have hB := hc.B
  have hL := hB.lay
  have hn := hc.len
  have hgk : k < L.length → gat (upK L (mgF lo hi) k) k = gat L k := fun z => by rw [gat_upK z, if_neg (by omega)]
  have hc16 := hc.c16 k
  have keep : k < L.length → ¬ (lo < yC (gat (upK L (mgF lo hi) k) k) ∧ yC (gat (upK L (mgF lo hi) k) k) ≤ hi) → ∀ v5, E g 1 0 0 mX0_mergeClusters 72 [.ref 74, .int (nI m), .int (nI lo), .int (nI hi), .int (nI (k + 1)), v5] [] M Q := fun hkl hn v5 => by
    refine ih hkl M v5 ?_ h74
    rw [← upK_s' hkl ?_]
    · exact hc
    · exact mgF_keep hn
  refine E_iload dX0_mergeClusters_72 rfl ?_
  refine E_aload_n dX0_mergeClusters_74 rfl ?_
  refine E_getRL dX0_mergeClusters_75 kF_X0_39 kY_0 (Or.inl ⟨_, rfl⟩) (l_73 hL) (k_73 hL) (r_73_0 hL) ?_
  refine E_getIL (v := nI (List.length _)) dX0_mergeClusters_78 kF_X0_52 kY_8 (Or.inl rfl) (l_6 hL) (k_6 hL) hc.n ?_
  refine E_icmp_ge_n (tgt := 126) dX0_mergeClusters_81 (by decide) (by omega) (by omega) (fun c_81 => ?_) (fun c_81 => ?_)
  · refine E_vret dX0_mergeClusters_126 rfl ?_
    obtain rfl : k = L.length := by omega
    refine K M ?_ h74
    have e : upK L (mgF lo hi) L.length = mrgL L lo hi := mkL_congr (fun j hj => by rw [if_pos hj])
    rw [← e]; exact hc
  · refine E_aload_n dX0_mergeClusters_84 rfl ?_
    refine E_getRL dX0_mergeClusters_85 kF_X0_39 kY_0 (Or.inl ⟨_, rfl⟩) (l_73 hL) (k_73 hL) (r_73_0 hL) ?_
    refine E_getRL dX0_mergeClusters_88 kF_X0_58 kY_8 (Or.inr ⟨_, rfl⟩) (l_6 hL) (k_6 hL) (r_6_0 hL) ?_
    refine E_iload dX0_mergeClusters_91 rfl ?_
    refine E_aaldL (v := _) dX0_mergeClusters_93 (l_7 hL) (k_7 hL) (by decide) (by decide) rfl (by omega) (by decide) (hc.cell (by omega)) ?_
    refine E_astore dX0_mergeClusters_94 (Nat.le_of_ble_eq_true rfl) (by decide) rfl ?_
    refine E_aload dX0_mergeClusters_96 rfl ?_
    refine E_getIL (v := nI (yC (gat _ _))) dX0_mergeClusters_98 kF_X0_145 kY_2 (Or.inl rfl) (hc.glt (by omega)) (hc.gkd (by omega)) (hc.g1 (by omega)) ?_
    refine E_iload_n dX0_mergeClusters_101 rfl ?_
    refine E_icmp_le_n (tgt := 120) dX0_mergeClusters_102 (by decide) (by omega) (by omega) (fun c_102 => ?_) (fun c_102 => ?_)
    · refine E_iinc_n (d := 1) dX0_mergeClusters_120 rfl rfl rfl (by decide) rfl ?_
      refine E_goto (tgt := 72) dX0_mergeClusters_123 (by decide) ?_
      first
        | exact keep (by omega) (fun z => by omega) _
        | (have hp := hc.p64 (show k < 64 by omega)
           refine ih (by omega) _ _ ?_ (fun j => (mI_ne (by omega)).trans (h74 j))
           rw [← upK_s (by omega)]
           have e : mgF lo hi k (gat (upK L (mgF lo hi) k) k) = sC (gat (upK L (mgF lo hi) k) k) lo := cI_t ⟨by omega, by omega⟩
           rw [e]; exact hc.putC (by omega) hlo)
    · refine E_aload dX0_mergeClusters_105 rfl ?_
      refine E_getIL (v := nI (yC (gat _ _))) dX0_mergeClusters_107 kF_X0_145 kY_2 (Or.inl rfl) (hc.glt (by omega)) (hc.gkd (by omega)) (hc.g1 (by omega)) ?_
      refine E_iload_n dX0_mergeClusters_110 rfl ?_
      refine E_icmp_gt_n (tgt := 120) dX0_mergeClusters_111 (by decide) (by omega) (by omega) (fun c_111 => ?_) (fun c_111 => ?_)
      · refine E_iinc_n (d := 1) dX0_mergeClusters_120 rfl rfl rfl (by decide) rfl ?_
        refine E_goto (tgt := 72) dX0_mergeClusters_123 (by decide) ?_
        first
          | exact keep (by omega) (fun z => by omega) _
          | (have hp := hc.p64 (show k < 64 by omega)
             refine ih (by omega) _ _ ?_ (fun j => (mI_ne (by omega)).trans (h74 j))
             rw [← upK_s (by omega)]
             have e : mgF lo hi k (gat (upK L (mgF lo hi) k) k) = sC (gat (upK L (mgF lo hi) k) k) lo := cI_t ⟨by omega, by omega⟩
             rw [e]; exact hc.putC (by omega) hlo)
      · refine E_aload dX0_mergeClusters_114 rfl ?_
        refine E_iload_n dX0_mergeClusters_116 rfl ?_
        refine E_putI dX0_mergeClusters_117 kF_X0_145 kY_2 (Or.inl rfl) (hc.glt (by omega)) (hc.gkd (by omega)) (Or.inl rfl) ?_
        refine E_iinc_n (d := 1) dX0_mergeClusters_120 rfl rfl rfl (by decide) rfl ?_
        refine E_goto (tgt := 72) dX0_mergeClusters_123 (by decide) ?_
        first
          | exact keep (by omega) (fun z => by omega) _
          | (have hp := hc.p64 (show k < 64 by omega)
             refine ih (by omega) _ _ ?_ (fun j => (mI_ne (by omega)).trans (h74 j))
             rw [← upK_s (by omega)]
             have e : mgF lo hi k (gat (upK L (mgF lo hi) k) k) = sC (gat (upK L (mgF lo hi) k) k) lo := cI_t ⟨by omega, by omega⟩
             rw [e]; exact hc.putC (by omega) hlo)
set_option maxRecDepth 100000 in
set_option maxHeartbeats 4000000 in
theorem lp1_X0_mergeClusters {g : gG} {Q : Option Value ⊕ String → gM → Prop} {c : Cf} {P : Nat → Nat} {M0 : gM} {M1 : gM} {L : List Gl} {π : Nat → Nat} {sp : Nat → Nat} {m : Nat} (hm3 : m ≤ 3) (hsp : spK L.length sp m) (hs74 : ∀ i, i < m → mI M1 74 i = nI (sp i)) (K : ∀ M, cX c P M0 (mrgL L (loN L sp (m - 1)) (hiN L sp (m - 1))) π M → (∀ j, mI M 74 j = mI M1 74 j) → Q (.inl none) M) {M : gM} (hc : cX c P M0 L π M) (h74 : ∀ j, mI M 74 j = mI M1 74 j) : ∀ k, k ≤ m - 1 → k < m → ∀ v5, E g 1 0 0 mX0_mergeClusters 23 [.ref 74, .int (nI m), .int (nI (loN L sp k)), .int (nI (hiN L sp k)), .int (nI (k + 1)), v5] [] M Q := by
  have hB := hc.B
  have hL := hB.lay
  have hn := hc.len
  have h1 := hsp.1
  refine lpUp (m - 1) (fun k hk ih => ?_)
  intro hkm v5
  have hb := lohi_b hc.ok sp k
  refine E_iload dX0_mergeClusters_23 rfl ?_
  refine E_iload_n dX0_mergeClusters_25 rfl ?_
  refine E_icmp_ge_n (tgt := 69) dX0_mergeClusters_26 (by decide) (by omega) (by omega) (fun c_26 => ?_) (fun c_26 => ?_)
  · obtain rfl : k = m - 1 := by omega
    refine E_iconst (v := nI 0) dX0_mergeClusters_69 (by decide) ?_
    refine E_istore dX0_mergeClusters_70 (Nat.le_of_ble_eq_true rfl) (by decide) rfl ?_
    exact lp2_X0_mergeClusters hb.1 hb.2 K 0 (Nat.zero_le _) M _ (by rw [upK_0 (fun j hj => by omega)]; exact hc) h74
  · have hsk := h1 (k + 1) (by omega)
    have hck := hc.c16 (sp (k + 1))
    refine E_aload_n dX0_mergeClusters_29 rfl ?_
    refine E_getRL dX0_mergeClusters_30 kF_X0_39 kY_0 (Or.inl ⟨_, rfl⟩) (l_73 hL) (k_73 hL) (r_73_0 hL) ?_
    refine E_getRL dX0_mergeClusters_33 kF_X0_58 kY_8 (Or.inr ⟨_, rfl⟩) (l_6 hL) (k_6 hL) (r_6_0 hL) ?_
    refine E_aload_n dX0_mergeClusters_36 rfl ?_
    refine E_getRL dX0_mergeClusters_37 kF_X0_9 kY_0 (Or.inr ⟨_, rfl⟩) (l_73 hL) (k_73 hL) (r_73_1 hL) ?_
    refine E_iload dX0_mergeClusters_40 rfl ?_
    refine E_ialdL (v := nI (sp _)) dX0_mergeClusters_42 (l_74 hL) (k_74 hL) rfl (by omega) (by decide) ((h74 _).trans (hs74 _ (by omega))) ?_
    refine E_aaldL (v := _) dX0_mergeClusters_43 (l_7 hL) (k_7 hL) (by decide) (by decide) rfl (by omega) (by decide) (hc.cell (by omega)) ?_
    refine E_getIL (v := nI (yC (gat _ _))) dX0_mergeClusters_44 kF_X0_145 kY_2 (Or.inl rfl) (hc.glt (by omega)) (hc.gkd (by omega)) (hc.g1 (by omega)) ?_
    refine E_istore dX0_mergeClusters_47 (Nat.le_of_ble_eq_true rfl) (by decide) rfl ?_
    refine E_iload_n dX0_mergeClusters_49 rfl ?_
    refine E_iload dX0_mergeClusters_50 rfl ?_
    refine E_kmin_n (gW_at 993 (by decide +kernel) (by decide +kernel)) dX0_mergeClusters_52 (by decide) (by exact Nat.le_of_ble_eq_true rfl) (by omega) (by omega) ?_
    refine E_istore_n dX0_mergeClusters_55 (Nat.le_of_ble_eq_true rfl) (by decide) rfl ?_
    refine E_iload_n dX0_mergeClusters_56 rfl ?_
    refine E_iload dX0_mergeClusters_57 rfl ?_
    refine E_kmax_n (gW_at 967 (by decide +kernel) (by decide +kernel)) dX0_mergeClusters_59 (by decide) (by exact Nat.le_of_ble_eq_true rfl) (by omega) (by omega) ?_
    refine E_istore_n dX0_mergeClusters_62 (Nat.le_of_ble_eq_true rfl) (by decide) rfl ?_
    refine E_iinc_n (d := 1) dX0_mergeClusters_63 rfl rfl rfl (by decide) rfl ?_
    refine E_goto (tgt := 23) dX0_mergeClusters_66 (by decide) ?_
    exact ih (by omega) (by omega) _
set_option maxRecDepth 100000 in
set_option maxHeartbeats 4000000 in
theorem sp_X0_mergeClusters {g : gG} {M : gM} {Q : Option Value ⊕ String → gM → Prop} {c : Cf} {P : Nat → Nat} {M0 : gM} {L : List Gl} {π : Nat → Nat} (hc : cX c P M0 L π M) {sp : Nat → Nat} {m : Nat} (hm3 : m ≤ 3) (hm0 : 0 < m) (hsp : spK L.length sp m) (hs74 : ∀ i, i < m → mI M 74 i = nI (sp i)) (K : ∀ M', cX c P M0 (mrgL L (loN L sp (m - 1)) (hiN L sp (m - 1))) π M' → (∀ j, mI M' 74 j = mI M 74 j) → Q (.inl none) M') : E g 1 0 0 mX0_mergeClusters 0 [.ref 74, .int (nI m), .null, .null, .null, .null] [] M Q := by
  have hB := hc.B
  have hL := hB.lay
  have hn := hc.len
  have h1 := hsp.1 0 hm0
  have hck := hc.c16 (sp 0)
  refine E_aload_n dX0_mergeClusters_0 rfl ?_
  refine E_getRL dX0_mergeClusters_1 kF_X0_39 kY_0 (Or.inl ⟨_, rfl⟩) (l_73 hL) (k_73 hL) (r_73_0 hL) ?_
  refine E_getRL dX0_mergeClusters_4 kF_X0_58 kY_8 (Or.inr ⟨_, rfl⟩) (l_6 hL) (k_6 hL) (r_6_0 hL) ?_
  refine E_aload_n dX0_mergeClusters_7 rfl ?_
  refine E_getRL dX0_mergeClusters_8 kF_X0_9 kY_0 (Or.inr ⟨_, rfl⟩) (l_73 hL) (k_73 hL) (r_73_1 hL) ?_
  refine E_iconst (v := nI 0) dX0_mergeClusters_11 (by decide) ?_
  refine E_ialdL (v := nI (sp _)) dX0_mergeClusters_12 (l_74 hL) (k_74 hL) rfl (by omega) (by decide) (hs74 _ (by omega)) ?_
  refine E_aaldL (v := _) dX0_mergeClusters_13 (l_7 hL) (k_7 hL) (by decide) (by decide) rfl (by omega) (by decide) (hc.cell (by omega)) ?_
  refine E_getIL (v := nI (yC (gat _ _))) dX0_mergeClusters_14 kF_X0_145 kY_2 (Or.inl rfl) (hc.glt (by omega)) (hc.gkd (by omega)) (hc.g1 (by omega)) ?_
  refine E_istore_n dX0_mergeClusters_17 (Nat.le_of_ble_eq_true rfl) (by decide) rfl ?_
  refine E_iload_n dX0_mergeClusters_18 rfl ?_
  refine E_istore_n dX0_mergeClusters_19 (Nat.le_of_ble_eq_true rfl) (by decide) rfl ?_
  refine E_iconst (v := nI 1) dX0_mergeClusters_20 (by decide) ?_
  refine E_istore dX0_mergeClusters_21 (Nat.le_of_ble_eq_true rfl) (by decide) rfl ?_
  exact lp1_X0_mergeClusters hm3 hsp hs74 K hc (fun _ => rfl) 0 (Nat.zero_le _) hm0 _
noncomputable def fuT (L : List Gl) (sp : Nat → Nat) : Nat → Int32
  | 0 => yT (gat L (sp 0))
  | k + 1 => fuT L sp k + yT (gat L (sp (k + 1)))
/-- the ligature, its parts summed up to k -/
noncomputable def fuL (L : List Gl) (sp : Nat → Nat) (its k : Nat) : List Gl := putL (numL L (sp 0) its) (sp 0) (sT (gat (numL L (sp 0) its) (sp 0)) (fuT L sp k))
theorem fuL_len (L : List Gl) (sp : Nat → Nat) (its k : Nat) : (fuL L sp its k).length = L.length := by unfold fuL; rw [put_len, num_len]
theorem gat_fuL0 {L : List Gl} {sp : Nat → Nat} {its k : Nat} (h : sp 0 < L.length) : gat (fuL L sp its k) (sp 0) = sT (sN (gat L (sp 0)) its) (fuT L sp k) := by
  unfold fuL
  rw [gat_put (by rw [num_len]; exact h), if_pos rfl]
  unfold numL; rw [gat_put h, if_pos rfl]
theorem gat_fuL {L : List Gl} {sp : Nat → Nat} {its k j : Nat} (h : j < L.length) (hj : ¬ j = sp 0) : gat (fuL L sp its k) j = gat L j := by
  unfold fuL
  rw [gat_put (by rw [num_len]; exact h), if_neg hj]
  unfold numL; rw [gat_put h, if_neg hj]
theorem fuL_0 {L : List Gl} {sp : Nat → Nat} {its : Nat} (h : sp 0 < L.length) : fuL L sp its 0 = numL L (sp 0) its := row_ext (by rw [fuL_len, num_len]) (fun j hj => by
  rw [fuL_len] at hj
  by_cases e : j = sp 0
  · subst e; rw [gat_fuL0 h]; unfold numL; rw [gat_put h, if_pos rfl]; rfl
  · rw [gat_fuL hj e]; unfold numL; rw [gat_put hj, if_neg e])
theorem fuL_s {L : List Gl} {sp : Nat → Nat} {its k : Nat} (h : sp 0 < L.length) : putL (fuL L sp its k) (sp 0) (sT (gat (fuL L sp its k) (sp 0)) (fuT L sp (k + 1))) = fuL L sp its (k + 1) := row_ext (by rw [put_len, fuL_len, fuL_len]) (fun j hj => by
  rw [put_len, fuL_len] at hj
  rw [gat_put (by rw [fuL_len]; exact hj)]
  by_cases e : j = sp 0
  · subst e; rw [if_pos rfl, gat_fuL0 h, gat_fuL0 h]; rfl
  · rw [if_neg e, gat_fuL hj e, gat_fuL hj e])
/-- what is left when the other items are taken out, the last one first -/
def ouL (sp : Nat → Nat) : Nat → List Gl × (Nat → Nat) → List Gl × (Nat → Nat)
  | 0, X => X
  | k + 1, X => ouL sp k (closeL X.1 (sp (k + 1)), piO X.2 X.1.length (sp (k + 1)))
set_option maxRecDepth 100000 in
set_option maxHeartbeats 4000000 in
theorem sp_X8_takeOutF {g : gG} {M : gM} {Q : Option Value ⊕ String → gM → Prop} {c : Cf} {P : Nat → Nat} {M0 : gM} {L : List Gl} {π : Nat → Nat} (hc : cX c P M0 L π M) {a : Nat} (ha : a < L.length) (K : ∀ M', cX c P M0 (closeL L a) (piO π L.length a) M' → (∀ j, mI M' 74 j = mI M 74 j) → Q (.inl none) M') : E g 1 0 0 mX8_takeOut 0 [.ref 7, .int (nI a), .null, .null] [] M Q := by
  have hB := hc.B
  have hL := hB.lay
  have hn := hc.len
  refine E_iload_n dX8_takeOut_0 rfl ?_
  refine E_if_lt_n (tgt := 12) dX8_takeOut_1 (by decide) (by omega) ?_
  refine E_iload_n dX8_takeOut_4 rfl ?_
  refine E_aload_n dX8_takeOut_5 rfl ?_
  refine E_getIL (v := nI (List.length _)) dX8_takeOut_6 kF_X8_17 kY_8 (Or.inl rfl) (l_6 hL) (k_6 hL) hc.n ?_
  refine E_icmp_lt_n (tgt := 13) dX8_takeOut_9 (by decide) (by omega) (by omega) (fun c_9 => ?_) (fun c_9 => ?_)
  · refine E_aload_n dX8_takeOut_13 rfl ?_
    refine E_getRL dX8_takeOut_14 kF_X8_11 kY_8 (Or.inr ⟨_, rfl⟩) (l_6 hL) (k_6 hL) (r_6_0 hL) ?_
    refine E_iload_n dX8_takeOut_17 rfl ?_
    refine E_aaldL (v := _) dX8_takeOut_18 (l_7 hL) (k_7 hL) (by decide) (by decide) rfl (by omega) (by decide) (hc.cell (by omega)) ?_
    refine E_astore_n dX8_takeOut_19 (Nat.le_of_ble_eq_true rfl) (by decide) rfl ?_
    refine E_iload_n dX8_takeOut_20 rfl ?_
    refine E_istore_n dX8_takeOut_21 (Nat.le_of_ble_eq_true rfl) (by decide) rfl ?_
    exact lp_X8_takeOut hL (fun i hi => hc.p64 hi) hc.n hn ha (hc.p64 (by omega)) (fun M hm => K _ (hc.out ha hm) (fun j => (mI_ne (by decide)).trans (hm.i 74 j))) a (by omega) (Nat.le_refl _) M (hc.cm.congr (fun i _ => by unfold mvU; rw [if_neg (by omega)]))
  · refine E_vret dX8_takeOut_12 rfl ?_
    exfalso; omega
theorem spK_m {n : Nat} {sp : Nat → Nat} {m : Nat} (h : spK n sp m) : ∀ {i j : Nat}, i ≤ j → j < m → sp i ≤ sp j := by
  intro i j hij
  induction j with
  | zero => intro _; rw [Nat.le_zero.mp hij]; exact Nat.le_refl _
  | succ j ih =>
    intro hj
    by_cases e : i = j + 1
    · rw [e]; exact Nat.le_refl _
    · have h1 := ih (by omega) (by omega)
      have h2 := h.2 j hj
      omega
set_option maxRecDepth 100000 in
set_option maxHeartbeats 4000000 in
theorem lp2_X0_fuse {g : gG} {Q : Option Value ⊕ String → gM → Prop} {c : Cf} {P : Nat → Nat} {M0 : gM} {M1 : gM} {sp : Nat → Nat} {m : Nat} {its : Nat} {v3 : Nat} (hs74 : ∀ i, i < m → mI M1 74 i = nI (sp i)) (hm3 : m ≤ 3) : ∀ k, 0 ≤ k → k < m → ∀ (L : List Gl) π M, spK L.length sp (k + 1) → cX c P M0 L π M → (∀ j, mI M 74 j = mI M1 74 j) → (K : ∀ M, cX c P M0 (ouL sp k (L, π)).1 (ouL sp k (L, π)).2 M → Q (.inl none) M) → E g 2 0 0 mX0_fuse 67 [.ref 74, .int (nI m), .int (nI its), .ref v3, .int (nI k)] [] M Q := by
  refine lpDn 0 (fun k _ ih => ?_)
  intro hkm L π M hsp hc h74 K
  have hB := hc.B
  have hL := hB.lay
  have hn := hc.len
  refine E_iload dX0_fuse_67 rfl ?_
  refine E_if_le_n (tgt := 92) dX0_fuse_69 (by decide) (by omega) (fun c_69 => ?_) (fun c_69 => ?_)
  · refine E_vret dX0_fuse_92 rfl ?_
    obtain rfl : k = 0 := by omega
    exact K M hc
  · obtain ⟨k, rfl⟩ : ∃ z, k = z + 1 := ⟨k - 1, by omega⟩
    simp only [Nat.add_sub_cancel] at ih
    have h1 := hsp.1 (k + 1) (by omega)
    have K : ∀ M, cX c P M0 (ouL sp k (closeL L (sp (k + 1)), piO π L.length (sp (k + 1)))).1 (ouL sp k (closeL L (sp (k + 1)), piO π L.length (sp (k + 1)))).2 M → Q (.inl none) M := K
    refine E_aload_n dX0_fuse_72 rfl ?_
    refine E_getRL dX0_fuse_73 kF_X0_39 kY_0 (Or.inl ⟨_, rfl⟩) (l_73 hL) (k_73 hL) (r_73_0 hL) ?_
    refine E_aload_n dX0_fuse_76 rfl ?_
    refine E_getRL dX0_fuse_77 kF_X0_9 kY_0 (Or.inr ⟨_, rfl⟩) (l_73 hL) (k_73 hL) (r_73_1 hL) ?_
    refine E_iload dX0_fuse_80 rfl ?_
    refine E_ialdL (v := nI (sp _)) dX0_fuse_82 (l_74 hL) (k_74 hL) rfl (by omega) (by decide) ((h74 _).trans (hs74 _ (by omega))) ?_
    refine E_callV1 (fr' := 1) (k1 := 0) (n1 := 0) (k2 := 0) (n2 := 0) dX0_fuse_83 kO_X8_takeOut kL_X0_157 (l_6 hL) (k_6 hL) ⟨by decide, rfl⟩ rfl (by decide) (by decide) (by exact Nat.le_of_ble_eq_true rfl) rfl ?_
    refine sp_X8_takeOutF hc h1 (fun M hc h74b => ?_)
    have hL := hc.B.lay
    refine gKn ?_
    refine E_iinc (v := nI k) dX0_fuse_86 rfl (pk_m1 k) (by decide) rfl ?_
    refine E_goto (tgt := 67) dX0_fuse_89 (by decide) ?_
    refine ih (by omega) (by omega) _ _ _ ⟨fun i hi => ?_, fun i hi => hsp.2 i (by omega)⟩ hc (fun j => (h74b j).trans (h74 j)) K
    rw [cl_len]
    have h2 := hsp.2 k (by omega)
    by_cases e : i = k
    · subst e; omega
    · have h3 := spK_m hsp (show i ≤ k by omega) (by omega); omega
set_option maxRecDepth 100000 in
set_option maxHeartbeats 4000000 in
theorem lp1_X0_fuse {g : gG} {Q : Option Value ⊕ String → gM → Prop} {c : Cf} {P : Nat → Nat} {M0 : gM} {M1 : gM} {L : List Gl} {π : Nat → Nat} {sp : Nat → Nat} {m : Nat} {its : Nat} (hm3 : m ≤ 3) (hm0 : 0 < m) (hsp : spK L.length sp m) (hs74 : ∀ i, i < m → mI M1 74 i = nI (sp i)) (K : ∀ M, cX c P M0 (ouL sp (m - 1) (fuL L sp its (m - 1), π)).1 (ouL sp (m - 1) (fuL L sp its (m - 1), π)).2 M → Q (.inl none) M) : ∀ k, k ≤ m - 1 → ∀ M, cX c P M0 (fuL L sp its k) π M → (∀ j, mI M 74 j = mI M1 74 j) → E g 2 0 0 mX0_fuse 23 [.ref 74, .int (nI m), .int (nI its), .ref (8 + π (sp 0) + 1), .int (nI (k + 1))] [] M Q := by
  refine lpUp (m - 1) (fun k hk ih => ?_)
  intro M hc h74
  have hln := fuL_len L sp its k
  have h0 := hsp.1 0 hm0
  have hB := hc.B
  have hL := hB.lay
  have hn := hc.len
  refine E_iload dX0_fuse_23 rfl ?_
  refine E_iload_n dX0_fuse_25 rfl ?_
  refine E_icmp_ge_n (tgt := 62) dX0_fuse_26 (by decide) (by omega) (by omega) (fun c_26 => ?_) (fun c_26 => ?_)
  · obtain rfl : k = m - 1 := by omega
    refine E_iload_n dX0_fuse_62 rfl ?_
    refine E_iconst (v := nI 1) dX0_fuse_63 (by decide) ?_
    refine E_isub_n dX0_fuse_64 (by omega) ?_
    refine E_istore dX0_fuse_65 (Nat.le_of_ble_eq_true rfl) (by decide) rfl ?_
    exact lp2_X0_fuse hs74 hm3 (m - 1) (Nat.zero_le _) (by omega) _ _ _ (by rw [fuL_len, show m - 1 + 1 = m by omega]; exact hsp) hc h74 K
  · have hk1 := hsp.1 (k + 1) (by omega)
    have hm := spK_m hsp (show 1 ≤ k + 1 by omega) (by omega)
    have h01 := hsp.2 0 (by omega)
    have hne : ¬ sp (k + 1) = sp 0 := by simp only [Nat.zero_add] at h01; omega
    have gk := hc.g6 (show sp (k + 1) < (fuL L sp its k).length by omega)
    have g0 := hc.g6 (show sp 0 < (fuL L sp its k).length by omega)
    rw [gat_fuL hk1 hne] at gk
    rw [gat_fuL0 h0] at g0
    refine E_aload_n dX0_fuse_29 rfl ?_
    refine E_dup dX0_fuse_30 rfl ?_
    refine E_getIL (v := fuT L sp k) dX0_fuse_31 kF_X0_136 kY_2 (Or.inl rfl) (hc.glt (by omega)) (hc.gkd (by omega)) g0 ?_
    refine E_aload_n dX0_fuse_34 rfl ?_
    refine E_getRL dX0_fuse_35 kF_X0_39 kY_0 (Or.inl ⟨_, rfl⟩) (l_73 hL) (k_73 hL) (r_73_0 hL) ?_
    refine E_getRL dX0_fuse_38 kF_X0_58 kY_8 (Or.inr ⟨_, rfl⟩) (l_6 hL) (k_6 hL) (r_6_0 hL) ?_
    refine E_aload_n dX0_fuse_41 rfl ?_
    refine E_getRL dX0_fuse_42 kF_X0_9 kY_0 (Or.inr ⟨_, rfl⟩) (l_73 hL) (k_73 hL) (r_73_1 hL) ?_
    refine E_iload dX0_fuse_45 rfl ?_
    refine E_ialdL (v := nI (sp _)) dX0_fuse_47 (l_74 hL) (k_74 hL) rfl (by omega) (by decide) ((h74 _).trans (hs74 _ (by omega))) ?_
    refine E_aaldL (v := _) dX0_fuse_48 (l_7 hL) (k_7 hL) (by decide) (by decide) rfl (by omega) (by decide) (hc.cell (by omega)) ?_
    refine E_getIL (v := yT (gat L (sp (k + 1)))) dX0_fuse_49 kF_X0_136 kY_2 (Or.inl rfl) (hc.glt (by omega)) (hc.gkd (by omega)) gk ?_
    refine E_iadd dX0_fuse_52 ?_
    refine E_putI dX0_fuse_53 kF_X0_136 kY_2 (Or.inl rfl) (hc.glt (by omega)) (hc.gkd (by omega)) (Or.inl rfl) ?_
    have hp := hc.p64 (show sp 0 < 64 by omega)
    have h74b : ∀ j, mI (sI M (8 + π (sp 0)) 6 (fuT L sp k + yT (gat L (sp (k + 1))))) 74 j = mI M1 74 j := fun j => (mI_ne (by omega)).trans (h74 j)
    have hc := hc.putT (i := sp 0) (v := fuT L sp (k + 1)) (by omega)
    rw [fuL_s h0] at hc
    have hL := hc.B.lay
    refine E_iinc_n (d := 1) dX0_fuse_56 rfl rfl rfl (by decide) rfl ?_
    refine E_goto (tgt := 23) dX0_fuse_59 (by decide) ?_
    exact ih (by omega) _ hc h74b
set_option maxRecDepth 100000 in
set_option maxHeartbeats 4000000 in
theorem sp_X0_fuse {g : gG} {M : gM} {Q : Option Value ⊕ String → gM → Prop} {c : Cf} {P : Nat → Nat} {M0 : gM} {L : List Gl} {π : Nat → Nat} (hc : cX c P M0 L π M) {sp : Nat → Nat} {m : Nat} {its : Nat} (hits : its < 256) (hm3 : m ≤ 3) (hm0 : 0 < m) (hsp : spK L.length sp m) (hs74 : ∀ i, i < m → mI M 74 i = nI (sp i)) (K : ∀ M, cX c P M0 (ouL sp (m - 1) (fuL L sp its (m - 1), π)).1 (ouL sp (m - 1) (fuL L sp its (m - 1), π)).2 M → Q (.inl none) M) : E g 2 0 0 mX0_fuse 0 [.ref 74, .int (nI m), .int (nI its), .null, .null] [] M Q := by
  have hB := hc.B
  have hL := hB.lay
  have hn := hc.len
  have h0 := hsp.1 0 hm0
  refine E_aload_n dX0_fuse_0 rfl ?_
  refine E_getRL dX0_fuse_1 kF_X0_39 kY_0 (Or.inl ⟨_, rfl⟩) (l_73 hL) (k_73 hL) (r_73_0 hL) ?_
  refine E_getRL dX0_fuse_4 kF_X0_58 kY_8 (Or.inr ⟨_, rfl⟩) (l_6 hL) (k_6 hL) (r_6_0 hL) ?_
  refine E_aload_n dX0_fuse_7 rfl ?_
  refine E_getRL dX0_fuse_8 kF_X0_9 kY_0 (Or.inr ⟨_, rfl⟩) (l_73 hL) (k_73 hL) (r_73_1 hL) ?_
  refine E_iconst (v := nI 0) dX0_fuse_11 (by decide) ?_
  refine E_ialdL (v := nI (sp _)) dX0_fuse_12 (l_74 hL) (k_74 hL) rfl (by omega) (by decide) (hs74 _ (by omega)) ?_
  refine E_aaldL (v := _) dX0_fuse_13 (l_7 hL) (k_7 hL) (by decide) (by decide) rfl (by omega) (by decide) (hc.cell (by omega)) ?_
  refine E_astore_n dX0_fuse_14 (Nat.le_of_ble_eq_true rfl) (by decide) rfl ?_
  refine E_aload_n dX0_fuse_15 rfl ?_
  refine E_iload_n dX0_fuse_16 rfl ?_
  refine E_putI dX0_fuse_17 kF_X0_84 kY_2 (Or.inl rfl) (hc.glt (by omega)) (hc.gkd (by omega)) (Or.inl rfl) ?_
  have hp := hc.p64 (show sp 0 < 64 by omega)
  have h74b : ∀ j, mI (sI M (8 + π (sp 0)) 0 (nI its)) 74 j = mI M 74 j := fun j => mI_ne (by omega)
  have hc := hc.putN (i := sp 0) (v := its) (by omega) hits
  rw [← fuL_0 h0] at hc
  have hL := hc.B.lay
  refine E_iconst (v := nI 1) dX0_fuse_20 (by decide) ?_
  refine E_istore dX0_fuse_21 (Nat.le_of_ble_eq_true rfl) (by decide) rfl ?_
  exact lp1_X0_fuse hm3 hm0 hsp hs74 K 0 (Nat.zero_le _) _ hc h74b
/-! what a rule does is as the reference does it -/
theorem prt_g {c : Cf} {f : Nat} {L : List Gl} {a b : Nat} {s p : Int32} (j : Nat) : yN (gat (prtL c f L a b s p) j) = yN (gat L j) ∧ yC (gat (prtL c f L a b s p) j) = yC (gat L j) ∧ yT (gat (prtL c f L a b s p) j) = yT (gat L j) := by
  by_cases h : j < L.length
  · unfold prtL
    rw [gat_upd h]
    unfold prF
    by_cases q : a ≤ j ∧ j < b ∧ 0 < cN c 137 (256 * f + yN (gat L j))
    · rw [cI_t q]; exact ⟨rfl, rfl, rfl⟩
    · rw [cI_f q]; exact ⟨rfl, rfl, rfl⟩
  · rw [gat_out (L := prtL c f L a b s p) (by rw [prt_len]; omega), gat_out (L := L) (by omega)]; exact ⟨rfl, rfl, rfl⟩
theorem mrg_g {L : List Gl} {lo hi : Nat} (j : Nat) : yN (gat (mrgL L lo hi) j) = yN (gat L j) ∧ yT (gat (mrgL L lo hi) j) = yT (gat L j) := by
  by_cases h : j < L.length
  · unfold mrgL
    rw [gat_upd h]
    unfold mgF
    by_cases q : lo ≤ yC (gat L j) ∧ yC (gat L j) ≤ hi
    · rw [cI_t q]; exact ⟨rfl, rfl⟩
    · rw [cI_f q]; exact ⟨rfl, rfl⟩
  · rw [gat_out (L := mrgL L lo hi) (by rw [mrg_len]; omega), gat_out (L := L) (by omega)]; exact ⟨rfl, rfl⟩
theorem n0_add (x : Int32) : nI 0 + x = x := by
  have e : nI 0 = (0 : Int32) := rfl
  rw [e]; exact Int32.zero_add x
theorem add_n0 (x : Int32) : x + nI 0 = x := by
  have e : nI 0 = (0 : Int32) := rfl
  rw [e]; exact Int32.add_zero x
def sp3 (a b d : Nat) : Nat → Nat | 0 => a | 1 => b | _ => d
theorem aft_marks {c : Cf} {f l : Nat} {L : List Gl} {i : Nat} (hi : i < L.length) {j : Nat} (h1 : i < j) (h2 : j < aft c f l L i) : isM c f L j := by
  have := (fnd_spec (P := fun k => ¬ skp c f l (yN (gat L k))) (show i + 1 ≤ L.length by omega)).2.2.2 j (by omega) h2
  exact (Classical.not_not.mp this).1
theorem jnP_eq {c : Cf} {f : Nat} {L : List Gl} {one two : Nat} (h12 : one < two) (hm : ∀ j, one < j → j < two → isM c f L j) {sp : Nat → Nat} {m : Nat} (hm2 : 1 < m) (e0 : sp 0 = one) (e1 : sp 1 = two) : (gpL c f L.length sp m L 1).1 = jnP c f L one two ∧ (gpL c f L.length sp m L 1).2 = nI 0 + yT (gat L one) := by
  refine ⟨?_, by show nI 0 + yT (gat L (sp 0)) = _; rw [e0]⟩
  show gpS c f L.length sp m 0 (nI 0) L = _
  unfold gpS jnP gpE
  rw [if_pos (by omega), e0, show sp (0 + 1) = two from e1, gpT_all (by omega) (fun k q1 q2 => hm k (by omega) q2)]
theorem jn2_eq {c : Cf} {f : Nat} {L : List Gl} {one two d its : Nat} (h12 : one < two) (h2 : two < L.length) (hm : ∀ j, one < j → j < two → isM c f L j) : closeL (fuL (mrgL (gpL c f L.length (sp3 one two d) 2 L 2).1 (loN (gpL c f L.length (sp3 one two d) 2 L 2).1 (sp3 one two d) 1) (hiN (gpL c f L.length (sp3 one two d) 2 L 2).1 (sp3 one two d) 1)) (sp3 one two d) its 1) two = jn2 c f L one two its := by
  have hp := jnP_eq (c := c) (f := f) (sp := sp3 one two d) (m := 2) h12 hm (by decide) rfl rfl
  have eX : (gpL c f L.length (sp3 one two d) 2 L 2).1 = jnB c f (jnP c f L one two) two (al2 L one two) := by
    show gpS c f L.length (sp3 one two d) 2 1 (gpL c f L.length (sp3 one two d) 2 L 1).2 (gpL c f L.length (sp3 one two d) 2 L 1).1 = _
    rw [hp.1, hp.2]
    unfold gpS jnB gpE gpT bhm al2
    rw [if_neg (by omega), jnP_len]
    show prtL c f (jnP c f L one two) (two + 1) _ (nI 0 + yT (gat L one)) (yT (gat (jnP c f L one two) two)) = _
    have e2 : yT (gat (jnP c f L one two) two) = yT (gat L two) := (prt_g two).2.2
    rw [e2, n0_add, add_n0, Int32.add_sub_cancel]
    rfl
  rw [eX]
  unfold jn2
  generalize hX : jnB c f (jnP c f L one two) two (al2 L one two) = X
  have eT : ∀ j, yT (gat X j) = yT (gat L j) := fun j => by rw [← hX]; exact (prt_g j).2.2.trans (prt_g j).2.2
  show closeL (putL (numL (mrgL X (min (yC (gat X one)) (yC (gat X two))) (max (yC (gat X one)) (yC (gat X two)))) one its) one (sT (gat (numL (mrgL X (min (yC (gat X one)) (yC (gat X two))) (max (yC (gat X one)) (yC (gat X two)))) one its) one) (yT (gat (mrgL X _ _) one) + yT (gat (mrgL X _ _) two)))) two = closeL (putL (numL (mrgL X (min (yC (gat X one)) (yC (gat X two))) (max (yC (gat X one)) (yC (gat X two)))) one its) one (sT (gat (numL (mrgL X (min (yC (gat X one)) (yC (gat X two))) (max (yC (gat X one)) (yC (gat X two)))) one its) one) (al2 L one two))) two
  rw [(mrg_g one).2, (mrg_g two).2, eT, eT]
  unfold al2
  rw [add_n0]
theorem jn3_eq {c : Cf} {f : Nat} {L : List Gl} {one two three its : Nat} (h12 : one < two) (h23 : two < three) (h3 : three < L.length) (hm : ∀ j, one < j → j < two → isM c f L j) (hm2 : ∀ j, two < j → j < three → isM c f L j) : closeL (closeL (fuL (mrgL (gpL c f L.length (sp3 one two three) 3 L 3).1 (loN (gpL c f L.length (sp3 one two three) 3 L 3).1 (sp3 one two three) 2) (hiN (gpL c f L.length (sp3 one two three) 3 L 3).1 (sp3 one two three) 2)) (sp3 one two three) its 2) three) two = jn3 c f L one two three its := by
  have hp := jnP_eq (c := c) (f := f) (sp := sp3 one two three) (m := 3) h12 hm (by decide) rfl rfl
  have eT1 : ∀ j, yT (gat (jnP c f L one two) j) = yT (gat L j) := fun j => (prt_g j).2.2
  have eQ : (gpL c f L.length (sp3 one two three) 3 L 2).1 = jnQ c f (jnP c f L one two) one two three ∧ (gpL c f L.length (sp3 one two three) 3 L 2).2 = nI 0 + yT (gat L one) + yT (gat L two) := by
    constructor
    · show gpS c f L.length (sp3 one two three) 3 1 (gpL c f L.length (sp3 one two three) 3 L 1).2 (gpL c f L.length (sp3 one two three) 3 L 1).1 = _
      rw [hp.1, hp.2]
      unfold gpS jnQ gpE
      rw [if_pos (by omega)]
      show prtL c f (jnP c f L one two) (two + 1) (gpT c f (jnP c f L one two) (two + 1) three) (nI 0 + yT (gat L one)) (yT (gat (jnP c f L one two) two)) = _
      rw [gpT_all (by omega) (fun k q1 q2 => by
        have := hm2 k (by omega) q2
        unfold isM at *
        rw [show yN (gat (jnP c f L one two) k) = yN (gat L k) from (prt_g k).1]; exact this), n0_add, eT1 one]
    · show (gpL c f L.length (sp3 one two three) 3 L 1).2 + yT (gat (gpL c f L.length (sp3 one two three) 3 L 1).1 two) = _
      rw [hp.1, hp.2, eT1]
  have eT2 : ∀ j, yT (gat (jnQ c f (jnP c f L one two) one two three) j) = yT (gat L j) := fun j => (prt_g j).2.2.trans (eT1 j)
  have eX : (gpL c f L.length (sp3 one two three) 3 L 3).1 = jnB c f (jnQ c f (jnP c f L one two) one two three) three (al3 L one two three) := by
    show gpS c f L.length (sp3 one two three) 3 2 (gpL c f L.length (sp3 one two three) 3 L 2).2 (gpL c f L.length (sp3 one two three) 3 L 2).1 = _
    rw [eQ.1, eQ.2]
    unfold gpS jnB gpE gpT bhm al3
    rw [if_neg (by omega), jnQ_len, jnP_len]
    show prtL c f (jnQ c f (jnP c f L one two) one two three) (three + 1) _ (nI 0 + yT (gat L one) + yT (gat L two)) (yT (gat (jnQ c f (jnP c f L one two) one two three) three)) = _
    rw [eT2, n0_add, Int32.add_sub_cancel]
    rfl
  rw [eX]
  unfold jn3
  generalize hX : jnB c f (jnQ c f (jnP c f L one two) one two three) three (al3 L one two three) = X
  have eT : ∀ j, yT (gat X j) = yT (gat L j) := fun j => by rw [← hX]; exact (prt_g j).2.2.trans (eT2 j)
  have key : ∀ lo hi, closeL (closeL (fuL (mrgL X lo hi) (sp3 one two three) its 2) three) two = closeL (jnA X one its three (al3 L one two three) lo hi) two := fun lo hi => by
    show closeL (closeL (putL (numL (mrgL X lo hi) one its) one (sT (gat (numL (mrgL X lo hi) one its) one) (yT (gat (mrgL X lo hi) one) + yT (gat (mrgL X lo hi) two) + yT (gat (mrgL X lo hi) three)))) three) two = closeL (closeL (putL (numL (mrgL X lo hi) one its) one (sT (gat (numL (mrgL X lo hi) one its) one) (al3 L one two three))) three) two
    rw [(mrg_g one).2, (mrg_g two).2, (mrg_g three).2, eT, eT, eT]
    rfl
  exact key _ _
theorem gat_num {L : List Gl} {i v j : Nat} (h : j < L.length) : gat (numL L i v) j = if j = i then sN (gat L i) v else gat L j := gat_put h
theorem gat_op {L : List Gl} {i m j : Nat} (h : j < L.length + m) : gat (openL L i m) j = gat L (if j ≤ i then j else if j ≤ i + m then i else j - m) := gat_mkL h
theorem gat_pub {L : List Gl} {a v j : Nat} (h : j < L.length + 1) : gat (pubL L a v) j = if j ≤ a then gat L j else if j = a + 1 then sN (gat L a) v else gat L (j - 1) := gat_mkL h
theorem gat_pb1 {L : List Gl} {i b cc j : Nat} (hi : i < L.length) (h : j < L.length + 1) : gat (pubL (numL L i b) i cc) j = if j ≤ i then (if j = i then sN (gat L i) b else gat L j) else if j = i + 1 then sN (gat L i) cc else gat L (j - 1) := by
  rw [gat_pub (L := numL L i b) (by rw [num_len]; exact h)]
  by_cases q : j ≤ i
  · rw [if_pos q, if_pos q, gat_num (by omega)]
  · rw [if_neg q, if_neg q]
    by_cases q2 : j = i + 1
    · rw [if_pos q2, if_pos q2, gat_num hi, if_pos rfl]; rfl
    · rw [if_neg q2, if_neg q2, gat_num (by omega), if_neg (by omega)]
theorem gat_pts {L : List Gl} {i m b cc j : Nat} (hi : i < L.length) (hm : 1 ≤ m) (h : j < L.length + m) : gat (numL (numL (openL L i m) i b) (i + 1) cc) j = if j = i + 1 then sN (gat L i) cc else if j = i then sN (gat L i) b else gat L (if j ≤ i then j else if j ≤ i + m then i else j - m) := by
  rw [gat_num (L := numL (openL L i m) i b) (by rw [num_len, op_len]; exact h)]
  by_cases q : j = i + 1
  · rw [if_pos q, if_pos q, gat_num (L := openL L i m) (by rw [op_len]; omega), if_neg (by omega), gat_op (by omega), if_neg (by omega), if_pos (by omega)]
  · rw [if_neg q, if_neg q, gat_num (L := openL L i m) (by rw [op_len]; exact h)]
    by_cases q2 : j = i
    · rw [if_pos q2, if_pos q2, gat_op (by omega), if_pos (Nat.le_refl i)]
    · rw [if_neg q2, if_neg q2, gat_op h]
theorem pt_1 {L : List Gl} {i b cc : Nat} (hi : i < L.length) : pubL (numL L i b) i cc = putsL L i 1 b cc cc := row_ext (by rw [pub_len, num_len, puts_len]) (fun j hj => by
  rw [pub_len, num_len] at hj
  unfold putsL
  rw [gat_pb1 hi hj, gat_num (L := numL (numL (openL L i 1) i b) (i + 1) cc) (by rw [num_len, num_len, op_len]; exact hj), gat_pts (j := j) hi (Nat.le_refl 1) hj, gat_pts (j := i + 1) hi (Nat.le_refl 1) (by omega), if_pos (show i + 1 = i + 1 from rfl)]
  by_cases q : j ≤ i
  · rw [if_pos q, if_neg (show ¬ j = i + 1 by omega), if_neg (show ¬ j = i + 1 by omega), if_pos q]
  · rw [if_neg q]
    by_cases q2 : j = i + 1
    · rw [if_pos q2, if_pos q2]; rfl
    · rw [if_neg q2, if_neg q2, if_neg q2, if_neg (by omega), if_neg q, if_neg (by omega)])
theorem pt_2 {L : List Gl} {i b cc d : Nat} (hi : i < L.length) : pubL (pubL (numL L i b) i cc) (i + 1) d = putsL L i 2 b cc d := row_ext (by rw [pub_len, pub_len, num_len, puts_len]) (fun j hj => by
  rw [pub_len, pub_len, num_len] at hj
  unfold putsL
  rw [gat_pub (L := pubL (numL L i b) i cc) (by rw [pub_len, num_len]; exact hj), gat_num (L := numL (numL (openL L i 2) i b) (i + 1) cc) (by rw [num_len, num_len, op_len]; exact hj), gat_pts (j := j) hi (by decide) hj, gat_pts (j := i + 2) hi (by decide) (by omega), if_neg (show ¬ i + 2 = i + 1 by omega), if_neg (show ¬ i + 2 = i by omega), if_neg (show ¬ i + 2 ≤ i by omega), if_pos (Nat.le_refl _)]
  by_cases q : j ≤ i + 1
  · rw [if_pos q, if_neg (show ¬ j = i + 2 by omega), gat_pb1 hi (by omega)]
    by_cases q2 : j = i + 1
    · rw [if_neg (show ¬ j ≤ i by omega), if_pos q2, if_pos q2]
    · rw [if_pos (show j ≤ i by omega), if_neg q2]
      by_cases q3 : j = i
      · rw [if_pos q3, if_pos q3]
      · rw [if_neg q3, if_neg q3, if_pos (show j ≤ i by omega)]
  · rw [if_neg q]
    by_cases q2 : j = i + 2
    · rw [if_pos (show j = i + 1 + 1 by omega), if_pos q2, gat_pb1 hi (by omega), if_neg (show ¬ i + 1 ≤ i by omega), if_pos rfl]
      rfl
    · rw [if_neg (show ¬ j = i + 1 + 1 by omega), if_neg q2, gat_pb1 hi (by omega), if_neg (show ¬ j - 1 ≤ i by omega), if_neg (show ¬ j - 1 = i + 1 by omega), if_neg (show ¬ j = i + 1 by omega), if_neg (show ¬ j = i by omega), if_neg (show ¬ j ≤ i by omega), if_neg (show ¬ j ≤ i + 2 by omega), show j - 1 - 1 = j - 2 by omega])
