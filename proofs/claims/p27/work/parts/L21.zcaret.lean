/-! the law: runs, clusters, carets -/
theorem gE_255 {x : Gl} (h : okZ x) : nI (yN x + 256 * yC x) &&& nI 255 = nI (yN x) := zf0 (k := 8) rfl (by have := h.b; omega)
theorem gE_8 {x : Gl} (h : okZ x) : nI (yN x + 256 * yC x) >>> (nI 8 &&& 31) = nI (yC x) := zfs (by have := h.b; omega) (by decide) (by have := h.b; omega)
/-- the law has shaped the whole text -/
def lT (c : Cf) (M : gM) : Prop := (zS c M ∧ mI M 132 8 = nI (ng c) ∧ mI M 132 9 = nI (tr c) ∧ mI M 132 10 = nI 0 ∧ ng c ≤ 64) ∧ shL c 0 (tl c) 133 0 0 (ng c) M
section LT
variable {c : Cf} {M : gM}
theorem lT.S (h : lT c M) : zS c M := h.1.1
theorem lT.lay (h : lT c M) : gLay M := h.1.1.lay
theorem lT.wf (h : lT c M) : WFc c := h.1.1.wf
theorem lT.tx (h : lT c M) {k : Nat} (hk : k < tl c) : mI M 128 k = nI (tEn c k) := h.1.1.tx hk
theorem lT.t10 (h : lT c M) : tl c ≤ 10 := h.1.1.t10
theorem lT.a8 (h : lT c M) : mI M 132 8 = nI (ng c) := h.1.2.1
theorem lT.a9 (h : lT c M) : mI M 132 9 = nI (tr c) := h.1.2.2.1
theorem lT.a10 (h : lT c M) : mI M 132 10 = nI 0 := h.1.2.2.2.1
theorem lT.n64 (h : lT c M) : ng c ≤ 64 := h.1.2.2.2.2
theorem lT.nr (h : lT c M) : tr c ≤ 10 := by
  have h1 : tr c ≤ tl c - 0 := (nr_b (c := c) (Nat.zero_le (tl c)) (by have := h.t10; omega)).1
  have := h.t10
  omega
theorem lT.tnb (h : lT c M) {j : Nat} (hj : j ≤ tr c) : tn c j ≤ tl c := (rn_b (c := c) (Nat.zero_le (tl c)) j hj).2.1
theorem lT.te (h : lT c M) : tn c (tr c) = tl c := (nr_b (c := c) (Nat.zero_le (tl c)) (by have := h.t10; omega)).2
theorem lT.z0 (h : lT c M) {j : Nat} (hj : j < tr c) : mI M 138 j = nI (tn c j + 100 * scr c 0 (tl c) (tn c j)) := by
  have := (h.2.2.1 j hj).1
  rw [Nat.zero_add] at this
  exact this
theorem lT.zx (h : lT c M) {j : Nat} (hj : j ≤ tr c) : ∃ s, s ≤ 1 ∧ mI M 138 j = nI (tn c j + 100 * s) := by
  by_cases e : j = tr c
  · refine ⟨0, by decide, ?_⟩
    have := h.2.2.2.2.1
    rw [Nat.zero_add] at this
    rw [e, h.te]
    exact this
  · exact ⟨_, scr_b _ _ _ _, h.z0 (by omega)⟩
theorem lT.zg (h : lT c M) {j : Nat} (hj : j ≤ tr c) : mI M 138 (20 + j) = nI (tg c j) := by
  by_cases e : j = tr c
  · have := h.2.2.2.2.2.1
    rw [Nat.zero_add] at this
    rw [e]
    exact this
  · have := (h.2.2.1 j (by show j < tr c; omega)).2.1
    rw [Nat.zero_add, Nat.zero_add] at this
    exact this
theorem lT.zl (h : lT c M) {j : Nat} (hj : j ≤ tr c) : mI M 138 (40 + j) = tS c j := by
  by_cases e : j = tr c
  · have := h.2.2.2.2.2.2
    rw [Nat.zero_add] at this
    rw [e]
    exact this
  · have := (h.2.2.1 j (by show j < tr c; omega)).2.2
    rw [Nat.zero_add] at this
    exact this
theorem lT.ok (h : lT c M) {j p : Nat} (hj : j < tr c) (hp : p < (tL c j).length) : okZ (gat (tL c j) p) := (h.2.2.2.1 j hj).1.1.at hp
theorem lT.on (h : lT c M) {j : Nat} (hj : j < tr c) : onZ (plc c (rfc c 0 (tl c) j) (tL c j)) (tL c j).length := (h.2.2.2.1 j hj).1.2
theorem lT.lg (h : lT c M) {j : Nat} (hj : j < tr c) : lG 133 (tg c j) (tL c j) (tB c j) (tL c j).length M := by
  have := (h.2.2.2.1 j hj).2
  rw [Nat.zero_add] at this
  exact this
theorem lT.g (h : lT c M) {j p : Nat} (hj : j < tr c) (hp : p < (tL c j).length) : mI M 133 (tg c j + p) = nI (yN (gat (tL c j) p) + 256 * yC (gat (tL c j) p)) := (h.lg hj p hp).1
theorem lT.v (h : lT c M) {j p : Nat} (hj : j < tr c) (hp : p < (tL c j).length) : mI M 134 (tg c j + p) = tB c j 0 p := (h.lg hj p hp).2.1
theorem lT.gb (h : lT c M) {j : Nat} (hj : j < tr c) : tg c j + (tL c j).length ≤ 64 := by
  have h1 := tg_m c hj
  have h2 := tg_s c j
  have h3 : tg c (tr c) ≤ 64 := h.n64
  omega
theorem lT.mv {M' : gM} (h : lT c M) (hL : gLay M') (e : ∀ a j, 128 ≤ a → a ≤ 138 → mI M' a j = mI M a j) (el : ∀ j, mL M' 130 j = mL M 130 j) : lT c M' := by
  refine ⟨⟨h.S.mvG hL (fun a j q q2 _ => e a j q (by omega)) el, (e _ _ (by decide) (by decide)).trans h.a8, (e _ _ (by decide) (by decide)).trans h.a9, (e _ _ (by decide) (by decide)).trans h.a10, h.n64⟩, h.2.1, h.2.2.1.mv (fun j => e _ _ (by decide) (by decide)), h.2.2.2.1.mv (fun q j hq _ => e _ _ (by omega) (by omega)), ?_, ?_, ?_⟩
  · rw [e _ _ (by decide) (by decide)]; exact h.2.2.2.2.1
  · rw [e _ _ (by decide) (by decide)]; exact h.2.2.2.2.2.1
  · rw [e _ _ (by decide) (by decide)]; exact h.2.2.2.2.2.2
theorem lT.kq {M' : gM} (h : lT c M) (hL : gLay M') (hk : kq M M') : lT c M' := by
  have h139 : 139 ≤ mN M := h.lay.1
  exact h.mv hL (fun a j q q2 => (hk.2.2 a j q (by omega)).1) (fun j => (hk.2.2 130 j (by decide) (by omega)).2.1)
end LT
theorem clE_m {L : List Gl} {p : Nat} : ∀ k j, j < k → yC (gat L j) ≤ p → yC (gat L j) + 1 ≤ clE L p k
  | 0, _, h, _ => absurd h (Nat.not_lt_zero _)
  | k + 1, j, h, hp => by
    show _ ≤ cI _ _ _
    by_cases e : yC (gat L k) ≤ p ∧ clE L p k ≤ yC (gat L k)
    · rw [cI_t e]
      by_cases q : j = k
      · rw [q]; exact Nat.le_refl _
      · have := clE_m k j (by omega) hp
        omega
    · rw [cI_f e]
      by_cases q : j = k
      · rw [q] at hp ⊢; omega
      · exact clE_m k j (by omega) hp
theorem eoE_c {L : List Gl} {q p e : Nat} : ∀ k, (∀ j, j < k → (q < yC (gat L j) ↔ p < yC (gat L j))) → eoE L q e k = eoE L p e k
  | 0, _ => rfl
  | k + 1, h => by
    show cI _ _ _ = cI _ _ _
    rw [eoE_c k (fun j hj => h j (by omega))]
    exact cI_congr (by rw [h k (by omega)])
theorem eoC_l {c : Cf} {r p q : Nat} (h : clO c r p = q + 1) : eoC c r q = eoE (tL c r) p (tn c (r + 1)) (tL c r).length := by
  have hb : clO c r p ≤ p + 1 := clE_b _ _ _
  refine eoE_c _ (fun j hj => ⟨fun z => ?_, fun z => by omega⟩)
  by_cases e : yC (gat (tL c r) j) ≤ p
  · have h2 : _ ≤ clO c r p := clE_m (L := tL c r) (p := p) _ j hj e
    omega
  · omega
theorem fdv_l {x : Int32} {m a : Nat} (hx : bd x a) (ha : a < 2 ^ 29) (h0 : 0 < m) (hm : m < 2 ^ 20) : (¬ x < 0 → fdv x m = x / nI m) ∧ (x < 0 → fdv x m = -((dI m - x) / nI m)) := by
  have hmi : (nI m).toInt = (m : Int) := nI_toInt (by omega)
  have h1 : (1 : Int32).toInt = 1 := by decide
  unfold fdv
  refine ⟨fun q => ?_, fun q => ?_⟩
  · rw [cI_f (fun z => q z.1)]
    have : nI 0 = (0 : Int32) := rfl
    rw [this]; grind
  · have q2 := Int32.lt_iff_toInt_lt.mp q
    rw [show (0 : Int32).toInt = 0 by decide] at q2
    unfold bd at hx
    obtain ⟨y, hy⟩ : ∃ y : Nat, x.toInt = -(y : Int) := ⟨(-x.toInt).toNat, by omega⟩
    have hy2 : y < 2 ^ 29 := by omega
    obtain ⟨d, hd⟩ : ∃ d, y / m = d := ⟨_, rfl⟩
    obtain ⟨r, hr⟩ : ∃ r, y % m = r := ⟨_, rfl⟩
    obtain ⟨w, hw⟩ : ∃ w, (m - 1 + y) / m = w := ⟨_, rfl⟩
    have h3 : m * d + r = y := by rw [← hd, ← hr]; exact Nat.div_add_mod y m
    have h4 : r < m := by rw [← hr]; exact Nat.mod_lt y h0
    have h5 : d ≤ y := by rw [← hd]; exact Nat.div_le_self _ _
    have h6 : w ≤ m - 1 + y := by rw [← hw]; exact Nat.div_le_self _ _
    have h7 : r = 0 → w = d := fun e => by
      rw [← hw, show m - 1 + y = (m - 1) + m * d by omega, Nat.add_mul_div_left _ _ h0, Nat.div_eq_of_lt (by omega), Nat.zero_add]
    have h8 : ¬ r = 0 → w = d + 1 := fun e => by
      rw [← hw, show m - 1 + y = (r - 1) + m * (d + 1) by rw [Nat.mul_add]; omega, Nat.add_mul_div_left _ _ h0, Nat.div_eq_of_lt (by omega), Nat.zero_add]
    have ed : (x / nI m).toInt = -(d : Int) := by
      rw [Int32.toInt_div, hmi, hy, Int.neg_tdiv, ← Int.ofNat_tdiv, hd, bm (by omega) (by omega)]
    have emul : (x / nI m * nI m).toInt = -((m * d : Nat) : Int) := by
      rw [Int32.toInt_mul, ed, hmi, Int.neg_mul, Int.mul_comm, ← Int.natCast_mul, bm (by omega) (by omega)]
    have esub : (x - x / nI m * nI m).toInt = -(r : Int) := by
      rw [Int32.toInt_sub, emul, hy, bm (by omega) (by omega)]
      omega
    have edm : (dI m - x).toInt = ((m - 1 + y : Nat) : Int) := by
      rw [Int32.toInt_sub, dI_toInt (by omega), hy, bm (by omega) (by omega)]
      omega
    have er : ((dI m - x) / nI m).toInt = (w : Int) := by
      rw [Int32.toInt_div, hmi, edm, ← Int.ofNat_tdiv, hw, bm (by omega) (by omega)]
    have en : (-((dI m - x) / nI m)).toInt = -(w : Int) := by
      rw [Int32.toInt_neg, er, bm (by omega) (by omega)]
    apply Int32.toInt_inj.mp
    rw [en]
    by_cases e : r = 0
    · rw [cI_f (fun z => z.2 (by apply Int32.toInt_inj.mp; rw [esub, e]; rfl)), h7 e, Int32.toInt_sub, ed, nI_toInt (by decide), bm (by omega) (by omega)]
      omega
    · rw [cI_t ⟨q, fun z => by rw [z, show (0 : Int32).toInt = 0 by decide] at esub; omega⟩, h8 e, Int32.toInt_sub, ed, nI_toInt (by decide), bm (by omega) (by omega)]
      omega
set_option maxRecDepth 100000 in
set_option maxHeartbeats 4000000 in
theorem lp_L_runOf {g : gG} {M : gM} {Q : Option Value ⊕ String → gM → Prop} {c : Cf} (h : lT c M) {p : Nat} (hp : p < tl c) (K : Q (.inl (some (.int (nI (ru c p))))) M) : ∀ k, k ≤ ru c p → 0 ≤ k → E g 1 0 0 mL_runOf 2 [.ref 139, .int (nI p), .int (nI k)] [] M Q := by
  refine lpUp (ru c p) (fun k hk ih => ?_)
  intro _
  have hL := h.lay
  have hru := ru_b h.wf hp
  have hnr := h.nr
  have h10 := h.t10
  obtain ⟨s, hs, hz⟩ := h.zx (j := k + 1) (by omega)
  have htn := h.tnb (j := k + 1) (by omega)
  refine E_aload_n dL_runOf_2 rfl ?_
  refine E_iload_n dL_runOf_3 rfl ?_
  refine E_iconst (v := nI 1) dL_runOf_4 (by decide) ?_
  refine E_iadd_n dL_runOf_5 ?_
  refine E_ialdL (v := nI (tn c (k + 1) + 100 * s)) dL_runOf_6 (l_138 hL) (k_138 hL) rfl (by omega) (by decide) hz ?_
  refine E_bipush (v := nI 100) dL_runOf_7 (by decide) ?_
  refine E_irem_n dL_runOf_9 (by omega) (by omega) (by omega) ?_
  rw [show (tn c (k + 1) + 100 * s) % 100 = tn c (k + 1) by omega]
  refine E_iload_n dL_runOf_10 rfl ?_
  refine E_icmp_gt_n (tgt := 20) dL_runOf_11 (by decide) (by omega) (by omega) (fun c_11 => ?_) (fun c_11 => ?_)
  · refine E_iload_n dL_runOf_20 rfl ?_
    refine E_iret dL_runOf_21 (Or.inl rfl) ?_
    have ek : ru c p = k := fnd_eq (Nat.zero_le _) (by omega) (fun _ => c_11) (fun j _ hj q => (fnd_spec (P := fun j => p < tn c (j + 1)) (Nat.zero_le (tr c))).2.2.2 j (Nat.zero_le _) (by show j < ru c p; omega) q)
    rw [ek] at K
    exact K
  · have hlt : k < ru c p := by
      by_cases e : k = ru c p
      · rw [e] at c_11; omega
      · omega
    refine E_iinc_n (d := 1) dL_runOf_14 rfl rfl rfl (by decide) rfl ?_
    refine E_goto (tgt := 2) dL_runOf_17 (by decide) ?_
    exact ih hlt (Nat.zero_le _)
set_option maxRecDepth 100000 in
set_option maxHeartbeats 4000000 in
theorem sp_L_runOf {g : gG} {M : gM} {Q : Option Value ⊕ String → gM → Prop} {c : Cf} (h : lT c M) {p : Nat} (hp : p < tl c) (K : Q (.inl (some (.int (nI (ru c p))))) M) : E g 1 0 0 mL_runOf 0 [.ref 139, .int (nI p), .null] [] M Q := by
  have hL := h.lay
  refine E_iconst (v := nI 0) dL_runOf_0 (by decide) ?_
  refine E_istore_n dL_runOf_1 (Nat.le_of_ble_eq_true rfl) (by decide) rfl ?_
  exact lp_L_runOf h hp K 0 (Nat.zero_le _) (Nat.le_refl _)
set_option maxRecDepth 100000 in
set_option maxHeartbeats 4000000 in
theorem lp_L_clusterOf {g : gG} {M : gM} {Q : Option Value ⊕ String → gM → Prop} {c : Cf} (h : lT c M) {p : Nat} (hp : p < tl c) (K0 : clO c (ru c p) p = 0 → Q (.inl (some (.int (-1)))) M) (K : ∀ q, clO c (ru c p) p = q + 1 → Q (.inl (some (.int (nI (q + 100 * eoC c (ru c p) q))))) M) : ∀ k, k ≤ (tL c (ru c p)).length → 0 ≤ k → ∀ v7, E g 2 0 0 mL_clusterOf 27 [.ref 134, .ref 139, .int (nI p), .int (nI (ru c p)), .int (dI (clE (tL c (ru c p)) p k)), .int (nI (eoE (tL c (ru c p)) p (tn c (ru c p + 1)) k)), .int (nI (tg c (ru c p) + k)), v7] [] M Q := by
  refine lpUp (tL c (ru c p)).length (fun k hk ih => ?_)
  intro _ v7
  have hL := h.lay
  have hru := ru_b h.wf hp
  have hnr := h.nr
  have h10 := h.t10
  have hgb := h.gb hru.1
  have hgs := tg_s c (ru c p)
  have htn := h.tnb (j := ru c p + 1) (by omega)
  have hcb := clE_b (tL c (ru c p)) p k
  have heb := eoE_le (tL c (ru c p)) p (tn c ((ru c p) + 1)) k
  have hcO := cl_o (c := c) (r := (ru c p)) (p := p)
  refine E_iload dL_clusterOf_27 rfl ?_
  refine E_aload_n dL_clusterOf_29 rfl ?_
  refine E_bipush (v := nI 21) dL_clusterOf_30 (by decide) ?_
  refine E_iload_n dL_clusterOf_32 rfl ?_
  refine E_iadd_n dL_clusterOf_33 ?_
  refine E_ialdL (v := nI (tg c (ru c p + 1))) dL_clusterOf_34 (l_138 hL) (k_138 hL) rfl (by omega) (by decide) ((by rw [show 21 + ru c p = 20 + (ru c p + 1) by omega] : mI M 138 (21 + ru c p) = _).trans (h.zg (j := ru c p + 1) hru.1)) ?_
  refine E_icmp_ge_n (tgt := 87) dL_clusterOf_35 (by decide) (by omega) (by omega) (fun c_35 => ?_) (fun c_35 => ?_)
  · obtain rfl : k = (tL c (ru c p)).length := by omega
    by_cases e0 : clO c (ru c p) p = 0
    · have K0 := K0 e0
      have e1 : (clE (tL c (ru c p)) p (tL c (ru c p)).length) = 0 := e0
      rw [e1, dI_0]
      refine E_iload dL_clusterOf_87 rfl ?_
      refine E_if_ge (tgt := 96) dL_clusterOf_89 (by decide) (fun c0 => absurd c0 (by decide)) (fun _ => ?_)
      refine E_iconst (v := -1) dL_clusterOf_92 (by decide) ?_
      refine E_goto (tgt := 104) dL_clusterOf_93 (by decide) ?_
      refine E_iret dL_clusterOf_104 (Or.inl rfl) ?_
      exact K0
    · obtain ⟨q, hq⟩ : ∃ q, clO c (ru c p) p = q + 1 := ⟨clO c (ru c p) p - 1, by omega⟩
      have K := K q hq
      rw [eoC_l hq] at K
      have e1 : (clE (tL c (ru c p)) p (tL c (ru c p)).length) = q + 1 := hq
      rw [e1, dI_succ]
      refine E_iload dL_clusterOf_87 rfl ?_
      refine E_if_ge_n (tgt := 96) dL_clusterOf_89 (by decide) (by omega) ?_
      refine E_iload dL_clusterOf_96 rfl ?_
      refine E_bipush (v := nI 100) dL_clusterOf_98 (by decide) ?_
      refine E_iload dL_clusterOf_100 rfl ?_
      refine E_imul_n dL_clusterOf_102 ?_
      refine E_iadd_n dL_clusterOf_103 ?_
      refine E_iret dL_clusterOf_104 (Or.inl rfl) ?_
      exact K
  · have hkl : k < (tL c (ru c p)).length := by omega
    have hok := h.ok hru.1 hkl
    have hyb := hok.b
    have g81 : ∀ q, q = (eoE (tL c (ru c p)) p (tn c (ru c p + 1)) (k + 1)) → E g 2 0 0 mL_clusterOf 81 [.ref 134, .ref 139, .int (nI p), .int (nI (ru c p)), .int (dI (clE (tL c (ru c p)) p (k + 1))), .int (nI q), .int (nI (tg c (ru c p) + k)), .int (nI (yC (gat (tL c (ru c p)) k)))] [] M Q := by
      intro q hq
      rw [hq]
      refine E_iinc_n (d := 1) dL_clusterOf_81 rfl rfl rfl (by decide) rfl ?_
      refine E_goto (tgt := 27) dL_clusterOf_84 (by decide) ?_
      exact ih hkl (Nat.zero_le _) _
    have g64 : ∀ q, q = (clE (tL c (ru c p)) p (k + 1)) → E g 2 0 0 mL_clusterOf 64 [.ref 134, .ref 139, .int (nI p), .int (nI (ru c p)), .int (dI q), .int (nI (eoE (tL c (ru c p)) p (tn c (ru c p + 1)) k)), .int (nI (tg c (ru c p) + k)), .int (nI (yC (gat (tL c (ru c p)) k)))] [] M Q := by
      intro q hq
      rw [hq]
      refine E_iload dL_clusterOf_64 rfl ?_
      refine E_iload_n dL_clusterOf_66 rfl ?_
      refine E_icmp_le_n (tgt := 81) dL_clusterOf_67 (by decide) (by omega) (by omega) (fun c_67 => ?_) (fun c_67 => ?_)
      · first
          | exact g81 _ (show _ = cI _ _ _ from (cI_t ⟨by omega, by omega⟩).symm)
          | exact g81 _ (show _ = cI _ _ _ from (cI_f (by omega)).symm)
      · refine E_iload dL_clusterOf_70 rfl ?_
        refine E_iload dL_clusterOf_72 rfl ?_
        refine E_icmp_ge_n (tgt := 81) dL_clusterOf_74 (by decide) (by omega) (by omega) (fun c_74 => ?_) (fun c_74 => ?_)
        · first
            | exact g81 _ (show _ = cI _ _ _ from (cI_t ⟨by omega, by omega⟩).symm)
            | exact g81 _ (show _ = cI _ _ _ from (cI_f (by omega)).symm)
        · refine E_iload dL_clusterOf_77 rfl ?_
          refine E_istore dL_clusterOf_79 (Nat.le_of_ble_eq_true rfl) (by decide) rfl ?_
          first
            | exact g81 _ (show _ = cI _ _ _ from (cI_t ⟨by omega, by omega⟩).symm)
            | exact g81 _ (show _ = cI _ _ _ from (cI_f (by omega)).symm)
    refine E_aload_n dL_clusterOf_38 rfl ?_
    refine E_iload dL_clusterOf_39 rfl ?_
    refine E_ialdL (v := nI (yN (gat _ _) + 256 * yC (gat _ _))) dL_clusterOf_41 (l_133 hL) (k_133 hL) rfl (by omega) (by decide) (h.g hru.1 hkl) ?_
    refine E_bipush (v := nI 8) dL_clusterOf_42 (by decide) ?_
    refine E_ishr dL_clusterOf_44 ?_
    rw [gE_8 hok]
    refine E_istore dL_clusterOf_45 (Nat.le_of_ble_eq_true rfl) (by decide) rfl ?_
    refine E_iload dL_clusterOf_47 rfl ?_
    refine E_iload_n dL_clusterOf_49 rfl ?_
    refine E_icmp_gt_n (tgt := 64) dL_clusterOf_50 (by decide) (by omega) (by omega) (fun c_50 => ?_) (fun c_50 => ?_)
    · first
        | exact g64 _ (show _ = cI _ _ _ from (cI_f (by omega)).symm)
        | exact g64 _ (show _ = cI _ _ _ from (cI_f (fun z => by
            have := (dI_le (a := (clE (tL c (ru c p)) p k)) (b := yC (gat (tL c (ru c p)) k)) (by omega) (by omega)).mp c_57
            omega)).symm)
        | (have e57 : (clE (tL c (ru c p)) p k) ≤ yC (gat (tL c (ru c p)) k) := by
             refine Nat.not_lt.mp (fun z => c_57 ((dI_le (by omega) (by omega)).mpr z))
           have g := g64 (yC (gat (tL c (ru c p)) k) + 1) (show _ = cI _ _ _ from (cI_t ⟨by omega, e57⟩).symm)
           rw [dI_succ] at g
           exact g)
    · refine E_iload dL_clusterOf_53 rfl ?_
      refine E_iload dL_clusterOf_55 rfl ?_
      refine E_icmp_le (tgt := 64) dL_clusterOf_57 (by decide) (fun c_57 => ?_) (fun c_57 => ?_)
      · first
          | exact g64 _ (show _ = cI _ _ _ from (cI_f (by omega)).symm)
          | exact g64 _ (show _ = cI _ _ _ from (cI_f (fun z => by
              have := (dI_le (a := (clE (tL c (ru c p)) p k)) (b := yC (gat (tL c (ru c p)) k)) (by omega) (by omega)).mp c_57
              omega)).symm)
          | (have e57 : (clE (tL c (ru c p)) p k) ≤ yC (gat (tL c (ru c p)) k) := by
               refine Nat.not_lt.mp (fun z => c_57 ((dI_le (by omega) (by omega)).mpr z))
             have g := g64 (yC (gat (tL c (ru c p)) k) + 1) (show _ = cI _ _ _ from (cI_t ⟨by omega, e57⟩).symm)
             rw [dI_succ] at g
             exact g)
      · refine E_iload dL_clusterOf_60 rfl ?_
        refine E_istore dL_clusterOf_62 (Nat.le_of_ble_eq_true rfl) (by decide) rfl ?_
        first
          | exact g64 _ (show _ = cI _ _ _ from (cI_f (by omega)).symm)
          | exact g64 _ (show _ = cI _ _ _ from (cI_f (fun z => by
              have := (dI_le (a := (clE (tL c (ru c p)) p k)) (b := yC (gat (tL c (ru c p)) k)) (by omega) (by omega)).mp c_57
              omega)).symm)
          | (have e57 : (clE (tL c (ru c p)) p k) ≤ yC (gat (tL c (ru c p)) k) := by
               refine Nat.not_lt.mp (fun z => c_57 ((dI_le (by omega) (by omega)).mpr z))
             have g := g64 (yC (gat (tL c (ru c p)) k) + 1) (show _ = cI _ _ _ from (cI_t ⟨by omega, e57⟩).symm)
             rw [dI_succ] at g
             exact g)
set_option maxRecDepth 100000 in
set_option maxHeartbeats 4000000 in
theorem sp_L_clusterOf {g : gG} {M : gM} {Q : Option Value ⊕ String → gM → Prop} {c : Cf} (h : lT c M) {p : Nat} (hp : p < tl c) (K0 : clO c (ru c p) p = 0 → Q (.inl (some (.int (-1)))) M) (K : ∀ q, clO c (ru c p) p = q + 1 → Q (.inl (some (.int (nI (q + 100 * eoC c (ru c p) q))))) M) : E g 2 0 0 mL_clusterOf 0 [.ref 134, .ref 139, .int (nI p), .null, .null, .null, .null, .null] [] M Q := by
  have hL := h.lay
  have hru := ru_b h.wf hp
  have hnr := h.nr
  have h10 := h.t10
  have hgb := h.gb hru.1
  have hgs := tg_s c (ru c p)
  have htn := h.tnb (j := ru c p + 1) (by omega)
  obtain ⟨s, hs, hz⟩ := h.zx (j := ru c p + 1) hru.1
  refine E_aload_n dL_clusterOf_0 rfl ?_
  refine E_iload_n dL_clusterOf_1 rfl ?_
  refine E_callT2 (fr' := 1) (k1 := 0) (n1 := 0) (k2 := 0) (n2 := 0) dL_clusterOf_2 kO_L_runOf kL_L_221 (by exact Nat.le_of_ble_eq_true rfl) (by decide) (by exact Nat.le_of_ble_eq_true rfl) (Or.inl rfl) rfl ?_
  refine sp_L_runOf h hp ?_
  refine gKv ?_
  refine E_istore_n dL_clusterOf_5 (Nat.le_of_ble_eq_true rfl) (by decide) rfl ?_
  refine E_iconst (v := -1) dL_clusterOf_6 (by decide) ?_
  refine E_istore dL_clusterOf_7 (Nat.le_of_ble_eq_true rfl) (by decide) rfl ?_
  refine E_aload_n dL_clusterOf_9 rfl ?_
  refine E_iload_n dL_clusterOf_10 rfl ?_
  refine E_iconst (v := nI 1) dL_clusterOf_11 (by decide) ?_
  refine E_iadd_n dL_clusterOf_12 ?_
  refine E_ialdL (v := nI (tn c (ru c p + 1) + 100 * s)) dL_clusterOf_13 (l_138 hL) (k_138 hL) rfl (by omega) (by decide) hz ?_
  refine E_bipush (v := nI 100) dL_clusterOf_14 (by decide) ?_
  refine E_irem_n dL_clusterOf_16 (by omega) (by omega) (by omega) ?_
  rw [show (tn c (ru c p + 1) + 100 * s) % 100 = tn c (ru c p + 1) by omega]
  refine E_istore dL_clusterOf_17 (Nat.le_of_ble_eq_true rfl) (by decide) rfl ?_
  refine E_aload_n dL_clusterOf_19 rfl ?_
  refine E_bipush (v := nI 20) dL_clusterOf_20 (by decide) ?_
  refine E_iload_n dL_clusterOf_22 rfl ?_
  refine E_iadd_n dL_clusterOf_23 ?_
  refine E_ialdL (v := nI (tg c (ru c p))) dL_clusterOf_24 (l_138 hL) (k_138 hL) rfl (by omega) (by decide) (h.zg (j := ru c p) (by omega)) ?_
  refine E_istore dL_clusterOf_25 (Nat.le_of_ble_eq_true rfl) (by decide) rfl ?_
  have z := lp_L_clusterOf (g := g) h hp K0 K 0 (Nat.zero_le _) (Nat.le_refl _) .null
  rw [show (clE (tL c (ru c p)) p 0) = 0 from rfl, dI_0] at z
  exact z
set_option maxRecDepth 100000 in
set_option maxHeartbeats 4000000 in
theorem lp_L_caretOf {g : gG} {M : gM} {Q : Option Value ⊕ String → gM → Prop} {c : Cf} (h : lT c M) {p q e jn : Nat} (hp : p < tl c) (hqp : q ≤ p) (he : e < 100) (K : ∀ v11, E g 3 0 0 mL_caretOf 118 [.ref 134, .ref 135, .ref 139, .int (nI p), .int (nI (ru c p)), .int (nI jn), .int (nI (q + 100 * e)), .int (adE (tL c (ru c p)) (tB c (ru c p)) (fun y => y < q) (tL c (ru c p)).length), .int (nI q), .int (adE (tL c (ru c p)) (tB c (ru c p)) (fun y => y = q) (tL c (ru c p)).length), .int (nI (tg c (ru c p) + (tL c (ru c p)).length)), v11] [] M Q) : ∀ k, k ≤ (tL c (ru c p)).length → 0 ≤ k → ∀ v11, E g 3 0 0 mL_caretOf 58 [.ref 134, .ref 135, .ref 139, .int (nI p), .int (nI (ru c p)), .int (nI jn), .int (nI (q + 100 * e)), .int (adE (tL c (ru c p)) (tB c (ru c p)) (fun y => y < q) k), .int (nI q), .int (adE (tL c (ru c p)) (tB c (ru c p)) (fun y => y = q) k), .int (nI (tg c (ru c p) + k)), v11] [] M Q := by
  refine lpUp (tL c (ru c p)).length (fun k hk ih => ?_)
  intro _ v11
  have hL := h.lay
  have hru := ru_b h.wf hp
  have hnr := h.nr
  have h10 := h.t10
  have hgb := h.gb hru.1
  have hgs := tg_s c (ru c p)
  have htn := h.tnb (j := ru c p + 1) (by omega)
  refine E_iload dL_caretOf_58 rfl ?_
  refine E_aload_n dL_caretOf_60 rfl ?_
  refine E_bipush (v := nI 21) dL_caretOf_61 (by decide) ?_
  refine E_iload dL_caretOf_63 rfl ?_
  refine E_iadd_n dL_caretOf_65 ?_
  refine E_ialdL (v := nI (tg c (ru c p + 1))) dL_caretOf_66 (l_138 hL) (k_138 hL) rfl (by omega) (by decide) ((by rw [show 21 + ru c p = 20 + (ru c p + 1) by omega] : mI M 138 (21 + ru c p) = _).trans (h.zg (j := ru c p + 1) hru.1)) ?_
  refine E_icmp_ge_n (tgt := 118) dL_caretOf_67 (by decide) (by omega) (by omega) (fun c_67 => ?_) (fun c_67 => ?_)
  · obtain rfl : k = (tL c (ru c p)).length := by omega
    exact K _
  · have hkl : k < (tL c (ru c p)).length := by omega
    have hok := h.ok hru.1 hkl
    have hyb := hok.b
    have g112 : ∀ x y, x = (adE (tL c (ru c p)) (tB c (ru c p)) (fun y => y < q) (k + 1)) → y = (adE (tL c (ru c p)) (tB c (ru c p)) (fun y => y = q) (k + 1)) → E g 3 0 0 mL_caretOf 112 [.ref 134, .ref 135, .ref 139, .int (nI p), .int (nI (ru c p)), .int (nI jn), .int (nI (q + 100 * e)), .int x, .int (nI q), .int y, .int (nI (tg c (ru c p) + k)), v11] [] M Q := by
      intro x y hx hy
      rw [hx, hy]
      refine E_iinc_n (d := 1) dL_caretOf_112 rfl rfl rfl (by decide) rfl ?_
      refine E_goto (tgt := 58) dL_caretOf_115 (by decide) ?_
      exact ih hkl (Nat.zero_le _) _
    refine E_aload_n dL_caretOf_70 rfl ?_
    refine E_iload dL_caretOf_71 rfl ?_
    refine E_ialdL (v := nI (yN (gat _ _) + 256 * yC (gat _ _))) dL_caretOf_73 (l_133 hL) (k_133 hL) rfl (by omega) (by decide) (h.g hru.1 hkl) ?_
    refine E_bipush (v := nI 8) dL_caretOf_74 (by decide) ?_
    refine E_ishr dL_caretOf_76 ?_
    rw [gE_8 hok]
    refine E_iload dL_caretOf_77 rfl ?_
    refine E_icmp_ge_n (tgt := 91) dL_caretOf_79 (by decide) (by omega) (by omega) (fun c_79 => ?_) (fun c_79 => ?_)
    · refine E_aload_n dL_caretOf_91 rfl ?_
      refine E_iload dL_caretOf_92 rfl ?_
      refine E_ialdL (v := nI (yN (gat _ _) + 256 * yC (gat _ _))) dL_caretOf_94 (l_133 hL) (k_133 hL) rfl (by omega) (by decide) (h.g hru.1 hkl) ?_
      refine E_bipush (v := nI 8) dL_caretOf_95 (by decide) ?_
      refine E_ishr dL_caretOf_97 ?_
      rw [gE_8 hok]
      refine E_iload dL_caretOf_98 rfl ?_
      refine E_icmp_ne_n (tgt := 112) dL_caretOf_100 (by decide) (by omega) (by omega) (fun c_100 => ?_) (fun c_100 => ?_)
      · refine g112 _ _ (?_ : _ = _ + cI _ _ _) (?_ : _ = _ + cI _ _ _)
        · first
            | rw [cI_t (by omega)]
            | rw [cI_f (by omega), nI0_add]
        · first
            | rw [cI_t (by omega)]
            | rw [cI_f (by omega), nI0_add]
      · refine E_iload dL_caretOf_103 rfl ?_
        refine E_aload_n dL_caretOf_105 rfl ?_
        refine E_iload dL_caretOf_106 rfl ?_
        refine E_ialdL (v := _) dL_caretOf_108 (l_134 hL) (k_134 hL) rfl (by omega) (by decide) (h.v hru.1 hkl) ?_
        refine E_iadd dL_caretOf_109 ?_
        refine E_istore dL_caretOf_110 (Nat.le_of_ble_eq_true rfl) (by decide) rfl ?_
        refine g112 _ _ (?_ : _ = _ + cI _ _ _) (?_ : _ = _ + cI _ _ _)
        · first
            | rw [cI_t (by omega)]
            | rw [cI_f (by omega), nI0_add]
        · first
            | rw [cI_t (by omega)]
            | rw [cI_f (by omega), nI0_add]
    · refine E_iload dL_caretOf_82 rfl ?_
      refine E_aload_n dL_caretOf_84 rfl ?_
      refine E_iload dL_caretOf_85 rfl ?_
      refine E_ialdL (v := _) dL_caretOf_87 (l_134 hL) (k_134 hL) rfl (by omega) (by decide) (h.v hru.1 hkl) ?_
      refine E_iadd dL_caretOf_88 ?_
      refine E_istore dL_caretOf_89 (Nat.le_of_ble_eq_true rfl) (by decide) rfl ?_
      refine E_aload_n dL_caretOf_91 rfl ?_
      refine E_iload dL_caretOf_92 rfl ?_
      refine E_ialdL (v := nI (yN (gat _ _) + 256 * yC (gat _ _))) dL_caretOf_94 (l_133 hL) (k_133 hL) rfl (by omega) (by decide) (h.g hru.1 hkl) ?_
      refine E_bipush (v := nI 8) dL_caretOf_95 (by decide) ?_
      refine E_ishr dL_caretOf_97 ?_
      rw [gE_8 hok]
      refine E_iload dL_caretOf_98 rfl ?_
      refine E_icmp_ne_n (tgt := 112) dL_caretOf_100 (by decide) (by omega) (by omega) (fun c_100 => ?_) (fun c_100 => ?_)
      · refine g112 _ _ (?_ : _ = _ + cI _ _ _) (?_ : _ = _ + cI _ _ _)
        · first
            | rw [cI_t (by omega)]
            | rw [cI_f (by omega), nI0_add]
        · first
            | rw [cI_t (by omega)]
            | rw [cI_f (by omega), nI0_add]
      · refine E_iload dL_caretOf_103 rfl ?_
        refine E_aload_n dL_caretOf_105 rfl ?_
        refine E_iload dL_caretOf_106 rfl ?_
        refine E_ialdL (v := _) dL_caretOf_108 (l_134 hL) (k_134 hL) rfl (by omega) (by decide) (h.v hru.1 hkl) ?_
        refine E_iadd dL_caretOf_109 ?_
        refine E_istore dL_caretOf_110 (Nat.le_of_ble_eq_true rfl) (by decide) rfl ?_
        refine g112 _ _ (?_ : _ = _ + cI _ _ _) (?_ : _ = _ + cI _ _ _)
        · first
            | rw [cI_t (by omega)]
            | rw [cI_f (by omega), nI0_add]
        · first
            | rw [cI_t (by omega)]
            | rw [cI_f (by omega), nI0_add]
set_option maxRecDepth 100000 in
set_option maxHeartbeats 4000000 in
theorem en_L_caretOf {g : gG} {M : gM} {Q : Option Value ⊕ String → gM → Prop} {c : Cf} (h : lT c M) {p jn : Nat} {far : Int32} (hp : p < tl c) (hj : jn = 1 ∧ scr c 0 (tl c) p = 0 ∨ jn = 0 ∧ scr c 0 (tl c) p = 1) (hf : far = crF c p) (K : Q (.inl (some (.int (crt c p)))) M) : ∀ v6 v8 v9 v10 v11, E g 3 0 0 mL_caretOf 166 [.ref 134, .ref 135, .ref 139, .int (nI p), .int (nI (ru c p)), .int (nI jn), v6, .int far, v8, v9, v10, v11] [] M Q := by
  intro v6 v8 v9 v10 v11
  have hL := h.lay
  have hru := ru_b h.wf hp
  have hnr := h.nr
  have h10 := h.t10
  have hgb := h.gb hru.1
  have hgs := tg_s c (ru c p)
  have htn := h.tnb (j := ru c p + 1) (by omega)
  refine E_iload dL_caretOf_166 rfl ?_
  refine E_if_eq_n (tgt := 184) dL_caretOf_168 (by decide) (by omega) (fun c_168 => ?_) (fun c_168 => ?_)
  · refine E_aload_n dL_caretOf_184 rfl ?_
    refine E_bipush (v := nI 40) dL_caretOf_185 (by decide) ?_
    refine E_iload dL_caretOf_187 rfl ?_
    refine E_iadd_n dL_caretOf_189 ?_
    refine E_ialdL (v := tS c (ru c p)) dL_caretOf_190 (l_138 hL) (k_138 hL) rfl (by omega) (by decide) (h.zl (j := ru c p) (by omega)) ?_
    refine E_iload dL_caretOf_191 rfl ?_
    refine E_iadd dL_caretOf_193 ?_
    refine E_iret dL_caretOf_194 (Or.inl rfl) ?_
    unfold crt at K
    first
      | (rw [cI_f (by omega)] at K; rw [hf]; exact K)
      | (rw [cI_t (by omega)] at K; rw [hf]; exact K)
  · refine E_aload_n dL_caretOf_171 rfl ?_
    refine E_bipush (v := nI 41) dL_caretOf_172 (by decide) ?_
    refine E_iload dL_caretOf_174 rfl ?_
    refine E_iadd_n dL_caretOf_176 ?_
    refine E_ialdL (v := tS c (ru c p + 1)) dL_caretOf_177 (l_138 hL) (k_138 hL) rfl (by omega) (by decide) ((by rw [show 41 + ru c p = 40 + (ru c p + 1) by omega] : mI M 138 (41 + ru c p) = _).trans (h.zl (j := ru c p + 1) hru.1)) ?_
    refine E_iload dL_caretOf_178 rfl ?_
    refine E_isub dL_caretOf_180 ?_
    refine E_goto (tgt := 194) dL_caretOf_181 (by decide) ?_
    refine E_iret dL_caretOf_194 (Or.inl rfl) ?_
    unfold crt at K
    first
      | (rw [cI_f (by omega)] at K; rw [hf]; exact K)
      | (rw [cI_t (by omega)] at K; rw [hf]; exact K)
set_option maxRecDepth 100000 in
set_option maxHeartbeats 4000000 in
theorem ca_L_caretOf {g : gG} {M : gM} {Q : Option Value ⊕ String → gM → Prop} {c : Cf} (h : lT c M) {p jn : Nat} (hp : p < tl c) (hj : jn = 1 ∧ scr c 0 (tl c) p = 0 ∨ jn = 0 ∧ scr c 0 (tl c) p = 1) (K : Q (.inl (some (.int (crt c p)))) M) : E g 3 0 0 mL_caretOf 23 [.ref 134, .ref 135, .ref 139, .int (nI p), .int (nI (ru c p)), .int (nI jn), .null, .null, .null, .null, .null, .null] [] M Q := by
  have hL := h.lay
  have hru := ru_b h.wf hp
  have hnr := h.nr
  have h10 := h.t10
  have hgb := h.gb hru.1
  have hgs := tg_s c (ru c p)
  have htn := h.tnb (j := ru c p + 1) (by omega)
  have hcO := cl_o (c := c) (r := ru c p) (p := p)
  refine E_aload_n dL_caretOf_23 rfl ?_
  refine E_aload_n dL_caretOf_24 rfl ?_
  refine E_iload_n dL_caretOf_25 rfl ?_
  refine E_callT3 (fr' := 2) (k1 := 0) (n1 := 0) (k2 := 0) (n2 := 0) dL_caretOf_26 kO_L_clusterOf kL_L_225 (by exact Nat.le_of_ble_eq_true rfl) (by decide) (by exact Nat.le_of_ble_eq_true rfl) (Or.inl rfl) rfl ?_
  refine sp_L_clusterOf h hp (fun e0 => ?_) (fun q hq => ?_)
  · refine gKv ?_
    refine E_istore dL_caretOf_29 (Nat.le_of_ble_eq_true rfl) (by decide) rfl ?_
    refine E_iconst (v := nI 0) dL_caretOf_31 (by decide) ?_
    refine E_istore dL_caretOf_32 (Nat.le_of_ble_eq_true rfl) (by decide) rfl ?_
    refine E_iload dL_caretOf_34 rfl ?_
    refine E_if_lt (tgt := 166) dL_caretOf_36 (by decide) (fun _ => ?_) (fun c0 => absurd (by decide) c0)
    exact en_L_caretOf h hp hj (show nI 0 = crF c p from (cI_t e0).symm) K _ _ _ _ _
  · have heo : eoC c (ru c p) q ≤ tn c (ru c p + 1) := eoE_le _ _ _ _
    refine gKv ?_
    refine E_istore dL_caretOf_29 (Nat.le_of_ble_eq_true rfl) (by decide) rfl ?_
    refine E_iconst (v := nI 0) dL_caretOf_31 (by decide) ?_
    refine E_istore dL_caretOf_32 (Nat.le_of_ble_eq_true rfl) (by decide) rfl ?_
    refine E_iload dL_caretOf_34 rfl ?_
    refine E_if_lt_n (tgt := 166) dL_caretOf_36 (by decide) (by omega) ?_
    have heb := eoE_b (tL c (ru c p)) q (tn c (ru c p + 1)) (by omega) (tL c (ru c p)).length
    have heb : q < eoC c (ru c p) q ∧ eoC c (ru c p) q ≤ tn c (ru c p + 1) := heb
    have eF : crF c p = adL c (ru c p) q + fdv (adQ c (ru c p) q * nI (p - q)) (eoC c (ru c p) q - q) := by
      unfold crF
      rw [hq, Nat.add_sub_cancel, cI_f (by omega)]
    have hA : bd (adQ c (ru c p) q) 44800 := (adE_bd (tB_bd h.wf (ru c p)) _ (by omega)).m (by omega)
    have hB : bd (adQ c (ru c p) q * nI (p - q)) (44800 * 16) := bd_mul hA (by omega) (by omega)
    obtain ⟨d1, d2⟩ := fdv_l (m := eoC c (ru c p) q - q) hB (by decide) (by omega) (by omega)
    have hne : ¬ nI (eoC c (ru c p) q - q) = 0 := fun z => by
      have := (nI_eq (b := 0) (by omega) (by decide)).mp z
      omega
    generalize eoC c (ru c p) q = e at *
    refine E_iload dL_caretOf_39 rfl ?_
    refine E_bipush (v := nI 100) dL_caretOf_41 (by decide) ?_
    refine E_irem_n dL_caretOf_43 (by omega) (by omega) (by omega) ?_
    rw [show (q + 100 * e) % 100 = q by omega]
    refine E_istore dL_caretOf_44 (Nat.le_of_ble_eq_true rfl) (by decide) rfl ?_
    refine E_iconst (v := nI 0) dL_caretOf_46 (by decide) ?_
    refine E_istore dL_caretOf_47 (Nat.le_of_ble_eq_true rfl) (by decide) rfl ?_
    refine E_aload_n dL_caretOf_49 rfl ?_
    refine E_bipush (v := nI 20) dL_caretOf_50 (by decide) ?_
    refine E_iload dL_caretOf_52 rfl ?_
    refine E_iadd_n dL_caretOf_54 ?_
    refine E_ialdL (v := nI (tg c (ru c p))) dL_caretOf_55 (l_138 hL) (k_138 hL) rfl (by omega) (by decide) (h.zg (j := ru c p) (by omega)) ?_
    refine E_istore dL_caretOf_56 (Nat.le_of_ble_eq_true rfl) (by decide) rfl ?_
    refine lp_L_caretOf h hp (by omega) (by omega) (fun v11 => ?_) 0 (Nat.zero_le _) (Nat.le_refl _) _
    refine E_iload dL_caretOf_118 rfl ?_
    refine E_bipush (v := nI 100) dL_caretOf_120 (by decide) ?_
    refine E_idiv_n dL_caretOf_122 (by omega) (by omega) (by omega) ?_
    rw [show (q + 100 * e) / 100 = e by omega]
    refine E_iload dL_caretOf_123 rfl ?_
    refine E_isub_n dL_caretOf_125 (by omega) ?_
    refine E_istore dL_caretOf_126 (Nat.le_of_ble_eq_true rfl) (by decide) rfl ?_
    refine E_iload dL_caretOf_128 rfl ?_
    refine E_iload_n dL_caretOf_130 rfl ?_
    refine E_iload dL_caretOf_131 rfl ?_
    refine E_isub_n dL_caretOf_133 (by omega) ?_
    refine E_imul dL_caretOf_134 ?_
    refine E_istore dL_caretOf_135 (Nat.le_of_ble_eq_true rfl) (by decide) rfl ?_
    refine E_iload dL_caretOf_137 rfl ?_
    refine E_iload dL_caretOf_139 rfl ?_
    refine E_if_ge (tgt := 158) dL_caretOf_141 (by decide) (fun c_141 => ?_) (fun c_141 => ?_)
    · refine E_iload dL_caretOf_158 rfl ?_
      refine E_iload dL_caretOf_160 rfl ?_
      refine E_idiv dL_caretOf_162 (by assumption) ?_
      refine E_iadd dL_caretOf_163 ?_
      refine E_istore dL_caretOf_164 (Nat.le_of_ble_eq_true rfl) (by decide) rfl ?_
      refine en_L_caretOf h hp hj ?_ K _ _ _ _ _
      rw [eF]
      first
        | (rw [d2 (Int32.not_le.mp c_141)]; rfl)
        | (rw [d1 (Int32.not_lt.mpr c_141)]; rfl)
    · refine E_iload dL_caretOf_144 rfl ?_
      refine E_iconst (v := nI 1) dL_caretOf_146 (by decide) ?_
      refine E_isub_d dL_caretOf_147 ?_
      refine E_iload dL_caretOf_148 rfl ?_
      refine E_isub dL_caretOf_150 ?_
      refine E_iload dL_caretOf_151 rfl ?_
      refine E_idiv dL_caretOf_153 (by assumption) ?_
      refine E_ineg dL_caretOf_154 ?_
      refine E_goto (tgt := 163) dL_caretOf_155 (by decide) ?_
      refine E_iadd dL_caretOf_163 ?_
      refine E_istore dL_caretOf_164 (Nat.le_of_ble_eq_true rfl) (by decide) rfl ?_
      refine en_L_caretOf h hp hj ?_ K _ _ _ _ _
      rw [eF]
      first
        | (rw [d2 (Int32.not_le.mp c_141)]; rfl)
        | (rw [d1 (Int32.not_lt.mpr c_141)]; rfl)
set_option maxRecDepth 100000 in
set_option maxHeartbeats 4000000 in
theorem sp_L_caretOf {g : gG} {M : gM} {Q : Option Value ⊕ String → gM → Prop} {c : Cf} (h : lT c M) {p : Nat} (hp : p < tl c) (K : Q (.inl (some (.int (crt c p)))) M) : E g 3 0 0 mL_caretOf 0 [.ref 134, .ref 135, .ref 139, .int (nI p), .null, .null, .null, .null, .null, .null, .null, .null] [] M Q := by
  have hL := h.lay
  have hru := ru_b h.wf hp
  have hnr := h.nr
  have h10 := h.t10
  have hgb := h.gb hru.1
  have hgs := tg_s c (ru c p)
  have htn := h.tnb (j := ru c p + 1) (by omega)
  have hsc := scr_b c 0 (tl c) p
  have htn2 := h.tnb (j := ru c p) (by omega)
  have hsm : scr c 0 (tl c) p = scr c 0 (tl c) (tn c (ru c p)) := (rn_same (c := c) (Nat.zero_le (tl c)) hru.1 hru.2.1 hru.2.2).1
  refine E_aload_n dL_caretOf_0 rfl ?_
  refine E_iload_n dL_caretOf_1 rfl ?_
  refine E_callT2 (fr' := 1) (k1 := 0) (n1 := 0) (k2 := 0) (n2 := 0) dL_caretOf_2 kO_L_runOf kL_L_221 (by exact Nat.le_of_ble_eq_true rfl) (by decide) (by exact Nat.le_of_ble_eq_true rfl) (Or.inl rfl) rfl ?_
  refine sp_L_runOf h hp ?_
  refine gKv ?_
  refine E_istore dL_caretOf_5 (Nat.le_of_ble_eq_true rfl) (by decide) rfl ?_
  refine E_aload_n dL_caretOf_7 rfl ?_
  refine E_iload dL_caretOf_8 rfl ?_
  refine E_ialdL (v := nI (tn c (ru c p) + 100 * scr c 0 (tl c) (tn c (ru c p)))) dL_caretOf_10 (l_138 hL) (k_138 hL) rfl (by omega) (by decide) (h.z0 hru.1) ?_
  refine E_bipush (v := nI 100) dL_caretOf_11 (by decide) ?_
  refine E_icmp_ge_n (tgt := 20) dL_caretOf_13 (by decide) (by omega) (by omega) (fun c_13 => ?_) (fun c_13 => ?_)
  · refine E_iconst (v := nI 0) dL_caretOf_20 (by decide) ?_
    refine E_istore dL_caretOf_21 (Nat.le_of_ble_eq_true rfl) (by decide) rfl ?_
    exact ca_L_caretOf h hp (by omega) K
  · refine E_iconst (v := nI 1) dL_caretOf_16 (by decide) ?_
    refine E_goto (tgt := 21) dL_caretOf_17 (by decide) ?_
    refine E_istore dL_caretOf_21 (Nat.le_of_ble_eq_true rfl) (by decide) rfl ?_
    exact ca_L_caretOf h hp (by omega) K
