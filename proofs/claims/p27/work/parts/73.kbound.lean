/-! bounds: how long rows are, how wide -/
theorem chg_64 {c : Cf} {f : Nat} {L : List Gl} {l k i : Nat} (hn : L.length ≤ 64) (hft : fit c f L l k i) : (chgL c f L l k i).length ≤ 64 := by
  have kinds : cN c 130 l = 0 ∨ cN c 130 l = 1 ∨ cN c 130 l = 2 ∨ cN c 130 l = 3 := by
    rcases hft.2 with q | q | q | q <;> omega
  unfold chgL
  rcases kinds with e | e | e | e
  · rw [cI_t e, num_len]; exact hn
  · rw [cI_f (by omega), cI_t e, ptL_len]
    rcases hft.2 with q | q | q | q
    · omega
    · exact q.2
    · omega
    · omega
  · rw [cI_f (by omega), cI_f (by omega), cI_t e, num_len]; exact hn
  · rw [cI_f (by omega), cI_f (by omega), cI_f (by omega)]
    unfold lgL
    by_cases e2 : rul c l k 2 = -100
    · rw [cI_t e2, jn2_len]; omega
    · rw [cI_f e2, jn3_len]; omega
theorem goL_64 {c : Cf} {f l : Nat} {L : List Gl} {i : Nat} (hn : L.length ≤ 64) : (goL c f l L i).length ≤ 64 := by
  unfold goL
  by_cases h1 : goP c f L l i
  · rw [cI_t h1]
    by_cases h2 : cN c 130 l = 4
    · rw [cI_t h2]
      by_cases h3 : ctA c f L l i < cN c 135 l
      · rw [cI_t h3]
        unfold cxL caL
        by_cases h4 : caP c f L (gN (rul c l (ctA c f L l i) 5)) (spo c f L l (ctA c f L l i) i)
        · rw [cI_t h4]; exact chg_64 hn (ffA_f h4.2.2.2)
        · rw [cI_f h4]; exact hn
      · rw [cI_f h3]; exact hn
    · rw [cI_f h2]
      by_cases h3 : ffA c f L l i < cN c 135 l
      · rw [cI_t h3]; exact chg_64 hn (ffA_f h3)
      · rw [cI_f h3]; exact hn
  · rw [cI_f h1]; exact hn
theorem gos_64 {c : Cf} {f l : Nat} : ∀ t (L : List Gl) i, L.length ≤ 64 → (gos c f l t L i).length ≤ 64
  | 0, _, _, h => h
  | t + 1, L, i, h => by
    show (cI (i < L.length) (gos c f l t (goL c f l L i) (goI c f l L i)) L).length ≤ 64
    by_cases e : i < L.length
    · rw [cI_t e]; exact gos_64 t _ _ (goL_64 h)
    · rw [cI_f e]; exact h
theorem gbk_64 {c : Cf} {f l : Nat} : ∀ t (L : List Gl), L.length ≤ 64 → (gbk c f l t L).length ≤ 64
  | 0, _, h => h
  | t + 1, L, h => gbk_64 t _ (by rw [gbS_len]; exact h)
theorem stg_64 {c : Cf} {f s : Nat} : ∀ m l (L : List Gl), L.length ≤ 64 → (stg c f s m l L).length ≤ 64
  | 0, _, _, h => h
  | m + 1, l, L, h => stg_64 m (l + 1) _ (by
    unfold stS
    by_cases e : due c l s
    · rw [cI_t e]
      by_cases e2 : cN c 130 l = 5
      · rw [cI_t e2]; exact gbk_64 _ _ h
      · rw [cI_f e2]; exact gos_64 _ _ _ h
    · rw [cI_f e]; exact h)
theorem mvs_ln : ∀ t i (L : List Gl), (mvs t i L).length = L.length
  | 0, _, _ => rfl
  | t + 1, i, L => by
    show (cI (i < L.length) (mvs t (bcl L i) (mvL L i)) L).length = _
    by_cases e : i < L.length
    · rw [cI_t e, mvs_ln t, mvL_len]
    · rw [cI_f e]
theorem tko_ln : ∀ k (L : List Gl), (tko k L).length ≤ L.length
  | 0, _ => Nat.le_refl _
  | k + 1, L => by
    refine Nat.le_trans (tko_ln k _) ?_
    by_cases e : yN (gat L k) = 2 ∨ yN (gat L k) = 3
    · rw [cI_t e, cl_len]; omega
    · rw [cI_f e]; exact Nat.le_refl _
theorem sys_ln {c : Cf} {b : Nat} (hw : WFc c) : ∀ t i (L : List Gl), i ≤ b → (sys c b t i L).length ≤ L.length + 2 * (b - i)
  | 0, _, _, _ => Nat.le_add_right _ _
  | t + 1, i, L, h => by
    show (cI (i < b) (sys c b t (syE c b i) (syL c b i L)) L).length ≤ _
    by_cases e : i < b
    · rw [cI_t e]
      have h1 := syE_b hw e
      have h2 := syL_len (L := L) hw e
      have h3 := sys_ln hw t (syE c b i) (syL c b i L) h1.2
      omega
    · rw [cI_f e]; omega
theorem rL_64 {c : Cf} (hw : WFc c) {a b r : Nat} (hab : a ≤ b) (hb : b ≤ 16) (hr : r < nr c a b) : (rL c a b r).length ≤ 64 := by
  have h1 := rn_b (c := c) hab r (by omega)
  have h2 := rn_b (c := c) hab (r + 1) (by omega)
  have hm := rn_m (c := c) hab (show r ≤ r + 1 by omega) (by omega)
  unfold rL r4
  refine Nat.le_trans (tko_ln _ _) ?_
  unfold r3
  refine stg_64 _ _ _ ?_
  have q1 : (r1 c (rfc c a b r) (rsc c a b r) (rn c a b r) (rn c a b (r + 1))).length ≤ 64 := by
    unfold r1
    refine stg_64 _ _ _ ?_
    unfold r0
    by_cases e : rsc c a b r = 0
    · rw [cI_t e]; unfold jnd; rw [mkL_len]; omega
    · rw [cI_f e]
      have := sys_ln hw (rn c a b (r + 1) - rn c a b r) (rn c a b r) [] (b := rn c a b (r + 1)) hm
      simp only [List.length_nil] at this
      omega
  unfold r2
  by_cases e : rsc c a b r = 0
  · rw [cI_t e]; exact q1
  · rw [cI_f e, mvs_ln]; exact q1
/-! numbers bounded -/
def bd (x : Int32) (n : Nat) : Prop := -(n : Int) ≤ x.toInt ∧ x.toInt ≤ (n : Int)
theorem bd.m {x : Int32} {n m : Nat} (h : bd x n) (q : n ≤ m) : bd x m := by unfold bd at *; omega
theorem bm {x : Int} (h1 : -2147483648 ≤ x) (h2 : x < 2147483648) : x.bmod (2 ^ 32) = x := Int.bmod_eq_of_le (by omega) (by omega)
theorem bd_add {x y : Int32} {a b : Nat} (hx : bd x a) (hy : bd y b) (h : a + b < 2 ^ 31) : bd (x + y) (a + b) := by
  unfold bd at *
  rw [Int32.toInt_add, bm (by omega) (by omega)]
  omega
theorem bd_sub {x y : Int32} {a b : Nat} (hx : bd x a) (hy : bd y b) (h : a + b < 2 ^ 31) : bd (x - y) (a + b) := by
  unfold bd at *
  rw [Int32.toInt_sub, bm (by omega) (by omega)]
  omega
theorem bd_n {a : Nat} (h : a < 2 ^ 31) : bd (nI a) a := by unfold bd; rw [nI_toInt h]; omega
theorem bd_far {x : Int32} (h : iFar x) : bd x 50 := by
  obtain ⟨h1, h2⟩ := h
  have h1 := Int32.le_iff_toInt_le.mp h1
  have h2 := Int32.le_iff_toInt_le.mp h2
  unfold bd
  have e1 : (-50 : Int32).toInt = -50 := by decide
  have e2 : (nI 50).toInt = 50 := by decide
  omega
theorem u2_n {A : Pl} {p i j q : Nat} {v : Int32} (h : ¬ q = p) : u2 A p i v q j = A q j := by unfold u2; rw [if_neg (fun z => h z.1)]
theorem prs_bd {c : Cf} {f l n : Nat} {L : List Gl} (hw : WFc c) (hkd : cN c 130 l = 6) (hn : n + 50 < 2 ^ 31) : ∀ t i (A : Pl), (∀ j, i ≤ j → bd (A 0 j) n) → (∀ j, bd (A 0 j) (n + 50)) → ∀ j, bd (prs c f l L t i A 0 j) (n + 50)
  | 0, _, _, _, h => h
  | t + 1, i, A, h1, h2 => by
    intro j
    show bd ((cI (i < L.length) (prs c f l L t (prI c f l L i) (prS c f l L i A)) A) 0 j) _
    by_cases e : i < L.length
    · rw [cI_t e]
      have hb := aft_b c f l e
      unfold prI prS
      by_cases e2 : prD c f l L i
      · rw [cI_t e2, cI_t e2]
        have hwr := hw.ru e2.2.2
        rw [hkd] at hwr
        have hfar := bd_far (iF6 hwr.1).2.2.1
        refine prs_bd hw hkd hn t _ _ (fun j hj => ?_) (fun j => ?_) j
        · unfold u2; rw [if_neg (fun z => by omega)]; exact h1 j (by omega)
        · unfold u2
          by_cases z : j = i
          · rw [if_pos ⟨rfl, z⟩]; exact bd_add (h1 i (Nat.le_refl _)) hfar (by omega)
          · rw [if_neg (fun y => z y.2)]; exact h2 j
      · rw [cI_f e2, cI_f e2]
        exact prs_bd hw hkd hn t _ _ (fun j hj => h1 j (by omega)) h2 j
    · rw [cI_f e]; exact h2 j
theorem crv_0 {c : Cf} {f l : Nat} {L : List Gl} {A : Pl} : ∀ k j, crv c f l L k A 0 j = A 0 j
  | 0, _ => rfl
  | k + 1, j => by
    refine Eq.trans ?_ (crv_0 (c := c) (f := f) (l := l) (L := L) (A := A) k j)
    show crS c f l L k (crv c f l L k A) 0 j = _
    unfold crS crU
    by_cases e : crG c f l L k
    · rw [cI_t e]
      by_cases e2 : crD c f l L k (aft c f l L k)
      · rw [cI_t e2, u2_n (by decide)]
      · rw [cI_f e2]
    · rw [cI_f e]
theorem set3_0 {A : Pl} {i j : Nat} {b x y : Int32} : set3 A i b x y 0 j = A 0 j := by unfold set3; rw [u2_n (by decide), u2_n (by decide), u2_n (by decide)]
theorem bss_0 {c : Cf} {f l : Nat} {L : List Gl} {A : Pl} : ∀ k j, bss c f l L k A 0 j = A 0 j
  | 0, _ => rfl
  | k + 1, j => by
    refine Eq.trans ?_ (bss_0 (c := c) (f := f) (l := l) (L := L) (A := A) k j)
    show bsS c f l L k (bss c f l L k A) 0 j = _
    unfold bsS bsU
    by_cases e : bsG c f l L k
    · rw [cI_t e]
      by_cases e2 : bsA c f l L k (bsE c f L k - 1) < cN c 135 l
      · rw [cI_t e2, set3_0]
      · rw [cI_f e2]
    · rw [cI_f e]
theorem mks_0 {c : Cf} {f l : Nat} {L : List Gl} {A : Pl} : ∀ k j, mks c f l L k A 0 j = A 0 j
  | 0, _ => rfl
  | k + 1, j => by
    refine Eq.trans ?_ (mks_0 (c := c) (f := f) (l := l) (L := L) (A := A) k j)
    show mkS c f l L k (mks c f l L k A) 0 j = _
    unfold mkS mkU
    by_cases e : mkG c f l L k
    · rw [cI_t e]
      by_cases e2 : mkA c f l L k (ahd c f l L k - 1) < cN c 135 l
      · rw [cI_t e2, set3_0]
      · rw [cI_f e2]
    · rw [cI_f e]
theorem plS_bd {c : Cf} {f l n : Nat} {L : List Gl} {A : Pl} (hw : WFc c) (hn : n + 50 < 2 ^ 31) (h : ∀ j, bd (A 0 j) n) (j : Nat) : bd (plS c f l L A 0 j) (n + 50) := by
  have h2 : bd (A 0 j) (n + 50) := (h j).m (by omega)
  unfold plS plK
  by_cases e : pDue c l
  · rw [cI_t e]
    by_cases e6 : cN c 130 l = 6
    · rw [cI_t e6]; exact prs_bd hw e6 hn _ _ _ (fun j _ => h j) (fun j => (h j).m (by omega)) j
    · rw [cI_f e6]
      by_cases e7 : cN c 130 l = 7
      · rw [cI_t e7, crv_0]; exact h2
      · rw [cI_f e7]
        by_cases e8 : cN c 130 l = 8
        · rw [cI_t e8, bss_0]; exact h2
        · rw [cI_f e8]
          by_cases e9 : cN c 130 l = 9
          · rw [cI_t e9, mks_0]; exact h2
          · rw [cI_f e9]; exact h2
  · rw [cI_f e]; exact h2
theorem pla_bd {c : Cf} {f : Nat} {L : List Gl} (hw : WFc c) : ∀ m l n (A : Pl), n + 50 * m < 2 ^ 31 → (∀ j, bd (A 0 j) n) → ∀ j, bd (pla c f L m l A 0 j) (n + 50 * m)
  | 0, _, _, _, _, h => h
  | m + 1, l, n, A, hn, h => fun j => (pla_bd hw m (l + 1) (n + 50) _ (by omega) (fun j => plS_bd hw (by omega) h j) j).m (by omega)
theorem plc_bd {c : Cf} (hw : WFc c) (f : Nat) (L : List Gl) (j : Nat) : bd (plc c f L 0 j) 700 := by
  have hc := hw.ct f
  have h0 : ∀ j, bd (pl0 c f L 0 j) 100 := fun j => by
    show bd (nI (cN c 139 (256 * f + yN (gat L j)))) 100
    have := (hw.gl (256 * f + yN (gat L j))).2.2.1
    exact (bd_n (by omega)).m this
  exact (pla_bd hw (cN c 129 f) (12 * f) 100 _ (by omega) h0 j).m (by omega)
theorem smA_bd {A : Pl} {n : Nat} (h : ∀ j, bd (A 0 j) n) : ∀ k, n * k < 2 ^ 31 → bd (smA A k) (n * k)
  | 0, _ => ⟨by show -((n * 0 : Nat) : Int) ≤ (nI 0).toInt; rw [nI_toInt (by decide)]; omega, by show (nI 0).toInt ≤ _; rw [nI_toInt (by decide)]; omega⟩
  | k + 1, hk => by
    rw [Nat.mul_succ] at hk ⊢
    exact bd_add (smA_bd h k (by omega)) (h k) hk
theorem wdt_bd {c : Cf} (hw : WFc c) {a b r : Nat} (hab : a ≤ b) (hb : b ≤ 16) (hr : r < nr c a b) : bd (wdt c a b r) 44800 := by
  have hl := rL_64 hw hab hb hr
  exact (smA_bd (plc_bd hw (rfc c a b r) (rL c a b r)) (rL c a b r).length (by omega)).m (by omega)
theorem lS_bd {c : Cf} (hw : WFc c) {a b : Nat} (hab : a ≤ b) (hb : b ≤ 16) : ∀ r, r ≤ nr c a b → bd (lS c a b r) (44800 * r)
  | 0, _ => bd_n (by decide)
  | r + 1, h => by
    have hN := (nr_b (c := c) hab hb).1
    rw [Nat.mul_succ]
    exact bd_add (lS_bd hw hab hb r (by omega)) (wdt_bd hw hab hb (by omega)) (by omega)
theorem tS_bd {c : Cf} (hw : WFc c) {r : Nat} (hr : r ≤ tr c) : bd (tS c r) 716800 := by
  have hN := (nr_b (c := c) (Nat.zero_le (tl c)) hw.tl).1
  have ht : tl c ≤ 16 := hw.tl
  have hr2 : r ≤ nr c 0 (tl c) := hr
  exact (lS_bd hw (Nat.zero_le (tl c)) hw.tl r hr2).m (by omega)
theorem tB_bd {c : Cf} (hw : WFc c) (r j : Nat) : bd (tB c r 0 j) 700 := by
  have e : tB c r 0 j = plc c (rfc c 0 (tl c) r) (rL c 0 (tl c) r) 0 j := by
    show stB _ _ _ _ _ 0 j = _
    unfold stB
    rw [std_r (by decide) (by decide)]
  rw [e]; exact plc_bd hw _ _ _
theorem cI_bd {P : Prop} {x y : Int32} {n : Nat} (hx : bd x n) (hy : bd y n) : bd (cI P x y) n := by
  by_cases e : P
  · rw [cI_t e]; exact hx
  · rw [cI_f e]; exact hy
theorem adE_bd {L : List Gl} {B : Pl} {P : Nat → Prop} {n : Nat} (h : ∀ j, bd (B 0 j) n) : ∀ k, n * k < 2 ^ 31 → bd (adE L B P k) (n * k)
  | 0, _ => ⟨by show -((n * 0 : Nat) : Int) ≤ (nI 0).toInt; rw [nI_toInt (by decide)]; omega, by show (nI 0).toInt ≤ _; rw [nI_toInt (by decide)]; omega⟩
  | k + 1, hk => by
    rw [Nat.mul_succ] at hk ⊢
    exact bd_add (adE_bd h k (by omega)) (cI_bd (h k) ((bd_n (by decide)).m (Nat.zero_le _))) hk
theorem bd_mul {x : Int32} {a m : Nat} (hx : bd x a) (hm : m ≤ 16) (ha : a ≤ 100000) : bd (x * nI m) (a * 16) := by
  unfold bd at *
  have h1 : x.toInt * (m : Int) ≤ (a : Int) * 16 := by
    by_cases e : 0 ≤ x.toInt
    · exact Int.mul_le_mul hx.2 (by omega) (by omega) (by omega)
    · have : x.toInt * (m : Int) ≤ 0 := Int.mul_nonpos_of_nonpos_of_nonneg (by omega) (by omega)
      omega
  have h2 : -((a : Int) * 16) ≤ x.toInt * (m : Int) := by
    have h3 : (-x.toInt) * (m : Int) ≤ (a : Int) * 16 := by
      by_cases e : 0 ≤ -x.toInt
      · exact Int.mul_le_mul (by omega) (by omega) (by omega) (by omega)
      · have : (-x.toInt) * (m : Int) ≤ 0 := Int.mul_nonpos_of_nonpos_of_nonneg (by omega) (by omega)
        omega
    rw [Int.neg_mul] at h3
    omega
  rw [Int32.toInt_mul, nI_toInt (by omega), bm (by omega) (by omega)]
  omega
theorem bd_div {x : Int32} {a m : Nat} (hx : bd x a) (h0 : 0 < m) (hm : m < 2 ^ 31) (ha : a < 2 ^ 31 - 1) : bd (x / nI m) a := by
  unfold bd at *
  have hq : (x.toInt.tdiv (m : Int)).natAbs ≤ x.toInt.natAbs := by
    rw [Int.natAbs_tdiv]; exact Nat.div_le_self _ _
  rw [Int32.toInt_div, nI_toInt hm, bm (by omega) (by omega)]
  omega
theorem fdv_bd {x : Int32} {a m : Nat} (hx : bd x a) (h0 : 0 < m) (hm : m < 2 ^ 31) (ha : a < 2 ^ 30) : bd (fdv x m) (a + 1) := by
  unfold fdv
  exact bd_sub (bd_div hx h0 hm (by omega)) (cI_bd (bd_n (by decide)) ((bd_n (by decide)).m (Nat.zero_le 1))) (by omega)
theorem crF_bd {c : Cf} (hw : WFc c) {p : Nat} (hp : p < tl c) : bd (crF c p) 761601 := by
  have hru := ru_b hw hp
  have ht : tl c ≤ 16 := hw.tl
  have htn : tn c (ru c p + 1) ≤ tl c := (rn_b (c := c) (Nat.zero_le (tl c)) (ru c p + 1) (show ru c p + 1 ≤ nr c 0 (tl c) from hru.1)).2.1
  have hl : (tL c (ru c p)).length ≤ 64 := rL_64 hw (Nat.zero_le _) ht hru.1
  have hco := cl_o (c := c) (r := ru c p) (p := p)
  have hA : ∀ P : Nat → Prop, bd (adE (tL c (ru c p)) (tB c (ru c p)) P (tL c (ru c p)).length) 44800 := fun P => (adE_bd (tB_bd hw (ru c p)) _ (by omega)).m (by omega)
  have heb := eoE_b (tL c (ru c p)) (clO c (ru c p) p - 1) (tn c (ru c p + 1)) (by omega) (tL c (ru c p)).length
  unfold crF
  refine cI_bd ((bd_n (by decide)).m (Nat.zero_le _)) ?_
  have h1 : bd (adL c (ru c p) (clO c (ru c p) p - 1)) 44800 := hA _
  have h2 : bd (adQ c (ru c p) (clO c (ru c p) p - 1) * nI (p - (clO c (ru c p) p - 1))) (44800 * 16) := bd_mul (hA _) (by omega) (by omega)
  have heb2 : clO c (ru c p) p - 1 < eoC c (ru c p) (clO c (ru c p) p - 1) ∧ eoC c (ru c p) (clO c (ru c p) p - 1) ≤ tn c (ru c p + 1) := heb
  exact (bd_add h1 (fdv_bd h2 (by omega) (by omega) (by omega)) (by omega)).m (by omega)
theorem crt_bd {c : Cf} (hw : WFc c) {p : Nat} (hp : p < tl c) : bd (crt c p) 1500000 := by
  have hru := ru_b hw hp
  unfold crt
  exact cI_bd ((bd_add (tS_bd hw (Nat.le_of_lt hru.1)) (crF_bd hw hp) (by omega)).m (by omega)) ((bd_sub (tS_bd hw hru.1) (crF_bd hw hp) (by omega)).m (by omega))
theorem smW_of {c : Cf} (hw : WFc c) : smW c := fun w j hw1 hm hj => by
  have h1 := Int32.le_iff_toInt_le.mp hw1.1
  have h2 := Int32.le_iff_toInt_le.mp hw1.2
  rw [nI_toInt (by decide)] at h1 h2
  have hb : bd w 10000 := by unfold bd; omega
  have h3 := bd_sub hb (tS_bd hw (Nat.le_refl (tr c))) (by omega)
  have e : w - tS c (tr c) = nI j := hm
  rw [e] at h3
  unfold bd at h3
  rw [nI_toInt hj] at h3
  omega
