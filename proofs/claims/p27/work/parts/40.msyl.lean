/-! the reference: what a row begins as -/
noncomputable def clu (c : Cf) (a k : Nat) : Nat := cI (rfd (fun j => a ≤ j ∧ ¬ cMk (cN c 141 j)) (k + 1) = 0) k (rfd (fun j => a ≤ j ∧ ¬ cMk (cN c 141 j)) (k + 1) - 1)
noncomputable def jnd (c : Cf) (a b t : Nat) : List Gl := mkL t (fun i => newG (cN c 141 (a + i)) (clu c a (a + i)) (cN c 142 (a + i)) (frm c a b (a + i)))
theorem addL_mk {t : Nat} {h : Nat → Gl} {x : Gl} (e : x = h t) : addL (mkL t h) x = mkL (t + 1) h := row_ext (by unfold addL; rw [mkL_len, mkL_len, mkL_len]) (fun i hi => by
  have hi : i < t + 1 := by unfold addL at hi; rw [mkL_len, mkL_len] at hi; exact hi
  unfold addL
  rw [gat_mkL (by rw [mkL_len]; exact hi), gat_mkL hi, mkL_len]
  by_cases q : i < t
  · rw [if_pos q, gat_mkL q]
  · rw [if_neg q, e, show i = t by omega])
theorem add_len (L : List Gl) (x : Gl) : (addL L x).length = L.length + 1 := mkL_len _ _
noncomputable def bk (c : Cf) (b k : Nat) : Nat := cI (k + 1 < b ∧ (cN c 141 (k + 1) = 2 ∨ cN c 141 (k + 1) = 3)) (k + 2) (k + 1)
theorem bk_b {c : Cf} {b k : Nat} (h : k < b) : k + 1 ≤ bk c b k ∧ bk c b k ≤ b := by
  unfold bk
  by_cases e : k + 1 < b ∧ (cN c 141 (k + 1) = 2 ∨ cN c 141 (k + 1) = 3)
  · rw [cI_t e]; omega
  · rw [cI_f e]; omega
noncomputable def bv (c : Cf) (b k : Nat) : Nat := fnd (fun j => ¬ cVo (cN c 141 j)) b k
theorem bv_b {c : Cf} {b k : Nat} (h : k ≤ b) : k ≤ bv c b k ∧ bv c b k ≤ b := ⟨(fnd_spec h).1, (fnd_spec h).2.1⟩
noncomputable def bcn (c : Cf) (b : Nat) : Nat → Nat → Nat
  | 0, k => bv c b k
  | t + 1, k => cI (k < b ∧ cN c 141 k = 39) (cI (bk c b k < b ∧ cCo (cN c 141 (bk c b k))) (bcn c b t (bk c b k + 1)) (bv c b (bk c b k))) (bv c b k)
noncomputable def bcE (c : Cf) (b k : Nat) : Nat := bcn c b b k
theorem bcn_m {c : Cf} {b : Nat} : ∀ t t' k, b - k ≤ t → b - k ≤ t' → bcn c b t k = bcn c b t' k := by
  intro t
  induction t with
  | zero =>
    intro t' k h1 h2
    cases t' with
    | zero => rfl
    | succ t' => show bv c b k = cI _ _ _; rw [cI_f (fun q => by omega)]
  | succ t ih =>
    intro t' k h1 h2
    cases t' with
    | zero => show cI _ _ _ = bv c b k; rw [cI_f (fun q => by omega)]
    | succ t' =>
      show cI _ _ _ = cI _ _ _
      by_cases e : k < b ∧ cN c 141 k = 39
      · rw [cI_t e, cI_t e]
        by_cases e2 : bk c b k < b ∧ cCo (cN c 141 (bk c b k))
        · rw [cI_t e2, cI_t e2]
          have := bk_b (c := c) e.1
          exact ih _ _ (by omega) (by omega)
        · rw [cI_f e2, cI_f e2]
      · rw [cI_f e, cI_f e]
theorem bcE_0 {c : Cf} {b k : Nat} (h : ¬ (k < b ∧ cN c 141 k = 39)) : bcE c b k = bv c b k := by
  unfold bcE; rw [bcn_m b (b + 1) k (by omega) (by omega)]; exact cI_f h
theorem bcE_1 {c : Cf} {b k : Nat} (h : k < b ∧ cN c 141 k = 39) (h2 : ¬ (bk c b k < b ∧ cCo (cN c 141 (bk c b k)))) : bcE c b k = bv c b (bk c b k) := by
  unfold bcE; rw [bcn_m b (b + 1) k (by omega) (by omega)]; exact (cI_t h).trans (cI_f h2)
theorem bcE_2 {c : Cf} {b k : Nat} (h : k < b ∧ cN c 141 k = 39) (h2 : bk c b k < b ∧ cCo (cN c 141 (bk c b k))) : bcE c b k = bcE c b (bk c b k + 1) := by
  unfold bcE; rw [bcn_m b (b + 1) k (by omega) (by omega)]; exact (cI_t h).trans (cI_t h2)
theorem bcE_b {c : Cf} {b : Nat} : ∀ k, k ≤ b → k ≤ bcE c b k ∧ bcE c b k ≤ b ∧ (k < b → (cN c 141 k = 39 ∨ cVo (cN c 141 k)) → k < bcE c b k) := by
  have key : ∀ t k, b - k ≤ t → k ≤ b → k ≤ bcE c b k ∧ bcE c b k ≤ b ∧ (k < b → (cN c 141 k = 39 ∨ cVo (cN c 141 k)) → k < bcE c b k) := by
    intro t
    induction t with
    | zero => intro k h1 h2; rw [bcE_0 (fun q => by omega)]; have := bv_b (c := c) h2; exact ⟨this.1, this.2, fun q => by omega⟩
    | succ t ih =>
      intro k h1 h2
      by_cases e : k < b ∧ cN c 141 k = 39
      · have h3 := bk_b (c := c) e.1
        by_cases e2 : bk c b k < b ∧ cCo (cN c 141 (bk c b k))
        · rw [bcE_2 e e2]
          have := ih (bk c b k + 1) (by omega) (by omega)
          exact ⟨by omega, this.2.1, fun _ _ => by omega⟩
        · rw [bcE_1 e e2]
          have := bv_b (c := c) h3.2
          exact ⟨by omega, this.2, fun _ _ => by omega⟩
      · rw [bcE_0 e]
        have := bv_b (c := c) h2
        refine ⟨this.1, this.2, fun q q2 => ?_⟩
        rcases q2 with q2 | q2
        · exact absurd ⟨q, q2⟩ e
        · unfold bv; rw [fnd_skip q (not_not_intro q2)]; exact (fnd_spec (by omega)).1
  exact fun k hk => key (b - k) k (Nat.le_refl _) hk
noncomputable def clmA (L : List Gl) (s : Nat) : Nat := rfd (fun j => j < s ∨ cCo (yN (gat L j))) L.length
noncomputable def clmB (L : List Gl) (s : Nat) : Nat := fnd (fun j => ¬ (yN (gat L j) = 39 ∨ yN (gat L j) = 2 ∨ yN (gat L j) = 3)) L.length (clmA L s)
noncomputable def clmC (L : List Gl) (s i e : Nat) : List Gl := rotL (addL L (newG 65 i e (-100))) (clmB L s) L.length (L.length + 1)
noncomputable def clmL (L : List Gl) (s i e : Nat) : List Gl := clmC (closeL (closeL L s) s) s i e
theorem clmL_len {L : List Gl} {s i e : Nat} (h : s + 2 ≤ L.length) : (clmL L s i e).length = L.length - 1 := by
  unfold clmL clmC
  rw [rot_len, add_len, cl_len, cl_len]; omega
theorem rfd_s {P : Nat → Prop} {s : Nat} (h : ∀ j, j < s → P j) : rfd P s = s := by
  cases s with
  | zero => rfl
  | succ s => exact rfd_t (h s (by omega))
noncomputable def sA : Nat → Nat → Nat → List Gl → List Gl
  | 0, _, _, L => L
  | t + 1, k, to, L => cI (yN (gat L k) = 40) (sA t (k + 1) (to + 1) (rotL L to k (k + 1))) (sA t (k + 1) to L)
theorem sA_len : ∀ t k to L, (sA t k to L).length = L.length := by
  intro t
  induction t with
  | zero => intro k to L; rfl
  | succ t ih =>
    intro k to L
    show (cI (yN (gat L k) = 40) (sA t (k + 1) (to + 1) (rotL L to k (k + 1))) (sA t (k + 1) to L)).length = _
    by_cases e : yN (gat L k) = 40
    · rw [cI_t e, ih, rot_len]
    · rw [cI_f e, ih]
noncomputable def syE (c : Cf) (b i : Nat) : Nat := cI (cCo (cN c 141 i)) (bcE c b (i + 1)) (cI (cN c 141 i = 43) (bv c b (i + 1)) (cI (39 ≤ cN c 141 i) (bcE c b i) (i + 1)))
theorem syE_b {c : Cf} {b i : Nat} (hw : WFc c) (h : i < b) : i + 1 ≤ syE c b i ∧ syE c b i ≤ b := by
  unfold syE
  have h1 := bcE_b (c := c) (i + 1) h
  have h2 := bv_b (c := c) (b := b) (k := i + 1) h
  have h3 := bcE_b (c := c) i (Nat.le_of_lt h)
  have h4 := (hw.tx i).1
  by_cases e : cCo (cN c 141 i)
  · rw [cI_t e]; omega
  · rw [cI_f e]
    by_cases e2 : cN c 141 i = 43
    · rw [cI_t e2]; omega
    · rw [cI_f e2]
      by_cases e3 : 39 ≤ cN c 141 i
      · rw [cI_t e3]
        have := h3.2.2 h (by unfold cVo; omega)
        omega
      · rw [cI_f e3]; omega
def sgG (c : Cf) (i k : Nat) : Gl := newG (cN c 141 k) i (cN c 142 k) (-100)
def adS (c : Cf) (i : Nat) : Nat → Nat → List Gl → List Gl
  | 0, _, L => L
  | t + 1, k, L => adS c i t (k + 1) (addL L (sgG c i k))
theorem adS_len (c : Cf) (i : Nat) : ∀ t k L, (adS c i t k L).length = L.length + t := by
  intro t
  induction t with
  | zero => intro k L; rfl
  | succ t ih => intro k L; show (adS c i t (k + 1) (addL L (sgG c i k))).length = _; rw [ih, add_len]; omega
noncomputable def sy1 (c : Cf) (i : Nat) (L : List Gl) : List Gl := cI (39 ≤ cN c 141 i ∧ ¬ cN c 141 i = 43) (addL L (newG 64 i 0 (-100))) L
def syP (c : Cf) (b i : Nat) : Prop := cN c 141 i = 38 ∧ i + 2 < syE c b i ∧ cN c 141 (i + 1) = 39 ∧ cCo (cN c 141 (i + 2))
noncomputable def sy2 (c : Cf) (b i : Nat) (L : List Gl) : List Gl := adS c i (syE c b i - i) i (sy1 c i L)
noncomputable def sy3 (c : Cf) (b i s : Nat) (L2 : List Gl) : List Gl := cI (syP c b i) (clmL L2 s i (cN c 142 i)) L2
noncomputable def sy4 (s : Nat) (L : List Gl) : List Gl := sA (L.length - s) s s L
noncomputable def syL (c : Cf) (b i : Nat) (L : List Gl) : List Gl := sy4 L.length (sy3 c b i L.length (sy2 c b i L))
noncomputable def sys (c : Cf) (b : Nat) : Nat → Nat → List Gl → List Gl
  | 0, _, L => L
  | t + 1, i, L => cI (i < b) (sys c b t (syE c b i) (syL c b i L)) L
theorem sy1_len (c : Cf) (i : Nat) (L : List Gl) : L.length ≤ (sy1 c i L).length ∧ (sy1 c i L).length ≤ L.length + 1 := by
  unfold sy1
  by_cases e : 39 ≤ cN c 141 i ∧ ¬ cN c 141 i = 43
  · rw [cI_t e, add_len]; omega
  · rw [cI_f e]; omega
theorem sy2_len (c : Cf) (b i : Nat) (L : List Gl) : (sy2 c b i L).length = (sy1 c i L).length + (syE c b i - i) := adS_len _ _ _ _ _
theorem syL_len {c : Cf} {b i : Nat} {L : List Gl} (hw : WFc c) (h : i < b) : L.length ≤ (syL c b i L).length ∧ (syL c b i L).length ≤ L.length + 2 * (syE c b i - i) := by
  unfold syL sy4
  rw [sA_len]
  unfold sy3
  have h1 := sy1_len c i L
  have h2 := sy2_len c b i L
  have h3 := syE_b hw h
  by_cases e : syP c b i
  · have := e.2.1
    rw [cI_t e, clmL_len (by omega)]; omega
  · rw [cI_f e]; omega
