/-! the reference: contexts, and the ways through a row -/
theorem wTk_n {t i into : Nat} (ht : t < 2 ^ 31) (hi : i < 2 ^ 31) : wTk (nI t) i into = nI (if t = i then into else if t ≤ i then t else t - 1) := by
  unfold wTk
  by_cases e : t = i
  · subst e; rw [cI_t rfl, if_pos rfl]
  · rw [cI_f (fun q => e ((nI_eq ht hi).mp q)), if_neg e]
    by_cases e2 : t ≤ i
    · rw [cI_t ((nI_leI ht hi).mpr e2), if_pos e2]
    · rw [cI_f (fun q => e2 ((nI_leI ht hi).mp q)), if_neg e2, pk_sub (by omega)]
theorem wPu_n {t i m : Nat} (ht : t < 2 ^ 31) (hi : i < 2 ^ 31) : wPu (nI t) i m = nI (t + if t < i then 0 else m) := by
  unfold wPu
  by_cases e : t < i
  · rw [cI_t ((nI_ltI ht hi).mpr e), if_pos e, nI_add]
  · rw [cI_f (fun q => e ((nI_ltI ht hi).mp q)), if_neg e, nI_add]
theorem jnD_len (L : List Gl) (one two three its : Nat) (al : Int32) : (jnD L one two three its al).length = L.length - 1 - 1 := by unfold jnD; rw [cl_len, jnA_len]
theorem jn2_len (c : Cf) (f : Nat) (L : List Gl) (one two its : Nat) : (jn2 c f L one two its).length = L.length - 1 := by unfold jn2 jnC; rw [jnA_len, jnB_len, jnP_len]
theorem jn3_len (c : Cf) (f : Nat) (L : List Gl) (one two three its : Nat) : (jn3 c f L one two three its).length = L.length - 1 - 1 := by unfold jn3; rw [jnD_len, jnB_len, jnQ_len, jnP_len]
theorem ptL_len (L : List Gl) (i : Nat) (b cc d : Int32) : (ptL L i b cc d).length = L.length + mrN d := puts_len _ _ _ _ _ _
/-- where what was watched comes to stand, when a rule was done at s -/
theorem chg_w {c : Cf} {f : Nat} {L : List Gl} {l k s t : Nat} (hn : L.length ≤ 64) (hs : s ≤ t) (ht : t < L.length) (hf : fit c f L l k s) : ∃ t', chgW c f L (nI t) l k s = nI t' ∧ s ≤ t' ∧ t' ≤ t + 2 ∧ (chgL c f L l k s).length - (t' + 1) < L.length - s := by
  unfold chgW chgL
  obtain ⟨-, hf⟩ := hf
  by_cases e0 : cN c 130 l = 0
  · rw [cI_t e0, cI_t e0]; exact ⟨t, rfl, hs, by omega, by rw [num_len]; omega⟩
  · rw [cI_f e0, cI_f e0]
    by_cases e1 : cN c 130 l = 1
    · rw [cI_t e1, cI_t e1, wPu_n (by omega) (by omega), if_neg (by omega)]
      have := mrN_b (rul c l k 3)
      exact ⟨_, rfl, by omega, by omega, by rw [ptL_len]; omega⟩
    · rw [cI_f e1, cI_f e1]
      by_cases e2 : cN c 130 l = 2
      · rw [cI_t e2, cI_t e2]; exact ⟨t, rfl, hs, by omega, by rw [num_len]; omega⟩
      · rw [cI_f e2, cI_f e2]
        rcases hf with q | q | q | ⟨q, q2, -, q3⟩
        · omega
        · omega
        · omega
        have h2 := aft_b c f l (show s < L.length by omega)
        unfold lgW lgL
        by_cases e3 : rul c l k 2 = -100
        · rw [cI_t e3, cI_t e3, wTk_n (by omega) (by omega)]
          refine ⟨_, rfl, ?_, ?_, ?_⟩
          · repeat' split
            all_goals omega
          · repeat' split
            all_goals omega
          · rw [jn2_len]; repeat' split
            all_goals omega
        · rw [cI_f e3, cI_f e3]
          have q4 := (q3.resolve_left e3).1
          have h3 := aft_b c f l q2
          rw [wTk_n (by omega) (by omega), wTk_n (by split <;> (try split) <;> omega) (by omega)]
          refine ⟨_, rfl, ?_, ?_, ?_⟩
          · repeat' split
            all_goals omega
          · repeat' split
            all_goals omega
          · rw [jn3_len]; repeat' split
            all_goals omega
theorem chg_d {c : Cf} {f : Nat} {L : List Gl} {l k s : Nat} (hn : L.length ≤ 64) (ht : s < L.length) (hf : fit c f L l k s) : (chgL c f L l k s).length - chgI c l k s < L.length - s := by
  unfold chgI chgL
  obtain ⟨-, hf⟩ := hf
  by_cases e0 : cN c 130 l = 0
  · rw [cI_t e0, cI_f (by omega), num_len]; omega
  · rw [cI_f e0]
    by_cases e1 : cN c 130 l = 1
    · rw [cI_t e1, cI_t e1, ptL_len]; omega
    · rw [cI_f e1, cI_f e1]
      by_cases e2 : cN c 130 l = 2
      · rw [cI_t e2, num_len]; omega
      · rw [cI_f e2]
        unfold lgL
        by_cases e3 : rul c l k 2 = -100
        · rw [cI_t e3, jn2_len]; omega
        · rw [cI_f e3, jn3_len]; omega
def caP (c : Cf) (f : Nat) (L : List Gl) (its i : Nat) : Prop := its < cN c 129 f ∧ cN c 130 (12 * f + its) ≤ 3 ∧ ¬ skp c f (12 * f + its) (yN (gat L i)) ∧ ffA c f L (12 * f + its) i < cN c 135 (12 * f + its)
noncomputable def caL (c : Cf) (f : Nat) (L : List Gl) (its i : Nat) : List Gl := cI (caP c f L its i) (chgL c f L (12 * f + its) (ffA c f L (12 * f + its) i) i) L
noncomputable def caW (c : Cf) (f : Nat) (L : List Gl) (w : Int32) (its i : Nat) : Int32 := cI (caP c f L its i) (chgW c f L w (12 * f + its) (ffA c f L (12 * f + its) i) i) w
noncomputable def twC (c : Cf) (f : Nat) (L : List Gl) (l k i : Nat) : Nat := cI (rul c l k 2 = -100) i (aft c f l L i)
def cfit (c : Cf) (f : Nat) (L : List Gl) (l k i : Nat) : Prop := isAt c f (rul c l k 1) (yN (gat L i)) ∧ thr c f L (rul c l k 2) (twC c f L l k i + 1) ∧ thr c f L (rul c l k 0) (ahd c f l L i) ∧ thr c f L (rul c l k 3) (aft c f l L (twC c f L l k i) + 1)
noncomputable def spo (c : Cf) (f : Nat) (L : List Gl) (l k i : Nat) : Nat := cI (rul c l k 4 = 0) i (twC c f L l k i)
noncomputable def cxL (c : Cf) (f : Nat) (L : List Gl) (l k i : Nat) : List Gl := caL c f L (gN (rul c l k 5)) (spo c f L l k i)
noncomputable def cxW (c : Cf) (f : Nat) (L : List Gl) (l k i : Nat) : Int32 := caW c f L (nI (twC c f L l k i)) (gN (rul c l k 5)) (spo c f L l k i)
theorem twC_b {c : Cf} {f : Nat} {L : List Gl} {l k i : Nat} (hi : i < L.length) (h : thr c f L (rul c l k 2) (twC c f L l k i + 1)) : i ≤ twC c f L l k i ∧ twC c f L l k i < L.length := by
  have h2 := aft_b c f l hi
  unfold twC at *
  by_cases e : rul c l k 2 = -100
  · rw [cI_t e]; omega
  · rw [cI_f e] at *
    have := h.resolve_left e
    omega
theorem ffA_f {c : Cf} {f : Nat} {L : List Gl} {l i : Nat} (h : ffA c f L l i < cN c 135 l) : fit c f L l (ffA c f L l i) i := (fnd_spec (P := fun k => fit c f L l k i) (Nat.zero_le (cN c 135 l))).2.2.1 h
theorem cx_w {c : Cf} {f : Nat} {L : List Gl} {l k i : Nat} (hn : L.length ≤ 64) (hi : i < L.length) (h : cfit c f L l k i) : ∃ t', cxW c f L l k i = nI t' ∧ i ≤ t' ∧ t' ≤ 66 ∧ (cxL c f L l k i).length - (t' + 1) < L.length - i := by
  obtain ⟨h1, h2⟩ := twC_b hi h.2.1
  have hs : i ≤ spo c f L l k i ∧ spo c f L l k i ≤ twC c f L l k i := by
    unfold spo
    by_cases e : rul c l k 4 = 0
    · rw [cI_t e]; omega
    · rw [cI_f e]; omega
  unfold cxW cxL caL caW
  by_cases e : caP c f L (gN (rul c l k 5)) (spo c f L l k i)
  · rw [cI_t e, cI_t e]
    obtain ⟨t', g1, g2, g3, g4⟩ := chg_w hn hs.2 h2 (ffA_f e.2.2.2)
    exact ⟨t', g1, by omega, by omega, by omega⟩
  · rw [cI_f e, cI_f e]
    exact ⟨_, rfl, h1, by omega, by omega⟩
noncomputable def cxI (c : Cf) (f : Nat) (L : List Gl) (l k i : Nat) : Nat := gN (cxW c f L l k i) + 1
theorem cxI_b {c : Cf} {f : Nat} {L : List Gl} {l k i : Nat} (hn : L.length ≤ 64) (hi : i < L.length) (h : cfit c f L l k i) : cxW c f L l k i + nI 1 = nI (cxI c f L l k i) ∧ nI i ≤ cxW c f L l k i ∧ i + 1 ≤ cxI c f L l k i ∧ cxI c f L l k i ≤ 67 ∧ (cxL c f L l k i).length - cxI c f L l k i < L.length - i := by
  obtain ⟨t', h1, h2, h3, h4⟩ := cx_w hn hi h
  unfold cxI
  rw [h1, gN_nI (by omega), nI_add]
  exact ⟨rfl, (nI_leI (by omega) (by omega)).mpr h2, by omega, by omega, h4⟩
noncomputable def ctA (c : Cf) (f : Nat) (L : List Gl) (l i : Nat) : Nat := fnd (fun k => cfit c f L l k i) (cN c 135 l) 0
theorem ctA_f {c : Cf} {f : Nat} {L : List Gl} {l i : Nat} (h : ctA c f L l i < cN c 135 l) : cfit c f L l (ctA c f L l i) i := (fnd_spec (P := fun k => cfit c f L l k i) (Nat.zero_le (cN c 135 l))).2.2.1 h
def bfit (c : Cf) (f : Nat) (L : List Gl) (l k i : Nat) : Prop := isAt c f (rul c l k 1) (yN (gat L i)) ∧ thr c f L (rul c l k 0) (ahd c f l L i) ∧ thr c f L (rul c l k 2) (aft c f l L i + 1)
noncomputable def bkA (c : Cf) (f : Nat) (L : List Gl) (l i : Nat) : Nat := fnd (fun k => bfit c f L l k i) (cN c 135 l) 0
def goP (c : Cf) (f : Nat) (L : List Gl) (l i : Nat) : Prop := ¬ skp c f l (yN (gat L i)) ∧ hasF c l (gat L i)
noncomputable def gbS (c : Cf) (f l : Nat) (L : List Gl) (i : Nat) : List Gl := cI (goP c f L l i ∧ bkA c f L l i < cN c 135 l) (numL L i (gN (rul c l (bkA c f L l i) 3))) L
noncomputable def gbk (c : Cf) (f l : Nat) : Nat → List Gl → List Gl
  | 0, L => L
  | i + 1, L => gbk c f l i (gbS c f l L i)
theorem gbS_len (c : Cf) (f l : Nat) (L : List Gl) (i : Nat) : (gbS c f l L i).length = L.length := by
  unfold gbS
  by_cases h : goP c f L l i ∧ bkA c f L l i < cN c 135 l
  · rw [cI_t h, num_len]
  · rw [cI_f h]
noncomputable def goL (c : Cf) (f l : Nat) (L : List Gl) (i : Nat) : List Gl := cI (goP c f L l i) (cI (cN c 130 l = 4) (cI (ctA c f L l i < cN c 135 l) (cxL c f L l (ctA c f L l i) i) L) (cI (ffA c f L l i < cN c 135 l) (chgL c f L l (ffA c f L l i) i) L)) L
noncomputable def goI (c : Cf) (f l : Nat) (L : List Gl) (i : Nat) : Nat := cI (goP c f L l i) (cI (cN c 130 l = 4) (cI (ctA c f L l i < cN c 135 l) (cxI c f L l (ctA c f L l i) i) (i + 1)) (cI (ffA c f L l i < cN c 135 l) (chgI c l (ffA c f L l i) i) (i + 1))) (i + 1)
noncomputable def gos (c : Cf) (f l : Nat) : Nat → List Gl → Nat → List Gl
  | 0, L, _ => L
  | t + 1, L, i => cI (i < L.length) (gos c f l t (goL c f l L i) (goI c f l L i)) L
theorem go_b {c : Cf} {f l : Nat} {L : List Gl} {i : Nat} (hn : L.length ≤ 64) (hi : i < L.length) : i + 1 ≤ goI c f l L i ∧ goI c f l L i ≤ 67 ∧ (goL c f l L i).length - goI c f l L i < L.length - i := by
  unfold goI goL
  by_cases h : goP c f L l i
  · rw [cI_t h, cI_t h]
    by_cases h2 : cN c 130 l = 4
    · rw [cI_t h2, cI_t h2]
      by_cases h3 : ctA c f L l i < cN c 135 l
      · rw [cI_t h3, cI_t h3]
        obtain ⟨-, -, x3, x4, x5⟩ := cxI_b hn hi (ctA_f h3)
        exact ⟨x3, x4, x5⟩
      · rw [cI_f h3, cI_f h3]; omega
    · rw [cI_f h2, cI_f h2]
      by_cases h3 : ffA c f L l i < cN c 135 l
      · rw [cI_t h3, cI_t h3]
        have h4 := chg_d hn hi (ffA_f h3)
        have h5 := chgI_b c l (ffA c f L l i) i
        omega
      · rw [cI_f h3, cI_f h3]; omega
  · rw [cI_f h, cI_f h]; omega
def due (c : Cf) (l s : Nat) : Prop := cN c 130 l ≤ 5 ∧ cN c 132 l = s ∧ (cN c 133 l = 0 ∨ cN c 133 l = cN c 128 17)
noncomputable def stS (c : Cf) (f s l : Nat) (L : List Gl) : List Gl := cI (due c l s) (cI (cN c 130 l = 5) (gbk c f l L.length L) (gos c f l 64 L 0)) L
noncomputable def stg (c : Cf) (f s : Nat) : Nat → Nat → List Gl → List Gl
  | 0, _, L => L
  | m + 1, l, L => stg c f s m (l + 1) (stS c f s l L)
