/-! the reference: a run, a part of the text -/
theorem onK_of {A B : Pl} {n : Nat} (h : onK A n) (e : ∀ i, i < n → B 2 i = A 2 i) : onK B n := fun i hi => by rw [e i hi]; exact h i hi
theorem onK_set3 {A : Pl} {n i b : Nat} {x y : Int32} (h : onK A n) (hb : b < i) : onK (set3 A i (nI b) x y) n := fun j hj => by
  unfold set3 u2
  rw [if_neg (by omega), if_neg (by omega)]
  by_cases e : j = i
  · rw [if_pos ⟨rfl, e⟩]; exact Or.inr ⟨b, by omega, rfl⟩
  · rw [if_neg (fun q => e q.2)]; exact h j hj
theorem onK_pl0 (c : Cf) (f : Nat) (L : List Gl) (n : Nat) : onK (pl0 c f L) n := fun i _ => Or.inl rfl
theorem onK_prs {c : Cf} {f l : Nat} {L : List Gl} {n : Nat} : ∀ t i (A : Pl), onK A n → onK (prs c f l L t i A) n := by
  intro t
  induction t with
  | zero => exact fun i A h => h
  | succ t ih =>
    intro i A h
    show onK (cI _ _ _) n
    by_cases e : i < L.length
    · rw [cI_t e]
      refine ih _ _ ?_
      unfold prS
      by_cases e2 : prD c f l L i
      · rw [cI_t e2]; exact onK_of h (fun j _ => by unfold u2; rw [if_neg (by omega)])
      · rw [cI_f e2]; exact h
    · rw [cI_f e]; exact h
theorem onK_crv {c : Cf} {f l : Nat} {L : List Gl} {n : Nat} {A : Pl} (h : onK A n) : ∀ k, onK (crv c f l L k A) n
  | 0 => h
  | k + 1 => by
    show onK (crS c f l L k (crv c f l L k A)) n
    have ih := onK_crv h k (c := c) (f := f) (l := l) (L := L)
    unfold crS
    by_cases e : crG c f l L k
    · rw [cI_t e]; unfold crU
      by_cases e2 : crD c f l L k (aft c f l L k)
      · rw [cI_t e2]; exact onK_of ih (fun j _ => by unfold u2; rw [if_neg (by omega)])
      · rw [cI_f e2]; exact ih
    · rw [cI_f e]; exact ih
theorem onK_bss {c : Cf} {f l : Nat} {L : List Gl} {n : Nat} {A : Pl} (h : onK A n) : ∀ k, onK (bss c f l L k A) n
  | 0 => h
  | k + 1 => by
    show onK (bsS c f l L k (bss c f l L k A)) n
    have ih := onK_bss h k (c := c) (f := f) (l := l) (L := L)
    unfold bsS
    by_cases e : bsG c f l L k
    · rw [cI_t e]; unfold bsU
      have hb : bsE c f L k ≤ k := rfd_le (P := fun j => ¬ 0 < mkc c f (gat L j)) k
      have hb0 := e.2.2
      by_cases e2 : bsA c f l L k (bsE c f L k - 1) < cN c 135 l
      · rw [cI_t e2]; exact onK_set3 ih (by omega)
      · rw [cI_f e2]; exact ih
    · rw [cI_f e]; exact ih
theorem onK_mks {c : Cf} {f l : Nat} {L : List Gl} {n : Nat} {A : Pl} (h : onK A n) : ∀ k, onK (mks c f l L k A) n
  | 0 => h
  | k + 1 => by
    show onK (mkS c f l L k (mks c f l L k A)) n
    have ih := onK_mks h k (c := c) (f := f) (l := l) (L := L)
    unfold mkS
    by_cases e : mkG c f l L k
    · rw [cI_t e]; unfold mkU
      have hb : ahd c f l L k ≤ k := rfd_le (P := fun j => ¬ skp c f l (yN (gat L j))) k
      have hb0 := e.2.2.1
      by_cases e2 : mkA c f l L k (ahd c f l L k - 1) < cN c 135 l
      · rw [cI_t e2]; exact onK_set3 ih (by omega)
      · rw [cI_f e2]; exact ih
    · rw [cI_f e]; exact ih
theorem onK_plS {c : Cf} {f l : Nat} {L : List Gl} {n : Nat} {A : Pl} (h : onK A n) : onK (plS c f l L A) n := by
  unfold plS plK
  by_cases e : pDue c l
  · rw [cI_t e]
    by_cases e6 : cN c 130 l = 6
    · rw [cI_t e6]; exact onK_prs _ _ _ h
    · rw [cI_f e6]
      by_cases e7 : cN c 130 l = 7
      · rw [cI_t e7]; exact onK_crv h _
      · rw [cI_f e7]
        by_cases e8 : cN c 130 l = 8
        · rw [cI_t e8]; exact onK_bss h _
        · rw [cI_f e8]
          by_cases e9 : cN c 130 l = 9
          · rw [cI_t e9]; exact onK_mks h _
          · rw [cI_f e9]; exact h
  · rw [cI_f e]; exact h
theorem onK_pla {c : Cf} {f : Nat} {L : List Gl} {n : Nat} : ∀ m l (A : Pl), onK A n → onK (pla c f L m l A) n
  | 0, _, _, h => h
  | m + 1, l, A, h => onK_pla m (l + 1) _ (onK_plS h)
theorem onK_plc (c : Cf) (f : Nat) (L : List Gl) (n : Nat) : onK (plc c f L) n := onK_pla _ _ _ (onK_pl0 _ _ _ _)
/-! a run -/
noncomputable def r0 (c : Cf) (s k e : Nat) : List Gl := cI (s = 0) (jnd c k e (e - k)) (sys c e (e - k) k [])
noncomputable def r1 (c : Cf) (f s k e : Nat) : List Gl := stg c f 0 (cN c 129 f) (12 * f) (r0 c s k e)
noncomputable def r2 (c : Cf) (f s k e : Nat) : List Gl := cI (s = 0) (r1 c f s k e) (mvs 64 0 (r1 c f s k e))
noncomputable def r3 (c : Cf) (f s k e : Nat) : List Gl := stg c f 1 (cN c 129 f) (12 * f) (r2 c f s k e)
noncomputable def r4 (c : Cf) (f s k e : Nat) : List Gl := tko (r3 c f s k e).length (r3 c f s k e)
noncomputable def jnO (s : Nat) : Nat := cI (s = 0) 1 0
noncomputable def stB (c : Cf) (f s : Nat) (left : Int32) (L : List Gl) : Pl := std (jnO s) left (smA (plc c f L) L.length) L.length (plc c f L)
noncomputable def og (G : Nat) (L : List Gl) (B : Pl) (q j : Nat) : Int32 := if q = 0 then nI (yN (gat L j)) else if q = 1 then nI (yC (gat L j)) else if q = 2 then B 0 j else if q = 3 then B 1 j else if q = 4 then B 5 j else if q = 5 then cI (B 2 j = -100) (-100) (nI G + B 2 j) else if q = 6 then B 3 j else B 4 j
theorem mI_ne {M : gM} {a k b j : Nat} {v : Int32} (h : ¬ b = a) : mI (sI M a k v) b j = mI M b j := by rw [mI_sI, if_neg (fun q => h q.1)]
theorem mI_nj {M : gM} {a k b j : Nat} {v : Int32} (h : ¬ j = k) : mI (sI M a k v) b j = mI M b j := by rw [mI_sI, if_neg (fun q => h q.2)]
theorem mI_eq {M : gM} {a k : Nat} {v : Int32} : mI (sI M a k v) a k = v := by rw [mI_sI, if_pos ⟨rfl, rfl⟩]
def oR (lo hi a j : Nat) : Prop := 158 ≤ a ∧ a ≤ 165 ∧ lo ≤ j ∧ j < hi
def oS (G : Nat) (L : List Gl) (B : Pl) (k : Nat) (M : gM) : Prop := ∀ q j, q < 8 → j < k → mI M (158 + q) (G + j) = og G L B q j
theorem jnO_b (s : Nat) : jnO s ≤ 1 := by
  unfold jnO
  by_cases e : s = 0
  · rw [cI_t e]; exact Nat.le_refl _
  · rw [cI_f e]; exact Nat.zero_le _
def rnR (G n a j : Nat) : Prop := rowR a j ∨ (a = 128 ∧ (j = 20 ∨ j = 36)) ∨ oR G (G + n) a j
/-- what stands when a run is shaped: its row, its places, what was laid -/
def rnS (c : Cf) (f s : Nat) (left : Int32) (G : Nat) (L : List Gl) (M : gM) : Prop := okL L ∧ mI M 128 21 = nI L.length ∧ mI M 128 36 = nI (G + L.length) ∧ (∀ i, i < L.length → mI M 152 i = plc c f L 0 i) ∧ oS G L (stB c f s left L) L.length M
