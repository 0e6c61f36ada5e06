/-! rows as lists; what was told, apart from a memory -/
noncomputable def cI {α : Type} (P : Prop) (a b : α) : α := @ite α P (Classical.propDecidable P) a b
theorem cI_t {α : Type} {P : Prop} {a b : α} (h : P) : cI P a b = a := @if_pos _ (Classical.propDecidable _) h _ _ _
theorem cI_f {α : Type} {P : Prop} {a b : α} (h : ¬ P) : cI P a b = b := @if_neg _ (Classical.propDecidable _) h _ _ _
theorem cI_congr {α : Type} {P R : Prop} {a b : α} (h : P ↔ R) : cI P a b = cI R a b := by rw [show P = R from propext h]
/-- the first place from i on, below n, where P holds; n if there is none -/
noncomputable def fndA (P : Nat → Prop) : Nat → Nat → Nat
  | 0, i => i
  | t + 1, i => cI (P i) i (fndA P t (i + 1))
noncomputable def fnd (P : Nat → Prop) (n i : Nat) : Nat := fndA P (n - i) i
theorem fnd_end {P : Nat → Prop} {n i : Nat} (h : n ≤ i) : fnd P n i = i := by unfold fnd; rw [show n - i = 0 by omega]; rfl
theorem fnd_hit {P : Nat → Prop} {n i : Nat} (h : i < n) (hp : P i) : fnd P n i = i := by unfold fnd; rw [show n - i = (n - i - 1) + 1 by omega]; exact cI_t hp
theorem fnd_skip {P : Nat → Prop} {n i : Nat} (h : i < n) (hp : ¬ P i) : fnd P n i = fnd P n (i + 1) := by
  unfold fnd; rw [show n - i = (n - (i + 1)) + 1 by omega]; exact cI_f hp
theorem fnd_spec {P : Nat → Prop} {n i : Nat} (h : i ≤ n) : i ≤ fnd P n i ∧ fnd P n i ≤ n ∧ (fnd P n i < n → P (fnd P n i)) ∧ ∀ j, i ≤ j → j < fnd P n i → ¬ P j := by
  refine lpUp (P := fun i => i ≤ fnd P n i ∧ fnd P n i ≤ n ∧ (fnd P n i < n → P (fnd P n i)) ∧ ∀ j, i ≤ j → j < fnd P n i → ¬ P j) n (fun k hk ih => ?_) i h
  by_cases e : k = n
  · rw [fnd_end (by omega)]; exact ⟨Nat.le_refl _, hk, fun q => by omega, fun j _ _ => by omega⟩
  · by_cases hp : P k
    · rw [fnd_hit (by omega) hp]; exact ⟨Nat.le_refl _, hk, fun _ => hp, fun j _ _ => by omega⟩
    · rw [fnd_skip (by omega) hp]
      obtain ⟨h1, h2, h3, h4⟩ := ih (by omega)
      refine ⟨by omega, h2, h3, fun j hj1 hj2 => ?_⟩
      by_cases e2 : j = k
      · rw [e2]; exact hp
      · exact h4 j (by omega) hj2
theorem fnd_eq {P : Nat → Prop} {n i k : Nat} (hk : i ≤ k) (hn : k ≤ n) (h1 : k < n → P k) (h2 : ∀ j, i ≤ j → j < k → ¬ P j) : fnd P n i = k := by
  obtain ⟨g1, g2, g3, g4⟩ := fnd_spec (P := P) (Nat.le_trans hk hn)
  by_cases e : fnd P n i < k
  · exact absurd (g3 (by omega)) (h2 _ g1 e)
  · by_cases e2 : k < fnd P n i
    · exact absurd (h1 (by omega)) (g4 _ hk e2)
    · omega
theorem fnd_congr {P R : Nat → Prop} {n i : Nat} (h : ∀ j, i ≤ j → j < n → (P j ↔ R j)) : fnd P n i = fnd R n i := by
  by_cases hi : i ≤ n
  · obtain ⟨g1, g2, g3, g4⟩ := fnd_spec (P := R) hi
    exact fnd_eq g1 g2 (fun q => (h _ g1 q).mpr (g3 q)) (fun j a b => fun q => g4 j a b ((h j a (by omega)).mp q))
  · rw [fnd_end (by omega), fnd_end (by omega)]
/-- the last place below k where P holds, and one; 0 if there is none -/
noncomputable def rfd (P : Nat → Prop) : Nat → Nat
  | 0 => 0
  | k + 1 => cI (P k) (k + 1) (rfd P k)
theorem rfd_t {P : Nat → Prop} {k : Nat} (h : P k) : rfd P (k + 1) = k + 1 := cI_t h
theorem rfd_f {P : Nat → Prop} {k : Nat} (h : ¬ P k) : rfd P (k + 1) = rfd P k := cI_f h
theorem rfd_le {P : Nat → Prop} : ∀ k, rfd P k ≤ k
  | 0 => Nat.le_refl _
  | k + 1 => by
    by_cases h : P k
    · rw [rfd_t h]; exact Nat.le_refl _
    · rw [rfd_f h]; exact Nat.le_succ_of_le (rfd_le k)
theorem rfd_spec {P : Nat → Prop} : ∀ k, (∀ j, rfd P k = j + 1 → P j) ∧ ∀ j, rfd P k ≤ j → j < k → ¬ P j
  | 0 => ⟨fun j h => by simp [rfd] at h, fun j _ h => by omega⟩
  | k + 1 => by
    by_cases h : P k
    · rw [rfd_t h]
      exact ⟨fun j hj => by rw [show j = k by omega]; exact h, fun j _ _ => by omega⟩
    · rw [rfd_f h]
      obtain ⟨g1, g2⟩ := rfd_spec (P := P) k
      refine ⟨g1, fun j a b => ?_⟩
      by_cases e : j = k
      · rw [e]; exact h
      · exact g2 j a (by omega)
theorem rfd_eq {P : Nat → Prop} {k r : Nat} (hr : r ≤ k) (h1 : ∀ j, r = j + 1 → P j) (h2 : ∀ j, r ≤ j → j < k → ¬ P j) : rfd P k = r := by
  obtain ⟨g1, g2⟩ := rfd_spec (P := P) k
  have g0 := rfd_le (P := P) k
  by_cases e : rfd P k < r
  · exact absurd (h1 (r - 1) (by omega)) (g2 _ (by omega) (by omega))
  · by_cases e2 : r < rfd P k
    · exact absurd (g1 (rfd P k - 1) (by omega)) (h2 _ (by omega) (by omega))
    · omega
theorem rfd_congr {P R : Nat → Prop} : ∀ {k : Nat}, (∀ j, j < k → (P j ↔ R j)) → rfd P k = rfd R k
  | 0, _ => rfl
  | k + 1, h => by
    have ih := rfd_congr (P := P) (R := R) (k := k) (fun j hj => h j (by omega))
    by_cases hp : P k
    · rw [rfd_t hp, rfd_t ((h k (by omega)).mp hp)]
    · rw [rfd_f hp, rfd_f (fun q => hp ((h k (by omega)).mpr q)), ih]
/-! numbers that may go to -1; what a number may be told -/
def dI (k : Nat) : Int32 := nI k - nI 1
theorem dI_succ (k : Nat) : dI (k + 1) = nI k := pk_sub (Nat.succ_le_succ (Nat.zero_le k))
theorem dI_toInt {k : Nat} (h : k < 2 ^ 30) : (dI k).toInt = (k : Int) - 1 := by unfold dI; exact pk_sub_toInt h (by decide)
/-! glyphs: number, cluster, form, extra, part, parts, what it came of -/
abbrev Gl : Type := Nat × (Nat × (Int32 × (Nat × (Int32 × (Int32 × Nat)))))
def yN (x : Gl) : Nat := x.1
def yC (x : Gl) : Nat := x.2.1
def yF (x : Gl) : Int32 := x.2.2.1
def yE (x : Gl) : Nat := x.2.2.2.1
def yP (x : Gl) : Int32 := x.2.2.2.2.1
def yT (x : Gl) : Int32 := x.2.2.2.2.2.1
def yO (x : Gl) : Nat := x.2.2.2.2.2.2
def sN (x : Gl) (v : Nat) : Gl := (v, x.2)
def sC (x : Gl) (v : Nat) : Gl := (x.1, v, x.2.2)
def sP (x : Gl) (v : Int32) : Gl := (x.1, x.2.1, x.2.2.1, x.2.2.2.1, v, x.2.2.2.2.2)
def sT (x : Gl) (v : Int32) : Gl := (x.1, x.2.1, x.2.2.1, x.2.2.2.1, x.2.2.2.2.1, v, x.2.2.2.2.2.2)
def g0 : Gl := (0, (0, (0, (0, (0, (0, 0))))))
def gat (L : List Gl) (i : Nat) : Gl := (L[i]?).getD g0
theorem gat_some {L : List Gl} {i : Nat} (h : i < L.length) : L[i]? = some (gat L i) := by
  unfold gat; rw [List.getElem?_eq_getElem h]; rfl
theorem gat_of {L : List Gl} {i : Nat} {x : Gl} (h : L[i]? = some x) : gat L i = x := by unfold gat; rw [h]; rfl
theorem gat_out {L : List Gl} {i : Nat} (h : L.length ≤ i) : gat L i = g0 := by unfold gat; rw [List.getElem?_eq_none h]; rfl
def mkL (n : Nat) (h : Nat → Gl) : List Gl := (List.range n).map h
theorem mkL_len (n : Nat) (h : Nat → Gl) : (mkL n h).length = n := by simp [mkL]
theorem mkL_at (n : Nat) (h : Nat → Gl) (i : Nat) : (mkL n h)[i]? = if i < n then some (h i) else none := by
  unfold mkL
  by_cases q : i < n
  · simp [q]
  · simp [q, Nat.le_of_not_lt q]
theorem gat_mkL {n : Nat} {h : Nat → Gl} {i : Nat} (q : i < n) : gat (mkL n h) i = h i := by unfold gat; rw [mkL_at, if_pos q]; rfl
theorem row_ext {L L' : List Gl} (h : L.length = L'.length) (h2 : ∀ i, i < L.length → gat L i = gat L' i) : L = L' := by
  apply List.ext_getElem?
  intro i
  by_cases q : i < L.length
  · rw [gat_some q, gat_some (by omega), h2 i q]
  · rw [List.getElem?_eq_none (by omega), List.getElem?_eq_none (by omega)]
theorem mkL_gat (L : List Gl) : mkL L.length (gat L) = L := row_ext (mkL_len _ _) (fun i hi => gat_mkL (by rwa [mkL_len] at hi))
def okG (x : Gl) : Prop := yN x < 256 ∧ yC x < 16 ∧ yE x ≤ 3 ∧ yO x < 256
theorem okG0 : okG g0 := by unfold okG; decide
def okL (L : List Gl) : Prop := L.length ≤ 64 ∧ ∀ x ∈ L, okG x
theorem okL.len {L : List Gl} (h : okL L) : L.length ≤ 64 := h.1
theorem okL.at {L : List Gl} (h : okL L) (i : Nat) : okG (gat L i) := by
  by_cases q : i < L.length
  · exact h.2 _ (List.mem_of_getElem? (gat_some q))
  · rw [gat_out (by omega)]; exact okG0
theorem okL_mk {n : Nat} {h : Nat → Gl} (hn : n ≤ 64) (hh : ∀ i, i < n → okG (h i)) : okL (mkL n h) := by
  refine ⟨by rw [mkL_len]; exact hn, fun x hx => ?_⟩
  obtain ⟨i, hi, rfl⟩ := List.mem_map.mp hx
  exact hh i (List.mem_range.mp hi)
/-- one glyph out; some places opened behind one; a block comes ahead; one glyph changed; one more -/
def closeL (L : List Gl) (a : Nat) : List Gl := mkL (L.length - 1) (fun j => gat L (if j < a then j else j + 1))
def openL (L : List Gl) (a m : Nat) : List Gl := mkL (L.length + m) (fun j => gat L (if j ≤ a then j else if j ≤ a + m then a else j - m))
def rotS (a b e j : Nat) : Nat := if j < a then j else if j < a + (e - b) then j - a + b else if j < e then j - (e - b) else j
def rotL (L : List Gl) (a b e : Nat) : List Gl := mkL L.length (fun j => gat L (rotS a b e j))
def putL (L : List Gl) (i : Nat) (x : Gl) : List Gl := mkL L.length (fun j => if j = i then x else gat L j)
def addL (L : List Gl) (x : Gl) : List Gl := mkL (L.length + 1) (fun j => if j < L.length then gat L j else x)
/-! what was told: numbers by the places of the reference; the rules' numbers -/
abbrev Cf : Type := (Nat → Nat → Nat) × (Nat → Int32)
def cN (c : Cf) : Nat → Nat → Nat := c.1
def cR (c : Cf) : Nat → Int32 := c.2
def cfA (a j : Nat) : Prop := (129 ≤ a ∧ a ≤ 142 ∧ a ≠ 136) ∨ (a = 128 ∧ (j = 1 ∨ j = 14 ∨ j = 17))
def mCf (c : Cf) (M : gM) : Prop := (∀ a j, cfA a j → mI M a j = nI (cN c a j)) ∧ ∀ j, mI M 136 j = cR c j
def rul (c : Cf) (l k w : Nat) : Int32 := cR c (6 * (8 * l + k) + w)
def WFc (c : Cf) : Prop := (cN c 128 1 < 2 ∧ cN c 128 14 ≤ 16 ∧ 1 ≤ cN c 128 17 ∧ cN c 128 17 ≤ 2) ∧ (∀ f, cN c 129 f ≤ 12) ∧
  (∀ l, cN c 130 l < 10 ∧ cN c 131 l ≤ 6 ∧ cN c 132 l ≤ 1 ∧ cN c 133 l ≤ 2 ∧ cN c 134 l ≤ 5 ∧ cN c 135 l ≤ 8) ∧
  (∀ j, cN c 137 j ≤ 4 ∧ cN c 138 j ≤ 5 ∧ cN c 139 j ≤ 100 ∧ cN c 140 j ≤ 1) ∧ (∀ j, cN c 141 j < 45 ∧ cN c 142 j ≤ 3) ∧
  ∀ l k, k < cN c 135 l → iRl (cN c 130 l) (rul c l k 0) (rul c l k 1) (rul c l k 2) (rul c l k 3) (rul c l k 4) (rul c l k 5)
/-! memories that differ in a region -/
def fr (S : Nat → Nat → Prop) (M M' : gM) : Prop := M'.1 = M.1 ∧ M'.2.2 = M.2.2 ∧ ∀ a j, ¬ S a j → mI M' a j = mI M a j
theorem fr.refl {S : Nat → Nat → Prop} {M : gM} : fr S M M := ⟨rfl, rfl, fun _ _ _ => rfl⟩
theorem fr.trans {S : Nat → Nat → Prop} {M M' M'' : gM} (h : fr S M M') (h2 : fr S M' M'') : fr S M M'' := ⟨h2.1.trans h.1, h2.2.1.trans h.2.1, fun a j q => (h2.2.2 a j q).trans (h.2.2 a j q)⟩
theorem fr.mono {S S' : Nat → Nat → Prop} {M M' : gM} (hs : ∀ a j, S a j → S' a j) (h : fr S M M') : fr S' M M' := ⟨h.1, h.2.1, fun a j q => h.2.2 a j (fun z => q (hs a j z))⟩
theorem fr.wr {S : Nat → Nat → Prop} {M M' : gM} {a k : Nat} {v : Int32} (h : fr S M M') (hs : S a k) : fr S M (sI M' a k v) :=
  ⟨h.1, h.2.1, fun b j q => by rw [mI_sI, if_neg (fun z => q (by rw [z.1, z.2]; exact hs))]; exact h.2.2 b j q⟩
theorem fr.lay {S : Nat → Nat → Prop} {M M' : gM} (h : fr S M M') (hL : gLay M) : gLay M' :=
  hL.of (Nat.le_of_eq (by unfold mN; rw [h.1])) (fun a _ => by unfold mK; rw [h.1]) (fun t _ => by unfold mR; rw [h.2.1])
theorem fr.ns {S : Nat → Nat → Prop} {M M' : gM} (h : fr S M M') : mN M' = mN M := by unfold mN; rw [h.1]
