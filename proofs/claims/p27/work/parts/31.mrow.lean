/-! the reference's row in a memory -/
def gM7 (M : gM) (i : Nat) (x : Gl) : Prop := mI M 145 i = nI (yN x) ∧ mI M 146 i = nI (yC x) ∧ mI M 147 i = yF x ∧ mI M 148 i = nI (yE x) ∧ mI M 149 i = yP x ∧ mI M 150 i = yT x ∧ mI M 151 i = nI (yO x)
def rowR (a j : Nat) : Prop := (145 ≤ a ∧ a ≤ 157) ∨ (a = 128 ∧ (j = 21 ∨ j = 35))
def mS (c : Cf) (f : Nat) (M0 : gM) : Prop := gLay M0 ∧ mCf c M0 ∧ WFc c ∧ f < 2 ∧ mI M0 128 20 = nI f
/-- n glyphs; the cells hold what r tells; w: what is watched; elsewhere all is as in M0 -/
def mY (c : Cf) (f : Nat) (M0 : gM) (n : Nat) (r : Nat → Option Gl) (w : Int32) (M : gM) : Prop := mS c f M0 ∧ fr rowR M0 M ∧ mI M 128 21 = nI n ∧ mI M 128 35 = w ∧ ∀ i x, r i = some x → gM7 M i x
def mX (c : Cf) (f : Nat) (M0 : gM) (L : List Gl) (w : Int32) (M : gM) : Prop := mY c f M0 L.length (fun i => L[i]?) w M ∧ okL L
variable {c : Cf} {f : Nat} {M0 M : gM} {L : List Gl} {w : Int32} {n : Nat} {r : Nat → Option Gl}
theorem mY.lay (h : mY c f M0 n r w M) : gLay M := h.2.1.lay h.1.1
theorem mY.gc (h : mY c f M0 n r w M) {a j : Nat} (q : cfA a j) : mI M a j = nI (cN c a j) :=
  (h.2.1.2.2 a j (fun z => by unfold cfA at q; unfold rowR at z; omega)).trans (h.1.2.1.1 a j q)
theorem mY.gr (h : mY c f M0 n r w M) (j : Nat) : mI M 136 j = cR c j := (h.2.1.2.2 136 j (fun z => by unfold rowR at z; omega)).trans (h.1.2.1.2 j)
theorem mY.wf (h : mY c f M0 n r w M) : WFc c := h.1.2.2.1
theorem mY.hf (h : mY c f M0 n r w M) : f < 2 := h.1.2.2.2.1
theorem mY.gf (h : mY c f M0 n r w M) : mI M 128 20 = nI f := (h.2.1.2.2 128 20 (fun z => by unfold rowR at z; omega)).trans h.1.2.2.2.2
theorem mY.gn (h : mY c f M0 n r w M) : mI M 128 21 = nI n := h.2.2.1
theorem mY.gw (h : mY c f M0 n r w M) : mI M 128 35 = w := h.2.2.2.1
theorem mY.at (h : mY c f M0 n r w M) {i : Nat} {x : Gl} (q : r i = some x) : gM7 M i x := h.2.2.2.2 i x q
theorem mX.y (h : mX c f M0 L w M) : mY c f M0 L.length (fun i => L[i]?) w M := h.1
theorem mX.lay (h : mX c f M0 L w M) : gLay M := h.1.lay
theorem mX.gc (h : mX c f M0 L w M) {a j : Nat} (q : cfA a j) : mI M a j = nI (cN c a j) := h.1.gc q
theorem mX.gr (h : mX c f M0 L w M) (j : Nat) : mI M 136 j = cR c j := h.1.gr j
theorem mX.wf (h : mX c f M0 L w M) : WFc c := h.1.wf
theorem mX.hf (h : mX c f M0 L w M) : f < 2 := h.1.hf
theorem mX.gf (h : mX c f M0 L w M) : mI M 128 20 = nI f := h.1.gf
theorem mX.gn (h : mX c f M0 L w M) : mI M 128 21 = nI L.length := h.1.gn
theorem mX.gw (h : mX c f M0 L w M) : mI M 128 35 = w := h.1.gw
theorem mX.at (h : mX c f M0 L w M) {i : Nat} (q : i < L.length) : gM7 M i (gat L i) := h.1.at (gat_some q)
theorem mX.ok (h : mX c f M0 L w M) : okL L := h.2
theorem mX.len (h : mX c f M0 L w M) : L.length ≤ 64 := h.2.1
theorem mX.n256 (h : mX c f M0 L w M) (i : Nat) : 256 * f + yN (gat L i) < 512 := by have := h.hf; have := (h.ok.at i).1; omega
theorem mX.e4 (h : mX c f M0 L w M) (i : Nat) : yE (gat L i) ≤ 3 := (h.ok.at i).2.2.1
theorem mX.c16 (h : mX c f M0 L w M) (i : Nat) : yC (gat L i) < 16 := (h.ok.at i).2.1
theorem WFc.lk (h : WFc c) (l : Nat) : cN c 130 l < 10 ∧ cN c 131 l ≤ 6 ∧ cN c 132 l ≤ 1 ∧ cN c 133 l ≤ 2 ∧ cN c 134 l ≤ 5 ∧ cN c 135 l ≤ 8 := h.2.2.1 l
theorem WFc.ct (h : WFc c) (f : Nat) : cN c 129 f ≤ 12 := h.2.1 f
theorem WFc.gl (h : WFc c) (j : Nat) : cN c 137 j ≤ 4 ∧ cN c 138 j ≤ 5 ∧ cN c 139 j ≤ 100 ∧ cN c 140 j ≤ 1 := h.2.2.2.1 j
theorem WFc.tx (h : WFc c) (j : Nat) : cN c 141 j < 45 ∧ cN c 142 j ≤ 3 := h.2.2.2.2.1 j
theorem WFc.ru (h : WFc c) {l k : Nat} (q : k < cN c 135 l) : iRl (cN c 130 l) (rul c l k 0) (rul c l k 1) (rul c l k 2) (rul c l k 3) (rul c l k 4) (rul c l k 5) := h.2.2.2.2.2 l k q
theorem mY.mono {r' : Nat → Option Gl} (h : mY c f M0 n r w M) (q : ∀ i x, r' i = some x → r i = some x) : mY c f M0 n r' w M := ⟨h.1, h.2.1, h.2.2.1, h.2.2.2.1, fun i x z => h.2.2.2.2 i x (q i x z)⟩
/-- rows of a list again -/
theorem mY.x (h : mY c f M0 n r w M) {n' : Nat} {L' : List Gl} (e : n = n') (hl : L'.length = n') (q : ∀ i, i < n' → r i = some (gat L' i)) (ho : okL L') : mX c f M0 L' w M := by
  subst e
  refine ⟨?_, ho⟩
  rw [hl]
  refine h.mono (fun i x z => ?_)
  have hi : i < L'.length := by
    by_cases a : i < L'.length
    · exact a
    · rw [List.getElem?_eq_none (by omega)] at z; cases z
  rw [gat_some hi] at z
  cases z
  exact q i (by omega)
theorem mY.setN (h : mY c f M0 n r w M) (m : Nat) : mY c f M0 m r w (sI M 128 21 (nI m)) :=
  ⟨h.1, h.2.1.wr (Or.inr ⟨rfl, Or.inl rfl⟩), by rw [mI_sI]; exact if_pos ⟨rfl, rfl⟩, by rw [mI_sI, if_neg (by omega)]; exact h.gw, fun i x z => by
    have := h.at z
    unfold gM7 at *
    simp only [mI_sI]
    simpa using this⟩
theorem mY.setW (h : mY c f M0 n r w M) (v : Int32) : mY c f M0 n r v (sI M 128 35 v) :=
  ⟨h.1, h.2.1.wr (Or.inr ⟨rfl, Or.inr rfl⟩), by rw [mI_sI, if_neg (by omega)]; exact h.gn, by rw [mI_sI]; exact if_pos ⟨rfl, rfl⟩, fun i x z => by
    have := h.at z
    unfold gM7 at *
    simp only [mI_sI]
    simpa using this⟩
theorem mX.setW (h : mX c f M0 L w M) (v : Int32) : mX c f M0 L v (sI M 128 35 v) := ⟨h.1.setW v, h.2⟩
def rup (r : Nat → Option Gl) (b : Nat) (v : Option Gl) : Nat → Option Gl := fun i => if i = b then v else r i
/-- a cell written anew -/
theorem mY.cell (h : mY c f M0 n r w M) {b : Nat} {v : Option Gl} {F : Nat → Nat → Int32} (hF : ∀ a j, ¬ (145 ≤ a ∧ a ≤ 157 ∧ j = b) → F a j = mI M a j) (hv : ∀ x, v = some x → gM7 (wF M F) b x) : mY c f M0 n (rup r b v) w (wF M F) := by
  refine ⟨h.1, ⟨h.2.1.1, h.2.1.2.1, fun a j q => (hF a j (fun z => q (Or.inl ⟨z.1, z.2.1⟩))).trans (h.2.1.2.2 a j q)⟩, (hF 128 21 (by omega)).trans h.gn, (hF 128 35 (by omega)).trans h.gw, fun i x z => ?_⟩
  unfold rup at z
  by_cases e : i = b
  · rw [if_pos e] at z; rw [e]; exact hv x z
  · rw [if_neg e] at z
    have := h.at z
    unfold gM7 at *
    rw [mI_wF, hF _ _ (by omega), hF _ _ (by omega), hF _ _ (by omega), hF _ _ (by omega), hF _ _ (by omega), hF _ _ (by omega), hF _ _ (by omega)]
    exact this
def c7 (F : Nat → Nat → Int32) (b : Nat) (v : Nat → Int32) : Nat → Nat → Int32 := fun p j => if 145 ≤ p ∧ p ≤ 151 ∧ j = b then v p else F p j
theorem c7_at {F : Nat → Nat → Int32} {b p : Nat} {v : Nat → Int32} (h : 145 ≤ p ∧ p ≤ 151) : c7 F b v p b = v p := if_pos ⟨h.1, h.2, rfl⟩
theorem mY.copy (h : mY c f M0 n r w M) (a b : Nat) : mY c f M0 n (rup r b (r a)) w (wF M (c7 (mI M) b (fun p => mI M p a))) :=
  h.cell (fun p j q => if_neg (fun z => q ⟨z.1, by omega, z.2.2⟩)) (fun x hx => by
    have := h.at hx
    unfold gM7 at *
    simp only [mI_wF]
    rw [c7_at (by decide), c7_at (by decide), c7_at (by decide), c7_at (by decide), c7_at (by decide), c7_at (by decide), c7_at (by decide)]
    exact this)
theorem c7_eq (M : gM) (b : Nat) (v : Nat → Int32) : sI (sI (sI (sI (sI (sI (sI M 145 b (v 145)) 146 b (v 146)) 148 b (v 148)) 147 b (v 147)) 149 b (v 149)) 150 b (v 150)) 151 b (v 151) = wF M (c7 (mI M) b v) := by
  refine gm_ext (fun p j => ?_) rfl rfl
  simp only [mI_sI, mI_wF]
  unfold c7
  by_cases e : j = b
  · by_cases e2 : 145 ≤ p ∧ p ≤ 151
    · obtain ⟨e3, e4⟩ := e2
      rcases (show p = 145 ∨ p = 146 ∨ p = 147 ∨ p = 148 ∨ p = 149 ∨ p = 150 ∨ p = 151 by omega) with rfl | rfl | rfl | rfl | rfl | rfl | rfl <;> simp [e]
    · rw [if_neg (by omega), if_neg (by omega), if_neg (by omega), if_neg (by omega), if_neg (by omega), if_neg (by omega), if_neg (by omega), if_neg (by omega)]
  · simp [e]
