/-! the reference: what it asks of its row -/
def skp (c : Cf) (f l q : Nat) : Prop := 1 ≤ cN c 137 (256 * f + q) ∧ 1 ≤ cN c 134 l ∧ ¬ cN c 137 (256 * f + q) + 1 = cN c 134 l
def isAt (c : Cf) (f : Nat) (item : Int32) (q : Nat) : Prop := (nI 300 ≤ item ∧ nI (cN c 138 (256 * f + q)) = item - nI 300) ∨ (¬ nI 300 ≤ item ∧ item = nI q)
def hasF (c : Cf) (l : Nat) (x : Gl) : Prop := cN c 131 l = 0 ∨ (cN c 131 l < 5 ∧ yF x = dI (cN c 131 l)) ∨ (cN c 131 l = 5 ∧ 0 < yE x)
noncomputable def aft (c : Cf) (f l : Nat) (L : List Gl) (i : Nat) : Nat := fnd (fun k => ¬ skp c f l (yN (gat L k))) L.length (i + 1)
noncomputable def ahd (c : Cf) (f l : Nat) (L : List Gl) (i : Nat) : Nat := rfd (fun k => ¬ skp c f l (yN (gat L k))) i
def thr (c : Cf) (f : Nat) (L : List Gl) (item : Int32) (p : Nat) : Prop := item = -100 ∨ (1 ≤ p ∧ p ≤ L.length ∧ isAt c f item (yN (gat L (p - 1))))
theorem aft_b (c : Cf) (f l : Nat) {L : List Gl} {i : Nat} (h : i < L.length) : i + 1 ≤ aft c f l L i ∧ aft c f l L i ≤ L.length := ⟨(fnd_spec h).1, (fnd_spec h).2.1⟩
theorem in_row {n p : Nat} (hn : n < 2 ^ 30) (hp : p < 2 ^ 30) : iIn (dI p) (nI 0) (dI n) ↔ 1 ≤ p ∧ p ≤ n := by
  unfold iIn
  rw [Int32.le_iff_toInt_le, Int32.le_iff_toInt_le, dI_toInt hn, dI_toInt hp, nI_toInt (by decide)]
  omega
noncomputable def bhm (c : Cf) (f : Nat) (L : List Gl) (i : Nat) : Nat := fnd (fun k => ¬ 0 < cN c 137 (256 * f + yN (gat L k))) L.length i
