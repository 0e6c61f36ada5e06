/-! the reference: what it does to its row -/
def clR (L : List Gl) (a k : Nat) : Nat → Option Gl := fun j => if a ≤ j ∧ j < k then L[j + 1]? else L[j]?
theorem clR_0 (L : List Gl) (a : Nat) : clR L a a = fun j => L[j]? := funext fun j => if_neg (by omega)
theorem clR_s (L : List Gl) {a k : Nat} (h : a ≤ k) : rup (clR L a k) k (clR L a k (k + 1)) = clR L a (k + 1) := funext fun j => by
  unfold rup clR
  by_cases e : j = k
  · subst e; rw [if_pos rfl, if_neg (by omega), if_pos ⟨h, by omega⟩]
  · rw [if_neg e]; by_cases e2 : a ≤ j ∧ j < k
    · rw [if_pos e2, if_pos (by omega)]
    · rw [if_neg e2, if_neg (by omega)]
theorem clR_e {L : List Gl} {a i : Nat} (hi : i < L.length - 1) : clR L a (L.length - 1) i = some (gat (closeL L a) i) := by
  unfold clR closeL
  rw [gat_mkL hi]
  by_cases e : i < a
  · rw [if_neg (by omega), if_pos e]; exact gat_some (by omega)
  · rw [if_pos (by omega), if_neg e]; exact gat_some (by omega)
theorem ok_close {L : List Gl} (h : okL L) (a : Nat) : okL (closeL L a) := okL_mk (by have := h.1; omega) (fun i _ => h.at _)
def gv7 (x : Gl) : Nat → Int32 := fun p => if p = 145 then nI (yN x) else if p = 146 then nI (yC x) else if p = 147 then yF x else if p = 148 then nI (yE x) else if p = 149 then yP x else if p = 150 then yT x else nI (yO x)
theorem gv7_ok (M : gM) (b : Nat) (x : Gl) : gM7 (wF M (c7 (mI M) b (gv7 x))) b x := by
  unfold gM7
  simp only [mI_wF]
  rw [c7_at (by decide), c7_at (by decide), c7_at (by decide), c7_at (by decide), c7_at (by decide), c7_at (by decide), c7_at (by decide)]
  exact ⟨rfl, rfl, rfl, rfl, rfl, rfl, rfl⟩
def newG (its cl ex : Nat) (form : Int32) : Gl := (its, (cl, (form, (ex, (-100, (nI 1, its))))))
theorem okG_new {its cl ex : Nat} {form : Int32} (h1 : its < 256) (h2 : cl < 16) (h3 : ex ≤ 3) : okG (newG its cl ex form) := ⟨h1, h2, h3, h1⟩
theorem ok_add {L : List Gl} {x : Gl} (h : okL L) (hx : okG x) (hn : L.length < 64) : okL (addL L x) := okL_mk (by omega) (fun i _ => by
  by_cases e : i < L.length
  · rw [if_pos e]; exact h.at i
  · rw [if_neg e]; exact hx)
theorem mX.add {c : Cf} {f : Nat} {M0 M : gM} {L : List Gl} {w : Int32} (h : mX c f M0 L w M) {x : Gl} (hx : okG x) (hn : L.length < 64) : mX c f M0 (addL L x) w (sI (wF M (c7 (mI M) L.length (gv7 x))) 128 21 (nI (L.length + 1))) := by
  have h1 := (h.1.cell (b := L.length) (v := some x) (F := c7 (mI M) L.length (gv7 x)) (fun p j q => if_neg (fun z => q ⟨z.1, by omega, z.2.2⟩)) (fun y hy => by cases hy; exact gv7_ok M _ x)).setN (L.length + 1)
  refine h1.x rfl (mkL_len _ _) (fun i hi => ?_) (ok_add h.2 hx hn)
  unfold addL rup
  rw [gat_mkL hi]
  by_cases e : i = L.length
  · rw [if_pos e, if_neg (by omega)]
  · rw [if_neg e, if_pos (by omega)]; exact gat_some (by omega)
def op1 (L : List Gl) (m q : Nat) : Nat → Option Gl := fun j => if q + m ≤ j then L[j - m]? else L[j]?
theorem op1_0 (L : List Gl) (m : Nat) : ∀ i x, op1 L m L.length i = some x → L[i]? = some x := fun i x h => by
  unfold op1 at h
  by_cases e : L.length + m ≤ i
  · rw [if_pos e, List.getElem?_eq_none (by omega)] at h; cases h
  · rw [if_neg e] at h; exact h
theorem op1_s (L : List Gl) {m q : Nat} (hm : 0 < m) : rup (op1 L m (q + 1)) (q + m) (op1 L m (q + 1) q) = op1 L m q := funext fun j => by
  unfold rup op1
  by_cases e : j = q + m
  · subst e; rw [if_pos rfl, if_neg (by omega), if_pos (by omega), Nat.add_sub_cancel]
  · rw [if_neg e]; by_cases e2 : q + m ≤ j
    · rw [if_pos e2, if_pos (by omega)]
    · rw [if_neg e2, if_neg (by omega)]
def op2 (L : List Gl) (a m k : Nat) : Nat → Option Gl := fun j => if a ≤ j ∧ j < k then L[a]? else op1 L m a j
theorem op2_s (L : List Gl) {a m k : Nat} (hk : a ≤ k) (hk2 : k < a + m) : rup (op2 L a m k) k (op2 L a m k (a + m)) = op2 L a m (k + 1) := funext fun j => by
  unfold rup op2
  by_cases e : j = k
  · subst e; rw [if_pos rfl, if_neg (by omega), if_pos (by omega)]; unfold op1; rw [if_pos (by omega), Nat.add_sub_cancel]
  · rw [if_neg e]; by_cases e2 : a ≤ j ∧ j < k
    · rw [if_pos e2, if_pos (by omega)]
    · rw [if_neg e2, if_neg (by omega)]
theorem ok_open {L : List Gl} (h : okL L) (a m : Nat) (hn : L.length + m ≤ 64) : okL (openL L a m) := okL_mk hn (fun i _ => h.at _)
theorem op2_e {L : List Gl} {a m : Nat} (ha : a < L.length) {i : Nat} (hi : i < L.length + m) : op2 L a m (a + m) i = some (gat (openL L a m) i) := by
  unfold openL
  rw [gat_mkL hi]
  unfold op2 op1
  by_cases e : i ≤ a
  · rw [if_pos e]; by_cases e2 : i = a
    · subst e2; by_cases e3 : m = 0
      · subst e3; rw [if_neg (by omega), if_pos (by omega)]; exact gat_some (by omega)
      · rw [if_pos (by omega)]; exact gat_some ha
    · rw [if_neg (by omega), if_neg (by omega)]; exact gat_some (by omega)
  · rw [if_neg e]; by_cases e2 : i ≤ a + m
    · rw [if_pos e2]; by_cases e3 : i = a + m
      · subst e3; rw [if_neg (by omega), if_pos (by omega), Nat.add_sub_cancel]; exact gat_some ha
      · rw [if_pos (by omega)]; exact gat_some ha
    · rw [if_neg e2, if_neg (by omega), if_pos (by omega)]; exact gat_some (by omega)
def rt1 (L : List Gl) (k i : Nat) : Nat → Option Gl := fun j => if j = 68 then L[k]? else if i < j ∧ j ≤ k then L[j - 1]? else L[j]?
theorem rt1_0 (L : List Gl) (k : Nat) : rup (fun j => L[j]?) 68 (L[k]?) = rt1 L k k := funext fun j => by
  unfold rup rt1
  by_cases e : j = 68
  · rw [if_pos e, if_pos e]
  · rw [if_neg e, if_neg e, if_neg (by omega)]
theorem rt1_s (L : List Gl) {k i : Nat} (hi : i + 1 ≤ k) (hk : k < 68) : rup (rt1 L k (i + 1)) (i + 1) (rt1 L k (i + 1) i) = rt1 L k i := funext fun j => by
  unfold rup rt1
  by_cases e : j = i + 1
  · subst e; rw [if_pos rfl, if_neg (by omega), if_neg (by omega), if_neg (by omega), if_pos (by omega), Nat.add_sub_cancel]
  · rw [if_neg e]; by_cases e2 : j = 68
    · rw [if_pos e2, if_pos e2]
    · rw [if_neg e2, if_neg e2]; by_cases e3 : i < j ∧ j ≤ k
      · rw [if_pos e3, if_pos (by omega)]
      · rw [if_neg e3, if_neg (by omega)]
theorem rotS_e {a b j : Nat} : rotS a b b j = j := by unfold rotS; split <;> (try split) <;> (try split) <;> omega
theorem rotL_e (L : List Gl) (a b : Nat) : rotL L a b b = L := row_ext (mkL_len _ _) (fun i hi => by
  unfold rotL at hi ⊢
  rw [mkL_len] at hi
  rw [gat_mkL hi, rotS_e])
theorem rotS_s {a b k j : Nat} (hab : a ≤ b) (hbk : b ≤ k) : rotS a b (k + 1) j = if j = a + k - b then rotS a b k k else if a + k - b < j ∧ j ≤ k then rotS a b k (j - 1) else rotS a b k j := by
  unfold rotS
  repeat' split
  all_goals omega
theorem ok_rot {L : List Gl} (h : okL L) (a b e : Nat) : okL (rotL L a b e) := okL_mk h.1 (fun i _ => h.at _)
theorem rot_len (L : List Gl) (a b e : Nat) : (rotL L a b e).length = L.length := mkL_len _ _
theorem rt1_e {L : List Gl} {a b k : Nat} (hab : a ≤ b) (hbk : b ≤ k) (hk : k < L.length) (hn : L.length ≤ 64) {i : Nat} (hi : i < L.length) : rup (rt1 (rotL L a b k) k (a + k - b)) (a + k - b) (rt1 (rotL L a b k) k (a + k - b) 68) i = some (gat (rotL L a b (k + 1)) i) := by
  have hl := rot_len L a b k
  have e0 : ∀ j, j < L.length → gat (rotL L a b k) j = gat L (rotS a b k j) := fun j hj => gat_mkL hj
  rw [show gat (rotL L a b (k + 1)) i = gat L (rotS a b (k + 1) i) from gat_mkL hi, rotS_s hab hbk]
  unfold rup rt1
  by_cases e : i = a + k - b
  · rw [if_pos e, if_pos rfl, if_pos e, gat_some (by omega), e0 k hk]
  · rw [if_neg e, if_neg e, if_neg (by omega)]
    by_cases e2 : a + k - b < i ∧ i ≤ k
    · rw [if_pos e2, if_pos e2, gat_some (by omega), e0 _ (by omega)]
    · rw [if_neg e2, if_neg e2, gat_some (by omega), e0 _ hi]
