/-! the reference: places -/
abbrev Pl : Type := Nat → Nat → Int32
theorem nI0_add (x : Int32) : x + nI 0 = x := Int32.add_zero x
theorem mX.wr {c : Cf} {f : Nat} {M0 M : gM} {L : List Gl} {w : Int32} (h : mX c f M0 L w M) {a i : Nat} {v : Int32} (ha : 152 ≤ a ∧ a ≤ 157) : mX c f M0 L w (sI M a i v) := by
  have h1 := h.1.cell (b := i) (v := L[i]?) (F := mI (sI M a i v)) (fun p j q => by rw [mI_sI, if_neg (by omega)]) (fun x hx => by
    have := h.1.at hx
    unfold gM7 at *
    simp only [mI_wF, mI_sI]
    rw [if_neg (by omega), if_neg (by omega), if_neg (by omega), if_neg (by omega), if_neg (by omega), if_neg (by omega), if_neg (by omega)]
    exact this)
  refine ⟨?_, h.2⟩
  have e : rup (fun i => L[i]?) i L[i]? = fun i => L[i]? := funext fun j => by
    unfold rup; split
    · rename_i q; rw [q]
    · rfl
  rw [e] at h1
  exact h1
def mP (c : Cf) (f : Nat) (M0 : gM) (L : List Gl) (w : Int32) (A : Pl) (M : gM) : Prop := mX c f M0 L w M ∧ ∀ q i, q < 5 → i < L.length → mI M (152 + q) i = A q i
theorem mP.at {c : Cf} {f : Nat} {M0 M : gM} {L : List Gl} {w : Int32} {A : Pl} (h : mP c f M0 L w A M) {q i : Nat} (hq : q < 5) (hi : i < L.length) : mI M (152 + q) i = A q i := h.2 q i hq hi
theorem mP.set {c : Cf} {f : Nat} {M0 M : gM} {L : List Gl} {w : Int32} {A : Pl} (h : mP c f M0 L w A M) {a q i : Nat} {v : Int32} (ha : 152 + q = a) (hq : q < 5) : mP c f M0 L w (u2 A q i v) (sI M a i v) :=
  ⟨h.1.wr (by omega), fun p j hp hj => by
    subst ha
    rw [mI_sI]
    unfold u2
    by_cases e : p = q ∧ j = i
    · rw [if_pos (by omega), if_pos e]
    · rw [if_neg (by omega), if_neg e]; exact h.2 p j hp hj⟩
theorem mP.setx {c : Cf} {f : Nat} {M0 M : gM} {L : List Gl} {w : Int32} {A : Pl} (h : mP c f M0 L w A M) {i : Nat} {v v' : Int32} : mP c f M0 L w (u2 A 5 i v') (sI M 157 i v) :=
  ⟨h.1.wr (by omega), fun p j hp hj => by
    rw [mI_sI]
    unfold u2
    rw [if_neg (by omega), if_neg (by omega)]; exact h.2 p j hp hj⟩
def set3 (A : Pl) (i : Nat) (b x y : Int32) : Pl := u2 (u2 (u2 A 2 i b) 3 i x) 4 i y
theorem mP.s3 {c : Cf} {f : Nat} {M0 M : gM} {L : List Gl} {w : Int32} {A : Pl} (h : mP c f M0 L w A M) (i : Nat) (b x y : Int32) : mP c f M0 L w (set3 A i b x y) (sI (sI (sI M 154 i b) 155 i x) 156 i y) :=
  ((h.set (a := 154) rfl (by decide)).set (a := 155) rfl (by decide)).set (a := 156) rfl (by decide)
def prP (c : Cf) (f l : Nat) (L : List Gl) (i two k : Nat) : Prop := isAt c f (rul c l k 0) (yN (gat L i)) ∧ isAt c f (rul c l k 1) (yN (gat L two))
noncomputable def prA (c : Cf) (f l : Nat) (L : List Gl) (i : Nat) : Nat := fnd (prP c f l L i (aft c f l L i)) (cN c 135 l) 0
def prD (c : Cf) (f l : Nat) (L : List Gl) (i : Nat) : Prop := goP c f L l i ∧ aft c f l L i < L.length ∧ prA c f l L i < cN c 135 l
noncomputable def prS (c : Cf) (f l : Nat) (L : List Gl) (i : Nat) (A : Pl) : Pl := cI (prD c f l L i) (u2 A 0 i (A 0 i + rul c l (prA c f l L i) 2)) A
noncomputable def prI (c : Cf) (f l : Nat) (L : List Gl) (i : Nat) : Nat := cI (prD c f l L i) (aft c f l L i) (i + 1)
noncomputable def prs (c : Cf) (f l : Nat) (L : List Gl) : Nat → Nat → Pl → Pl
  | 0, _, A => A
  | t + 1, i, A => cI (i < L.length) (prs c f l L t (prI c f l L i) (prS c f l L i A)) A
theorem prI_b {c : Cf} {f l : Nat} {L : List Gl} {i : Nat} (hi : i < L.length) : i + 1 ≤ prI c f l L i ∧ prI c f l L i ≤ L.length := by
  have hb := aft_b c f l hi
  unfold prI
  by_cases e : prD c f l L i
  · rw [cI_t e]; exact hb
  · rw [cI_f e]; omega
noncomputable def rfA (c : Cf) (f l : Nat) (L : List Gl) (i : Nat) : Nat := fnd (fun k => isAt c f (rul c l k 0) (yN (gat L i))) (cN c 135 l) 0
noncomputable def rfV (c : Cf) (f l : Nat) (L : List Gl) (i : Nat) : Int32 := cI (rfA c f l L i < cN c 135 l) (nI (rfA c f l L i)) (-100)
def crD (c : Cf) (f l : Nat) (L : List Gl) (i two : Nat) : Prop := rfA c f l L i < cN c 135 l ∧ rfA c f l L two < cN c 135 l ∧ ¬ rul c l (rfA c f l L i) 2 = -100 ∧ ¬ rul c l (rfA c f l L two) 1 = -100
def crG (c : Cf) (f l : Nat) (L : List Gl) (i : Nat) : Prop := ¬ skp c f l (yN (gat L i)) ∧ aft c f l L i < L.length ∧ hasF c l (gat L i) ∧ hasF c l (gat L (aft c f l L i))
noncomputable def crU (c : Cf) (f l : Nat) (L : List Gl) (i two : Nat) (A : Pl) : Pl := cI (crD c f l L i two) (u2 A 1 two (A 1 i + rul c l (rfA c f l L i) 2 - rul c l (rfA c f l L two) 1)) A
noncomputable def crS (c : Cf) (f l : Nat) (L : List Gl) (i : Nat) (A : Pl) : Pl := cI (crG c f l L i) (crU c f l L i (aft c f l L i) A) A
noncomputable def crv (c : Cf) (f l : Nat) (L : List Gl) : Nat → Pl → Pl
  | 0, A => A
  | k + 1, A => crS c f l L k (crv c f l L k A)
abbrev mkc (c : Cf) (f : Nat) (x : Gl) : Nat := cN c 137 (256 * f + yN x)
noncomputable def bsE (c : Cf) (f : Nat) (L : List Gl) (i : Nat) : Nat := rfd (fun k => ¬ 0 < mkc c f (gat L k)) i
noncomputable def bsT (L : List Gl) (i b : Nat) : Int32 := cI (yP (gat L i) = -100) (yT (gat L b) - nI 1) (yP (gat L i))
def bsP (c : Cf) (f l : Nat) (L : List Gl) (i b k : Nat) : Prop := isAt c f (rul c l k 0) (yN (gat L b)) ∧ (rul c l k 1 = -100 ∨ rul c l k 1 = bsT L i b) ∧ rul c l k 2 = dI (mkc c f (gat L i))
noncomputable def bsA (c : Cf) (f l : Nat) (L : List Gl) (i b : Nat) : Nat := fnd (bsP c f l L i b) (cN c 135 l) 0
def bsG (c : Cf) (f l : Nat) (L : List Gl) (i : Nat) : Prop := 0 < mkc c f (gat L i) ∧ goP c f L l i ∧ 0 < bsE c f L i
noncomputable def bsU (c : Cf) (f l : Nat) (L : List Gl) (i b : Nat) (A : Pl) : Pl := cI (bsA c f l L i b < cN c 135 l) (set3 A i (nI b) (rul c l (bsA c f l L i b) 3) (rul c l (bsA c f l L i b) 4)) A
noncomputable def bsS (c : Cf) (f l : Nat) (L : List Gl) (i : Nat) (A : Pl) : Pl := cI (bsG c f l L i) (bsU c f l L i (bsE c f L i - 1) A) A
noncomputable def bss (c : Cf) (f l : Nat) (L : List Gl) : Nat → Pl → Pl
  | 0, A => A
  | k + 1, A => bsS c f l L k (bss c f l L k A)
def mkP (c : Cf) (f l : Nat) (L : List Gl) (i b k : Nat) : Prop := isAt c f (rul c l k 0) (yN (gat L b)) ∧ rul c l k 1 = dI (mkc c f (gat L i))
noncomputable def mkA (c : Cf) (f l : Nat) (L : List Gl) (i b : Nat) : Nat := fnd (mkP c f l L i b) (cN c 135 l) 0
def mkG (c : Cf) (f l : Nat) (L : List Gl) (i : Nat) : Prop := 0 < mkc c f (gat L i) ∧ goP c f L l i ∧ 0 < ahd c f l L i ∧ 0 < mkc c f (gat L (ahd c f l L i - 1))
noncomputable def mkU (c : Cf) (f l : Nat) (L : List Gl) (i b : Nat) (A : Pl) : Pl := cI (mkA c f l L i b < cN c 135 l) (set3 A i (nI b) (rul c l (mkA c f l L i b) 2) (rul c l (mkA c f l L i b) 3)) A
noncomputable def mkS (c : Cf) (f l : Nat) (L : List Gl) (i : Nat) (A : Pl) : Pl := cI (mkG c f l L i) (mkU c f l L i (ahd c f l L i - 1) A) A
noncomputable def mks (c : Cf) (f l : Nat) (L : List Gl) : Nat → Pl → Pl
  | 0, A => A
  | k + 1, A => mkS c f l L k (mks c f l L k A)
def pl0 (c : Cf) (f : Nat) (L : List Gl) : Pl := fun q i => if q = 0 then nI (cN c 139 (256 * f + yN (gat L i))) else if q = 2 then -100 else nI 0
def pDue (c : Cf) (l : Nat) : Prop := cN c 133 l = 0 ∨ cN c 133 l = cN c 128 17
noncomputable def plK (c : Cf) (f l : Nat) (L : List Gl) (A : Pl) : Pl := cI (cN c 130 l = 6) (prs c f l L L.length 0 A) (cI (cN c 130 l = 7) (crv c f l L L.length A) (cI (cN c 130 l = 8) (bss c f l L L.length A) (cI (cN c 130 l = 9) (mks c f l L L.length A) A)))
noncomputable def plS (c : Cf) (f l : Nat) (L : List Gl) (A : Pl) : Pl := cI (pDue c l) (plK c f l L A) A
noncomputable def pla (c : Cf) (f : Nat) (L : List Gl) : Nat → Nat → Pl → Pl
  | 0, _, A => A
  | m + 1, l, A => pla c f L m (l + 1) (plS c f l L A)
noncomputable def plc (c : Cf) (f : Nat) (L : List Gl) : Pl := pla c f L (cN c 129 f) (12 * f) (pl0 c f L)
def smA (A : Pl) : Nat → Int32
  | 0 => nI 0
  | k + 1 => smA A k + A 0 k
theorem smA_congr {A B : Pl} : ∀ {n : Nat}, (∀ i, i < n → A 0 i = B 0 i) → smA A n = smA B n
  | 0, _ => rfl
  | n + 1, h => by show smA A n + A 0 n = smA B n + B 0 n; rw [smA_congr (fun i hi => h i (by omega)), h n (by omega)]
def onK (A : Pl) (n : Nat) : Prop := ∀ i, i < n → A 2 i = -100 ∨ ∃ b, b < i ∧ A 2 i = nI b
noncomputable def stX (jn : Nat) (left all : Int32) (k : Nat) (A : Pl) : Pl := u2 A 5 k (left + cI (jn = 0) (smA A k) (all - smA A (k + 1)))
noncomputable def stH (k b : Nat) (A : Pl) : Pl := u2 (u2 A 5 k (A 5 b + A 3 k)) 1 k (A 1 b + A 4 k)
noncomputable def stS1 (jn : Nat) (left all : Int32) (k : Nat) (A : Pl) : Pl := cI (A 2 k = -100) (stX jn left all k A) (stH k (gN (A 2 k)) (stX jn left all k A))
noncomputable def std (jn : Nat) (left all : Int32) : Nat → Pl → Pl
  | 0, A => A
  | k + 1, A => stS1 jn left all k (std jn left all k A)
theorem stS1_r {jn : Nat} {left all : Int32} {k : Nat} {A : Pl} {q : Nat} (h1 : ¬ q = 5) (h2 : ¬ q = 1) : stS1 jn left all k A q = A q := funext fun i => by
  unfold stS1
  by_cases e : A 2 k = -100
  · rw [cI_t e]; unfold stX u2; rw [if_neg (by omega)]
  · rw [cI_f e]; unfold stH stX u2; rw [if_neg (by omega), if_neg (by omega), if_neg (by omega)]
theorem std_r {jn : Nat} {left all : Int32} {A : Pl} {q : Nat} (h1 : ¬ q = 5) (h2 : ¬ q = 1) : ∀ k, std jn left all k A q = A q
  | 0 => rfl
  | k + 1 => (stS1_r h1 h2).trans (std_r h1 h2 k)
theorem onK_std {jn : Nat} {left all : Int32} {A : Pl} {n : Nat} (h : onK A n) (k : Nat) : onK (std jn left all k A) n := fun i hi => by
  rw [std_r (by decide) (by decide)]; exact h i hi
theorem smA_std {jn : Nat} {left all : Int32} {A : Pl} (k n : Nat) : smA (std jn left all k A) n = smA A n := smA_congr (fun i _ => by rw [std_r (by decide) (by decide)])
def mx5 (A : Pl) (k : Nat) (M : gM) : Prop := ∀ j, j < k → mI M 157 j = A 5 j
