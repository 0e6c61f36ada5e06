/-! the law: a run, what comes behind the lookups of a row -/
def lW (pw : Nat) (M : gM) : Prop := (pw + 3 < mN M ∧ mK M (pw + 1) = (13, 64) ∧ mK M (pw + 2) = (13, 64) ∧ mK M (pw + 3) = (13, 64)) ∧ ∀ q j, 1 ≤ q → q ≤ 3 → mI M (pw + q) j = nI 0
theorem lW.z {pw : Nat} {M M' : gM} (h : lW pw M) (hF : zf_ pw M M') (hp : 139 ≤ pw) : lW pw M' := by
  have eN : mN M' = mN M := by unfold mN; rw [hF.1]
  have eK : mK M' = mK M := by unfold mK; rw [hF.1]
  refine ⟨by rw [eN, eK]; exact h.1, fun q j h1 h2 => ?_⟩
  rw [hF.2.2.1 _ _ (by unfold zR; omega)]; exact h.2 q j h1 h2
/-- where the law lays a run: rows of its own, or new ones -/
def oK (p pw : Nat) (M : gM) : Prop := 133 ≤ p ∧ p + 5 < pw ∧ pw < mN M ∧ (∀ q, q < 5 → mK M (p + q) = (13, 64)) ∧ mK M (p + 5) = (13, 62)
theorem oK.mv {p pw : Nat} {M M' : gM} (h : oK p pw M) (e : M'.1 = M.1) : oK p pw M' := by
  have eN : mN M' = mN M := by unfold mN; rw [e]
  have eK : mK M' = mK M := by unfold mK; rw [e]
  unfold oK
  rw [eN, eK]; exact h
theorem oK.k1 {p pw q : Nat} {M : gM} (h : oK p pw M) (hq : q < 5) : mK M (p + q) = (13, 64) := h.2.2.2.1 q hq
theorem oK.lt {p pw q : Nat} {M : gM} (h : oK p pw M) (hq : q < 6) : p + q < mN M := by have := h.2.1; have := h.2.2.1; omega
/-- what a run may change of what was there -/
def rnO (p G a j : Nat) : Prop := (a = 132 ∧ 5 ≤ j ∧ ¬ j = 9) ∨ (p ≤ a ∧ a ≤ p + 4 ∧ G ≤ j)
def pF (pw p G : Nat) (M0 M : gM) : Prop := M.1 = M0.1 ∧ mR M = mR M0 ∧ (∀ a j, ¬ rnO p G a j → ¬ (pw < a ∧ a ≤ pw + 3) → mI M a j = mI M0 a j) ∧ ∀ a j, ¬ a = pw → mL M a j = mL M0 a j
theorem pq_.F {pw p G : Nat} {M0 M : gM} (h : pq_ pw M0 M) : pF pw p G M0 M := ⟨h.1, h.2.1, fun a j q q2 => h.2.2.1 a j (fun z => q (Or.inl (by unfold zR at z; omega))) q2, h.2.2.2⟩
theorem pF.wr {pw p G : Nat} {M0 M : gM} (h : pF pw p G M0 M) {a i : Nat} {v : Int32} (ha : rnO p G a i) : pF pw p G M0 (sI M a i v) :=
  ⟨h.1, h.2.1, fun b j q q2 => by rw [mI_sI, if_neg (fun z => q (by rw [z.1, z.2]; exact ha))]; exact h.2.2.1 b j q q2, h.2.2.2⟩
noncomputable def onG (G : Nat) (A : Pl) (j : Nat) : Int32 := cI (A 2 j = -100) (nI 0) (nI (100000 * (G + gN (A 2 j) + 1) + 300 * gN (A 3 j + nI 100) + gN (A 4 j + nI 100)))
/-- what the law lays of a run -/
def lG (p G : Nat) (L : List Gl) (B : Pl) (k : Nat) (M : gM) : Prop := ∀ j, j < k → mI M p (G + j) = nI (yN (gat L j) + 256 * yC (gat L j)) ∧ mI M (p + 1) (G + j) = B 0 j ∧ mI M (p + 2) (G + j) = B 1 j ∧ mI M (p + 3) (G + j) = B 5 j ∧ mI M (p + 4) (G + j) = onG G B j
def lGV (G : Nat) (L : List Gl) (B : Pl) (k : Nat) (V : Nat → Nat → Int32) : Prop := ∀ j, j < k → V 0 j = nI (yN (gat L j) + 256 * yC (gat L j)) ∧ V 1 j = B 0 j ∧ V 2 j = B 1 j ∧ V 3 j = B 5 j ∧ V 4 j = onG G B j
def lF (c : Cf) (f : Nat) (M0 : gM) (pw p G : Nat) (L : List Gl) (z : Int32) (A : Pl) (V : Nat → Nat → Int32) (M : gM) : Prop := lX c f M pw L (-1) z M ∧ pF pw p G M0 M ∧ lV pw L.length A M ∧ onZ A L.length ∧ oK p pw M ∧ mI M 132 8 = nI G ∧ ∀ q j, q < 5 → mI M (p + q) (G + j) = V q j
section LF
variable {c : Cf} {f : Nat} {M0 M : gM} {pw p G : Nat} {L : List Gl} {z : Int32} {A : Pl} {V : Nat → Nat → Int32}
theorem lF.X (h : lF c f M0 pw p G L z A V M) : lX c f M pw L (-1) z M := h.1
theorem lF.on (h : lF c f M0 pw p G L z A V M) : onZ A L.length := h.2.2.2.1
theorem lF.oK (h : lF c f M0 pw p G L z A V M) : oK p pw M := h.2.2.2.2.1
theorem lF.a8 (h : lF c f M0 pw p G L z A V M) : mI M 132 8 = nI G := h.2.2.2.2.2.1
theorem lF.v (h : lF c f M0 pw p G L z A V M) {q j : Nat} (hq : q < 5) : mI M (p + q) (G + j) = V q j := h.2.2.2.2.2.2 q j hq
theorem lF.lt (h : lF c f M0 pw p G L z A V M) {q : Nat} (hq : q < 6) : p + q < mN M := h.oK.lt hq
theorem lF.k (h : lF c f M0 pw p G L z A V M) {q : Nat} (hq : q < 5) : mK M (p + q) = (13, 64) := h.oK.k1 hq
theorem lF.l1 (h : lF c f M0 pw p G L z A V M) : pw + 1 < mN M := by have := h.2.2.1.1; omega
theorem lF.l2 (h : lF c f M0 pw p G L z A V M) : pw + 2 < mN M := by have := h.2.2.1.1; omega
theorem lF.l3 (h : lF c f M0 pw p G L z A V M) : pw + 3 < mN M := h.2.2.1.1
theorem lF.k1 (h : lF c f M0 pw p G L z A V M) : mK M (pw + 1) = (13, 64) := h.2.2.1.2.1.1
theorem lF.k2 (h : lF c f M0 pw p G L z A V M) : mK M (pw + 2) = (13, 64) := h.2.2.1.2.1.2.1
theorem lF.k3 (h : lF c f M0 pw p G L z A V M) : mK M (pw + 3) = (13, 64) := h.2.2.1.2.1.2.2
theorem lF.v1 (h : lF c f M0 pw p G L z A V M) {i : Nat} (hi : i < L.length) : mI M (pw + 1) i = A 0 i := (h.2.2.1.2.2 i hi).1
theorem lF.v2 (h : lF c f M0 pw p G L z A V M) {i : Nat} (hi : i < L.length) : mI M (pw + 2) i = A 1 i := (h.2.2.1.2.2 i hi).2.1
theorem lF.v3 (h : lF c f M0 pw p G L z A V M) {i : Nat} (hi : i < L.length) : mI M (pw + 3) i = onV A i := (h.2.2.1.2.2 i hi).2.2
theorem lF.set (h : lF c f M0 pw p G L z A V M) {q j : Nat} {v : Int32} (hq : q < 5) : lF c f M0 pw p G L z A (u2 V q j v) (sI M (p + q) (G + j) v) := by
  have hp := h.oK.1
  have hp2 := h.oK.2.1
  have h9 := h.X.p9
  refine ⟨h.X.far (Or.inl (by omega)), h.2.1.wr (Or.inr (by omega)), ⟨h.2.2.1.1, h.2.2.1.2.1, fun i hi => ?_⟩, h.on, h.oK.mv rfl, (mI_ne (by omega)).trans h.a8, fun r i hr => ?_⟩
  · rw [mI_ne (by omega), mI_ne (by omega), mI_ne (by omega)]; exact h.2.2.1.2.2 i hi
  · rw [mI_sI]; unfold u2
    by_cases e : r = q ∧ i = j
    · rw [if_pos (by omega), if_pos e]
    · rw [if_neg (by omega), if_neg e]; exact h.v hr
end LF
theorem u2_e {α : Type} {A : Nat → Nat → α} {q i : Nat} {v : α} : u2 A q i v q i = v := if_pos ⟨rfl, rfl⟩
theorem u2_p {α : Type} {A : Nat → Nat → α} {q i p j : Nat} {v : α} (h : ¬ p = q) : u2 A q i v p j = A p j := if_neg (fun z => h z.1)
theorem u2_j {α : Type} {A : Nat → Nat → α} {q i p j : Nat} {v : α} (h : ¬ j = i) : u2 A q i v p j = A p j := if_neg (fun z => h z.2)
section EF
variable {g : gG} {fr k n : Nat} {μ : gMu} {pc : Nat} {ls st : List Value} {M : gM} {Q : Option Value ⊕ String → gM → Prop}
theorem E_setF {c : Cf} {f : Nat} {M0 : gM} {pw p G q j : Nat} {L : List Gl} {z v idx : Int32} {A : Pl} {V : Nat → Nat → Int32} (hd : decode (gcc μ) pc = .ok (.iastore, 1)) (h : lF c f M0 pw p G L z A V M) (hq : q < 5) (hx : idx = nI (G + j)) (hj : G + j < 64)
    (k0 : ∀ M', lF c f M0 pw p G L z A (u2 V q j v) M' → E g fr k n μ (pc + 1) ls st M' Q) : E g fr k n μ pc ls (.int v :: .int idx :: .ref (p + q + 1) :: st) M Q :=
  E_iast hd (h.lt (by omega)) (h.k hq) hx hj (by decide) (k0 _ (h.set hq))
end EF
theorem lQ.F {c : Cf} {f : Nat} {M0 M : gM} {pw p G : Nat} {L : List Gl} {z : Int32} {A : Pl} (h : lQ c f M0 pw L (-1) z A M) (ho : oK p pw M) (h8 : mI M 132 8 = nI G) : lF c f M0 pw p G L z A (fun q j => mI M (p + q) (G + j)) M :=
  ⟨h.X, h.2.1.F, h.2.2.1, h.on, ho, h8, fun _ _ _ => rfl⟩
theorem lQ.congr {c : Cf} {f : Nat} {M0 M : gM} {pw : Nat} {L : List Gl} {w z : Int32} {A B : Pl} (h : lQ c f M0 pw L w z A M) (e : ∀ q i, q < 5 → i < L.length → B q i = A q i) : lQ c f M0 pw L w z B M := by
  refine ⟨h.1, h.2.1, ⟨h.2.2.1.1, h.2.2.1.2.1, fun i hi => ?_⟩, fun i hi => ?_⟩
  · rw [e 0 i (by decide) hi, e 1 i (by decide) hi]
    unfold onV
    rw [e 2 i (by decide) hi, e 3 i (by decide) hi, e 4 i (by decide) hi]
    exact h.2.2.1.2.2 i hi
  · rw [e 2 i (by decide) hi, e 3 i (by decide) hi, e 4 i (by decide) hi]
    exact h.on i hi
theorem std_1 {jn : Nat} {left all : Int32} {A : Pl} {j : Nat} : ∀ {k}, k ≤ j → std jn left all k A 1 j = A 1 j
  | 0, _ => rfl
  | k + 1, h => by
    have ih := std_1 (jn := jn) (left := left) (all := all) (A := A) (show k ≤ j by omega)
    show stS1 jn left all k (std jn left all k A) 1 j = _
    unfold stS1
    by_cases e : std jn left all k A 2 k = -100
    · rw [cI_t e]; unfold stX; rw [u2_p (by decide)]; exact ih
    · rw [cI_f e]; unfold stH stX; rw [u2_j (by omega), u2_p (by decide), u2_p (by decide)]; exact ih
/-- a step of what is laid -/
theorem lGV_1 {G jn k : Nat} {L : List Gl} {left all : Int32} {A : Pl} {V : Nat → Nat → Int32} {g0 x0 : Int32} (h : lGV G L (std jn left all k A) k V) (q2 : A 2 k = -100) (eg : g0 = nI (yN (gat L k) + 256 * yC (gat L k))) (ex : x0 = left + cI (jn = 0) (smA A k) (all - smA A (k + 1))) :
    lGV G L (std jn left all (k + 1) A) (k + 1) (u2 (u2 (u2 (u2 (u2 V 0 k g0) 1 k (A 0 k)) 2 k (A 1 k)) 3 k x0) 4 k (nI 0)) := fun j hj => by
  have hB : std jn left all (k + 1) A = stX jn left all k (std jn left all k A) := by
    show stS1 jn left all k (std jn left all k A) = _
    unfold stS1
    rw [cI_t (by rw [std_r (by decide) (by decide)]; exact q2)]
  rw [hB]
  have r0 : ∀ q i, ¬ q = 5 → stX jn left all k (std jn left all k A) q i = std jn left all k A q i := fun q i z => u2_p z
  have hG : onG G (stX jn left all k (std jn left all k A)) j = onG G (std jn left all k A) j := by unfold onG; rw [r0 2 j (by decide), r0 3 j (by decide), r0 4 j (by decide)]
  rw [r0 0 j (by decide), r0 1 j (by decide), hG]
  by_cases e : j = k
  · subst e
    refine ⟨?_, ?_, ?_, ?_, ?_⟩
    · rw [u2_p (by decide), u2_p (by decide), u2_p (by decide), u2_p (by decide), u2_e]; exact eg
    · rw [u2_p (by decide), u2_p (by decide), u2_p (by decide), u2_e, std_r (by decide) (by decide)]
    · rw [u2_p (by decide), u2_p (by decide), u2_e]; exact (std_1 (Nat.le_refl _)).symm
    · rw [u2_p (by decide), u2_e, ex]
      unfold stX
      rw [u2_e, smA_std, smA_std]
    · rw [u2_e]; unfold onG; rw [cI_t (by rw [std_r (by decide) (by decide)]; exact q2)]
  · have := h j (by omega)
    rw [u2_j e, u2_j e, u2_j e, u2_j e, u2_j e, u2_j e, u2_j e, u2_j e, u2_j e, u2_j e, u2_j e, u2_j e, u2_j e, u2_j e, u2_j e, u2_j e, u2_j e, u2_j e, u2_j e, u2_j e, u2_j e, u2_j e, u2_j e, u2_j e, u2_j e]
    unfold stX
    rw [u2_j e]
    exact this
theorem lGV_2 {G jn k b x y : Nat} {L : List Gl} {left all : Int32} {A : Pl} {V : Nat → Nat → Int32} {g0 x0 x1 h1 b0 b1 : Int32} (h : lGV G L (std jn left all k A) k V) (hb : b < k) (hk : k < 64) (q2 : A 2 k = nI b) (q3 : A 3 k + nI 100 = nI x) (q4 : A 4 k + nI 100 = nI y) (hx : x < 300) (hy : y < 300) (eg : g0 = nI (yN (gat L k) + 256 * yC (gat L k))) (ex : x1 = V 3 b + A 3 k) (eh : h1 = V 2 b + A 4 k) (eb : b1 = nI (100000 * (G + b + 1) + 300 * x + y)) :
    lGV G L (std jn left all (k + 1) A) (k + 1) (u2 (u2 (u2 (u2 (u2 (u2 (u2 (u2 V 0 k g0) 1 k (A 0 k)) 2 k (A 1 k)) 3 k x0) 4 k b0) 3 k x1) 2 k h1) 4 k b1) := fun j hj => by
  have hB : std jn left all (k + 1) A = stH k b (stX jn left all k (std jn left all k A)) := by
    show stS1 jn left all k (std jn left all k A) = _
    unfold stS1
    rw [std_r (by decide) (by decide), q2, cI_f (nI_ne100 (by omega)), gN_nI (by omega)]
  rw [hB]
  have r0 : ∀ q i, ¬ q = 5 → ¬ q = 1 → stH k b (stX jn left all k (std jn left all k A)) q i = std jn left all k A q i := fun q i z z2 => (u2_p z2).trans ((u2_p z).trans (u2_p z))
  have hG : onG G (stH k b (stX jn left all k (std jn left all k A))) j = onG G (std jn left all k A) j := by unfold onG; rw [r0 2 j (by decide) (by decide), r0 3 j (by decide) (by decide), r0 4 j (by decide) (by decide)]
  rw [r0 0 j (by decide) (by decide), hG]
  have hvb := h b hb
  by_cases e : j = k
  · subst e
    refine ⟨?_, ?_, ?_, ?_, ?_⟩
    · rw [u2_p (by decide), u2_p (by decide), u2_p (by decide), u2_p (by decide), u2_p (by decide), u2_p (by decide), u2_p (by decide), u2_e]; exact eg
    · rw [u2_p (by decide), u2_p (by decide), u2_p (by decide), u2_p (by decide), u2_p (by decide), u2_p (by decide), u2_e, std_r (by decide) (by decide)]
    · rw [u2_p (by decide), u2_e, eh, hvb.2.2.1]
      unfold stH stX
      rw [u2_e, u2_p (by decide), u2_p (by decide), std_r (q := 4) (by decide) (by decide)]
    · rw [u2_p (by decide), u2_p (by decide), u2_e, ex, hvb.2.2.2.1]
      unfold stH stX
      rw [u2_p (by decide), u2_e, u2_j (by omega), u2_p (by decide), std_r (q := 3) (by decide) (by decide)]
    · rw [u2_e, eb]; unfold onG; rw [std_r (by decide) (by decide), std_r (by decide) (by decide), std_r (by decide) (by decide), q2, q3, q4, cI_f (nI_ne100 (by omega)), gN_nI (by omega), gN_nI (by omega), gN_nI (by omega)]
  · have := h j (by omega)
    have hV : ∀ q, u2 (u2 (u2 (u2 (u2 (u2 (u2 (u2 V 0 k g0) 1 k (A 0 k)) 2 k (A 1 k)) 3 k x0) 4 k b0) 3 k x1) 2 k h1) 4 k b1 q j = V q j := fun q => by rw [u2_j e, u2_j e, u2_j e, u2_j e, u2_j e, u2_j e, u2_j e, u2_j e]
    rw [hV, hV, hV, hV, hV]
    have s1 : ∀ q, stH k b (stX jn left all k (std jn left all k A)) q j = std jn left all k A q j := fun q => by unfold stH stX; rw [u2_j e, u2_j e, u2_j e]
    rw [s1, s1]
    exact this
set_option maxRecDepth 100000 in
set_option maxHeartbeats 4000000 in
theorem s1_L_runs {g : gG} {M : gM} {Q : Option Value ⊕ String → gM → Prop} {c : Cf} {f : Nat} {M0 : gM} {pw : Nat} {L : List Gl} {z : Int32} {A : Pl}  {V : Nat → Nat → Int32} {lk : Int64} {v6 : Value} {a0 b0 jn p G : Nat} {left x20 : Int32} (hF : lF c f M0 pw p G L z A V M) {k : Nat} (hv : lGV G L (std jn left (smA A L.length) k A) k V) (hk : k < L.length) (hG : G + L.length ≤ 64) (hjn : jn ≤ 1) (K : ∀ M V v24 v25, lF c f M0 pw p G L z A V M → lGV G L (std jn left (smA A L.length) (k + 1) A) (k + 1) V → E g 9 0 0 mL_runs 671 [.ref 129, .ref 130, .ref 131, .ref 132, .ref 133, .long lk, v6, .int (nI a0), .int (nI b0), .int left, .int (nI jn), .ref (p + 0 + 1), .ref (p + 1 + 1), .ref (p + 2 + 1), .ref (p + 3 + 1), .ref (p + 4 + 1), .ref (pw + 1), .ref (pw + 2), .ref (pw + 3), .ref (pw + 4), .int x20, .int (smA A L.length), .int (smA A (k + 1)), .int (nI k), v24, v25] [] M Q) : ∀ v24 v25, E g 9 0 0 mL_runs 462 [.ref 129, .ref 130, .ref 131, .ref 132, .ref 133, .long lk, v6, .int (nI a0), .int (nI b0), .int left, .int (nI jn), .ref (p + 0 + 1), .ref (p + 1 + 1), .ref (p + 2 + 1), .ref (p + 3 + 1), .ref (p + 4 + 1), .ref (pw + 1), .ref (pw + 2), .ref (pw + 3), .ref (pw + 4), .int x20, .int (smA A L.length), .int (smA A k), .int (nI k), v24, v25] [] M Q := by
  intro v24 v25
  have h := hF.X
  have hL := h.lay
  have hf := h.f2
  have hn := h.len
  have hct := h.ct
  have hglk := (h.ok hk).b
  rcases hF.on k hk with ⟨q2, q3, q4⟩ | ⟨b, x, y, hb, hx, hy, q2, q3, q4⟩
  · have hon : onV A k = nI 0 := cI_t q2
    refine E_aload dL_runs_462 rfl ?_
    refine E_bipush (v := nI 8) dL_runs_464 (by decide) ?_
    refine E_ialdL (v := nI G) dL_runs_466 (l_132 hL) (k_132 hL) rfl (by omega) (by decide) hF.a8 ?_
    refine E_iload dL_runs_467 rfl ?_
    refine E_iadd_n dL_runs_469 ?_
    refine E_istore dL_runs_470 (Nat.le_of_ble_eq_true rfl) (by decide) rfl ?_
    refine E_iload dL_runs_472 rfl ?_
    refine E_aload dL_runs_474 rfl ?_
    refine E_iload dL_runs_476 rfl ?_
    refine E_ialdL (v := _) dL_runs_478 (hF.l1) (hF.k1) rfl (by omega) (by decide) (hF.v1 hk) ?_
    refine E_iadd dL_runs_479 ?_
    refine E_istore dL_runs_480 (Nat.le_of_ble_eq_true rfl) (by decide) rfl ?_
    refine E_aload dL_runs_482 rfl ?_
    refine E_iload dL_runs_484 rfl ?_
    refine E_aload dL_runs_486 rfl ?_
    refine E_iload dL_runs_488 rfl ?_
    refine E_laldL (v := pk _) dL_runs_490 h.plt h.pkd rfl (by omega) (by decide) (h.wk (by omega)) ?_
    refine E_callT1 (fr' := 1) (k1 := 0) (n1 := 0) (k2 := 0) (n2 := 0) dL_runs_491 kO_L_glyphOf kL_L_108 (by exact Nat.le_of_ble_eq_true rfl) (by decide) (by exact Nat.le_of_ble_eq_true rfl) (Or.inl rfl) rfl ?_
    refine sp_L_glyphOf (h.ok (by omega)) ?_
    refine gKv ?_
    refine E_sipush (v := nI 256) dL_runs_494 (by decide) ?_
    refine E_aload dL_runs_497 rfl ?_
    refine E_iload dL_runs_499 rfl ?_
    refine E_laldL (v := pk _) dL_runs_501 h.plt h.pkd rfl (by omega) (by decide) (h.wk (by omega)) ?_
    refine E_bipush (v := nI 8) dL_runs_502 (by decide) ?_
    refine E_bipush (v := nI 15) dL_runs_504 (by decide) ?_
    refine E_callT3 (fr' := 1) (k1 := 0) (n1 := 0) (k2 := 0) (n2 := 0) dL_runs_506 kO_L_part kL_L_116 (by exact Nat.le_of_ble_eq_true rfl) (by decide) (by exact Nat.le_of_ble_eq_true rfl) (Or.inl rfl) rfl ?_
    refine sp_L_part_C (h.ok (by omega)) ?_
    refine gKv ?_
    refine E_imul_n dL_runs_509 ?_
    refine E_iadd_n dL_runs_510 ?_
    refine E_setF dL_runs_511 hF (q := 0) (j := k) (by decide) rfl (by omega) (fun M hF => ?_)
    have h := hF.X
    have hL := h.lay
    refine E_aload dL_runs_512 rfl ?_
    refine E_iload dL_runs_514 rfl ?_
    refine E_aload dL_runs_516 rfl ?_
    refine E_iload dL_runs_518 rfl ?_
    refine E_ialdL (v := _) dL_runs_520 (hF.l1) (hF.k1) rfl (by omega) (by decide) (hF.v1 hk) ?_
    refine E_setF dL_runs_521 hF (q := 1) (j := k) (by decide) rfl (by omega) (fun M hF => ?_)
    have h := hF.X
    have hL := h.lay
    refine E_aload dL_runs_522 rfl ?_
    refine E_iload dL_runs_524 rfl ?_
    refine E_aload dL_runs_526 rfl ?_
    refine E_iload dL_runs_528 rfl ?_
    refine E_ialdL (v := _) dL_runs_530 (hF.l2) (hF.k2) rfl (by omega) (by decide) (hF.v2 hk) ?_
    refine E_setF dL_runs_531 hF (q := 2) (j := k) (by decide) rfl (by omega) (fun M hF => ?_)
    have h := hF.X
    have hL := h.lay
    refine E_aload dL_runs_532 rfl ?_
    refine E_iload dL_runs_534 rfl ?_
    refine E_iload dL_runs_536 rfl ?_
    refine E_if_eq_n (tgt := 552) dL_runs_538 (by decide) (by omega) (fun c_538 => ?_) (fun c_538 => ?_)
    · refine E_iload dL_runs_552 rfl ?_
      refine E_iload dL_runs_554 rfl ?_
      refine E_iadd dL_runs_556 ?_
      refine E_aload dL_runs_557 rfl ?_
      refine E_iload dL_runs_559 rfl ?_
      refine E_ialdL (v := _) dL_runs_561 (hF.l1) (hF.k1) rfl (by omega) (by decide) (hF.v1 hk) ?_
      refine E_isub dL_runs_562 ?_
      refine E_setF dL_runs_563 hF (q := 3) (j := k) (by decide) rfl (by omega) (fun M hF => ?_)
      have h := hF.X
      have hL := h.lay
      refine E_aload dL_runs_564 rfl ?_
      refine E_iload dL_runs_566 rfl ?_
      refine E_aload dL_runs_568 rfl ?_
      refine E_iload dL_runs_570 rfl ?_
      refine E_ialdL (v := nI 0) dL_runs_572 (hF.l3) (hF.k3) rfl (by omega) (by decide) ((hF.v3 hk).trans hon) ?_
      refine E_setF dL_runs_573 hF (q := 4) (j := k) (by decide) rfl (by omega) (fun M hF => ?_)
      have h := hF.X
      have hL := h.lay
      refine E_aload dL_runs_574 rfl ?_
      refine E_iload dL_runs_576 rfl ?_
      refine E_ialdL (v := nI 0) dL_runs_578 (hF.l3) (hF.k3) rfl (by omega) (by decide) ((hF.v3 hk).trans hon) ?_
      refine E_if_ne (tgt := 585) dL_runs_579 (by decide) (fun c0 => absurd c0 (by decide)) (fun _ => ?_)
      refine E_goto (tgt := 671) dL_runs_582 (by decide) ?_
      refine K M _ _ _ hF (lGV_1 hv q2 rfl ?_)
      first
        | (rw [cI_t (show jn = 0 by omega)]
           show left + (smA A k + A 0 k) - A 0 k = _
           rw [← Int32.add_assoc, Int32.add_sub_cancel])
        | (rw [cI_f (show ¬ jn = 0 by omega)]
           show left + smA A L.length - smA A (k + 1) = _
           rw [Int32.sub_eq_add_neg, Int32.sub_eq_add_neg, Int32.add_assoc])
    · refine E_iload dL_runs_541 rfl ?_
      refine E_iload dL_runs_543 rfl ?_
      refine E_iadd dL_runs_545 ?_
      refine E_iload dL_runs_546 rfl ?_
      refine E_isub dL_runs_548 ?_
      refine E_goto (tgt := 563) dL_runs_549 (by decide) ?_
      refine E_setF dL_runs_563 hF (q := 3) (j := k) (by decide) rfl (by omega) (fun M hF => ?_)
      have h := hF.X
      have hL := h.lay
      refine E_aload dL_runs_564 rfl ?_
      refine E_iload dL_runs_566 rfl ?_
      refine E_aload dL_runs_568 rfl ?_
      refine E_iload dL_runs_570 rfl ?_
      refine E_ialdL (v := nI 0) dL_runs_572 (hF.l3) (hF.k3) rfl (by omega) (by decide) ((hF.v3 hk).trans hon) ?_
      refine E_setF dL_runs_573 hF (q := 4) (j := k) (by decide) rfl (by omega) (fun M hF => ?_)
      have h := hF.X
      have hL := h.lay
      refine E_aload dL_runs_574 rfl ?_
      refine E_iload dL_runs_576 rfl ?_
      refine E_ialdL (v := nI 0) dL_runs_578 (hF.l3) (hF.k3) rfl (by omega) (by decide) ((hF.v3 hk).trans hon) ?_
      refine E_if_ne (tgt := 585) dL_runs_579 (by decide) (fun c0 => absurd c0 (by decide)) (fun _ => ?_)
      refine E_goto (tgt := 671) dL_runs_582 (by decide) ?_
      refine K M _ _ _ hF (lGV_1 hv q2 rfl ?_)
      first
        | (rw [cI_t (show jn = 0 by omega)]
           show left + (smA A k + A 0 k) - A 0 k = _
           rw [← Int32.add_assoc, Int32.add_sub_cancel])
        | (rw [cI_f (show ¬ jn = 0 by omega)]
           show left + smA A L.length - smA A (k + 1) = _
           rw [Int32.sub_eq_add_neg, Int32.sub_eq_add_neg, Int32.add_assoc])
  · have hon : onV A k = nI (100000 * (b + 1) + 300 * x + y) := by unfold onV; rw [q2, q3, q4, cI_f (nI_ne100 (by omega)), gN_nI (by omega), gN_nI (by omega), gN_nI (by omega)]
    have m1 : (100000 * (b + 1) + 300 * x + y) % 100000 = 300 * x + y := by omega
    have m3 : (100000 * (b + 1) + 300 * x + y) % 100000 / 300 = x := by rw [m1]; omega
    have m4 : (100000 * (b + 1) + 300 * x + y) % 100000 % 300 = y := by rw [m1]; omega
    have hne : ¬ nI (100000 * (b + 1) + 300 * x + y) = 0 := fun z => by
      have := (nI_eq (b := 0) (by omega) (by decide)).mp z
      omega
    refine E_aload dL_runs_462 rfl ?_
    refine E_bipush (v := nI 8) dL_runs_464 (by decide) ?_
    refine E_ialdL (v := nI G) dL_runs_466 (l_132 hL) (k_132 hL) rfl (by omega) (by decide) hF.a8 ?_
    refine E_iload dL_runs_467 rfl ?_
    refine E_iadd_n dL_runs_469 ?_
    refine E_istore dL_runs_470 (Nat.le_of_ble_eq_true rfl) (by decide) rfl ?_
    refine E_iload dL_runs_472 rfl ?_
    refine E_aload dL_runs_474 rfl ?_
    refine E_iload dL_runs_476 rfl ?_
    refine E_ialdL (v := _) dL_runs_478 (hF.l1) (hF.k1) rfl (by omega) (by decide) (hF.v1 hk) ?_
    refine E_iadd dL_runs_479 ?_
    refine E_istore dL_runs_480 (Nat.le_of_ble_eq_true rfl) (by decide) rfl ?_
    refine E_aload dL_runs_482 rfl ?_
    refine E_iload dL_runs_484 rfl ?_
    refine E_aload dL_runs_486 rfl ?_
    refine E_iload dL_runs_488 rfl ?_
    refine E_laldL (v := pk _) dL_runs_490 h.plt h.pkd rfl (by omega) (by decide) (h.wk (by omega)) ?_
    refine E_callT1 (fr' := 1) (k1 := 0) (n1 := 0) (k2 := 0) (n2 := 0) dL_runs_491 kO_L_glyphOf kL_L_108 (by exact Nat.le_of_ble_eq_true rfl) (by decide) (by exact Nat.le_of_ble_eq_true rfl) (Or.inl rfl) rfl ?_
    refine sp_L_glyphOf (h.ok (by omega)) ?_
    refine gKv ?_
    refine E_sipush (v := nI 256) dL_runs_494 (by decide) ?_
    refine E_aload dL_runs_497 rfl ?_
    refine E_iload dL_runs_499 rfl ?_
    refine E_laldL (v := pk _) dL_runs_501 h.plt h.pkd rfl (by omega) (by decide) (h.wk (by omega)) ?_
    refine E_bipush (v := nI 8) dL_runs_502 (by decide) ?_
    refine E_bipush (v := nI 15) dL_runs_504 (by decide) ?_
    refine E_callT3 (fr' := 1) (k1 := 0) (n1 := 0) (k2 := 0) (n2 := 0) dL_runs_506 kO_L_part kL_L_116 (by exact Nat.le_of_ble_eq_true rfl) (by decide) (by exact Nat.le_of_ble_eq_true rfl) (Or.inl rfl) rfl ?_
    refine sp_L_part_C (h.ok (by omega)) ?_
    refine gKv ?_
    refine E_imul_n dL_runs_509 ?_
    refine E_iadd_n dL_runs_510 ?_
    refine E_setF dL_runs_511 hF (q := 0) (j := k) (by decide) rfl (by omega) (fun M hF => ?_)
    have h := hF.X
    have hL := h.lay
    refine E_aload dL_runs_512 rfl ?_
    refine E_iload dL_runs_514 rfl ?_
    refine E_aload dL_runs_516 rfl ?_
    refine E_iload dL_runs_518 rfl ?_
    refine E_ialdL (v := _) dL_runs_520 (hF.l1) (hF.k1) rfl (by omega) (by decide) (hF.v1 hk) ?_
    refine E_setF dL_runs_521 hF (q := 1) (j := k) (by decide) rfl (by omega) (fun M hF => ?_)
    have h := hF.X
    have hL := h.lay
    refine E_aload dL_runs_522 rfl ?_
    refine E_iload dL_runs_524 rfl ?_
    refine E_aload dL_runs_526 rfl ?_
    refine E_iload dL_runs_528 rfl ?_
    refine E_ialdL (v := _) dL_runs_530 (hF.l2) (hF.k2) rfl (by omega) (by decide) (hF.v2 hk) ?_
    refine E_setF dL_runs_531 hF (q := 2) (j := k) (by decide) rfl (by omega) (fun M hF => ?_)
    have h := hF.X
    have hL := h.lay
    refine E_aload dL_runs_532 rfl ?_
    refine E_iload dL_runs_534 rfl ?_
    refine E_iload dL_runs_536 rfl ?_
    refine E_if_eq_n (tgt := 552) dL_runs_538 (by decide) (by omega) (fun c_538 => ?_) (fun c_538 => ?_)
    · refine E_iload dL_runs_552 rfl ?_
      refine E_iload dL_runs_554 rfl ?_
      refine E_iadd dL_runs_556 ?_
      refine E_aload dL_runs_557 rfl ?_
      refine E_iload dL_runs_559 rfl ?_
      refine E_ialdL (v := _) dL_runs_561 (hF.l1) (hF.k1) rfl (by omega) (by decide) (hF.v1 hk) ?_
      refine E_isub dL_runs_562 ?_
      refine E_setF dL_runs_563 hF (q := 3) (j := k) (by decide) rfl (by omega) (fun M hF => ?_)
      have h := hF.X
      have hL := h.lay
      refine E_aload dL_runs_564 rfl ?_
      refine E_iload dL_runs_566 rfl ?_
      refine E_aload dL_runs_568 rfl ?_
      refine E_iload dL_runs_570 rfl ?_
      refine E_ialdL (v := nI (100000 * (b + 1) + 300 * x + y)) dL_runs_572 (hF.l3) (hF.k3) rfl (by omega) (by decide) ((hF.v3 hk).trans hon) ?_
      refine E_setF dL_runs_573 hF (q := 4) (j := k) (by decide) rfl (by omega) (fun M hF => ?_)
      have h := hF.X
      have hL := h.lay
      refine E_aload dL_runs_574 rfl ?_
      refine E_iload dL_runs_576 rfl ?_
      refine E_ialdL (v := nI (100000 * (b + 1) + 300 * x + y)) dL_runs_578 (hF.l3) (hF.k3) rfl (by omega) (by decide) ((hF.v3 hk).trans hon) ?_
      refine E_if_ne (tgt := 585) dL_runs_579 (by decide) (fun _ => ?_) (fun c0 => absurd hne c0)
      refine E_aload dL_runs_585 rfl ?_
      refine E_bipush (v := nI 8) dL_runs_587 (by decide) ?_
      refine E_ialdL (v := nI G) dL_runs_589 (l_132 hL) (k_132 hL) rfl (by omega) (by decide) hF.a8 ?_
      refine E_aload dL_runs_590 rfl ?_
      refine E_iload dL_runs_592 rfl ?_
      refine E_ialdL (v := nI (100000 * (b + 1) + 300 * x + y)) dL_runs_594 (hF.l3) (hF.k3) rfl (by omega) (by decide) ((hF.v3 hk).trans hon) ?_
      refine E_ldc (v := nI 100000) dL_runs_595 (gW_at 775 (by decide +kernel) (by decide +kernel)) ?_
      refine E_idiv_n dL_runs_597 (by omega) (by omega) (by omega) ?_
      refine E_iadd_n dL_runs_598 ?_
      refine E_iconst (v := nI 1) dL_runs_599 (by decide) ?_
      refine E_isub_n dL_runs_600 (by omega) ?_
      rw [show G + (100000 * (b + 1) + 300 * x + y) / 100000 - 1 = G + b by omega]
      refine E_istore dL_runs_601 (Nat.le_of_ble_eq_true rfl) (by decide) rfl ?_
      refine E_aload dL_runs_603 rfl ?_
      refine E_iload dL_runs_605 rfl ?_
      refine E_aload dL_runs_607 rfl ?_
      refine E_iload dL_runs_609 rfl ?_
      refine E_ialdL (v := _) dL_runs_611 (hF.lt (by decide)) (hF.k (by decide)) rfl (by omega) (by decide) (hF.v (q := 3) (j := b) (by decide)) ?_
      refine E_aload dL_runs_612 rfl ?_
      refine E_iload dL_runs_614 rfl ?_
      refine E_ialdL (v := nI (100000 * (b + 1) + 300 * x + y)) dL_runs_616 (hF.l3) (hF.k3) rfl (by omega) (by decide) ((hF.v3 hk).trans hon) ?_
      refine E_ldc (v := nI 100000) dL_runs_617 (gW_at 775 (by decide +kernel) (by decide +kernel)) ?_
      refine E_irem_n dL_runs_619 (by omega) (by omega) (by omega) ?_
      refine E_sipush (v := nI 300) dL_runs_620 (by decide) ?_
      refine E_idiv_n dL_runs_623 (by omega) (by omega) (by omega) ?_
      rw [m3, ← q3]
      refine E_iadd dL_runs_624 ?_
      refine E_bipush (v := nI 100) dL_runs_625 (by decide) ?_
      refine E_isub dL_runs_627 ?_
      refine E_setF dL_runs_628 hF (q := 3) (j := k) (by decide) rfl (by omega) (fun M hF => ?_)
      have h := hF.X
      have hL := h.lay
      refine E_aload dL_runs_629 rfl ?_
      refine E_iload dL_runs_631 rfl ?_
      refine E_aload dL_runs_633 rfl ?_
      refine E_iload dL_runs_635 rfl ?_
      refine E_ialdL (v := _) dL_runs_637 (hF.lt (by decide)) (hF.k (by decide)) rfl (by omega) (by decide) (hF.v (q := 2) (j := b) (by decide)) ?_
      refine E_aload dL_runs_638 rfl ?_
      refine E_iload dL_runs_640 rfl ?_
      refine E_ialdL (v := nI (100000 * (b + 1) + 300 * x + y)) dL_runs_642 (hF.l3) (hF.k3) rfl (by omega) (by decide) ((hF.v3 hk).trans hon) ?_
      refine E_ldc (v := nI 100000) dL_runs_643 (gW_at 775 (by decide +kernel) (by decide +kernel)) ?_
      refine E_irem_n dL_runs_645 (by omega) (by omega) (by omega) ?_
      refine E_sipush (v := nI 300) dL_runs_646 (by decide) ?_
      refine E_irem_n dL_runs_649 (by omega) (by omega) (by omega) ?_
      rw [m4, ← q4]
      refine E_iadd dL_runs_650 ?_
      refine E_bipush (v := nI 100) dL_runs_651 (by decide) ?_
      refine E_isub dL_runs_653 ?_
      refine E_setF dL_runs_654 hF (q := 2) (j := k) (by decide) rfl (by omega) (fun M hF => ?_)
      have h := hF.X
      have hL := h.lay
      refine E_aload dL_runs_655 rfl ?_
      refine E_iload dL_runs_657 rfl ?_
      refine E_dup2 dL_runs_659 rfl rfl ?_
      refine E_ialdL (v := nI (100000 * (b + 1) + 300 * x + y)) dL_runs_660 (hF.lt (by decide)) (hF.k (by decide)) rfl (by omega) (by decide) ((hF.v (q := 4) (j := k) (by decide)).trans ((u2_p (by decide)).trans ((u2_p (by decide)).trans u2_e))) ?_
      refine E_ldc (v := nI 100000) dL_runs_661 (gW_at 775 (by decide +kernel) (by decide +kernel)) ?_
      refine E_aload dL_runs_663 rfl ?_
      refine E_bipush (v := nI 8) dL_runs_665 (by decide) ?_
      refine E_ialdL (v := nI G) dL_runs_667 (l_132 hL) (k_132 hL) rfl (by omega) (by decide) hF.a8 ?_
      refine E_imul_n dL_runs_668 ?_
      refine E_iadd_n dL_runs_669 ?_
      refine E_setF dL_runs_670 hF (q := 4) (j := k) (by decide) rfl (by omega) (fun M hF => ?_)
      have h := hF.X
      have hL := h.lay
      refine K M _ _ _ hF (lGV_2 hv hb (by omega) q2 q3 q4 hx hy rfl ?_ ?_ ?_)
      · rw [u2_p (by decide), u2_j (by omega), u2_p (by decide), u2_p (by decide), u2_p (by decide), ← Int32.add_assoc, Int32.add_sub_cancel]
      · rw [u2_p (by decide), u2_p (by decide), u2_p (by decide), u2_j (by omega), u2_p (by decide), u2_p (by decide), ← Int32.add_assoc, Int32.add_sub_cancel]
      · congr 1; omega
    · refine E_iload dL_runs_541 rfl ?_
      refine E_iload dL_runs_543 rfl ?_
      refine E_iadd dL_runs_545 ?_
      refine E_iload dL_runs_546 rfl ?_
      refine E_isub dL_runs_548 ?_
      refine E_goto (tgt := 563) dL_runs_549 (by decide) ?_
      refine E_setF dL_runs_563 hF (q := 3) (j := k) (by decide) rfl (by omega) (fun M hF => ?_)
      have h := hF.X
      have hL := h.lay
      refine E_aload dL_runs_564 rfl ?_
      refine E_iload dL_runs_566 rfl ?_
      refine E_aload dL_runs_568 rfl ?_
      refine E_iload dL_runs_570 rfl ?_
      refine E_ialdL (v := nI (100000 * (b + 1) + 300 * x + y)) dL_runs_572 (hF.l3) (hF.k3) rfl (by omega) (by decide) ((hF.v3 hk).trans hon) ?_
      refine E_setF dL_runs_573 hF (q := 4) (j := k) (by decide) rfl (by omega) (fun M hF => ?_)
      have h := hF.X
      have hL := h.lay
      refine E_aload dL_runs_574 rfl ?_
      refine E_iload dL_runs_576 rfl ?_
      refine E_ialdL (v := nI (100000 * (b + 1) + 300 * x + y)) dL_runs_578 (hF.l3) (hF.k3) rfl (by omega) (by decide) ((hF.v3 hk).trans hon) ?_
      refine E_if_ne (tgt := 585) dL_runs_579 (by decide) (fun _ => ?_) (fun c0 => absurd hne c0)
      refine E_aload dL_runs_585 rfl ?_
      refine E_bipush (v := nI 8) dL_runs_587 (by decide) ?_
      refine E_ialdL (v := nI G) dL_runs_589 (l_132 hL) (k_132 hL) rfl (by omega) (by decide) hF.a8 ?_
      refine E_aload dL_runs_590 rfl ?_
      refine E_iload dL_runs_592 rfl ?_
      refine E_ialdL (v := nI (100000 * (b + 1) + 300 * x + y)) dL_runs_594 (hF.l3) (hF.k3) rfl (by omega) (by decide) ((hF.v3 hk).trans hon) ?_
      refine E_ldc (v := nI 100000) dL_runs_595 (gW_at 775 (by decide +kernel) (by decide +kernel)) ?_
      refine E_idiv_n dL_runs_597 (by omega) (by omega) (by omega) ?_
      refine E_iadd_n dL_runs_598 ?_
      refine E_iconst (v := nI 1) dL_runs_599 (by decide) ?_
      refine E_isub_n dL_runs_600 (by omega) ?_
      rw [show G + (100000 * (b + 1) + 300 * x + y) / 100000 - 1 = G + b by omega]
      refine E_istore dL_runs_601 (Nat.le_of_ble_eq_true rfl) (by decide) rfl ?_
      refine E_aload dL_runs_603 rfl ?_
      refine E_iload dL_runs_605 rfl ?_
      refine E_aload dL_runs_607 rfl ?_
      refine E_iload dL_runs_609 rfl ?_
      refine E_ialdL (v := _) dL_runs_611 (hF.lt (by decide)) (hF.k (by decide)) rfl (by omega) (by decide) (hF.v (q := 3) (j := b) (by decide)) ?_
      refine E_aload dL_runs_612 rfl ?_
      refine E_iload dL_runs_614 rfl ?_
      refine E_ialdL (v := nI (100000 * (b + 1) + 300 * x + y)) dL_runs_616 (hF.l3) (hF.k3) rfl (by omega) (by decide) ((hF.v3 hk).trans hon) ?_
      refine E_ldc (v := nI 100000) dL_runs_617 (gW_at 775 (by decide +kernel) (by decide +kernel)) ?_
      refine E_irem_n dL_runs_619 (by omega) (by omega) (by omega) ?_
      refine E_sipush (v := nI 300) dL_runs_620 (by decide) ?_
      refine E_idiv_n dL_runs_623 (by omega) (by omega) (by omega) ?_
      rw [m3, ← q3]
      refine E_iadd dL_runs_624 ?_
      refine E_bipush (v := nI 100) dL_runs_625 (by decide) ?_
      refine E_isub dL_runs_627 ?_
      refine E_setF dL_runs_628 hF (q := 3) (j := k) (by decide) rfl (by omega) (fun M hF => ?_)
      have h := hF.X
      have hL := h.lay
      refine E_aload dL_runs_629 rfl ?_
      refine E_iload dL_runs_631 rfl ?_
      refine E_aload dL_runs_633 rfl ?_
      refine E_iload dL_runs_635 rfl ?_
      refine E_ialdL (v := _) dL_runs_637 (hF.lt (by decide)) (hF.k (by decide)) rfl (by omega) (by decide) (hF.v (q := 2) (j := b) (by decide)) ?_
      refine E_aload dL_runs_638 rfl ?_
      refine E_iload dL_runs_640 rfl ?_
      refine E_ialdL (v := nI (100000 * (b + 1) + 300 * x + y)) dL_runs_642 (hF.l3) (hF.k3) rfl (by omega) (by decide) ((hF.v3 hk).trans hon) ?_
      refine E_ldc (v := nI 100000) dL_runs_643 (gW_at 775 (by decide +kernel) (by decide +kernel)) ?_
      refine E_irem_n dL_runs_645 (by omega) (by omega) (by omega) ?_
      refine E_sipush (v := nI 300) dL_runs_646 (by decide) ?_
      refine E_irem_n dL_runs_649 (by omega) (by omega) (by omega) ?_
      rw [m4, ← q4]
      refine E_iadd dL_runs_650 ?_
      refine E_bipush (v := nI 100) dL_runs_651 (by decide) ?_
      refine E_isub dL_runs_653 ?_
      refine E_setF dL_runs_654 hF (q := 2) (j := k) (by decide) rfl (by omega) (fun M hF => ?_)
      have h := hF.X
      have hL := h.lay
      refine E_aload dL_runs_655 rfl ?_
      refine E_iload dL_runs_657 rfl ?_
      refine E_dup2 dL_runs_659 rfl rfl ?_
      refine E_ialdL (v := nI (100000 * (b + 1) + 300 * x + y)) dL_runs_660 (hF.lt (by decide)) (hF.k (by decide)) rfl (by omega) (by decide) ((hF.v (q := 4) (j := k) (by decide)).trans ((u2_p (by decide)).trans ((u2_p (by decide)).trans u2_e))) ?_
      refine E_ldc (v := nI 100000) dL_runs_661 (gW_at 775 (by decide +kernel) (by decide +kernel)) ?_
      refine E_aload dL_runs_663 rfl ?_
      refine E_bipush (v := nI 8) dL_runs_665 (by decide) ?_
      refine E_ialdL (v := nI G) dL_runs_667 (l_132 hL) (k_132 hL) rfl (by omega) (by decide) hF.a8 ?_
      refine E_imul_n dL_runs_668 ?_
      refine E_iadd_n dL_runs_669 ?_
      refine E_setF dL_runs_670 hF (q := 4) (j := k) (by decide) rfl (by omega) (fun M hF => ?_)
      have h := hF.X
      have hL := h.lay
      refine K M _ _ _ hF (lGV_2 hv hb (by omega) q2 q3 q4 hx hy rfl ?_ ?_ ?_)
      · rw [u2_p (by decide), u2_j (by omega), u2_p (by decide), u2_p (by decide), u2_p (by decide), ← Int32.add_assoc, Int32.add_sub_cancel]
      · rw [u2_p (by decide), u2_p (by decide), u2_p (by decide), u2_j (by omega), u2_p (by decide), u2_p (by decide), ← Int32.add_assoc, Int32.add_sub_cancel]
      · congr 1; omega
