/-! the law: advances, heights, marks set on others -/
def fo (s : Nat → Pl → Pl) : Nat → Pl → Pl
  | 0, A => A
  | k + 1, A => s k (fo s k A)
theorem fo_crv (c : Cf) (f l : Nat) (L : List Gl) (A : Pl) : ∀ k, fo (crS c f l L) k A = crv c f l L k A
  | 0 => rfl
  | k + 1 => congrArg (crS c f l L k) (fo_crv c f l L A k)
theorem fo_bss (c : Cf) (f l : Nat) (L : List Gl) (A : Pl) : ∀ k, fo (bsS c f l L) k A = bss c f l L k A
  | 0 => rfl
  | k + 1 => congrArg (bsS c f l L k) (fo_bss c f l L A k)
theorem fo_mks (c : Cf) (f l : Nat) (L : List Gl) (A : Pl) : ∀ k, fo (mkS c f l L) k A = mks c f l L k A
  | 0 => rfl
  | k + 1 => congrArg (mkS c f l L k) (fo_mks c f l L A k)
theorem fo_stay {s : Nat → Pl → Pl} {A : Pl} {i : Nat} : ∀ j, i ≤ j → (∀ k B, i ≤ k → k < j → s k B = B) → fo s j A = fo s i A
  | 0, h, _ => by rw [show i = 0 by omega]
  | j + 1, h, hk => by
    by_cases e : i = j + 1
    · rw [e]
    · show s j (fo s j A) = _
      rw [hk j _ (by omega) (by omega)]
      exact fo_stay j (by omega) (fun k B h1 h2 => hk k B h1 (by omega))
theorem fo_prs (c : Cf) (f l : Nat) (L : List Gl) (A : Pl) : ∀ t i, L.length - i ≤ t → i ≤ L.length → prs c f l L t i (fo (prS c f l L) i A) = fo (prS c f l L) L.length A
  | 0, i, h, h2 => by rw [show i = L.length by omega]; rfl
  | t + 1, i, h, h2 => by
    by_cases hi : i < L.length
    · have e : prs c f l L (t + 1) i (fo (prS c f l L) i A) = prs c f l L t (prI c f l L i) (prS c f l L i (fo (prS c f l L) i A)) := cI_t hi
      have hb := prI_b (c := c) (f := f) (l := l) hi
      rw [e, ← fo_prs c f l L A t (prI c f l L i) (by omega) (by omega)]
      have e2 : fo (prS c f l L) (prI c f l L i) A = fo (prS c f l L) (i + 1) A := fo_stay _ (by omega) (fun k B h1 h3 => by
        unfold prI at h3
        by_cases q : prD c f l L i
        · rw [cI_t q] at h3
          have := (fnd_spec (P := fun k => ¬ skp c f l (yN (gat L k))) (n := L.length) (i := i + 1) (by omega)).2.2.2 k (by omega) h3
          exact cI_f (fun z => this z.1.1)
        · rw [cI_f q] at h3; omega)
      rw [e2]; rfl
    · rw [show i = L.length by omega]
      exact cI_f (by omega)
noncomputable def stK (c : Cf) (f l : Nat) (L : List Gl) : Nat → Pl → Pl := cI (cN c 130 l = 6) (prS c f l L) (cI (cN c 130 l = 7) (crS c f l L) (cI (cN c 130 l = 8) (bsS c f l L) (mkS c f l L)))
theorem fo_stK {c : Cf} {f l : Nat} {L : List Gl} (A : Pl) (h : 6 ≤ cN c 130 l) (h2 : cN c 130 l < 10) : fo (stK c f l L) L.length A = plK c f l L A := by
  unfold plK stK
  by_cases q6 : cN c 130 l = 6
  · rw [cI_t q6, cI_t q6]; exact (fo_prs c f l L A L.length 0 (by omega) (by omega)).symm
  · rw [cI_f q6, cI_f q6]
    by_cases q7 : cN c 130 l = 7
    · rw [cI_t q7, cI_t q7]; exact fo_crv c f l L A _
    · rw [cI_f q7, cI_f q7]
      by_cases q8 : cN c 130 l = 8
      · rw [cI_t q8, cI_t q8]; exact fo_bss c f l L A _
      · rw [cI_f q8, cI_f q8, cI_t (by omega)]; exact fo_mks c f l L A _
/-! the law's rows of places in a memory -/
def pq_ (pw : Nat) (M0 M : gM) : Prop := M.1 = M0.1 ∧ mR M = mR M0 ∧ (∀ a j, ¬ zR a j → ¬ (pw < a ∧ a ≤ pw + 3) → mI M a j = mI M0 a j) ∧ ∀ a j, ¬ a = pw → mL M a j = mL M0 a j
noncomputable def onV (A : Pl) (i : Nat) : Int32 := cI (A 2 i = -100) (nI 0) (nI (100000 * (gN (A 2 i) + 1) + 300 * gN (A 3 i + nI 100) + gN (A 4 i + nI 100)))
def onZ (A : Pl) (n : Nat) : Prop := ∀ i, i < n → (A 2 i = -100 ∧ A 3 i = nI 0 ∧ A 4 i = nI 0) ∨ ∃ b x y, b < i ∧ x < 300 ∧ y < 300 ∧ A 2 i = nI b ∧ A 3 i + nI 100 = nI x ∧ A 4 i + nI 100 = nI y
def lV (pw n : Nat) (A : Pl) (M : gM) : Prop := pw + 3 < mN M ∧ (mK M (pw + 1) = (13, 64) ∧ mK M (pw + 2) = (13, 64) ∧ mK M (pw + 3) = (13, 64)) ∧ ∀ i, i < n → mI M (pw + 1) i = A 0 i ∧ mI M (pw + 2) i = A 1 i ∧ mI M (pw + 3) i = onV A i
def lQ (c : Cf) (f : Nat) (M0 : gM) (pw : Nat) (L : List Gl) (w z : Int32) (A : Pl) (M : gM) : Prop := lX c f M pw L w z M ∧ pq_ pw M0 M ∧ lV pw L.length A M ∧ onZ A L.length
theorem zS.mvG {c : Cf} {M M' : gM} (h : zS c M) (hL : gLay M') (e : ∀ a j, 128 ≤ a → a < 133 → (a = 132 → j < 5) → mI M' a j = mI M a j) (el : ∀ j, mL M' 130 j = mL M 130 j) : zS c M' := by
  refine ⟨hL, h.wf, h.wz, fun k hk => ?_, fun f l hf2 hl => ?_, fun f l k hf2 hl hk => ?_, fun v hv => ?_, ?_, ?_, ?_, fun f hf2 => ?_⟩
  · rw [e _ _ (by omega) (by omega) (by omega)]; exact h.tx hk
  · rw [e _ _ (by omega) (by omega) (by omega)]; exact h.me hf2 hl
  · rw [el]; exact h.re hf2 hl hk
  · rw [e _ _ (by omega) (by omega) (by omega)]; exact h.pe hv
  · rw [e _ _ (by omega) (by omega) (by omega)]; exact h.b0
  · rw [e _ _ (by omega) (by omega) (by omega)]; exact h.b1
  · rw [e _ _ (by omega) (by omega) (by omega)]; exact h.b2
  · rw [e _ _ (by omega) (by omega) (by omega)]; exact h.b3 hf2
section LQ
variable {c : Cf} {f : Nat} {M0 M : gM} {pw : Nat} {L : List Gl} {w z : Int32} {A : Pl}
theorem lX.p9 (h : lX c f M0 pw L w z M) : 139 ≤ pw := h.1.1.2.2.1
theorem lX.here (h : lX c f M0 pw L w z M) : lX c f M pw L w z M := ⟨⟨⟨h.S, h.f2, h.p9, h.plt, h.pkd⟩, zf_.refl, h.1.2.2⟩, h.2⟩
/-- a cell elsewhere -/
theorem lX.far (h : lX c f M pw L w z M) {a i : Nat} {v : Int32} (ha : 133 ≤ a ∨ (a = 132 ∧ (i = 8 ∨ i = 9 ∨ i = 11))) : lX c f (sI M a i v) pw L w z (sI M a i v) := by
  have hS : zS c (sI M a i v) := h.S.mvG (h.lay.of (Nat.le_refl _) (fun _ _ => rfl) (fun _ _ => rfl)) (fun b j _ q2 q3 => by rw [mI_sI, if_neg (by omega)]) (fun _ => rfl)
  skip
  have e : ∀ j, j = 5 ∨ j = 6 ∨ j = 7 ∨ j = 10 → mI (sI M a i v) 132 j = mI M 132 j := fun j hj => by rw [mI_sI, if_neg (by omega)]
  exact ⟨⟨⟨hS, h.f2, h.p9, h.plt, h.pkd⟩, zf_.refl, (e _ (by omega)).trans h.a5, (e _ (by omega)).trans h.a6, (e _ (by omega)).trans h.a7, (e _ (by omega)).trans h.a10, h.1.2.2.2.2.2.2⟩, h.2⟩
theorem lQ.X (h : lQ c f M0 pw L w z A M) : lX c f M pw L w z M := h.1
theorem lQ.l1 (h : lQ c f M0 pw L w z A M) : pw + 1 < mN M := by have := h.2.2.1.1; omega
theorem lQ.l2 (h : lQ c f M0 pw L w z A M) : pw + 2 < mN M := by have := h.2.2.1.1; omega
theorem lQ.l3 (h : lQ c f M0 pw L w z A M) : pw + 3 < mN M := h.2.2.1.1
theorem lQ.k1 (h : lQ c f M0 pw L w z A M) : mK M (pw + 1) = (13, 64) := h.2.2.1.2.1.1
theorem lQ.k2 (h : lQ c f M0 pw L w z A M) : mK M (pw + 2) = (13, 64) := h.2.2.1.2.1.2.1
theorem lQ.k3 (h : lQ c f M0 pw L w z A M) : mK M (pw + 3) = (13, 64) := h.2.2.1.2.1.2.2
theorem lQ.v1 (h : lQ c f M0 pw L w z A M) {i : Nat} (hi : i < L.length) : mI M (pw + 1) i = A 0 i := (h.2.2.1.2.2 i hi).1
theorem lQ.v2 (h : lQ c f M0 pw L w z A M) {i : Nat} (hi : i < L.length) : mI M (pw + 2) i = A 1 i := (h.2.2.1.2.2 i hi).2.1
theorem lQ.v3 (h : lQ c f M0 pw L w z A M) {i : Nat} (hi : i < L.length) : mI M (pw + 3) i = onV A i := (h.2.2.1.2.2 i hi).2.2
theorem lQ.on (h : lQ c f M0 pw L w z A M) : onZ A L.length := h.2.2.2
theorem pq_.wr {pw : Nat} {M0 M : gM} (h : pq_ pw M0 M) {a i : Nat} {v : Int32} (ha : pw < a ∧ a ≤ pw + 3) : pq_ pw M0 (sI M a i v) :=
  ⟨h.1, h.2.1, fun b j q1 q2 => by rw [mI_ne (by omega)]; exact h.2.2.1 b j q1 q2, h.2.2.2⟩
theorem u2_0 {A : Pl} {q i p : Nat} {v : Int32} (h : ¬ p = q) : u2 A q i v p = A p := funext fun j => if_neg (fun z => h z.1)
theorem onV_u {A B : Pl} {i : Nat} (h2 : B 2 = A 2) (h3 : B 3 = A 3) (h4 : B 4 = A 4) : onV B i = onV A i := by unfold onV; rw [h2, h3, h4]
theorem onZ_u {A B : Pl} {n : Nat} (h : onZ A n) (h2 : B 2 = A 2) (h3 : B 3 = A 3) (h4 : B 4 = A 4) : onZ B n := fun i hi => by rw [h2, h3, h4]; exact h i hi
theorem lQ.setV (h : lQ c f M0 pw L w z A M) {i : Nat} {v : Int32} : lQ c f M0 pw L w z (u2 A 0 i v) (sI M (pw + 1) i v) := by
  have h9 := h.X.p9
  refine ⟨h.X.far (by omega), h.2.1.wr (by omega), ⟨h.2.2.1.1, h.2.2.1.2.1, fun j hj => ⟨?_, ?_, ?_⟩⟩, onZ_u h.on (u2_0 (by decide)) (u2_0 (by decide)) (u2_0 (by decide))⟩
  · rw [mI_sI]; unfold u2
    by_cases e : j = i
    · rw [if_pos ⟨rfl, e⟩, if_pos ⟨rfl, e⟩]
    · rw [if_neg (by omega), if_neg (by omega)]; exact h.v1 hj
  · rw [mI_ne (by omega), u2_0 (by decide)]; exact h.v2 hj
  · rw [mI_ne (by omega), onV_u (A := A) (u2_0 (by decide)) (u2_0 (by decide)) (u2_0 (by decide))]; exact h.v3 hj
theorem lQ.setH (h : lQ c f M0 pw L w z A M) {i : Nat} {v : Int32} : lQ c f M0 pw L w z (u2 A 1 i v) (sI M (pw + 2) i v) := by
  have h9 := h.X.p9
  refine ⟨h.X.far (by omega), h.2.1.wr (by omega), ⟨h.2.2.1.1, h.2.2.1.2.1, fun j hj => ⟨?_, ?_, ?_⟩⟩, onZ_u h.on (u2_0 (by decide)) (u2_0 (by decide)) (u2_0 (by decide))⟩
  · rw [mI_ne (by omega), u2_0 (by decide)]; exact h.v1 hj
  · rw [mI_sI]; unfold u2
    by_cases e : j = i
    · rw [if_pos ⟨rfl, e⟩, if_pos ⟨rfl, e⟩]
    · rw [if_neg (by omega), if_neg (by omega)]; exact h.v2 hj
  · rw [mI_ne (by omega), onV_u (A := A) (u2_0 (by decide)) (u2_0 (by decide)) (u2_0 (by decide))]; exact h.v3 hj
theorem set3_o {A : Pl} {i p j : Nat} {b x y : Int32} (h : p < 2 ∨ ¬ j = i) : set3 A i b x y p j = A p j := by
  unfold set3 u2
  rw [if_neg (by omega), if_neg (by omega), if_neg (by omega)]
theorem lQ.setS (h : lQ c f M0 pw L w z A M) {i b x y : Nat} {dx dy : Int32} (hi : i < L.length) (hb : b < i) (hx : x < 300) (hy : y < 300) (ex : dx + nI 100 = nI x) (ey : dy + nI 100 = nI y) : lQ c f M0 pw L w z (set3 A i (nI b) dx dy) (sI M (pw + 3) i (nI (100000 * (b + 1) + 300 * x + y))) := by
  have h9 := h.X.p9
  have hn := h.X.len
  have s2 : set3 A i (nI b) dx dy 2 i = nI b := by unfold set3 u2; rw [if_neg (by omega), if_neg (by omega), if_pos ⟨rfl, rfl⟩]
  have s3 : set3 A i (nI b) dx dy 3 i = dx := by unfold set3 u2; rw [if_neg (by omega), if_pos ⟨rfl, rfl⟩]
  have s4 : set3 A i (nI b) dx dy 4 i = dy := by unfold set3 u2; rw [if_pos ⟨rfl, rfl⟩]
  refine ⟨h.X.far (by omega), h.2.1.wr (by omega), ⟨h.2.2.1.1, h.2.2.1.2.1, fun j hj => ⟨?_, ?_, ?_⟩⟩, fun j hj => ?_⟩
  · rw [mI_ne (by omega), set3_o (Or.inl (by decide))]; exact h.v1 hj
  · rw [mI_ne (by omega), set3_o (Or.inl (by decide))]; exact h.v2 hj
  · rw [mI_sI]
    by_cases e : j = i
    · subst e
      rw [if_pos ⟨rfl, rfl⟩]
      unfold onV
      rw [s2, s3, s4, ex, ey, cI_f (nI_ne100 (by omega)), gN_nI (by omega), gN_nI (by omega), gN_nI (by omega)]
    · rw [if_neg (by omega), h.v3 hj]
      unfold onV
      rw [set3_o (Or.inr e), set3_o (Or.inr e), set3_o (Or.inr e)]
  · by_cases e : j = i
    · subst e
      rw [s2, s3, s4]
      exact Or.inr ⟨b, x, y, hb, hx, hy, rfl, ex, ey⟩
    · rw [set3_o (Or.inr e), set3_o (Or.inr e), set3_o (Or.inr e)]; exact h.on j hj
end LQ
theorem far_300 {v : Int32} {j : Nat} (h : iFar v) (hj : j < 1024) (e : v + nI 100 = nI j) : j < 300 := by
  have h1 := h.2
  have e1 : v = nI j - nI 100 := by rw [← e, Int32.add_sub_cancel]
  by_cases q : j < 300
  · exact q
  · exfalso
    rw [e1, pk_sub (by omega)] at h1
    have := (nI_leI (by omega) (by decide)).mp h1
    omega
section EQ
variable {g : gG} {fr k n : Nat} {μ : gMu} {pc : Nat} {ls st : List Value} {M : gM} {Q : Option Value ⊕ String → gM → Prop}
theorem E_setV {c : Cf} {f : Nat} {M0 : gM} {pw i : Nat} {L : List Gl} {w z v idx : Int32} {A : Pl} (hd : decode (gcc μ) pc = .ok (.iastore, 1)) (h : lQ c f M0 pw L w z A M) (hx : idx = nI i) (hi : i < L.length)
    (k0 : ∀ M', lQ c f M0 pw L w z (u2 A 0 i v) M' → E g fr k n μ (pc + 1) ls st M' Q) : E g fr k n μ pc ls (.int v :: .int idx :: .ref (pw + 2) :: st) M Q :=
  E_iast hd h.l1 h.k1 hx (by have := h.X.len; omega) (by decide) (k0 _ h.setV)
theorem E_setH {c : Cf} {f : Nat} {M0 : gM} {pw i : Nat} {L : List Gl} {w z v idx : Int32} {A : Pl} (hd : decode (gcc μ) pc = .ok (.iastore, 1)) (h : lQ c f M0 pw L w z A M) (hx : idx = nI i) (hi : i < L.length)
    (k0 : ∀ M', lQ c f M0 pw L w z (u2 A 1 i v) M' → E g fr k n μ (pc + 1) ls st M' Q) : E g fr k n μ pc ls (.int v :: .int idx :: .ref (pw + 3) :: st) M Q :=
  E_iast hd h.l2 h.k2 hx (by have := h.X.len; omega) (by decide) (k0 _ h.setH)
theorem E_setS {c : Cf} {f : Nat} {M0 : gM} {pw i b x y : Nat} {L : List Gl} {w z v idx dx dy : Int32} {A : Pl} (hd : decode (gcc μ) pc = .ok (.iastore, 1)) (h : lQ c f M0 pw L w z A M) (hx : idx = nI i) (hi : i < L.length) (hb : b < i) (hx3 : x < 300) (hy : y < 300) (ex : dx + nI 100 = nI x) (ey : dy + nI 100 = nI y) (hv : v = nI (100000 * (b + 1) + 300 * x + y))
    (k0 : ∀ M', lQ c f M0 pw L w z (set3 A i (nI b) dx dy) M' → E g fr k n μ (pc + 1) ls st M' Q) : E g fr k n μ pc ls (.int v :: .int idx :: .ref (pw + 4) :: st) M Q :=
  E_iast hd h.l3 h.k3 hx (by have := h.X.len; omega) (by decide) (by rw [hv]; exact k0 _ (h.setS hi hb hx3 hy ex ey))
end EQ
set_option maxRecDepth 100000 in
set_option maxHeartbeats 4000000 in
theorem b6_L_placed {g : gG} {M : gM} {Q : Option Value ⊕ String → gM → Prop} {c : Cf} {f : Nat} {M0 : gM} {pw : Nat} {L : List Gl} {w z : Int32} {A : Pl} (hq : lQ c f M0 pw L w z A M) {l : Nat} (hl : l < cN c 129 f) {i : Nat} (hi : i < L.length) (hkd : cN c 130 (12 * f + l) = 6) (K : ∀ M v11 v12 v13, lQ c f M0 pw L w z (prS c f (12 * f + l) L i A) M → E g 5 0 0 mL_placed 458 [.ref (pw + 1), .ref 131, .ref 130, .ref 132, .ref 133, .ref (pw + 2), .ref (pw + 3), .ref (pw + 4), .int (nI (8 * f + l)), .int (nI 6), .int (nI i), v11, v12, v13] [] M Q) : ∀ v11 v12 v13, E g 5 0 0 mL_placed 21 [.ref (pw + 1), .ref 131, .ref 130, .ref 132, .ref 133, .ref (pw + 2), .ref (pw + 3), .ref (pw + 4), .int (nI (8 * f + l)), .int (nI 6), .int (nI i), v11, v12, v13] [] M Q := by
  intro v11 v12 v13
  have h := hq.X
  have hL := h.lay
  have hf := h.f2
  have hn := h.len
  have hct := h.ct
  have hr4 := h.S.r4 (12 * f + l)
  have hmb := mEn_b h.wf (12 * f + l)
  have hbi := pEf_b h.wf f (yN (gat L i))
  refine E_aload_n dL_placed_21 rfl ?_
  refine E_aload_n dL_placed_22 rfl ?_
  refine E_aload dL_placed_23 rfl ?_
  refine E_bipush (v := nI 6) dL_placed_25 (by decide) ?_
  refine E_ialdL (v := nI _) dL_placed_27 (l_132 hL) (k_132 hL) rfl (by omega) (by decide) h.a6 ?_
  refine E_iload dL_placed_28 rfl ?_
  refine E_aload_n dL_placed_30 rfl ?_
  refine E_iload dL_placed_31 rfl ?_
  refine E_laldL (v := pk _) dL_placed_33 h.plt h.pkd rfl (by omega) (by decide) (h.wk (by omega)) ?_
  refine E_callT5 (fr' := 3) (k1 := 0) (n1 := 0) (k2 := 0) (n2 := 0) dL_placed_34 kO_L_passed kL_L_120 (by exact Nat.le_of_ble_eq_true rfl) (by decide) (by exact Nat.le_of_ble_eq_true rfl) (Or.inl rfl) rfl ?_
  refine sp_L_passed (by first | exact h | exact h.S) hf hl (h.ok (by omega)) ?_
  refine gKv ?_
  refine E_if_eq_b (tgt := 43) dL_placed_37 (by decide) (fun c_37 => ?_) (fun c_37 => ?_)
  · refine E_aload_n dL_placed_43 rfl ?_
    refine E_aload_n dL_placed_44 rfl ?_
    refine E_aload_n dL_placed_45 rfl ?_
    refine E_aload dL_placed_46 rfl ?_
    refine E_iload dL_placed_48 rfl ?_
    refine E_iload dL_placed_50 rfl ?_
    refine E_iconst (v := nI 1) dL_placed_52 (by decide) ?_
    refine E_callT7 (fr' := 4) (k1 := 0) (n1 := 0) (k2 := 0) (n2 := 0) dL_placed_53 kO_L_next kL_L_145 (by exact Nat.le_of_ble_eq_true rfl) (by decide) (by exact Nat.le_of_ble_eq_true rfl) (Or.inl rfl) rfl ?_
    refine sp_L_nextF h hl (by omega) (fun hn0 => ?_) (fun hn0 => ?_)
    · refine gKv ?_
      refine E_istore dL_placed_56 (Nat.le_of_ble_eq_true rfl) (by decide) rfl ?_
      refine E_iload dL_placed_58 rfl ?_
      refine E_bipush (v := nI 6) dL_placed_60 (by decide) ?_
      refine E_icmp_ne_r (tgt := 122) dL_placed_62 (by decide) (fun c0 => absurd c0 (by decide)) (fun _ => ?_)
      refine E_iload dL_placed_65 rfl ?_
      refine E_if_lt (tgt := 122) dL_placed_67 (by decide) (fun _ => ?_) (fun c0 => absurd (by decide) c0)
      refine E_iload dL_placed_122 rfl ?_
      refine E_bipush (v := nI 7) dL_placed_124 (by decide) ?_
      refine E_icmp_ne (tgt := 262) dL_placed_126 (by decide) (fun _ => ?_) (fun c0 => absurd (by decide) c0)
      refine E_iload dL_placed_262 rfl ?_
      refine E_bipush (v := nI 8) dL_placed_264 (by decide) ?_
      refine E_icmp_lt (tgt := 458) dL_placed_266 (by decide) (fun _ => ?_) (fun c0 => absurd (by decide) c0)
      first
        | exact K M _ _ _ (by
            have e0 : prS c f (12 * f + l) L i A = u2 A 0 i (A 0 i + rul c (12 * f + l) (prA c f (12 * f + l) L i) 2) := cI_t ⟨⟨c_37, c_80⟩, hn0, by rw [zrA_6 hkd] at hk; exact hk⟩
            rw [e0, ← zrA_6 hkd]
            exact hq)
        | (have e0 : prS c f (12 * f + l) L i A = A := cI_f (fun q => by
             first
               | exact absurd c_37 q.1.1
               | exact hn0 q.2.1
               | exact c_80 q.1.2
               | (rw [zrA_6 hkd] at hk; exact hk q.2.2))
           rw [e0] at K
           exact K M _ _ _ hq)
    · refine gKv ?_
      refine E_istore dL_placed_56 (Nat.le_of_ble_eq_true rfl) (by decide) rfl ?_
      refine E_iload dL_placed_58 rfl ?_
      refine E_bipush (v := nI 6) dL_placed_60 (by decide) ?_
      refine E_icmp_ne_r (tgt := 122) dL_placed_62 (by decide) (fun c0 => absurd c0 (by decide)) (fun _ => ?_)
      refine E_iload dL_placed_65 rfl ?_
      refine E_if_lt_n (tgt := 122) dL_placed_67 (by decide) (by omega) ?_
      refine E_aload_n dL_placed_70 rfl ?_
      refine E_iload dL_placed_71 rfl ?_
      refine E_aload_n dL_placed_73 rfl ?_
      refine E_iload dL_placed_74 rfl ?_
      refine E_laldL (v := pk _) dL_placed_76 h.plt h.pkd rfl (by omega) (by decide) (h.wk (by omega)) ?_
      refine E_callT3 (fr' := 2) (k1 := 0) (n1 := 0) (k2 := 0) (n2 := 0) dL_placed_77 kO_L_has kL_L_165 (by exact Nat.le_of_ble_eq_true rfl) (by decide) (by exact Nat.le_of_ble_eq_true rfl) (Or.inl rfl) rfl ?_
      refine sp_L_has (by first | exact h | exact h.S) hf hl (h.ok (by omega)) ?_
      refine gKv ?_
      refine E_if_eq_b (tgt := 122) dL_placed_80 (by decide) (fun c_80 => ?_) (fun c_80 => ?_)
      · refine E_iload dL_placed_122 rfl ?_
        refine E_bipush (v := nI 7) dL_placed_124 (by decide) ?_
        refine E_icmp_ne (tgt := 262) dL_placed_126 (by decide) (fun _ => ?_) (fun c0 => absurd (by decide) c0)
        refine E_iload dL_placed_262 rfl ?_
        refine E_bipush (v := nI 8) dL_placed_264 (by decide) ?_
        refine E_icmp_lt (tgt := 458) dL_placed_266 (by decide) (fun _ => ?_) (fun c0 => absurd (by decide) c0)
        first
          | exact K M _ _ _ (by
              have e0 : prS c f (12 * f + l) L i A = u2 A 0 i (A 0 i + rul c (12 * f + l) (prA c f (12 * f + l) L i) 2) := cI_t ⟨⟨c_37, c_80⟩, hn0, by rw [zrA_6 hkd] at hk; exact hk⟩
              rw [e0, ← zrA_6 hkd]
              exact hq)
          | (have e0 : prS c f (12 * f + l) L i A = A := cI_f (fun q => by
               first
                 | exact absurd c_37 q.1.1
                 | exact hn0 q.2.1
                 | exact c_80 q.1.2
                 | (rw [zrA_6 hkd] at hk; exact hk q.2.2))
             rw [e0] at K
             exact K M _ _ _ hq)
      · refine E_aload_n dL_placed_83 rfl ?_
        refine E_aload_n dL_placed_84 rfl ?_
        refine E_aload_n dL_placed_85 rfl ?_
        refine E_aload_n dL_placed_86 rfl ?_
        refine E_aload dL_placed_87 rfl ?_
        refine E_iload dL_placed_89 rfl ?_
        refine E_iload dL_placed_91 rfl ?_
        refine E_iload dL_placed_93 rfl ?_
        refine E_callT8 (fr' := 3) (k1 := 0) (n1 := 0) (k2 := 0) (n2 := 0) dL_placed_95 kO_L_first kL_L_189 (by exact Nat.le_of_ble_eq_true rfl) (by decide) (by exact Nat.le_of_ble_eq_true rfl) (Or.inl rfl) rfl ?_
        refine sp_L_first h hl hi hn0 (fun hk => ?_) (fun hk => ?_)
        · refine gKv ?_
          refine E_istore dL_placed_98 (Nat.le_of_ble_eq_true rfl) (by decide) rfl ?_
          refine E_iload dL_placed_100 rfl ?_
          refine E_if_lt (tgt := 122) dL_placed_102 (by decide) (fun _ => ?_) (fun c0 => absurd (by decide) c0)
          refine E_iload dL_placed_122 rfl ?_
          refine E_bipush (v := nI 7) dL_placed_124 (by decide) ?_
          refine E_icmp_ne (tgt := 262) dL_placed_126 (by decide) (fun _ => ?_) (fun c0 => absurd (by decide) c0)
          refine E_iload dL_placed_262 rfl ?_
          refine E_bipush (v := nI 8) dL_placed_264 (by decide) ?_
          refine E_icmp_lt (tgt := 458) dL_placed_266 (by decide) (fun _ => ?_) (fun c0 => absurd (by decide) c0)
          first
            | exact K M _ _ _ (by
                have e0 : prS c f (12 * f + l) L i A = u2 A 0 i (A 0 i + rul c (12 * f + l) (prA c f (12 * f + l) L i) 2) := cI_t ⟨⟨c_37, c_80⟩, hn0, by rw [zrA_6 hkd] at hk; exact hk⟩
                rw [e0, ← zrA_6 hkd]
                exact hq)
            | (have e0 : prS c f (12 * f + l) L i A = A := cI_f (fun q => by
                 first
                   | exact absurd c_37 q.1.1
                   | exact hn0 q.2.1
                   | exact c_80 q.1.2
                   | (rw [zrA_6 hkd] at hk; exact hk q.2.2))
               rw [e0] at K
               exact K M _ _ _ hq)
        · refine gKv ?_
          refine E_istore dL_placed_98 (Nat.le_of_ble_eq_true rfl) (by decide) rfl ?_
          refine E_iload dL_placed_100 rfl ?_
          refine E_if_lt_n (tgt := 122) dL_placed_102 (by decide) (by omega) ?_
          refine E_aload dL_placed_105 rfl ?_
          refine E_iload dL_placed_107 rfl ?_
          refine E_dup2 dL_placed_109 rfl rfl ?_
          refine E_ialdL (v := _) dL_placed_110 (hq.l1) (hq.k1) rfl (by omega) (by decide) (hq.v1 hi) ?_
          refine E_aload_n dL_placed_111 rfl ?_
          refine E_iload dL_placed_112 rfl ?_
          refine E_iload dL_placed_114 rfl ?_
          refine E_iconst (v := nI 2) dL_placed_116 (by decide) ?_
          refine E_callT4 (fr' := 1) (k1 := 0) (n1 := 0) (k2 := 0) (n2 := 0) dL_placed_117 kO_L_number kL_L_124 (by exact Nat.le_of_ble_eq_true rfl) (by decide) (by exact Nat.le_of_ble_eq_true rfl) (Or.inl rfl) rfl ?_
          refine sp_L_number (by first | exact h | exact h.S) hf hl (by omega) (by decide) ?_
          refine gKv ?_
          refine E_iadd dL_placed_120 ?_
          refine E_setV dL_placed_121 hq rfl hi (fun M hq => ?_)
          have h := hq.X
          have hL := h.lay
          refine E_iload dL_placed_122 rfl ?_
          refine E_bipush (v := nI 7) dL_placed_124 (by decide) ?_
          refine E_icmp_ne (tgt := 262) dL_placed_126 (by decide) (fun _ => ?_) (fun c0 => absurd (by decide) c0)
          refine E_iload dL_placed_262 rfl ?_
          refine E_bipush (v := nI 8) dL_placed_264 (by decide) ?_
          refine E_icmp_lt (tgt := 458) dL_placed_266 (by decide) (fun _ => ?_) (fun c0 => absurd (by decide) c0)
          first
            | exact K M _ _ _ (by
                have e0 : prS c f (12 * f + l) L i A = u2 A 0 i (A 0 i + rul c (12 * f + l) (prA c f (12 * f + l) L i) 2) := cI_t ⟨⟨c_37, c_80⟩, hn0, by rw [zrA_6 hkd] at hk; exact hk⟩
                rw [e0, ← zrA_6 hkd]
                exact hq)
            | (have e0 : prS c f (12 * f + l) L i A = A := cI_f (fun q => by
                 first
                   | exact absurd c_37 q.1.1
                   | exact hn0 q.2.1
                   | exact c_80 q.1.2
                   | (rw [zrA_6 hkd] at hk; exact hk q.2.2))
               rw [e0] at K
               exact K M _ _ _ hq)
  · refine E_goto (tgt := 458) dL_placed_40 (by decide) ?_
    first
      | exact K M _ _ _ (by
          have e0 : prS c f (12 * f + l) L i A = u2 A 0 i (A 0 i + rul c (12 * f + l) (prA c f (12 * f + l) L i) 2) := cI_t ⟨⟨c_37, c_80⟩, hn0, by rw [zrA_6 hkd] at hk; exact hk⟩
          rw [e0, ← zrA_6 hkd]
          exact hq)
      | (have e0 : prS c f (12 * f + l) L i A = A := cI_f (fun q => by
           first
             | exact absurd c_37 q.1.1
             | exact hn0 q.2.1
             | exact c_80 q.1.2
             | (rw [zrA_6 hkd] at hk; exact hk q.2.2))
         rw [e0] at K
         exact K M _ _ _ hq)
set_option maxRecDepth 100000 in
set_option maxHeartbeats 4000000 in
theorem b7_L_placed {g : gG} {M : gM} {Q : Option Value ⊕ String → gM → Prop} {c : Cf} {f : Nat} {M0 : gM} {pw : Nat} {L : List Gl} {w z : Int32} {A : Pl} (hq : lQ c f M0 pw L w z A M) {l : Nat} (hl : l < cN c 129 f) {i : Nat} (hi : i < L.length) (hkd : cN c 130 (12 * f + l) = 7) (K : ∀ M v11 v12 v13, lQ c f M0 pw L w z (crS c f (12 * f + l) L i A) M → E g 5 0 0 mL_placed 458 [.ref (pw + 1), .ref 131, .ref 130, .ref 132, .ref 133, .ref (pw + 2), .ref (pw + 3), .ref (pw + 4), .int (nI (8 * f + l)), .int (nI 7), .int (nI i), v11, v12, v13] [] M Q) : ∀ v11 v12 v13, E g 5 0 0 mL_placed 21 [.ref (pw + 1), .ref 131, .ref 130, .ref 132, .ref 133, .ref (pw + 2), .ref (pw + 3), .ref (pw + 4), .int (nI (8 * f + l)), .int (nI 7), .int (nI i), v11, v12, v13] [] M Q := by
  intro v11 v12 v13
  have h := hq.X
  have hL := h.lay
  have hf := h.f2
  have hn := h.len
  have hct := h.ct
  have hr4 := h.S.r4 (12 * f + l)
  have hmb := mEn_b h.wf (12 * f + l)
  have hbi := pEf_b h.wf f (yN (gat L i))
  refine E_aload_n dL_placed_21 rfl ?_
  refine E_aload_n dL_placed_22 rfl ?_
  refine E_aload dL_placed_23 rfl ?_
  refine E_bipush (v := nI 6) dL_placed_25 (by decide) ?_
  refine E_ialdL (v := nI _) dL_placed_27 (l_132 hL) (k_132 hL) rfl (by omega) (by decide) h.a6 ?_
  refine E_iload dL_placed_28 rfl ?_
  refine E_aload_n dL_placed_30 rfl ?_
  refine E_iload dL_placed_31 rfl ?_
  refine E_laldL (v := pk _) dL_placed_33 h.plt h.pkd rfl (by omega) (by decide) (h.wk (by omega)) ?_
  refine E_callT5 (fr' := 3) (k1 := 0) (n1 := 0) (k2 := 0) (n2 := 0) dL_placed_34 kO_L_passed kL_L_120 (by exact Nat.le_of_ble_eq_true rfl) (by decide) (by exact Nat.le_of_ble_eq_true rfl) (Or.inl rfl) rfl ?_
  refine sp_L_passed (by first | exact h | exact h.S) hf hl (h.ok (by omega)) ?_
  refine gKv ?_
  refine E_if_eq_b (tgt := 43) dL_placed_37 (by decide) (fun c_37 => ?_) (fun c_37 => ?_)
  · refine E_aload_n dL_placed_43 rfl ?_
    refine E_aload_n dL_placed_44 rfl ?_
    refine E_aload_n dL_placed_45 rfl ?_
    refine E_aload dL_placed_46 rfl ?_
    refine E_iload dL_placed_48 rfl ?_
    refine E_iload dL_placed_50 rfl ?_
    refine E_iconst (v := nI 1) dL_placed_52 (by decide) ?_
    refine E_callT7 (fr' := 4) (k1 := 0) (n1 := 0) (k2 := 0) (n2 := 0) dL_placed_53 kO_L_next kL_L_145 (by exact Nat.le_of_ble_eq_true rfl) (by decide) (by exact Nat.le_of_ble_eq_true rfl) (Or.inl rfl) rfl ?_
    refine sp_L_nextF h hl (by omega) (fun hn0 => ?_) (fun hn0 => ?_)
    · refine gKv ?_
      refine E_istore dL_placed_56 (Nat.le_of_ble_eq_true rfl) (by decide) rfl ?_
      refine E_iload dL_placed_58 rfl ?_
      refine E_bipush (v := nI 6) dL_placed_60 (by decide) ?_
      refine E_icmp_ne (tgt := 122) dL_placed_62 (by decide) (fun _ => ?_) (fun c0 => absurd (by decide) c0)
      refine E_iload dL_placed_122 rfl ?_
      refine E_bipush (v := nI 7) dL_placed_124 (by decide) ?_
      refine E_icmp_ne_r (tgt := 262) dL_placed_126 (by decide) (fun c0 => absurd c0 (by decide)) (fun _ => ?_)
      refine E_iload dL_placed_129 rfl ?_
      refine E_if_lt (tgt := 262) dL_placed_131 (by decide) (fun _ => ?_) (fun c0 => absurd (by decide) c0)
      refine E_iload dL_placed_262 rfl ?_
      refine E_bipush (v := nI 8) dL_placed_264 (by decide) ?_
      refine E_icmp_lt (tgt := 458) dL_placed_266 (by decide) (fun _ => ?_) (fun c0 => absurd (by decide) c0)
      first
        | exact K M _ _ _ (by
            have r1 : rfA c f (12 * f + l) L i < cN c 135 (12 * f + l) := by rw [zrA_7 hkd] at hk; exact hk
            have r2 : rfA c f (12 * f + l) L (aft c f (12 * f + l) L i) < cN c 135 (12 * f + l) := by rw [zrA_7 hkd] at hk2; exact hk2
            have e0 : crS c f (12 * f + l) L i A = crU c f (12 * f + l) L i (aft c f (12 * f + l) L i) A := cI_t ⟨c_37, hn0, c_144, c_157⟩
            have e1 : crU c f (12 * f + l) L i (aft c f (12 * f + l) L i) A = _ := cI_t ⟨r1, r2, by rw [← zrA_7 hkd]; exact c_215, by rw [← zrA_7 hkd]; exact c_229⟩
            rw [e0, e1, ← zrA_7 hkd, ← zrA_7 hkd]
            exact hq)
        | (have e0 : crS c f (12 * f + l) L i A = A := by
             by_cases q : crG c f (12 * f + l) L i
             · have e1 : crU c f (12 * f + l) L i (aft c f (12 * f + l) L i) A = A := cI_f (fun q2 => by
                 first
                   | exact absurd c_37 q.1
                   | exact hn0 q.2.1
                   | exact c_144 q.2.2.1
                   | exact c_157 q.2.2.2
                   | (rw [zrA_7 hkd] at hk; exact hk q2.1)
                   | (rw [zrA_7 hkd] at hk2; exact hk2 q2.2.1)
                   | (rw [zrA_7 hkd] at c_215; exact q2.2.2.1 c_215)
                   | (rw [zrA_7 hkd] at c_229; exact q2.2.2.2 c_229))
               exact (cI_t q).trans e1
             · exact cI_f q
           rw [e0] at K
           exact K M _ _ _ hq)
    · refine gKv ?_
      refine E_istore dL_placed_56 (Nat.le_of_ble_eq_true rfl) (by decide) rfl ?_
      refine E_iload dL_placed_58 rfl ?_
      refine E_bipush (v := nI 6) dL_placed_60 (by decide) ?_
      refine E_icmp_ne (tgt := 122) dL_placed_62 (by decide) (fun _ => ?_) (fun c0 => absurd (by decide) c0)
      refine E_iload dL_placed_122 rfl ?_
      refine E_bipush (v := nI 7) dL_placed_124 (by decide) ?_
      refine E_icmp_ne_r (tgt := 262) dL_placed_126 (by decide) (fun c0 => absurd c0 (by decide)) (fun _ => ?_)
      refine E_iload dL_placed_129 rfl ?_
      refine E_if_lt_n (tgt := 262) dL_placed_131 (by decide) (by omega) ?_
      refine E_aload_n dL_placed_134 rfl ?_
      refine E_iload dL_placed_135 rfl ?_
      refine E_aload_n dL_placed_137 rfl ?_
      refine E_iload dL_placed_138 rfl ?_
      refine E_laldL (v := pk _) dL_placed_140 h.plt h.pkd rfl (by omega) (by decide) (h.wk (by omega)) ?_
      refine E_callT3 (fr' := 2) (k1 := 0) (n1 := 0) (k2 := 0) (n2 := 0) dL_placed_141 kO_L_has kL_L_165 (by exact Nat.le_of_ble_eq_true rfl) (by decide) (by exact Nat.le_of_ble_eq_true rfl) (Or.inl rfl) rfl ?_
      refine sp_L_has (by first | exact h | exact h.S) hf hl (h.ok (by omega)) ?_
      refine gKv ?_
      refine E_if_eq_b (tgt := 262) dL_placed_144 (by decide) (fun c_144 => ?_) (fun c_144 => ?_)
      · refine E_iload dL_placed_262 rfl ?_
        refine E_bipush (v := nI 8) dL_placed_264 (by decide) ?_
        refine E_icmp_lt (tgt := 458) dL_placed_266 (by decide) (fun _ => ?_) (fun c0 => absurd (by decide) c0)
        first
          | exact K M _ _ _ (by
              have r1 : rfA c f (12 * f + l) L i < cN c 135 (12 * f + l) := by rw [zrA_7 hkd] at hk; exact hk
              have r2 : rfA c f (12 * f + l) L (aft c f (12 * f + l) L i) < cN c 135 (12 * f + l) := by rw [zrA_7 hkd] at hk2; exact hk2
              have e0 : crS c f (12 * f + l) L i A = crU c f (12 * f + l) L i (aft c f (12 * f + l) L i) A := cI_t ⟨c_37, hn0, c_144, c_157⟩
              have e1 : crU c f (12 * f + l) L i (aft c f (12 * f + l) L i) A = _ := cI_t ⟨r1, r2, by rw [← zrA_7 hkd]; exact c_215, by rw [← zrA_7 hkd]; exact c_229⟩
              rw [e0, e1, ← zrA_7 hkd, ← zrA_7 hkd]
              exact hq)
          | (have e0 : crS c f (12 * f + l) L i A = A := by
               by_cases q : crG c f (12 * f + l) L i
               · have e1 : crU c f (12 * f + l) L i (aft c f (12 * f + l) L i) A = A := cI_f (fun q2 => by
                   first
                     | exact absurd c_37 q.1
                     | exact hn0 q.2.1
                     | exact c_144 q.2.2.1
                     | exact c_157 q.2.2.2
                     | (rw [zrA_7 hkd] at hk; exact hk q2.1)
                     | (rw [zrA_7 hkd] at hk2; exact hk2 q2.2.1)
                     | (rw [zrA_7 hkd] at c_215; exact q2.2.2.1 c_215)
                     | (rw [zrA_7 hkd] at c_229; exact q2.2.2.2 c_229))
                 exact (cI_t q).trans e1
               · exact cI_f q
             rw [e0] at K
             exact K M _ _ _ hq)
      · refine E_aload_n dL_placed_147 rfl ?_
        refine E_iload dL_placed_148 rfl ?_
        refine E_aload_n dL_placed_150 rfl ?_
        refine E_iload dL_placed_151 rfl ?_
        refine E_laldL (v := pk _) dL_placed_153 h.plt h.pkd rfl (by omega) (by decide) (h.wk (by omega)) ?_
        refine E_callT3 (fr' := 2) (k1 := 0) (n1 := 0) (k2 := 0) (n2 := 0) dL_placed_154 kO_L_has kL_L_165 (by exact Nat.le_of_ble_eq_true rfl) (by decide) (by exact Nat.le_of_ble_eq_true rfl) (Or.inl rfl) rfl ?_
        refine sp_L_has (by first | exact h | exact h.S) hf hl (h.ok (by omega)) ?_
        refine gKv ?_
        refine E_if_eq_b (tgt := 262) dL_placed_157 (by decide) (fun c_157 => ?_) (fun c_157 => ?_)
        · refine E_iload dL_placed_262 rfl ?_
          refine E_bipush (v := nI 8) dL_placed_264 (by decide) ?_
          refine E_icmp_lt (tgt := 458) dL_placed_266 (by decide) (fun _ => ?_) (fun c0 => absurd (by decide) c0)
          first
            | exact K M _ _ _ (by
                have r1 : rfA c f (12 * f + l) L i < cN c 135 (12 * f + l) := by rw [zrA_7 hkd] at hk; exact hk
                have r2 : rfA c f (12 * f + l) L (aft c f (12 * f + l) L i) < cN c 135 (12 * f + l) := by rw [zrA_7 hkd] at hk2; exact hk2
                have e0 : crS c f (12 * f + l) L i A = crU c f (12 * f + l) L i (aft c f (12 * f + l) L i) A := cI_t ⟨c_37, hn0, c_144, c_157⟩
                have e1 : crU c f (12 * f + l) L i (aft c f (12 * f + l) L i) A = _ := cI_t ⟨r1, r2, by rw [← zrA_7 hkd]; exact c_215, by rw [← zrA_7 hkd]; exact c_229⟩
                rw [e0, e1, ← zrA_7 hkd, ← zrA_7 hkd]
                exact hq)
            | (have e0 : crS c f (12 * f + l) L i A = A := by
                 by_cases q : crG c f (12 * f + l) L i
                 · have e1 : crU c f (12 * f + l) L i (aft c f (12 * f + l) L i) A = A := cI_f (fun q2 => by
                     first
                       | exact absurd c_37 q.1
                       | exact hn0 q.2.1
                       | exact c_144 q.2.2.1
                       | exact c_157 q.2.2.2
                       | (rw [zrA_7 hkd] at hk; exact hk q2.1)
                       | (rw [zrA_7 hkd] at hk2; exact hk2 q2.2.1)
                       | (rw [zrA_7 hkd] at c_215; exact q2.2.2.1 c_215)
                       | (rw [zrA_7 hkd] at c_229; exact q2.2.2.2 c_229))
                   exact (cI_t q).trans e1
                 · exact cI_f q
               rw [e0] at K
               exact K M _ _ _ hq)
        · refine E_aload_n dL_placed_160 rfl ?_
          refine E_aload_n dL_placed_161 rfl ?_
          refine E_aload_n dL_placed_162 rfl ?_
          refine E_aload_n dL_placed_163 rfl ?_
          refine E_aload dL_placed_164 rfl ?_
          refine E_iload dL_placed_166 rfl ?_
          refine E_iload dL_placed_168 rfl ?_
          refine E_iload dL_placed_170 rfl ?_
          refine E_callT8 (fr' := 3) (k1 := 0) (n1 := 0) (k2 := 0) (n2 := 0) dL_placed_172 kO_L_first kL_L_189 (by exact Nat.le_of_ble_eq_true rfl) (by decide) (by exact Nat.le_of_ble_eq_true rfl) (Or.inl rfl) rfl ?_
          refine sp_L_first h hl hi hi (fun hk => ?_) (fun hk => ?_)
          · refine gKv ?_
            refine E_istore dL_placed_175 (Nat.le_of_ble_eq_true rfl) (by decide) rfl ?_
            refine E_aload_n dL_placed_177 rfl ?_
            refine E_aload_n dL_placed_178 rfl ?_
            refine E_aload_n dL_placed_179 rfl ?_
            refine E_aload_n dL_placed_180 rfl ?_
            refine E_aload dL_placed_181 rfl ?_
            refine E_iload dL_placed_183 rfl ?_
            refine E_iload dL_placed_185 rfl ?_
            refine E_iload dL_placed_187 rfl ?_
            refine E_callT8 (fr' := 3) (k1 := 0) (n1 := 0) (k2 := 0) (n2 := 0) dL_placed_189 kO_L_first kL_L_189 (by exact Nat.le_of_ble_eq_true rfl) (by decide) (by exact Nat.le_of_ble_eq_true rfl) (Or.inl rfl) rfl ?_
            refine sp_L_first h hl hn0 hn0 (fun hk2 => ?_) (fun hk2 => ?_)
            · refine gKv ?_
              refine E_istore dL_placed_192 (Nat.le_of_ble_eq_true rfl) (by decide) rfl ?_
              refine E_iload dL_placed_194 rfl ?_
              refine E_if_lt (tgt := 262) dL_placed_196 (by decide) (fun _ => ?_) (fun c0 => absurd (by decide) c0)
              refine E_iload dL_placed_262 rfl ?_
              refine E_bipush (v := nI 8) dL_placed_264 (by decide) ?_
              refine E_icmp_lt (tgt := 458) dL_placed_266 (by decide) (fun _ => ?_) (fun c0 => absurd (by decide) c0)
              first
                | exact K M _ _ _ (by
                    have r1 : rfA c f (12 * f + l) L i < cN c 135 (12 * f + l) := by rw [zrA_7 hkd] at hk; exact hk
                    have r2 : rfA c f (12 * f + l) L (aft c f (12 * f + l) L i) < cN c 135 (12 * f + l) := by rw [zrA_7 hkd] at hk2; exact hk2
                    have e0 : crS c f (12 * f + l) L i A = crU c f (12 * f + l) L i (aft c f (12 * f + l) L i) A := cI_t ⟨c_37, hn0, c_144, c_157⟩
                    have e1 : crU c f (12 * f + l) L i (aft c f (12 * f + l) L i) A = _ := cI_t ⟨r1, r2, by rw [← zrA_7 hkd]; exact c_215, by rw [← zrA_7 hkd]; exact c_229⟩
                    rw [e0, e1, ← zrA_7 hkd, ← zrA_7 hkd]
                    exact hq)
                | (have e0 : crS c f (12 * f + l) L i A = A := by
                     by_cases q : crG c f (12 * f + l) L i
                     · have e1 : crU c f (12 * f + l) L i (aft c f (12 * f + l) L i) A = A := cI_f (fun q2 => by
                         first
                           | exact absurd c_37 q.1
                           | exact hn0 q.2.1
                           | exact c_144 q.2.2.1
                           | exact c_157 q.2.2.2
                           | (rw [zrA_7 hkd] at hk; exact hk q2.1)
                           | (rw [zrA_7 hkd] at hk2; exact hk2 q2.2.1)
                           | (rw [zrA_7 hkd] at c_215; exact q2.2.2.1 c_215)
                           | (rw [zrA_7 hkd] at c_229; exact q2.2.2.2 c_229))
                       exact (cI_t q).trans e1
                     · exact cI_f q
                   rw [e0] at K
                   exact K M _ _ _ hq)
            · refine gKv ?_
              refine E_istore dL_placed_192 (Nat.le_of_ble_eq_true rfl) (by decide) rfl ?_
              refine E_iload dL_placed_194 rfl ?_
              refine E_if_lt (tgt := 262) dL_placed_196 (by decide) (fun _ => ?_) (fun c0 => absurd (by decide) c0)
              refine E_iload dL_placed_262 rfl ?_
              refine E_bipush (v := nI 8) dL_placed_264 (by decide) ?_
              refine E_icmp_lt (tgt := 458) dL_placed_266 (by decide) (fun _ => ?_) (fun c0 => absurd (by decide) c0)
              first
                | exact K M _ _ _ (by
                    have r1 : rfA c f (12 * f + l) L i < cN c 135 (12 * f + l) := by rw [zrA_7 hkd] at hk; exact hk
                    have r2 : rfA c f (12 * f + l) L (aft c f (12 * f + l) L i) < cN c 135 (12 * f + l) := by rw [zrA_7 hkd] at hk2; exact hk2
                    have e0 : crS c f (12 * f + l) L i A = crU c f (12 * f + l) L i (aft c f (12 * f + l) L i) A := cI_t ⟨c_37, hn0, c_144, c_157⟩
                    have e1 : crU c f (12 * f + l) L i (aft c f (12 * f + l) L i) A = _ := cI_t ⟨r1, r2, by rw [← zrA_7 hkd]; exact c_215, by rw [← zrA_7 hkd]; exact c_229⟩
                    rw [e0, e1, ← zrA_7 hkd, ← zrA_7 hkd]
                    exact hq)
                | (have e0 : crS c f (12 * f + l) L i A = A := by
                     by_cases q : crG c f (12 * f + l) L i
                     · have e1 : crU c f (12 * f + l) L i (aft c f (12 * f + l) L i) A = A := cI_f (fun q2 => by
                         first
                           | exact absurd c_37 q.1
                           | exact hn0 q.2.1
                           | exact c_144 q.2.2.1
                           | exact c_157 q.2.2.2
                           | (rw [zrA_7 hkd] at hk; exact hk q2.1)
                           | (rw [zrA_7 hkd] at hk2; exact hk2 q2.2.1)
                           | (rw [zrA_7 hkd] at c_215; exact q2.2.2.1 c_215)
                           | (rw [zrA_7 hkd] at c_229; exact q2.2.2.2 c_229))
                       exact (cI_t q).trans e1
                     · exact cI_f q
                   rw [e0] at K
                   exact K M _ _ _ hq)
          · refine gKv ?_
            refine E_istore dL_placed_175 (Nat.le_of_ble_eq_true rfl) (by decide) rfl ?_
            refine E_aload_n dL_placed_177 rfl ?_
            refine E_aload_n dL_placed_178 rfl ?_
            refine E_aload_n dL_placed_179 rfl ?_
            refine E_aload_n dL_placed_180 rfl ?_
            refine E_aload dL_placed_181 rfl ?_
            refine E_iload dL_placed_183 rfl ?_
            refine E_iload dL_placed_185 rfl ?_
            refine E_iload dL_placed_187 rfl ?_
            refine E_callT8 (fr' := 3) (k1 := 0) (n1 := 0) (k2 := 0) (n2 := 0) dL_placed_189 kO_L_first kL_L_189 (by exact Nat.le_of_ble_eq_true rfl) (by decide) (by exact Nat.le_of_ble_eq_true rfl) (Or.inl rfl) rfl ?_
            refine sp_L_first h hl hn0 hn0 (fun hk2 => ?_) (fun hk2 => ?_)
            · refine gKv ?_
              refine E_istore dL_placed_192 (Nat.le_of_ble_eq_true rfl) (by decide) rfl ?_
              refine E_iload dL_placed_194 rfl ?_
              refine E_if_lt_n (tgt := 262) dL_placed_196 (by decide) (by omega) ?_
              refine E_iload dL_placed_199 rfl ?_
              refine E_if_lt (tgt := 262) dL_placed_201 (by decide) (fun _ => ?_) (fun c0 => absurd (by decide) c0)
              refine E_iload dL_placed_262 rfl ?_
              refine E_bipush (v := nI 8) dL_placed_264 (by decide) ?_
              refine E_icmp_lt (tgt := 458) dL_placed_266 (by decide) (fun _ => ?_) (fun c0 => absurd (by decide) c0)
              first
                | exact K M _ _ _ (by
                    have r1 : rfA c f (12 * f + l) L i < cN c 135 (12 * f + l) := by rw [zrA_7 hkd] at hk; exact hk
                    have r2 : rfA c f (12 * f + l) L (aft c f (12 * f + l) L i) < cN c 135 (12 * f + l) := by rw [zrA_7 hkd] at hk2; exact hk2
                    have e0 : crS c f (12 * f + l) L i A = crU c f (12 * f + l) L i (aft c f (12 * f + l) L i) A := cI_t ⟨c_37, hn0, c_144, c_157⟩
                    have e1 : crU c f (12 * f + l) L i (aft c f (12 * f + l) L i) A = _ := cI_t ⟨r1, r2, by rw [← zrA_7 hkd]; exact c_215, by rw [← zrA_7 hkd]; exact c_229⟩
                    rw [e0, e1, ← zrA_7 hkd, ← zrA_7 hkd]
                    exact hq)
                | (have e0 : crS c f (12 * f + l) L i A = A := by
                     by_cases q : crG c f (12 * f + l) L i
                     · have e1 : crU c f (12 * f + l) L i (aft c f (12 * f + l) L i) A = A := cI_f (fun q2 => by
                         first
                           | exact absurd c_37 q.1
                           | exact hn0 q.2.1
                           | exact c_144 q.2.2.1
                           | exact c_157 q.2.2.2
                           | (rw [zrA_7 hkd] at hk; exact hk q2.1)
                           | (rw [zrA_7 hkd] at hk2; exact hk2 q2.2.1)
                           | (rw [zrA_7 hkd] at c_215; exact q2.2.2.1 c_215)
                           | (rw [zrA_7 hkd] at c_229; exact q2.2.2.2 c_229))
                       exact (cI_t q).trans e1
                     · exact cI_f q
                   rw [e0] at K
                   exact K M _ _ _ hq)
            · refine gKv ?_
              refine E_istore dL_placed_192 (Nat.le_of_ble_eq_true rfl) (by decide) rfl ?_
              refine E_iload dL_placed_194 rfl ?_
              refine E_if_lt_n (tgt := 262) dL_placed_196 (by decide) (by omega) ?_
              refine E_iload dL_placed_199 rfl ?_
              refine E_if_lt_n (tgt := 262) dL_placed_201 (by decide) (by omega) ?_
              refine E_aload_n dL_placed_204 rfl ?_
              refine E_iload dL_placed_205 rfl ?_
              refine E_iload dL_placed_207 rfl ?_
              refine E_iconst (v := nI 2) dL_placed_209 (by decide) ?_
              refine E_callT4 (fr' := 1) (k1 := 0) (n1 := 0) (k2 := 0) (n2 := 0) dL_placed_210 kO_L_number kL_L_124 (by exact Nat.le_of_ble_eq_true rfl) (by decide) (by exact Nat.le_of_ble_eq_true rfl) (Or.inl rfl) rfl ?_
              refine sp_L_number (by first | exact h | exact h.S) hf hl (by omega) (by decide) ?_
              refine gKv ?_
              refine E_bipush (v := -100) dL_placed_213 (by decide) ?_
              refine E_icmp_eq (tgt := 262) dL_placed_215 (by decide) (fun c_215 => ?_) (fun c_215 => ?_)
              · refine E_iload dL_placed_262 rfl ?_
                refine E_bipush (v := nI 8) dL_placed_264 (by decide) ?_
                refine E_icmp_lt (tgt := 458) dL_placed_266 (by decide) (fun _ => ?_) (fun c0 => absurd (by decide) c0)
                first
                  | exact K M _ _ _ (by
                      have r1 : rfA c f (12 * f + l) L i < cN c 135 (12 * f + l) := by rw [zrA_7 hkd] at hk; exact hk
                      have r2 : rfA c f (12 * f + l) L (aft c f (12 * f + l) L i) < cN c 135 (12 * f + l) := by rw [zrA_7 hkd] at hk2; exact hk2
                      have e0 : crS c f (12 * f + l) L i A = crU c f (12 * f + l) L i (aft c f (12 * f + l) L i) A := cI_t ⟨c_37, hn0, c_144, c_157⟩
                      have e1 : crU c f (12 * f + l) L i (aft c f (12 * f + l) L i) A = _ := cI_t ⟨r1, r2, by rw [← zrA_7 hkd]; exact c_215, by rw [← zrA_7 hkd]; exact c_229⟩
                      rw [e0, e1, ← zrA_7 hkd, ← zrA_7 hkd]
                      exact hq)
                  | (have e0 : crS c f (12 * f + l) L i A = A := by
                       by_cases q : crG c f (12 * f + l) L i
                       · have e1 : crU c f (12 * f + l) L i (aft c f (12 * f + l) L i) A = A := cI_f (fun q2 => by
                           first
                             | exact absurd c_37 q.1
                             | exact hn0 q.2.1
                             | exact c_144 q.2.2.1
                             | exact c_157 q.2.2.2
                             | (rw [zrA_7 hkd] at hk; exact hk q2.1)
                             | (rw [zrA_7 hkd] at hk2; exact hk2 q2.2.1)
                             | (rw [zrA_7 hkd] at c_215; exact q2.2.2.1 c_215)
                             | (rw [zrA_7 hkd] at c_229; exact q2.2.2.2 c_229))
                         exact (cI_t q).trans e1
                       · exact cI_f q
                     rw [e0] at K
                     exact K M _ _ _ hq)
              · refine E_aload_n dL_placed_218 rfl ?_
                refine E_iload dL_placed_219 rfl ?_
                refine E_iload dL_placed_221 rfl ?_
                refine E_iconst (v := nI 1) dL_placed_223 (by decide) ?_
                refine E_callT4 (fr' := 1) (k1 := 0) (n1 := 0) (k2 := 0) (n2 := 0) dL_placed_224 kO_L_number kL_L_124 (by exact Nat.le_of_ble_eq_true rfl) (by decide) (by exact Nat.le_of_ble_eq_true rfl) (Or.inl rfl) rfl ?_
                refine sp_L_number (by first | exact h | exact h.S) hf hl (by omega) (by decide) ?_
                refine gKv ?_
                refine E_bipush (v := -100) dL_placed_227 (by decide) ?_
                refine E_icmp_eq (tgt := 262) dL_placed_229 (by decide) (fun c_229 => ?_) (fun c_229 => ?_)
                · refine E_iload dL_placed_262 rfl ?_
                  refine E_bipush (v := nI 8) dL_placed_264 (by decide) ?_
                  refine E_icmp_lt (tgt := 458) dL_placed_266 (by decide) (fun _ => ?_) (fun c0 => absurd (by decide) c0)
                  first
                    | exact K M _ _ _ (by
                        have r1 : rfA c f (12 * f + l) L i < cN c 135 (12 * f + l) := by rw [zrA_7 hkd] at hk; exact hk
                        have r2 : rfA c f (12 * f + l) L (aft c f (12 * f + l) L i) < cN c 135 (12 * f + l) := by rw [zrA_7 hkd] at hk2; exact hk2
                        have e0 : crS c f (12 * f + l) L i A = crU c f (12 * f + l) L i (aft c f (12 * f + l) L i) A := cI_t ⟨c_37, hn0, c_144, c_157⟩
                        have e1 : crU c f (12 * f + l) L i (aft c f (12 * f + l) L i) A = _ := cI_t ⟨r1, r2, by rw [← zrA_7 hkd]; exact c_215, by rw [← zrA_7 hkd]; exact c_229⟩
                        rw [e0, e1, ← zrA_7 hkd, ← zrA_7 hkd]
                        exact hq)
                    | (have e0 : crS c f (12 * f + l) L i A = A := by
                         by_cases q : crG c f (12 * f + l) L i
                         · have e1 : crU c f (12 * f + l) L i (aft c f (12 * f + l) L i) A = A := cI_f (fun q2 => by
                             first
                               | exact absurd c_37 q.1
                               | exact hn0 q.2.1
                               | exact c_144 q.2.2.1
                               | exact c_157 q.2.2.2
                               | (rw [zrA_7 hkd] at hk; exact hk q2.1)
                               | (rw [zrA_7 hkd] at hk2; exact hk2 q2.2.1)
                               | (rw [zrA_7 hkd] at c_215; exact q2.2.2.1 c_215)
                               | (rw [zrA_7 hkd] at c_229; exact q2.2.2.2 c_229))
                           exact (cI_t q).trans e1
                         · exact cI_f q
                       rw [e0] at K
                       exact K M _ _ _ hq)
                · refine E_aload dL_placed_232 rfl ?_
                  refine E_iload dL_placed_234 rfl ?_
                  refine E_aload dL_placed_236 rfl ?_
                  refine E_iload dL_placed_238 rfl ?_
                  refine E_ialdL (v := _) dL_placed_240 (hq.l2) (hq.k2) rfl (by omega) (by decide) (hq.v2 hi) ?_
                  refine E_aload_n dL_placed_241 rfl ?_
                  refine E_iload dL_placed_242 rfl ?_
                  refine E_iload dL_placed_244 rfl ?_
                  refine E_iconst (v := nI 2) dL_placed_246 (by decide) ?_
                  refine E_callT4 (fr' := 1) (k1 := 0) (n1 := 0) (k2 := 0) (n2 := 0) dL_placed_247 kO_L_number kL_L_124 (by exact Nat.le_of_ble_eq_true rfl) (by decide) (by exact Nat.le_of_ble_eq_true rfl) (Or.inl rfl) rfl ?_
                  refine sp_L_number (by first | exact h | exact h.S) hf hl (by omega) (by decide) ?_
                  refine gKv ?_
                  refine E_iadd dL_placed_250 ?_
                  refine E_aload_n dL_placed_251 rfl ?_
                  refine E_iload dL_placed_252 rfl ?_
                  refine E_iload dL_placed_254 rfl ?_
                  refine E_iconst (v := nI 1) dL_placed_256 (by decide) ?_
                  refine E_callT4 (fr' := 1) (k1 := 0) (n1 := 0) (k2 := 0) (n2 := 0) dL_placed_257 kO_L_number kL_L_124 (by exact Nat.le_of_ble_eq_true rfl) (by decide) (by exact Nat.le_of_ble_eq_true rfl) (Or.inl rfl) rfl ?_
                  refine sp_L_number (by first | exact h | exact h.S) hf hl (by omega) (by decide) ?_
                  refine gKv ?_
                  refine E_isub dL_placed_260 ?_
                  refine E_setH dL_placed_261 hq rfl hn0 (fun M hq => ?_)
                  have h := hq.X
                  have hL := h.lay
                  refine E_iload dL_placed_262 rfl ?_
                  refine E_bipush (v := nI 8) dL_placed_264 (by decide) ?_
                  refine E_icmp_lt (tgt := 458) dL_placed_266 (by decide) (fun _ => ?_) (fun c0 => absurd (by decide) c0)
                  first
                    | exact K M _ _ _ (by
                        have r1 : rfA c f (12 * f + l) L i < cN c 135 (12 * f + l) := by rw [zrA_7 hkd] at hk; exact hk
                        have r2 : rfA c f (12 * f + l) L (aft c f (12 * f + l) L i) < cN c 135 (12 * f + l) := by rw [zrA_7 hkd] at hk2; exact hk2
                        have e0 : crS c f (12 * f + l) L i A = crU c f (12 * f + l) L i (aft c f (12 * f + l) L i) A := cI_t ⟨c_37, hn0, c_144, c_157⟩
                        have e1 : crU c f (12 * f + l) L i (aft c f (12 * f + l) L i) A = _ := cI_t ⟨r1, r2, by rw [← zrA_7 hkd]; exact c_215, by rw [← zrA_7 hkd]; exact c_229⟩
                        rw [e0, e1, ← zrA_7 hkd, ← zrA_7 hkd]
                        exact hq)
                    | (have e0 : crS c f (12 * f + l) L i A = A := by
                         by_cases q : crG c f (12 * f + l) L i
                         · have e1 : crU c f (12 * f + l) L i (aft c f (12 * f + l) L i) A = A := cI_f (fun q2 => by
                             first
                               | exact absurd c_37 q.1
                               | exact hn0 q.2.1
                               | exact c_144 q.2.2.1
                               | exact c_157 q.2.2.2
                               | (rw [zrA_7 hkd] at hk; exact hk q2.1)
                               | (rw [zrA_7 hkd] at hk2; exact hk2 q2.2.1)
                               | (rw [zrA_7 hkd] at c_215; exact q2.2.2.1 c_215)
                               | (rw [zrA_7 hkd] at c_229; exact q2.2.2.2 c_229))
                           exact (cI_t q).trans e1
                         · exact cI_f q
                       rw [e0] at K
                       exact K M _ _ _ hq)
  · refine E_goto (tgt := 458) dL_placed_40 (by decide) ?_
    first
      | exact K M _ _ _ (by
          have r1 : rfA c f (12 * f + l) L i < cN c 135 (12 * f + l) := by rw [zrA_7 hkd] at hk; exact hk
          have r2 : rfA c f (12 * f + l) L (aft c f (12 * f + l) L i) < cN c 135 (12 * f + l) := by rw [zrA_7 hkd] at hk2; exact hk2
          have e0 : crS c f (12 * f + l) L i A = crU c f (12 * f + l) L i (aft c f (12 * f + l) L i) A := cI_t ⟨c_37, hn0, c_144, c_157⟩
          have e1 : crU c f (12 * f + l) L i (aft c f (12 * f + l) L i) A = _ := cI_t ⟨r1, r2, by rw [← zrA_7 hkd]; exact c_215, by rw [← zrA_7 hkd]; exact c_229⟩
          rw [e0, e1, ← zrA_7 hkd, ← zrA_7 hkd]
          exact hq)
      | (have e0 : crS c f (12 * f + l) L i A = A := by
           by_cases q : crG c f (12 * f + l) L i
           · have e1 : crU c f (12 * f + l) L i (aft c f (12 * f + l) L i) A = A := cI_f (fun q2 => by
               first
                 | exact absurd c_37 q.1
                 | exact hn0 q.2.1
                 | exact c_144 q.2.2.1
                 | exact c_157 q.2.2.2
                 | (rw [zrA_7 hkd] at hk; exact hk q2.1)
                 | (rw [zrA_7 hkd] at hk2; exact hk2 q2.2.1)
                 | (rw [zrA_7 hkd] at c_215; exact q2.2.2.1 c_215)
                 | (rw [zrA_7 hkd] at c_229; exact q2.2.2.2 c_229))
             exact (cI_t q).trans e1
           · exact cI_f q
         rw [e0] at K
         exact K M _ _ _ hq)
set_option maxRecDepth 100000 in
set_option maxHeartbeats 4000000 in
theorem b8_L_placed {g : gG} {M : gM} {Q : Option Value ⊕ String → gM → Prop} {c : Cf} {f : Nat} {M0 : gM} {pw : Nat} {L : List Gl} {w z : Int32} {A : Pl} (hq : lQ c f M0 pw L w z A M) {l : Nat} (hl : l < cN c 129 f) {i : Nat} (hi : i < L.length) (hkd : cN c 130 (12 * f + l) = 8) (K : ∀ M v11 v12 v13, lQ c f M0 pw L w z (bsS c f (12 * f + l) L i A) M → E g 5 0 0 mL_placed 458 [.ref (pw + 1), .ref 131, .ref 130, .ref 132, .ref 133, .ref (pw + 2), .ref (pw + 3), .ref (pw + 4), .int (nI (8 * f + l)), .int (nI 8), .int (nI i), v11, v12, v13] [] M Q) : ∀ v11 v12 v13, E g 5 0 0 mL_placed 21 [.ref (pw + 1), .ref 131, .ref 130, .ref 132, .ref 133, .ref (pw + 2), .ref (pw + 3), .ref (pw + 4), .int (nI (8 * f + l)), .int (nI 8), .int (nI i), v11, v12, v13] [] M Q := by
  intro v11 v12 v13
  have h := hq.X
  have hL := h.lay
  have hf := h.f2
  have hn := h.len
  have hct := h.ct
  have hr4 := h.S.r4 (12 * f + l)
  have hmb := mEn_b h.wf (12 * f + l)
  have hbi := pEf_b h.wf f (yN (gat L i))
  have hbs : bsE c f L i ≤ i := rfd_le (P := fun k => ¬ 0 < mkc c f (gat L k)) i
  have no : ¬ bsG c f (12 * f + l) L i → bsS c f (12 * f + l) L i A = A := fun q => cI_f q
  refine E_aload_n dL_placed_21 rfl ?_
  refine E_aload_n dL_placed_22 rfl ?_
  refine E_aload dL_placed_23 rfl ?_
  refine E_bipush (v := nI 6) dL_placed_25 (by decide) ?_
  refine E_ialdL (v := nI _) dL_placed_27 (l_132 hL) (k_132 hL) rfl (by omega) (by decide) h.a6 ?_
  refine E_iload dL_placed_28 rfl ?_
  refine E_aload_n dL_placed_30 rfl ?_
  refine E_iload dL_placed_31 rfl ?_
  refine E_laldL (v := pk _) dL_placed_33 h.plt h.pkd rfl (by omega) (by decide) (h.wk (by omega)) ?_
  refine E_callT5 (fr' := 3) (k1 := 0) (n1 := 0) (k2 := 0) (n2 := 0) dL_placed_34 kO_L_passed kL_L_120 (by exact Nat.le_of_ble_eq_true rfl) (by decide) (by exact Nat.le_of_ble_eq_true rfl) (Or.inl rfl) rfl ?_
  refine sp_L_passed (by first | exact h | exact h.S) hf hl (h.ok (by omega)) ?_
  refine gKv ?_
  refine E_if_eq_b (tgt := 43) dL_placed_37 (by decide) (fun c_37 => ?_) (fun c_37 => ?_)
  · refine E_aload_n dL_placed_43 rfl ?_
    refine E_aload_n dL_placed_44 rfl ?_
    refine E_aload_n dL_placed_45 rfl ?_
    refine E_aload dL_placed_46 rfl ?_
    refine E_iload dL_placed_48 rfl ?_
    refine E_iload dL_placed_50 rfl ?_
    refine E_iconst (v := nI 1) dL_placed_52 (by decide) ?_
    refine E_callT7 (fr' := 4) (k1 := 0) (n1 := 0) (k2 := 0) (n2 := 0) dL_placed_53 kO_L_next kL_L_145 (by exact Nat.le_of_ble_eq_true rfl) (by decide) (by exact Nat.le_of_ble_eq_true rfl) (Or.inl rfl) rfl ?_
    refine sp_L_nextF h hl (by omega) (fun hn0 => ?_) (fun hn0 => ?_)
    · refine gKv ?_
      refine E_istore dL_placed_56 (Nat.le_of_ble_eq_true rfl) (by decide) rfl ?_
      refine E_iload dL_placed_58 rfl ?_
      refine E_bipush (v := nI 6) dL_placed_60 (by decide) ?_
      refine E_icmp_ne (tgt := 122) dL_placed_62 (by decide) (fun _ => ?_) (fun c0 => absurd (by decide) c0)
      refine E_iload dL_placed_122 rfl ?_
      refine E_bipush (v := nI 7) dL_placed_124 (by decide) ?_
      refine E_icmp_ne (tgt := 262) dL_placed_126 (by decide) (fun _ => ?_) (fun c0 => absurd (by decide) c0)
      refine E_iload dL_placed_262 rfl ?_
      refine E_bipush (v := nI 8) dL_placed_264 (by decide) ?_
      refine E_icmp_lt (tgt := 458) dL_placed_266 (by decide) (fun c0 => absurd c0 (by decide)) (fun _ => ?_)
      refine E_aload_n dL_placed_269 rfl ?_
      refine E_aload dL_placed_270 rfl ?_
      refine E_bipush (v := nI 6) dL_placed_272 (by decide) ?_
      refine E_ialdL (v := nI _) dL_placed_274 (l_132 hL) (k_132 hL) rfl (by omega) (by decide) h.a6 ?_
      refine E_aload_n dL_placed_275 rfl ?_
      refine E_iload dL_placed_276 rfl ?_
      refine E_laldL (v := pk _) dL_placed_278 h.plt h.pkd rfl (by omega) (by decide) (h.wk (by omega)) ?_
      refine E_callT1 (fr' := 1) (k1 := 0) (n1 := 0) (k2 := 0) (n2 := 0) dL_placed_279 kO_L_glyphOf kL_L_108 (by exact Nat.le_of_ble_eq_true rfl) (by decide) (by exact Nat.le_of_ble_eq_true rfl) (Or.inl rfl) rfl ?_
      refine sp_L_glyphOf (h.ok (by omega)) ?_
      refine gKv ?_
      refine E_callT3 (fr' := 2) (k1 := 0) (n1 := 0) (k2 := 0) (n2 := 0) dL_placed_282 kO_L_mark kL_L_112 (by exact Nat.le_of_ble_eq_true rfl) (by decide) (by exact Nat.le_of_ble_eq_true rfl) (Or.inl rfl) rfl ?_
      refine sp_L_mark (by first | exact h | exact h.S) hf (by first | assumption | exact h.gl (by omega)) ?_
      refine gKv ?_
      refine E_if_lt_d (tgt := 458) dL_placed_285 (by decide) (by omega) (fun c_285 => ?_) (fun c_285 => ?_)
      · have e0 := no (fun q => by
          first
            | exact absurd c_37 q.2.1.1
            | (have : 0 < cN c 137 (256 * f + yN (gat L i)) := q.1; omega)
            | exact c_298 q.2.1.2
            | (have := q.2.2; omega))
        rw [e0] at K
        exact K M _ _ _ hq
      · refine E_aload_n dL_placed_288 rfl ?_
        refine E_iload dL_placed_289 rfl ?_
        refine E_aload_n dL_placed_291 rfl ?_
        refine E_iload dL_placed_292 rfl ?_
        refine E_laldL (v := pk _) dL_placed_294 h.plt h.pkd rfl (by omega) (by decide) (h.wk (by omega)) ?_
        refine E_callT3 (fr' := 2) (k1 := 0) (n1 := 0) (k2 := 0) (n2 := 0) dL_placed_295 kO_L_has kL_L_165 (by exact Nat.le_of_ble_eq_true rfl) (by decide) (by exact Nat.le_of_ble_eq_true rfl) (Or.inl rfl) rfl ?_
        refine sp_L_has (by first | exact h | exact h.S) hf hl (h.ok (by omega)) ?_
        refine gKv ?_
        refine E_if_ne_b (tgt := 304) dL_placed_298 (by decide) (fun c_298 => ?_) (fun c_298 => ?_)
        · refine E_iload dL_placed_304 rfl ?_
          refine E_bipush (v := nI 8) dL_placed_306 (by decide) ?_
          refine E_icmp_ne_r (tgt := 323) dL_placed_308 (by decide) (fun c0 => absurd c0 (by decide)) (fun _ => ?_)
          refine E_aload_n dL_placed_311 rfl ?_
          refine E_aload_n dL_placed_312 rfl ?_
          refine E_aload dL_placed_313 rfl ?_
          refine E_iload dL_placed_315 rfl ?_
          refine E_callT4 (fr' := 3) (k1 := 0) (n1 := 0) (k2 := 0) (n2 := 0) dL_placed_317 kO_L_base kL_L_193 (by exact Nat.le_of_ble_eq_true rfl) (by decide) (by exact Nat.le_of_ble_eq_true rfl) (Or.inl rfl) rfl ?_
          refine sp_L_base h hi ?_
          refine gKv ?_
          refine E_goto (tgt := 336) dL_placed_320 (by decide) ?_
          refine E_istore dL_placed_336 (Nat.le_of_ble_eq_true rfl) (by decide) rfl ?_
          refine E_iload dL_placed_338 rfl ?_
          refine E_if_lt_d (tgt := 458) dL_placed_340 (by decide) (by omega) (fun c_340 => ?_) (fun c_340 => ?_)
          · have e0 := no (fun q => by
              first
                | exact absurd c_37 q.2.1.1
                | (have : 0 < cN c 137 (256 * f + yN (gat L i)) := q.1; omega)
                | exact c_298 q.2.1.2
                | (have := q.2.2; omega))
            rw [e0] at K
            exact K M _ _ _ hq
          · refine E_iload dL_placed_343 rfl ?_
            refine E_bipush (v := nI 9) dL_placed_345 (by decide) ?_
            refine E_icmp_ne (tgt := 372) dL_placed_347 (by decide) (fun _ => ?_) (fun c0 => absurd (by decide) c0)
            obtain ⟨b, hb⟩ : ∃ b, bsE c f L i = b + 1 := ⟨bsE c f L i - 1, by omega⟩
            have hG : bsS c f (12 * f + l) L i A = bsU c f (12 * f + l) L i (bsE c f L i - 1) A := cI_t ⟨by omega, ⟨c_37, c_298⟩, by omega⟩
            rw [hb, Nat.add_sub_cancel] at hG
            rw [hb, dI_succ]
            refine E_aload_n dL_placed_372 rfl ?_
            refine E_aload_n dL_placed_373 rfl ?_
            refine E_aload_n dL_placed_374 rfl ?_
            refine E_aload_n dL_placed_375 rfl ?_
            refine E_aload dL_placed_376 rfl ?_
            refine E_iload dL_placed_378 rfl ?_
            refine E_iload dL_placed_380 rfl ?_
            refine E_iload dL_placed_382 rfl ?_
            refine E_callT8 (fr' := 3) (k1 := 0) (n1 := 0) (k2 := 0) (n2 := 0) dL_placed_384 kO_L_first kL_L_189 (by exact Nat.le_of_ble_eq_true rfl) (by decide) (by exact Nat.le_of_ble_eq_true rfl) (Or.inl rfl) rfl ?_
            refine sp_L_first h hl (by omega) hi (fun hk => ?_) (fun hk => ?_)
            · have eU : bsU c f (12 * f + l) L i b A = A := cI_f (fun q => by rw [← zrA_8 hkd] at q; exact hk q)
              rw [eU] at hG
              rw [hG] at K
              refine gKv ?_
              refine E_istore dL_placed_387 (Nat.le_of_ble_eq_true rfl) (by decide) rfl ?_
              refine E_iload dL_placed_389 rfl ?_
              refine E_if_lt (tgt := 458) dL_placed_391 (by decide) (fun _ => ?_) (fun c0 => absurd (by decide) c0)
              exact K M _ _ _ hq
            · have eU : bsU c f (12 * f + l) L i b A = _ := cI_t (by rw [← zrA_8 hkd]; exact hk)
              rw [eU, ← zrA_8 hkd] at hG
              rw [hG] at K
              have hr := h.wf.ru hk
              rw [hkd] at hr
              have m3 := rEm_ok h.S.wz hk (w := 3) (by decide)
              have m4 := rEm_ok h.S.wz hk (w := 4) (by decide)
              have x3 := far_300 (iF8 hr.1).2.2.2 m3.2 m3.1
              have x4 := far_300 hr.2.1 m4.2 m4.1
              refine gKv ?_
              refine E_istore dL_placed_387 (Nat.le_of_ble_eq_true rfl) (by decide) rfl ?_
              refine E_iload dL_placed_389 rfl ?_
              refine E_if_lt_n (tgt := 458) dL_placed_391 (by decide) (by omega) ?_
              refine E_aload dL_placed_394 rfl ?_
              refine E_iload dL_placed_396 rfl ?_
              refine E_ldc (v := nI 100000) dL_placed_398 (gW_at 775 (by decide +kernel) (by decide +kernel)) ?_
              refine E_iload dL_placed_400 rfl ?_
              refine E_iconst (v := nI 1) dL_placed_402 (by decide) ?_
              refine E_iadd_n dL_placed_403 ?_
              refine E_imul_n dL_placed_404 ?_
              refine E_sipush (v := nI 300) dL_placed_405 (by decide) ?_
              refine E_aload_n dL_placed_408 rfl ?_
              refine E_iload dL_placed_409 rfl ?_
              refine E_iload dL_placed_411 rfl ?_
              refine E_iload dL_placed_413 rfl ?_
              refine E_bipush (v := nI 8) dL_placed_415 (by decide) ?_
              refine E_icmp_ne_r (tgt := 424) dL_placed_417 (by decide) (fun c0 => absurd c0 (by decide)) (fun _ => ?_)
              refine E_iconst (v := nI 3) dL_placed_420 (by decide) ?_
              refine E_goto (tgt := 425) dL_placed_421 (by decide) ?_
              refine E_callT4 (fr' := 1) (k1 := 0) (n1 := 0) (k2 := 0) (n2 := 0) dL_placed_425 kO_L_number kL_L_124 (by exact Nat.le_of_ble_eq_true rfl) (by decide) (by exact Nat.le_of_ble_eq_true rfl) (Or.inl rfl) rfl ?_
              refine sp_L_number (by first | exact h | exact h.S) hf hl (by omega) (by decide) ?_
              refine gKv ?_
              refine E_bipush (v := nI 100) dL_placed_428 (by decide) ?_
              refine E_iadd dL_placed_430 ?_
              rw [m3.1]
              refine E_imul_n dL_placed_431 ?_
              refine E_iadd_n dL_placed_432 ?_
              refine E_aload_n dL_placed_433 rfl ?_
              refine E_iload dL_placed_434 rfl ?_
              refine E_iload dL_placed_436 rfl ?_
              refine E_iload dL_placed_438 rfl ?_
              refine E_bipush (v := nI 8) dL_placed_440 (by decide) ?_
              refine E_icmp_ne_r (tgt := 449) dL_placed_442 (by decide) (fun c0 => absurd c0 (by decide)) (fun _ => ?_)
              refine E_iconst (v := nI 4) dL_placed_445 (by decide) ?_
              refine E_goto (tgt := 450) dL_placed_446 (by decide) ?_
              refine E_callT4 (fr' := 1) (k1 := 0) (n1 := 0) (k2 := 0) (n2 := 0) dL_placed_450 kO_L_number kL_L_124 (by exact Nat.le_of_ble_eq_true rfl) (by decide) (by exact Nat.le_of_ble_eq_true rfl) (Or.inl rfl) rfl ?_
              refine sp_L_number (by first | exact h | exact h.S) hf hl (by omega) (by decide) ?_
              refine gKv ?_
              refine E_iadd dL_placed_453 ?_
              refine E_bipush (v := nI 100) dL_placed_454 (by decide) ?_
              refine E_iadd dL_placed_456 ?_
              rw [Int32.add_assoc, m4.1, nI_add]
              refine E_setS dL_placed_457 hq rfl hi (by omega) x3 x4 m3.1 m4.1 rfl (fun M hq => ?_)
              have h := hq.X
              have hL := h.lay
              exact K M _ _ _ hq
        · refine E_goto (tgt := 458) dL_placed_301 (by decide) ?_
          have e0 := no (fun q => by
            first
              | exact absurd c_37 q.2.1.1
              | (have : 0 < cN c 137 (256 * f + yN (gat L i)) := q.1; omega)
              | exact c_298 q.2.1.2
              | (have := q.2.2; omega))
          rw [e0] at K
          exact K M _ _ _ hq
    · refine gKv ?_
      refine E_istore dL_placed_56 (Nat.le_of_ble_eq_true rfl) (by decide) rfl ?_
      refine E_iload dL_placed_58 rfl ?_
      refine E_bipush (v := nI 6) dL_placed_60 (by decide) ?_
      refine E_icmp_ne (tgt := 122) dL_placed_62 (by decide) (fun _ => ?_) (fun c0 => absurd (by decide) c0)
      refine E_iload dL_placed_122 rfl ?_
      refine E_bipush (v := nI 7) dL_placed_124 (by decide) ?_
      refine E_icmp_ne (tgt := 262) dL_placed_126 (by decide) (fun _ => ?_) (fun c0 => absurd (by decide) c0)
      refine E_iload dL_placed_262 rfl ?_
      refine E_bipush (v := nI 8) dL_placed_264 (by decide) ?_
      refine E_icmp_lt (tgt := 458) dL_placed_266 (by decide) (fun c0 => absurd c0 (by decide)) (fun _ => ?_)
      refine E_aload_n dL_placed_269 rfl ?_
      refine E_aload dL_placed_270 rfl ?_
      refine E_bipush (v := nI 6) dL_placed_272 (by decide) ?_
      refine E_ialdL (v := nI _) dL_placed_274 (l_132 hL) (k_132 hL) rfl (by omega) (by decide) h.a6 ?_
      refine E_aload_n dL_placed_275 rfl ?_
      refine E_iload dL_placed_276 rfl ?_
      refine E_laldL (v := pk _) dL_placed_278 h.plt h.pkd rfl (by omega) (by decide) (h.wk (by omega)) ?_
      refine E_callT1 (fr' := 1) (k1 := 0) (n1 := 0) (k2 := 0) (n2 := 0) dL_placed_279 kO_L_glyphOf kL_L_108 (by exact Nat.le_of_ble_eq_true rfl) (by decide) (by exact Nat.le_of_ble_eq_true rfl) (Or.inl rfl) rfl ?_
      refine sp_L_glyphOf (h.ok (by omega)) ?_
      refine gKv ?_
      refine E_callT3 (fr' := 2) (k1 := 0) (n1 := 0) (k2 := 0) (n2 := 0) dL_placed_282 kO_L_mark kL_L_112 (by exact Nat.le_of_ble_eq_true rfl) (by decide) (by exact Nat.le_of_ble_eq_true rfl) (Or.inl rfl) rfl ?_
      refine sp_L_mark (by first | exact h | exact h.S) hf (by first | assumption | exact h.gl (by omega)) ?_
      refine gKv ?_
      refine E_if_lt_d (tgt := 458) dL_placed_285 (by decide) (by omega) (fun c_285 => ?_) (fun c_285 => ?_)
      · have e0 := no (fun q => by
          first
            | exact absurd c_37 q.2.1.1
            | (have : 0 < cN c 137 (256 * f + yN (gat L i)) := q.1; omega)
            | exact c_298 q.2.1.2
            | (have := q.2.2; omega))
        rw [e0] at K
        exact K M _ _ _ hq
      · refine E_aload_n dL_placed_288 rfl ?_
        refine E_iload dL_placed_289 rfl ?_
        refine E_aload_n dL_placed_291 rfl ?_
        refine E_iload dL_placed_292 rfl ?_
        refine E_laldL (v := pk _) dL_placed_294 h.plt h.pkd rfl (by omega) (by decide) (h.wk (by omega)) ?_
        refine E_callT3 (fr' := 2) (k1 := 0) (n1 := 0) (k2 := 0) (n2 := 0) dL_placed_295 kO_L_has kL_L_165 (by exact Nat.le_of_ble_eq_true rfl) (by decide) (by exact Nat.le_of_ble_eq_true rfl) (Or.inl rfl) rfl ?_
        refine sp_L_has (by first | exact h | exact h.S) hf hl (h.ok (by omega)) ?_
        refine gKv ?_
        refine E_if_ne_b (tgt := 304) dL_placed_298 (by decide) (fun c_298 => ?_) (fun c_298 => ?_)
        · refine E_iload dL_placed_304 rfl ?_
          refine E_bipush (v := nI 8) dL_placed_306 (by decide) ?_
          refine E_icmp_ne_r (tgt := 323) dL_placed_308 (by decide) (fun c0 => absurd c0 (by decide)) (fun _ => ?_)
          refine E_aload_n dL_placed_311 rfl ?_
          refine E_aload_n dL_placed_312 rfl ?_
          refine E_aload dL_placed_313 rfl ?_
          refine E_iload dL_placed_315 rfl ?_
          refine E_callT4 (fr' := 3) (k1 := 0) (n1 := 0) (k2 := 0) (n2 := 0) dL_placed_317 kO_L_base kL_L_193 (by exact Nat.le_of_ble_eq_true rfl) (by decide) (by exact Nat.le_of_ble_eq_true rfl) (Or.inl rfl) rfl ?_
          refine sp_L_base h hi ?_
          refine gKv ?_
          refine E_goto (tgt := 336) dL_placed_320 (by decide) ?_
          refine E_istore dL_placed_336 (Nat.le_of_ble_eq_true rfl) (by decide) rfl ?_
          refine E_iload dL_placed_338 rfl ?_
          refine E_if_lt_d (tgt := 458) dL_placed_340 (by decide) (by omega) (fun c_340 => ?_) (fun c_340 => ?_)
          · have e0 := no (fun q => by
              first
                | exact absurd c_37 q.2.1.1
                | (have : 0 < cN c 137 (256 * f + yN (gat L i)) := q.1; omega)
                | exact c_298 q.2.1.2
                | (have := q.2.2; omega))
            rw [e0] at K
            exact K M _ _ _ hq
          · refine E_iload dL_placed_343 rfl ?_
            refine E_bipush (v := nI 9) dL_placed_345 (by decide) ?_
            refine E_icmp_ne (tgt := 372) dL_placed_347 (by decide) (fun _ => ?_) (fun c0 => absurd (by decide) c0)
            obtain ⟨b, hb⟩ : ∃ b, bsE c f L i = b + 1 := ⟨bsE c f L i - 1, by omega⟩
            have hG : bsS c f (12 * f + l) L i A = bsU c f (12 * f + l) L i (bsE c f L i - 1) A := cI_t ⟨by omega, ⟨c_37, c_298⟩, by omega⟩
            rw [hb, Nat.add_sub_cancel] at hG
            rw [hb, dI_succ]
            refine E_aload_n dL_placed_372 rfl ?_
            refine E_aload_n dL_placed_373 rfl ?_
            refine E_aload_n dL_placed_374 rfl ?_
            refine E_aload_n dL_placed_375 rfl ?_
            refine E_aload dL_placed_376 rfl ?_
            refine E_iload dL_placed_378 rfl ?_
            refine E_iload dL_placed_380 rfl ?_
            refine E_iload dL_placed_382 rfl ?_
            refine E_callT8 (fr' := 3) (k1 := 0) (n1 := 0) (k2 := 0) (n2 := 0) dL_placed_384 kO_L_first kL_L_189 (by exact Nat.le_of_ble_eq_true rfl) (by decide) (by exact Nat.le_of_ble_eq_true rfl) (Or.inl rfl) rfl ?_
            refine sp_L_first h hl (by omega) hi (fun hk => ?_) (fun hk => ?_)
            · have eU : bsU c f (12 * f + l) L i b A = A := cI_f (fun q => by rw [← zrA_8 hkd] at q; exact hk q)
              rw [eU] at hG
              rw [hG] at K
              refine gKv ?_
              refine E_istore dL_placed_387 (Nat.le_of_ble_eq_true rfl) (by decide) rfl ?_
              refine E_iload dL_placed_389 rfl ?_
              refine E_if_lt (tgt := 458) dL_placed_391 (by decide) (fun _ => ?_) (fun c0 => absurd (by decide) c0)
              exact K M _ _ _ hq
            · have eU : bsU c f (12 * f + l) L i b A = _ := cI_t (by rw [← zrA_8 hkd]; exact hk)
              rw [eU, ← zrA_8 hkd] at hG
              rw [hG] at K
              have hr := h.wf.ru hk
              rw [hkd] at hr
              have m3 := rEm_ok h.S.wz hk (w := 3) (by decide)
              have m4 := rEm_ok h.S.wz hk (w := 4) (by decide)
              have x3 := far_300 (iF8 hr.1).2.2.2 m3.2 m3.1
              have x4 := far_300 hr.2.1 m4.2 m4.1
              refine gKv ?_
              refine E_istore dL_placed_387 (Nat.le_of_ble_eq_true rfl) (by decide) rfl ?_
              refine E_iload dL_placed_389 rfl ?_
              refine E_if_lt_n (tgt := 458) dL_placed_391 (by decide) (by omega) ?_
              refine E_aload dL_placed_394 rfl ?_
              refine E_iload dL_placed_396 rfl ?_
              refine E_ldc (v := nI 100000) dL_placed_398 (gW_at 775 (by decide +kernel) (by decide +kernel)) ?_
              refine E_iload dL_placed_400 rfl ?_
              refine E_iconst (v := nI 1) dL_placed_402 (by decide) ?_
              refine E_iadd_n dL_placed_403 ?_
              refine E_imul_n dL_placed_404 ?_
              refine E_sipush (v := nI 300) dL_placed_405 (by decide) ?_
              refine E_aload_n dL_placed_408 rfl ?_
              refine E_iload dL_placed_409 rfl ?_
              refine E_iload dL_placed_411 rfl ?_
              refine E_iload dL_placed_413 rfl ?_
              refine E_bipush (v := nI 8) dL_placed_415 (by decide) ?_
              refine E_icmp_ne_r (tgt := 424) dL_placed_417 (by decide) (fun c0 => absurd c0 (by decide)) (fun _ => ?_)
              refine E_iconst (v := nI 3) dL_placed_420 (by decide) ?_
              refine E_goto (tgt := 425) dL_placed_421 (by decide) ?_
              refine E_callT4 (fr' := 1) (k1 := 0) (n1 := 0) (k2 := 0) (n2 := 0) dL_placed_425 kO_L_number kL_L_124 (by exact Nat.le_of_ble_eq_true rfl) (by decide) (by exact Nat.le_of_ble_eq_true rfl) (Or.inl rfl) rfl ?_
              refine sp_L_number (by first | exact h | exact h.S) hf hl (by omega) (by decide) ?_
              refine gKv ?_
              refine E_bipush (v := nI 100) dL_placed_428 (by decide) ?_
              refine E_iadd dL_placed_430 ?_
              rw [m3.1]
              refine E_imul_n dL_placed_431 ?_
              refine E_iadd_n dL_placed_432 ?_
              refine E_aload_n dL_placed_433 rfl ?_
              refine E_iload dL_placed_434 rfl ?_
              refine E_iload dL_placed_436 rfl ?_
              refine E_iload dL_placed_438 rfl ?_
              refine E_bipush (v := nI 8) dL_placed_440 (by decide) ?_
              refine E_icmp_ne_r (tgt := 449) dL_placed_442 (by decide) (fun c0 => absurd c0 (by decide)) (fun _ => ?_)
              refine E_iconst (v := nI 4) dL_placed_445 (by decide) ?_
              refine E_goto (tgt := 450) dL_placed_446 (by decide) ?_
              refine E_callT4 (fr' := 1) (k1 := 0) (n1 := 0) (k2 := 0) (n2 := 0) dL_placed_450 kO_L_number kL_L_124 (by exact Nat.le_of_ble_eq_true rfl) (by decide) (by exact Nat.le_of_ble_eq_true rfl) (Or.inl rfl) rfl ?_
              refine sp_L_number (by first | exact h | exact h.S) hf hl (by omega) (by decide) ?_
              refine gKv ?_
              refine E_iadd dL_placed_453 ?_
              refine E_bipush (v := nI 100) dL_placed_454 (by decide) ?_
              refine E_iadd dL_placed_456 ?_
              rw [Int32.add_assoc, m4.1, nI_add]
              refine E_setS dL_placed_457 hq rfl hi (by omega) x3 x4 m3.1 m4.1 rfl (fun M hq => ?_)
              have h := hq.X
              have hL := h.lay
              exact K M _ _ _ hq
        · refine E_goto (tgt := 458) dL_placed_301 (by decide) ?_
          have e0 := no (fun q => by
            first
              | exact absurd c_37 q.2.1.1
              | (have : 0 < cN c 137 (256 * f + yN (gat L i)) := q.1; omega)
              | exact c_298 q.2.1.2
              | (have := q.2.2; omega))
          rw [e0] at K
          exact K M _ _ _ hq
  · refine E_goto (tgt := 458) dL_placed_40 (by decide) ?_
    have e0 := no (fun q => by
      first
        | exact absurd c_37 q.2.1.1
        | (have : 0 < cN c 137 (256 * f + yN (gat L i)) := q.1; omega)
        | exact c_298 q.2.1.2
        | (have := q.2.2; omega))
    rw [e0] at K
    exact K M _ _ _ hq
set_option maxRecDepth 100000 in
set_option maxHeartbeats 4000000 in
theorem b9_L_placed {g : gG} {M : gM} {Q : Option Value ⊕ String → gM → Prop} {c : Cf} {f : Nat} {M0 : gM} {pw : Nat} {L : List Gl} {w z : Int32} {A : Pl} (hq : lQ c f M0 pw L w z A M) {l : Nat} (hl : l < cN c 129 f) {i : Nat} (hi : i < L.length) (hkd : cN c 130 (12 * f + l) = 9) (K : ∀ M v11 v12 v13, lQ c f M0 pw L w z (mkS c f (12 * f + l) L i A) M → E g 5 0 0 mL_placed 458 [.ref (pw + 1), .ref 131, .ref 130, .ref 132, .ref 133, .ref (pw + 2), .ref (pw + 3), .ref (pw + 4), .int (nI (8 * f + l)), .int (nI 9), .int (nI i), v11, v12, v13] [] M Q) : ∀ v11 v12 v13, E g 5 0 0 mL_placed 21 [.ref (pw + 1), .ref 131, .ref 130, .ref 132, .ref 133, .ref (pw + 2), .ref (pw + 3), .ref (pw + 4), .int (nI (8 * f + l)), .int (nI 9), .int (nI i), v11, v12, v13] [] M Q := by
  intro v11 v12 v13
  have h := hq.X
  have hL := h.lay
  have hf := h.f2
  have hn := h.len
  have hct := h.ct
  have hr4 := h.S.r4 (12 * f + l)
  have hmb := mEn_b h.wf (12 * f + l)
  have hbi := pEf_b h.wf f (yN (gat L i))
  have hbs := ahd_le c f (12 * f + l) L i
  have no : ¬ mkG c f (12 * f + l) L i → mkS c f (12 * f + l) L i A = A := fun q => cI_f q
  refine E_aload_n dL_placed_21 rfl ?_
  refine E_aload_n dL_placed_22 rfl ?_
  refine E_aload dL_placed_23 rfl ?_
  refine E_bipush (v := nI 6) dL_placed_25 (by decide) ?_
  refine E_ialdL (v := nI _) dL_placed_27 (l_132 hL) (k_132 hL) rfl (by omega) (by decide) h.a6 ?_
  refine E_iload dL_placed_28 rfl ?_
  refine E_aload_n dL_placed_30 rfl ?_
  refine E_iload dL_placed_31 rfl ?_
  refine E_laldL (v := pk _) dL_placed_33 h.plt h.pkd rfl (by omega) (by decide) (h.wk (by omega)) ?_
  refine E_callT5 (fr' := 3) (k1 := 0) (n1 := 0) (k2 := 0) (n2 := 0) dL_placed_34 kO_L_passed kL_L_120 (by exact Nat.le_of_ble_eq_true rfl) (by decide) (by exact Nat.le_of_ble_eq_true rfl) (Or.inl rfl) rfl ?_
  refine sp_L_passed (by first | exact h | exact h.S) hf hl (h.ok (by omega)) ?_
  refine gKv ?_
  refine E_if_eq_b (tgt := 43) dL_placed_37 (by decide) (fun c_37 => ?_) (fun c_37 => ?_)
  · refine E_aload_n dL_placed_43 rfl ?_
    refine E_aload_n dL_placed_44 rfl ?_
    refine E_aload_n dL_placed_45 rfl ?_
    refine E_aload dL_placed_46 rfl ?_
    refine E_iload dL_placed_48 rfl ?_
    refine E_iload dL_placed_50 rfl ?_
    refine E_iconst (v := nI 1) dL_placed_52 (by decide) ?_
    refine E_callT7 (fr' := 4) (k1 := 0) (n1 := 0) (k2 := 0) (n2 := 0) dL_placed_53 kO_L_next kL_L_145 (by exact Nat.le_of_ble_eq_true rfl) (by decide) (by exact Nat.le_of_ble_eq_true rfl) (Or.inl rfl) rfl ?_
    refine sp_L_nextF h hl (by omega) (fun hn0 => ?_) (fun hn0 => ?_)
    · refine gKv ?_
      refine E_istore dL_placed_56 (Nat.le_of_ble_eq_true rfl) (by decide) rfl ?_
      refine E_iload dL_placed_58 rfl ?_
      refine E_bipush (v := nI 6) dL_placed_60 (by decide) ?_
      refine E_icmp_ne (tgt := 122) dL_placed_62 (by decide) (fun _ => ?_) (fun c0 => absurd (by decide) c0)
      refine E_iload dL_placed_122 rfl ?_
      refine E_bipush (v := nI 7) dL_placed_124 (by decide) ?_
      refine E_icmp_ne (tgt := 262) dL_placed_126 (by decide) (fun _ => ?_) (fun c0 => absurd (by decide) c0)
      refine E_iload dL_placed_262 rfl ?_
      refine E_bipush (v := nI 8) dL_placed_264 (by decide) ?_
      refine E_icmp_lt (tgt := 458) dL_placed_266 (by decide) (fun c0 => absurd c0 (by decide)) (fun _ => ?_)
      refine E_aload_n dL_placed_269 rfl ?_
      refine E_aload dL_placed_270 rfl ?_
      refine E_bipush (v := nI 6) dL_placed_272 (by decide) ?_
      refine E_ialdL (v := nI _) dL_placed_274 (l_132 hL) (k_132 hL) rfl (by omega) (by decide) h.a6 ?_
      refine E_aload_n dL_placed_275 rfl ?_
      refine E_iload dL_placed_276 rfl ?_
      refine E_laldL (v := pk _) dL_placed_278 h.plt h.pkd rfl (by omega) (by decide) (h.wk (by omega)) ?_
      refine E_callT1 (fr' := 1) (k1 := 0) (n1 := 0) (k2 := 0) (n2 := 0) dL_placed_279 kO_L_glyphOf kL_L_108 (by exact Nat.le_of_ble_eq_true rfl) (by decide) (by exact Nat.le_of_ble_eq_true rfl) (Or.inl rfl) rfl ?_
      refine sp_L_glyphOf (h.ok (by omega)) ?_
      refine gKv ?_
      refine E_callT3 (fr' := 2) (k1 := 0) (n1 := 0) (k2 := 0) (n2 := 0) dL_placed_282 kO_L_mark kL_L_112 (by exact Nat.le_of_ble_eq_true rfl) (by decide) (by exact Nat.le_of_ble_eq_true rfl) (Or.inl rfl) rfl ?_
      refine sp_L_mark (by first | exact h | exact h.S) hf (by first | assumption | exact h.gl (by omega)) ?_
      refine gKv ?_
      refine E_if_lt_d (tgt := 458) dL_placed_285 (by decide) (by omega) (fun c_285 => ?_) (fun c_285 => ?_)
      · have e0 := no (fun q => by
          first
            | exact absurd c_37 q.2.1.1
            | (have : 0 < cN c 137 (256 * f + yN (gat L i)) := q.1; omega)
            | exact c_298 q.2.1.2
            | (have := q.2.2.1; omega))
        rw [e0] at K
        exact K M _ _ _ hq
      · refine E_aload_n dL_placed_288 rfl ?_
        refine E_iload dL_placed_289 rfl ?_
        refine E_aload_n dL_placed_291 rfl ?_
        refine E_iload dL_placed_292 rfl ?_
        refine E_laldL (v := pk _) dL_placed_294 h.plt h.pkd rfl (by omega) (by decide) (h.wk (by omega)) ?_
        refine E_callT3 (fr' := 2) (k1 := 0) (n1 := 0) (k2 := 0) (n2 := 0) dL_placed_295 kO_L_has kL_L_165 (by exact Nat.le_of_ble_eq_true rfl) (by decide) (by exact Nat.le_of_ble_eq_true rfl) (Or.inl rfl) rfl ?_
        refine sp_L_has (by first | exact h | exact h.S) hf hl (h.ok (by omega)) ?_
        refine gKv ?_
        refine E_if_ne_b (tgt := 304) dL_placed_298 (by decide) (fun c_298 => ?_) (fun c_298 => ?_)
        · refine E_iload dL_placed_304 rfl ?_
          refine E_bipush (v := nI 8) dL_placed_306 (by decide) ?_
          refine E_icmp_ne (tgt := 323) dL_placed_308 (by decide) (fun _ => ?_) (fun c0 => absurd (by decide) c0)
          refine E_aload_n dL_placed_323 rfl ?_
          refine E_aload_n dL_placed_324 rfl ?_
          refine E_aload_n dL_placed_325 rfl ?_
          refine E_aload dL_placed_326 rfl ?_
          refine E_iload dL_placed_328 rfl ?_
          refine E_iload dL_placed_330 rfl ?_
          refine E_iconst (v := -1) dL_placed_332 (by decide) ?_
          refine E_callT7 (fr' := 4) (k1 := 0) (n1 := 0) (k2 := 0) (n2 := 0) dL_placed_333 kO_L_next kL_L_145 (by exact Nat.le_of_ble_eq_true rfl) (by decide) (by exact Nat.le_of_ble_eq_true rfl) (Or.inl rfl) rfl ?_
          refine sp_L_nextB h hl hi ?_
          refine gKv ?_
          refine E_istore dL_placed_336 (Nat.le_of_ble_eq_true rfl) (by decide) rfl ?_
          refine E_iload dL_placed_338 rfl ?_
          refine E_if_lt_d (tgt := 458) dL_placed_340 (by decide) (by omega) (fun c_340 => ?_) (fun c_340 => ?_)
          · have e0 := no (fun q => by
              first
                | exact absurd c_37 q.2.1.1
                | (have : 0 < cN c 137 (256 * f + yN (gat L i)) := q.1; omega)
                | exact c_298 q.2.1.2
                | (have := q.2.2.1; omega))
            rw [e0] at K
            exact K M _ _ _ hq
          · obtain ⟨b, hb⟩ : ∃ b, ahd c f (12 * f + l) L i = b + 1 := ⟨ahd c f (12 * f + l) L i - 1, by omega⟩
            have hG0 : 0 < mkc c f (gat L b) → mkS c f (12 * f + l) L i A = mkU c f (12 * f + l) L i (ahd c f (12 * f + l) L i - 1) A := fun q => cI_t ⟨by omega, ⟨c_37, c_298⟩, by omega, by rw [hb, Nat.add_sub_cancel]; exact q⟩
            rw [hb, Nat.add_sub_cancel] at hG0
            rw [hb, dI_succ]
            have hbb := pEf_b h.wf f (yN (gat L b))
            refine E_iload dL_placed_343 rfl ?_
            refine E_bipush (v := nI 9) dL_placed_345 (by decide) ?_
            refine E_icmp_ne_r (tgt := 372) dL_placed_347 (by decide) (fun c0 => absurd c0 (by decide)) (fun _ => ?_)
            refine E_aload_n dL_placed_350 rfl ?_
            refine E_aload dL_placed_351 rfl ?_
            refine E_bipush (v := nI 6) dL_placed_353 (by decide) ?_
            refine E_ialdL (v := nI _) dL_placed_355 (l_132 hL) (k_132 hL) rfl (by omega) (by decide) h.a6 ?_
            refine E_aload_n dL_placed_356 rfl ?_
            refine E_iload dL_placed_357 rfl ?_
            refine E_laldL (v := pk _) dL_placed_359 h.plt h.pkd rfl (by omega) (by decide) (h.wk (by omega)) ?_
            refine E_callT1 (fr' := 1) (k1 := 0) (n1 := 0) (k2 := 0) (n2 := 0) dL_placed_360 kO_L_glyphOf kL_L_108 (by exact Nat.le_of_ble_eq_true rfl) (by decide) (by exact Nat.le_of_ble_eq_true rfl) (Or.inl rfl) rfl ?_
            refine sp_L_glyphOf (h.ok (by omega)) ?_
            refine gKv ?_
            refine E_callT3 (fr' := 2) (k1 := 0) (n1 := 0) (k2 := 0) (n2 := 0) dL_placed_363 kO_L_mark kL_L_112 (by exact Nat.le_of_ble_eq_true rfl) (by decide) (by exact Nat.le_of_ble_eq_true rfl) (Or.inl rfl) rfl ?_
            refine sp_L_mark (by first | exact h | exact h.S) hf (by first | assumption | exact h.gl (by omega)) ?_
            refine gKv ?_
            refine E_if_ge_d (tgt := 372) dL_placed_366 (by decide) (by omega) (fun c_366 => ?_) (fun c_366 => ?_)
            · have hG := hG0 (by omega)
              refine E_aload_n dL_placed_372 rfl ?_
              refine E_aload_n dL_placed_373 rfl ?_
              refine E_aload_n dL_placed_374 rfl ?_
              refine E_aload_n dL_placed_375 rfl ?_
              refine E_aload dL_placed_376 rfl ?_
              refine E_iload dL_placed_378 rfl ?_
              refine E_iload dL_placed_380 rfl ?_
              refine E_iload dL_placed_382 rfl ?_
              refine E_callT8 (fr' := 3) (k1 := 0) (n1 := 0) (k2 := 0) (n2 := 0) dL_placed_384 kO_L_first kL_L_189 (by exact Nat.le_of_ble_eq_true rfl) (by decide) (by exact Nat.le_of_ble_eq_true rfl) (Or.inl rfl) rfl ?_
              refine sp_L_first h hl (by omega) hi (fun hk => ?_) (fun hk => ?_)
              · have eU : mkU c f (12 * f + l) L i b A = A := cI_f (fun q => by rw [← zrA_9 hkd] at q; exact hk q)
                rw [eU] at hG
                rw [hG] at K
                refine gKv ?_
                refine E_istore dL_placed_387 (Nat.le_of_ble_eq_true rfl) (by decide) rfl ?_
                refine E_iload dL_placed_389 rfl ?_
                refine E_if_lt (tgt := 458) dL_placed_391 (by decide) (fun _ => ?_) (fun c0 => absurd (by decide) c0)
                exact K M _ _ _ hq
              · have eU : mkU c f (12 * f + l) L i b A = _ := cI_t (by rw [← zrA_9 hkd]; exact hk)
                rw [eU, ← zrA_9 hkd] at hG
                rw [hG] at K
                have hr := h.wf.ru hk
                rw [hkd] at hr
                have m3 := rEm_ok h.S.wz hk (w := 2) (by decide)
                have m4 := rEm_ok h.S.wz hk (w := 3) (by decide)
                have x3 := far_300 (iF9 hr.1).2.2.1 m3.2 m3.1
                have x4 := far_300 (iF9 hr.1).2.2.2 m4.2 m4.1
                refine gKv ?_
                refine E_istore dL_placed_387 (Nat.le_of_ble_eq_true rfl) (by decide) rfl ?_
                refine E_iload dL_placed_389 rfl ?_
                refine E_if_lt_n (tgt := 458) dL_placed_391 (by decide) (by omega) ?_
                refine E_aload dL_placed_394 rfl ?_
                refine E_iload dL_placed_396 rfl ?_
                refine E_ldc (v := nI 100000) dL_placed_398 (gW_at 775 (by decide +kernel) (by decide +kernel)) ?_
                refine E_iload dL_placed_400 rfl ?_
                refine E_iconst (v := nI 1) dL_placed_402 (by decide) ?_
                refine E_iadd_n dL_placed_403 ?_
                refine E_imul_n dL_placed_404 ?_
                refine E_sipush (v := nI 300) dL_placed_405 (by decide) ?_
                refine E_aload_n dL_placed_408 rfl ?_
                refine E_iload dL_placed_409 rfl ?_
                refine E_iload dL_placed_411 rfl ?_
                refine E_iload dL_placed_413 rfl ?_
                refine E_bipush (v := nI 8) dL_placed_415 (by decide) ?_
                refine E_icmp_ne (tgt := 424) dL_placed_417 (by decide) (fun _ => ?_) (fun c0 => absurd (by decide) c0)
                refine E_iconst (v := nI 2) dL_placed_424 (by decide) ?_
                refine E_callT4 (fr' := 1) (k1 := 0) (n1 := 0) (k2 := 0) (n2 := 0) dL_placed_425 kO_L_number kL_L_124 (by exact Nat.le_of_ble_eq_true rfl) (by decide) (by exact Nat.le_of_ble_eq_true rfl) (Or.inl rfl) rfl ?_
                refine sp_L_number (by first | exact h | exact h.S) hf hl (by omega) (by decide) ?_
                refine gKv ?_
                refine E_bipush (v := nI 100) dL_placed_428 (by decide) ?_
                refine E_iadd dL_placed_430 ?_
                rw [m3.1]
                refine E_imul_n dL_placed_431 ?_
                refine E_iadd_n dL_placed_432 ?_
                refine E_aload_n dL_placed_433 rfl ?_
                refine E_iload dL_placed_434 rfl ?_
                refine E_iload dL_placed_436 rfl ?_
                refine E_iload dL_placed_438 rfl ?_
                refine E_bipush (v := nI 8) dL_placed_440 (by decide) ?_
                refine E_icmp_ne (tgt := 449) dL_placed_442 (by decide) (fun _ => ?_) (fun c0 => absurd (by decide) c0)
                refine E_iconst (v := nI 3) dL_placed_449 (by decide) ?_
                refine E_callT4 (fr' := 1) (k1 := 0) (n1 := 0) (k2 := 0) (n2 := 0) dL_placed_450 kO_L_number kL_L_124 (by exact Nat.le_of_ble_eq_true rfl) (by decide) (by exact Nat.le_of_ble_eq_true rfl) (Or.inl rfl) rfl ?_
                refine sp_L_number (by first | exact h | exact h.S) hf hl (by omega) (by decide) ?_
                refine gKv ?_
                refine E_iadd dL_placed_453 ?_
                refine E_bipush (v := nI 100) dL_placed_454 (by decide) ?_
                refine E_iadd dL_placed_456 ?_
                rw [Int32.add_assoc, m4.1, nI_add]
                refine E_setS dL_placed_457 hq rfl hi (by omega) x3 x4 m3.1 m4.1 rfl (fun M hq => ?_)
                have h := hq.X
                have hL := h.lay
                exact K M _ _ _ hq
            · refine E_goto (tgt := 458) dL_placed_369 (by decide) ?_
              have e0 := no (fun q => by
                have q3 := q.2.2.2
                rw [hb, Nat.add_sub_cancel] at q3
                have : 0 < cN c 137 (256 * f + yN (gat L b)) := q3
                omega)
              rw [e0] at K
              exact K M _ _ _ hq
        · refine E_goto (tgt := 458) dL_placed_301 (by decide) ?_
          have e0 := no (fun q => by
            first
              | exact absurd c_37 q.2.1.1
              | (have : 0 < cN c 137 (256 * f + yN (gat L i)) := q.1; omega)
              | exact c_298 q.2.1.2
              | (have := q.2.2.1; omega))
          rw [e0] at K
          exact K M _ _ _ hq
    · refine gKv ?_
      refine E_istore dL_placed_56 (Nat.le_of_ble_eq_true rfl) (by decide) rfl ?_
      refine E_iload dL_placed_58 rfl ?_
      refine E_bipush (v := nI 6) dL_placed_60 (by decide) ?_
      refine E_icmp_ne (tgt := 122) dL_placed_62 (by decide) (fun _ => ?_) (fun c0 => absurd (by decide) c0)
      refine E_iload dL_placed_122 rfl ?_
      refine E_bipush (v := nI 7) dL_placed_124 (by decide) ?_
      refine E_icmp_ne (tgt := 262) dL_placed_126 (by decide) (fun _ => ?_) (fun c0 => absurd (by decide) c0)
      refine E_iload dL_placed_262 rfl ?_
      refine E_bipush (v := nI 8) dL_placed_264 (by decide) ?_
      refine E_icmp_lt (tgt := 458) dL_placed_266 (by decide) (fun c0 => absurd c0 (by decide)) (fun _ => ?_)
      refine E_aload_n dL_placed_269 rfl ?_
      refine E_aload dL_placed_270 rfl ?_
      refine E_bipush (v := nI 6) dL_placed_272 (by decide) ?_
      refine E_ialdL (v := nI _) dL_placed_274 (l_132 hL) (k_132 hL) rfl (by omega) (by decide) h.a6 ?_
      refine E_aload_n dL_placed_275 rfl ?_
      refine E_iload dL_placed_276 rfl ?_
      refine E_laldL (v := pk _) dL_placed_278 h.plt h.pkd rfl (by omega) (by decide) (h.wk (by omega)) ?_
      refine E_callT1 (fr' := 1) (k1 := 0) (n1 := 0) (k2 := 0) (n2 := 0) dL_placed_279 kO_L_glyphOf kL_L_108 (by exact Nat.le_of_ble_eq_true rfl) (by decide) (by exact Nat.le_of_ble_eq_true rfl) (Or.inl rfl) rfl ?_
      refine sp_L_glyphOf (h.ok (by omega)) ?_
      refine gKv ?_
      refine E_callT3 (fr' := 2) (k1 := 0) (n1 := 0) (k2 := 0) (n2 := 0) dL_placed_282 kO_L_mark kL_L_112 (by exact Nat.le_of_ble_eq_true rfl) (by decide) (by exact Nat.le_of_ble_eq_true rfl) (Or.inl rfl) rfl ?_
      refine sp_L_mark (by first | exact h | exact h.S) hf (by first | assumption | exact h.gl (by omega)) ?_
      refine gKv ?_
      refine E_if_lt_d (tgt := 458) dL_placed_285 (by decide) (by omega) (fun c_285 => ?_) (fun c_285 => ?_)
      · have e0 := no (fun q => by
          first
            | exact absurd c_37 q.2.1.1
            | (have : 0 < cN c 137 (256 * f + yN (gat L i)) := q.1; omega)
            | exact c_298 q.2.1.2
            | (have := q.2.2.1; omega))
        rw [e0] at K
        exact K M _ _ _ hq
      · refine E_aload_n dL_placed_288 rfl ?_
        refine E_iload dL_placed_289 rfl ?_
        refine E_aload_n dL_placed_291 rfl ?_
        refine E_iload dL_placed_292 rfl ?_
        refine E_laldL (v := pk _) dL_placed_294 h.plt h.pkd rfl (by omega) (by decide) (h.wk (by omega)) ?_
        refine E_callT3 (fr' := 2) (k1 := 0) (n1 := 0) (k2 := 0) (n2 := 0) dL_placed_295 kO_L_has kL_L_165 (by exact Nat.le_of_ble_eq_true rfl) (by decide) (by exact Nat.le_of_ble_eq_true rfl) (Or.inl rfl) rfl ?_
        refine sp_L_has (by first | exact h | exact h.S) hf hl (h.ok (by omega)) ?_
        refine gKv ?_
        refine E_if_ne_b (tgt := 304) dL_placed_298 (by decide) (fun c_298 => ?_) (fun c_298 => ?_)
        · refine E_iload dL_placed_304 rfl ?_
          refine E_bipush (v := nI 8) dL_placed_306 (by decide) ?_
          refine E_icmp_ne (tgt := 323) dL_placed_308 (by decide) (fun _ => ?_) (fun c0 => absurd (by decide) c0)
          refine E_aload_n dL_placed_323 rfl ?_
          refine E_aload_n dL_placed_324 rfl ?_
          refine E_aload_n dL_placed_325 rfl ?_
          refine E_aload dL_placed_326 rfl ?_
          refine E_iload dL_placed_328 rfl ?_
          refine E_iload dL_placed_330 rfl ?_
          refine E_iconst (v := -1) dL_placed_332 (by decide) ?_
          refine E_callT7 (fr' := 4) (k1 := 0) (n1 := 0) (k2 := 0) (n2 := 0) dL_placed_333 kO_L_next kL_L_145 (by exact Nat.le_of_ble_eq_true rfl) (by decide) (by exact Nat.le_of_ble_eq_true rfl) (Or.inl rfl) rfl ?_
          refine sp_L_nextB h hl hi ?_
          refine gKv ?_
          refine E_istore dL_placed_336 (Nat.le_of_ble_eq_true rfl) (by decide) rfl ?_
          refine E_iload dL_placed_338 rfl ?_
          refine E_if_lt_d (tgt := 458) dL_placed_340 (by decide) (by omega) (fun c_340 => ?_) (fun c_340 => ?_)
          · have e0 := no (fun q => by
              first
                | exact absurd c_37 q.2.1.1
                | (have : 0 < cN c 137 (256 * f + yN (gat L i)) := q.1; omega)
                | exact c_298 q.2.1.2
                | (have := q.2.2.1; omega))
            rw [e0] at K
            exact K M _ _ _ hq
          · obtain ⟨b, hb⟩ : ∃ b, ahd c f (12 * f + l) L i = b + 1 := ⟨ahd c f (12 * f + l) L i - 1, by omega⟩
            have hG0 : 0 < mkc c f (gat L b) → mkS c f (12 * f + l) L i A = mkU c f (12 * f + l) L i (ahd c f (12 * f + l) L i - 1) A := fun q => cI_t ⟨by omega, ⟨c_37, c_298⟩, by omega, by rw [hb, Nat.add_sub_cancel]; exact q⟩
            rw [hb, Nat.add_sub_cancel] at hG0
            rw [hb, dI_succ]
            have hbb := pEf_b h.wf f (yN (gat L b))
            refine E_iload dL_placed_343 rfl ?_
            refine E_bipush (v := nI 9) dL_placed_345 (by decide) ?_
            refine E_icmp_ne_r (tgt := 372) dL_placed_347 (by decide) (fun c0 => absurd c0 (by decide)) (fun _ => ?_)
            refine E_aload_n dL_placed_350 rfl ?_
            refine E_aload dL_placed_351 rfl ?_
            refine E_bipush (v := nI 6) dL_placed_353 (by decide) ?_
            refine E_ialdL (v := nI _) dL_placed_355 (l_132 hL) (k_132 hL) rfl (by omega) (by decide) h.a6 ?_
            refine E_aload_n dL_placed_356 rfl ?_
            refine E_iload dL_placed_357 rfl ?_
            refine E_laldL (v := pk _) dL_placed_359 h.plt h.pkd rfl (by omega) (by decide) (h.wk (by omega)) ?_
            refine E_callT1 (fr' := 1) (k1 := 0) (n1 := 0) (k2 := 0) (n2 := 0) dL_placed_360 kO_L_glyphOf kL_L_108 (by exact Nat.le_of_ble_eq_true rfl) (by decide) (by exact Nat.le_of_ble_eq_true rfl) (Or.inl rfl) rfl ?_
            refine sp_L_glyphOf (h.ok (by omega)) ?_
            refine gKv ?_
            refine E_callT3 (fr' := 2) (k1 := 0) (n1 := 0) (k2 := 0) (n2 := 0) dL_placed_363 kO_L_mark kL_L_112 (by exact Nat.le_of_ble_eq_true rfl) (by decide) (by exact Nat.le_of_ble_eq_true rfl) (Or.inl rfl) rfl ?_
            refine sp_L_mark (by first | exact h | exact h.S) hf (by first | assumption | exact h.gl (by omega)) ?_
            refine gKv ?_
            refine E_if_ge_d (tgt := 372) dL_placed_366 (by decide) (by omega) (fun c_366 => ?_) (fun c_366 => ?_)
            · have hG := hG0 (by omega)
              refine E_aload_n dL_placed_372 rfl ?_
              refine E_aload_n dL_placed_373 rfl ?_
              refine E_aload_n dL_placed_374 rfl ?_
              refine E_aload_n dL_placed_375 rfl ?_
              refine E_aload dL_placed_376 rfl ?_
              refine E_iload dL_placed_378 rfl ?_
              refine E_iload dL_placed_380 rfl ?_
              refine E_iload dL_placed_382 rfl ?_
              refine E_callT8 (fr' := 3) (k1 := 0) (n1 := 0) (k2 := 0) (n2 := 0) dL_placed_384 kO_L_first kL_L_189 (by exact Nat.le_of_ble_eq_true rfl) (by decide) (by exact Nat.le_of_ble_eq_true rfl) (Or.inl rfl) rfl ?_
              refine sp_L_first h hl (by omega) hi (fun hk => ?_) (fun hk => ?_)
              · have eU : mkU c f (12 * f + l) L i b A = A := cI_f (fun q => by rw [← zrA_9 hkd] at q; exact hk q)
                rw [eU] at hG
                rw [hG] at K
                refine gKv ?_
                refine E_istore dL_placed_387 (Nat.le_of_ble_eq_true rfl) (by decide) rfl ?_
                refine E_iload dL_placed_389 rfl ?_
                refine E_if_lt (tgt := 458) dL_placed_391 (by decide) (fun _ => ?_) (fun c0 => absurd (by decide) c0)
                exact K M _ _ _ hq
              · have eU : mkU c f (12 * f + l) L i b A = _ := cI_t (by rw [← zrA_9 hkd]; exact hk)
                rw [eU, ← zrA_9 hkd] at hG
                rw [hG] at K
                have hr := h.wf.ru hk
                rw [hkd] at hr
                have m3 := rEm_ok h.S.wz hk (w := 2) (by decide)
                have m4 := rEm_ok h.S.wz hk (w := 3) (by decide)
                have x3 := far_300 (iF9 hr.1).2.2.1 m3.2 m3.1
                have x4 := far_300 (iF9 hr.1).2.2.2 m4.2 m4.1
                refine gKv ?_
                refine E_istore dL_placed_387 (Nat.le_of_ble_eq_true rfl) (by decide) rfl ?_
                refine E_iload dL_placed_389 rfl ?_
                refine E_if_lt_n (tgt := 458) dL_placed_391 (by decide) (by omega) ?_
                refine E_aload dL_placed_394 rfl ?_
                refine E_iload dL_placed_396 rfl ?_
                refine E_ldc (v := nI 100000) dL_placed_398 (gW_at 775 (by decide +kernel) (by decide +kernel)) ?_
                refine E_iload dL_placed_400 rfl ?_
                refine E_iconst (v := nI 1) dL_placed_402 (by decide) ?_
                refine E_iadd_n dL_placed_403 ?_
                refine E_imul_n dL_placed_404 ?_
                refine E_sipush (v := nI 300) dL_placed_405 (by decide) ?_
                refine E_aload_n dL_placed_408 rfl ?_
                refine E_iload dL_placed_409 rfl ?_
                refine E_iload dL_placed_411 rfl ?_
                refine E_iload dL_placed_413 rfl ?_
                refine E_bipush (v := nI 8) dL_placed_415 (by decide) ?_
                refine E_icmp_ne (tgt := 424) dL_placed_417 (by decide) (fun _ => ?_) (fun c0 => absurd (by decide) c0)
                refine E_iconst (v := nI 2) dL_placed_424 (by decide) ?_
                refine E_callT4 (fr' := 1) (k1 := 0) (n1 := 0) (k2 := 0) (n2 := 0) dL_placed_425 kO_L_number kL_L_124 (by exact Nat.le_of_ble_eq_true rfl) (by decide) (by exact Nat.le_of_ble_eq_true rfl) (Or.inl rfl) rfl ?_
                refine sp_L_number (by first | exact h | exact h.S) hf hl (by omega) (by decide) ?_
                refine gKv ?_
                refine E_bipush (v := nI 100) dL_placed_428 (by decide) ?_
                refine E_iadd dL_placed_430 ?_
                rw [m3.1]
                refine E_imul_n dL_placed_431 ?_
                refine E_iadd_n dL_placed_432 ?_
                refine E_aload_n dL_placed_433 rfl ?_
                refine E_iload dL_placed_434 rfl ?_
                refine E_iload dL_placed_436 rfl ?_
                refine E_iload dL_placed_438 rfl ?_
                refine E_bipush (v := nI 8) dL_placed_440 (by decide) ?_
                refine E_icmp_ne (tgt := 449) dL_placed_442 (by decide) (fun _ => ?_) (fun c0 => absurd (by decide) c0)
                refine E_iconst (v := nI 3) dL_placed_449 (by decide) ?_
                refine E_callT4 (fr' := 1) (k1 := 0) (n1 := 0) (k2 := 0) (n2 := 0) dL_placed_450 kO_L_number kL_L_124 (by exact Nat.le_of_ble_eq_true rfl) (by decide) (by exact Nat.le_of_ble_eq_true rfl) (Or.inl rfl) rfl ?_
                refine sp_L_number (by first | exact h | exact h.S) hf hl (by omega) (by decide) ?_
                refine gKv ?_
                refine E_iadd dL_placed_453 ?_
                refine E_bipush (v := nI 100) dL_placed_454 (by decide) ?_
                refine E_iadd dL_placed_456 ?_
                rw [Int32.add_assoc, m4.1, nI_add]
                refine E_setS dL_placed_457 hq rfl hi (by omega) x3 x4 m3.1 m4.1 rfl (fun M hq => ?_)
                have h := hq.X
                have hL := h.lay
                exact K M _ _ _ hq
            · refine E_goto (tgt := 458) dL_placed_369 (by decide) ?_
              have e0 := no (fun q => by
                have q3 := q.2.2.2
                rw [hb, Nat.add_sub_cancel] at q3
                have : 0 < cN c 137 (256 * f + yN (gat L b)) := q3
                omega)
              rw [e0] at K
              exact K M _ _ _ hq
        · refine E_goto (tgt := 458) dL_placed_301 (by decide) ?_
          have e0 := no (fun q => by
            first
              | exact absurd c_37 q.2.1.1
              | (have : 0 < cN c 137 (256 * f + yN (gat L i)) := q.1; omega)
              | exact c_298 q.2.1.2
              | (have := q.2.2.1; omega))
          rw [e0] at K
          exact K M _ _ _ hq
  · refine E_goto (tgt := 458) dL_placed_40 (by decide) ?_
    have e0 := no (fun q => by
      first
        | exact absurd c_37 q.2.1.1
        | (have : 0 < cN c 137 (256 * f + yN (gat L i)) := q.1; omega)
        | exact c_298 q.2.1.2
        | (have := q.2.2.1; omega))
    rw [e0] at K
    exact K M _ _ _ hq
set_option maxRecDepth 100000 in
set_option maxHeartbeats 4000000 in
theorem lp_L_placed {g : gG} {Q : Option Value ⊕ String → gM → Prop} {c : Cf} {f : Nat} {M0 : gM} {pw : Nat} {L : List Gl} {w z : Int32} {A : Pl} {l kd : Nat} {s : Nat → Pl → Pl} (B : ∀ i B M, i < L.length → lQ c f M0 pw L w z B M → (∀ M v11 v12 v13, lQ c f M0 pw L w z (s i B) M → E g 5 0 0 mL_placed 458 [.ref (pw + 1), .ref 131, .ref 130, .ref 132, .ref 133, .ref (pw + 2), .ref (pw + 3), .ref (pw + 4), .int (nI (8 * f + l)), .int (nI kd), .int (nI i), v11, v12, v13] [] M Q) → ∀ v11 v12 v13, E g 5 0 0 mL_placed 21 [.ref (pw + 1), .ref 131, .ref 130, .ref 132, .ref 133, .ref (pw + 2), .ref (pw + 3), .ref (pw + 4), .int (nI (8 * f + l)), .int (nI kd), .int (nI i), v11, v12, v13] [] M Q) (K : ∀ M, lQ c f M0 pw L w z (fo s L.length A) M → Q (.inl none) M) : ∀ i, i ≤ L.length → 0 ≤ i → ∀ M, lQ c f M0 pw L w z (fo s i A) M → ∀ v11 v12 v13, E g 5 0 0 mL_placed 12 [.ref (pw + 1), .ref 131, .ref 130, .ref 132, .ref 133, .ref (pw + 2), .ref (pw + 3), .ref (pw + 4), .int (nI (8 * f + l)), .int (nI kd), .int (nI i), v11, v12, v13] [] M Q := by
  refine lpUp L.length (fun i hi ih => ?_)
  intro _ M hq v11 v12 v13
  have h := hq.X
  have hL := h.lay
  have hf := h.f2
  have hn := h.len
  have hct := h.ct
  refine E_iload dL_placed_12 rfl ?_
  refine E_aload dL_placed_14 rfl ?_
  refine E_iconst (v := nI 5) dL_placed_16 (by decide) ?_
  refine E_ialdL (v := nI (List.length _)) dL_placed_17 (l_132 hL) (k_132 hL) rfl (by omega) (by decide) h.a5 ?_
  refine E_icmp_ge_n (tgt := 464) dL_placed_18 (by decide) (by omega) (by omega) (fun c_18 => ?_) (fun c_18 => ?_)
  · refine E_vret dL_placed_464 rfl ?_
    obtain rfl : i = L.length := by omega
    exact K M hq
  · refine B i _ M (by omega) hq (fun M v11 v12 v13 hq => ?_) _ _ _
    have h := hq.X
    refine E_iinc_n (d := 1) dL_placed_458 rfl rfl rfl (by decide) rfl ?_
    refine E_goto (tgt := 12) dL_placed_461 (by decide) ?_
    exact ih (by omega) (Nat.zero_le _) M hq _ _ _
set_option maxRecDepth 100000 in
set_option maxHeartbeats 4000000 in
theorem sp_L_placed {g : gG} {M : gM} {Q : Option Value ⊕ String → gM → Prop} {c : Cf} {f : Nat} {M0 : gM} {pw : Nat} {L : List Gl} {w z : Int32} {A : Pl} (hq : lQ c f M0 pw L w z A M) {l : Nat} (hl : l < cN c 129 f) (hkd : 6 ≤ cN c 130 (12 * f + l)) (K : ∀ M, lQ c f M0 pw L w z (plK c f (12 * f + l) L A) M → Q (.inl none) M) : E g 5 0 0 mL_placed 0 [.ref (pw + 1), .ref 131, .ref 130, .ref 132, .ref 133, .ref (pw + 2), .ref (pw + 3), .ref (pw + 4), .int (nI (8 * f + l)), .null, .null, .null, .null, .null] [] M Q := by
  have h := hq.X
  have hL := h.lay
  have hf := h.f2
  have hn := h.len
  have hct := h.ct
  have hmb := mEn_b h.wf (12 * f + l)
  rw [← fo_stK A hkd hmb.1] at K
  refine E_aload_n dL_placed_0 rfl ?_
  refine E_iload dL_placed_1 rfl ?_
  refine E_ialdL (v := nI (mEn _ _)) dL_placed_3 (l_129 hL) (k_129 hL) rfl (by omega) (by decide) (h.me hl) ?_
  refine E_bipush (v := nI 15) dL_placed_4 (by decide) ?_
  refine E_iand dL_placed_6 ?_
  rw [mE_0_15 h.wf]
  refine E_istore dL_placed_7 (Nat.le_of_ble_eq_true rfl) (by decide) rfl ?_
  refine E_iconst (v := nI 0) dL_placed_9 (by decide) ?_
  refine E_istore dL_placed_10 (Nat.le_of_ble_eq_true rfl) (by decide) rfl ?_
  refine lp_L_placed (s := stK c f (12 * f + l) L) (fun i B M hi hq K => ?_) K 0 (Nat.zero_le _) (Nat.le_refl _) M hq _ _ _
  by_cases q6 : cN c 130 (12 * f + l) = 6
  · rw [show stK c f (12 * f + l) L = prS c f (12 * f + l) L from cI_t q6, q6] at K
    rw [q6]
    exact b6_L_placed hq hl hi q6 K
  · by_cases q7 : cN c 130 (12 * f + l) = 7
    · rw [show stK c f (12 * f + l) L = crS c f (12 * f + l) L from (cI_f q6).trans (cI_t q7), q7] at K
      rw [q7]
      exact b7_L_placed hq hl hi q7 K
    · by_cases q8 : cN c 130 (12 * f + l) = 8
      · rw [show stK c f (12 * f + l) L = bsS c f (12 * f + l) L from (cI_f q6).trans ((cI_f q7).trans (cI_t q8)), q8] at K
        rw [q8]
        exact b8_L_placed hq hl hi q8 K
      · have q9 : cN c 130 (12 * f + l) = 9 := by omega
        rw [show stK c f (12 * f + l) L = mkS c f (12 * f + l) L from (cI_f q6).trans ((cI_f q7).trans (cI_f q8)), q9] at K
        rw [q9]
        exact b9_L_placed hq hl hi q9 K
