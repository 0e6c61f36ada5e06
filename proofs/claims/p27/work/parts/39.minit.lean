/-! the reference: scripts, runs, forms -/
def bS (c : Cf) (M : gM) : Prop := gLay M ∧ mCf c M ∧ WFc c
theorem bS.lay {c : Cf} {M : gM} (h : bS c M) : gLay M := h.1
theorem bS.gc {c : Cf} {M : gM} (h : bS c M) {a j : Nat} (q : cfA a j) : mI M a j = nI (cN c a j) := h.2.1.1 a j q
theorem bS.gr {c : Cf} {M : gM} (h : bS c M) (j : Nat) : mI M 136 j = cR c j := h.2.1.2 j
theorem bS.b {c : Cf} {M : gM} (h : bS c M) : bS c M := h
theorem bS.wf {c : Cf} {M : gM} (h : bS c M) : WFc c := h.2.2
theorem mY.b {c : Cf} {f : Nat} {M0 M : gM} {n : Nat} {r : Nat → Option Gl} {w : Int32} (h : mY c f M0 n r w M) : bS c M := ⟨h.lay, ⟨fun _ _ q => h.gc q, h.gr⟩, h.wf⟩
theorem mX.b {c : Cf} {f : Nat} {M0 M : gM} {L : List Gl} {w : Int32} (h : mX c f M0 L w M) : bS c M := h.1.b
theorem bS.fr {c : Cf} {M M' : gM} {S : Nat → Nat → Prop} (h : bS c M) (hf : fr S M M') (hs : ∀ a j, S a j → ¬ cfA a j ∧ ¬ a = 136) : bS c M' :=
  ⟨hf.lay h.lay, ⟨fun a j q => (hf.2.2 a j (fun z => (hs a j z).1 q)).trans (h.gc q), fun j => (hf.2.2 136 j (fun z => (hs 136 j z).2 rfl)).trans (h.gr j)⟩, h.wf⟩
theorem fr.bk {S : Nat → Nat → Prop} {M M' : gM} (h : fr S M M') {a j : Nat} (q : ¬ S a j) : mI M' a j = mI M a j := h.2.2 a j q
abbrev cMk (s : Nat) : Prop := 21 ≤ s ∧ s ≤ 23
abbrev cCo (s : Nat) : Prop := 30 ≤ s ∧ s ≤ 38
abbrev cVo (s : Nat) : Prop := (40 ≤ s ∧ s ≤ 42) ∨ s = 44
abbrev cBo (s : Nat) : Prop := (10 ≤ s ∧ s ≤ 15) ∨ s = 20
def sgS (s : Nat) : Nat := if 30 ≤ s then 1 else 0
theorem sgS_b (s : Nat) : sgS s ≤ 1 := by unfold sgS; split <;> omega
/-- the script of what is common at the beginning; that ahead of a place; at a place; the face -/
noncomputable def scF (c : Cf) (b k : Nat) : Nat := cI (fnd (fun j => 10 ≤ cN c 141 j) b k < b) (sgS (cN c 141 (fnd (fun j => 10 ≤ cN c 141 j) b k))) 0
noncomputable def scB (c : Cf) (a b k : Nat) : Nat := cI (0 < rfd (fun j => a ≤ j ∧ 10 ≤ cN c 141 j) k) (sgS (cN c 141 (rfd (fun j => a ≤ j ∧ 10 ≤ cN c 141 j) k - 1))) (scF c b a)
noncomputable def scr (c : Cf) (a b k : Nat) : Nat := scB c a b (k + 1)
def fcO (c : Cf) (j : Nat) : Nat := cN c 140 (cN c 141 j)
theorem scF_b (c : Cf) (b k : Nat) : scF c b k ≤ 1 := by
  unfold scF
  by_cases e : fnd (fun j => 10 ≤ cN c 141 j) b k < b
  · rw [cI_t e]; exact sgS_b _
  · rw [cI_f e]; omega
theorem scB_b (c : Cf) (a b k : Nat) : scB c a b k ≤ 1 := by
  unfold scB
  by_cases e : 0 < rfd (fun j => a ≤ j ∧ 10 ≤ cN c 141 j) k
  · rw [cI_t e]; exact sgS_b _
  · rw [cI_f e]; exact scF_b _ _ _
theorem scr_b (c : Cf) (a b k : Nat) : scr c a b k ≤ 1 := scB_b _ _ _ _
theorem scF_s {c : Cf} {b k : Nat} (hk : k < b) : scF c b k = if 10 ≤ cN c 141 k then sgS (cN c 141 k) else scF c b (k + 1) := by
  unfold scF
  by_cases e : 10 ≤ cN c 141 k
  · rw [fnd_hit hk e, cI_t hk, if_pos e]
  · rw [fnd_skip hk e, if_neg e]
theorem scF_0 {c : Cf} {b k : Nat} (hk : b ≤ k) : scF c b k = 0 := by unfold scF; rw [fnd_end hk, cI_f (by omega)]
theorem scB_0 {c : Cf} {a b : Nat} : scB c a b a = scF c b a := by
  unfold scB
  rw [rfd_eq (P := fun j => a ≤ j ∧ 10 ≤ cN c 141 j) (k := a) (r := 0) (by omega) (fun j q => by omega) (fun j _ q => by omega), cI_f (by omega)]
theorem scB_s {c : Cf} {a b k : Nat} (hk : a ≤ k) : scB c a b (k + 1) = if 10 ≤ cN c 141 k then sgS (cN c 141 k) else scB c a b k := by
  unfold scB
  by_cases e : 10 ≤ cN c 141 k
  · rw [rfd_t ⟨hk, e⟩, cI_t (by omega), if_pos e, Nat.add_sub_cancel]
  · rw [rfd_f (fun q => e q.2), if_neg e]
def scR (a _j : Nat) : Prop := a = 143 ∨ a = 144
def scS (c : Cf) (a b k : Nat) (M : gM) : Prop := ∀ j, a ≤ j → j < k → mI M 143 j = nI (scr c a b j) ∧ mI M 144 j = nI (fcO c j)
theorem scS.set {c : Cf} {a b k : Nat} {M : gM} (h : scS c a b k M) {v w : Int32} (hv : v = nI (scr c a b k)) (hw : w = nI (fcO c k)) : scS c a b (k + 1) (sI (sI M 143 k v) 144 k w) := fun j h1 h2 => by
  simp only [mI_sI]
  by_cases e : j = k
  · subst e; simp [hv, hw]
  · have := h j h1 (by omega)
    simpa [e] using this
theorem scS.mv {c : Cf} {a b k : Nat} {M M' : gM} (h : scS c a b k M) (q : ∀ j, mI M' 143 j = mI M 143 j) (q2 : ∀ j, mI M' 144 j = mI M 144 j) : scS c a b k M' := fun j h1 h2 => by rw [q, q2]; exact h j h1 h2
noncomputable def eor (c : Cf) (a b k : Nat) : Nat := fnd (fun j => ¬ (scr c a b j = scr c a b k ∧ fcO c j = fcO c k)) b k
theorem eor_b {c : Cf} {a b k : Nat} (h : k < b) : k + 1 ≤ eor c a b k ∧ eor c a b k ≤ b := by
  unfold eor
  rw [fnd_skip h (fun q => q ⟨rfl, rfl⟩)]
  exact ⟨(fnd_spec h).1, (fnd_spec h).2.1⟩
theorem fcO_b {c : Cf} (h : WFc c) (j : Nat) : fcO c j ≤ 1 := (h.gl _).2.2.2
noncomputable def jfr (c : Cf) (a p : Nat) : Nat := rfd (fun j => j < a ∨ ¬ cMk (cN c 141 j)) p
def jfP (c : Cf) (a p : Nat) : Prop := a < jfr c a p ∧ (cBo (cN c 141 (jfr c a p - 1)) ∨ cN c 141 (jfr c a p - 1) = 2)
noncomputable def jon (c : Cf) (b p : Nat) : Nat := fnd (fun j => ¬ cMk (cN c 141 j)) b (p + 1)
def joP (c : Cf) (b p : Nat) : Prop := jon c b p < b ∧ ((10 ≤ cN c 141 (jon c b p) ∧ cN c 141 (jon c b p) ≤ 18) ∨ cN c 141 (jon c b p) = 20 ∨ cN c 141 (jon c b p) = 2)
theorem jfr_b {c : Cf} {a p : Nat} (h : a ≤ p) : a ≤ jfr c a p ∧ jfr c a p ≤ p := by
  refine ⟨?_, rfd_le p⟩
  by_cases e : jfr c a p < a
  · have := (rfd_spec (P := fun j => j < a ∨ ¬ cMk (cN c 141 j)) p).2 (a - 1) (by unfold jfr at e; omega) (by omega)
    exact absurd (Or.inl (by omega)) this
  · omega
noncomputable def frm (c : Cf) (a b p : Nat) : Int32 := cI (10 ≤ cN c 141 p ∧ cN c 141 p ≤ 20) (cI (¬ cN c 141 p = 19 ∧ jfP c a p) (cI (cBo (cN c 141 p) ∧ joP c b p) (nI 2) (nI 3)) (cI (cBo (cN c 141 p) ∧ joP c b p) (nI 1) (nI 0))) (-100)
theorem frm_n {c : Cf} {a b p : Nat} (h : ¬ (10 ≤ cN c 141 p ∧ cN c 141 p ≤ 20)) : frm c a b p = -100 := cI_f h
theorem frm_e {c : Cf} {a b p : Nat} (h : 10 ≤ cN c 141 p ∧ cN c 141 p ≤ 20) {A B : Prop} (hA : A ↔ ¬ cN c 141 p = 19 ∧ jfP c a p) (hB : B ↔ cBo (cN c 141 p) ∧ joP c b p) : frm c a b p = cI A (cI B (nI 2) (nI 3)) (cI B (nI 1) (nI 0)) := by
  unfold frm; rw [cI_t h, cI_congr hA, cI_congr hB, cI_congr hB]
theorem frm_v {c : Cf} {a b p : Nat} (h : 10 ≤ cN c 141 p ∧ cN c 141 p ≤ 20) : frm c a b p = cI (¬ cN c 141 p = 19 ∧ jfP c a p) (cI (cBo (cN c 141 p) ∧ joP c b p) (nI 2) (nI 3)) (cI (cBo (cN c 141 p) ∧ joP c b p) (nI 1) (nI 0)) := cI_t h
theorem cI_tf {α : Type} {P : Prop} {a b x : α} (h : (P ∧ x = a) ∨ (¬ P ∧ x = b)) : x = cI P a b := by
  rcases h with ⟨h1, h2⟩ | ⟨h1, h2⟩
  · rw [cI_t h1]; exact h2
  · rw [cI_f h1]; exact h2
