/-! the reference: what is asked -/
noncomputable abbrev tn (c : Cf) (j : Nat) : Nat := rn c 0 (tl c) j
noncomputable abbrev tg (c : Cf) (j : Nat) : Nat := gS c 0 (tl c) j
noncomputable abbrev tL (c : Cf) (j : Nat) : List Gl := rL c 0 (tl c) j
noncomputable abbrev tB (c : Cf) (j : Nat) : Pl := rB c 0 (tl c) j
noncomputable abbrev tS (c : Cf) (j : Nat) : Int32 := lS c 0 (tl c) j
noncomputable abbrev tr (c : Cf) : Nat := nr c 0 (tl c)
noncomputable abbrev ng (c : Cf) : Nat := tg c (tr c)
def qR (a j : Nat) : Prop := (a = 128 ∧ ¬ j = 1 ∧ ¬ j = 14 ∧ ¬ j = 17) ∨ (143 ≤ a ∧ a ≤ 177)
theorem qR_c (a j : Nat) (h : qR a j) : ¬ cfA a j ∧ ¬ a = 136 := by unfold qR at h; unfold cfA; omega
theorem shR_q {R0 G0 : Nat} (a j : Nat) (h : shR R0 G0 a j) : qR a j := by unfold shR rowR at h; unfold qR; omega
def qS (c : Cf) (M : gM) : Prop := bS c M ∧ shA c M
theorem qS.b {c : Cf} {M : gM} (h : qS c M) : bS c M := h.1
theorem qS.lay {c : Cf} {M : gM} (h : qS c M) : gLay M := h.1.lay
theorem qS.wf {c : Cf} {M : gM} (h : qS c M) : WFc c := h.1.wf
theorem qS.gc {c : Cf} {M : gM} (h : qS c M) {a j : Nat} (q : cfA a j) : mI M a j = nI (cN c a j) := h.1.gc q
theorem qS.gr {c : Cf} {M : gM} (h : qS c M) (j : Nat) : mI M 136 j = cR c j := h.1.gr j
theorem qS.g36 {c : Cf} {M : gM} (h : qS c M) : mI M 128 36 = nI (ng c) := h.2.1.2.2.1.trans (by rw [Nat.zero_add])
theorem qS.g45 {c : Cf} {M : gM} (h : qS c M) : mI M 128 45 = nI (tr c) := h.2.1.2.1.trans (by rw [Nat.zero_add])
theorem qS.rf {c : Cf} {M : gM} (h : qS c M) {j : Nat} (hj : j ≤ tr c) : mI M 166 j = nI (tn c j) := by have := (h.2.2.1 j hj).1; rwa [Nat.zero_add] at this
theorem qS.rg {c : Cf} {M : gM} (h : qS c M) {j : Nat} (hj : j ≤ tr c) : mI M 167 j = nI (tg c j) := by have := (h.2.2.1 j hj).2.1; rwa [Nat.zero_add, Nat.zero_add] at this
theorem qS.rl {c : Cf} {M : gM} (h : qS c M) {j : Nat} (hj : j ≤ tr c) : mI M 168 j = tS c j := by have := (h.2.2.1 j hj).2.2; rwa [Nat.zero_add] at this
theorem qS.sc {c : Cf} {M : gM} (h : qS c M) {k : Nat} (hk : k < tl c) : mI M 143 k = nI (scr c 0 (tl c) k) := (h.2.2.2 k (Nat.zero_le _) hk).1
theorem qS.fc {c : Cf} {M : gM} (h : qS c M) {k : Nat} (hk : k < tl c) : mI M 144 k = nI (fcO c k) := (h.2.2.2 k (Nat.zero_le _) hk).2
theorem qS.ok {c : Cf} {M : gM} (h : qS c M) {j : Nat} (hj : j < tr c) : okL (tL c j) := (h.2.1.2.2.2.2 j hj).1
theorem qS.o {c : Cf} {M : gM} (h : qS c M) {j : Nat} (hj : j < tr c) {q p : Nat} (hq : q < 8) (hp : p < (tL c j).length) : mI M (158 + q) (tg c j + p) = og (tg c j) (tL c j) (tB c j) q p := by
  have := (h.2.1.2.2.2.2 j hj).2 q p hq hp
  rwa [Nat.zero_add] at this
theorem qS.t16 {c : Cf} {M : gM} (h : qS c M) : tl c ≤ 16 := h.wf.tl
theorem qS.nr16 {c : Cf} {M : gM} (h : qS c M) : tr c ≤ 16 := by have : tr c ≤ tl c - 0 := (nr_b (c := c) (Nat.zero_le (tl c)) h.t16).1; have := h.t16; omega
theorem qS.tn16 {c : Cf} {M : gM} (h : qS c M) {j : Nat} (hj : j ≤ tr c) : tn c j ≤ tl c := (rn_b (c := c) (Nat.zero_le (tl c)) j hj).2.1
theorem tg_s (c : Cf) (j : Nat) : tg c (j + 1) = tg c j + (tL c j).length := rfl
theorem tg_m (c : Cf) {j i : Nat} (h : j < i) : tg c (j + 1) ≤ tg c i := by rw [tg_s]; exact gS_m i h
theorem qS.g1024 {c : Cf} {M : gM} (h : qS c M) : ng c ≤ 1024 := by have := h.nr16; have : tg c (tr c) ≤ 64 * tr c := h.2.1.1; show tg c (tr c) ≤ 1024; omega
theorem qS.fr {c : Cf} {M M' : gM} {S : Nat → Nat → Prop} (h : qS c M) (hf : fr S M M') (hs : ∀ a j, S a j → 169 ≤ a ∧ a ≤ 177 ∨ (a = 128 ∧ j = 0)) : qS c M' := by
  have e : ∀ a j, (a < 128 ∨ (129 ≤ a ∧ a ≤ 168) ∨ (a = 128 ∧ ¬ j = 0)) → mI M' a j = mI M a j := fun a j q => hf.bk (fun z => by have := hs a j z; omega)
  refine ⟨h.1.fr hf (fun a j q => by have := hs a j q; unfold cfA; omega), ?_, fun j hj => (h.2.2.1 j hj).mv (fun p _ _ => e _ _ (by omega)), h.2.2.2.mv (fun j => e _ _ (by omega)) (fun j => e _ _ (by omega))⟩
  obtain ⟨a1, a2, a3, a4, a5⟩ := h.2.1
  exact ⟨a1, (e _ _ (by omega)).trans a2, (e _ _ (by omega)).trans a3, fun j hj => (a4 j hj).mv (fun p _ _ => e _ _ (by omega)), fun j hj => ⟨(a5 j hj).1, (a5 j hj).2.mv (fun q p _ _ _ => e _ _ (by omega))⟩⟩
/-- the run of a place, of a glyph -/
noncomputable def ru (c : Cf) (p : Nat) : Nat := fnd (fun j => p < tn c (j + 1)) (tr c) 0
noncomputable def tj (c : Cf) (P : Nat) : Nat := fnd (fun j => P < tg c (j + 1)) (tr c) 0
theorem ru_b {c : Cf} (hw : WFc c) {p : Nat} (hp : p < tl c) : ru c p < tr c ∧ tn c (ru c p) ≤ p ∧ p < tn c (ru c p + 1) := by
  obtain ⟨-, h2, h3, h4⟩ := fnd_spec (P := fun j => p < tn c (j + 1)) (Nat.zero_le (tr c))
  have hb := nr_b (c := c) (Nat.zero_le (tl c)) hw.tl
  have h0 : 0 < tr c := Nat.pos_of_ne_zero (fun q => by
    have : rn c 0 (tl c) (nr c 0 (tl c)) = tl c := hb.2
    have q : nr c 0 (tl c) = 0 := q
    rw [q] at this
    have : (0 : Nat) = tl c := this
    omega)
  have hlt : ru c p < tr c := by
    refine Nat.lt_of_le_of_ne h2 (fun q => ?_)
    have h5 := h4 (tr c - 1) (Nat.zero_le _) (by show tr c - 1 < ru c p; rw [q]; omega)
    refine h5 ?_
    show p < rn c 0 (tl c) (tr c - 1 + 1)
    rw [Nat.sub_add_cancel h0]
    show p < rn c 0 (tl c) (nr c 0 (tl c))
    rw [hb.2]; exact hp
  refine ⟨hlt, ?_, h3 hlt⟩
  by_cases e : ru c p = 0
  · rw [e]; exact Nat.zero_le _
  · have h5 := h4 (ru c p - 1) (Nat.zero_le _) (by show ru c p - 1 < ru c p; omega)
    have h5 : ¬ p < tn c (ru c p - 1 + 1) := h5
    rw [Nat.sub_add_cancel (Nat.pos_of_ne_zero e)] at h5
    omega
theorem tj_b {c : Cf} {P : Nat} (hp : P < ng c) : tj c P < tr c ∧ tg c (tj c P) ≤ P ∧ P < tg c (tj c P + 1) := by
  obtain ⟨-, h2, h3, h4⟩ := fnd_spec (P := fun j => P < tg c (j + 1)) (Nat.zero_le (tr c))
  have h0 : 0 < tr c := Nat.pos_of_ne_zero (fun q => by
    unfold ng at hp
    rw [q] at hp
    exact absurd hp (Nat.not_lt_zero _))
  have hlt : tj c P < tr c := by
    refine Nat.lt_of_le_of_ne h2 (fun q => ?_)
    have h5 := h4 (tr c - 1) (Nat.zero_le _) (by show tr c - 1 < tj c P; rw [q]; omega)
    refine h5 ?_
    show P < tg c (tr c - 1 + 1)
    rw [Nat.sub_add_cancel h0]; exact hp
  refine ⟨hlt, ?_, h3 hlt⟩
  by_cases e : tj c P = 0
  · rw [e]; exact Nat.zero_le _
  · have h5 := h4 (tj c P - 1) (Nat.zero_le _) (by show tj c P - 1 < tj c P; omega)
    have h5 : ¬ P < tg c (tj c P - 1 + 1) := h5
    rw [Nat.sub_add_cancel (Nat.pos_of_ne_zero e)] at h5
    omega
noncomputable def pgv (c : Cf) (q P : Nat) : Int32 := og (tg c (tj c P)) (tL c (tj c P)) (tB c (tj c P)) q (P - tg c (tj c P))
theorem qS.pg {c : Cf} {M : gM} (h : qS c M) {q P : Nat} (hq : q < 8) (hp : P < ng c) : mI M (158 + q) P = pgv c q P := by
  obtain ⟨h1, h2, h3⟩ := tj_b hp
  rw [tg_s] at h3
  have := h.o h1 hq (p := P - tg c (tj c P)) (by omega)
  rwa [Nat.add_sub_cancel' h2] at this
noncomputable def clE (L : List Gl) (p : Nat) : Nat → Nat
  | 0 => 0
  | k + 1 => cI (yC (gat L k) ≤ p ∧ clE L p k ≤ yC (gat L k)) (yC (gat L k) + 1) (clE L p k)
noncomputable def clV (e : Nat) : Int32 := cI (e = 0) (-100) (nI (e - 1))
noncomputable def clO (c : Cf) (r p : Nat) : Nat := clE (tL c r) p (tL c r).length
theorem clE_b (L : List Gl) (p : Nat) : ∀ k, clE L p k ≤ p + 1
  | 0 => Nat.zero_le _
  | k + 1 => by
    have ih := clE_b L p k
    show cI _ _ _ ≤ _
    by_cases e : yC (gat L k) ≤ p ∧ clE L p k ≤ yC (gat L k)
    · rw [cI_t e]; omega
    · rw [cI_f e]; exact ih
theorem og1 (G : Nat) (L : List Gl) (B : Pl) (j : Nat) : og G L B 1 j = nI (yC (gat L j)) := rfl
theorem og2 (G : Nat) (L : List Gl) (B : Pl) (j : Nat) : og G L B 2 j = B 0 j := rfl
theorem qS.oc {c : Cf} {M : gM} (h : qS c M) {j : Nat} (hj : j < tr c) {p : Nat} (hp : p < (tL c j).length) : mI M 159 (tg c j + p) = nI (yC (gat (tL c j) p)) := h.o hj (q := 1) (by decide) hp
theorem qS.oa {c : Cf} {M : gM} (h : qS c M) {j : Nat} (hj : j < tr c) {p : Nat} (hp : p < (tL c j).length) : mI M 160 (tg c j + p) = tB c j 0 p := h.o hj (q := 2) (by decide) hp
theorem nI_nle100 {a : Nat} (h : a < 2 ^ 31) : ¬ nI a ≤ -100 := fun q => by
  rw [Int32.le_iff_toInt_le, nI_toInt h] at q
  have e : (-100 : Int32).toInt = -100 := by decide
  omega
noncomputable def eoE (L : List Gl) (its e : Nat) : Nat → Nat
  | 0 => e
  | k + 1 => cI (its < yC (gat L k) ∧ yC (gat L k) < eoE L its e k) (yC (gat L k)) (eoE L its e k)
noncomputable def eoC (c : Cf) (r its : Nat) : Nat := eoE (tL c r) its (tn c (r + 1)) (tL c r).length
theorem eoE_b (L : List Gl) (its e : Nat) (h : its < e) : ∀ k, its < eoE L its e k ∧ eoE L its e k ≤ e
  | 0 => ⟨h, Nat.le_refl _⟩
  | k + 1 => by
    have ih := eoE_b L its e h k
    show its < cI _ _ _ ∧ cI _ _ _ ≤ e
    by_cases q : its < yC (gat L k) ∧ yC (gat L k) < eoE L its e k
    · rw [cI_t q]; omega
    · rw [cI_f q]; exact ih
theorem eoE_le (L : List Gl) (its e : Nat) : ∀ k, eoE L its e k ≤ e
  | 0 => Nat.le_refl _
  | k + 1 => by
    have ih := eoE_le L its e k
    show cI _ _ _ ≤ e
    by_cases q : its < yC (gat L k) ∧ yC (gat L k) < eoE L its e k
    · rw [cI_t q]; omega
    · rw [cI_f q]; exact ih
noncomputable def adE (L : List Gl) (B : Pl) (P : Nat → Prop) : Nat → Int32
  | 0 => nI 0
  | k + 1 => adE L B P k + cI (P (yC (gat L k))) (B 0 k) (nI 0)
noncomputable def adL (c : Cf) (r its : Nat) : Int32 := adE (tL c r) (tB c r) (fun y => y < its) (tL c r).length
noncomputable def adQ (c : Cf) (r its : Nat) : Int32 := adE (tL c r) (tB c r) (fun y => y = its) (tL c r).length
noncomputable def fdv (x : Int32) (m : Nat) : Int32 := x / nI m - cI (x < 0 ∧ ¬ x - x / nI m * nI m = 0) (nI 1) (nI 0)
noncomputable def crF (c : Cf) (p : Nat) : Int32 := cI (clO c (ru c p) p = 0) (nI 0) (adL c (ru c p) (clO c (ru c p) p - 1) + fdv (adQ c (ru c p) (clO c (ru c p) p - 1) * nI (p - (clO c (ru c p) p - 1))) (eoC c (ru c p) (clO c (ru c p) p - 1) - (clO c (ru c p) p - 1)))
noncomputable def crt (c : Cf) (p : Nat) : Int32 := cI (scr c 0 (tl c) p = 1) (tS c (ru c p) + crF c p) (tS c (ru c p + 1) - crF c p)
