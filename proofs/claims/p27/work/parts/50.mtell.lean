/-! the reference: what is told, as changes of what was told -/
def refR (a _j : Nat) : Prop := 128 ≤ a ∧ a ≤ 177
theorem qR_r (a j : Nat) (h : qR a j) : refR a j := by unfold qR at h; unfold refR; omega
def uN (c : Cf) (a j v : Nat) : Cf := (u2 c.1 a j v, c.2)
def uQ (c : Cf) (j : Nat) (v : Int32) : Cf := (c.1, fun i => if i = j then v else c.2 i)
theorem cN_u (c : Cf) (a j v b i : Nat) : cN (uN c a j v) b i = if b = a ∧ i = j then v else cN c b i := id rfl
theorem cR_u (c : Cf) (a j v i : Nat) : cR (uN c a j v) i = cR c i := id rfl
theorem cN_q (c : Cf) (j : Nat) (v : Int32) (b i : Nat) : cN (uQ c j v) b i = cN c b i := id rfl
theorem cR_q (c : Cf) (j : Nat) (v : Int32) (i : Nat) : cR (uQ c j v) i = if i = j then v else cR c i := id rfl
/-- apart from being well made -/
def bZ (c : Cf) (M : gM) : Prop := gLay M ∧ mCf c M
theorem gLay_sI {M : gM} {a k : Nat} {v : Int32} (h : gLay M) : gLay (sI M a k v) := h.of (Nat.le_refl _) (fun _ _ => rfl) (fun _ _ => rfl)
theorem bS.z {c : Cf} {M : gM} (h : bS c M) : bZ c M := ⟨h.1, h.2.1⟩
theorem bZ.s {c : Cf} {M : gM} (h : bZ c M) (hw : WFc c) : bS c M := ⟨h.1, h.2, hw⟩
theorem bZ.set {c : Cf} {M : gM} (h : bZ c M) {a j v : Nat} (ha : ¬ a = 136) : bZ (uN c a j v) (sI M a j (nI v)) :=
  ⟨gLay_sI h.1, fun b i q => by
    rw [mI_sI, cN_u]
    by_cases e : b = a ∧ i = j
    · rw [if_pos e, if_pos e]
    · rw [if_neg e, if_neg e]; exact h.2.1 b i q, fun i => by rw [mI_sI, if_neg (by omega)]; exact h.2.2 i⟩
theorem bZ.setv {c : Cf} {M : gM} (h : bZ c M) {a j v : Nat} {x : Int32} (ha : ¬ a = 136) (e : x = nI v) : bZ (uN c a j v) (sI M a j x) := by rw [e]; exact h.set ha
theorem bZ.setq {c : Cf} {M : gM} (h : bZ c M) {j : Nat} {v : Int32} : bZ (uQ c j v) (sI M 136 j v) :=
  ⟨gLay_sI h.1, fun b i q => by rw [mI_sI, if_neg (by unfold cfA at q; omega)]; exact h.2.1 b i q, fun i => by
    rw [mI_sI, cR_q]
    by_cases e : i = j
    · rw [if_pos ⟨rfl, e⟩, if_pos e]
    · rw [if_neg (fun q => e q.2), if_neg e]; exact h.2.2 i⟩
theorem bZ.thr {c : Cf} {M : gM} (h : bZ c M) (v : Int32) : bZ c (sI M 128 0 v) :=
  ⟨gLay_sI h.1, fun b i q => by rw [mI_sI, if_neg (by unfold cfA at q; omega)]; exact h.2.1 b i q, fun i => by rw [mI_sI, if_neg (by omega)]; exact h.2.2 i⟩
theorem WFc.fac {c : Cf} (h : WFc c) : cN c 128 1 < 2 := h.1.1
theorem rul_u {c : Cf} {a j v l k w : Nat} : rul (uN c a j v) l k w = rul c l k w := rfl
/-- a change of a number that keeps what is well made -/
theorem WFc.set {c : Cf} (h : WFc c) {a j v : Nat} (ha : ¬ a = 130 ∧ ¬ a = 135) (hv : (a = 128 → j = 1 → v < 2) ∧ (a = 128 → j = 14 → v ≤ 16) ∧ (a = 128 → j = 17 → 1 ≤ v ∧ v ≤ 2) ∧ (a = 129 → v ≤ 12) ∧ (a = 131 → v ≤ 6) ∧ (a = 132 → v ≤ 1) ∧ (a = 133 → v ≤ 2) ∧ (a = 134 → v ≤ 5) ∧ (a = 137 → v ≤ 4) ∧ (a = 138 → v ≤ 5) ∧ (a = 139 → v ≤ 100) ∧ (a = 140 → v ≤ 1) ∧ (a = 141 → v < 45) ∧ (a = 142 → v ≤ 3)) : WFc (uN c a j v) := by
  obtain ⟨h1, h2, h3, h4, h5, h6⟩ := h
  obtain ⟨q1, q2, q3, q4, q5, q6, q7, q8, q9, q10, q11, q12, q13, q14⟩ := hv
  refine ⟨?_, fun f => ?_, fun l => ?_, fun q => ?_, fun q => ?_, fun l k hk => ?_⟩
  · clear q4 q5 q6 q7 q8 q9 q10 q11 q12 q13 q14
    obtain ⟨a1, a2, a3, a4⟩ := h1
    refine ⟨?_, ?_, ?_, ?_⟩
    all_goals rw [cN_u]
    all_goals split
    all_goals omega
  · clear q1 q2 q3 q5 q6 q7 q8 q9 q10 q11 q12 q13 q14
    have := h2 f
    rw [cN_u]; split <;> omega
  · clear q1 q2 q3 q4 q9 q10 q11 q12 q13 q14
    obtain ⟨a1, a2, a3, a4, a5, a6⟩ := h3 l
    refine ⟨?_, ?_, ?_, ?_, ?_, ?_⟩
    all_goals rw [cN_u]
    all_goals split
    all_goals omega
  · clear q1 q2 q3 q4 q5 q6 q7 q8 q13 q14
    obtain ⟨a1, a2, a3, a4⟩ := h4 q
    refine ⟨?_, ?_, ?_, ?_⟩
    all_goals rw [cN_u]
    all_goals split
    all_goals omega
  · clear q1 q2 q3 q4 q5 q6 q7 q8 q9 q10 q11 q12
    obtain ⟨a1, a2⟩ := h5 q
    refine ⟨?_, ?_⟩
    all_goals rw [cN_u]
    all_goals split
    all_goals omega
  · have e1 : cN (uN c a j v) 135 l = cN c 135 l := by rw [cN_u]; exact if_neg (fun z => ha.2 z.1.symm)
    have e2 : cN (uN c a j v) 130 l = cN c 130 l := by rw [cN_u]; exact if_neg (fun z => ha.1 z.1.symm)
    rw [e1] at hk
    rw [e2]
    exact h6 l k hk
theorem bS.t {c : Cf} {M : gM} (h : bS c M) (v : Int32) : bS c (sI M 128 0 v) := (h.z.thr v).s h.wf
theorem frt {M : gM} {v : Int32} : fr refR M (sI M 128 0 v) := fr.refl.wr (by unfold refR; omega)
def nxL (c : Cf) (f n : Nat) (p1 p2 p3 p4 p5 : Int32) : Cf := uN (uN (uN (uN (uN (uN (uN c 130 (12 * f + n) (gN p1)) 131 (12 * f + n) (gN p2)) 132 (12 * f + n) (gN p3)) 133 (12 * f + n) (gN p4)) 134 (12 * f + n) (gN p5)) 135 (12 * f + n) 0) 129 f (n + 1)
theorem nxL_o {c : Cf} {f n : Nat} {p1 p2 p3 p4 p5 : Int32} {a j : Nat} (h : ¬ (129 ≤ a ∧ a ≤ 135)) : cN (uN (uN (uN (uN (uN (uN (uN c 130 (12 * f + n) (gN p1)) 131 (12 * f + n) (gN p2)) 132 (12 * f + n) (gN p3)) 133 (12 * f + n) (gN p4)) 134 (12 * f + n) (gN p5)) 135 (12 * f + n) 0) 129 f (n + 1)) a j = cN c a j := by
  rw [cN_u, if_neg (by omega), cN_u, if_neg (by omega), cN_u, if_neg (by omega), cN_u, if_neg (by omega), cN_u, if_neg (by omega), cN_u, if_neg (by omega), cN_u, if_neg (by omega)]
set_option maxRecDepth 100000 in
theorem nxL_wf {c : Cf} (h : WFc c) {f n : Nat} {p1 p2 p3 p4 p5 : Int32} (h1 : iLk1 p1 p2) (h2 : iLk2 p3 p4 p5) (hn : n < 12) : WFc (nxL c f n p1 p2 p3 p4 p5) := by
  obtain ⟨a1, b1⟩ := gN_ok h1.1 (by decide)
  obtain ⟨a2, b2⟩ := gN_ok h1.2 (by decide)
  obtain ⟨a3, b3⟩ := gN_ok h2.1 (by decide)
  obtain ⟨a4, b4⟩ := gN_ok h2.2.1 (by decide)
  obtain ⟨a5, b5⟩ := gN_ok h2.2.2 (by decide)
  obtain ⟨g1, g2, g3, g4, g5, g6⟩ := h
  unfold nxL
  refine ⟨by rw [nxL_o (by decide), nxL_o (by decide), nxL_o (by decide)]; exact g1, fun f => ?_, fun l => ?_, fun q => by rw [nxL_o (by decide), nxL_o (by decide), nxL_o (by decide), nxL_o (by decide)]; exact g4 q, fun q => by rw [nxL_o (by decide), nxL_o (by decide)]; exact g5 q, fun l k hk => ?_⟩
  · have := g2 f
    simp [cN_u]; split <;> omega
  · have := g3 l
    by_cases e : l = 12 * f + n
    · simp [cN_u, e]; omega
    · simp [cN_u, e]; omega
  · by_cases e : l = 12 * f + n
    · subst e
      simp [cN_u] at hk
    · have hk : k < cN c 135 l := by simpa [cN_u, e] using hk
      have h6 := g6 l k hk
      have e1 : cN (uN (uN (uN (uN (uN (uN (uN c 130 (12 * f + n) (gN p1)) 131 (12 * f + n) (gN p2)) 132 (12 * f + n) (gN p3)) 133 (12 * f + n) (gN p4)) 134 (12 * f + n) (gN p5)) 135 (12 * f + n) 0) 129 f (n + 1)) 130 l = cN c 130 l := by simp [cN_u, e]
      rw [e1]
      exact h6
def nxR (c : Cf) (l r : Nat) (x0 x1 x2 x3 x4 x5 : Int32) : Cf := uN (uQ (uQ (uQ (uQ (uQ (uQ c (6 * (8 * l + r)) x0) (6 * (8 * l + r) + 1) x1) (6 * (8 * l + r) + 2) x2) (6 * (8 * l + r) + 3) x3) (6 * (8 * l + r) + 4) x4) (6 * (8 * l + r) + 5) x5) 135 l (r + 1)
set_option maxRecDepth 100000 in
theorem nxR_wf {c : Cf} (h : WFc c) {l r : Nat} {x0 x1 x2 x3 x4 x5 : Int32} (hr : r = cN c 135 l) (h8 : r < 8) (hi : iRl (cN c 130 l) x0 x1 x2 x3 x4 x5) : WFc (nxR c l r x0 x1 x2 x3 x4 x5) := by
  obtain ⟨g1, g2, g3, g4, g5, g6⟩ := h
  unfold nxR
  refine ⟨by simpa [cN_u, cN_q] using g1, fun f => by simpa [cN_u, cN_q] using g2 f, fun l' => ?_, fun q => by simpa [cN_u, cN_q] using g4 q, fun q => by simpa [cN_u, cN_q] using g5 q, fun l' k hk => ?_⟩
  · have := g3 l'
    by_cases e : l' = l
    · simp [cN_u, cN_q, e]; rw [e] at this; omega
    · simp [cN_u, cN_q, e]; omega
  · have h8' := (g3 l').2.2.2.2.2
    have hk : k < if l' = l then r + 1 else cN c 135 l' := by simpa [cN_u, cN_q] using hk
    rw [cN_u, if_neg (by omega)]
    simp only [cN_q]
    by_cases e : l' = l ∧ k = r
    · obtain ⟨e1, e2⟩ := e
      subst e1; subst e2
      have e0 : ∀ w, w < 6 → rul (uN (uQ (uQ (uQ (uQ (uQ (uQ c (6 * (8 * l' + k)) x0) (6 * (8 * l' + k) + 1) x1) (6 * (8 * l' + k) + 2) x2) (6 * (8 * l' + k) + 3) x3) (6 * (8 * l' + k) + 4) x4) (6 * (8 * l' + k) + 5) x5) 135 l' (k + 1)) l' k w = if w = 0 then x0 else if w = 1 then x1 else if w = 2 then x2 else if w = 3 then x3 else if w = 4 then x4 else x5 := fun w hw => by
        unfold rul
        simp only [cR_u, cR_q]
        rcases (show w = 0 ∨ w = 1 ∨ w = 2 ∨ w = 3 ∨ w = 4 ∨ w = 5 by omega) with rfl | rfl | rfl | rfl | rfl | rfl <;> simp
      rw [e0 0 (by decide), e0 1 (by decide), e0 2 (by decide), e0 3 (by decide), e0 4 (by decide), e0 5 (by decide)]
      exact hi
    · have e0 : ∀ w, w < 6 → rul (uN (uQ (uQ (uQ (uQ (uQ (uQ c (6 * (8 * l + r)) x0) (6 * (8 * l + r) + 1) x1) (6 * (8 * l + r) + 2) x2) (6 * (8 * l + r) + 3) x3) (6 * (8 * l + r) + 4) x4) (6 * (8 * l + r) + 5) x5) 135 l (r + 1)) l' k w = rul c l' k w := fun w hw => by
        have hk8 : k < 8 ∧ k < cN c 135 l' := by
          by_cases e2 : l' = l
          · rw [if_pos e2] at hk; subst e2; omega
          · rw [if_neg e2] at hk; omega
        unfold rul
        simp only [cR_u, cR_q]
        rw [if_neg (by omega), if_neg (by omega), if_neg (by omega), if_neg (by omega), if_neg (by omega), if_neg (by omega)]
      have hk2 : k < cN c 135 l' := by
        by_cases e2 : l' = l
        · rw [if_pos e2] at hk; subst e2; omega
        · rw [if_neg e2] at hk; omega
      rw [e0 0 (by decide), e0 1 (by decide), e0 2 (by decide), e0 3 (by decide), e0 4 (by decide), e0 5 (by decide)]
      exact g6 l' k hk2
abbrev fc0 (c : Cf) : Nat := cN c 128 1
abbrev at0 (c : Cf) (j : Nat) : Nat := 12 * cN c 128 1 + j
abbrev cnt0 (c : Cf) : Nat := cN c 129 (cN c 128 1)
noncomputable def mkE (q : Int32) : Nat := cI (q = -100) 0 (gN q + 1)
noncomputable def mkD (w : Nat) : Int32 := cI (w = 0) (-100) (dI w)
theorem mkE_ok {q : Int32} (h : q = -100 ∨ iClass q) : mkEnc q = nI (mkE q) ∧ mkE q ≤ 4 := by
  unfold mkEnc mkE
  by_cases e : q = -100
  · rw [cI_t e, @if_pos _ (Classical.propDecidable _) e]; exact ⟨rfl, by decide⟩
  · obtain ⟨h1, h2⟩ := gN_ok (h.resolve_left e) (by decide)
    rw [cI_f e, @if_neg _ (Classical.propDecidable _) e, h1, nI_add, gN_nI (by omega)]; exact ⟨rfl, by omega⟩
theorem mkD_ok {w : Nat} (h : w ≤ 4) : mkDec (nI w) = mkD w := by
  unfold mkDec mkD
  by_cases e : w = 0
  · subst e; rw [cI_t rfl]; exact @if_pos _ (Classical.propDecidable _) rfl _ _ _
  · rw [cI_f e, @if_neg _ (Classical.propDecidable _) (nI_ne0 (by omega) (by omega))]; rfl
theorem bS.gg {c : Cf} {M : gM} (h : bS c M) (a j : Nat) (q : 129 ≤ a ∧ a ≤ 142 ∧ ¬ a = 136) : mI M a j = nI (cN c a j) := h.gc (Or.inl q)
theorem iGl_of {p : Int32} (h : iGlyph p) : ∃ j, j < 256 ∧ p = nI j := by
  obtain ⟨h1, h2⟩ := gN_ok h (by decide)
  exact ⟨gN p, by omega, h1⟩
theorem iSi_of {p : Int32} (h : iSign p) : ∃ j, j < 45 ∧ p = nI j := by
  rcases h with h | h
  · obtain ⟨h1, h2⟩ := gN_ok h (by decide)
    exact ⟨gN p, by omega, h1⟩
  · obtain ⟨q, h1, h2, h3⟩ := iIn_of h (by decide) (by decide)
    exact ⟨q, by omega, h3⟩
