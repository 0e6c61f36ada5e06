/-! the class: what it was told, in a memory -/
section GK2
variable {g : gG} {fr k n : Nat} {μ : gMu} {pc : Nat} {ls st : List Value} {M : gM} {Q : Option Value ⊕ String → gM → Prop}
theorem w_iMath : Cond.initialized "java/lang/Math" ∈ gW := gW_at 50 (by decide +kernel) (by decide +kernel)
theorem w_sMax : Cond.static Lib.Math.max.name ∈ gW := gW_at 670 (by decide +kernel) (by decide +kernel)
theorem w_cMax : Cond.code Lib.Math.max.name Lib.Math.max.code 2 (some .int) ∈ gW := gW_at 671 (by decide +kernel) (by decide +kernel)
theorem w_sMin : Cond.static Lib.Math.min.name ∈ gW := gW_at 828 (by decide +kernel) (by decide +kernel)
theorem w_cMin : Cond.code Lib.Math.min.name Lib.Math.min.code 2 (some .int) ∈ gW := gW_at 829 (by decide +kernel) (by decide +kernel)
theorem w_sAbs : Cond.static Lib.Math.abs.name ∈ gW := gW_at 1169 (by decide +kernel) (by decide +kernel)
theorem w_cAbs : Cond.code Lib.Math.abs.name Lib.Math.abs.code 1 (some .int) ∈ gW := gW_at 1170 (by decide +kernel) (by decide +kernel)
theorem w_sFd : Cond.static Jvm.Free.JP.Math_floorDiv_II.yN ∈ gW := gW_at 1158 (by decide +kernel) (by decide +kernel)
theorem w_cFd : Cond.code Jvm.Free.JP.Math_floorDiv_II.yN Jvm.Free.JP.Math_floorDiv_II.yB 3 (some .int) ∈ gW := gW_at 1159 (by decide +kernel) (by decide +kernel)
theorem E_kmax {idx : Nat} {x y : Int32} (hl : Cond.methodLink (gy μ).cls idx Lib.Math.max.name ∈ gW) (hd : decode (gcc μ) pc = .ok (.invokestatic idx, 3)) (hfr : 1 ≤ fr) (hrest : (st.map fun v => v.category).sum ≤ 8) (k0 : E g fr k n μ (pc + 3) ls (.int (if x < y then y else x) :: st) M Q) : E g fr k n μ pc ls (.int y :: .int x :: st) M Q :=
  E_mmax hd hl w_sMax w_iMath w_cMax hfr hrest k0
theorem E_kmax_n {idx a b : Nat} (hl : Cond.methodLink (gy μ).cls idx Lib.Math.max.name ∈ gW) (hd : decode (gcc μ) pc = .ok (.invokestatic idx, 3)) (hfr : 1 ≤ fr) (hrest : (st.map fun v => v.category).sum ≤ 8) (ha : a < 2 ^ 31) (hb : b < 2 ^ 31) (k0 : E g fr k n μ (pc + 3) ls (.int (nI (max a b)) :: st) M Q) : E g fr k n μ pc ls (.int (nI b) :: .int (nI a) :: st) M Q :=
  E_kmax hl hd hfr hrest (by
    by_cases e : a < b
    · rw [if_pos ((nI_ltI ha hb).mpr e)]; rwa [Nat.max_eq_right (Nat.le_of_lt e)] at k0
    · rw [if_neg (fun q => e ((nI_ltI ha hb).mp q))]; rwa [Nat.max_eq_left (by omega)] at k0)
theorem E_kmax_m {idx a : Nat} {y : Int32} (hl : Cond.methodLink (gy μ).cls idx Lib.Math.max.name ∈ gW) (hd : decode (gcc μ) pc = .ok (.invokestatic idx, 3)) (hfr : 1 ≤ fr) (hrest : (st.map fun v => v.category).sum ≤ 8) (hy : y < 0) (ha : a < 2 ^ 31) (k0 : E g fr k n μ (pc + 3) ls (.int (nI a) :: st) M Q) : E g fr k n μ pc ls (.int y :: .int (nI a) :: st) M Q :=
  E_kmax hl hd hfr hrest (by
    rw [if_neg (fun q => nI_pos ha (by rw [Int32.lt_iff_toInt_lt] at *; omega))]; exact k0)
theorem E_kmin {idx : Nat} {x y : Int32} (hl : Cond.methodLink (gy μ).cls idx Lib.Math.min.name ∈ gW) (hd : decode (gcc μ) pc = .ok (.invokestatic idx, 3)) (hfr : 1 ≤ fr) (hrest : (st.map fun v => v.category).sum ≤ 8) (k0 : E g fr k n μ (pc + 3) ls (.int (if y < x then y else x) :: st) M Q) : E g fr k n μ pc ls (.int y :: .int x :: st) M Q :=
  E_mmin hd hl w_sMin w_iMath w_cMin hfr hrest k0
theorem E_kmin_n {idx a b : Nat} (hl : Cond.methodLink (gy μ).cls idx Lib.Math.min.name ∈ gW) (hd : decode (gcc μ) pc = .ok (.invokestatic idx, 3)) (hfr : 1 ≤ fr) (hrest : (st.map fun v => v.category).sum ≤ 8) (ha : a < 2 ^ 31) (hb : b < 2 ^ 31) (k0 : E g fr k n μ (pc + 3) ls (.int (nI (min a b)) :: st) M Q) : E g fr k n μ pc ls (.int (nI b) :: .int (nI a) :: st) M Q :=
  E_kmin hl hd hfr hrest (by
    by_cases e : b < a
    · rw [if_pos ((nI_ltI hb ha).mpr e)]; rwa [Nat.min_eq_right (Nat.le_of_lt e)] at k0
    · rw [if_neg (fun q => e ((nI_ltI hb ha).mp q))]; rwa [Nat.min_eq_left (by omega)] at k0)
theorem E_kabs {idx : Nat} {x : Int32} (hl : Cond.methodLink (gy μ).cls idx Lib.Math.abs.name ∈ gW) (hd : decode (gcc μ) pc = .ok (.invokestatic idx, 3)) (hfr : 1 ≤ fr) (hrest : (st.map fun v => v.category).sum ≤ 8) (k0 : E g fr k n μ (pc + 3) ls (.int (if 0 ≤ x then x else 0 - x) :: st) M Q) : E g fr k n μ pc ls (.int x :: st) M Q :=
  E_mabs hd hl w_sAbs w_iMath w_cAbs hfr hrest k0
theorem E_kfd {idx : Nat} {x y : Int32} (hl : Cond.methodLink (gy μ).cls idx Jvm.Free.JP.Math_floorDiv_II.yN ∈ gW) (hd : decode (gcc μ) pc = .ok (.invokestatic idx, 3)) (hfr : 1 ≤ fr) (hrest : (st.map fun v => v.category).sum ≤ 8) (hy : y ≠ 0) (k0 : E g fr k n μ (pc + 3) ls (.int (gFD x y) :: st) M Q) : E g fr k n μ pc ls (.int y :: .int x :: st) M Q :=
  E_mfd hd hl w_sFd w_iMath w_cFd hfr hrest hy k0
end GK2
/-! places of the faces -/
abbrev fb (f : Nat) : Nat := 118 + 5 * f
/-- a lookup l, told at the place p -/
def kLk (c : Cf) (M : gM) (l p : Nat) : Prop :=
  (gN0 ≤ p ∧ p + 11 ≤ mN M ∧ mK M p = (4, 0) ∧ mK M (p + 1) = (16, 8) ∧ (∀ k, k < 8 → mK M (p + 2 + k) = (13, 6)) ∧ mK M (p + 10) = (13, 256)) ∧
  (mI M p 0 = nI (cN c 130 l) ∧ mI M p 1 = nI (cN c 131 l) ∧ mI M p 2 = nI (cN c 132 l) ∧ mI M p 3 = nI (cN c 133 l) ∧ mI M p 4 = nI (cN c 134 l) ∧ mI M p 5 = nI (leadOf (cN c 130 l)) ∧ mI M p 8 = nI (cN c 135 l)) ∧
  (mR M p 6 = p + 1 + 1 ∧ mR M p 7 = p + 10 + 1 ∧ ∀ k, k < 8 → mR M (p + 1) k = p + 2 + k + 1) ∧
  (∀ k w, k < cN c 135 l → w < 6 → mI M (p + 2 + k) w = rul c l k w) ∧ ∀ q, q < 256 → mI M (p + 10) q = nI (bgB c (l / 12) l q)
def kFc (c : Cf) (P : Nat → Nat) (M : gM) (f : Nat) : Prop :=
  mI M (fb f) 4 = nI (cN c 129 f) ∧ (∀ q, q < 256 → mI M (fb f + 2) q = mkD (cN c 137 (256 * f + q)) ∧ mI M (fb f + 3) q = nI (cN c 138 (256 * f + q)) ∧ mI M (fb f + 4) q = nI (cN c 139 (256 * f + q))) ∧
  ∀ j, j < cN c 129 f → mR M (fb f + 1) j = P (12 * f + j) + 1 ∧ kLk c M (12 * f + j) (P (12 * f + j))
def kTx (c : Cf) (M : gM) : Prop := (∀ j, j < 16 → mI M 3 j = nI (cN c 141 j) ∧ mI M 4 j = nI (cN c 142 j)) ∧ (∀ j, j < 45 → mI M 5 j = nI (cN c 140 j)) ∧ mI M 2 3 = nI (tl c) ∧ mI M 2 4 = nI (cN c 128 17)
/-- the class holds what was told -/
def kB (c : Cf) (P : Nat → Nat) (M : gM) : Prop := gLay M ∧ WFc c ∧ mI M 0 9 = nI (fc0 c) ∧ kTx c M ∧ (∀ f, f < 2 → kFc c P M f) ∧
  ∀ f j f' j', f < 2 → f' < 2 → j < cN c 129 f → j' < cN c 129 f' → ¬ 12 * f + j = 12 * f' + j' → P (12 * f + j) + 11 ≤ P (12 * f' + j') ∨ P (12 * f' + j') + 11 ≤ P (12 * f + j)
section KB
variable {c : Cf} {P : Nat → Nat} {M : gM} {f l p : Nat}
theorem kB.lay (h : kB c P M) : gLay M := h.1
theorem kB.wf (h : kB c P M) : WFc c := h.2.1
theorem kB.used (h : kB c P M) : mI M 0 9 = nI (fc0 c) := h.2.2.1
theorem kB.sg (h : kB c P M) {j : Nat} (hj : j < 16) : mI M 3 j = nI (cN c 141 j) := (h.2.2.2.1.1 j hj).1
theorem kB.ex (h : kB c P M) {j : Nat} (hj : j < 16) : mI M 4 j = nI (cN c 142 j) := (h.2.2.2.1.1 j hj).2
theorem kB.lk (h : kB c P M) {j : Nat} (hj : j < 45) : mI M 5 j = nI (cN c 140 j) := h.2.2.2.1.2.1 j hj
theorem kB.len (h : kB c P M) : mI M 2 3 = nI (tl c) := h.2.2.2.1.2.2.1
theorem kB.tng (h : kB c P M) : mI M 2 4 = nI (cN c 128 17) := h.2.2.2.1.2.2.2
theorem kB.fc (h : kB c P M) (hf : f < 2) : kFc c P M f := h.2.2.2.2.1 f hf
theorem kB.flt (h : kB c P M) (hf : f < 2) {i : Nat} (hi : i < 5) : fb f + i < mN M := h.lay.lt (by show 118 + 5 * f + i < 139; omega)
theorem kB.flt0 (h : kB c P M) (hf : f < 2) : fb f < mN M := h.lay.lt (by show 118 + 5 * f < 139; omega)
theorem kB.fk0 (h : kB c P M) (hf : f < 2) : mK M (fb f) = (1, 0) := by
  rcases (show f = 0 ∨ f = 1 by omega) with rfl | rfl
  · exact k_118 h.lay
  · exact k_123 h.lay
theorem kB.fk1 (h : kB c P M) (hf : f < 2) : mK M (fb f + 1) = (18, 12) := by
  rcases (show f = 0 ∨ f = 1 by omega) with rfl | rfl
  · exact k_119 h.lay
  · exact k_124 h.lay
theorem kB.fk2 (h : kB c P M) (hf : f < 2) : mK M (fb f + 2) = (13, 256) := by
  rcases (show f = 0 ∨ f = 1 by omega) with rfl | rfl
  · exact k_120 h.lay
  · exact k_125 h.lay
theorem kB.fk3 (h : kB c P M) (hf : f < 2) : mK M (fb f + 3) = (13, 256) := by
  rcases (show f = 0 ∨ f = 1 by omega) with rfl | rfl
  · exact k_121 h.lay
  · exact k_126 h.lay
theorem kB.fk4 (h : kB c P M) (hf : f < 2) : mK M (fb f + 4) = (13, 256) := by
  rcases (show f = 0 ∨ f = 1 by omega) with rfl | rfl
  · exact k_122 h.lay
  · exact k_127 h.lay
theorem kB.fr0 (h : kB c P M) (hf : f < 2) : mR M (fb f) 0 = fb f + 1 + 1 := by
  rcases (show f = 0 ∨ f = 1 by omega) with rfl | rfl
  · exact r_118_0 h.lay
  · exact r_123_0 h.lay
theorem kB.fr1 (h : kB c P M) (hf : f < 2) : mR M (fb f) 1 = fb f + 2 + 1 := by
  rcases (show f = 0 ∨ f = 1 by omega) with rfl | rfl
  · exact r_118_1 h.lay
  · exact r_123_1 h.lay
theorem kB.fr2 (h : kB c P M) (hf : f < 2) : mR M (fb f) 2 = fb f + 3 + 1 := by
  rcases (show f = 0 ∨ f = 1 by omega) with rfl | rfl
  · exact r_118_2 h.lay
  · exact r_123_2 h.lay
theorem kB.fr3 (h : kB c P M) (hf : f < 2) : mR M (fb f) 3 = fb f + 4 + 1 := by
  rcases (show f = 0 ∨ f = 1 by omega) with rfl | rfl
  · exact r_118_3 h.lay
  · exact r_123_3 h.lay
theorem kB.f1 (h : kB c P M) (hf : f < 2) : mR M 1 f = fb f + 1 := by
  rcases (show f = 0 ∨ f = 1 by omega) with rfl | rfl
  · exact r_1_0 h.lay
  · exact r_1_1 h.lay
theorem kB.fcnt (h : kB c P M) (hf : f < 2) : mI M (fb f) 4 = nI (cN c 129 f) := (h.fc hf).1
theorem kB.fmk (h : kB c P M) (hf : f < 2) {q : Nat} (hq : q < 256) : mI M (fb f + 2) q = mkD (cN c 137 (256 * f + q)) := ((h.fc hf).2.1 q hq).1
theorem kB.fgr (h : kB c P M) (hf : f < 2) {q : Nat} (hq : q < 256) : mI M (fb f + 3) q = nI (cN c 138 (256 * f + q)) := ((h.fc hf).2.1 q hq).2.1
theorem kB.fwd (h : kB c P M) (hf : f < 2) {q : Nat} (hq : q < 256) : mI M (fb f + 4) q = nI (cN c 139 (256 * f + q)) := ((h.fc hf).2.1 q hq).2.2
theorem kB.flk (h : kB c P M) (hf : f < 2) {j : Nat} (hj : j < cN c 129 f) : mR M (fb f + 1) j = P (12 * f + j) + 1 := ((h.fc hf).2.2 j hj).1
theorem kB.kl (h : kB c P M) (hf : f < 2) {j : Nat} (hj : j < cN c 129 f) : kLk c M (12 * f + j) (P (12 * f + j)) := ((h.fc hf).2.2 j hj).2
theorem kLk.lt (h : kLk c M l p) {i : Nat} (hi : i < 11) : p + i < mN M := by have := h.1.2.1; omega
theorem kLk.lt0 (h : kLk c M l p) : p < mN M := by have := h.1.2.1; omega
theorem kLk.ge (h : kLk c M l p) : 139 ≤ p := h.1.1
theorem kLk.kd (h : kLk c M l p) : mK M p = (4, 0) := h.1.2.2.1
theorem kLk.kd1 (h : kLk c M l p) : mK M (p + 1) = (16, 8) := h.1.2.2.2.1
theorem kLk.kdu (h : kLk c M l p) {k : Nat} (hk : k < 8) : mK M (p + 2 + k) = (13, 6) := h.1.2.2.2.2.1 k hk
theorem kLk.ltu (h : kLk c M l p) {k : Nat} (hk : k < 8) : p + 2 + k < mN M := by have := h.1.2.1; omega
theorem kLk.kdt (h : kLk c M l p) : mK M (p + 10) = (13, 256) := h.1.2.2.2.2.2
theorem kLk.f0 (h : kLk c M l p) : mI M p 0 = nI (cN c 130 l) := h.2.1.1
theorem kLk.f1 (h : kLk c M l p) : mI M p 1 = nI (cN c 131 l) := h.2.1.2.1
theorem kLk.f2 (h : kLk c M l p) : mI M p 2 = nI (cN c 132 l) := h.2.1.2.2.1
theorem kLk.f3 (h : kLk c M l p) : mI M p 3 = nI (cN c 133 l) := h.2.1.2.2.2.1
theorem kLk.f4 (h : kLk c M l p) : mI M p 4 = nI (cN c 134 l) := h.2.1.2.2.2.2.1
theorem kLk.f5 (h : kLk c M l p) : mI M p 5 = nI (leadOf (cN c 130 l)) := h.2.1.2.2.2.2.2.1
theorem kLk.f8 (h : kLk c M l p) : mI M p 8 = nI (cN c 135 l) := h.2.1.2.2.2.2.2.2
theorem kLk.r6 (h : kLk c M l p) : mR M p 6 = p + 1 + 1 := h.2.2.1.1
theorem kLk.r7 (h : kLk c M l p) : mR M p 7 = p + 10 + 1 := h.2.2.1.2.1
theorem kLk.ru (h : kLk c M l p) {k : Nat} (hk : k < 8) : mR M (p + 1) k = p + 2 + k + 1 := h.2.2.1.2.2 k hk
theorem kLk.rn (h : kLk c M l p) {k w : Nat} (hk : k < cN c 135 l) (hw : w < 6) : mI M (p + 2 + k) w = rul c l k w := h.2.2.2.1 k w hk hw
theorem kLk.tb (h : kLk c M l p) {q : Nat} (hq : q < 256) : mI M (p + 10) q = nI (bgB c (l / 12) l q) := h.2.2.2.2 q hq
end KB
/-! memories that differ in a region, references too -/
def kf (S T : Nat → Nat → Prop) (M M' : gM) : Prop := M'.1 = M.1 ∧ mL M' = mL M ∧ (∀ a j, ¬ S a j → mI M' a j = mI M a j) ∧ ∀ a j, ¬ T a j → mR M' a j = mR M a j
theorem kf.refl {S T : Nat → Nat → Prop} {M : gM} : kf S T M M := ⟨rfl, rfl, fun _ _ _ => rfl, fun _ _ _ => rfl⟩
theorem kf.trans {S T : Nat → Nat → Prop} {M M' M'' : gM} (h : kf S T M M') (h2 : kf S T M' M'') : kf S T M M'' := ⟨h2.1.trans h.1, h2.2.1.trans h.2.1, fun a j q => (h2.2.2.1 a j q).trans (h.2.2.1 a j q), fun a j q => (h2.2.2.2 a j q).trans (h.2.2.2 a j q)⟩
theorem kf.mono {S T S' T' : Nat → Nat → Prop} {M M' : gM} (hs : ∀ a j, S a j → S' a j) (ht : ∀ a j, T a j → T' a j) (h : kf S T M M') : kf S' T' M M' := ⟨h.1, h.2.1, fun a j q => h.2.2.1 a j (fun z => q (hs a j z)), fun a j q => h.2.2.2 a j (fun z => q (ht a j z))⟩
theorem kf.wr {S T : Nat → Nat → Prop} {M M' : gM} {a k : Nat} {v : Int32} (h : kf S T M M') (hs : S a k) : kf S T M (sI M' a k v) :=
  ⟨h.1, h.2.1, fun b j q => by rw [mI_sI, if_neg (fun z => q (by rw [z.1, z.2]; exact hs))]; exact h.2.2.1 b j q, h.2.2.2⟩
theorem kf.wrR {S T : Nat → Nat → Prop} {M M' : gM} {a k : Nat} {v : Nat} (h : kf S T M M') (hs : T a k) : kf S T M (sR M' a k v) :=
  ⟨h.1, h.2.1, h.2.2.1, fun b j q => by rw [mR_sR, if_neg (fun z => q (by rw [z.1, z.2]; exact hs))]; exact h.2.2.2 b j q⟩
theorem kf.bk {S T : Nat → Nat → Prop} {M M' : gM} (h : kf S T M M') {a j : Nat} (q : ¬ S a j) : mI M' a j = mI M a j := h.2.2.1 a j q
theorem kf.bkR {S T : Nat → Nat → Prop} {M M' : gM} (h : kf S T M M') {a j : Nat} (q : ¬ T a j) : mR M' a j = mR M a j := h.2.2.2 a j q
theorem kf.n {S T : Nat → Nat → Prop} {M M' : gM} (h : kf S T M M') : mN M' = mN M := by unfold mN; rw [h.1]
theorem kf.k {S T : Nat → Nat → Prop} {M M' : gM} (h : kf S T M M') : mK M' = mK M := by unfold mK; rw [h.1]
/-- the references that a shaping changes; the ints -/
def kT (a j : Nat) : Prop := a = 7 ∨ (a = 73 ∧ j = 2) ∨ (a = 75 ∧ j = 1)
def kR (a _j : Nat) : Prop := a = 6 ∨ (8 ≤ a ∧ a ≤ 71) ∨ (73 ≤ a ∧ a ≤ 117)
theorem gl_kT : ∀ t ∈ glrefL, ¬ (t.1 = 7 ∨ (t.1 = 73 ∧ t.2.1 = 2) ∨ (t.1 = 75 ∧ t.2.1 = 1)) ∧ ¬ (119 = t.1 ∨ 124 = t.1 ∨ 139 ≤ t.1) := by decide +kernel
theorem kf.lay {S T : Nat → Nat → Prop} {M M' : gM} (h : kf S T M M') (ht : ∀ a j, T a j → kT a j) (hL : gLay M) : gLay M' :=
  hL.of (Nat.le_of_eq h.n.symm) (fun a _ => by rw [h.k]) (fun t q => h.bkR (fun z => (gl_kT t q).1 (ht _ _ z)))
/-- what was told is kept where neither its ints nor its references change -/
theorem kLk.mv {c : Cf} {M M' : gM} {l p : Nat} (h : kLk c M l p) (h8 : cN c 135 l ≤ 8) (hn : mN M ≤ mN M') (hk : ∀ a, a < mN M → mK M' a = mK M a) (hi : ∀ a j, 139 ≤ a → a < mN M → mI M' a j = mI M a j) (hr : ∀ a j, 139 ≤ a → a < mN M → mR M' a j = mR M a j) : kLk c M' l p := by
  have hge : 139 ≤ p := h.ge
  obtain ⟨⟨a1, a2, a3, a4, a5, a6⟩, ⟨b1, b2, b3, b4, b5, b6, b7⟩, ⟨c1, c2, c3⟩, d1, d2⟩ := h
  refine ⟨⟨a1, by omega, by rw [hk _ (by omega)]; exact a3, by rw [hk _ (by omega)]; exact a4, fun k q => by rw [hk _ (by omega)]; exact a5 k q, by rw [hk _ (by omega)]; exact a6⟩, ⟨?_, ?_, ?_, ?_, ?_, ?_, ?_⟩, ⟨?_, ?_, fun k q => ?_⟩, fun k w q q2 => ?_, fun q q2 => ?_⟩
  all_goals first | rw [hi _ _ (by omega) (by omega)] | rw [hr _ _ (by omega) (by omega)]
  · exact b1
  · exact b2
  · exact b3
  · exact b4
  · exact b5
  · exact b6
  · exact b7
  · exact c1
  · exact c2
  · exact c3 k q
  · exact d1 k w q q2
  · exact d2 q q2
