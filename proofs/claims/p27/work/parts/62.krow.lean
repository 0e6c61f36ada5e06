/-! the class: its row -/
def told (a j : Nat) : Prop := (a = 0 ∧ j = 9) ∨ (2 ≤ a ∧ a ≤ 5) ∨ (118 ≤ a ∧ a ≤ 127) ∨ 139 ≤ a
theorem kB.mv {c : Cf} {P : Nat → Nat} {M M' : gM} {S T : Nat → Nat → Prop} (h : kB c P M) (hf : kf S T M M') (hs : ∀ a j, S a j → ¬ told a j) (ht : ∀ a j, T a j → kT a j) : kB c P M' := by
  have e : ∀ a j, told a j → mI M' a j = mI M a j := fun a j q => hf.bk (fun z => hs a j z q)
  have er : ∀ a j, ¬ kT a j → mR M' a j = mR M a j := fun a j q => hf.bkR (fun z => q (ht a j z))
  obtain ⟨h1, h2, h3, ⟨t1, t2, t3, t4⟩, h5, h6⟩ := h
  refine ⟨hf.lay ht h1, h2, (e _ _ (by unfold told; omega)).trans h3, ⟨fun j hj => ?_, fun j hj => (e _ _ (by unfold told; omega)).trans (t2 j hj), (e _ _ (by unfold told; omega)).trans t3, (e _ _ (by unfold told; omega)).trans t4⟩, fun f hf2 => ?_, h6⟩
  · exact ⟨(e _ _ (by unfold told; omega)).trans (t1 j hj).1, (e _ _ (by unfold told; omega)).trans (t1 j hj).2⟩
  · obtain ⟨a1, a2, a3⟩ := h5 f hf2
    refine ⟨(e _ _ (by unfold told fb; omega)).trans a1, fun q hq => ?_, fun j hj => ?_⟩
    · obtain ⟨b1, b2, b3⟩ := a2 q hq
      exact ⟨(e _ _ (by unfold told fb; omega)).trans b1, (e _ _ (by unfold told fb; omega)).trans b2, (e _ _ (by unfold told fb; omega)).trans b3⟩
    · obtain ⟨b1, b2⟩ := a3 j hj
      exact ⟨(er _ _ (by unfold kT fb; omega)).trans b1, b2.mv (h2.lk _).2.2.2.2.2 (Nat.le_of_eq hf.n.symm) (fun a _ => by rw [hf.k]) (fun a j q _ => e _ _ (by unfold told; omega)) (fun a j q _ => er _ _ (by unfold kT; omega))⟩
noncomputable def oI (y : Nat) : Int32 := cI (y = 65) (-100) (nI y)
theorem oI_n {y : Nat} (h : ¬ y = 65) : oI y = nI y := cI_f h
/-- a glyph at a place -/
def glC (M : gM) (p : Nat) (x : Gl) : Prop := mI M p 0 = nI (yN x) ∧ mI M p 1 = nI (yC x) ∧ mI M p 2 = nI (yE x) ∧ mI M p 3 = yF x ∧ mI M p 4 = oI (yO x) ∧ mI M p 5 = yP x ∧ mI M p 6 = yT x
def rwR (a j : Nat) : Prop := a = 6 ∨ (8 ≤ a ∧ a ≤ 71) ∨ (a = 73 ∧ 4 ≤ j ∧ j ≤ 8) ∨ a = 74
def rwT (a _j : Nat) : Prop := a = 7
theorem rwR_k (a j : Nat) (h : rwR a j) : ¬ told a j := by unfold rwR at h; unfold told; omega
theorem rwT_k (a j : Nat) (h : rwT a j) : kT a j := Or.inl h
/-- the row holds L; p tells which glyph stands in which cell -/
def cX (c : Cf) (P : Nat → Nat) (M0 : gM) (L : List Gl) (π : Nat → Nat) (M : gM) : Prop :=
  kB c P M0 ∧ kf rwR rwT M0 M ∧ mI M 6 1 = nI L.length ∧ (∀ i, i < 64 → π i < 64 ∧ mR M 7 i = 8 + π i + 1) ∧ (∀ i j, i < 64 → j < 64 → π i = π j → i = j) ∧ (∀ i, i < L.length → glC M (8 + π i) (gat L i)) ∧ okL L
section CX
variable {c : Cf} {P : Nat → Nat} {M0 M : gM} {L : List Gl} {π : Nat → Nat}
theorem cX.B (h : cX c P M0 L π M) : kB c P M := h.1.mv h.2.1 rwR_k rwT_k
theorem cX.fr (h : cX c P M0 L π M) : kf rwR rwT M0 M := h.2.1
theorem cX.n (h : cX c P M0 L π M) : mI M 6 1 = nI L.length := h.2.2.1
theorem cX.p64 (h : cX c P M0 L π M) {i : Nat} (hi : i < 64) : π i < 64 := (h.2.2.2.1 i hi).1
theorem cX.cell (h : cX c P M0 L π M) {i : Nat} (hi : i < 64) : mR M 7 i = 8 + π i + 1 := (h.2.2.2.1 i hi).2
theorem cX.inj (h : cX c P M0 L π M) {i j : Nat} (hi : i < 64) (hj : j < 64) (e : π i = π j) : i = j := h.2.2.2.2.1 i j hi hj e
theorem cX.gl (h : cX c P M0 L π M) {i : Nat} (hi : i < L.length) : glC M (8 + π i) (gat L i) := h.2.2.2.2.2.1 i hi
theorem cX.ok (h : cX c P M0 L π M) : okL L := h.2.2.2.2.2.2
theorem cX.len (h : cX c P M0 L π M) : L.length ≤ 64 := h.ok.1
theorem cX.glt (h : cX c P M0 L π M) {i : Nat} (hi : i < 64) : 8 + π i < mN M := h.B.lay.lt (by have := h.p64 hi; show 8 + π i < 139; omega)
theorem gl_k {M : gM} (h : gLay M) {q : Nat} (hq : q < 64) : mK M (8 + q) = (2, 0) := h.k (by show 8 + q < 139; omega) (by
  have : ∀ q : Fin 64, glayL.getD (8 + q.val) (0, 0) = (2, 0) := by decide +kernel
  exact this ⟨q, hq⟩)
theorem cX.gkd (h : cX c P M0 L π M) {i : Nat} (hi : i < 64) : mK M (8 + π i) = (2, 0) := gl_k h.B.lay (h.p64 hi)
theorem cX.g0 (h : cX c P M0 L π M) {i : Nat} (hi : i < L.length) : mI M (8 + π i) 0 = nI (yN (gat L i)) := (h.gl hi).1
theorem cX.g1 (h : cX c P M0 L π M) {i : Nat} (hi : i < L.length) : mI M (8 + π i) 1 = nI (yC (gat L i)) := (h.gl hi).2.1
theorem cX.g2 (h : cX c P M0 L π M) {i : Nat} (hi : i < L.length) : mI M (8 + π i) 2 = nI (yE (gat L i)) := (h.gl hi).2.2.1
theorem cX.g3 (h : cX c P M0 L π M) {i : Nat} (hi : i < L.length) : mI M (8 + π i) 3 = yF (gat L i) := (h.gl hi).2.2.2.1
theorem cX.g4 (h : cX c P M0 L π M) {i : Nat} (hi : i < L.length) : mI M (8 + π i) 4 = oI (yO (gat L i)) := (h.gl hi).2.2.2.2.1
theorem cX.g5 (h : cX c P M0 L π M) {i : Nat} (hi : i < L.length) : mI M (8 + π i) 5 = yP (gat L i) := (h.gl hi).2.2.2.2.2.1
theorem cX.g6 (h : cX c P M0 L π M) {i : Nat} (hi : i < L.length) : mI M (8 + π i) 6 = yT (gat L i) := (h.gl hi).2.2.2.2.2.2
theorem cX.n256 (h : cX c P M0 L π M) (i : Nat) : yN (gat L i) < 256 := (h.ok.at i).1
theorem cX.e4 (h : cX c P M0 L π M) (i : Nat) : yE (gat L i) ≤ 3 := (h.ok.at i).2.2.1
theorem cX.c16 (h : cX c P M0 L π M) (i : Nat) : yC (gat L i) < 16 := (h.ok.at i).2.1
/-- a field of a glyph of the row changed -/
theorem cX.put (h : cX c P M0 L π M) {i k : Nat} {v : Int32} {x : Gl} (hi : i < L.length) (hg : glC (sI M (8 + π i) k v) (8 + π i) x) (hx : okG x) : cX c P M0 (putL L i x) π (sI M (8 + π i) k v) := by
  have hn := h.len
  have hp := h.p64 (show i < 64 by omega)
  refine ⟨h.1, h.2.1.wr (by unfold rwR; omega), by rw [put_len]; exact (mI_ne (by omega)).trans h.n, h.2.2.2.1, h.2.2.2.2.1, fun j hj => ?_, ok_put h.ok hx i⟩
  rw [put_len] at hj
  rw [gat_put hj]
  by_cases e : j = i
  · subst e; rw [if_pos rfl]; exact hg
  · rw [if_neg e]
    have hne : ¬ 8 + π j = 8 + π i := fun q => e (h.inj (by omega) (by omega) (by omega))
    have := h.gl hj
    unfold glC at *
    rw [mI_ne hne, mI_ne hne, mI_ne hne, mI_ne hne, mI_ne hne, mI_ne hne, mI_ne hne]
    exact this
theorem glC_s {M : gM} {p k : Nat} {v : Int32} {x y : Gl} (h : glC M p x) (e0 : (if k = 0 then v else nI (yN x)) = nI (yN y)) (e1 : (if k = 1 then v else nI (yC x)) = nI (yC y)) (e2 : (if k = 2 then v else nI (yE x)) = nI (yE y)) (e3 : (if k = 3 then v else yF x) = yF y) (e4 : (if k = 4 then v else oI (yO x)) = oI (yO y)) (e5 : (if k = 5 then v else yP x) = yP y) (e6 : (if k = 6 then v else yT x) = yT y) : glC (sI M p k v) p y := by
  unfold glC at *
  obtain ⟨a0, a1, a2, a3, a4, a5, a6⟩ := h
  simp only [mI_sI]
  rw [← e0, ← e1, ← e2, ← e3, ← e4, ← e5, ← e6, a0, a1, a2, a3, a4, a5, a6]
  refine ⟨?_, ?_, ?_, ?_, ?_, ?_, ?_⟩
  all_goals
    by_cases q : k = 0 ∨ k = 1 ∨ k = 2 ∨ k = 3 ∨ k = 4 ∨ k = 5 ∨ k = 6
    · rcases q with rfl | rfl | rfl | rfl | rfl | rfl | rfl <;> simp
    · have : ¬ k = 0 ∧ ¬ k = 1 ∧ ¬ k = 2 ∧ ¬ k = 3 ∧ ¬ k = 4 ∧ ¬ k = 5 ∧ ¬ k = 6 := by omega
      obtain ⟨n0, n1, n2, n3, n4, n5, n6⟩ := this
      first
        | rw [if_neg (fun z => n0 z.2.symm), if_neg n0]
        | rw [if_neg (fun z => n1 z.2.symm), if_neg n1]
        | rw [if_neg (fun z => n2 z.2.symm), if_neg n2]
        | rw [if_neg (fun z => n3 z.2.symm), if_neg n3]
        | rw [if_neg (fun z => n4 z.2.symm), if_neg n4]
        | rw [if_neg (fun z => n5 z.2.symm), if_neg n5]
        | rw [if_neg (fun z => n6 z.2.symm), if_neg n6]
theorem cX.putN (h : cX c P M0 L π M) {i v : Nat} (hi : i < L.length) (hv : v < 256) : cX c P M0 (numL L i v) π (sI M (8 + π i) 0 (nI v)) :=
  h.put hi (glC_s (h.gl hi) rfl rfl rfl rfl rfl rfl rfl) (by have := h.ok.at i; exact ⟨hv, this.2⟩)
theorem cX.putC (h : cX c P M0 L π M) {i v : Nat} (hi : i < L.length) (hv : v < 16) : cX c P M0 (putL L i (sC (gat L i) v)) π (sI M (8 + π i) 1 (nI v)) :=
  h.put hi (glC_s (h.gl hi) rfl rfl rfl rfl rfl rfl rfl) (by have := h.ok.at i; exact ⟨this.1, hv, this.2.2⟩)
theorem cX.putP (h : cX c P M0 L π M) {i : Nat} {v : Int32} (hi : i < L.length) : cX c P M0 (putL L i (sP (gat L i) v)) π (sI M (8 + π i) 5 v) :=
  h.put hi (glC_s (h.gl hi) rfl rfl rfl rfl rfl rfl rfl) (by have := h.ok.at i; exact this)
theorem cX.putT (h : cX c P M0 L π M) {i : Nat} {v : Int32} (hi : i < L.length) : cX c P M0 (putL L i (sT (gat L i) v)) π (sI M (8 + π i) 6 v) :=
  h.put hi (glC_s (h.gl hi) rfl rfl rfl rfl rfl rfl rfl) (by have := h.ok.at i; exact this)
/-- one glyph more -/
theorem cX.add (h : cX c P M0 L π M) {M' : gM} {x : Gl} (hl : L.length < 64) (hx : okG x) (hf : kf (fun a j => (a = 8 + π L.length) ∨ (a = 6 ∧ j = 1)) (fun _ _ => False) M M') (hn : mI M' 6 1 = nI (L.length + 1)) (hg : glC M' (8 + π L.length) x) : cX c P M0 (addL L x) π M' := by
  have hp := h.p64 hl
  refine ⟨h.1, h.2.1.trans (hf.mono (fun a j q => by unfold rwR; omega) (fun _ _ q => q.elim)), by rw [add_len]; exact hn, fun i hi => ⟨h.p64 hi, (hf.bkR (fun q => q)).trans (h.cell hi)⟩, h.2.2.2.2.1, fun j hj => ?_, ok_add h.ok hx hl⟩
  rw [add_len] at hj
  unfold addL
  rw [gat_mkL hj]
  by_cases e : j < L.length
  · rw [if_pos e]
    have hpj := h.p64 (show j < 64 by omega)
    have hne : ¬ 8 + π j = 8 + π L.length := fun q => by have := h.inj (show j < 64 by omega) hl (by omega); omega
    have := h.gl e
    unfold glC at *
    rw [hf.bk (by omega), hf.bk (by omega), hf.bk (by omega), hf.bk (by omega), hf.bk (by omega), hf.bk (by omega), hf.bk (by omega)]
    exact this
  · rw [if_neg e, show j = L.length by omega]; exact hg
/-- the cells as r tells, all else as in M -/
def cM (M : gM) (ρ : Nat → Nat) (M' : gM) : Prop := M'.1 = M.1 ∧ M'.2.1 = M.2.1 ∧ mL M' = mL M ∧ (∀ a j, ¬ a = 7 → mR M' a j = mR M a j) ∧ ∀ i, i < 64 → mR M' 7 i = 8 + ρ i + 1
theorem cX.cm (h : cX c P M0 L π M) : cM M π M := ⟨rfl, rfl, rfl, fun _ _ _ => rfl, fun i hi => h.cell hi⟩
theorem cM.i {M M' : gM} {ρ : Nat → Nat} (h : cM M ρ M') (a j : Nat) : mI M' a j = mI M a j := by unfold mI; rw [h.2.1]
theorem cM.kf {M M' : gM} {ρ : Nat → Nat} (h : cM M ρ M') : kf (fun _ _ => False) rwT M M' := ⟨h.1, h.2.2.1, fun a j _ => h.i a j, fun a j q => h.2.2.2.1 a j q⟩
theorem cM.cell {M M' : gM} {ρ : Nat → Nat} (h : cM M ρ M') {i : Nat} (hi : i < 64) : mR M' 7 i = 8 + ρ i + 1 := h.2.2.2.2 i hi
def updP (ρ : Nat → Nat) (j v : Nat) : Nat → Nat := fun i => if i = j then v else ρ i
theorem cM.set {M M' : gM} {ρ : Nat → Nat} (h : cM M ρ M') (j v : Nat) : cM M (updP ρ j v) (sR M' 7 j (8 + v + 1)) :=
  ⟨h.1, h.2.1, h.2.2.1, fun a i q => by rw [mR_sR, if_neg (fun z => q z.1)]; exact h.2.2.2.1 a i q, fun i hi => by
    rw [mR_sR]
    unfold updP
    by_cases e : i = j
    · rw [if_pos ⟨rfl, e⟩, if_pos e]
    · rw [if_neg (fun z => e z.2), if_neg e]; exact h.2.2.2.2 i hi⟩
theorem cM.congr {M M' : gM} {ρ ρ' : Nat → Nat} (h : cM M ρ M') (e : ∀ i, i < 64 → ρ i = ρ' i) : cM M ρ' M' := ⟨h.1, h.2.1, h.2.2.1, h.2.2.2.1, fun i hi => by rw [← e i hi]; exact h.2.2.2.2 i hi⟩
theorem cX.perm (h : cX c P M0 L π M) {M' : gM} {ρ σ : Nat → Nat} {n : Nat} (hm : cM M ρ M') (hr : ∀ i, i < 64 → ρ i = π (σ i)) (hs : ∀ i, i < 64 → σ i < 64) (hi : ∀ i j, i < 64 → j < 64 → σ i = σ j → i = j) (hn : n ≤ 64) (hsn : ∀ i, i < n → σ i < L.length) : cX c P M0 (mkL n (fun i => gat L (σ i))) ρ (sI M' 6 1 (nI n)) := by
  refine ⟨h.1, (h.2.1.trans (hm.kf.mono (fun _ _ q => q.elim) (fun _ _ q => q))).wr (Or.inl rfl), by rw [mkL_len]; exact mI_eq, fun i q => ⟨by rw [hr i q]; exact h.p64 (hs i q), hm.cell q⟩, fun i j q1 q2 e => hi i j q1 q2 (h.inj (hs i q1) (hs j q2) (by rw [← hr i q1, ← hr j q2]; exact e)), fun i q => ?_, okL_mk hn (fun i _ => h.ok.at _)⟩
  rw [mkL_len] at q
  rw [gat_mkL q, hr i (by omega)]
  have := h.gl (hsn i q)
  unfold glC at *
  have hne : ¬ 8 + π (σ i) = 6 := by omega
  rw [mI_ne hne, mI_ne hne, mI_ne hne, mI_ne hne, mI_ne hne, mI_ne hne, mI_ne hne, hm.i, hm.i, hm.i, hm.i, hm.i, hm.i, hm.i]
  exact this
end CX
set_option maxRecDepth 100000 in
set_option maxHeartbeats 4000000 in
theorem sp_X8_has {g : gG} {M : gM} {Q : Option Value ⊕ String → gM → Prop} {c : Cf} {P : Nat → Nat} {M0 : gM} {L : List Gl} {π : Nat → Nat} (hc : cX c P M0 L π M) {i : Nat} (hi : i < 2 ^ 30) (K : Q (.inl (some (.int (b2i (i < L.length))))) M) : E g 1 0 0 mX8_has 0 [.ref 7, .int (nI i)] [] M Q := by
  have hB := hc.B
  have hL := hB.lay
  have hn := hc.len
  refine E_iload_n dX8_has_0 rfl ?_
  refine E_if_lt_n (tgt := 16) dX8_has_1 (by decide) (by omega) ?_
  refine E_iload_n dX8_has_4 rfl ?_
  refine E_aload_n dX8_has_5 rfl ?_
  refine E_getIL (v := nI (List.length _)) dX8_has_6 kF_X8_17 kY_8 (Or.inl rfl) (l_6 hL) (k_6 hL) hc.n ?_
  refine E_icmp_ge_n (tgt := 16) dX8_has_9 (by decide) (by omega) (by omega) (fun c_9 => ?_) (fun c_9 => ?_)
  · refine E_iconst (v := nI 0) dX8_has_16 (by decide) ?_
    refine E_iret dX8_has_17 (Or.inr ⟨rfl, by decide⟩) ?_
    rw [← b2i_f (P := i < L.length) (by omega)]; exact K
  · refine E_iconst (v := nI 1) dX8_has_12 (by decide) ?_
    refine E_goto (tgt := 17) dX8_has_13 (by decide) ?_
    refine E_iret dX8_has_17 (Or.inr ⟨rfl, by decide⟩) ?_
    rw [← b2i_t (P := i < L.length) (by omega)]; exact K
set_option maxRecDepth 100000 in
set_option maxHeartbeats 4000000 in
theorem sp_X8_hasI {g : gG} {M : gM} {Q : Option Value ⊕ String → gM → Prop} {c : Cf} {P : Nat → Nat} {M0 : gM} {L : List Gl} {π : Nat → Nat} (hc : cX c P M0 L π M) (K : Q (.inl (some (.int (nI 0)))) M) : E g 1 0 0 mX8_has 0 [.ref 7, .int (-100)] [] M Q := by
  have hB := hc.B
  have hL := hB.lay
  have hn := hc.len
  refine E_iload_n dX8_has_0 rfl ?_
  refine E_if_lt (tgt := 16) dX8_has_1 (by decide) (fun _ => ?_) (fun c0 => absurd (by decide) c0)
  refine E_iconst (v := nI 0) dX8_has_16 (by decide) ?_
  refine E_iret dX8_has_17 (Or.inr ⟨rfl, by decide⟩) ?_
  exact K
set_option maxRecDepth 100000 in
set_option maxHeartbeats 4000000 in
theorem sp_X4_isFor {g : gG} {M : gM} {Q : Option Value ⊕ String → gM → Prop} {c : Cf} {P : Nat → Nat} {M0 : gM} {L : List Gl} {π : Nat → Nat} (hc : cX c P M0 L π M) {l p : Nat} (hk : kLk c M l p) {i : Nat} (hi : i < L.length) (K : Q (.inl (some (.int (b2i (hasF c l (gat L i)))))) M) : E g 1 0 0 mX4_isFor 0 [.ref (p + 1), .ref (8 + π i + 1)] [] M Q := by
  have hB := hc.B
  have hL := hB.lay
  have hn := hc.len
  have h1 := (hB.wf.lk l).2.1
  have h2 := hc.e4 i
  refine E_aload_n dX4_isFor_0 rfl ?_
  refine E_getIL (v := nI (cN _ 131 _)) dX4_isFor_1 kF_X4_27 kY_4 (Or.inl rfl) (hk.lt0) (hk.kd) hk.f1 ?_
  refine E_if_ne_n (tgt := 9) dX4_isFor_4 (by decide) (by omega) (fun c_4 => ?_) (fun c_4 => ?_)
  · refine E_aload_n dX4_isFor_9 rfl ?_
    refine E_getIL (v := nI (cN _ 131 _)) dX4_isFor_10 kF_X4_27 kY_4 (Or.inl rfl) (hk.lt0) (hk.kd) hk.f1 ?_
    refine E_bipush (v := nI 6) dX4_isFor_13 (by decide) ?_
    refine E_icmp_ne_n (tgt := 20) dX4_isFor_15 (by decide) (by omega) (by omega) (fun c_15 => ?_) (fun c_15 => ?_)
    · refine E_aload_n dX4_isFor_20 rfl ?_
      refine E_getIL (v := nI (cN _ 131 _)) dX4_isFor_21 kF_X4_27 kY_4 (Or.inl rfl) (hk.lt0) (hk.kd) hk.f1 ?_
      refine E_iconst (v := nI 5) dX4_isFor_24 (by decide) ?_
      refine E_icmp_ne_n (tgt := 41) dX4_isFor_25 (by decide) (by omega) (by omega) (fun c_25 => ?_) (fun c_25 => ?_)
      · refine E_aload_n dX4_isFor_41 rfl ?_
        refine E_getIL (v := _) dX4_isFor_42 kF_X4_72 kY_2 (Or.inl rfl) (hc.glt (by omega)) (hc.gkd (by omega)) (hc.g3 (by omega)) ?_
        refine E_aload_n dX4_isFor_45 rfl ?_
        refine E_getIL (v := nI (cN _ 131 _)) dX4_isFor_46 kF_X4_27 kY_4 (Or.inl rfl) (hk.lt0) (hk.kd) hk.f1 ?_
        refine E_iconst (v := nI 1) dX4_isFor_49 (by decide) ?_
        refine E_isub_d dX4_isFor_50 ?_
        refine E_icmp_ne_r (tgt := 58) dX4_isFor_51 (by decide) (fun c_51 => ?_) (fun c_51 => ?_)
        · refine E_iconst (v := nI 0) dX4_isFor_58 (by decide) ?_
          refine E_iret dX4_isFor_59 (Or.inr ⟨rfl, by decide⟩) ?_
          rw [← b2i_f (P := hasF c l (gat L i)) (by unfold hasF; clear K hc hB hL hk; grind)]; exact K
        · refine E_iconst (v := nI 1) dX4_isFor_54 (by decide) ?_
          refine E_goto (tgt := 59) dX4_isFor_55 (by decide) ?_
          refine E_iret dX4_isFor_59 (Or.inr ⟨rfl, by decide⟩) ?_
          rw [← b2i_t (P := hasF c l (gat L i)) (by unfold hasF; clear K hc hB hL hk; grind)]; exact K
      · refine E_aload_n dX4_isFor_28 rfl ?_
        refine E_getIL (v := nI (yE (gat _ _))) dX4_isFor_29 kF_X4_67 kY_2 (Or.inl rfl) (hc.glt (by omega)) (hc.gkd (by omega)) (hc.g2 (by omega)) ?_
        refine E_if_le_n (tgt := 39) dX4_isFor_32 (by decide) (by omega) (fun c_32 => ?_) (fun c_32 => ?_)
        · refine E_iconst (v := nI 0) dX4_isFor_39 (by decide) ?_
          refine E_iret dX4_isFor_40 (Or.inr ⟨rfl, by decide⟩) ?_
          rw [← b2i_f (P := hasF c l (gat L i)) (by unfold hasF; clear K hc hB hL hk; grind)]; exact K
        · refine E_iconst (v := nI 1) dX4_isFor_35 (by decide) ?_
          refine E_goto (tgt := 40) dX4_isFor_36 (by decide) ?_
          refine E_iret dX4_isFor_40 (Or.inr ⟨rfl, by decide⟩) ?_
          rw [← b2i_t (P := hasF c l (gat L i)) (by unfold hasF; clear K hc hB hL hk; grind)]; exact K
    · refine E_iconst (v := nI 0) dX4_isFor_18 (by decide) ?_
      refine E_iret dX4_isFor_19 (Or.inr ⟨rfl, by decide⟩) ?_
      rw [← b2i_f (P := hasF c l (gat L i)) (by unfold hasF; clear K hc hB hL hk; grind)]; exact K
  · refine E_iconst (v := nI 1) dX4_isFor_7 (by decide) ?_
    refine E_iret dX4_isFor_8 (Or.inr ⟨rfl, by decide⟩) ?_
    rw [← b2i_t (P := hasF c l (gat L i)) (by unfold hasF; clear K hc hB hL hk; grind)]; exact K
set_option maxRecDepth 100000 in
set_option maxHeartbeats 4000000 in
theorem sp_X1_hasTurn {g : gG} {M : gM} {Q : Option Value ⊕ String → gM → Prop} {c : Cf} {P : Nat → Nat} {M0 : gM} {L : List Gl} {π : Nat → Nat} (hc : cX c P M0 L π M) {f : Nat} (hf : f < 2) {l p : Nat} (hk : kLk c M l p) {i : Nat} (hi : i < L.length) (K : Q (.inl (some (.int (b2i (goP c f L l i))))) M) : E g 2 0 0 mX1_hasTurn 0 [.ref (fb f + 1), .ref (p + 1), .ref (8 + π i + 1)] [] M Q := by
  have hB := hc.B
  have hL := hB.lay
  have hn := hc.len
  have h1 := hc.n256 i
  refine E_aload_n dX1_hasTurn_0 rfl ?_
  refine E_aload_n dX1_hasTurn_1 rfl ?_
  refine E_callV1 (fr' := 1) (k1 := 0) (n1 := 0) (k2 := 0) (n2 := 0) dX1_hasTurn_2 kO_X4_isFor kL_X1_51 (hk.lt0) (hk.kd) ⟨by decide, rfl⟩ rfl (by decide) (by decide) (by exact Nat.le_of_ble_eq_true rfl) rfl ?_
  refine sp_X4_isFor hc hk (by omega) ?_
  refine gKv ?_
  refine E_if_eq_b (tgt := 24) dX1_hasTurn_5 (by decide) (fun c_5 => ?_) (fun c_5 => ?_)
  · refine E_iconst (v := nI 0) dX1_hasTurn_24 (by decide) ?_
    refine E_iret dX1_hasTurn_25 (Or.inr ⟨rfl, by decide⟩) ?_
    rw [← b2i_f (P := goP c f L l i) (by unfold goP; simp_all)]; exact K
  · refine E_aload_n dX1_hasTurn_8 rfl ?_
    refine E_aload_n dX1_hasTurn_9 rfl ?_
    refine E_aload_n dX1_hasTurn_10 rfl ?_
    refine E_getIL (v := nI (yN (gat _ _))) dX1_hasTurn_11 kF_X1_55 kY_2 (Or.inl rfl) (hc.glt (by omega)) (hc.gkd (by omega)) (hc.g0 (by omega)) ?_
    refine E_callV2 (fr' := 1) (k1 := 0) (n1 := 0) (k2 := 0) (n2 := 0) dX1_hasTurn_14 kO_X1_skips kL_X1_60 (hB.flt0 hf) (hB.fk0 hf) ⟨by decide, rfl⟩ rfl rfl (by decide) (by decide) (by exact Nat.le_of_ble_eq_true rfl) rfl ?_
    refine sp_X1_skips hB hf hk (by omega) ?_
    refine gKv ?_
    refine E_if_ne_b (tgt := 24) dX1_hasTurn_17 (by decide) (fun c_17 => ?_) (fun c_17 => ?_)
    · refine E_iconst (v := nI 0) dX1_hasTurn_24 (by decide) ?_
      refine E_iret dX1_hasTurn_25 (Or.inr ⟨rfl, by decide⟩) ?_
      rw [← b2i_f (P := goP c f L l i) (by unfold goP; simp_all)]; exact K
    · refine E_iconst (v := nI 1) dX1_hasTurn_20 (by decide) ?_
      refine E_goto (tgt := 25) dX1_hasTurn_21 (by decide) ?_
      refine E_iret dX1_hasTurn_25 (Or.inr ⟨rfl, by decide⟩) ?_
      rw [← b2i_t (P := goP c f L l i) (by unfold goP; simp_all)]; exact K
noncomputable def nuV (L : List Gl) (e : Nat) : Int32 := cI (0 < e ∧ e ≤ L.length) (nI (yN (gat L (e - 1)))) (-100)
set_option maxRecDepth 100000 in
set_option maxHeartbeats 4000000 in
theorem sp_X8_numberAt {g : gG} {M : gM} {Q : Option Value ⊕ String → gM → Prop} {c : Cf} {P : Nat → Nat} {M0 : gM} {L : List Gl} {π : Nat → Nat} (hc : cX c P M0 L π M) {i : Nat} (hi : i < 2 ^ 30) (K : Q (.inl (some (.int (nuV L (i + 1))))) M) : E g 1 0 0 mX8_numberAt 0 [.ref 7, .int (nI i)] [] M Q := by
  have hB := hc.B
  have hL := hB.lay
  have hn := hc.len
  unfold nuV at K
  refine E_iload_n dX8_numberAt_0 rfl ?_
  refine E_if_lt_n (tgt := 24) dX8_numberAt_1 (by decide) (by omega) ?_
  refine E_iload_n dX8_numberAt_4 rfl ?_
  refine E_aload_n dX8_numberAt_5 rfl ?_
  refine E_getIL (v := nI (List.length _)) dX8_numberAt_6 kF_X8_17 kY_8 (Or.inl rfl) (l_6 hL) (k_6 hL) hc.n ?_
  refine E_icmp_ge_n (tgt := 24) dX8_numberAt_9 (by decide) (by omega) (by omega) (fun c_9 => ?_) (fun c_9 => ?_)
  · refine E_bipush (v := -100) dX8_numberAt_24 (by decide) ?_
    refine E_iret dX8_numberAt_26 (Or.inl rfl) ?_
    first
      | (rw [cI_t (by omega), Nat.add_sub_cancel] at K; exact K)
      | (rw [cI_f (by omega)] at K; exact K)
  · refine E_aload_n dX8_numberAt_12 rfl ?_
    refine E_getRL dX8_numberAt_13 kF_X8_11 kY_8 (Or.inr ⟨_, rfl⟩) (l_6 hL) (k_6 hL) (r_6_0 hL) ?_
    refine E_iload_n dX8_numberAt_16 rfl ?_
    refine E_aaldL (v := _) dX8_numberAt_17 (l_7 hL) (k_7 hL) (by decide) (by decide) rfl (by omega) (by decide) (hc.cell (by omega)) ?_
    refine E_getIL (v := nI (yN (gat _ _))) dX8_numberAt_18 kF_X8_36 kY_2 (Or.inl rfl) (hc.glt (by omega)) (hc.gkd (by omega)) (hc.g0 (by omega)) ?_
    refine E_goto (tgt := 26) dX8_numberAt_21 (by decide) ?_
    refine E_iret dX8_numberAt_26 (Or.inl rfl) ?_
    first
      | (rw [cI_t (by omega), Nat.add_sub_cancel] at K; exact K)
      | (rw [cI_f (by omega)] at K; exact K)
set_option maxRecDepth 100000 in
set_option maxHeartbeats 4000000 in
theorem sp_X8_numberAtI {g : gG} {M : gM} {Q : Option Value ⊕ String → gM → Prop} {c : Cf} {P : Nat → Nat} {M0 : gM} {L : List Gl} {π : Nat → Nat} (hc : cX c P M0 L π M) (K : Q (.inl (some (.int (nuV L 0)))) M) : E g 1 0 0 mX8_numberAt 0 [.ref 7, .int (-100)] [] M Q := by
  have hB := hc.B
  have hL := hB.lay
  have hn := hc.len
  unfold nuV at K
  refine E_iload_n dX8_numberAt_0 rfl ?_
  refine E_if_lt (tgt := 24) dX8_numberAt_1 (by decide) (fun _ => ?_) (fun c0 => absurd (by decide) c0)
  refine E_bipush (v := -100) dX8_numberAt_24 (by decide) ?_
  refine E_iret dX8_numberAt_26 (Or.inl rfl) ?_
  rw [cI_f (by omega)] at K; exact K
theorem sp_X8_numberAtV {g : gG} {M : gM} {Q : Option Value ⊕ String → gM → Prop} {c : Cf} {P : Nat → Nat} {M0 : gM} {L : List Gl} {π : Nat → Nat} (hc : cX c P M0 L π M) {e : Nat} (he : e < 2 ^ 30) (K : Q (.inl (some (.int (nuV L e)))) M) : E g 1 0 0 mX8_numberAt 0 [.ref 7, .int (clV e)] [] M Q := by
  unfold clV
  by_cases q : e = 0
  · subst q; rw [cI_t rfl]; exact sp_X8_numberAtI hc K
  · rw [cI_f q]
    refine sp_X8_numberAt hc (by omega) ?_
    rw [Nat.sub_add_cancel (by omega)]; exact K
set_option maxRecDepth 100000 in
set_option maxHeartbeats 4000000 in
theorem lp_X8_indexOf {g : gG} {M : gM} {Q : Option Value ⊕ String → gM → Prop} {c : Cf} {P : Nat → Nat} {M0 : gM} {L : List Gl} {π : Nat → Nat} (hc : cX c P M0 L π M) {q : Nat} (hq : q < 64) (K1 : ∀ i, i < L.length → π i = q → Q (.inl (some (.int (nI i)))) M) (K0 : (∀ i, i < L.length → ¬ π i = q) → Q (.inl (some (.int (-100)))) M) : ∀ k, k ≤ L.length → (∀ i, i < k → ¬ π i = q) → E g 1 0 0 mX8_indexOf 2 [.ref 7, .ref (8 + q + 1), .int (nI k)] [] M Q := by
  have hB := hc.B
  have hL := hB.lay
  have hn := hc.len
  refine lpUp L.length (fun k hk ih => ?_)
  intro hi
  refine E_iload_n dX8_indexOf_2 rfl ?_
  refine E_aload_n dX8_indexOf_3 rfl ?_
  refine E_getIL (v := nI (List.length _)) dX8_indexOf_4 kF_X8_17 kY_8 (Or.inl rfl) (l_6 hL) (k_6 hL) hc.n ?_
  refine E_icmp_ge_n (tgt := 28) dX8_indexOf_7 (by decide) (by omega) (by omega) (fun c_7 => ?_) (fun c_7 => ?_)
  · refine E_bipush (v := -100) dX8_indexOf_28 (by decide) ?_
    refine E_iret dX8_indexOf_30 (Or.inl rfl) ?_
    first
      | exact K1 k (by omega) (by omega)
      | exact K0 (fun i q1 => hi i (by omega))
  · refine E_aload_n dX8_indexOf_10 rfl ?_
    refine E_getRL dX8_indexOf_11 kF_X8_11 kY_8 (Or.inr ⟨_, rfl⟩) (l_6 hL) (k_6 hL) (r_6_0 hL) ?_
    refine E_iload_n dX8_indexOf_14 rfl ?_
    refine E_aaldL (v := _) dX8_indexOf_15 (l_7 hL) (k_7 hL) (by decide) (by decide) rfl (by omega) (by decide) (hc.cell (by omega)) ?_
    refine E_aload_n dX8_indexOf_16 rfl ?_
    refine E_acmp_ne (tgt := 22) dX8_indexOf_17 (by decide) (fun c_17 => ?_) (fun c_17 => ?_)
    · refine E_iinc_n (d := 1) dX8_indexOf_22 rfl rfl rfl (by decide) rfl ?_
      refine E_goto (tgt := 2) dX8_indexOf_25 (by decide) ?_
      refine ih (by omega) (fun i q1 => ?_)
      by_cases e : i = k
      · subst e; exact fun z => c_17 (by omega)
      · exact hi i (by omega)
    · refine E_iload_n dX8_indexOf_20 rfl ?_
      refine E_iret dX8_indexOf_21 (Or.inl rfl) ?_
      first
        | exact K1 k (by omega) (by omega)
        | exact K0 (fun i q1 => hi i (by omega))
set_option maxRecDepth 100000 in
set_option maxHeartbeats 4000000 in
theorem sp_X8_indexOf {g : gG} {M : gM} {Q : Option Value ⊕ String → gM → Prop} {c : Cf} {P : Nat → Nat} {M0 : gM} {L : List Gl} {π : Nat → Nat} (hc : cX c P M0 L π M) {q : Nat} (hq : q < 64) (K1 : ∀ i, i < L.length → π i = q → Q (.inl (some (.int (nI i)))) M) (K0 : (∀ i, i < L.length → ¬ π i = q) → Q (.inl (some (.int (-100)))) M) : E g 1 0 0 mX8_indexOf 0 [.ref 7, .ref (8 + q + 1), .null] [] M Q := by
  have hB := hc.B
  have hL := hB.lay
  have hn := hc.len
  refine E_iconst (v := nI 0) dX8_indexOf_0 (by decide) ?_
  refine E_istore_n dX8_indexOf_1 (Nat.le_of_ble_eq_true rfl) (by decide) rfl ?_
  exact lp_X8_indexOf hc hq K1 K0 0 (Nat.zero_le _) (fun i q1 => by omega)
noncomputable def afV (n a : Nat) : Int32 := cI (a < n) (nI a) (-100)
set_option maxRecDepth 100000 in
set_option maxHeartbeats 4000000 in
theorem lp_X8_ahead {g : gG} {M : gM} {Q : Option Value ⊕ String → gM → Prop} {c : Cf} {P : Nat → Nat} {M0 : gM} {L : List Gl} {π : Nat → Nat} (hc : cX c P M0 L π M) {f : Nat} (hf : f < 2) {l p : Nat} (hk : kLk c M l p) {i : Nat} (hi : i ≤ L.length) (K : Q (.inl (some (.int (clV (ahd c f l L i))))) M) : ∀ k, 0 ≤ k → k ≤ i → rfd (fun k => ¬ skp c f l (yN (gat L k))) k = ahd c f l L i → E g 2 0 0 mX8_ahead 12 [.ref 7, .ref (fb f + 1), .ref (p + 1), .int (nI i), .int (dI k)] [] M Q := by
  have hB := hc.B
  have hL := hB.lay
  have hn := hc.len
  refine lpDn 0 (fun k _ ih => ?_)
  intro hki he
  refine E_iload dX8_ahead_12 rfl ?_
  refine E_if_lt_d (tgt := 44) dX8_ahead_14 (by decide) (by omega) (fun c_14 => ?_) (fun c_14 => ?_)
  · refine E_bipush (v := -100) dX8_ahead_44 (by decide) ?_
    refine E_iret dX8_ahead_46 (Or.inl rfl) ?_
    subst c_14
    have he : 0 = ahd c f l L i := he
    unfold clV at K
    rw [← he, cI_t rfl] at K
    exact K
  · obtain ⟨k, rfl⟩ : ∃ z, k = z + 1 := ⟨k - 1, by omega⟩
    rw [dI_succ]
    have gx := hc.n256 k
    refine E_aload_n dX8_ahead_17 rfl ?_
    refine E_aload_n dX8_ahead_18 rfl ?_
    refine E_aload_n dX8_ahead_19 rfl ?_
    refine E_getRL dX8_ahead_20 kF_X8_11 kY_8 (Or.inr ⟨_, rfl⟩) (l_6 hL) (k_6 hL) (r_6_0 hL) ?_
    refine E_iload dX8_ahead_23 rfl ?_
    refine E_aaldL (v := _) dX8_ahead_25 (l_7 hL) (k_7 hL) (by decide) (by decide) rfl (by omega) (by decide) (hc.cell (by omega)) ?_
    refine E_getIL (v := nI (yN (gat _ _))) dX8_ahead_26 kF_X8_36 kY_2 (Or.inl rfl) (hc.glt (by omega)) (hc.gkd (by omega)) (hc.g0 (by omega)) ?_
    refine E_callV2 (fr' := 1) (k1 := 0) (n1 := 0) (k2 := 0) (n2 := 0) dX8_ahead_29 kO_X1_skips kL_X8_39 (hB.flt0 hf) (hB.fk0 hf) ⟨by decide, rfl⟩ rfl rfl (by decide) (by decide) (by exact Nat.le_of_ble_eq_true rfl) rfl ?_
    refine sp_X1_skips hB hf hk (by omega) ?_
    refine gKv ?_
    refine E_if_ne_b (tgt := 38) dX8_ahead_32 (by decide) (fun c_32 => ?_) (fun c_32 => ?_)
    · refine E_iinc_d dX8_ahead_38 rfl rfl (by decide) rfl ?_
      refine E_goto (tgt := 12) dX8_ahead_41 (by decide) ?_
      exact ih (by omega) (by omega) (by rw [← he]; exact (rfd_f (P := (fun k => ¬ skp c f l (yN (gat L k)))) (k := k) (not_not_intro (by assumption))).symm)
    · refine E_iload dX8_ahead_35 rfl ?_
      refine E_iret dX8_ahead_37 (Or.inl rfl) ?_
      rw [rfd_t (by assumption)] at he
      unfold clV at K
      rw [← he, cI_f (by omega), Nat.add_sub_cancel] at K
      exact K
set_option maxRecDepth 100000 in
set_option maxHeartbeats 4000000 in
theorem sp_X8_ahead {g : gG} {M : gM} {Q : Option Value ⊕ String → gM → Prop} {c : Cf} {P : Nat → Nat} {M0 : gM} {L : List Gl} {π : Nat → Nat} (hc : cX c P M0 L π M) {f : Nat} (hf : f < 2) {l p : Nat} (hk : kLk c M l p) {i : Nat} (hi : i ≤ L.length) (K : Q (.inl (some (.int (clV (ahd c f l L i))))) M) : E g 2 0 0 mX8_ahead 0 [.ref 7, .ref (fb f + 1), .ref (p + 1), .int (nI i), .null] [] M Q := by
  have hB := hc.B
  have hL := hB.lay
  have hn := hc.len
  refine E_iload_n dX8_ahead_0 rfl ?_
  refine E_aload_n dX8_ahead_1 rfl ?_
  refine E_getIL (v := nI (List.length _)) dX8_ahead_2 kF_X8_17 kY_8 (Or.inl rfl) (l_6 hL) (k_6 hL) hc.n ?_
  refine E_kmin_n (gW_at 839 (by decide +kernel) (by decide +kernel)) dX8_ahead_5 (by decide) (by exact Nat.le_of_ble_eq_true rfl) (by omega) (by omega) ?_
  refine E_iconst (v := nI 1) dX8_ahead_8 (by decide) ?_
  refine E_isub_d dX8_ahead_9 ?_
  refine E_istore dX8_ahead_10 (Nat.le_of_ble_eq_true rfl) (by decide) rfl ?_
  rw [Nat.min_eq_left hi]
  exact lp_X8_ahead hc hf hk hi K i (Nat.zero_le _) (Nat.le_refl _) rfl
set_option maxRecDepth 100000 in
set_option maxHeartbeats 4000000 in
theorem lp_X8_behind {g : gG} {M : gM} {Q : Option Value ⊕ String → gM → Prop} {c : Cf} {P : Nat → Nat} {M0 : gM} {L : List Gl} {π : Nat → Nat} (hc : cX c P M0 L π M) {f : Nat} (hf : f < 2) {l p : Nat} (hk : kLk c M l p) {i : Nat} (K : Q (.inl (some (.int (afV L.length (aft c f l L i))))) M) : ∀ k, k ≤ L.length → fnd (fun k => ¬ skp c f l (yN (gat L k))) L.length k = aft c f l L i → E g 2 0 0 mX8_behind 9 [.ref 7, .ref (fb f + 1), .ref (p + 1), .int (nI i), .int (nI k)] [] M Q := by
  have hB := hc.B
  have hL := hB.lay
  have hn := hc.len
  refine lpUp L.length (fun k hkn ih => ?_)
  intro he
  have gx := hc.n256 k
  unfold afV at K
  refine E_iload dX8_behind_9 rfl ?_
  refine E_aload_n dX8_behind_11 rfl ?_
  refine E_getIL (v := nI (List.length _)) dX8_behind_12 kF_X8_17 kY_8 (Or.inl rfl) (l_6 hL) (k_6 hL) hc.n ?_
  refine E_icmp_ge_n (tgt := 45) dX8_behind_15 (by decide) (by omega) (by omega) (fun c_15 => ?_) (fun c_15 => ?_)
  · refine E_bipush (v := -100) dX8_behind_45 (by decide) ?_
    refine E_iret dX8_behind_47 (Or.inl rfl) ?_
    first
      | (rw [fnd_end (by omega)] at he; rw [← he, cI_f (by omega)] at K; exact K)
      | (rw [fnd_hit (by omega) (by assumption)] at he; rw [← he, cI_t (by omega)] at K; exact K)
  · refine E_aload_n dX8_behind_18 rfl ?_
    refine E_aload_n dX8_behind_19 rfl ?_
    refine E_aload_n dX8_behind_20 rfl ?_
    refine E_getRL dX8_behind_21 kF_X8_11 kY_8 (Or.inr ⟨_, rfl⟩) (l_6 hL) (k_6 hL) (r_6_0 hL) ?_
    refine E_iload dX8_behind_24 rfl ?_
    refine E_aaldL (v := _) dX8_behind_26 (l_7 hL) (k_7 hL) (by decide) (by decide) rfl (by omega) (by decide) (hc.cell (by omega)) ?_
    refine E_getIL (v := nI (yN (gat _ _))) dX8_behind_27 kF_X8_36 kY_2 (Or.inl rfl) (hc.glt (by omega)) (hc.gkd (by omega)) (hc.g0 (by omega)) ?_
    refine E_callV2 (fr' := 1) (k1 := 0) (n1 := 0) (k2 := 0) (n2 := 0) dX8_behind_30 kO_X1_skips kL_X8_39 (hB.flt0 hf) (hB.fk0 hf) ⟨by decide, rfl⟩ rfl rfl (by decide) (by decide) (by exact Nat.le_of_ble_eq_true rfl) rfl ?_
    refine sp_X1_skips hB hf hk (by omega) ?_
    refine gKv ?_
    refine E_if_ne_b (tgt := 39) dX8_behind_33 (by decide) (fun c_33 => ?_) (fun c_33 => ?_)
    · refine E_iinc_n (d := 1) dX8_behind_39 rfl rfl rfl (by decide) rfl ?_
      refine E_goto (tgt := 9) dX8_behind_42 (by decide) ?_
      exact ih (by omega) (by rw [← he]; exact (fnd_skip (by omega) (not_not_intro (by assumption))).symm)
    · refine E_iload dX8_behind_36 rfl ?_
      refine E_iret dX8_behind_38 (Or.inl rfl) ?_
      first
        | (rw [fnd_end (by omega)] at he; rw [← he, cI_f (by omega)] at K; exact K)
        | (rw [fnd_hit (by omega) (by assumption)] at he; rw [← he, cI_t (by omega)] at K; exact K)
set_option maxRecDepth 100000 in
set_option maxHeartbeats 4000000 in
theorem sp_X8_behind {g : gG} {M : gM} {Q : Option Value ⊕ String → gM → Prop} {c : Cf} {P : Nat → Nat} {M0 : gM} {L : List Gl} {π : Nat → Nat} (hc : cX c P M0 L π M) {f : Nat} (hf : f < 2) {l p : Nat} (hk : kLk c M l p) {i : Nat} (hi : i < L.length) (K : Q (.inl (some (.int (afV L.length (aft c f l L i))))) M) : E g 2 0 0 mX8_behind 0 [.ref 7, .ref (fb f + 1), .ref (p + 1), .int (nI i), .null] [] M Q := by
  have hB := hc.B
  have hL := hB.lay
  have hn := hc.len
  refine E_iload_n dX8_behind_0 rfl ?_
  refine E_iconst (v := -1) dX8_behind_1 (by decide) ?_
  refine E_kmax_m (gW_at 942 (by decide +kernel) (by decide +kernel)) dX8_behind_2 (by decide) (by exact Nat.le_of_ble_eq_true rfl) (by decide) (by omega) ?_
  refine E_iconst (v := nI 1) dX8_behind_5 (by decide) ?_
  refine E_iadd_n dX8_behind_6 ?_
  refine E_istore dX8_behind_7 (Nat.le_of_ble_eq_true rfl) (by decide) rfl ?_
  exact lp_X8_behind hc hf hk K (i + 1) (by omega) rfl
