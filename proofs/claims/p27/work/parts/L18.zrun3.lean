/-! the law: a run -/
def lkS (c : Cf) (lk : Int64) : Prop := ∀ s, s < 45 → lk >>> ((nI s).toInt64 &&& 63) &&& 1 = lN (cN c 140 s)
/-- a memory that has grown and differs in a region -/
def lR (S : Nat → Nat → Prop) (M M' : gM) : Prop := mN M ≤ mN M' ∧ (∀ a, a < mN M → mK M' a = mK M a) ∧ (∀ a j, a < mN M → ¬ S a j → mI M' a j = mI M a j) ∧ (∀ a j, a < mN M → mR M' a j = mR M a j) ∧ ∀ a j, a < mN M → mL M' a j = mL M a j
theorem lR.refl {S : Nat → Nat → Prop} {M : gM} : lR S M M := ⟨Nat.le_refl _, fun _ _ => rfl, fun _ _ _ _ => rfl, fun _ _ _ => rfl, fun _ _ _ => rfl⟩
theorem lR.trans {S : Nat → Nat → Prop} {M M' M'' : gM} (h : lR S M M') (h2 : lR S M' M'') : lR S M M'' :=
  ⟨Nat.le_trans h.1 h2.1, fun a q => (h2.2.1 a (Nat.lt_of_lt_of_le q h.1)).trans (h.2.1 a q), fun a j q z => (h2.2.2.1 a j (Nat.lt_of_lt_of_le q h.1) z).trans (h.2.2.1 a j q z), fun a j q => (h2.2.2.2.1 a j (Nat.lt_of_lt_of_le q h.1)).trans (h.2.2.2.1 a j q), fun a j q => (h2.2.2.2.2 a j (Nat.lt_of_lt_of_le q h.1)).trans (h.2.2.2.2 a j q)⟩
theorem lR.mono {S T : Nat → Nat → Prop} {M M' : gM} (h : lR S M M') (hs : ∀ a j, a < mN M → S a j → T a j) : lR T M M' := ⟨h.1, h.2.1, fun a j q z => h.2.2.1 a j q (fun y => z (hs a j q y)), h.2.2.2.1, h.2.2.2.2⟩
theorem lR.wr {S : Nat → Nat → Prop} {M M' : gM} (h : lR S M M') {a i : Nat} {v : Int32} (hs : a < mN M → S a i) : lR S M (sI M' a i v) :=
  ⟨h.1, h.2.1, fun b j q z => by rw [mI_sI, if_neg (fun y => z (by rw [y.1, y.2]; exact hs (by rw [← y.1]; exact q)))]; exact h.2.2.1 b j q z, h.2.2.2.1, h.2.2.2.2⟩
theorem lR.new {S : Nat → Nat → Prop} {M M' : gM} (h : lR S M M') {κ : Nat × Nat} : lR S M (mNew M' κ) := by
  have h1 := h.1
  refine ⟨by rw [mN_new]; omega, fun a q => ?_, fun a j q z => ?_, fun a j q => ?_, fun a j q => ?_⟩
  · rw [mK_new, if_neg (by omega)]; exact h.2.1 a q
  · rw [mI_new, if_neg (by omega)]; exact h.2.2.1 a j q z
  · rw [mR_new, if_neg (by omega)]; exact h.2.2.2.1 a j q
  · rw [mL_new, if_neg (by omega)]; exact h.2.2.2.2 a j q
theorem lR.lay {S : Nat → Nat → Prop} {M M' : gM} (h : lR S M M') (hL : gLay M) : gLay M' := hL.of h.1 h.2.1 (fun t q => h.2.2.2.1 _ _ (by have h139 : 139 ≤ mN M := hL.1; have := (gl_kT t q).2; omega))
theorem lR.Z {S : Nat → Nat → Prop} {M M' : gM} {c : Cf} (h : lR S M M') (hS : zS c M) (hs : ∀ a j, 128 ≤ a → a < 133 → (a = 132 → j < 5) → ¬ S a j) : zS c M' := by
  have h139 : 139 ≤ mN M := hS.lay.1
  exact hS.mvG (h.lay hS.lay) (fun a j q q2 q3 => h.2.2.1 a j (by omega) (hs a j q q2 q3)) (fun j => h.2.2.2.2 130 j (by omega))
def oP (p : Nat) (M : gM) : Prop := 133 ≤ p ∧ p + 5 < mN M ∧ (∀ q, q < 5 → mK M (p + q) = (13, 64)) ∧ mK M (p + 5) = (13, 62)
theorem oP.mv {S : Nat → Nat → Prop} {p : Nat} {M M' : gM} (h : oP p M) (hl : lR S M M') : oP p M' :=
  ⟨h.1, by have := h.2.1; have := hl.1; omega, fun q hq => by rw [hl.2.1 _ (by have := h.2.1; omega)]; exact h.2.2.1 q hq, by rw [hl.2.1 _ h.2.1]; exact h.2.2.2⟩
/-- a run's four new rows -/
abbrev nW (M : gM) : gM := mNew (mNew (mNew (mNew M (15, 64)) (13, 64)) (13, 64)) (13, 64)
theorem nW_R {S : Nat → Nat → Prop} {M : gM} : lR S M (nW M) := lR.refl.new.new.new.new
theorem nW_N (M : gM) : mN (nW M) = mN M + 4 := rfl
theorem nW_P (M : gM) (h : 139 ≤ mN M) : lP (nW M) (mN M) := ⟨h, by rw [nW_N]; omega, by rw [mK_new, if_neg (by rw [mN_new, mN_new, mN_new]; omega), mK_new, if_neg (by rw [mN_new, mN_new]; omega), mK_new, if_neg (by rw [mN_new]; omega), mK_new, if_pos rfl]⟩
theorem nW_W (M : gM) : lW (mN M) (nW M) := by
  refine ⟨⟨by rw [nW_N]; omega, ?_, ?_, ?_⟩, fun q j h1 h2 => ?_⟩
  · rw [mK_new, if_neg (by rw [mN_new, mN_new, mN_new]; omega), mK_new, if_neg (by rw [mN_new, mN_new]; omega), mK_new, if_pos (by rw [mN_new])]
  · rw [mK_new, if_neg (by rw [mN_new, mN_new, mN_new]; omega), mK_new, if_pos (by rw [mN_new, mN_new])]
  · rw [mK_new, if_pos (by rw [mN_new, mN_new, mN_new])]
  · rw [mI_new, mI_new, mI_new, mI_new, mN_new, mN_new, mN_new]
    (repeat' split) <;> first | rfl | (exfalso; omega)
theorem nW_O {p : Nat} {M : gM} (h : oP p M) : oK p (mN M) (nW M) := by
  have h2 : oP p (nW M) := h.mv (S := fun _ _ => False) nW_R
  exact ⟨h.1, h.2.1, by rw [nW_N]; omega, h2.2.2⟩
/-- what a run leaves, seen from ahead of its rows -/
theorem nW_F {p G : Nat} {M M' : gM} (h : pF (mN M) p G (nW M) M') : lR (rnO p G) M M' := by
  have hN : mN M' = mN M + 4 := by
    have e : mN M' = mN (nW M) := by unfold mN; rw [h.1]
    rw [e, nW_N]
  have hr := nW_R (S := rnO p G) (M := M)
  refine ⟨by omega, fun a q => ?_, fun a j q z => ?_, fun a j q => ?_, fun a j q => ?_⟩
  · have e : mK M' a = mK (nW M) a := by unfold mK; rw [h.1]
    rw [e]; exact hr.2.1 a q
  · rw [h.2.2.1 a j z (by omega)]; exact hr.2.2.1 a j q z
  · rw [h.2.1]; exact hr.2.2.2.1 a j q
  · rw [h.2.2.2 a j (by omega)]; exact hr.2.2.2.2 a j q
theorem jn_nw {c : Cf} {a b t : Nat} : nwL (jnd c a b t) := fun k hk => by
  have hk : k < t := by unfold jnd at hk; rw [mkL_len] at hk; exact hk
  unfold jnd
  rw [gat_mkL hk]
  exact nw_new
theorem jn_len {c : Cf} {a b t : Nat} : (jnd c a b t).length = t := mkL_len _ _
theorem clu_le (c : Cf) (a k : Nat) : clu c a k ≤ k := by
  have := rfd_le (P := fun j => a ≤ j ∧ ¬ cMk (cN c 141 j)) (k + 1)
  unfold clu
  by_cases e : rfd (fun j => a ≤ j ∧ ¬ cMk (cN c 141 j)) (k + 1) = 0
  · rw [cI_t e]; exact Nat.le_refl _
  · rw [cI_f e]; omega
set_option maxRecDepth 100000 in
set_option maxHeartbeats 4000000 in
theorem ta_L_runs {g : gG} {M : gM} {Q : Option Value ⊕ String → gM → Prop} {c : Cf} {s : Nat} {M0 : gM} {pw : Nat} {z : Int32} {L : List Gl} {lk : Int64} {v6 : Value} {a0 b0 p G : Nat} {left : Int32} (hs : s ≤ 1) (h : lX c (fcO c a0) M0 pw L (-1) z M) (hnw : nwL L) (hLe : L = r0 c s a0 b0) (hw : lW pw M0) (ho : oK p pw M0) (h8 : mI M0 132 8 = nI G) (hG : G ≤ 64) (K : rnK c M0 pw p G (jnO s) left (fcO c a0) (r4 c (fcO c a0) s a0 b0) z (plc c (fcO c a0) (r4 c (fcO c a0) s a0 b0)) Q) {x20 x21 : Int32} : ∀ v22 v23 v24 v25, E g 9 0 0 mL_runs 162 [.ref 129, .ref 130, .ref 131, .ref 132, .ref 133, .long lk, v6, .int (nI a0), .int (nI b0), .int left, .int (nI (jnO s)), .ref (p + 0 + 1), .ref (p + 1 + 1), .ref (p + 2 + 1), .ref (p + 3 + 1), .ref (p + 4 + 1), .ref (pw + 1), .ref (pw + 2), .ref (pw + 3), .ref (pw + 4), .int x20, .int x21, v22, v23, v24, v25] [] M Q := by
  intro v22 v23 v24 v25
  have hL := h.lay
  have hf := h.f2
  have hn := h.len
  have hct := h.ct
  have hjn := jnO_b s
  have hw2 := h.wf
  have hec := ecs_2 c (fcO c a0) (fun l => (mEn_b hw2 l).2.2.1) (cN c 129 (fcO c a0)) 0
  have fin : ∀ M z3 L3, lX c (fcO c a0) M0 pw L3 (-1) z3 M → (z3 = nI 1 ∨ z3 = z ∧ L3 = r3 c (fcO c a0) s a0 b0) → ∀ v21 v22 v23 v24 v25, E g 9 0 0 mL_runs 196 [.ref 129, .ref 130, .ref 131, .ref 132, .ref 133, .long lk, v6, .int (nI a0), .int (nI b0), .int left, .int (nI (jnO s)), .ref (p + 0 + 1), .ref (p + 1 + 1), .ref (p + 2 + 1), .ref (p + 3 + 1), .ref (p + 4 + 1), .ref (pw + 1), .ref (pw + 2), .ref (pw + 3), .ref (pw + 4), .int x20, v21, v22, v23, v24, v25] [] M Q := by
    intro M z3 L3 h hz v21 v22 v23 v24 v25
    refine sg_L_runs h hw ho h8 hG hjn (fun M' z' G' f1 f2 f3 f4 f5 f6 => K M' z' G' f1 f2 f3 f4 f5 ?_) _ _ _ _ _
    rcases hz with q | ⟨q1, q2⟩
    · rcases f6 with q3 | ⟨q3, -⟩
      · exact Or.inl q3
      · exact Or.inl (q3.trans q)
    · rcases f6 with q3 | ⟨q3, q4⟩
      · exact Or.inl q3
      · subst q2
        exact Or.inr ⟨q3.trans q1, q4⟩
  have mid : ∀ M z1 L1, lX c (fcO c a0) M0 pw L1 (-1) z1 M → bdE (3 ^ (0 + ecs c (fcO c a0) 0 0 (cN c 129 (fcO c a0)))) L1 → (z1 = nI 1 ∨ z1 = z ∧ L1 = r2 c (fcO c a0) s a0 b0) → ∀ v22 v23 v24 v25, E g 9 0 0 mL_runs 185 [.ref 129, .ref 130, .ref 131, .ref 132, .ref 133, .long lk, v6, .int (nI a0), .int (nI b0), .int left, .int (nI (jnO s)), .ref (p + 0 + 1), .ref (p + 1 + 1), .ref (p + 2 + 1), .ref (p + 3 + 1), .ref (p + 4 + 1), .ref (pw + 1), .ref (pw + 2), .ref (pw + 3), .ref (pw + 4), .int x20, .int x21, v22, v23, v24, v25] [] M Q := by
    intro M z1 L1 h hb hz v22 v23 v24 v25
    have hL := h.lay
    have hf := h.f2
    have hn := h.len
    have hct := h.ct
    refine E_aload dL_runs_185 rfl ?_
    refine E_aload_n dL_runs_187 rfl ?_
    refine E_aload_n dL_runs_188 rfl ?_
    refine E_aload_n dL_runs_189 rfl ?_
    refine E_aload dL_runs_190 rfl ?_
    refine E_iconst (v := nI 1) dL_runs_192 (by decide) ?_
    refine E_callT6 (fr' := 8) (k1 := 0) (n1 := 0) (k2 := 0) (n2 := 0) dL_runs_193 kO_L_stage kL_L_205 (by exact Nat.le_of_ble_eq_true rfl) (by decide) (by exact Nat.le_of_ble_eq_true rfl) (Or.inl rfl) rfl ?_
    refine sp_L_stage h (by decide) hb (by omega) (fun M z2 L2 h hb2 hz2 => ?_)
    have hL := h.lay
    have hz3 : z2 = nI 1 ∨ z2 = z ∧ L2 = r3 c (fcO c a0) s a0 b0 := by
      rcases hz2 with q | ⟨q1, q2⟩
      · exact Or.inl q
      · rcases hz with q3 | ⟨q3, q4⟩
        · exact Or.inl (q1.trans q3)
        · exact Or.inr ⟨q1.trans q3, by rw [q2, q4]; rfl⟩
    refine gKn ?_
    exact fin M z2 L2 h hz3 _ _ _ _ _
  refine E_aload dL_runs_162 rfl ?_
  refine E_aload_n dL_runs_164 rfl ?_
  refine E_aload_n dL_runs_165 rfl ?_
  refine E_aload_n dL_runs_166 rfl ?_
  refine E_aload dL_runs_167 rfl ?_
  refine E_iconst (v := nI 0) dL_runs_169 (by decide) ?_
  refine E_callT6 (fr' := 8) (k1 := 0) (n1 := 0) (k2 := 0) (n2 := 0) dL_runs_170 kO_L_stage kL_L_205 (by exact Nat.le_of_ble_eq_true rfl) (by decide) (by exact Nat.le_of_ble_eq_true rfl) (Or.inl rfl) rfl ?_
  refine sp_L_stage h (by decide) (nw_E hnw) (by omega) (fun M z1 L1 h hb hz => ?_)
  have hL := h.lay
  have hz1 : z1 = nI 1 ∨ z1 = z ∧ L1 = r1 c (fcO c a0) s a0 b0 := hz.imp id (fun q => ⟨q.1, by rw [q.2, hLe]; rfl⟩)
  refine gKn ?_
  refine E_iload dL_runs_173 rfl ?_
  refine E_if_ne_n (tgt := 185) dL_runs_175 (by decide) (by omega) (fun c_175 => ?_) (fun c_175 => ?_)
  · first
      | (have e0 : s = 0 := by
           refine Classical.byContradiction fun q => c_175 ?_
           exact cI_f q
         exact mid M z1 L1 h hb (hz1.imp id (fun q => ⟨q.1, by rw [q.2]; exact (cI_t e0).symm⟩)) _ _ _ _)
      | (have e0 : s = 0 := by
           refine Classical.byContradiction fun q => ?_
           have : jnO s = 0 := cI_f q
           omega
         exact mid M z1 L1 h hb (hz1.imp id (fun q => ⟨q.1, by rw [q.2]; exact (cI_t e0).symm⟩)) _ _ _ _)
      | (have e0 : ¬ s = 0 := fun q => by
           have : jnO s = 1 := cI_t q
           omega
         exact mid M z1 _ h hb (hz1.imp id (fun q => ⟨q.1, by rw [q.2]; exact (cI_f e0).symm⟩)) _ _ _ _)
  · refine E_aload dL_runs_178 rfl ?_
    refine E_aload dL_runs_180 rfl ?_
    refine E_callT2 (fr' := 2) (k1 := 0) (n1 := 0) (k2 := 0) (n2 := 0) dL_runs_182 kO_L_move kL_L_209 (by exact Nat.le_of_ble_eq_true rfl) (by decide) (by exact Nat.le_of_ble_eq_true rfl) (Or.inl rfl) rfl ?_
    refine sp_L_move h hb (fun M h hb => ?_)
    have hL := h.lay
    refine gKn ?_
    first
      | (have e0 : s = 0 := by
           refine Classical.byContradiction fun q => c_175 ?_
           exact cI_f q
         exact mid M z1 L1 h hb (hz1.imp id (fun q => ⟨q.1, by rw [q.2]; exact (cI_t e0).symm⟩)) _ _ _ _)
      | (have e0 : s = 0 := by
           refine Classical.byContradiction fun q => ?_
           have : jnO s = 0 := cI_f q
           omega
         exact mid M z1 L1 h hb (hz1.imp id (fun q => ⟨q.1, by rw [q.2]; exact (cI_t e0).symm⟩)) _ _ _ _)
      | (have e0 : ¬ s = 0 := fun q => by
           have : jnO s = 1 := cI_t q
           omega
         exact mid M z1 _ h hb (hz1.imp id (fun q => ⟨q.1, by rw [q.2]; exact (cI_f e0).symm⟩)) _ _ _ _)
set_option maxRecDepth 100000 in
set_option maxHeartbeats 4000000 in
theorem jl_L_runs {g : gG} {Q : Option Value ⊕ String → gM → Prop} {c : Cf} {f : Nat} {M0 : gM} {pw : Nat} {z : Int32} {lk : Int64} {v6 : Value} {a0 b0 p G : Nat} {left : Int32} (hbt : b0 ≤ tl c) (K : ∀ M x20 x21, lX c f M0 pw (jnd c a0 b0 (b0 - a0)) (-1) z M → ∀ v22 v23 v24 v25, E g 9 0 0 mL_runs 162 [.ref 129, .ref 130, .ref 131, .ref 132, .ref 133, .long lk, v6, .int (nI a0), .int (nI b0), .int left, .int (nI 1), .ref (p + 0 + 1), .ref (p + 1 + 1), .ref (p + 2 + 1), .ref (p + 3 + 1), .ref (p + 4 + 1), .ref (pw + 1), .ref (pw + 2), .ref (pw + 3), .ref (pw + 4), .int x20, .int x21, v22, v23, v24, v25] [] M Q) : ∀ k, k ≤ b0 → a0 ≤ k → ∀ M v22 v23 v24 v25, lX c f M0 pw (jnd c a0 b0 (k - a0)) (-1) z M → E g 9 0 0 mL_runs 60 [.ref 129, .ref 130, .ref 131, .ref 132, .ref 133, .long lk, v6, .int (nI a0), .int (nI b0), .int left, .int (nI 1), .ref (p + 0 + 1), .ref (p + 1 + 1), .ref (p + 2 + 1), .ref (p + 3 + 1), .ref (p + 4 + 1), .ref (pw + 1), .ref (pw + 2), .ref (pw + 3), .ref (pw + 4), .int (dI (rfd (fun j => a0 ≤ j ∧ ¬ cMk (cN c 141 j)) k)), .int (nI k), v22, v23, v24, v25] [] M Q := by
  refine lpUp b0 (fun k hk ih => ?_)
  intro hak M v22 v23 v24 v25 h
  have hL := h.lay
  have hf := h.f2
  have hn := h.len
  have hct := h.ct
  have ht10 := h.S.t10
  have hx9 := tEn_b h.wf k
  have nxt : k < b0 → E g 9 0 0 mL_runs 89 [.ref 129, .ref 130, .ref 131, .ref 132, .ref 133, .long lk, v6, .int (nI a0), .int (nI b0), .int left, .int (nI 1), .ref (p + 0 + 1), .ref (p + 1 + 1), .ref (p + 2 + 1), .ref (p + 3 + 1), .ref (p + 4 + 1), .ref (pw + 1), .ref (pw + 2), .ref (pw + 3), .ref (pw + 4), .int (dI (rfd (fun j => a0 ≤ j ∧ ¬ cMk (cN c 141 j)) (k + 1))), .int (nI k), v22, v23, v24, v25] [] M Q := by
    intro hkb
    have hsg := sgZ_gl (h.S.sg (k := k) (by omega))
    have hx1 := glZ_256 hsg
    have hx2 := tEn_b h.wf k
    have hcl := clu_le c a0 k
    have hjl : (jnd c a0 b0 (k - a0)).length = k - a0 := jn_len
    have hnk : okZ (newG (cN c 141 k) (clu c a0 k) (cN c 142 k) (frm c a0 b0 k)) := okZ_new hsg (by omega) (by omega) (frm_ok c a0 b0 k)
    have hrl := rfd_le (P := fun j => a0 ≤ j ∧ ¬ cMk (cN c 141 j)) (k + 1)
    have eC : ∀ x : Int32, x = nI (clu c a0 k) → x = nI (clu c a0 k) := fun _ q => q
    have eJ : addL (jnd c a0 b0 (k - a0)) (newG (cN c 141 k) (clu c a0 k) (cN c 142 k) (frm c a0 b0 k)) = jnd c a0 b0 (k + 1 - a0) := by
      rw [show k + 1 - a0 = k - a0 + 1 by omega]
      exact addL_mk (by rw [show a0 + (k - a0) = k by omega])
    have go : ∀ q, q = clu c a0 k → E g 9 0 0 mL_runs 116 [.ref 129, .ref 130, .ref 131, .ref 132, .ref 133, .long lk, v6, .int (nI a0), .int (nI b0), .int left, .int (nI 1), .ref (p + 0 + 1), .ref (p + 1 + 1), .ref (p + 2 + 1), .ref (p + 3 + 1), .ref (p + 4 + 1), .ref (pw + 1), .ref (pw + 2), .ref (pw + 3), .ref (pw + 4), .int (dI (rfd (fun j => a0 ≤ j ∧ ¬ cMk (cN c 141 j)) (k + 1))), .int (nI k), v22, v23, v24, v25] [.int (nI q), .int (nI (cN c 141 k)), .int (nI (jnd c a0 b0 (k - a0)).length), .ref 133, .ref (pw + 1)] M Q := by
      intro q hq
      rw [hq]
      refine E_aload_n dL_runs_116 rfl ?_
      refine E_iload dL_runs_117 rfl ?_
      refine E_iload dL_runs_119 rfl ?_
      refine E_iload dL_runs_121 rfl ?_
      refine E_callT4 (fr' := 2) (k1 := 0) (n1 := 0) (k2 := 0) (n2 := 0) dL_runs_123 kO_L_formed kL_L_198 (by exact Nat.le_of_ble_eq_true rfl) (by decide) (by exact Nat.le_of_ble_eq_true rfl) (Or.inl rfl) rfl ?_
      refine sp_L_formed h.S hak hkb hbt ?_
      refine gKv ?_
      refine E_aload_n dL_runs_126 rfl ?_
      refine E_iload dL_runs_127 rfl ?_
      refine E_ialdL (v := nI (tEn _ _)) dL_runs_129 (l_128 hL) (k_128 hL) rfl (by omega) (by decide) (h.tx (by omega)) ?_
      refine E_bipush (v := nI 6) dL_runs_130 (by decide) ?_
      refine E_ishr dL_runs_132 ?_
      rw [tE_6 h.wf]
      refine E_callT4 (fr' := 1) (k1 := 0) (n1 := 0) (k2 := 0) (n2 := 0) dL_runs_133 kO_L_packed kL_L_185 (by exact Nat.le_of_ble_eq_true rfl) (by decide) (by exact Nat.le_of_ble_eq_true rfl) (Or.inl rfl) rfl ?_
      have hfc := frC_lt c a0 b0 k
      refine sp_L_packed (form := frm c a0 b0 k) hx1 (by omega) (by omega) (by omega) (frC_frm c a0 b0 k) ?_
      refine gKv ?_
      refine E_callT4 (fr' := 1) (k1 := 0) (n1 := 0) (k2 := 0) (n2 := 0) dL_runs_136 kO_L_put kL_L_136 (by exact Nat.le_of_ble_eq_true rfl) (by decide) (by exact Nat.le_of_ble_eq_true rfl) (Or.inl rfl) rfl ?_
      refine sp_L_put h (Nat.le_refl _) (by omega) hnk (fun M h => ?_)
      rw [wPt_m (by omega), ins_add, eJ] at h
      have hL := h.lay
      refine gKn ?_
      refine E_iinc_n (d := 1) dL_runs_139 rfl rfl rfl (by decide) rfl ?_
      refine E_goto (tgt := 60) dL_runs_142 (by decide) ?_
      exact ih hkb (by omega) M _ _ _ _ h
    refine E_aload dL_runs_89 rfl ?_
    refine E_aload dL_runs_91 rfl ?_
    refine E_aload dL_runs_93 rfl ?_
    refine E_iconst (v := nI 5) dL_runs_95 (by decide) ?_
    refine E_ialdL (v := nI (List.length _)) dL_runs_96 (l_132 hL) (k_132 hL) rfl (by omega) (by decide) h.a5 ?_
    refine E_aload_n dL_runs_97 rfl ?_
    refine E_iload dL_runs_98 rfl ?_
    refine E_ialdL (v := nI (tEn _ _)) dL_runs_100 (l_128 hL) (k_128 hL) rfl (by omega) (by decide) (h.tx (by omega)) ?_
    refine E_bipush (v := nI 63) dL_runs_101 (by decide) ?_
    refine E_iand dL_runs_103 ?_
    rw [tE_63 h.wf]
    refine E_iload dL_runs_104 rfl ?_
    refine E_if_ge_d (tgt := 114) dL_runs_106 (by decide) (by omega) (fun c_106 => ?_) (fun c_106 => ?_)
    · refine E_iload dL_runs_114 rfl ?_
      first
        | exact go k (show k = clu c a0 k from (cI_t (by omega)).symm)
        | (have hgo := go ((rfd (fun j => a0 ≤ j ∧ ¬ cMk (cN c 141 j)) (k + 1)) - 1) (show _ = clu c a0 k from (cI_f (by omega)).symm)
           rw [← dI_succ ((rfd (fun j => a0 ≤ j ∧ ¬ cMk (cN c 141 j)) (k + 1)) - 1), Nat.sub_add_cancel (by omega)] at hgo
           exact hgo)
    · refine E_iload dL_runs_109 rfl ?_
      refine E_goto (tgt := 116) dL_runs_111 (by decide) ?_
      first
        | exact go k (show k = clu c a0 k from (cI_t (by omega)).symm)
        | (have hgo := go ((rfd (fun j => a0 ≤ j ∧ ¬ cMk (cN c 141 j)) (k + 1)) - 1) (show _ = clu c a0 k from (cI_f (by omega)).symm)
           rw [← dI_succ ((rfd (fun j => a0 ≤ j ∧ ¬ cMk (cN c 141 j)) (k + 1)) - 1), Nat.sub_add_cancel (by omega)] at hgo
           exact hgo)
  refine E_iload dL_runs_60 rfl ?_
  refine E_iload dL_runs_62 rfl ?_
  refine E_icmp_ge_n (tgt := 145) dL_runs_64 (by decide) (by omega) (by omega) (fun c_64 => ?_) (fun c_64 => ?_)
  · obtain rfl : k = b0 := by omega
    refine E_iload dL_runs_145 rfl ?_
    refine E_if_ne (tgt := 162) dL_runs_147 (by decide) (fun _ => ?_) (fun c0 => absurd (by decide) c0)
    exact K M _ _ h _ _ _ _
  · refine E_iload dL_runs_67 rfl ?_
    refine E_if_eq (tgt := 145) dL_runs_69 (by decide) (fun c0 => absurd c0 (by decide)) (fun _ => ?_)
    refine E_aload_n dL_runs_72 rfl ?_
    refine E_iload dL_runs_73 rfl ?_
    refine E_ialdL (v := nI (tEn _ _)) dL_runs_75 (l_128 hL) (k_128 hL) rfl (by omega) (by decide) (h.tx (by omega)) ?_
    refine E_bipush (v := nI 63) dL_runs_76 (by decide) ?_
    refine E_iand dL_runs_78 ?_
    rw [tE_63 h.wf]
    refine E_callT1 (fr' := 1) (k1 := 0) (n1 := 0) (k2 := 0) (n2 := 0) dL_runs_79 kO_L_markSign kL_L_172 (by exact Nat.le_of_ble_eq_true rfl) (by decide) (by exact Nat.le_of_ble_eq_true rfl) (Or.inl rfl) rfl ?_
    refine sp_L_markSign (by omega) ?_
    refine gKv ?_
    refine E_if_ne_b (tgt := 89) dL_runs_82 (by decide) (fun c_82 => ?_) (fun c_82 => ?_)
    · have hP := h
      first
        | (have e0 : (rfd (fun j => a0 ≤ j ∧ ¬ cMk (cN c 141 j)) (k + 1)) = (rfd (fun j => a0 ≤ j ∧ ¬ cMk (cN c 141 j)) k) := rfd_f (fun q => q.2 c_82)
           rw [e0] at nxt
           exact nxt (by omega))
        | (have e0 : (rfd (fun j => a0 ≤ j ∧ ¬ cMk (cN c 141 j)) (k + 1)) = k + 1 := rfd_t (P := fun j => a0 ≤ j ∧ ¬ cMk (cN c 141 j)) ⟨hak, c_82⟩
           rw [e0, dI_succ] at nxt
           exact nxt (by omega))
    · refine E_iload dL_runs_85 rfl ?_
      refine E_istore dL_runs_87 (Nat.le_of_ble_eq_true rfl) (by decide) rfl ?_
      have hP := h
      first
        | (have e0 : (rfd (fun j => a0 ≤ j ∧ ¬ cMk (cN c 141 j)) (k + 1)) = (rfd (fun j => a0 ≤ j ∧ ¬ cMk (cN c 141 j)) k) := rfd_f (fun q => q.2 c_82)
           rw [e0] at nxt
           exact nxt (by omega))
        | (have e0 : (rfd (fun j => a0 ≤ j ∧ ¬ cMk (cN c 141 j)) (k + 1)) = k + 1 := rfd_t (P := fun j => a0 ≤ j ∧ ¬ cMk (cN c 141 j)) ⟨hak, c_82⟩
           rw [e0, dI_succ] at nxt
           exact nxt (by omega))
set_option maxRecDepth 100000 in
set_option maxHeartbeats 4000000 in
theorem hd_L_runs {g : gG} {M : gM} {Q : Option Value ⊕ String → gM → Prop} {c : Cf} {s : Nat} {pw : Nat} {z : Int32} {lk : Int64} {v6 : Value} {a0 b0 p G : Nat} {left : Int32} (h : zS c M) (hlk : lkS c lk) (hab : a0 < b0) (hbt : b0 ≤ tl c) (hs : s ≤ 1) (hp : lP M pw) (hw : lW pw M) (ho : oK p pw M) (h8 : mI M 132 8 = nI G) (hG : G ≤ 64) (h10 : mI M 132 10 = z) (K : rnK c M pw p G (jnO s) left (fcO c a0) (r4 c (fcO c a0) s a0 b0) z (plc c (fcO c a0) (r4 c (fcO c a0) s a0 b0)) Q) : E g 9 0 0 mL_runs 24 [.ref 129, .ref 130, .ref 131, .ref 132, .ref 133, .long lk, v6, .int (nI a0), .int (nI b0), .int left, .int (nI (jnO s)), .ref (p + 0 + 1), .ref (p + 1 + 1), .ref (p + 2 + 1), .ref (p + 3 + 1), .ref (p + 4 + 1), .ref (pw + 1), .ref (pw + 2), .ref (pw + 3), .ref (pw + 4), .null, .null, .null, .null, .null, .null] [] M Q := by
  have hL := h.lay
  have ht10 := h.t10
  have hf2 : (fcO c a0) < 2 := by have := fcO_b h.wf a0; omega
  have hsg := sgZ_gl (h.sg (k := a0) (by omega))
  have hx9 := tEn_b h.wf a0
  have hX : ∀ M1, M1 = sI (sI (sI M 132 5 (nI 0)) 132 6 (nI (fcO c a0))) 132 7 (-1) → lX c (fcO c a0) M pw [] (-1) z M1 := fun M1 e => by
    subst e
    exact ⟨⟨⟨h, hf2, hp⟩, ((zf_.refl.wr (by unfold zR; omega)).wr (by unfold zR; omega)).wr (by unfold zR; omega), (mI_nj (by decide)).trans ((mI_nj (by decide)).trans mI_eq), (mI_nj (by decide)).trans mI_eq, mI_eq, (mI_nj (by decide)).trans ((mI_nj (by decide)).trans ((mI_nj (by decide)).trans h10)), fun i x hx => by cases hx⟩, Nat.zero_le _, fun x hx => by cases hx⟩
  refine E_aload dL_runs_24 rfl ?_
  refine E_iconst (v := nI 5) dL_runs_26 (by decide) ?_
  refine E_iconst (v := nI 0) dL_runs_27 (by decide) ?_
  refine E_iast dL_runs_28 (l_132 hL) (k_132 hL) rfl (by omega) (by decide) ?_
  refine E_aload dL_runs_29 rfl ?_
  refine E_bipush (v := nI 6) dL_runs_31 (by decide) ?_
  refine E_lload dL_runs_33 rfl ?_
  refine E_aload_n dL_runs_35 rfl ?_
  refine E_iload dL_runs_36 rfl ?_
  refine E_ialdL (v := nI (tEn _ _)) dL_runs_38 (l_128 hL) (k_128 hL) rfl (by omega) (by decide) ((mI_ne (by decide)).trans (h.tx (by omega))) ?_
  refine E_bipush (v := nI 63) dL_runs_39 (by decide) ?_
  refine E_iand dL_runs_41 ?_
  rw [tE_63 h.wf]
  refine E_lshr dL_runs_42 ?_
  refine E_lconst (v := 1) dL_runs_43 (by decide) ?_
  refine E_land dL_runs_44 ?_
  rw [hlk _ (by omega)]
  refine E_l2i dL_runs_45 ?_
  rw [lN_i]
  refine E_iast dL_runs_46 (l_132 hL) (k_132 hL) rfl (by omega) (by decide) ?_
  refine E_aload dL_runs_47 rfl ?_
  refine E_bipush (v := nI 7) dL_runs_49 (by decide) ?_
  refine E_iconst (v := -1) dL_runs_51 (by decide) ?_
  refine E_iast dL_runs_52 (l_132 hL) (k_132 hL) rfl (by omega) (by decide) ?_
  refine E_iconst (v := -1) dL_runs_53 (by decide) ?_
  refine E_istore dL_runs_54 (Nat.le_of_ble_eq_true rfl) (by decide) rfl ?_
  refine E_iload dL_runs_56 rfl ?_
  refine E_istore dL_runs_58 (Nat.le_of_ble_eq_true rfl) (by decide) rfl ?_
  have hx := hX (sI (sI (sI M 132 5 (nI 0)) 132 6 (nI (cN c 140 (cN c 141 a0)))) 132 7 (-1)) rfl
  generalize sI (sI (sI M 132 5 (nI 0)) 132 6 (nI (cN c 140 (cN c 141 a0)))) 132 7 (-1) = M1 at hx ⊢
  have h := hx
  by_cases e : s = 0
  · have ej : jnO s = 1 := cI_t e
    have er : r0 c s a0 b0 = jnd c a0 b0 (b0 - a0) := cI_t e
    have hta := fun M x20 x21 h => ta_L_runs (left := left) (lk := lk) (v6 := v6) (x20 := x20) (x21 := x21) (g := g) (M := M) (Q := Q) hs h jn_nw er.symm hw ho h8 hG K
    rw [ej] at hta ⊢
    have e1 : (rfd (fun j => a0 ≤ j ∧ ¬ cMk (cN c 141 j)) a0) = 0 := rfd_eq (Nat.zero_le _) (fun j q => by omega) (fun j _ q z => by have := z.1; omega)
    have e2 : jnd c a0 b0 (a0 - a0) = [] := by rw [Nat.sub_self]; rfl
    have hjl := jl_L_runs (G := G) (g := g) (Q := Q) (pw := pw) (f := (fcO c a0)) (z := z) (M0 := M) (lk := lk) (v6 := v6) (p := p) (left := left) hbt hta a0 (by omega) (Nat.le_refl _) M1
    rw [e1, e2, dI_0] at hjl
    exact hjl _ _ _ _ hx
  · have ej : jnO s = 0 := cI_f e
    have er : r0 c s a0 b0 = sys c b0 (b0 - a0) a0 [] := cI_f e
    have hta := fun M L x20 x21 h hn hLe => ta_L_runs (left := left) (lk := lk) (v6 := v6) (x20 := x20) (x21 := x21) (g := g) (M := M) (Q := Q) (L := L) hs h hn (Eq.trans hLe er.symm) hw ho h8 hG K
    rw [ej] at hta ⊢
    have hL := h.lay
    refine E_iload dL_runs_60 rfl ?_
    refine E_iload dL_runs_62 rfl ?_
    refine E_icmp_ge_n (tgt := 145) dL_runs_64 (by decide) (by omega) (by omega) (fun c_64 => ?_) (fun c_64 => ?_)
    · refine E_iload dL_runs_145 rfl ?_
      refine E_if_ne (tgt := 162) dL_runs_147 (by decide) (fun c0 => absurd c0 (by decide)) (fun _ => ?_)
      refine E_aload dL_runs_150 rfl ?_
      refine E_aload_n dL_runs_152 rfl ?_
      refine E_aload dL_runs_153 rfl ?_
      refine E_iload dL_runs_155 rfl ?_
      refine E_iload dL_runs_157 rfl ?_
      refine E_callT5 (fr' := 3) (k1 := 0) (n1 := 0) (k2 := 0) (n2 := 0) dL_runs_159 kO_L_syllables kL_L_201 (by exact Nat.le_of_ble_eq_true rfl) (by decide) (by exact Nat.le_of_ble_eq_true rfl) (Or.inl rfl) rfl ?_
      refine sp_L_syllables h hbt (by omega) (fun k hk => absurd hk (Nat.not_lt_zero k)) (by show 0 + 2 * (b0 - a0) ≤ 60; omega) (fun M h hn => ?_)
      have hL := h.lay
      refine gKn ?_
      exact hta M _ _ _ h hn rfl _ _ _ _
    · refine E_iload dL_runs_67 rfl ?_
      refine E_if_eq (tgt := 145) dL_runs_69 (by decide) (fun _ => ?_) (fun c0 => absurd (by decide) c0)
      refine E_iload dL_runs_145 rfl ?_
      refine E_if_ne (tgt := 162) dL_runs_147 (by decide) (fun c0 => absurd c0 (by decide)) (fun _ => ?_)
      refine E_aload dL_runs_150 rfl ?_
      refine E_aload_n dL_runs_152 rfl ?_
      refine E_aload dL_runs_153 rfl ?_
      refine E_iload dL_runs_155 rfl ?_
      refine E_iload dL_runs_157 rfl ?_
      refine E_callT5 (fr' := 3) (k1 := 0) (n1 := 0) (k2 := 0) (n2 := 0) dL_runs_159 kO_L_syllables kL_L_201 (by exact Nat.le_of_ble_eq_true rfl) (by decide) (by exact Nat.le_of_ble_eq_true rfl) (Or.inl rfl) rfl ?_
      refine sp_L_syllables h hbt (by omega) (fun k hk => absurd hk (Nat.not_lt_zero k)) (by show 0 + 2 * (b0 - a0) ≤ 60; omega) (fun M h hn => ?_)
      have hL := h.lay
      refine gKn ?_
      exact hta M _ _ _ h hn rfl _ _ _ _
def rnQ (c : Cf) (M : gM) (p G s : Nat) (left : Int32) (f : Nat) (L : List Gl) (z : Int32) (Q : Option Value ⊕ String → gM → Prop) : Prop := ∀ M' z' G', lR (rnO p G) M M' → zS c M' → mI M' 132 8 = nI G' → (G ≤ G' ∧ G' ≤ 64) → mI M' 132 10 = z' → (z' = nI 1 ∨ z' = z ∧ G' = G + L.length ∧ (okZL L ∧ onZ (plc c f L) L.length) ∧ mI M' 132 11 = smA (plc c f L) L.length ∧ lG p G L (stB c f s left L) L.length M') → Q (.inl none) M'
set_option maxRecDepth 100000 in
set_option maxHeartbeats 4000000 in
theorem sp_L_runs {g : gG} {M : gM} {Q : Option Value ⊕ String → gM → Prop} {c : Cf} {s : Nat} {z : Int32} {lk : Int64} {a0 b0 p G : Nat} {left : Int32} (h : zS c M) (hlk : lkS c lk) (hab : a0 < b0) (hbt : b0 ≤ tl c) (hs : s ≤ 1) (hP : oP p M) (h8 : mI M 132 8 = nI G) (hG : G ≤ 64) (h10 : mI M 132 10 = z) (K : rnQ c M p G s left (fcO c a0) (r4 c (fcO c a0) s a0 b0) z Q) : E g 9 4 256 mL_runs 0 [.ref 129, .ref 130, .ref 131, .ref 132, .ref 133, .long lk, .null, .int (nI a0), .int (nI b0), .int left, .int (nI (jnO s)), .ref (p + 0 + 1), .ref (p + 1 + 1), .ref (p + 2 + 1), .ref (p + 3 + 1), .ref (p + 4 + 1), .null, .null, .null, .null, .null, .null, .null, .null, .null, .null] [] M Q := by
  have hL := h.lay
  have h139 : 139 ≤ mN M := hL.1
  refine E_bipush (v := nI 64) dL_runs_0 (by decide) ?_
  refine E_newL (len := 64) (k := 3) (n := 192) dL_runs_2 (gW_at 1221 (by decide +kernel) (by decide +kernel)) rfl (by decide) ?_
  refine E_astore dL_runs_4 (Nat.le_of_ble_eq_true rfl) (by decide) rfl ?_
  refine E_bipush (v := nI 64) dL_runs_6 (by decide) ?_
  refine E_newI (len := 64) (k := 2) (n := 128) dL_runs_8 (gW_at 92 (by decide +kernel) (by decide +kernel)) rfl (by decide) ?_
  refine E_astore dL_runs_10 (Nat.le_of_ble_eq_true rfl) (by decide) rfl ?_
  refine E_bipush (v := nI 64) dL_runs_12 (by decide) ?_
  refine E_newI (len := 64) (k := 1) (n := 64) dL_runs_14 (gW_at 92 (by decide +kernel) (by decide +kernel)) rfl (by decide) ?_
  refine E_astore dL_runs_16 (Nat.le_of_ble_eq_true rfl) (by decide) rfl ?_
  refine E_bipush (v := nI 64) dL_runs_18 (by decide) ?_
  refine E_newI (len := 64) (k := 0) (n := 0) dL_runs_20 (gW_at 92 (by decide +kernel) (by decide +kernel)) rfl (by decide) ?_
  refine E_astore dL_runs_22 (Nat.le_of_ble_eq_true rfl) (by decide) rfl ?_
  have hR := nW_R (S := fun _ _ => False) (M := M)
  have hS : zS c (nW M) := hR.Z h (fun _ _ _ _ _ q => q)
  exact hd_L_runs (M := nW M) (pw := mN M) hS hlk hab hbt hs (nW_P M h139) (nW_W M) (nW_O hP) ((hR.2.2.1 132 8 (by omega) (fun q => q)).trans h8) hG ((hR.2.2.1 132 10 (by omega) (fun q => q)).trans h10) (fun M' z' G' f1 f2 f3 f4 f5 f6 => K M' z' G' (nW_F f1) f2 f3 f4 f5 f6)
