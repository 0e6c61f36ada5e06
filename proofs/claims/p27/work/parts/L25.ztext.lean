/-! the law: what the class holds where the law writes -/
def kC (c : Cf) (P : Nat → Nat) (n : Nat) : Prop := 139 ≤ n ∧ ∀ f j, f < 2 → j < cN c 129 f → P (12 * f + j) + 11 ≤ n
theorem kS.C {c : Cf} {P π : Nat → Nat} {M : gM} (h : kS c P π M) : kC c P (mN M) := ⟨h.1.lay.1, fun f j hf hj => (h.1.kl hf hj).1.2.1⟩
theorem kC.up {c : Cf} {P : Nat → Nat} {n m : Nat} (h : kC c P n) (q : n ≤ m) : kC c P m := ⟨by have := h.1; omega, fun f j hf hj => by have := h.2 f j hf hj; omega⟩
theorem kLk.law {c : Cf} {M M' : gM} {l p n : Nat} (h : kLk c M l p) (h8 : cN c 135 l ≤ 8) (hp : p + 11 ≤ n) (hN : n ≤ mN M') (hk : ∀ a, a < n → mK M' a = mK M a) (hi : ∀ a j, a < n → ¬ (128 ≤ a ∧ a ≤ 138) → mI M' a j = mI M a j) (hr : ∀ a j, a < n → mR M' a j = mR M a j) : kLk c M' l p := by
  have h' : kLk c (((n, M.1.2), M.2) : gM) l p := ⟨⟨h.1.1, hp, h.1.2.2⟩, h.2⟩
  exact h'.mv h8 hN (fun a q => hk a q) (fun a j q1 q => hi a j q (by omega)) (fun a j _ q => hr a j q)
theorem kS.law {c : Cf} {P π : Nat → Nat} {M M' : gM} {n : Nat} (h : kS c P π M) (hc : kC c P n) (hN : n ≤ mN M') (hk : ∀ a, a < n → mK M' a = mK M a) (hi : ∀ a j, a < n → ¬ (128 ≤ a ∧ a ≤ 138) → mI M' a j = mI M a j) (hr : ∀ a j, a < n → mR M' a j = mR M a j) : kS c P π M' := by
  have h139 : 139 ≤ n := hc.1
  have hB : kB c P M := h.1
  have hL : gLay M' := by
    have h1 := hB.lay
    have h' : gLay (((n, M.1.2), M.2) : gM) := ⟨hc.1, h1.2.1, h1.2.2⟩
    exact h'.of hN hk (fun t q => hr _ _ (by have := (gl_kT t q).2; omega))
  have hB' : kB c P M' := by
    refine ⟨hL, hB.wf, (hi _ _ (by omega) (by omega)).trans hB.used, ⟨fun j hj => ⟨(hi _ _ (by omega) (by omega)).trans (hB.sg hj), (hi _ _ (by omega) (by omega)).trans (hB.ex hj)⟩, fun j hj => (hi _ _ (by omega) (by omega)).trans (hB.lk hj), (hi _ _ (by omega) (by omega)).trans hB.len, (hi _ _ (by omega) (by omega)).trans hB.tng⟩, fun f hf => ?_, hB.2.2.2.2.2⟩
    refine ⟨(hi _ _ (by unfold fb; omega) (by unfold fb; omega)).trans (hB.fcnt hf), fun q hq => ⟨(hi _ _ (by unfold fb; omega) (by unfold fb; omega)).trans (hB.fmk hf hq), (hi _ _ (by unfold fb; omega) (by unfold fb; omega)).trans (hB.fgr hf hq), (hi _ _ (by unfold fb; omega) (by unfold fb; omega)).trans (hB.fwd hf hq)⟩, fun j hj => ⟨(hr _ _ (by unfold fb; omega)).trans (hB.flk hf hj), (hB.kl hf hj).law (hB.wf.lk _).2.2.2.2.2 (hc.2 f j hf hj) hN hk hi hr⟩⟩
  refine ⟨hB', ⟨fun i q => ⟨(h.2.1.1 i q).1, (hr 7 i (by omega)).trans (h.2.1.1 i q).2⟩, h.2.1.2⟩, ?_⟩
  rcases h.2.2 with ⟨q1, q2⟩ | q1
  · refine Or.inl ⟨(hi _ _ (by omega) (by omega)).trans q1, ?_⟩
    have hf : kf (fun a _ => 128 ≤ a) (fun a _ => 128 ≤ a) M ((M.1, (M'.2.1, (M.2.2.1, M'.2.2.2))) : gM) :=
      ⟨rfl, rfl, fun a j z => hi a j (by omega) (by omega), fun a j z => hr a j (by omega)⟩
    have g1 := q2.1.mv hf (fun x j z => by omega)
    have g2 := q2.2.mv hf (fun x j z => by omega)
    exact ⟨g1, g2⟩
  · exact Or.inr ((hi _ _ (by omega) (by omega)).trans q1)
/-! the law: the text -/
theorem m1_ne {a : Nat} (h : a < 2 ^ 20) : ¬ nI a = -1 := fun q => by
  rw [← dI_0] at q
  have := (dI_eqn (by omega) (by omega)).mp q.symm
  omega
theorem frC_12 (c : Cf) (a b p : Nat) : (frm c a b p = nI 1 ∨ frm c a b p = nI 2) ↔ (frC c a b p = 1 ∨ frC c a b p = 2) := by
  rcases frC_frm c a b p with ⟨h1, h2⟩ | ⟨h1, h2⟩
  · rw [h1, h2]
    exact ⟨fun q => q.elim (fun q => absurd q.symm (nI_ne100 (by decide))) (fun q => absurd q.symm (nI_ne100 (by decide))), fun q => by omega⟩
  · rw [h2, nI_eq (by omega) (by decide), nI_eq (by omega) (by decide)]
theorem frC_jon {c : Cf} {a b p : Nat} (h : frC c a b p = 1 ∨ frC c a b p = 2) : jon c b p < b := by
  unfold frC at h
  by_cases e : 10 ≤ cN c 141 p ∧ cN c 141 p ≤ 20
  · rw [cI_t e] at h
    by_cases e2 : cBo (cN c 141 p) ∧ joP c b p
    · exact e2.2.1
    · rw [cI_f e2, cI_f e2] at h
      exfalso
      by_cases e3 : ¬ cN c 141 p = 19 ∧ jfP c a p
      · rw [cI_t e3] at h; omega
      · rw [cI_f e3] at h; omega
  · rw [cI_f e] at h; omega
theorem ru_e {c : Cf} (hw : WFc c) {p q : Nat} (hp : p < tl c) (h1 : tn c (ru c p) ≤ q) (h2 : q < tn c (ru c p + 1)) : ru c q = ru c p := by
  have hru := ru_b hw hp
  refine fnd_eq (Nat.zero_le _) (Nat.le_of_lt hru.1) (fun _ => h2) (fun j _ hj => ?_)
  have hm := rn_m (c := c) (a := 0) (b := tl c) (Nat.zero_le _) (show j + 1 ≤ ru c p by omega) (show ru c p ≤ nr c 0 (tl c) from Nat.le_of_lt hru.1)
  have hm : tn c (j + 1) ≤ tn c (ru c p) := hm
  omega
/-- the nearest sign so far -/
def hbR (c : Cf) (x : Int32) (k b : Nat) (to : Int32) : Prop := (htS c x k).1 = clV b ∧ (0 < b → (htS c x k).2 = to) ∧ b ≤ k
theorem hbR_0 (c : Cf) (x : Int32) : hbR c x 0 0 (nI 0) := ⟨(cI_t rfl).symm, fun q => by omega, Nat.le_refl _⟩
theorem hbR_s {c : Cf} {x to far : Int32} {k b : Nat} (h : hbR c x k b to) (hk : k < 1000) (hf : far = htD x (crt c k)) : ((b = 0 ∨ far < to) → hbR c x (k + 1) (k + 1) far) ∧ (¬ (b = 0 ∨ far < to) → hbR c x (k + 1) b to) := by
  obtain ⟨h1, h2, h3⟩ := h
  have e1 : (htS c x k).1 = -100 ↔ b = 0 := by
    rw [h1]
    unfold clV
    by_cases e : b = 0
    · rw [cI_t e]; exact ⟨fun _ => e, fun _ => rfl⟩
    · rw [cI_f e]; exact ⟨fun q => absurd q (nI_ne100 (by omega)), fun q => absurd q e⟩
  have es : htS c x (k + 1) = cI ((htS c x k).1 = -100 ∨ htD x (crt c k) < (htS c x k).2) (nI k, htD x (crt c k)) (htS c x k) := rfl
  have ec : ((htS c x k).1 = -100 ∨ htD x (crt c k) < (htS c x k).2) ↔ (b = 0 ∨ far < to) := by
    rw [e1, ← hf]
    by_cases e : b = 0
    · exact ⟨fun _ => Or.inl e, fun _ => Or.inl e⟩
    · rw [h2 (by omega)]
  refine ⟨fun q => ?_, fun q => ?_⟩
  · unfold hbR
    rw [es, cI_t (ec.mpr q), ← hf]
    exact ⟨by unfold clV; rw [cI_f (by omega)]; rfl, fun _ => rfl, Nat.le_refl _⟩
  · unfold hbR
    rw [es, cI_f (fun z => q (ec.mp z))]
    exact ⟨h1, h2, by omega⟩
theorem htD_l {x v : Int32} : (v < x → x - v = htD x v) ∧ (¬ v < x → v - x = htD x v) := by
  unfold htD
  refine ⟨fun q => ?_, fun q => ?_⟩
  · rw [cI_t (Int32.le_of_lt q)]
  · by_cases e : v ≤ x
    · have : v = x := Int32.le_antisymm e (Int32.not_lt.mp q)
      rw [cI_t e, this]
    · rw [cI_f e]
theorem qI.set {pm n : Nat} {V : Nat → Int32} {M : gM} (h : qI pm n V M) {v : Int32} (hv : v = V n) : qI pm (n + 1) V (sI M pm n v) := ⟨h.1, h.2.1, h.2.2.1, fun j hj => by
  rw [mI_sI]
  by_cases e : j = n
  · rw [if_pos ⟨rfl, e⟩, hv, e]
  · rw [if_neg (fun z => e z.2)]; exact h.2.2.2 j (by omega)⟩
theorem lT.far {c : Cf} {M : gM} (h : lT c M) {a j : Nat} {v : Int32} (ha : 139 ≤ a) : lT c (sI M a j v) := h.mv (h.lay.of (Nat.le_refl _) (fun _ _ => rfl) (fun _ _ => rfl)) (fun b i q q2 => mI_ne (by omega)) (fun _ => rfl)
noncomputable def msV (c : Cf) : Nat → Int32 := fun j => cI (msP c j) (nI 1) (nI 0)
set_option maxRecDepth 100000 in
set_option maxHeartbeats 4000000 in
theorem lo_L_textTold {g : gG} {M : gM} {Q : Option Value ⊕ String → gM → Prop} {c : Cf} {lk : Int64} {cc x to far : Int32} {ps k b kk nn : Nat} (h : lT c M) (hp : k < tl c) (K : E g 11 kk nn mL_textTold 241 [.ref 1, .int cc, .ref 129, .ref 130, .ref 131, .ref 132, .ref 133, .long lk, .null, .ref 134, .ref 135, .ref 139, .int (dI b), .int x, .int to, .ref (ps + 1), .int (nI k), .int (nI (ru c k)), .int (crt c k), .int (nI (frC c (tn c (ru c k)) (tn c (ru c k + 1)) k)), .int far, .int (nI (jon c (tn c (ru c k + 1)) k))] [] M Q) : ∀ j, j ≤ tn c (ru c k + 1) → k + 1 ≤ j → fnd (fun j => ¬ cMk (cN c 141 j)) (tn c (ru c k + 1)) j = (jon c (tn c (ru c k + 1)) k) → E g 11 kk nn mL_textTold 207 [.ref 1, .int cc, .ref 129, .ref 130, .ref 131, .ref 132, .ref 133, .long lk, .null, .ref 134, .ref 135, .ref 139, .int (dI b), .int x, .int to, .ref (ps + 1), .int (nI k), .int (nI (ru c k)), .int (crt c k), .int (nI (frC c (tn c (ru c k)) (tn c (ru c k + 1)) k)), .int far, .int (nI j)] [] M Q := by
  refine lpUp (tn c (ru c k + 1)) (fun j hj ih => ?_)
  intro hkj he
  have hL := h.lay
  have h10 := h.t10
  have hnr := h.nr
  have hru := ru_b h.wf hp
  have htn := h.tnb (j := ru c k + 1) hru.1
  have hx9 := tEn_b h.wf k
  have hsc := scr_b c 0 (tl c) (tn c (ru c k))
  have hsm : scr c 0 (tl c) k = scr c 0 (tl c) (tn c (ru c k)) := (rn_same (c := c) (Nat.zero_le (tl c)) hru.1 hru.2.1 hru.2.2).1
  have hfb := fcO_b h.wf k
  have hfc : fcO c k = cN c 140 (cN c 141 k) := rfl
  obtain ⟨s, hs, hz⟩ := h.zx (j := ru c k + 1) hru.1
  have hfl := frC_lt c (tn c (ru c k)) (tn c (ru c k + 1)) k
  have hxj := tEn_b h.wf j
  refine E_iload dL_textTold_207 rfl ?_
  refine E_aload dL_textTold_209 rfl ?_
  refine E_iload dL_textTold_211 rfl ?_
  refine E_iconst (v := nI 1) dL_textTold_213 (by decide) ?_
  refine E_iadd_n dL_textTold_214 ?_
  refine E_ialdL (v := nI (tn c (ru c k + 1) + 100 * s)) dL_textTold_215 (l_138 hL) (k_138 hL) rfl (by omega) (by decide) hz ?_
  refine E_bipush (v := nI 100) dL_textTold_216 (by decide) ?_
  refine E_irem_n dL_textTold_218 (by omega) (by omega) (by omega) ?_
  rw [show (tn c (ru c k + 1) + 100 * s) % 100 = tn c (ru c k + 1) by omega]
  refine E_icmp_ge_n (tgt := 241) dL_textTold_219 (by decide) (by omega) (by omega) (fun c_219 => ?_) (fun c_219 => ?_)
  · have ej : j = (jon c (tn c (ru c k + 1)) k) := by
      rw [← he]
      first
        | exact (fnd_hit (P := fun j => ¬ cMk (cN c 141 j)) (by omega) c_232).symm
        | (rw [show j = tn c (ru c k + 1) by omega]; exact (fnd_end (Nat.le_refl _)).symm)
    rw [ej]
    exact K
  · refine E_aload_n dL_textTold_222 rfl ?_
    refine E_iload dL_textTold_223 rfl ?_
    refine E_ialdL (v := nI (tEn _ _)) dL_textTold_225 (l_128 hL) (k_128 hL) rfl (by omega) (by decide) (h.tx (by omega)) ?_
    refine E_bipush (v := nI 63) dL_textTold_226 (by decide) ?_
    refine E_iand dL_textTold_228 ?_
    rw [tE_63 h.wf]
    refine E_room (Nat.le_refl _) (k' := 0 + kk) (n' := 0 + nn) (by omega) (by omega) ?_
    refine E_callT1 (fr' := 1) (k1 := 0) (n1 := 0) (k2 := kk) (n2 := nn) dL_textTold_229 kO_L_markSign kL_L_172 (by exact Nat.le_of_ble_eq_true rfl) (by decide) (by exact Nat.le_of_ble_eq_true rfl) (Or.inl rfl) rfl ?_
    refine sp_L_markSign (by omega) ?_
    refine gKv ?_
    refine E_if_eq_b (tgt := 241) dL_textTold_232 (by decide) (fun c_232 => ?_) (fun c_232 => ?_)
    · have ej : j = (jon c (tn c (ru c k + 1)) k) := by
        rw [← he]
        first
          | exact (fnd_hit (P := fun j => ¬ cMk (cN c 141 j)) (by omega) c_232).symm
          | (rw [show j = tn c (ru c k + 1) by omega]; exact (fnd_end (Nat.le_refl _)).symm)
      rw [ej]
      exact K
    · refine E_iinc_n (d := 1) dL_textTold_235 rfl rfl rfl (by decide) rfl ?_
      refine E_goto (tgt := 207) dL_textTold_238 (by decide) ?_
      exact ih (by omega) (by omega) (by rw [← he]; exact (fnd_skip (P := fun j => ¬ cMk (cN c 141 j)) (by omega) (fun q => q c_232)).symm)
set_option maxRecDepth 100000 in
set_option maxHeartbeats 4000000 in
theorem s3_L_textTold {g : gG} {M : gM} {Q : Option Value ⊕ String → gM → Prop} (hst : (gl1 g).stackTraces = false) {c : Cf} {P : Nat → Nat} {lk : Int64} {cc x to : Int32} {ps n : Nat} {M00 : gM} (hlk : lkS c lk) (hC : kC c P n) (hnp : n ≤ ps) {far : Int32} {k b kk nn : Nat} (hp : k < tl c) {π : Nat → Nat} (hS : kS c P π M) (h : lT c M) (hq : qI ps k (msV c) M) (h00 : kq M00 M) (hb : b < 1000) (K : ∀ M v21, kS c P π M → lT c M → qI ps (k + 1) (msV c) M → kq M00 M → E g 11 kk nn mL_textTold 303 [.ref 1, .int cc, .ref 129, .ref 130, .ref 131, .ref 132, .ref 133, .long lk, .null, .ref 134, .ref 135, .ref 139, .int (dI b), .int x, .int to, .ref (ps + 1), .int (nI k), .int (nI (ru c k)), .int (crt c k), .int (nI (frC c (tn c (ru c k)) (tn c (ru c k + 1)) k)), .int far, v21] [] M Q) (hmn : mN M00 ≤ ps) : ∀ v21, E g 11 kk nn mL_textTold 201 [.ref 1, .int cc, .ref 129, .ref 130, .ref 131, .ref 132, .ref 133, .long lk, .null, .ref 134, .ref 135, .ref 139, .int (dI b), .int x, .int to, .ref (ps + 1), .int (nI k), .int (nI (ru c k)), .int (crt c k), .int (nI (frC c (tn c (ru c k)) (tn c (ru c k + 1)) k)), .int far, v21] [] M Q := by
  intro v21
  have hL := h.lay
  have h10 := h.t10
  have hnr := h.nr
  have hru := ru_b h.wf hp
  have htn := h.tnb (j := ru c k + 1) hru.1
  have hx9 := tEn_b h.wf k
  have hsc := scr_b c 0 (tl c) (tn c (ru c k))
  have hsm : scr c 0 (tl c) k = scr c 0 (tl c) (tn c (ru c k)) := (rn_same (c := c) (Nat.zero_le (tl c)) hru.1 hru.2.1 hru.2.2).1
  have hfb := fcO_b h.wf k
  have hfc : fcO c k = cN c 140 (cN c 141 k) := rfl
  obtain ⟨s, hs, hz⟩ := h.zx (j := ru c k + 1) hru.1
  have hfl := frC_lt c (tn c (ru c k)) (tn c (ru c k + 1)) k
  have hne100 : nI 100 ≠ 0 := by decide
  have em1 : (-1 : Int32) - -1 / nI 100 * nI 100 = -1 := by decide
  have h12 := frC_12 c (tn c (ru c k)) (tn c (ru c k + 1)) k
  have hjn := frC_jon (c := c) (a := tn c (ru c k)) (b := tn c (ru c k + 1)) (p := k)
  have hjk : k + 1 ≤ (jon c (tn c (ru c k + 1)) k) := (fnd_spec (P := fun j => ¬ cMk (cN c 141 j)) (show k + 1 ≤ tn c (ru c k + 1) by omega)).1
  have go : ∀ v, v = msV c k → E g 11 kk nn mL_textTold 302 [.ref 1, .int cc, .ref 129, .ref 130, .ref 131, .ref 132, .ref 133, .long lk, .null, .ref 134, .ref 135, .ref 139, .int (dI b), .int x, .int to, .ref (ps + 1), .int (nI k), .int (nI (ru c k)), .int (crt c k), .int (nI (frC c (tn c (ru c k)) (tn c (ru c k + 1)) k)), .int far, .int (nI (jon c (tn c (ru c k + 1)) k))] [.int v, .int (nI k), .ref (ps + 1)] M Q := by
    intro v hv
    refine E_iast dL_textTold_302 hq.1 hq.2.2.1 rfl (by omega) (by decide) ?_
    have h139 := hq.2.1
    exact K _ _ (hS.law hC (Nat.le_of_lt (Nat.lt_of_le_of_lt hnp hq.1)) (fun _ _ => rfl) (fun a j q _ => mI_ne (by omega)) (fun _ _ _ => rfl)) (h.far h139) (hq.set hv) ⟨h00.1, h00.2.1, fun a j q q2 => ⟨(mI_ne (by omega)).trans (h00.2.2 a j q q2).1, (h00.2.2 a j q q2).2⟩⟩
  have no : ¬ msP c k → E g 11 kk nn mL_textTold 302 [.ref 1, .int cc, .ref 129, .ref 130, .ref 131, .ref 132, .ref 133, .long lk, .null, .ref 134, .ref 135, .ref 139, .int (dI b), .int x, .int to, .ref (ps + 1), .int (nI k), .int (nI (ru c k)), .int (crt c k), .int (nI (frC c (tn c (ru c k)) (tn c (ru c k + 1)) k)), .int far, .int (nI (jon c (tn c (ru c k + 1)) k))] [.int (nI 0), .int (nI k), .ref (ps + 1)] M Q := fun q => go _ (cI_f q).symm
  have yes : msP c k → E g 11 kk nn mL_textTold 302 [.ref 1, .int cc, .ref 129, .ref 130, .ref 131, .ref 132, .ref 133, .long lk, .null, .ref 134, .ref 135, .ref 139, .int (dI b), .int x, .int to, .ref (ps + 1), .int (nI k), .int (nI (ru c k)), .int (crt c k), .int (nI (frC c (tn c (ru c k)) (tn c (ru c k + 1)) k)), .int far, .int (nI (jon c (tn c (ru c k + 1)) k))] [.int (nI 1), .int (nI k), .ref (ps + 1)] M Q := fun q => go _ (cI_t q).symm
  refine E_iload dL_textTold_201 rfl ?_
  refine E_iconst (v := nI 1) dL_textTold_203 (by decide) ?_
  refine E_iadd_n dL_textTold_204 ?_
  refine E_istore dL_textTold_205 (Nat.le_of_ble_eq_true rfl) (by decide) rfl ?_
  refine lo_L_textTold h hp ?_ (k + 1) (by omega) (Nat.le_refl _) rfl
  refine E_aload dL_textTold_241 rfl ?_
  refine E_iload dL_textTold_243 rfl ?_
  refine E_aload_n dL_textTold_245 rfl ?_
  refine E_iload dL_textTold_246 rfl ?_
  refine E_ialdL (v := nI (tEn _ _)) dL_textTold_248 (l_128 hL) (k_128 hL) rfl (by omega) (by decide) (h.tx (by omega)) ?_
  refine E_bipush (v := nI 63) dL_textTold_249 (by decide) ?_
  refine E_iand dL_textTold_251 ?_
  rw [tE_63 h.wf]
  refine E_room (Nat.le_refl _) (k' := 0 + kk) (n' := 0 + nn) (by omega) (by omega) ?_
  refine E_callT1 (fr' := 1) (k1 := 0) (n1 := 0) (k2 := kk) (n2 := nn) dL_textTold_252 kO_L_letter kL_L_175 (by exact Nat.le_of_ble_eq_true rfl) (by decide) (by exact Nat.le_of_ble_eq_true rfl) (Or.inl rfl) rfl ?_
  refine sp_L_letter (by omega) ?_
  refine gKv ?_
  refine E_if_eq_b (tgt := 301) dL_textTold_255 (by decide) (fun c_255 => ?_) (fun c_255 => ?_)
  · refine E_iconst (v := nI 0) dL_textTold_301 (by decide) ?_
    first
      | exact no (fun q => c_255 q.1)
      | exact no (fun q => by have := h12.mp q.2.1; omega)
      | exact no (fun q => q.2.2.2 (by omega))
      | exact yes ⟨hcB, h12.mpr hf12, hjb, fun q => by rw [e1, e2] at q; omega⟩
      | (exfalso; exact c_294 rfl)
      | (exfalso
         have z := c_294
         first
           | exact m1_ne (by omega) z
           | exact m1_ne (by omega) z.symm)
  · refine E_iload dL_textTold_258 rfl ?_
    refine E_iconst (v := nI 1) dL_textTold_260 (by decide) ?_
    refine E_icmp_eq_n (tgt := 270) dL_textTold_261 (by decide) (by omega) (by omega) (fun c_261 => ?_) (fun c_261 => ?_)
    · refine E_aload dL_textTold_270 rfl ?_
      refine E_aload dL_textTold_272 rfl ?_
      refine E_iload dL_textTold_274 rfl ?_
      refine E_room (Nat.le_refl _) (k' := 0 + kk) (n' := 0 + nn) (by omega) (by omega) ?_
      refine E_callT3 (fr' := 2) (k1 := 0) (n1 := 0) (k2 := kk) (n2 := nn) dL_textTold_276 kO_L_clusterOf kL_L_225 (by exact Nat.le_of_ble_eq_true rfl) (by decide) (by exact Nat.le_of_ble_eq_true rfl) (Or.inl rfl) rfl ?_
      have hf12 : (frC c (tn c (ru c k)) (tn c (ru c k + 1)) k) = 1 ∨ (frC c (tn c (ru c k)) (tn c (ru c k + 1)) k) = 2 := by omega
      have hjb := hjn hf12
      have hcB : cBo (cN c 141 k) := c_255
      refine sp_L_clusterOf h hp (fun e1 => ?_) (fun q1 e1 => ?_)
      · refine gKv ?_
        refine E_bipush (v := nI 100) dL_textTold_279 (by decide) ?_
        refine E_irem dL_textTold_281 (by assumption) ?_
        first
          | rw [em1]
          | rw [show (q1 + 100 * eoC c (ru c k) q1) % 100 = q1 by omega]
        refine E_aload dL_textTold_282 rfl ?_
        refine E_aload dL_textTold_284 rfl ?_
        refine E_iload dL_textTold_286 rfl ?_
        refine E_room (Nat.le_refl _) (k' := 0 + kk) (n' := 0 + nn) (by omega) (by omega) ?_
        refine E_callT3 (fr' := 2) (k1 := 0) (n1 := 0) (k2 := kk) (n2 := nn) dL_textTold_288 kO_L_clusterOf kL_L_225 (by exact Nat.le_of_ble_eq_true rfl) (by decide) (by exact Nat.le_of_ble_eq_true rfl) (Or.inl rfl) rfl ?_
        have hruj : ru c (jon c (tn c (ru c k + 1)) k) = ru c k := ru_e h.wf hp (by omega) hjb
        refine sp_L_clusterOf h (p := (jon c (tn c (ru c k + 1)) k)) (by omega) (fun e2 => ?_) (fun q2 e2 => ?_)
        · rw [hruj] at e2
          refine gKv ?_
          refine E_bipush (v := nI 100) dL_textTold_291 (by decide) ?_
          refine E_irem dL_textTold_293 (by assumption) ?_
          first
            | rw [em1]
            | rw [show (q2 + 100 * eoC c (ru c k) q2) % 100 = q2 by omega]
          refine E_icmp_eq (tgt := 301) dL_textTold_294 (by decide) (fun c_294 => ?_) (fun c_294 => ?_)
          · refine E_iconst (v := nI 0) dL_textTold_301 (by decide) ?_
            first
              | exact no (fun q => c_255 q.1)
              | exact no (fun q => by have := h12.mp q.2.1; omega)
              | exact no (fun q => q.2.2.2 (by omega))
              | exact yes ⟨hcB, h12.mpr hf12, hjb, fun q => by rw [e1, e2] at q; omega⟩
              | (exfalso; exact c_294 rfl)
              | (exfalso
                 have z := c_294
                 first
                   | exact m1_ne (by omega) z
                   | exact m1_ne (by omega) z.symm)
          · refine E_iconst (v := nI 1) dL_textTold_297 (by decide) ?_
            refine E_goto (tgt := 302) dL_textTold_298 (by decide) ?_
            first
              | exact no (fun q => c_255 q.1)
              | exact no (fun q => by have := h12.mp q.2.1; omega)
              | exact no (fun q => q.2.2.2 (by omega))
              | exact yes ⟨hcB, h12.mpr hf12, hjb, fun q => by rw [e1, e2] at q; omega⟩
              | (exfalso; exact c_294 rfl)
              | (exfalso
                 have z := c_294
                 first
                   | exact m1_ne (by omega) z
                   | exact m1_ne (by omega) z.symm)
        · rw [hruj] at e2
          rw [hruj]
          have heo2 : eoC c (ru c k) q2 ≤ tn c (ru c k + 1) := eoE_le _ _ _ _
          have hcb2 := cl_o (c := c) (r := ru c k) (p := (jon c (tn c (ru c k + 1)) k))
          refine gKv ?_
          refine E_bipush (v := nI 100) dL_textTold_291 (by decide) ?_
          refine E_irem_n dL_textTold_293 (by omega) (by omega) (by omega) ?_
          first
            | rw [em1]
            | rw [show (q2 + 100 * eoC c (ru c k) q2) % 100 = q2 by omega]
          refine E_icmp_eq (tgt := 301) dL_textTold_294 (by decide) (fun c_294 => ?_) (fun c_294 => ?_)
          · refine E_iconst (v := nI 0) dL_textTold_301 (by decide) ?_
            first
              | exact no (fun q => c_255 q.1)
              | exact no (fun q => by have := h12.mp q.2.1; omega)
              | exact no (fun q => q.2.2.2 (by omega))
              | exact yes ⟨hcB, h12.mpr hf12, hjb, fun q => by rw [e1, e2] at q; omega⟩
              | (exfalso; exact c_294 rfl)
              | (exfalso
                 have z := c_294
                 first
                   | exact m1_ne (by omega) z
                   | exact m1_ne (by omega) z.symm)
          · refine E_iconst (v := nI 1) dL_textTold_297 (by decide) ?_
            refine E_goto (tgt := 302) dL_textTold_298 (by decide) ?_
            first
              | exact no (fun q => c_255 q.1)
              | exact no (fun q => by have := h12.mp q.2.1; omega)
              | exact no (fun q => q.2.2.2 (by omega))
              | exact yes ⟨hcB, h12.mpr hf12, hjb, fun q => by rw [e1, e2] at q; omega⟩
              | (exfalso; exact c_294 rfl)
              | (exfalso
                 have z := c_294
                 first
                   | exact m1_ne (by omega) z
                   | exact m1_ne (by omega) z.symm)
      · have heo1 : eoC c (ru c k) q1 ≤ tn c (ru c k + 1) := eoE_le _ _ _ _
        have hcb1 := cl_o (c := c) (r := ru c k) (p := k)
        refine gKv ?_
        refine E_bipush (v := nI 100) dL_textTold_279 (by decide) ?_
        refine E_irem_n dL_textTold_281 (by omega) (by omega) (by omega) ?_
        first
          | rw [em1]
          | rw [show (q1 + 100 * eoC c (ru c k) q1) % 100 = q1 by omega]
        refine E_aload dL_textTold_282 rfl ?_
        refine E_aload dL_textTold_284 rfl ?_
        refine E_iload dL_textTold_286 rfl ?_
        refine E_room (Nat.le_refl _) (k' := 0 + kk) (n' := 0 + nn) (by omega) (by omega) ?_
        refine E_callT3 (fr' := 2) (k1 := 0) (n1 := 0) (k2 := kk) (n2 := nn) dL_textTold_288 kO_L_clusterOf kL_L_225 (by exact Nat.le_of_ble_eq_true rfl) (by decide) (by exact Nat.le_of_ble_eq_true rfl) (Or.inl rfl) rfl ?_
        have hruj : ru c (jon c (tn c (ru c k + 1)) k) = ru c k := ru_e h.wf hp (by omega) hjb
        refine sp_L_clusterOf h (p := (jon c (tn c (ru c k + 1)) k)) (by omega) (fun e2 => ?_) (fun q2 e2 => ?_)
        · rw [hruj] at e2
          refine gKv ?_
          refine E_bipush (v := nI 100) dL_textTold_291 (by decide) ?_
          refine E_irem dL_textTold_293 (by assumption) ?_
          first
            | rw [em1]
            | rw [show (q2 + 100 * eoC c (ru c k) q2) % 100 = q2 by omega]
          refine E_icmp_eq (tgt := 301) dL_textTold_294 (by decide) (fun c_294 => ?_) (fun c_294 => ?_)
          · refine E_iconst (v := nI 0) dL_textTold_301 (by decide) ?_
            first
              | exact no (fun q => c_255 q.1)
              | exact no (fun q => by have := h12.mp q.2.1; omega)
              | exact no (fun q => q.2.2.2 (by omega))
              | exact yes ⟨hcB, h12.mpr hf12, hjb, fun q => by rw [e1, e2] at q; omega⟩
              | (exfalso; exact c_294 rfl)
              | (exfalso
                 have z := c_294
                 first
                   | exact m1_ne (by omega) z
                   | exact m1_ne (by omega) z.symm)
          · refine E_iconst (v := nI 1) dL_textTold_297 (by decide) ?_
            refine E_goto (tgt := 302) dL_textTold_298 (by decide) ?_
            first
              | exact no (fun q => c_255 q.1)
              | exact no (fun q => by have := h12.mp q.2.1; omega)
              | exact no (fun q => q.2.2.2 (by omega))
              | exact yes ⟨hcB, h12.mpr hf12, hjb, fun q => by rw [e1, e2] at q; omega⟩
              | (exfalso; exact c_294 rfl)
              | (exfalso
                 have z := c_294
                 first
                   | exact m1_ne (by omega) z
                   | exact m1_ne (by omega) z.symm)
        · rw [hruj] at e2
          rw [hruj]
          have heo2 : eoC c (ru c k) q2 ≤ tn c (ru c k + 1) := eoE_le _ _ _ _
          have hcb2 := cl_o (c := c) (r := ru c k) (p := (jon c (tn c (ru c k + 1)) k))
          refine gKv ?_
          refine E_bipush (v := nI 100) dL_textTold_291 (by decide) ?_
          refine E_irem_n dL_textTold_293 (by omega) (by omega) (by omega) ?_
          first
            | rw [em1]
            | rw [show (q2 + 100 * eoC c (ru c k) q2) % 100 = q2 by omega]
          refine E_icmp_eq_n (tgt := 301) dL_textTold_294 (by decide) (by omega) (by omega) (fun c_294 => ?_) (fun c_294 => ?_)
          · refine E_iconst (v := nI 0) dL_textTold_301 (by decide) ?_
            first
              | exact no (fun q => c_255 q.1)
              | exact no (fun q => by have := h12.mp q.2.1; omega)
              | exact no (fun q => q.2.2.2 (by omega))
              | exact yes ⟨hcB, h12.mpr hf12, hjb, fun q => by rw [e1, e2] at q; omega⟩
              | (exfalso; exact c_294 rfl)
              | (exfalso
                 have z := c_294
                 first
                   | exact m1_ne (by omega) z
                   | exact m1_ne (by omega) z.symm)
          · refine E_iconst (v := nI 1) dL_textTold_297 (by decide) ?_
            refine E_goto (tgt := 302) dL_textTold_298 (by decide) ?_
            first
              | exact no (fun q => c_255 q.1)
              | exact no (fun q => by have := h12.mp q.2.1; omega)
              | exact no (fun q => q.2.2.2 (by omega))
              | exact yes ⟨hcB, h12.mpr hf12, hjb, fun q => by rw [e1, e2] at q; omega⟩
              | (exfalso; exact c_294 rfl)
              | (exfalso
                 have z := c_294
                 first
                   | exact m1_ne (by omega) z
                   | exact m1_ne (by omega) z.symm)
    · refine E_iload dL_textTold_264 rfl ?_
      refine E_iconst (v := nI 2) dL_textTold_266 (by decide) ?_
      refine E_icmp_ne_n (tgt := 301) dL_textTold_267 (by decide) (by omega) (by omega) (fun c_267 => ?_) (fun c_267 => ?_)
      · refine E_iconst (v := nI 0) dL_textTold_301 (by decide) ?_
        first
          | exact no (fun q => c_255 q.1)
          | exact no (fun q => by have := h12.mp q.2.1; omega)
          | exact no (fun q => q.2.2.2 (by omega))
          | exact yes ⟨hcB, h12.mpr hf12, hjb, fun q => by rw [e1, e2] at q; omega⟩
          | (exfalso; exact c_294 rfl)
          | (exfalso
             have z := c_294
             first
               | exact m1_ne (by omega) z
               | exact m1_ne (by omega) z.symm)
      · refine E_aload dL_textTold_270 rfl ?_
        refine E_aload dL_textTold_272 rfl ?_
        refine E_iload dL_textTold_274 rfl ?_
        refine E_room (Nat.le_refl _) (k' := 0 + kk) (n' := 0 + nn) (by omega) (by omega) ?_
        refine E_callT3 (fr' := 2) (k1 := 0) (n1 := 0) (k2 := kk) (n2 := nn) dL_textTold_276 kO_L_clusterOf kL_L_225 (by exact Nat.le_of_ble_eq_true rfl) (by decide) (by exact Nat.le_of_ble_eq_true rfl) (Or.inl rfl) rfl ?_
        have hf12 : (frC c (tn c (ru c k)) (tn c (ru c k + 1)) k) = 1 ∨ (frC c (tn c (ru c k)) (tn c (ru c k + 1)) k) = 2 := by omega
        have hjb := hjn hf12
        have hcB : cBo (cN c 141 k) := c_255
        refine sp_L_clusterOf h hp (fun e1 => ?_) (fun q1 e1 => ?_)
        · refine gKv ?_
          refine E_bipush (v := nI 100) dL_textTold_279 (by decide) ?_
          refine E_irem dL_textTold_281 (by assumption) ?_
          first
            | rw [em1]
            | rw [show (q1 + 100 * eoC c (ru c k) q1) % 100 = q1 by omega]
          refine E_aload dL_textTold_282 rfl ?_
          refine E_aload dL_textTold_284 rfl ?_
          refine E_iload dL_textTold_286 rfl ?_
          refine E_room (Nat.le_refl _) (k' := 0 + kk) (n' := 0 + nn) (by omega) (by omega) ?_
          refine E_callT3 (fr' := 2) (k1 := 0) (n1 := 0) (k2 := kk) (n2 := nn) dL_textTold_288 kO_L_clusterOf kL_L_225 (by exact Nat.le_of_ble_eq_true rfl) (by decide) (by exact Nat.le_of_ble_eq_true rfl) (Or.inl rfl) rfl ?_
          have hruj : ru c (jon c (tn c (ru c k + 1)) k) = ru c k := ru_e h.wf hp (by omega) hjb
          refine sp_L_clusterOf h (p := (jon c (tn c (ru c k + 1)) k)) (by omega) (fun e2 => ?_) (fun q2 e2 => ?_)
          · rw [hruj] at e2
            refine gKv ?_
            refine E_bipush (v := nI 100) dL_textTold_291 (by decide) ?_
            refine E_irem dL_textTold_293 (by assumption) ?_
            first
              | rw [em1]
              | rw [show (q2 + 100 * eoC c (ru c k) q2) % 100 = q2 by omega]
            refine E_icmp_eq (tgt := 301) dL_textTold_294 (by decide) (fun c_294 => ?_) (fun c_294 => ?_)
            · refine E_iconst (v := nI 0) dL_textTold_301 (by decide) ?_
              first
                | exact no (fun q => c_255 q.1)
                | exact no (fun q => by have := h12.mp q.2.1; omega)
                | exact no (fun q => q.2.2.2 (by omega))
                | exact yes ⟨hcB, h12.mpr hf12, hjb, fun q => by rw [e1, e2] at q; omega⟩
                | (exfalso; exact c_294 rfl)
                | (exfalso
                   have z := c_294
                   first
                     | exact m1_ne (by omega) z
                     | exact m1_ne (by omega) z.symm)
            · refine E_iconst (v := nI 1) dL_textTold_297 (by decide) ?_
              refine E_goto (tgt := 302) dL_textTold_298 (by decide) ?_
              first
                | exact no (fun q => c_255 q.1)
                | exact no (fun q => by have := h12.mp q.2.1; omega)
                | exact no (fun q => q.2.2.2 (by omega))
                | exact yes ⟨hcB, h12.mpr hf12, hjb, fun q => by rw [e1, e2] at q; omega⟩
                | (exfalso; exact c_294 rfl)
                | (exfalso
                   have z := c_294
                   first
                     | exact m1_ne (by omega) z
                     | exact m1_ne (by omega) z.symm)
          · rw [hruj] at e2
            rw [hruj]
            have heo2 : eoC c (ru c k) q2 ≤ tn c (ru c k + 1) := eoE_le _ _ _ _
            have hcb2 := cl_o (c := c) (r := ru c k) (p := (jon c (tn c (ru c k + 1)) k))
            refine gKv ?_
            refine E_bipush (v := nI 100) dL_textTold_291 (by decide) ?_
            refine E_irem_n dL_textTold_293 (by omega) (by omega) (by omega) ?_
            first
              | rw [em1]
              | rw [show (q2 + 100 * eoC c (ru c k) q2) % 100 = q2 by omega]
            refine E_icmp_eq (tgt := 301) dL_textTold_294 (by decide) (fun c_294 => ?_) (fun c_294 => ?_)
            · refine E_iconst (v := nI 0) dL_textTold_301 (by decide) ?_
              first
                | exact no (fun q => c_255 q.1)
                | exact no (fun q => by have := h12.mp q.2.1; omega)
                | exact no (fun q => q.2.2.2 (by omega))
                | exact yes ⟨hcB, h12.mpr hf12, hjb, fun q => by rw [e1, e2] at q; omega⟩
                | (exfalso; exact c_294 rfl)
                | (exfalso
                   have z := c_294
                   first
                     | exact m1_ne (by omega) z
                     | exact m1_ne (by omega) z.symm)
            · refine E_iconst (v := nI 1) dL_textTold_297 (by decide) ?_
              refine E_goto (tgt := 302) dL_textTold_298 (by decide) ?_
              first
                | exact no (fun q => c_255 q.1)
                | exact no (fun q => by have := h12.mp q.2.1; omega)
                | exact no (fun q => q.2.2.2 (by omega))
                | exact yes ⟨hcB, h12.mpr hf12, hjb, fun q => by rw [e1, e2] at q; omega⟩
                | (exfalso; exact c_294 rfl)
                | (exfalso
                   have z := c_294
                   first
                     | exact m1_ne (by omega) z
                     | exact m1_ne (by omega) z.symm)
        · have heo1 : eoC c (ru c k) q1 ≤ tn c (ru c k + 1) := eoE_le _ _ _ _
          have hcb1 := cl_o (c := c) (r := ru c k) (p := k)
          refine gKv ?_
          refine E_bipush (v := nI 100) dL_textTold_279 (by decide) ?_
          refine E_irem_n dL_textTold_281 (by omega) (by omega) (by omega) ?_
          first
            | rw [em1]
            | rw [show (q1 + 100 * eoC c (ru c k) q1) % 100 = q1 by omega]
          refine E_aload dL_textTold_282 rfl ?_
          refine E_aload dL_textTold_284 rfl ?_
          refine E_iload dL_textTold_286 rfl ?_
          refine E_room (Nat.le_refl _) (k' := 0 + kk) (n' := 0 + nn) (by omega) (by omega) ?_
          refine E_callT3 (fr' := 2) (k1 := 0) (n1 := 0) (k2 := kk) (n2 := nn) dL_textTold_288 kO_L_clusterOf kL_L_225 (by exact Nat.le_of_ble_eq_true rfl) (by decide) (by exact Nat.le_of_ble_eq_true rfl) (Or.inl rfl) rfl ?_
          have hruj : ru c (jon c (tn c (ru c k + 1)) k) = ru c k := ru_e h.wf hp (by omega) hjb
          refine sp_L_clusterOf h (p := (jon c (tn c (ru c k + 1)) k)) (by omega) (fun e2 => ?_) (fun q2 e2 => ?_)
          · rw [hruj] at e2
            refine gKv ?_
            refine E_bipush (v := nI 100) dL_textTold_291 (by decide) ?_
            refine E_irem dL_textTold_293 (by assumption) ?_
            first
              | rw [em1]
              | rw [show (q2 + 100 * eoC c (ru c k) q2) % 100 = q2 by omega]
            refine E_icmp_eq (tgt := 301) dL_textTold_294 (by decide) (fun c_294 => ?_) (fun c_294 => ?_)
            · refine E_iconst (v := nI 0) dL_textTold_301 (by decide) ?_
              first
                | exact no (fun q => c_255 q.1)
                | exact no (fun q => by have := h12.mp q.2.1; omega)
                | exact no (fun q => q.2.2.2 (by omega))
                | exact yes ⟨hcB, h12.mpr hf12, hjb, fun q => by rw [e1, e2] at q; omega⟩
                | (exfalso; exact c_294 rfl)
                | (exfalso
                   have z := c_294
                   first
                     | exact m1_ne (by omega) z
                     | exact m1_ne (by omega) z.symm)
            · refine E_iconst (v := nI 1) dL_textTold_297 (by decide) ?_
              refine E_goto (tgt := 302) dL_textTold_298 (by decide) ?_
              first
                | exact no (fun q => c_255 q.1)
                | exact no (fun q => by have := h12.mp q.2.1; omega)
                | exact no (fun q => q.2.2.2 (by omega))
                | exact yes ⟨hcB, h12.mpr hf12, hjb, fun q => by rw [e1, e2] at q; omega⟩
                | (exfalso; exact c_294 rfl)
                | (exfalso
                   have z := c_294
                   first
                     | exact m1_ne (by omega) z
                     | exact m1_ne (by omega) z.symm)
          · rw [hruj] at e2
            rw [hruj]
            have heo2 : eoC c (ru c k) q2 ≤ tn c (ru c k + 1) := eoE_le _ _ _ _
            have hcb2 := cl_o (c := c) (r := ru c k) (p := (jon c (tn c (ru c k + 1)) k))
            refine gKv ?_
            refine E_bipush (v := nI 100) dL_textTold_291 (by decide) ?_
            refine E_irem_n dL_textTold_293 (by omega) (by omega) (by omega) ?_
            first
              | rw [em1]
              | rw [show (q2 + 100 * eoC c (ru c k) q2) % 100 = q2 by omega]
            refine E_icmp_eq_n (tgt := 301) dL_textTold_294 (by decide) (by omega) (by omega) (fun c_294 => ?_) (fun c_294 => ?_)
            · refine E_iconst (v := nI 0) dL_textTold_301 (by decide) ?_
              first
                | exact no (fun q => c_255 q.1)
                | exact no (fun q => by have := h12.mp q.2.1; omega)
                | exact no (fun q => q.2.2.2 (by omega))
                | exact yes ⟨hcB, h12.mpr hf12, hjb, fun q => by rw [e1, e2] at q; omega⟩
                | (exfalso; exact c_294 rfl)
                | (exfalso
                   have z := c_294
                   first
                     | exact m1_ne (by omega) z
                     | exact m1_ne (by omega) z.symm)
            · refine E_iconst (v := nI 1) dL_textTold_297 (by decide) ?_
              refine E_goto (tgt := 302) dL_textTold_298 (by decide) ?_
              first
                | exact no (fun q => c_255 q.1)
                | exact no (fun q => by have := h12.mp q.2.1; omega)
                | exact no (fun q => q.2.2.2 (by omega))
                | exact yes ⟨hcB, h12.mpr hf12, hjb, fun q => by rw [e1, e2] at q; omega⟩
                | (exfalso; exact c_294 rfl)
                | (exfalso
                   have z := c_294
                   first
                     | exact m1_ne (by omega) z
                     | exact m1_ne (by omega) z.symm)
