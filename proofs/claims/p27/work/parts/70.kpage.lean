/-! the class: its pages -/
def offR (a : Nat) : Prop := ¬ a = 6 ∧ ¬ (8 ≤ a ∧ a ≤ 71)
theorem cX.rb {c : Cf} {P : Nat → Nat} {M0 M M' : gM} {L : List Gl} {π : Nat → Nat} {S T : Nat → Nat → Prop} (h : cX c P M0 L π M) (hf : kf S T M M') (hs : ∀ a j, S a j → ¬ told a j ∧ offR a) (ht : ∀ a j, T a j → kT a j ∧ ¬ a = 7) : cX c P M' L π M' := by
  have hn := h.len
  have e : ∀ a j, ¬ offR a → mI M' a j = mI M a j := fun a j q => hf.bk (fun z => q (hs a j z).2)
  refine ⟨h.B.mv hf (fun a j q => (hs a j q).1) (fun a j q => (ht a j q).1), kf.refl, (e 6 1 (by unfold offR; omega)).trans h.n, fun i hi => ⟨h.p64 hi, (hf.bkR (fun z => (ht 7 i z).2 rfl)).trans (h.cell hi)⟩, h.2.2.2.2.1, fun i hi => ?_, h.ok⟩
  have := h.gl hi
  have hp := h.p64 (show i < 64 by omega)
  have e2 : ∀ j, mI M' (8 + π i) j = mI M (8 + π i) j := fun j => e _ _ (by unfold offR; omega)
  unfold glC at *
  rw [e2, e2, e2, e2, e2, e2, e2]
  exact this
/-- the row, its glyphs set -/
def cS (c : Cf) (P : Nat → Nat) (L : List Gl) (π : Nat → Nat) (A : Pl) (M : gM) : Prop := cP c P M L π A M ∧ c5 π A L.length M
theorem cS.rb {c : Cf} {P : Nat → Nat} {M M' : gM} {L : List Gl} {π : Nat → Nat} {A : Pl} {S T : Nat → Nat → Prop} (h : cS c P L π A M) (hf : kf S T M M') (hs : ∀ a j, S a j → ¬ told a j ∧ offR a) (ht : ∀ a j, T a j → kT a j ∧ ¬ a = 7) : cS c P L π A M' := by
  have hn := h.1.1.len
  have e : ∀ i, i < L.length → ∀ j, mI M' (8 + π i) j = mI M (8 + π i) j := fun i hi j => hf.bk (fun z => by
    have hp := h.1.1.p64 (show i < 64 by omega)
    have := (hs _ _ z).2
    unfold offR at this; omega)
  exact ⟨⟨h.1.1.rb hf hs ht, fun q i hq hi => (e i hi _).trans (h.1.2 q i hq hi)⟩, fun j hj => (e j hj _).trans (h.2 j hj)⟩
theorem cP.S {c : Cf} {P : Nat → Nat} {M0 M : gM} {L : List Gl} {π : Nat → Nat} {A : Pl} (h : cP c P M0 L π A M) (hx : c5 π A L.length M) : cS c P L π A M := ⟨⟨h.1.rb (S := fun _ _ => False) (T := fun _ _ => False) kf.refl (fun _ _ q => q.elim) (fun _ _ q => q.elim), h.2⟩, hx⟩
/-- what append changes -/
def apR (pb G r a j : Nat) : Prop := (a = pb ∧ (j = 9 ∨ j = 10)) ∨ (pb + 12 ≤ a ∧ a ≤ pb + 19 ∧ G ≤ j) ∨ (pb + 8 ≤ a ∧ a ≤ pb + 11 ∧ j = r)
theorem apR_k {pb G r : Nat} (hp : pb = 78 ∨ pb = 98) (a j : Nat) (h : apR pb G r a j) : ¬ told a j ∧ offR a := by unfold apR at h; unfold told offR; omega
/-- glyphs of the page -/
def pO (pb G : Nat) (L : List Gl) (B : Pl) (k : Nat) (M : gM) : Prop := ∀ q j, q < 8 → j < k → mI M (pb + 12 + q) (G + j) = og G L B q j
theorem apR_w {pb G r k : Nat} {M0 M : gM} (h : kf (apR pb G r) (fun _ _ => False) M0 M) {a j : Nat} {v : Int32} (q : (a = pb ∧ (j = 9 ∨ j = 10)) ∨ (pb + 12 ≤ a ∧ a ≤ pb + 19 ∧ j = G + k)) : kf (apR pb G r) (fun _ _ => False) M0 (sI M a j v) := h.wr (by unfold apR; omega)
set_option maxRecDepth 100000 in
set_option maxHeartbeats 4000000 in
theorem st_X6_append {g : gG} {Q : Option Value ⊕ String → gM → Prop} {c : Cf} {P : Nat → Nat} {Mb : gM} {L : List Gl} {π : Nat → Nat} {A : Pl} {pb : Nat} (hp : pb = 78 ∨ pb = 98) {G r k : Nat} {left : Int32} (hG : G + L.length ≤ 1024) (hr : r < 16) (hk : k < L.length) {M : gM} (hs : cS c P L π A M) (hf : kf (apR pb G r) (fun _ _ => False) Mb M) (h9 : mI M pb 9 = nI (G + k)) (h10 : mI M pb 10 = left + smA A k) (ho : pO pb G L A k M) (K : ∀ M v6, cS c P L π A M → kf (apR pb G r) (fun _ _ => False) Mb M → mI M pb 9 = nI (G + (k + 1)) → mI M pb 10 = left + smA A (k + 1) → pO pb G L A (k + 1) M → E g 1 0 0 mX6_append 14 [.ref (pb + 1), .ref 7, .int (nI r), .int (nI G), .int left, .int (nI (k + 1)), v6] [] M Q) : ∀ v6, E g 1 0 0 mX6_append 14 [.ref (pb + 1), .ref 7, .int (nI r), .int (nI G), .int left, .int (nI k), v6] [] M Q := by
  intro v6
  have hq := hs.1
  have h5 := hs.2
  have hc := hq.1
  have hB := hc.B
  have hL := hB.lay
  have hn := hc.len
  have pk := hc.p64 (show k < 64 by omega)
  have gx := hc.n256 k
  have gc := hc.c16 k
  have fin : ∀ v, v = cI (A 2 k = -100) (-100) (nI G + A 2 k) → ∀ M2, M2 = (sI (sI (sI (sI (sI (sI (sI (sI (sI (sI M (pb + 12) (G + k) (nI (yN (gat L k)))) (pb + 13) (G + k) (nI (yC (gat L k)))) (pb + 14) (G + k) (A 0 k)) (pb + 15) (G + k) (A 1 k)) (pb + 16) (G + k) (A 5 k)) (pb + 17) (G + k) v) (pb + 18) (G + k) (A 3 k)) (pb + 19) (G + k) (A 4 k)) pb 9 (nI (G + k + 1))) pb 10 (left + smA A k + A 0 k)) → E g 1 0 0 mX6_append 14 [.ref (pb + 1), .ref 7, .int (nI r), .int (nI G), .int left, .int (nI (k + 1)), .ref (8 + π k + 1)] [] M2 Q := by
    intro v hv M2 e2
    subst e2
    have hkf : kf (apR pb G r) (fun _ _ => False) M (sI (sI (sI (sI (sI (sI (sI (sI (sI (sI M (pb + 12) (G + k) (nI (yN (gat L k)))) (pb + 13) (G + k) (nI (yC (gat L k)))) (pb + 14) (G + k) (A 0 k)) (pb + 15) (G + k) (A 1 k)) (pb + 16) (G + k) (A 5 k)) (pb + 17) (G + k) v) (pb + 18) (G + k) (A 3 k)) (pb + 19) (G + k) (A 4 k)) pb 9 (nI (G + k + 1))) pb 10 (left + smA A k + A 0 k)) := apR_w (k := k) (apR_w (k := k) (apR_w (k := k) (apR_w (k := k) (apR_w (k := k) (apR_w (k := k) (apR_w (k := k) (apR_w (k := k) (apR_w (k := k) (apR_w (k := k) kf.refl (by omega)) (by omega)) (by omega)) (by omega)) (by omega)) (by omega)) (by omega)) (by omega)) (by omega)) (by omega)
    refine K _ _ (hs.rb hkf (apR_k hp) (fun _ _ q => q.elim)) (hf.trans hkf) ((mI_nj (by decide)).trans mI_eq) (mI_eq.trans (st_sum _ _ _)) (fun q j hq8 hj => ?_)
    by_cases e : j = k
    · subst e
      rcases (show q = 0 ∨ q = 1 ∨ q = 2 ∨ q = 3 ∨ q = 4 ∨ q = 5 ∨ q = 6 ∨ q = 7 by omega) with rfl | rfl | rfl | rfl | rfl | rfl | rfl | rfl
      · rw [mI_ne (by omega), mI_ne (by omega), mI_ne (by omega), mI_ne (by omega), mI_ne (by omega), mI_ne (by omega), mI_ne (by omega), mI_ne (by omega), mI_ne (by omega)]; exact mI_eq
      · rw [mI_ne (by omega), mI_ne (by omega), mI_ne (by omega), mI_ne (by omega), mI_ne (by omega), mI_ne (by omega), mI_ne (by omega), mI_ne (by omega)]; exact mI_eq
      · rw [mI_ne (by omega), mI_ne (by omega), mI_ne (by omega), mI_ne (by omega), mI_ne (by omega), mI_ne (by omega), mI_ne (by omega)]; exact mI_eq
      · rw [mI_ne (by omega), mI_ne (by omega), mI_ne (by omega), mI_ne (by omega), mI_ne (by omega), mI_ne (by omega)]; exact mI_eq
      · rw [mI_ne (by omega), mI_ne (by omega), mI_ne (by omega), mI_ne (by omega), mI_ne (by omega)]; exact mI_eq
      · rw [mI_ne (by omega), mI_ne (by omega), mI_ne (by omega), mI_ne (by omega)]; exact mI_eq.trans hv
      · rw [mI_ne (by omega), mI_ne (by omega), mI_ne (by omega)]; exact mI_eq
      · rw [mI_ne (by omega), mI_ne (by omega)]; exact mI_eq
    · rw [mI_ne (by omega), mI_ne (by omega), mI_nj (by omega), mI_nj (by omega), mI_nj (by omega), mI_nj (by omega), mI_nj (by omega), mI_nj (by omega), mI_nj (by omega), mI_nj (by omega)]
      exact ho q j hq8 (by omega)
  refine E_iload dX6_append_14 rfl ?_
  refine E_aload_n dX6_append_16 rfl ?_
  refine E_getIL (v := nI (List.length _)) dX6_append_17 kF_X6_53 kY_8 (Or.inl rfl) (l_6 hL) (k_6 hL) hc.n ?_
  refine E_icmp_ge_n (tgt := 201) dX6_append_20 (by decide) (by omega) (by omega) (fun c_20 => ?_) (fun c_20 => ?_)
  · exfalso; omega
  · refine E_aload_n dX6_append_23 rfl ?_
    refine E_getIL (v := nI (G + k)) dX6_append_24 kF_X6_43 kY_6 (Or.inl rfl) (pg_lt0 hL hp) (pg_k0 hL hp) h9 ?_
    refine E_sipush (v := nI 1024) dX6_append_27 (by decide) ?_
    refine E_icmp_ge_n (tgt := 201) dX6_append_30 (by decide) (by omega) (by omega) (fun c_30 => ?_) (fun c_30 => ?_)
    · exfalso; omega
    · refine E_aload_n dX6_append_33 rfl ?_
      refine E_getRL dX6_append_34 kF_X6_56 kY_8 (Or.inr ⟨_, rfl⟩) (l_6 hL) (k_6 hL) (r_6_0 hL) ?_
      refine E_iload dX6_append_37 rfl ?_
      refine E_aaldL (v := _) dX6_append_39 (l_7 hL) (k_7 hL) (by decide) (by decide) rfl (by omega) (by decide) (hc.cell (by omega)) ?_
      refine E_astore dX6_append_40 (Nat.le_of_ble_eq_true rfl) (by decide) rfl ?_
      refine E_aload_n dX6_append_42 rfl ?_
      refine E_getRL dX6_append_43 kF_X6_18 kY_6 (Or.inr ⟨_, rfl⟩) (pg_lt0 hL hp) (pg_k0 hL hp) (pg_r hL hp (i := 1) (by decide)) ?_
      refine E_aload_n dX6_append_46 rfl ?_
      refine E_getIL (v := nI (G + k)) dX6_append_47 kF_X6_43 kY_6 (Or.inl rfl) (pg_lt0 hL hp) (pg_k0 hL hp) (h9) ?_
      refine E_aload dX6_append_50 rfl ?_
      refine E_getIL (v := nI (yN (gat L k))) dX6_append_52 kF_X6_60 kY_2 (Or.inl rfl) (hc.glt (by omega)) (hc.gkd (by omega)) ((hc.g0 hk)) ?_
      refine E_iast dX6_append_55 (pg_lt hL hp (i := 12) (by decide)) (pg_kb hL hp (i := 12) (by decide)) rfl (by omega) (by decide) ?_
      refine E_aload_n dX6_append_56 rfl ?_
      refine E_getRL dX6_append_57 kF_X6_22 kY_6 (Or.inr ⟨_, rfl⟩) (pg_lt0 hL hp) (pg_k0 hL hp) (pg_r hL hp (i := 2) (by decide)) ?_
      refine E_aload_n dX6_append_60 rfl ?_
      refine E_getIL (v := nI (G + k)) dX6_append_61 kF_X6_43 kY_6 (Or.inl rfl) (pg_lt0 hL hp) (pg_k0 hL hp) ((mI_s (by omega)).trans (h9)) ?_
      refine E_aload dX6_append_64 rfl ?_
      refine E_getIL (v := nI (yC (gat L k))) dX6_append_66 kF_X6_65 kY_2 (Or.inl rfl) (hc.glt (by omega)) (hc.gkd (by omega)) ((mI_s (by omega)).trans ((hc.g1 hk))) ?_
      refine E_iast dX6_append_69 (pg_lt hL hp (i := 13) (by decide)) (pg_kb hL hp (i := 13) (by decide)) rfl (by omega) (by decide) ?_
      refine E_aload_n dX6_append_70 rfl ?_
      refine E_getRL dX6_append_71 kF_X6_25 kY_6 (Or.inr ⟨_, rfl⟩) (pg_lt0 hL hp) (pg_k0 hL hp) (pg_r hL hp (i := 3) (by decide)) ?_
      refine E_aload_n dX6_append_74 rfl ?_
      refine E_getIL (v := nI (G + k)) dX6_append_75 kF_X6_43 kY_6 (Or.inl rfl) (pg_lt0 hL hp) (pg_k0 hL hp) ((mI_s (by omega)).trans ((mI_s (by omega)).trans (h9))) ?_
      refine E_aload dX6_append_78 rfl ?_
      refine E_getIL (v := A 0 k) dX6_append_80 kF_X6_68 kY_2 (Or.inl rfl) (hc.glt (by omega)) (hc.gkd (by omega)) ((mI_s (by omega)).trans ((mI_s (by omega)).trans ((hq.a7 hk)))) ?_
      refine E_iast dX6_append_83 (pg_lt hL hp (i := 14) (by decide)) (pg_kb hL hp (i := 14) (by decide)) rfl (by omega) (by decide) ?_
      refine E_aload_n dX6_append_84 rfl ?_
      refine E_getRL dX6_append_85 kF_X6_28 kY_6 (Or.inr ⟨_, rfl⟩) (pg_lt0 hL hp) (pg_k0 hL hp) (pg_r hL hp (i := 4) (by decide)) ?_
      refine E_aload_n dX6_append_88 rfl ?_
      refine E_getIL (v := nI (G + k)) dX6_append_89 kF_X6_43 kY_6 (Or.inl rfl) (pg_lt0 hL hp) (pg_k0 hL hp) ((mI_s (by omega)).trans ((mI_s (by omega)).trans ((mI_s (by omega)).trans (h9)))) ?_
      refine E_aload dX6_append_92 rfl ?_
      refine E_getIL (v := A 1 k) dX6_append_94 kF_X6_71 kY_2 (Or.inl rfl) (hc.glt (by omega)) (hc.gkd (by omega)) ((mI_s (by omega)).trans ((mI_s (by omega)).trans ((mI_s (by omega)).trans ((hq.a8 hk))))) ?_
      refine E_iast dX6_append_97 (pg_lt hL hp (i := 15) (by decide)) (pg_kb hL hp (i := 15) (by decide)) rfl (by omega) (by decide) ?_
      refine E_aload_n dX6_append_98 rfl ?_
      refine E_getRL dX6_append_99 kF_X6_31 kY_6 (Or.inr ⟨_, rfl⟩) (pg_lt0 hL hp) (pg_k0 hL hp) (pg_r hL hp (i := 5) (by decide)) ?_
      refine E_aload_n dX6_append_102 rfl ?_
      refine E_getIL (v := nI (G + k)) dX6_append_103 kF_X6_43 kY_6 (Or.inl rfl) (pg_lt0 hL hp) (pg_k0 hL hp) ((mI_s (by omega)).trans ((mI_s (by omega)).trans ((mI_s (by omega)).trans ((mI_s (by omega)).trans (h9))))) ?_
      refine E_aload dX6_append_106 rfl ?_
      refine E_getIL (v := A 5 k) dX6_append_108 kF_X6_74 kY_2 (Or.inl rfl) (hc.glt (by omega)) (hc.gkd (by omega)) ((mI_s (by omega)).trans ((mI_s (by omega)).trans ((mI_s (by omega)).trans ((mI_s (by omega)).trans ((h5 _ hk)))))) ?_
      refine E_iast dX6_append_111 (pg_lt hL hp (i := 16) (by decide)) (pg_kb hL hp (i := 16) (by decide)) rfl (by omega) (by decide) ?_
      refine E_aload_n dX6_append_112 rfl ?_
      refine E_getRL dX6_append_113 kF_X6_34 kY_6 (Or.inr ⟨_, rfl⟩) (pg_lt0 hL hp) (pg_k0 hL hp) (pg_r hL hp (i := 6) (by decide)) ?_
      refine E_aload_n dX6_append_116 rfl ?_
      refine E_getIL (v := nI (G + k)) dX6_append_117 kF_X6_43 kY_6 (Or.inl rfl) (pg_lt0 hL hp) (pg_k0 hL hp) ((mI_s (by omega)).trans ((mI_s (by omega)).trans ((mI_s (by omega)).trans ((mI_s (by omega)).trans ((mI_s (by omega)).trans (h9)))))) ?_
      refine E_aload dX6_append_120 rfl ?_
      refine E_getIL (v := A 2 k) dX6_append_122 kF_X6_77 kY_2 (Or.inl rfl) (hc.glt (by omega)) (hc.gkd (by omega)) ((mI_s (by omega)).trans ((mI_s (by omega)).trans ((mI_s (by omega)).trans ((mI_s (by omega)).trans ((mI_s (by omega)).trans ((hq.a10 hk))))))) ?_
      refine E_bipush (v := -100) dX6_append_125 (by decide) ?_
      refine E_icmp_ne_r (tgt := 135) dX6_append_127 (by decide) (fun c_127 => ?_) (fun c_127 => ?_)
      · refine E_iload_n dX6_append_135 rfl ?_
        refine E_aload dX6_append_136 rfl ?_
        refine E_getIL (v := A 2 k) dX6_append_138 kF_X6_77 kY_2 (Or.inl rfl) (hc.glt (by omega)) (hc.gkd (by omega)) ((mI_s (by omega)).trans ((mI_s (by omega)).trans ((mI_s (by omega)).trans ((mI_s (by omega)).trans ((mI_s (by omega)).trans ((hq.a10 hk))))))) ?_
        refine E_iadd dX6_append_141 ?_
        refine E_iast dX6_append_142 (pg_lt hL hp (i := 17) (by decide)) (pg_kb hL hp (i := 17) (by decide)) rfl (by omega) (by decide) ?_
        refine E_aload_n dX6_append_143 rfl ?_
        refine E_getRL dX6_append_144 kF_X6_37 kY_6 (Or.inr ⟨_, rfl⟩) (pg_lt0 hL hp) (pg_k0 hL hp) (pg_r hL hp (i := 7) (by decide)) ?_
        refine E_aload_n dX6_append_147 rfl ?_
        refine E_getIL (v := nI (G + k)) dX6_append_148 kF_X6_43 kY_6 (Or.inl rfl) (pg_lt0 hL hp) (pg_k0 hL hp) ((mI_s (by omega)).trans ((mI_s (by omega)).trans ((mI_s (by omega)).trans ((mI_s (by omega)).trans ((mI_s (by omega)).trans ((mI_s (by omega)).trans (h9))))))) ?_
        refine E_aload dX6_append_151 rfl ?_
        refine E_getIL (v := A 3 k) dX6_append_153 kF_X6_80 kY_2 (Or.inl rfl) (hc.glt (by omega)) (hc.gkd (by omega)) ((mI_s (by omega)).trans ((mI_s (by omega)).trans ((mI_s (by omega)).trans ((mI_s (by omega)).trans ((mI_s (by omega)).trans ((mI_s (by omega)).trans ((hq.a11 hk)))))))) ?_
        refine E_iast dX6_append_156 (pg_lt hL hp (i := 18) (by decide)) (pg_kb hL hp (i := 18) (by decide)) rfl (by omega) (by decide) ?_
        refine E_aload_n dX6_append_157 rfl ?_
        refine E_getRL dX6_append_158 kF_X6_40 kY_6 (Or.inr ⟨_, rfl⟩) (pg_lt0 hL hp) (pg_k0 hL hp) (pg_r hL hp (i := 8) (by decide)) ?_
        refine E_aload_n dX6_append_161 rfl ?_
        refine E_getIL (v := nI (G + k)) dX6_append_162 kF_X6_43 kY_6 (Or.inl rfl) (pg_lt0 hL hp) (pg_k0 hL hp) ((mI_s (by omega)).trans ((mI_s (by omega)).trans ((mI_s (by omega)).trans ((mI_s (by omega)).trans ((mI_s (by omega)).trans ((mI_s (by omega)).trans ((mI_s (by omega)).trans (h9)))))))) ?_
        refine E_aload dX6_append_165 rfl ?_
        refine E_getIL (v := A 4 k) dX6_append_167 kF_X6_83 kY_2 (Or.inl rfl) (hc.glt (by omega)) (hc.gkd (by omega)) ((mI_s (by omega)).trans ((mI_s (by omega)).trans ((mI_s (by omega)).trans ((mI_s (by omega)).trans ((mI_s (by omega)).trans ((mI_s (by omega)).trans ((mI_s (by omega)).trans ((hq.a12 hk))))))))) ?_
        refine E_iast dX6_append_170 (pg_lt hL hp (i := 19) (by decide)) (pg_kb hL hp (i := 19) (by decide)) rfl (by omega) (by decide) ?_
        refine E_aload_n dX6_append_171 rfl ?_
        refine E_dup dX6_append_172 rfl ?_
        refine E_getIL (v := nI (G + k)) dX6_append_173 kF_X6_43 kY_6 (Or.inl rfl) (pg_lt0 hL hp) (pg_k0 hL hp) ((mI_s (by omega)).trans ((mI_s (by omega)).trans ((mI_s (by omega)).trans ((mI_s (by omega)).trans ((mI_s (by omega)).trans ((mI_s (by omega)).trans ((mI_s (by omega)).trans ((mI_s (by omega)).trans (h9))))))))) ?_
        refine E_iconst (v := nI 1) dX6_append_176 (by decide) ?_
        refine E_iadd_n dX6_append_177 ?_
        refine E_putI dX6_append_178 kF_X6_43 kY_6 (Or.inl rfl) (pg_lt0 hL hp) (pg_k0 hL hp) (Or.inl rfl) ?_
        refine E_aload_n dX6_append_181 rfl ?_
        refine E_dup dX6_append_182 rfl ?_
        refine E_getIL (v := left + smA A k) dX6_append_183 kF_X6_47 kY_6 (Or.inl rfl) (pg_lt0 hL hp) (pg_k0 hL hp) ((mI_s (by omega)).trans ((mI_s (by omega)).trans ((mI_s (by omega)).trans ((mI_s (by omega)).trans ((mI_s (by omega)).trans ((mI_s (by omega)).trans ((mI_s (by omega)).trans ((mI_s (by omega)).trans ((mI_s (by omega)).trans (h10)))))))))) ?_
        refine E_aload dX6_append_186 rfl ?_
        refine E_getIL (v := A 0 k) dX6_append_188 kF_X6_68 kY_2 (Or.inl rfl) (hc.glt (by omega)) (hc.gkd (by omega)) ((mI_s (by omega)).trans ((mI_s (by omega)).trans ((mI_s (by omega)).trans ((mI_s (by omega)).trans ((mI_s (by omega)).trans ((mI_s (by omega)).trans ((mI_s (by omega)).trans ((mI_s (by omega)).trans ((mI_s (by omega)).trans ((hq.a7 hk))))))))))) ?_
        refine E_iadd dX6_append_191 ?_
        refine E_putI dX6_append_192 kF_X6_47 kY_6 (Or.inl rfl) (pg_lt0 hL hp) (pg_k0 hL hp) (Or.inl rfl) ?_
        refine E_iinc_n (d := 1) dX6_append_195 rfl rfl rfl (by decide) rfl ?_
        refine E_goto (tgt := 14) dX6_append_198 (by decide) ?_
        first
          | exact fin _ (cI_t (by assumption)).symm _ rfl
          | exact fin _ (cI_f (by assumption)).symm _ rfl
      · refine E_bipush (v := -100) dX6_append_130 (by decide) ?_
        refine E_goto (tgt := 142) dX6_append_132 (by decide) ?_
        refine E_iast dX6_append_142 (pg_lt hL hp (i := 17) (by decide)) (pg_kb hL hp (i := 17) (by decide)) rfl (by omega) (by decide) ?_
        refine E_aload_n dX6_append_143 rfl ?_
        refine E_getRL dX6_append_144 kF_X6_37 kY_6 (Or.inr ⟨_, rfl⟩) (pg_lt0 hL hp) (pg_k0 hL hp) (pg_r hL hp (i := 7) (by decide)) ?_
        refine E_aload_n dX6_append_147 rfl ?_
        refine E_getIL (v := nI (G + k)) dX6_append_148 kF_X6_43 kY_6 (Or.inl rfl) (pg_lt0 hL hp) (pg_k0 hL hp) ((mI_s (by omega)).trans ((mI_s (by omega)).trans ((mI_s (by omega)).trans ((mI_s (by omega)).trans ((mI_s (by omega)).trans ((mI_s (by omega)).trans (h9))))))) ?_
        refine E_aload dX6_append_151 rfl ?_
        refine E_getIL (v := A 3 k) dX6_append_153 kF_X6_80 kY_2 (Or.inl rfl) (hc.glt (by omega)) (hc.gkd (by omega)) ((mI_s (by omega)).trans ((mI_s (by omega)).trans ((mI_s (by omega)).trans ((mI_s (by omega)).trans ((mI_s (by omega)).trans ((mI_s (by omega)).trans ((hq.a11 hk)))))))) ?_
        refine E_iast dX6_append_156 (pg_lt hL hp (i := 18) (by decide)) (pg_kb hL hp (i := 18) (by decide)) rfl (by omega) (by decide) ?_
        refine E_aload_n dX6_append_157 rfl ?_
        refine E_getRL dX6_append_158 kF_X6_40 kY_6 (Or.inr ⟨_, rfl⟩) (pg_lt0 hL hp) (pg_k0 hL hp) (pg_r hL hp (i := 8) (by decide)) ?_
        refine E_aload_n dX6_append_161 rfl ?_
        refine E_getIL (v := nI (G + k)) dX6_append_162 kF_X6_43 kY_6 (Or.inl rfl) (pg_lt0 hL hp) (pg_k0 hL hp) ((mI_s (by omega)).trans ((mI_s (by omega)).trans ((mI_s (by omega)).trans ((mI_s (by omega)).trans ((mI_s (by omega)).trans ((mI_s (by omega)).trans ((mI_s (by omega)).trans (h9)))))))) ?_
        refine E_aload dX6_append_165 rfl ?_
        refine E_getIL (v := A 4 k) dX6_append_167 kF_X6_83 kY_2 (Or.inl rfl) (hc.glt (by omega)) (hc.gkd (by omega)) ((mI_s (by omega)).trans ((mI_s (by omega)).trans ((mI_s (by omega)).trans ((mI_s (by omega)).trans ((mI_s (by omega)).trans ((mI_s (by omega)).trans ((mI_s (by omega)).trans ((hq.a12 hk))))))))) ?_
        refine E_iast dX6_append_170 (pg_lt hL hp (i := 19) (by decide)) (pg_kb hL hp (i := 19) (by decide)) rfl (by omega) (by decide) ?_
        refine E_aload_n dX6_append_171 rfl ?_
        refine E_dup dX6_append_172 rfl ?_
        refine E_getIL (v := nI (G + k)) dX6_append_173 kF_X6_43 kY_6 (Or.inl rfl) (pg_lt0 hL hp) (pg_k0 hL hp) ((mI_s (by omega)).trans ((mI_s (by omega)).trans ((mI_s (by omega)).trans ((mI_s (by omega)).trans ((mI_s (by omega)).trans ((mI_s (by omega)).trans ((mI_s (by omega)).trans ((mI_s (by omega)).trans (h9))))))))) ?_
        refine E_iconst (v := nI 1) dX6_append_176 (by decide) ?_
        refine E_iadd_n dX6_append_177 ?_
        refine E_putI dX6_append_178 kF_X6_43 kY_6 (Or.inl rfl) (pg_lt0 hL hp) (pg_k0 hL hp) (Or.inl rfl) ?_
        refine E_aload_n dX6_append_181 rfl ?_
        refine E_dup dX6_append_182 rfl ?_
        refine E_getIL (v := left + smA A k) dX6_append_183 kF_X6_47 kY_6 (Or.inl rfl) (pg_lt0 hL hp) (pg_k0 hL hp) ((mI_s (by omega)).trans ((mI_s (by omega)).trans ((mI_s (by omega)).trans ((mI_s (by omega)).trans ((mI_s (by omega)).trans ((mI_s (by omega)).trans ((mI_s (by omega)).trans ((mI_s (by omega)).trans ((mI_s (by omega)).trans (h10)))))))))) ?_
        refine E_aload dX6_append_186 rfl ?_
        refine E_getIL (v := A 0 k) dX6_append_188 kF_X6_68 kY_2 (Or.inl rfl) (hc.glt (by omega)) (hc.gkd (by omega)) ((mI_s (by omega)).trans ((mI_s (by omega)).trans ((mI_s (by omega)).trans ((mI_s (by omega)).trans ((mI_s (by omega)).trans ((mI_s (by omega)).trans ((mI_s (by omega)).trans ((mI_s (by omega)).trans ((mI_s (by omega)).trans ((hq.a7 hk))))))))))) ?_
        refine E_iadd dX6_append_191 ?_
        refine E_putI dX6_append_192 kF_X6_47 kY_6 (Or.inl rfl) (pg_lt0 hL hp) (pg_k0 hL hp) (Or.inl rfl) ?_
        refine E_iinc_n (d := 1) dX6_append_195 rfl rfl rfl (by decide) rfl ?_
        refine E_goto (tgt := 14) dX6_append_198 (by decide) ?_
        first
          | exact fin _ (cI_t (by assumption)).symm _ rfl
          | exact fin _ (cI_f (by assumption)).symm _ rfl
theorem add_sub_l (a b : Int32) : a + b - a = b := by grind
set_option maxRecDepth 100000 in
set_option maxHeartbeats 4000000 in
theorem lp_X6_append {g : gG} {Q : Option Value ⊕ String → gM → Prop} {c : Cf} {P : Nat → Nat} {Mb : gM} {L : List Gl} {π : Nat → Nat} {A : Pl} {pb : Nat} (hp : pb = 78 ∨ pb = 98) {G r : Nat} {left : Int32} (hG : G + L.length ≤ 1024) (hr : r < 16) (K : ∀ M, cS c P L π A M → kf (apR pb G r) (fun _ _ => False) Mb M → mI M pb 9 = nI (G + L.length) → mI M pb 10 = left + smA A L.length → pO pb G L A L.length M → mI M (pb + 8) r = nI G → mI M (pb + 9) r = nI (G + L.length) → mI M (pb + 10) r = left → mI M (pb + 11) r = smA A L.length → Q (.inl none) M) : ∀ k, k ≤ L.length → ∀ M v6, cS c P L π A M → kf (apR pb G r) (fun _ _ => False) Mb M → mI M pb 9 = nI (G + k) → mI M pb 10 = left + smA A k → pO pb G L A k M → E g 1 0 0 mX6_append 14 [.ref (pb + 1), .ref 7, .int (nI r), .int (nI G), .int left, .int (nI k), v6] [] M Q := by
  refine lpUp L.length (fun k hk ih => ?_)
  intro M v6 hs hf h9 h10 ho
  have hq := hs.1
  have hc := hq.1
  have hB := hc.B
  have hL := hB.lay
  have hn := hc.len
  by_cases hkl : k < L.length
  · exact st_X6_append hp hG hr hkl hs hf h9 h10 ho (fun M v6 hs hf h9 h10 ho => ih hkl M v6 hs hf h9 h10 ho) v6
  · obtain rfl : k = L.length := by omega
    refine E_iload dX6_append_14 rfl ?_
    refine E_aload_n dX6_append_16 rfl ?_
    refine E_getIL (v := nI (List.length _)) dX6_append_17 kF_X6_53 kY_8 (Or.inl rfl) (l_6 hL) (k_6 hL) hc.n ?_
    refine E_icmp_ge_n (tgt := 201) dX6_append_20 (by decide) (by omega) (by omega) (fun c_20 => ?_) (fun c_20 => ?_)
    · have hkf : ∀ v, kf (apR pb G r) (fun _ _ => False) M (sI (sI (sI (sI M (pb + 8) r (nI G)) (pb + 9) r (nI (G + L.length))) (pb + 10) r left) (pb + 11) r v) := fun v => (((kf.refl.wr (by unfold apR; omega)).wr (by unfold apR; omega)).wr (by unfold apR; omega)).wr (by unfold apR; omega)
      refine E_aload_n dX6_append_201 rfl ?_
      refine E_getRL dX6_append_202 kF_X6_12 kY_6 (Or.inl ⟨_, rfl⟩) (pg_lt0 hL hp) (pg_k0 hL hp) (pg_r0 hL hp) ?_
      refine E_getRL dX6_append_205 kF_X6_86 kY_9 (Or.inr ⟨_, rfl⟩) (pg_lt hL hp (i := 1) (by decide)) (pg_k1 hL hp) (pg_ru hL hp (i := 6) (by decide)) ?_
      refine E_iload_n dX6_append_208 rfl ?_
      refine E_iload_n dX6_append_209 rfl ?_
      refine E_iast dX6_append_210 (pg_lt hL hp (i := 8) (by decide)) (pg_ka hL hp (i := 8) (by decide)) rfl (by omega) (by decide) ?_
      refine E_aload_n dX6_append_211 rfl ?_
      refine E_getRL dX6_append_212 kF_X6_12 kY_6 (Or.inl ⟨_, rfl⟩) (pg_lt0 hL hp) (pg_k0 hL hp) (pg_r0 hL hp) ?_
      refine E_getRL dX6_append_215 kF_X6_89 kY_9 (Or.inr ⟨_, rfl⟩) (pg_lt hL hp (i := 1) (by decide)) (pg_k1 hL hp) (pg_ru hL hp (i := 7) (by decide)) ?_
      refine E_iload_n dX6_append_218 rfl ?_
      refine E_aload_n dX6_append_219 rfl ?_
      refine E_getIL (v := nI (G + L.length)) dX6_append_220 kF_X6_43 kY_6 (Or.inl rfl) (pg_lt0 hL hp) (pg_k0 hL hp) ((mI_s (by omega)).trans (h9)) ?_
      refine E_iast dX6_append_223 (pg_lt hL hp (i := 9) (by decide)) (pg_ka hL hp (i := 9) (by decide)) rfl (by omega) (by decide) ?_
      refine E_aload_n dX6_append_224 rfl ?_
      refine E_getRL dX6_append_225 kF_X6_12 kY_6 (Or.inl ⟨_, rfl⟩) (pg_lt0 hL hp) (pg_k0 hL hp) (pg_r0 hL hp) ?_
      refine E_getRL dX6_append_228 kF_X6_92 kY_9 (Or.inr ⟨_, rfl⟩) (pg_lt hL hp (i := 1) (by decide)) (pg_k1 hL hp) (pg_ru hL hp (i := 8) (by decide)) ?_
      refine E_iload_n dX6_append_231 rfl ?_
      refine E_iload dX6_append_232 rfl ?_
      refine E_iast dX6_append_234 (pg_lt hL hp (i := 10) (by decide)) (pg_ka hL hp (i := 10) (by decide)) rfl (by omega) (by decide) ?_
      refine E_aload_n dX6_append_235 rfl ?_
      refine E_getRL dX6_append_236 kF_X6_12 kY_6 (Or.inl ⟨_, rfl⟩) (pg_lt0 hL hp) (pg_k0 hL hp) (pg_r0 hL hp) ?_
      refine E_getRL dX6_append_239 kF_X6_93 kY_9 (Or.inr ⟨_, rfl⟩) (pg_lt hL hp (i := 1) (by decide)) (pg_k1 hL hp) (pg_ru hL hp (i := 9) (by decide)) ?_
      refine E_iload_n dX6_append_242 rfl ?_
      refine E_aload_n dX6_append_243 rfl ?_
      refine E_getIL (v := left + smA A L.length) dX6_append_244 kF_X6_47 kY_6 (Or.inl rfl) (pg_lt0 hL hp) (pg_k0 hL hp) ((mI_s (by omega)).trans ((mI_s (by omega)).trans ((mI_s (by omega)).trans (h10)))) ?_
      refine E_iload dX6_append_247 rfl ?_
      refine E_isub dX6_append_249 ?_
      refine E_iast dX6_append_250 (pg_lt hL hp (i := 11) (by decide)) (pg_ka hL hp (i := 11) (by decide)) rfl (by omega) (by decide) ?_
      refine E_vret dX6_append_251 rfl ?_
      rw [add_sub_l]
      exact K _ (hs.rb (hkf _) (apR_k hp) (fun _ _ q => q.elim)) (hf.trans (hkf _)) ((mI_s (by omega)).trans ((mI_s (by omega)).trans ((mI_s (by omega)).trans ((mI_s (by omega)).trans (h9))))) ((mI_s (by omega)).trans ((mI_s (by omega)).trans ((mI_s (by omega)).trans ((mI_s (by omega)).trans (h10))))) (fun q j hq hj => by rw [mI_s (by omega), mI_s (by omega), mI_s (by omega), mI_s (by omega)]; exact ho q j hq hj) ((mI_s (by omega)).trans ((mI_s (by omega)).trans ((mI_s (by omega)).trans mI_eq))) ((mI_s (by omega)).trans ((mI_s (by omega)).trans mI_eq)) ((mI_s (by omega)).trans mI_eq) mI_eq
    · exfalso; omega
set_option maxRecDepth 100000 in
set_option maxHeartbeats 4000000 in
theorem sp_X6_append {g : gG} {Q : Option Value ⊕ String → gM → Prop} {c : Cf} {P : Nat → Nat} {Mb : gM} {L : List Gl} {π : Nat → Nat} {A : Pl} {pb : Nat} (hp : pb = 78 ∨ pb = 98) {G r : Nat} {left : Int32} (hG : G + L.length ≤ 1024) (hr : r < 16) (K : ∀ M, cS c P L π A M → kf (apR pb G r) (fun _ _ => False) Mb M → mI M pb 9 = nI (G + L.length) → mI M pb 10 = left + smA A L.length → pO pb G L A L.length M → mI M (pb + 8) r = nI G → mI M (pb + 9) r = nI (G + L.length) → mI M (pb + 10) r = left → mI M (pb + 11) r = smA A L.length → Q (.inl none) M) (hs : cS c P L π A Mb) (h9 : mI Mb pb 9 = nI G) (h10 : mI Mb pb 10 = left) : E g 1 0 0 mX6_append 0 [.ref (pb + 1), .ref 7, .int (nI r), .null, .null, .null, .null] [] Mb Q := by
  have hc := hs.1.1
  have hB := hc.B
  have hL := hB.lay
  refine E_aload_n dX6_append_0 rfl ?_
  refine E_getIL (v := nI G) dX6_append_1 kF_X6_43 kY_6 (Or.inl rfl) (pg_lt0 hL hp) (pg_k0 hL hp) h9 ?_
  refine E_istore_n dX6_append_4 (Nat.le_of_ble_eq_true rfl) (by decide) rfl ?_
  refine E_aload_n dX6_append_5 rfl ?_
  refine E_getIL (v := left) dX6_append_6 kF_X6_47 kY_6 (Or.inl rfl) (pg_lt0 hL hp) (pg_k0 hL hp) h10 ?_
  refine E_istore dX6_append_9 (Nat.le_of_ble_eq_true rfl) (by decide) rfl ?_
  refine E_iconst (v := nI 0) dX6_append_11 (by decide) ?_
  refine E_istore dX6_append_12 (Nat.le_of_ble_eq_true rfl) (by decide) rfl ?_
  exact lp_X6_append hp hG hr K 0 (Nat.zero_le _) Mb _ hs kf.refl h9 (h10.trans (by show left = left + nI 0; rw [add_n0])) (fun q j hq hj => absurd hj (Nat.not_lt_zero j))
set_option maxRecDepth 100000 in
set_option maxHeartbeats 4000000 in
theorem sp_X6_clear {g : gG} {M : gM} {Q : Option Value ⊕ String → gM → Prop} (hL : gLay M) {pb : Nat} (hp : pb = 78 ∨ pb = 98) (K : Q (.inl none) (sI (sI (sI M pb 9 (nI 0)) pb 10 (nI 0)) (pb + 1) 10 (nI 0))) : E g 1 0 0 mX6_clear 0 [.ref (pb + 1)] [] M Q := by
  refine E_aload_n dX6_clear_0 rfl ?_
  refine E_iconst (v := nI 0) dX6_clear_1 (by decide) ?_
  refine E_putI dX6_clear_2 kF_X6_43 kY_6 (Or.inl rfl) (pg_lt0 hL hp) (pg_k0 hL hp) (Or.inl rfl) ?_
  refine E_aload_n dX6_clear_5 rfl ?_
  refine E_iconst (v := nI 0) dX6_clear_6 (by decide) ?_
  refine E_putI dX6_clear_7 kF_X6_47 kY_6 (Or.inl rfl) (pg_lt0 hL hp) (pg_k0 hL hp) (Or.inl rfl) ?_
  refine E_aload_n dX6_clear_10 rfl ?_
  refine E_getRL dX6_clear_11 kF_X6_12 kY_6 (Or.inl ⟨_, rfl⟩) (pg_lt0 hL hp) (pg_k0 hL hp) (pg_r0 hL hp) ?_
  refine E_iconst (v := nI 0) dX6_clear_14 (by decide) ?_
  refine E_putI dX6_clear_15 kF_X6_50 kY_9 (Or.inl rfl) (pg_lt hL hp (i := 1) (by decide)) (pg_k1 hL hp) (Or.inl rfl) ?_
  refine E_vret dX6_clear_18 rfl ?_
  exact K
