/-! the class: a line filled -/
theorem ru_of {c : Cf} (hw : WFc c) {p r : Nat} (hr : r < tr c) (h1 : tn c r ≤ p) (h2 : p < tn c (r + 1)) : ru c p = r := by
  have ht : tl c ≤ 16 := hw.tl
  refine fnd_eq (P := fun j => p < tn c (j + 1)) (Nat.zero_le _) (Nat.le_of_lt hr) (fun _ => h2) (fun j _ hj z => ?_)
  have := rn_m (c := c) (Nat.zero_le (tl c)) (show j + 1 ≤ r by omega) (Nat.le_of_lt hr)
  have z : p < rn c 0 (tl c) (j + 1) := z
  have h1 : rn c 0 (tl c) r ≤ p := h1
  omega
theorem kclV_inj {a b : Nat} (ha : a < 100) (hb : b < 100) : clV a = clV b ↔ a = b := by
  unfold clV
  by_cases h1 : a = 0
  · by_cases h2 : b = 0
    · rw [cI_t h1, cI_t h2]; exact ⟨fun _ => by omega, fun _ => rfl⟩
    · rw [cI_t h1, cI_f h2]
      exact ⟨fun z => absurd z.symm (nI_ne100 (by omega)), fun z => by omega⟩
  · by_cases h2 : b = 0
    · rw [cI_f h1, cI_t h2]
      exact ⟨fun z => absurd z (nI_ne100 (by omega)), fun z => by omega⟩
    · rw [cI_f h1, cI_f h2, nI_eq (by omega) (by omega)]; omega
theorem mor_le {m d : Nat} (hm : m < 2 ^ 20) (hd : d < 2 ^ 20) : nI m - nI d ≤ 0 ↔ m ≤ d := by
  have h := bd_sub (bd_n (a := m) (by omega)) (bd_n (a := d) (by omega)) (by omega)
  have e : (nI m - nI d).toInt = (m : Int) - (d : Int) := by rw [Int32.toInt_sub, nI_toInt (by omega), nI_toInt (by omega), bm (by omega) (by omega)]
  rw [Int32.le_iff_toInt_le, e, show (0 : Int32).toInt = 0 from rfl]
  omega
theorem mor_s (m d : Nat) : nI m - nI d + Int32.ofInt (-1) = nI m - nI (d + 1) := by
  rw [← nI_add]
  have e : Int32.ofInt (-1) = - nI 1 := by decide
  rw [e]; grind
theorem mor_0 (m : Nat) : nI m = nI m - nI 0 := by
  have e : nI 0 = (0 : Int32) := rfl
  rw [e]; grind
set_option maxRecDepth 100000 in
set_option maxHeartbeats 4000000 in
theorem sp_X3_takesStroke {g : gG} {M : gM} {Q : Option Value ⊕ String → gM → Prop} {c : Cf} {P π : Nat → Nat} (hQ : qC c P π M) {k : Nat} (hp : k < tl c) (K : Q (.inl (some (.int (b2i (msP c k))))) M) : E g 3 0 0 mX3_takesStroke 0 [.ref 79, .ref 3, .int (nI k), .null, .null] [] M Q := by
  have hB := hQ.B
  have hL := hB.lay
  have h16 := hQ.t16
  have hn16 := hQ.nr16
  have hg := hQ.g1024
  have hgt : tg c (tr c) ≤ 1024 := hg
  have hru := ru_b hB.wf hp
  have hsb := scr_b c 0 (tl c) k
  have hfb := fcO_b hB.wf k
  have tx := (hB.wf.tx k).1
  have htn := hQ.tn16 (show ru c k + 1 ≤ tr c by omega)
  have hj := (fnd_spec (P := fun j => ¬ cMk (cN c 141 j)) (show k + 1 ≤ tn c (ru c k + 1) by omega)).1
  have hj : k + 1 ≤ jon c (tn c (ru c k + 1)) k := hj
  have no : ¬ msP c k → Q (.inl (some (.int (nI 0)))) M := fun z => by rw [← b2i_f (P := msP c k) z]; exact K
  have hp78 : 78 = 78 ∨ 78 = 98 := Or.inl rfl
  refine E_aload_n dX3_takesStroke_0 rfl ?_
  refine E_getRL dX3_takesStroke_1 kF_X3_45 kY_6 (Or.inl ⟨_, rfl⟩) (l_78 hL) (k_78 hL) (r_78_0 hL) ?_
  refine E_getRL dX3_takesStroke_4 kF_X3_49 kY_9 (Or.inr ⟨_, rfl⟩) (l_79 hL) (k_79 hL) (r_79_1 hL) ?_
  refine E_iload_n dX3_takesStroke_7 rfl ?_
  refine E_ialdL (v := frm c (tn c (ru c k)) (tn c (ru c k + 1)) k) dX3_takesStroke_8 (l_81 hL) (k_81 hL) rfl (by omega) (by decide) (hQ.fo hp) ?_
  refine E_istore_n dX3_takesStroke_9 (Nat.le_of_ble_eq_true rfl) (by decide) rfl ?_
  refine E_aload_n dX3_takesStroke_10 rfl ?_
  refine E_getRL dX3_takesStroke_11 kF_X3_54 kY_10 (Or.inr ⟨_, rfl⟩) (l_2 hL) (k_2 hL) (r_2_0 hL) ?_
  refine E_iload_n dX3_takesStroke_14 rfl ?_
  refine E_ialdL (v := nI (cN _ 141 _)) dX3_takesStroke_15 (l_3 hL) (k_3 hL) rfl (by omega) (by decide) (hB.sg (by omega)) ?_
  refine E_callS1 (fr' := 1) (k1 := 0) (n1 := 0) (k2 := 0) (n2 := 0) dX3_takesStroke_16 kO_X11_joinsOnBothSides kL_X3_57 rfl (by decide) (by decide) (by exact Nat.le_of_ble_eq_true rfl) (Or.inl rfl) rfl ?_
  refine sp_X11_joinsOnBothSides (by first | omega | exact Nat.lt_trans (hB.wf.tx _).1 (by decide) | exact Nat.lt_trans (hc.n256 _) (by decide)) ?_
  refine gKv ?_
  refine E_if_eq_b (tgt := 32) dX3_takesStroke_19 (by decide) (fun c_19 => ?_) (fun c_19 => ?_)
  · refine E_iconst (v := nI 0) dX3_takesStroke_32 (by decide) ?_
    refine E_iret dX3_takesStroke_33 (Or.inr ⟨rfl, by decide⟩) ?_
    first
      | exact no (fun z => absurd z.1 (by assumption))
      | exact no (fun z => z.2.1.elim (by assumption) (by assumption))
  · refine E_iload_n dX3_takesStroke_22 rfl ?_
    refine E_iconst (v := nI 1) dX3_takesStroke_23 (by decide) ?_
    refine E_icmp_eq (tgt := 34) dX3_takesStroke_24 (by decide) (fun c_24 => ?_) (fun c_24 => ?_)
    · refine E_aload_n dX3_takesStroke_34 rfl ?_
      refine E_getRL dX3_takesStroke_35 kF_X3_45 kY_6 (Or.inl ⟨_, rfl⟩) (l_78 hL) (k_78 hL) (r_78_0 hL) ?_
      refine E_aload_n dX3_takesStroke_38 rfl ?_
      refine E_iload_n dX3_takesStroke_39 rfl ?_
      refine E_callV2 (fr' := 2) (k1 := 0) (n1 := 0) (k2 := 0) (n2 := 0) dX3_takesStroke_40 kO_X9_nextLetter kL_X3_61 (l_79 hL) (k_79 hL) ⟨by decide, rfl⟩ rfl rfl (by decide) (by decide) (by exact Nat.le_of_ble_eq_true rfl) rfl ?_
      refine sp_X9_nextLetter (pb := 78) hB hp78 (by omega) (hQ.of hp) (hQ.en hru.1) (by omega) hru.2.2 ?_
      refine gKv ?_
      by_cases hx : jon c (tn c (ru c k + 1)) k < tn c (ru c k + 1)
      · rw [afV_n hx]
        have hrn : ru c (jon c (tn c (ru c k + 1)) k) = ru c k := ru_of hB.wf hru.1 (by omega) hx
        have hc1 := cl_o (c := c) (r := ru c k) (p := k)
        have hc2 := cl_o (c := c) (r := ru c k) (p := jon c (tn c (ru c k + 1)) k)
        have hfr : frm c (tn c (ru c k)) (tn c (ru c k + 1)) k = nI 1 ∨ frm c (tn c (ru c k)) (tn c (ru c k + 1)) k = nI 2 := by
          first
            | exact Or.inl (by assumption)
            | exact Or.inr (by assumption)
        refine E_istore dX3_takesStroke_43 (Nat.le_of_ble_eq_true rfl) (by decide) rfl ?_
        refine E_iload dX3_takesStroke_45 rfl ?_
        refine E_bipush (v := -100) dX3_takesStroke_47 (by decide) ?_
        refine E_icmp_eq (tgt := 70) dX3_takesStroke_49 (by decide) (fun c0 => absurd c0 (nI_ne100 (by omega))) (fun _ => ?_)
        refine E_aload_n dX3_takesStroke_52 rfl ?_
        refine E_iload_n dX3_takesStroke_53 rfl ?_
        refine E_callV1 (fr' := 1) (k1 := 0) (n1 := 0) (k2 := 0) (n2 := 0) dX3_takesStroke_54 kO_X6_ownerOf kL_X3_65 (l_78 hL) (k_78 hL) ⟨by decide, rfl⟩ rfl (by decide) (by decide) (by exact Nat.le_of_ble_eq_true rfl) rfl ?_
        refine sp_X6_ownerOf hQ hp ?_
        refine gKv ?_
        refine E_aload_n dX3_takesStroke_57 rfl ?_
        refine E_iload dX3_takesStroke_58 rfl ?_
        refine E_callV1 (fr' := 1) (k1 := 0) (n1 := 0) (k2 := 0) (n2 := 0) dX3_takesStroke_60 kO_X6_ownerOf kL_X3_65 (l_78 hL) (k_78 hL) ⟨by decide, rfl⟩ rfl (by decide) (by decide) (by exact Nat.le_of_ble_eq_true rfl) rfl ?_
        refine sp_X6_ownerOf hQ (by omega) ?_
        rw [hrn]
        refine gKv ?_
        refine E_icmp_eq (tgt := 70) dX3_takesStroke_63 (by decide) (fun c_63 => ?_) (fun c_63 => ?_)
        · refine E_iconst (v := nI 0) dX3_takesStroke_70 (by decide) ?_
          refine E_iret dX3_takesStroke_71 (Or.inr ⟨rfl, by decide⟩) ?_
          first
            | (rw [← b2i_t (P := msP c k) ⟨by assumption, hfr, hx, fun z => absurd (congrArg clV z) (by assumption)⟩]; exact K)
            | exact no (fun z => z.2.2.2 ((kclV_inj (by omega) (by omega)).mp (by assumption)))
        · refine E_iconst (v := nI 1) dX3_takesStroke_66 (by decide) ?_
          refine E_goto (tgt := 71) dX3_takesStroke_67 (by decide) ?_
          refine E_iret dX3_takesStroke_71 (Or.inr ⟨rfl, by decide⟩) ?_
          first
            | (rw [← b2i_t (P := msP c k) ⟨by assumption, hfr, hx, fun z => absurd (congrArg clV z) (by assumption)⟩]; exact K)
            | exact no (fun z => z.2.2.2 ((kclV_inj (by omega) (by omega)).mp (by assumption)))
      · rw [afV_0 hx]
        refine E_istore dX3_takesStroke_43 (Nat.le_of_ble_eq_true rfl) (by decide) rfl ?_
        refine E_iload dX3_takesStroke_45 rfl ?_
        refine E_bipush (v := -100) dX3_takesStroke_47 (by decide) ?_
        refine E_icmp_eq (tgt := 70) dX3_takesStroke_49 (by decide) (fun _ => ?_) (fun c0 => absurd (by decide) c0)
        refine E_iconst (v := nI 0) dX3_takesStroke_70 (by decide) ?_
        refine E_iret dX3_takesStroke_71 (Or.inr ⟨rfl, by decide⟩) ?_
        exact no (fun z => hx z.2.2.1)
    · refine E_iload_n dX3_takesStroke_27 rfl ?_
      refine E_iconst (v := nI 2) dX3_takesStroke_28 (by decide) ?_
      refine E_icmp_eq (tgt := 34) dX3_takesStroke_29 (by decide) (fun c_29 => ?_) (fun c_29 => ?_)
      · refine E_aload_n dX3_takesStroke_34 rfl ?_
        refine E_getRL dX3_takesStroke_35 kF_X3_45 kY_6 (Or.inl ⟨_, rfl⟩) (l_78 hL) (k_78 hL) (r_78_0 hL) ?_
        refine E_aload_n dX3_takesStroke_38 rfl ?_
        refine E_iload_n dX3_takesStroke_39 rfl ?_
        refine E_callV2 (fr' := 2) (k1 := 0) (n1 := 0) (k2 := 0) (n2 := 0) dX3_takesStroke_40 kO_X9_nextLetter kL_X3_61 (l_79 hL) (k_79 hL) ⟨by decide, rfl⟩ rfl rfl (by decide) (by decide) (by exact Nat.le_of_ble_eq_true rfl) rfl ?_
        refine sp_X9_nextLetter (pb := 78) hB hp78 (by omega) (hQ.of hp) (hQ.en hru.1) (by omega) hru.2.2 ?_
        refine gKv ?_
        by_cases hx : jon c (tn c (ru c k + 1)) k < tn c (ru c k + 1)
        · rw [afV_n hx]
          have hrn : ru c (jon c (tn c (ru c k + 1)) k) = ru c k := ru_of hB.wf hru.1 (by omega) hx
          have hc1 := cl_o (c := c) (r := ru c k) (p := k)
          have hc2 := cl_o (c := c) (r := ru c k) (p := jon c (tn c (ru c k + 1)) k)
          have hfr : frm c (tn c (ru c k)) (tn c (ru c k + 1)) k = nI 1 ∨ frm c (tn c (ru c k)) (tn c (ru c k + 1)) k = nI 2 := by
            first
              | exact Or.inl (by assumption)
              | exact Or.inr (by assumption)
          refine E_istore dX3_takesStroke_43 (Nat.le_of_ble_eq_true rfl) (by decide) rfl ?_
          refine E_iload dX3_takesStroke_45 rfl ?_
          refine E_bipush (v := -100) dX3_takesStroke_47 (by decide) ?_
          refine E_icmp_eq (tgt := 70) dX3_takesStroke_49 (by decide) (fun c0 => absurd c0 (nI_ne100 (by omega))) (fun _ => ?_)
          refine E_aload_n dX3_takesStroke_52 rfl ?_
          refine E_iload_n dX3_takesStroke_53 rfl ?_
          refine E_callV1 (fr' := 1) (k1 := 0) (n1 := 0) (k2 := 0) (n2 := 0) dX3_takesStroke_54 kO_X6_ownerOf kL_X3_65 (l_78 hL) (k_78 hL) ⟨by decide, rfl⟩ rfl (by decide) (by decide) (by exact Nat.le_of_ble_eq_true rfl) rfl ?_
          refine sp_X6_ownerOf hQ hp ?_
          refine gKv ?_
          refine E_aload_n dX3_takesStroke_57 rfl ?_
          refine E_iload dX3_takesStroke_58 rfl ?_
          refine E_callV1 (fr' := 1) (k1 := 0) (n1 := 0) (k2 := 0) (n2 := 0) dX3_takesStroke_60 kO_X6_ownerOf kL_X3_65 (l_78 hL) (k_78 hL) ⟨by decide, rfl⟩ rfl (by decide) (by decide) (by exact Nat.le_of_ble_eq_true rfl) rfl ?_
          refine sp_X6_ownerOf hQ (by omega) ?_
          rw [hrn]
          refine gKv ?_
          refine E_icmp_eq (tgt := 70) dX3_takesStroke_63 (by decide) (fun c_63 => ?_) (fun c_63 => ?_)
          · refine E_iconst (v := nI 0) dX3_takesStroke_70 (by decide) ?_
            refine E_iret dX3_takesStroke_71 (Or.inr ⟨rfl, by decide⟩) ?_
            first
              | (rw [← b2i_t (P := msP c k) ⟨by assumption, hfr, hx, fun z => absurd (congrArg clV z) (by assumption)⟩]; exact K)
              | exact no (fun z => z.2.2.2 ((kclV_inj (by omega) (by omega)).mp (by assumption)))
          · refine E_iconst (v := nI 1) dX3_takesStroke_66 (by decide) ?_
            refine E_goto (tgt := 71) dX3_takesStroke_67 (by decide) ?_
            refine E_iret dX3_takesStroke_71 (Or.inr ⟨rfl, by decide⟩) ?_
            first
              | (rw [← b2i_t (P := msP c k) ⟨by assumption, hfr, hx, fun z => absurd (congrArg clV z) (by assumption)⟩]; exact K)
              | exact no (fun z => z.2.2.2 ((kclV_inj (by omega) (by omega)).mp (by assumption)))
        · rw [afV_0 hx]
          refine E_istore dX3_takesStroke_43 (Nat.le_of_ble_eq_true rfl) (by decide) rfl ?_
          refine E_iload dX3_takesStroke_45 rfl ?_
          refine E_bipush (v := -100) dX3_takesStroke_47 (by decide) ?_
          refine E_icmp_eq (tgt := 70) dX3_takesStroke_49 (by decide) (fun _ => ?_) (fun c0 => absurd (by decide) c0)
          refine E_iconst (v := nI 0) dX3_takesStroke_70 (by decide) ?_
          refine E_iret dX3_takesStroke_71 (Or.inr ⟨rfl, by decide⟩) ?_
          exact no (fun z => hx z.2.2.1)
      · refine E_iconst (v := nI 0) dX3_takesStroke_32 (by decide) ?_
        refine E_iret dX3_takesStroke_33 (Or.inr ⟨rfl, by decide⟩) ?_
        first
          | exact no (fun z => absurd z.1 (by assumption))
          | exact no (fun z => z.2.1.elim (by assumption) (by assumption))
def lnR (a _j : Nat) : Prop := a = 76 ∨ a = 77
def lgR (a _j : Nat) : Prop := a = 77
/-- what a line does not change -/
theorem qC.mv {c : Cf} {P π : Nat → Nat} {M M' : gM} {S T : Nat → Nat → Prop} (h : qC c P π M) (hf : kf S T M M') (hs : ∀ a j, S a j → ¬ told a j ∧ ¬ (78 ≤ a ∧ a ≤ 97)) (ht : ∀ a j, T a j → kT a j ∧ ¬ a = 7) : qC c P π M' :=
  ⟨h.1.mv hf (fun a j q => (hs a j q).1) (fun a j q => (ht a j q).1), ⟨fun i hi => ⟨(h.2.1.1 i hi).1, (hf.bkR (fun z => (ht 7 i z).2 rfl)).trans (h.2.1.1 i hi).2⟩, h.2.1.2⟩, h.2.2.1.mv hf (fun x j z => by have := hs x j z; omega), h.2.2.2.mv hf (fun x j z => by have := hs x j z; omega)⟩
theorem qC.ln {c : Cf} {P π : Nat → Nat} {M M' : gM} (h : qC c P π M) (hf : kf lnR (fun _ _ => False) M M') : qC c P π M' := h.mv hf (fun a j z => by unfold lnR at z; unfold told; omega) (fun _ _ z => z.elim)
/-- what is put behind the signs from k on -/
def giS (c : Cf) (q k : Nat) (M : gM) : Prop := (∀ j, j < k → mI M 77 j = nI 0) ∧ ∀ j, k ≤ j → j < tl c → mI M 77 j = cI (msP c j) (nI (stN c q j)) (nI 0)
theorem giS.t {c : Cf} {q k : Nat} {M : gM} (h : giS c q (k + 1) M) {v : Int32} (hv : v = nI (stN c q k)) (hm : msP c k) : giS c q k (sI M 77 k v) := by
  refine ⟨fun j hj => (mI_nj (by omega)).trans (h.1 j (by omega)), fun j h1 h2 => ?_⟩
  by_cases e : j = k
  · subst e; rw [mI_eq, cI_t hm, hv]
  · exact (mI_nj e).trans (h.2 j (by omega) h2)
theorem giS.f {c : Cf} {q k : Nat} {M : gM} (h : giS c q (k + 1) M) (hm : ¬ msP c k) : giS c q k M := by
  refine ⟨fun j hj => h.1 j (by omega), fun j h1 h2 => ?_⟩
  by_cases e : j = k
  · subst e; rw [h.1 j (by omega), cI_f hm]
  · exact h.2 j (by omega) h2
set_option maxRecDepth 100000 in
set_option maxHeartbeats 4000000 in
theorem lp2_X3_setStrokes {g : gG} {Q : Option Value ⊕ String → gM → Prop} {c : Cf} {P π : Nat → Nat} {Mb : gM} {q : Nat} (hq : q < 2 ^ 30) (hm0 : 0 < stM c) (K : ∀ M, qC c P π M → kf lgR (fun _ _ => False) Mb M → giS c q 0 M → Q (.inl none) M) : ∀ k, 0 ≤ k → k ≤ tl c → ∀ M v, qC c P π M → kf lgR (fun _ _ => False) Mb M → giS c q k M → v = nI (stA c q % stM c) - nI (stM c - msC c k) → E g 4 0 0 mX3_setStrokes 80 [.ref 77, .ref 79, .ref 3, .int (nI (wSt c)), .int (nI (stM c)), .int (nI (stA c q)), .int v, .int (dI k)] [] M Q := by
  refine lpDn 0 (fun k _ ih => ?_)
  intro hk M v hQ hf hg hv
  have hB := hQ.B
  have hL := hB.lay
  have h16 := hQ.t16
  have hn16 := hQ.nr16
  have hg := hQ.g1024
  have hgt : tg c (tr c) ≤ 1024 := hg
  have hA := stA_b c q
  have hM16 : stM c ≤ 16 := Nat.le_trans (msC_b c (tl c)) h16
  have hmod := Nat.mod_lt (stA c q) hm0
  refine E_iload dX3_setStrokes_80 rfl ?_
  refine E_if_lt_d (tgt := 130) dX3_setStrokes_82 (by decide) (by omega) (fun c_82 => ?_) (fun c_82 => ?_)
  · refine E_vret dX3_setStrokes_130 rfl ?_
    subst c_82
    exact K M hQ hf hg
  · obtain ⟨k, rfl⟩ : ∃ z, k = z + 1 := ⟨k - 1, by omega⟩
    simp only [Nat.add_sub_cancel] at ih
    rw [dI_succ]
    have hkm := msC_m (c := c) (j := k + 1) (tl c) (by omega)
    have hMe : stM c = msC c (tl c) := rfl
    refine E_aload_n dX3_setStrokes_85 rfl ?_
    refine E_aload_n dX3_setStrokes_86 rfl ?_
    refine E_iload dX3_setStrokes_87 rfl ?_
    refine E_callS3 (fr' := 3) (k1 := 0) (n1 := 0) (k2 := 0) (n2 := 0) dX3_setStrokes_89 kO_X3_takesStroke kL_X3_41 rfl rfl rfl (by decide) (by decide) (by exact Nat.le_of_ble_eq_true rfl) (Or.inl rfl) rfl ?_
    refine sp_X3_takesStroke hQ (by omega) ?_
    refine gKv ?_
    refine E_if_ne_b (tgt := 98) dX3_setStrokes_92 (by decide) (fun c_92 => ?_) (fun c_92 => ?_)
    · have hm : msP c k := by assumption
      have hmt := msC_t hm
      have hle := mor_le (m := stA c q % stM c) (d := stM c - msC c (k + 1)) (by omega) (by omega)
      have hs : stN c q k = stA c q / stM c + cI (stM c - msC c (k + 1) < stA c q % stM c) 1 0 := rfl
      subst hv
      have eN : ∀ x, x = cI (stM c - msC c (k + 1) < stA c q % stM c) 1 0 → nI (stA c q / stM c + x) = nI (stN c q k) := fun x hx => by rw [hs, hx]
      have go : ∀ x, x = cI (stM c - msC c (k + 1) < stA c q % stM c) 1 0 → E g 4 0 0 mX3_setStrokes 119 [.ref 77, .ref 79, .ref 3, .int (nI (wSt c)), .int (nI (stM c)), .int (nI (stA c q)), .int (nI (stA c q % stM c) - nI (stM c - msC c (k + 1))), .int (nI k)] [.int (nI x), .int (nI (stA c q / stM c)), .int (nI k), .ref (77 + 1)] M Q := by
        intro x hx
        refine E_iadd_n dX3_setStrokes_119 ?_
        refine E_iast dX3_setStrokes_120 (l_77 hL) (k_77 hL) rfl (by omega) (by decide) ?_
        have hf2 : kf lgR (fun _ _ => False) M (sI M 77 k (nI (stA c q / stM c + x))) := kf.refl.wr rfl
        have hQ2 := hQ.ln (hf2.mono (fun _ _ z => Or.inr z) (fun _ _ z => z))
        have hL := hQ2.B.lay
        refine E_iinc dX3_setStrokes_121 rfl rfl (by decide) rfl ?_
        rw [mor_s]
        refine E_iinc_d dX3_setStrokes_124 rfl rfl (by decide) rfl ?_
        refine E_goto (tgt := 80) dX3_setStrokes_127 (by decide) ?_
        exact ih (by omega) (by omega) _ _ hQ2 (hf.trans hf2) (hg.t (eN x hx) hm) (by rw [show stM c - msC c (k + 1) + 1 = stM c - msC c k by omega])
      refine E_aload_n dX3_setStrokes_98 rfl ?_
      refine E_getRL dX3_setStrokes_99 kF_X3_9 kY_3 (Or.inr ⟨_, rfl⟩) (l_76 hL) (k_76 hL) (r_76_0 hL) ?_
      refine E_iload dX3_setStrokes_102 rfl ?_
      refine E_iload dX3_setStrokes_104 rfl ?_
      refine E_iload dX3_setStrokes_106 rfl ?_
      refine E_idiv_n dX3_setStrokes_108 (by omega) (by omega) (by omega) ?_
      refine E_iload dX3_setStrokes_109 rfl ?_
      refine E_if_le (tgt := 118) dX3_setStrokes_111 (by decide) (fun c_111 => ?_) (fun c_111 => ?_)
      · refine E_iconst (v := nI 0) dX3_setStrokes_118 (by decide) ?_
        first
          | exact go 1 (cI_t (Nat.not_le.mp (fun z => by have := hle.mpr z; contradiction))).symm
          | exact go 0 (cI_f (by have := hle.mp (by assumption); omega)).symm
      · refine E_iconst (v := nI 1) dX3_setStrokes_114 (by decide) ?_
        refine E_goto (tgt := 119) dX3_setStrokes_115 (by decide) ?_
        first
          | exact go 1 (cI_t (Nat.not_le.mp (fun z => by have := hle.mpr z; contradiction))).symm
          | exact go 0 (cI_f (by have := hle.mp (by assumption); omega)).symm
    · have hn : ¬ msP c k := by assumption
      refine E_goto (tgt := 124) dX3_setStrokes_95 (by decide) ?_
      refine E_iinc_d dX3_setStrokes_124 rfl rfl (by decide) rfl ?_
      refine E_goto (tgt := 80) dX3_setStrokes_127 (by decide) ?_
      exact ih (by omega) (by omega) M v hQ hf (hg.f hn) (by rw [hv, msC_f hn])
set_option maxRecDepth 100000 in
set_option maxHeartbeats 4000000 in
theorem lp1_X3_setStrokes {g : gG} {M : gM} {Q : Option Value ⊕ String → gM → Prop} {c : Cf} {P π : Nat → Nat} (hQ : qC c P π M) (K : ∀ v5 v6 v7, E g 4 0 0 mX3_setStrokes 34 [.ref 77, .ref 79, .ref 3, .int (nI (wSt c)), .int (nI (stM c)), v5, v6, v7] [] M Q) : ∀ k, k ≤ tl c → ∀ v6 v7, E g 4 0 0 mX3_setStrokes 6 [.ref 77, .ref 79, .ref 3, .int (nI (wSt c)), .int (nI (msC c k)), .int (nI k), v6, v7] [] M Q := by
  have hB := hQ.B
  have hL := hB.lay
  have h16 := hQ.t16
  have hn16 := hQ.nr16
  have hg := hQ.g1024
  have hgt : tg c (tr c) ≤ 1024 := hg
  refine lpUp (tl c) (fun k hk ih => ?_)
  intro v6 v7
  have hmb := msC_b c k
  refine E_iload dX3_setStrokes_6 rfl ?_
  refine E_aload_n dX3_setStrokes_8 rfl ?_
  refine E_getIL (v := nI (tl _)) dX3_setStrokes_9 kF_X3_36 kY_10 (Or.inl rfl) (l_2 hL) (k_2 hL) hB.len ?_
  refine E_icmp_ge_n (tgt := 34) dX3_setStrokes_12 (by decide) (by omega) (by omega) (fun c_12 => ?_) (fun c_12 => ?_)
  · obtain rfl : k = tl c := by omega
    exact K _ _ _
  · refine E_aload_n dX3_setStrokes_15 rfl ?_
    refine E_aload_n dX3_setStrokes_16 rfl ?_
    refine E_iload dX3_setStrokes_17 rfl ?_
    refine E_callS3 (fr' := 3) (k1 := 0) (n1 := 0) (k2 := 0) (n2 := 0) dX3_setStrokes_19 kO_X3_takesStroke kL_X3_41 rfl rfl rfl (by decide) (by decide) (by exact Nat.le_of_ble_eq_true rfl) (Or.inl rfl) rfl ?_
    refine sp_X3_takesStroke hQ (by omega) ?_
    refine gKv ?_
    refine E_if_eq_b (tgt := 28) dX3_setStrokes_22 (by decide) (fun c_22 => ?_) (fun c_22 => ?_)
    · refine E_iinc_n (d := 1) dX3_setStrokes_28 rfl rfl rfl (by decide) rfl ?_
      refine E_goto (tgt := 6) dX3_setStrokes_31 (by decide) ?_
      first
        | (have e := msC_t (c := c) (k := k) (by assumption)
           rw [e] at ih
           exact ih (by omega) _ _)
        | (have e := msC_f (c := c) (k := k) (by assumption)
           rw [e] at ih
           exact ih (by omega) _ _)
    · refine E_iinc_n (d := 1) dX3_setStrokes_25 rfl rfl rfl (by decide) rfl ?_
      refine E_iinc_n (d := 1) dX3_setStrokes_28 rfl rfl rfl (by decide) rfl ?_
      refine E_goto (tgt := 6) dX3_setStrokes_31 (by decide) ?_
      first
        | (have e := msC_t (c := c) (k := k) (by assumption)
           rw [e] at ih
           exact ih (by omega) _ _)
        | (have e := msC_f (c := c) (k := k) (by assumption)
           rw [e] at ih
           exact ih (by omega) _ _)
set_option maxRecDepth 100000 in
set_option maxHeartbeats 4000000 in
theorem sp_X3_setStrokes {g : gG} {M : gM} {Q : Option Value ⊕ String → gM → Prop} {c : Cf} {P π : Nat → Nat} (hQ : qC c P π M) {q : Nat} (hq : q < 2 ^ 30) (hl : mI M 76 2 = nI q) (hg0 : ∀ j, j < 16 → mI M 77 j = nI 0) (K : ∀ M', qC c P π M' → kf lnR (fun _ _ => False) M M' → mI M' 76 2 = nI (stL c q) → mI M' 76 1 = mI M 76 1 → (∀ j, j < tl c → mI M' 77 j = cI (stM c = 0 ∨ ¬ msP c j) (nI 0) (nI (stN c q j))) → Q (.inl none) M') : E g 4 0 0 mX3_setStrokes 0 [.ref 77, .ref 79, .ref 3, .int (nI (wSt c)), .null, .null, .null, .null] [] M Q := by
  have hB := hQ.B
  have hL := hB.lay
  have h16 := hQ.t16
  have hn16 := hQ.nr16
  have hg := hQ.g1024
  have hgt : tg c (tr c) ≤ 1024 := hg
  have hA := stA_b c q
  have hM16 : stM c ≤ 16 := Nat.le_trans (msC_b c (tl c)) h16
  have hwi : wSt c ≤ 100 := (hB.wf.gl 20).2.2.1
  refine E_iconst (v := nI 0) dX3_setStrokes_0 (by decide) ?_
  refine E_istore dX3_setStrokes_1 (Nat.le_of_ble_eq_true rfl) (by decide) rfl ?_
  refine E_iconst (v := nI 0) dX3_setStrokes_3 (by decide) ?_
  refine E_istore dX3_setStrokes_4 (Nat.le_of_ble_eq_true rfl) (by decide) rfl ?_
  refine lp1_X3_setStrokes hQ (fun v5 v6 v7 => ?_) 0 (Nat.zero_le _) _ _
  refine E_iload dX3_setStrokes_34 rfl ?_
  refine E_if_eq_n (tgt := 43) dX3_setStrokes_36 (by decide) (by omega) (fun c_36 => ?_) (fun c_36 => ?_)
  · refine E_vret dX3_setStrokes_43 rfl ?_
    first
      | (have e0 : stM c = 0 := by omega
         refine K M hQ kf.refl (hl.trans ?_) rfl (fun j hj => (hg0 j (by omega)).trans (cI_t (Or.inl e0)).symm)
         rw [show stL c q = q from cI_t e0])
      | (have ew : wSt c = 0 := by omega
         have eA : stA c q = 0 := cI_t ew
         have eL : stL c q = q := by
           unfold stL
           by_cases e : stM c = 0
           · rw [cI_t e]
           · rw [cI_f e, eA, Nat.zero_mul, Nat.sub_zero]
         refine K M hQ kf.refl (hl.trans (by rw [eL])) rfl (fun j hj => (hg0 j (by omega)).trans ?_)
         by_cases e : stM c = 0 ∨ ¬ msP c j
         · rw [cI_t e]
         · rw [cI_f e]
           have : stN c q j = 0 := by
             unfold stN
             rw [eA, Nat.zero_div, Nat.zero_mod, cI_f (by omega)]
           rw [this])
  · refine E_iload_n dX3_setStrokes_39 rfl ?_
    refine E_if_gt_n (tgt := 44) dX3_setStrokes_40 (by decide) (by omega) (fun c_40 => ?_) (fun c_40 => ?_)
    · have hM0 : 0 < stM c := by omega
      have eA : stA c q = q / wSt c := cI_f (by omega)
      refine E_aload_n dX3_setStrokes_44 rfl ?_
      refine E_getIL (v := nI q) dX3_setStrokes_45 kF_X3_19 kY_3 (Or.inl rfl) (l_76 hL) (k_76 hL) hl ?_
      refine E_iload_n dX3_setStrokes_48 rfl ?_
      refine E_idiv_n dX3_setStrokes_49 (by omega) (by omega) (by omega) ?_
      rw [← eA]
      refine E_istore dX3_setStrokes_50 (Nat.le_of_ble_eq_true rfl) (by decide) rfl ?_
      refine E_aload_n dX3_setStrokes_52 rfl ?_
      refine E_dup dX3_setStrokes_53 rfl ?_
      refine E_getIL (v := nI q) dX3_setStrokes_54 kF_X3_19 kY_3 (Or.inl rfl) (l_76 hL) (k_76 hL) hl ?_
      refine E_iload dX3_setStrokes_57 rfl ?_
      refine E_iload_n dX3_setStrokes_59 rfl ?_
      refine E_imul_n dX3_setStrokes_60 ?_
      refine E_isub_n dX3_setStrokes_61 (by omega) ?_
      refine E_putI dX3_setStrokes_62 kF_X3_19 kY_3 (Or.inl rfl) (l_76 hL) (k_76 hL) (Or.inl rfl) ?_
      have hf2 : kf lnR (fun _ _ => False) M (sI M 76 2 (nI (q - stA c q * wSt c))) := kf.refl.wr (Or.inl rfl)
      have hQ2 := hQ.ln hf2
      have hL := hQ2.B.lay
      have hB := hQ2.B
      have eL : stL c q = q - stA c q * wSt c := cI_f (by omega)
      have hg2 : giS c q (tl c) (sI M 76 2 (nI (q - stA c q * wSt c))) := ⟨fun j hj => (mI_ne (by decide)).trans (hg0 j (by omega)), fun j h1 h2 => by omega⟩
      refine E_iload dX3_setStrokes_65 rfl ?_
      refine E_iload dX3_setStrokes_67 rfl ?_
      refine E_irem_n dX3_setStrokes_69 (by omega) (by omega) (by omega) ?_
      refine E_istore dX3_setStrokes_70 (Nat.le_of_ble_eq_true rfl) (by decide) rfl ?_
      refine E_aload_n dX3_setStrokes_72 rfl ?_
      refine E_getIL (v := nI (tl _)) dX3_setStrokes_73 kF_X3_36 kY_10 (Or.inl rfl) (l_2 hL) (k_2 hL) hB.len ?_
      refine E_iconst (v := nI 1) dX3_setStrokes_76 (by decide) ?_
      refine E_isub_d dX3_setStrokes_77 ?_
      refine E_istore dX3_setStrokes_78 (Nat.le_of_ble_eq_true rfl) (by decide) rfl ?_
      refine lp2_X3_setStrokes (Mb := sI M 76 2 (nI (q - stA c q * wSt c))) hq hM0 (fun M' hQ hf hg => ?_) (tl c) (Nat.zero_le _) (Nat.le_refl _) _ _ hQ2 kf.refl hg2 ?_
      · refine K M' hQ (hf2.trans (hf.mono (fun _ _ z => Or.inr z) (fun _ _ z => z))) ?_ ?_ (fun j hj => ?_)
        · rw [eL]; exact (hf.bk (by unfold lgR; decide)).trans mI_eq
        · exact (hf.bk (by unfold lgR; decide)).trans (mI_nj (by decide))
        · refine (hg.2 j (Nat.zero_le _) hj).trans ?_
          by_cases e : msP c j
          · rw [cI_t e, cI_f (fun z => z.elim (by omega) (fun z => z e))]
          · rw [cI_f e, cI_t (Or.inr e)]
      · rw [show stM c - msC c (tl c) = 0 from Nat.sub_self _]; exact mor_0 _
    · refine E_vret dX3_setStrokes_43 rfl ?_
      first
        | (have e0 : stM c = 0 := by omega
           refine K M hQ kf.refl (hl.trans ?_) rfl (fun j hj => (hg0 j (by omega)).trans (cI_t (Or.inl e0)).symm)
           rw [show stL c q = q from cI_t e0])
        | (have ew : wSt c = 0 := by omega
           have eA : stA c q = 0 := cI_t ew
           have eL : stL c q = q := by
             unfold stL
             by_cases e : stM c = 0
             · rw [cI_t e]
             · rw [cI_f e, eA, Nat.zero_mul, Nat.sub_zero]
           refine K M hQ kf.refl (hl.trans (by rw [eL])) rfl (fun j hj => (hg0 j (by omega)).trans ?_)
           by_cases e : stM c = 0 ∨ ¬ msP c j
           · rw [cI_t e]
           · rw [cI_f e]
             have : stN c q j = 0 := by
               unfold stN
               rw [eA, Nat.zero_div, Nat.zero_mod, cI_f (by omega)]
             rw [this])
noncomputable def wbV (c : Cf) (q j : Nat) (old : Int32) : Int32 := cI (cN c 141 j = 0) (nI (q / blk c (tl c) + cI (blk c j < q % blk c (tl c)) 1 0)) old
def wbS (c : Cf) (q : Nat) (Mb : gM) (k : Nat) (M : gM) : Prop := (∀ j, j < k → mI M 77 j = wbV c q j (mI Mb 77 j)) ∧ ∀ j, k ≤ j → mI M 77 j = mI Mb 77 j
theorem wbS.t {c : Cf} {q k : Nat} {Mb M : gM} (h : wbS c q Mb k M) {v : Int32} (hv : v = wbV c q k (mI Mb 77 k)) : wbS c q Mb (k + 1) (sI M 77 k v) := by
  refine ⟨fun j hj => ?_, fun j hj => (mI_nj (by omega)).trans (h.2 j (by omega))⟩
  by_cases e : j = k
  · subst e; rw [mI_eq, hv]
  · exact (mI_nj e).trans (h.1 j (by omega))
theorem wbS.f {c : Cf} {q k : Nat} {Mb M : gM} (h : wbS c q Mb k M) (hn : ¬ cN c 141 k = 0) : wbS c q Mb (k + 1) M := by
  refine ⟨fun j hj => ?_, fun j hj => h.2 j (by omega)⟩
  by_cases e : j = k
  · subst e; rw [h.2 j (Nat.le_refl _)]; exact (cI_f hn).symm
  · exact h.1 j (by omega)
theorem blk_f {c : Cf} {k : Nat} (e : ¬ cN c 141 k = 0) : blk c (k + 1) = blk c k := by show blk c k + cI _ _ _ = _; rw [cI_f e]; omega
theorem blk_0 {c : Cf} {n j : Nat} (h : blk c n = 0) (hj : j < n) : ¬ cN c 141 j = 0 := fun z => by
  have h1 := blk_t z
  have h2 := blk_m (c := c) (j := j + 1) n (by omega)
  omega
set_option maxRecDepth 100000 in
set_option maxHeartbeats 4000000 in
theorem lp2_X3_widenBlanks {g : gG} {Q : Option Value ⊕ String → gM → Prop} {c : Cf} {P π : Nat → Nat} {Mb : gM} {q : Nat} (hq : q < 2 ^ 30) (hb0 : 0 < blk c (tl c)) (hl : mI Mb 76 2 = nI q) (K : ∀ M, qC c P π M → kf lgR (fun _ _ => False) Mb M → wbS c q Mb (tl c) M → E g 1 0 0 mX3_widenBlanks 99 [.ref 77, .ref 3, .int (nI (blk c (tl c))), .int (nI (q % blk c (tl c)) - nI (blk c (tl c))), .int (nI (tl c))] [] M Q) : ∀ k, k ≤ tl c → ∀ M v, qC c P π M → kf lgR (fun _ _ => False) Mb M → wbS c q Mb k M → v = nI (q % blk c (tl c)) - nI (blk c k) → E g 1 0 0 mX3_widenBlanks 45 [.ref 77, .ref 3, .int (nI (blk c (tl c))), .int v, .int (nI k)] [] M Q := by
  refine lpUp (tl c) (fun k hk ih => ?_)
  intro M v hQ hf hgw hv
  have hB := hQ.B
  have hL := hB.lay
  have h16 := hQ.t16
  have hn16 := hQ.nr16
  have hg := hQ.g1024
  have hgt : tg c (tr c) ≤ 1024 := hg
  have tx := (hB.wf.tx k).1
  have hbb := blk_b c (tl c)
  have hkb := blk_b c k
  have hmod := Nat.mod_lt q hb0
  have h762 : mI M 76 2 = nI q := (hf.bk (by unfold lgR; decide)).trans hl
  subst hv
  refine E_iload dX3_widenBlanks_45 rfl ?_
  refine E_aload_n dX3_widenBlanks_47 rfl ?_
  refine E_getIL (v := nI (tl _)) dX3_widenBlanks_48 kF_X3_36 kY_10 (Or.inl rfl) (l_2 hL) (k_2 hL) hB.len ?_
  refine E_icmp_ge_n (tgt := 99) dX3_widenBlanks_51 (by decide) (by omega) (by omega) (fun c_51 => ?_) (fun c_51 => ?_)
  · obtain rfl : k = tl c := by omega
    exact K M hQ hf hgw
  · refine E_aload_n dX3_widenBlanks_54 rfl ?_
    refine E_getRL dX3_widenBlanks_55 kF_X3_54 kY_10 (Or.inr ⟨_, rfl⟩) (l_2 hL) (k_2 hL) (r_2_0 hL) ?_
    refine E_iload dX3_widenBlanks_58 rfl ?_
    refine E_ialdL (v := nI (cN _ 141 _)) dX3_widenBlanks_60 (l_3 hL) (k_3 hL) rfl (by omega) (by decide) (hB.sg (by omega)) ?_
    refine E_if_eq_n (tgt := 67) dX3_widenBlanks_61 (by decide) (by omega) (fun c_61 => ?_) (fun c_61 => ?_)
    · have hm : cN c 141 k = 0 := by omega
      have hle := mor_le (m := q % blk c (tl c)) (d := blk c k) (by omega) (by omega)
      have eN : ∀ x, x = cI (blk c k < q % blk c (tl c)) 1 0 → nI (q / blk c (tl c) + x) = wbV c q k (mI Mb 77 k) := fun x hx => by rw [hx]; exact (cI_t hm).symm
      have go : ∀ x, x = cI (blk c k < q % blk c (tl c)) 1 0 → E g 1 0 0 mX3_widenBlanks 88 [.ref 77, .ref 3, .int (nI (blk c (tl c))), .int (nI (q % blk c (tl c)) - nI (blk c k)), .int (nI k)] [.int (nI x), .int (nI (q / blk c (tl c))), .int (nI k), .ref (77 + 1)] M Q := by
        intro x hx
        refine E_iadd_n dX3_widenBlanks_88 ?_
        refine E_iast dX3_widenBlanks_89 (l_77 hL) (k_77 hL) rfl (by omega) (by decide) ?_
        have hf2 : kf lgR (fun _ _ => False) M (sI M 77 k (nI (q / blk c (tl c) + x))) := kf.refl.wr rfl
        have hQ2 := hQ.ln (hf2.mono (fun _ _ z => Or.inr z) (fun _ _ z => z))
        have hL := hQ2.B.lay
        refine E_iinc dX3_widenBlanks_90 rfl rfl (by decide) rfl ?_
        rw [mor_s]
        refine E_iinc_n (d := 1) dX3_widenBlanks_93 rfl rfl rfl (by decide) rfl ?_
        refine E_goto (tgt := 45) dX3_widenBlanks_96 (by decide) ?_
        exact ih (by omega) _ _ hQ2 (hf.trans hf2) (hgw.t (eN x hx)) (by rw [blk_t hm])
      refine E_aload_n dX3_widenBlanks_67 rfl ?_
      refine E_getRL dX3_widenBlanks_68 kF_X3_9 kY_3 (Or.inr ⟨_, rfl⟩) (l_76 hL) (k_76 hL) (r_76_0 hL) ?_
      refine E_iload dX3_widenBlanks_71 rfl ?_
      refine E_aload_n dX3_widenBlanks_73 rfl ?_
      refine E_getIL (v := nI q) dX3_widenBlanks_74 kF_X3_19 kY_3 (Or.inl rfl) (l_76 hL) (k_76 hL) h762 ?_
      refine E_iload_n dX3_widenBlanks_77 rfl ?_
      refine E_idiv_n dX3_widenBlanks_78 (by omega) (by omega) (by omega) ?_
      refine E_iload_n dX3_widenBlanks_79 rfl ?_
      refine E_if_le (tgt := 87) dX3_widenBlanks_80 (by decide) (fun c_80 => ?_) (fun c_80 => ?_)
      · refine E_iconst (v := nI 0) dX3_widenBlanks_87 (by decide) ?_
        first
          | exact go 1 (cI_t (Nat.not_le.mp (fun z => by have := hle.mpr z; contradiction))).symm
          | exact go 0 (cI_f (by have := hle.mp (by assumption); omega)).symm
      · refine E_iconst (v := nI 1) dX3_widenBlanks_83 (by decide) ?_
        refine E_goto (tgt := 88) dX3_widenBlanks_84 (by decide) ?_
        first
          | exact go 1 (cI_t (Nat.not_le.mp (fun z => by have := hle.mpr z; contradiction))).symm
          | exact go 0 (cI_f (by have := hle.mp (by assumption); omega)).symm
    · have hn : ¬ cN c 141 k = 0 := by omega
      refine E_goto (tgt := 93) dX3_widenBlanks_64 (by decide) ?_
      refine E_iinc_n (d := 1) dX3_widenBlanks_93 rfl rfl rfl (by decide) rfl ?_
      refine E_goto (tgt := 45) dX3_widenBlanks_96 (by decide) ?_
      exact ih (by omega) M _ hQ hf (hgw.f hn) (by rw [blk_f hn])
set_option maxRecDepth 100000 in
set_option maxHeartbeats 4000000 in
theorem lp1_X3_widenBlanks {g : gG} {M : gM} {Q : Option Value ⊕ String → gM → Prop} {c : Cf} {P π : Nat → Nat} (hQ : qC c P π M) (K : ∀ v3 v4, E g 1 0 0 mX3_widenBlanks 30 [.ref 77, .ref 3, .int (nI (blk c (tl c))), v3, v4] [] M Q) : ∀ k, k ≤ tl c → ∀ v4, E g 1 0 0 mX3_widenBlanks 4 [.ref 77, .ref 3, .int (nI (blk c k)), .int (nI k), v4] [] M Q := by
  have hB := hQ.B
  have hL := hB.lay
  have h16 := hQ.t16
  have hn16 := hQ.nr16
  have hg := hQ.g1024
  have hgt : tg c (tr c) ≤ 1024 := hg
  refine lpUp (tl c) (fun k hk ih => ?_)
  intro v4
  have hkb := blk_b c k
  have tx := (hB.wf.tx k).1
  refine E_iload_n dX3_widenBlanks_4 rfl ?_
  refine E_aload_n dX3_widenBlanks_5 rfl ?_
  refine E_getIL (v := nI (tl _)) dX3_widenBlanks_6 kF_X3_36 kY_10 (Or.inl rfl) (l_2 hL) (k_2 hL) hB.len ?_
  refine E_icmp_ge_n (tgt := 30) dX3_widenBlanks_9 (by decide) (by omega) (by omega) (fun c_9 => ?_) (fun c_9 => ?_)
  · obtain rfl : k = tl c := by omega
    exact K _ _
  · refine E_aload_n dX3_widenBlanks_12 rfl ?_
    refine E_getRL dX3_widenBlanks_13 kF_X3_54 kY_10 (Or.inr ⟨_, rfl⟩) (l_2 hL) (k_2 hL) (r_2_0 hL) ?_
    refine E_iload_n dX3_widenBlanks_16 rfl ?_
    refine E_ialdL (v := nI (cN _ 141 _)) dX3_widenBlanks_17 (l_3 hL) (k_3 hL) rfl (by omega) (by decide) (hB.sg (by omega)) ?_
    refine E_if_ne_n (tgt := 24) dX3_widenBlanks_18 (by decide) (by omega) (fun c_18 => ?_) (fun c_18 => ?_)
    · refine E_iinc_n (d := 1) dX3_widenBlanks_24 rfl rfl rfl (by decide) rfl ?_
      refine E_goto (tgt := 4) dX3_widenBlanks_27 (by decide) ?_
      first
        | (have e := blk_t (c := c) (k := k) (by omega)
           rw [e] at ih
           exact ih (by omega) _)
        | (have e := blk_f (c := c) (k := k) (by omega)
           rw [e] at ih
           exact ih (by omega) _)
    · refine E_iinc_n (d := 1) dX3_widenBlanks_21 rfl rfl rfl (by decide) rfl ?_
      refine E_iinc_n (d := 1) dX3_widenBlanks_24 rfl rfl rfl (by decide) rfl ?_
      refine E_goto (tgt := 4) dX3_widenBlanks_27 (by decide) ?_
      first
        | (have e := blk_t (c := c) (k := k) (by omega)
           rw [e] at ih
           exact ih (by omega) _)
        | (have e := blk_f (c := c) (k := k) (by omega)
           rw [e] at ih
           exact ih (by omega) _)
set_option maxRecDepth 100000 in
set_option maxHeartbeats 4000000 in
theorem sp_X3_widenBlanks {g : gG} {M : gM} {Q : Option Value ⊕ String → gM → Prop} {c : Cf} {P π : Nat → Nat} (hQ : qC c P π M) {q : Nat} (hq : q < 2 ^ 30) (hl : mI M 76 2 = nI q) (K : ∀ M', qC c P π M' → kf lnR (fun _ _ => False) M M' → mI M' 76 2 = cI (blk c (tl c) = 0) (nI q) (nI 0) → mI M' 76 1 = mI M 76 1 → (∀ j, j < tl c → mI M' 77 j = wbV c q j (mI M 77 j)) → Q (.inl none) M') : E g 1 0 0 mX3_widenBlanks 0 [.ref 77, .ref 3, .null, .null, .null] [] M Q := by
  have hB := hQ.B
  have hL := hB.lay
  have h16 := hQ.t16
  have hn16 := hQ.nr16
  have hg := hQ.g1024
  have hgt : tg c (tr c) ≤ 1024 := hg
  have hbb := blk_b c (tl c)
  refine E_iconst (v := nI 0) dX3_widenBlanks_0 (by decide) ?_
  refine E_istore_n dX3_widenBlanks_1 (Nat.le_of_ble_eq_true rfl) (by decide) rfl ?_
  refine E_iconst (v := nI 0) dX3_widenBlanks_2 (by decide) ?_
  refine E_istore_n dX3_widenBlanks_3 (Nat.le_of_ble_eq_true rfl) (by decide) rfl ?_
  refine lp1_X3_widenBlanks hQ (fun v3 v4 => ?_) 0 (Nat.zero_le _) _
  refine E_iload_n dX3_widenBlanks_30 rfl ?_
  refine E_if_ne_n (tgt := 35) dX3_widenBlanks_31 (by decide) (by omega) (fun c_31 => ?_) (fun c_31 => ?_)
  · refine E_aload_n dX3_widenBlanks_35 rfl ?_
    refine E_getIL (v := nI q) dX3_widenBlanks_36 kF_X3_19 kY_3 (Or.inl rfl) (l_76 hL) (k_76 hL) hl ?_
    refine E_iload_n dX3_widenBlanks_39 rfl ?_
    refine E_irem_n dX3_widenBlanks_40 (by omega) (by omega) (by omega) ?_
    refine E_istore_n dX3_widenBlanks_41 (Nat.le_of_ble_eq_true rfl) (by decide) rfl ?_
    refine E_iconst (v := nI 0) dX3_widenBlanks_42 (by decide) ?_
    refine E_istore dX3_widenBlanks_43 (Nat.le_of_ble_eq_true rfl) (by decide) rfl ?_
    refine lp2_X3_widenBlanks (Mb := M) hq (by omega) hl (fun M' hQ hf hg => ?_) 0 (Nat.zero_le _) M _ hQ kf.refl ⟨fun j hj => absurd hj (Nat.not_lt_zero j), fun j _ => rfl⟩ (mor_0 _)
    have hL := hQ.B.lay
    refine E_aload_n dX3_widenBlanks_99 rfl ?_
    refine E_iconst (v := nI 0) dX3_widenBlanks_100 (by decide) ?_
    refine E_putI dX3_widenBlanks_101 kF_X3_19 kY_3 (Or.inl rfl) (l_76 hL) (k_76 hL) (Or.inl rfl) ?_
    refine E_vret dX3_widenBlanks_104 rfl ?_
    have hf2 : kf lnR (fun _ _ => False) M' (sI M' 76 2 (nI 0)) := kf.refl.wr (Or.inl rfl)
    exact K _ (hQ.ln hf2) ((hf.mono (fun _ _ z => Or.inr z) (fun _ _ z => z)).trans hf2) (mI_eq.trans (cI_f (by omega)).symm) ((mI_nj (by decide)).trans (hf.bk (by unfold lgR; decide))) (fun j hj => (mI_ne (by decide)).trans (hg.1 j hj))
  · refine E_vret dX3_widenBlanks_34 rfl ?_
    have hb0 : blk c (tl c) = 0 := by omega
    exact K M hQ kf.refl (hl.trans (cI_t hb0).symm) rfl (fun j hj => (cI_f (blk_0 hb0 hj)).symm)
theorem mis_le {c : Cf} (hw : WFc c) {w : Int32} (h : iIn w (nI 0) (nI 10000)) : (0 ≤ mis c w ↔ ¬ w < tS c (tr c)) ∧ (0 ≤ mis c w → mis c w = nI (gN (mis c w)) ∧ gN (mis c w) < 2 ^ 30) := by
  have h1 := Int32.le_iff_toInt_le.mp h.1
  have h2 := Int32.le_iff_toInt_le.mp h.2
  rw [nI_toInt (by decide)] at h1 h2
  have hb : bd w 10000 := by unfold bd; omega
  have ht := tS_bd hw (Nat.le_refl (tr c))
  have e : (mis c w).toInt = w.toInt - (tS c (tr c)).toInt := by
    unfold mis
    unfold bd at hb ht
    rw [Int32.toInt_sub, bm (by omega) (by omega)]
  constructor
  · rw [Int32.le_iff_toInt_le, Int32.lt_iff_toInt_lt, e, show (0 : Int32).toInt = 0 from rfl]
    omega
  · intro h0
    have h0 := Int32.le_iff_toInt_le.mp h0
    rw [e, show (0 : Int32).toInt = 0 from rfl] at h0
    unfold bd at hb ht
    have hg : gN (mis c w) < 2 ^ 31 := by
      show (mis c w).toNatClampNeg < 2 ^ 31
      rw [← Int32.toNat_toInt, e]; omega
    have he : mis c w = nI (gN (mis c w)) := by
      apply Int32.toInt_inj.mp
      rw [nI_toInt hg]
      show _ = ((mis c w).toNatClampNeg : Int)
      rw [← Int32.toNat_toInt, e]; omega
    exact ⟨he, smW_of hw w _ h he hg⟩
set_option maxRecDepth 100000 in
set_option maxHeartbeats 4000000 in
theorem lp_X3_reckon {g : gG} {Q : Option Value ⊕ String → gM → Prop} {c : Cf} {P π : Nat → Nat} {M : gM} {w : Int32} (K : ∀ M', qC c P π M' → kf lnR (fun _ _ => False) M M' → (∀ j, j < 16 → mI M' 77 j = nI 0) → ∀ v5, E g 5 0 0 mX3_reckon 24 [.ref 77, .ref 79, .ref 3, .int w, .int (nI (wSt c)), v5] [] M' Q) : ∀ k, k ≤ 16 → ∀ M', qC c P π M' → kf lnR (fun _ _ => False) M M' → (∀ j, j < k → mI M' 77 j = nI 0) → E g 5 0 0 mX3_reckon 3 [.ref 77, .ref 79, .ref 3, .int w, .int (nI (wSt c)), .int (nI k)] [] M' Q := by
  refine lpUp 16 (fun k hk ih => ?_)
  intro M hQ hf hz
  have hB := hQ.B
  have hL := hB.lay
  have h16 := hQ.t16
  have hn16 := hQ.nr16
  have hg := hQ.g1024
  have hgt : tg c (tr c) ≤ 1024 := hg
  refine E_iload dX3_reckon_3 rfl ?_
  refine E_bipush (v := nI 16) dX3_reckon_5 (by decide) ?_
  refine E_icmp_ge_n (tgt := 24) dX3_reckon_7 (by decide) (by omega) (by omega) (fun c_7 => ?_) (fun c_7 => ?_)
  · obtain rfl : k = 16 := by omega
    exact K M hQ hf hz _
  · refine E_aload_n dX3_reckon_10 rfl ?_
    refine E_getRL dX3_reckon_11 kF_X3_9 kY_3 (Or.inr ⟨_, rfl⟩) (l_76 hL) (k_76 hL) (r_76_0 hL) ?_
    refine E_iload dX3_reckon_14 rfl ?_
    refine E_iconst (v := nI 0) dX3_reckon_16 (by decide) ?_
    refine E_iast dX3_reckon_17 (l_77 hL) (k_77 hL) rfl (by omega) (by decide) ?_
    have hf2 : kf lnR (fun _ _ => False) M (sI M 77 k (nI 0)) := kf.refl.wr (Or.inr rfl)
    have hQ2 := hQ.ln hf2
    have hL := hQ2.B.lay
    refine E_iinc_n (d := 1) dX3_reckon_18 rfl rfl rfl (by decide) rfl ?_
    refine E_goto (tgt := 3) dX3_reckon_21 (by decide) ?_
    refine ih (by omega) _ hQ2 (hf.trans hf2) (fun j hj => ?_)
    by_cases e : j = k
    · subst e; exact mI_eq
    · exact (mI_nj e).trans (hz j (by omega))
set_option maxRecDepth 100000 in
set_option maxHeartbeats 4000000 in
theorem sp_X3_reckon {g : gG} {M : gM} {Q : Option Value ⊕ String → gM → Prop} {c : Cf} {P π : Nat → Nat} (hQ : qC c P π M) {w : Int32} (hw : iIn w (nI 0) (nI 10000)) (K1 : 0 ≤ mis c w → ∀ M', qC c P π M' → kf lnR (fun _ _ => False) M M' → mI M' 76 1 = nI 0 → mI M' 76 2 = fiV c w → (∀ j, j < tl c → mI M' 77 j = fgV c w j) → Q (.inl none) M') (K0 : ¬ 0 ≤ mis c w → ∀ M', qC c P π M' → kf lnR (fun _ _ => False) M M' → mI M' 76 1 = nI 1 → (∀ j, j < tl c → mI M' 77 j = nI 0) → Q (.inl none) M') : E g 5 0 0 mX3_reckon 0 [.ref 77, .ref 79, .ref 3, .int w, .int (nI (wSt c)), .null] [] M Q := by
  have hB := hQ.B
  have hL := hB.lay
  have h16 := hQ.t16
  have hn16 := hQ.nr16
  have hg := hQ.g1024
  have hgt : tg c (tr c) ≤ 1024 := hg
  have hml := mis_le hB.wf hw
  refine E_iconst (v := nI 0) dX3_reckon_0 (by decide) ?_
  refine E_istore dX3_reckon_1 (Nat.le_of_ble_eq_true rfl) (by decide) rfl ?_
  refine lp_X3_reckon (M := M) (fun M2 hQ hf hz v5 => ?_) 0 (Nat.zero_le _) M hQ kf.refl (fun j hj => absurd hj (Nat.not_lt_zero j))
  have hB := hQ.B
  have hL := hB.lay
  refine E_aload_n dX3_reckon_24 rfl ?_
  refine E_aload_n dX3_reckon_25 rfl ?_
  refine E_getIL (v := tS _ _) dX3_reckon_26 kF_X3_23 kY_6 (Or.inl rfl) (l_78 hL) (k_78 hL) hQ.g10 ?_
  refine E_iload_n dX3_reckon_29 rfl ?_
  refine E_icmp_le (tgt := 37) dX3_reckon_30 (by decide) (fun c_30 => ?_) (fun c_30 => ?_)
  · refine E_iconst (v := nI 0) dX3_reckon_37 (by decide) ?_
    refine E_putI dX3_reckon_38 kF_X3_15 kY_3 (Or.inr ⟨rfl, by decide⟩) (l_76 hL) (k_76 hL) (Or.inl rfl) ?_
    first
      | (have hlt : w < tS c (tr c) := by first | assumption | exact Int32.not_le.mp (by assumption)
         have hm0 : ¬ 0 ≤ mis c w := fun z => hml.1.mp z hlt
         have hf2 : kf lnR (fun _ _ => False) M2 (sI M2 76 1 (nI 1)) := kf.refl.wr (Or.inl rfl)
         have hQ2 := hQ.ln hf2
         have hL := hQ2.B.lay
         refine E_aload_n dX3_reckon_41 rfl ?_
         refine E_aload_n dX3_reckon_42 rfl ?_
         refine E_getIL (v := nI 1) dX3_reckon_43 kF_X3_15 kY_3 (Or.inr rfl) (l_76 hL) (k_76 hL) mI_eq ?_
         refine E_if_eq (tgt := 53) dX3_reckon_46 (by decide) (fun c0 => absurd c0 (by decide)) (fun _ => ?_)
         refine E_iconst (v := nI 0) dX3_reckon_49 (by decide) ?_
         refine E_goto (tgt := 59) dX3_reckon_50 (by decide) ?_
         refine E_putI dX3_reckon_59 kF_X3_19 kY_3 (Or.inl rfl) (l_76 hL) (k_76 hL) (Or.inl rfl) ?_
         refine E_aload_n dX3_reckon_62 rfl ?_
         refine E_getIL (v := nI 1) dX3_reckon_63 kF_X3_15 kY_3 (Or.inr rfl) (l_76 hL) (k_76 hL) ((mI_nj (by decide)).trans mI_eq) ?_
         refine E_if_eq (tgt := 70) dX3_reckon_66 (by decide) (fun c0 => absurd c0 (by decide)) (fun _ => ?_)
         refine E_vret dX3_reckon_69 rfl ?_
         have hf3 : kf lnR (fun _ _ => False) (sI M2 76 1 (nI 1)) (sI (sI M2 76 1 (nI 1)) 76 2 (nI 0)) := kf.refl.wr (Or.inl rfl)
         exact K0 hm0 _ (hQ2.ln hf3) (hf.trans (hf2.trans hf3)) ((mI_nj (by decide)).trans mI_eq) (fun j hj => (mI_ne (by decide)).trans ((mI_ne (by decide)).trans (hz j (by omega)))))
      | (have hnl : ¬ w < tS c (tr c) := by first | assumption | exact Int32.not_lt.mpr (by assumption)
         have hm0 : 0 ≤ mis c w := hml.1.mpr hnl
         obtain ⟨hmq, hq30⟩ := hml.2 hm0
         have hf2 : kf lnR (fun _ _ => False) M2 (sI M2 76 1 (nI 0)) := kf.refl.wr (Or.inl rfl)
         have hQ2 := hQ.ln hf2
         have hL := hQ2.B.lay
         refine E_aload_n dX3_reckon_41 rfl ?_
         refine E_aload_n dX3_reckon_42 rfl ?_
         refine E_getIL (v := nI 0) dX3_reckon_43 kF_X3_15 kY_3 (Or.inr rfl) (l_76 hL) (k_76 hL) mI_eq ?_
         refine E_if_eq (tgt := 53) dX3_reckon_46 (by decide) (fun _ => ?_) (fun c0 => absurd (by decide) c0)
         refine E_iload_n dX3_reckon_53 rfl ?_
         refine E_aload_n dX3_reckon_54 rfl ?_
         refine E_getIL (v := tS c (tr c)) dX3_reckon_55 kF_X3_23 kY_6 (Or.inl rfl) (l_78 hL) (k_78 hL) hQ2.g10 ?_
         refine E_isub dX3_reckon_58 ?_
         refine E_putI dX3_reckon_59 kF_X3_19 kY_3 (Or.inl rfl) (l_76 hL) (k_76 hL) (Or.inl rfl) ?_
         refine E_aload_n dX3_reckon_62 rfl ?_
         refine E_getIL (v := nI 0) dX3_reckon_63 kF_X3_15 kY_3 (Or.inr rfl) (l_76 hL) (k_76 hL) ((mI_nj (by decide)).trans mI_eq) ?_
         refine E_if_eq (tgt := 70) dX3_reckon_66 (by decide) (fun _ => ?_) (fun c0 => absurd (by decide) c0)
         refine E_aload_n dX3_reckon_70 rfl ?_
         refine E_aload_n dX3_reckon_71 rfl ?_
         refine E_aload_n dX3_reckon_72 rfl ?_
         refine E_iload dX3_reckon_73 rfl ?_
         refine E_callV3 (fr' := 4) (k1 := 0) (n1 := 0) (k2 := 0) (n2 := 0) dX3_reckon_75 kO_X3_setStrokes kL_X3_28 (l_76 hL) (k_76 hL) ⟨by decide, rfl⟩ rfl rfl rfl (by decide) (by decide) (by exact Nat.le_of_ble_eq_true rfl) rfl ?_
         have hf3 : kf lnR (fun _ _ => False) (sI M2 76 1 (nI 0)) (sI (sI M2 76 1 (nI 0)) 76 2 (w - tS c (tr c))) := kf.refl.wr (Or.inl rfl)
         have hQ3 := hQ2.ln hf3
         refine sp_X3_setStrokes hQ3 hq30 (mI_eq.trans hmq) (fun j hj => (mI_ne (by decide)).trans ((mI_ne (by decide)).trans (hz j hj))) (fun M4 hQ4 hf4 hl4 h14 hg4 => ?_)
         have hL := hQ4.B.lay
         refine gKn ?_
         refine E_aload_n dX3_reckon_78 rfl ?_
         refine E_aload_n dX3_reckon_79 rfl ?_
         refine E_callV1 (fr' := 1) (k1 := 0) (n1 := 0) (k2 := 0) (n2 := 0) dX3_reckon_80 kO_X3_widenBlanks kL_X3_32 (l_76 hL) (k_76 hL) ⟨by decide, rfl⟩ rfl (by decide) (by decide) (by exact Nat.le_of_ble_eq_true rfl) rfl ?_
         have hsb := stL_b c (gN (mis c w))
         refine sp_X3_widenBlanks hQ4 (by omega) hl4 (fun M5 hQ5 hf5 hl5 h15 hg5 => ?_)
         refine gKn ?_
         refine E_vret dX3_reckon_83 rfl ?_
         refine K1 hm0 M5 hQ5 (hf.trans (hf2.trans (hf3.trans (hf4.trans hf5)))) (h15.trans (h14.trans ((mI_nj (by decide)).trans mI_eq))) (hl5.trans ?_) (fun j hj => (hg5 j hj).trans ?_)
         · unfold fiV; rw [cI_t hm0]
         · unfold wbV fgV
           rw [cI_t hm0, hg4 j hj])
  · refine E_iconst (v := nI 1) dX3_reckon_33 (by decide) ?_
    refine E_goto (tgt := 38) dX3_reckon_34 (by decide) ?_
    refine E_putI dX3_reckon_38 kF_X3_15 kY_3 (Or.inr ⟨rfl, by decide⟩) (l_76 hL) (k_76 hL) (Or.inl rfl) ?_
    first
      | (have hlt : w < tS c (tr c) := by first | assumption | exact Int32.not_le.mp (by assumption)
         have hm0 : ¬ 0 ≤ mis c w := fun z => hml.1.mp z hlt
         have hf2 : kf lnR (fun _ _ => False) M2 (sI M2 76 1 (nI 1)) := kf.refl.wr (Or.inl rfl)
         have hQ2 := hQ.ln hf2
         have hL := hQ2.B.lay
         refine E_aload_n dX3_reckon_41 rfl ?_
         refine E_aload_n dX3_reckon_42 rfl ?_
         refine E_getIL (v := nI 1) dX3_reckon_43 kF_X3_15 kY_3 (Or.inr rfl) (l_76 hL) (k_76 hL) mI_eq ?_
         refine E_if_eq (tgt := 53) dX3_reckon_46 (by decide) (fun c0 => absurd c0 (by decide)) (fun _ => ?_)
         refine E_iconst (v := nI 0) dX3_reckon_49 (by decide) ?_
         refine E_goto (tgt := 59) dX3_reckon_50 (by decide) ?_
         refine E_putI dX3_reckon_59 kF_X3_19 kY_3 (Or.inl rfl) (l_76 hL) (k_76 hL) (Or.inl rfl) ?_
         refine E_aload_n dX3_reckon_62 rfl ?_
         refine E_getIL (v := nI 1) dX3_reckon_63 kF_X3_15 kY_3 (Or.inr rfl) (l_76 hL) (k_76 hL) ((mI_nj (by decide)).trans mI_eq) ?_
         refine E_if_eq (tgt := 70) dX3_reckon_66 (by decide) (fun c0 => absurd c0 (by decide)) (fun _ => ?_)
         refine E_vret dX3_reckon_69 rfl ?_
         have hf3 : kf lnR (fun _ _ => False) (sI M2 76 1 (nI 1)) (sI (sI M2 76 1 (nI 1)) 76 2 (nI 0)) := kf.refl.wr (Or.inl rfl)
         exact K0 hm0 _ (hQ2.ln hf3) (hf.trans (hf2.trans hf3)) ((mI_nj (by decide)).trans mI_eq) (fun j hj => (mI_ne (by decide)).trans ((mI_ne (by decide)).trans (hz j (by omega)))))
      | (have hnl : ¬ w < tS c (tr c) := by first | assumption | exact Int32.not_lt.mpr (by assumption)
         have hm0 : 0 ≤ mis c w := hml.1.mpr hnl
         obtain ⟨hmq, hq30⟩ := hml.2 hm0
         have hf2 : kf lnR (fun _ _ => False) M2 (sI M2 76 1 (nI 0)) := kf.refl.wr (Or.inl rfl)
         have hQ2 := hQ.ln hf2
         have hL := hQ2.B.lay
         refine E_aload_n dX3_reckon_41 rfl ?_
         refine E_aload_n dX3_reckon_42 rfl ?_
         refine E_getIL (v := nI 0) dX3_reckon_43 kF_X3_15 kY_3 (Or.inr rfl) (l_76 hL) (k_76 hL) mI_eq ?_
         refine E_if_eq (tgt := 53) dX3_reckon_46 (by decide) (fun _ => ?_) (fun c0 => absurd (by decide) c0)
         refine E_iload_n dX3_reckon_53 rfl ?_
         refine E_aload_n dX3_reckon_54 rfl ?_
         refine E_getIL (v := tS c (tr c)) dX3_reckon_55 kF_X3_23 kY_6 (Or.inl rfl) (l_78 hL) (k_78 hL) hQ2.g10 ?_
         refine E_isub dX3_reckon_58 ?_
         refine E_putI dX3_reckon_59 kF_X3_19 kY_3 (Or.inl rfl) (l_76 hL) (k_76 hL) (Or.inl rfl) ?_
         refine E_aload_n dX3_reckon_62 rfl ?_
         refine E_getIL (v := nI 0) dX3_reckon_63 kF_X3_15 kY_3 (Or.inr rfl) (l_76 hL) (k_76 hL) ((mI_nj (by decide)).trans mI_eq) ?_
         refine E_if_eq (tgt := 70) dX3_reckon_66 (by decide) (fun _ => ?_) (fun c0 => absurd (by decide) c0)
         refine E_aload_n dX3_reckon_70 rfl ?_
         refine E_aload_n dX3_reckon_71 rfl ?_
         refine E_aload_n dX3_reckon_72 rfl ?_
         refine E_iload dX3_reckon_73 rfl ?_
         refine E_callV3 (fr' := 4) (k1 := 0) (n1 := 0) (k2 := 0) (n2 := 0) dX3_reckon_75 kO_X3_setStrokes kL_X3_28 (l_76 hL) (k_76 hL) ⟨by decide, rfl⟩ rfl rfl rfl (by decide) (by decide) (by exact Nat.le_of_ble_eq_true rfl) rfl ?_
         have hf3 : kf lnR (fun _ _ => False) (sI M2 76 1 (nI 0)) (sI (sI M2 76 1 (nI 0)) 76 2 (w - tS c (tr c))) := kf.refl.wr (Or.inl rfl)
         have hQ3 := hQ2.ln hf3
         refine sp_X3_setStrokes hQ3 hq30 (mI_eq.trans hmq) (fun j hj => (mI_ne (by decide)).trans ((mI_ne (by decide)).trans (hz j hj))) (fun M4 hQ4 hf4 hl4 h14 hg4 => ?_)
         have hL := hQ4.B.lay
         refine gKn ?_
         refine E_aload_n dX3_reckon_78 rfl ?_
         refine E_aload_n dX3_reckon_79 rfl ?_
         refine E_callV1 (fr' := 1) (k1 := 0) (n1 := 0) (k2 := 0) (n2 := 0) dX3_reckon_80 kO_X3_widenBlanks kL_X3_32 (l_76 hL) (k_76 hL) ⟨by decide, rfl⟩ rfl (by decide) (by decide) (by exact Nat.le_of_ble_eq_true rfl) rfl ?_
         have hsb := stL_b c (gN (mis c w))
         refine sp_X3_widenBlanks hQ4 (by omega) hl4 (fun M5 hQ5 hf5 hl5 h15 hg5 => ?_)
         refine gKn ?_
         refine E_vret dX3_reckon_83 rfl ?_
         refine K1 hm0 M5 hQ5 (hf.trans (hf2.trans (hf3.trans (hf4.trans hf5)))) (h15.trans (h14.trans ((mI_nj (by decide)).trans mI_eq))) (hl5.trans ?_) (fun j hj => (hg5 j hj).trans ?_)
         · unfold fiV; rw [cI_t hm0]
         · unfold wbV fgV
           rw [cI_t hm0, hg4 j hj])
