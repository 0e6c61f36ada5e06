/-! the reference: scripts, runs, forms -/
def bS (c : Cf) (M : gM) : Prop := gLay M ∧ mCf c M ∧ WFc c
theorem bS.lay {c : Cf} {M : gM} (h : bS c M) : gLay M := h.1
theorem bS.gc {c : Cf} {M : gM} (h : bS c M) {a j : Nat} (q : cfA a j) : mI M a j = nI (cN c a j) := h.2.1.1 a j q
theorem bS.gr {c : Cf} {M : gM} (h : bS c M) (j : Nat) : mI M 136 j = cR c j := h.2.1.2 j
theorem bS.b {c : Cf} {M : gM} (h : bS c M) : bS c M := h
theorem bS.wf {c : Cf} {M : gM} (h : bS c M) : WFc c := h.2.2
theorem mY.b {c : Cf} {f : Nat} {M0 M : gM} {n : Nat} {r : Nat → Option Gl} {w : Int32} (h : mY c f M0 n r w M) : bS c M := ⟨h.lay, ⟨fun _ _ q => h.gc q, h.gr⟩, h.wf⟩
theorem mX.b {c : Cf} {f : Nat} {M0 M : gM} {L : List Gl} {w : Int32} (h : mX c f M0 L w M) : bS c M := h.1.b
theorem bS.fr {c : Cf} {M M' : gM} {S : Nat → Nat → Prop} (h : bS c M) (hf : fr S M M') (hs : ∀ a j, S a j → ¬ cfA a j ∧ ¬ a = 136) : bS c M' :=
  ⟨hf.lay h.lay, ⟨fun a j q => (hf.2.2 a j (fun z => (hs a j z).1 q)).trans (h.gc q), fun j => (hf.2.2 136 j (fun z => (hs 136 j z).2 rfl)).trans (h.gr j)⟩, h.wf⟩
theorem fr.bk {S : Nat → Nat → Prop} {M M' : gM} (h : fr S M M') {a j : Nat} (q : ¬ S a j) : mI M' a j = mI M a j := h.2.2 a j q
abbrev cMk (s : Nat) : Prop := 21 ≤ s ∧ s ≤ 23
abbrev cCo (s : Nat) : Prop := 30 ≤ s ∧ s ≤ 38
abbrev cVo (s : Nat) : Prop := (40 ≤ s ∧ s ≤ 42) ∨ s = 44
abbrev cBo (s : Nat) : Prop := (10 ≤ s ∧ s ≤ 15) ∨ s = 20
theorem sp_X12_inN {g : gG} {M : gM} {Q : Option Value ⊕ String → gM → Prop} {v a b : Nat} (hv : v < 2 ^ 31) (ha : a < 2 ^ 31) (hb : b < 2 ^ 31) (K : Q (.inl (some (.int (b2i (a ≤ v ∧ v ≤ b))))) M) : E g 1 0 0 mX12_in 0 [.int (nI v), .int (nI a), .int (nI b)] [] M Q :=
  sp_X12_in (by rw [b2i_congr (iIn_n hv ha hb)]; exact K)
theorem sp_X12_isMarkSignN {g : gG} {M : gM} {Q : Option Value ⊕ String → gM → Prop} {v : Nat} (hv : v < 2 ^ 31) (K : Q (.inl (some (.int (b2i (cMk v))))) M) : E g 2 0 0 mX12_isMarkSign 0 [.int (nI v)] [] M Q :=
  sp_X12_isMarkSign (by rw [b2i_congr (iIn_n hv (by decide) (by decide))]; exact K)
theorem sp_X12_isConsonantN {g : gG} {M : gM} {Q : Option Value ⊕ String → gM → Prop} {v : Nat} (hv : v < 2 ^ 31) (K : Q (.inl (some (.int (b2i (cCo v))))) M) : E g 2 0 0 mX12_isConsonant 0 [.int (nI v)] [] M Q :=
  sp_X12_isConsonant (by rw [b2i_congr (iIn_n hv (by decide) (by decide))]; exact K)
theorem sp_X12_isVowelN {g : gG} {M : gM} {Q : Option Value ⊕ String → gM → Prop} {v : Nat} (hv : v < 2 ^ 31) (K : Q (.inl (some (.int (b2i (cVo v))))) M) : E g 2 0 0 mX12_isVowel 0 [.int (nI v)] [] M Q :=
  sp_X12_isVowel (by rw [b2i_congr (show iVow (nI v) ↔ cVo v by unfold iVow cVo; rw [iIn_n hv (by decide) (by decide), nI_eq hv (by decide)])]; exact K)
def sgS (s : Nat) : Nat := if 30 ≤ s then 1 else 0
theorem sgS_b (s : Nat) : sgS s ≤ 1 := by unfold sgS; split <;> omega
/-- the script of what is common at the beginning; that ahead of a place; at a place; the face -/
noncomputable def scF (c : Cf) (b k : Nat) : Nat := cI (fnd (fun j => 10 ≤ cN c 141 j) b k < b) (sgS (cN c 141 (fnd (fun j => 10 ≤ cN c 141 j) b k))) 0
noncomputable def scB (c : Cf) (a b k : Nat) : Nat := cI (0 < rfd (fun j => a ≤ j ∧ 10 ≤ cN c 141 j) k) (sgS (cN c 141 (rfd (fun j => a ≤ j ∧ 10 ≤ cN c 141 j) k - 1))) (scF c b a)
noncomputable def scr (c : Cf) (a b k : Nat) : Nat := scB c a b (k + 1)
def fcO (c : Cf) (j : Nat) : Nat := cN c 140 (cN c 141 j)
theorem scF_b (c : Cf) (b k : Nat) : scF c b k ≤ 1 := by
  unfold scF
  by_cases e : fnd (fun j => 10 ≤ cN c 141 j) b k < b
  · rw [cI_t e]; exact sgS_b _
  · rw [cI_f e]; omega
theorem scB_b (c : Cf) (a b k : Nat) : scB c a b k ≤ 1 := by
  unfold scB
  by_cases e : 0 < rfd (fun j => a ≤ j ∧ 10 ≤ cN c 141 j) k
  · rw [cI_t e]; exact sgS_b _
  · rw [cI_f e]; exact scF_b _ _ _
theorem scr_b (c : Cf) (a b k : Nat) : scr c a b k ≤ 1 := scB_b _ _ _ _
theorem scF_s {c : Cf} {b k : Nat} (hk : k < b) : scF c b k = if 10 ≤ cN c 141 k then sgS (cN c 141 k) else scF c b (k + 1) := by
  unfold scF
  by_cases e : 10 ≤ cN c 141 k
  · rw [fnd_hit hk e, cI_t hk, if_pos e]
  · rw [fnd_skip hk e, if_neg e]
theorem scF_0 {c : Cf} {b k : Nat} (hk : b ≤ k) : scF c b k = 0 := by unfold scF; rw [fnd_end hk, cI_f (by omega)]
theorem scB_0 {c : Cf} {a b : Nat} : scB c a b a = scF c b a := by
  unfold scB
  rw [rfd_eq (P := fun j => a ≤ j ∧ 10 ≤ cN c 141 j) (k := a) (r := 0) (by omega) (fun j q => by omega) (fun j _ q => by omega), cI_f (by omega)]
theorem scB_s {c : Cf} {a b k : Nat} (hk : a ≤ k) : scB c a b (k + 1) = if 10 ≤ cN c 141 k then sgS (cN c 141 k) else scB c a b k := by
  unfold scB
  by_cases e : 10 ≤ cN c 141 k
  · rw [rfd_t ⟨hk, e⟩, cI_t (by omega), if_pos e, Nat.add_sub_cancel]
  · rw [rfd_f (fun q => e q.2), if_neg e]
def scR (a _j : Nat) : Prop := a = 143 ∨ a = 144
def scS (c : Cf) (a b k : Nat) (M : gM) : Prop := ∀ j, a ≤ j → j < k → mI M 143 j = nI (scr c a b j) ∧ mI M 144 j = nI (fcO c j)
theorem scS.set {c : Cf} {a b k : Nat} {M : gM} (h : scS c a b k M) {v w : Int32} (hv : v = nI (scr c a b k)) (hw : w = nI (fcO c k)) : scS c a b (k + 1) (sI (sI M 143 k v) 144 k w) := fun j h1 h2 => by
  simp only [mI_sI]
  by_cases e : j = k
  · subst e; simp [hv, hw]
  · have := h j h1 (by omega)
    simpa [e] using this
theorem scS.mv {c : Cf} {a b k : Nat} {M M' : gM} (h : scS c a b k M) (q : ∀ j, mI M' 143 j = mI M 143 j) (q2 : ∀ j, mI M' 144 j = mI M 144 j) : scS c a b k M' := fun j h1 h2 => by rw [q, q2]; exact h j h1 h2
set_option maxRecDepth 100000 in
set_option maxHeartbeats 4000000 in
theorem lp2_X12_laysScripts {g : gG} {Q : Option Value ⊕ String → gM → Prop} {c : Cf} {a b : Nat} {M0 : gM} (h0 : bS c M0) (hb : b ≤ 16) (K : ∀ M', fr scR M0 M' → scS c a b b M' → Q (.inl none) M') : ∀ k, k ≤ b → a ≤ k → ∀ M v, fr scR M0 M → scS c a b k M → v = scB c a b k → E g 1 0 0 mX12_laysScripts 56 [.ref 129, .int (nI a), .int (nI b), .int (nI v), .int (nI k)] [] M Q := by
  refine lpUp b (fun k hk ih => ?_)
  intro hak M v hF hS hv
  have h := h0.fr hF (fun a j q => by unfold scR at q; unfold cfA; omega)
  have hL := h.lay
  have tx := (h.wf.tx k).1
  have hu := h.wf.gl (cN c 141 k)
  have hs := scB_s (c := c) (b := b) hak
  have hvb := scB_b c a b k
  have step : ∀ v', v' = scB c a b (k + 1) → ∀ w, w = fcO c k → k < b → E g 1 0 0 mX12_laysScripts 56 [.ref 129, .int (nI a), .int (nI b), .int (nI v'), .int (nI (k + 1))] [] (sI (sI M 143 k (nI v')) 144 k (nI w)) Q := fun v' e w e2 hkb =>
    ih hkb (by omega) _ v' ((hF.wr (Or.inl rfl)).wr (Or.inr rfl)) (hS.set (by rw [e]; rfl) (by rw [e2])) e
  refine E_iload dX12_laysScripts_56 rfl ?_
  refine E_iload_n dX12_laysScripts_58 rfl ?_
  refine E_icmp_ge_n (tgt := 137) dX12_laysScripts_59 (by decide) (by omega) (by omega) (fun c_59 => ?_) (fun c_59 => ?_)
  · refine E_vret dX12_laysScripts_137 rfl ?_
    obtain rfl : k = b := by omega
    exact K _ hF hS
  · refine E_aload_n dX12_laysScripts_62 rfl ?_
    refine E_getRL dX12_laysScripts_63 kF_X12_47 kY_12 (Or.inr ⟨_, rfl⟩) (l_128 hL) (k_128 hL) (r_128_15 hL) ?_
    refine E_iload dX12_laysScripts_66 rfl ?_
    refine E_ialdL (v := nI (cN _ 141 _)) dX12_laysScripts_68 (l_141 hL) (k_141 hL) rfl (by first | omega | exact h.n256 _) (by decide) (h.gc (Or.inl ⟨by decide, by decide, by decide⟩)) ?_
    refine E_bipush (v := nI 30) dX12_laysScripts_69 (by decide) ?_
    refine E_icmp_lt_n (tgt := 78) dX12_laysScripts_71 (by decide) (by omega) (by omega) (fun c_71 => ?_) (fun c_71 => ?_)
    · refine E_aload_n dX12_laysScripts_78 rfl ?_
      refine E_getRL dX12_laysScripts_79 kF_X12_47 kY_12 (Or.inr ⟨_, rfl⟩) (l_128 hL) (k_128 hL) (r_128_15 hL) ?_
      refine E_iload dX12_laysScripts_82 rfl ?_
      refine E_ialdL (v := nI (cN _ 141 _)) dX12_laysScripts_84 (l_141 hL) (k_141 hL) rfl (by first | omega | exact h.n256 _) (by decide) (h.gc (Or.inl ⟨by decide, by decide, by decide⟩)) ?_
      refine E_bipush (v := nI 10) dX12_laysScripts_85 (by decide) ?_
      refine E_icmp_lt_n (tgt := 94) dX12_laysScripts_87 (by decide) (by omega) (by omega) (fun c_87 => ?_) (fun c_87 => ?_)
      · refine E_iload_n dX12_laysScripts_94 rfl ?_
        refine E_istore_n dX12_laysScripts_95 (Nat.le_of_ble_eq_true rfl) (by decide) rfl ?_
        refine E_aload_n dX12_laysScripts_96 rfl ?_
        refine E_getRL dX12_laysScripts_97 kF_X12_57 kY_12 (Or.inr ⟨_, rfl⟩) (l_128 hL) (k_128 hL) (r_128_18 hL) ?_
        refine E_iload dX12_laysScripts_100 rfl ?_
        refine E_iload_n dX12_laysScripts_102 rfl ?_
        refine E_iast dX12_laysScripts_103 (l_143 hL) (k_143 hL) rfl (by first | omega | exact h.n256 _) (by decide) ?_
        refine E_aload_n dX12_laysScripts_104 rfl ?_
        refine E_getRL dX12_laysScripts_105 kF_X12_60 kY_12 (Or.inr ⟨_, rfl⟩) (l_128 hL) (k_128 hL) (r_128_19 hL) ?_
        refine E_iload dX12_laysScripts_108 rfl ?_
        refine E_aload_n dX12_laysScripts_110 rfl ?_
        refine E_getRL dX12_laysScripts_111 kF_X12_43 kY_12 (Or.inr ⟨_, rfl⟩) (l_128 hL) (k_128 hL) (r_128_13 hL) ?_
        refine E_aload_n dX12_laysScripts_114 rfl ?_
        refine E_getRL dX12_laysScripts_115 kF_X12_47 kY_12 (Or.inr ⟨_, rfl⟩) (l_128 hL) (k_128 hL) (r_128_15 hL) ?_
        refine E_iload dX12_laysScripts_118 rfl ?_
        refine E_ialdL (v := nI (cN _ 141 _)) dX12_laysScripts_120 (l_141 hL) (k_141 hL) rfl (by first | omega | exact h.n256 _) (by decide) (h.gc (Or.inl ⟨by decide, by decide, by decide⟩)) ?_
        refine E_zaldL (v := nI (cN _ 140 _)) dX12_laysScripts_121 (l_140 hL) (k_140 hL) rfl (by first | omega | exact h.n256 _) (by decide) (h.gc (Or.inl ⟨by decide, by decide, by decide⟩)) ?_
        refine E_if_eq_n (tgt := 129) dX12_laysScripts_122 (by decide) (by omega) (fun c_122 => ?_) (fun c_122 => ?_)
        · refine E_iconst (v := nI 0) dX12_laysScripts_129 (by decide) ?_
          refine E_iast dX12_laysScripts_130 (l_144 hL) (k_144 hL) rfl (by first | omega | exact h.n256 _) (by decide) ?_
          refine E_iinc_n (d := 1) dX12_laysScripts_131 rfl rfl rfl (by decide) rfl ?_
          refine E_goto (tgt := 56) dX12_laysScripts_134 (by decide) ?_
          refine step _ ?_ _ ?_ (by omega)
          · rw [hs]; first | (rw [if_pos (by omega)]; unfold sgS; first | rw [if_pos (by omega)] | rw [if_neg (by omega)]) | (rw [if_neg (by omega)]; exact hv)
          · unfold fcO; omega
        · refine E_iconst (v := nI 1) dX12_laysScripts_125 (by decide) ?_
          refine E_goto (tgt := 130) dX12_laysScripts_126 (by decide) ?_
          refine E_iast dX12_laysScripts_130 (l_144 hL) (k_144 hL) rfl (by first | omega | exact h.n256 _) (by decide) ?_
          refine E_iinc_n (d := 1) dX12_laysScripts_131 rfl rfl rfl (by decide) rfl ?_
          refine E_goto (tgt := 56) dX12_laysScripts_134 (by decide) ?_
          refine step _ ?_ _ ?_ (by omega)
          · rw [hs]; first | (rw [if_pos (by omega)]; unfold sgS; first | rw [if_pos (by omega)] | rw [if_neg (by omega)]) | (rw [if_neg (by omega)]; exact hv)
          · unfold fcO; omega
      · refine E_iconst (v := nI 0) dX12_laysScripts_90 (by decide) ?_
        refine E_goto (tgt := 95) dX12_laysScripts_91 (by decide) ?_
        refine E_istore_n dX12_laysScripts_95 (Nat.le_of_ble_eq_true rfl) (by decide) rfl ?_
        refine E_aload_n dX12_laysScripts_96 rfl ?_
        refine E_getRL dX12_laysScripts_97 kF_X12_57 kY_12 (Or.inr ⟨_, rfl⟩) (l_128 hL) (k_128 hL) (r_128_18 hL) ?_
        refine E_iload dX12_laysScripts_100 rfl ?_
        refine E_iload_n dX12_laysScripts_102 rfl ?_
        refine E_iast dX12_laysScripts_103 (l_143 hL) (k_143 hL) rfl (by first | omega | exact h.n256 _) (by decide) ?_
        refine E_aload_n dX12_laysScripts_104 rfl ?_
        refine E_getRL dX12_laysScripts_105 kF_X12_60 kY_12 (Or.inr ⟨_, rfl⟩) (l_128 hL) (k_128 hL) (r_128_19 hL) ?_
        refine E_iload dX12_laysScripts_108 rfl ?_
        refine E_aload_n dX12_laysScripts_110 rfl ?_
        refine E_getRL dX12_laysScripts_111 kF_X12_43 kY_12 (Or.inr ⟨_, rfl⟩) (l_128 hL) (k_128 hL) (r_128_13 hL) ?_
        refine E_aload_n dX12_laysScripts_114 rfl ?_
        refine E_getRL dX12_laysScripts_115 kF_X12_47 kY_12 (Or.inr ⟨_, rfl⟩) (l_128 hL) (k_128 hL) (r_128_15 hL) ?_
        refine E_iload dX12_laysScripts_118 rfl ?_
        refine E_ialdL (v := nI (cN _ 141 _)) dX12_laysScripts_120 (l_141 hL) (k_141 hL) rfl (by first | omega | exact h.n256 _) (by decide) (h.gc (Or.inl ⟨by decide, by decide, by decide⟩)) ?_
        refine E_zaldL (v := nI (cN _ 140 _)) dX12_laysScripts_121 (l_140 hL) (k_140 hL) rfl (by first | omega | exact h.n256 _) (by decide) (h.gc (Or.inl ⟨by decide, by decide, by decide⟩)) ?_
        refine E_if_eq_n (tgt := 129) dX12_laysScripts_122 (by decide) (by omega) (fun c_122 => ?_) (fun c_122 => ?_)
        · refine E_iconst (v := nI 0) dX12_laysScripts_129 (by decide) ?_
          refine E_iast dX12_laysScripts_130 (l_144 hL) (k_144 hL) rfl (by first | omega | exact h.n256 _) (by decide) ?_
          refine E_iinc_n (d := 1) dX12_laysScripts_131 rfl rfl rfl (by decide) rfl ?_
          refine E_goto (tgt := 56) dX12_laysScripts_134 (by decide) ?_
          refine step _ ?_ _ ?_ (by omega)
          · rw [hs]; first | (rw [if_pos (by omega)]; unfold sgS; first | rw [if_pos (by omega)] | rw [if_neg (by omega)]) | (rw [if_neg (by omega)]; exact hv)
          · unfold fcO; omega
        · refine E_iconst (v := nI 1) dX12_laysScripts_125 (by decide) ?_
          refine E_goto (tgt := 130) dX12_laysScripts_126 (by decide) ?_
          refine E_iast dX12_laysScripts_130 (l_144 hL) (k_144 hL) rfl (by first | omega | exact h.n256 _) (by decide) ?_
          refine E_iinc_n (d := 1) dX12_laysScripts_131 rfl rfl rfl (by decide) rfl ?_
          refine E_goto (tgt := 56) dX12_laysScripts_134 (by decide) ?_
          refine step _ ?_ _ ?_ (by omega)
          · rw [hs]; first | (rw [if_pos (by omega)]; unfold sgS; first | rw [if_pos (by omega)] | rw [if_neg (by omega)]) | (rw [if_neg (by omega)]; exact hv)
          · unfold fcO; omega
    · refine E_iconst (v := nI 1) dX12_laysScripts_74 (by decide) ?_
      refine E_goto (tgt := 95) dX12_laysScripts_75 (by decide) ?_
      refine E_istore_n dX12_laysScripts_95 (Nat.le_of_ble_eq_true rfl) (by decide) rfl ?_
      refine E_aload_n dX12_laysScripts_96 rfl ?_
      refine E_getRL dX12_laysScripts_97 kF_X12_57 kY_12 (Or.inr ⟨_, rfl⟩) (l_128 hL) (k_128 hL) (r_128_18 hL) ?_
      refine E_iload dX12_laysScripts_100 rfl ?_
      refine E_iload_n dX12_laysScripts_102 rfl ?_
      refine E_iast dX12_laysScripts_103 (l_143 hL) (k_143 hL) rfl (by first | omega | exact h.n256 _) (by decide) ?_
      refine E_aload_n dX12_laysScripts_104 rfl ?_
      refine E_getRL dX12_laysScripts_105 kF_X12_60 kY_12 (Or.inr ⟨_, rfl⟩) (l_128 hL) (k_128 hL) (r_128_19 hL) ?_
      refine E_iload dX12_laysScripts_108 rfl ?_
      refine E_aload_n dX12_laysScripts_110 rfl ?_
      refine E_getRL dX12_laysScripts_111 kF_X12_43 kY_12 (Or.inr ⟨_, rfl⟩) (l_128 hL) (k_128 hL) (r_128_13 hL) ?_
      refine E_aload_n dX12_laysScripts_114 rfl ?_
      refine E_getRL dX12_laysScripts_115 kF_X12_47 kY_12 (Or.inr ⟨_, rfl⟩) (l_128 hL) (k_128 hL) (r_128_15 hL) ?_
      refine E_iload dX12_laysScripts_118 rfl ?_
      refine E_ialdL (v := nI (cN _ 141 _)) dX12_laysScripts_120 (l_141 hL) (k_141 hL) rfl (by first | omega | exact h.n256 _) (by decide) (h.gc (Or.inl ⟨by decide, by decide, by decide⟩)) ?_
      refine E_zaldL (v := nI (cN _ 140 _)) dX12_laysScripts_121 (l_140 hL) (k_140 hL) rfl (by first | omega | exact h.n256 _) (by decide) (h.gc (Or.inl ⟨by decide, by decide, by decide⟩)) ?_
      refine E_if_eq_n (tgt := 129) dX12_laysScripts_122 (by decide) (by omega) (fun c_122 => ?_) (fun c_122 => ?_)
      · refine E_iconst (v := nI 0) dX12_laysScripts_129 (by decide) ?_
        refine E_iast dX12_laysScripts_130 (l_144 hL) (k_144 hL) rfl (by first | omega | exact h.n256 _) (by decide) ?_
        refine E_iinc_n (d := 1) dX12_laysScripts_131 rfl rfl rfl (by decide) rfl ?_
        refine E_goto (tgt := 56) dX12_laysScripts_134 (by decide) ?_
        refine step _ ?_ _ ?_ (by omega)
        · rw [hs]; first | (rw [if_pos (by omega)]; unfold sgS; first | rw [if_pos (by omega)] | rw [if_neg (by omega)]) | (rw [if_neg (by omega)]; exact hv)
        · unfold fcO; omega
      · refine E_iconst (v := nI 1) dX12_laysScripts_125 (by decide) ?_
        refine E_goto (tgt := 130) dX12_laysScripts_126 (by decide) ?_
        refine E_iast dX12_laysScripts_130 (l_144 hL) (k_144 hL) rfl (by first | omega | exact h.n256 _) (by decide) ?_
        refine E_iinc_n (d := 1) dX12_laysScripts_131 rfl rfl rfl (by decide) rfl ?_
        refine E_goto (tgt := 56) dX12_laysScripts_134 (by decide) ?_
        refine step _ ?_ _ ?_ (by omega)
        · rw [hs]; first | (rw [if_pos (by omega)]; unfold sgS; first | rw [if_pos (by omega)] | rw [if_neg (by omega)]) | (rw [if_neg (by omega)]; exact hv)
        · unfold fcO; omega
set_option maxRecDepth 100000 in
set_option maxHeartbeats 4000000 in
theorem lp1_X12_laysScripts {g : gG} {M : gM} {Q : Option Value ⊕ String → gM → Prop} {c : Cf} (h : bS c M) {a b : Nat} (hab : a ≤ b) (hb : b ≤ 16) (K : ∀ M', fr scR M M' → scS c a b b M' → Q (.inl none) M') : ∀ k, a ≤ k → k ≤ b → ∀ v, v = scF c b k → E g 1 0 0 mX12_laysScripts 7 [.ref 129, .int (nI a), .int (nI b), .int (nI v), .int (dI k)] [] M Q := by
  refine lpDn a (fun k hk ih => ?_)
  intro hkb v hv
  have hL := h.lay
  refine E_iload dX12_laysScripts_7 rfl ?_
  refine E_iload_n dX12_laysScripts_9 rfl ?_
  refine E_icmp_lt_d (tgt := 53) dX12_laysScripts_10 (by decide) (by omega) (by omega) (fun c_10 => ?_) (fun c_10 => ?_)
  · obtain rfl : k = a := by omega
    refine E_iload_n dX12_laysScripts_53 rfl ?_
    refine E_istore dX12_laysScripts_54 (Nat.le_of_ble_eq_true rfl) (by decide) rfl ?_
    exact lp2_X12_laysScripts h hb K k hkb (Nat.le_refl _) M v fr.refl (fun j h1 h2 => by omega) (by rw [scB_0]; exact hv)
  · obtain ⟨k, rfl⟩ : ∃ z, k = z + 1 := ⟨k - 1, by omega⟩
    rw [dI_succ]
    have tx := (h.wf.tx k).1
    have hs := scF_s (c := c) (b := b) (k := k) (by omega)
    have hvb := scF_b c b (k + 1)
    refine E_aload_n dX12_laysScripts_13 rfl ?_
    refine E_getRL dX12_laysScripts_14 kF_X12_47 kY_12 (Or.inr ⟨_, rfl⟩) (l_128 hL) (k_128 hL) (r_128_15 hL) ?_
    refine E_iload dX12_laysScripts_17 rfl ?_
    refine E_ialdL (v := nI (cN _ 141 _)) dX12_laysScripts_19 (l_141 hL) (k_141 hL) rfl (by first | omega | exact h.n256 _) (by decide) (h.gc (Or.inl ⟨by decide, by decide, by decide⟩)) ?_
    refine E_bipush (v := nI 30) dX12_laysScripts_20 (by decide) ?_
    refine E_icmp_lt_n (tgt := 29) dX12_laysScripts_22 (by decide) (by omega) (by omega) (fun c_22 => ?_) (fun c_22 => ?_)
    · refine E_aload_n dX12_laysScripts_29 rfl ?_
      refine E_getRL dX12_laysScripts_30 kF_X12_47 kY_12 (Or.inr ⟨_, rfl⟩) (l_128 hL) (k_128 hL) (r_128_15 hL) ?_
      refine E_iload dX12_laysScripts_33 rfl ?_
      refine E_ialdL (v := nI (cN _ 141 _)) dX12_laysScripts_35 (l_141 hL) (k_141 hL) rfl (by first | omega | exact h.n256 _) (by decide) (h.gc (Or.inl ⟨by decide, by decide, by decide⟩)) ?_
      refine E_bipush (v := nI 10) dX12_laysScripts_36 (by decide) ?_
      refine E_icmp_lt_n (tgt := 45) dX12_laysScripts_38 (by decide) (by omega) (by omega) (fun c_38 => ?_) (fun c_38 => ?_)
      · refine E_iload_n dX12_laysScripts_45 rfl ?_
        refine E_istore_n dX12_laysScripts_46 (Nat.le_of_ble_eq_true rfl) (by decide) rfl ?_
        refine E_iinc_d dX12_laysScripts_47 rfl rfl (by decide) rfl ?_
        refine E_goto (tgt := 7) dX12_laysScripts_50 (by decide) ?_
        refine ih (by omega) (by omega) _ ?_
        show _ = scF c b k
        rw [hs]; first | (rw [if_pos (by omega)]; unfold sgS; first | rw [if_pos (by omega)] | rw [if_neg (by omega)]) | (rw [if_neg (by omega)]; exact hv)
      · refine E_iconst (v := nI 0) dX12_laysScripts_41 (by decide) ?_
        refine E_goto (tgt := 46) dX12_laysScripts_42 (by decide) ?_
        refine E_istore_n dX12_laysScripts_46 (Nat.le_of_ble_eq_true rfl) (by decide) rfl ?_
        refine E_iinc_d dX12_laysScripts_47 rfl rfl (by decide) rfl ?_
        refine E_goto (tgt := 7) dX12_laysScripts_50 (by decide) ?_
        refine ih (by omega) (by omega) _ ?_
        show _ = scF c b k
        rw [hs]; first | (rw [if_pos (by omega)]; unfold sgS; first | rw [if_pos (by omega)] | rw [if_neg (by omega)]) | (rw [if_neg (by omega)]; exact hv)
    · refine E_iconst (v := nI 1) dX12_laysScripts_25 (by decide) ?_
      refine E_goto (tgt := 46) dX12_laysScripts_26 (by decide) ?_
      refine E_istore_n dX12_laysScripts_46 (Nat.le_of_ble_eq_true rfl) (by decide) rfl ?_
      refine E_iinc_d dX12_laysScripts_47 rfl rfl (by decide) rfl ?_
      refine E_goto (tgt := 7) dX12_laysScripts_50 (by decide) ?_
      refine ih (by omega) (by omega) _ ?_
      show _ = scF c b k
      rw [hs]; first | (rw [if_pos (by omega)]; unfold sgS; first | rw [if_pos (by omega)] | rw [if_neg (by omega)]) | (rw [if_neg (by omega)]; exact hv)
set_option maxRecDepth 100000 in
set_option maxHeartbeats 4000000 in
theorem sp_X12_laysScripts {g : gG} {M : gM} {Q : Option Value ⊕ String → gM → Prop} {c : Cf} (h : bS c M) {a b : Nat} (hab : a ≤ b) (hb : b ≤ 16) (K : ∀ M', fr scR M M' → scS c a b b M' → Q (.inl none) M') : E g 1 0 0 mX12_laysScripts 0 [.ref 129, .int (nI a), .int (nI b), .null, .null] [] M Q := by
  have hL := h.lay
  refine E_iconst (v := nI 0) dX12_laysScripts_0 (by decide) ?_
  refine E_istore_n dX12_laysScripts_1 (Nat.le_of_ble_eq_true rfl) (by decide) rfl ?_
  refine E_iload_n dX12_laysScripts_2 rfl ?_
  refine E_iconst (v := nI 1) dX12_laysScripts_3 (by decide) ?_
  refine E_isub_d dX12_laysScripts_4 ?_
  refine E_istore dX12_laysScripts_5 (Nat.le_of_ble_eq_true rfl) (by decide) rfl ?_
  exact lp1_X12_laysScripts h hab hb K b hab (Nat.le_refl _) 0 (scF_0 (Nat.le_refl _)).symm
noncomputable def eor (c : Cf) (a b k : Nat) : Nat := fnd (fun j => ¬ (scr c a b j = scr c a b k ∧ fcO c j = fcO c k)) b k
theorem eor_b {c : Cf} {a b k : Nat} (h : k < b) : k + 1 ≤ eor c a b k ∧ eor c a b k ≤ b := by
  unfold eor
  rw [fnd_skip h (fun q => q ⟨rfl, rfl⟩)]
  exact ⟨(fnd_spec h).1, (fnd_spec h).2.1⟩
theorem fcO_b {c : Cf} (h : WFc c) (j : Nat) : fcO c j ≤ 1 := (h.gl _).2.2.2
set_option maxRecDepth 100000 in
set_option maxHeartbeats 4000000 in
theorem lp_X12_endOfRun {g : gG} {M : gM} {Q : Option Value ⊕ String → gM → Prop} (hL : gLay M) {c : Cf} (hw : WFc c) {a b k0 : Nat} (hS : scS c a b b M) (hb : b ≤ 16) (ha : a ≤ k0) (K : Q (.inl (some (.int (nI (eor c a b k0))))) M) : ∀ k, k ≤ b → k0 ≤ k → fnd (fun j => ¬ (scr c a b j = scr c a b k0 ∧ fcO c j = fcO c k0)) b k = eor c a b k0 → E g 1 0 0 mX12_endOfRun 2 [.ref 129, .int (nI k0), .int (nI b), .int (nI k)] [] M Q := by
  refine lpUp b (fun k hk ih => ?_)
  intro hak he
  have s1 := scr_b c a b k
  have s2 := scr_b c a b k0
  have s3 := fcO_b hw k
  have s4 := fcO_b hw k0
  refine E_iload_n dX12_endOfRun_2 rfl ?_
  refine E_iload_n dX12_endOfRun_3 rfl ?_
  refine E_icmp_ge_n (tgt := 43) dX12_endOfRun_4 (by decide) (by omega) (by omega) (fun c_4 => ?_) (fun c_4 => ?_)
  · refine E_iload_n dX12_endOfRun_43 rfl ?_
    refine E_iret dX12_endOfRun_44 (Or.inl rfl) ?_
    first
      | (rw [fnd_end (by omega)] at he; rw [he]; exact K)
      | (rw [fnd_hit (P := (fun j => ¬ (scr c a b j = scr c a b k0 ∧ fcO c j = fcO c k0))) (by omega) (fun q => by have := q.1; have := q.2; omega)] at he; rw [he]; exact K)
  · refine E_aload_n dX12_endOfRun_7 rfl ?_
    refine E_getRL dX12_endOfRun_8 kF_X12_57 kY_12 (Or.inr ⟨_, rfl⟩) (l_128 hL) (k_128 hL) (r_128_18 hL) ?_
    refine E_iload_n dX12_endOfRun_11 rfl ?_
    refine E_ialdL (v := nI (scr c a b _)) dX12_endOfRun_12 (l_143 hL) (k_143 hL) rfl (by omega) (by decide) (hS _ (by omega) (by omega)).1 ?_
    refine E_aload_n dX12_endOfRun_13 rfl ?_
    refine E_getRL dX12_endOfRun_14 kF_X12_57 kY_12 (Or.inr ⟨_, rfl⟩) (l_128 hL) (k_128 hL) (r_128_18 hL) ?_
    refine E_iload_n dX12_endOfRun_17 rfl ?_
    refine E_ialdL (v := nI (scr c a b _)) dX12_endOfRun_18 (l_143 hL) (k_143 hL) rfl (by omega) (by decide) (hS _ (by omega) (by omega)).1 ?_
    refine E_icmp_ne_n (tgt := 43) dX12_endOfRun_19 (by decide) (by omega) (by omega) (fun c_19 => ?_) (fun c_19 => ?_)
    · refine E_iload_n dX12_endOfRun_43 rfl ?_
      refine E_iret dX12_endOfRun_44 (Or.inl rfl) ?_
      first
        | (rw [fnd_end (by omega)] at he; rw [he]; exact K)
        | (rw [fnd_hit (P := (fun j => ¬ (scr c a b j = scr c a b k0 ∧ fcO c j = fcO c k0))) (by omega) (fun q => by have := q.1; have := q.2; omega)] at he; rw [he]; exact K)
    · refine E_aload_n dX12_endOfRun_22 rfl ?_
      refine E_getRL dX12_endOfRun_23 kF_X12_60 kY_12 (Or.inr ⟨_, rfl⟩) (l_128 hL) (k_128 hL) (r_128_19 hL) ?_
      refine E_iload_n dX12_endOfRun_26 rfl ?_
      refine E_ialdL (v := nI (fcO c _)) dX12_endOfRun_27 (l_144 hL) (k_144 hL) rfl (by omega) (by decide) (hS _ (by omega) (by omega)).2 ?_
      refine E_aload_n dX12_endOfRun_28 rfl ?_
      refine E_getRL dX12_endOfRun_29 kF_X12_60 kY_12 (Or.inr ⟨_, rfl⟩) (l_128 hL) (k_128 hL) (r_128_19 hL) ?_
      refine E_iload_n dX12_endOfRun_32 rfl ?_
      refine E_ialdL (v := nI (fcO c _)) dX12_endOfRun_33 (l_144 hL) (k_144 hL) rfl (by omega) (by decide) (hS _ (by omega) (by omega)).2 ?_
      refine E_icmp_ne_n (tgt := 43) dX12_endOfRun_34 (by decide) (by omega) (by omega) (fun c_34 => ?_) (fun c_34 => ?_)
      · refine E_iload_n dX12_endOfRun_43 rfl ?_
        refine E_iret dX12_endOfRun_44 (Or.inl rfl) ?_
        first
          | (rw [fnd_end (by omega)] at he; rw [he]; exact K)
          | (rw [fnd_hit (P := (fun j => ¬ (scr c a b j = scr c a b k0 ∧ fcO c j = fcO c k0))) (by omega) (fun q => by have := q.1; have := q.2; omega)] at he; rw [he]; exact K)
      · refine E_iinc_n (d := 1) dX12_endOfRun_37 rfl rfl rfl (by decide) rfl ?_
        refine E_goto (tgt := 2) dX12_endOfRun_40 (by decide) ?_
        exact ih (by omega) (by omega) (by rw [← he]; exact (fnd_skip (by omega) (fun q => q ⟨by omega, by omega⟩)).symm)
set_option maxRecDepth 100000 in
set_option maxHeartbeats 4000000 in
theorem sp_X12_endOfRun {g : gG} {M : gM} {Q : Option Value ⊕ String → gM → Prop} (hL : gLay M) {c : Cf} (hw : WFc c) {a b k0 : Nat} (hS : scS c a b b M) (hb : b ≤ 16) (ha : a ≤ k0) (hk : k0 ≤ b) (K : Q (.inl (some (.int (nI (eor c a b k0))))) M) : E g 1 0 0 mX12_endOfRun 0 [.ref 129, .int (nI k0), .int (nI b), .null] [] M Q := by
  refine E_iload_n dX12_endOfRun_0 rfl ?_
  refine E_istore_n dX12_endOfRun_1 (Nat.le_of_ble_eq_true rfl) (by decide) rfl ?_
  exact lp_X12_endOfRun hL hw hS hb ha K k0 hk (Nat.le_refl _) rfl
noncomputable def jfr (c : Cf) (a p : Nat) : Nat := rfd (fun j => j < a ∨ ¬ cMk (cN c 141 j)) p
def jfP (c : Cf) (a p : Nat) : Prop := a < jfr c a p ∧ (cBo (cN c 141 (jfr c a p - 1)) ∨ cN c 141 (jfr c a p - 1) = 2)
noncomputable def jon (c : Cf) (b p : Nat) : Nat := fnd (fun j => ¬ cMk (cN c 141 j)) b (p + 1)
def joP (c : Cf) (b p : Nat) : Prop := jon c b p < b ∧ ((10 ≤ cN c 141 (jon c b p) ∧ cN c 141 (jon c b p) ≤ 18) ∨ cN c 141 (jon c b p) = 20 ∨ cN c 141 (jon c b p) = 2)
theorem jfr_b {c : Cf} {a p : Nat} (h : a ≤ p) : a ≤ jfr c a p ∧ jfr c a p ≤ p := by
  refine ⟨?_, rfd_le p⟩
  by_cases e : jfr c a p < a
  · have := (rfd_spec (P := fun j => j < a ∨ ¬ cMk (cN c 141 j)) p).2 (a - 1) (by unfold jfr at e; omega) (by omega)
    exact absurd (Or.inl (by omega)) this
  · omega
set_option maxRecDepth 100000 in
set_option maxHeartbeats 4000000 in
theorem t_X12_joinsFrom {g : gG} {M : gM} {Q : Option Value ⊕ String → gM → Prop} {c : Cf} (h : bS c M) {a p q : Nat} (hp : p ≤ 16) (ha : a ≤ p) (hq : q ≤ p) (he : jfr c a p = q) (K : Q (.inl (some (.int (b2i (jfP c a p))))) M) : E g 3 0 0 mX12_joinsFrom 27 [.ref 129, .int (nI a), .int (nI p), .int (dI q)] [] M Q := by
  have hL := h.lay
  refine E_iload_n dX12_joinsFrom_27 rfl ?_
  refine E_iload_n dX12_joinsFrom_28 rfl ?_
  refine E_icmp_lt_d (tgt := 73) dX12_joinsFrom_29 (by decide) (by omega) (by omega) (fun c_29 => ?_) (fun c_29 => ?_)
  · refine E_iconst (v := nI 0) dX12_joinsFrom_73 (by decide) ?_
    refine E_iret dX12_joinsFrom_74 (Or.inr ⟨rfl, by decide⟩) ?_
    rw [← b2i_f (P := jfP c a p) (by unfold jfP; omega)]; exact K
  · obtain ⟨q, rfl⟩ : ∃ z, q = z + 1 := ⟨q - 1, by omega⟩
    rw [dI_succ]
    have tx := (h.wf.tx q).1
    refine E_aload_n dX12_joinsFrom_32 rfl ?_
    refine E_getRL dX12_joinsFrom_33 kF_X12_47 kY_12 (Or.inr ⟨_, rfl⟩) (l_128 hL) (k_128 hL) (r_128_15 hL) ?_
    refine E_iload_n dX12_joinsFrom_36 rfl ?_
    refine E_ialdL (v := nI (cN _ 141 _)) dX12_joinsFrom_37 (l_141 hL) (k_141 hL) rfl (by first | omega | exact h.n256 _) (by decide) (h.gc (Or.inl ⟨by decide, by decide, by decide⟩)) ?_
    refine E_bipush (v := nI 10) dX12_joinsFrom_38 (by decide) ?_
    refine E_bipush (v := nI 15) dX12_joinsFrom_40 (by decide) ?_
    refine E_callS3 (fr' := 1) (k1 := 0) (n1 := 0) (k2 := 0) (n2 := 0) dX12_joinsFrom_42 kO_X12_in kL_X12_162 rfl rfl rfl (by decide) (by decide) (by exact Nat.le_of_ble_eq_true rfl) (Or.inl rfl) rfl ?_
    refine sp_X12_inN (by first | omega | exact Nat.lt_trans (h.wf.tx _).1 (by decide)) (by decide) (by decide) ?_
    refine gKv ?_
    refine E_if_ne_b (tgt := 69) dX12_joinsFrom_45 (by decide) (fun c_45 => ?_) (fun c_45 => ?_)
    · refine E_iconst (v := nI 1) dX12_joinsFrom_69 (by decide) ?_
      refine E_goto (tgt := 74) dX12_joinsFrom_70 (by decide) ?_
      refine E_iret dX12_joinsFrom_74 (Or.inr ⟨rfl, by decide⟩) ?_
      rw [← b2i_t (P := jfP c a p) (by unfold jfP; rw [he, Nat.add_sub_cancel]; omega)]; exact K
    · refine E_aload_n dX12_joinsFrom_48 rfl ?_
      refine E_getRL dX12_joinsFrom_49 kF_X12_47 kY_12 (Or.inr ⟨_, rfl⟩) (l_128 hL) (k_128 hL) (r_128_15 hL) ?_
      refine E_iload_n dX12_joinsFrom_52 rfl ?_
      refine E_ialdL (v := nI (cN _ 141 _)) dX12_joinsFrom_53 (l_141 hL) (k_141 hL) rfl (by first | omega | exact h.n256 _) (by decide) (h.gc (Or.inl ⟨by decide, by decide, by decide⟩)) ?_
      refine E_bipush (v := nI 20) dX12_joinsFrom_54 (by decide) ?_
      refine E_icmp_eq_n (tgt := 69) dX12_joinsFrom_56 (by decide) (by omega) (by omega) (fun c_56 => ?_) (fun c_56 => ?_)
      · refine E_iconst (v := nI 1) dX12_joinsFrom_69 (by decide) ?_
        refine E_goto (tgt := 74) dX12_joinsFrom_70 (by decide) ?_
        refine E_iret dX12_joinsFrom_74 (Or.inr ⟨rfl, by decide⟩) ?_
        rw [← b2i_t (P := jfP c a p) (by unfold jfP; rw [he, Nat.add_sub_cancel]; omega)]; exact K
      · refine E_aload_n dX12_joinsFrom_59 rfl ?_
        refine E_getRL dX12_joinsFrom_60 kF_X12_47 kY_12 (Or.inr ⟨_, rfl⟩) (l_128 hL) (k_128 hL) (r_128_15 hL) ?_
        refine E_iload_n dX12_joinsFrom_63 rfl ?_
        refine E_ialdL (v := nI (cN _ 141 _)) dX12_joinsFrom_64 (l_141 hL) (k_141 hL) rfl (by first | omega | exact h.n256 _) (by decide) (h.gc (Or.inl ⟨by decide, by decide, by decide⟩)) ?_
        refine E_iconst (v := nI 2) dX12_joinsFrom_65 (by decide) ?_
        refine E_icmp_ne_n (tgt := 73) dX12_joinsFrom_66 (by decide) (by omega) (by omega) (fun c_66 => ?_) (fun c_66 => ?_)
        · refine E_iconst (v := nI 0) dX12_joinsFrom_73 (by decide) ?_
          refine E_iret dX12_joinsFrom_74 (Or.inr ⟨rfl, by decide⟩) ?_
          rw [← b2i_f (P := jfP c a p) (by unfold jfP; rw [he, Nat.add_sub_cancel]; omega)]; exact K
        · refine E_iconst (v := nI 1) dX12_joinsFrom_69 (by decide) ?_
          refine E_goto (tgt := 74) dX12_joinsFrom_70 (by decide) ?_
          refine E_iret dX12_joinsFrom_74 (Or.inr ⟨rfl, by decide⟩) ?_
          rw [← b2i_t (P := jfP c a p) (by unfold jfP; rw [he, Nat.add_sub_cancel]; omega)]; exact K
set_option maxRecDepth 100000 in
set_option maxHeartbeats 4000000 in
theorem lp_X12_joinsFrom {g : gG} {M : gM} {Q : Option Value ⊕ String → gM → Prop} {c : Cf} (h : bS c M) {a p : Nat} (hp : p ≤ 16) (ha : a ≤ p) (K : Q (.inl (some (.int (b2i (jfP c a p))))) M) : ∀ q, a ≤ q → q ≤ p → rfd (fun j => j < a ∨ ¬ cMk (cN c 141 j)) q = jfr c a p → E g 3 0 0 mX12_joinsFrom 4 [.ref 129, .int (nI a), .int (nI p), .int (dI q)] [] M Q := by
  refine lpDn a (fun q haq ih => ?_)
  intro hq he
  have hL := h.lay
  refine E_iload_n dX12_joinsFrom_4 rfl ?_
  refine E_iload_n dX12_joinsFrom_5 rfl ?_
  refine E_icmp_lt_d (tgt := 27) dX12_joinsFrom_6 (by decide) (by omega) (by omega) (fun c_6 => ?_) (fun c_6 => ?_)
  · refine t_X12_joinsFrom h hp ha hq ?_ K
    rw [← he]
    obtain rfl : q = a := by omega
    exact rfd_eq (Nat.le_refl _) (fun j hj => Or.inl (by omega)) (fun j h1 h2 => by omega)
  · obtain ⟨q, rfl⟩ : ∃ z, q = z + 1 := ⟨q - 1, by omega⟩
    rw [dI_succ]
    have tx := (h.wf.tx q).1
    refine E_aload_n dX12_joinsFrom_9 rfl ?_
    refine E_getRL dX12_joinsFrom_10 kF_X12_47 kY_12 (Or.inr ⟨_, rfl⟩) (l_128 hL) (k_128 hL) (r_128_15 hL) ?_
    refine E_iload_n dX12_joinsFrom_13 rfl ?_
    refine E_ialdL (v := nI (cN _ 141 _)) dX12_joinsFrom_14 (l_141 hL) (k_141 hL) rfl (by first | omega | exact h.n256 _) (by decide) (h.gc (Or.inl ⟨by decide, by decide, by decide⟩)) ?_
    refine E_callS1 (fr' := 2) (k1 := 0) (n1 := 0) (k2 := 0) (n2 := 0) dX12_joinsFrom_15 kO_X12_isMarkSign kL_X12_225 rfl (by decide) (by decide) (by exact Nat.le_of_ble_eq_true rfl) (Or.inl rfl) rfl ?_
    refine sp_X12_isMarkSignN (by first | omega | exact Nat.lt_trans (h.wf.tx _).1 (by decide) | exact Nat.lt_trans (h.ok.at _).1 (by decide)) ?_
    refine gKv ?_
    refine E_if_eq_b (tgt := 27) dX12_joinsFrom_18 (by decide) (fun c_18 => ?_) (fun c_18 => ?_)
    · have z := t_X12_joinsFrom (g := g) (Q := Q) h hp ha hq (by rw [← he]; exact rfd_t (Or.inr c_18)) K
      rw [dI_succ] at z
      exact z
    · refine E_iinc_d dX12_joinsFrom_21 rfl rfl (by decide) rfl ?_
      refine E_goto (tgt := 4) dX12_joinsFrom_24 (by decide) ?_
      exact ih (by omega) (by omega) (by rw [← he]; exact (rfd_f (P := (fun j => j < a ∨ ¬ cMk (cN c 141 j))) (k := q) (fun z => by omega)).symm)
set_option maxRecDepth 100000 in
set_option maxHeartbeats 4000000 in
theorem sp_X12_joinsFrom {g : gG} {M : gM} {Q : Option Value ⊕ String → gM → Prop} {c : Cf} (h : bS c M) {a p : Nat} (hp : p ≤ 16) (ha : a ≤ p) (K : Q (.inl (some (.int (b2i (jfP c a p))))) M) : E g 3 0 0 mX12_joinsFrom 0 [.ref 129, .int (nI a), .int (nI p), .null] [] M Q := by
  have hL := h.lay
  refine E_iload_n dX12_joinsFrom_0 rfl ?_
  refine E_iconst (v := nI 1) dX12_joinsFrom_1 (by decide) ?_
  refine E_isub_d dX12_joinsFrom_2 ?_
  refine E_istore_n dX12_joinsFrom_3 (Nat.le_of_ble_eq_true rfl) (by decide) rfl ?_
  exact lp_X12_joinsFrom h hp ha K p ha (Nat.le_refl _) rfl
set_option maxRecDepth 100000 in
set_option maxHeartbeats 4000000 in
theorem t_X12_joinsOn {g : gG} {M : gM} {Q : Option Value ⊕ String → gM → Prop} {c : Cf} (h : bS c M) {b p q : Nat} (hb : b ≤ 16) (hp : p ≤ 16) (hq : q ≤ 17) (he : jon c b p = q) (K : Q (.inl (some (.int (b2i (joP c b p))))) M) : E g 3 0 0 mX12_joinsOn 27 [.ref 129, .int (nI b), .int (nI p), .int (nI q)] [] M Q := by
  have hL := h.lay
  have tx := (h.wf.tx q).1
  refine E_iload_n dX12_joinsOn_27 rfl ?_
  refine E_iload_n dX12_joinsOn_28 rfl ?_
  refine E_icmp_ge_n (tgt := 73) dX12_joinsOn_29 (by decide) (by omega) (by omega) (fun c_29 => ?_) (fun c_29 => ?_)
  · refine E_iconst (v := nI 0) dX12_joinsOn_73 (by decide) ?_
    refine E_iret dX12_joinsOn_74 (Or.inr ⟨rfl, by decide⟩) ?_
    rw [← b2i_f (P := joP c b p) (by unfold joP; rw [he]; omega)]; exact K
  · refine E_aload_n dX12_joinsOn_32 rfl ?_
    refine E_getRL dX12_joinsOn_33 kF_X12_47 kY_12 (Or.inr ⟨_, rfl⟩) (l_128 hL) (k_128 hL) (r_128_15 hL) ?_
    refine E_iload_n dX12_joinsOn_36 rfl ?_
    refine E_ialdL (v := nI (cN _ 141 _)) dX12_joinsOn_37 (l_141 hL) (k_141 hL) rfl (by first | omega | exact h.n256 _) (by decide) (h.gc (Or.inl ⟨by decide, by decide, by decide⟩)) ?_
    refine E_bipush (v := nI 10) dX12_joinsOn_38 (by decide) ?_
    refine E_bipush (v := nI 18) dX12_joinsOn_40 (by decide) ?_
    refine E_callS3 (fr' := 1) (k1 := 0) (n1 := 0) (k2 := 0) (n2 := 0) dX12_joinsOn_42 kO_X12_in kL_X12_162 rfl rfl rfl (by decide) (by decide) (by exact Nat.le_of_ble_eq_true rfl) (Or.inl rfl) rfl ?_
    refine sp_X12_inN (by first | omega | exact Nat.lt_trans (h.wf.tx _).1 (by decide)) (by decide) (by decide) ?_
    refine gKv ?_
    refine E_if_ne_b (tgt := 69) dX12_joinsOn_45 (by decide) (fun c_45 => ?_) (fun c_45 => ?_)
    · refine E_iconst (v := nI 1) dX12_joinsOn_69 (by decide) ?_
      refine E_goto (tgt := 74) dX12_joinsOn_70 (by decide) ?_
      refine E_iret dX12_joinsOn_74 (Or.inr ⟨rfl, by decide⟩) ?_
      rw [← b2i_t (P := joP c b p) (by unfold joP; rw [he]; omega)]; exact K
    · refine E_aload_n dX12_joinsOn_48 rfl ?_
      refine E_getRL dX12_joinsOn_49 kF_X12_47 kY_12 (Or.inr ⟨_, rfl⟩) (l_128 hL) (k_128 hL) (r_128_15 hL) ?_
      refine E_iload_n dX12_joinsOn_52 rfl ?_
      refine E_ialdL (v := nI (cN _ 141 _)) dX12_joinsOn_53 (l_141 hL) (k_141 hL) rfl (by first | omega | exact h.n256 _) (by decide) (h.gc (Or.inl ⟨by decide, by decide, by decide⟩)) ?_
      refine E_bipush (v := nI 20) dX12_joinsOn_54 (by decide) ?_
      refine E_icmp_eq_n (tgt := 69) dX12_joinsOn_56 (by decide) (by omega) (by omega) (fun c_56 => ?_) (fun c_56 => ?_)
      · refine E_iconst (v := nI 1) dX12_joinsOn_69 (by decide) ?_
        refine E_goto (tgt := 74) dX12_joinsOn_70 (by decide) ?_
        refine E_iret dX12_joinsOn_74 (Or.inr ⟨rfl, by decide⟩) ?_
        rw [← b2i_t (P := joP c b p) (by unfold joP; rw [he]; omega)]; exact K
      · refine E_aload_n dX12_joinsOn_59 rfl ?_
        refine E_getRL dX12_joinsOn_60 kF_X12_47 kY_12 (Or.inr ⟨_, rfl⟩) (l_128 hL) (k_128 hL) (r_128_15 hL) ?_
        refine E_iload_n dX12_joinsOn_63 rfl ?_
        refine E_ialdL (v := nI (cN _ 141 _)) dX12_joinsOn_64 (l_141 hL) (k_141 hL) rfl (by first | omega | exact h.n256 _) (by decide) (h.gc (Or.inl ⟨by decide, by decide, by decide⟩)) ?_
        refine E_iconst (v := nI 2) dX12_joinsOn_65 (by decide) ?_
        refine E_icmp_ne_n (tgt := 73) dX12_joinsOn_66 (by decide) (by omega) (by omega) (fun c_66 => ?_) (fun c_66 => ?_)
        · refine E_iconst (v := nI 0) dX12_joinsOn_73 (by decide) ?_
          refine E_iret dX12_joinsOn_74 (Or.inr ⟨rfl, by decide⟩) ?_
          rw [← b2i_f (P := joP c b p) (by unfold joP; rw [he]; omega)]; exact K
        · refine E_iconst (v := nI 1) dX12_joinsOn_69 (by decide) ?_
          refine E_goto (tgt := 74) dX12_joinsOn_70 (by decide) ?_
          refine E_iret dX12_joinsOn_74 (Or.inr ⟨rfl, by decide⟩) ?_
          rw [← b2i_t (P := joP c b p) (by unfold joP; rw [he]; omega)]; exact K
set_option maxRecDepth 100000 in
set_option maxHeartbeats 4000000 in
theorem lp_X12_joinsOn {g : gG} {M : gM} {Q : Option Value ⊕ String → gM → Prop} {c : Cf} (h : bS c M) {b p : Nat} (hb : b ≤ 16) (hp : p < b) (K : Q (.inl (some (.int (b2i (joP c b p))))) M) : ∀ q, q ≤ b → fnd (fun j => ¬ cMk (cN c 141 j)) b q = jon c b p → E g 3 0 0 mX12_joinsOn 4 [.ref 129, .int (nI b), .int (nI p), .int (nI q)] [] M Q := by
  refine lpUp b (fun q hq ih => ?_)
  intro he
  have hL := h.lay
  have tx := (h.wf.tx q).1
  refine E_iload_n dX12_joinsOn_4 rfl ?_
  refine E_iload_n dX12_joinsOn_5 rfl ?_
  refine E_icmp_ge_n (tgt := 27) dX12_joinsOn_6 (by decide) (by omega) (by omega) (fun c_6 => ?_) (fun c_6 => ?_)
  · refine t_X12_joinsOn h hb (by omega) (by omega) ?_ K
    rw [← he]
    first | exact fnd_hit (by omega) c_18 | exact fnd_end (by omega)
  · refine E_aload_n dX12_joinsOn_9 rfl ?_
    refine E_getRL dX12_joinsOn_10 kF_X12_47 kY_12 (Or.inr ⟨_, rfl⟩) (l_128 hL) (k_128 hL) (r_128_15 hL) ?_
    refine E_iload_n dX12_joinsOn_13 rfl ?_
    refine E_ialdL (v := nI (cN _ 141 _)) dX12_joinsOn_14 (l_141 hL) (k_141 hL) rfl (by first | omega | exact h.n256 _) (by decide) (h.gc (Or.inl ⟨by decide, by decide, by decide⟩)) ?_
    refine E_callS1 (fr' := 2) (k1 := 0) (n1 := 0) (k2 := 0) (n2 := 0) dX12_joinsOn_15 kO_X12_isMarkSign kL_X12_225 rfl (by decide) (by decide) (by exact Nat.le_of_ble_eq_true rfl) (Or.inl rfl) rfl ?_
    refine sp_X12_isMarkSignN (by first | omega | exact Nat.lt_trans (h.wf.tx _).1 (by decide) | exact Nat.lt_trans (h.ok.at _).1 (by decide)) ?_
    refine gKv ?_
    refine E_if_eq_b (tgt := 27) dX12_joinsOn_18 (by decide) (fun c_18 => ?_) (fun c_18 => ?_)
    · refine t_X12_joinsOn h hb (by omega) (by omega) ?_ K
      rw [← he]
      first | exact fnd_hit (by omega) c_18 | exact fnd_end (by omega)
    · refine E_iinc_n (d := 1) dX12_joinsOn_21 rfl rfl rfl (by decide) rfl ?_
      refine E_goto (tgt := 4) dX12_joinsOn_24 (by decide) ?_
      exact ih (by omega) (by rw [← he]; exact (fnd_skip (by omega) (fun z => z c_18)).symm)
set_option maxRecDepth 100000 in
set_option maxHeartbeats 4000000 in
theorem sp_X12_joinsOn {g : gG} {M : gM} {Q : Option Value ⊕ String → gM → Prop} {c : Cf} (h : bS c M) {b p : Nat} (hb : b ≤ 16) (hp : p < b) (K : Q (.inl (some (.int (b2i (joP c b p))))) M) : E g 3 0 0 mX12_joinsOn 0 [.ref 129, .int (nI b), .int (nI p), .null] [] M Q := by
  have hL := h.lay
  refine E_iload_n dX12_joinsOn_0 rfl ?_
  refine E_iconst (v := nI 1) dX12_joinsOn_1 (by decide) ?_
  refine E_iadd_n dX12_joinsOn_2 ?_
  refine E_istore_n dX12_joinsOn_3 (Nat.le_of_ble_eq_true rfl) (by decide) rfl ?_
  exact lp_X12_joinsOn h hb hp K (p + 1) (by omega) rfl
noncomputable def frm (c : Cf) (a b p : Nat) : Int32 := cI (10 ≤ cN c 141 p ∧ cN c 141 p ≤ 20) (cI (¬ cN c 141 p = 19 ∧ jfP c a p) (cI (cBo (cN c 141 p) ∧ joP c b p) (nI 2) (nI 3)) (cI (cBo (cN c 141 p) ∧ joP c b p) (nI 1) (nI 0))) (-100)
theorem frm_n {c : Cf} {a b p : Nat} (h : ¬ (10 ≤ cN c 141 p ∧ cN c 141 p ≤ 20)) : frm c a b p = -100 := cI_f h
theorem frm_e {c : Cf} {a b p : Nat} (h : 10 ≤ cN c 141 p ∧ cN c 141 p ≤ 20) {A B : Prop} (hA : A ↔ ¬ cN c 141 p = 19 ∧ jfP c a p) (hB : B ↔ cBo (cN c 141 p) ∧ joP c b p) : frm c a b p = cI A (cI B (nI 2) (nI 3)) (cI B (nI 1) (nI 0)) := by
  unfold frm; rw [cI_t h, cI_congr hA, cI_congr hB, cI_congr hB]
theorem frm_v {c : Cf} {a b p : Nat} (h : 10 ≤ cN c 141 p ∧ cN c 141 p ≤ 20) : frm c a b p = cI (¬ cN c 141 p = 19 ∧ jfP c a p) (cI (cBo (cN c 141 p) ∧ joP c b p) (nI 2) (nI 3)) (cI (cBo (cN c 141 p) ∧ joP c b p) (nI 1) (nI 0)) := cI_t h
theorem cI_tf {α : Type} {P : Prop} {a b x : α} (h : (P ∧ x = a) ∨ (¬ P ∧ x = b)) : x = cI P a b := by
  rcases h with ⟨h1, h2⟩ | ⟨h1, h2⟩
  · rw [cI_t h1]; exact h2
  · rw [cI_f h1]; exact h2
set_option maxRecDepth 100000 in
set_option maxHeartbeats 4000000 in
theorem sp_X12_formOf {g : gG} {M : gM} {Q : Option Value ⊕ String → gM → Prop} {c : Cf} (h : bS c M) {a b p : Nat} (hb : b ≤ 16) (ha : a ≤ p) (hp : p < b) (K : Q (.inl (some (.int (frm c a b p)))) M) : E g 4 0 0 mX12_formOf 0 [.ref 129, .int (nI a), .int (nI b), .int (nI p), .null, .null, .null] [] M Q := by
  have hL := h.lay
  have tx := (h.wf.tx p).1
  refine E_aload_n dX12_formOf_0 rfl ?_
  refine E_getRL dX12_formOf_1 kF_X12_47 kY_12 (Or.inr ⟨_, rfl⟩) (l_128 hL) (k_128 hL) (r_128_15 hL) ?_
  refine E_iload_n dX12_formOf_4 rfl ?_
  refine E_ialdL (v := nI (cN _ 141 _)) dX12_formOf_5 (l_141 hL) (k_141 hL) rfl (by first | omega | exact h.n256 _) (by decide) (h.gc (Or.inl ⟨by decide, by decide, by decide⟩)) ?_
  refine E_istore dX12_formOf_6 (Nat.le_of_ble_eq_true rfl) (by decide) rfl ?_
  refine E_iload dX12_formOf_8 rfl ?_
  refine E_bipush (v := nI 10) dX12_formOf_10 (by decide) ?_
  refine E_bipush (v := nI 20) dX12_formOf_12 (by decide) ?_
  refine E_callS3 (fr' := 1) (k1 := 0) (n1 := 0) (k2 := 0) (n2 := 0) dX12_formOf_14 kO_X12_in kL_X12_162 rfl rfl rfl (by decide) (by decide) (by exact Nat.le_of_ble_eq_true rfl) (Or.inl rfl) rfl ?_
  refine sp_X12_inN (by first | omega | exact Nat.lt_trans (h.wf.tx _).1 (by decide)) (by decide) (by decide) ?_
  refine gKv ?_
  refine E_if_ne_b (tgt := 23) dX12_formOf_17 (by decide) (fun c_17 => ?_) (fun c_17 => ?_)
  · refine E_iload dX12_formOf_23 rfl ?_
    refine E_bipush (v := nI 19) dX12_formOf_25 (by decide) ?_
    refine E_icmp_eq_n (tgt := 43) dX12_formOf_27 (by decide) (by omega) (by omega) (fun c_27 => ?_) (fun c_27 => ?_)
    · refine E_iconst (v := nI 0) dX12_formOf_43 (by decide) ?_
      refine E_istore dX12_formOf_44 (Nat.le_of_ble_eq_true rfl) (by decide) rfl ?_
      refine E_iload dX12_formOf_46 rfl ?_
      refine E_bipush (v := nI 10) dX12_formOf_48 (by decide) ?_
      refine E_bipush (v := nI 15) dX12_formOf_50 (by decide) ?_
      refine E_callS3 (fr' := 1) (k1 := 0) (n1 := 0) (k2 := 0) (n2 := 0) dX12_formOf_52 kO_X12_in kL_X12_162 rfl rfl rfl (by decide) (by decide) (by exact Nat.le_of_ble_eq_true rfl) (Or.inl rfl) rfl ?_
      refine sp_X12_inN (by first | omega | exact Nat.lt_trans (h.wf.tx _).1 (by decide)) (by decide) (by decide) ?_
      refine gKv ?_
      refine E_if_ne_b (tgt := 65) dX12_formOf_55 (by decide) (fun c_55 => ?_) (fun c_55 => ?_)
      · refine E_aload_n dX12_formOf_65 rfl ?_
        refine E_iload_n dX12_formOf_66 rfl ?_
        refine E_iload_n dX12_formOf_67 rfl ?_
        refine E_callV2 (fr' := 3) (k1 := 0) (n1 := 0) (k2 := 0) (n2 := 0) dX12_formOf_68 kO_X12_joinsOn kL_X12_232 (l_128 hL) (k_128 hL) ⟨by decide, rfl⟩ rfl rfl (by decide) (by decide) (by exact Nat.le_of_ble_eq_true rfl) rfl ?_
        refine sp_X12_joinsOn h.b (by omega) (by omega) ?_
        refine gKv ?_
        refine E_if_eq_b (tgt := 78) dX12_formOf_71 (by decide) (fun c_71 => ?_) (fun c_71 => ?_)
        · refine E_iconst (v := nI 0) dX12_formOf_78 (by decide) ?_
          refine E_istore dX12_formOf_79 (Nat.le_of_ble_eq_true rfl) (by decide) rfl ?_
          refine E_iload dX12_formOf_81 rfl ?_
          refine E_if_eq (tgt := 99) dX12_formOf_83 (by decide) (fun _ => ?_) (fun c0 => absurd (by decide) c0)
          refine E_iload dX12_formOf_99 rfl ?_
          refine E_if_eq (tgt := 108) dX12_formOf_101 (by decide) (fun _ => ?_) (fun c0 => absurd (by decide) c0)
          refine E_iconst (v := nI 0) dX12_formOf_108 (by decide) ?_
          refine E_iret dX12_formOf_109 (Or.inl rfl) ?_
          have e : frm c a b p = nI 0 := by
            rw [frm_v c_17]
            first
              | (exfalso; omega)
              | rw [cI_t (by grind), cI_t (by grind)]
              | rw [cI_t (by grind), cI_f (by grind)]
              | rw [cI_f (by grind), cI_t (by grind)]
              | rw [cI_f (by grind), cI_f (by grind)]
          rw [← e]; exact K
        · refine E_iconst (v := nI 1) dX12_formOf_74 (by decide) ?_
          refine E_goto (tgt := 79) dX12_formOf_75 (by decide) ?_
          refine E_istore dX12_formOf_79 (Nat.le_of_ble_eq_true rfl) (by decide) rfl ?_
          refine E_iload dX12_formOf_81 rfl ?_
          refine E_if_eq (tgt := 99) dX12_formOf_83 (by decide) (fun _ => ?_) (fun c0 => absurd (by decide) c0)
          refine E_iload dX12_formOf_99 rfl ?_
          refine E_if_eq (tgt := 108) dX12_formOf_101 (by decide) (fun c0 => absurd c0 (by decide)) (fun _ => ?_)
          refine E_iconst (v := nI 1) dX12_formOf_104 (by decide) ?_
          refine E_goto (tgt := 109) dX12_formOf_105 (by decide) ?_
          refine E_iret dX12_formOf_109 (Or.inl rfl) ?_
          have e : frm c a b p = nI 1 := by
            rw [frm_v c_17]
            first
              | (exfalso; omega)
              | rw [cI_t (by grind), cI_t (by grind)]
              | rw [cI_t (by grind), cI_f (by grind)]
              | rw [cI_f (by grind), cI_t (by grind)]
              | rw [cI_f (by grind), cI_f (by grind)]
          rw [← e]; exact K
      · refine E_iload dX12_formOf_58 rfl ?_
        refine E_bipush (v := nI 20) dX12_formOf_60 (by decide) ?_
        refine E_icmp_ne_n (tgt := 78) dX12_formOf_62 (by decide) (by omega) (by omega) (fun c_62 => ?_) (fun c_62 => ?_)
        · refine E_iconst (v := nI 0) dX12_formOf_78 (by decide) ?_
          refine E_istore dX12_formOf_79 (Nat.le_of_ble_eq_true rfl) (by decide) rfl ?_
          refine E_iload dX12_formOf_81 rfl ?_
          refine E_if_eq (tgt := 99) dX12_formOf_83 (by decide) (fun _ => ?_) (fun c0 => absurd (by decide) c0)
          refine E_iload dX12_formOf_99 rfl ?_
          refine E_if_eq (tgt := 108) dX12_formOf_101 (by decide) (fun _ => ?_) (fun c0 => absurd (by decide) c0)
          refine E_iconst (v := nI 0) dX12_formOf_108 (by decide) ?_
          refine E_iret dX12_formOf_109 (Or.inl rfl) ?_
          have e : frm c a b p = nI 0 := by
            rw [frm_v c_17]
            first
              | (exfalso; omega)
              | rw [cI_t (by grind), cI_t (by grind)]
              | rw [cI_t (by grind), cI_f (by grind)]
              | rw [cI_f (by grind), cI_t (by grind)]
              | rw [cI_f (by grind), cI_f (by grind)]
          rw [← e]; exact K
        · refine E_aload_n dX12_formOf_65 rfl ?_
          refine E_iload_n dX12_formOf_66 rfl ?_
          refine E_iload_n dX12_formOf_67 rfl ?_
          refine E_callV2 (fr' := 3) (k1 := 0) (n1 := 0) (k2 := 0) (n2 := 0) dX12_formOf_68 kO_X12_joinsOn kL_X12_232 (l_128 hL) (k_128 hL) ⟨by decide, rfl⟩ rfl rfl (by decide) (by decide) (by exact Nat.le_of_ble_eq_true rfl) rfl ?_
          refine sp_X12_joinsOn h.b (by omega) (by omega) ?_
          refine gKv ?_
          refine E_if_eq_b (tgt := 78) dX12_formOf_71 (by decide) (fun c_71 => ?_) (fun c_71 => ?_)
          · refine E_iconst (v := nI 0) dX12_formOf_78 (by decide) ?_
            refine E_istore dX12_formOf_79 (Nat.le_of_ble_eq_true rfl) (by decide) rfl ?_
            refine E_iload dX12_formOf_81 rfl ?_
            refine E_if_eq (tgt := 99) dX12_formOf_83 (by decide) (fun _ => ?_) (fun c0 => absurd (by decide) c0)
            refine E_iload dX12_formOf_99 rfl ?_
            refine E_if_eq (tgt := 108) dX12_formOf_101 (by decide) (fun _ => ?_) (fun c0 => absurd (by decide) c0)
            refine E_iconst (v := nI 0) dX12_formOf_108 (by decide) ?_
            refine E_iret dX12_formOf_109 (Or.inl rfl) ?_
            have e : frm c a b p = nI 0 := by
              rw [frm_v c_17]
              first
                | (exfalso; omega)
                | rw [cI_t (by grind), cI_t (by grind)]
                | rw [cI_t (by grind), cI_f (by grind)]
                | rw [cI_f (by grind), cI_t (by grind)]
                | rw [cI_f (by grind), cI_f (by grind)]
            rw [← e]; exact K
          · refine E_iconst (v := nI 1) dX12_formOf_74 (by decide) ?_
            refine E_goto (tgt := 79) dX12_formOf_75 (by decide) ?_
            refine E_istore dX12_formOf_79 (Nat.le_of_ble_eq_true rfl) (by decide) rfl ?_
            refine E_iload dX12_formOf_81 rfl ?_
            refine E_if_eq (tgt := 99) dX12_formOf_83 (by decide) (fun _ => ?_) (fun c0 => absurd (by decide) c0)
            refine E_iload dX12_formOf_99 rfl ?_
            refine E_if_eq (tgt := 108) dX12_formOf_101 (by decide) (fun c0 => absurd c0 (by decide)) (fun _ => ?_)
            refine E_iconst (v := nI 1) dX12_formOf_104 (by decide) ?_
            refine E_goto (tgt := 109) dX12_formOf_105 (by decide) ?_
            refine E_iret dX12_formOf_109 (Or.inl rfl) ?_
            have e : frm c a b p = nI 1 := by
              rw [frm_v c_17]
              first
                | (exfalso; omega)
                | rw [cI_t (by grind), cI_t (by grind)]
                | rw [cI_t (by grind), cI_f (by grind)]
                | rw [cI_f (by grind), cI_t (by grind)]
                | rw [cI_f (by grind), cI_f (by grind)]
            rw [← e]; exact K
    · refine E_aload_n dX12_formOf_30 rfl ?_
      refine E_iload_n dX12_formOf_31 rfl ?_
      refine E_iload_n dX12_formOf_32 rfl ?_
      refine E_callV2 (fr' := 3) (k1 := 0) (n1 := 0) (k2 := 0) (n2 := 0) dX12_formOf_33 kO_X12_joinsFrom kL_X12_228 (l_128 hL) (k_128 hL) ⟨by decide, rfl⟩ rfl rfl (by decide) (by decide) (by exact Nat.le_of_ble_eq_true rfl) rfl ?_
      refine sp_X12_joinsFrom h.b (by omega) (by omega) ?_
      refine gKv ?_
      refine E_if_eq_b (tgt := 43) dX12_formOf_36 (by decide) (fun c_36 => ?_) (fun c_36 => ?_)
      · refine E_iconst (v := nI 0) dX12_formOf_43 (by decide) ?_
        refine E_istore dX12_formOf_44 (Nat.le_of_ble_eq_true rfl) (by decide) rfl ?_
        refine E_iload dX12_formOf_46 rfl ?_
        refine E_bipush (v := nI 10) dX12_formOf_48 (by decide) ?_
        refine E_bipush (v := nI 15) dX12_formOf_50 (by decide) ?_
        refine E_callS3 (fr' := 1) (k1 := 0) (n1 := 0) (k2 := 0) (n2 := 0) dX12_formOf_52 kO_X12_in kL_X12_162 rfl rfl rfl (by decide) (by decide) (by exact Nat.le_of_ble_eq_true rfl) (Or.inl rfl) rfl ?_
        refine sp_X12_inN (by first | omega | exact Nat.lt_trans (h.wf.tx _).1 (by decide)) (by decide) (by decide) ?_
        refine gKv ?_
        refine E_if_ne_b (tgt := 65) dX12_formOf_55 (by decide) (fun c_55 => ?_) (fun c_55 => ?_)
        · refine E_aload_n dX12_formOf_65 rfl ?_
          refine E_iload_n dX12_formOf_66 rfl ?_
          refine E_iload_n dX12_formOf_67 rfl ?_
          refine E_callV2 (fr' := 3) (k1 := 0) (n1 := 0) (k2 := 0) (n2 := 0) dX12_formOf_68 kO_X12_joinsOn kL_X12_232 (l_128 hL) (k_128 hL) ⟨by decide, rfl⟩ rfl rfl (by decide) (by decide) (by exact Nat.le_of_ble_eq_true rfl) rfl ?_
          refine sp_X12_joinsOn h.b (by omega) (by omega) ?_
          refine gKv ?_
          refine E_if_eq_b (tgt := 78) dX12_formOf_71 (by decide) (fun c_71 => ?_) (fun c_71 => ?_)
          · refine E_iconst (v := nI 0) dX12_formOf_78 (by decide) ?_
            refine E_istore dX12_formOf_79 (Nat.le_of_ble_eq_true rfl) (by decide) rfl ?_
            refine E_iload dX12_formOf_81 rfl ?_
            refine E_if_eq (tgt := 99) dX12_formOf_83 (by decide) (fun _ => ?_) (fun c0 => absurd (by decide) c0)
            refine E_iload dX12_formOf_99 rfl ?_
            refine E_if_eq (tgt := 108) dX12_formOf_101 (by decide) (fun _ => ?_) (fun c0 => absurd (by decide) c0)
            refine E_iconst (v := nI 0) dX12_formOf_108 (by decide) ?_
            refine E_iret dX12_formOf_109 (Or.inl rfl) ?_
            have e : frm c a b p = nI 0 := by
              rw [frm_v c_17]
              first
                | (exfalso; omega)
                | rw [cI_t (by grind), cI_t (by grind)]
                | rw [cI_t (by grind), cI_f (by grind)]
                | rw [cI_f (by grind), cI_t (by grind)]
                | rw [cI_f (by grind), cI_f (by grind)]
            rw [← e]; exact K
          · refine E_iconst (v := nI 1) dX12_formOf_74 (by decide) ?_
            refine E_goto (tgt := 79) dX12_formOf_75 (by decide) ?_
            refine E_istore dX12_formOf_79 (Nat.le_of_ble_eq_true rfl) (by decide) rfl ?_
            refine E_iload dX12_formOf_81 rfl ?_
            refine E_if_eq (tgt := 99) dX12_formOf_83 (by decide) (fun _ => ?_) (fun c0 => absurd (by decide) c0)
            refine E_iload dX12_formOf_99 rfl ?_
            refine E_if_eq (tgt := 108) dX12_formOf_101 (by decide) (fun c0 => absurd c0 (by decide)) (fun _ => ?_)
            refine E_iconst (v := nI 1) dX12_formOf_104 (by decide) ?_
            refine E_goto (tgt := 109) dX12_formOf_105 (by decide) ?_
            refine E_iret dX12_formOf_109 (Or.inl rfl) ?_
            have e : frm c a b p = nI 1 := by
              rw [frm_v c_17]
              first
                | (exfalso; omega)
                | rw [cI_t (by grind), cI_t (by grind)]
                | rw [cI_t (by grind), cI_f (by grind)]
                | rw [cI_f (by grind), cI_t (by grind)]
                | rw [cI_f (by grind), cI_f (by grind)]
            rw [← e]; exact K
        · refine E_iload dX12_formOf_58 rfl ?_
          refine E_bipush (v := nI 20) dX12_formOf_60 (by decide) ?_
          refine E_icmp_ne_n (tgt := 78) dX12_formOf_62 (by decide) (by omega) (by omega) (fun c_62 => ?_) (fun c_62 => ?_)
          · refine E_iconst (v := nI 0) dX12_formOf_78 (by decide) ?_
            refine E_istore dX12_formOf_79 (Nat.le_of_ble_eq_true rfl) (by decide) rfl ?_
            refine E_iload dX12_formOf_81 rfl ?_
            refine E_if_eq (tgt := 99) dX12_formOf_83 (by decide) (fun _ => ?_) (fun c0 => absurd (by decide) c0)
            refine E_iload dX12_formOf_99 rfl ?_
            refine E_if_eq (tgt := 108) dX12_formOf_101 (by decide) (fun _ => ?_) (fun c0 => absurd (by decide) c0)
            refine E_iconst (v := nI 0) dX12_formOf_108 (by decide) ?_
            refine E_iret dX12_formOf_109 (Or.inl rfl) ?_
            have e : frm c a b p = nI 0 := by
              rw [frm_v c_17]
              first
                | (exfalso; omega)
                | rw [cI_t (by grind), cI_t (by grind)]
                | rw [cI_t (by grind), cI_f (by grind)]
                | rw [cI_f (by grind), cI_t (by grind)]
                | rw [cI_f (by grind), cI_f (by grind)]
            rw [← e]; exact K
          · refine E_aload_n dX12_formOf_65 rfl ?_
            refine E_iload_n dX12_formOf_66 rfl ?_
            refine E_iload_n dX12_formOf_67 rfl ?_
            refine E_callV2 (fr' := 3) (k1 := 0) (n1 := 0) (k2 := 0) (n2 := 0) dX12_formOf_68 kO_X12_joinsOn kL_X12_232 (l_128 hL) (k_128 hL) ⟨by decide, rfl⟩ rfl rfl (by decide) (by decide) (by exact Nat.le_of_ble_eq_true rfl) rfl ?_
            refine sp_X12_joinsOn h.b (by omega) (by omega) ?_
            refine gKv ?_
            refine E_if_eq_b (tgt := 78) dX12_formOf_71 (by decide) (fun c_71 => ?_) (fun c_71 => ?_)
            · refine E_iconst (v := nI 0) dX12_formOf_78 (by decide) ?_
              refine E_istore dX12_formOf_79 (Nat.le_of_ble_eq_true rfl) (by decide) rfl ?_
              refine E_iload dX12_formOf_81 rfl ?_
              refine E_if_eq (tgt := 99) dX12_formOf_83 (by decide) (fun _ => ?_) (fun c0 => absurd (by decide) c0)
              refine E_iload dX12_formOf_99 rfl ?_
              refine E_if_eq (tgt := 108) dX12_formOf_101 (by decide) (fun _ => ?_) (fun c0 => absurd (by decide) c0)
              refine E_iconst (v := nI 0) dX12_formOf_108 (by decide) ?_
              refine E_iret dX12_formOf_109 (Or.inl rfl) ?_
              have e : frm c a b p = nI 0 := by
                rw [frm_v c_17]
                first
                  | (exfalso; omega)
                  | rw [cI_t (by grind), cI_t (by grind)]
                  | rw [cI_t (by grind), cI_f (by grind)]
                  | rw [cI_f (by grind), cI_t (by grind)]
                  | rw [cI_f (by grind), cI_f (by grind)]
              rw [← e]; exact K
            · refine E_iconst (v := nI 1) dX12_formOf_74 (by decide) ?_
              refine E_goto (tgt := 79) dX12_formOf_75 (by decide) ?_
              refine E_istore dX12_formOf_79 (Nat.le_of_ble_eq_true rfl) (by decide) rfl ?_
              refine E_iload dX12_formOf_81 rfl ?_
              refine E_if_eq (tgt := 99) dX12_formOf_83 (by decide) (fun _ => ?_) (fun c0 => absurd (by decide) c0)
              refine E_iload dX12_formOf_99 rfl ?_
              refine E_if_eq (tgt := 108) dX12_formOf_101 (by decide) (fun c0 => absurd c0 (by decide)) (fun _ => ?_)
              refine E_iconst (v := nI 1) dX12_formOf_104 (by decide) ?_
              refine E_goto (tgt := 109) dX12_formOf_105 (by decide) ?_
              refine E_iret dX12_formOf_109 (Or.inl rfl) ?_
              have e : frm c a b p = nI 1 := by
                rw [frm_v c_17]
                first
                  | (exfalso; omega)
                  | rw [cI_t (by grind), cI_t (by grind)]
                  | rw [cI_t (by grind), cI_f (by grind)]
                  | rw [cI_f (by grind), cI_t (by grind)]
                  | rw [cI_f (by grind), cI_f (by grind)]
              rw [← e]; exact K
      · refine E_iconst (v := nI 1) dX12_formOf_39 (by decide) ?_
        refine E_goto (tgt := 44) dX12_formOf_40 (by decide) ?_
        refine E_istore dX12_formOf_44 (Nat.le_of_ble_eq_true rfl) (by decide) rfl ?_
        refine E_iload dX12_formOf_46 rfl ?_
        refine E_bipush (v := nI 10) dX12_formOf_48 (by decide) ?_
        refine E_bipush (v := nI 15) dX12_formOf_50 (by decide) ?_
        refine E_callS3 (fr' := 1) (k1 := 0) (n1 := 0) (k2 := 0) (n2 := 0) dX12_formOf_52 kO_X12_in kL_X12_162 rfl rfl rfl (by decide) (by decide) (by exact Nat.le_of_ble_eq_true rfl) (Or.inl rfl) rfl ?_
        refine sp_X12_inN (by first | omega | exact Nat.lt_trans (h.wf.tx _).1 (by decide)) (by decide) (by decide) ?_
        refine gKv ?_
        refine E_if_ne_b (tgt := 65) dX12_formOf_55 (by decide) (fun c_55 => ?_) (fun c_55 => ?_)
        · refine E_aload_n dX12_formOf_65 rfl ?_
          refine E_iload_n dX12_formOf_66 rfl ?_
          refine E_iload_n dX12_formOf_67 rfl ?_
          refine E_callV2 (fr' := 3) (k1 := 0) (n1 := 0) (k2 := 0) (n2 := 0) dX12_formOf_68 kO_X12_joinsOn kL_X12_232 (l_128 hL) (k_128 hL) ⟨by decide, rfl⟩ rfl rfl (by decide) (by decide) (by exact Nat.le_of_ble_eq_true rfl) rfl ?_
          refine sp_X12_joinsOn h.b (by omega) (by omega) ?_
          refine gKv ?_
          refine E_if_eq_b (tgt := 78) dX12_formOf_71 (by decide) (fun c_71 => ?_) (fun c_71 => ?_)
          · refine E_iconst (v := nI 0) dX12_formOf_78 (by decide) ?_
            refine E_istore dX12_formOf_79 (Nat.le_of_ble_eq_true rfl) (by decide) rfl ?_
            refine E_iload dX12_formOf_81 rfl ?_
            refine E_if_eq (tgt := 99) dX12_formOf_83 (by decide) (fun c0 => absurd c0 (by decide)) (fun _ => ?_)
            refine E_iload dX12_formOf_86 rfl ?_
            refine E_if_eq (tgt := 95) dX12_formOf_88 (by decide) (fun _ => ?_) (fun c0 => absurd (by decide) c0)
            refine E_iconst (v := nI 3) dX12_formOf_95 (by decide) ?_
            refine E_goto (tgt := 109) dX12_formOf_96 (by decide) ?_
            refine E_iret dX12_formOf_109 (Or.inl rfl) ?_
            have e : frm c a b p = nI 3 := by
              rw [frm_v c_17]
              first
                | (exfalso; omega)
                | rw [cI_t (by grind), cI_t (by grind)]
                | rw [cI_t (by grind), cI_f (by grind)]
                | rw [cI_f (by grind), cI_t (by grind)]
                | rw [cI_f (by grind), cI_f (by grind)]
            rw [← e]; exact K
          · refine E_iconst (v := nI 1) dX12_formOf_74 (by decide) ?_
            refine E_goto (tgt := 79) dX12_formOf_75 (by decide) ?_
            refine E_istore dX12_formOf_79 (Nat.le_of_ble_eq_true rfl) (by decide) rfl ?_
            refine E_iload dX12_formOf_81 rfl ?_
            refine E_if_eq (tgt := 99) dX12_formOf_83 (by decide) (fun c0 => absurd c0 (by decide)) (fun _ => ?_)
            refine E_iload dX12_formOf_86 rfl ?_
            refine E_if_eq (tgt := 95) dX12_formOf_88 (by decide) (fun c0 => absurd c0 (by decide)) (fun _ => ?_)
            refine E_iconst (v := nI 2) dX12_formOf_91 (by decide) ?_
            refine E_goto (tgt := 109) dX12_formOf_92 (by decide) ?_
            refine E_iret dX12_formOf_109 (Or.inl rfl) ?_
            have e : frm c a b p = nI 2 := by
              rw [frm_v c_17]
              first
                | (exfalso; omega)
                | rw [cI_t (by grind), cI_t (by grind)]
                | rw [cI_t (by grind), cI_f (by grind)]
                | rw [cI_f (by grind), cI_t (by grind)]
                | rw [cI_f (by grind), cI_f (by grind)]
            rw [← e]; exact K
        · refine E_iload dX12_formOf_58 rfl ?_
          refine E_bipush (v := nI 20) dX12_formOf_60 (by decide) ?_
          refine E_icmp_ne_n (tgt := 78) dX12_formOf_62 (by decide) (by omega) (by omega) (fun c_62 => ?_) (fun c_62 => ?_)
          · refine E_iconst (v := nI 0) dX12_formOf_78 (by decide) ?_
            refine E_istore dX12_formOf_79 (Nat.le_of_ble_eq_true rfl) (by decide) rfl ?_
            refine E_iload dX12_formOf_81 rfl ?_
            refine E_if_eq (tgt := 99) dX12_formOf_83 (by decide) (fun c0 => absurd c0 (by decide)) (fun _ => ?_)
            refine E_iload dX12_formOf_86 rfl ?_
            refine E_if_eq (tgt := 95) dX12_formOf_88 (by decide) (fun _ => ?_) (fun c0 => absurd (by decide) c0)
            refine E_iconst (v := nI 3) dX12_formOf_95 (by decide) ?_
            refine E_goto (tgt := 109) dX12_formOf_96 (by decide) ?_
            refine E_iret dX12_formOf_109 (Or.inl rfl) ?_
            have e : frm c a b p = nI 3 := by
              rw [frm_v c_17]
              first
                | (exfalso; omega)
                | rw [cI_t (by grind), cI_t (by grind)]
                | rw [cI_t (by grind), cI_f (by grind)]
                | rw [cI_f (by grind), cI_t (by grind)]
                | rw [cI_f (by grind), cI_f (by grind)]
            rw [← e]; exact K
          · refine E_aload_n dX12_formOf_65 rfl ?_
            refine E_iload_n dX12_formOf_66 rfl ?_
            refine E_iload_n dX12_formOf_67 rfl ?_
            refine E_callV2 (fr' := 3) (k1 := 0) (n1 := 0) (k2 := 0) (n2 := 0) dX12_formOf_68 kO_X12_joinsOn kL_X12_232 (l_128 hL) (k_128 hL) ⟨by decide, rfl⟩ rfl rfl (by decide) (by decide) (by exact Nat.le_of_ble_eq_true rfl) rfl ?_
            refine sp_X12_joinsOn h.b (by omega) (by omega) ?_
            refine gKv ?_
            refine E_if_eq_b (tgt := 78) dX12_formOf_71 (by decide) (fun c_71 => ?_) (fun c_71 => ?_)
            · refine E_iconst (v := nI 0) dX12_formOf_78 (by decide) ?_
              refine E_istore dX12_formOf_79 (Nat.le_of_ble_eq_true rfl) (by decide) rfl ?_
              refine E_iload dX12_formOf_81 rfl ?_
              refine E_if_eq (tgt := 99) dX12_formOf_83 (by decide) (fun c0 => absurd c0 (by decide)) (fun _ => ?_)
              refine E_iload dX12_formOf_86 rfl ?_
              refine E_if_eq (tgt := 95) dX12_formOf_88 (by decide) (fun _ => ?_) (fun c0 => absurd (by decide) c0)
              refine E_iconst (v := nI 3) dX12_formOf_95 (by decide) ?_
              refine E_goto (tgt := 109) dX12_formOf_96 (by decide) ?_
              refine E_iret dX12_formOf_109 (Or.inl rfl) ?_
              have e : frm c a b p = nI 3 := by
                rw [frm_v c_17]
                first
                  | (exfalso; omega)
                  | rw [cI_t (by grind), cI_t (by grind)]
                  | rw [cI_t (by grind), cI_f (by grind)]
                  | rw [cI_f (by grind), cI_t (by grind)]
                  | rw [cI_f (by grind), cI_f (by grind)]
              rw [← e]; exact K
            · refine E_iconst (v := nI 1) dX12_formOf_74 (by decide) ?_
              refine E_goto (tgt := 79) dX12_formOf_75 (by decide) ?_
              refine E_istore dX12_formOf_79 (Nat.le_of_ble_eq_true rfl) (by decide) rfl ?_
              refine E_iload dX12_formOf_81 rfl ?_
              refine E_if_eq (tgt := 99) dX12_formOf_83 (by decide) (fun c0 => absurd c0 (by decide)) (fun _ => ?_)
              refine E_iload dX12_formOf_86 rfl ?_
              refine E_if_eq (tgt := 95) dX12_formOf_88 (by decide) (fun c0 => absurd c0 (by decide)) (fun _ => ?_)
              refine E_iconst (v := nI 2) dX12_formOf_91 (by decide) ?_
              refine E_goto (tgt := 109) dX12_formOf_92 (by decide) ?_
              refine E_iret dX12_formOf_109 (Or.inl rfl) ?_
              have e : frm c a b p = nI 2 := by
                rw [frm_v c_17]
                first
                  | (exfalso; omega)
                  | rw [cI_t (by grind), cI_t (by grind)]
                  | rw [cI_t (by grind), cI_f (by grind)]
                  | rw [cI_f (by grind), cI_t (by grind)]
                  | rw [cI_f (by grind), cI_f (by grind)]
              rw [← e]; exact K
  · refine E_bipush (v := -100) dX12_formOf_20 (by decide) ?_
    refine E_iret dX12_formOf_22 (Or.inl rfl) ?_
    rw [← frm_n c_17]; exact K
