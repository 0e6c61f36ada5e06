/-! the reference: places -/
abbrev Pl : Type := Nat → Nat → Int32
theorem nI0_add (x : Int32) : x + nI 0 = x := Int32.add_zero x
theorem mX.wr {c : Cf} {f : Nat} {M0 M : gM} {L : List Gl} {w : Int32} (h : mX c f M0 L w M) {a i : Nat} {v : Int32} (ha : 152 ≤ a ∧ a ≤ 157) : mX c f M0 L w (sI M a i v) := by
  have h1 := h.1.cell (b := i) (v := L[i]?) (F := mI (sI M a i v)) (fun p j q => by rw [mI_sI, if_neg (by omega)]) (fun x hx => by
    have := h.1.at hx
    unfold gM7 at *
    simp only [mI_wF, mI_sI]
    rw [if_neg (by omega), if_neg (by omega), if_neg (by omega), if_neg (by omega), if_neg (by omega), if_neg (by omega), if_neg (by omega)]
    exact this)
  refine ⟨?_, h.2⟩
  have e : rup (fun i => L[i]?) i L[i]? = fun i => L[i]? := funext fun j => by
    unfold rup; split
    · rename_i q; rw [q]
    · rfl
  rw [e] at h1
  exact h1
def mP (c : Cf) (f : Nat) (M0 : gM) (L : List Gl) (w : Int32) (A : Pl) (M : gM) : Prop := mX c f M0 L w M ∧ ∀ q i, q < 5 → i < L.length → mI M (152 + q) i = A q i
theorem mP.at {c : Cf} {f : Nat} {M0 M : gM} {L : List Gl} {w : Int32} {A : Pl} (h : mP c f M0 L w A M) {q i : Nat} (hq : q < 5) (hi : i < L.length) : mI M (152 + q) i = A q i := h.2 q i hq hi
theorem mP.set {c : Cf} {f : Nat} {M0 M : gM} {L : List Gl} {w : Int32} {A : Pl} (h : mP c f M0 L w A M) {a q i : Nat} {v : Int32} (ha : 152 + q = a) (hq : q < 5) : mP c f M0 L w (u2 A q i v) (sI M a i v) :=
  ⟨h.1.wr (by omega), fun p j hp hj => by
    subst ha
    rw [mI_sI]
    unfold u2
    by_cases e : p = q ∧ j = i
    · rw [if_pos (by omega), if_pos e]
    · rw [if_neg (by omega), if_neg e]; exact h.2 p j hp hj⟩
theorem mP.setx {c : Cf} {f : Nat} {M0 M : gM} {L : List Gl} {w : Int32} {A : Pl} (h : mP c f M0 L w A M) {i : Nat} {v v' : Int32} : mP c f M0 L w (u2 A 5 i v') (sI M 157 i v) :=
  ⟨h.1.wr (by omega), fun p j hp hj => by
    rw [mI_sI]
    unfold u2
    rw [if_neg (by omega), if_neg (by omega)]; exact h.2 p j hp hj⟩
def set3 (A : Pl) (i : Nat) (b x y : Int32) : Pl := u2 (u2 (u2 A 2 i b) 3 i x) 4 i y
theorem mP.s3 {c : Cf} {f : Nat} {M0 M : gM} {L : List Gl} {w : Int32} {A : Pl} (h : mP c f M0 L w A M) (i : Nat) (b x y : Int32) : mP c f M0 L w (set3 A i b x y) (sI (sI (sI M 154 i b) 155 i x) 156 i y) :=
  ((h.set (a := 154) rfl (by decide)).set (a := 155) rfl (by decide)).set (a := 156) rfl (by decide)
set_option maxRecDepth 100000 in
set_option maxHeartbeats 4000000 in
theorem sp_X12_sets {g : gG} {M : gM} {Q : Option Value ⊕ String → gM → Prop} (hL : gLay M) {i : Nat} (hi : i < 72) {b x y : Int32} (K : Q (.inl none) (sI (sI (sI M 154 i b) 155 i x) 156 i y)) : E g 1 0 0 mX12_sets 0 [.ref 129, .int (nI i), .int b, .int x, .int y] [] M Q := by
  refine E_aload_n dX12_sets_0 rfl ?_
  refine E_getRL dX12_sets_1 kF_X12_90 kY_12 (Or.inr ⟨_, rfl⟩) (l_128 hL) (k_128 hL) (r_128_31 hL) ?_
  refine E_iload_n dX12_sets_4 rfl ?_
  refine E_iload_n dX12_sets_5 rfl ?_
  refine E_iast dX12_sets_6 (l_154 hL) (k_154 hL) rfl (by omega) (by decide) ?_
  refine E_aload_n dX12_sets_7 rfl ?_
  refine E_getRL dX12_sets_8 kF_X12_93 kY_12 (Or.inr ⟨_, rfl⟩) (l_128 hL) (k_128 hL) (r_128_32 hL) ?_
  refine E_iload_n dX12_sets_11 rfl ?_
  refine E_iload_n dX12_sets_12 rfl ?_
  refine E_iast dX12_sets_13 (l_155 hL) (k_155 hL) rfl (by omega) (by decide) ?_
  refine E_aload_n dX12_sets_14 rfl ?_
  refine E_getRL dX12_sets_15 kF_X12_96 kY_12 (Or.inr ⟨_, rfl⟩) (l_128 hL) (k_128 hL) (r_128_33 hL) ?_
  refine E_iload_n dX12_sets_18 rfl ?_
  refine E_iload dX12_sets_19 rfl ?_
  refine E_iast dX12_sets_21 (l_156 hL) (k_156 hL) rfl (by omega) (by decide) ?_
  refine E_vret dX12_sets_22 rfl ?_
  exact K
def prP (c : Cf) (f l : Nat) (L : List Gl) (i two k : Nat) : Prop := isAt c f (rul c l k 0) (yN (gat L i)) ∧ isAt c f (rul c l k 1) (yN (gat L two))
noncomputable def prA (c : Cf) (f l : Nat) (L : List Gl) (i : Nat) : Nat := fnd (prP c f l L i (aft c f l L i)) (cN c 135 l) 0
def prD (c : Cf) (f l : Nat) (L : List Gl) (i : Nat) : Prop := goP c f L l i ∧ aft c f l L i < L.length ∧ prA c f l L i < cN c 135 l
noncomputable def prS (c : Cf) (f l : Nat) (L : List Gl) (i : Nat) (A : Pl) : Pl := cI (prD c f l L i) (u2 A 0 i (A 0 i + rul c l (prA c f l L i) 2)) A
noncomputable def prI (c : Cf) (f l : Nat) (L : List Gl) (i : Nat) : Nat := cI (prD c f l L i) (aft c f l L i) (i + 1)
noncomputable def prs (c : Cf) (f l : Nat) (L : List Gl) : Nat → Nat → Pl → Pl
  | 0, _, A => A
  | t + 1, i, A => cI (i < L.length) (prs c f l L t (prI c f l L i) (prS c f l L i A)) A
set_option maxRecDepth 100000 in
set_option maxHeartbeats 4000000 in
theorem lp1_X12_pairs {g : gG} {M : gM} {Q : Option Value ⊕ String → gM → Prop} {c : Cf} {f : Nat} {M0 : gM} {L : List Gl} {w : Int32} {A : Pl} (hp : mP c f M0 L w A M) {l i : Nat} (hl : l < 24) (hi : i < L.length) (hg : goP c f L l i) (ht : aft c f l L i < L.length) (K : ∀ M v3 v4 v5 v6, mP c f M0 L w (prS c f l L i A) M → E g 4 0 0 mX12_pairs 2 [.ref 129, .int (nI l), .int (nI (prI c f l L i)), v3, v4, v5, v6] [] M Q) : ∀ k, k ≤ cN c 135 l → fnd (prP c f l L i (aft c f l L i)) (cN c 135 l) k = prA c f l L i → E g 4 0 0 mX12_pairs 59 [.ref 129, .int (nI l), .int (nI i), .int (nI (i + 1)), .int (nI (aft c f l L i)), .int (nI 0), .int (nI k)] [] M Q := by
  have h := hp.1
  have hL := h.lay
  have hf := h.hf
  have hn := h.len
  have hk8 := (h.wf.lk l).2.2.2.2.2
  refine lpUp (cN c 135 l) (fun k hk ih => ?_)
  intro he
  refine E_iload dX12_pairs_59 rfl ?_
  refine E_aload_n dX12_pairs_61 rfl ?_
  refine E_getRL dX12_pairs_62 kF_X12_28 kY_12 (Or.inr ⟨_, rfl⟩) (l_128 hL) (k_128 hL) (r_128_8 hL) ?_
  refine E_iload_n dX12_pairs_65 rfl ?_
  refine E_ialdL (v := nI (cN _ 135 _)) dX12_pairs_66 (l_135 hL) (k_135 hL) rfl (by first | omega | exact h.n256 _) (by decide) (h.gc (Or.inl ⟨by decide, by decide, by decide⟩)) ?_
  refine E_icmp_ge_n (tgt := 159) dX12_pairs_67 (by decide) (by omega) (by omega) (fun c_67 => ?_) (fun c_67 => ?_)
  · have hnd : ¬ prD c f l L i := fun q => by have := q.2.2; rw [← he, fnd_end (by omega)] at this; omega
    unfold prS prI at K
    rw [cI_f hnd, cI_f hnd] at K
    refine E_iload_n dX12_pairs_159 rfl ?_
    refine E_istore_n dX12_pairs_160 (Nat.le_of_ble_eq_true rfl) (by decide) rfl ?_
    refine E_goto (tgt := 2) dX12_pairs_161 (by decide) ?_
    exact K _ _ _ _ _ hp
  · refine E_iload dX12_pairs_70 rfl ?_
    refine E_if_ne (tgt := 159) dX12_pairs_72 (by decide) (fun c0 => absurd c0 (by decide)) (fun _ => ?_)
    refine E_aload_n dX12_pairs_75 rfl ?_
    refine E_aload_n dX12_pairs_76 rfl ?_
    refine E_iload_n dX12_pairs_77 rfl ?_
    refine E_iload dX12_pairs_78 rfl ?_
    refine E_iconst (v := nI 0) dX12_pairs_80 (by decide) ?_
    refine E_callV3 (fr' := 1) (k1 := 0) (n1 := 0) (k2 := 0) (n2 := 0) dX12_pairs_81 kO_X12_numberOf kL_X12_306 (l_128 hL) (k_128 hL) ⟨by decide, rfl⟩ rfl rfl rfl (by decide) (by decide) (by exact Nat.le_of_ble_eq_true rfl) rfl ?_
    refine sp_X12_numberOf h (by omega) (by omega) (by decide) ?_
    refine gKv ?_
    refine E_iload_n dX12_pairs_84 rfl ?_
    refine E_callV2 (fr' := 2) (k1 := 0) (n1 := 0) (k2 := 0) (n2 := 0) dX12_pairs_85 kO_X12_is kL_X12_288 (l_128 hL) (k_128 hL) ⟨by decide, rfl⟩ rfl rfl (by decide) (by decide) (by exact Nat.le_of_ble_eq_true rfl) rfl ?_
    refine sp_X12_is h (by omega) ?_
    refine gKv ?_
    refine E_if_eq_b (tgt := 112) dX12_pairs_88 (by decide) (fun c_88 => ?_) (fun c_88 => ?_)
    · refine E_iconst (v := nI 0) dX12_pairs_112 (by decide) ?_
      refine E_istore dX12_pairs_113 (Nat.le_of_ble_eq_true rfl) (by decide) rfl ?_
      refine E_aload_n dX12_pairs_115 rfl ?_
      refine E_getRL dX12_pairs_116 kF_X12_84 kY_12 (Or.inr ⟨_, rfl⟩) (l_128 hL) (k_128 hL) (r_128_29 hL) ?_
      refine E_iload_n dX12_pairs_119 rfl ?_
      refine E_dup2 dX12_pairs_120 rfl rfl ?_
      refine E_ialdL (v := _) dX12_pairs_121 (l_152 hL) (k_152 hL) rfl (by first | omega | exact h.n256 _) (by decide) (hp.at (q := 0) (by decide) (by omega)) ?_
      refine E_iload dX12_pairs_122 rfl ?_
      refine E_if_eq (tgt := 138) dX12_pairs_124 (by decide) (fun _ => ?_) (fun c0 => absurd (by decide) c0)
      refine E_iconst (v := nI 0) dX12_pairs_138 (by decide) ?_
      refine E_iadd dX12_pairs_139 ?_
      refine E_iast dX12_pairs_140 (l_152 hL) (k_152 hL) rfl (by first | omega | exact h.n256 _) (by decide) ?_
      rw [sI_same (show mI M 152 i = A 0 i + nI 0 by rw [nI0_add]; exact hp.at (q := 0) (by decide) hi)]
      refine E_iload dX12_pairs_141 rfl ?_
      refine E_if_eq (tgt := 151) dX12_pairs_143 (by decide) (fun _ => ?_) (fun c0 => absurd (by decide) c0)
      refine E_iload_n dX12_pairs_151 rfl ?_
      refine E_istore_n dX12_pairs_152 (Nat.le_of_ble_eq_true rfl) (by decide) rfl ?_
      refine E_iinc_n (d := 1) dX12_pairs_153 rfl rfl rfl (by decide) rfl ?_
      refine E_goto (tgt := 59) dX12_pairs_156 (by decide) ?_
      exact ih (by omega) (by rw [← he]; exact (fnd_skip (by omega) (fun q => by first | exact c_88 q.1 | exact c_105 q.2)).symm)
    · refine E_aload_n dX12_pairs_91 rfl ?_
      refine E_aload_n dX12_pairs_92 rfl ?_
      refine E_iload_n dX12_pairs_93 rfl ?_
      refine E_iload dX12_pairs_94 rfl ?_
      refine E_iconst (v := nI 1) dX12_pairs_96 (by decide) ?_
      refine E_callV3 (fr' := 1) (k1 := 0) (n1 := 0) (k2 := 0) (n2 := 0) dX12_pairs_97 kO_X12_numberOf kL_X12_306 (l_128 hL) (k_128 hL) ⟨by decide, rfl⟩ rfl rfl rfl (by decide) (by decide) (by exact Nat.le_of_ble_eq_true rfl) rfl ?_
      refine sp_X12_numberOf h (by omega) (by omega) (by decide) ?_
      refine gKv ?_
      refine E_iload dX12_pairs_100 rfl ?_
      refine E_callV2 (fr' := 2) (k1 := 0) (n1 := 0) (k2 := 0) (n2 := 0) dX12_pairs_102 kO_X12_is kL_X12_288 (l_128 hL) (k_128 hL) ⟨by decide, rfl⟩ rfl rfl (by decide) (by decide) (by exact Nat.le_of_ble_eq_true rfl) rfl ?_
      refine sp_X12_is h (by omega) ?_
      refine gKv ?_
      refine E_if_eq_b (tgt := 112) dX12_pairs_105 (by decide) (fun c_105 => ?_) (fun c_105 => ?_)
      · refine E_iconst (v := nI 0) dX12_pairs_112 (by decide) ?_
        refine E_istore dX12_pairs_113 (Nat.le_of_ble_eq_true rfl) (by decide) rfl ?_
        refine E_aload_n dX12_pairs_115 rfl ?_
        refine E_getRL dX12_pairs_116 kF_X12_84 kY_12 (Or.inr ⟨_, rfl⟩) (l_128 hL) (k_128 hL) (r_128_29 hL) ?_
        refine E_iload_n dX12_pairs_119 rfl ?_
        refine E_dup2 dX12_pairs_120 rfl rfl ?_
        refine E_ialdL (v := _) dX12_pairs_121 (l_152 hL) (k_152 hL) rfl (by first | omega | exact h.n256 _) (by decide) (hp.at (q := 0) (by decide) (by omega)) ?_
        refine E_iload dX12_pairs_122 rfl ?_
        refine E_if_eq (tgt := 138) dX12_pairs_124 (by decide) (fun _ => ?_) (fun c0 => absurd (by decide) c0)
        refine E_iconst (v := nI 0) dX12_pairs_138 (by decide) ?_
        refine E_iadd dX12_pairs_139 ?_
        refine E_iast dX12_pairs_140 (l_152 hL) (k_152 hL) rfl (by first | omega | exact h.n256 _) (by decide) ?_
        rw [sI_same (show mI M 152 i = A 0 i + nI 0 by rw [nI0_add]; exact hp.at (q := 0) (by decide) hi)]
        refine E_iload dX12_pairs_141 rfl ?_
        refine E_if_eq (tgt := 151) dX12_pairs_143 (by decide) (fun _ => ?_) (fun c0 => absurd (by decide) c0)
        refine E_iload_n dX12_pairs_151 rfl ?_
        refine E_istore_n dX12_pairs_152 (Nat.le_of_ble_eq_true rfl) (by decide) rfl ?_
        refine E_iinc_n (d := 1) dX12_pairs_153 rfl rfl rfl (by decide) rfl ?_
        refine E_goto (tgt := 59) dX12_pairs_156 (by decide) ?_
        exact ih (by omega) (by rw [← he]; exact (fnd_skip (by omega) (fun q => by first | exact c_88 q.1 | exact c_105 q.2)).symm)
      · refine E_iconst (v := nI 1) dX12_pairs_108 (by decide) ?_
        refine E_goto (tgt := 113) dX12_pairs_109 (by decide) ?_
        refine E_istore dX12_pairs_113 (Nat.le_of_ble_eq_true rfl) (by decide) rfl ?_
        refine E_aload_n dX12_pairs_115 rfl ?_
        refine E_getRL dX12_pairs_116 kF_X12_84 kY_12 (Or.inr ⟨_, rfl⟩) (l_128 hL) (k_128 hL) (r_128_29 hL) ?_
        refine E_iload_n dX12_pairs_119 rfl ?_
        refine E_dup2 dX12_pairs_120 rfl rfl ?_
        refine E_ialdL (v := _) dX12_pairs_121 (l_152 hL) (k_152 hL) rfl (by first | omega | exact h.n256 _) (by decide) (hp.at (q := 0) (by decide) (by omega)) ?_
        refine E_iload dX12_pairs_122 rfl ?_
        refine E_if_eq (tgt := 138) dX12_pairs_124 (by decide) (fun c0 => absurd c0 (by decide)) (fun _ => ?_)
        refine E_aload_n dX12_pairs_127 rfl ?_
        refine E_iload_n dX12_pairs_128 rfl ?_
        refine E_iload dX12_pairs_129 rfl ?_
        refine E_iconst (v := nI 2) dX12_pairs_131 (by decide) ?_
        refine E_callV3 (fr' := 1) (k1 := 0) (n1 := 0) (k2 := 0) (n2 := 0) dX12_pairs_132 kO_X12_numberOf kL_X12_306 (l_128 hL) (k_128 hL) ⟨by decide, rfl⟩ rfl rfl rfl (by decide) (by decide) (by exact Nat.le_of_ble_eq_true rfl) rfl ?_
        refine sp_X12_numberOf h (by omega) (by omega) (by decide) ?_
        refine gKv ?_
        refine E_goto (tgt := 139) dX12_pairs_135 (by decide) ?_
        refine E_iadd dX12_pairs_139 ?_
        refine E_iast dX12_pairs_140 (l_152 hL) (k_152 hL) rfl (by first | omega | exact h.n256 _) (by decide) ?_
        have hd : prD c f l L i := ⟨hg, ht, by rw [← he, fnd_hit (by omega) ⟨c_88, c_105⟩]; omega⟩
        have hp := hp.set (a := 152) (q := 0) (i := i) (v := A 0 i + rul c l k 2) rfl (by decide)
        have hea : prA c f l L i = k := by rw [← he]; exact fnd_hit (by omega) ⟨c_88, c_105⟩
        unfold prS prI at K
        rw [cI_t hd, cI_t hd, hea] at K
        have h := hp.1
        have hL := h.lay
        have hf := h.hf
        have hn := h.len
        refine E_iload dX12_pairs_141 rfl ?_
        refine E_if_eq (tgt := 151) dX12_pairs_143 (by decide) (fun c0 => absurd c0 (by decide)) (fun _ => ?_)
        refine E_iload dX12_pairs_146 rfl ?_
        refine E_goto (tgt := 152) dX12_pairs_148 (by decide) ?_
        refine E_istore_n dX12_pairs_152 (Nat.le_of_ble_eq_true rfl) (by decide) rfl ?_
        refine E_iinc_n (d := 1) dX12_pairs_153 rfl rfl rfl (by decide) rfl ?_
        refine E_goto (tgt := 59) dX12_pairs_156 (by decide) ?_
        refine E_iload dX12_pairs_59 rfl ?_
        refine E_aload_n dX12_pairs_61 rfl ?_
        refine E_getRL dX12_pairs_62 kF_X12_28 kY_12 (Or.inr ⟨_, rfl⟩) (l_128 hL) (k_128 hL) (r_128_8 hL) ?_
        refine E_iload_n dX12_pairs_65 rfl ?_
        refine E_ialdL (v := nI (cN _ 135 _)) dX12_pairs_66 (l_135 hL) (k_135 hL) rfl (by first | omega | exact h.n256 _) (by decide) (h.gc (Or.inl ⟨by decide, by decide, by decide⟩)) ?_
        refine E_icmp_ge_n (tgt := 159) dX12_pairs_67 (by decide) (by omega) (by omega) (fun e_67 => ?_) (fun e_67 => ?_)
        · refine E_iload_n dX12_pairs_159 rfl ?_
          refine E_istore_n dX12_pairs_160 (Nat.le_of_ble_eq_true rfl) (by decide) rfl ?_
          refine E_goto (tgt := 2) dX12_pairs_161 (by decide) ?_
          exact K _ _ _ _ _ hp
        · refine E_iload dX12_pairs_70 rfl ?_
          refine E_if_ne (tgt := 159) dX12_pairs_72 (by decide) (fun _ => ?_) (fun c0 => absurd (by decide) c0)
          refine E_iload_n dX12_pairs_159 rfl ?_
          refine E_istore_n dX12_pairs_160 (Nat.le_of_ble_eq_true rfl) (by decide) rfl ?_
          refine E_goto (tgt := 2) dX12_pairs_161 (by decide) ?_
          exact K _ _ _ _ _ hp
set_option maxRecDepth 100000 in
set_option maxHeartbeats 4000000 in
theorem st_X12_pairs {g : gG} {M : gM} {Q : Option Value ⊕ String → gM → Prop} {c : Cf} {f : Nat} {M0 : gM} {L : List Gl} {w : Int32} {A : Pl} (hp : mP c f M0 L w A M) {l i : Nat} (hl : l < 24) (hi : i < L.length) (K : ∀ M v3 v4 v5 v6, mP c f M0 L w (prS c f l L i A) M → E g 4 0 0 mX12_pairs 2 [.ref 129, .int (nI l), .int (nI (prI c f l L i)), v3, v4, v5, v6] [] M Q) : ∀ v3 v4 v5 v6, E g 4 0 0 mX12_pairs 10 [.ref 129, .int (nI l), .int (nI i), v3, v4, v5, v6] [] M Q := by
  have h := hp.1
  have hL := h.lay
  have hf := h.hf
  have hn := h.len
  intro v3 v4 v5 v6
  have hk8 := (h.wf.lk l).2.2.2.2.2
  have hb := aft_b c f l hi
  refine E_iload_n dX12_pairs_10 rfl ?_
  refine E_iconst (v := nI 1) dX12_pairs_11 (by decide) ?_
  refine E_iadd_n dX12_pairs_12 ?_
  refine E_istore_n dX12_pairs_13 (Nat.le_of_ble_eq_true rfl) (by decide) rfl ?_
  refine E_aload_n dX12_pairs_14 rfl ?_
  refine E_iload_n dX12_pairs_15 rfl ?_
  refine E_iload_n dX12_pairs_16 rfl ?_
  refine E_callV2 (fr' := 3) (k1 := 0) (n1 := 0) (k2 := 0) (n2 := 0) dX12_pairs_17 kO_X12_after kL_X12_320 (l_128 hL) (k_128 hL) ⟨by decide, rfl⟩ rfl rfl (by decide) (by decide) (by exact Nat.le_of_ble_eq_true rfl) rfl ?_
  refine sp_X12_after h (by omega) (by omega) ?_
  refine gKv ?_
  refine E_istore dX12_pairs_20 (Nat.le_of_ble_eq_true rfl) (by decide) rfl ?_
  refine E_aload_n dX12_pairs_22 rfl ?_
  refine E_iload_n dX12_pairs_23 rfl ?_
  refine E_iload_n dX12_pairs_24 rfl ?_
  refine E_callV2 (fr' := 2) (k1 := 0) (n1 := 0) (k2 := 0) (n2 := 0) dX12_pairs_25 kO_X12_skips kL_X12_285 (l_128 hL) (k_128 hL) ⟨by decide, rfl⟩ rfl rfl (by decide) (by decide) (by exact Nat.le_of_ble_eq_true rfl) rfl ?_
  refine sp_X12_skips h (by omega) (by omega) ?_
  refine gKv ?_
  refine E_if_ne_b (tgt := 49) dX12_pairs_28 (by decide) (fun c_28 => ?_) (fun c_28 => ?_)
  · have hnd : ¬ prD c f l L i := fun q => by have q1 := q.1; have q2 := q.2.1; first | exact q1.1 c_28 | exact c_37 q1.2 | omega
    unfold prS prI at K
    rw [cI_f hnd, cI_f hnd] at K
    refine E_iconst (v := nI 1) dX12_pairs_49 (by decide) ?_
    refine E_goto (tgt := 54) dX12_pairs_50 (by decide) ?_
    refine E_istore dX12_pairs_54 (Nat.le_of_ble_eq_true rfl) (by decide) rfl ?_
    refine E_iconst (v := nI 0) dX12_pairs_56 (by decide) ?_
    refine E_istore dX12_pairs_57 (Nat.le_of_ble_eq_true rfl) (by decide) rfl ?_
    refine E_iload dX12_pairs_59 rfl ?_
    refine E_aload_n dX12_pairs_61 rfl ?_
    refine E_getRL dX12_pairs_62 kF_X12_28 kY_12 (Or.inr ⟨_, rfl⟩) (l_128 hL) (k_128 hL) (r_128_8 hL) ?_
    refine E_iload_n dX12_pairs_65 rfl ?_
    refine E_ialdL (v := nI (cN _ 135 _)) dX12_pairs_66 (l_135 hL) (k_135 hL) rfl (by first | omega | exact h.n256 _) (by decide) (h.gc (Or.inl ⟨by decide, by decide, by decide⟩)) ?_
    refine E_icmp_ge_n (tgt := 159) dX12_pairs_67 (by decide) (by omega) (by omega) (fun e_67 => ?_) (fun e_67 => ?_)
    · refine E_iload_n dX12_pairs_159 rfl ?_
      refine E_istore_n dX12_pairs_160 (Nat.le_of_ble_eq_true rfl) (by decide) rfl ?_
      refine E_goto (tgt := 2) dX12_pairs_161 (by decide) ?_
      exact K _ _ _ _ _ hp
    · refine E_iload dX12_pairs_70 rfl ?_
      refine E_if_ne (tgt := 159) dX12_pairs_72 (by decide) (fun _ => ?_) (fun c0 => absurd (by decide) c0)
      refine E_iload_n dX12_pairs_159 rfl ?_
      refine E_istore_n dX12_pairs_160 (Nat.le_of_ble_eq_true rfl) (by decide) rfl ?_
      refine E_goto (tgt := 2) dX12_pairs_161 (by decide) ?_
      exact K _ _ _ _ _ hp
  · refine E_aload_n dX12_pairs_31 rfl ?_
    refine E_iload_n dX12_pairs_32 rfl ?_
    refine E_iload_n dX12_pairs_33 rfl ?_
    refine E_callV2 (fr' := 1) (k1 := 0) (n1 := 0) (k2 := 0) (n2 := 0) dX12_pairs_34 kO_X12_has kL_X12_344 (l_128 hL) (k_128 hL) ⟨by decide, rfl⟩ rfl rfl (by decide) (by decide) (by exact Nat.le_of_ble_eq_true rfl) rfl ?_
    refine sp_X12_has h (by omega) (by omega) ?_
    refine gKv ?_
    refine E_if_eq_b (tgt := 49) dX12_pairs_37 (by decide) (fun c_37 => ?_) (fun c_37 => ?_)
    · have hnd : ¬ prD c f l L i := fun q => by have q1 := q.1; have q2 := q.2.1; first | exact q1.1 c_28 | exact c_37 q1.2 | omega
      unfold prS prI at K
      rw [cI_f hnd, cI_f hnd] at K
      refine E_iconst (v := nI 1) dX12_pairs_49 (by decide) ?_
      refine E_goto (tgt := 54) dX12_pairs_50 (by decide) ?_
      refine E_istore dX12_pairs_54 (Nat.le_of_ble_eq_true rfl) (by decide) rfl ?_
      refine E_iconst (v := nI 0) dX12_pairs_56 (by decide) ?_
      refine E_istore dX12_pairs_57 (Nat.le_of_ble_eq_true rfl) (by decide) rfl ?_
      refine E_iload dX12_pairs_59 rfl ?_
      refine E_aload_n dX12_pairs_61 rfl ?_
      refine E_getRL dX12_pairs_62 kF_X12_28 kY_12 (Or.inr ⟨_, rfl⟩) (l_128 hL) (k_128 hL) (r_128_8 hL) ?_
      refine E_iload_n dX12_pairs_65 rfl ?_
      refine E_ialdL (v := nI (cN _ 135 _)) dX12_pairs_66 (l_135 hL) (k_135 hL) rfl (by first | omega | exact h.n256 _) (by decide) (h.gc (Or.inl ⟨by decide, by decide, by decide⟩)) ?_
      refine E_icmp_ge_n (tgt := 159) dX12_pairs_67 (by decide) (by omega) (by omega) (fun e_67 => ?_) (fun e_67 => ?_)
      · refine E_iload_n dX12_pairs_159 rfl ?_
        refine E_istore_n dX12_pairs_160 (Nat.le_of_ble_eq_true rfl) (by decide) rfl ?_
        refine E_goto (tgt := 2) dX12_pairs_161 (by decide) ?_
        exact K _ _ _ _ _ hp
      · refine E_iload dX12_pairs_70 rfl ?_
        refine E_if_ne (tgt := 159) dX12_pairs_72 (by decide) (fun _ => ?_) (fun c0 => absurd (by decide) c0)
        refine E_iload_n dX12_pairs_159 rfl ?_
        refine E_istore_n dX12_pairs_160 (Nat.le_of_ble_eq_true rfl) (by decide) rfl ?_
        refine E_goto (tgt := 2) dX12_pairs_161 (by decide) ?_
        exact K _ _ _ _ _ hp
    · refine E_iload dX12_pairs_40 rfl ?_
      refine E_aload_n dX12_pairs_42 rfl ?_
      refine E_getIL (v := nI _) dX12_pairs_43 kF_X12_235 kY_12 (Or.inl rfl) (l_128 hL) (k_128 hL) h.gn ?_
      refine E_icmp_lt_n (tgt := 53) dX12_pairs_46 (by decide) (by omega) (by omega) (fun c_46 => ?_) (fun c_46 => ?_)
      · refine E_iconst (v := nI 0) dX12_pairs_53 (by decide) ?_
        refine E_istore dX12_pairs_54 (Nat.le_of_ble_eq_true rfl) (by decide) rfl ?_
        refine E_iconst (v := nI 0) dX12_pairs_56 (by decide) ?_
        refine E_istore dX12_pairs_57 (Nat.le_of_ble_eq_true rfl) (by decide) rfl ?_
        exact lp1_X12_pairs hp hl hi ⟨c_28, c_37⟩ (by omega) K 0 (Nat.zero_le _) rfl
      · have hnd : ¬ prD c f l L i := fun q => by have q1 := q.1; have q2 := q.2.1; first | exact q1.1 c_28 | exact c_37 q1.2 | omega
        unfold prS prI at K
        rw [cI_f hnd, cI_f hnd] at K
        refine E_iconst (v := nI 1) dX12_pairs_49 (by decide) ?_
        refine E_goto (tgt := 54) dX12_pairs_50 (by decide) ?_
        refine E_istore dX12_pairs_54 (Nat.le_of_ble_eq_true rfl) (by decide) rfl ?_
        refine E_iconst (v := nI 0) dX12_pairs_56 (by decide) ?_
        refine E_istore dX12_pairs_57 (Nat.le_of_ble_eq_true rfl) (by decide) rfl ?_
        refine E_iload dX12_pairs_59 rfl ?_
        refine E_aload_n dX12_pairs_61 rfl ?_
        refine E_getRL dX12_pairs_62 kF_X12_28 kY_12 (Or.inr ⟨_, rfl⟩) (l_128 hL) (k_128 hL) (r_128_8 hL) ?_
        refine E_iload_n dX12_pairs_65 rfl ?_
        refine E_ialdL (v := nI (cN _ 135 _)) dX12_pairs_66 (l_135 hL) (k_135 hL) rfl (by first | omega | exact h.n256 _) (by decide) (h.gc (Or.inl ⟨by decide, by decide, by decide⟩)) ?_
        refine E_icmp_ge_n (tgt := 159) dX12_pairs_67 (by decide) (by omega) (by omega) (fun e_67 => ?_) (fun e_67 => ?_)
        · refine E_iload_n dX12_pairs_159 rfl ?_
          refine E_istore_n dX12_pairs_160 (Nat.le_of_ble_eq_true rfl) (by decide) rfl ?_
          refine E_goto (tgt := 2) dX12_pairs_161 (by decide) ?_
          exact K _ _ _ _ _ hp
        · refine E_iload dX12_pairs_70 rfl ?_
          refine E_if_ne (tgt := 159) dX12_pairs_72 (by decide) (fun _ => ?_) (fun c0 => absurd (by decide) c0)
          refine E_iload_n dX12_pairs_159 rfl ?_
          refine E_istore_n dX12_pairs_160 (Nat.le_of_ble_eq_true rfl) (by decide) rfl ?_
          refine E_goto (tgt := 2) dX12_pairs_161 (by decide) ?_
          exact K _ _ _ _ _ hp
theorem prI_b {c : Cf} {f l : Nat} {L : List Gl} {i : Nat} (hi : i < L.length) : i + 1 ≤ prI c f l L i ∧ prI c f l L i ≤ L.length := by
  have hb := aft_b c f l hi
  unfold prI
  by_cases e : prD c f l L i
  · rw [cI_t e]; exact hb
  · rw [cI_f e]; omega
set_option maxRecDepth 100000 in
set_option maxHeartbeats 4000000 in
theorem lp_X12_pairs {g : gG} {Q : Option Value ⊕ String → gM → Prop} {c : Cf} {f : Nat} {M0 : gM} {L : List Gl} {w : Int32} {l : Nat} (hl : l < 24) : ∀ t i (A : Pl) M, mP c f M0 L w A M → L.length - i ≤ t → i ≤ L.length → (K : ∀ M, mP c f M0 L w (prs c f l L t i A) M → Q (.inl none) M) → ∀ v3 v4 v5 v6, E g 4 0 0 mX12_pairs 2 [.ref 129, .int (nI l), .int (nI i), v3, v4, v5, v6] [] M Q := by
  intro t
  induction t with
  | zero =>
    intro i A M hp ht hi K v3 v4 v5 v6
    have h := hp.1
    have hL := h.lay
    have hf := h.hf
    have hn := h.len
    refine E_iload_n dX12_pairs_2 rfl ?_
    refine E_aload_n dX12_pairs_3 rfl ?_
    refine E_getIL (v := nI _) dX12_pairs_4 kF_X12_235 kY_12 (Or.inl rfl) (l_128 hL) (k_128 hL) h.gn ?_
    refine E_icmp_ge_n (tgt := 164) dX12_pairs_7 (by decide) (by omega) (by omega) (fun c_7 => ?_) (fun c_7 => ?_)
    · refine E_vret dX12_pairs_164 rfl ?_
      exact K _ hp
    · exfalso; omega
  | succ t ih =>
    intro i A M hp ht hi K v3 v4 v5 v6
    have K : ∀ M, mP c f M0 L w (cI (i < L.length) (prs c f l L t (prI c f l L i) (prS c f l L i A)) A) M → Q (.inl none) M := K
    have h := hp.1
    have hL := h.lay
    have hf := h.hf
    have hn := h.len
    refine E_iload_n dX12_pairs_2 rfl ?_
    refine E_aload_n dX12_pairs_3 rfl ?_
    refine E_getIL (v := nI _) dX12_pairs_4 kF_X12_235 kY_12 (Or.inl rfl) (l_128 hL) (k_128 hL) h.gn ?_
    refine E_icmp_ge_n (tgt := 164) dX12_pairs_7 (by decide) (by omega) (by omega) (fun c_7 => ?_) (fun c_7 => ?_)
    · refine E_vret dX12_pairs_164 rfl ?_
      rw [cI_f (by omega)] at K
      exact K _ hp
    · rw [cI_t (by omega)] at K
      have hb := prI_b (c := c) (f := f) (l := l) (show i < L.length by omega)
      exact st_X12_pairs hp hl (by omega) (fun M v3 v4 v5 v6 hp => ih _ _ _ hp (by omega) (by omega) K _ _ _ _) _ _ _ _
set_option maxRecDepth 100000 in
set_option maxHeartbeats 4000000 in
theorem sp_X12_pairs {g : gG} {M : gM} {Q : Option Value ⊕ String → gM → Prop} {c : Cf} {f : Nat} {M0 : gM} {L : List Gl} {w : Int32} {A : Pl} (hp : mP c f M0 L w A M) {l : Nat} (hl : l < 24) (K : ∀ M, mP c f M0 L w (prs c f l L L.length 0 A) M → Q (.inl none) M) : E g 4 0 0 mX12_pairs 0 [.ref 129, .int (nI l), .null, .null, .null, .null, .null] [] M Q := by
  have h := hp.1
  have hL := h.lay
  have hf := h.hf
  have hn := h.len
  refine E_iconst (v := nI 0) dX12_pairs_0 (by decide) ?_
  refine E_istore_n dX12_pairs_1 (Nat.le_of_ble_eq_true rfl) (by decide) rfl ?_
  exact lp_X12_pairs hl L.length 0 A M hp (by omega) (Nat.zero_le _) K _ _ _ _
noncomputable def rfA (c : Cf) (f l : Nat) (L : List Gl) (i : Nat) : Nat := fnd (fun k => isAt c f (rul c l k 0) (yN (gat L i))) (cN c 135 l) 0
noncomputable def rfV (c : Cf) (f l : Nat) (L : List Gl) (i : Nat) : Int32 := cI (rfA c f l L i < cN c 135 l) (nI (rfA c f l L i)) (-100)
set_option maxRecDepth 100000 in
set_option maxHeartbeats 4000000 in
theorem lp_X12_ruleFor {g : gG} {M : gM} {Q : Option Value ⊕ String → gM → Prop} {c : Cf} {f : Nat} {M0 : gM} {L : List Gl} {w : Int32} (h : mX c f M0 L w M) {l i : Nat} (hl : l < 24) (hi : i < L.length) (K : Q (.inl (some (.int (rfV c f l L i)))) M) : ∀ k, 0 ≤ k → k ≤ cN c 135 l → ∀ v, v = cI (fnd (fun k => isAt c f (rul c l k 0) (yN (gat L i))) (cN c 135 l) k < cN c 135 l) (nI (fnd (fun k => isAt c f (rul c l k 0) (yN (gat L i))) (cN c 135 l) k)) (-100) → E g 3 0 0 mX12_ruleFor 13 [.ref 129, .int (nI l), .int (nI i), .int v, .int (dI k)] [] M Q := by
  have hL := h.lay
  have hf := h.hf
  have hn := h.len
  have hk8 := (h.wf.lk l).2.2.2.2.2
  refine lpDn 0 (fun k _ ih => ?_)
  intro hk v hv
  refine E_iload dX12_ruleFor_13 rfl ?_
  refine E_if_lt_d (tgt := 47) dX12_ruleFor_15 (by decide) (by omega) (fun c_15 => ?_) (fun c_15 => ?_)
  · subst c_15
    have hv : v = rfV c f l L i := hv
    rw [← hv] at K
    refine E_iload_n dX12_ruleFor_47 rfl ?_
    refine E_iret dX12_ruleFor_48 (Or.inl rfl) ?_
    exact K
  · obtain ⟨k, rfl⟩ : ∃ z, k = z + 1 := ⟨k - 1, by omega⟩
    rw [dI_succ]
    refine E_aload_n dX12_ruleFor_18 rfl ?_
    refine E_aload_n dX12_ruleFor_19 rfl ?_
    refine E_iload_n dX12_ruleFor_20 rfl ?_
    refine E_iload dX12_ruleFor_21 rfl ?_
    refine E_iconst (v := nI 0) dX12_ruleFor_23 (by decide) ?_
    refine E_callV3 (fr' := 1) (k1 := 0) (n1 := 0) (k2 := 0) (n2 := 0) dX12_ruleFor_24 kO_X12_numberOf kL_X12_306 (l_128 hL) (k_128 hL) ⟨by decide, rfl⟩ rfl rfl rfl (by decide) (by decide) (by exact Nat.le_of_ble_eq_true rfl) rfl ?_
    refine sp_X12_numberOf h (by omega) (by omega) (by decide) ?_
    refine gKv ?_
    refine E_iload_n dX12_ruleFor_27 rfl ?_
    refine E_callV2 (fr' := 2) (k1 := 0) (n1 := 0) (k2 := 0) (n2 := 0) dX12_ruleFor_28 kO_X12_is kL_X12_288 (l_128 hL) (k_128 hL) ⟨by decide, rfl⟩ rfl rfl (by decide) (by decide) (by exact Nat.le_of_ble_eq_true rfl) rfl ?_
    refine sp_X12_is h (by omega) ?_
    refine gKv ?_
    refine E_if_eq_b (tgt := 39) dX12_ruleFor_31 (by decide) (fun c_31 => ?_) (fun c_31 => ?_)
    · refine E_iload_n dX12_ruleFor_39 rfl ?_
      refine E_istore_n dX12_ruleFor_40 (Nat.le_of_ble_eq_true rfl) (by decide) rfl ?_
      refine E_iinc_d dX12_ruleFor_41 rfl rfl (by decide) rfl ?_
      refine E_goto (tgt := 13) dX12_ruleFor_44 (by decide) ?_
      refine ih (by omega) (by omega) _ ?_
      show _ = cI (fnd (fun k => isAt c f (rul c l k 0) (yN (gat L i))) (cN c 135 l) k < cN c 135 l) (nI (fnd (fun k => isAt c f (rul c l k 0) (yN (gat L i))) (cN c 135 l) k)) (-100)
      first
        | (rw [fnd_hit (by omega) (by assumption), cI_t (by omega)])
        | (rw [fnd_skip (by omega) (by assumption)]; exact hv)
    · refine E_iload dX12_ruleFor_34 rfl ?_
      refine E_goto (tgt := 40) dX12_ruleFor_36 (by decide) ?_
      refine E_istore_n dX12_ruleFor_40 (Nat.le_of_ble_eq_true rfl) (by decide) rfl ?_
      refine E_iinc_d dX12_ruleFor_41 rfl rfl (by decide) rfl ?_
      refine E_goto (tgt := 13) dX12_ruleFor_44 (by decide) ?_
      refine ih (by omega) (by omega) _ ?_
      show _ = cI (fnd (fun k => isAt c f (rul c l k 0) (yN (gat L i))) (cN c 135 l) k < cN c 135 l) (nI (fnd (fun k => isAt c f (rul c l k 0) (yN (gat L i))) (cN c 135 l) k)) (-100)
      first
        | (rw [fnd_hit (by omega) (by assumption), cI_t (by omega)])
        | (rw [fnd_skip (by omega) (by assumption)]; exact hv)
set_option maxRecDepth 100000 in
set_option maxHeartbeats 4000000 in
theorem sp_X12_ruleFor {g : gG} {M : gM} {Q : Option Value ⊕ String → gM → Prop} {c : Cf} {f : Nat} {M0 : gM} {L : List Gl} {w : Int32} (h : mX c f M0 L w M) {l i : Nat} (hl : l < 24) (hi : i < L.length) (K : Q (.inl (some (.int (rfV c f l L i)))) M) : E g 3 0 0 mX12_ruleFor 0 [.ref 129, .int (nI l), .int (nI i), .null, .null] [] M Q := by
  have hL := h.lay
  have hf := h.hf
  have hn := h.len
  have hk8 := (h.wf.lk l).2.2.2.2.2
  refine E_bipush (v := -100) dX12_ruleFor_0 (by decide) ?_
  refine E_istore_n dX12_ruleFor_2 (Nat.le_of_ble_eq_true rfl) (by decide) rfl ?_
  refine E_aload_n dX12_ruleFor_3 rfl ?_
  refine E_getRL dX12_ruleFor_4 kF_X12_28 kY_12 (Or.inr ⟨_, rfl⟩) (l_128 hL) (k_128 hL) (r_128_8 hL) ?_
  refine E_iload_n dX12_ruleFor_7 rfl ?_
  refine E_ialdL (v := nI (cN _ 135 _)) dX12_ruleFor_8 (l_135 hL) (k_135 hL) rfl (by first | omega | exact h.n256 _) (by decide) (h.gc (Or.inl ⟨by decide, by decide, by decide⟩)) ?_
  refine E_iconst (v := nI 1) dX12_ruleFor_9 (by decide) ?_
  refine E_isub_d dX12_ruleFor_10 ?_
  refine E_istore dX12_ruleFor_11 (Nat.le_of_ble_eq_true rfl) (by decide) rfl ?_
  exact lp_X12_ruleFor h hl hi K (cN c 135 l) (Nat.zero_le _) (Nat.le_refl _) (-100) (by rw [fnd_end (Nat.le_refl _), cI_f (by omega)])
def crD (c : Cf) (f l : Nat) (L : List Gl) (i two : Nat) : Prop := rfA c f l L i < cN c 135 l ∧ rfA c f l L two < cN c 135 l ∧ ¬ rul c l (rfA c f l L i) 2 = -100 ∧ ¬ rul c l (rfA c f l L two) 1 = -100
def crG (c : Cf) (f l : Nat) (L : List Gl) (i : Nat) : Prop := ¬ skp c f l (yN (gat L i)) ∧ aft c f l L i < L.length ∧ hasF c l (gat L i) ∧ hasF c l (gat L (aft c f l L i))
noncomputable def crU (c : Cf) (f l : Nat) (L : List Gl) (i two : Nat) (A : Pl) : Pl := cI (crD c f l L i two) (u2 A 1 two (A 1 i + rul c l (rfA c f l L i) 2 - rul c l (rfA c f l L two) 1)) A
noncomputable def crS (c : Cf) (f l : Nat) (L : List Gl) (i : Nat) (A : Pl) : Pl := cI (crG c f l L i) (crU c f l L i (aft c f l L i) A) A
noncomputable def crv (c : Cf) (f l : Nat) (L : List Gl) : Nat → Pl → Pl
  | 0, A => A
  | k + 1, A => crS c f l L k (crv c f l L k A)
set_option maxRecDepth 100000 in
set_option maxHeartbeats 4000000 in
theorem st_X12_curves {g : gG} {M : gM} {Q : Option Value ⊕ String → gM → Prop} {c : Cf} {f : Nat} {M0 : gM} {L : List Gl} {w : Int32} {A : Pl} (hp : mP c f M0 L w A M) {l i : Nat} (hl : l < 24) (hi : i < L.length) (K : ∀ M v3 v4 v5 v6, mP c f M0 L w (crS c f l L i A) M → E g 4 0 0 mX12_curves 159 [.ref 129, .int (nI l), .int (nI i), v3, v4, v5, v6] [] M Q) : ∀ v3 v4 v5 v6, E g 4 0 0 mX12_curves 10 [.ref 129, .int (nI l), .int (nI i), v3, v4, v5, v6] [] M Q := by
  have h := hp.1
  have hL := h.lay
  have hf := h.hf
  have hn := h.len
  intro v3 v4 v5 v6
  have hk8 := (h.wf.lk l).2.2.2.2.2
  have hb := aft_b c f l hi
  refine E_aload_n dX12_curves_10 rfl ?_
  refine E_iload_n dX12_curves_11 rfl ?_
  refine E_iload_n dX12_curves_12 rfl ?_
  refine E_callV2 (fr' := 3) (k1 := 0) (n1 := 0) (k2 := 0) (n2 := 0) dX12_curves_13 kO_X12_after kL_X12_320 (l_128 hL) (k_128 hL) ⟨by decide, rfl⟩ rfl rfl (by decide) (by decide) (by exact Nat.le_of_ble_eq_true rfl) rfl ?_
  refine sp_X12_after h (by omega) (by omega) ?_
  refine gKv ?_
  refine E_istore_n dX12_curves_16 (Nat.le_of_ble_eq_true rfl) (by decide) rfl ?_
  refine E_aload_n dX12_curves_17 rfl ?_
  refine E_iload_n dX12_curves_18 rfl ?_
  refine E_iload_n dX12_curves_19 rfl ?_
  refine E_callV2 (fr' := 2) (k1 := 0) (n1 := 0) (k2 := 0) (n2 := 0) dX12_curves_20 kO_X12_skips kL_X12_285 (l_128 hL) (k_128 hL) ⟨by decide, rfl⟩ rfl rfl (by decide) (by decide) (by exact Nat.le_of_ble_eq_true rfl) rfl ?_
  refine sp_X12_skips h (by omega) (by omega) ?_
  refine gKv ?_
  refine E_if_ne_b (tgt := 159) dX12_curves_23 (by decide) (fun c_23 => ?_) (fun c_23 => ?_)
  · unfold crS at K
    rw [cI_f (show ¬ crG c f l L i from fun q => by have q1 := q.1; have q2 := q.2.1; have q3 := q.2.2.1; have q4 := q.2.2.2; first | exact q1 c_23 | omega | exact c_40 q3 | exact c_49 q4)] at K
    exact K _ _ _ _ _ hp
  · refine E_iload_n dX12_curves_26 rfl ?_
    refine E_aload_n dX12_curves_27 rfl ?_
    refine E_getIL (v := nI _) dX12_curves_28 kF_X12_235 kY_12 (Or.inl rfl) (l_128 hL) (k_128 hL) h.gn ?_
    refine E_icmp_ge_n (tgt := 159) dX12_curves_31 (by decide) (by omega) (by omega) (fun c_31 => ?_) (fun c_31 => ?_)
    · unfold crS at K
      rw [cI_f (show ¬ crG c f l L i from fun q => by have q1 := q.1; have q2 := q.2.1; have q3 := q.2.2.1; have q4 := q.2.2.2; first | exact q1 c_23 | omega | exact c_40 q3 | exact c_49 q4)] at K
      exact K _ _ _ _ _ hp
    · refine E_aload_n dX12_curves_34 rfl ?_
      refine E_iload_n dX12_curves_35 rfl ?_
      refine E_iload_n dX12_curves_36 rfl ?_
      refine E_callV2 (fr' := 1) (k1 := 0) (n1 := 0) (k2 := 0) (n2 := 0) dX12_curves_37 kO_X12_has kL_X12_344 (l_128 hL) (k_128 hL) ⟨by decide, rfl⟩ rfl rfl (by decide) (by decide) (by exact Nat.le_of_ble_eq_true rfl) rfl ?_
      refine sp_X12_has h (by omega) (by omega) ?_
      refine gKv ?_
      refine E_if_eq_b (tgt := 159) dX12_curves_40 (by decide) (fun c_40 => ?_) (fun c_40 => ?_)
      · unfold crS at K
        rw [cI_f (show ¬ crG c f l L i from fun q => by have q1 := q.1; have q2 := q.2.1; have q3 := q.2.2.1; have q4 := q.2.2.2; first | exact q1 c_23 | omega | exact c_40 q3 | exact c_49 q4)] at K
        exact K _ _ _ _ _ hp
      · refine E_aload_n dX12_curves_43 rfl ?_
        refine E_iload_n dX12_curves_44 rfl ?_
        refine E_iload_n dX12_curves_45 rfl ?_
        refine E_callV2 (fr' := 1) (k1 := 0) (n1 := 0) (k2 := 0) (n2 := 0) dX12_curves_46 kO_X12_has kL_X12_344 (l_128 hL) (k_128 hL) ⟨by decide, rfl⟩ rfl rfl (by decide) (by decide) (by exact Nat.le_of_ble_eq_true rfl) rfl ?_
        refine sp_X12_has h (by omega) (by omega) ?_
        refine gKv ?_
        refine E_if_eq_b (tgt := 159) dX12_curves_49 (by decide) (fun c_49 => ?_) (fun c_49 => ?_)
        · unfold crS at K
          rw [cI_f (show ¬ crG c f l L i from fun q => by have q1 := q.1; have q2 := q.2.1; have q3 := q.2.2.1; have q4 := q.2.2.2; first | exact q1 c_23 | omega | exact c_40 q3 | exact c_49 q4)] at K
          exact K _ _ _ _ _ hp
        · refine E_aload_n dX12_curves_52 rfl ?_
          refine E_iload_n dX12_curves_53 rfl ?_
          refine E_iload_n dX12_curves_54 rfl ?_
          refine E_callV2 (fr' := 3) (k1 := 0) (n1 := 0) (k2 := 0) (n2 := 0) dX12_curves_55 kO_X12_ruleFor kL_X12_362 (l_128 hL) (k_128 hL) ⟨by decide, rfl⟩ rfl rfl (by decide) (by decide) (by exact Nat.le_of_ble_eq_true rfl) rfl ?_
          refine sp_X12_ruleFor h (by omega) (by omega) ?_
          refine gKv ?_
          refine E_istore dX12_curves_58 (Nat.le_of_ble_eq_true rfl) (by decide) rfl ?_
          refine E_aload_n dX12_curves_60 rfl ?_
          refine E_iload_n dX12_curves_61 rfl ?_
          refine E_iload_n dX12_curves_62 rfl ?_
          refine E_callV2 (fr' := 3) (k1 := 0) (n1 := 0) (k2 := 0) (n2 := 0) dX12_curves_63 kO_X12_ruleFor kL_X12_362 (l_128 hL) (k_128 hL) ⟨by decide, rfl⟩ rfl rfl (by decide) (by decide) (by exact Nat.le_of_ble_eq_true rfl) rfl ?_
          refine sp_X12_ruleFor h (by omega) (by omega) ?_
          refine gKv ?_
          refine E_istore dX12_curves_66 (Nat.le_of_ble_eq_true rfl) (by decide) rfl ?_
          unfold crS at K
          rw [cI_t (show crG c f l L i from ⟨c_23, c_31, c_40, c_49⟩)] at K
          unfold crU at K
          unfold rfV
          have noop : ∀ v4 v5 v6, ¬ crD c f l L i (aft c f l L i) → E g 4 0 0 mX12_curves 159 [.ref 129, .int (nI l), .int (nI i), .int (nI (aft c f l L i)), v4, v5, v6] [] (sI M 153 (aft c f l L i) (A 1 (aft c f l L i))) Q := fun v4 v5 v6 q => by
            rw [cI_f q] at K
            rw [sI_same (hp.at (q := 1) (by decide) c_31)]
            exact K _ _ _ _ _ hp
          by_cases d1 : rfA c f l L i < cN c 135 l
          · rw [cI_t d1]
            by_cases d2 : rfA c f l L (aft c f l L i) < cN c 135 l
            · rw [cI_t d2]
              refine E_iload dX12_curves_68 rfl ?_
              refine E_bipush (v := -100) dX12_curves_70 (by decide) ?_
              refine E_icmp_eq (tgt := 112) dX12_curves_72 (by decide) (fun c0 => absurd c0 (nI_ne100 (by omega))) (fun _ => ?_)
              refine E_iload dX12_curves_75 rfl ?_
              refine E_bipush (v := -100) dX12_curves_77 (by decide) ?_
              refine E_icmp_eq (tgt := 112) dX12_curves_79 (by decide) (fun c0 => absurd c0 (nI_ne100 (by omega))) (fun _ => ?_)
              refine E_aload_n dX12_curves_82 rfl ?_
              refine E_iload_n dX12_curves_83 rfl ?_
              refine E_iload dX12_curves_84 rfl ?_
              refine E_iconst (v := nI 2) dX12_curves_86 (by decide) ?_
              refine E_callV3 (fr' := 1) (k1 := 0) (n1 := 0) (k2 := 0) (n2 := 0) dX12_curves_87 kO_X12_numberOf kL_X12_306 (l_128 hL) (k_128 hL) ⟨by decide, rfl⟩ rfl rfl rfl (by decide) (by decide) (by exact Nat.le_of_ble_eq_true rfl) rfl ?_
              refine sp_X12_numberOf h (by omega) (by omega) (by decide) ?_
              refine gKv ?_
              refine E_bipush (v := -100) dX12_curves_90 (by decide) ?_
              refine E_icmp_eq (tgt := 112) dX12_curves_92 (by decide) (fun e_92 => ?_) (fun e_92 => ?_)
              · refine E_iconst (v := nI 0) dX12_curves_112 (by decide) ?_
                refine E_istore dX12_curves_113 (Nat.le_of_ble_eq_true rfl) (by decide) rfl ?_
                refine E_aload_n dX12_curves_115 rfl ?_
                refine E_getRL dX12_curves_116 kF_X12_87 kY_12 (Or.inr ⟨_, rfl⟩) (l_128 hL) (k_128 hL) (r_128_30 hL) ?_
                refine E_iload_n dX12_curves_119 rfl ?_
                refine E_iload dX12_curves_120 rfl ?_
                refine E_if_eq (tgt := 152) dX12_curves_122 (by decide) (fun _ => ?_) (fun c0 => absurd (by decide) c0)
                refine E_aload_n dX12_curves_152 rfl ?_
                refine E_getRL dX12_curves_153 kF_X12_87 kY_12 (Or.inr ⟨_, rfl⟩) (l_128 hL) (k_128 hL) (r_128_30 hL) ?_
                refine E_iload_n dX12_curves_156 rfl ?_
                refine E_ialdL (v := _) dX12_curves_157 (l_153 hL) (k_153 hL) rfl (by first | omega | exact h.n256 _) (by decide) (hp.at (q := 1) (by decide) (by omega)) ?_
                refine E_iast dX12_curves_158 (l_153 hL) (k_153 hL) rfl (by first | omega | exact h.n256 _) (by decide) ?_
                first
                  | exact noop _ _ _ (fun q => by first | exact q.2.2.1 e_92 | exact q.2.2.2 e_105)
                  | (rw [cI_t ⟨d1, d2, e_92, e_105⟩] at K; exact K _ _ _ _ _ (hp.set (q := 1) rfl (by decide)))
              · refine E_aload_n dX12_curves_95 rfl ?_
                refine E_iload_n dX12_curves_96 rfl ?_
                refine E_iload dX12_curves_97 rfl ?_
                refine E_iconst (v := nI 1) dX12_curves_99 (by decide) ?_
                refine E_callV3 (fr' := 1) (k1 := 0) (n1 := 0) (k2 := 0) (n2 := 0) dX12_curves_100 kO_X12_numberOf kL_X12_306 (l_128 hL) (k_128 hL) ⟨by decide, rfl⟩ rfl rfl rfl (by decide) (by decide) (by exact Nat.le_of_ble_eq_true rfl) rfl ?_
                refine sp_X12_numberOf h (by omega) (by omega) (by decide) ?_
                refine gKv ?_
                refine E_bipush (v := -100) dX12_curves_103 (by decide) ?_
                refine E_icmp_eq (tgt := 112) dX12_curves_105 (by decide) (fun e_105 => ?_) (fun e_105 => ?_)
                · refine E_iconst (v := nI 0) dX12_curves_112 (by decide) ?_
                  refine E_istore dX12_curves_113 (Nat.le_of_ble_eq_true rfl) (by decide) rfl ?_
                  refine E_aload_n dX12_curves_115 rfl ?_
                  refine E_getRL dX12_curves_116 kF_X12_87 kY_12 (Or.inr ⟨_, rfl⟩) (l_128 hL) (k_128 hL) (r_128_30 hL) ?_
                  refine E_iload_n dX12_curves_119 rfl ?_
                  refine E_iload dX12_curves_120 rfl ?_
                  refine E_if_eq (tgt := 152) dX12_curves_122 (by decide) (fun _ => ?_) (fun c0 => absurd (by decide) c0)
                  refine E_aload_n dX12_curves_152 rfl ?_
                  refine E_getRL dX12_curves_153 kF_X12_87 kY_12 (Or.inr ⟨_, rfl⟩) (l_128 hL) (k_128 hL) (r_128_30 hL) ?_
                  refine E_iload_n dX12_curves_156 rfl ?_
                  refine E_ialdL (v := _) dX12_curves_157 (l_153 hL) (k_153 hL) rfl (by first | omega | exact h.n256 _) (by decide) (hp.at (q := 1) (by decide) (by omega)) ?_
                  refine E_iast dX12_curves_158 (l_153 hL) (k_153 hL) rfl (by first | omega | exact h.n256 _) (by decide) ?_
                  first
                    | exact noop _ _ _ (fun q => by first | exact q.2.2.1 e_92 | exact q.2.2.2 e_105)
                    | (rw [cI_t ⟨d1, d2, e_92, e_105⟩] at K; exact K _ _ _ _ _ (hp.set (q := 1) rfl (by decide)))
                · refine E_iconst (v := nI 1) dX12_curves_108 (by decide) ?_
                  refine E_goto (tgt := 113) dX12_curves_109 (by decide) ?_
                  refine E_istore dX12_curves_113 (Nat.le_of_ble_eq_true rfl) (by decide) rfl ?_
                  refine E_aload_n dX12_curves_115 rfl ?_
                  refine E_getRL dX12_curves_116 kF_X12_87 kY_12 (Or.inr ⟨_, rfl⟩) (l_128 hL) (k_128 hL) (r_128_30 hL) ?_
                  refine E_iload_n dX12_curves_119 rfl ?_
                  refine E_iload dX12_curves_120 rfl ?_
                  refine E_if_eq (tgt := 152) dX12_curves_122 (by decide) (fun c0 => absurd c0 (by decide)) (fun _ => ?_)
                  refine E_aload_n dX12_curves_125 rfl ?_
                  refine E_getRL dX12_curves_126 kF_X12_87 kY_12 (Or.inr ⟨_, rfl⟩) (l_128 hL) (k_128 hL) (r_128_30 hL) ?_
                  refine E_iload_n dX12_curves_129 rfl ?_
                  refine E_ialdL (v := _) dX12_curves_130 (l_153 hL) (k_153 hL) rfl (by first | omega | exact h.n256 _) (by decide) (hp.at (q := 1) (by decide) (by omega)) ?_
                  refine E_aload_n dX12_curves_131 rfl ?_
                  refine E_iload_n dX12_curves_132 rfl ?_
                  refine E_iload dX12_curves_133 rfl ?_
                  refine E_iconst (v := nI 2) dX12_curves_135 (by decide) ?_
                  refine E_callV3 (fr' := 1) (k1 := 0) (n1 := 0) (k2 := 0) (n2 := 0) dX12_curves_136 kO_X12_numberOf kL_X12_306 (l_128 hL) (k_128 hL) ⟨by decide, rfl⟩ rfl rfl rfl (by decide) (by decide) (by exact Nat.le_of_ble_eq_true rfl) rfl ?_
                  refine sp_X12_numberOf h (by omega) (by omega) (by decide) ?_
                  refine gKv ?_
                  refine E_iadd dX12_curves_139 ?_
                  refine E_aload_n dX12_curves_140 rfl ?_
                  refine E_iload_n dX12_curves_141 rfl ?_
                  refine E_iload dX12_curves_142 rfl ?_
                  refine E_iconst (v := nI 1) dX12_curves_144 (by decide) ?_
                  refine E_callV3 (fr' := 1) (k1 := 0) (n1 := 0) (k2 := 0) (n2 := 0) dX12_curves_145 kO_X12_numberOf kL_X12_306 (l_128 hL) (k_128 hL) ⟨by decide, rfl⟩ rfl rfl rfl (by decide) (by decide) (by exact Nat.le_of_ble_eq_true rfl) rfl ?_
                  refine sp_X12_numberOf h (by omega) (by omega) (by decide) ?_
                  refine gKv ?_
                  refine E_isub dX12_curves_148 ?_
                  refine E_goto (tgt := 158) dX12_curves_149 (by decide) ?_
                  refine E_iast dX12_curves_158 (l_153 hL) (k_153 hL) rfl (by first | omega | exact h.n256 _) (by decide) ?_
                  first
                    | exact noop _ _ _ (fun q => by first | exact q.2.2.1 e_92 | exact q.2.2.2 e_105)
                    | (rw [cI_t ⟨d1, d2, e_92, e_105⟩] at K; exact K _ _ _ _ _ (hp.set (q := 1) rfl (by decide)))
            · rw [cI_f d2]
              refine E_iload dX12_curves_68 rfl ?_
              refine E_bipush (v := -100) dX12_curves_70 (by decide) ?_
              refine E_icmp_eq (tgt := 112) dX12_curves_72 (by decide) (fun c0 => absurd c0 (nI_ne100 (by omega))) (fun _ => ?_)
              refine E_iload dX12_curves_75 rfl ?_
              refine E_bipush (v := -100) dX12_curves_77 (by decide) ?_
              refine E_icmp_eq (tgt := 112) dX12_curves_79 (by decide) (fun _ => ?_) (fun c0 => absurd (by decide) c0)
              refine E_iconst (v := nI 0) dX12_curves_112 (by decide) ?_
              refine E_istore dX12_curves_113 (Nat.le_of_ble_eq_true rfl) (by decide) rfl ?_
              refine E_aload_n dX12_curves_115 rfl ?_
              refine E_getRL dX12_curves_116 kF_X12_87 kY_12 (Or.inr ⟨_, rfl⟩) (l_128 hL) (k_128 hL) (r_128_30 hL) ?_
              refine E_iload_n dX12_curves_119 rfl ?_
              refine E_iload dX12_curves_120 rfl ?_
              refine E_if_eq (tgt := 152) dX12_curves_122 (by decide) (fun _ => ?_) (fun c0 => absurd (by decide) c0)
              refine E_aload_n dX12_curves_152 rfl ?_
              refine E_getRL dX12_curves_153 kF_X12_87 kY_12 (Or.inr ⟨_, rfl⟩) (l_128 hL) (k_128 hL) (r_128_30 hL) ?_
              refine E_iload_n dX12_curves_156 rfl ?_
              refine E_ialdL (v := _) dX12_curves_157 (l_153 hL) (k_153 hL) rfl (by first | omega | exact h.n256 _) (by decide) (hp.at (q := 1) (by decide) (by omega)) ?_
              refine E_iast dX12_curves_158 (l_153 hL) (k_153 hL) rfl (by first | omega | exact h.n256 _) (by decide) ?_
              exact noop _ _ _ (fun q => d2 q.2.1)
          · rw [cI_f d1]
            generalize cI (rfA c f l L (aft c f l L i) < cN c 135 l) (nI (rfA c f l L (aft c f l L i))) (-100) = v9
            refine E_iload dX12_curves_68 rfl ?_
            refine E_bipush (v := -100) dX12_curves_70 (by decide) ?_
            refine E_icmp_eq (tgt := 112) dX12_curves_72 (by decide) (fun _ => ?_) (fun c0 => absurd (by decide) c0)
            refine E_iconst (v := nI 0) dX12_curves_112 (by decide) ?_
            refine E_istore dX12_curves_113 (Nat.le_of_ble_eq_true rfl) (by decide) rfl ?_
            refine E_aload_n dX12_curves_115 rfl ?_
            refine E_getRL dX12_curves_116 kF_X12_87 kY_12 (Or.inr ⟨_, rfl⟩) (l_128 hL) (k_128 hL) (r_128_30 hL) ?_
            refine E_iload_n dX12_curves_119 rfl ?_
            refine E_iload dX12_curves_120 rfl ?_
            refine E_if_eq (tgt := 152) dX12_curves_122 (by decide) (fun _ => ?_) (fun c0 => absurd (by decide) c0)
            refine E_aload_n dX12_curves_152 rfl ?_
            refine E_getRL dX12_curves_153 kF_X12_87 kY_12 (Or.inr ⟨_, rfl⟩) (l_128 hL) (k_128 hL) (r_128_30 hL) ?_
            refine E_iload_n dX12_curves_156 rfl ?_
            refine E_ialdL (v := _) dX12_curves_157 (l_153 hL) (k_153 hL) rfl (by first | omega | exact h.n256 _) (by decide) (hp.at (q := 1) (by decide) (by omega)) ?_
            refine E_iast dX12_curves_158 (l_153 hL) (k_153 hL) rfl (by first | omega | exact h.n256 _) (by decide) ?_
            exact noop _ _ _ (fun q => d1 q.1)
set_option maxRecDepth 100000 in
set_option maxHeartbeats 4000000 in
theorem lp_X12_curves {g : gG} {Q : Option Value ⊕ String → gM → Prop} {c : Cf} {f : Nat} {M0 : gM} {L : List Gl} {w : Int32} {l : Nat} {A : Pl} (hl : l < 24) (K : ∀ M, mP c f M0 L w (crv c f l L L.length A) M → Q (.inl none) M) : ∀ i, i ≤ L.length → ∀ M, mP c f M0 L w (crv c f l L i A) M → ∀ v3 v4 v5 v6, E g 4 0 0 mX12_curves 2 [.ref 129, .int (nI l), .int (nI i), v3, v4, v5, v6] [] M Q := by
  refine lpUp L.length (fun i hi ih => ?_)
  intro M hp v3 v4 v5 v6
  have h := hp.1
  have hL := h.lay
  have hf := h.hf
  have hn := h.len
  refine E_iload_n dX12_curves_2 rfl ?_
  refine E_aload_n dX12_curves_3 rfl ?_
  refine E_getIL (v := nI _) dX12_curves_4 kF_X12_235 kY_12 (Or.inl rfl) (l_128 hL) (k_128 hL) h.gn ?_
  refine E_icmp_ge_n (tgt := 165) dX12_curves_7 (by decide) (by omega) (by omega) (fun c_7 => ?_) (fun c_7 => ?_)
  · refine E_vret dX12_curves_165 rfl ?_
    obtain rfl : i = L.length := by omega
    exact K _ hp
  · refine st_X12_curves hp hl (by omega) (fun M v3 v4 v5 v6 hp => ?_) _ _ _ _
    have h := hp.1
    have hL := h.lay
    refine E_iinc_n (d := 1) dX12_curves_159 rfl rfl rfl (by decide) rfl ?_
    refine E_goto (tgt := 2) dX12_curves_162 (by decide) ?_
    exact ih (by omega) _ hp _ _ _ _
set_option maxRecDepth 100000 in
set_option maxHeartbeats 4000000 in
theorem sp_X12_curves {g : gG} {M : gM} {Q : Option Value ⊕ String → gM → Prop} {c : Cf} {f : Nat} {M0 : gM} {L : List Gl} {w : Int32} {A : Pl} (hp : mP c f M0 L w A M) {l : Nat} (hl : l < 24) (K : ∀ M, mP c f M0 L w (crv c f l L L.length A) M → Q (.inl none) M) : E g 4 0 0 mX12_curves 0 [.ref 129, .int (nI l), .null, .null, .null, .null, .null] [] M Q := by
  have h := hp.1
  have hL := h.lay
  have hf := h.hf
  have hn := h.len
  refine E_iconst (v := nI 0) dX12_curves_0 (by decide) ?_
  refine E_istore_n dX12_curves_1 (Nat.le_of_ble_eq_true rfl) (by decide) rfl ?_
  exact lp_X12_curves hl K 0 (Nat.zero_le _) M hp _ _ _ _
abbrev mkc (c : Cf) (f : Nat) (x : Gl) : Nat := cN c 137 (256 * f + yN x)
noncomputable def bsE (c : Cf) (f : Nat) (L : List Gl) (i : Nat) : Nat := rfd (fun k => ¬ 0 < mkc c f (gat L k)) i
noncomputable def bsT (L : List Gl) (i b : Nat) : Int32 := cI (yP (gat L i) = -100) (yT (gat L b) - nI 1) (yP (gat L i))
def bsP (c : Cf) (f l : Nat) (L : List Gl) (i b k : Nat) : Prop := isAt c f (rul c l k 0) (yN (gat L b)) ∧ (rul c l k 1 = -100 ∨ rul c l k 1 = bsT L i b) ∧ rul c l k 2 = dI (mkc c f (gat L i))
noncomputable def bsA (c : Cf) (f l : Nat) (L : List Gl) (i b : Nat) : Nat := fnd (bsP c f l L i b) (cN c 135 l) 0
def bsG (c : Cf) (f l : Nat) (L : List Gl) (i : Nat) : Prop := 0 < mkc c f (gat L i) ∧ goP c f L l i ∧ 0 < bsE c f L i
noncomputable def bsU (c : Cf) (f l : Nat) (L : List Gl) (i b : Nat) (A : Pl) : Pl := cI (bsA c f l L i b < cN c 135 l) (set3 A i (nI b) (rul c l (bsA c f l L i b) 3) (rul c l (bsA c f l L i b) 4)) A
noncomputable def bsS (c : Cf) (f l : Nat) (L : List Gl) (i : Nat) (A : Pl) : Pl := cI (bsG c f l L i) (bsU c f l L i (bsE c f L i - 1) A) A
noncomputable def bss (c : Cf) (f l : Nat) (L : List Gl) : Nat → Pl → Pl
  | 0, A => A
  | k + 1, A => bsS c f l L k (bss c f l L k A)
set_option maxRecDepth 100000 in
set_option maxHeartbeats 4000000 in
theorem lp1_X12_setsOnBases {g : gG} {M : gM} {Q : Option Value ⊕ String → gM → Prop} {c : Cf} {f : Nat} {M0 : gM} {L : List Gl} {w : Int32} {A : Pl} (hp : mP c f M0 L w A M) {l i b : Nat} (hl : l < 24) (hi : i < L.length) (hbi : b < i) (hm : 0 < mkc c f (gat L i)) (K : ∀ M v3 v4 v5 v6 v7, mP c f M0 L w (bsU c f l L i b A) M → E g 3 0 0 mX12_setsOnBases 214 [.ref 129, .int (nI l), .int (nI i), v3, v4, v5, v6, v7] [] M Q) : ∀ k, k ≤ cN c 135 l → fnd (bsP c f l L i b) (cN c 135 l) k = bsA c f l L i b → ∀ v6 v7, E g 3 0 0 mX12_setsOnBases 72 [.ref 129, .int (nI l), .int (nI i), .int (nI b), .int (nI 0), .int (nI k), v6, v7] [] M Q := by
  have h := hp.1
  have hL := h.lay
  have hf := h.hf
  have hn := h.len
  have hk8 := (h.wf.lk l).2.2.2.2.2
  have hmb := (h.wf.gl (256 * f + yN (gat L i))).1
  refine lpUp (cN c 135 l) (fun k hk ih => ?_)
  intro he v6 v7
  have rest : k < cN c 135 l → ∀ v, v = bsT L i b → E g 3 0 0 mX12_setsOnBases 116 [.ref 129, .int (nI l), .int (nI i), .int (nI b), .int (nI 0), .int (nI k), v6, v7] [.int v] M Q := by
    intro hkc v hv
    have skip : ¬ bsP c f l L i b k → ∀ v6 v7, E g 3 0 0 mX12_setsOnBases 72 [.ref 129, .int (nI l), .int (nI i), .int (nI b), .int (nI 0), .int (nI (k + 1)), v6, v7] [] M Q := fun q v6 v7 => ih hkc (by rw [← he]; exact (fnd_skip hkc q).symm) v6 v7
    refine E_istore dX12_setsOnBases_116 (Nat.le_of_ble_eq_true rfl) (by decide) rfl ?_
    refine E_aload_n dX12_setsOnBases_118 rfl ?_
    refine E_iload_n dX12_setsOnBases_119 rfl ?_
    refine E_iload dX12_setsOnBases_120 rfl ?_
    refine E_iconst (v := nI 1) dX12_setsOnBases_122 (by decide) ?_
    refine E_callV3 (fr' := 1) (k1 := 0) (n1 := 0) (k2 := 0) (n2 := 0) dX12_setsOnBases_123 kO_X12_numberOf kL_X12_306 (l_128 hL) (k_128 hL) ⟨by decide, rfl⟩ rfl rfl rfl (by decide) (by decide) (by exact Nat.le_of_ble_eq_true rfl) rfl ?_
    refine sp_X12_numberOf h (by omega) (by omega) (by decide) ?_
    refine gKv ?_
    refine E_istore dX12_setsOnBases_126 (Nat.le_of_ble_eq_true rfl) (by decide) rfl ?_
    refine E_aload_n dX12_setsOnBases_128 rfl ?_
    refine E_aload_n dX12_setsOnBases_129 rfl ?_
    refine E_iload_n dX12_setsOnBases_130 rfl ?_
    refine E_iload dX12_setsOnBases_131 rfl ?_
    refine E_iconst (v := nI 0) dX12_setsOnBases_133 (by decide) ?_
    refine E_callV3 (fr' := 1) (k1 := 0) (n1 := 0) (k2 := 0) (n2 := 0) dX12_setsOnBases_134 kO_X12_numberOf kL_X12_306 (l_128 hL) (k_128 hL) ⟨by decide, rfl⟩ rfl rfl rfl (by decide) (by decide) (by exact Nat.le_of_ble_eq_true rfl) rfl ?_
    refine sp_X12_numberOf h (by omega) (by omega) (by decide) ?_
    refine gKv ?_
    refine E_iload_n dX12_setsOnBases_137 rfl ?_
    refine E_callV2 (fr' := 2) (k1 := 0) (n1 := 0) (k2 := 0) (n2 := 0) dX12_setsOnBases_138 kO_X12_is kL_X12_288 (l_128 hL) (k_128 hL) ⟨by decide, rfl⟩ rfl rfl (by decide) (by decide) (by exact Nat.le_of_ble_eq_true rfl) rfl ?_
    refine sp_X12_is h (by omega) ?_
    refine gKv ?_
    refine E_if_eq_b (tgt := 178) dX12_setsOnBases_141 (by decide) (fun c_141 => ?_) (fun c_141 => ?_)
    · refine E_iconst (v := nI 0) dX12_setsOnBases_178 (by decide) ?_
      refine E_istore dX12_setsOnBases_179 (Nat.le_of_ble_eq_true rfl) (by decide) rfl ?_
      refine E_iload dX12_setsOnBases_181 rfl ?_
      refine E_if_eq (tgt := 208) dX12_setsOnBases_183 (by decide) (fun _ => ?_) (fun c0 => absurd (by decide) c0)
      refine E_iinc_n (d := 1) dX12_setsOnBases_208 rfl rfl rfl (by decide) rfl ?_
      refine E_goto (tgt := 72) dX12_setsOnBases_211 (by decide) ?_
      exact skip (fun q => by first | exact c_141 q.1 | exact c_171 q.2.2 | (rcases q.2.1 with z | z; exact c_148 z; exact c_155 (z.trans hv.symm))) _ _
    · refine E_iload dX12_setsOnBases_144 rfl ?_
      refine E_bipush (v := -100) dX12_setsOnBases_146 (by decide) ?_
      refine E_icmp_eq (tgt := 158) dX12_setsOnBases_148 (by decide) (fun c_148 => ?_) (fun c_148 => ?_)
      · refine E_aload_n dX12_setsOnBases_158 rfl ?_
        refine E_iload_n dX12_setsOnBases_159 rfl ?_
        refine E_iload dX12_setsOnBases_160 rfl ?_
        refine E_iconst (v := nI 2) dX12_setsOnBases_162 (by decide) ?_
        refine E_callV3 (fr' := 1) (k1 := 0) (n1 := 0) (k2 := 0) (n2 := 0) dX12_setsOnBases_163 kO_X12_numberOf kL_X12_306 (l_128 hL) (k_128 hL) ⟨by decide, rfl⟩ rfl rfl rfl (by decide) (by decide) (by exact Nat.le_of_ble_eq_true rfl) rfl ?_
        refine sp_X12_numberOf h (by omega) (by omega) (by decide) ?_
        refine gKv ?_
        refine E_aload_n dX12_setsOnBases_166 rfl ?_
        refine E_iload_n dX12_setsOnBases_167 rfl ?_
        refine E_callV1 (fr' := 1) (k1 := 0) (n1 := 0) (k2 := 0) (n2 := 0) dX12_setsOnBases_168 kO_X12_markAt kL_X12_282 (l_128 hL) (k_128 hL) ⟨by decide, rfl⟩ rfl (by decide) (by decide) (by exact Nat.le_of_ble_eq_true rfl) rfl ?_
        refine sp_X12_markAt h (by omega) ?_
        refine gKv ?_
        refine E_icmp_ne_r (tgt := 178) dX12_setsOnBases_171 (by decide) (fun c_171 => ?_) (fun c_171 => ?_)
        · refine E_iconst (v := nI 0) dX12_setsOnBases_178 (by decide) ?_
          refine E_istore dX12_setsOnBases_179 (Nat.le_of_ble_eq_true rfl) (by decide) rfl ?_
          refine E_iload dX12_setsOnBases_181 rfl ?_
          refine E_if_eq (tgt := 208) dX12_setsOnBases_183 (by decide) (fun _ => ?_) (fun c0 => absurd (by decide) c0)
          refine E_iinc_n (d := 1) dX12_setsOnBases_208 rfl rfl rfl (by decide) rfl ?_
          refine E_goto (tgt := 72) dX12_setsOnBases_211 (by decide) ?_
          exact skip (fun q => by first | exact c_141 q.1 | exact c_171 q.2.2 | (rcases q.2.1 with z | z; exact c_148 z; exact c_155 (z.trans hv.symm))) _ _
        · have hP : bsP c f l L i b k := ⟨c_141, by first | exact Or.inl c_148 | exact Or.inr (c_155.trans hv), c_171⟩
          have hea : bsA c f l L i b = k := by rw [← he]; exact fnd_hit hkc hP
          unfold bsU at K
          rw [cI_t (by omega), hea] at K
          refine E_iconst (v := nI 1) dX12_setsOnBases_174 (by decide) ?_
          refine E_goto (tgt := 179) dX12_setsOnBases_175 (by decide) ?_
          refine E_istore dX12_setsOnBases_179 (Nat.le_of_ble_eq_true rfl) (by decide) rfl ?_
          refine E_iload dX12_setsOnBases_181 rfl ?_
          refine E_if_eq (tgt := 208) dX12_setsOnBases_183 (by decide) (fun c0 => absurd c0 (by decide)) (fun _ => ?_)
          refine E_aload_n dX12_setsOnBases_186 rfl ?_
          refine E_iload_n dX12_setsOnBases_187 rfl ?_
          refine E_iload_n dX12_setsOnBases_188 rfl ?_
          refine E_aload_n dX12_setsOnBases_189 rfl ?_
          refine E_iload_n dX12_setsOnBases_190 rfl ?_
          refine E_iload dX12_setsOnBases_191 rfl ?_
          refine E_iconst (v := nI 3) dX12_setsOnBases_193 (by decide) ?_
          refine E_callV3 (fr' := 1) (k1 := 0) (n1 := 0) (k2 := 0) (n2 := 0) dX12_setsOnBases_194 kO_X12_numberOf kL_X12_306 (l_128 hL) (k_128 hL) ⟨by decide, rfl⟩ rfl rfl rfl (by decide) (by decide) (by exact Nat.le_of_ble_eq_true rfl) rfl ?_
          refine sp_X12_numberOf h (by omega) (by omega) (by decide) ?_
          refine gKv ?_
          refine E_aload_n dX12_setsOnBases_197 rfl ?_
          refine E_iload_n dX12_setsOnBases_198 rfl ?_
          refine E_iload dX12_setsOnBases_199 rfl ?_
          refine E_iconst (v := nI 4) dX12_setsOnBases_201 (by decide) ?_
          refine E_callV3 (fr' := 1) (k1 := 0) (n1 := 0) (k2 := 0) (n2 := 0) dX12_setsOnBases_202 kO_X12_numberOf kL_X12_306 (l_128 hL) (k_128 hL) ⟨by decide, rfl⟩ rfl rfl rfl (by decide) (by decide) (by exact Nat.le_of_ble_eq_true rfl) rfl ?_
          refine sp_X12_numberOf h (by omega) (by omega) (by decide) ?_
          refine gKv ?_
          refine E_callV4 (fr' := 1) (k1 := 0) (n1 := 0) (k2 := 0) (n2 := 0) dX12_setsOnBases_205 kO_X12_sets kL_X12_365 (l_128 hL) (k_128 hL) ⟨by decide, rfl⟩ rfl rfl rfl rfl (by decide) (by decide) (by exact Nat.le_of_ble_eq_true rfl) rfl ?_
          refine sp_X12_sets (i := i) hL (by omega) ?_
          have hp := hp.s3 i (nI b) (rul c l k 3) (rul c l k 4)
          have h := hp.1
          have hL := h.lay
          refine gKn ?_
          refine E_iinc_n (d := 1) dX12_setsOnBases_208 rfl rfl rfl (by decide) rfl ?_
          refine E_goto (tgt := 72) dX12_setsOnBases_211 (by decide) ?_
          refine E_iload dX12_setsOnBases_72 rfl ?_
          refine E_aload_n dX12_setsOnBases_74 rfl ?_
          refine E_getRL dX12_setsOnBases_75 kF_X12_28 kY_12 (Or.inr ⟨_, rfl⟩) (l_128 hL) (k_128 hL) (r_128_8 hL) ?_
          refine E_iload_n dX12_setsOnBases_78 rfl ?_
          refine E_ialdL (v := nI (cN _ 135 _)) dX12_setsOnBases_79 (l_135 hL) (k_135 hL) rfl (by first | omega | exact h.n256 _) (by decide) (h.gc (Or.inl ⟨by decide, by decide, by decide⟩)) ?_
          refine E_icmp_ge_n (tgt := 214) dX12_setsOnBases_80 (by decide) (by omega) (by omega) (fun e_80 => ?_) (fun e_80 => ?_)
          · exact K _ _ _ _ _ _ hp
          · refine E_iload dX12_setsOnBases_83 rfl ?_
            refine E_if_ne (tgt := 214) dX12_setsOnBases_85 (by decide) (fun _ => ?_) (fun c0 => absurd (by decide) c0)
            exact K _ _ _ _ _ _ hp
      · refine E_iload dX12_setsOnBases_151 rfl ?_
        refine E_iload dX12_setsOnBases_153 rfl ?_
        refine E_icmp_ne_r (tgt := 178) dX12_setsOnBases_155 (by decide) (fun c_155 => ?_) (fun c_155 => ?_)
        · refine E_iconst (v := nI 0) dX12_setsOnBases_178 (by decide) ?_
          refine E_istore dX12_setsOnBases_179 (Nat.le_of_ble_eq_true rfl) (by decide) rfl ?_
          refine E_iload dX12_setsOnBases_181 rfl ?_
          refine E_if_eq (tgt := 208) dX12_setsOnBases_183 (by decide) (fun _ => ?_) (fun c0 => absurd (by decide) c0)
          refine E_iinc_n (d := 1) dX12_setsOnBases_208 rfl rfl rfl (by decide) rfl ?_
          refine E_goto (tgt := 72) dX12_setsOnBases_211 (by decide) ?_
          exact skip (fun q => by first | exact c_141 q.1 | exact c_171 q.2.2 | (rcases q.2.1 with z | z; exact c_148 z; exact c_155 (z.trans hv.symm))) _ _
        · refine E_aload_n dX12_setsOnBases_158 rfl ?_
          refine E_iload_n dX12_setsOnBases_159 rfl ?_
          refine E_iload dX12_setsOnBases_160 rfl ?_
          refine E_iconst (v := nI 2) dX12_setsOnBases_162 (by decide) ?_
          refine E_callV3 (fr' := 1) (k1 := 0) (n1 := 0) (k2 := 0) (n2 := 0) dX12_setsOnBases_163 kO_X12_numberOf kL_X12_306 (l_128 hL) (k_128 hL) ⟨by decide, rfl⟩ rfl rfl rfl (by decide) (by decide) (by exact Nat.le_of_ble_eq_true rfl) rfl ?_
          refine sp_X12_numberOf h (by omega) (by omega) (by decide) ?_
          refine gKv ?_
          refine E_aload_n dX12_setsOnBases_166 rfl ?_
          refine E_iload_n dX12_setsOnBases_167 rfl ?_
          refine E_callV1 (fr' := 1) (k1 := 0) (n1 := 0) (k2 := 0) (n2 := 0) dX12_setsOnBases_168 kO_X12_markAt kL_X12_282 (l_128 hL) (k_128 hL) ⟨by decide, rfl⟩ rfl (by decide) (by decide) (by exact Nat.le_of_ble_eq_true rfl) rfl ?_
          refine sp_X12_markAt h (by omega) ?_
          refine gKv ?_
          refine E_icmp_ne_r (tgt := 178) dX12_setsOnBases_171 (by decide) (fun c_171 => ?_) (fun c_171 => ?_)
          · refine E_iconst (v := nI 0) dX12_setsOnBases_178 (by decide) ?_
            refine E_istore dX12_setsOnBases_179 (Nat.le_of_ble_eq_true rfl) (by decide) rfl ?_
            refine E_iload dX12_setsOnBases_181 rfl ?_
            refine E_if_eq (tgt := 208) dX12_setsOnBases_183 (by decide) (fun _ => ?_) (fun c0 => absurd (by decide) c0)
            refine E_iinc_n (d := 1) dX12_setsOnBases_208 rfl rfl rfl (by decide) rfl ?_
            refine E_goto (tgt := 72) dX12_setsOnBases_211 (by decide) ?_
            exact skip (fun q => by first | exact c_141 q.1 | exact c_171 q.2.2 | (rcases q.2.1 with z | z; exact c_148 z; exact c_155 (z.trans hv.symm))) _ _
          · have hP : bsP c f l L i b k := ⟨c_141, by first | exact Or.inl c_148 | exact Or.inr (c_155.trans hv), c_171⟩
            have hea : bsA c f l L i b = k := by rw [← he]; exact fnd_hit hkc hP
            unfold bsU at K
            rw [cI_t (by omega), hea] at K
            refine E_iconst (v := nI 1) dX12_setsOnBases_174 (by decide) ?_
            refine E_goto (tgt := 179) dX12_setsOnBases_175 (by decide) ?_
            refine E_istore dX12_setsOnBases_179 (Nat.le_of_ble_eq_true rfl) (by decide) rfl ?_
            refine E_iload dX12_setsOnBases_181 rfl ?_
            refine E_if_eq (tgt := 208) dX12_setsOnBases_183 (by decide) (fun c0 => absurd c0 (by decide)) (fun _ => ?_)
            refine E_aload_n dX12_setsOnBases_186 rfl ?_
            refine E_iload_n dX12_setsOnBases_187 rfl ?_
            refine E_iload_n dX12_setsOnBases_188 rfl ?_
            refine E_aload_n dX12_setsOnBases_189 rfl ?_
            refine E_iload_n dX12_setsOnBases_190 rfl ?_
            refine E_iload dX12_setsOnBases_191 rfl ?_
            refine E_iconst (v := nI 3) dX12_setsOnBases_193 (by decide) ?_
            refine E_callV3 (fr' := 1) (k1 := 0) (n1 := 0) (k2 := 0) (n2 := 0) dX12_setsOnBases_194 kO_X12_numberOf kL_X12_306 (l_128 hL) (k_128 hL) ⟨by decide, rfl⟩ rfl rfl rfl (by decide) (by decide) (by exact Nat.le_of_ble_eq_true rfl) rfl ?_
            refine sp_X12_numberOf h (by omega) (by omega) (by decide) ?_
            refine gKv ?_
            refine E_aload_n dX12_setsOnBases_197 rfl ?_
            refine E_iload_n dX12_setsOnBases_198 rfl ?_
            refine E_iload dX12_setsOnBases_199 rfl ?_
            refine E_iconst (v := nI 4) dX12_setsOnBases_201 (by decide) ?_
            refine E_callV3 (fr' := 1) (k1 := 0) (n1 := 0) (k2 := 0) (n2 := 0) dX12_setsOnBases_202 kO_X12_numberOf kL_X12_306 (l_128 hL) (k_128 hL) ⟨by decide, rfl⟩ rfl rfl rfl (by decide) (by decide) (by exact Nat.le_of_ble_eq_true rfl) rfl ?_
            refine sp_X12_numberOf h (by omega) (by omega) (by decide) ?_
            refine gKv ?_
            refine E_callV4 (fr' := 1) (k1 := 0) (n1 := 0) (k2 := 0) (n2 := 0) dX12_setsOnBases_205 kO_X12_sets kL_X12_365 (l_128 hL) (k_128 hL) ⟨by decide, rfl⟩ rfl rfl rfl rfl (by decide) (by decide) (by exact Nat.le_of_ble_eq_true rfl) rfl ?_
            refine sp_X12_sets (i := i) hL (by omega) ?_
            have hp := hp.s3 i (nI b) (rul c l k 3) (rul c l k 4)
            have h := hp.1
            have hL := h.lay
            refine gKn ?_
            refine E_iinc_n (d := 1) dX12_setsOnBases_208 rfl rfl rfl (by decide) rfl ?_
            refine E_goto (tgt := 72) dX12_setsOnBases_211 (by decide) ?_
            refine E_iload dX12_setsOnBases_72 rfl ?_
            refine E_aload_n dX12_setsOnBases_74 rfl ?_
            refine E_getRL dX12_setsOnBases_75 kF_X12_28 kY_12 (Or.inr ⟨_, rfl⟩) (l_128 hL) (k_128 hL) (r_128_8 hL) ?_
            refine E_iload_n dX12_setsOnBases_78 rfl ?_
            refine E_ialdL (v := nI (cN _ 135 _)) dX12_setsOnBases_79 (l_135 hL) (k_135 hL) rfl (by first | omega | exact h.n256 _) (by decide) (h.gc (Or.inl ⟨by decide, by decide, by decide⟩)) ?_
            refine E_icmp_ge_n (tgt := 214) dX12_setsOnBases_80 (by decide) (by omega) (by omega) (fun e_80 => ?_) (fun e_80 => ?_)
            · exact K _ _ _ _ _ _ hp
            · refine E_iload dX12_setsOnBases_83 rfl ?_
              refine E_if_ne (tgt := 214) dX12_setsOnBases_85 (by decide) (fun _ => ?_) (fun c0 => absurd (by decide) c0)
              exact K _ _ _ _ _ _ hp
  refine E_iload dX12_setsOnBases_72 rfl ?_
  refine E_aload_n dX12_setsOnBases_74 rfl ?_
  refine E_getRL dX12_setsOnBases_75 kF_X12_28 kY_12 (Or.inr ⟨_, rfl⟩) (l_128 hL) (k_128 hL) (r_128_8 hL) ?_
  refine E_iload_n dX12_setsOnBases_78 rfl ?_
  refine E_ialdL (v := nI (cN _ 135 _)) dX12_setsOnBases_79 (l_135 hL) (k_135 hL) rfl (by first | omega | exact h.n256 _) (by decide) (h.gc (Or.inl ⟨by decide, by decide, by decide⟩)) ?_
  refine E_icmp_ge_n (tgt := 214) dX12_setsOnBases_80 (by decide) (by omega) (by omega) (fun c_80 => ?_) (fun c_80 => ?_)
  · unfold bsU at K
    rw [cI_f (by rw [← he, fnd_end (by omega)]; omega)] at K
    exact K _ _ _ _ _ _ hp
  · refine E_iload dX12_setsOnBases_83 rfl ?_
    refine E_if_ne (tgt := 214) dX12_setsOnBases_85 (by decide) (fun c0 => absurd c0 (by decide)) (fun _ => ?_)
    refine E_aload_n dX12_setsOnBases_88 rfl ?_
    refine E_getRL dX12_setsOnBases_89 kF_X12_75 kY_12 (Or.inr ⟨_, rfl⟩) (l_128 hL) (k_128 hL) (r_128_26 hL) ?_
    refine E_iload_n dX12_setsOnBases_92 rfl ?_
    refine E_ialdL (v := yP (gat _ _)) dX12_setsOnBases_93 (l_149 hL) (k_149 hL) rfl (by first | omega | exact h.n256 _) (by decide) (h.at (by omega)).2.2.2.2.1 ?_
    refine E_bipush (v := -100) dX12_setsOnBases_94 (by decide) ?_
    refine E_icmp_ne_r (tgt := 110) dX12_setsOnBases_96 (by decide) (fun c_96 => ?_) (fun c_96 => ?_)
    · refine E_aload_n dX12_setsOnBases_110 rfl ?_
      refine E_getRL dX12_setsOnBases_111 kF_X12_75 kY_12 (Or.inr ⟨_, rfl⟩) (l_128 hL) (k_128 hL) (r_128_26 hL) ?_
      refine E_iload_n dX12_setsOnBases_114 rfl ?_
      refine E_ialdL (v := yP (gat _ _)) dX12_setsOnBases_115 (l_149 hL) (k_149 hL) rfl (by first | omega | exact h.n256 _) (by decide) (h.at (by omega)).2.2.2.2.1 ?_
      refine rest (by omega) _ ?_
      unfold bsT
      first | exact (cI_t c_96).symm | exact (cI_f c_96).symm
    · refine E_aload_n dX12_setsOnBases_99 rfl ?_
      refine E_getRL dX12_setsOnBases_100 kF_X12_78 kY_12 (Or.inr ⟨_, rfl⟩) (l_128 hL) (k_128 hL) (r_128_27 hL) ?_
      refine E_iload_n dX12_setsOnBases_103 rfl ?_
      refine E_ialdL (v := yT (gat _ _)) dX12_setsOnBases_104 (l_150 hL) (k_150 hL) rfl (by first | omega | exact h.n256 _) (by decide) (h.at (by omega)).2.2.2.2.2.1 ?_
      refine E_iconst (v := nI 1) dX12_setsOnBases_105 (by decide) ?_
      refine E_isub dX12_setsOnBases_106 ?_
      refine E_goto (tgt := 116) dX12_setsOnBases_107 (by decide) ?_
      refine rest (by omega) _ ?_
      unfold bsT
      first | exact (cI_t c_96).symm | exact (cI_f c_96).symm
set_option maxRecDepth 100000 in
set_option maxHeartbeats 4000000 in
theorem t_X12_setsOnBases {g : gG} {M : gM} {Q : Option Value ⊕ String → gM → Prop} {c : Cf} {f : Nat} {M0 : gM} {L : List Gl} {w : Int32} {A : Pl} (hp : mP c f M0 L w A M) {l i q : Nat} (hl : l < 24) (hi : i < L.length) (hq : q ≤ i) (he : bsE c f L i = q) (K : ∀ M v3 v4 v5 v6 v7, mP c f M0 L w (bsS c f l L i A) M → E g 3 0 0 mX12_setsOnBases 214 [.ref 129, .int (nI l), .int (nI i), v3, v4, v5, v6, v7] [] M Q) : ∀ v4 v5 v6 v7, E g 3 0 0 mX12_setsOnBases 32 [.ref 129, .int (nI l), .int (nI i), .int (dI q), v4, v5, v6, v7] [] M Q := by
  have h := hp.1
  have hL := h.lay
  have hf := h.hf
  have hn := h.len
  intro v4 v5 v6 v7
  have hk8 := (h.wf.lk l).2.2.2.2.2
  have hmb := (h.wf.gl (256 * f + yN (gat L i))).1
  unfold bsS at K
  have no : ¬ bsG c f l L i → ∀ M v3 v4 v5 v6 v7, mP c f M0 L w A M → E g 3 0 0 mX12_setsOnBases 214 [.ref 129, .int (nI l), .int (nI i), v3, v4, v5, v6, v7] [] M Q := fun z => by rw [cI_f z] at K; exact K
  refine E_aload_n dX12_setsOnBases_32 rfl ?_
  refine E_iload_n dX12_setsOnBases_33 rfl ?_
  refine E_callV1 (fr' := 1) (k1 := 0) (n1 := 0) (k2 := 0) (n2 := 0) dX12_setsOnBases_34 kO_X12_markAt kL_X12_282 (l_128 hL) (k_128 hL) ⟨by decide, rfl⟩ rfl (by decide) (by decide) (by exact Nat.le_of_ble_eq_true rfl) rfl ?_
  refine sp_X12_markAt h (by omega) ?_
  refine gKv ?_
  refine E_if_lt_d (tgt := 62) dX12_setsOnBases_37 (by decide) (by omega) (fun c_37 => ?_) (fun c_37 => ?_)
  · have hng : ¬ bsG c f l L i := fun z => by
      have z1 := z.1; have z2 := z.2.1; have z3 := z.2.2
      unfold mkc at z1
      first | omega | exact z2.1 c_46 | exact c_55 z2.2
    refine E_iconst (v := nI 1) dX12_setsOnBases_62 (by decide) ?_
    refine E_goto (tgt := 67) dX12_setsOnBases_63 (by decide) ?_
    refine E_istore dX12_setsOnBases_67 (Nat.le_of_ble_eq_true rfl) (by decide) rfl ?_
    refine E_iconst (v := nI 0) dX12_setsOnBases_69 (by decide) ?_
    refine E_istore dX12_setsOnBases_70 (Nat.le_of_ble_eq_true rfl) (by decide) rfl ?_
    refine E_iload dX12_setsOnBases_72 rfl ?_
    refine E_aload_n dX12_setsOnBases_74 rfl ?_
    refine E_getRL dX12_setsOnBases_75 kF_X12_28 kY_12 (Or.inr ⟨_, rfl⟩) (l_128 hL) (k_128 hL) (r_128_8 hL) ?_
    refine E_iload_n dX12_setsOnBases_78 rfl ?_
    refine E_ialdL (v := nI (cN _ 135 _)) dX12_setsOnBases_79 (l_135 hL) (k_135 hL) rfl (by first | omega | exact h.n256 _) (by decide) (h.gc (Or.inl ⟨by decide, by decide, by decide⟩)) ?_
    refine E_icmp_ge_n (tgt := 214) dX12_setsOnBases_80 (by decide) (by omega) (by omega) (fun e_80 => ?_) (fun e_80 => ?_)
    · exact no hng _ _ _ _ _ _ hp
    · refine E_iload dX12_setsOnBases_83 rfl ?_
      refine E_if_ne (tgt := 214) dX12_setsOnBases_85 (by decide) (fun _ => ?_) (fun c0 => absurd (by decide) c0)
      exact no hng _ _ _ _ _ _ hp
  · refine E_aload_n dX12_setsOnBases_40 rfl ?_
    refine E_iload_n dX12_setsOnBases_41 rfl ?_
    refine E_iload_n dX12_setsOnBases_42 rfl ?_
    refine E_callV2 (fr' := 2) (k1 := 0) (n1 := 0) (k2 := 0) (n2 := 0) dX12_setsOnBases_43 kO_X12_skips kL_X12_285 (l_128 hL) (k_128 hL) ⟨by decide, rfl⟩ rfl rfl (by decide) (by decide) (by exact Nat.le_of_ble_eq_true rfl) rfl ?_
    refine sp_X12_skips h (by omega) (by omega) ?_
    refine gKv ?_
    refine E_if_ne_b (tgt := 62) dX12_setsOnBases_46 (by decide) (fun c_46 => ?_) (fun c_46 => ?_)
    · have hng : ¬ bsG c f l L i := fun z => by
        have z1 := z.1; have z2 := z.2.1; have z3 := z.2.2
        unfold mkc at z1
        first | omega | exact z2.1 c_46 | exact c_55 z2.2
      refine E_iconst (v := nI 1) dX12_setsOnBases_62 (by decide) ?_
      refine E_goto (tgt := 67) dX12_setsOnBases_63 (by decide) ?_
      refine E_istore dX12_setsOnBases_67 (Nat.le_of_ble_eq_true rfl) (by decide) rfl ?_
      refine E_iconst (v := nI 0) dX12_setsOnBases_69 (by decide) ?_
      refine E_istore dX12_setsOnBases_70 (Nat.le_of_ble_eq_true rfl) (by decide) rfl ?_
      refine E_iload dX12_setsOnBases_72 rfl ?_
      refine E_aload_n dX12_setsOnBases_74 rfl ?_
      refine E_getRL dX12_setsOnBases_75 kF_X12_28 kY_12 (Or.inr ⟨_, rfl⟩) (l_128 hL) (k_128 hL) (r_128_8 hL) ?_
      refine E_iload_n dX12_setsOnBases_78 rfl ?_
      refine E_ialdL (v := nI (cN _ 135 _)) dX12_setsOnBases_79 (l_135 hL) (k_135 hL) rfl (by first | omega | exact h.n256 _) (by decide) (h.gc (Or.inl ⟨by decide, by decide, by decide⟩)) ?_
      refine E_icmp_ge_n (tgt := 214) dX12_setsOnBases_80 (by decide) (by omega) (by omega) (fun e_80 => ?_) (fun e_80 => ?_)
      · exact no hng _ _ _ _ _ _ hp
      · refine E_iload dX12_setsOnBases_83 rfl ?_
        refine E_if_ne (tgt := 214) dX12_setsOnBases_85 (by decide) (fun _ => ?_) (fun c0 => absurd (by decide) c0)
        exact no hng _ _ _ _ _ _ hp
    · refine E_aload_n dX12_setsOnBases_49 rfl ?_
      refine E_iload_n dX12_setsOnBases_50 rfl ?_
      refine E_iload_n dX12_setsOnBases_51 rfl ?_
      refine E_callV2 (fr' := 1) (k1 := 0) (n1 := 0) (k2 := 0) (n2 := 0) dX12_setsOnBases_52 kO_X12_has kL_X12_344 (l_128 hL) (k_128 hL) ⟨by decide, rfl⟩ rfl rfl (by decide) (by decide) (by exact Nat.le_of_ble_eq_true rfl) rfl ?_
      refine sp_X12_has h (by omega) (by omega) ?_
      refine gKv ?_
      refine E_if_eq_b (tgt := 62) dX12_setsOnBases_55 (by decide) (fun c_55 => ?_) (fun c_55 => ?_)
      · have hng : ¬ bsG c f l L i := fun z => by
          have z1 := z.1; have z2 := z.2.1; have z3 := z.2.2
          unfold mkc at z1
          first | omega | exact z2.1 c_46 | exact c_55 z2.2
        refine E_iconst (v := nI 1) dX12_setsOnBases_62 (by decide) ?_
        refine E_goto (tgt := 67) dX12_setsOnBases_63 (by decide) ?_
        refine E_istore dX12_setsOnBases_67 (Nat.le_of_ble_eq_true rfl) (by decide) rfl ?_
        refine E_iconst (v := nI 0) dX12_setsOnBases_69 (by decide) ?_
        refine E_istore dX12_setsOnBases_70 (Nat.le_of_ble_eq_true rfl) (by decide) rfl ?_
        refine E_iload dX12_setsOnBases_72 rfl ?_
        refine E_aload_n dX12_setsOnBases_74 rfl ?_
        refine E_getRL dX12_setsOnBases_75 kF_X12_28 kY_12 (Or.inr ⟨_, rfl⟩) (l_128 hL) (k_128 hL) (r_128_8 hL) ?_
        refine E_iload_n dX12_setsOnBases_78 rfl ?_
        refine E_ialdL (v := nI (cN _ 135 _)) dX12_setsOnBases_79 (l_135 hL) (k_135 hL) rfl (by first | omega | exact h.n256 _) (by decide) (h.gc (Or.inl ⟨by decide, by decide, by decide⟩)) ?_
        refine E_icmp_ge_n (tgt := 214) dX12_setsOnBases_80 (by decide) (by omega) (by omega) (fun e_80 => ?_) (fun e_80 => ?_)
        · exact no hng _ _ _ _ _ _ hp
        · refine E_iload dX12_setsOnBases_83 rfl ?_
          refine E_if_ne (tgt := 214) dX12_setsOnBases_85 (by decide) (fun _ => ?_) (fun c0 => absurd (by decide) c0)
          exact no hng _ _ _ _ _ _ hp
      · refine E_iload_n dX12_setsOnBases_58 rfl ?_
        refine E_if_ge_d (tgt := 66) dX12_setsOnBases_59 (by decide) (by omega) (fun c_59 => ?_) (fun c_59 => ?_)
        · obtain ⟨q, rfl⟩ : ∃ z, q = z + 1 := ⟨q - 1, by omega⟩
          rw [dI_succ]
          rw [cI_t ⟨by unfold mkc; omega, ⟨c_46, c_55⟩, by omega⟩, he, Nat.add_sub_cancel] at K
          refine E_iconst (v := nI 0) dX12_setsOnBases_66 (by decide) ?_
          refine E_istore dX12_setsOnBases_67 (Nat.le_of_ble_eq_true rfl) (by decide) rfl ?_
          refine E_iconst (v := nI 0) dX12_setsOnBases_69 (by decide) ?_
          refine E_istore dX12_setsOnBases_70 (Nat.le_of_ble_eq_true rfl) (by decide) rfl ?_
          exact lp1_X12_setsOnBases hp hl hi (by omega) (by unfold mkc; omega) K 0 (Nat.zero_le _) rfl _ _
        · have hng : ¬ bsG c f l L i := fun z => by
            have z1 := z.1; have z2 := z.2.1; have z3 := z.2.2
            unfold mkc at z1
            first | omega | exact z2.1 c_46 | exact c_55 z2.2
          refine E_iconst (v := nI 1) dX12_setsOnBases_62 (by decide) ?_
          refine E_goto (tgt := 67) dX12_setsOnBases_63 (by decide) ?_
          refine E_istore dX12_setsOnBases_67 (Nat.le_of_ble_eq_true rfl) (by decide) rfl ?_
          refine E_iconst (v := nI 0) dX12_setsOnBases_69 (by decide) ?_
          refine E_istore dX12_setsOnBases_70 (Nat.le_of_ble_eq_true rfl) (by decide) rfl ?_
          refine E_iload dX12_setsOnBases_72 rfl ?_
          refine E_aload_n dX12_setsOnBases_74 rfl ?_
          refine E_getRL dX12_setsOnBases_75 kF_X12_28 kY_12 (Or.inr ⟨_, rfl⟩) (l_128 hL) (k_128 hL) (r_128_8 hL) ?_
          refine E_iload_n dX12_setsOnBases_78 rfl ?_
          refine E_ialdL (v := nI (cN _ 135 _)) dX12_setsOnBases_79 (l_135 hL) (k_135 hL) rfl (by first | omega | exact h.n256 _) (by decide) (h.gc (Or.inl ⟨by decide, by decide, by decide⟩)) ?_
          refine E_icmp_ge_n (tgt := 214) dX12_setsOnBases_80 (by decide) (by omega) (by omega) (fun e_80 => ?_) (fun e_80 => ?_)
          · exact no hng _ _ _ _ _ _ hp
          · refine E_iload dX12_setsOnBases_83 rfl ?_
            refine E_if_ne (tgt := 214) dX12_setsOnBases_85 (by decide) (fun _ => ?_) (fun c0 => absurd (by decide) c0)
            exact no hng _ _ _ _ _ _ hp
set_option maxRecDepth 100000 in
set_option maxHeartbeats 4000000 in
theorem lpb_X12_setsOnBases {g : gG} {M : gM} {Q : Option Value ⊕ String → gM → Prop} {c : Cf} {f : Nat} {M0 : gM} {L : List Gl} {w : Int32} {A : Pl} (hp : mP c f M0 L w A M) {l i : Nat} (hl : l < 24) (hi : i < L.length) (K : ∀ M v3 v4 v5 v6 v7, mP c f M0 L w (bsS c f l L i A) M → E g 3 0 0 mX12_setsOnBases 214 [.ref 129, .int (nI l), .int (nI i), v3, v4, v5, v6, v7] [] M Q) : ∀ q, 0 ≤ q → q ≤ i → rfd (fun k => ¬ 0 < mkc c f (gat L k)) q = bsE c f L i → ∀ v4 v5 v6 v7, E g 3 0 0 mX12_setsOnBases 14 [.ref 129, .int (nI l), .int (nI i), .int (dI q), v4, v5, v6, v7] [] M Q := by
  have h := hp.1
  have hL := h.lay
  have hf := h.hf
  have hn := h.len
  refine lpDn 0 (fun q _ ih => ?_)
  intro hq he v4 v5 v6 v7
  refine E_iload_n dX12_setsOnBases_14 rfl ?_
  refine E_if_lt_d (tgt := 32) dX12_setsOnBases_15 (by decide) (by omega) (fun c_15 => ?_) (fun c_15 => ?_)
  · subst c_15
    exact t_X12_setsOnBases hp hl hi (Nat.zero_le _) he.symm K _ _ _ _
  · obtain ⟨q, rfl⟩ : ∃ z, q = z + 1 := ⟨q - 1, by omega⟩
    rw [dI_succ]
    have hmb := (h.wf.gl (256 * f + yN (gat L q))).1
    refine E_aload_n dX12_setsOnBases_18 rfl ?_
    refine E_iload_n dX12_setsOnBases_19 rfl ?_
    refine E_callV1 (fr' := 1) (k1 := 0) (n1 := 0) (k2 := 0) (n2 := 0) dX12_setsOnBases_20 kO_X12_markAt kL_X12_282 (l_128 hL) (k_128 hL) ⟨by decide, rfl⟩ rfl (by decide) (by decide) (by exact Nat.le_of_ble_eq_true rfl) rfl ?_
    refine sp_X12_markAt h (by omega) ?_
    refine gKv ?_
    refine E_if_lt_d (tgt := 32) dX12_setsOnBases_23 (by decide) (by omega) (fun c_23 => ?_) (fun c_23 => ?_)
    · have z := t_X12_setsOnBases (g := g) (Q := Q) hp hl hi hq (by rw [← he]; exact rfd_t (by unfold mkc; omega)) K v4 v5 v6 v7
      rw [dI_succ] at z
      exact z
    · refine E_iinc_d dX12_setsOnBases_26 rfl rfl (by decide) rfl ?_
      refine E_goto (tgt := 14) dX12_setsOnBases_29 (by decide) ?_
      exact ih (by omega) (by omega) (by rw [← he]; exact (rfd_f (P := (fun k => ¬ 0 < mkc c f (gat L k))) (k := q) (fun z => z (by unfold mkc; omega))).symm) _ _ _ _
set_option maxRecDepth 100000 in
set_option maxHeartbeats 4000000 in
theorem lp_X12_setsOnBases {g : gG} {Q : Option Value ⊕ String → gM → Prop} {c : Cf} {f : Nat} {M0 : gM} {L : List Gl} {w : Int32} {l : Nat} {A : Pl} (hl : l < 24) (K : ∀ M, mP c f M0 L w (bss c f l L L.length A) M → Q (.inl none) M) : ∀ i, i ≤ L.length → ∀ M, mP c f M0 L w (bss c f l L i A) M → ∀ v3 v4 v5 v6 v7, E g 3 0 0 mX12_setsOnBases 2 [.ref 129, .int (nI l), .int (nI i), v3, v4, v5, v6, v7] [] M Q := by
  refine lpUp L.length (fun i hi ih => ?_)
  intro M hp v3 v4 v5 v6 v7
  have h := hp.1
  have hL := h.lay
  have hf := h.hf
  have hn := h.len
  refine E_iload_n dX12_setsOnBases_2 rfl ?_
  refine E_aload_n dX12_setsOnBases_3 rfl ?_
  refine E_getIL (v := nI _) dX12_setsOnBases_4 kF_X12_235 kY_12 (Or.inl rfl) (l_128 hL) (k_128 hL) h.gn ?_
  refine E_icmp_ge_n (tgt := 220) dX12_setsOnBases_7 (by decide) (by omega) (by omega) (fun c_7 => ?_) (fun c_7 => ?_)
  · refine E_vret dX12_setsOnBases_220 rfl ?_
    obtain rfl : i = L.length := by omega
    exact K _ hp
  · refine E_iload_n dX12_setsOnBases_10 rfl ?_
    refine E_iconst (v := nI 1) dX12_setsOnBases_11 (by decide) ?_
    refine E_isub_d dX12_setsOnBases_12 ?_
    refine E_istore_n dX12_setsOnBases_13 (Nat.le_of_ble_eq_true rfl) (by decide) rfl ?_
    refine lpb_X12_setsOnBases hp hl (by omega) (fun M v3 v4 v5 v6 v7 hp => ?_) i (Nat.zero_le _) (Nat.le_refl _) rfl _ _ _ _
    have h := hp.1
    have hL := h.lay
    refine E_iinc_n (d := 1) dX12_setsOnBases_214 rfl rfl rfl (by decide) rfl ?_
    refine E_goto (tgt := 2) dX12_setsOnBases_217 (by decide) ?_
    exact ih (by omega) _ hp _ _ _ _ _
set_option maxRecDepth 100000 in
set_option maxHeartbeats 4000000 in
theorem sp_X12_setsOnBases {g : gG} {M : gM} {Q : Option Value ⊕ String → gM → Prop} {c : Cf} {f : Nat} {M0 : gM} {L : List Gl} {w : Int32} {A : Pl} (hp : mP c f M0 L w A M) {l : Nat} (hl : l < 24) (K : ∀ M, mP c f M0 L w (bss c f l L L.length A) M → Q (.inl none) M) : E g 3 0 0 mX12_setsOnBases 0 [.ref 129, .int (nI l), .null, .null, .null, .null, .null, .null] [] M Q := by
  have h := hp.1
  have hL := h.lay
  have hf := h.hf
  have hn := h.len
  refine E_iconst (v := nI 0) dX12_setsOnBases_0 (by decide) ?_
  refine E_istore_n dX12_setsOnBases_1 (Nat.le_of_ble_eq_true rfl) (by decide) rfl ?_
  exact lp_X12_setsOnBases hl K 0 (Nat.zero_le _) M hp _ _ _ _ _
def mkP (c : Cf) (f l : Nat) (L : List Gl) (i b k : Nat) : Prop := isAt c f (rul c l k 0) (yN (gat L b)) ∧ rul c l k 1 = dI (mkc c f (gat L i))
noncomputable def mkA (c : Cf) (f l : Nat) (L : List Gl) (i b : Nat) : Nat := fnd (mkP c f l L i b) (cN c 135 l) 0
def mkG (c : Cf) (f l : Nat) (L : List Gl) (i : Nat) : Prop := 0 < mkc c f (gat L i) ∧ goP c f L l i ∧ 0 < ahd c f l L i ∧ 0 < mkc c f (gat L (ahd c f l L i - 1))
noncomputable def mkU (c : Cf) (f l : Nat) (L : List Gl) (i b : Nat) (A : Pl) : Pl := cI (mkA c f l L i b < cN c 135 l) (set3 A i (nI b) (rul c l (mkA c f l L i b) 2) (rul c l (mkA c f l L i b) 3)) A
noncomputable def mkS (c : Cf) (f l : Nat) (L : List Gl) (i : Nat) (A : Pl) : Pl := cI (mkG c f l L i) (mkU c f l L i (ahd c f l L i - 1) A) A
noncomputable def mks (c : Cf) (f l : Nat) (L : List Gl) : Nat → Pl → Pl
  | 0, A => A
  | k + 1, A => mkS c f l L k (mks c f l L k A)
set_option maxRecDepth 100000 in
set_option maxHeartbeats 4000000 in
theorem lp1_X12_setsOnMarks {g : gG} {M : gM} {Q : Option Value ⊕ String → gM → Prop} {c : Cf} {f : Nat} {M0 : gM} {L : List Gl} {w : Int32} {A : Pl} (hp : mP c f M0 L w A M) {l i b : Nat} (hl : l < 24) (hi : i < L.length) (hbi : b < i) (K : ∀ M v3 v4 v5, mP c f M0 L w (mkU c f l L i b A) M → E g 4 0 0 mX12_setsOnMarks 153 [.ref 129, .int (nI l), .int (nI i), v3, v4, v5] [] M Q) : ∀ k, k ≤ cN c 135 l → fnd (mkP c f l L i b) (cN c 135 l) k = mkA c f l L i b → E g 4 0 0 mX12_setsOnMarks 65 [.ref 129, .int (nI l), .int (nI i), .int (nI b), .int (nI 0), .int (nI k)] [] M Q := by
  have h := hp.1
  have hL := h.lay
  have hf := h.hf
  have hn := h.len
  have hk8 := (h.wf.lk l).2.2.2.2.2
  have hmb := (h.wf.gl (256 * f + yN (gat L i))).1
  refine lpUp (cN c 135 l) (fun k hk ih => ?_)
  intro he
  refine E_iload dX12_setsOnMarks_65 rfl ?_
  refine E_aload_n dX12_setsOnMarks_67 rfl ?_
  refine E_getRL dX12_setsOnMarks_68 kF_X12_28 kY_12 (Or.inr ⟨_, rfl⟩) (l_128 hL) (k_128 hL) (r_128_8 hL) ?_
  refine E_iload_n dX12_setsOnMarks_71 rfl ?_
  refine E_ialdL (v := nI (cN _ 135 _)) dX12_setsOnMarks_72 (l_135 hL) (k_135 hL) rfl (by first | omega | exact h.n256 _) (by decide) (h.gc (Or.inl ⟨by decide, by decide, by decide⟩)) ?_
  refine E_icmp_ge_n (tgt := 153) dX12_setsOnMarks_73 (by decide) (by omega) (by omega) (fun c_73 => ?_) (fun c_73 => ?_)
  · unfold mkU at K
    rw [cI_f (by rw [← he, fnd_end (by omega)]; omega)] at K
    exact K _ _ _ _ hp
  · refine E_iload dX12_setsOnMarks_76 rfl ?_
    refine E_if_ne (tgt := 153) dX12_setsOnMarks_78 (by decide) (fun c0 => absurd c0 (by decide)) (fun _ => ?_)
    refine E_aload_n dX12_setsOnMarks_81 rfl ?_
    refine E_aload_n dX12_setsOnMarks_82 rfl ?_
    refine E_iload_n dX12_setsOnMarks_83 rfl ?_
    refine E_iload dX12_setsOnMarks_84 rfl ?_
    refine E_iconst (v := nI 0) dX12_setsOnMarks_86 (by decide) ?_
    refine E_callV3 (fr' := 1) (k1 := 0) (n1 := 0) (k2 := 0) (n2 := 0) dX12_setsOnMarks_87 kO_X12_numberOf kL_X12_306 (l_128 hL) (k_128 hL) ⟨by decide, rfl⟩ rfl rfl rfl (by decide) (by decide) (by exact Nat.le_of_ble_eq_true rfl) rfl ?_
    refine sp_X12_numberOf h (by omega) (by omega) (by decide) ?_
    refine gKv ?_
    refine E_iload_n dX12_setsOnMarks_90 rfl ?_
    refine E_callV2 (fr' := 2) (k1 := 0) (n1 := 0) (k2 := 0) (n2 := 0) dX12_setsOnMarks_91 kO_X12_is kL_X12_288 (l_128 hL) (k_128 hL) ⟨by decide, rfl⟩ rfl rfl (by decide) (by decide) (by exact Nat.le_of_ble_eq_true rfl) rfl ?_
    refine sp_X12_is h (by omega) ?_
    refine gKv ?_
    refine E_if_eq_b (tgt := 117) dX12_setsOnMarks_94 (by decide) (fun c_94 => ?_) (fun c_94 => ?_)
    · refine E_iconst (v := nI 0) dX12_setsOnMarks_117 (by decide) ?_
      refine E_istore dX12_setsOnMarks_118 (Nat.le_of_ble_eq_true rfl) (by decide) rfl ?_
      refine E_iload dX12_setsOnMarks_120 rfl ?_
      refine E_if_eq (tgt := 147) dX12_setsOnMarks_122 (by decide) (fun _ => ?_) (fun c0 => absurd (by decide) c0)
      refine E_iinc_n (d := 1) dX12_setsOnMarks_147 rfl rfl rfl (by decide) rfl ?_
      refine E_goto (tgt := 65) dX12_setsOnMarks_150 (by decide) ?_
      exact ih (by omega) (by rw [← he]; exact (fnd_skip (by omega) (fun q => by first | exact c_94 q.1 | exact c_110 q.2)).symm)
    · refine E_aload_n dX12_setsOnMarks_97 rfl ?_
      refine E_iload_n dX12_setsOnMarks_98 rfl ?_
      refine E_iload dX12_setsOnMarks_99 rfl ?_
      refine E_iconst (v := nI 1) dX12_setsOnMarks_101 (by decide) ?_
      refine E_callV3 (fr' := 1) (k1 := 0) (n1 := 0) (k2 := 0) (n2 := 0) dX12_setsOnMarks_102 kO_X12_numberOf kL_X12_306 (l_128 hL) (k_128 hL) ⟨by decide, rfl⟩ rfl rfl rfl (by decide) (by decide) (by exact Nat.le_of_ble_eq_true rfl) rfl ?_
      refine sp_X12_numberOf h (by omega) (by omega) (by decide) ?_
      refine gKv ?_
      refine E_aload_n dX12_setsOnMarks_105 rfl ?_
      refine E_iload_n dX12_setsOnMarks_106 rfl ?_
      refine E_callV1 (fr' := 1) (k1 := 0) (n1 := 0) (k2 := 0) (n2 := 0) dX12_setsOnMarks_107 kO_X12_markAt kL_X12_282 (l_128 hL) (k_128 hL) ⟨by decide, rfl⟩ rfl (by decide) (by decide) (by exact Nat.le_of_ble_eq_true rfl) rfl ?_
      refine sp_X12_markAt h (by omega) ?_
      refine gKv ?_
      refine E_icmp_ne_r (tgt := 117) dX12_setsOnMarks_110 (by decide) (fun c_110 => ?_) (fun c_110 => ?_)
      · refine E_iconst (v := nI 0) dX12_setsOnMarks_117 (by decide) ?_
        refine E_istore dX12_setsOnMarks_118 (Nat.le_of_ble_eq_true rfl) (by decide) rfl ?_
        refine E_iload dX12_setsOnMarks_120 rfl ?_
        refine E_if_eq (tgt := 147) dX12_setsOnMarks_122 (by decide) (fun _ => ?_) (fun c0 => absurd (by decide) c0)
        refine E_iinc_n (d := 1) dX12_setsOnMarks_147 rfl rfl rfl (by decide) rfl ?_
        refine E_goto (tgt := 65) dX12_setsOnMarks_150 (by decide) ?_
        exact ih (by omega) (by rw [← he]; exact (fnd_skip (by omega) (fun q => by first | exact c_94 q.1 | exact c_110 q.2)).symm)
      · have hP : mkP c f l L i b k := ⟨c_94, c_110⟩
        have hea : mkA c f l L i b = k := by rw [← he]; exact fnd_hit (by omega) hP
        unfold mkU at K
        rw [cI_t (by omega), hea] at K
        refine E_iconst (v := nI 1) dX12_setsOnMarks_113 (by decide) ?_
        refine E_goto (tgt := 118) dX12_setsOnMarks_114 (by decide) ?_
        refine E_istore dX12_setsOnMarks_118 (Nat.le_of_ble_eq_true rfl) (by decide) rfl ?_
        refine E_iload dX12_setsOnMarks_120 rfl ?_
        refine E_if_eq (tgt := 147) dX12_setsOnMarks_122 (by decide) (fun c0 => absurd c0 (by decide)) (fun _ => ?_)
        refine E_aload_n dX12_setsOnMarks_125 rfl ?_
        refine E_iload_n dX12_setsOnMarks_126 rfl ?_
        refine E_iload_n dX12_setsOnMarks_127 rfl ?_
        refine E_aload_n dX12_setsOnMarks_128 rfl ?_
        refine E_iload_n dX12_setsOnMarks_129 rfl ?_
        refine E_iload dX12_setsOnMarks_130 rfl ?_
        refine E_iconst (v := nI 2) dX12_setsOnMarks_132 (by decide) ?_
        refine E_callV3 (fr' := 1) (k1 := 0) (n1 := 0) (k2 := 0) (n2 := 0) dX12_setsOnMarks_133 kO_X12_numberOf kL_X12_306 (l_128 hL) (k_128 hL) ⟨by decide, rfl⟩ rfl rfl rfl (by decide) (by decide) (by exact Nat.le_of_ble_eq_true rfl) rfl ?_
        refine sp_X12_numberOf h (by omega) (by omega) (by decide) ?_
        refine gKv ?_
        refine E_aload_n dX12_setsOnMarks_136 rfl ?_
        refine E_iload_n dX12_setsOnMarks_137 rfl ?_
        refine E_iload dX12_setsOnMarks_138 rfl ?_
        refine E_iconst (v := nI 3) dX12_setsOnMarks_140 (by decide) ?_
        refine E_callV3 (fr' := 1) (k1 := 0) (n1 := 0) (k2 := 0) (n2 := 0) dX12_setsOnMarks_141 kO_X12_numberOf kL_X12_306 (l_128 hL) (k_128 hL) ⟨by decide, rfl⟩ rfl rfl rfl (by decide) (by decide) (by exact Nat.le_of_ble_eq_true rfl) rfl ?_
        refine sp_X12_numberOf h (by omega) (by omega) (by decide) ?_
        refine gKv ?_
        refine E_callV4 (fr' := 1) (k1 := 0) (n1 := 0) (k2 := 0) (n2 := 0) dX12_setsOnMarks_144 kO_X12_sets kL_X12_365 (l_128 hL) (k_128 hL) ⟨by decide, rfl⟩ rfl rfl rfl rfl (by decide) (by decide) (by exact Nat.le_of_ble_eq_true rfl) rfl ?_
        refine sp_X12_sets (i := i) hL (by omega) ?_
        have hp := hp.s3 i (nI b) (rul c l k 2) (rul c l k 3)
        have h := hp.1
        have hL := h.lay
        refine gKn ?_
        refine E_iinc_n (d := 1) dX12_setsOnMarks_147 rfl rfl rfl (by decide) rfl ?_
        refine E_goto (tgt := 65) dX12_setsOnMarks_150 (by decide) ?_
        refine E_iload dX12_setsOnMarks_65 rfl ?_
        refine E_aload_n dX12_setsOnMarks_67 rfl ?_
        refine E_getRL dX12_setsOnMarks_68 kF_X12_28 kY_12 (Or.inr ⟨_, rfl⟩) (l_128 hL) (k_128 hL) (r_128_8 hL) ?_
        refine E_iload_n dX12_setsOnMarks_71 rfl ?_
        refine E_ialdL (v := nI (cN _ 135 _)) dX12_setsOnMarks_72 (l_135 hL) (k_135 hL) rfl (by first | omega | exact h.n256 _) (by decide) (h.gc (Or.inl ⟨by decide, by decide, by decide⟩)) ?_
        refine E_icmp_ge_n (tgt := 153) dX12_setsOnMarks_73 (by decide) (by omega) (by omega) (fun e_73 => ?_) (fun e_73 => ?_)
        · exact K _ _ _ _ hp
        · refine E_iload dX12_setsOnMarks_76 rfl ?_
          refine E_if_ne (tgt := 153) dX12_setsOnMarks_78 (by decide) (fun _ => ?_) (fun c0 => absurd (by decide) c0)
          exact K _ _ _ _ hp
set_option maxRecDepth 100000 in
set_option maxHeartbeats 4000000 in
theorem st_X12_setsOnMarks {g : gG} {M : gM} {Q : Option Value ⊕ String → gM → Prop} {c : Cf} {f : Nat} {M0 : gM} {L : List Gl} {w : Int32} {A : Pl} (hp : mP c f M0 L w A M) {l i : Nat} (hl : l < 24) (hi : i < L.length) (K : ∀ M v3 v4 v5, mP c f M0 L w (mkS c f l L i A) M → E g 4 0 0 mX12_setsOnMarks 153 [.ref 129, .int (nI l), .int (nI i), v3, v4, v5] [] M Q) : ∀ v3 v4 v5, E g 4 0 0 mX12_setsOnMarks 10 [.ref 129, .int (nI l), .int (nI i), v3, v4, v5] [] M Q := by
  have h := hp.1
  have hL := h.lay
  have hf := h.hf
  have hn := h.len
  intro v3 v4 v5
  have hk8 := (h.wf.lk l).2.2.2.2.2
  have hmb := (h.wf.gl (256 * f + yN (gat L i))).1
  have ha : ahd c f l L i ≤ i := rfd_le (P := fun k => ¬ skp c f l (yN (gat L k))) i
  unfold mkS at K
  have no : ¬ mkG c f l L i → ∀ M v3 v4 v5, mP c f M0 L w A M → E g 4 0 0 mX12_setsOnMarks 153 [.ref 129, .int (nI l), .int (nI i), v3, v4, v5] [] M Q := fun z => by rw [cI_f z] at K; exact K
  refine E_aload_n dX12_setsOnMarks_10 rfl ?_
  refine E_iload_n dX12_setsOnMarks_11 rfl ?_
  refine E_iload_n dX12_setsOnMarks_12 rfl ?_
  refine E_callV2 (fr' := 3) (k1 := 0) (n1 := 0) (k2 := 0) (n2 := 0) dX12_setsOnMarks_13 kO_X12_ahead kL_X12_335 (l_128 hL) (k_128 hL) ⟨by decide, rfl⟩ rfl rfl (by decide) (by decide) (by exact Nat.le_of_ble_eq_true rfl) rfl ?_
  refine sp_X12_ahead h (by omega) (by omega) ?_
  refine gKv ?_
  refine E_istore_n dX12_setsOnMarks_16 (Nat.le_of_ble_eq_true rfl) (by decide) rfl ?_
  refine E_aload_n dX12_setsOnMarks_17 rfl ?_
  refine E_iload_n dX12_setsOnMarks_18 rfl ?_
  refine E_callV1 (fr' := 1) (k1 := 0) (n1 := 0) (k2 := 0) (n2 := 0) dX12_setsOnMarks_19 kO_X12_markAt kL_X12_282 (l_128 hL) (k_128 hL) ⟨by decide, rfl⟩ rfl (by decide) (by decide) (by exact Nat.le_of_ble_eq_true rfl) rfl ?_
  refine sp_X12_markAt h (by omega) ?_
  refine gKv ?_
  refine E_if_lt_d (tgt := 55) dX12_setsOnMarks_22 (by decide) (by omega) (fun c_22 => ?_) (fun c_22 => ?_)
  · have hng : ¬ mkG c f l L i := fun z => by
      have z1 := z.1; have z2 := z.2.1; have z3 := z.2.2.1
      unfold mkc at z1
      first | omega | exact z2.1 c_31 | exact c_40 z2.2
    refine E_iconst (v := nI 1) dX12_setsOnMarks_55 (by decide) ?_
    refine E_goto (tgt := 60) dX12_setsOnMarks_56 (by decide) ?_
    refine E_istore dX12_setsOnMarks_60 (Nat.le_of_ble_eq_true rfl) (by decide) rfl ?_
    refine E_iconst (v := nI 0) dX12_setsOnMarks_62 (by decide) ?_
    refine E_istore dX12_setsOnMarks_63 (Nat.le_of_ble_eq_true rfl) (by decide) rfl ?_
    refine E_iload dX12_setsOnMarks_65 rfl ?_
    refine E_aload_n dX12_setsOnMarks_67 rfl ?_
    refine E_getRL dX12_setsOnMarks_68 kF_X12_28 kY_12 (Or.inr ⟨_, rfl⟩) (l_128 hL) (k_128 hL) (r_128_8 hL) ?_
    refine E_iload_n dX12_setsOnMarks_71 rfl ?_
    refine E_ialdL (v := nI (cN _ 135 _)) dX12_setsOnMarks_72 (l_135 hL) (k_135 hL) rfl (by first | omega | exact h.n256 _) (by decide) (h.gc (Or.inl ⟨by decide, by decide, by decide⟩)) ?_
    refine E_icmp_ge_n (tgt := 153) dX12_setsOnMarks_73 (by decide) (by omega) (by omega) (fun e_73 => ?_) (fun e_73 => ?_)
    · exact no hng _ _ _ _ hp
    · refine E_iload dX12_setsOnMarks_76 rfl ?_
      refine E_if_ne (tgt := 153) dX12_setsOnMarks_78 (by decide) (fun _ => ?_) (fun c0 => absurd (by decide) c0)
      exact no hng _ _ _ _ hp
  · refine E_aload_n dX12_setsOnMarks_25 rfl ?_
    refine E_iload_n dX12_setsOnMarks_26 rfl ?_
    refine E_iload_n dX12_setsOnMarks_27 rfl ?_
    refine E_callV2 (fr' := 2) (k1 := 0) (n1 := 0) (k2 := 0) (n2 := 0) dX12_setsOnMarks_28 kO_X12_skips kL_X12_285 (l_128 hL) (k_128 hL) ⟨by decide, rfl⟩ rfl rfl (by decide) (by decide) (by exact Nat.le_of_ble_eq_true rfl) rfl ?_
    refine sp_X12_skips h (by omega) (by omega) ?_
    refine gKv ?_
    refine E_if_ne_b (tgt := 55) dX12_setsOnMarks_31 (by decide) (fun c_31 => ?_) (fun c_31 => ?_)
    · have hng : ¬ mkG c f l L i := fun z => by
        have z1 := z.1; have z2 := z.2.1; have z3 := z.2.2.1
        unfold mkc at z1
        first | omega | exact z2.1 c_31 | exact c_40 z2.2
      refine E_iconst (v := nI 1) dX12_setsOnMarks_55 (by decide) ?_
      refine E_goto (tgt := 60) dX12_setsOnMarks_56 (by decide) ?_
      refine E_istore dX12_setsOnMarks_60 (Nat.le_of_ble_eq_true rfl) (by decide) rfl ?_
      refine E_iconst (v := nI 0) dX12_setsOnMarks_62 (by decide) ?_
      refine E_istore dX12_setsOnMarks_63 (Nat.le_of_ble_eq_true rfl) (by decide) rfl ?_
      refine E_iload dX12_setsOnMarks_65 rfl ?_
      refine E_aload_n dX12_setsOnMarks_67 rfl ?_
      refine E_getRL dX12_setsOnMarks_68 kF_X12_28 kY_12 (Or.inr ⟨_, rfl⟩) (l_128 hL) (k_128 hL) (r_128_8 hL) ?_
      refine E_iload_n dX12_setsOnMarks_71 rfl ?_
      refine E_ialdL (v := nI (cN _ 135 _)) dX12_setsOnMarks_72 (l_135 hL) (k_135 hL) rfl (by first | omega | exact h.n256 _) (by decide) (h.gc (Or.inl ⟨by decide, by decide, by decide⟩)) ?_
      refine E_icmp_ge_n (tgt := 153) dX12_setsOnMarks_73 (by decide) (by omega) (by omega) (fun e_73 => ?_) (fun e_73 => ?_)
      · exact no hng _ _ _ _ hp
      · refine E_iload dX12_setsOnMarks_76 rfl ?_
        refine E_if_ne (tgt := 153) dX12_setsOnMarks_78 (by decide) (fun _ => ?_) (fun c0 => absurd (by decide) c0)
        exact no hng _ _ _ _ hp
    · refine E_aload_n dX12_setsOnMarks_34 rfl ?_
      refine E_iload_n dX12_setsOnMarks_35 rfl ?_
      refine E_iload_n dX12_setsOnMarks_36 rfl ?_
      refine E_callV2 (fr' := 1) (k1 := 0) (n1 := 0) (k2 := 0) (n2 := 0) dX12_setsOnMarks_37 kO_X12_has kL_X12_344 (l_128 hL) (k_128 hL) ⟨by decide, rfl⟩ rfl rfl (by decide) (by decide) (by exact Nat.le_of_ble_eq_true rfl) rfl ?_
      refine sp_X12_has h (by omega) (by omega) ?_
      refine gKv ?_
      refine E_if_eq_b (tgt := 55) dX12_setsOnMarks_40 (by decide) (fun c_40 => ?_) (fun c_40 => ?_)
      · have hng : ¬ mkG c f l L i := fun z => by
          have z1 := z.1; have z2 := z.2.1; have z3 := z.2.2.1
          unfold mkc at z1
          first | omega | exact z2.1 c_31 | exact c_40 z2.2
        refine E_iconst (v := nI 1) dX12_setsOnMarks_55 (by decide) ?_
        refine E_goto (tgt := 60) dX12_setsOnMarks_56 (by decide) ?_
        refine E_istore dX12_setsOnMarks_60 (Nat.le_of_ble_eq_true rfl) (by decide) rfl ?_
        refine E_iconst (v := nI 0) dX12_setsOnMarks_62 (by decide) ?_
        refine E_istore dX12_setsOnMarks_63 (Nat.le_of_ble_eq_true rfl) (by decide) rfl ?_
        refine E_iload dX12_setsOnMarks_65 rfl ?_
        refine E_aload_n dX12_setsOnMarks_67 rfl ?_
        refine E_getRL dX12_setsOnMarks_68 kF_X12_28 kY_12 (Or.inr ⟨_, rfl⟩) (l_128 hL) (k_128 hL) (r_128_8 hL) ?_
        refine E_iload_n dX12_setsOnMarks_71 rfl ?_
        refine E_ialdL (v := nI (cN _ 135 _)) dX12_setsOnMarks_72 (l_135 hL) (k_135 hL) rfl (by first | omega | exact h.n256 _) (by decide) (h.gc (Or.inl ⟨by decide, by decide, by decide⟩)) ?_
        refine E_icmp_ge_n (tgt := 153) dX12_setsOnMarks_73 (by decide) (by omega) (by omega) (fun e_73 => ?_) (fun e_73 => ?_)
        · exact no hng _ _ _ _ hp
        · refine E_iload dX12_setsOnMarks_76 rfl ?_
          refine E_if_ne (tgt := 153) dX12_setsOnMarks_78 (by decide) (fun _ => ?_) (fun c0 => absurd (by decide) c0)
          exact no hng _ _ _ _ hp
      · refine E_iload_n dX12_setsOnMarks_43 rfl ?_
        refine E_if_lt_d (tgt := 55) dX12_setsOnMarks_44 (by decide) (by omega) (fun c_44 => ?_) (fun c_44 => ?_)
        · have hng : ¬ mkG c f l L i := fun z => by
            have z1 := z.1; have z2 := z.2.1; have z3 := z.2.2.1
            unfold mkc at z1
            first | omega | exact z2.1 c_31 | exact c_40 z2.2
          refine E_iconst (v := nI 1) dX12_setsOnMarks_55 (by decide) ?_
          refine E_goto (tgt := 60) dX12_setsOnMarks_56 (by decide) ?_
          refine E_istore dX12_setsOnMarks_60 (Nat.le_of_ble_eq_true rfl) (by decide) rfl ?_
          refine E_iconst (v := nI 0) dX12_setsOnMarks_62 (by decide) ?_
          refine E_istore dX12_setsOnMarks_63 (Nat.le_of_ble_eq_true rfl) (by decide) rfl ?_
          refine E_iload dX12_setsOnMarks_65 rfl ?_
          refine E_aload_n dX12_setsOnMarks_67 rfl ?_
          refine E_getRL dX12_setsOnMarks_68 kF_X12_28 kY_12 (Or.inr ⟨_, rfl⟩) (l_128 hL) (k_128 hL) (r_128_8 hL) ?_
          refine E_iload_n dX12_setsOnMarks_71 rfl ?_
          refine E_ialdL (v := nI (cN _ 135 _)) dX12_setsOnMarks_72 (l_135 hL) (k_135 hL) rfl (by first | omega | exact h.n256 _) (by decide) (h.gc (Or.inl ⟨by decide, by decide, by decide⟩)) ?_
          refine E_icmp_ge_n (tgt := 153) dX12_setsOnMarks_73 (by decide) (by omega) (by omega) (fun e_73 => ?_) (fun e_73 => ?_)
          · exact no hng _ _ _ _ hp
          · refine E_iload dX12_setsOnMarks_76 rfl ?_
            refine E_if_ne (tgt := 153) dX12_setsOnMarks_78 (by decide) (fun _ => ?_) (fun c0 => absurd (by decide) c0)
            exact no hng _ _ _ _ hp
        · obtain ⟨q, hq⟩ : ∃ z, ahd c f l L i = z + 1 := ⟨ahd c f l L i - 1, by omega⟩
          rw [hq, dI_succ]
          have hmq := (h.wf.gl (256 * f + yN (gat L q))).1
          refine E_aload_n dX12_setsOnMarks_47 rfl ?_
          refine E_iload_n dX12_setsOnMarks_48 rfl ?_
          refine E_callV1 (fr' := 1) (k1 := 0) (n1 := 0) (k2 := 0) (n2 := 0) dX12_setsOnMarks_49 kO_X12_markAt kL_X12_282 (l_128 hL) (k_128 hL) ⟨by decide, rfl⟩ rfl (by decide) (by decide) (by exact Nat.le_of_ble_eq_true rfl) rfl ?_
          refine sp_X12_markAt h (by omega) ?_
          refine gKv ?_
          refine E_if_ge_d (tgt := 59) dX12_setsOnMarks_52 (by decide) (by omega) (fun c_52 => ?_) (fun c_52 => ?_)
          · rw [cI_t ⟨by unfold mkc; omega, ⟨c_31, c_40⟩, by omega, by rw [hq, Nat.add_sub_cancel]; unfold mkc; omega⟩, hq, Nat.add_sub_cancel] at K
            refine E_iconst (v := nI 0) dX12_setsOnMarks_59 (by decide) ?_
            refine E_istore dX12_setsOnMarks_60 (Nat.le_of_ble_eq_true rfl) (by decide) rfl ?_
            refine E_iconst (v := nI 0) dX12_setsOnMarks_62 (by decide) ?_
            refine E_istore dX12_setsOnMarks_63 (Nat.le_of_ble_eq_true rfl) (by decide) rfl ?_
            exact lp1_X12_setsOnMarks hp hl hi (by omega) K 0 (Nat.zero_le _) rfl
          · have hng : ¬ mkG c f l L i := fun z => by
              have z4 := z.2.2.2
              rw [hq, Nat.add_sub_cancel] at z4
              unfold mkc at z4
              omega
            refine E_iconst (v := nI 1) dX12_setsOnMarks_55 (by decide) ?_
            refine E_goto (tgt := 60) dX12_setsOnMarks_56 (by decide) ?_
            refine E_istore dX12_setsOnMarks_60 (Nat.le_of_ble_eq_true rfl) (by decide) rfl ?_
            refine E_iconst (v := nI 0) dX12_setsOnMarks_62 (by decide) ?_
            refine E_istore dX12_setsOnMarks_63 (Nat.le_of_ble_eq_true rfl) (by decide) rfl ?_
            refine E_iload dX12_setsOnMarks_65 rfl ?_
            refine E_aload_n dX12_setsOnMarks_67 rfl ?_
            refine E_getRL dX12_setsOnMarks_68 kF_X12_28 kY_12 (Or.inr ⟨_, rfl⟩) (l_128 hL) (k_128 hL) (r_128_8 hL) ?_
            refine E_iload_n dX12_setsOnMarks_71 rfl ?_
            refine E_ialdL (v := nI (cN _ 135 _)) dX12_setsOnMarks_72 (l_135 hL) (k_135 hL) rfl (by first | omega | exact h.n256 _) (by decide) (h.gc (Or.inl ⟨by decide, by decide, by decide⟩)) ?_
            refine E_icmp_ge_n (tgt := 153) dX12_setsOnMarks_73 (by decide) (by omega) (by omega) (fun e_73 => ?_) (fun e_73 => ?_)
            · exact no hng _ _ _ _ hp
            · refine E_iload dX12_setsOnMarks_76 rfl ?_
              refine E_if_ne (tgt := 153) dX12_setsOnMarks_78 (by decide) (fun _ => ?_) (fun c0 => absurd (by decide) c0)
              exact no hng _ _ _ _ hp
set_option maxRecDepth 100000 in
set_option maxHeartbeats 4000000 in
theorem lp_X12_setsOnMarks {g : gG} {Q : Option Value ⊕ String → gM → Prop} {c : Cf} {f : Nat} {M0 : gM} {L : List Gl} {w : Int32} {l : Nat} {A : Pl} (hl : l < 24) (K : ∀ M, mP c f M0 L w (mks c f l L L.length A) M → Q (.inl none) M) : ∀ i, i ≤ L.length → ∀ M, mP c f M0 L w (mks c f l L i A) M → ∀ v3 v4 v5, E g 4 0 0 mX12_setsOnMarks 2 [.ref 129, .int (nI l), .int (nI i), v3, v4, v5] [] M Q := by
  refine lpUp L.length (fun i hi ih => ?_)
  intro M hp v3 v4 v5
  have h := hp.1
  have hL := h.lay
  have hf := h.hf
  have hn := h.len
  refine E_iload_n dX12_setsOnMarks_2 rfl ?_
  refine E_aload_n dX12_setsOnMarks_3 rfl ?_
  refine E_getIL (v := nI _) dX12_setsOnMarks_4 kF_X12_235 kY_12 (Or.inl rfl) (l_128 hL) (k_128 hL) h.gn ?_
  refine E_icmp_ge_n (tgt := 159) dX12_setsOnMarks_7 (by decide) (by omega) (by omega) (fun c_7 => ?_) (fun c_7 => ?_)
  · refine E_vret dX12_setsOnMarks_159 rfl ?_
    obtain rfl : i = L.length := by omega
    exact K _ hp
  · refine st_X12_setsOnMarks hp hl (by omega) (fun M v3 v4 v5 hp => ?_) _ _ _
    have h := hp.1
    have hL := h.lay
    refine E_iinc_n (d := 1) dX12_setsOnMarks_153 rfl rfl rfl (by decide) rfl ?_
    refine E_goto (tgt := 2) dX12_setsOnMarks_156 (by decide) ?_
    exact ih (by omega) _ hp _ _ _
set_option maxRecDepth 100000 in
set_option maxHeartbeats 4000000 in
theorem sp_X12_setsOnMarks {g : gG} {M : gM} {Q : Option Value ⊕ String → gM → Prop} {c : Cf} {f : Nat} {M0 : gM} {L : List Gl} {w : Int32} {A : Pl} (hp : mP c f M0 L w A M) {l : Nat} (hl : l < 24) (K : ∀ M, mP c f M0 L w (mks c f l L L.length A) M → Q (.inl none) M) : E g 4 0 0 mX12_setsOnMarks 0 [.ref 129, .int (nI l), .null, .null, .null, .null] [] M Q := by
  have h := hp.1
  have hL := h.lay
  have hf := h.hf
  have hn := h.len
  refine E_iconst (v := nI 0) dX12_setsOnMarks_0 (by decide) ?_
  refine E_istore_n dX12_setsOnMarks_1 (Nat.le_of_ble_eq_true rfl) (by decide) rfl ?_
  exact lp_X12_setsOnMarks hl K 0 (Nat.zero_le _) M hp _ _ _
def pl0 (c : Cf) (f : Nat) (L : List Gl) : Pl := fun q i => if q = 0 then nI (cN c 139 (256 * f + yN (gat L i))) else if q = 2 then -100 else nI 0
def pDue (c : Cf) (l : Nat) : Prop := cN c 133 l = 0 ∨ cN c 133 l = cN c 128 17
noncomputable def plK (c : Cf) (f l : Nat) (L : List Gl) (A : Pl) : Pl := cI (cN c 130 l = 6) (prs c f l L L.length 0 A) (cI (cN c 130 l = 7) (crv c f l L L.length A) (cI (cN c 130 l = 8) (bss c f l L L.length A) (cI (cN c 130 l = 9) (mks c f l L L.length A) A)))
noncomputable def plS (c : Cf) (f l : Nat) (L : List Gl) (A : Pl) : Pl := cI (pDue c l) (plK c f l L A) A
noncomputable def pla (c : Cf) (f : Nat) (L : List Gl) : Nat → Nat → Pl → Pl
  | 0, _, A => A
  | m + 1, l, A => pla c f L m (l + 1) (plS c f l L A)
noncomputable def plc (c : Cf) (f : Nat) (L : List Gl) : Pl := pla c f L (cN c 129 f) (12 * f) (pl0 c f L)
set_option maxRecDepth 100000 in
set_option maxHeartbeats 4000000 in
theorem lp0_X12_laysPlaces {g : gG} {Q : Option Value ⊕ String → gM → Prop} {c : Cf} {f : Nat} {M0 : gM} {L : List Gl} {w : Int32} (K : ∀ M v1, mP c f M0 L w (pl0 c f L) M → E g 5 0 0 mX12_laysPlaces 58 [.ref 129, v1] [] M Q) : ∀ i, i ≤ L.length → ∀ M, mX c f M0 L w M → (∀ q j, q < 5 → j < i → mI M (152 + q) j = pl0 c f L q j) → E g 5 0 0 mX12_laysPlaces 2 [.ref 129, .int (nI i)] [] M Q := by
  refine lpUp L.length (fun i hi ih => ?_)
  intro M h hA
  have hL := h.lay
  have hf := h.hf
  have hn := h.len
  refine E_iload_n dX12_laysPlaces_2 rfl ?_
  refine E_aload_n dX12_laysPlaces_3 rfl ?_
  refine E_getIL (v := nI _) dX12_laysPlaces_4 kF_X12_235 kY_12 (Or.inl rfl) (l_128 hL) (k_128 hL) h.gn ?_
  refine E_icmp_ge_n (tgt := 58) dX12_laysPlaces_7 (by decide) (by omega) (by omega) (fun c_7 => ?_) (fun c_7 => ?_)
  · obtain rfl : i = L.length := by omega
    exact K _ _ ⟨h, hA⟩
  · refine E_aload_n dX12_laysPlaces_10 rfl ?_
    refine E_getRL dX12_laysPlaces_11 kF_X12_84 kY_12 (Or.inr ⟨_, rfl⟩) (l_128 hL) (k_128 hL) (r_128_29 hL) ?_
    refine E_iload_n dX12_laysPlaces_14 rfl ?_
    refine E_aload_n dX12_laysPlaces_15 rfl ?_
    refine E_getRL dX12_laysPlaces_16 kF_X12_40 kY_12 (Or.inr ⟨_, rfl⟩) (l_128 hL) (k_128 hL) (r_128_12 hL) ?_
    refine E_sipush (v := nI 256) dX12_laysPlaces_19 (by decide) ?_
    refine E_aload_n dX12_laysPlaces_22 rfl ?_
    refine E_getIL (v := nI f) dX12_laysPlaces_23 kF_X12_279 kY_12 (Or.inl rfl) (l_128 hL) (k_128 hL) h.gf ?_
    refine E_imul_n dX12_laysPlaces_26 ?_
    refine E_aload_n dX12_laysPlaces_27 rfl ?_
    refine E_getRL dX12_laysPlaces_28 kF_X12_63 kY_12 (Or.inr ⟨_, rfl⟩) (l_128 hL) (k_128 hL) (r_128_22 hL) ?_
    refine E_iload_n dX12_laysPlaces_31 rfl ?_
    refine E_ialdL (v := nI (yN (gat _ _))) dX12_laysPlaces_32 (l_145 hL) (k_145 hL) rfl (by first | omega | exact h.n256 _) (by decide) (h.at (by omega)).1 ?_
    refine E_iadd_n dX12_laysPlaces_33 ?_
    refine E_ialdL (v := nI (cN _ 139 _)) dX12_laysPlaces_34 (l_139 hL) (k_139 hL) rfl (by first | omega | exact h.n256 _) (by decide) (h.gc (Or.inl ⟨by decide, by decide, by decide⟩)) ?_
    refine E_iast dX12_laysPlaces_35 (l_152 hL) (k_152 hL) rfl (by first | omega | exact h.n256 _) (by decide) ?_
    refine E_aload_n dX12_laysPlaces_36 rfl ?_
    refine E_getRL dX12_laysPlaces_37 kF_X12_87 kY_12 (Or.inr ⟨_, rfl⟩) (l_128 hL) (k_128 hL) (r_128_30 hL) ?_
    refine E_iload_n dX12_laysPlaces_40 rfl ?_
    refine E_iconst (v := nI 0) dX12_laysPlaces_41 (by decide) ?_
    refine E_iast dX12_laysPlaces_42 (l_153 hL) (k_153 hL) rfl (by first | omega | exact h.n256 _) (by decide) ?_
    refine E_aload_n dX12_laysPlaces_43 rfl ?_
    refine E_iload_n dX12_laysPlaces_44 rfl ?_
    refine E_bipush (v := -100) dX12_laysPlaces_45 (by decide) ?_
    refine E_iconst (v := nI 0) dX12_laysPlaces_47 (by decide) ?_
    refine E_iconst (v := nI 0) dX12_laysPlaces_48 (by decide) ?_
    refine E_callV4 (fr' := 1) (k1 := 0) (n1 := 0) (k2 := 0) (n2 := 0) dX12_laysPlaces_49 kO_X12_sets kL_X12_365 (l_128 hL) (k_128 hL) ⟨by decide, rfl⟩ rfl rfl rfl rfl (by decide) (by decide) (by exact Nat.le_of_ble_eq_true rfl) rfl ?_
    refine sp_X12_sets (i := i) ((h.wr (a := 152) (by decide)).wr (a := 153) (by decide)).lay (by omega) ?_
    refine gKn ?_
    have h2 := ((((h.wr (a := 152) (i := i) (v := nI (cN c 139 (256 * f + yN (gat L i)))) (by decide)).wr (a := 153) (i := i) (v := nI 0) (by decide)).wr (a := 154) (i := i) (v := -100) (by decide)).wr (a := 155) (i := i) (v := nI 0) (by decide)).wr (a := 156) (i := i) (v := nI 0) (by decide)
    have hA2 : ∀ q j, q < 5 → j < i + 1 → mI (sI (sI (sI (sI (sI M 152 i (nI (cN c 139 (256 * f + yN (gat L i))))) 153 i (nI 0)) 154 i (-100)) 155 i (nI 0)) 156 i (nI 0)) (152 + q) j = pl0 c f L q j := fun q j hq hj => by
      simp only [mI_sI]
      by_cases e : j = i
      · subst e
        unfold pl0
        rcases (show q = 0 ∨ q = 1 ∨ q = 2 ∨ q = 3 ∨ q = 4 by omega) with rfl | rfl | rfl | rfl | rfl <;> simp
      · rw [if_neg (by omega), if_neg (by omega), if_neg (by omega), if_neg (by omega), if_neg (by omega)]
        exact hA q j hq (by omega)
    clear h
    have h := h2
    have hL := h.lay
    refine E_iinc_n (d := 1) dX12_laysPlaces_52 rfl rfl rfl (by decide) rfl ?_
    refine E_goto (tgt := 2) dX12_laysPlaces_55 (by decide) ?_
    exact ih (by omega) _ h hA2
set_option maxRecDepth 100000 in
set_option maxHeartbeats 4000000 in
theorem lp_X12_laysPlaces {g : gG} {Q : Option Value ⊕ String → gM → Prop} {c : Cf} {f : Nat} {M0 : gM} {L : List Gl} {w : Int32} : ∀ m (l : Nat) (A : Pl) (M : gM), mP c f M0 L w A M → l + m = 12 * f + cN c 129 f → (K : ∀ M, mP c f M0 L w (pla c f L m l A) M → Q (.inl none) M) → E g 5 0 0 mX12_laysPlaces 66 [.ref 129, .int (nI l)] [] M Q := by
  intro m
  induction m with
  | zero =>
    intro l A M hp hm K
    have h := hp.1
    have hL := h.lay
    have hf := h.hf
    have hn := h.len
    have hc := h.wf.ct f
    refine E_iload_n dX12_laysPlaces_66 rfl ?_
    refine E_bipush (v := nI 12) dX12_laysPlaces_67 (by decide) ?_
    refine E_aload_n dX12_laysPlaces_69 rfl ?_
    refine E_getIL (v := nI f) dX12_laysPlaces_70 kF_X12_279 kY_12 (Or.inl rfl) (l_128 hL) (k_128 hL) h.gf ?_
    refine E_imul_n dX12_laysPlaces_73 ?_
    refine E_aload_n dX12_laysPlaces_74 rfl ?_
    refine E_getRL dX12_laysPlaces_75 kF_X12_7 kY_12 (Or.inr ⟨_, rfl⟩) (l_128 hL) (k_128 hL) (r_128_2 hL) ?_
    refine E_aload_n dX12_laysPlaces_78 rfl ?_
    refine E_getIL (v := nI f) dX12_laysPlaces_79 kF_X12_279 kY_12 (Or.inl rfl) (l_128 hL) (k_128 hL) h.gf ?_
    refine E_ialdL (v := nI (cN _ 129 _)) dX12_laysPlaces_82 (l_129 hL) (k_129 hL) rfl (by first | omega | exact h.n256 _) (by decide) (h.gc (Or.inl ⟨by decide, by decide, by decide⟩)) ?_
    refine E_iadd_n dX12_laysPlaces_83 ?_
    refine E_icmp_ge_n (tgt := 198) dX12_laysPlaces_84 (by decide) (by omega) (by omega) (fun c_84 => ?_) (fun c_84 => ?_)
    · refine E_vret dX12_laysPlaces_198 rfl ?_
      exact K _ hp
    · exfalso; omega
  | succ m ih =>
    intro l A M hp hm K
    have h := hp.1
    have hL := h.lay
    have hf := h.hf
    have hn := h.len
    have hc := h.wf.ct f
    have hk := (h.wf.lk l)
    have K : ∀ M, mP c f M0 L w (pla c f L m (l + 1) (plS c f l L A)) M → Q (.inl none) M := K
    refine E_iload_n dX12_laysPlaces_66 rfl ?_
    refine E_bipush (v := nI 12) dX12_laysPlaces_67 (by decide) ?_
    refine E_aload_n dX12_laysPlaces_69 rfl ?_
    refine E_getIL (v := nI f) dX12_laysPlaces_70 kF_X12_279 kY_12 (Or.inl rfl) (l_128 hL) (k_128 hL) h.gf ?_
    refine E_imul_n dX12_laysPlaces_73 ?_
    refine E_aload_n dX12_laysPlaces_74 rfl ?_
    refine E_getRL dX12_laysPlaces_75 kF_X12_7 kY_12 (Or.inr ⟨_, rfl⟩) (l_128 hL) (k_128 hL) (r_128_2 hL) ?_
    refine E_aload_n dX12_laysPlaces_78 rfl ?_
    refine E_getIL (v := nI f) dX12_laysPlaces_79 kF_X12_279 kY_12 (Or.inl rfl) (l_128 hL) (k_128 hL) h.gf ?_
    refine E_ialdL (v := nI (cN _ 129 _)) dX12_laysPlaces_82 (l_129 hL) (k_129 hL) rfl (by first | omega | exact h.n256 _) (by decide) (h.gc (Or.inl ⟨by decide, by decide, by decide⟩)) ?_
    refine E_iadd_n dX12_laysPlaces_83 ?_
    refine E_icmp_ge_n (tgt := 198) dX12_laysPlaces_84 (by decide) (by omega) (by omega) (fun c_84 => ?_) (fun c_84 => ?_)
    · refine E_vret dX12_laysPlaces_198 rfl ?_
      exfalso; omega
    · refine E_aload_n dX12_laysPlaces_87 rfl ?_
      refine E_iload_n dX12_laysPlaces_88 rfl ?_
      refine E_callV1 (fr' := 1) (k1 := 0) (n1 := 0) (k2 := 0) (n2 := 0) dX12_laysPlaces_89 kO_X12_isForTongue kL_X12_350 (l_128 hL) (k_128 hL) ⟨by decide, rfl⟩ rfl (by decide) (by decide) (by exact Nat.le_of_ble_eq_true rfl) rfl ?_
      refine sp_X12_isForTongue h (by omega) ?_
      refine gKv ?_
      refine E_if_eq_b (tgt := 114) dX12_laysPlaces_92 (by decide) (fun c_92 => ?_) (fun c_92 => ?_)
      · refine E_aload_n dX12_laysPlaces_114 rfl ?_
        refine E_iload_n dX12_laysPlaces_115 rfl ?_
        refine E_callV1 (fr' := 1) (k1 := 0) (n1 := 0) (k2 := 0) (n2 := 0) dX12_laysPlaces_116 kO_X12_isForTongue kL_X12_350 (l_128 hL) (k_128 hL) ⟨by decide, rfl⟩ rfl (by decide) (by decide) (by exact Nat.le_of_ble_eq_true rfl) rfl ?_
        refine sp_X12_isForTongue h (by omega) ?_
        refine gKv ?_
        refine E_if_eq_b (tgt := 141) dX12_laysPlaces_119 (by decide) (fun c_119 => ?_) (fun c_119 => ?_)
        · refine E_aload_n dX12_laysPlaces_141 rfl ?_
          refine E_iload_n dX12_laysPlaces_142 rfl ?_
          refine E_callV1 (fr' := 1) (k1 := 0) (n1 := 0) (k2 := 0) (n2 := 0) dX12_laysPlaces_143 kO_X12_isForTongue kL_X12_350 (l_128 hL) (k_128 hL) ⟨by decide, rfl⟩ rfl (by decide) (by decide) (by exact Nat.le_of_ble_eq_true rfl) rfl ?_
          refine sp_X12_isForTongue h (by omega) ?_
          refine gKv ?_
          refine E_if_eq_b (tgt := 168) dX12_laysPlaces_146 (by decide) (fun c_146 => ?_) (fun c_146 => ?_)
          · refine E_aload_n dX12_laysPlaces_168 rfl ?_
            refine E_iload_n dX12_laysPlaces_169 rfl ?_
            refine E_callV1 (fr' := 1) (k1 := 0) (n1 := 0) (k2 := 0) (n2 := 0) dX12_laysPlaces_170 kO_X12_isForTongue kL_X12_350 (l_128 hL) (k_128 hL) ⟨by decide, rfl⟩ rfl (by decide) (by decide) (by exact Nat.le_of_ble_eq_true rfl) rfl ?_
            refine sp_X12_isForTongue h (by omega) ?_
            refine gKv ?_
            refine E_if_eq_b (tgt := 192) dX12_laysPlaces_173 (by decide) (fun c_173 => ?_) (fun c_173 => ?_)
            · refine E_iinc_n (d := 1) dX12_laysPlaces_192 rfl rfl rfl (by decide) rfl ?_
              refine E_goto (tgt := 66) dX12_laysPlaces_195 (by decide) ?_
              first
                | exact ih _ _ _ hp (by omega) K
                | (have e1 : plS c f l L A = A := cI_f (by assumption)
                   rw [e1] at K
                   exact ih _ _ _ hp (by omega) K)
                | (have e1 : plS c f l L A = A := (cI_t (by assumption)).trans ((cI_f (by omega)).trans ((cI_f (by omega)).trans ((cI_f (by omega)).trans (cI_f (by omega)))))
                   rw [e1] at K
                   exact ih _ _ _ hp (by omega) K)
            · refine E_aload_n dX12_laysPlaces_176 rfl ?_
              refine E_getRL dX12_laysPlaces_177 kF_X12_13 kY_12 (Or.inr ⟨_, rfl⟩) (l_128 hL) (k_128 hL) (r_128_3 hL) ?_
              refine E_iload_n dX12_laysPlaces_180 rfl ?_
              refine E_ialdL (v := nI (cN _ 130 _)) dX12_laysPlaces_181 (l_130 hL) (k_130 hL) rfl (by first | omega | exact h.n256 _) (by decide) (h.gc (Or.inl ⟨by decide, by decide, by decide⟩)) ?_
              refine E_bipush (v := nI 9) dX12_laysPlaces_182 (by decide) ?_
              refine E_icmp_ne_n (tgt := 192) dX12_laysPlaces_184 (by decide) (by omega) (by omega) (fun c_184 => ?_) (fun c_184 => ?_)
              · refine E_iinc_n (d := 1) dX12_laysPlaces_192 rfl rfl rfl (by decide) rfl ?_
                refine E_goto (tgt := 66) dX12_laysPlaces_195 (by decide) ?_
                first
                  | exact ih _ _ _ hp (by omega) K
                  | (have e1 : plS c f l L A = A := cI_f (by assumption)
                     rw [e1] at K
                     exact ih _ _ _ hp (by omega) K)
                  | (have e1 : plS c f l L A = A := (cI_t (by assumption)).trans ((cI_f (by omega)).trans ((cI_f (by omega)).trans ((cI_f (by omega)).trans (cI_f (by omega)))))
                     rw [e1] at K
                     exact ih _ _ _ hp (by omega) K)
              · refine E_aload_n dX12_laysPlaces_187 rfl ?_
                refine E_iload_n dX12_laysPlaces_188 rfl ?_
                refine E_callV1 (fr' := 4) (k1 := 0) (n1 := 0) (k2 := 0) (n2 := 0) dX12_laysPlaces_189 kO_X12_setsOnMarks kL_X12_377 (l_128 hL) (k_128 hL) ⟨by decide, rfl⟩ rfl (by decide) (by decide) (by exact Nat.le_of_ble_eq_true rfl) rfl ?_
                have e1 : plS c f l L A = _ := (cI_t (by assumption)).trans ((cI_f (by omega)).trans ((cI_f (by omega)).trans ((cI_f (by omega)).trans (cI_t (by omega)))))
                rw [e1] at K
                refine sp_X12_setsOnMarks hp (by omega) (fun M hp => ?_)
                have h := hp.1
                have hL := h.lay
                refine gKn ?_
                refine E_iinc_n (d := 1) dX12_laysPlaces_192 rfl rfl rfl (by decide) rfl ?_
                refine E_goto (tgt := 66) dX12_laysPlaces_195 (by decide) ?_
                first
                  | exact ih _ _ _ hp (by omega) K
                  | (have e1 : plS c f l L A = A := cI_f (by assumption)
                     rw [e1] at K
                     exact ih _ _ _ hp (by omega) K)
                  | (have e1 : plS c f l L A = A := (cI_t (by assumption)).trans ((cI_f (by omega)).trans ((cI_f (by omega)).trans ((cI_f (by omega)).trans (cI_f (by omega)))))
                     rw [e1] at K
                     exact ih _ _ _ hp (by omega) K)
          · refine E_aload_n dX12_laysPlaces_149 rfl ?_
            refine E_getRL dX12_laysPlaces_150 kF_X12_13 kY_12 (Or.inr ⟨_, rfl⟩) (l_128 hL) (k_128 hL) (r_128_3 hL) ?_
            refine E_iload_n dX12_laysPlaces_153 rfl ?_
            refine E_ialdL (v := nI (cN _ 130 _)) dX12_laysPlaces_154 (l_130 hL) (k_130 hL) rfl (by first | omega | exact h.n256 _) (by decide) (h.gc (Or.inl ⟨by decide, by decide, by decide⟩)) ?_
            refine E_bipush (v := nI 8) dX12_laysPlaces_155 (by decide) ?_
            refine E_icmp_ne_n (tgt := 168) dX12_laysPlaces_157 (by decide) (by omega) (by omega) (fun c_157 => ?_) (fun c_157 => ?_)
            · refine E_aload_n dX12_laysPlaces_168 rfl ?_
              refine E_iload_n dX12_laysPlaces_169 rfl ?_
              refine E_callV1 (fr' := 1) (k1 := 0) (n1 := 0) (k2 := 0) (n2 := 0) dX12_laysPlaces_170 kO_X12_isForTongue kL_X12_350 (l_128 hL) (k_128 hL) ⟨by decide, rfl⟩ rfl (by decide) (by decide) (by exact Nat.le_of_ble_eq_true rfl) rfl ?_
              refine sp_X12_isForTongue h (by omega) ?_
              refine gKv ?_
              refine E_if_eq_b (tgt := 192) dX12_laysPlaces_173 (by decide) (fun c_173 => ?_) (fun c_173 => ?_)
              · refine E_iinc_n (d := 1) dX12_laysPlaces_192 rfl rfl rfl (by decide) rfl ?_
                refine E_goto (tgt := 66) dX12_laysPlaces_195 (by decide) ?_
                first
                  | exact ih _ _ _ hp (by omega) K
                  | (have e1 : plS c f l L A = A := cI_f (by assumption)
                     rw [e1] at K
                     exact ih _ _ _ hp (by omega) K)
                  | (have e1 : plS c f l L A = A := (cI_t (by assumption)).trans ((cI_f (by omega)).trans ((cI_f (by omega)).trans ((cI_f (by omega)).trans (cI_f (by omega)))))
                     rw [e1] at K
                     exact ih _ _ _ hp (by omega) K)
              · refine E_aload_n dX12_laysPlaces_176 rfl ?_
                refine E_getRL dX12_laysPlaces_177 kF_X12_13 kY_12 (Or.inr ⟨_, rfl⟩) (l_128 hL) (k_128 hL) (r_128_3 hL) ?_
                refine E_iload_n dX12_laysPlaces_180 rfl ?_
                refine E_ialdL (v := nI (cN _ 130 _)) dX12_laysPlaces_181 (l_130 hL) (k_130 hL) rfl (by first | omega | exact h.n256 _) (by decide) (h.gc (Or.inl ⟨by decide, by decide, by decide⟩)) ?_
                refine E_bipush (v := nI 9) dX12_laysPlaces_182 (by decide) ?_
                refine E_icmp_ne_n (tgt := 192) dX12_laysPlaces_184 (by decide) (by omega) (by omega) (fun c_184 => ?_) (fun c_184 => ?_)
                · refine E_iinc_n (d := 1) dX12_laysPlaces_192 rfl rfl rfl (by decide) rfl ?_
                  refine E_goto (tgt := 66) dX12_laysPlaces_195 (by decide) ?_
                  first
                    | exact ih _ _ _ hp (by omega) K
                    | (have e1 : plS c f l L A = A := cI_f (by assumption)
                       rw [e1] at K
                       exact ih _ _ _ hp (by omega) K)
                    | (have e1 : plS c f l L A = A := (cI_t (by assumption)).trans ((cI_f (by omega)).trans ((cI_f (by omega)).trans ((cI_f (by omega)).trans (cI_f (by omega)))))
                       rw [e1] at K
                       exact ih _ _ _ hp (by omega) K)
                · refine E_aload_n dX12_laysPlaces_187 rfl ?_
                  refine E_iload_n dX12_laysPlaces_188 rfl ?_
                  refine E_callV1 (fr' := 4) (k1 := 0) (n1 := 0) (k2 := 0) (n2 := 0) dX12_laysPlaces_189 kO_X12_setsOnMarks kL_X12_377 (l_128 hL) (k_128 hL) ⟨by decide, rfl⟩ rfl (by decide) (by decide) (by exact Nat.le_of_ble_eq_true rfl) rfl ?_
                  have e1 : plS c f l L A = _ := (cI_t (by assumption)).trans ((cI_f (by omega)).trans ((cI_f (by omega)).trans ((cI_f (by omega)).trans (cI_t (by omega)))))
                  rw [e1] at K
                  refine sp_X12_setsOnMarks hp (by omega) (fun M hp => ?_)
                  have h := hp.1
                  have hL := h.lay
                  refine gKn ?_
                  refine E_iinc_n (d := 1) dX12_laysPlaces_192 rfl rfl rfl (by decide) rfl ?_
                  refine E_goto (tgt := 66) dX12_laysPlaces_195 (by decide) ?_
                  first
                    | exact ih _ _ _ hp (by omega) K
                    | (have e1 : plS c f l L A = A := cI_f (by assumption)
                       rw [e1] at K
                       exact ih _ _ _ hp (by omega) K)
                    | (have e1 : plS c f l L A = A := (cI_t (by assumption)).trans ((cI_f (by omega)).trans ((cI_f (by omega)).trans ((cI_f (by omega)).trans (cI_f (by omega)))))
                       rw [e1] at K
                       exact ih _ _ _ hp (by omega) K)
            · refine E_aload_n dX12_laysPlaces_160 rfl ?_
              refine E_iload_n dX12_laysPlaces_161 rfl ?_
              refine E_callV1 (fr' := 3) (k1 := 0) (n1 := 0) (k2 := 0) (n2 := 0) dX12_laysPlaces_162 kO_X12_setsOnBases kL_X12_374 (l_128 hL) (k_128 hL) ⟨by decide, rfl⟩ rfl (by decide) (by decide) (by exact Nat.le_of_ble_eq_true rfl) rfl ?_
              have e1 : plS c f l L A = _ := (cI_t (by assumption)).trans ((cI_f (by omega)).trans ((cI_f (by omega)).trans (cI_t (by omega))))
              rw [e1] at K
              refine sp_X12_setsOnBases hp (by omega) (fun M hp => ?_)
              have h := hp.1
              have hL := h.lay
              refine gKn ?_
              refine E_goto (tgt := 192) dX12_laysPlaces_165 (by decide) ?_
              refine E_iinc_n (d := 1) dX12_laysPlaces_192 rfl rfl rfl (by decide) rfl ?_
              refine E_goto (tgt := 66) dX12_laysPlaces_195 (by decide) ?_
              first
                | exact ih _ _ _ hp (by omega) K
                | (have e1 : plS c f l L A = A := cI_f (by assumption)
                   rw [e1] at K
                   exact ih _ _ _ hp (by omega) K)
                | (have e1 : plS c f l L A = A := (cI_t (by assumption)).trans ((cI_f (by omega)).trans ((cI_f (by omega)).trans ((cI_f (by omega)).trans (cI_f (by omega)))))
                   rw [e1] at K
                   exact ih _ _ _ hp (by omega) K)
        · refine E_aload_n dX12_laysPlaces_122 rfl ?_
          refine E_getRL dX12_laysPlaces_123 kF_X12_13 kY_12 (Or.inr ⟨_, rfl⟩) (l_128 hL) (k_128 hL) (r_128_3 hL) ?_
          refine E_iload_n dX12_laysPlaces_126 rfl ?_
          refine E_ialdL (v := nI (cN _ 130 _)) dX12_laysPlaces_127 (l_130 hL) (k_130 hL) rfl (by first | omega | exact h.n256 _) (by decide) (h.gc (Or.inl ⟨by decide, by decide, by decide⟩)) ?_
          refine E_bipush (v := nI 7) dX12_laysPlaces_128 (by decide) ?_
          refine E_icmp_ne_n (tgt := 141) dX12_laysPlaces_130 (by decide) (by omega) (by omega) (fun c_130 => ?_) (fun c_130 => ?_)
          · refine E_aload_n dX12_laysPlaces_141 rfl ?_
            refine E_iload_n dX12_laysPlaces_142 rfl ?_
            refine E_callV1 (fr' := 1) (k1 := 0) (n1 := 0) (k2 := 0) (n2 := 0) dX12_laysPlaces_143 kO_X12_isForTongue kL_X12_350 (l_128 hL) (k_128 hL) ⟨by decide, rfl⟩ rfl (by decide) (by decide) (by exact Nat.le_of_ble_eq_true rfl) rfl ?_
            refine sp_X12_isForTongue h (by omega) ?_
            refine gKv ?_
            refine E_if_eq_b (tgt := 168) dX12_laysPlaces_146 (by decide) (fun c_146 => ?_) (fun c_146 => ?_)
            · refine E_aload_n dX12_laysPlaces_168 rfl ?_
              refine E_iload_n dX12_laysPlaces_169 rfl ?_
              refine E_callV1 (fr' := 1) (k1 := 0) (n1 := 0) (k2 := 0) (n2 := 0) dX12_laysPlaces_170 kO_X12_isForTongue kL_X12_350 (l_128 hL) (k_128 hL) ⟨by decide, rfl⟩ rfl (by decide) (by decide) (by exact Nat.le_of_ble_eq_true rfl) rfl ?_
              refine sp_X12_isForTongue h (by omega) ?_
              refine gKv ?_
              refine E_if_eq_b (tgt := 192) dX12_laysPlaces_173 (by decide) (fun c_173 => ?_) (fun c_173 => ?_)
              · refine E_iinc_n (d := 1) dX12_laysPlaces_192 rfl rfl rfl (by decide) rfl ?_
                refine E_goto (tgt := 66) dX12_laysPlaces_195 (by decide) ?_
                first
                  | exact ih _ _ _ hp (by omega) K
                  | (have e1 : plS c f l L A = A := cI_f (by assumption)
                     rw [e1] at K
                     exact ih _ _ _ hp (by omega) K)
                  | (have e1 : plS c f l L A = A := (cI_t (by assumption)).trans ((cI_f (by omega)).trans ((cI_f (by omega)).trans ((cI_f (by omega)).trans (cI_f (by omega)))))
                     rw [e1] at K
                     exact ih _ _ _ hp (by omega) K)
              · refine E_aload_n dX12_laysPlaces_176 rfl ?_
                refine E_getRL dX12_laysPlaces_177 kF_X12_13 kY_12 (Or.inr ⟨_, rfl⟩) (l_128 hL) (k_128 hL) (r_128_3 hL) ?_
                refine E_iload_n dX12_laysPlaces_180 rfl ?_
                refine E_ialdL (v := nI (cN _ 130 _)) dX12_laysPlaces_181 (l_130 hL) (k_130 hL) rfl (by first | omega | exact h.n256 _) (by decide) (h.gc (Or.inl ⟨by decide, by decide, by decide⟩)) ?_
                refine E_bipush (v := nI 9) dX12_laysPlaces_182 (by decide) ?_
                refine E_icmp_ne_n (tgt := 192) dX12_laysPlaces_184 (by decide) (by omega) (by omega) (fun c_184 => ?_) (fun c_184 => ?_)
                · refine E_iinc_n (d := 1) dX12_laysPlaces_192 rfl rfl rfl (by decide) rfl ?_
                  refine E_goto (tgt := 66) dX12_laysPlaces_195 (by decide) ?_
                  first
                    | exact ih _ _ _ hp (by omega) K
                    | (have e1 : plS c f l L A = A := cI_f (by assumption)
                       rw [e1] at K
                       exact ih _ _ _ hp (by omega) K)
                    | (have e1 : plS c f l L A = A := (cI_t (by assumption)).trans ((cI_f (by omega)).trans ((cI_f (by omega)).trans ((cI_f (by omega)).trans (cI_f (by omega)))))
                       rw [e1] at K
                       exact ih _ _ _ hp (by omega) K)
                · refine E_aload_n dX12_laysPlaces_187 rfl ?_
                  refine E_iload_n dX12_laysPlaces_188 rfl ?_
                  refine E_callV1 (fr' := 4) (k1 := 0) (n1 := 0) (k2 := 0) (n2 := 0) dX12_laysPlaces_189 kO_X12_setsOnMarks kL_X12_377 (l_128 hL) (k_128 hL) ⟨by decide, rfl⟩ rfl (by decide) (by decide) (by exact Nat.le_of_ble_eq_true rfl) rfl ?_
                  have e1 : plS c f l L A = _ := (cI_t (by assumption)).trans ((cI_f (by omega)).trans ((cI_f (by omega)).trans ((cI_f (by omega)).trans (cI_t (by omega)))))
                  rw [e1] at K
                  refine sp_X12_setsOnMarks hp (by omega) (fun M hp => ?_)
                  have h := hp.1
                  have hL := h.lay
                  refine gKn ?_
                  refine E_iinc_n (d := 1) dX12_laysPlaces_192 rfl rfl rfl (by decide) rfl ?_
                  refine E_goto (tgt := 66) dX12_laysPlaces_195 (by decide) ?_
                  first
                    | exact ih _ _ _ hp (by omega) K
                    | (have e1 : plS c f l L A = A := cI_f (by assumption)
                       rw [e1] at K
                       exact ih _ _ _ hp (by omega) K)
                    | (have e1 : plS c f l L A = A := (cI_t (by assumption)).trans ((cI_f (by omega)).trans ((cI_f (by omega)).trans ((cI_f (by omega)).trans (cI_f (by omega)))))
                       rw [e1] at K
                       exact ih _ _ _ hp (by omega) K)
            · refine E_aload_n dX12_laysPlaces_149 rfl ?_
              refine E_getRL dX12_laysPlaces_150 kF_X12_13 kY_12 (Or.inr ⟨_, rfl⟩) (l_128 hL) (k_128 hL) (r_128_3 hL) ?_
              refine E_iload_n dX12_laysPlaces_153 rfl ?_
              refine E_ialdL (v := nI (cN _ 130 _)) dX12_laysPlaces_154 (l_130 hL) (k_130 hL) rfl (by first | omega | exact h.n256 _) (by decide) (h.gc (Or.inl ⟨by decide, by decide, by decide⟩)) ?_
              refine E_bipush (v := nI 8) dX12_laysPlaces_155 (by decide) ?_
              refine E_icmp_ne_n (tgt := 168) dX12_laysPlaces_157 (by decide) (by omega) (by omega) (fun c_157 => ?_) (fun c_157 => ?_)
              · refine E_aload_n dX12_laysPlaces_168 rfl ?_
                refine E_iload_n dX12_laysPlaces_169 rfl ?_
                refine E_callV1 (fr' := 1) (k1 := 0) (n1 := 0) (k2 := 0) (n2 := 0) dX12_laysPlaces_170 kO_X12_isForTongue kL_X12_350 (l_128 hL) (k_128 hL) ⟨by decide, rfl⟩ rfl (by decide) (by decide) (by exact Nat.le_of_ble_eq_true rfl) rfl ?_
                refine sp_X12_isForTongue h (by omega) ?_
                refine gKv ?_
                refine E_if_eq_b (tgt := 192) dX12_laysPlaces_173 (by decide) (fun c_173 => ?_) (fun c_173 => ?_)
                · refine E_iinc_n (d := 1) dX12_laysPlaces_192 rfl rfl rfl (by decide) rfl ?_
                  refine E_goto (tgt := 66) dX12_laysPlaces_195 (by decide) ?_
                  first
                    | exact ih _ _ _ hp (by omega) K
                    | (have e1 : plS c f l L A = A := cI_f (by assumption)
                       rw [e1] at K
                       exact ih _ _ _ hp (by omega) K)
                    | (have e1 : plS c f l L A = A := (cI_t (by assumption)).trans ((cI_f (by omega)).trans ((cI_f (by omega)).trans ((cI_f (by omega)).trans (cI_f (by omega)))))
                       rw [e1] at K
                       exact ih _ _ _ hp (by omega) K)
                · refine E_aload_n dX12_laysPlaces_176 rfl ?_
                  refine E_getRL dX12_laysPlaces_177 kF_X12_13 kY_12 (Or.inr ⟨_, rfl⟩) (l_128 hL) (k_128 hL) (r_128_3 hL) ?_
                  refine E_iload_n dX12_laysPlaces_180 rfl ?_
                  refine E_ialdL (v := nI (cN _ 130 _)) dX12_laysPlaces_181 (l_130 hL) (k_130 hL) rfl (by first | omega | exact h.n256 _) (by decide) (h.gc (Or.inl ⟨by decide, by decide, by decide⟩)) ?_
                  refine E_bipush (v := nI 9) dX12_laysPlaces_182 (by decide) ?_
                  refine E_icmp_ne_n (tgt := 192) dX12_laysPlaces_184 (by decide) (by omega) (by omega) (fun c_184 => ?_) (fun c_184 => ?_)
                  · refine E_iinc_n (d := 1) dX12_laysPlaces_192 rfl rfl rfl (by decide) rfl ?_
                    refine E_goto (tgt := 66) dX12_laysPlaces_195 (by decide) ?_
                    first
                      | exact ih _ _ _ hp (by omega) K
                      | (have e1 : plS c f l L A = A := cI_f (by assumption)
                         rw [e1] at K
                         exact ih _ _ _ hp (by omega) K)
                      | (have e1 : plS c f l L A = A := (cI_t (by assumption)).trans ((cI_f (by omega)).trans ((cI_f (by omega)).trans ((cI_f (by omega)).trans (cI_f (by omega)))))
                         rw [e1] at K
                         exact ih _ _ _ hp (by omega) K)
                  · refine E_aload_n dX12_laysPlaces_187 rfl ?_
                    refine E_iload_n dX12_laysPlaces_188 rfl ?_
                    refine E_callV1 (fr' := 4) (k1 := 0) (n1 := 0) (k2 := 0) (n2 := 0) dX12_laysPlaces_189 kO_X12_setsOnMarks kL_X12_377 (l_128 hL) (k_128 hL) ⟨by decide, rfl⟩ rfl (by decide) (by decide) (by exact Nat.le_of_ble_eq_true rfl) rfl ?_
                    have e1 : plS c f l L A = _ := (cI_t (by assumption)).trans ((cI_f (by omega)).trans ((cI_f (by omega)).trans ((cI_f (by omega)).trans (cI_t (by omega)))))
                    rw [e1] at K
                    refine sp_X12_setsOnMarks hp (by omega) (fun M hp => ?_)
                    have h := hp.1
                    have hL := h.lay
                    refine gKn ?_
                    refine E_iinc_n (d := 1) dX12_laysPlaces_192 rfl rfl rfl (by decide) rfl ?_
                    refine E_goto (tgt := 66) dX12_laysPlaces_195 (by decide) ?_
                    first
                      | exact ih _ _ _ hp (by omega) K
                      | (have e1 : plS c f l L A = A := cI_f (by assumption)
                         rw [e1] at K
                         exact ih _ _ _ hp (by omega) K)
                      | (have e1 : plS c f l L A = A := (cI_t (by assumption)).trans ((cI_f (by omega)).trans ((cI_f (by omega)).trans ((cI_f (by omega)).trans (cI_f (by omega)))))
                         rw [e1] at K
                         exact ih _ _ _ hp (by omega) K)
              · refine E_aload_n dX12_laysPlaces_160 rfl ?_
                refine E_iload_n dX12_laysPlaces_161 rfl ?_
                refine E_callV1 (fr' := 3) (k1 := 0) (n1 := 0) (k2 := 0) (n2 := 0) dX12_laysPlaces_162 kO_X12_setsOnBases kL_X12_374 (l_128 hL) (k_128 hL) ⟨by decide, rfl⟩ rfl (by decide) (by decide) (by exact Nat.le_of_ble_eq_true rfl) rfl ?_
                have e1 : plS c f l L A = _ := (cI_t (by assumption)).trans ((cI_f (by omega)).trans ((cI_f (by omega)).trans (cI_t (by omega))))
                rw [e1] at K
                refine sp_X12_setsOnBases hp (by omega) (fun M hp => ?_)
                have h := hp.1
                have hL := h.lay
                refine gKn ?_
                refine E_goto (tgt := 192) dX12_laysPlaces_165 (by decide) ?_
                refine E_iinc_n (d := 1) dX12_laysPlaces_192 rfl rfl rfl (by decide) rfl ?_
                refine E_goto (tgt := 66) dX12_laysPlaces_195 (by decide) ?_
                first
                  | exact ih _ _ _ hp (by omega) K
                  | (have e1 : plS c f l L A = A := cI_f (by assumption)
                     rw [e1] at K
                     exact ih _ _ _ hp (by omega) K)
                  | (have e1 : plS c f l L A = A := (cI_t (by assumption)).trans ((cI_f (by omega)).trans ((cI_f (by omega)).trans ((cI_f (by omega)).trans (cI_f (by omega)))))
                     rw [e1] at K
                     exact ih _ _ _ hp (by omega) K)
          · refine E_aload_n dX12_laysPlaces_133 rfl ?_
            refine E_iload_n dX12_laysPlaces_134 rfl ?_
            refine E_callV1 (fr' := 4) (k1 := 0) (n1 := 0) (k2 := 0) (n2 := 0) dX12_laysPlaces_135 kO_X12_curves kL_X12_371 (l_128 hL) (k_128 hL) ⟨by decide, rfl⟩ rfl (by decide) (by decide) (by exact Nat.le_of_ble_eq_true rfl) rfl ?_
            have e1 : plS c f l L A = _ := (cI_t (by assumption)).trans ((cI_f (by omega)).trans (cI_t (by omega)))
            rw [e1] at K
            refine sp_X12_curves hp (by omega) (fun M hp => ?_)
            have h := hp.1
            have hL := h.lay
            refine gKn ?_
            refine E_goto (tgt := 192) dX12_laysPlaces_138 (by decide) ?_
            refine E_iinc_n (d := 1) dX12_laysPlaces_192 rfl rfl rfl (by decide) rfl ?_
            refine E_goto (tgt := 66) dX12_laysPlaces_195 (by decide) ?_
            first
              | exact ih _ _ _ hp (by omega) K
              | (have e1 : plS c f l L A = A := cI_f (by assumption)
                 rw [e1] at K
                 exact ih _ _ _ hp (by omega) K)
              | (have e1 : plS c f l L A = A := (cI_t (by assumption)).trans ((cI_f (by omega)).trans ((cI_f (by omega)).trans ((cI_f (by omega)).trans (cI_f (by omega)))))
                 rw [e1] at K
                 exact ih _ _ _ hp (by omega) K)
      · refine E_aload_n dX12_laysPlaces_95 rfl ?_
        refine E_getRL dX12_laysPlaces_96 kF_X12_13 kY_12 (Or.inr ⟨_, rfl⟩) (l_128 hL) (k_128 hL) (r_128_3 hL) ?_
        refine E_iload_n dX12_laysPlaces_99 rfl ?_
        refine E_ialdL (v := nI (cN _ 130 _)) dX12_laysPlaces_100 (l_130 hL) (k_130 hL) rfl (by first | omega | exact h.n256 _) (by decide) (h.gc (Or.inl ⟨by decide, by decide, by decide⟩)) ?_
        refine E_bipush (v := nI 6) dX12_laysPlaces_101 (by decide) ?_
        refine E_icmp_ne_n (tgt := 114) dX12_laysPlaces_103 (by decide) (by omega) (by omega) (fun c_103 => ?_) (fun c_103 => ?_)
        · refine E_aload_n dX12_laysPlaces_114 rfl ?_
          refine E_iload_n dX12_laysPlaces_115 rfl ?_
          refine E_callV1 (fr' := 1) (k1 := 0) (n1 := 0) (k2 := 0) (n2 := 0) dX12_laysPlaces_116 kO_X12_isForTongue kL_X12_350 (l_128 hL) (k_128 hL) ⟨by decide, rfl⟩ rfl (by decide) (by decide) (by exact Nat.le_of_ble_eq_true rfl) rfl ?_
          refine sp_X12_isForTongue h (by omega) ?_
          refine gKv ?_
          refine E_if_eq_b (tgt := 141) dX12_laysPlaces_119 (by decide) (fun c_119 => ?_) (fun c_119 => ?_)
          · refine E_aload_n dX12_laysPlaces_141 rfl ?_
            refine E_iload_n dX12_laysPlaces_142 rfl ?_
            refine E_callV1 (fr' := 1) (k1 := 0) (n1 := 0) (k2 := 0) (n2 := 0) dX12_laysPlaces_143 kO_X12_isForTongue kL_X12_350 (l_128 hL) (k_128 hL) ⟨by decide, rfl⟩ rfl (by decide) (by decide) (by exact Nat.le_of_ble_eq_true rfl) rfl ?_
            refine sp_X12_isForTongue h (by omega) ?_
            refine gKv ?_
            refine E_if_eq_b (tgt := 168) dX12_laysPlaces_146 (by decide) (fun c_146 => ?_) (fun c_146 => ?_)
            · refine E_aload_n dX12_laysPlaces_168 rfl ?_
              refine E_iload_n dX12_laysPlaces_169 rfl ?_
              refine E_callV1 (fr' := 1) (k1 := 0) (n1 := 0) (k2 := 0) (n2 := 0) dX12_laysPlaces_170 kO_X12_isForTongue kL_X12_350 (l_128 hL) (k_128 hL) ⟨by decide, rfl⟩ rfl (by decide) (by decide) (by exact Nat.le_of_ble_eq_true rfl) rfl ?_
              refine sp_X12_isForTongue h (by omega) ?_
              refine gKv ?_
              refine E_if_eq_b (tgt := 192) dX12_laysPlaces_173 (by decide) (fun c_173 => ?_) (fun c_173 => ?_)
              · refine E_iinc_n (d := 1) dX12_laysPlaces_192 rfl rfl rfl (by decide) rfl ?_
                refine E_goto (tgt := 66) dX12_laysPlaces_195 (by decide) ?_
                first
                  | exact ih _ _ _ hp (by omega) K
                  | (have e1 : plS c f l L A = A := cI_f (by assumption)
                     rw [e1] at K
                     exact ih _ _ _ hp (by omega) K)
                  | (have e1 : plS c f l L A = A := (cI_t (by assumption)).trans ((cI_f (by omega)).trans ((cI_f (by omega)).trans ((cI_f (by omega)).trans (cI_f (by omega)))))
                     rw [e1] at K
                     exact ih _ _ _ hp (by omega) K)
              · refine E_aload_n dX12_laysPlaces_176 rfl ?_
                refine E_getRL dX12_laysPlaces_177 kF_X12_13 kY_12 (Or.inr ⟨_, rfl⟩) (l_128 hL) (k_128 hL) (r_128_3 hL) ?_
                refine E_iload_n dX12_laysPlaces_180 rfl ?_
                refine E_ialdL (v := nI (cN _ 130 _)) dX12_laysPlaces_181 (l_130 hL) (k_130 hL) rfl (by first | omega | exact h.n256 _) (by decide) (h.gc (Or.inl ⟨by decide, by decide, by decide⟩)) ?_
                refine E_bipush (v := nI 9) dX12_laysPlaces_182 (by decide) ?_
                refine E_icmp_ne_n (tgt := 192) dX12_laysPlaces_184 (by decide) (by omega) (by omega) (fun c_184 => ?_) (fun c_184 => ?_)
                · refine E_iinc_n (d := 1) dX12_laysPlaces_192 rfl rfl rfl (by decide) rfl ?_
                  refine E_goto (tgt := 66) dX12_laysPlaces_195 (by decide) ?_
                  first
                    | exact ih _ _ _ hp (by omega) K
                    | (have e1 : plS c f l L A = A := cI_f (by assumption)
                       rw [e1] at K
                       exact ih _ _ _ hp (by omega) K)
                    | (have e1 : plS c f l L A = A := (cI_t (by assumption)).trans ((cI_f (by omega)).trans ((cI_f (by omega)).trans ((cI_f (by omega)).trans (cI_f (by omega)))))
                       rw [e1] at K
                       exact ih _ _ _ hp (by omega) K)
                · refine E_aload_n dX12_laysPlaces_187 rfl ?_
                  refine E_iload_n dX12_laysPlaces_188 rfl ?_
                  refine E_callV1 (fr' := 4) (k1 := 0) (n1 := 0) (k2 := 0) (n2 := 0) dX12_laysPlaces_189 kO_X12_setsOnMarks kL_X12_377 (l_128 hL) (k_128 hL) ⟨by decide, rfl⟩ rfl (by decide) (by decide) (by exact Nat.le_of_ble_eq_true rfl) rfl ?_
                  have e1 : plS c f l L A = _ := (cI_t (by assumption)).trans ((cI_f (by omega)).trans ((cI_f (by omega)).trans ((cI_f (by omega)).trans (cI_t (by omega)))))
                  rw [e1] at K
                  refine sp_X12_setsOnMarks hp (by omega) (fun M hp => ?_)
                  have h := hp.1
                  have hL := h.lay
                  refine gKn ?_
                  refine E_iinc_n (d := 1) dX12_laysPlaces_192 rfl rfl rfl (by decide) rfl ?_
                  refine E_goto (tgt := 66) dX12_laysPlaces_195 (by decide) ?_
                  first
                    | exact ih _ _ _ hp (by omega) K
                    | (have e1 : plS c f l L A = A := cI_f (by assumption)
                       rw [e1] at K
                       exact ih _ _ _ hp (by omega) K)
                    | (have e1 : plS c f l L A = A := (cI_t (by assumption)).trans ((cI_f (by omega)).trans ((cI_f (by omega)).trans ((cI_f (by omega)).trans (cI_f (by omega)))))
                       rw [e1] at K
                       exact ih _ _ _ hp (by omega) K)
            · refine E_aload_n dX12_laysPlaces_149 rfl ?_
              refine E_getRL dX12_laysPlaces_150 kF_X12_13 kY_12 (Or.inr ⟨_, rfl⟩) (l_128 hL) (k_128 hL) (r_128_3 hL) ?_
              refine E_iload_n dX12_laysPlaces_153 rfl ?_
              refine E_ialdL (v := nI (cN _ 130 _)) dX12_laysPlaces_154 (l_130 hL) (k_130 hL) rfl (by first | omega | exact h.n256 _) (by decide) (h.gc (Or.inl ⟨by decide, by decide, by decide⟩)) ?_
              refine E_bipush (v := nI 8) dX12_laysPlaces_155 (by decide) ?_
              refine E_icmp_ne_n (tgt := 168) dX12_laysPlaces_157 (by decide) (by omega) (by omega) (fun c_157 => ?_) (fun c_157 => ?_)
              · refine E_aload_n dX12_laysPlaces_168 rfl ?_
                refine E_iload_n dX12_laysPlaces_169 rfl ?_
                refine E_callV1 (fr' := 1) (k1 := 0) (n1 := 0) (k2 := 0) (n2 := 0) dX12_laysPlaces_170 kO_X12_isForTongue kL_X12_350 (l_128 hL) (k_128 hL) ⟨by decide, rfl⟩ rfl (by decide) (by decide) (by exact Nat.le_of_ble_eq_true rfl) rfl ?_
                refine sp_X12_isForTongue h (by omega) ?_
                refine gKv ?_
                refine E_if_eq_b (tgt := 192) dX12_laysPlaces_173 (by decide) (fun c_173 => ?_) (fun c_173 => ?_)
                · refine E_iinc_n (d := 1) dX12_laysPlaces_192 rfl rfl rfl (by decide) rfl ?_
                  refine E_goto (tgt := 66) dX12_laysPlaces_195 (by decide) ?_
                  first
                    | exact ih _ _ _ hp (by omega) K
                    | (have e1 : plS c f l L A = A := cI_f (by assumption)
                       rw [e1] at K
                       exact ih _ _ _ hp (by omega) K)
                    | (have e1 : plS c f l L A = A := (cI_t (by assumption)).trans ((cI_f (by omega)).trans ((cI_f (by omega)).trans ((cI_f (by omega)).trans (cI_f (by omega)))))
                       rw [e1] at K
                       exact ih _ _ _ hp (by omega) K)
                · refine E_aload_n dX12_laysPlaces_176 rfl ?_
                  refine E_getRL dX12_laysPlaces_177 kF_X12_13 kY_12 (Or.inr ⟨_, rfl⟩) (l_128 hL) (k_128 hL) (r_128_3 hL) ?_
                  refine E_iload_n dX12_laysPlaces_180 rfl ?_
                  refine E_ialdL (v := nI (cN _ 130 _)) dX12_laysPlaces_181 (l_130 hL) (k_130 hL) rfl (by first | omega | exact h.n256 _) (by decide) (h.gc (Or.inl ⟨by decide, by decide, by decide⟩)) ?_
                  refine E_bipush (v := nI 9) dX12_laysPlaces_182 (by decide) ?_
                  refine E_icmp_ne_n (tgt := 192) dX12_laysPlaces_184 (by decide) (by omega) (by omega) (fun c_184 => ?_) (fun c_184 => ?_)
                  · refine E_iinc_n (d := 1) dX12_laysPlaces_192 rfl rfl rfl (by decide) rfl ?_
                    refine E_goto (tgt := 66) dX12_laysPlaces_195 (by decide) ?_
                    first
                      | exact ih _ _ _ hp (by omega) K
                      | (have e1 : plS c f l L A = A := cI_f (by assumption)
                         rw [e1] at K
                         exact ih _ _ _ hp (by omega) K)
                      | (have e1 : plS c f l L A = A := (cI_t (by assumption)).trans ((cI_f (by omega)).trans ((cI_f (by omega)).trans ((cI_f (by omega)).trans (cI_f (by omega)))))
                         rw [e1] at K
                         exact ih _ _ _ hp (by omega) K)
                  · refine E_aload_n dX12_laysPlaces_187 rfl ?_
                    refine E_iload_n dX12_laysPlaces_188 rfl ?_
                    refine E_callV1 (fr' := 4) (k1 := 0) (n1 := 0) (k2 := 0) (n2 := 0) dX12_laysPlaces_189 kO_X12_setsOnMarks kL_X12_377 (l_128 hL) (k_128 hL) ⟨by decide, rfl⟩ rfl (by decide) (by decide) (by exact Nat.le_of_ble_eq_true rfl) rfl ?_
                    have e1 : plS c f l L A = _ := (cI_t (by assumption)).trans ((cI_f (by omega)).trans ((cI_f (by omega)).trans ((cI_f (by omega)).trans (cI_t (by omega)))))
                    rw [e1] at K
                    refine sp_X12_setsOnMarks hp (by omega) (fun M hp => ?_)
                    have h := hp.1
                    have hL := h.lay
                    refine gKn ?_
                    refine E_iinc_n (d := 1) dX12_laysPlaces_192 rfl rfl rfl (by decide) rfl ?_
                    refine E_goto (tgt := 66) dX12_laysPlaces_195 (by decide) ?_
                    first
                      | exact ih _ _ _ hp (by omega) K
                      | (have e1 : plS c f l L A = A := cI_f (by assumption)
                         rw [e1] at K
                         exact ih _ _ _ hp (by omega) K)
                      | (have e1 : plS c f l L A = A := (cI_t (by assumption)).trans ((cI_f (by omega)).trans ((cI_f (by omega)).trans ((cI_f (by omega)).trans (cI_f (by omega)))))
                         rw [e1] at K
                         exact ih _ _ _ hp (by omega) K)
              · refine E_aload_n dX12_laysPlaces_160 rfl ?_
                refine E_iload_n dX12_laysPlaces_161 rfl ?_
                refine E_callV1 (fr' := 3) (k1 := 0) (n1 := 0) (k2 := 0) (n2 := 0) dX12_laysPlaces_162 kO_X12_setsOnBases kL_X12_374 (l_128 hL) (k_128 hL) ⟨by decide, rfl⟩ rfl (by decide) (by decide) (by exact Nat.le_of_ble_eq_true rfl) rfl ?_
                have e1 : plS c f l L A = _ := (cI_t (by assumption)).trans ((cI_f (by omega)).trans ((cI_f (by omega)).trans (cI_t (by omega))))
                rw [e1] at K
                refine sp_X12_setsOnBases hp (by omega) (fun M hp => ?_)
                have h := hp.1
                have hL := h.lay
                refine gKn ?_
                refine E_goto (tgt := 192) dX12_laysPlaces_165 (by decide) ?_
                refine E_iinc_n (d := 1) dX12_laysPlaces_192 rfl rfl rfl (by decide) rfl ?_
                refine E_goto (tgt := 66) dX12_laysPlaces_195 (by decide) ?_
                first
                  | exact ih _ _ _ hp (by omega) K
                  | (have e1 : plS c f l L A = A := cI_f (by assumption)
                     rw [e1] at K
                     exact ih _ _ _ hp (by omega) K)
                  | (have e1 : plS c f l L A = A := (cI_t (by assumption)).trans ((cI_f (by omega)).trans ((cI_f (by omega)).trans ((cI_f (by omega)).trans (cI_f (by omega)))))
                     rw [e1] at K
                     exact ih _ _ _ hp (by omega) K)
          · refine E_aload_n dX12_laysPlaces_122 rfl ?_
            refine E_getRL dX12_laysPlaces_123 kF_X12_13 kY_12 (Or.inr ⟨_, rfl⟩) (l_128 hL) (k_128 hL) (r_128_3 hL) ?_
            refine E_iload_n dX12_laysPlaces_126 rfl ?_
            refine E_ialdL (v := nI (cN _ 130 _)) dX12_laysPlaces_127 (l_130 hL) (k_130 hL) rfl (by first | omega | exact h.n256 _) (by decide) (h.gc (Or.inl ⟨by decide, by decide, by decide⟩)) ?_
            refine E_bipush (v := nI 7) dX12_laysPlaces_128 (by decide) ?_
            refine E_icmp_ne_n (tgt := 141) dX12_laysPlaces_130 (by decide) (by omega) (by omega) (fun c_130 => ?_) (fun c_130 => ?_)
            · refine E_aload_n dX12_laysPlaces_141 rfl ?_
              refine E_iload_n dX12_laysPlaces_142 rfl ?_
              refine E_callV1 (fr' := 1) (k1 := 0) (n1 := 0) (k2 := 0) (n2 := 0) dX12_laysPlaces_143 kO_X12_isForTongue kL_X12_350 (l_128 hL) (k_128 hL) ⟨by decide, rfl⟩ rfl (by decide) (by decide) (by exact Nat.le_of_ble_eq_true rfl) rfl ?_
              refine sp_X12_isForTongue h (by omega) ?_
              refine gKv ?_
              refine E_if_eq_b (tgt := 168) dX12_laysPlaces_146 (by decide) (fun c_146 => ?_) (fun c_146 => ?_)
              · refine E_aload_n dX12_laysPlaces_168 rfl ?_
                refine E_iload_n dX12_laysPlaces_169 rfl ?_
                refine E_callV1 (fr' := 1) (k1 := 0) (n1 := 0) (k2 := 0) (n2 := 0) dX12_laysPlaces_170 kO_X12_isForTongue kL_X12_350 (l_128 hL) (k_128 hL) ⟨by decide, rfl⟩ rfl (by decide) (by decide) (by exact Nat.le_of_ble_eq_true rfl) rfl ?_
                refine sp_X12_isForTongue h (by omega) ?_
                refine gKv ?_
                refine E_if_eq_b (tgt := 192) dX12_laysPlaces_173 (by decide) (fun c_173 => ?_) (fun c_173 => ?_)
                · refine E_iinc_n (d := 1) dX12_laysPlaces_192 rfl rfl rfl (by decide) rfl ?_
                  refine E_goto (tgt := 66) dX12_laysPlaces_195 (by decide) ?_
                  first
                    | exact ih _ _ _ hp (by omega) K
                    | (have e1 : plS c f l L A = A := cI_f (by assumption)
                       rw [e1] at K
                       exact ih _ _ _ hp (by omega) K)
                    | (have e1 : plS c f l L A = A := (cI_t (by assumption)).trans ((cI_f (by omega)).trans ((cI_f (by omega)).trans ((cI_f (by omega)).trans (cI_f (by omega)))))
                       rw [e1] at K
                       exact ih _ _ _ hp (by omega) K)
                · refine E_aload_n dX12_laysPlaces_176 rfl ?_
                  refine E_getRL dX12_laysPlaces_177 kF_X12_13 kY_12 (Or.inr ⟨_, rfl⟩) (l_128 hL) (k_128 hL) (r_128_3 hL) ?_
                  refine E_iload_n dX12_laysPlaces_180 rfl ?_
                  refine E_ialdL (v := nI (cN _ 130 _)) dX12_laysPlaces_181 (l_130 hL) (k_130 hL) rfl (by first | omega | exact h.n256 _) (by decide) (h.gc (Or.inl ⟨by decide, by decide, by decide⟩)) ?_
                  refine E_bipush (v := nI 9) dX12_laysPlaces_182 (by decide) ?_
                  refine E_icmp_ne_n (tgt := 192) dX12_laysPlaces_184 (by decide) (by omega) (by omega) (fun c_184 => ?_) (fun c_184 => ?_)
                  · refine E_iinc_n (d := 1) dX12_laysPlaces_192 rfl rfl rfl (by decide) rfl ?_
                    refine E_goto (tgt := 66) dX12_laysPlaces_195 (by decide) ?_
                    first
                      | exact ih _ _ _ hp (by omega) K
                      | (have e1 : plS c f l L A = A := cI_f (by assumption)
                         rw [e1] at K
                         exact ih _ _ _ hp (by omega) K)
                      | (have e1 : plS c f l L A = A := (cI_t (by assumption)).trans ((cI_f (by omega)).trans ((cI_f (by omega)).trans ((cI_f (by omega)).trans (cI_f (by omega)))))
                         rw [e1] at K
                         exact ih _ _ _ hp (by omega) K)
                  · refine E_aload_n dX12_laysPlaces_187 rfl ?_
                    refine E_iload_n dX12_laysPlaces_188 rfl ?_
                    refine E_callV1 (fr' := 4) (k1 := 0) (n1 := 0) (k2 := 0) (n2 := 0) dX12_laysPlaces_189 kO_X12_setsOnMarks kL_X12_377 (l_128 hL) (k_128 hL) ⟨by decide, rfl⟩ rfl (by decide) (by decide) (by exact Nat.le_of_ble_eq_true rfl) rfl ?_
                    have e1 : plS c f l L A = _ := (cI_t (by assumption)).trans ((cI_f (by omega)).trans ((cI_f (by omega)).trans ((cI_f (by omega)).trans (cI_t (by omega)))))
                    rw [e1] at K
                    refine sp_X12_setsOnMarks hp (by omega) (fun M hp => ?_)
                    have h := hp.1
                    have hL := h.lay
                    refine gKn ?_
                    refine E_iinc_n (d := 1) dX12_laysPlaces_192 rfl rfl rfl (by decide) rfl ?_
                    refine E_goto (tgt := 66) dX12_laysPlaces_195 (by decide) ?_
                    first
                      | exact ih _ _ _ hp (by omega) K
                      | (have e1 : plS c f l L A = A := cI_f (by assumption)
                         rw [e1] at K
                         exact ih _ _ _ hp (by omega) K)
                      | (have e1 : plS c f l L A = A := (cI_t (by assumption)).trans ((cI_f (by omega)).trans ((cI_f (by omega)).trans ((cI_f (by omega)).trans (cI_f (by omega)))))
                         rw [e1] at K
                         exact ih _ _ _ hp (by omega) K)
              · refine E_aload_n dX12_laysPlaces_149 rfl ?_
                refine E_getRL dX12_laysPlaces_150 kF_X12_13 kY_12 (Or.inr ⟨_, rfl⟩) (l_128 hL) (k_128 hL) (r_128_3 hL) ?_
                refine E_iload_n dX12_laysPlaces_153 rfl ?_
                refine E_ialdL (v := nI (cN _ 130 _)) dX12_laysPlaces_154 (l_130 hL) (k_130 hL) rfl (by first | omega | exact h.n256 _) (by decide) (h.gc (Or.inl ⟨by decide, by decide, by decide⟩)) ?_
                refine E_bipush (v := nI 8) dX12_laysPlaces_155 (by decide) ?_
                refine E_icmp_ne_n (tgt := 168) dX12_laysPlaces_157 (by decide) (by omega) (by omega) (fun c_157 => ?_) (fun c_157 => ?_)
                · refine E_aload_n dX12_laysPlaces_168 rfl ?_
                  refine E_iload_n dX12_laysPlaces_169 rfl ?_
                  refine E_callV1 (fr' := 1) (k1 := 0) (n1 := 0) (k2 := 0) (n2 := 0) dX12_laysPlaces_170 kO_X12_isForTongue kL_X12_350 (l_128 hL) (k_128 hL) ⟨by decide, rfl⟩ rfl (by decide) (by decide) (by exact Nat.le_of_ble_eq_true rfl) rfl ?_
                  refine sp_X12_isForTongue h (by omega) ?_
                  refine gKv ?_
                  refine E_if_eq_b (tgt := 192) dX12_laysPlaces_173 (by decide) (fun c_173 => ?_) (fun c_173 => ?_)
                  · refine E_iinc_n (d := 1) dX12_laysPlaces_192 rfl rfl rfl (by decide) rfl ?_
                    refine E_goto (tgt := 66) dX12_laysPlaces_195 (by decide) ?_
                    first
                      | exact ih _ _ _ hp (by omega) K
                      | (have e1 : plS c f l L A = A := cI_f (by assumption)
                         rw [e1] at K
                         exact ih _ _ _ hp (by omega) K)
                      | (have e1 : plS c f l L A = A := (cI_t (by assumption)).trans ((cI_f (by omega)).trans ((cI_f (by omega)).trans ((cI_f (by omega)).trans (cI_f (by omega)))))
                         rw [e1] at K
                         exact ih _ _ _ hp (by omega) K)
                  · refine E_aload_n dX12_laysPlaces_176 rfl ?_
                    refine E_getRL dX12_laysPlaces_177 kF_X12_13 kY_12 (Or.inr ⟨_, rfl⟩) (l_128 hL) (k_128 hL) (r_128_3 hL) ?_
                    refine E_iload_n dX12_laysPlaces_180 rfl ?_
                    refine E_ialdL (v := nI (cN _ 130 _)) dX12_laysPlaces_181 (l_130 hL) (k_130 hL) rfl (by first | omega | exact h.n256 _) (by decide) (h.gc (Or.inl ⟨by decide, by decide, by decide⟩)) ?_
                    refine E_bipush (v := nI 9) dX12_laysPlaces_182 (by decide) ?_
                    refine E_icmp_ne_n (tgt := 192) dX12_laysPlaces_184 (by decide) (by omega) (by omega) (fun c_184 => ?_) (fun c_184 => ?_)
                    · refine E_iinc_n (d := 1) dX12_laysPlaces_192 rfl rfl rfl (by decide) rfl ?_
                      refine E_goto (tgt := 66) dX12_laysPlaces_195 (by decide) ?_
                      first
                        | exact ih _ _ _ hp (by omega) K
                        | (have e1 : plS c f l L A = A := cI_f (by assumption)
                           rw [e1] at K
                           exact ih _ _ _ hp (by omega) K)
                        | (have e1 : plS c f l L A = A := (cI_t (by assumption)).trans ((cI_f (by omega)).trans ((cI_f (by omega)).trans ((cI_f (by omega)).trans (cI_f (by omega)))))
                           rw [e1] at K
                           exact ih _ _ _ hp (by omega) K)
                    · refine E_aload_n dX12_laysPlaces_187 rfl ?_
                      refine E_iload_n dX12_laysPlaces_188 rfl ?_
                      refine E_callV1 (fr' := 4) (k1 := 0) (n1 := 0) (k2 := 0) (n2 := 0) dX12_laysPlaces_189 kO_X12_setsOnMarks kL_X12_377 (l_128 hL) (k_128 hL) ⟨by decide, rfl⟩ rfl (by decide) (by decide) (by exact Nat.le_of_ble_eq_true rfl) rfl ?_
                      have e1 : plS c f l L A = _ := (cI_t (by assumption)).trans ((cI_f (by omega)).trans ((cI_f (by omega)).trans ((cI_f (by omega)).trans (cI_t (by omega)))))
                      rw [e1] at K
                      refine sp_X12_setsOnMarks hp (by omega) (fun M hp => ?_)
                      have h := hp.1
                      have hL := h.lay
                      refine gKn ?_
                      refine E_iinc_n (d := 1) dX12_laysPlaces_192 rfl rfl rfl (by decide) rfl ?_
                      refine E_goto (tgt := 66) dX12_laysPlaces_195 (by decide) ?_
                      first
                        | exact ih _ _ _ hp (by omega) K
                        | (have e1 : plS c f l L A = A := cI_f (by assumption)
                           rw [e1] at K
                           exact ih _ _ _ hp (by omega) K)
                        | (have e1 : plS c f l L A = A := (cI_t (by assumption)).trans ((cI_f (by omega)).trans ((cI_f (by omega)).trans ((cI_f (by omega)).trans (cI_f (by omega)))))
                           rw [e1] at K
                           exact ih _ _ _ hp (by omega) K)
                · refine E_aload_n dX12_laysPlaces_160 rfl ?_
                  refine E_iload_n dX12_laysPlaces_161 rfl ?_
                  refine E_callV1 (fr' := 3) (k1 := 0) (n1 := 0) (k2 := 0) (n2 := 0) dX12_laysPlaces_162 kO_X12_setsOnBases kL_X12_374 (l_128 hL) (k_128 hL) ⟨by decide, rfl⟩ rfl (by decide) (by decide) (by exact Nat.le_of_ble_eq_true rfl) rfl ?_
                  have e1 : plS c f l L A = _ := (cI_t (by assumption)).trans ((cI_f (by omega)).trans ((cI_f (by omega)).trans (cI_t (by omega))))
                  rw [e1] at K
                  refine sp_X12_setsOnBases hp (by omega) (fun M hp => ?_)
                  have h := hp.1
                  have hL := h.lay
                  refine gKn ?_
                  refine E_goto (tgt := 192) dX12_laysPlaces_165 (by decide) ?_
                  refine E_iinc_n (d := 1) dX12_laysPlaces_192 rfl rfl rfl (by decide) rfl ?_
                  refine E_goto (tgt := 66) dX12_laysPlaces_195 (by decide) ?_
                  first
                    | exact ih _ _ _ hp (by omega) K
                    | (have e1 : plS c f l L A = A := cI_f (by assumption)
                       rw [e1] at K
                       exact ih _ _ _ hp (by omega) K)
                    | (have e1 : plS c f l L A = A := (cI_t (by assumption)).trans ((cI_f (by omega)).trans ((cI_f (by omega)).trans ((cI_f (by omega)).trans (cI_f (by omega)))))
                       rw [e1] at K
                       exact ih _ _ _ hp (by omega) K)
            · refine E_aload_n dX12_laysPlaces_133 rfl ?_
              refine E_iload_n dX12_laysPlaces_134 rfl ?_
              refine E_callV1 (fr' := 4) (k1 := 0) (n1 := 0) (k2 := 0) (n2 := 0) dX12_laysPlaces_135 kO_X12_curves kL_X12_371 (l_128 hL) (k_128 hL) ⟨by decide, rfl⟩ rfl (by decide) (by decide) (by exact Nat.le_of_ble_eq_true rfl) rfl ?_
              have e1 : plS c f l L A = _ := (cI_t (by assumption)).trans ((cI_f (by omega)).trans (cI_t (by omega)))
              rw [e1] at K
              refine sp_X12_curves hp (by omega) (fun M hp => ?_)
              have h := hp.1
              have hL := h.lay
              refine gKn ?_
              refine E_goto (tgt := 192) dX12_laysPlaces_138 (by decide) ?_
              refine E_iinc_n (d := 1) dX12_laysPlaces_192 rfl rfl rfl (by decide) rfl ?_
              refine E_goto (tgt := 66) dX12_laysPlaces_195 (by decide) ?_
              first
                | exact ih _ _ _ hp (by omega) K
                | (have e1 : plS c f l L A = A := cI_f (by assumption)
                   rw [e1] at K
                   exact ih _ _ _ hp (by omega) K)
                | (have e1 : plS c f l L A = A := (cI_t (by assumption)).trans ((cI_f (by omega)).trans ((cI_f (by omega)).trans ((cI_f (by omega)).trans (cI_f (by omega)))))
                   rw [e1] at K
                   exact ih _ _ _ hp (by omega) K)
        · refine E_aload_n dX12_laysPlaces_106 rfl ?_
          refine E_iload_n dX12_laysPlaces_107 rfl ?_
          refine E_callV1 (fr' := 4) (k1 := 0) (n1 := 0) (k2 := 0) (n2 := 0) dX12_laysPlaces_108 kO_X12_pairs kL_X12_368 (l_128 hL) (k_128 hL) ⟨by decide, rfl⟩ rfl (by decide) (by decide) (by exact Nat.le_of_ble_eq_true rfl) rfl ?_
          have e1 : plS c f l L A = _ := (cI_t (by assumption)).trans (cI_t (by omega))
          rw [e1] at K
          refine sp_X12_pairs hp (by omega) (fun M hp => ?_)
          have h := hp.1
          have hL := h.lay
          refine gKn ?_
          refine E_goto (tgt := 192) dX12_laysPlaces_111 (by decide) ?_
          refine E_iinc_n (d := 1) dX12_laysPlaces_192 rfl rfl rfl (by decide) rfl ?_
          refine E_goto (tgt := 66) dX12_laysPlaces_195 (by decide) ?_
          first
            | exact ih _ _ _ hp (by omega) K
            | (have e1 : plS c f l L A = A := cI_f (by assumption)
               rw [e1] at K
               exact ih _ _ _ hp (by omega) K)
            | (have e1 : plS c f l L A = A := (cI_t (by assumption)).trans ((cI_f (by omega)).trans ((cI_f (by omega)).trans ((cI_f (by omega)).trans (cI_f (by omega)))))
               rw [e1] at K
               exact ih _ _ _ hp (by omega) K)
set_option maxRecDepth 100000 in
set_option maxHeartbeats 4000000 in
theorem sp_X12_laysPlaces {g : gG} {M : gM} {Q : Option Value ⊕ String → gM → Prop} {c : Cf} {f : Nat} {M0 : gM} {L : List Gl} {w : Int32} (h : mX c f M0 L w M) (K : ∀ M, mP c f M0 L w (plc c f L) M → Q (.inl none) M) : E g 5 0 0 mX12_laysPlaces 0 [.ref 129, .null] [] M Q := by
  have hL := h.lay
  have hf := h.hf
  have hn := h.len
  refine E_iconst (v := nI 0) dX12_laysPlaces_0 (by decide) ?_
  refine E_istore_n dX12_laysPlaces_1 (Nat.le_of_ble_eq_true rfl) (by decide) rfl ?_
  refine lp0_X12_laysPlaces (fun M v1 hp => ?_) 0 (Nat.zero_le _) M h (fun q j _ hj => by omega)
  have h := hp.1
  have hL := h.lay
  refine E_bipush (v := nI 12) dX12_laysPlaces_58 (by decide) ?_
  refine E_aload_n dX12_laysPlaces_60 rfl ?_
  refine E_getIL (v := nI f) dX12_laysPlaces_61 kF_X12_279 kY_12 (Or.inl rfl) (l_128 hL) (k_128 hL) h.gf ?_
  refine E_imul_n dX12_laysPlaces_64 ?_
  refine E_istore_n dX12_laysPlaces_65 (Nat.le_of_ble_eq_true rfl) (by decide) rfl ?_
  exact lp_X12_laysPlaces _ _ _ _ hp rfl K
def smA (A : Pl) : Nat → Int32
  | 0 => nI 0
  | k + 1 => smA A k + A 0 k
theorem smA_congr {A B : Pl} : ∀ {n : Nat}, (∀ i, i < n → A 0 i = B 0 i) → smA A n = smA B n
  | 0, _ => rfl
  | n + 1, h => by show smA A n + A 0 n = smA B n + B 0 n; rw [smA_congr (fun i hi => h i (by omega)), h n (by omega)]
set_option maxRecDepth 100000 in
set_option maxHeartbeats 4000000 in
theorem lp_X12_wide {g : gG} {M : gM} {Q : Option Value ⊕ String → gM → Prop} (hL : gLay M) {n : Nat} (hn : n ≤ 64) (hg : mI M 128 21 = nI n) {A : Pl} (hA : ∀ i, i < n → mI M 152 i = A 0 i) (K : Q (.inl (some (.int (smA A n)))) M) : ∀ k, k ≤ n → ∀ v, v = smA A k → E g 1 0 0 mX12_wide 4 [.ref 129, .int v, .int (nI k)] [] M Q := by
  refine lpUp n (fun k hk ih => ?_)
  intro v hv
  refine E_iload_n dX12_wide_4 rfl ?_
  refine E_aload_n dX12_wide_5 rfl ?_
  refine E_getIL (v := nI n) dX12_wide_6 kF_X12_235 kY_12 (Or.inl rfl) (l_128 hL) (k_128 hL) hg ?_
  refine E_icmp_ge_n (tgt := 27) dX12_wide_9 (by decide) (by omega) (by omega) (fun c_9 => ?_) (fun c_9 => ?_)
  · refine E_iload_n dX12_wide_27 rfl ?_
    refine E_iret dX12_wide_28 (Or.inl rfl) ?_
    obtain rfl : k = n := by omega
    rw [hv]; exact K
  · refine E_iload_n dX12_wide_12 rfl ?_
    refine E_aload_n dX12_wide_13 rfl ?_
    refine E_getRL dX12_wide_14 kF_X12_84 kY_12 (Or.inr ⟨_, rfl⟩) (l_128 hL) (k_128 hL) (r_128_29 hL) ?_
    refine E_iload_n dX12_wide_17 rfl ?_
    refine E_ialdL (v := _) dX12_wide_18 (l_152 hL) (k_152 hL) rfl (by omega) (by decide) (hA _ (by omega)) ?_
    refine E_iadd dX12_wide_19 ?_
    refine E_istore_n dX12_wide_20 (Nat.le_of_ble_eq_true rfl) (by decide) rfl ?_
    refine E_iinc_n (d := 1) dX12_wide_21 rfl rfl rfl (by decide) rfl ?_
    refine E_goto (tgt := 4) dX12_wide_24 (by decide) ?_
    exact ih (by omega) _ (by rw [hv]; rfl)
set_option maxRecDepth 100000 in
set_option maxHeartbeats 4000000 in
theorem sp_X12_wide {g : gG} {M : gM} {Q : Option Value ⊕ String → gM → Prop} (hL : gLay M) {n : Nat} (hn : n ≤ 64) (hg : mI M 128 21 = nI n) {A : Pl} (hA : ∀ i, i < n → mI M 152 i = A 0 i) (K : Q (.inl (some (.int (smA A n)))) M) : E g 1 0 0 mX12_wide 0 [.ref 129, .null, .null] [] M Q := by
  refine E_iconst (v := nI 0) dX12_wide_0 (by decide) ?_
  refine E_istore_n dX12_wide_1 (Nat.le_of_ble_eq_true rfl) (by decide) rfl ?_
  refine E_iconst (v := nI 0) dX12_wide_2 (by decide) ?_
  refine E_istore_n dX12_wide_3 (Nat.le_of_ble_eq_true rfl) (by decide) rfl ?_
  exact lp_X12_wide hL hn hg hA K 0 (Nat.zero_le _) _ rfl
def onK (A : Pl) (n : Nat) : Prop := ∀ i, i < n → A 2 i = -100 ∨ ∃ b, b < i ∧ A 2 i = nI b
noncomputable def stX (jn : Nat) (left all : Int32) (k : Nat) (A : Pl) : Pl := u2 A 5 k (left + cI (jn = 0) (smA A k) (all - smA A (k + 1)))
noncomputable def stH (k b : Nat) (A : Pl) : Pl := u2 (u2 A 5 k (A 5 b + A 3 k)) 1 k (A 1 b + A 4 k)
noncomputable def stS1 (jn : Nat) (left all : Int32) (k : Nat) (A : Pl) : Pl := cI (A 2 k = -100) (stX jn left all k A) (stH k (gN (A 2 k)) (stX jn left all k A))
noncomputable def std (jn : Nat) (left all : Int32) : Nat → Pl → Pl
  | 0, A => A
  | k + 1, A => stS1 jn left all k (std jn left all k A)
theorem stS1_r {jn : Nat} {left all : Int32} {k : Nat} {A : Pl} {q : Nat} (h1 : ¬ q = 5) (h2 : ¬ q = 1) : stS1 jn left all k A q = A q := funext fun i => by
  unfold stS1
  by_cases e : A 2 k = -100
  · rw [cI_t e]; unfold stX u2; rw [if_neg (by omega)]
  · rw [cI_f e]; unfold stH stX u2; rw [if_neg (by omega), if_neg (by omega), if_neg (by omega)]
theorem std_r {jn : Nat} {left all : Int32} {A : Pl} {q : Nat} (h1 : ¬ q = 5) (h2 : ¬ q = 1) : ∀ k, std jn left all k A q = A q
  | 0 => rfl
  | k + 1 => (stS1_r h1 h2).trans (std_r h1 h2 k)
theorem onK_std {jn : Nat} {left all : Int32} {A : Pl} {n : Nat} (h : onK A n) (k : Nat) : onK (std jn left all k A) n := fun i hi => by
  rw [std_r (by decide) (by decide)]; exact h i hi
theorem smA_std {jn : Nat} {left all : Int32} {A : Pl} (k n : Nat) : smA (std jn left all k A) n = smA A n := smA_congr (fun i _ => by rw [std_r (by decide) (by decide)])
def mx5 (A : Pl) (k : Nat) (M : gM) : Prop := ∀ j, j < k → mI M 157 j = A 5 j
set_option maxRecDepth 100000 in
set_option maxHeartbeats 4000000 in
theorem st_X12_stands {g : gG} {M : gM} {Q : Option Value ⊕ String → gM → Prop} {c : Cf} {f : Nat} {M0 : gM} {L : List Gl} {w : Int32} {A : Pl} (hp : mP c f M0 L w A M) {jn k : Nat} {left all : Int32} (hj : jn ≤ 1) (hk : k < L.length) (ho : onK A L.length) (hx : mx5 A k M) (K : ∀ M v6, mP c f M0 L w (stS1 jn left all k A) M → mx5 (stS1 jn left all k A) (k + 1) M → E g 2 0 0 mX12_stands 122 [.ref 129, .int (nI jn), .int left, .int (smA A (k + 1)), .int all, .int (nI k), v6] [] M Q) : ∀ v6, E g 2 0 0 mX12_stands 20 [.ref 129, .int (nI jn), .int left, .int (smA A k), .int all, .int (nI k), v6] [] M Q := by
  intro v6
  have h := hp.1
  have hL := h.lay
  have hf := h.hf
  have hn := h.len
  unfold stS1 at K
  have fin : ∀ v, v = cI (jn = 0) (smA A k) (all - smA A (k + 1)) → E g 2 0 0 mX12_stands 53 [.ref 129, .int (nI jn), .int left, .int (smA A k), .int all, .int (nI k), .int (smA A (k + 1))] [] (sI M 157 k (left + v)) Q := by
    intro v hv
    have hp : mP c f M0 L w (stX jn left all k A) (sI M 157 k (left + v)) := by subst hv; exact hp.setx
    have hx : mx5 (stX jn left all k A) (k + 1) (sI M 157 k (left + v)) := fun j hj => by
      unfold stX u2
      rw [mI_sI]
      by_cases e : j = k
      · subst e; rw [if_pos ⟨rfl, rfl⟩, if_pos ⟨rfl, rfl⟩, hv]
      · rw [if_neg (fun q => e q.2), if_neg (fun q => e q.2)]; exact hx j (by omega)
    have eo : stX jn left all k A 2 k = A 2 k := by unfold stX u2; rw [if_neg (by omega)]
    generalize sI M 157 k (left + v) = M at *
    have h := hp.1
    have hL := h.lay
    rcases ho k hk with q | ⟨b, q1, q2⟩
    · rw [cI_t q] at K
      refine E_iload dX12_stands_53 rfl ?_
      refine E_istore_n dX12_stands_55 (Nat.le_of_ble_eq_true rfl) (by decide) rfl ?_
      refine E_aload_n dX12_stands_56 rfl ?_
      refine E_getRL dX12_stands_57 kF_X12_90 kY_12 (Or.inr ⟨_, rfl⟩) (l_128 hL) (k_128 hL) (r_128_31 hL) ?_
      refine E_iload dX12_stands_60 rfl ?_
      refine E_ialdL (v := -100) dX12_stands_62 (l_154 hL) (k_154 hL) rfl (by first | omega | exact h.n256 _) (by decide) ((hp.at (q := 2) (by decide) hk).trans (eo.trans q)) ?_
      refine E_bipush (v := -100) dX12_stands_63 (by decide) ?_
      refine E_icmp_eq (tgt := 122) dX12_stands_65 (by decide) (fun _ => ?_) (fun c0 => absurd (by decide) c0)
      exact K _ _ hp hx
    · rw [cI_f (by rw [q2]; exact nI_ne100 (by omega)), q2, gN_nI (by omega)] at K
      have ho1 : mI M 154 k = nI b := (hp.at (q := 2) (by decide) hk).trans (eo.trans q2)
      refine E_iload dX12_stands_53 rfl ?_
      refine E_istore_n dX12_stands_55 (Nat.le_of_ble_eq_true rfl) (by decide) rfl ?_
      refine E_aload_n dX12_stands_56 rfl ?_
      refine E_getRL dX12_stands_57 kF_X12_90 kY_12 (Or.inr ⟨_, rfl⟩) (l_128 hL) (k_128 hL) (r_128_31 hL) ?_
      refine E_iload dX12_stands_60 rfl ?_
      refine E_ialdL (v := nI b) dX12_stands_62 (l_154 hL) (k_154 hL) rfl (by first | omega | exact h.n256 _) (by decide) ho1 ?_
      refine E_bipush (v := -100) dX12_stands_63 (by decide) ?_
      refine E_icmp_eq (tgt := 122) dX12_stands_65 (by decide) (fun c0 => absurd c0 (nI_ne100 (by omega))) (fun _ => ?_)
      refine E_aload_n dX12_stands_68 rfl ?_
      refine E_getRL dX12_stands_69 kF_X12_99 kY_12 (Or.inr ⟨_, rfl⟩) (l_128 hL) (k_128 hL) (r_128_34 hL) ?_
      refine E_iload dX12_stands_72 rfl ?_
      refine E_aload_n dX12_stands_74 rfl ?_
      refine E_getRL dX12_stands_75 kF_X12_99 kY_12 (Or.inr ⟨_, rfl⟩) (l_128 hL) (k_128 hL) (r_128_34 hL) ?_
      refine E_aload_n dX12_stands_78 rfl ?_
      refine E_getRL dX12_stands_79 kF_X12_90 kY_12 (Or.inr ⟨_, rfl⟩) (l_128 hL) (k_128 hL) (r_128_31 hL) ?_
      refine E_iload dX12_stands_82 rfl ?_
      refine E_ialdL (v := nI b) dX12_stands_84 (l_154 hL) (k_154 hL) rfl (by first | omega | exact h.n256 _) (by decide) ho1 ?_
      refine E_ialdL (v := _) dX12_stands_85 (l_157 hL) (k_157 hL) rfl (by first | omega | exact h.n256 _) (by decide) (hx _ (by omega)) ?_
      refine E_aload_n dX12_stands_86 rfl ?_
      refine E_getRL dX12_stands_87 kF_X12_93 kY_12 (Or.inr ⟨_, rfl⟩) (l_128 hL) (k_128 hL) (r_128_32 hL) ?_
      refine E_iload dX12_stands_90 rfl ?_
      refine E_ialdL (v := _) dX12_stands_92 (l_155 hL) (k_155 hL) rfl (by first | omega | exact h.n256 _) (by decide) (hp.at (q := 3) (by decide) (by omega)) ?_
      refine E_iadd dX12_stands_93 ?_
      refine E_iast dX12_stands_94 (l_157 hL) (k_157 hL) rfl (by first | omega | exact h.n256 _) (by decide) ?_
      have hp : mP c f M0 L w (u2 (stX jn left all k A) 5 k (stX jn left all k A 5 b + stX jn left all k A 3 k)) (sI M 157 k (stX jn left all k A 5 b + stX jn left all k A 3 k)) := hp.setx
      have hx : mx5 (u2 (stX jn left all k A) 5 k (stX jn left all k A 5 b + stX jn left all k A 3 k)) (k + 1) (sI M 157 k (stX jn left all k A 5 b + stX jn left all k A 3 k)) := fun j hj => by
        unfold u2
        rw [mI_sI]
        by_cases e : j = k
        · subst e; rw [if_pos ⟨rfl, rfl⟩, if_pos ⟨rfl, rfl⟩]
        · rw [if_neg (fun q => e q.2), if_neg (fun q => e q.2)]; exact hx j (by omega)
      have ho1 : mI (sI M 157 k (stX jn left all k A 5 b + stX jn left all k A 3 k)) 154 k = nI b := by rw [mI_sI, if_neg (by omega)]; exact ho1
      have e1 : ∀ i, u2 (stX jn left all k A) 5 k (stX jn left all k A 5 b + stX jn left all k A 3 k) 1 i = stX jn left all k A 1 i := fun i => by unfold u2; rw [if_neg (by omega)]
      have e4 : ∀ i, u2 (stX jn left all k A) 5 k (stX jn left all k A 5 b + stX jn left all k A 3 k) 4 i = stX jn left all k A 4 i := fun i => by unfold u2; rw [if_neg (by omega)]
      have h1b := (hp.at (q := 1) (by decide) (show b < L.length by omega)).trans (e1 b)
      have h4k := (hp.at (q := 4) (by decide) hk).trans (e4 k)
      have x1 : ∀ i, stX jn left all k A 1 i = A 1 i := fun i => by unfold stX u2; rw [if_neg (by omega)]
      have x4 : ∀ i, stX jn left all k A 4 i = A 4 i := fun i => by unfold stX u2; rw [if_neg (by omega)]
      generalize sI M 157 k (stX jn left all k A 5 b + stX jn left all k A 3 k) = M at *
      have h := hp.1
      have hL := h.lay
      refine E_aload_n dX12_stands_95 rfl ?_
      refine E_getRL dX12_stands_96 kF_X12_87 kY_12 (Or.inr ⟨_, rfl⟩) (l_128 hL) (k_128 hL) (r_128_30 hL) ?_
      refine E_iload dX12_stands_99 rfl ?_
      refine E_aload_n dX12_stands_101 rfl ?_
      refine E_getRL dX12_stands_102 kF_X12_87 kY_12 (Or.inr ⟨_, rfl⟩) (l_128 hL) (k_128 hL) (r_128_30 hL) ?_
      refine E_aload_n dX12_stands_105 rfl ?_
      refine E_getRL dX12_stands_106 kF_X12_90 kY_12 (Or.inr ⟨_, rfl⟩) (l_128 hL) (k_128 hL) (r_128_31 hL) ?_
      refine E_iload dX12_stands_109 rfl ?_
      refine E_ialdL (v := nI b) dX12_stands_111 (l_154 hL) (k_154 hL) rfl (by first | omega | exact h.n256 _) (by decide) ho1 ?_
      refine E_ialdL (v := _) dX12_stands_112 (l_153 hL) (k_153 hL) rfl (by first | omega | exact h.n256 _) (by decide) h1b ?_
      refine E_aload_n dX12_stands_113 rfl ?_
      refine E_getRL dX12_stands_114 kF_X12_96 kY_12 (Or.inr ⟨_, rfl⟩) (l_128 hL) (k_128 hL) (r_128_33 hL) ?_
      refine E_iload dX12_stands_117 rfl ?_
      refine E_ialdL (v := _) dX12_stands_119 (l_156 hL) (k_156 hL) rfl (by first | omega | exact h.n256 _) (by decide) h4k ?_
      refine E_iadd dX12_stands_120 ?_
      refine E_iast dX12_stands_121 (l_153 hL) (k_153 hL) rfl (by first | omega | exact h.n256 _) (by decide) ?_
      refine K _ _ (hp.set (q := 1) rfl (by decide)) (fun j hj => ?_)
      rw [mI_sI, if_neg (by omega)]
      refine (hx j hj).trans ?_
      unfold stH u2
      rw [if_neg (show ¬ (5 = 1 ∧ j = k) by omega)]
  refine E_iload_n dX12_stands_20 rfl ?_
  refine E_aload_n dX12_stands_21 rfl ?_
  refine E_getRL dX12_stands_22 kF_X12_84 kY_12 (Or.inr ⟨_, rfl⟩) (l_128 hL) (k_128 hL) (r_128_29 hL) ?_
  refine E_iload dX12_stands_25 rfl ?_
  refine E_ialdL (v := _) dX12_stands_27 (l_152 hL) (k_152 hL) rfl (by first | omega | exact h.n256 _) (by decide) (hp.at (q := 0) (by decide) (by omega)) ?_
  refine E_iadd dX12_stands_28 ?_
  refine E_istore dX12_stands_29 (Nat.le_of_ble_eq_true rfl) (by decide) rfl ?_
  refine E_aload_n dX12_stands_31 rfl ?_
  refine E_getRL dX12_stands_32 kF_X12_99 kY_12 (Or.inr ⟨_, rfl⟩) (l_128 hL) (k_128 hL) (r_128_34 hL) ?_
  refine E_iload dX12_stands_35 rfl ?_
  refine E_iload_n dX12_stands_37 rfl ?_
  refine E_iload_n dX12_stands_38 rfl ?_
  refine E_if_eq_n (tgt := 50) dX12_stands_39 (by decide) (by omega) (fun c_39 => ?_) (fun c_39 => ?_)
  · refine E_iload_n dX12_stands_50 rfl ?_
    refine E_iadd dX12_stands_51 ?_
    refine E_iast dX12_stands_52 (l_157 hL) (k_157 hL) rfl (by first | omega | exact h.n256 _) (by decide) ?_
    first
      | exact fin _ (cI_t (by omega)).symm
      | exact fin _ (cI_f (by omega)).symm
  · refine E_iload dX12_stands_42 rfl ?_
    refine E_iload dX12_stands_44 rfl ?_
    refine E_isub dX12_stands_46 ?_
    refine E_goto (tgt := 51) dX12_stands_47 (by decide) ?_
    refine E_iadd dX12_stands_51 ?_
    refine E_iast dX12_stands_52 (l_157 hL) (k_157 hL) rfl (by first | omega | exact h.n256 _) (by decide) ?_
    first
      | exact fin _ (cI_t (by omega)).symm
      | exact fin _ (cI_f (by omega)).symm
set_option maxRecDepth 100000 in
set_option maxHeartbeats 4000000 in
theorem lp_X12_stands {g : gG} {Q : Option Value ⊕ String → gM → Prop} {c : Cf} {f : Nat} {M0 : gM} {L : List Gl} {w : Int32} {A : Pl} {jn : Nat} {left all : Int32} (hj : jn ≤ 1) (ho : onK A L.length) (K : ∀ M, mP c f M0 L w (std jn left all L.length A) M → mx5 (std jn left all L.length A) L.length M → Q (.inl none) M) : ∀ k, k ≤ L.length → ∀ M v, mP c f M0 L w (std jn left all k A) M → mx5 (std jn left all k A) k M → v = smA A k → ∀ v6, E g 2 0 0 mX12_stands 11 [.ref 129, .int (nI jn), .int left, .int v, .int all, .int (nI k), v6] [] M Q := by
  refine lpUp L.length (fun k hk ih => ?_)
  intro M v hp hx hv v6
  have h := hp.1
  have hL := h.lay
  have hf := h.hf
  have hn := h.len
  refine E_iload dX12_stands_11 rfl ?_
  refine E_aload_n dX12_stands_13 rfl ?_
  refine E_getIL (v := nI _) dX12_stands_14 kF_X12_235 kY_12 (Or.inl rfl) (l_128 hL) (k_128 hL) h.gn ?_
  refine E_icmp_ge_n (tgt := 128) dX12_stands_17 (by decide) (by omega) (by omega) (fun c_17 => ?_) (fun c_17 => ?_)
  · refine E_vret dX12_stands_128 rfl ?_
    obtain rfl : k = L.length := by omega
    exact K _ hp hx
  · rw [hv, ← smA_std (jn := jn) (left := left) (all := all) k k]
    refine st_X12_stands hp hj (by omega) (onK_std ho k) hx (fun M v6 hp hx => ?_) _
    have h := hp.1
    have hL := h.lay
    refine E_iinc_n (d := 1) dX12_stands_122 rfl rfl rfl (by decide) rfl ?_
    refine E_goto (tgt := 11) dX12_stands_125 (by decide) ?_
    exact ih (by omega) _ _ hp hx (smA_std k (k + 1)) _
set_option maxRecDepth 100000 in
set_option maxHeartbeats 4000000 in
theorem sp_X12_stands {g : gG} {M : gM} {Q : Option Value ⊕ String → gM → Prop} {c : Cf} {f : Nat} {M0 : gM} {L : List Gl} {w : Int32} {A : Pl} (hp : mP c f M0 L w A M) {jn : Nat} {left : Int32} (hj : jn ≤ 1) (ho : onK A L.length) (K : ∀ M, mP c f M0 L w (std jn left (smA A L.length) L.length A) M → mx5 (std jn left (smA A L.length) L.length A) L.length M → Q (.inl none) M) : E g 2 0 0 mX12_stands 0 [.ref 129, .int (nI jn), .int left, .null, .null, .null, .null] [] M Q := by
  have h := hp.1
  have hL := h.lay
  have hf := h.hf
  have hn := h.len
  refine E_iconst (v := nI 0) dX12_stands_0 (by decide) ?_
  refine E_istore_n dX12_stands_1 (Nat.le_of_ble_eq_true rfl) (by decide) rfl ?_
  refine E_aload_n dX12_stands_2 rfl ?_
  refine E_callV0 (fr' := 1) (k1 := 0) (n1 := 0) (k2 := 0) (n2 := 0) dX12_stands_3 kO_X12_wide kL_X12_380 (l_128 hL) (k_128 hL) ⟨by decide, rfl⟩  (by decide) (by decide) (by exact Nat.le_of_ble_eq_true rfl) rfl ?_
  refine sp_X12_wide hL h.len h.gn (A := A) (fun i hi => hp.at (q := 0) (by decide) hi) ?_
  refine gKv ?_
  refine E_istore dX12_stands_6 (Nat.le_of_ble_eq_true rfl) (by decide) rfl ?_
  refine E_iconst (v := nI 0) dX12_stands_8 (by decide) ?_
  refine E_istore dX12_stands_9 (Nat.le_of_ble_eq_true rfl) (by decide) rfl ?_
  exact lp_X12_stands hj ho K 0 (Nat.zero_le _) M _ hp (fun j hj => by omega) rfl _
