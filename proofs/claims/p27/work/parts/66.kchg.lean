/-! the class: which rule fits -/
section CXF
variable {c : Cf} {P : Nat → Nat} {M0 M : gM} {L : List Gl} {π : Nat → Nat} {f tb : Nat}
theorem cX.fac (h : cX c P M0 L π M) (hF : mR M0 73 2 = fb f + 1) : mR M 73 2 = fb f + 1 := (h.fr.bkR (by unfold rwT; decide)).trans hF
theorem cX.tab (h : cX c P M0 L π M) (hT : mI M0 73 3 = nI tb) : mI M 73 3 = nI tb := (h.fr.bk (by unfold rwR; omega)).trans hT
theorem cX.lk (h : cX c P M0 L π M) {l p : Nat} (hk : kLk c M0 l p) : kLk c M l p := hk.mv (h.B.wf.lk l).2.2.2.2.2 (Nat.le_of_eq h.fr.n.symm) (fun a _ => by rw [h.fr.k]) (fun a j q _ => h.fr.bk (by unfold rwR; omega)) (fun a j q _ => h.fr.bkR (by unfold rwT; omega))
/-- what a change of the row keeps beside it changed -/
theorem cX.aux (h : cX c P M0 L π M) {a j : Nat} {v : Int32} (q : (a = 73 ∧ 4 ≤ j ∧ j ≤ 8) ∨ a = 74) : cX c P M0 L π (sI M a j v) := by
  refine ⟨h.1, h.2.1.wr (by unfold rwR; omega), (mI_ne (by omega)).trans h.n, h.2.2.2.1, h.2.2.2.2.1, fun i hi => ?_, h.ok⟩
  have hp := h.p64 (show i < 64 by have := h.len; omega)
  have := h.gl hi
  unfold glC at *
  rw [mI_ne (by omega), mI_ne (by omega), mI_ne (by omega), mI_ne (by omega), mI_ne (by omega), mI_ne (by omega), mI_ne (by omega)]
  exact this
end CXF
noncomputable def thB (c : Cf) (f l : Nat) (L : List Gl) (i : Nat) : Nat := cI (aft c f l L i < L.length) (aft c f l L (aft c f l L i)) L.length
def fsQ (c : Cf) (f : Nat) (L : List Gl) (l k i ea eb ec : Nat) : Prop := cN c 130 l = 0 ∨ (cN c 130 l = 1 ∧ L.length + mrN (rul c l k 3) ≤ 64) ∨ (cN c 130 l = 2 ∧ 0 < yE (gat L i)) ∨ (cN c 130 l = 3 ∧ thr c f L (rul c l k 1) eb ∧ thr c f L (rul c l k 2) ec) ∨
  (cN c 130 l = 4 ∧ thr c f L (rul c l k 0) ea ∧ ((rul c l k 2 = -100 ∧ thr c f L (rul c l k 3) eb) ∨ (¬ rul c l k 2 = -100 ∧ thr c f L (rul c l k 2) eb ∧ thr c f L (rul c l k 3) ec))) ∨ (cN c 130 l = 5 ∧ thr c f L (rul c l k 0) ea ∧ thr c f L (rul c l k 2) eb)
def fsP (c : Cf) (f : Nat) (L : List Gl) (l k i : Nat) : Prop := fsQ c f L l k i (ahd c f l L i) (aft c f l L i + 1) (thB c f l L i + 1)
def ftP (c : Cf) (f : Nat) (L : List Gl) (l k i : Nat) : Prop := begP c f l (yN (gat L i)) k ∧ fsP c f L l k i
noncomputable def fiA (c : Cf) (f : Nat) (L : List Gl) (l i : Nat) : Nat := fnd (fun k => ftP c f L l k i) (cN c 135 l) 0
theorem thr_e {c : Cf} {f : Nat} {L : List Gl} {item : Int32} {e : Nat} : thr c f L item e ↔ (item = -100 ∨ ((0 < e ∧ e ≤ L.length) ∧ isAt c f item (yN (gat L (e - 1))))) := by
  unfold thr
  constructor
  · rintro (h | ⟨h1, h2, h3⟩)
    · exact Or.inl h
    · exact Or.inr ⟨⟨h1, h2⟩, h3⟩
  · rintro (h | ⟨⟨h1, h2⟩, h3⟩)
    · exact Or.inl h
    · exact Or.inr ⟨h1, h2, h3⟩
theorem afV_n {n a : Nat} (h : a < n) : afV n a = nI a := cI_t h
theorem afV_0 {n a : Nat} (h : ¬ a < n) : afV n a = -100 := cI_f h
theorem leadOf_c {k : Nat} (h : k ≤ 3) : leadOf k = 0 := by unfold leadOf; rw [if_neg (by omega)]
set_option maxRecDepth 100000 in
set_option maxHeartbeats 4000000 in
theorem sp_X1_suitsT {g : gG} {M : gM} {Q : Option Value ⊕ String → gM → Prop} {c : Cf} {P : Nat → Nat} {M0 : gM} {L : List Gl} {π : Nat → Nat} (hc : cX c P M0 L π M) {f : Nat} (hf : f < 2) {item : Int32} {e : Nat} (K : Q (.inl (some (.int (b2i (thr c f L item e))))) M) : E g 1 0 0 mX1_suits 0 [.ref (fb f + 1), .int item, .int (nuV L e)] [] M Q := by
  unfold nuV
  by_cases q : 0 < e ∧ e ≤ L.length
  · rw [cI_t q]
    refine sp_X1_suits hc.B hf (hc.n256 _) ?_
    rw [b2i_congr (R := thr c f L item e) (by rw [thr_e]; exact ⟨fun z => z.elim Or.inl (fun z => Or.inr ⟨q, z⟩), fun z => z.elim Or.inl (fun z => Or.inr z.2)⟩)]
    exact K
  · rw [cI_f q]
    refine sp_X1_suitsN hc.B hf ?_
    rw [b2i_congr (R := thr c f L item e) (by rw [thr_e]; exact ⟨Or.inl, fun z => z.elim id (fun z => absurd z.1 q)⟩)]
    exact K
set_option maxRecDepth 100000 in
set_option maxHeartbeats 4000000 in
theorem sp_X8_numberAtA {g : gG} {M : gM} {Q : Option Value ⊕ String → gM → Prop} {c : Cf} {P : Nat → Nat} {M0 : gM} {L : List Gl} {π : Nat → Nat} (hc : cX c P M0 L π M) {a : Nat} (ha : a < 2 ^ 29) (K : Q (.inl (some (.int (nuV L (a + 1))))) M) : E g 1 0 0 mX8_numberAt 0 [.ref 7, .int (afV L.length a)] [] M Q := by
  by_cases q : a < L.length
  · rw [afV_n q]
    exact sp_X8_numberAt hc (by omega) K
  · rw [afV_0 q]
    refine sp_X8_numberAtI hc ?_
    have e : nuV L 0 = nuV L (a + 1) := by unfold nuV; rw [cI_f (by omega), cI_f (by omega)]
    rw [e]; exact K
set_option maxRecDepth 100000 in
set_option maxHeartbeats 4000000 in
theorem sp_X0_fits {g : gG} {M : gM} {Q : Option Value ⊕ String → gM → Prop} {c : Cf} {P : Nat → Nat} {M0 : gM} {L : List Gl} {π : Nat → Nat} (hc : cX c P M0 L π M) {f l p : Nat} (hf : f < 2) (hF0 : mR M0 73 2 = fb f + 1) (hk0 : kLk c M0 l p) {k i ea eb ec : Nat} (hkl : k < cN c 135 l) (hi : i < L.length) (hkd : cN c 130 l ≤ 5) (hA : mI M 73 6 = nuV L ea) (hS : mI M 73 7 = nuV L eb) (hT : mI M 73 8 = nuV L ec) (K : Q (.inl (some (.int (b2i (fsQ c f L l k i ea eb ec))))) M) : E g 2 0 0 mX0_fits 0 [.ref 74, .int (nI (cN c 130 l)), .ref (p + 2 + k + 1), .ref (8 + π i + 1)] [] M Q := by
  have hB := hc.B
  have hL := hB.lay
  have hn := hc.len
  have hk := hc.lk hk0
  have hl := hB.wf.lk l
  have he4 := hc.e4 i
  rcases (show cN c 130 l = 0 ∨ cN c 130 l = 1 ∨ cN c 130 l = 2 ∨ cN c 130 l = 3 ∨ cN c 130 l = 4 ∨ cN c 130 l = 5 by omega) with hx | hx | hx | hx | hx | hx <;> rw [hx]
  · refine E_iload_n dX0_fits_0 rfl ?_
    refine E_swOut (tgt := 243) dX0_fits_1 (by decide) (by decide) ?_
    refine E_iconst (v := nI 1) dX0_fits_243 (by decide) ?_
    refine E_iret dX0_fits_244 (Or.inr ⟨rfl, by decide⟩) ?_
    rw [← b2i_t (P := fsQ c f L l k i ea eb ec) (by unfold fsQ mrN; clear K; first | grind | (simp [cI, *]; done) | (simp [cI, *]; omega))]; exact K
  · refine E_iload_n dX0_fits_0 rfl ?_
    refine E_swIn (off := 35) (tgt := 36) dX0_fits_1 (by decide) (by decide) (by decide) (by decide) ?_
    refine E_aload_n dX0_fits_36 rfl ?_
    refine E_getRL dX0_fits_37 kF_X0_39 kY_0 (Or.inl ⟨_, rfl⟩) (l_73 hL) (k_73 hL) (r_73_0 hL) ?_
    refine E_getIL (v := nI (List.length _)) dX0_fits_40 kF_X0_52 kY_8 (Or.inl rfl) (l_6 hL) (k_6 hL) hc.n ?_
    refine E_aload_n dX0_fits_43 rfl ?_
    refine E_iconst (v := nI 3) dX0_fits_44 (by decide) ?_
    refine E_ialdL (v := _) dX0_fits_45 (hk.ltu (by omega)) (hk.kdu (by omega)) rfl (by omega) (by decide) (hk.rn (by omega) (by omega)) ?_
    refine E_bipush (v := -100) dX0_fits_46 (by decide) ?_
    refine E_icmp_ne_r (tgt := 55) dX0_fits_48 (by decide) (fun c_48 => ?_) (fun c_48 => ?_)
    · refine E_iconst (v := nI 2) dX0_fits_55 (by decide) ?_
      refine E_iadd_n dX0_fits_56 ?_
      refine E_bipush (v := nI 64) dX0_fits_57 (by decide) ?_
      refine E_icmp_gt_n (tgt := 66) dX0_fits_59 (by decide) (by omega) (by omega) (fun c_59 => ?_) (fun c_59 => ?_)
      · refine E_iconst (v := nI 0) dX0_fits_66 (by decide) ?_
        refine E_iret dX0_fits_67 (Or.inr ⟨rfl, by decide⟩) ?_
        rw [← b2i_f (P := fsQ c f L l k i ea eb ec) (by unfold fsQ mrN; clear K; first | grind | (simp [cI, *]; done) | (simp [cI, *]; omega))]; exact K
      · refine E_iconst (v := nI 1) dX0_fits_62 (by decide) ?_
        refine E_goto (tgt := 67) dX0_fits_63 (by decide) ?_
        refine E_iret dX0_fits_67 (Or.inr ⟨rfl, by decide⟩) ?_
        rw [← b2i_t (P := fsQ c f L l k i ea eb ec) (by unfold fsQ mrN; clear K; first | grind | (simp [cI, *]; done) | (simp [cI, *]; omega))]; exact K
    · refine E_iconst (v := nI 1) dX0_fits_51 (by decide) ?_
      refine E_goto (tgt := 56) dX0_fits_52 (by decide) ?_
      refine E_iadd_n dX0_fits_56 ?_
      refine E_bipush (v := nI 64) dX0_fits_57 (by decide) ?_
      refine E_icmp_gt_n (tgt := 66) dX0_fits_59 (by decide) (by omega) (by omega) (fun c_59 => ?_) (fun c_59 => ?_)
      · refine E_iconst (v := nI 0) dX0_fits_66 (by decide) ?_
        refine E_iret dX0_fits_67 (Or.inr ⟨rfl, by decide⟩) ?_
        rw [← b2i_f (P := fsQ c f L l k i ea eb ec) (by unfold fsQ mrN; clear K; first | grind | (simp [cI, *]; done) | (simp [cI, *]; omega))]; exact K
      · refine E_iconst (v := nI 1) dX0_fits_62 (by decide) ?_
        refine E_goto (tgt := 67) dX0_fits_63 (by decide) ?_
        refine E_iret dX0_fits_67 (Or.inr ⟨rfl, by decide⟩) ?_
        rw [← b2i_t (P := fsQ c f L l k i ea eb ec) (by unfold fsQ mrN; clear K; first | grind | (simp [cI, *]; done) | (simp [cI, *]; omega))]; exact K
  · refine E_iload_n dX0_fits_0 rfl ?_
    refine E_swIn (off := 67) (tgt := 68) dX0_fits_1 (by decide) (by decide) (by decide) (by decide) ?_
    refine E_aload_n dX0_fits_68 rfl ?_
    refine E_getIL (v := nI (yE (gat _ _))) dX0_fits_69 kF_X0_111 kY_2 (Or.inl rfl) (hc.glt (by omega)) (hc.gkd (by omega)) (hc.g2 (by omega)) ?_
    refine E_if_le_n (tgt := 79) dX0_fits_72 (by decide) (by omega) (fun c_72 => ?_) (fun c_72 => ?_)
    · refine E_iconst (v := nI 0) dX0_fits_79 (by decide) ?_
      refine E_iret dX0_fits_80 (Or.inr ⟨rfl, by decide⟩) ?_
      rw [← b2i_f (P := fsQ c f L l k i ea eb ec) (by unfold fsQ mrN; clear K; first | grind | (simp [cI, *]; done) | (simp [cI, *]; omega))]; exact K
    · refine E_iconst (v := nI 1) dX0_fits_75 (by decide) ?_
      refine E_goto (tgt := 80) dX0_fits_76 (by decide) ?_
      refine E_iret dX0_fits_80 (Or.inr ⟨rfl, by decide⟩) ?_
      rw [← b2i_t (P := fsQ c f L l k i ea eb ec) (by unfold fsQ mrN; clear K; first | grind | (simp [cI, *]; done) | (simp [cI, *]; omega))]; exact K
  · refine E_iload_n dX0_fits_0 rfl ?_
    refine E_swIn (off := 80) (tgt := 81) dX0_fits_1 (by decide) (by decide) (by decide) (by decide) ?_
    refine E_aload_n dX0_fits_81 rfl ?_
    refine E_getRL dX0_fits_82 kF_X0_15 kY_0 (Or.inl ⟨_, rfl⟩) (l_73 hL) (k_73 hL) (hc.fac hF0) ?_
    refine E_aload_n dX0_fits_85 rfl ?_
    refine E_iconst (v := nI 1) dX0_fits_86 (by decide) ?_
    refine E_ialdL (v := _) dX0_fits_87 (hk.ltu (by omega)) (hk.kdu (by omega)) rfl (by omega) (by decide) (hk.rn (by omega) (by omega)) ?_
    refine E_aload_n dX0_fits_88 rfl ?_
    refine E_getIL (v := nuV L eb) dX0_fits_89 kF_X0_33 kY_0 (Or.inl rfl) (l_73 hL) (k_73 hL) hS ?_
    refine E_callV2 (fr' := 1) (k1 := 0) (n1 := 0) (k2 := 0) (n2 := 0) dX0_fits_92 kO_X1_suits kL_X0_114 (hB.flt0 hf) (hB.fk0 hf) ⟨by decide, rfl⟩ rfl rfl (by decide) (by decide) (by exact Nat.le_of_ble_eq_true rfl) rfl ?_
    refine sp_X1_suitsT hc hf ?_
    refine gKv ?_
    refine E_if_eq_b (tgt := 119) dX0_fits_95 (by decide) (fun c_95 => ?_) (fun c_95 => ?_)
    · refine E_iconst (v := nI 0) dX0_fits_119 (by decide) ?_
      refine E_iret dX0_fits_120 (Or.inr ⟨rfl, by decide⟩) ?_
      rw [← b2i_f (P := fsQ c f L l k i ea eb ec) (by unfold fsQ mrN; clear K; first | grind | (simp [cI, *]; done) | (simp [cI, *]; omega))]; exact K
    · refine E_aload_n dX0_fits_98 rfl ?_
      refine E_getRL dX0_fits_99 kF_X0_15 kY_0 (Or.inl ⟨_, rfl⟩) (l_73 hL) (k_73 hL) (hc.fac hF0) ?_
      refine E_aload_n dX0_fits_102 rfl ?_
      refine E_iconst (v := nI 2) dX0_fits_103 (by decide) ?_
      refine E_ialdL (v := _) dX0_fits_104 (hk.ltu (by omega)) (hk.kdu (by omega)) rfl (by omega) (by decide) (hk.rn (by omega) (by omega)) ?_
      refine E_aload_n dX0_fits_105 rfl ?_
      refine E_getIL (v := nuV L ec) dX0_fits_106 kF_X0_36 kY_0 (Or.inl rfl) (l_73 hL) (k_73 hL) hT ?_
      refine E_callV2 (fr' := 1) (k1 := 0) (n1 := 0) (k2 := 0) (n2 := 0) dX0_fits_109 kO_X1_suits kL_X0_114 (hB.flt0 hf) (hB.fk0 hf) ⟨by decide, rfl⟩ rfl rfl (by decide) (by decide) (by exact Nat.le_of_ble_eq_true rfl) rfl ?_
      refine sp_X1_suitsT hc hf ?_
      refine gKv ?_
      refine E_if_eq_b (tgt := 119) dX0_fits_112 (by decide) (fun c_112 => ?_) (fun c_112 => ?_)
      · refine E_iconst (v := nI 0) dX0_fits_119 (by decide) ?_
        refine E_iret dX0_fits_120 (Or.inr ⟨rfl, by decide⟩) ?_
        rw [← b2i_f (P := fsQ c f L l k i ea eb ec) (by unfold fsQ mrN; clear K; first | grind | (simp [cI, *]; done) | (simp [cI, *]; omega))]; exact K
      · refine E_iconst (v := nI 1) dX0_fits_115 (by decide) ?_
        refine E_goto (tgt := 120) dX0_fits_116 (by decide) ?_
        refine E_iret dX0_fits_120 (Or.inr ⟨rfl, by decide⟩) ?_
        rw [← b2i_t (P := fsQ c f L l k i ea eb ec) (by unfold fsQ mrN; clear K; first | grind | (simp [cI, *]; done) | (simp [cI, *]; omega))]; exact K
  · refine E_iload_n dX0_fits_0 rfl ?_
    refine E_swIn (off := 120) (tgt := 121) dX0_fits_1 (by decide) (by decide) (by decide) (by decide) ?_
    refine E_aload_n dX0_fits_121 rfl ?_
    refine E_getRL dX0_fits_122 kF_X0_15 kY_0 (Or.inl ⟨_, rfl⟩) (l_73 hL) (k_73 hL) (hc.fac hF0) ?_
    refine E_aload_n dX0_fits_125 rfl ?_
    refine E_iconst (v := nI 0) dX0_fits_126 (by decide) ?_
    refine E_ialdL (v := _) dX0_fits_127 (hk.ltu (by omega)) (hk.kdu (by omega)) rfl (by omega) (by decide) (hk.rn (by omega) (by omega)) ?_
    refine E_aload_n dX0_fits_128 rfl ?_
    refine E_getIL (v := nuV L ea) dX0_fits_129 kF_X0_30 kY_0 (Or.inl rfl) (l_73 hL) (k_73 hL) hA ?_
    refine E_callV2 (fr' := 1) (k1 := 0) (n1 := 0) (k2 := 0) (n2 := 0) dX0_fits_132 kO_X1_suits kL_X0_114 (hB.flt0 hf) (hB.fk0 hf) ⟨by decide, rfl⟩ rfl rfl (by decide) (by decide) (by exact Nat.le_of_ble_eq_true rfl) rfl ?_
    refine sp_X1_suitsT hc hf ?_
    refine gKv ?_
    refine E_if_ne_b (tgt := 140) dX0_fits_135 (by decide) (fun c_135 => ?_) (fun c_135 => ?_)
    · refine E_aload_n dX0_fits_140 rfl ?_
      refine E_iconst (v := nI 2) dX0_fits_141 (by decide) ?_
      refine E_ialdL (v := _) dX0_fits_142 (hk.ltu (by omega)) (hk.kdu (by omega)) rfl (by omega) (by decide) (hk.rn (by omega) (by omega)) ?_
      refine E_bipush (v := -100) dX0_fits_143 (by decide) ?_
      refine E_icmp_ne_r (tgt := 163) dX0_fits_145 (by decide) (fun c_145 => ?_) (fun c_145 => ?_)
      · refine E_aload_n dX0_fits_163 rfl ?_
        refine E_getRL dX0_fits_164 kF_X0_15 kY_0 (Or.inl ⟨_, rfl⟩) (l_73 hL) (k_73 hL) (hc.fac hF0) ?_
        refine E_aload_n dX0_fits_167 rfl ?_
        refine E_iconst (v := nI 2) dX0_fits_168 (by decide) ?_
        refine E_ialdL (v := _) dX0_fits_169 (hk.ltu (by omega)) (hk.kdu (by omega)) rfl (by omega) (by decide) (hk.rn (by omega) (by omega)) ?_
        refine E_aload_n dX0_fits_170 rfl ?_
        refine E_getIL (v := nuV L eb) dX0_fits_171 kF_X0_33 kY_0 (Or.inl rfl) (l_73 hL) (k_73 hL) hS ?_
        refine E_callV2 (fr' := 1) (k1 := 0) (n1 := 0) (k2 := 0) (n2 := 0) dX0_fits_174 kO_X1_suits kL_X0_114 (hB.flt0 hf) (hB.fk0 hf) ⟨by decide, rfl⟩ rfl rfl (by decide) (by decide) (by exact Nat.le_of_ble_eq_true rfl) rfl ?_
        refine sp_X1_suitsT hc hf ?_
        refine gKv ?_
        refine E_if_eq_b (tgt := 201) dX0_fits_177 (by decide) (fun c_177 => ?_) (fun c_177 => ?_)
        · refine E_iconst (v := nI 0) dX0_fits_201 (by decide) ?_
          refine E_iret dX0_fits_202 (Or.inr ⟨rfl, by decide⟩) ?_
          rw [← b2i_f (P := fsQ c f L l k i ea eb ec) (by unfold fsQ mrN; clear K; first | grind | (simp [cI, *]; done) | (simp [cI, *]; omega))]; exact K
        · refine E_aload_n dX0_fits_180 rfl ?_
          refine E_getRL dX0_fits_181 kF_X0_15 kY_0 (Or.inl ⟨_, rfl⟩) (l_73 hL) (k_73 hL) (hc.fac hF0) ?_
          refine E_aload_n dX0_fits_184 rfl ?_
          refine E_iconst (v := nI 3) dX0_fits_185 (by decide) ?_
          refine E_ialdL (v := _) dX0_fits_186 (hk.ltu (by omega)) (hk.kdu (by omega)) rfl (by omega) (by decide) (hk.rn (by omega) (by omega)) ?_
          refine E_aload_n dX0_fits_187 rfl ?_
          refine E_getIL (v := nuV L ec) dX0_fits_188 kF_X0_36 kY_0 (Or.inl rfl) (l_73 hL) (k_73 hL) hT ?_
          refine E_callV2 (fr' := 1) (k1 := 0) (n1 := 0) (k2 := 0) (n2 := 0) dX0_fits_191 kO_X1_suits kL_X0_114 (hB.flt0 hf) (hB.fk0 hf) ⟨by decide, rfl⟩ rfl rfl (by decide) (by decide) (by exact Nat.le_of_ble_eq_true rfl) rfl ?_
          refine sp_X1_suitsT hc hf ?_
          refine gKv ?_
          refine E_if_eq_b (tgt := 201) dX0_fits_194 (by decide) (fun c_194 => ?_) (fun c_194 => ?_)
          · refine E_iconst (v := nI 0) dX0_fits_201 (by decide) ?_
            refine E_iret dX0_fits_202 (Or.inr ⟨rfl, by decide⟩) ?_
            rw [← b2i_f (P := fsQ c f L l k i ea eb ec) (by unfold fsQ mrN; clear K; first | grind | (simp [cI, *]; done) | (simp [cI, *]; omega))]; exact K
          · refine E_iconst (v := nI 1) dX0_fits_197 (by decide) ?_
            refine E_goto (tgt := 202) dX0_fits_198 (by decide) ?_
            refine E_iret dX0_fits_202 (Or.inr ⟨rfl, by decide⟩) ?_
            rw [← b2i_t (P := fsQ c f L l k i ea eb ec) (by unfold fsQ mrN; clear K; first | grind | (simp [cI, *]; done) | (simp [cI, *]; omega))]; exact K
      · refine E_aload_n dX0_fits_148 rfl ?_
        refine E_getRL dX0_fits_149 kF_X0_15 kY_0 (Or.inl ⟨_, rfl⟩) (l_73 hL) (k_73 hL) (hc.fac hF0) ?_
        refine E_aload_n dX0_fits_152 rfl ?_
        refine E_iconst (v := nI 3) dX0_fits_153 (by decide) ?_
        refine E_ialdL (v := _) dX0_fits_154 (hk.ltu (by omega)) (hk.kdu (by omega)) rfl (by omega) (by decide) (hk.rn (by omega) (by omega)) ?_
        refine E_aload_n dX0_fits_155 rfl ?_
        refine E_getIL (v := nuV L eb) dX0_fits_156 kF_X0_33 kY_0 (Or.inl rfl) (l_73 hL) (k_73 hL) hS ?_
        refine E_callV2 (fr' := 1) (k1 := 0) (n1 := 0) (k2 := 0) (n2 := 0) dX0_fits_159 kO_X1_suits kL_X0_114 (hB.flt0 hf) (hB.fk0 hf) ⟨by decide, rfl⟩ rfl rfl (by decide) (by decide) (by exact Nat.le_of_ble_eq_true rfl) rfl ?_
        refine sp_X1_suitsT hc hf ?_
        refine gKv ?_
        refine E_iret dX0_fits_162 (Or.inr ⟨rfl, b2i_01 _⟩) ?_
        rw [b2i_congr (R := fsQ c f L l k i ea eb ec) (by unfold fsQ mrN; clear K; first | grind | (simp [cI, *]; done) | (simp [cI, *]; omega))]; exact K
    · refine E_iconst (v := nI 0) dX0_fits_138 (by decide) ?_
      refine E_iret dX0_fits_139 (Or.inr ⟨rfl, by decide⟩) ?_
      rw [← b2i_f (P := fsQ c f L l k i ea eb ec) (by unfold fsQ mrN; clear K; first | grind | (simp [cI, *]; done) | (simp [cI, *]; omega))]; exact K
  · refine E_iload_n dX0_fits_0 rfl ?_
    refine E_swIn (off := 202) (tgt := 203) dX0_fits_1 (by decide) (by decide) (by decide) (by decide) ?_
    refine E_aload_n dX0_fits_203 rfl ?_
    refine E_getRL dX0_fits_204 kF_X0_15 kY_0 (Or.inl ⟨_, rfl⟩) (l_73 hL) (k_73 hL) (hc.fac hF0) ?_
    refine E_aload_n dX0_fits_207 rfl ?_
    refine E_iconst (v := nI 0) dX0_fits_208 (by decide) ?_
    refine E_ialdL (v := _) dX0_fits_209 (hk.ltu (by omega)) (hk.kdu (by omega)) rfl (by omega) (by decide) (hk.rn (by omega) (by omega)) ?_
    refine E_aload_n dX0_fits_210 rfl ?_
    refine E_getIL (v := nuV L ea) dX0_fits_211 kF_X0_30 kY_0 (Or.inl rfl) (l_73 hL) (k_73 hL) hA ?_
    refine E_callV2 (fr' := 1) (k1 := 0) (n1 := 0) (k2 := 0) (n2 := 0) dX0_fits_214 kO_X1_suits kL_X0_114 (hB.flt0 hf) (hB.fk0 hf) ⟨by decide, rfl⟩ rfl rfl (by decide) (by decide) (by exact Nat.le_of_ble_eq_true rfl) rfl ?_
    refine sp_X1_suitsT hc hf ?_
    refine gKv ?_
    refine E_if_eq_b (tgt := 241) dX0_fits_217 (by decide) (fun c_217 => ?_) (fun c_217 => ?_)
    · refine E_iconst (v := nI 0) dX0_fits_241 (by decide) ?_
      refine E_iret dX0_fits_242 (Or.inr ⟨rfl, by decide⟩) ?_
      rw [← b2i_f (P := fsQ c f L l k i ea eb ec) (by unfold fsQ mrN; clear K; first | grind | (simp [cI, *]; done) | (simp [cI, *]; omega))]; exact K
    · refine E_aload_n dX0_fits_220 rfl ?_
      refine E_getRL dX0_fits_221 kF_X0_15 kY_0 (Or.inl ⟨_, rfl⟩) (l_73 hL) (k_73 hL) (hc.fac hF0) ?_
      refine E_aload_n dX0_fits_224 rfl ?_
      refine E_iconst (v := nI 2) dX0_fits_225 (by decide) ?_
      refine E_ialdL (v := _) dX0_fits_226 (hk.ltu (by omega)) (hk.kdu (by omega)) rfl (by omega) (by decide) (hk.rn (by omega) (by omega)) ?_
      refine E_aload_n dX0_fits_227 rfl ?_
      refine E_getIL (v := nuV L eb) dX0_fits_228 kF_X0_33 kY_0 (Or.inl rfl) (l_73 hL) (k_73 hL) hS ?_
      refine E_callV2 (fr' := 1) (k1 := 0) (n1 := 0) (k2 := 0) (n2 := 0) dX0_fits_231 kO_X1_suits kL_X0_114 (hB.flt0 hf) (hB.fk0 hf) ⟨by decide, rfl⟩ rfl rfl (by decide) (by decide) (by exact Nat.le_of_ble_eq_true rfl) rfl ?_
      refine sp_X1_suitsT hc hf ?_
      refine gKv ?_
      refine E_if_eq_b (tgt := 241) dX0_fits_234 (by decide) (fun c_234 => ?_) (fun c_234 => ?_)
      · refine E_iconst (v := nI 0) dX0_fits_241 (by decide) ?_
        refine E_iret dX0_fits_242 (Or.inr ⟨rfl, by decide⟩) ?_
        rw [← b2i_f (P := fsQ c f L l k i ea eb ec) (by unfold fsQ mrN; clear K; first | grind | (simp [cI, *]; done) | (simp [cI, *]; omega))]; exact K
      · refine E_iconst (v := nI 1) dX0_fits_237 (by decide) ?_
        refine E_goto (tgt := 242) dX0_fits_238 (by decide) ?_
        refine E_iret dX0_fits_242 (Or.inr ⟨rfl, by decide⟩) ?_
        rw [← b2i_t (P := fsQ c f L l k i ea eb ec) (by unfold fsQ mrN; clear K; first | grind | (simp [cI, *]; done) | (simp [cI, *]; omega))]; exact K
set_option maxRecDepth 100000 in
set_option maxHeartbeats 4000000 in
theorem lp_X0_firstFit {g : gG} {M : gM} {Q : Option Value ⊕ String → gM → Prop} {c : Cf} {P : Nat → Nat} {M0 : gM} {L : List Gl} {π : Nat → Nat} (hc : cX c P M0 L π M) {f tb l p : Nat} (hf : f < 2) (hF0 : mR M0 73 2 = fb f + 1) (hT0 : mI M0 73 3 = nI tb) (htb : tb ≤ 1) (hk0 : kLk c M0 l p) (hfl : l / 12 = f) {i : Nat} (hi : i < L.length) (hkd : cN c 130 l ≤ 5) (K1 : ∀ M, cX c P M0 L π M → mI M 73 4 = afV L.length (aft c f l L i) → mI M 73 5 = afV L.length (thB c f l L i) → fiA c f L l i < cN c 135 l → Q (.inl (some (.int (nI (fiA c f L l i))))) M) (K0 : ∀ M, cX c P M0 L π M → ¬ fiA c f L l i < cN c 135 l → Q (.inl (some (.int (-100)))) M) (h4 : mI M 73 4 = afV L.length (aft c f l L i)) (h5 : mI M 73 5 = afV L.length (thB c f l L i)) (hA : mI M 73 6 = nuV L (ahd c f l L i)) (hS : mI M 73 7 = nuV L (aft c f l L i + 1)) (hT : mI M 73 8 = nuV L (thB c f l L i + 1)) : ∀ k, k ≤ cN c 135 l → fnd (fun k => ftP c f L l k i) (cN c 135 l) k = fiA c f L l i → E g 3 0 0 mX0_firstFit 140 [.ref 74, .ref (p + 1), .int (nI i), .int (nI (bgB c f l (yN (gat L i)))), .int (nI k)] [] M Q := by
  have hB := hc.B
  have hL := hB.lay
  have hn := hc.len
  have hk := hc.lk hk0
  have hl := hB.wf.lk l
  refine lpUp (cN c 135 l) (fun k hk8 ih => ?_)
  intro he
  have hbn : k < cN c 135 l → ((nI (bgB c f l (yN (gat L i))) >>> (nI k &&& 31)) &&& nI 1 = 0 ↔ ¬ begP c f l (yN (gat L i)) k) := fun z => bit_no hl.2.2.2.2.2 z
  have skip : k < cN c 135 l → ¬ ftP c f L l k i → fnd (fun k => ftP c f L l k i) (cN c 135 l) (k + 1) = fiA c f L l i := fun z w => by rw [← he]; exact (fnd_skip (P := (fun k => ftP c f L l k i)) z w).symm
  refine E_iload dX0_firstFit_140 rfl ?_
  refine E_aload_n dX0_firstFit_142 rfl ?_
  refine E_getIL (v := nI (cN _ 135 _)) dX0_firstFit_143 kF_X0_104 kY_4 (Or.inl rfl) (hk.lt0) (hk.kd) hk.f8 ?_
  refine E_icmp_ge_n (tgt := 194) dX0_firstFit_146 (by decide) (by omega) (by omega) (fun c_146 => ?_) (fun c_146 => ?_)
  · refine E_bipush (v := -100) dX0_firstFit_194 (by decide) ?_
    refine E_iret dX0_firstFit_196 (Or.inl rfl) ?_
    refine K0 M hc ?_
    rw [← he, fnd_end (by omega)]; omega
  · refine E_iload_n dX0_firstFit_149 rfl ?_
    refine E_iload dX0_firstFit_150 rfl ?_
    refine E_ishr dX0_firstFit_152 ?_
    refine E_iconst (v := nI 1) dX0_firstFit_153 (by decide) ?_
    refine E_iand dX0_firstFit_154 ?_
    refine E_if_eq (tgt := 188) dX0_firstFit_155 (by decide) (fun c_155 => ?_) (fun c_155 => ?_)
    · refine E_iinc_n (d := 1) dX0_firstFit_188 rfl rfl rfl (by decide) rfl ?_
      refine E_goto (tgt := 140) dX0_firstFit_191 (by decide) ?_
      refine ih (by omega) (skip (by omega) ?_)
      first
        | exact fun z => (hbn (by omega)).mp c_155 z.1
        | exact fun z => c_182 z.2
    · refine E_aload_n dX0_firstFit_158 rfl ?_
      refine E_aload_n dX0_firstFit_159 rfl ?_
      refine E_getIL (v := nI (cN _ 130 _)) dX0_firstFit_160 kF_X0_43 kY_4 (Or.inl rfl) (hk.lt0) (hk.kd) hk.f0 ?_
      refine E_aload_n dX0_firstFit_163 rfl ?_
      refine E_getRL dX0_firstFit_164 kF_X0_72 kY_4 (Or.inr ⟨_, rfl⟩) (hk.lt0) (hk.kd) hk.r6 ?_
      refine E_iload dX0_firstFit_167 rfl ?_
      refine E_aaldL (v := _) dX0_firstFit_169 (hk.lt (i := 1) (by decide)) (hk.kd1) (by decide) (by decide) rfl (by omega) (by decide) (hk.ru (by omega)) ?_
      refine E_aload_n dX0_firstFit_170 rfl ?_
      refine E_getRL dX0_firstFit_171 kF_X0_39 kY_0 (Or.inl ⟨_, rfl⟩) (l_73 hL) (k_73 hL) (r_73_0 hL) ?_
      refine E_getRL dX0_firstFit_174 kF_X0_58 kY_8 (Or.inr ⟨_, rfl⟩) (l_6 hL) (k_6 hL) (r_6_0 hL) ?_
      refine E_iload_n dX0_firstFit_177 rfl ?_
      refine E_aaldL (v := _) dX0_firstFit_178 (l_7 hL) (k_7 hL) (by decide) (by decide) rfl (by omega) (by decide) (hc.cell (by omega)) ?_
      refine E_callV3 (fr' := 2) (k1 := 0) (n1 := 0) (k2 := 0) (n2 := 0) dX0_firstFit_179 kO_X0_fits kL_X0_107 (l_73 hL) (k_73 hL) ⟨by decide, rfl⟩ rfl rfl rfl (by decide) (by decide) (by exact Nat.le_of_ble_eq_true rfl) rfl ?_
      refine sp_X0_fits hc hf hF0 hk0 (by omega) hi hkd hA hS hT ?_
      refine gKv ?_
      refine E_if_eq_b (tgt := 188) dX0_firstFit_182 (by decide) (fun c_182 => ?_) (fun c_182 => ?_)
      · refine E_iinc_n (d := 1) dX0_firstFit_188 rfl rfl rfl (by decide) rfl ?_
        refine E_goto (tgt := 140) dX0_firstFit_191 (by decide) ?_
        refine ih (by omega) (skip (by omega) ?_)
        first
          | exact fun z => (hbn (by omega)).mp c_155 z.1
          | exact fun z => c_182 z.2
      · refine E_iload dX0_firstFit_185 rfl ?_
        refine E_iret dX0_firstFit_187 (Or.inl rfl) ?_
        have hp : ftP c f L l k i := ⟨Classical.byContradiction (fun z => c_155 ((hbn (by omega)).mpr z)), c_182⟩
        have e : fiA c f L l i = k := by rw [← he]; exact fnd_hit (P := (fun k => ftP c f L l k i)) (by omega) hp
        have := K1 M hc h4 h5 (by omega)
        rw [e] at this; exact this
set_option maxRecDepth 100000 in
set_option maxHeartbeats 4000000 in
theorem sp_X0_firstFit {g : gG} {M : gM} {Q : Option Value ⊕ String → gM → Prop} {c : Cf} {P : Nat → Nat} {M0 : gM} {L : List Gl} {π : Nat → Nat} (hc : cX c P M0 L π M) {f tb l p : Nat} (hf : f < 2) (hF0 : mR M0 73 2 = fb f + 1) (hT0 : mI M0 73 3 = nI tb) (htb : tb ≤ 1) (hk0 : kLk c M0 l p) (hfl : l / 12 = f) {i : Nat} (hi : i < L.length) (hkd : cN c 130 l ≤ 5) (K1 : ∀ M, cX c P M0 L π M → mI M 73 4 = afV L.length (aft c f l L i) → mI M 73 5 = afV L.length (thB c f l L i) → fiA c f L l i < cN c 135 l → Q (.inl (some (.int (nI (fiA c f L l i))))) M) (K0 : ∀ M, cX c P M0 L π M → ¬ fiA c f L l i < cN c 135 l → Q (.inl (some (.int (-100)))) M) : E g 3 0 0 mX0_firstFit 0 [.ref 74, .ref (p + 1), .int (nI i), .null, .null] [] M Q := by
  have hB := hc.B
  have hL := hB.lay
  have hn := hc.len
  have hk := hc.lk hk0
  have hl := hB.wf.lk l
  have hn256 := hc.n256 i
  have hab := aft_b c f l hi
  have hbb : bgB c f l (yN (gat L i)) < 256 := by
    have h1 := bgN_b (begP c f l (yN (gat L i))) (cN c 135 l)
    have h2 : 2 ^ cN c 135 l ≤ 2 ^ 8 := Nat.pow_le_pow_right (by decide) hl.2.2.2.2.2
    have e : bgB c f l (yN (gat L i)) = bgN (begP c f l (yN (gat L i))) (cN c 135 l) := rfl
    omega
  have tail : ∀ M, cX c P M0 L π M → mI M 73 4 = afV L.length (aft c f l L i) → mI M 73 5 = afV L.length (thB c f l L i) → ∀ v4, E g 3 0 0 mX0_firstFit 83 [.ref 74, .ref (p + 1), .int (nI i), .int (nI (bgB c f l (yN (gat L i)))), v4] [] M Q := by
    intro M hc h4 h5 v4
    have hB := hc.B
    have hL := hB.lay
    have hk := hc.lk hk0
    have had : ahd c f l L i ≤ i := rfd_le i
    have hthb : thB c f l L i ≤ L.length := by
      unfold thB
      by_cases q : aft c f l L i < L.length
      · rw [cI_t q]; exact (aft_b c f l q).2
      · rw [cI_f q]; exact Nat.le_refl _
    refine E_aload_n dX0_firstFit_83 rfl ?_
    refine E_aload_n dX0_firstFit_84 rfl ?_
    refine E_getRL dX0_firstFit_85 kF_X0_39 kY_0 (Or.inl ⟨_, rfl⟩) (l_73 hL) (k_73 hL) (r_73_0 hL) ?_
    refine E_aload_n dX0_firstFit_88 rfl ?_
    refine E_getRL dX0_firstFit_89 kF_X0_39 kY_0 (Or.inl ⟨_, rfl⟩) (l_73 hL) (k_73 hL) (r_73_0 hL) ?_
    refine E_aload_n dX0_firstFit_92 rfl ?_
    refine E_getRL dX0_firstFit_93 kF_X0_15 kY_0 (Or.inl ⟨_, rfl⟩) (l_73 hL) (k_73 hL) (hc.fac hF0) ?_
    refine E_aload_n dX0_firstFit_96 rfl ?_
    refine E_iload_n dX0_firstFit_97 rfl ?_
    refine E_callV3 (fr' := 2) (k1 := 0) (n1 := 0) (k2 := 0) (n2 := 0) dX0_firstFit_98 kO_X8_ahead kL_X0_97 (l_6 hL) (k_6 hL) ⟨by decide, rfl⟩ rfl rfl rfl (by decide) (by decide) (by exact Nat.le_of_ble_eq_true rfl) rfl ?_
    refine sp_X8_ahead hc hf hk (by omega) ?_
    refine gKv ?_
    refine E_callV1 (fr' := 1) (k1 := 0) (n1 := 0) (k2 := 0) (n2 := 0) dX0_firstFit_101 kO_X8_numberAt kL_X0_100 (l_6 hL) (k_6 hL) ⟨by decide, rfl⟩ rfl (by decide) (by decide) (by exact Nat.le_of_ble_eq_true rfl) rfl ?_
    refine sp_X8_numberAtV hc (by omega) ?_
    refine gKv ?_
    refine E_putI dX0_firstFit_104 kF_X0_30 kY_0 (Or.inl rfl) (l_73 hL) (k_73 hL) (Or.inl rfl) ?_
    have hc := hc.aux (a := 73) (j := 6) (v := nuV L (ahd c f l L i)) (Or.inl ⟨rfl, by decide, by decide⟩)
    have hB := hc.B
    have hL := hB.lay
    have hn := hc.len
    have hk := hc.lk hk0
    refine E_aload_n dX0_firstFit_107 rfl ?_
    refine E_aload_n dX0_firstFit_108 rfl ?_
    refine E_getRL dX0_firstFit_109 kF_X0_39 kY_0 (Or.inl ⟨_, rfl⟩) (l_73 hL) (k_73 hL) (r_73_0 hL) ?_
    refine E_aload_n dX0_firstFit_112 rfl ?_
    refine E_getIL (v := afV _ _) dX0_firstFit_113 kF_X0_23 kY_0 (Or.inl rfl) (l_73 hL) (k_73 hL) ((mI_nj (by decide)).trans h4) ?_
    refine E_callV1 (fr' := 1) (k1 := 0) (n1 := 0) (k2 := 0) (n2 := 0) dX0_firstFit_116 kO_X8_numberAt kL_X0_100 (l_6 hL) (k_6 hL) ⟨by decide, rfl⟩ rfl (by decide) (by decide) (by exact Nat.le_of_ble_eq_true rfl) rfl ?_
    refine sp_X8_numberAtA hc (by omega) ?_
    refine gKv ?_
    refine E_putI dX0_firstFit_119 kF_X0_33 kY_0 (Or.inl rfl) (l_73 hL) (k_73 hL) (Or.inl rfl) ?_
    have hc := hc.aux (a := 73) (j := 7) (v := nuV L (aft c f l L i + 1)) (Or.inl ⟨rfl, by decide, by decide⟩)
    have hB := hc.B
    have hL := hB.lay
    have hn := hc.len
    have hk := hc.lk hk0
    refine E_aload_n dX0_firstFit_122 rfl ?_
    refine E_aload_n dX0_firstFit_123 rfl ?_
    refine E_getRL dX0_firstFit_124 kF_X0_39 kY_0 (Or.inl ⟨_, rfl⟩) (l_73 hL) (k_73 hL) (r_73_0 hL) ?_
    refine E_aload_n dX0_firstFit_127 rfl ?_
    refine E_getIL (v := afV _ _) dX0_firstFit_128 kF_X0_27 kY_0 (Or.inl rfl) (l_73 hL) (k_73 hL) ((mI_nj (by decide)).trans ((mI_nj (by decide)).trans h5)) ?_
    refine E_callV1 (fr' := 1) (k1 := 0) (n1 := 0) (k2 := 0) (n2 := 0) dX0_firstFit_131 kO_X8_numberAt kL_X0_100 (l_6 hL) (k_6 hL) ⟨by decide, rfl⟩ rfl (by decide) (by decide) (by exact Nat.le_of_ble_eq_true rfl) rfl ?_
    refine sp_X8_numberAtA hc (by omega) ?_
    refine gKv ?_
    refine E_putI dX0_firstFit_134 kF_X0_36 kY_0 (Or.inl rfl) (l_73 hL) (k_73 hL) (Or.inl rfl) ?_
    have hc := hc.aux (a := 73) (j := 8) (v := nuV L (thB c f l L i + 1)) (Or.inl ⟨rfl, by decide, by decide⟩)
    have hB := hc.B
    have hL := hB.lay
    have hn := hc.len
    have hk := hc.lk hk0
    refine E_iconst (v := nI 0) dX0_firstFit_137 (by decide) ?_
    refine E_istore dX0_firstFit_138 (Nat.le_of_ble_eq_true rfl) (by decide) rfl ?_
    exact lp_X0_firstFit hc hf hF0 hT0 htb hk0 hfl hi hkd K1 K0 ((mI_nj (by decide)).trans ((mI_nj (by decide)).trans ((mI_nj (by decide)).trans h4))) ((mI_nj (by decide)).trans ((mI_nj (by decide)).trans ((mI_nj (by decide)).trans h5))) ((mI_nj (by decide)).trans ((mI_nj (by decide)).trans mI_eq)) ((mI_nj (by decide)).trans mI_eq) mI_eq 0 (Nat.zero_le _) rfl
  refine E_aload_n dX0_firstFit_0 rfl ?_
  refine E_getRL dX0_firstFit_1 kF_X0_15 kY_0 (Or.inl ⟨_, rfl⟩) (l_73 hL) (k_73 hL) (hc.fac hF0) ?_
  refine E_aload_n dX0_firstFit_4 rfl ?_
  refine E_aload_n dX0_firstFit_5 rfl ?_
  refine E_getRL dX0_firstFit_6 kF_X0_39 kY_0 (Or.inl ⟨_, rfl⟩) (l_73 hL) (k_73 hL) (r_73_0 hL) ?_
  refine E_getRL dX0_firstFit_9 kF_X0_58 kY_8 (Or.inr ⟨_, rfl⟩) (l_6 hL) (k_6 hL) (r_6_0 hL) ?_
  refine E_iload_n dX0_firstFit_12 rfl ?_
  refine E_aaldL (v := _) dX0_firstFit_13 (l_7 hL) (k_7 hL) (by decide) (by decide) rfl (by omega) (by decide) (hc.cell (by omega)) ?_
  refine E_getIL (v := nI (yN (gat _ _))) dX0_firstFit_14 kF_X0_84 kY_2 (Or.inl rfl) (hc.glt (by omega)) (hc.gkd (by omega)) (hc.g0 (by omega)) ?_
  refine E_aload_n dX0_firstFit_17 rfl ?_
  refine E_getIL (v := nI tb) dX0_firstFit_18 kF_X0_19 kY_0 (Or.inr rfl) (l_73 hL) (k_73 hL) (hc.tab hT0) ?_
  refine E_callV3 (fr' := 2) (k1 := 0) (n1 := 0) (k2 := 0) (n2 := 0) dX0_firstFit_21 kO_X1_beginning kL_X0_89 (hB.flt0 hf) (hB.fk0 hf) ⟨by decide, rfl⟩ rfl rfl rfl (by decide) (by decide) (by exact Nat.le_of_ble_eq_true rfl) rfl ?_
  refine sp_X1_beginning hB hf hk hfl (hc.n256 i) htb ?_
  refine gKv ?_
  refine E_istore_n dX0_firstFit_24 (Nat.le_of_ble_eq_true rfl) (by decide) rfl ?_
  refine E_iload_n dX0_firstFit_25 rfl ?_
  refine E_if_ne_n (tgt := 32) dX0_firstFit_26 (by decide) (by omega) (fun c_26 => ?_) (fun c_26 => ?_)
  · refine E_aload_n dX0_firstFit_32 rfl ?_
    refine E_aload_n dX0_firstFit_33 rfl ?_
    refine E_getRL dX0_firstFit_34 kF_X0_39 kY_0 (Or.inl ⟨_, rfl⟩) (l_73 hL) (k_73 hL) (r_73_0 hL) ?_
    refine E_aload_n dX0_firstFit_37 rfl ?_
    refine E_getRL dX0_firstFit_38 kF_X0_15 kY_0 (Or.inl ⟨_, rfl⟩) (l_73 hL) (k_73 hL) (hc.fac hF0) ?_
    refine E_aload_n dX0_firstFit_41 rfl ?_
    refine E_iload_n dX0_firstFit_42 rfl ?_
    refine E_callV3 (fr' := 2) (k1 := 0) (n1 := 0) (k2 := 0) (n2 := 0) dX0_firstFit_43 kO_X8_behind kL_X0_93 (l_6 hL) (k_6 hL) ⟨by decide, rfl⟩ rfl rfl rfl (by decide) (by decide) (by exact Nat.le_of_ble_eq_true rfl) rfl ?_
    refine sp_X8_behind hc hf hk (by omega) ?_
    refine gKv ?_
    refine E_putI dX0_firstFit_46 kF_X0_23 kY_0 (Or.inl rfl) (l_73 hL) (k_73 hL) (Or.inl rfl) ?_
    have hc := hc.aux (a := 73) (j := 4) (v := afV L.length (aft c f l L i)) (Or.inl ⟨rfl, by decide, by decide⟩)
    have hB := hc.B
    have hL := hB.lay
    have hn := hc.len
    have hk := hc.lk hk0
    by_cases q : aft c f l L i < L.length
    · refine E_aload_n dX0_firstFit_49 rfl ?_
      refine E_aload_n dX0_firstFit_50 rfl ?_
      refine E_getIL (v := nI (aft c f l L i)) dX0_firstFit_51 kF_X0_23 kY_0 (Or.inl rfl) (l_73 hL) (k_73 hL) (mI_eq.trans (afV_n q)) ?_
      refine E_bipush (v := -100) dX0_firstFit_54 (by decide) ?_
      refine E_icmp_ne (tgt := 64) dX0_firstFit_56 (by decide) (fun _ => ?_) (fun c0 => absurd (nI_ne100 (by omega)) c0)
      refine E_aload_n dX0_firstFit_64 rfl ?_
      refine E_getRL dX0_firstFit_65 kF_X0_39 kY_0 (Or.inl ⟨_, rfl⟩) (l_73 hL) (k_73 hL) (r_73_0 hL) ?_
      refine E_aload_n dX0_firstFit_68 rfl ?_
      refine E_getRL dX0_firstFit_69 kF_X0_15 kY_0 (Or.inl ⟨_, rfl⟩) (l_73 hL) (k_73 hL) (hc.fac hF0) ?_
      refine E_aload_n dX0_firstFit_72 rfl ?_
      refine E_aload_n dX0_firstFit_73 rfl ?_
      refine E_getIL (v := nI (aft c f l L i)) dX0_firstFit_74 kF_X0_23 kY_0 (Or.inl rfl) (l_73 hL) (k_73 hL) (mI_eq.trans (afV_n q)) ?_
      refine E_callV3 (fr' := 2) (k1 := 0) (n1 := 0) (k2 := 0) (n2 := 0) dX0_firstFit_77 kO_X8_behind kL_X0_93 (l_6 hL) (k_6 hL) ⟨by decide, rfl⟩ rfl rfl rfl (by decide) (by decide) (by exact Nat.le_of_ble_eq_true rfl) rfl ?_
      refine sp_X8_behind hc hf hk (by omega) ?_
      refine gKv ?_
      refine E_putI dX0_firstFit_80 kF_X0_27 kY_0 (Or.inl rfl) (l_73 hL) (k_73 hL) (Or.inl rfl) ?_
      refine tail _ (hc.aux (Or.inl ⟨rfl, by decide, by decide⟩)) ((mI_nj (by decide)).trans mI_eq) (mI_eq.trans ?_) _
      unfold thB; rw [cI_t q]
    · refine E_aload_n dX0_firstFit_49 rfl ?_
      refine E_aload_n dX0_firstFit_50 rfl ?_
      refine E_getIL (v := -100) dX0_firstFit_51 kF_X0_23 kY_0 (Or.inl rfl) (l_73 hL) (k_73 hL) (mI_eq.trans (afV_0 q)) ?_
      refine E_bipush (v := -100) dX0_firstFit_54 (by decide) ?_
      refine E_icmp_ne_r (tgt := 64) dX0_firstFit_56 (by decide) (fun c0 => absurd c0 (by decide)) (fun _ => ?_)
      refine E_bipush (v := -100) dX0_firstFit_59 (by decide) ?_
      refine E_goto (tgt := 80) dX0_firstFit_61 (by decide) ?_
      refine E_putI dX0_firstFit_80 kF_X0_27 kY_0 (Or.inl rfl) (l_73 hL) (k_73 hL) (Or.inl rfl) ?_
      refine tail _ (hc.aux (Or.inl ⟨rfl, by decide, by decide⟩)) ((mI_nj (by decide)).trans mI_eq) (mI_eq.trans ?_) _
      unfold thB; rw [cI_f q]; exact (afV_0 (by omega)).symm
  · refine E_bipush (v := -100) dX0_firstFit_29 (by decide) ?_
    refine E_iret dX0_firstFit_31 (Or.inl rfl) ?_
    refine K0 M hc (fun z => ?_)
    have h1 := (fnd_spec (P := (fun k => ftP c f L l k i)) (Nat.zero_le (cN c 135 l))).2.2.1 z
    have h2 := (bgN_bit (begP c f l (yN (gat L i))) (cN c 135 l) (fiA c f L l i) z).mpr h1.1
    have e : bgB c f l (yN (gat L i)) = bgN (begP c f l (yN (gat L i))) (cN c 135 l) := rfl
    rw [← e, show bgB c f l (yN (gat L i)) = 0 by omega, Nat.zero_div] at h2
    omega
/-! the same rules fit in the reference -/
theorem iItem_n {a : Int32} (h : iItem a) : ¬ a = -100 := by
  rintro rfl
  revert h; decide
theorem ft_fit {c : Cf} {f : Nat} {L : List Gl} {l k i : Nat} (hw : WFc c) (hi : i < L.length) (hk : k < cN c 135 l) (hkd : cN c 130 l ≤ 3) : ftP c f L l k i ↔ fit c f L l k i := by
  have hwr := hw.ru hk
  have hab := aft_b c f l hi
  unfold ftP begP fit
  rw [leadOf_c hkd]
  refine and_congr Iff.rfl ?_
  unfold fsP fsQ
  constructor
  · rintro (h | h | h | ⟨h, h1, h2⟩ | ⟨h, _⟩ | ⟨h, _⟩)
    · exact Or.inl h
    · exact Or.inr (Or.inl h)
    · exact Or.inr (Or.inr (Or.inl h))
    · refine Or.inr (Or.inr (Or.inr ⟨h, ?_⟩))
      rw [h] at hwr
      have hw3 := iF3 hwr.1
      have h1 := h1.resolve_left (iItem_n hw3.2.1)
      rw [Nat.add_sub_cancel] at h1
      refine ⟨by omega, h1.2.2, ?_⟩
      rcases h2 with h2 | ⟨_, h2, h3⟩
      · exact Or.inl h2
      · have e : thB c f l L i = aft c f l L (aft c f l L i) := cI_t (by omega)
        rw [e] at h2 h3
        rw [Nat.add_sub_cancel] at h3
        exact Or.inr ⟨by omega, h3⟩
    · omega
    · omega
  · rintro (h | h | h | ⟨h, h1, h2, h3⟩)
    · exact Or.inl h
    · exact Or.inr (Or.inl h)
    · exact Or.inr (Or.inr (Or.inl h))
    · refine Or.inr (Or.inr (Or.inr (Or.inl ⟨h, Or.inr ⟨by omega, by omega, by rw [Nat.add_sub_cancel]; exact h2⟩, ?_⟩)))
      rcases h3 with h3 | ⟨h3, h4⟩
      · exact Or.inl h3
      · have e : thB c f l L i = aft c f l L (aft c f l L i) := cI_t h1
        rw [e]
        exact Or.inr ⟨by omega, by omega, by rw [Nat.add_sub_cancel]; exact h4⟩
theorem thr_no {c : Cf} {f : Nat} {L : List Gl} {item : Int32} {e : Nat} (h : ¬ item = -100) (he : L.length < e) : ¬ thr c f L item e := fun q => q.elim h (fun q => by omega)
theorem ft_ctx {c : Cf} {f : Nat} {L : List Gl} {l k i : Nat} (hi : i < L.length) (hkd : cN c 130 l = 4) : ftP c f L l k i ↔ cfit c f L l k i := by
  have hab := aft_b c f l hi
  unfold ftP begP cfit
  rw [hkd, show leadOf 4 = 1 from rfl]
  refine and_congr Iff.rfl ?_
  unfold fsP fsQ
  rw [hkd]
  have key : thr c f L (rul c l k 0) (ahd c f l L i) ∧ ((rul c l k 2 = -100 ∧ thr c f L (rul c l k 3) (aft c f l L i + 1)) ∨ (¬ rul c l k 2 = -100 ∧ thr c f L (rul c l k 2) (aft c f l L i + 1) ∧ thr c f L (rul c l k 3) (thB c f l L i + 1))) ↔ thr c f L (rul c l k 2) (twC c f L l k i + 1) ∧ thr c f L (rul c l k 0) (ahd c f l L i) ∧ thr c f L (rul c l k 3) (aft c f l L (twC c f L l k i) + 1) := by
    by_cases q : rul c l k 2 = -100
    · have e : twC c f L l k i = i := cI_t q
      rw [e]
      constructor
      · rintro ⟨h1, h2⟩
        exact ⟨Or.inl q, h1, (h2.resolve_right (fun z => z.1 q)).2⟩
      · rintro ⟨_, h1, h2⟩
        exact ⟨h1, Or.inl ⟨q, h2⟩⟩
    · have e : twC c f L l k i = aft c f l L i := cI_f q
      rw [e]
      by_cases q2 : aft c f l L i < L.length
      · have e2 : thB c f l L i = aft c f l L (aft c f l L i) := cI_t q2
        rw [e2]
        constructor
        · rintro ⟨h1, h2⟩
          have h2 := h2.resolve_left (fun z => q z.1)
          exact ⟨h2.2.1, h1, h2.2.2⟩
        · rintro ⟨h1, h2, h3⟩
          exact ⟨h2, Or.inr ⟨q, h1, h3⟩⟩
      · constructor
        · rintro ⟨h1, h2⟩
          have h2 := h2.resolve_left (fun z => q z.1)
          exact absurd h2.2.1 (thr_no q (by omega))
        · rintro ⟨h1, _⟩
          exact absurd h1 (thr_no q (by omega))
  rw [← key]
  constructor
  · rintro (h | ⟨h, _⟩ | ⟨h, _⟩ | ⟨h, _⟩ | ⟨_, h⟩ | ⟨h, _⟩)
    · exact absurd h (by decide)
    · exact absurd h (by decide)
    · exact absurd h (by decide)
    · exact absurd h (by decide)
    · exact h
    · exact absurd h (by decide)
  · intro h
    exact Or.inr (Or.inr (Or.inr (Or.inr (Or.inl ⟨rfl, h⟩))))
theorem ft_bk {c : Cf} {f : Nat} {L : List Gl} {l k i : Nat} (hkd : cN c 130 l = 5) : ftP c f L l k i ↔ bfit c f L l k i := by
  unfold ftP begP bfit
  rw [hkd, show leadOf 5 = 1 from rfl]
  refine and_congr Iff.rfl ?_
  unfold fsP fsQ
  rw [hkd]
  constructor
  · rintro (h | ⟨h, _⟩ | ⟨h, _⟩ | ⟨h, _⟩ | ⟨h, _⟩ | ⟨_, h⟩)
    · exact absurd h (by decide)
    · exact absurd h (by decide)
    · exact absurd h (by decide)
    · exact absurd h (by decide)
    · exact absurd h (by decide)
    · exact h
  · intro h
    exact Or.inr (Or.inr (Or.inr (Or.inr (Or.inr ⟨rfl, h⟩))))
theorem fi_ff {c : Cf} {f : Nat} {L : List Gl} {l i : Nat} (hw : WFc c) (hi : i < L.length) (hkd : cN c 130 l ≤ 3) : fiA c f L l i = ffA c f L l i := fnd_congr (fun j _ hj => ft_fit hw hi hj hkd)
theorem fi_ct {c : Cf} {f : Nat} {L : List Gl} {l i : Nat} (hi : i < L.length) (hkd : cN c 130 l = 4) : fiA c f L l i = ctA c f L l i := fnd_congr (fun j _ _ => ft_ctx hi hkd)
theorem fi_bk {c : Cf} {f : Nat} {L : List Gl} {l i : Nat} (hkd : cN c 130 l = 5) : fiA c f L l i = bkA c f L l i := fnd_congr (fun j _ _ => ft_bk hkd)
set_option maxRecDepth 100000 in
set_option maxHeartbeats 4000000 in
theorem lp_X0_goBack {g : gG} {Q : Option Value ⊕ String → gM → Prop} {c : Cf} {P : Nat → Nat} {M0 : gM} {f tb l p : Nat} (hf : f < 2) (hF0 : mR M0 73 2 = fb f + 1) (hT0 : mI M0 73 3 = nI tb) (htb : tb ≤ 1) (hk0 : kLk c M0 l p) (hfl : l / 12 = f) (hkd : cN c 130 l = 5) : ∀ k, 0 ≤ k → ∀ (L : List Gl) π M, cX c P M0 L π M → k ≤ L.length → (K : ∀ M π, cX c P M0 (gbk c f l k L) π M → Q (.inl none) M) → ∀ v3, E g 4 0 0 mX0_goBack 10 [.ref 74, .ref (p + 1), .int (dI k), v3] [] M Q := by
  refine lpDn 0 (fun k _ ih => ?_)
  intro L π M hc hk2 K v3
  have hB := hc.B
  have hL := hB.lay
  have hn := hc.len
  have hk := hc.lk hk0
  have hl := hB.wf.lk l
  refine E_iload_n dX0_goBack_10 rfl ?_
  refine E_if_lt_d (tgt := 78) dX0_goBack_11 (by decide) (by omega) (fun c_11 => ?_) (fun c_11 => ?_)
  · refine E_vret dX0_goBack_78 rfl ?_
    subst c_11; exact K _ _ hc
  · obtain ⟨k, rfl⟩ : ∃ z, k = z + 1 := ⟨k - 1, by omega⟩
    simp only [Nat.add_sub_cancel] at ih
    rw [dI_succ]
    have K : ∀ M π, cX c P M0 (gbk c f l k (gbS c f l L k)) π M → Q (.inl none) M := K
    have no : ¬ (goP c f L l k ∧ bkA c f L l k < cN c 135 l) → ∀ M, cX c P M0 L π M → ∀ v3, E g 4 0 0 mX0_goBack 10 [.ref 74, .ref (p + 1), .int (dI k), v3] [] M Q := fun q M hc v3 => by
      have e : gbS c f l L k = L := cI_f q
      rw [e] at K
      exact ih (by omega) _ _ _ hc (by omega) K _
    refine E_aload_n dX0_goBack_14 rfl ?_
    refine E_getRL dX0_goBack_15 kF_X0_15 kY_0 (Or.inl ⟨_, rfl⟩) (l_73 hL) (k_73 hL) (hc.fac hF0) ?_
    refine E_aload_n dX0_goBack_18 rfl ?_
    refine E_aload_n dX0_goBack_19 rfl ?_
    refine E_getRL dX0_goBack_20 kF_X0_39 kY_0 (Or.inl ⟨_, rfl⟩) (l_73 hL) (k_73 hL) (r_73_0 hL) ?_
    refine E_getRL dX0_goBack_23 kF_X0_58 kY_8 (Or.inr ⟨_, rfl⟩) (l_6 hL) (k_6 hL) (r_6_0 hL) ?_
    refine E_iload_n dX0_goBack_26 rfl ?_
    refine E_aaldL (v := _) dX0_goBack_27 (l_7 hL) (k_7 hL) (by decide) (by decide) rfl (by omega) (by decide) (hc.cell (by omega)) ?_
    refine E_callV2 (fr' := 2) (k1 := 0) (n1 := 0) (k2 := 0) (n2 := 0) dX0_goBack_28 kO_X1_hasTurn kL_X0_62 (hB.flt0 hf) (hB.fk0 hf) ⟨by decide, rfl⟩ rfl rfl (by decide) (by decide) (by exact Nat.le_of_ble_eq_true rfl) rfl ?_
    refine sp_X1_hasTurn hc hf hk (by omega) ?_
    refine gKv ?_
    refine E_if_eq_b (tgt := 43) dX0_goBack_31 (by decide) (fun c_31 => ?_) (fun c_31 => ?_)
    · refine E_bipush (v := -100) dX0_goBack_43 (by decide) ?_
      refine E_istore_n dX0_goBack_45 (Nat.le_of_ble_eq_true rfl) (by decide) rfl ?_
      refine E_iload_n dX0_goBack_46 rfl ?_
      refine E_bipush (v := -100) dX0_goBack_47 (by decide) ?_
      refine E_icmp_eq (tgt := 72) dX0_goBack_49 (by decide) (fun _ => ?_) (fun c0 => absurd (by decide) c0)
      refine E_iinc_d dX0_goBack_72 rfl rfl (by decide) rfl ?_
      refine E_goto (tgt := 10) dX0_goBack_75 (by decide) ?_
      exact no (fun z => by have := z.1; contradiction) _ hc _
    · refine E_aload_n dX0_goBack_34 rfl ?_
      refine E_aload_n dX0_goBack_35 rfl ?_
      refine E_iload_n dX0_goBack_36 rfl ?_
      refine E_callV2 (fr' := 3) (k1 := 0) (n1 := 0) (k2 := 0) (n2 := 0) dX0_goBack_37 kO_X0_firstFit kL_X0_68 (l_73 hL) (k_73 hL) ⟨by decide, rfl⟩ rfl rfl (by decide) (by decide) (by exact Nat.le_of_ble_eq_true rfl) rfl ?_
      refine sp_X0_firstFit hc hf hF0 hT0 htb hk0 hfl (by omega) (by omega) (fun M hc _ _ hfi => ?_) (fun M hc hfi => ?_)
      · have hB := hc.B
        have hL := hB.lay
        have hn := hc.len
        have hk := hc.lk hk0
        refine gKv ?_
        refine E_goto (tgt := 45) dX0_goBack_40 (by decide) ?_
        have e5 := fi_bk (f := f) (L := L) (i := k) hkd
        rw [e5] at hfi ⊢
        have hwr := hB.wf.ru hfi
        rw [hkd] at hwr
        have hw5 := gN_ok (iF5 hwr.1).2.2.2 (by decide)
        refine E_istore_n dX0_goBack_45 (Nat.le_of_ble_eq_true rfl) (by decide) rfl ?_
        refine E_iload_n dX0_goBack_46 rfl ?_
        refine E_bipush (v := -100) dX0_goBack_47 (by decide) ?_
        refine E_icmp_eq (tgt := 72) dX0_goBack_49 (by decide) (fun c0 => absurd c0 (nI_ne100 (by omega))) (fun _ => ?_)
        refine E_aload_n dX0_goBack_52 rfl ?_
        refine E_getRL dX0_goBack_53 kF_X0_39 kY_0 (Or.inl ⟨_, rfl⟩) (l_73 hL) (k_73 hL) (r_73_0 hL) ?_
        refine E_getRL dX0_goBack_56 kF_X0_58 kY_8 (Or.inr ⟨_, rfl⟩) (l_6 hL) (k_6 hL) (r_6_0 hL) ?_
        refine E_iload_n dX0_goBack_59 rfl ?_
        refine E_aaldL (v := _) dX0_goBack_60 (l_7 hL) (k_7 hL) (by decide) (by decide) rfl (by omega) (by decide) (hc.cell (by omega)) ?_
        refine E_aload_n dX0_goBack_61 rfl ?_
        refine E_getRL dX0_goBack_62 kF_X0_72 kY_4 (Or.inr ⟨_, rfl⟩) (hk.lt0) (hk.kd) hk.r6 ?_
        refine E_iload_n dX0_goBack_65 rfl ?_
        refine E_aaldL (v := _) dX0_goBack_66 (hk.lt (i := 1) (by decide)) (hk.kd1) (by decide) (by decide) rfl (by omega) (by decide) (hk.ru (by omega)) ?_
        refine E_iconst (v := nI 3) dX0_goBack_67 (by decide) ?_
        refine E_ialdL (v := nI (gN (rul c l (bkA c f L l k) 3))) dX0_goBack_68 (hk.ltu (by omega)) (hk.kdu (by omega)) rfl (by omega) (by decide) ((hk.rn (by omega) (by omega)).trans hw5.1) ?_
        refine E_putI dX0_goBack_69 kF_X0_84 kY_2 (Or.inl rfl) (hc.glt (by omega)) (hc.gkd (by omega)) (Or.inl rfl) ?_
        have e : gbS c f l L k = numL L k (gN (rul c l (bkA c f L l k) 3)) := cI_t ⟨by assumption, hfi⟩
        have hc := hc.putN (i := k) (v := gN (rul c l (bkA c f L l k) 3)) (by omega) (by omega)
        rw [← e] at hc
        have hL := hc.B.lay
        refine E_iinc_d dX0_goBack_72 rfl rfl (by decide) rfl ?_
        refine E_goto (tgt := 10) dX0_goBack_75 (by decide) ?_
        exact ih (by omega) _ _ _ hc (by rw [gbS_len]; omega) K _
      · have hB := hc.B
        have hL := hB.lay
        have hn := hc.len
        have hk := hc.lk hk0
        refine gKv ?_
        refine E_goto (tgt := 45) dX0_goBack_40 (by decide) ?_
        refine E_istore_n dX0_goBack_45 (Nat.le_of_ble_eq_true rfl) (by decide) rfl ?_
        refine E_iload_n dX0_goBack_46 rfl ?_
        refine E_bipush (v := -100) dX0_goBack_47 (by decide) ?_
        refine E_icmp_eq (tgt := 72) dX0_goBack_49 (by decide) (fun _ => ?_) (fun c0 => absurd (by decide) c0)
        refine E_iinc_d dX0_goBack_72 rfl rfl (by decide) rfl ?_
        refine E_goto (tgt := 10) dX0_goBack_75 (by decide) ?_
        refine no (fun z => hfi ?_) _ hc _
        rw [fi_bk hkd]; exact z.2
set_option maxRecDepth 100000 in
set_option maxHeartbeats 4000000 in
theorem sp_X0_goBack {g : gG} {M : gM} {Q : Option Value ⊕ String → gM → Prop} {c : Cf} {P : Nat → Nat} {M0 : gM} {L : List Gl} {π : Nat → Nat} (hc : cX c P M0 L π M) {f tb l p : Nat} (hf : f < 2) (hF0 : mR M0 73 2 = fb f + 1) (hT0 : mI M0 73 3 = nI tb) (htb : tb ≤ 1) (hk0 : kLk c M0 l p) (hfl : l / 12 = f) (hkd : cN c 130 l = 5) (K : ∀ M π, cX c P M0 (gbk c f l L.length L) π M → Q (.inl none) M) : E g 4 0 0 mX0_goBack 0 [.ref 74, .ref (p + 1), .null, .null] [] M Q := by
  have hB := hc.B
  have hL := hB.lay
  have hn := hc.len
  have hk := hc.lk hk0
  have hl := hB.wf.lk l
  refine E_aload_n dX0_goBack_0 rfl ?_
  refine E_getRL dX0_goBack_1 kF_X0_39 kY_0 (Or.inl ⟨_, rfl⟩) (l_73 hL) (k_73 hL) (r_73_0 hL) ?_
  refine E_getIL (v := nI (List.length _)) dX0_goBack_4 kF_X0_52 kY_8 (Or.inl rfl) (l_6 hL) (k_6 hL) hc.n ?_
  refine E_iconst (v := nI 1) dX0_goBack_7 (by decide) ?_
  refine E_isub_d dX0_goBack_8 ?_
  refine E_istore_n dX0_goBack_9 (Nat.le_of_ble_eq_true rfl) (by decide) rfl ?_
  exact lp_X0_goBack hf hF0 hT0 htb hk0 hfl hkd L.length (Nat.zero_le _) L π M hc (Nat.le_refl _) K _
