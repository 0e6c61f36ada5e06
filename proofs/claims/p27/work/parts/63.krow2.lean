/-! the class: its row, changed -/
theorem kf_lay {S T : Nat → Nat → Prop} {M M' : gM} (h : kf S T M M') (ht : ∀ a j, T a j → kT a j) (hL : gLay M) : gLay M' := h.lay ht hL
set_option maxRecDepth 100000 in
set_option maxHeartbeats 4000000 in
theorem sp_X8_add {g : gG} {M : gM} {Q : Option Value ⊕ String → gM → Prop} {c : Cf} {P : Nat → Nat} {M0 : gM} {L : List Gl} {π : Nat → Nat} (hc : cX c P M0 L π M) (hl : L.length < 64) (K : Q (.inl (some (.ref (8 + π L.length + 1)))) (sI M 6 1 (nI (L.length + 1)))) : E g 1 0 0 mX8_add 0 [.ref 7, .null] [] M Q := by
  have hB := hc.B
  have hL := hB.lay
  have hn := hc.len
  have hm : min L.length 63 = L.length := by omega
  refine E_aload_n dX8_add_0 rfl ?_
  refine E_getIL (v := nI (List.length _)) dX8_add_1 kF_X8_17 kY_8 (Or.inl rfl) (l_6 hL) (k_6 hL) hc.n ?_
  refine E_bipush (v := nI 63) dX8_add_4 (by decide) ?_
  refine E_kmin_n (gW_at 839 (by decide +kernel) (by decide +kernel)) dX8_add_6 (by decide) (by exact Nat.le_of_ble_eq_true rfl) (by omega) (by omega) ?_
  rw [hm]
  refine E_istore_n dX8_add_9 (Nat.le_of_ble_eq_true rfl) (by decide) rfl ?_
  refine E_aload_n dX8_add_10 rfl ?_
  refine E_iload_n dX8_add_11 rfl ?_
  refine E_iconst (v := nI 1) dX8_add_12 (by decide) ?_
  refine E_iadd_n dX8_add_13 ?_
  refine E_putI dX8_add_14 kF_X8_17 kY_8 (Or.inl rfl) (l_6 hL) (k_6 hL) (Or.inl rfl) ?_
  refine E_aload_n dX8_add_17 rfl ?_
  refine E_getRL dX8_add_18 kF_X8_11 kY_8 (Or.inr ⟨_, rfl⟩) (l_6 hL) (k_6 hL) (r_6_0 hL) ?_
  refine E_iload_n dX8_add_21 rfl ?_
  refine E_aaldL (v := _) dX8_add_22 (l_7 hL) (k_7 hL) (by decide) (by decide) rfl (by omega) (by decide) ((show mR (sI M 6 1 (nI (L.length + 1))) 7 L.length = mR M 7 L.length from rfl).trans (hc.cell hl)) ?_
  refine E_aret dX8_add_23 rfl (Or.inl ⟨_, rfl⟩) ?_
  exact K
set_option maxRecDepth 100000 in
set_option maxHeartbeats 4000000 in
theorem sp_X2_start {g : gG} {M : gM} {Q : Option Value ⊕ String → gM → Prop} {p : Nat} (hp : p < mN M) (hkp : mK M p = (2, 0)) {s cl v fo : Int32} (K : Q (.inl none) (sI (sI (sI (sI (sI (sI (sI M p 0 s) p 4 s) p 1 cl) p 2 v) p 3 fo) p 5 (-100)) p 6 (nI 1))) : E g 1 0 0 mX2_start 0 [.ref (p + 1), .int s, .int cl, .int v, .int fo] [] M Q := by
  refine E_aload_n dX2_start_0 rfl ?_
  refine E_iload_n dX2_start_1 rfl ?_
  refine E_putI dX2_start_2 kF_X2_9 kY_2 (Or.inl rfl) hp hkp (Or.inl rfl) ?_
  refine E_aload_n dX2_start_5 rfl ?_
  refine E_iload_n dX2_start_6 rfl ?_
  refine E_putI dX2_start_7 kF_X2_15 kY_2 (Or.inl rfl) hp hkp (Or.inl rfl) ?_
  refine E_aload_n dX2_start_10 rfl ?_
  refine E_iload_n dX2_start_11 rfl ?_
  refine E_putI dX2_start_12 kF_X2_18 kY_2 (Or.inl rfl) hp hkp (Or.inl rfl) ?_
  refine E_aload_n dX2_start_15 rfl ?_
  refine E_iload_n dX2_start_16 rfl ?_
  refine E_putI dX2_start_17 kF_X2_21 kY_2 (Or.inl rfl) hp hkp (Or.inl rfl) ?_
  refine E_aload_n dX2_start_20 rfl ?_
  refine E_iload dX2_start_21 rfl ?_
  refine E_putI dX2_start_23 kF_X2_24 kY_2 (Or.inl rfl) hp hkp (Or.inl rfl) ?_
  refine E_aload_n dX2_start_26 rfl ?_
  refine E_bipush (v := -100) dX2_start_27 (by decide) ?_
  refine E_putI dX2_start_29 kF_X2_27 kY_2 (Or.inl rfl) hp hkp (Or.inl rfl) ?_
  refine E_aload_n dX2_start_32 rfl ?_
  refine E_iconst (v := nI 1) dX2_start_33 (by decide) ?_
  refine E_putI dX2_start_34 kF_X2_30 kY_2 (Or.inl rfl) hp hkp (Or.inl rfl) ?_
  refine E_vret dX2_start_37 rfl ?_
  exact K
theorem cX.start {c : Cf} {P : Nat → Nat} {M0 M : gM} {L : List Gl} {π : Nat → Nat} (h : cX c P M0 L π M) {s cl v : Nat} {fo : Int32} (hl : L.length < 64) (hs : s < 65) (hc : cl < 16) (hv : v ≤ 3) :
    cX c P M0 (addL L (newG s cl v fo)) π (sI (sI (sI (sI (sI (sI (sI (sI M 6 1 (nI (L.length + 1))) (8 + π L.length) 0 (nI s)) (8 + π L.length) 4 (nI s)) (8 + π L.length) 1 (nI cl)) (8 + π L.length) 2 (nI v)) (8 + π L.length) 3 fo) (8 + π L.length) 5 (-100)) (8 + π L.length) 6 (nI 1)) := by
  have hp := h.p64 hl
  have h6 : ¬ 6 = 8 + π L.length := by omega
  refine h.add hl (okG_new (by omega) hc hv) ((((((((kf.refl.wr (Or.inr ⟨rfl, rfl⟩)).wr (Or.inl rfl)).wr (Or.inl rfl)).wr (Or.inl rfl)).wr (Or.inl rfl)).wr (Or.inl rfl)).wr (Or.inl rfl)).wr (Or.inl rfl)) ?_ ?_
  · rw [mI_ne h6, mI_ne h6, mI_ne h6, mI_ne h6, mI_ne h6, mI_ne h6, mI_ne h6]; exact mI_eq
  · unfold glC newG
    simp only [mI_sI]
    refine ⟨by simp [yN], by simp [yC], by simp [yE], by simp [yF], ?_, by simp [yP], by simp [yT]⟩
    simp [yO, oI_n (show ¬ s = 65 by omega)]
/-- what add left, before start -/
def adM (M : gM) (n : Nat) : gM := sI M 6 1 (nI (n + 1))
theorem adM_lt {c : Cf} {P : Nat → Nat} {M0 M : gM} {L : List Gl} {π : Nat → Nat} (h : cX c P M0 L π M) (hl : L.length < 64) : 8 + π L.length < mN (sI M 6 1 (nI (L.length + 1))) := h.glt hl
theorem adM_k {c : Cf} {P : Nat → Nat} {M0 M : gM} {L : List Gl} {π : Nat → Nat} (h : cX c P M0 L π M) (hl : L.length < 64) : mK (sI M 6 1 (nI (L.length + 1))) (8 + π L.length) = (2, 0) := h.gkd hl
theorem adM_lay {c : Cf} {P : Nat → Nat} {M0 M : gM} {L : List Gl} {π : Nat → Nat} (h : cX c P M0 L π M) : gLay (sI M 6 1 (nI (L.length + 1))) := gLay_sI h.B.lay
set_option maxRecDepth 100000 in
set_option maxHeartbeats 4000000 in
theorem sp_X2_takeOver {g : gG} {M : gM} {Q : Option Value ⊕ String → gM → Prop} {p q : Nat} (hp : p < mN M) (hkp : mK M p = (2, 0)) (hq : q < mN M) (hkq : mK M q = (2, 0)) (hne : ¬ q = p) (K : Q (.inl none) (sI (sI (sI (sI (sI (sI M p 1 (mI M q 1)) p 2 (mI M q 2)) p 3 (mI M q 3)) p 4 (mI M q 4)) p 5 (mI M q 5)) p 6 (mI M q 6))) : E g 1 0 0 mX2_takeOver 0 [.ref (p + 1), .ref (q + 1)] [] M Q := by
  refine E_aload_n dX2_takeOver_0 rfl ?_
  refine E_aload_n dX2_takeOver_1 rfl ?_
  refine E_getIL (v := _) dX2_takeOver_2 kF_X2_18 kY_2 (Or.inl rfl) hq hkq rfl ?_
  refine E_putI dX2_takeOver_5 kF_X2_18 kY_2 (Or.inl rfl) hp hkp (Or.inl rfl) ?_
  refine E_aload_n dX2_takeOver_8 rfl ?_
  refine E_aload_n dX2_takeOver_9 rfl ?_
  refine E_getIL (v := _) dX2_takeOver_10 kF_X2_21 kY_2 (Or.inl rfl) hq hkq (mI_ne hne) ?_
  refine E_putI dX2_takeOver_13 kF_X2_21 kY_2 (Or.inl rfl) hp hkp (Or.inl rfl) ?_
  refine E_aload_n dX2_takeOver_16 rfl ?_
  refine E_aload_n dX2_takeOver_17 rfl ?_
  refine E_getIL (v := _) dX2_takeOver_18 kF_X2_24 kY_2 (Or.inl rfl) hq hkq ((mI_ne hne).trans (mI_ne hne)) ?_
  refine E_putI dX2_takeOver_21 kF_X2_24 kY_2 (Or.inl rfl) hp hkp (Or.inl rfl) ?_
  refine E_aload_n dX2_takeOver_24 rfl ?_
  refine E_aload_n dX2_takeOver_25 rfl ?_
  refine E_getIL (v := _) dX2_takeOver_26 kF_X2_15 kY_2 (Or.inl rfl) hq hkq ((mI_ne hne).trans ((mI_ne hne).trans (mI_ne hne))) ?_
  refine E_putI dX2_takeOver_29 kF_X2_15 kY_2 (Or.inl rfl) hp hkp (Or.inl rfl) ?_
  refine E_aload_n dX2_takeOver_32 rfl ?_
  refine E_aload_n dX2_takeOver_33 rfl ?_
  refine E_getIL (v := _) dX2_takeOver_34 kF_X2_27 kY_2 (Or.inl rfl) hq hkq ((mI_ne hne).trans ((mI_ne hne).trans ((mI_ne hne).trans (mI_ne hne)))) ?_
  refine E_putI dX2_takeOver_37 kF_X2_27 kY_2 (Or.inl rfl) hp hkp (Or.inl rfl) ?_
  refine E_aload_n dX2_takeOver_40 rfl ?_
  refine E_aload_n dX2_takeOver_41 rfl ?_
  refine E_getIL (v := _) dX2_takeOver_42 kF_X2_30 kY_2 (Or.inl rfl) hq hkq ((mI_ne hne).trans ((mI_ne hne).trans ((mI_ne hne).trans ((mI_ne hne).trans (mI_ne hne))))) ?_
  refine E_putI dX2_takeOver_45 kF_X2_30 kY_2 (Or.inl rfl) hp hkp (Or.inl rfl) ?_
  refine E_vret dX2_takeOver_48 rfl ?_
  exact K
set_option maxRecDepth 100000 in
set_option maxHeartbeats 4000000 in
theorem sp_X2_setOn {g : gG} {M : gM} {Q : Option Value ⊕ String → gM → Prop} {p : Nat} (hp : p < mN M) (hkp : mK M p = (2, 0)) {s cl v : Int32} (K : Q (.inl none) (sI (sI (sI M p 10 s) p 11 cl) p 12 v)) : E g 1 0 0 mX2_setOn 0 [.ref (p + 1), .int s, .int cl, .int v] [] M Q := by
  refine E_aload_n dX2_setOn_0 rfl ?_
  refine E_iload_n dX2_setOn_1 rfl ?_
  refine E_putI dX2_setOn_2 kF_X2_33 kY_2 (Or.inl rfl) hp hkp (Or.inl rfl) ?_
  refine E_aload_n dX2_setOn_5 rfl ?_
  refine E_iload_n dX2_setOn_6 rfl ?_
  refine E_putI dX2_setOn_7 kF_X2_36 kY_2 (Or.inl rfl) hp hkp (Or.inl rfl) ?_
  refine E_aload_n dX2_setOn_10 rfl ?_
  refine E_iload_n dX2_setOn_11 rfl ?_
  refine E_putI dX2_setOn_12 kF_X2_39 kY_2 (Or.inl rfl) hp hkp (Or.inl rfl) ?_
  refine E_vret dX2_setOn_15 rfl ?_
  exact K
theorem cM.lay {M M' : gM} {ρ : Nat → Nat} (h : cM M ρ M') (hL : gLay M) : gLay M' := h.kf.lay (fun _ _ q => Or.inl q) hL
theorem cM.n6 {c : Cf} {P : Nat → Nat} {M0 M M' : gM} {L : List Gl} {π ρ : Nat → Nat} (h : cX c P M0 L π M) (hm : cM M ρ M') : mI M' 6 1 = nI L.length := (hm.i 6 1).trans h.n
theorem gl_lt {M : gM} (h : gLay M) {q : Nat} (hq : q < 64) : 8 + q < mN M := h.lt (by show 8 + q < 139; omega)
/-- from a up to k all is one to the left; from a down to k all is one to the right -/
def mvU (π : Nat → Nat) (a k i : Nat) : Nat := if a ≤ i ∧ i < k then π (i + 1) else π i
def mvD (π : Nat → Nat) (a k i : Nat) : Nat := if k < i ∧ i ≤ a then π (i - 1) else π i
set_option maxRecDepth 100000 in
set_option maxHeartbeats 4000000 in
theorem t_X8_move {g : gG} {M : gM} {Q : Option Value ⊕ String → gM → Prop} (hL : gLay M) {Mb : gM} {ρ : Nat → Nat} (hm : cM Mb ρ M) {a b q : Nat} (hq : q < 64) (ha : a < 64) (hb : b < 64) (K : ∀ M, cM Mb (updP ρ b q) M → Q (.inl none) M) : ∀ v4, E g 2 0 0 mX8_move 86 [.ref 7, .int (nI a), .int (nI b), .ref (8 + q + 1), v4] [] M Q := by
  intro v4
  refine E_aload_n dX8_move_86 rfl ?_
  refine E_getRL dX8_move_87 kF_X8_11 kY_8 (Or.inr ⟨_, rfl⟩) (l_6 hL) (k_6 hL) (r_6_0 hL) ?_
  refine E_iload_n dX8_move_90 rfl ?_
  refine E_aload_n dX8_move_91 rfl ?_
  refine E_aast dX8_move_92 (l_7 hL) (k_7 hL) (by decide) (by decide) (gl_lt hL hq) (gl_k hL hq) (by decide) rfl rfl (by omega) (by decide) ?_
  refine E_vret dX8_move_93 rfl ?_
  exact K _ (hm.set b q)
set_option maxRecDepth 100000 in
set_option maxHeartbeats 4000000 in
theorem lp1_X8_move {g : gG} {Q : Option Value ⊕ String → gM → Prop} {Mb : gM} {π : Nat → Nat} (hL0 : gLay Mb) (hπ : ∀ i, i < 64 → π i < 64) {a b q : Nat} (hq : q < 64) (ha : a < 64) (hb : b < 64) (hab : a ≤ b) (K : ∀ M, cM Mb (updP (mvU π a b) b q) M → Q (.inl none) M) : ∀ k, k ≤ b → a ≤ k → ∀ M, cM Mb (mvU π a k) M → E g 2 0 0 mX8_move 27 [.ref 7, .int (nI a), .int (nI b), .ref (8 + q + 1), .int (nI k)] [] M Q := by
  refine lpUp b (fun k hk ih => ?_)
  intro hak M hm
  have hL := hm.lay hL0
  have hρ : ∀ i, i < 64 → mvU π a k i < 64 := fun i hi => by unfold mvU; split <;> exact hπ _ (by omega)
  refine E_iload dX8_move_27 rfl ?_
  refine E_iload_n dX8_move_29 rfl ?_
  refine E_icmp_ge_n (tgt := 55) dX8_move_30 (by decide) (by omega) (by omega) (fun c_30 => ?_) (fun c_30 => ?_)
  · obtain rfl : k = b := by omega
    refine E_iload_n dX8_move_55 rfl ?_
    refine E_istore dX8_move_56 (Nat.le_of_ble_eq_true rfl) (by decide) rfl ?_
    refine E_iload dX8_move_58 rfl ?_
    refine E_iload_n dX8_move_60 rfl ?_
    refine E_icmp_le_n (tgt := 86) dX8_move_61 (by decide) (by omega) (by omega) (fun c_61 => ?_) (fun c_61 => ?_)
    · exact t_X8_move hL hm hq ha hb K _
    · exfalso; omega
  · refine E_aload_n dX8_move_33 rfl ?_
    refine E_getRL dX8_move_34 kF_X8_11 kY_8 (Or.inr ⟨_, rfl⟩) (l_6 hL) (k_6 hL) (r_6_0 hL) ?_
    refine E_iload dX8_move_37 rfl ?_
    refine E_aload_n dX8_move_39 rfl ?_
    refine E_getRL dX8_move_40 kF_X8_11 kY_8 (Or.inr ⟨_, rfl⟩) (l_6 hL) (k_6 hL) (r_6_0 hL) ?_
    refine E_iload dX8_move_43 rfl ?_
    refine E_iconst (v := nI 1) dX8_move_45 (by decide) ?_
    refine E_iadd_n dX8_move_46 ?_
    refine E_aaldL (v := _) dX8_move_47 (l_7 hL) (k_7 hL) (by decide) (by decide) rfl (by omega) (by decide) (hm.cell (by omega)) ?_
    refine E_aast dX8_move_48 (l_7 hL) (k_7 hL) (by decide) (by decide) (gl_lt hL (by first | assumption | exact hρ _ (by omega))) (gl_k hL (by first | assumption | exact hρ _ (by omega))) (by decide) rfl rfl (by omega) (by decide) ?_
    refine E_iinc_n (d := 1) dX8_move_49 rfl rfl rfl (by decide) rfl ?_
    refine E_goto (tgt := 27) dX8_move_52 (by decide) ?_
    refine ih (by omega) (by omega) _ ((hm.set k (mvU π a k (k + 1))).congr (fun i _ => ?_))
    unfold updP mvU
    by_cases e : i = k
    · subst e; rw [if_pos rfl, if_neg (by omega), if_pos (by omega)]
    · rw [if_neg e]
      by_cases e2 : a ≤ i ∧ i < k
      · rw [if_pos e2, if_pos (by omega)]
      · rw [if_neg e2, if_neg (by omega)]
set_option maxRecDepth 100000 in
set_option maxHeartbeats 4000000 in
theorem lp2_X8_move {g : gG} {Q : Option Value ⊕ String → gM → Prop} {Mb : gM} {π : Nat → Nat} (hL0 : gLay Mb) (hπ : ∀ i, i < 64 → π i < 64) {a b q : Nat} (hq : q < 64) (ha : a < 64) (hb : b < 64) (hab : b ≤ a) (K : ∀ M, cM Mb (updP (mvD π a b) b q) M → Q (.inl none) M) : ∀ k, b ≤ k → k ≤ a → ∀ M, cM Mb (mvD π a k) M → E g 2 0 0 mX8_move 58 [.ref 7, .int (nI a), .int (nI b), .ref (8 + q + 1), .int (nI k)] [] M Q := by
  refine lpDn b (fun k hbk ih => ?_)
  intro hka M hm
  have hL := hm.lay hL0
  have hρ : ∀ i, i < 64 → mvD π a k i < 64 := fun i hi => by unfold mvD; split <;> exact hπ _ (by omega)
  refine E_iload dX8_move_58 rfl ?_
  refine E_iload_n dX8_move_60 rfl ?_
  refine E_icmp_le_n (tgt := 86) dX8_move_61 (by decide) (by omega) (by omega) (fun c_61 => ?_) (fun c_61 => ?_)
  · obtain rfl : k = b := by omega
    exact t_X8_move hL hm hq ha hb K _
  · refine E_aload_n dX8_move_64 rfl ?_
    refine E_getRL dX8_move_65 kF_X8_11 kY_8 (Or.inr ⟨_, rfl⟩) (l_6 hL) (k_6 hL) (r_6_0 hL) ?_
    refine E_iload dX8_move_68 rfl ?_
    refine E_aload_n dX8_move_70 rfl ?_
    refine E_getRL dX8_move_71 kF_X8_11 kY_8 (Or.inr ⟨_, rfl⟩) (l_6 hL) (k_6 hL) (r_6_0 hL) ?_
    refine E_iload dX8_move_74 rfl ?_
    refine E_iconst (v := nI 1) dX8_move_76 (by decide) ?_
    refine E_isub_n dX8_move_77 (by omega) ?_
    refine E_aaldL (v := _) dX8_move_78 (l_7 hL) (k_7 hL) (by decide) (by decide) rfl (by omega) (by decide) (hm.cell (by omega)) ?_
    refine E_aast dX8_move_79 (l_7 hL) (k_7 hL) (by decide) (by decide) (gl_lt hL (by first | assumption | exact hρ _ (by omega))) (gl_k hL (by first | assumption | exact hρ _ (by omega))) (by decide) rfl rfl (by omega) (by decide) ?_
    obtain ⟨k, rfl⟩ : ∃ z, k = z + 1 := ⟨k - 1, by omega⟩
    simp only [Nat.add_sub_cancel] at ih ⊢
    refine E_iinc (v := nI k) dX8_move_80 rfl (pk_m1 k) (by decide) rfl ?_
    refine E_goto (tgt := 58) dX8_move_83 (by decide) ?_
    refine ih (by omega) (by omega) _ ((hm.set (k + 1) (mvD π a (k + 1) k)).congr (fun i _ => ?_))
    unfold updP mvD
    by_cases e : i = k + 1
    · subst e; rw [if_pos rfl, if_neg (by omega), if_pos (by omega), Nat.add_sub_cancel]
    · rw [if_neg e]
      by_cases e2 : k + 1 < i ∧ i ≤ a
      · rw [if_pos e2, if_pos (by omega)]
      · rw [if_neg e2, if_neg (by omega)]
theorem sI_n6 {M : gM} {n : Nat} {v : Int32} (h : mI M 6 1 = v) : sI M 6 1 v = M := sI_same h
/-- the row after a move -/
noncomputable def movL (L : List Gl) (a b : Nat) : List Gl := if a ≤ b then rotL L a (a + 1) (b + 1) else rotL L b a (a + 1)
theorem movL_len (L : List Gl) (a b : Nat) : (movL L a b).length = L.length := by unfold movL; split <;> exact rot_len _ _ _ _
theorem rotS_lt {a b e j n : Nat} (hab : a ≤ b) (hbe : b ≤ e) (he : e ≤ n) (hj : j < n) : rotS a b e j < n := by
  unfold rotS
  repeat' split
  all_goals omega
theorem rotS_inj {a b e i j : Nat} (hab : a ≤ b) (hbe : b ≤ e) (q : rotS a b e i = rotS a b e j) : i = j := by
  unfold rotS at q
  repeat' split at q
  all_goals omega
theorem cX.moveU {c : Cf} {P : Nat → Nat} {M0 M M' : gM} {L : List Gl} {π : Nat → Nat} (h : cX c P M0 L π M) {a b : Nat} (hab : a ≤ b) (hb : b < L.length) (hm : cM M (updP (mvU π a b) b (π a)) M') : cX c P M0 (rotL L a (a + 1) (b + 1)) (updP (mvU π a b) b (π a)) M' := by
  have hn := h.len
  have h6 : mI M' 6 1 = nI L.length := hm.n6 h
  have key := h.perm (n := L.length) (σ := fun i => rotS a (a + 1) (b + 1) i) hm (fun i hi => by
    unfold updP mvU rotS
    by_cases e1 : i = b
    · subst e1; rw [if_pos rfl]; by_cases e2 : i < a
      · omega
      · rw [if_neg e2, if_neg (by omega), if_pos (by omega)]; congr 1; omega
    · rw [if_neg e1]
      by_cases e2 : a ≤ i ∧ i < b
      · rw [if_pos e2, if_neg (by omega), if_pos (by omega)]; congr 1; omega
      · rw [if_neg e2]; by_cases e3 : i < a
        · rw [if_pos e3]
        · rw [if_neg e3, if_neg (by omega), if_neg (by omega)]) (fun i hi => rotS_lt (by omega) (by omega) (by omega) hi) (fun i j hi hj e => rotS_inj (by omega) (by omega) e) hn (fun i hi => rotS_lt (by omega) (by omega) (by omega) hi)
  rwa [sI_same h6] at key
theorem cX.moveD {c : Cf} {P : Nat → Nat} {M0 M M' : gM} {L : List Gl} {π : Nat → Nat} (h : cX c P M0 L π M) {a b : Nat} (hab : b ≤ a) (hb : a < L.length) (hm : cM M (updP (mvD π a b) b (π a)) M') : cX c P M0 (rotL L b a (a + 1)) (updP (mvD π a b) b (π a)) M' := by
  have hn := h.len
  have h6 : mI M' 6 1 = nI L.length := hm.n6 h
  have key := h.perm (n := L.length) (σ := fun i => rotS b a (a + 1) i) hm (fun i hi => by
    unfold updP mvD rotS
    by_cases e1 : i = b
    · subst e1; rw [if_pos rfl, if_neg (by omega), if_pos (by omega)]; congr 1; omega
    · rw [if_neg e1]
      by_cases e2 : b < i ∧ i ≤ a
      · rw [if_pos e2, if_neg (by omega), if_neg (by omega), if_pos (by omega)]; congr 1; omega
      · rw [if_neg e2]; by_cases e3 : i < b
        · rw [if_pos e3]
        · rw [if_neg e3, if_neg (by omega), if_neg (by omega)]) (fun i hi => rotS_lt (by omega) (by omega) (by omega) hi) (fun i j hi hj e => rotS_inj (by omega) (by omega) e) hn (fun i hi => rotS_lt (by omega) (by omega) (by omega) hi)
  rwa [sI_same h6] at key
set_option maxRecDepth 100000 in
set_option maxHeartbeats 4000000 in
theorem sp_X8_moveU {g : gG} {M : gM} {Q : Option Value ⊕ String → gM → Prop} {c : Cf} {P : Nat → Nat} {M0 : gM} {L : List Gl} {π : Nat → Nat} (hc : cX c P M0 L π M) {a b : Nat} (hab : a ≤ b) (hb : b < L.length) (K : ∀ M π, cX c P M0 (rotL L a (a + 1) (b + 1)) π M → Q (.inl none) M) : E g 2 0 0 mX8_move 0 [.ref 7, .int (nI a), .int (nI b), .null, .null] [] M Q := by
  have hB := hc.B
  have hL := hB.lay
  have hn := hc.len
  refine E_aload_n dX8_move_0 rfl ?_
  refine E_iload_n dX8_move_1 rfl ?_
  refine E_callV1 (fr' := 1) (k1 := 0) (n1 := 0) (k2 := 0) (n2 := 0) dX8_move_2 kO_X8_has kL_X8_28 (l_6 hL) (k_6 hL) ⟨by decide, rfl⟩ rfl (by decide) (by decide) (by exact Nat.le_of_ble_eq_true rfl) rfl ?_
  refine sp_X8_has hc (by omega) ?_
  refine gKv ?_
  refine E_if_eq_b (tgt := 16) dX8_move_5 (by decide) (fun c_5 => ?_) (fun c_5 => ?_)
  · refine E_vret dX8_move_16 rfl ?_
    exfalso; omega
  · refine E_aload_n dX8_move_8 rfl ?_
    refine E_iload_n dX8_move_9 rfl ?_
    refine E_callV1 (fr' := 1) (k1 := 0) (n1 := 0) (k2 := 0) (n2 := 0) dX8_move_10 kO_X8_has kL_X8_28 (l_6 hL) (k_6 hL) ⟨by decide, rfl⟩ rfl (by decide) (by decide) (by exact Nat.le_of_ble_eq_true rfl) rfl ?_
    refine sp_X8_has hc (by omega) ?_
    refine gKv ?_
    refine E_if_ne_b (tgt := 17) dX8_move_13 (by decide) (fun c_13 => ?_) (fun c_13 => ?_)
    · refine E_aload_n dX8_move_17 rfl ?_
      refine E_getRL dX8_move_18 kF_X8_11 kY_8 (Or.inr ⟨_, rfl⟩) (l_6 hL) (k_6 hL) (r_6_0 hL) ?_
      refine E_iload_n dX8_move_21 rfl ?_
      refine E_aaldL (v := _) dX8_move_22 (l_7 hL) (k_7 hL) (by decide) (by decide) rfl (by omega) (by decide) (hc.cell (by omega)) ?_
      refine E_astore_n dX8_move_23 (Nat.le_of_ble_eq_true rfl) (by decide) rfl ?_
      refine E_iload_n dX8_move_24 rfl ?_
      refine E_istore dX8_move_25 (Nat.le_of_ble_eq_true rfl) (by decide) rfl ?_
      exact lp1_X8_move hL (fun i hi => hc.p64 hi) (hc.p64 (by omega)) (by omega) (by omega) hab (fun M hm => K M _ (hc.moveU hab hb hm)) a hab (Nat.le_refl _) M (hc.cm.congr (fun i _ => by unfold mvU; rw [if_neg (by omega)]))
    · refine E_vret dX8_move_16 rfl ?_
      exfalso; omega
set_option maxRecDepth 100000 in
set_option maxHeartbeats 4000000 in
theorem sp_X8_moveD {g : gG} {M : gM} {Q : Option Value ⊕ String → gM → Prop} {c : Cf} {P : Nat → Nat} {M0 : gM} {L : List Gl} {π : Nat → Nat} (hc : cX c P M0 L π M) {a b : Nat} (hab : b ≤ a) (hb : a < L.length) (K : ∀ M π, cX c P M0 (rotL L b a (a + 1)) π M → Q (.inl none) M) : E g 2 0 0 mX8_move 0 [.ref 7, .int (nI a), .int (nI b), .null, .null] [] M Q := by
  have hB := hc.B
  have hL := hB.lay
  have hn := hc.len
  refine E_aload_n dX8_move_0 rfl ?_
  refine E_iload_n dX8_move_1 rfl ?_
  refine E_callV1 (fr' := 1) (k1 := 0) (n1 := 0) (k2 := 0) (n2 := 0) dX8_move_2 kO_X8_has kL_X8_28 (l_6 hL) (k_6 hL) ⟨by decide, rfl⟩ rfl (by decide) (by decide) (by exact Nat.le_of_ble_eq_true rfl) rfl ?_
  refine sp_X8_has hc (by omega) ?_
  refine gKv ?_
  refine E_if_eq_b (tgt := 16) dX8_move_5 (by decide) (fun c_5 => ?_) (fun c_5 => ?_)
  · refine E_vret dX8_move_16 rfl ?_
    exfalso; omega
  · refine E_aload_n dX8_move_8 rfl ?_
    refine E_iload_n dX8_move_9 rfl ?_
    refine E_callV1 (fr' := 1) (k1 := 0) (n1 := 0) (k2 := 0) (n2 := 0) dX8_move_10 kO_X8_has kL_X8_28 (l_6 hL) (k_6 hL) ⟨by decide, rfl⟩ rfl (by decide) (by decide) (by exact Nat.le_of_ble_eq_true rfl) rfl ?_
    refine sp_X8_has hc (by omega) ?_
    refine gKv ?_
    refine E_if_ne_b (tgt := 17) dX8_move_13 (by decide) (fun c_13 => ?_) (fun c_13 => ?_)
    · refine E_aload_n dX8_move_17 rfl ?_
      refine E_getRL dX8_move_18 kF_X8_11 kY_8 (Or.inr ⟨_, rfl⟩) (l_6 hL) (k_6 hL) (r_6_0 hL) ?_
      refine E_iload_n dX8_move_21 rfl ?_
      refine E_aaldL (v := _) dX8_move_22 (l_7 hL) (k_7 hL) (by decide) (by decide) rfl (by omega) (by decide) (hc.cell (by omega)) ?_
      refine E_astore_n dX8_move_23 (Nat.le_of_ble_eq_true rfl) (by decide) rfl ?_
      refine E_iload_n dX8_move_24 rfl ?_
      refine E_istore dX8_move_25 (Nat.le_of_ble_eq_true rfl) (by decide) rfl ?_
      refine E_iload dX8_move_27 rfl ?_
      refine E_iload_n dX8_move_29 rfl ?_
      refine E_icmp_ge_n (tgt := 55) dX8_move_30 (by decide) (by omega) (by omega) (fun c_30 => ?_) (fun c_30 => ?_)
      · refine E_iload_n dX8_move_55 rfl ?_
        refine E_istore dX8_move_56 (Nat.le_of_ble_eq_true rfl) (by decide) rfl ?_
        exact lp2_X8_move hL (fun i hi => hc.p64 hi) (hc.p64 (by omega)) (by omega) (by omega) hab (fun M hm => K M _ (hc.moveD hab hb hm)) a hab (Nat.le_refl _) M (hc.cm.congr (fun i _ => by unfold mvD; rw [if_neg (by omega)]))
      · exfalso; omega
    · refine E_vret dX8_move_16 rfl ?_
      exfalso; omega
set_option maxRecDepth 100000 in
set_option maxHeartbeats 4000000 in
theorem lp_X8_takeOut {g : gG} {Q : Option Value ⊕ String → gM → Prop} {Mb : gM} {π : Nat → Nat} {n a q : Nat} (hL0 : gLay Mb) (hπ : ∀ i, i < 64 → π i < 64) (h6 : mI Mb 6 1 = nI n) (hn : n ≤ 64) (ha : a < n) (hq : q < 64) (K : ∀ M, cM Mb (updP (mvU π a (n - 1)) (n - 1) q) M → Q (.inl none) (sI M 6 1 (nI (n - 1)))) : ∀ k, k ≤ n - 1 → a ≤ k → ∀ M, cM Mb (mvU π a k) M → E g 1 0 0 mX8_takeOut 22 [.ref 7, .int (nI a), .ref (8 + q + 1), .int (nI k)] [] M Q := by
  refine lpUp (n - 1) (fun k hk ih => ?_)
  intro hak M hm
  have hL := hm.lay hL0
  have h62 : mI M 6 1 = nI n := (hm.i 6 1).trans h6
  have hρ : ∀ i, i < 64 → mvU π a k i < 64 := fun i hi => by unfold mvU; split <;> exact hπ _ (by omega)
  refine E_iload_n dX8_takeOut_22 rfl ?_
  refine E_aload_n dX8_takeOut_23 rfl ?_
  refine E_getIL (v := nI n) dX8_takeOut_24 kF_X8_17 kY_8 (Or.inl rfl) (l_6 hL) (k_6 hL) h62 ?_
  refine E_iconst (v := nI 1) dX8_takeOut_27 (by decide) ?_
  refine E_isub_n dX8_takeOut_28 (by omega) ?_
  refine E_icmp_ge_n (tgt := 52) dX8_takeOut_29 (by decide) (by omega) (by omega) (fun c_29 => ?_) (fun c_29 => ?_)
  · obtain rfl : k = n - 1 := by omega
    refine E_aload_n dX8_takeOut_52 rfl ?_
    refine E_dup dX8_takeOut_53 rfl ?_
    refine E_getIL (v := nI n) dX8_takeOut_54 kF_X8_17 kY_8 (Or.inl rfl) (l_6 hL) (k_6 hL) h62 ?_
    refine E_iconst (v := nI 1) dX8_takeOut_57 (by decide) ?_
    refine E_isub_n dX8_takeOut_58 (by omega) ?_
    refine E_putI dX8_takeOut_59 kF_X8_17 kY_8 (Or.inl rfl) (l_6 hL) (k_6 hL) (Or.inl rfl) ?_
    refine E_aload_n dX8_takeOut_62 rfl ?_
    refine E_getRL dX8_takeOut_63 kF_X8_11 kY_8 (Or.inr ⟨_, rfl⟩) (l_6 hL) (k_6 hL) (r_6_0 hL) ?_
    refine E_aload_n dX8_takeOut_66 rfl ?_
    refine E_getIL (v := nI (n - 1)) dX8_takeOut_67 kF_X8_17 kY_8 (Or.inl rfl) (l_6 hL) (k_6 hL) mI_eq ?_
    refine E_aload_n dX8_takeOut_70 rfl ?_
    refine E_aast dX8_takeOut_71 (l_7 hL) (k_7 hL) (by decide) (by decide) (gl_lt hL hq) (gl_k hL hq) (by decide) rfl rfl (by omega) (by decide) ?_
    refine E_vret dX8_takeOut_72 rfl ?_
    exact K _ (hm.set (n - 1) q)
  · refine E_aload_n dX8_takeOut_32 rfl ?_
    refine E_getRL dX8_takeOut_33 kF_X8_11 kY_8 (Or.inr ⟨_, rfl⟩) (l_6 hL) (k_6 hL) (r_6_0 hL) ?_
    refine E_iload_n dX8_takeOut_36 rfl ?_
    refine E_aload_n dX8_takeOut_37 rfl ?_
    refine E_getRL dX8_takeOut_38 kF_X8_11 kY_8 (Or.inr ⟨_, rfl⟩) (l_6 hL) (k_6 hL) (r_6_0 hL) ?_
    refine E_iload_n dX8_takeOut_41 rfl ?_
    refine E_iconst (v := nI 1) dX8_takeOut_42 (by decide) ?_
    refine E_iadd_n dX8_takeOut_43 ?_
    refine E_aaldL (v := _) dX8_takeOut_44 (l_7 hL) (k_7 hL) (by decide) (by decide) rfl (by omega) (by decide) (hm.cell (by omega)) ?_
    refine E_aast dX8_takeOut_45 (l_7 hL) (k_7 hL) (by decide) (by decide) (gl_lt hL (by first | assumption | exact hρ _ (by omega))) (gl_k hL (by first | assumption | exact hρ _ (by omega))) (by decide) rfl rfl (by omega) (by decide) ?_
    refine E_iinc_n (d := 1) dX8_takeOut_46 rfl rfl rfl (by decide) rfl ?_
    refine E_goto (tgt := 22) dX8_takeOut_49 (by decide) ?_
    refine ih (by omega) (by omega) _ ((hm.set k (mvU π a k (k + 1))).congr (fun i _ => ?_))
    unfold updP mvU
    by_cases e : i = k
    · subst e; rw [if_pos rfl, if_neg (by omega), if_pos (by omega)]
    · rw [if_neg e]
      by_cases e2 : a ≤ i ∧ i < k
      · rw [if_pos e2, if_pos (by omega)]
      · rw [if_neg e2, if_neg (by omega)]
theorem cX.out {c : Cf} {P : Nat → Nat} {M0 M M' : gM} {L : List Gl} {π : Nat → Nat} (h : cX c P M0 L π M) {a : Nat} (ha : a < L.length) (hm : cM M (updP (mvU π a (L.length - 1)) (L.length - 1) (π a)) M') : cX c P M0 (closeL L a) (updP (mvU π a (L.length - 1)) (L.length - 1) (π a)) (sI M' 6 1 (nI (L.length - 1))) := by
  have hn := h.len
  have hb1 : ∀ i, i < 64 → (if i = L.length - 1 then a else if a ≤ i ∧ i < L.length - 1 then i + 1 else i) < 64 := fun i hi => by
    repeat' split
    all_goals omega
  have hb2 : ∀ i j, i < 64 → j < 64 → (if i = L.length - 1 then a else if a ≤ i ∧ i < L.length - 1 then i + 1 else i) = (if j = L.length - 1 then a else if a ≤ j ∧ j < L.length - 1 then j + 1 else j) → i = j := fun i j hi hj e => by
    repeat' split at e
    all_goals omega
  have hb3 : ∀ i, i < L.length - 1 → (if i = L.length - 1 then a else if a ≤ i ∧ i < L.length - 1 then i + 1 else i) < L.length := fun i hi => by
    repeat' split
    all_goals omega
  have key := h.perm (n := L.length - 1) (σ := fun i => if i = L.length - 1 then a else if a ≤ i ∧ i < L.length - 1 then i + 1 else i) hm (fun i hi => by
    unfold updP mvU
    by_cases e1 : i = L.length - 1
    · rw [if_pos e1, if_pos e1]
    · rw [if_neg e1, if_neg e1]
      by_cases e2 : a ≤ i ∧ i < L.length - 1
      · rw [if_pos e2, if_pos e2]
      · rw [if_neg e2, if_neg e2]) hb1 hb2 (by omega) hb3
  have e : mkL (L.length - 1) (fun i => gat L (if i = L.length - 1 then a else if a ≤ i ∧ i < L.length - 1 then i + 1 else i)) = closeL L a := mkL_congr (fun j hj => by
    by_cases e : j < a
    · rw [if_neg (by omega), if_neg (by omega), if_pos e]
    · rw [if_neg (by omega), if_pos (by omega), if_neg e])
  rwa [e] at key
set_option maxRecDepth 100000 in
set_option maxHeartbeats 4000000 in
theorem sp_X8_takeOut {g : gG} {M : gM} {Q : Option Value ⊕ String → gM → Prop} {c : Cf} {P : Nat → Nat} {M0 : gM} {L : List Gl} {π : Nat → Nat} (hc : cX c P M0 L π M) {a : Nat} (ha : a < L.length) (K : ∀ M π, cX c P M0 (closeL L a) π M → Q (.inl none) M) : E g 1 0 0 mX8_takeOut 0 [.ref 7, .int (nI a), .null, .null] [] M Q := by
  have hB := hc.B
  have hL := hB.lay
  have hn := hc.len
  refine E_iload_n dX8_takeOut_0 rfl ?_
  refine E_if_lt_n (tgt := 12) dX8_takeOut_1 (by decide) (by omega) ?_
  refine E_iload_n dX8_takeOut_4 rfl ?_
  refine E_aload_n dX8_takeOut_5 rfl ?_
  refine E_getIL (v := nI (List.length _)) dX8_takeOut_6 kF_X8_17 kY_8 (Or.inl rfl) (l_6 hL) (k_6 hL) hc.n ?_
  refine E_icmp_lt_n (tgt := 13) dX8_takeOut_9 (by decide) (by omega) (by omega) (fun c_9 => ?_) (fun c_9 => ?_)
  · refine E_aload_n dX8_takeOut_13 rfl ?_
    refine E_getRL dX8_takeOut_14 kF_X8_11 kY_8 (Or.inr ⟨_, rfl⟩) (l_6 hL) (k_6 hL) (r_6_0 hL) ?_
    refine E_iload_n dX8_takeOut_17 rfl ?_
    refine E_aaldL (v := _) dX8_takeOut_18 (l_7 hL) (k_7 hL) (by decide) (by decide) rfl (by omega) (by decide) (hc.cell (by omega)) ?_
    refine E_astore_n dX8_takeOut_19 (Nat.le_of_ble_eq_true rfl) (by decide) rfl ?_
    refine E_iload_n dX8_takeOut_20 rfl ?_
    refine E_istore_n dX8_takeOut_21 (Nat.le_of_ble_eq_true rfl) (by decide) rfl ?_
    exact lp_X8_takeOut hL (fun i hi => hc.p64 hi) hc.n hn ha (hc.p64 (by omega)) (fun M hm => K _ _ (hc.out ha hm)) a (by omega) (Nat.le_refl _) M (hc.cm.congr (fun i _ => by unfold mvU; rw [if_neg (by omega)]))
  · refine E_vret dX8_takeOut_12 rfl ?_
    exfalso; omega
/-- a glyph right behind a, which takes over all but the number -/
noncomputable def pubL (L : List Gl) (a v : Nat) : List Gl := mkL (L.length + 1) (fun j => if j ≤ a then gat L j else if j = a + 1 then sN (gat L a) v else gat L (j - 1))
theorem pub_len (L : List Gl) (a v : Nat) : (pubL L a v).length = L.length + 1 := mkL_len _ _
set_option maxRecDepth 100000 in
set_option maxHeartbeats 4000000 in
theorem lp_X8_putBehind {g : gG} {Q : Option Value ⊕ String → gM → Prop} {Mb : gM} {π : Nat → Nat} {n a q v : Nat} (hL0 : gLay Mb) (hπ : ∀ i, i < 64 → π i < 64) (h6 : mI Mb 6 1 = nI n) (hn : n < 64) (ha : a < n) (hq : q < 64) (hqa : ¬ π a = q) (hqe : q = π n) (K : ∀ M, cM Mb (updP (mvD π n (a + 1)) (a + 1) q) M → E g 2 0 0 mX8_putBehind 77 [.ref 7, .int (nI a), .int (nI v), .ref (8 + q + 1), .int (nI (a + 1))] [] M Q) : ∀ k, a + 1 ≤ k → k ≤ n → ∀ M, cM Mb (mvD π n k) M → E g 2 0 0 mX8_putBehind 38 [.ref 7, .int (nI a), .int (nI v), .ref (8 + q + 1), .int (nI k)] [] M Q := by
  refine lpDn (a + 1) (fun k hbk ih => ?_)
  intro hka M hm
  have hL := hm.lay hL0
  have hρ : ∀ i, i < 64 → mvD π n k i < 64 := fun i hi => by unfold mvD; split <;> exact hπ _ (by omega)
  refine E_iload dX8_putBehind_38 rfl ?_
  refine E_iload_n dX8_putBehind_40 rfl ?_
  refine E_iconst (v := nI 1) dX8_putBehind_41 (by decide) ?_
  refine E_iadd_n dX8_putBehind_42 ?_
  refine E_icmp_le_n (tgt := 68) dX8_putBehind_43 (by decide) (by omega) (by omega) (fun c_43 => ?_) (fun c_43 => ?_)
  · obtain rfl : k = a + 1 := by omega
    refine E_aload_n dX8_putBehind_68 rfl ?_
    refine E_getRL dX8_putBehind_69 kF_X8_11 kY_8 (Or.inr ⟨_, rfl⟩) (l_6 hL) (k_6 hL) (r_6_0 hL) ?_
    refine E_iload_n dX8_putBehind_72 rfl ?_
    refine E_iconst (v := nI 1) dX8_putBehind_73 (by decide) ?_
    refine E_iadd_n dX8_putBehind_74 ?_
    refine E_aload_n dX8_putBehind_75 rfl ?_
    refine E_aast dX8_putBehind_76 (l_7 hL) (k_7 hL) (by decide) (by decide) (gl_lt hL hq) (gl_k hL hq) (by decide) rfl rfl (by omega) (by decide) ?_
    exact K _ (hm.set (a + 1) q)
  · refine E_aload_n dX8_putBehind_46 rfl ?_
    refine E_getRL dX8_putBehind_47 kF_X8_11 kY_8 (Or.inr ⟨_, rfl⟩) (l_6 hL) (k_6 hL) (r_6_0 hL) ?_
    refine E_iload dX8_putBehind_50 rfl ?_
    refine E_aload_n dX8_putBehind_52 rfl ?_
    refine E_getRL dX8_putBehind_53 kF_X8_11 kY_8 (Or.inr ⟨_, rfl⟩) (l_6 hL) (k_6 hL) (r_6_0 hL) ?_
    refine E_iload dX8_putBehind_56 rfl ?_
    refine E_iconst (v := nI 1) dX8_putBehind_58 (by decide) ?_
    refine E_isub_n dX8_putBehind_59 (by omega) ?_
    refine E_aaldL (v := _) dX8_putBehind_60 (l_7 hL) (k_7 hL) (by decide) (by decide) rfl (by omega) (by decide) (hm.cell (by omega)) ?_
    refine E_aast dX8_putBehind_61 (l_7 hL) (k_7 hL) (by decide) (by decide) (gl_lt hL (by first | assumption | exact hρ _ (by omega))) (gl_k hL (by first | assumption | exact hρ _ (by omega))) (by decide) rfl rfl (by omega) (by decide) ?_
    obtain ⟨k, rfl⟩ : ∃ z, k = z + 1 := ⟨k - 1, by omega⟩
    simp only [Nat.add_sub_cancel] at ih ⊢
    refine E_iinc (v := nI k) dX8_putBehind_62 rfl (pk_m1 k) (by decide) rfl ?_
    refine E_goto (tgt := 38) dX8_putBehind_65 (by decide) ?_
    refine ih (by omega) (by omega) _ ((hm.set (k + 1) (mvD π n (k + 1) k)).congr (fun i _ => ?_))
    unfold updP mvD
    by_cases e : i = k + 1
    · subst e; rw [if_pos rfl, if_neg (by omega), if_pos (by omega), Nat.add_sub_cancel]
    · rw [if_neg e]
      by_cases e2 : k + 1 < i ∧ i ≤ n
      · rw [if_pos e2, if_pos (by omega)]
      · rw [if_neg e2, if_neg (by omega)]
theorem cX.behind {c : Cf} {P : Nat → Nat} {M0 M M' : gM} {L : List Gl} {π : Nat → Nat} (h : cX c P M0 L π M) {a v : Nat} (ha : a < L.length) (hl : L.length < 64) (hv : v < 256) (hm : cM M (updP (mvD π L.length (a + 1)) (a + 1) (π L.length)) M') :
    cX c P M0 (pubL L a v) (updP (mvD π L.length (a + 1)) (a + 1) (π L.length)) (sI (sI (sI (sI (sI (sI (sI (sI M' 6 1 (nI (L.length + 1))) (8 + π L.length) 1 (mI M (8 + π a) 1)) (8 + π L.length) 2 (mI M (8 + π a) 2)) (8 + π L.length) 3 (mI M (8 + π a) 3)) (8 + π L.length) 4 (mI M (8 + π a) 4)) (8 + π L.length) 5 (mI M (8 + π a) 5)) (8 + π L.length) 6 (mI M (8 + π a) 6)) (8 + π L.length) 0 (nI v)) := by
  have hp := h.p64 hl
  have hn := h.len
  have h6 : ¬ 6 = 8 + π L.length := by omega
  have hσ : ∀ i, i < 64 → updP (mvD π L.length (a + 1)) (a + 1) (π L.length) i = π (if i = a + 1 then L.length else if a + 1 < i ∧ i ≤ L.length then i - 1 else i) := fun i _ => by
    unfold updP mvD
    by_cases e1 : i = a + 1
    · rw [if_pos e1, if_pos e1]
    · rw [if_neg e1, if_neg e1]
      by_cases e2 : a + 1 < i ∧ i ≤ L.length
      · rw [if_pos e2, if_pos e2]
      · rw [if_neg e2, if_neg e2]
  have hb : ∀ i, i < 64 → (if i = a + 1 then L.length else if a + 1 < i ∧ i ≤ L.length then i - 1 else i) < 64 := fun i hi => by
    repeat' split
    all_goals omega
  refine ⟨h.1, ((((((((h.2.1.trans (hm.kf.mono (fun _ _ q => q.elim) (fun _ _ q => q))).wr (Or.inl rfl)).wr ?_).wr ?_).wr ?_).wr ?_).wr ?_).wr ?_).wr ?_, ?_, fun i hi => ⟨by rw [hσ i hi]; exact h.p64 (hb i hi), hm.cell hi⟩, fun i j hi hj e => ?_, fun i hi => ?_, okL_mk (by omega) (fun i _ => ?_)⟩
  · unfold rwR; omega
  · unfold rwR; omega
  · unfold rwR; omega
  · unfold rwR; omega
  · unfold rwR; omega
  · unfold rwR; omega
  · unfold rwR; omega
  · rw [pub_len, mI_ne h6, mI_ne h6, mI_ne h6, mI_ne h6, mI_ne h6, mI_ne h6, mI_ne h6]; exact mI_eq
  · rw [hσ i hi, hσ j hj] at e
    have e := h.inj (hb i hi) (hb j hj) e
    repeat' split at e
    all_goals omega
  · rw [pub_len] at hi
    unfold pubL
    rw [gat_mkL hi, hσ i (by omega)]
    by_cases e : i = a + 1
    · rw [if_pos e, if_neg (by omega), if_pos e]
      have := h.gl ha
      unfold glC at *
      obtain ⟨g0, g1, g2, g3, g4, g5, g6⟩ := this
      simp only [mI_sI]
      simp [g1, g2, g3, g4, g5, g6, sN, yN, yC, yF, yE, yP, yT, yO]
    · rw [if_neg e]
      have key : ∀ j, j < L.length → glC (sI (sI (sI (sI (sI (sI (sI (sI M' 6 1 (nI (L.length + 1))) (8 + π L.length) 1 (mI M (8 + π a) 1)) (8 + π L.length) 2 (mI M (8 + π a) 2)) (8 + π L.length) 3 (mI M (8 + π a) 3)) (8 + π L.length) 4 (mI M (8 + π a) 4)) (8 + π L.length) 5 (mI M (8 + π a) 5)) (8 + π L.length) 6 (mI M (8 + π a) 6)) (8 + π L.length) 0 (nI v)) (8 + π j) (gat L j) := fun j hj => by
        have hpj := h.p64 (show j < 64 by omega)
        have hne : ¬ 8 + π j = 8 + π L.length := fun q => by have := h.inj (show j < 64 by omega) hl (by omega); omega
        have h6j : ¬ 8 + π j = 6 := by omega
        have := h.gl hj
        unfold glC at *
        simp only [mI_ne hne, mI_ne h6j, hm.i]
        exact this
      by_cases e2 : a + 1 < i ∧ i ≤ L.length
      · rw [if_pos e2, if_neg (by omega), if_neg e]; exact key (i - 1) (by omega)
      · rw [if_neg e2, if_pos (by omega)]; exact key i (by omega)
  · by_cases e : i ≤ a
    · rw [if_pos e]; exact h.ok.at _
    · rw [if_neg e]; by_cases e2 : i = a + 1
      · rw [if_pos e2]; have := h.ok.at a; exact ⟨hv, this.2⟩
      · rw [if_neg e2]; exact h.ok.at _
set_option maxRecDepth 100000 in
set_option maxHeartbeats 4000000 in
theorem sp_X8_putBehind {g : gG} {M : gM} {Q : Option Value ⊕ String → gM → Prop} {c : Cf} {P : Nat → Nat} {M0 : gM} {L : List Gl} {π : Nat → Nat} (hc : cX c P M0 L π M) {a v : Nat} (ha : a < L.length) (hl : L.length < 64) (hv : v < 256) (K : ∀ M π, cX c P M0 (pubL L a v) π M → Q (.inl none) M) : E g 2 0 0 mX8_putBehind 0 [.ref 7, .int (nI a), .int (nI v), .null, .null] [] M Q := by
  have hB := hc.B
  have hL := hB.lay
  have hn := hc.len
  have hqa : ¬ π a = π L.length := fun q => by have := hc.inj (show a < 64 by omega) hl q; omega
  refine E_iload_n dX8_putBehind_0 rfl ?_
  refine E_if_lt_n (tgt := 21) dX8_putBehind_1 (by decide) (by omega) ?_
  refine E_iload_n dX8_putBehind_4 rfl ?_
  refine E_aload_n dX8_putBehind_5 rfl ?_
  refine E_getIL (v := nI (List.length _)) dX8_putBehind_6 kF_X8_17 kY_8 (Or.inl rfl) (l_6 hL) (k_6 hL) hc.n ?_
  refine E_icmp_ge_n (tgt := 21) dX8_putBehind_9 (by decide) (by omega) (by omega) (fun c_9 => ?_) (fun c_9 => ?_)
  · refine E_vret dX8_putBehind_21 rfl ?_
    exfalso; omega
  · refine E_aload_n dX8_putBehind_12 rfl ?_
    refine E_getIL (v := nI (List.length _)) dX8_putBehind_13 kF_X8_17 kY_8 (Or.inl rfl) (l_6 hL) (k_6 hL) hc.n ?_
    refine E_bipush (v := nI 64) dX8_putBehind_16 (by decide) ?_
    refine E_icmp_lt_n (tgt := 22) dX8_putBehind_18 (by decide) (by omega) (by omega) (fun c_18 => ?_) (fun c_18 => ?_)
    · refine E_aload_n dX8_putBehind_22 rfl ?_
      refine E_getRL dX8_putBehind_23 kF_X8_11 kY_8 (Or.inr ⟨_, rfl⟩) (l_6 hL) (k_6 hL) (r_6_0 hL) ?_
      refine E_aload_n dX8_putBehind_26 rfl ?_
      refine E_getIL (v := nI (List.length _)) dX8_putBehind_27 kF_X8_17 kY_8 (Or.inl rfl) (l_6 hL) (k_6 hL) hc.n ?_
      refine E_aaldL (v := _) dX8_putBehind_30 (l_7 hL) (k_7 hL) (by decide) (by decide) rfl (by omega) (by decide) (hc.cell (by omega)) ?_
      refine E_astore_n dX8_putBehind_31 (Nat.le_of_ble_eq_true rfl) (by decide) rfl ?_
      refine E_aload_n dX8_putBehind_32 rfl ?_
      refine E_getIL (v := nI (List.length _)) dX8_putBehind_33 kF_X8_17 kY_8 (Or.inl rfl) (l_6 hL) (k_6 hL) hc.n ?_
      refine E_istore dX8_putBehind_36 (Nat.le_of_ble_eq_true rfl) (by decide) rfl ?_
      refine lp_X8_putBehind hL (fun i hi => hc.p64 hi) hc.n hl ha (hc.p64 hl) hqa rfl (fun M2 hm => ?_) L.length (by omega) (Nat.le_refl _) M (hc.cm.congr (fun i _ => by unfold mvD; rw [if_neg (by omega)]))
      have hL := hm.lay hL
      have hq := hc.p64 hl
      have h62 := hm.n6 hc
      have hpa := hc.p64 (show a < 64 by omega)
      have hcel : mR M2 7 a = 8 + π a + 1 := (hm.cell (by omega)).trans (by unfold updP mvD; rw [if_neg (by omega), if_neg (by omega)])
      refine E_aload_n dX8_putBehind_77 rfl ?_
      refine E_dup dX8_putBehind_78 rfl ?_
      refine E_getIL (v := nI L.length) dX8_putBehind_79 kF_X8_17 kY_8 (Or.inl rfl) (l_6 hL) (k_6 hL) h62 ?_
      refine E_iconst (v := nI 1) dX8_putBehind_82 (by decide) ?_
      refine E_iadd_n dX8_putBehind_83 ?_
      refine E_putI dX8_putBehind_84 kF_X8_17 kY_8 (Or.inl rfl) (l_6 hL) (k_6 hL) (Or.inl rfl) ?_
      refine E_aload_n dX8_putBehind_87 rfl ?_
      refine E_aload_n dX8_putBehind_88 rfl ?_
      refine E_getRL dX8_putBehind_89 kF_X8_11 kY_8 (Or.inr ⟨_, rfl⟩) (l_6 hL) (k_6 hL) (r_6_0 hL) ?_
      refine E_iload_n dX8_putBehind_92 rfl ?_
      refine E_aaldL (v := _) dX8_putBehind_93 (l_7 hL) (k_7 hL) (by decide) (by decide) rfl (by omega) (by decide) hcel ?_
      refine E_callV1 (fr' := 1) (k1 := 0) (n1 := 0) (k2 := 0) (n2 := 0) dX8_putBehind_94 kO_X2_takeOver kL_X8_32 (gl_lt hL hq) (gl_k hL hq) ⟨by decide, rfl⟩ rfl (by decide) (by decide) (by exact Nat.le_of_ble_eq_true rfl) rfl ?_
      refine sp_X2_takeOver (gl_lt hL hq) (gl_k hL hq) (gl_lt hL hpa) (gl_k hL hpa) (by omega) ?_
      have e6 : ¬ 8 + π a = 6 := by omega
      rw [mI_ne e6, mI_ne e6, mI_ne e6, mI_ne e6, mI_ne e6, mI_ne e6, hm.i, hm.i, hm.i, hm.i, hm.i, hm.i]
      refine gKn ?_
      refine E_aload_n dX8_putBehind_97 rfl ?_
      refine E_iload_n dX8_putBehind_98 rfl ?_
      refine E_putI dX8_putBehind_99 kF_X8_36 kY_2 (Or.inl rfl) (gl_lt hL hq) (gl_k hL hq) (Or.inl rfl) ?_
      refine E_vret dX8_putBehind_102 rfl ?_
      exact K _ _ (hc.behind ha hl hv hm)
    · refine E_vret dX8_putBehind_21 rfl ?_
      exfalso; omega
