/-! the class: signs, runs -/
section PG
variable {M : gM} {pb : Nat}
theorem pg_lt0 (hL : gLay M) (hp : pb = 78 ∨ pb = 98) : pb < mN M := hL.lt (by show pb < 139; omega)
theorem pg_lt (hL : gLay M) (hp : pb = 78 ∨ pb = 98) {i : Nat} (hi : i < 20) : pb + i < mN M := hL.lt (by show pb + i < 139; omega)
theorem pg_k0 (hL : gLay M) (hp : pb = 78 ∨ pb = 98) : mK M pb = (6, 0) := by rcases hp with rfl | rfl; exact k_78 hL; exact k_98 hL
theorem pg_k1 (hL : gLay M) (hp : pb = 78 ∨ pb = 98) : mK M (pb + 1) = (9, 0) := by rcases hp with rfl | rfl; exact k_79 hL; exact k_99 hL
theorem pg_kz (hL : gLay M) (hp : pb = 78 ∨ pb = 98) : mK M (pb + 4) = (14, 16) := by rcases hp with rfl | rfl; exact k_82 hL; exact k_102 hL
theorem pg_ka (hL : gLay M) (hp : pb = 78 ∨ pb = 98) {i : Nat} (hi : 2 ≤ i ∧ i < 12 ∧ ¬ i = 4) : mK M (pb + i) = (13, 16) := hL.k (by show pb + i < 139; omega) (by
  have h1 : ∀ i : Fin 12, 2 ≤ i.val ∧ ¬ i.val = 4 → glayL.getD (78 + i.val) (0, 0) = (13, 16) ∧ glayL.getD (98 + i.val) (0, 0) = (13, 16) := by decide +kernel
  have := h1 ⟨i, by omega⟩ ⟨hi.1, hi.2.2⟩
  rcases hp with rfl | rfl
  · exact this.1
  · exact this.2)
theorem pg_kb (hL : gLay M) (hp : pb = 78 ∨ pb = 98) {i : Nat} (hi : 12 ≤ i ∧ i < 20) : mK M (pb + i) = (13, 1024) := hL.k (by show pb + i < 139; omega) (by
  have h1 : ∀ i : Fin 20, 12 ≤ i.val → glayL.getD (78 + i.val) (0, 0) = (13, 1024) ∧ glayL.getD (98 + i.val) (0, 0) = (13, 1024) := by decide +kernel
  have := h1 ⟨i, by omega⟩ hi.1
  rcases hp with rfl | rfl
  · exact this.1
  · exact this.2)
theorem pg_r0 (hL : gLay M) (hp : pb = 78 ∨ pb = 98) : mR M pb 0 = pb + 1 + 1 := by rcases hp with rfl | rfl; exact r_78_0 hL; exact r_98_0 hL
theorem pg_rx : ∀ pb : Fin 2, ∀ i : Fin 8, (78 + 20 * pb.val, (i.val + 1, 78 + 20 * pb.val + 12 + i.val)) ∈ glrefL := by decide +kernel
theorem pg_ry : ∀ pb : Fin 2, ∀ i : Fin 10, (79 + 20 * pb.val, (i.val, 79 + 20 * pb.val + 1 + i.val)) ∈ glrefL := by decide +kernel
theorem pg_r (hL : gLay M) (hp : pb = 78 ∨ pb = 98) {i : Nat} (hi : 1 ≤ i ∧ i < 9) : mR M pb i = pb + (11 + i) + 1 := by
  have key : ∀ z : Fin 2, pb = 78 + 20 * z.val → mR M pb i = pb + (11 + i) + 1 := fun z e => by
    have h1 := hL.2.2 _ (pg_rx z ⟨i - 1, by omega⟩)
    have h2 : mR M (78 + 20 * z.val) (i - 1 + 1) = 78 + 20 * z.val + 12 + (i - 1) + 1 := h1
    rw [e]
    rw [show i - 1 + 1 = i by omega] at h2
    omega
  rcases hp with rfl | rfl
  · exact key 0 rfl
  · exact key 1 rfl
theorem pg_ru (hL : gLay M) (hp : pb = 78 ∨ pb = 98) {i : Nat} (hi : i < 10) : mR M (pb + 1) i = pb + (2 + i) + 1 := by
  have key : ∀ z : Fin 2, pb = 78 + 20 * z.val → mR M (pb + 1) i = pb + (2 + i) + 1 := fun z e => by
    have h1 := hL.2.2 _ (pg_ry z ⟨i, hi⟩)
    have h2 : mR M (79 + 20 * z.val) i = 79 + 20 * z.val + 1 + i + 1 := h1
    rw [e, show 78 + 20 * z.val + 1 = 79 + 20 * z.val by omega]
    omega
  rcases hp with rfl | rfl
  · exact key 0 rfl
  · exact key 1 rfl
end PG
set_option maxRecDepth 100000 in
set_option maxHeartbeats 4000000 in
theorem sp_X11_isJoinerOrParter {g : gG} {M : gM} {Q : Option Value ⊕ String → gM → Prop} {v : Nat} (hv : v < 2 ^ 30) (K : Q (.inl (some (.int (b2i (v = 2 ∨ v = 3))))) M) : E g 1 0 0 mX11_isJoinerOrParter 0 [.int (nI v)] [] M Q := by
  refine E_iload_n dX11_isJoinerOrParter_0 rfl ?_
  refine E_iconst (v := nI 2) dX11_isJoinerOrParter_1 (by decide) ?_
  refine E_icmp_eq_n (tgt := 10) dX11_isJoinerOrParter_2 (by decide) (by omega) (by omega) (fun c_2 => ?_) (fun c_2 => ?_)
  · refine E_iconst (v := nI 1) dX11_isJoinerOrParter_10 (by decide) ?_
    refine E_goto (tgt := 15) dX11_isJoinerOrParter_11 (by decide) ?_
    refine E_iret dX11_isJoinerOrParter_15 (Or.inr ⟨rfl, by decide⟩) ?_
    rw [← b2i_t (P := v = 2 ∨ v = 3) (by omega)]; exact K
  · refine E_iload_n dX11_isJoinerOrParter_5 rfl ?_
    refine E_iconst (v := nI 3) dX11_isJoinerOrParter_6 (by decide) ?_
    refine E_icmp_ne_n (tgt := 14) dX11_isJoinerOrParter_7 (by decide) (by omega) (by omega) (fun c_7 => ?_) (fun c_7 => ?_)
    · refine E_iconst (v := nI 0) dX11_isJoinerOrParter_14 (by decide) ?_
      refine E_iret dX11_isJoinerOrParter_15 (Or.inr ⟨rfl, by decide⟩) ?_
      rw [← b2i_f (P := v = 2 ∨ v = 3) (by omega)]; exact K
    · refine E_iconst (v := nI 1) dX11_isJoinerOrParter_10 (by decide) ?_
      refine E_goto (tgt := 15) dX11_isJoinerOrParter_11 (by decide) ?_
      refine E_iret dX11_isJoinerOrParter_15 (Or.inr ⟨rfl, by decide⟩) ?_
      rw [← b2i_t (P := v = 2 ∨ v = 3) (by omega)]; exact K
set_option maxRecDepth 100000 in
set_option maxHeartbeats 4000000 in
theorem sp_X11_isMarkOfJ {g : gG} {M : gM} {Q : Option Value ⊕ String → gM → Prop} {v : Nat} (hv : v < 2 ^ 30) (K : Q (.inl (some (.int (b2i (cMk v))))) M) : E g 1 0 0 mX11_isMarkOfJ 0 [.int (nI v)] [] M Q := by
  refine E_iload_n dX11_isMarkOfJ_0 rfl ?_
  refine E_bipush (v := nI 21) dX11_isMarkOfJ_1 (by decide) ?_
  refine E_icmp_lt_n (tgt := 16) dX11_isMarkOfJ_3 (by decide) (by omega) (by omega) (fun c_3 => ?_) (fun c_3 => ?_)
  · refine E_iconst (v := nI 0) dX11_isMarkOfJ_16 (by decide) ?_
    refine E_iret dX11_isMarkOfJ_17 (Or.inr ⟨rfl, by decide⟩) ?_
    rw [← b2i_f (P := cMk v) (by omega)]; exact K
  · refine E_iload_n dX11_isMarkOfJ_6 rfl ?_
    refine E_bipush (v := nI 23) dX11_isMarkOfJ_7 (by decide) ?_
    refine E_icmp_gt_n (tgt := 16) dX11_isMarkOfJ_9 (by decide) (by omega) (by omega) (fun c_9 => ?_) (fun c_9 => ?_)
    · refine E_iconst (v := nI 0) dX11_isMarkOfJ_16 (by decide) ?_
      refine E_iret dX11_isMarkOfJ_17 (Or.inr ⟨rfl, by decide⟩) ?_
      rw [← b2i_f (P := cMk v) (by omega)]; exact K
    · refine E_iconst (v := nI 1) dX11_isMarkOfJ_12 (by decide) ?_
      refine E_goto (tgt := 17) dX11_isMarkOfJ_13 (by decide) ?_
      refine E_iret dX11_isMarkOfJ_17 (Or.inr ⟨rfl, by decide⟩) ?_
      rw [← b2i_t (P := cMk v) (by omega)]; exact K
set_option maxRecDepth 100000 in
set_option maxHeartbeats 4000000 in
theorem sp_X11_joinsOnBothSides {g : gG} {M : gM} {Q : Option Value ⊕ String → gM → Prop} {v : Nat} (hv : v < 2 ^ 30) (K : Q (.inl (some (.int (b2i (cBo v))))) M) : E g 1 0 0 mX11_joinsOnBothSides 0 [.int (nI v)] [] M Q := by
  refine E_iload_n dX11_joinsOnBothSides_0 rfl ?_
  refine E_bipush (v := nI 10) dX11_joinsOnBothSides_1 (by decide) ?_
  refine E_icmp_lt_n (tgt := 12) dX11_joinsOnBothSides_3 (by decide) (by omega) (by omega) (fun c_3 => ?_) (fun c_3 => ?_)
  · refine E_iload_n dX11_joinsOnBothSides_12 rfl ?_
    refine E_bipush (v := nI 20) dX11_joinsOnBothSides_13 (by decide) ?_
    refine E_icmp_ne_n (tgt := 22) dX11_joinsOnBothSides_15 (by decide) (by omega) (by omega) (fun c_15 => ?_) (fun c_15 => ?_)
    · refine E_iconst (v := nI 0) dX11_joinsOnBothSides_22 (by decide) ?_
      refine E_iret dX11_joinsOnBothSides_23 (Or.inr ⟨rfl, by decide⟩) ?_
      rw [← b2i_f (P := cBo v) (by omega)]; exact K
    · refine E_iconst (v := nI 1) dX11_joinsOnBothSides_18 (by decide) ?_
      refine E_goto (tgt := 23) dX11_joinsOnBothSides_19 (by decide) ?_
      refine E_iret dX11_joinsOnBothSides_23 (Or.inr ⟨rfl, by decide⟩) ?_
      rw [← b2i_t (P := cBo v) (by omega)]; exact K
  · refine E_iload_n dX11_joinsOnBothSides_6 rfl ?_
    refine E_bipush (v := nI 15) dX11_joinsOnBothSides_7 (by decide) ?_
    refine E_icmp_le_n (tgt := 18) dX11_joinsOnBothSides_9 (by decide) (by omega) (by omega) (fun c_9 => ?_) (fun c_9 => ?_)
    · refine E_iconst (v := nI 1) dX11_joinsOnBothSides_18 (by decide) ?_
      refine E_goto (tgt := 23) dX11_joinsOnBothSides_19 (by decide) ?_
      refine E_iret dX11_joinsOnBothSides_23 (Or.inr ⟨rfl, by decide⟩) ?_
      rw [← b2i_t (P := cBo v) (by omega)]; exact K
    · refine E_iload_n dX11_joinsOnBothSides_12 rfl ?_
      refine E_bipush (v := nI 20) dX11_joinsOnBothSides_13 (by decide) ?_
      refine E_icmp_ne_n (tgt := 22) dX11_joinsOnBothSides_15 (by decide) (by omega) (by omega) (fun c_15 => ?_) (fun c_15 => ?_)
      · refine E_iconst (v := nI 0) dX11_joinsOnBothSides_22 (by decide) ?_
        refine E_iret dX11_joinsOnBothSides_23 (Or.inr ⟨rfl, by decide⟩) ?_
        rw [← b2i_f (P := cBo v) (by omega)]; exact K
      · refine E_iconst (v := nI 1) dX11_joinsOnBothSides_18 (by decide) ?_
        refine E_goto (tgt := 23) dX11_joinsOnBothSides_19 (by decide) ?_
        refine E_iret dX11_joinsOnBothSides_23 (Or.inr ⟨rfl, by decide⟩) ?_
        rw [← b2i_t (P := cBo v) (by omega)]; exact K
set_option maxRecDepth 100000 in
set_option maxHeartbeats 4000000 in
theorem sp_X11_isConsonant {g : gG} {M : gM} {Q : Option Value ⊕ String → gM → Prop} {v : Nat} (hv : v < 2 ^ 30) (K : Q (.inl (some (.int (b2i (cCo v))))) M) : E g 1 0 0 mX11_isConsonant 0 [.int (nI v)] [] M Q := by
  refine E_iload_n dX11_isConsonant_0 rfl ?_
  refine E_bipush (v := nI 30) dX11_isConsonant_1 (by decide) ?_
  refine E_icmp_lt_n (tgt := 16) dX11_isConsonant_3 (by decide) (by omega) (by omega) (fun c_3 => ?_) (fun c_3 => ?_)
  · refine E_iconst (v := nI 0) dX11_isConsonant_16 (by decide) ?_
    refine E_iret dX11_isConsonant_17 (Or.inr ⟨rfl, by decide⟩) ?_
    rw [← b2i_f (P := cCo v) (by omega)]; exact K
  · refine E_iload_n dX11_isConsonant_6 rfl ?_
    refine E_bipush (v := nI 38) dX11_isConsonant_7 (by decide) ?_
    refine E_icmp_gt_n (tgt := 16) dX11_isConsonant_9 (by decide) (by omega) (by omega) (fun c_9 => ?_) (fun c_9 => ?_)
    · refine E_iconst (v := nI 0) dX11_isConsonant_16 (by decide) ?_
      refine E_iret dX11_isConsonant_17 (Or.inr ⟨rfl, by decide⟩) ?_
      rw [← b2i_f (P := cCo v) (by omega)]; exact K
    · refine E_iconst (v := nI 1) dX11_isConsonant_12 (by decide) ?_
      refine E_goto (tgt := 17) dX11_isConsonant_13 (by decide) ?_
      refine E_iret dX11_isConsonant_17 (Or.inr ⟨rfl, by decide⟩) ?_
      rw [← b2i_t (P := cCo v) (by omega)]; exact K
set_option maxRecDepth 100000 in
set_option maxHeartbeats 4000000 in
theorem sp_X5_isVowelOrMark {g : gG} {M : gM} {Q : Option Value ⊕ String → gM → Prop} {v : Nat} (hv : v < 2 ^ 30) (K : Q (.inl (some (.int (b2i (cVo v))))) M) : E g 1 0 0 mX5_isVowelOrMark 0 [.int (nI v)] [] M Q := by
  refine E_iload_n dX5_isVowelOrMark_0 rfl ?_
  refine E_bipush (v := nI 40) dX5_isVowelOrMark_1 (by decide) ?_
  refine E_icmp_lt_n (tgt := 12) dX5_isVowelOrMark_3 (by decide) (by omega) (by omega) (fun c_3 => ?_) (fun c_3 => ?_)
  · refine E_iload_n dX5_isVowelOrMark_12 rfl ?_
    refine E_bipush (v := nI 44) dX5_isVowelOrMark_13 (by decide) ?_
    refine E_icmp_ne_n (tgt := 22) dX5_isVowelOrMark_15 (by decide) (by omega) (by omega) (fun c_15 => ?_) (fun c_15 => ?_)
    · refine E_iconst (v := nI 0) dX5_isVowelOrMark_22 (by decide) ?_
      refine E_iret dX5_isVowelOrMark_23 (Or.inr ⟨rfl, by decide⟩) ?_
      rw [← b2i_f (P := cVo v) (by omega)]; exact K
    · refine E_iconst (v := nI 1) dX5_isVowelOrMark_18 (by decide) ?_
      refine E_goto (tgt := 23) dX5_isVowelOrMark_19 (by decide) ?_
      refine E_iret dX5_isVowelOrMark_23 (Or.inr ⟨rfl, by decide⟩) ?_
      rw [← b2i_t (P := cVo v) (by omega)]; exact K
  · refine E_iload_n dX5_isVowelOrMark_6 rfl ?_
    refine E_bipush (v := nI 42) dX5_isVowelOrMark_7 (by decide) ?_
    refine E_icmp_le_n (tgt := 18) dX5_isVowelOrMark_9 (by decide) (by omega) (by omega) (fun c_9 => ?_) (fun c_9 => ?_)
    · refine E_iconst (v := nI 1) dX5_isVowelOrMark_18 (by decide) ?_
      refine E_goto (tgt := 23) dX5_isVowelOrMark_19 (by decide) ?_
      refine E_iret dX5_isVowelOrMark_23 (Or.inr ⟨rfl, by decide⟩) ?_
      rw [← b2i_t (P := cVo v) (by omega)]; exact K
    · refine E_iload_n dX5_isVowelOrMark_12 rfl ?_
      refine E_bipush (v := nI 44) dX5_isVowelOrMark_13 (by decide) ?_
      refine E_icmp_ne_n (tgt := 22) dX5_isVowelOrMark_15 (by decide) (by omega) (by omega) (fun c_15 => ?_) (fun c_15 => ?_)
      · refine E_iconst (v := nI 0) dX5_isVowelOrMark_22 (by decide) ?_
        refine E_iret dX5_isVowelOrMark_23 (Or.inr ⟨rfl, by decide⟩) ?_
        rw [← b2i_f (P := cVo v) (by omega)]; exact K
      · refine E_iconst (v := nI 1) dX5_isVowelOrMark_18 (by decide) ?_
        refine E_goto (tgt := 23) dX5_isVowelOrMark_19 (by decide) ?_
        refine E_iret dX5_isVowelOrMark_23 (Or.inr ⟨rfl, by decide⟩) ?_
        rw [← b2i_t (P := cVo v) (by omega)]; exact K
set_option maxRecDepth 100000 in
set_option maxHeartbeats 4000000 in
theorem sp_X5_needsCarrier {g : gG} {M : gM} {Q : Option Value ⊕ String → gM → Prop} {v : Nat} (hv : v < 2 ^ 30) (K : Q (.inl (some (.int (b2i (v = 39 ∨ cVo v))))) M) : E g 2 0 0 mX5_needsCarrier 0 [.int (nI v)] [] M Q := by
  refine E_iload_n dX5_needsCarrier_0 rfl ?_
  refine E_bipush (v := nI 39) dX5_needsCarrier_1 (by decide) ?_
  refine E_icmp_eq_n (tgt := 13) dX5_needsCarrier_3 (by decide) (by omega) (by omega) (fun c_3 => ?_) (fun c_3 => ?_)
  · refine E_iconst (v := nI 1) dX5_needsCarrier_13 (by decide) ?_
    refine E_goto (tgt := 18) dX5_needsCarrier_14 (by decide) ?_
    refine E_iret dX5_needsCarrier_18 (Or.inr ⟨rfl, by decide⟩) ?_
    rw [← b2i_t (P := v = 39 ∨ cVo v) (by omega)]; exact K
  · refine E_iload_n dX5_needsCarrier_6 rfl ?_
    refine E_callS1 (fr' := 1) (k1 := 0) (n1 := 0) (k2 := 0) (n2 := 0) dX5_needsCarrier_7 kO_X5_isVowelOrMark kL_X5_92 rfl (by decide) (by decide) (by exact Nat.le_of_ble_eq_true rfl) (Or.inl rfl) rfl ?_
    refine sp_X5_isVowelOrMark (by first | omega | exact Nat.lt_trans (hB.wf.tx _).1 (by decide) | exact Nat.lt_trans (hc.n256 _) (by decide)) ?_
    refine gKv ?_
    refine E_if_eq_b (tgt := 17) dX5_needsCarrier_10 (by decide) (fun c_10 => ?_) (fun c_10 => ?_)
    · refine E_iconst (v := nI 0) dX5_needsCarrier_17 (by decide) ?_
      refine E_iret dX5_needsCarrier_18 (Or.inr ⟨rfl, by decide⟩) ?_
      rw [← b2i_f (P := v = 39 ∨ cVo v) (by omega)]; exact K
    · refine E_iconst (v := nI 1) dX5_needsCarrier_13 (by decide) ?_
      refine E_goto (tgt := 18) dX5_needsCarrier_14 (by decide) ?_
      refine E_iret dX5_needsCarrier_18 (Or.inr ⟨rfl, by decide⟩) ?_
      rw [← b2i_t (P := v = 39 ∨ cVo v) (by omega)]; exact K
set_option maxRecDepth 100000 in
set_option maxHeartbeats 4000000 in
theorem sp_X5_followsConsonant {g : gG} {M : gM} {Q : Option Value ⊕ String → gM → Prop} {v : Nat} (hv : v < 2 ^ 30) (K : Q (.inl (some (.int (b2i (v = 39 ∨ v = 2 ∨ v = 3))))) M) : E g 2 0 0 mX5_followsConsonant 0 [.int (nI v)] [] M Q := by
  refine E_iload_n dX5_followsConsonant_0 rfl ?_
  refine E_bipush (v := nI 39) dX5_followsConsonant_1 (by decide) ?_
  refine E_icmp_eq_n (tgt := 13) dX5_followsConsonant_3 (by decide) (by omega) (by omega) (fun c_3 => ?_) (fun c_3 => ?_)
  · refine E_iconst (v := nI 1) dX5_followsConsonant_13 (by decide) ?_
    refine E_goto (tgt := 18) dX5_followsConsonant_14 (by decide) ?_
    refine E_iret dX5_followsConsonant_18 (Or.inr ⟨rfl, by decide⟩) ?_
    rw [← b2i_t (P := v = 39 ∨ v = 2 ∨ v = 3) (by omega)]; exact K
  · refine E_iload_n dX5_followsConsonant_6 rfl ?_
    refine E_callS1 (fr' := 1) (k1 := 0) (n1 := 0) (k2 := 0) (n2 := 0) dX5_followsConsonant_7 kO_X11_isJoinerOrParter kL_X5_89 rfl (by decide) (by decide) (by exact Nat.le_of_ble_eq_true rfl) (Or.inl rfl) rfl ?_
    refine sp_X11_isJoinerOrParter (by first | omega | exact Nat.lt_trans (hB.wf.tx _).1 (by decide) | exact Nat.lt_trans (hc.n256 _) (by decide)) ?_
    refine gKv ?_
    refine E_if_eq_b (tgt := 17) dX5_followsConsonant_10 (by decide) (fun c_10 => ?_) (fun c_10 => ?_)
    · refine E_iconst (v := nI 0) dX5_followsConsonant_17 (by decide) ?_
      refine E_iret dX5_followsConsonant_18 (Or.inr ⟨rfl, by decide⟩) ?_
      rw [← b2i_f (P := v = 39 ∨ v = 2 ∨ v = 3) (by omega)]; exact K
    · refine E_iconst (v := nI 1) dX5_followsConsonant_13 (by decide) ?_
      refine E_goto (tgt := 18) dX5_followsConsonant_14 (by decide) ?_
      refine E_iret dX5_followsConsonant_18 (Or.inr ⟨rfl, by decide⟩) ?_
      rw [← b2i_t (P := v = 39 ∨ v = 2 ∨ v = 3) (by omega)]; exact K
set_option maxRecDepth 100000 in
set_option maxHeartbeats 4000000 in
theorem lp_X9_nextLetter {g : gG} {M : gM} {Q : Option Value ⊕ String → gM → Prop} {c : Cf} {P : Nat → Nat} (hB : kB c P M) {pb : Nat} (hp : pb = 78 ∨ pb = 98) {p : Nat} {q b : Nat} (hq : q < 16) (ho : mI M (pb + 2) p = nI q) (he : mI M (pb + 7) q = nI b) (hb : b ≤ 16) (hpp : p < 16) (K : Q (.inl (some (.int (afV b (jon c b p))))) M) : ∀ k, k ≤ b → fnd (fun j => ¬ cMk (cN c 141 j)) b k = jon c b p → E g 2 0 0 mX9_nextLetter 4 [.ref (pb + 1 + 1), .ref 3, .int (nI p), .int (nI k)] [] M Q := by
  have hL := hB.lay
  refine lpUp b (fun k hk ih => ?_)
  intro hen
  unfold afV at K
  refine E_iload_n dX9_nextLetter_4 rfl ?_
  refine E_aload_n dX9_nextLetter_5 rfl ?_
  refine E_getRL dX9_nextLetter_6 kF_X9_28 kY_9 (Or.inr ⟨_, rfl⟩) (pg_lt hL hp (i := 1) (by decide)) (pg_k1 hL hp) (pg_ru hL hp (i := 5) (by decide)) ?_
  refine E_aload_n dX9_nextLetter_9 rfl ?_
  refine E_getRL dX9_nextLetter_10 kF_X9_9 kY_9 (Or.inr ⟨_, rfl⟩) (pg_lt hL hp (i := 1) (by decide)) (pg_k1 hL hp) (pg_ru hL hp (i := 0) (by decide)) ?_
  refine E_iload_n dX9_nextLetter_13 rfl ?_
  refine E_ialdL (v := nI q) dX9_nextLetter_14 (pg_lt hL hp (i := 2) (by decide)) (pg_ka hL hp (i := 2) (by decide)) rfl (by omega) (by decide) ho ?_
  refine E_ialdL (v := nI b) dX9_nextLetter_15 (pg_lt hL hp (i := 7) (by decide)) (pg_ka hL hp (i := 7) (by decide)) rfl (by omega) (by decide) he ?_
  refine E_icmp_ge_n (tgt := 39) dX9_nextLetter_16 (by decide) (by omega) (by omega) (fun c_16 => ?_) (fun c_16 => ?_)
  · refine E_bipush (v := -100) dX9_nextLetter_39 (by decide) ?_
    refine E_iret dX9_nextLetter_41 (Or.inl rfl) ?_
    first
      | (rw [fnd_end (by omega)] at hen; rw [← hen, cI_f (by omega)] at K; exact K)
      | (rw [fnd_hit (by omega) (by assumption)] at hen; rw [← hen, cI_t (by omega)] at K; exact K)
  · refine E_aload_n dX9_nextLetter_19 rfl ?_
    refine E_getRL dX9_nextLetter_20 kF_X9_51 kY_10 (Or.inr ⟨_, rfl⟩) (l_2 hL) (k_2 hL) (r_2_0 hL) ?_
    refine E_iload_n dX9_nextLetter_23 rfl ?_
    refine E_ialdL (v := nI (cN _ 141 _)) dX9_nextLetter_24 (l_3 hL) (k_3 hL) rfl (by omega) (by decide) (hB.sg (by omega)) ?_
    refine E_callS1 (fr' := 1) (k1 := 0) (n1 := 0) (k2 := 0) (n2 := 0) dX9_nextLetter_25 kO_X11_isMarkOfJ kL_X9_78 rfl (by decide) (by decide) (by exact Nat.le_of_ble_eq_true rfl) (Or.inl rfl) rfl ?_
    refine sp_X11_isMarkOfJ (by first | omega | exact Nat.lt_trans (hB.wf.tx _).1 (by decide) | exact Nat.lt_trans (hc.n256 _) (by decide)) ?_
    refine gKv ?_
    refine E_if_ne_b (tgt := 33) dX9_nextLetter_28 (by decide) (fun c_28 => ?_) (fun c_28 => ?_)
    · refine E_iinc_n (d := 1) dX9_nextLetter_33 rfl rfl rfl (by decide) rfl ?_
      refine E_goto (tgt := 4) dX9_nextLetter_36 (by decide) ?_
      exact ih (by omega) (by rw [← hen]; exact (fnd_skip (by omega) (not_not_intro (by assumption))).symm)
    · refine E_iload_n dX9_nextLetter_31 rfl ?_
      refine E_iret dX9_nextLetter_32 (Or.inl rfl) ?_
      first
        | (rw [fnd_end (by omega)] at hen; rw [← hen, cI_f (by omega)] at K; exact K)
        | (rw [fnd_hit (by omega) (by assumption)] at hen; rw [← hen, cI_t (by omega)] at K; exact K)
set_option maxRecDepth 100000 in
set_option maxHeartbeats 4000000 in
theorem sp_X9_nextLetter {g : gG} {M : gM} {Q : Option Value ⊕ String → gM → Prop} {c : Cf} {P : Nat → Nat} (hB : kB c P M) {pb : Nat} (hp : pb = 78 ∨ pb = 98) {p : Nat} {q b : Nat} (hq : q < 16) (ho : mI M (pb + 2) p = nI q) (he : mI M (pb + 7) q = nI b) (hb : b ≤ 16) (hpp : p < b) (K : Q (.inl (some (.int (afV b (jon c b p))))) M) : E g 2 0 0 mX9_nextLetter 0 [.ref (pb + 1 + 1), .ref 3, .int (nI p), .null] [] M Q := by
  have hL := hB.lay
  refine E_iload_n dX9_nextLetter_0 rfl ?_
  refine E_iconst (v := nI 1) dX9_nextLetter_1 (by decide) ?_
  refine E_iadd_n dX9_nextLetter_2 ?_
  refine E_istore_n dX9_nextLetter_3 (Nat.le_of_ble_eq_true rfl) (by decide) rfl ?_
  exact lp_X9_nextLetter hB hp hq ho he hb (by omega) K (p + 1) (by omega) rfl
set_option maxRecDepth 100000 in
set_option maxHeartbeats 4000000 in
theorem sp_X9_canReachOn {g : gG} {M : gM} {Q : Option Value ⊕ String → gM → Prop} {c : Cf} {P : Nat → Nat} (hB : kB c P M) {pb : Nat} (hp : pb = 78 ∨ pb = 98) {p : Nat} {q b : Nat} (hq : q < 16) (ho : mI M (pb + 2) p = nI q) (he : mI M (pb + 7) q = nI b) (hb : b ≤ 16) (hpp : p < b) (K : Q (.inl (some (.int (b2i (joP c b p))))) M) : E g 3 0 0 mX9_canReachOn 0 [.ref (pb + 1 + 1), .ref 3, .int (nI p), .null, .null] [] M Q := by
  have hL := hB.lay
  have hj := (fnd_spec (P := (fun j => ¬ cMk (cN c 141 j))) (show p + 1 ≤ b by omega)).2.1
  have hj : jon c b p ≤ b := hj
  have tx := (hB.wf.tx (jon c b p)).1
  by_cases e : jon c b p < b
  · refine E_aload_n dX9_canReachOn_0 rfl ?_
    refine E_aload_n dX9_canReachOn_1 rfl ?_
    refine E_iload_n dX9_canReachOn_2 rfl ?_
    refine E_callV2 (fr' := 2) (k1 := 0) (n1 := 0) (k2 := 0) (n2 := 0) dX9_canReachOn_3 kO_X9_nextLetter kL_X9_81 (pg_lt hL hp (i := 1) (by decide)) (pg_k1 hL hp) ⟨by decide, rfl⟩ rfl rfl (by decide) (by decide) (by exact Nat.le_of_ble_eq_true rfl) rfl ?_
    refine sp_X9_nextLetter hB hp hq ho he hb hpp ?_
    unfold afV
    rw [cI_t e]
    refine gKv ?_
    refine E_istore_n dX9_canReachOn_6 (Nat.le_of_ble_eq_true rfl) (by decide) rfl ?_
    refine E_iload_n dX9_canReachOn_7 rfl ?_
    refine E_bipush (v := -100) dX9_canReachOn_8 (by decide) ?_
    refine E_icmp_ne (tgt := 15) dX9_canReachOn_10 (by decide) (fun _ => ?_) (fun c0 => absurd (nI_ne100 (by omega)) c0)
    refine E_aload_n dX9_canReachOn_15 rfl ?_
    refine E_getRL dX9_canReachOn_16 kF_X9_51 kY_10 (Or.inr ⟨_, rfl⟩) (l_2 hL) (k_2 hL) (r_2_0 hL) ?_
    refine E_iload_n dX9_canReachOn_19 rfl ?_
    refine E_ialdL (v := nI (cN _ 141 _)) dX9_canReachOn_20 (l_3 hL) (k_3 hL) rfl (by omega) (by decide) (hB.sg (by omega)) ?_
    refine E_istore dX9_canReachOn_21 (Nat.le_of_ble_eq_true rfl) (by decide) rfl ?_
    refine E_iload dX9_canReachOn_23 rfl ?_
    refine E_bipush (v := nI 10) dX9_canReachOn_25 (by decide) ?_
    refine E_icmp_lt_n (tgt := 37) dX9_canReachOn_27 (by decide) (by omega) (by omega) (fun c_27 => ?_) (fun c_27 => ?_)
    · refine E_iload dX9_canReachOn_37 rfl ?_
      refine E_bipush (v := nI 20) dX9_canReachOn_39 (by decide) ?_
      refine E_icmp_eq_n (tgt := 50) dX9_canReachOn_41 (by decide) (by omega) (by omega) (fun c_41 => ?_) (fun c_41 => ?_)
      · refine E_iconst (v := nI 1) dX9_canReachOn_50 (by decide) ?_
        refine E_goto (tgt := 55) dX9_canReachOn_51 (by decide) ?_
        refine E_iret dX9_canReachOn_55 (Or.inr ⟨rfl, by decide⟩) ?_
        rw [← b2i_t (P := joP c b p) (by unfold joP; omega)]; exact K
      · refine E_iload dX9_canReachOn_44 rfl ?_
        refine E_iconst (v := nI 2) dX9_canReachOn_46 (by decide) ?_
        refine E_icmp_ne_n (tgt := 54) dX9_canReachOn_47 (by decide) (by omega) (by omega) (fun c_47 => ?_) (fun c_47 => ?_)
        · refine E_iconst (v := nI 0) dX9_canReachOn_54 (by decide) ?_
          refine E_iret dX9_canReachOn_55 (Or.inr ⟨rfl, by decide⟩) ?_
          rw [← b2i_f (P := joP c b p) (by unfold joP; omega)]; exact K
        · refine E_iconst (v := nI 1) dX9_canReachOn_50 (by decide) ?_
          refine E_goto (tgt := 55) dX9_canReachOn_51 (by decide) ?_
          refine E_iret dX9_canReachOn_55 (Or.inr ⟨rfl, by decide⟩) ?_
          rw [← b2i_t (P := joP c b p) (by unfold joP; omega)]; exact K
    · refine E_iload dX9_canReachOn_30 rfl ?_
      refine E_bipush (v := nI 18) dX9_canReachOn_32 (by decide) ?_
      refine E_icmp_le_n (tgt := 50) dX9_canReachOn_34 (by decide) (by omega) (by omega) (fun c_34 => ?_) (fun c_34 => ?_)
      · refine E_iconst (v := nI 1) dX9_canReachOn_50 (by decide) ?_
        refine E_goto (tgt := 55) dX9_canReachOn_51 (by decide) ?_
        refine E_iret dX9_canReachOn_55 (Or.inr ⟨rfl, by decide⟩) ?_
        rw [← b2i_t (P := joP c b p) (by unfold joP; omega)]; exact K
      · refine E_iload dX9_canReachOn_37 rfl ?_
        refine E_bipush (v := nI 20) dX9_canReachOn_39 (by decide) ?_
        refine E_icmp_eq_n (tgt := 50) dX9_canReachOn_41 (by decide) (by omega) (by omega) (fun c_41 => ?_) (fun c_41 => ?_)
        · refine E_iconst (v := nI 1) dX9_canReachOn_50 (by decide) ?_
          refine E_goto (tgt := 55) dX9_canReachOn_51 (by decide) ?_
          refine E_iret dX9_canReachOn_55 (Or.inr ⟨rfl, by decide⟩) ?_
          rw [← b2i_t (P := joP c b p) (by unfold joP; omega)]; exact K
        · refine E_iload dX9_canReachOn_44 rfl ?_
          refine E_iconst (v := nI 2) dX9_canReachOn_46 (by decide) ?_
          refine E_icmp_ne_n (tgt := 54) dX9_canReachOn_47 (by decide) (by omega) (by omega) (fun c_47 => ?_) (fun c_47 => ?_)
          · refine E_iconst (v := nI 0) dX9_canReachOn_54 (by decide) ?_
            refine E_iret dX9_canReachOn_55 (Or.inr ⟨rfl, by decide⟩) ?_
            rw [← b2i_f (P := joP c b p) (by unfold joP; omega)]; exact K
          · refine E_iconst (v := nI 1) dX9_canReachOn_50 (by decide) ?_
            refine E_goto (tgt := 55) dX9_canReachOn_51 (by decide) ?_
            refine E_iret dX9_canReachOn_55 (Or.inr ⟨rfl, by decide⟩) ?_
            rw [← b2i_t (P := joP c b p) (by unfold joP; omega)]; exact K
  · refine E_aload_n dX9_canReachOn_0 rfl ?_
    refine E_aload_n dX9_canReachOn_1 rfl ?_
    refine E_iload_n dX9_canReachOn_2 rfl ?_
    refine E_callV2 (fr' := 2) (k1 := 0) (n1 := 0) (k2 := 0) (n2 := 0) dX9_canReachOn_3 kO_X9_nextLetter kL_X9_81 (pg_lt hL hp (i := 1) (by decide)) (pg_k1 hL hp) ⟨by decide, rfl⟩ rfl rfl (by decide) (by decide) (by exact Nat.le_of_ble_eq_true rfl) rfl ?_
    refine sp_X9_nextLetter hB hp hq ho he hb hpp ?_
    unfold afV
    rw [cI_f e]
    refine gKv ?_
    refine E_istore_n dX9_canReachOn_6 (Nat.le_of_ble_eq_true rfl) (by decide) rfl ?_
    refine E_iload_n dX9_canReachOn_7 rfl ?_
    refine E_bipush (v := -100) dX9_canReachOn_8 (by decide) ?_
    refine E_icmp_ne_r (tgt := 15) dX9_canReachOn_10 (by decide) (fun c0 => absurd c0 (by decide)) (fun _ => ?_)
    refine E_iconst (v := nI 0) dX9_canReachOn_13 (by decide) ?_
    refine E_iret dX9_canReachOn_14 (Or.inr ⟨rfl, by decide⟩) ?_
    rw [← b2i_f (P := joP c b p) (by unfold joP; omega)]; exact K
set_option maxRecDepth 100000 in
set_option maxHeartbeats 4000000 in
theorem lp_X9_canReachBack {g : gG} {M : gM} {Q : Option Value ⊕ String → gM → Prop} {c : Cf} {P : Nat → Nat} (hB : kB c P M) {pb : Nat} (hp : pb = 78 ∨ pb = 98) {p : Nat} {q a : Nat} (hq : q < 16) (ho : mI M (pb + 2) p = nI q) (hs : mI M (pb + 6) q = nI a) (hpp : p < 16) (ha : a ≤ p) (K : Q (.inl (some (.int (b2i (jfP c a p))))) M) : ∀ k, a ≤ k → k ≤ p → rfd (fun j => j < a ∨ ¬ cMk (cN c 141 j)) k = jfr c a p → ∀ v4, E g 2 0 0 mX9_canReachBack 4 [.ref (pb + 1 + 1), .ref 3, .int (nI p), .int (dI k), v4] [] M Q := by
  have hL := hB.lay
  refine lpDn a (fun k hak ih => ?_)
  intro hkp hen v4
  refine E_iload_n dX9_canReachBack_4 rfl ?_
  refine E_aload_n dX9_canReachBack_5 rfl ?_
  refine E_getRL dX9_canReachBack_6 kF_X9_25 kY_9 (Or.inr ⟨_, rfl⟩) (pg_lt hL hp (i := 1) (by decide)) (pg_k1 hL hp) (pg_ru hL hp (i := 4) (by decide)) ?_
  refine E_aload_n dX9_canReachBack_9 rfl ?_
  refine E_getRL dX9_canReachBack_10 kF_X9_9 kY_9 (Or.inr ⟨_, rfl⟩) (pg_lt hL hp (i := 1) (by decide)) (pg_k1 hL hp) (pg_ru hL hp (i := 0) (by decide)) ?_
  refine E_iload_n dX9_canReachBack_13 rfl ?_
  refine E_ialdL (v := nI q) dX9_canReachBack_14 (pg_lt hL hp (i := 2) (by decide)) (pg_ka hL hp (i := 2) (by decide)) rfl (by omega) (by decide) ho ?_
  refine E_ialdL (v := nI a) dX9_canReachBack_15 (pg_lt hL hp (i := 6) (by decide)) (pg_ka hL hp (i := 6) (by decide)) rfl (by omega) (by decide) hs ?_
  refine E_icmp_lt_d (tgt := 61) dX9_canReachBack_16 (by decide) (by omega) (by omega) (fun c_16 => ?_) (fun c_16 => ?_)
  · obtain rfl : k = a := by omega
    have e : jfr c k p = k := by rw [← hen]; exact rfd_eq (Nat.le_refl _) (fun j hj => Or.inl (by omega)) (fun j h1 h2 => by omega)
    refine E_iconst (v := nI 0) dX9_canReachBack_61 (by decide) ?_
    refine E_iret dX9_canReachBack_62 (Or.inr ⟨rfl, by decide⟩) ?_
    rw [← b2i_f (P := jfP c k p) (by unfold jfP; omega)]; exact K
  · obtain ⟨k, rfl⟩ : ∃ z, k = z + 1 := ⟨k - 1, by omega⟩
    rw [dI_succ]
    have tx := (hB.wf.tx k).1
    refine E_aload_n dX9_canReachBack_19 rfl ?_
    refine E_getRL dX9_canReachBack_20 kF_X9_51 kY_10 (Or.inr ⟨_, rfl⟩) (l_2 hL) (k_2 hL) (r_2_0 hL) ?_
    refine E_iload_n dX9_canReachBack_23 rfl ?_
    refine E_ialdL (v := nI (cN _ 141 _)) dX9_canReachBack_24 (l_3 hL) (k_3 hL) rfl (by omega) (by decide) (hB.sg (by omega)) ?_
    refine E_istore dX9_canReachBack_25 (Nat.le_of_ble_eq_true rfl) (by decide) rfl ?_
    refine E_iload dX9_canReachBack_27 rfl ?_
    refine E_callS1 (fr' := 1) (k1 := 0) (n1 := 0) (k2 := 0) (n2 := 0) dX9_canReachBack_29 kO_X11_isMarkOfJ kL_X9_78 rfl (by decide) (by decide) (by exact Nat.le_of_ble_eq_true rfl) (Or.inl rfl) rfl ?_
    refine sp_X11_isMarkOfJ (by first | omega | exact Nat.lt_trans (hB.wf.tx _).1 (by decide) | exact Nat.lt_trans (hc.n256 _) (by decide)) ?_
    refine gKv ?_
    refine E_if_ne_b (tgt := 55) dX9_canReachBack_32 (by decide) (fun c_32 => ?_) (fun c_32 => ?_)
    · refine E_iinc_d dX9_canReachBack_55 rfl rfl (by decide) rfl ?_
      refine E_goto (tgt := 4) dX9_canReachBack_58 (by decide) ?_
      exact ih (by omega) (by omega) (by rw [← hen]; exact (rfd_f (P := (fun j => j < a ∨ ¬ cMk (cN c 141 j))) (k := k) (fun z => z.elim (fun z => by omega) (fun z => z c_32))).symm) _
    · have e : jfr c a p = k + 1 := by rw [← hen]; exact rfd_t (Or.inr c_32)
      refine E_iload dX9_canReachBack_35 rfl ?_
      refine E_callS1 (fr' := 1) (k1 := 0) (n1 := 0) (k2 := 0) (n2 := 0) dX9_canReachBack_37 kO_X11_joinsOnBothSides kL_X9_71 rfl (by decide) (by decide) (by exact Nat.le_of_ble_eq_true rfl) (Or.inl rfl) rfl ?_
      refine sp_X11_joinsOnBothSides (by first | omega | exact Nat.lt_trans (hB.wf.tx _).1 (by decide) | exact Nat.lt_trans (hc.n256 _) (by decide)) ?_
      refine gKv ?_
      refine E_if_ne_b (tgt := 49) dX9_canReachBack_40 (by decide) (fun c_40 => ?_) (fun c_40 => ?_)
      · refine E_iconst (v := nI 1) dX9_canReachBack_49 (by decide) ?_
        refine E_goto (tgt := 54) dX9_canReachBack_50 (by decide) ?_
        refine E_iret dX9_canReachBack_54 (Or.inr ⟨rfl, by decide⟩) ?_
        rw [← b2i_t (P := jfP c a p) (by unfold jfP; rw [e, Nat.add_sub_cancel]; unfold cBo; omega)]; exact K
      · refine E_iload dX9_canReachBack_43 rfl ?_
        refine E_iconst (v := nI 2) dX9_canReachBack_45 (by decide) ?_
        refine E_icmp_ne_n (tgt := 53) dX9_canReachBack_46 (by decide) (by omega) (by omega) (fun c_46 => ?_) (fun c_46 => ?_)
        · refine E_iconst (v := nI 0) dX9_canReachBack_53 (by decide) ?_
          refine E_iret dX9_canReachBack_54 (Or.inr ⟨rfl, by decide⟩) ?_
          rw [← b2i_f (P := jfP c a p) (by unfold jfP; rw [e, Nat.add_sub_cancel]; unfold cBo; omega)]; exact K
        · refine E_iconst (v := nI 1) dX9_canReachBack_49 (by decide) ?_
          refine E_goto (tgt := 54) dX9_canReachBack_50 (by decide) ?_
          refine E_iret dX9_canReachBack_54 (Or.inr ⟨rfl, by decide⟩) ?_
          rw [← b2i_t (P := jfP c a p) (by unfold jfP; rw [e, Nat.add_sub_cancel]; unfold cBo; omega)]; exact K
set_option maxRecDepth 100000 in
set_option maxHeartbeats 4000000 in
theorem sp_X9_canReachBack {g : gG} {M : gM} {Q : Option Value ⊕ String → gM → Prop} {c : Cf} {P : Nat → Nat} (hB : kB c P M) {pb : Nat} (hp : pb = 78 ∨ pb = 98) {p : Nat} {q a : Nat} (hq : q < 16) (ho : mI M (pb + 2) p = nI q) (hs : mI M (pb + 6) q = nI a) (hpp : p < 16) (ha : a ≤ p) (K : Q (.inl (some (.int (b2i (jfP c a p))))) M) : E g 2 0 0 mX9_canReachBack 0 [.ref (pb + 1 + 1), .ref 3, .int (nI p), .null, .null] [] M Q := by
  have hL := hB.lay
  refine E_iload_n dX9_canReachBack_0 rfl ?_
  refine E_iconst (v := nI 1) dX9_canReachBack_1 (by decide) ?_
  refine E_isub_d dX9_canReachBack_2 ?_
  refine E_istore_n dX9_canReachBack_3 (Nat.le_of_ble_eq_true rfl) (by decide) rfl ?_
  exact lp_X9_canReachBack hB hp hq ho hs hpp ha K p ha (Nat.le_refl _) rfl _
set_option maxRecDepth 100000 in
set_option maxHeartbeats 4000000 in
theorem sp_X9_formOf {g : gG} {M : gM} {Q : Option Value ⊕ String → gM → Prop} {c : Cf} {P : Nat → Nat} (hB : kB c P M) {pb : Nat} (hp : pb = 78 ∨ pb = 98) {p : Nat} {q a b : Nat} (hq : q < 16) (ho : mI M (pb + 2) p = nI q) (he : mI M (pb + 7) q = nI b) (hb : b ≤ 16) (hs : mI M (pb + 6) q = nI a) (hpp : p < b) (ha : a ≤ p) (K : Q (.inl (some (.int (frm c a b p)))) M) : E g 4 0 0 mX9_formOf 0 [.ref (pb + 1 + 1), .ref 3, .int (nI p), .null, .null, .null] [] M Q := by
  have hL := hB.lay
  have tx := (hB.wf.tx p).1
  refine E_aload_n dX9_formOf_0 rfl ?_
  refine E_getRL dX9_formOf_1 kF_X9_51 kY_10 (Or.inr ⟨_, rfl⟩) (l_2 hL) (k_2 hL) (r_2_0 hL) ?_
  refine E_iload_n dX9_formOf_4 rfl ?_
  refine E_ialdL (v := nI (cN _ 141 _)) dX9_formOf_5 (l_3 hL) (k_3 hL) rfl (by omega) (by decide) (hB.sg (by omega)) ?_
  refine E_istore_n dX9_formOf_6 (Nat.le_of_ble_eq_true rfl) (by decide) rfl ?_
  refine E_iload_n dX9_formOf_7 rfl ?_
  refine E_bipush (v := nI 10) dX9_formOf_8 (by decide) ?_
  refine E_icmp_lt_n (tgt := 19) dX9_formOf_10 (by decide) (by omega) (by omega) (fun c_10 => ?_) (fun c_10 => ?_)
  · refine E_bipush (v := -100) dX9_formOf_19 (by decide) ?_
    refine E_iret dX9_formOf_21 (Or.inl rfl) ?_
    rw [← frm_n (c := c) (a := a) (b := b) (p := p) (by omega)]; exact K
  · refine E_iload_n dX9_formOf_13 rfl ?_
    refine E_bipush (v := nI 20) dX9_formOf_14 (by decide) ?_
    refine E_icmp_le_n (tgt := 22) dX9_formOf_16 (by decide) (by omega) (by omega) (fun c_16 => ?_) (fun c_16 => ?_)
    · refine E_iload_n dX9_formOf_22 rfl ?_
      refine E_bipush (v := nI 19) dX9_formOf_23 (by decide) ?_
      refine E_icmp_eq_n (tgt := 41) dX9_formOf_25 (by decide) (by omega) (by omega) (fun c_25 => ?_) (fun c_25 => ?_)
      · refine E_iconst (v := nI 0) dX9_formOf_41 (by decide) ?_
        refine E_istore dX9_formOf_42 (Nat.le_of_ble_eq_true rfl) (by decide) rfl ?_
        refine E_iload_n dX9_formOf_44 rfl ?_
        refine E_callS1 (fr' := 1) (k1 := 0) (n1 := 0) (k2 := 0) (n2 := 0) dX9_formOf_45 kO_X11_joinsOnBothSides kL_X9_71 rfl (by decide) (by decide) (by exact Nat.le_of_ble_eq_true rfl) (Or.inl rfl) rfl ?_
        refine sp_X11_joinsOnBothSides (by first | omega | exact Nat.lt_trans (hB.wf.tx _).1 (by decide) | exact Nat.lt_trans (hc.n256 _) (by decide)) ?_
        refine gKv ?_
        refine E_if_eq_b (tgt := 64) dX9_formOf_48 (by decide) (fun c_48 => ?_) (fun c_48 => ?_)
        · refine E_iconst (v := nI 0) dX9_formOf_64 (by decide) ?_
          refine E_istore dX9_formOf_65 (Nat.le_of_ble_eq_true rfl) (by decide) rfl ?_
          refine E_iload dX9_formOf_67 rfl ?_
          refine E_if_eq (tgt := 83) dX9_formOf_69 (by decide) (fun _ => ?_) (fun c0 => absurd (by decide) c0)
          refine E_iload dX9_formOf_83 rfl ?_
          refine E_if_eq (tgt := 92) dX9_formOf_85 (by decide) (fun _ => ?_) (fun c0 => absurd (by decide) c0)
          refine E_iconst (v := nI 0) dX9_formOf_92 (by decide) ?_
          refine E_iret dX9_formOf_93 (Or.inl rfl) ?_
          have e : frm c a b p = nI 0 := by
            rw [frm_v ⟨by omega, by omega⟩]
            first
              | (exfalso; omega)
              | rw [cI_t (by grind), cI_t (by grind)]
              | rw [cI_t (by grind), cI_f (by grind)]
              | rw [cI_f (by grind), cI_t (by grind)]
              | rw [cI_f (by grind), cI_f (by grind)]
          rw [← e]; exact K
        · refine E_aload_n dX9_formOf_51 rfl ?_
          refine E_aload_n dX9_formOf_52 rfl ?_
          refine E_iload_n dX9_formOf_53 rfl ?_
          refine E_callV2 (fr' := 3) (k1 := 0) (n1 := 0) (k2 := 0) (n2 := 0) dX9_formOf_54 kO_X9_canReachOn kL_X9_75 (pg_lt hL hp (i := 1) (by decide)) (pg_k1 hL hp) ⟨by decide, rfl⟩ rfl rfl (by decide) (by decide) (by exact Nat.le_of_ble_eq_true rfl) rfl ?_
          refine sp_X9_canReachOn hB hp hq ho he hb hpp ?_
          refine gKv ?_
          refine E_if_eq_b (tgt := 64) dX9_formOf_57 (by decide) (fun c_57 => ?_) (fun c_57 => ?_)
          · refine E_iconst (v := nI 0) dX9_formOf_64 (by decide) ?_
            refine E_istore dX9_formOf_65 (Nat.le_of_ble_eq_true rfl) (by decide) rfl ?_
            refine E_iload dX9_formOf_67 rfl ?_
            refine E_if_eq (tgt := 83) dX9_formOf_69 (by decide) (fun _ => ?_) (fun c0 => absurd (by decide) c0)
            refine E_iload dX9_formOf_83 rfl ?_
            refine E_if_eq (tgt := 92) dX9_formOf_85 (by decide) (fun _ => ?_) (fun c0 => absurd (by decide) c0)
            refine E_iconst (v := nI 0) dX9_formOf_92 (by decide) ?_
            refine E_iret dX9_formOf_93 (Or.inl rfl) ?_
            have e : frm c a b p = nI 0 := by
              rw [frm_v ⟨by omega, by omega⟩]
              first
                | (exfalso; omega)
                | rw [cI_t (by grind), cI_t (by grind)]
                | rw [cI_t (by grind), cI_f (by grind)]
                | rw [cI_f (by grind), cI_t (by grind)]
                | rw [cI_f (by grind), cI_f (by grind)]
            rw [← e]; exact K
          · refine E_iconst (v := nI 1) dX9_formOf_60 (by decide) ?_
            refine E_goto (tgt := 65) dX9_formOf_61 (by decide) ?_
            refine E_istore dX9_formOf_65 (Nat.le_of_ble_eq_true rfl) (by decide) rfl ?_
            refine E_iload dX9_formOf_67 rfl ?_
            refine E_if_eq (tgt := 83) dX9_formOf_69 (by decide) (fun _ => ?_) (fun c0 => absurd (by decide) c0)
            refine E_iload dX9_formOf_83 rfl ?_
            refine E_if_eq (tgt := 92) dX9_formOf_85 (by decide) (fun c0 => absurd c0 (by decide)) (fun _ => ?_)
            refine E_iconst (v := nI 1) dX9_formOf_88 (by decide) ?_
            refine E_goto (tgt := 93) dX9_formOf_89 (by decide) ?_
            refine E_iret dX9_formOf_93 (Or.inl rfl) ?_
            have e : frm c a b p = nI 1 := by
              rw [frm_v ⟨by omega, by omega⟩]
              first
                | (exfalso; omega)
                | rw [cI_t (by grind), cI_t (by grind)]
                | rw [cI_t (by grind), cI_f (by grind)]
                | rw [cI_f (by grind), cI_t (by grind)]
                | rw [cI_f (by grind), cI_f (by grind)]
            rw [← e]; exact K
      · refine E_aload_n dX9_formOf_28 rfl ?_
        refine E_aload_n dX9_formOf_29 rfl ?_
        refine E_iload_n dX9_formOf_30 rfl ?_
        refine E_callV2 (fr' := 2) (k1 := 0) (n1 := 0) (k2 := 0) (n2 := 0) dX9_formOf_31 kO_X9_canReachBack kL_X9_67 (pg_lt hL hp (i := 1) (by decide)) (pg_k1 hL hp) ⟨by decide, rfl⟩ rfl rfl (by decide) (by decide) (by exact Nat.le_of_ble_eq_true rfl) rfl ?_
        refine sp_X9_canReachBack hB hp hq ho hs (by omega) ha ?_
        refine gKv ?_
        refine E_if_eq_b (tgt := 41) dX9_formOf_34 (by decide) (fun c_34 => ?_) (fun c_34 => ?_)
        · refine E_iconst (v := nI 0) dX9_formOf_41 (by decide) ?_
          refine E_istore dX9_formOf_42 (Nat.le_of_ble_eq_true rfl) (by decide) rfl ?_
          refine E_iload_n dX9_formOf_44 rfl ?_
          refine E_callS1 (fr' := 1) (k1 := 0) (n1 := 0) (k2 := 0) (n2 := 0) dX9_formOf_45 kO_X11_joinsOnBothSides kL_X9_71 rfl (by decide) (by decide) (by exact Nat.le_of_ble_eq_true rfl) (Or.inl rfl) rfl ?_
          refine sp_X11_joinsOnBothSides (by first | omega | exact Nat.lt_trans (hB.wf.tx _).1 (by decide) | exact Nat.lt_trans (hc.n256 _) (by decide)) ?_
          refine gKv ?_
          refine E_if_eq_b (tgt := 64) dX9_formOf_48 (by decide) (fun c_48 => ?_) (fun c_48 => ?_)
          · refine E_iconst (v := nI 0) dX9_formOf_64 (by decide) ?_
            refine E_istore dX9_formOf_65 (Nat.le_of_ble_eq_true rfl) (by decide) rfl ?_
            refine E_iload dX9_formOf_67 rfl ?_
            refine E_if_eq (tgt := 83) dX9_formOf_69 (by decide) (fun _ => ?_) (fun c0 => absurd (by decide) c0)
            refine E_iload dX9_formOf_83 rfl ?_
            refine E_if_eq (tgt := 92) dX9_formOf_85 (by decide) (fun _ => ?_) (fun c0 => absurd (by decide) c0)
            refine E_iconst (v := nI 0) dX9_formOf_92 (by decide) ?_
            refine E_iret dX9_formOf_93 (Or.inl rfl) ?_
            have e : frm c a b p = nI 0 := by
              rw [frm_v ⟨by omega, by omega⟩]
              first
                | (exfalso; omega)
                | rw [cI_t (by grind), cI_t (by grind)]
                | rw [cI_t (by grind), cI_f (by grind)]
                | rw [cI_f (by grind), cI_t (by grind)]
                | rw [cI_f (by grind), cI_f (by grind)]
            rw [← e]; exact K
          · refine E_aload_n dX9_formOf_51 rfl ?_
            refine E_aload_n dX9_formOf_52 rfl ?_
            refine E_iload_n dX9_formOf_53 rfl ?_
            refine E_callV2 (fr' := 3) (k1 := 0) (n1 := 0) (k2 := 0) (n2 := 0) dX9_formOf_54 kO_X9_canReachOn kL_X9_75 (pg_lt hL hp (i := 1) (by decide)) (pg_k1 hL hp) ⟨by decide, rfl⟩ rfl rfl (by decide) (by decide) (by exact Nat.le_of_ble_eq_true rfl) rfl ?_
            refine sp_X9_canReachOn hB hp hq ho he hb hpp ?_
            refine gKv ?_
            refine E_if_eq_b (tgt := 64) dX9_formOf_57 (by decide) (fun c_57 => ?_) (fun c_57 => ?_)
            · refine E_iconst (v := nI 0) dX9_formOf_64 (by decide) ?_
              refine E_istore dX9_formOf_65 (Nat.le_of_ble_eq_true rfl) (by decide) rfl ?_
              refine E_iload dX9_formOf_67 rfl ?_
              refine E_if_eq (tgt := 83) dX9_formOf_69 (by decide) (fun _ => ?_) (fun c0 => absurd (by decide) c0)
              refine E_iload dX9_formOf_83 rfl ?_
              refine E_if_eq (tgt := 92) dX9_formOf_85 (by decide) (fun _ => ?_) (fun c0 => absurd (by decide) c0)
              refine E_iconst (v := nI 0) dX9_formOf_92 (by decide) ?_
              refine E_iret dX9_formOf_93 (Or.inl rfl) ?_
              have e : frm c a b p = nI 0 := by
                rw [frm_v ⟨by omega, by omega⟩]
                first
                  | (exfalso; omega)
                  | rw [cI_t (by grind), cI_t (by grind)]
                  | rw [cI_t (by grind), cI_f (by grind)]
                  | rw [cI_f (by grind), cI_t (by grind)]
                  | rw [cI_f (by grind), cI_f (by grind)]
              rw [← e]; exact K
            · refine E_iconst (v := nI 1) dX9_formOf_60 (by decide) ?_
              refine E_goto (tgt := 65) dX9_formOf_61 (by decide) ?_
              refine E_istore dX9_formOf_65 (Nat.le_of_ble_eq_true rfl) (by decide) rfl ?_
              refine E_iload dX9_formOf_67 rfl ?_
              refine E_if_eq (tgt := 83) dX9_formOf_69 (by decide) (fun _ => ?_) (fun c0 => absurd (by decide) c0)
              refine E_iload dX9_formOf_83 rfl ?_
              refine E_if_eq (tgt := 92) dX9_formOf_85 (by decide) (fun c0 => absurd c0 (by decide)) (fun _ => ?_)
              refine E_iconst (v := nI 1) dX9_formOf_88 (by decide) ?_
              refine E_goto (tgt := 93) dX9_formOf_89 (by decide) ?_
              refine E_iret dX9_formOf_93 (Or.inl rfl) ?_
              have e : frm c a b p = nI 1 := by
                rw [frm_v ⟨by omega, by omega⟩]
                first
                  | (exfalso; omega)
                  | rw [cI_t (by grind), cI_t (by grind)]
                  | rw [cI_t (by grind), cI_f (by grind)]
                  | rw [cI_f (by grind), cI_t (by grind)]
                  | rw [cI_f (by grind), cI_f (by grind)]
              rw [← e]; exact K
        · refine E_iconst (v := nI 1) dX9_formOf_37 (by decide) ?_
          refine E_goto (tgt := 42) dX9_formOf_38 (by decide) ?_
          refine E_istore dX9_formOf_42 (Nat.le_of_ble_eq_true rfl) (by decide) rfl ?_
          refine E_iload_n dX9_formOf_44 rfl ?_
          refine E_callS1 (fr' := 1) (k1 := 0) (n1 := 0) (k2 := 0) (n2 := 0) dX9_formOf_45 kO_X11_joinsOnBothSides kL_X9_71 rfl (by decide) (by decide) (by exact Nat.le_of_ble_eq_true rfl) (Or.inl rfl) rfl ?_
          refine sp_X11_joinsOnBothSides (by first | omega | exact Nat.lt_trans (hB.wf.tx _).1 (by decide) | exact Nat.lt_trans (hc.n256 _) (by decide)) ?_
          refine gKv ?_
          refine E_if_eq_b (tgt := 64) dX9_formOf_48 (by decide) (fun c_48 => ?_) (fun c_48 => ?_)
          · refine E_iconst (v := nI 0) dX9_formOf_64 (by decide) ?_
            refine E_istore dX9_formOf_65 (Nat.le_of_ble_eq_true rfl) (by decide) rfl ?_
            refine E_iload dX9_formOf_67 rfl ?_
            refine E_if_eq (tgt := 83) dX9_formOf_69 (by decide) (fun c0 => absurd c0 (by decide)) (fun _ => ?_)
            refine E_iload dX9_formOf_72 rfl ?_
            refine E_if_eq (tgt := 81) dX9_formOf_74 (by decide) (fun _ => ?_) (fun c0 => absurd (by decide) c0)
            refine E_iconst (v := nI 3) dX9_formOf_81 (by decide) ?_
            refine E_iret dX9_formOf_82 (Or.inl rfl) ?_
            have e : frm c a b p = nI 3 := by
              rw [frm_v ⟨by omega, by omega⟩]
              first
                | (exfalso; omega)
                | rw [cI_t (by grind), cI_t (by grind)]
                | rw [cI_t (by grind), cI_f (by grind)]
                | rw [cI_f (by grind), cI_t (by grind)]
                | rw [cI_f (by grind), cI_f (by grind)]
            rw [← e]; exact K
          · refine E_aload_n dX9_formOf_51 rfl ?_
            refine E_aload_n dX9_formOf_52 rfl ?_
            refine E_iload_n dX9_formOf_53 rfl ?_
            refine E_callV2 (fr' := 3) (k1 := 0) (n1 := 0) (k2 := 0) (n2 := 0) dX9_formOf_54 kO_X9_canReachOn kL_X9_75 (pg_lt hL hp (i := 1) (by decide)) (pg_k1 hL hp) ⟨by decide, rfl⟩ rfl rfl (by decide) (by decide) (by exact Nat.le_of_ble_eq_true rfl) rfl ?_
            refine sp_X9_canReachOn hB hp hq ho he hb hpp ?_
            refine gKv ?_
            refine E_if_eq_b (tgt := 64) dX9_formOf_57 (by decide) (fun c_57 => ?_) (fun c_57 => ?_)
            · refine E_iconst (v := nI 0) dX9_formOf_64 (by decide) ?_
              refine E_istore dX9_formOf_65 (Nat.le_of_ble_eq_true rfl) (by decide) rfl ?_
              refine E_iload dX9_formOf_67 rfl ?_
              refine E_if_eq (tgt := 83) dX9_formOf_69 (by decide) (fun c0 => absurd c0 (by decide)) (fun _ => ?_)
              refine E_iload dX9_formOf_72 rfl ?_
              refine E_if_eq (tgt := 81) dX9_formOf_74 (by decide) (fun _ => ?_) (fun c0 => absurd (by decide) c0)
              refine E_iconst (v := nI 3) dX9_formOf_81 (by decide) ?_
              refine E_iret dX9_formOf_82 (Or.inl rfl) ?_
              have e : frm c a b p = nI 3 := by
                rw [frm_v ⟨by omega, by omega⟩]
                first
                  | (exfalso; omega)
                  | rw [cI_t (by grind), cI_t (by grind)]
                  | rw [cI_t (by grind), cI_f (by grind)]
                  | rw [cI_f (by grind), cI_t (by grind)]
                  | rw [cI_f (by grind), cI_f (by grind)]
              rw [← e]; exact K
            · refine E_iconst (v := nI 1) dX9_formOf_60 (by decide) ?_
              refine E_goto (tgt := 65) dX9_formOf_61 (by decide) ?_
              refine E_istore dX9_formOf_65 (Nat.le_of_ble_eq_true rfl) (by decide) rfl ?_
              refine E_iload dX9_formOf_67 rfl ?_
              refine E_if_eq (tgt := 83) dX9_formOf_69 (by decide) (fun c0 => absurd c0 (by decide)) (fun _ => ?_)
              refine E_iload dX9_formOf_72 rfl ?_
              refine E_if_eq (tgt := 81) dX9_formOf_74 (by decide) (fun c0 => absurd c0 (by decide)) (fun _ => ?_)
              refine E_iconst (v := nI 2) dX9_formOf_77 (by decide) ?_
              refine E_goto (tgt := 82) dX9_formOf_78 (by decide) ?_
              refine E_iret dX9_formOf_82 (Or.inl rfl) ?_
              have e : frm c a b p = nI 2 := by
                rw [frm_v ⟨by omega, by omega⟩]
                first
                  | (exfalso; omega)
                  | rw [cI_t (by grind), cI_t (by grind)]
                  | rw [cI_t (by grind), cI_f (by grind)]
                  | rw [cI_f (by grind), cI_t (by grind)]
                  | rw [cI_f (by grind), cI_f (by grind)]
              rw [← e]; exact K
    · refine E_bipush (v := -100) dX9_formOf_19 (by decide) ?_
      refine E_iret dX9_formOf_21 (Or.inl rfl) ?_
      rw [← frm_n (c := c) (a := a) (b := b) (p := p) (by omega)]; exact K
set_option maxRecDepth 100000 in
set_option maxHeartbeats 4000000 in
theorem lp_X9_beginsWithS {g : gG} {M : gM} {Q : Option Value ⊕ String → gM → Prop} {c : Cf} {P : Nat → Nat} (hB : kB c P M) {a b : Nat} (hb : b ≤ 16) (K : Q (.inl (some (.int (nI (scF c b a))))) M) : ∀ k, k ≤ b → scF c b k = scF c b a → E g 1 0 0 mX9_beginsWithS 2 [.ref 3, .int (nI a), .int (nI b), .int (nI k)] [] M Q := by
  have hL := hB.lay
  refine lpUp b (fun k hk ih => ?_)
  intro he
  have tx := (hB.wf.tx k).1
  refine E_iload_n dX9_beginsWithS_2 rfl ?_
  refine E_iload_n dX9_beginsWithS_3 rfl ?_
  refine E_icmp_ge_n (tgt := 47) dX9_beginsWithS_4 (by decide) (by omega) (by omega) (fun c_4 => ?_) (fun c_4 => ?_)
  · refine E_iconst (v := nI 0) dX9_beginsWithS_47 (by decide) ?_
    refine E_iret dX9_beginsWithS_48 (Or.inr ⟨rfl, by decide⟩) ?_
    rw [← he, scF_0 (by omega)] at K; exact K
  · refine E_iload_n dX9_beginsWithS_7 rfl ?_
    refine E_bipush (v := nI 16) dX9_beginsWithS_8 (by decide) ?_
    refine E_icmp_ge_n (tgt := 47) dX9_beginsWithS_10 (by decide) (by omega) (by omega) (fun c_10 => ?_) (fun c_10 => ?_)
    · refine E_iconst (v := nI 0) dX9_beginsWithS_47 (by decide) ?_
      refine E_iret dX9_beginsWithS_48 (Or.inr ⟨rfl, by decide⟩) ?_
      first
        | (exfalso; omega)
        | (rw [← he, scF_s (c := c) (b := b) (k := k) (by omega), if_pos (by omega)] at K
           unfold sgS at K
           first
             | (rw [if_pos (by omega)] at K; exact K)
             | (rw [if_neg (by omega)] at K; exact K))
    · refine E_aload_n dX9_beginsWithS_13 rfl ?_
      refine E_getRL dX9_beginsWithS_14 kF_X9_51 kY_10 (Or.inr ⟨_, rfl⟩) (l_2 hL) (k_2 hL) (r_2_0 hL) ?_
      refine E_iload_n dX9_beginsWithS_17 rfl ?_
      refine E_ialdL (v := nI (cN _ 141 _)) dX9_beginsWithS_18 (l_3 hL) (k_3 hL) rfl (by omega) (by decide) (hB.sg (by omega)) ?_
      refine E_bipush (v := nI 9) dX9_beginsWithS_19 (by decide) ?_
      refine E_icmp_le_n (tgt := 41) dX9_beginsWithS_21 (by decide) (by omega) (by omega) (fun c_21 => ?_) (fun c_21 => ?_)
      · refine E_iinc_n (d := 1) dX9_beginsWithS_41 rfl rfl rfl (by decide) rfl ?_
        refine E_goto (tgt := 2) dX9_beginsWithS_44 (by decide) ?_
        exact ih (by omega) (by rw [← he, scF_s (c := c) (b := b) (k := k) (by omega), if_neg (by omega)])
      · refine E_aload_n dX9_beginsWithS_24 rfl ?_
        refine E_getRL dX9_beginsWithS_25 kF_X9_51 kY_10 (Or.inr ⟨_, rfl⟩) (l_2 hL) (k_2 hL) (r_2_0 hL) ?_
        refine E_iload_n dX9_beginsWithS_28 rfl ?_
        refine E_ialdL (v := nI (cN _ 141 _)) dX9_beginsWithS_29 (l_3 hL) (k_3 hL) rfl (by omega) (by decide) (hB.sg (by omega)) ?_
        refine E_bipush (v := nI 30) dX9_beginsWithS_30 (by decide) ?_
        refine E_icmp_lt_n (tgt := 39) dX9_beginsWithS_32 (by decide) (by omega) (by omega) (fun c_32 => ?_) (fun c_32 => ?_)
        · refine E_iconst (v := nI 0) dX9_beginsWithS_39 (by decide) ?_
          refine E_iret dX9_beginsWithS_40 (Or.inr ⟨rfl, by decide⟩) ?_
          first
            | (exfalso; omega)
            | (rw [← he, scF_s (c := c) (b := b) (k := k) (by omega), if_pos (by omega)] at K
               unfold sgS at K
               first
                 | (rw [if_pos (by omega)] at K; exact K)
                 | (rw [if_neg (by omega)] at K; exact K))
        · refine E_iconst (v := nI 1) dX9_beginsWithS_35 (by decide) ?_
          refine E_goto (tgt := 40) dX9_beginsWithS_36 (by decide) ?_
          refine E_iret dX9_beginsWithS_40 (Or.inr ⟨rfl, by decide⟩) ?_
          first
            | (exfalso; omega)
            | (rw [← he, scF_s (c := c) (b := b) (k := k) (by omega), if_pos (by omega)] at K
               unfold sgS at K
               first
                 | (rw [if_pos (by omega)] at K; exact K)
                 | (rw [if_neg (by omega)] at K; exact K))
set_option maxRecDepth 100000 in
set_option maxHeartbeats 4000000 in
theorem sp_X9_beginsWithS {g : gG} {M : gM} {Q : Option Value ⊕ String → gM → Prop} {c : Cf} {P : Nat → Nat} (hB : kB c P M) {a b : Nat} (hb : b ≤ 16) (hab : a ≤ b) (K : Q (.inl (some (.int (nI (scF c b a))))) M) : E g 1 0 0 mX9_beginsWithS 0 [.ref 3, .int (nI a), .int (nI b), .null] [] M Q := by
  have hL := hB.lay
  refine E_iload_n dX9_beginsWithS_0 rfl ?_
  refine E_istore_n dX9_beginsWithS_1 (Nat.le_of_ble_eq_true rfl) (by decide) rfl ?_
  exact lp_X9_beginsWithS hB hb K a hab rfl
set_option maxRecDepth 100000 in
set_option maxHeartbeats 4000000 in
theorem sp_X9_open {g : gG} {M : gM} {Q : Option Value ⊕ String → gM → Prop} (hL : gLay M) {pb : Nat} (hp : pb = 78 ∨ pb = 98) {n k s f : Nat} (hn : n < 16) (hg : mI M (pb + 1) 10 = nI n) (hs : s ≤ 1) (K : Q (.inl none) (sI (sI (sI (sI M (pb + 6) n (nI k)) (pb + 4) n (nI s)) (pb + 5) n (nI f)) (pb + 1) 10 (nI (n + 1)))) : E g 1 0 0 mX9_open 0 [.ref (pb + 1 + 1), .int (nI k), .int (nI s), .int (nI f)] [] M Q := by
  refine E_aload_n dX9_open_0 rfl ?_
  refine E_getIL (v := nI n) dX9_open_1 kF_X9_43 kY_9 (Or.inl rfl) (pg_lt hL hp (i := 1) (by decide)) (pg_k1 hL hp) hg ?_
  refine E_bipush (v := nI 16) dX9_open_4 (by decide) ?_
  refine E_icmp_lt_n (tgt := 10) dX9_open_6 (by decide) (by omega) (by omega) (fun c_6 => ?_) (fun c_6 => ?_)
  · refine E_aload_n dX9_open_10 rfl ?_
    refine E_getRL dX9_open_11 kF_X9_25 kY_9 (Or.inr ⟨_, rfl⟩) (pg_lt hL hp (i := 1) (by decide)) (pg_k1 hL hp) (pg_ru hL hp (i := 4) (by decide)) ?_
    refine E_aload_n dX9_open_14 rfl ?_
    refine E_getIL (v := nI n) dX9_open_15 kF_X9_43 kY_9 (Or.inl rfl) (pg_lt hL hp (i := 1) (by decide)) (pg_k1 hL hp) hg ?_
    refine E_iload_n dX9_open_18 rfl ?_
    refine E_iast dX9_open_19 (pg_lt hL hp (i := 6) (by decide)) (pg_ka hL hp (i := 6) (by decide)) rfl (by omega) (by decide) ?_
    refine E_aload_n dX9_open_20 rfl ?_
    refine E_getRL dX9_open_21 kF_X9_18 kY_9 (Or.inr ⟨_, rfl⟩) (pg_lt hL hp (i := 1) (by decide)) (pg_k1 hL hp) (pg_ru hL hp (i := 2) (by decide)) ?_
    refine E_aload_n dX9_open_24 rfl ?_
    refine E_getIL (v := nI n) dX9_open_25 kF_X9_43 kY_9 (Or.inl rfl) (pg_lt hL hp (i := 1) (by decide)) (pg_k1 hL hp) ((mI_ne (by omega)).trans hg) ?_
    refine E_iload_n dX9_open_28 rfl ?_
    refine E_zast dX9_open_29 (pg_lt hL hp (i := 4) (by decide)) (pg_kz hL hp) rfl (by omega) (by decide) (by rcases (show s = 0 ∨ s = 1 by omega) with rfl | rfl; exact Or.inl rfl; exact Or.inr rfl) ?_
    refine E_aload_n dX9_open_30 rfl ?_
    refine E_getRL dX9_open_31 kF_X9_22 kY_9 (Or.inr ⟨_, rfl⟩) (pg_lt hL hp (i := 1) (by decide)) (pg_k1 hL hp) (pg_ru hL hp (i := 3) (by decide)) ?_
    refine E_aload_n dX9_open_34 rfl ?_
    refine E_getIL (v := nI n) dX9_open_35 kF_X9_43 kY_9 (Or.inl rfl) (pg_lt hL hp (i := 1) (by decide)) (pg_k1 hL hp) ((mI_ne (by omega)).trans ((mI_ne (by omega)).trans hg)) ?_
    refine E_iload_n dX9_open_38 rfl ?_
    refine E_iast dX9_open_39 (pg_lt hL hp (i := 5) (by decide)) (pg_ka hL hp (i := 5) (by decide)) rfl (by omega) (by decide) ?_
    refine E_aload_n dX9_open_40 rfl ?_
    refine E_dup dX9_open_41 rfl ?_
    refine E_getIL (v := nI n) dX9_open_42 kF_X9_43 kY_9 (Or.inl rfl) (pg_lt hL hp (i := 1) (by decide)) (pg_k1 hL hp) ((mI_ne (by omega)).trans ((mI_ne (by omega)).trans ((mI_ne (by omega)).trans hg))) ?_
    refine E_iconst (v := nI 1) dX9_open_45 (by decide) ?_
    refine E_iadd_n dX9_open_46 ?_
    refine E_putI dX9_open_47 kF_X9_43 kY_9 (Or.inl rfl) (pg_lt hL hp (i := 1) (by decide)) (pg_k1 hL hp) (Or.inl rfl) ?_
    refine E_vret dX9_open_50 rfl ?_
    exact K
  · refine E_vret dX9_open_9 rfl ?_
    exfalso; omega
/-- what part changes -/
def pR (pb a j : Nat) : Prop := (a = pb + 1 ∧ j = 10) ∨ (pb + 2 ≤ a ∧ a ≤ pb + 7)
def pX (c : Cf) (P : Nat → Nat) (pb : Nat) (M0 M : gM) : Prop := kB c P M0 ∧ (pb = 78 ∨ pb = 98) ∧ kf (pR pb) (fun _ _ => False) M0 M
theorem pX.B {c : Cf} {P : Nat → Nat} {pb : Nat} {M0 M : gM} (h : pX c P pb M0 M) : kB c P M := h.1.mv h.2.2 (fun a j q => by have := h.2.1; unfold pR at q; unfold told; omega) (fun _ _ q => q.elim)
theorem pX.wr {c : Cf} {P : Nat → Nat} {pb : Nat} {M0 M : gM} (h : pX c P pb M0 M) {a j : Nat} {v : Int32} (q : pR pb a j) : pX c P pb M0 (sI M a j v) := ⟨h.1, h.2.1, h.2.2.wr q⟩
/-- t runs are open, the signs before i are in them; the end of the last is not told -/
def pU (c : Cf) (pb a b R0 i t : Nat) (M : gM) : Prop := mI M (pb + 1) 10 = nI (R0 + t) ∧ ∀ r, r < t → mI M (pb + 6) (R0 + r) = nI (rn c a b r) ∧ mI M (pb + 4) (R0 + r) = nI (scr c a b (rn c a b r)) ∧ mI M (pb + 5) (R0 + r) = nI (fcO c (rn c a b r)) ∧
  (r + 1 < t → mI M (pb + 7) (R0 + r) = nI (rn c a b (r + 1))) ∧ ∀ j, rn c a b r ≤ j → (r + 1 < t → j < rn c a b (r + 1)) → j < i → mI M (pb + 2) j = nI (R0 + r)
def pT (c : Cf) (pb a b R0 i t : Nat) (M : gM) : Prop := pU c pb a b R0 i t M ∧ (0 < t → mI M (pb + 7) (R0 + (t - 1)) = nI i)
/-- how many runs are open at i -/
def pN (c : Cf) (a b i t : Nat) : Prop := t ≤ nr c a b ∧ (t = 0 → i = a) ∧ (0 < t → rn c a b (t - 1) < i) ∧ i ≤ rn c a b t
theorem rn_m {c : Cf} {a b : Nat} (hab : a ≤ b) : ∀ {r s : Nat}, r ≤ s → s ≤ nr c a b → rn c a b r ≤ rn c a b s := by
  intro r s h
  induction s with
  | zero => intro _; rw [Nat.le_zero.mp h]; exact Nat.le_refl _
  | succ s ih =>
    intro hs
    by_cases e : r = s + 1
    · rw [e]; exact Nat.le_refl _
    · have h1 := ih (by omega) (by omega)
      have h2 := eor_b (c := c) (a := a) ((rn_b (c := c) hab s (by omega)).2.2 (by omega))
      have e2 : rn c a b (s + 1) = eor c a b (rn c a b s) := rfl
      omega
theorem pN.ne {c : Cf} {a b i t : Nat} (h : pN c a b i t) (hab : a ≤ b) (hb : b ≤ 16) (hi : i < b) : i = rn c a b t → t < nr c a b := fun e => by
  have h2 := (nr_b (c := c) hab hb).2
  by_cases q : t = nr c a b
  · rw [q, h2] at e; omega
  · have := h.1; omega
/-- the sign i is of the last run just when that does not end there -/
theorem pN.same {c : Cf} {a b i t : Nat} (h : pN c a b i (t + 1)) (hab : a ≤ b) (hb : b ≤ 16) (hi : i < b) : (scr c a b i = scr c a b (rn c a b t) ∧ fcO c i = fcO c (rn c a b t)) ↔ i < rn c a b (t + 1) := by
  have h1 : rn c a b t < i := h.2.2.1 (by omega)
  have h2 := h.2.2.2
  have hs := fnd_spec (P := fun j => ¬ (scr c a b j = scr c a b (rn c a b t) ∧ fcO c j = fcO c (rn c a b t))) (show rn c a b t ≤ b by omega)
  have e : rn c a b (t + 1) = fnd (fun j => ¬ (scr c a b j = scr c a b (rn c a b t) ∧ fcO c j = fcO c (rn c a b t))) b (rn c a b t) := rfl
  rw [← e] at hs
  constructor
  · intro q
    by_cases z : i < rn c a b (t + 1)
    · exact z
    · exact absurd q (by have := hs.2.2.1 (by omega); rw [show i = rn c a b (t + 1) by omega]; exact this)
  · intro q
    exact Classical.not_not.mp (hs.2.2.2 i (by omega) q)
theorem pN.up {c : Cf} {a b i t : Nat} (h : pN c a b i t) (hlt : 0 < t ∧ i < rn c a b t) : pN c a b (i + 1) t := ⟨h.1, fun q => by omega, fun q => by have := h.2.2.1 q; omega, by omega⟩
theorem pN.op {c : Cf} {a b i t : Nat} (h : pN c a b i t) (hab : a ≤ b) (hb : b ≤ 16) (hi : i < b) (e : i = rn c a b t) : pN c a b (i + 1) (t + 1) := by
  have h1 := h.ne hab hb hi e
  have h2 := eor_b (c := c) (a := a) ((rn_b (c := c) hab t h.1).2.2 h1)
  have e2 : rn c a b (t + 1) = eor c a b (rn c a b t) := rfl
  refine ⟨by omega, fun q => by omega, fun _ => ?_, ?_⟩
  · show rn c a b t < i + 1
    omega
  · omega
theorem pN.b {c : Cf} {a b i t : Nat} (h : pN c a b i t) (hab : a ≤ b) : a + t ≤ i + 1 ∧ (i = rn c a b t → a + t ≤ i) := by
  have h2 := rn_b (c := c) hab t h.1
  refine ⟨?_, fun e => by omega⟩
  by_cases e : t = 0
  · have := h.2.1 e; omega
  · have h3 := h.2.2.1 (by omega)
    have h4 := rn_b (c := c) hab (t - 1) (by have := h.1; omega)
    omega
theorem pT.op {c : Cf} {pb a b R0 i t : Nat} {M : gM} (h : pT c pb a b R0 i t M) (e : i = rn c a b t) {s f : Nat} (hs : s = scr c a b i) (hf : f = fcO c i) : pU c pb a b R0 i (t + 1) (sI (sI (sI (sI M (pb + 6) (R0 + t) (nI i)) (pb + 4) (R0 + t) (nI s)) (pb + 5) (R0 + t) (nI f)) (pb + 1) 10 (nI (R0 + t + 1))) := by
  refine ⟨mI_eq, fun r hr => ?_⟩
  by_cases q : r = t
  · subst q
    refine ⟨?_, ?_, ?_, fun z => by omega, fun j h1 h2 h3 => by omega⟩
    · rw [mI_ne (by omega), mI_ne (by omega), mI_ne (by omega), mI_eq, ← e]
    · rw [mI_ne (by omega), mI_ne (by omega), mI_eq, ← e, hs]
    · rw [mI_ne (by omega), mI_eq, ← e, hf]
  · have h1 := h.1.2 r (by omega)
    refine ⟨?_, ?_, ?_, fun z => ?_, fun j g1 g2 g3 => ?_⟩
    · rw [mI_ne (by omega), mI_ne (by omega), mI_ne (by omega), mI_nj (by omega)]; exact h1.1
    · rw [mI_ne (by omega), mI_ne (by omega), mI_nj (by omega), mI_ne (by omega)]; exact h1.2.1
    · rw [mI_ne (by omega), mI_nj (by omega), mI_ne (by omega), mI_ne (by omega)]; exact h1.2.2.1
    · rw [mI_ne (by omega), mI_ne (by omega), mI_ne (by omega), mI_ne (by omega)]
      by_cases w : r + 1 < t
      · exact h1.2.2.2.1 w
      · have := h.2 (by omega)
        rw [show t - 1 = r by omega] at this
        rw [this, e, show t = r + 1 by omega]
    · rw [mI_ne (by omega), mI_ne (by omega), mI_ne (by omega), mI_ne (by omega)]
      exact h1.2.2.2.2 j g1 (fun w => g2 (by omega)) g3
theorem pU.step {c : Cf} {pb a b R0 i t : Nat} {M : gM} (h : pU c pb a b R0 i (t + 1) M) (hm : ∀ r, r < t → rn c a b (r + 1) ≤ rn c a b t) (hi : rn c a b t ≤ i) : pT c pb a b R0 (i + 1) (t + 1) (sI (sI M (pb + 2) i (nI (R0 + t))) (pb + 7) (R0 + t) (nI (i + 1))) := by
  refine ⟨⟨?_, fun r hr => ?_⟩, fun _ => mI_eq⟩
  · rw [mI_ne (by omega), mI_ne (by omega)]; exact h.1
  · have h1 := h.2 r hr
    refine ⟨?_, ?_, ?_, fun z => ?_, fun j g1 g2 g3 => ?_⟩
    · rw [mI_ne (by omega), mI_ne (by omega)]; exact h1.1
    · rw [mI_ne (by omega), mI_ne (by omega)]; exact h1.2.1
    · rw [mI_ne (by omega), mI_ne (by omega)]; exact h1.2.2.1
    · rw [mI_nj (by omega), mI_ne (by omega)]; exact h1.2.2.2.1 z
    · rw [mI_ne (by omega)]
      by_cases w : j = i
      · subst w
        have : r = t := by
          by_cases y : r < t
          · have := hm r y; have := g2 (by omega); omega
          · omega
        rw [this]; exact mI_eq
      · rw [mI_nj w]; exact h1.2.2.2.2 j g1 g2 (by omega)
/-- the runs of the part of the text from a to b, numbered from R0 on; the forms before k -/
def pV (c : Cf) (pb a b R0 k : Nat) (M : gM) : Prop := mI M (pb + 1) 10 = nI (R0 + nr c a b) ∧ ∀ r, r < nr c a b → mI M (pb + 6) (R0 + r) = nI (rn c a b r) ∧ mI M (pb + 7) (R0 + r) = nI (rn c a b (r + 1)) ∧ mI M (pb + 4) (R0 + r) = nI (scr c a b (rn c a b r)) ∧ mI M (pb + 5) (R0 + r) = nI (fcO c (rn c a b r)) ∧
  ∀ j, rn c a b r ≤ j → j < rn c a b (r + 1) → mI M (pb + 2) j = nI (R0 + r) ∧ (j < k → mI M (pb + 3) j = frm c (rn c a b r) (rn c a b (r + 1)) j)
theorem pT.v {c : Cf} {pb a b R0 t : Nat} {M : gM} (h : pT c pb a b R0 b t M) (hn : pN c a b b t) (hab : a ≤ b) (hb : b ≤ 16) : pV c pb a b R0 a M := by
  have hN := nr_b (c := c) hab hb
  have h1 := rn_b (c := c) hab t hn.1
  have e : t = nr c a b := by
    by_cases q : t < nr c a b
    · have := h1.2.2 q; have := hn.2.2.2; omega
    · have := hn.1; omega
  subst e
  refine ⟨h.1.1, fun r hr => ?_⟩
  have h2 := h.1.2 r hr
  have hm := rn_m (c := c) hab (show r + 1 ≤ nr c a b by omega) (Nat.le_refl _)
  have hra := rn_b (c := c) hab r (by omega)
  refine ⟨h2.1, ?_, h2.2.1, h2.2.2.1, fun j g1 g2 => ⟨h2.2.2.2.2 j g1 (fun _ => g2) (by omega), fun z => by omega⟩⟩
  by_cases q : r + 1 < nr c a b
  · exact h2.2.2.2.1 q
  · have h3 := h.2 (by omega)
    have e1 : nr c a b - 1 = r := by omega
    have e2 : r + 1 = nr c a b := by omega
    rw [e1] at h3
    rw [h3, e2, hN.2]
/-- the run of a sign -/
noncomputable def rix (c : Cf) (a b p : Nat) : Nat := fnd (fun j => p < rn c a b (j + 1)) (nr c a b) 0
theorem rix_s {c : Cf} {a b p : Nat} (hab : a ≤ b) (hb : b ≤ 16) (ha : a ≤ p) (hp : p < b) : rix c a b p < nr c a b ∧ rn c a b (rix c a b p) ≤ p ∧ p < rn c a b (rix c a b p + 1) := by
  have hN := nr_b (c := c) hab hb
  have hs := fnd_spec (P := fun j => p < rn c a b (j + 1)) (Nat.zero_le (nr c a b))
  have e : rix c a b p = fnd (fun j => p < rn c a b (j + 1)) (nr c a b) 0 := rfl
  rw [← e] at hs
  have h1 : rix c a b p < nr c a b := by
    by_cases q : rix c a b p < nr c a b
    · exact q
    · exfalso
      by_cases z : nr c a b = 0
      · rw [z] at hN; have : a = b := hN.2; omega
      · have := hs.2.2.2 (nr c a b - 1) (Nat.zero_le _) (by omega)
        rw [show nr c a b - 1 + 1 = nr c a b by omega, hN.2] at this
        omega
  refine ⟨h1, ?_, hs.2.2.1 h1⟩
  by_cases z : rix c a b p = 0
  · rw [z]; exact ha
  · have := hs.2.2.2 (rix c a b p - 1) (Nat.zero_le _) (by omega)
    rw [show rix c a b p - 1 + 1 = rix c a b p by omega] at this
    omega
theorem pV.form {c : Cf} {pb a b R0 k : Nat} {M : gM} (h : pV c pb a b R0 k M) {v : Int32} (hv : v = frm c (rn c a b (rix c a b k)) (rn c a b (rix c a b k + 1)) k) (hab : a ≤ b) (hb : b ≤ 16) (ha : a ≤ k) (hk : k < b) : pV c pb a b R0 (k + 1) (sI M (pb + 3) k v) := by
  refine ⟨(mI_ne (by omega)).trans h.1, fun r hr => ?_⟩
  have h1 := h.2 r hr
  have hx := rix_s (c := c) hab hb ha hk
  refine ⟨(mI_ne (by omega)).trans h1.1, (mI_ne (by omega)).trans h1.2.1, (mI_ne (by omega)).trans h1.2.2.1, (mI_ne (by omega)).trans h1.2.2.2.1, fun j g1 g2 => ⟨(mI_ne (by omega)).trans (h1.2.2.2.2 j g1 g2).1, fun z => ?_⟩⟩
  by_cases q : j = k
  · subst q
    have e : r = rix c a b j := by
      by_cases y : r < rix c a b j
      · have := rn_m (c := c) hab (show r + 1 ≤ rix c a b j by omega) (by omega); omega
      · by_cases y2 : rix c a b j < r
        · have := rn_m (c := c) hab (show rix c a b j + 1 ≤ r by omega) (by omega); omega
        · omega
    rw [mI_eq, e]; exact hv
  · rw [mI_nj q]; exact (h1.2.2.2.2 j g1 g2).2 (by omega)
set_option maxRecDepth 100000 in
set_option maxHeartbeats 4000000 in
theorem lp2_X9_part {g : gG} {Q : Option Value ⊕ String → gM → Prop} {c : Cf} {P : Nat → Nat} {pb : Nat} {M0 : gM} {a b R0 : Nat} (hab : a ≤ b) (hb : b ≤ 16) (hR : R0 ≤ a) (K : ∀ M, pX c P pb M0 M → pV c pb a b R0 b M → Q (.inl none) M) : ∀ k, k ≤ b → a ≤ k → ∀ M, pX c P pb M0 M → pV c pb a b R0 k M → ∀ v4 v6 v7 v8, E g 5 0 0 mX9_part 168 [.ref (pb + 1 + 1), .ref 3, .int (nI a), .int (nI b), .int v4, .int (nI k), v6, v7, v8] [] M Q := by
  refine lpUp b (fun k hk ih => ?_)
  intro hak M hx hv v4 v6 v7 v8
  have hB := hx.B
  have hL := hB.lay
  have hp := hx.2.1
  have fin : ¬ k < b → Q (.inl none) M := fun q => by
    obtain rfl : k = b := by omega
    exact K M hx hv
  refine E_iload dX9_part_168 rfl ?_
  refine E_iload_n dX9_part_170 rfl ?_
  refine E_icmp_ge_n (tgt := 201) dX9_part_171 (by decide) (by omega) (by omega) (fun c_171 => ?_) (fun c_171 => ?_)
  · refine E_vret dX9_part_201 rfl ?_
    exact fin (by omega)
  · refine E_iload dX9_part_174 rfl ?_
    refine E_bipush (v := nI 16) dX9_part_176 (by decide) ?_
    refine E_icmp_ge_n (tgt := 201) dX9_part_178 (by decide) (by omega) (by omega) (fun c_178 => ?_) (fun c_178 => ?_)
    · refine E_vret dX9_part_201 rfl ?_
      exact fin (by omega)
    · have hkb : k < b := by omega
      have hr := rix_s (c := c) hab hb hak hkb
      have hrn := hv.2 _ hr.1
      have hN := nr_b (c := c) hab hb
      have hrb := rn_b (c := c) hab (rix c a b k + 1) (by omega)
      have hra := rn_b (c := c) hab (rix c a b k) (by omega)
      refine E_aload_n dX9_part_181 rfl ?_
      refine E_getRL dX9_part_182 kF_X9_15 kY_9 (Or.inr ⟨_, rfl⟩) (pg_lt hL hp (i := 1) (by decide)) (pg_k1 hL hp) (pg_ru hL hp (i := 1) (by decide)) ?_
      refine E_iload dX9_part_185 rfl ?_
      refine E_aload_n dX9_part_187 rfl ?_
      refine E_aload_n dX9_part_188 rfl ?_
      refine E_iload dX9_part_189 rfl ?_
      refine E_callV2 (fr' := 4) (k1 := 0) (n1 := 0) (k2 := 0) (n2 := 0) dX9_part_191 kO_X9_formOf kL_X9_63 (pg_lt hL hp (i := 1) (by decide)) (pg_k1 hL hp) ⟨by decide, rfl⟩ rfl rfl (by decide) (by decide) (by exact Nat.le_of_ble_eq_true rfl) rfl ?_
      refine sp_X9_formOf hB hp (q := R0 + rix c a b k) (a := rn c a b (rix c a b k)) (b := rn c a b (rix c a b k + 1)) (by omega) (hrn.2.2.2.2 k hr.2.1 hr.2.2).1 hrn.2.1 (by omega) hrn.1 hr.2.2 hr.2.1 ?_
      refine gKv ?_
      refine E_iast dX9_part_194 (pg_lt hL hp (i := 3) (by decide)) (pg_ka hL hp (i := 3) (by decide)) rfl (by omega) (by decide) ?_
      refine E_iinc_n (d := 1) dX9_part_195 rfl rfl rfl (by decide) rfl ?_
      refine E_goto (tgt := 168) dX9_part_198 (by decide) ?_
      exact ih hkb (by omega) _ (hx.wr (Or.inr ⟨by omega, by omega⟩)) (hv.form rfl hab hb hak hkb) _ _ _ _
set_option maxRecDepth 100000 in
set_option maxHeartbeats 4000000 in
theorem t2_X9_part {g : gG} {Q : Option Value ⊕ String → gM → Prop} {c : Cf} {P : Nat → Nat} {pb : Nat} {M0 : gM} {a b R0 : Nat} (hab : a ≤ b) (hb : b ≤ 16) (hR : R0 ≤ a) {i t : Nat} (hi : i < b) (hn : pN c a b (i + 1) (t + 1)) (hri : rn c a b t ≤ i) {v4 : Int32} {v6 v7 v8 : Value} (K : ∀ M, pX c P pb M0 M → pT c pb a b R0 (i + 1) (t + 1) M → E g 5 0 0 mX9_part 11 [.ref (pb + 1 + 1), .ref 3, .int (nI a), .int (nI b), .int v4, .int (nI (i + 1)), v6, v7, v8] [] M Q) {M : gM} (hx : pX c P pb M0 M) (hu : pU c pb a b R0 i (t + 1) M) : E g 5 0 0 mX9_part 131 [.ref (pb + 1 + 1), .ref 3, .int (nI a), .int (nI b), .int v4, .int (nI i), v6, v7, v8] [] M Q := by
  have hB := hx.B
  have hL := hB.lay
  have hp := hx.2.1
  have hn1 := hn.1
  have hNb := nr_b (c := c) hab hb
  have hrt := rn_b (c := c) hab t (by omega)
  refine E_aload_n dX9_part_131 rfl ?_
  refine E_getRL dX9_part_132 kF_X9_9 kY_9 (Or.inr ⟨_, rfl⟩) (pg_lt hL hp (i := 1) (by decide)) (pg_k1 hL hp) (pg_ru hL hp (i := 0) (by decide)) ?_
  refine E_iload dX9_part_135 rfl ?_
  refine E_aload_n dX9_part_137 rfl ?_
  refine E_getIL (v := nI (R0 + (t + 1))) dX9_part_138 kF_X9_43 kY_9 (Or.inl rfl) (pg_lt hL hp (i := 1) (by decide)) (pg_k1 hL hp) hu.1 ?_
  refine E_iconst (v := nI 1) dX9_part_141 (by decide) ?_
  refine E_isub_n dX9_part_142 (by omega) ?_
  refine E_iast dX9_part_143 (pg_lt hL hp (i := 2) (by decide)) (pg_ka hL hp (i := 2) (by decide)) rfl (by omega) (by decide) ?_
  refine E_aload_n dX9_part_144 rfl ?_
  refine E_getRL dX9_part_145 kF_X9_28 kY_9 (Or.inr ⟨_, rfl⟩) (pg_lt hL hp (i := 1) (by decide)) (pg_k1 hL hp) (pg_ru hL hp (i := 5) (by decide)) ?_
  refine E_aload_n dX9_part_148 rfl ?_
  refine E_getIL (v := nI (R0 + (t + 1))) dX9_part_149 kF_X9_43 kY_9 (Or.inl rfl) (pg_lt hL hp (i := 1) (by decide)) (pg_k1 hL hp) ((mI_ne (by omega)).trans hu.1) ?_
  refine E_iconst (v := nI 1) dX9_part_152 (by decide) ?_
  refine E_isub_n dX9_part_153 (by omega) ?_
  refine E_iload dX9_part_154 rfl ?_
  refine E_iconst (v := nI 1) dX9_part_156 (by decide) ?_
  refine E_iadd_n dX9_part_157 ?_
  refine E_iast dX9_part_158 (pg_lt hL hp (i := 7) (by decide)) (pg_ka hL hp (i := 7) (by decide)) rfl (by omega) (by decide) ?_
  refine E_iinc_n (d := 1) dX9_part_159 rfl rfl rfl (by decide) rfl ?_
  refine E_goto (tgt := 11) dX9_part_162 (by decide) ?_
  have e : R0 + (t + 1) - 1 = R0 + t := by omega
  rw [e]
  exact K _ ((hx.wr (Or.inr ⟨by omega, by omega⟩)).wr (Or.inr ⟨by omega, by omega⟩)) (hu.step (fun r hr => rn_m hab (by omega) (by omega)) hri)
set_option maxRecDepth 100000 in
set_option maxHeartbeats 4000000 in
theorem t1_X9_part {g : gG} {Q : Option Value ⊕ String → gM → Prop} {c : Cf} {P : Nat → Nat} {pb : Nat} {M0 : gM} {a b R0 : Nat} (hab : a ≤ b) (hb : b ≤ 16) (hR : R0 ≤ a) {i t s f : Nat} (hi : i < b) (hn : pN c a b i t) (hs : s = scr c a b i) (hf : f = fcO c i) (hf1 : f ≤ 1) {v6 : Value} (K : ∀ M t v8, pX c P pb M0 M → pN c a b (i + 1) t → pT c pb a b R0 (i + 1) t M → E g 5 0 0 mX9_part 11 [.ref (pb + 1 + 1), .ref 3, .int (nI a), .int (nI b), .int (nI s), .int (nI (i + 1)), v6, .int (nI f), v8] [] M Q) {M : gM} (hx : pX c P pb M0 M) (ht : pT c pb a b R0 i t M) : ∀ v8, E g 5 0 0 mX9_part 78 [.ref (pb + 1 + 1), .ref 3, .int (nI a), .int (nI b), .int (nI s), .int (nI i), v6, .int (nI f), v8] [] M Q := by
  intro v8
  have hB := hx.B
  have hL := hB.lay
  have hp := hx.2.1
  have hNb := nr_b (c := c) hab hb
  have hbt := hn.b hab
  have hn1 := hn.1
  have hs1 : s ≤ 1 := by rw [hs]; exact scr_b _ _ _ _
  have new : i = rn c a b t → ∀ v8, E g 5 0 0 mX9_part 121 [.ref (pb + 1 + 1), .ref 3, .int (nI a), .int (nI b), .int (nI s), .int (nI i), v6, .int (nI f), v8] [] M Q := fun e v8 => by
    have := hbt.2 e
    have hlt := hn.ne hab hb hi e
    refine E_aload_n dX9_part_121 rfl ?_
    refine E_iload dX9_part_122 rfl ?_
    refine E_iload dX9_part_124 rfl ?_
    refine E_iload dX9_part_126 rfl ?_
    refine E_callV3 (fr' := 1) (k1 := 0) (n1 := 0) (k2 := 0) (n2 := 0) dX9_part_128 kO_X9_open kL_X9_59 (pg_lt hL hp (i := 1) (by decide)) (pg_k1 hL hp) ⟨by decide, rfl⟩ rfl rfl rfl (by decide) (by decide) (by exact Nat.le_of_ble_eq_true rfl) rfl ?_
    refine sp_X9_open hL hp (n := R0 + t) (by omega) ht.1.1 hs1 ?_
    refine gKn ?_
    exact t2_X9_part hab hb hR hi (hn.op hab hb hi e) (by omega) (fun M hx ht => K M _ _ hx (hn.op hab hb hi e) ht) ((((hx.wr (Or.inr ⟨by omega, by omega⟩)).wr (Or.inr ⟨by omega, by omega⟩)).wr (Or.inr ⟨by omega, by omega⟩)).wr (Or.inl ⟨rfl, rfl⟩)) (ht.op e hs hf)
  refine E_aload_n dX9_part_78 rfl ?_
  refine E_getIL (v := nI (R0 + t)) dX9_part_79 kF_X9_43 kY_9 (Or.inl rfl) (pg_lt hL hp (i := 1) (by decide)) (pg_k1 hL hp) ht.1.1 ?_
  refine E_iconst (v := nI 1) dX9_part_82 (by decide) ?_
  refine E_isub_d dX9_part_83 ?_
  refine E_istore dX9_part_84 (Nat.le_of_ble_eq_true rfl) (by decide) rfl ?_
  refine E_iload dX9_part_86 rfl ?_
  refine E_iload_n dX9_part_88 rfl ?_
  refine E_icmp_eq_n (tgt := 121) dX9_part_89 (by decide) (by omega) (by omega) (fun c_89 => ?_) (fun c_89 => ?_)
  · refine new ?_ _
    by_cases e : t = 0
    · have := hn.2.1 e; subst e; exact (show i = a by omega)
    · obtain ⟨t, rfl⟩ : ∃ z, t = z + 1 := ⟨t - 1, by omega⟩
      have h1 : rn c a b t < i := hn.2.2.1 (by omega)
      have := rn_b (c := c) hab t (by omega)
      omega
  · refine E_iload dX9_part_92 rfl ?_
    refine E_if_lt_d (tgt := 121) dX9_part_94 (by decide) (by omega) (fun c_94 => ?_) (fun c_94 => ?_)
    · refine new ?_ _
      by_cases e : t = 0
      · have := hn.2.1 e; subst e; exact (show i = a by omega)
      · obtain ⟨t, rfl⟩ : ∃ z, t = z + 1 := ⟨t - 1, by omega⟩
        have h1 : rn c a b t < i := hn.2.2.1 (by omega)
        have := rn_b (c := c) hab t (by omega)
        omega
    · obtain ⟨t, rfl⟩ : ∃ z, t = z + 1 := ⟨t - 1, by
        by_cases e : t = 0
        · have := hn.2.1 e; omega
        · omega⟩
      have hsm := hn.same hab hb hi
      have hrt := ht.1.2 t (by omega)
      have hrl : rn c a b t < i := hn.2.2.1 (by omega)
      have hsb := scr_b c a b (rn c a b t)
      have hfb := fcO_b hB.wf (rn c a b t)
      have hub := hn.2.2.2
      have ed : dI (R0 + (t + 1)) = nI (R0 + t) := dI_succ _
      rw [ed]
      refine E_aload_n dX9_part_97 rfl ?_
      refine E_getRL dX9_part_98 kF_X9_18 kY_9 (Or.inr ⟨_, rfl⟩) (pg_lt hL hp (i := 1) (by decide)) (pg_k1 hL hp) (pg_ru hL hp (i := 2) (by decide)) ?_
      refine E_iload dX9_part_101 rfl ?_
      refine E_zaldL (v := nI (scr c a b (rn c a b t))) dX9_part_103 (pg_lt hL hp (i := 4) (by decide)) (pg_kz hL hp) rfl (by omega) (by decide) hrt.2.1 ?_
      refine E_iload dX9_part_104 rfl ?_
      refine E_icmp_ne_n (tgt := 121) dX9_part_106 (by decide) (by omega) (by omega) (fun c_106 => ?_) (fun c_106 => ?_)
      · refine new ?_ _
        have : ¬ (scr c a b i = scr c a b (rn c a b t) ∧ fcO c i = fcO c (rn c a b t)) := fun z => by omega
        have := fun z => this (hsm.mpr z)
        omega
      · refine E_aload_n dX9_part_109 rfl ?_
        refine E_getRL dX9_part_110 kF_X9_22 kY_9 (Or.inr ⟨_, rfl⟩) (pg_lt hL hp (i := 1) (by decide)) (pg_k1 hL hp) (pg_ru hL hp (i := 3) (by decide)) ?_
        refine E_iload dX9_part_113 rfl ?_
        refine E_ialdL (v := nI (fcO c (rn c a b t))) dX9_part_115 (pg_lt hL hp (i := 5) (by decide)) (pg_ka hL hp (i := 5) (by decide)) rfl (by omega) (by decide) hrt.2.2.1 ?_
        refine E_iload dX9_part_116 rfl ?_
        refine E_icmp_eq_n (tgt := 131) dX9_part_118 (by decide) (by omega) (by omega) (fun c_118 => ?_) (fun c_118 => ?_)
        · have hlt := hsm.mp ⟨by omega, by omega⟩
          exact t2_X9_part hab hb hR hi (hn.up ⟨by omega, hlt⟩) (Nat.le_of_lt hrl) (fun M hx ht => K M _ _ hx (hn.up ⟨by omega, hlt⟩) ht) hx ht.1
        · refine new ?_ _
          have : ¬ (scr c a b i = scr c a b (rn c a b t) ∧ fcO c i = fcO c (rn c a b t)) := fun z => by omega
          have := fun z => this (hsm.mpr z)
          omega
set_option maxRecDepth 100000 in
set_option maxHeartbeats 4000000 in
theorem lp_X9_part {g : gG} {Q : Option Value ⊕ String → gM → Prop} {c : Cf} {P : Nat → Nat} {pb : Nat} {M0 : gM} {a b R0 : Nat} (hab : a ≤ b) (hb : b ≤ 16) (hR : R0 ≤ a) (K : ∀ M, pX c P pb M0 M → pV c pb a b R0 b M → Q (.inl none) M) : ∀ k, k ≤ b → a ≤ k → ∀ M t, pX c P pb M0 M → pN c a b k t → pT c pb a b R0 k t M → ∀ v v6 v7 v8, v = nI (scB c a b k) → E g 5 0 0 mX9_part 11 [.ref (pb + 1 + 1), .ref 3, .int (nI a), .int (nI b), .int v, .int (nI k), v6, v7, v8] [] M Q := by
  refine lpUp b (fun k hk ih => ?_)
  intro hak M t hx hn ht v v6 v7 v8 hv
  subst hv
  have hB := hx.B
  have hL := hB.lay
  have hp := hx.2.1
  have tx := (hB.wf.tx k).1
  have fx := fcO_b hB.wf k
  have ef : fcO c k = cN c 140 (cN c 141 k) := rfl
  have go : k < b → ∀ s f, s = scr c a b k → f = fcO c k → ∀ v6 v8, E g 5 0 0 mX9_part 78 [.ref (pb + 1 + 1), .ref 3, .int (nI a), .int (nI b), .int (nI s), .int (nI k), v6, .int (nI f), v8] [] M Q := fun hkb s f hs hf v6 v8 =>
    t1_X9_part hab hb hR hkb hn hs hf (by omega) (fun M t v8 hx hn ht => ih hkb (by omega) M t hx hn ht _ _ _ _ (by rw [hs]; rfl)) hx ht v8
  have es : scr c a b k = if 10 ≤ cN c 141 k then sgS (cN c 141 k) else scB c a b k := scB_s hak
  unfold sgS at es
  refine E_iload dX9_part_11 rfl ?_
  refine E_iload_n dX9_part_13 rfl ?_
  refine E_icmp_ge_n (tgt := 165) dX9_part_14 (by decide) (by omega) (by omega) (fun c_14 => ?_) (fun c_14 => ?_)
  · obtain rfl : k = b := by omega
    refine E_iload_n dX9_part_165 rfl ?_
    refine E_istore dX9_part_166 (Nat.le_of_ble_eq_true rfl) (by decide) rfl ?_
    exact lp2_X9_part hab hb hR K a hab (Nat.le_refl _) M hx (ht.v hn hab hb) _ _ _ _
  · refine E_iload dX9_part_17 rfl ?_
    refine E_bipush (v := nI 16) dX9_part_19 (by decide) ?_
    refine E_icmp_ge_n (tgt := 165) dX9_part_21 (by decide) (by omega) (by omega) (fun c_21 => ?_) (fun c_21 => ?_)
    · obtain rfl : k = b := by omega
      refine E_iload_n dX9_part_165 rfl ?_
      refine E_istore dX9_part_166 (Nat.le_of_ble_eq_true rfl) (by decide) rfl ?_
      exact lp2_X9_part hab hb hR K a hab (Nat.le_refl _) M hx (ht.v hn hab hb) _ _ _ _
    · refine E_aload_n dX9_part_24 rfl ?_
      refine E_getRL dX9_part_25 kF_X9_51 kY_10 (Or.inr ⟨_, rfl⟩) (l_2 hL) (k_2 hL) (r_2_0 hL) ?_
      refine E_iload dX9_part_28 rfl ?_
      refine E_ialdL (v := nI (cN _ 141 _)) dX9_part_30 (l_3 hL) (k_3 hL) rfl (by omega) (by decide) (hB.sg (by omega)) ?_
      refine E_istore dX9_part_31 (Nat.le_of_ble_eq_true rfl) (by decide) rfl ?_
      refine E_iload dX9_part_33 rfl ?_
      refine E_bipush (v := nI 9) dX9_part_35 (by decide) ?_
      refine E_icmp_le_n (tgt := 54) dX9_part_37 (by decide) (by omega) (by omega) (fun c_37 => ?_) (fun c_37 => ?_)
      · refine E_iload dX9_part_54 rfl ?_
        refine E_bipush (v := nI 45) dX9_part_56 (by decide) ?_
        refine E_icmp_ge_n (tgt := 75) dX9_part_58 (by decide) (by omega) (by omega) (fun c_58 => ?_) (fun c_58 => ?_)
        · refine E_iconst (v := nI 0) dX9_part_75 (by decide) ?_
          refine E_istore dX9_part_76 (Nat.le_of_ble_eq_true rfl) (by decide) rfl ?_
          refine go (by omega) _ _ ?_ ?_ _ _
          · first
              | omega
              | (split at es
                 · first
                     | omega
                     | (split at es <;> omega)
                 · omega)
          · omega
        · refine E_aload_n dX9_part_61 rfl ?_
          refine E_getRL dX9_part_62 kF_X9_56 kY_10 (Or.inr ⟨_, rfl⟩) (l_2 hL) (k_2 hL) (r_2_2 hL) ?_
          refine E_iload dX9_part_65 rfl ?_
          refine E_zaldL (v := nI (cN c 140 (cN c 141 k))) dX9_part_67 (l_5 hL) (k_5 hL) rfl (by omega) (by decide) (hB.lk (by omega)) ?_
          refine E_if_eq_n (tgt := 75) dX9_part_68 (by decide) (by omega) (fun c_68 => ?_) (fun c_68 => ?_)
          · refine E_iconst (v := nI 0) dX9_part_75 (by decide) ?_
            refine E_istore dX9_part_76 (Nat.le_of_ble_eq_true rfl) (by decide) rfl ?_
            refine go (by omega) _ _ ?_ ?_ _ _
            · first
                | omega
                | (split at es
                   · first
                       | omega
                       | (split at es <;> omega)
                   · omega)
            · omega
          · refine E_iconst (v := nI 1) dX9_part_71 (by decide) ?_
            refine E_goto (tgt := 76) dX9_part_72 (by decide) ?_
            refine E_istore dX9_part_76 (Nat.le_of_ble_eq_true rfl) (by decide) rfl ?_
            refine go (by omega) _ _ ?_ ?_ _ _
            · first
                | omega
                | (split at es
                   · first
                       | omega
                       | (split at es <;> omega)
                   · omega)
            · omega
      · refine E_iload dX9_part_40 rfl ?_
        refine E_bipush (v := nI 30) dX9_part_42 (by decide) ?_
        refine E_icmp_lt_n (tgt := 51) dX9_part_44 (by decide) (by omega) (by omega) (fun c_44 => ?_) (fun c_44 => ?_)
        · refine E_iconst (v := nI 0) dX9_part_51 (by decide) ?_
          refine E_istore dX9_part_52 (Nat.le_of_ble_eq_true rfl) (by decide) rfl ?_
          refine E_iload dX9_part_54 rfl ?_
          refine E_bipush (v := nI 45) dX9_part_56 (by decide) ?_
          refine E_icmp_ge_n (tgt := 75) dX9_part_58 (by decide) (by omega) (by omega) (fun c_58 => ?_) (fun c_58 => ?_)
          · refine E_iconst (v := nI 0) dX9_part_75 (by decide) ?_
            refine E_istore dX9_part_76 (Nat.le_of_ble_eq_true rfl) (by decide) rfl ?_
            refine go (by omega) _ _ ?_ ?_ _ _
            · first
                | omega
                | (split at es
                   · first
                       | omega
                       | (split at es <;> omega)
                   · omega)
            · omega
          · refine E_aload_n dX9_part_61 rfl ?_
            refine E_getRL dX9_part_62 kF_X9_56 kY_10 (Or.inr ⟨_, rfl⟩) (l_2 hL) (k_2 hL) (r_2_2 hL) ?_
            refine E_iload dX9_part_65 rfl ?_
            refine E_zaldL (v := nI (cN c 140 (cN c 141 k))) dX9_part_67 (l_5 hL) (k_5 hL) rfl (by omega) (by decide) (hB.lk (by omega)) ?_
            refine E_if_eq_n (tgt := 75) dX9_part_68 (by decide) (by omega) (fun c_68 => ?_) (fun c_68 => ?_)
            · refine E_iconst (v := nI 0) dX9_part_75 (by decide) ?_
              refine E_istore dX9_part_76 (Nat.le_of_ble_eq_true rfl) (by decide) rfl ?_
              refine go (by omega) _ _ ?_ ?_ _ _
              · first
                  | omega
                  | (split at es
                     · first
                         | omega
                         | (split at es <;> omega)
                     · omega)
              · omega
            · refine E_iconst (v := nI 1) dX9_part_71 (by decide) ?_
              refine E_goto (tgt := 76) dX9_part_72 (by decide) ?_
              refine E_istore dX9_part_76 (Nat.le_of_ble_eq_true rfl) (by decide) rfl ?_
              refine go (by omega) _ _ ?_ ?_ _ _
              · first
                  | omega
                  | (split at es
                     · first
                         | omega
                         | (split at es <;> omega)
                     · omega)
              · omega
        · refine E_iconst (v := nI 1) dX9_part_47 (by decide) ?_
          refine E_goto (tgt := 52) dX9_part_48 (by decide) ?_
          refine E_istore dX9_part_52 (Nat.le_of_ble_eq_true rfl) (by decide) rfl ?_
          refine E_iload dX9_part_54 rfl ?_
          refine E_bipush (v := nI 45) dX9_part_56 (by decide) ?_
          refine E_icmp_ge_n (tgt := 75) dX9_part_58 (by decide) (by omega) (by omega) (fun c_58 => ?_) (fun c_58 => ?_)
          · refine E_iconst (v := nI 0) dX9_part_75 (by decide) ?_
            refine E_istore dX9_part_76 (Nat.le_of_ble_eq_true rfl) (by decide) rfl ?_
            refine go (by omega) _ _ ?_ ?_ _ _
            · first
                | omega
                | (split at es
                   · first
                       | omega
                       | (split at es <;> omega)
                   · omega)
            · omega
          · refine E_aload_n dX9_part_61 rfl ?_
            refine E_getRL dX9_part_62 kF_X9_56 kY_10 (Or.inr ⟨_, rfl⟩) (l_2 hL) (k_2 hL) (r_2_2 hL) ?_
            refine E_iload dX9_part_65 rfl ?_
            refine E_zaldL (v := nI (cN c 140 (cN c 141 k))) dX9_part_67 (l_5 hL) (k_5 hL) rfl (by omega) (by decide) (hB.lk (by omega)) ?_
            refine E_if_eq_n (tgt := 75) dX9_part_68 (by decide) (by omega) (fun c_68 => ?_) (fun c_68 => ?_)
            · refine E_iconst (v := nI 0) dX9_part_75 (by decide) ?_
              refine E_istore dX9_part_76 (Nat.le_of_ble_eq_true rfl) (by decide) rfl ?_
              refine go (by omega) _ _ ?_ ?_ _ _
              · first
                  | omega
                  | (split at es
                     · first
                         | omega
                         | (split at es <;> omega)
                     · omega)
              · omega
            · refine E_iconst (v := nI 1) dX9_part_71 (by decide) ?_
              refine E_goto (tgt := 76) dX9_part_72 (by decide) ?_
              refine E_istore dX9_part_76 (Nat.le_of_ble_eq_true rfl) (by decide) rfl ?_
              refine go (by omega) _ _ ?_ ?_ _ _
              · first
                  | omega
                  | (split at es
                     · first
                         | omega
                         | (split at es <;> omega)
                     · omega)
              · omega
set_option maxRecDepth 100000 in
set_option maxHeartbeats 4000000 in
theorem sp_X9_part {g : gG} {Q : Option Value ⊕ String → gM → Prop} {c : Cf} {P : Nat → Nat} {pb : Nat} {M0 : gM} {a b R0 : Nat} (hab : a ≤ b) (hb : b ≤ 16) (hR : R0 ≤ a) (K : ∀ M, pX c P pb M0 M → pV c pb a b R0 b M → Q (.inl none) M) {M : gM} (hx : pX c P pb M0 M) (hc0 : mI M (pb + 1) 10 = nI R0) : E g 5 0 0 mX9_part 0 [.ref (pb + 1 + 1), .ref 3, .int (nI a), .int (nI b), .null, .null, .null, .null, .null] [] M Q := by
  have hB := hx.B
  have hL := hB.lay
  have hp := hx.2.1
  refine E_aload_n dX9_part_0 rfl ?_
  refine E_iload_n dX9_part_1 rfl ?_
  refine E_iload_n dX9_part_2 rfl ?_
  refine E_callS3 (fr' := 1) (k1 := 0) (n1 := 0) (k2 := 0) (n2 := 0) dX9_part_3 kO_X9_beginsWithS kL_X9_47 rfl rfl rfl (by decide) (by decide) (by exact Nat.le_of_ble_eq_true rfl) (Or.inl rfl) rfl ?_
  refine sp_X9_beginsWithS hB hb hab ?_
  refine gKv ?_
  refine E_istore dX9_part_6 (Nat.le_of_ble_eq_true rfl) (by decide) rfl ?_
  refine E_iload_n dX9_part_8 rfl ?_
  refine E_istore dX9_part_9 (Nat.le_of_ble_eq_true rfl) (by decide) rfl ?_
  exact lp_X9_part hab hb hR K a hab (Nat.le_refl _) M 0 hx ⟨Nat.zero_le _, fun _ => rfl, fun z => absurd z (Nat.lt_irrefl 0), Nat.le_refl _⟩ ⟨⟨hc0, fun r hr => absurd hr (Nat.not_lt_zero r)⟩, fun z => absurd z (Nat.lt_irrefl 0)⟩ _ _ _ _ (by rw [scB_0])
