/-! the class: what it asks of numbers -/
theorem ge3 {b : Int32} : nI 3 ≤ b ↔ ¬ b ≤ nI 2 := by
  simp only [Int32.le_iff_toInt_le, show (nI 3).toInt = 3 by decide, show (nI 2).toInt = 2 by decide]; omega
theorem ge12 {b : Int32} : nI 12 ≤ b ↔ ¬ b ≤ nI 11 := by
  simp only [Int32.le_iff_toInt_le, show (nI 12).toInt = 12 by decide, show (nI 11).toInt = 11 by decide]; omega
theorem ge4 {b : Int32} : nI 4 ≤ b ↔ ¬ b ≤ nI 3 := by
  simp only [Int32.le_iff_toInt_le, show (nI 4).toInt = 4 by decide, show (nI 3).toInt = 3 by decide]; omega
theorem ge256 {b : Int32} : nI 256 ≤ b ↔ ¬ b ≤ nI 255 := by
  simp only [Int32.le_iff_toInt_le, show (nI 256).toInt = 256 by decide, show (nI 255).toInt = 255 by decide]; omega
theorem ge306 {b : Int32} : nI 306 ≤ b ↔ ¬ b ≤ nI 305 := by
  simp only [Int32.le_iff_toInt_le, show (nI 306).toInt = 306 by decide, show (nI 305).toInt = 305 by decide]; omega
theorem ge45 {b : Int32} : nI 45 ≤ b ↔ ¬ b ≤ nI 44 := by
  simp only [Int32.le_iff_toInt_le, show (nI 45).toInt = 45 by decide, show (nI 44).toInt = 44 by decide]; omega
theorem ge2 {b : Int32} : nI 2 ≤ b ↔ ¬ b ≤ nI 1 := by
  simp only [Int32.le_iff_toInt_le, show (nI 2).toInt = 2 by decide, show (nI 1).toInt = 1 by decide]; omega
theorem ge6 {b : Int32} : nI 6 ≤ b ↔ ¬ b ≤ nI 5 := by
  simp only [Int32.le_iff_toInt_le, show (nI 6).toInt = 6 by decide, show (nI 5).toInt = 5 by decide]; omega
theorem ge0 {b : Int32} : (0 : Int32) ≤ b ↔ nI 0 ≤ b := by rw [show nI 0 = (0 : Int32) by decide]
theorem ltI {a b : Int32} : a < b ↔ ¬ b ≤ a := Int32.not_le.symm
set_option maxRecDepth 100000 in
set_option maxHeartbeats 4000000 in
theorem sp_X11_isGlyph {g : gG} {M : gM} {Q : Option Value ⊕ String → gM → Prop} {v : Int32}  (K : Q (.inl (some (.int (b2i (iGlyph v))))) M) : E g 1 0 0 mX11_isGlyph 0 [.int v] [] M Q := by
  refine E_iload_n dX11_isGlyph_0 rfl ?_
  refine E_if_lt (tgt := 15) dX11_isGlyph_1 (by decide) (fun c_1 => ?_) (fun c_1 => ?_)
  · refine E_iconst (v := nI 0) dX11_isGlyph_15 (by decide) ?_
    refine E_iret dX11_isGlyph_16 (Or.inr ⟨rfl, by decide⟩) ?_
    rw [← b2i_f (P := iGlyph v) (by ((try simp only [ltI, ge0, ge3, ge12, ge4, ge256, ge306, ge45, ge2, ge6] at *); grind))]; exact K
  · refine E_iload_n dX11_isGlyph_4 rfl ?_
    refine E_sipush (v := nI 256) dX11_isGlyph_5 (by decide) ?_
    refine E_icmp_ge (tgt := 15) dX11_isGlyph_8 (by decide) (fun c_8 => ?_) (fun c_8 => ?_)
    · refine E_iconst (v := nI 0) dX11_isGlyph_15 (by decide) ?_
      refine E_iret dX11_isGlyph_16 (Or.inr ⟨rfl, by decide⟩) ?_
      rw [← b2i_f (P := iGlyph v) (by ((try simp only [ltI, ge0, ge3, ge12, ge4, ge256, ge306, ge45, ge2, ge6] at *); grind))]; exact K
    · refine E_iconst (v := nI 1) dX11_isGlyph_11 (by decide) ?_
      refine E_goto (tgt := 16) dX11_isGlyph_12 (by decide) ?_
      refine E_iret dX11_isGlyph_16 (Or.inr ⟨rfl, by decide⟩) ?_
      rw [← b2i_t (P := iGlyph v) (by ((try simp only [ltI, ge0, ge3, ge12, ge4, ge256, ge306, ge45, ge2, ge6] at *); grind))]; exact K
set_option maxRecDepth 100000 in
set_option maxHeartbeats 4000000 in
theorem sp_X11_isItem {g : gG} {M : gM} {Q : Option Value ⊕ String → gM → Prop} {v : Int32}  (K : Q (.inl (some (.int (b2i (iItem v))))) M) : E g 2 0 0 mX11_isItem 0 [.int v] [] M Q := by
  refine E_iload_n dX11_isItem_0 rfl ?_
  refine E_callS1 (fr' := 1) (k1 := 0) (n1 := 0) (k2 := 0) (n2 := 0) dX11_isItem_1 kO_X11_isGlyph kL_X11_140 rfl (by decide) (by decide) (by exact Nat.le_of_ble_eq_true rfl) (Or.inl rfl) rfl ?_
  refine sp_X11_isGlyph ?_
  refine gKv ?_
  refine E_if_ne_b (tgt := 21) dX11_isItem_4 (by decide) (fun c_4 => ?_) (fun c_4 => ?_)
  · refine E_iconst (v := nI 1) dX11_isItem_21 (by decide) ?_
    refine E_goto (tgt := 26) dX11_isItem_22 (by decide) ?_
    refine E_iret dX11_isItem_26 (Or.inr ⟨rfl, by decide⟩) ?_
    rw [← b2i_t (P := iItem v) (by ((try simp only [ltI, ge0, ge3, ge12, ge4, ge256, ge306, ge45, ge2, ge6] at *); grind))]; exact K
  · refine E_iload_n dX11_isItem_7 rfl ?_
    refine E_sipush (v := nI 300) dX11_isItem_8 (by decide) ?_
    refine E_icmp_lt (tgt := 25) dX11_isItem_11 (by decide) (fun c_11 => ?_) (fun c_11 => ?_)
    · refine E_iconst (v := nI 0) dX11_isItem_25 (by decide) ?_
      refine E_iret dX11_isItem_26 (Or.inr ⟨rfl, by decide⟩) ?_
      rw [← b2i_f (P := iItem v) (by ((try simp only [ltI, ge0, ge3, ge12, ge4, ge256, ge306, ge45, ge2, ge6] at *); grind))]; exact K
    · refine E_iload_n dX11_isItem_14 rfl ?_
      refine E_sipush (v := nI 306) dX11_isItem_15 (by decide) ?_
      refine E_icmp_ge (tgt := 25) dX11_isItem_18 (by decide) (fun c_18 => ?_) (fun c_18 => ?_)
      · refine E_iconst (v := nI 0) dX11_isItem_25 (by decide) ?_
        refine E_iret dX11_isItem_26 (Or.inr ⟨rfl, by decide⟩) ?_
        rw [← b2i_f (P := iItem v) (by ((try simp only [ltI, ge0, ge3, ge12, ge4, ge256, ge306, ge45, ge2, ge6] at *); grind))]; exact K
      · refine E_iconst (v := nI 1) dX11_isItem_21 (by decide) ?_
        refine E_goto (tgt := 26) dX11_isItem_22 (by decide) ?_
        refine E_iret dX11_isItem_26 (Or.inr ⟨rfl, by decide⟩) ?_
        rw [← b2i_t (P := iItem v) (by ((try simp only [ltI, ge0, ge3, ge12, ge4, ge256, ge306, ge45, ge2, ge6] at *); grind))]; exact K
set_option maxRecDepth 100000 in
set_option maxHeartbeats 4000000 in
theorem sp_X11_isSign {g : gG} {M : gM} {Q : Option Value ⊕ String → gM → Prop} {s : Int32}  (K : Q (.inl (some (.int (b2i (iSign s))))) M) : E g 1 0 0 mX11_isSign 0 [.int s] [] M Q := by
  refine E_iload_n dX11_isSign_0 rfl ?_
  refine E_if_lt (tgt := 10) dX11_isSign_1 (by decide) (fun c_1 => ?_) (fun c_1 => ?_)
  · refine E_iload_n dX11_isSign_10 rfl ?_
    refine E_bipush (v := nI 30) dX11_isSign_11 (by decide) ?_
    refine E_icmp_lt (tgt := 26) dX11_isSign_13 (by decide) (fun c_13 => ?_) (fun c_13 => ?_)
    · refine E_iconst (v := nI 0) dX11_isSign_26 (by decide) ?_
      refine E_iret dX11_isSign_27 (Or.inr ⟨rfl, by decide⟩) ?_
      rw [← b2i_f (P := iSign s) (by ((try simp only [ltI, ge0, ge3, ge12, ge4, ge256, ge306, ge45, ge2, ge6] at *); grind))]; exact K
    · refine E_iload_n dX11_isSign_16 rfl ?_
      refine E_bipush (v := nI 45) dX11_isSign_17 (by decide) ?_
      refine E_icmp_ge (tgt := 26) dX11_isSign_19 (by decide) (fun c_19 => ?_) (fun c_19 => ?_)
      · refine E_iconst (v := nI 0) dX11_isSign_26 (by decide) ?_
        refine E_iret dX11_isSign_27 (Or.inr ⟨rfl, by decide⟩) ?_
        rw [← b2i_f (P := iSign s) (by ((try simp only [ltI, ge0, ge3, ge12, ge4, ge256, ge306, ge45, ge2, ge6] at *); grind))]; exact K
      · refine E_iconst (v := nI 1) dX11_isSign_22 (by decide) ?_
        refine E_goto (tgt := 27) dX11_isSign_23 (by decide) ?_
        refine E_iret dX11_isSign_27 (Or.inr ⟨rfl, by decide⟩) ?_
        rw [← b2i_t (P := iSign s) (by ((try simp only [ltI, ge0, ge3, ge12, ge4, ge256, ge306, ge45, ge2, ge6] at *); grind))]; exact K
  · refine E_iload_n dX11_isSign_4 rfl ?_
    refine E_bipush (v := nI 23) dX11_isSign_5 (by decide) ?_
    refine E_icmp_le (tgt := 22) dX11_isSign_7 (by decide) (fun c_7 => ?_) (fun c_7 => ?_)
    · refine E_iconst (v := nI 1) dX11_isSign_22 (by decide) ?_
      refine E_goto (tgt := 27) dX11_isSign_23 (by decide) ?_
      refine E_iret dX11_isSign_27 (Or.inr ⟨rfl, by decide⟩) ?_
      rw [← b2i_t (P := iSign s) (by ((try simp only [ltI, ge0, ge3, ge12, ge4, ge256, ge306, ge45, ge2, ge6] at *); grind))]; exact K
    · refine E_iload_n dX11_isSign_10 rfl ?_
      refine E_bipush (v := nI 30) dX11_isSign_11 (by decide) ?_
      refine E_icmp_lt (tgt := 26) dX11_isSign_13 (by decide) (fun c_13 => ?_) (fun c_13 => ?_)
      · refine E_iconst (v := nI 0) dX11_isSign_26 (by decide) ?_
        refine E_iret dX11_isSign_27 (Or.inr ⟨rfl, by decide⟩) ?_
        rw [← b2i_f (P := iSign s) (by ((try simp only [ltI, ge0, ge3, ge12, ge4, ge256, ge306, ge45, ge2, ge6] at *); grind))]; exact K
      · refine E_iload_n dX11_isSign_16 rfl ?_
        refine E_bipush (v := nI 45) dX11_isSign_17 (by decide) ?_
        refine E_icmp_ge (tgt := 26) dX11_isSign_19 (by decide) (fun c_19 => ?_) (fun c_19 => ?_)
        · refine E_iconst (v := nI 0) dX11_isSign_26 (by decide) ?_
          refine E_iret dX11_isSign_27 (Or.inr ⟨rfl, by decide⟩) ?_
          rw [← b2i_f (P := iSign s) (by ((try simp only [ltI, ge0, ge3, ge12, ge4, ge256, ge306, ge45, ge2, ge6] at *); grind))]; exact K
        · refine E_iconst (v := nI 1) dX11_isSign_22 (by decide) ?_
          refine E_goto (tgt := 27) dX11_isSign_23 (by decide) ?_
          refine E_iret dX11_isSign_27 (Or.inr ⟨rfl, by decide⟩) ?_
          rw [← b2i_t (P := iSign s) (by ((try simp only [ltI, ge0, ge3, ge12, ge4, ge256, ge306, ge45, ge2, ge6] at *); grind))]; exact K
set_option maxRecDepth 100000 in
set_option maxHeartbeats 4000000 in
theorem sp_X4_isItemOrNone {g : gG} {M : gM} {Q : Option Value ⊕ String → gM → Prop} {v : Int32}  (K : Q (.inl (some (.int (b2i (iItemN v))))) M) : E g 3 0 0 mX4_isItemOrNone 0 [.int v] [] M Q := by
  refine E_iload_n dX4_isItemOrNone_0 rfl ?_
  refine E_bipush (v := -100) dX4_isItemOrNone_1 (by decide) ?_
  refine E_icmp_eq (tgt := 13) dX4_isItemOrNone_3 (by decide) (fun c_3 => ?_) (fun c_3 => ?_)
  · refine E_iconst (v := nI 1) dX4_isItemOrNone_13 (by decide) ?_
    refine E_goto (tgt := 18) dX4_isItemOrNone_14 (by decide) ?_
    refine E_iret dX4_isItemOrNone_18 (Or.inr ⟨rfl, by decide⟩) ?_
    rw [← b2i_t (P := iItemN v) (by ((try simp only [ltI, ge0, ge3, ge12, ge4, ge256, ge306, ge45, ge2, ge6] at *); grind))]; exact K
  · refine E_iload_n dX4_isItemOrNone_6 rfl ?_
    refine E_callS1 (fr' := 2) (k1 := 0) (n1 := 0) (k2 := 0) (n2 := 0) dX4_isItemOrNone_7 kO_X11_isItem kL_X4_42 rfl (by decide) (by decide) (by exact Nat.le_of_ble_eq_true rfl) (Or.inl rfl) rfl ?_
    refine sp_X11_isItem ?_
    refine gKv ?_
    refine E_if_eq_b (tgt := 17) dX4_isItemOrNone_10 (by decide) (fun c_10 => ?_) (fun c_10 => ?_)
    · refine E_iconst (v := nI 0) dX4_isItemOrNone_17 (by decide) ?_
      refine E_iret dX4_isItemOrNone_18 (Or.inr ⟨rfl, by decide⟩) ?_
      rw [← b2i_f (P := iItemN v) (by ((try simp only [ltI, ge0, ge3, ge12, ge4, ge256, ge306, ge45, ge2, ge6] at *); grind))]; exact K
    · refine E_iconst (v := nI 1) dX4_isItemOrNone_13 (by decide) ?_
      refine E_goto (tgt := 18) dX4_isItemOrNone_14 (by decide) ?_
      refine E_iret dX4_isItemOrNone_18 (Or.inr ⟨rfl, by decide⟩) ?_
      rw [← b2i_t (P := iItemN v) (by ((try simp only [ltI, ge0, ge3, ge12, ge4, ge256, ge306, ge45, ge2, ge6] at *); grind))]; exact K
set_option maxRecDepth 100000 in
set_option maxHeartbeats 4000000 in
theorem sp_X4_isStep {g : gG} {M : gM} {Q : Option Value ⊕ String → gM → Prop} {v : Int32}  (K : Q (.inl (some (.int (b2i (iFar v))))) M) : E g 1 0 0 mX4_isStep 0 [.int v] [] M Q := by
  refine E_iload_n dX4_isStep_0 rfl ?_
  refine E_bipush (v := -50) dX4_isStep_1 (by decide) ?_
  refine E_icmp_lt (tgt := 16) dX4_isStep_3 (by decide) (fun c_3 => ?_) (fun c_3 => ?_)
  · refine E_iconst (v := nI 0) dX4_isStep_16 (by decide) ?_
    refine E_iret dX4_isStep_17 (Or.inr ⟨rfl, by decide⟩) ?_
    rw [← b2i_f (P := iFar v) (by ((try simp only [ltI, ge0, ge3, ge12, ge4, ge256, ge306, ge45, ge2, ge6] at *); grind))]; exact K
  · refine E_iload_n dX4_isStep_6 rfl ?_
    refine E_bipush (v := nI 50) dX4_isStep_7 (by decide) ?_
    refine E_icmp_gt (tgt := 16) dX4_isStep_9 (by decide) (fun c_9 => ?_) (fun c_9 => ?_)
    · refine E_iconst (v := nI 0) dX4_isStep_16 (by decide) ?_
      refine E_iret dX4_isStep_17 (Or.inr ⟨rfl, by decide⟩) ?_
      rw [← b2i_f (P := iFar v) (by ((try simp only [ltI, ge0, ge3, ge12, ge4, ge256, ge306, ge45, ge2, ge6] at *); grind))]; exact K
    · refine E_iconst (v := nI 1) dX4_isStep_12 (by decide) ?_
      refine E_goto (tgt := 17) dX4_isStep_13 (by decide) ?_
      refine E_iret dX4_isStep_17 (Or.inr ⟨rfl, by decide⟩) ?_
      rw [← b2i_t (P := iFar v) (by ((try simp only [ltI, ge0, ge3, ge12, ge4, ge256, ge306, ge45, ge2, ge6] at *); grind))]; exact K
set_option maxRecDepth 100000 in
set_option maxHeartbeats 4000000 in
theorem sp_X4_isClass {g : gG} {M : gM} {Q : Option Value ⊕ String → gM → Prop} {v : Int32}  (K : Q (.inl (some (.int (b2i (iClass v))))) M) : E g 1 0 0 mX4_isClass 0 [.int v] [] M Q := by
  refine E_iload_n dX4_isClass_0 rfl ?_
  refine E_if_lt (tgt := 13) dX4_isClass_1 (by decide) (fun c_1 => ?_) (fun c_1 => ?_)
  · refine E_iconst (v := nI 0) dX4_isClass_13 (by decide) ?_
    refine E_iret dX4_isClass_14 (Or.inr ⟨rfl, by decide⟩) ?_
    rw [← b2i_f (P := iClass v) (by ((try simp only [ltI, ge0, ge3, ge12, ge4, ge256, ge306, ge45, ge2, ge6] at *); grind))]; exact K
  · refine E_iload_n dX4_isClass_4 rfl ?_
    refine E_iconst (v := nI 4) dX4_isClass_5 (by decide) ?_
    refine E_icmp_ge (tgt := 13) dX4_isClass_6 (by decide) (fun c_6 => ?_) (fun c_6 => ?_)
    · refine E_iconst (v := nI 0) dX4_isClass_13 (by decide) ?_
      refine E_iret dX4_isClass_14 (Or.inr ⟨rfl, by decide⟩) ?_
      rw [← b2i_f (P := iClass v) (by ((try simp only [ltI, ge0, ge3, ge12, ge4, ge256, ge306, ge45, ge2, ge6] at *); grind))]; exact K
    · refine E_iconst (v := nI 1) dX4_isClass_9 (by decide) ?_
      refine E_goto (tgt := 14) dX4_isClass_10 (by decide) ?_
      refine E_iret dX4_isClass_14 (Or.inr ⟨rfl, by decide⟩) ?_
      rw [← b2i_t (P := iClass v) (by ((try simp only [ltI, ge0, ge3, ge12, ge4, ge256, ge306, ge45, ge2, ge6] at *); grind))]; exact K
set_option maxRecDepth 100000 in
set_option maxHeartbeats 4000000 in
theorem sp_X4_accepts0 {g : gG} {M : gM} {Q : Option Value ⊕ String → gM → Prop} {p : Nat} (hp : p < mN M) (hk : mK M p = (4, 0)) (hv : mI M p 0 = nI 0) {a b c d e f : Int32} (K : Q (.inl (some (.int (b2i ((iItem a ∧ iGlyph b ∧ c = 0 ∧ d = 0) ∧ e = 0 ∧ f = 0))))) M) : E g 4 0 0 mX4_accepts 0 [.ref (p + 1), .int a, .int b, .int c, .int d, .int e, .int f] [] M Q := by
  refine E_aload_n dX4_accepts_0 rfl ?_
  refine E_getIL (v := nI 0) dX4_accepts_1 kF_X4_24 kY_4 (Or.inl rfl) (hp) (hk) hv ?_
  refine E_swIn (off := 52) (tgt := 56) dX4_accepts_4 (by decide) (by decide) (by decide) (by decide) ?_
  refine E_iload_n dX4_accepts_56 rfl ?_
  refine E_callS1 (fr' := 2) (k1 := 0) (n1 := 0) (k2 := 0) (n2 := 0) dX4_accepts_57 kO_X11_isItem kL_X4_42 rfl (by decide) (by decide) (by exact Nat.le_of_ble_eq_true rfl) (Or.inl rfl) rfl ?_
  refine sp_X11_isItem ?_
  refine gKv ?_
  refine E_if_eq_b (tgt := 93) dX4_accepts_60 (by decide) (fun c_60 => ?_) (fun c_60 => ?_)
  · refine E_iconst (v := nI 0) dX4_accepts_93 (by decide) ?_
    refine E_iret dX4_accepts_94 (Or.inr ⟨rfl, by decide⟩) ?_
    rw [← b2i_f (P := (iItem a ∧ iGlyph b ∧ c = 0 ∧ d = 0) ∧ e = 0 ∧ f = 0) (by ((try simp only [ltI, ge0, ge3, ge12, ge4, ge256, ge306, ge45, ge2, ge6] at *); grind))]; exact K
  · refine E_iload_n dX4_accepts_63 rfl ?_
    refine E_callS1 (fr' := 1) (k1 := 0) (n1 := 0) (k2 := 0) (n2 := 0) dX4_accepts_64 kO_X11_isGlyph kL_X4_46 rfl (by decide) (by decide) (by exact Nat.le_of_ble_eq_true rfl) (Or.inl rfl) rfl ?_
    refine sp_X11_isGlyph ?_
    refine gKv ?_
    refine E_if_eq_b (tgt := 93) dX4_accepts_67 (by decide) (fun c_67 => ?_) (fun c_67 => ?_)
    · refine E_iconst (v := nI 0) dX4_accepts_93 (by decide) ?_
      refine E_iret dX4_accepts_94 (Or.inr ⟨rfl, by decide⟩) ?_
      rw [← b2i_f (P := (iItem a ∧ iGlyph b ∧ c = 0 ∧ d = 0) ∧ e = 0 ∧ f = 0) (by ((try simp only [ltI, ge0, ge3, ge12, ge4, ge256, ge306, ge45, ge2, ge6] at *); grind))]; exact K
    · refine E_iload_n dX4_accepts_70 rfl ?_
      refine E_if_ne (tgt := 93) dX4_accepts_71 (by decide) (fun c_71 => ?_) (fun c_71 => ?_)
      · refine E_iconst (v := nI 0) dX4_accepts_93 (by decide) ?_
        refine E_iret dX4_accepts_94 (Or.inr ⟨rfl, by decide⟩) ?_
        rw [← b2i_f (P := (iItem a ∧ iGlyph b ∧ c = 0 ∧ d = 0) ∧ e = 0 ∧ f = 0) (by ((try simp only [ltI, ge0, ge3, ge12, ge4, ge256, ge306, ge45, ge2, ge6] at *); grind))]; exact K
      · refine E_iload dX4_accepts_74 rfl ?_
        refine E_if_ne (tgt := 93) dX4_accepts_76 (by decide) (fun c_76 => ?_) (fun c_76 => ?_)
        · refine E_iconst (v := nI 0) dX4_accepts_93 (by decide) ?_
          refine E_iret dX4_accepts_94 (Or.inr ⟨rfl, by decide⟩) ?_
          rw [← b2i_f (P := (iItem a ∧ iGlyph b ∧ c = 0 ∧ d = 0) ∧ e = 0 ∧ f = 0) (by ((try simp only [ltI, ge0, ge3, ge12, ge4, ge256, ge306, ge45, ge2, ge6] at *); grind))]; exact K
        · refine E_iload dX4_accepts_79 rfl ?_
          refine E_if_ne (tgt := 93) dX4_accepts_81 (by decide) (fun c_81 => ?_) (fun c_81 => ?_)
          · refine E_iconst (v := nI 0) dX4_accepts_93 (by decide) ?_
            refine E_iret dX4_accepts_94 (Or.inr ⟨rfl, by decide⟩) ?_
            rw [← b2i_f (P := (iItem a ∧ iGlyph b ∧ c = 0 ∧ d = 0) ∧ e = 0 ∧ f = 0) (by ((try simp only [ltI, ge0, ge3, ge12, ge4, ge256, ge306, ge45, ge2, ge6] at *); grind))]; exact K
          · refine E_iload dX4_accepts_84 rfl ?_
            refine E_if_ne (tgt := 93) dX4_accepts_86 (by decide) (fun c_86 => ?_) (fun c_86 => ?_)
            · refine E_iconst (v := nI 0) dX4_accepts_93 (by decide) ?_
              refine E_iret dX4_accepts_94 (Or.inr ⟨rfl, by decide⟩) ?_
              rw [← b2i_f (P := (iItem a ∧ iGlyph b ∧ c = 0 ∧ d = 0) ∧ e = 0 ∧ f = 0) (by ((try simp only [ltI, ge0, ge3, ge12, ge4, ge256, ge306, ge45, ge2, ge6] at *); grind))]; exact K
            · refine E_iconst (v := nI 1) dX4_accepts_89 (by decide) ?_
              refine E_goto (tgt := 94) dX4_accepts_90 (by decide) ?_
              refine E_iret dX4_accepts_94 (Or.inr ⟨rfl, by decide⟩) ?_
              rw [← b2i_t (P := (iItem a ∧ iGlyph b ∧ c = 0 ∧ d = 0) ∧ e = 0 ∧ f = 0) (by ((try simp only [ltI, ge0, ge3, ge12, ge4, ge256, ge306, ge45, ge2, ge6] at *); grind))]; exact K
set_option maxRecDepth 100000 in
set_option maxHeartbeats 4000000 in
theorem sp_X4_accepts1 {g : gG} {M : gM} {Q : Option Value ⊕ String → gM → Prop} {p : Nat} (hp : p < mN M) (hk : mK M p = (4, 0)) (hv : mI M p 0 = nI 1) {a b c d e f : Int32} (K : Q (.inl (some (.int (b2i ((iItem a ∧ iGlyph b ∧ iGlyph c ∧ iGlyphN d) ∧ e = 0 ∧ f = 0))))) M) : E g 4 0 0 mX4_accepts 0 [.ref (p + 1), .int a, .int b, .int c, .int d, .int e, .int f] [] M Q := by
  refine E_aload_n dX4_accepts_0 rfl ?_
  refine E_getIL (v := nI 1) dX4_accepts_1 kF_X4_24 kY_4 (Or.inl rfl) (hp) (hk) hv ?_
  refine E_swIn (off := 91) (tgt := 95) dX4_accepts_4 (by decide) (by decide) (by decide) (by decide) ?_
  refine E_iload_n dX4_accepts_95 rfl ?_
  refine E_callS1 (fr' := 2) (k1 := 0) (n1 := 0) (k2 := 0) (n2 := 0) dX4_accepts_96 kO_X11_isItem kL_X4_42 rfl (by decide) (by decide) (by exact Nat.le_of_ble_eq_true rfl) (Or.inl rfl) rfl ?_
  refine sp_X11_isItem ?_
  refine gKv ?_
  refine E_if_eq_b (tgt := 145) dX4_accepts_99 (by decide) (fun c_99 => ?_) (fun c_99 => ?_)
  · refine E_iconst (v := nI 0) dX4_accepts_145 (by decide) ?_
    refine E_iret dX4_accepts_146 (Or.inr ⟨rfl, by decide⟩) ?_
    rw [← b2i_f (P := (iItem a ∧ iGlyph b ∧ iGlyph c ∧ iGlyphN d) ∧ e = 0 ∧ f = 0) (by ((try simp only [ltI, ge0, ge3, ge12, ge4, ge256, ge306, ge45, ge2, ge6] at *); grind))]; exact K
  · refine E_iload_n dX4_accepts_102 rfl ?_
    refine E_callS1 (fr' := 1) (k1 := 0) (n1 := 0) (k2 := 0) (n2 := 0) dX4_accepts_103 kO_X11_isGlyph kL_X4_46 rfl (by decide) (by decide) (by exact Nat.le_of_ble_eq_true rfl) (Or.inl rfl) rfl ?_
    refine sp_X11_isGlyph ?_
    refine gKv ?_
    refine E_if_eq_b (tgt := 145) dX4_accepts_106 (by decide) (fun c_106 => ?_) (fun c_106 => ?_)
    · refine E_iconst (v := nI 0) dX4_accepts_145 (by decide) ?_
      refine E_iret dX4_accepts_146 (Or.inr ⟨rfl, by decide⟩) ?_
      rw [← b2i_f (P := (iItem a ∧ iGlyph b ∧ iGlyph c ∧ iGlyphN d) ∧ e = 0 ∧ f = 0) (by ((try simp only [ltI, ge0, ge3, ge12, ge4, ge256, ge306, ge45, ge2, ge6] at *); grind))]; exact K
    · refine E_iload_n dX4_accepts_109 rfl ?_
      refine E_callS1 (fr' := 1) (k1 := 0) (n1 := 0) (k2 := 0) (n2 := 0) dX4_accepts_110 kO_X11_isGlyph kL_X4_46 rfl (by decide) (by decide) (by exact Nat.le_of_ble_eq_true rfl) (Or.inl rfl) rfl ?_
      refine sp_X11_isGlyph ?_
      refine gKv ?_
      refine E_if_eq_b (tgt := 145) dX4_accepts_113 (by decide) (fun c_113 => ?_) (fun c_113 => ?_)
      · refine E_iconst (v := nI 0) dX4_accepts_145 (by decide) ?_
        refine E_iret dX4_accepts_146 (Or.inr ⟨rfl, by decide⟩) ?_
        rw [← b2i_f (P := (iItem a ∧ iGlyph b ∧ iGlyph c ∧ iGlyphN d) ∧ e = 0 ∧ f = 0) (by ((try simp only [ltI, ge0, ge3, ge12, ge4, ge256, ge306, ge45, ge2, ge6] at *); grind))]; exact K
      · refine E_iload dX4_accepts_116 rfl ?_
        refine E_bipush (v := -100) dX4_accepts_118 (by decide) ?_
        refine E_icmp_eq (tgt := 131) dX4_accepts_120 (by decide) (fun c_120 => ?_) (fun c_120 => ?_)
        · refine E_iload dX4_accepts_131 rfl ?_
          refine E_if_ne (tgt := 145) dX4_accepts_133 (by decide) (fun c_133 => ?_) (fun c_133 => ?_)
          · refine E_iconst (v := nI 0) dX4_accepts_145 (by decide) ?_
            refine E_iret dX4_accepts_146 (Or.inr ⟨rfl, by decide⟩) ?_
            rw [← b2i_f (P := (iItem a ∧ iGlyph b ∧ iGlyph c ∧ iGlyphN d) ∧ e = 0 ∧ f = 0) (by ((try simp only [ltI, ge0, ge3, ge12, ge4, ge256, ge306, ge45, ge2, ge6] at *); grind))]; exact K
          · refine E_iload dX4_accepts_136 rfl ?_
            refine E_if_ne (tgt := 145) dX4_accepts_138 (by decide) (fun c_138 => ?_) (fun c_138 => ?_)
            · refine E_iconst (v := nI 0) dX4_accepts_145 (by decide) ?_
              refine E_iret dX4_accepts_146 (Or.inr ⟨rfl, by decide⟩) ?_
              rw [← b2i_f (P := (iItem a ∧ iGlyph b ∧ iGlyph c ∧ iGlyphN d) ∧ e = 0 ∧ f = 0) (by ((try simp only [ltI, ge0, ge3, ge12, ge4, ge256, ge306, ge45, ge2, ge6] at *); grind))]; exact K
            · refine E_iconst (v := nI 1) dX4_accepts_141 (by decide) ?_
              refine E_goto (tgt := 146) dX4_accepts_142 (by decide) ?_
              refine E_iret dX4_accepts_146 (Or.inr ⟨rfl, by decide⟩) ?_
              rw [← b2i_t (P := (iItem a ∧ iGlyph b ∧ iGlyph c ∧ iGlyphN d) ∧ e = 0 ∧ f = 0) (by ((try simp only [ltI, ge0, ge3, ge12, ge4, ge256, ge306, ge45, ge2, ge6] at *); grind))]; exact K
        · refine E_iload dX4_accepts_123 rfl ?_
          refine E_callS1 (fr' := 1) (k1 := 0) (n1 := 0) (k2 := 0) (n2 := 0) dX4_accepts_125 kO_X11_isGlyph kL_X4_46 rfl (by decide) (by decide) (by exact Nat.le_of_ble_eq_true rfl) (Or.inl rfl) rfl ?_
          refine sp_X11_isGlyph ?_
          refine gKv ?_
          refine E_if_eq_b (tgt := 145) dX4_accepts_128 (by decide) (fun c_128 => ?_) (fun c_128 => ?_)
          · refine E_iconst (v := nI 0) dX4_accepts_145 (by decide) ?_
            refine E_iret dX4_accepts_146 (Or.inr ⟨rfl, by decide⟩) ?_
            rw [← b2i_f (P := (iItem a ∧ iGlyph b ∧ iGlyph c ∧ iGlyphN d) ∧ e = 0 ∧ f = 0) (by ((try simp only [ltI, ge0, ge3, ge12, ge4, ge256, ge306, ge45, ge2, ge6] at *); grind))]; exact K
          · refine E_iload dX4_accepts_131 rfl ?_
            refine E_if_ne (tgt := 145) dX4_accepts_133 (by decide) (fun c_133 => ?_) (fun c_133 => ?_)
            · refine E_iconst (v := nI 0) dX4_accepts_145 (by decide) ?_
              refine E_iret dX4_accepts_146 (Or.inr ⟨rfl, by decide⟩) ?_
              rw [← b2i_f (P := (iItem a ∧ iGlyph b ∧ iGlyph c ∧ iGlyphN d) ∧ e = 0 ∧ f = 0) (by ((try simp only [ltI, ge0, ge3, ge12, ge4, ge256, ge306, ge45, ge2, ge6] at *); grind))]; exact K
            · refine E_iload dX4_accepts_136 rfl ?_
              refine E_if_ne (tgt := 145) dX4_accepts_138 (by decide) (fun c_138 => ?_) (fun c_138 => ?_)
              · refine E_iconst (v := nI 0) dX4_accepts_145 (by decide) ?_
                refine E_iret dX4_accepts_146 (Or.inr ⟨rfl, by decide⟩) ?_
                rw [← b2i_f (P := (iItem a ∧ iGlyph b ∧ iGlyph c ∧ iGlyphN d) ∧ e = 0 ∧ f = 0) (by ((try simp only [ltI, ge0, ge3, ge12, ge4, ge256, ge306, ge45, ge2, ge6] at *); grind))]; exact K
              · refine E_iconst (v := nI 1) dX4_accepts_141 (by decide) ?_
                refine E_goto (tgt := 146) dX4_accepts_142 (by decide) ?_
                refine E_iret dX4_accepts_146 (Or.inr ⟨rfl, by decide⟩) ?_
                rw [← b2i_t (P := (iItem a ∧ iGlyph b ∧ iGlyph c ∧ iGlyphN d) ∧ e = 0 ∧ f = 0) (by ((try simp only [ltI, ge0, ge3, ge12, ge4, ge256, ge306, ge45, ge2, ge6] at *); grind))]; exact K
set_option maxRecDepth 100000 in
set_option maxHeartbeats 4000000 in
theorem sp_X4_accepts2 {g : gG} {M : gM} {Q : Option Value ⊕ String → gM → Prop} {p : Nat} (hp : p < mN M) (hk : mK M p = (4, 0)) (hv : mI M p 0 = nI 2) {a b c d e f : Int32} (K : Q (.inl (some (.int (b2i ((iItem a ∧ iGlyph b ∧ iGlyph c ∧ iGlyph d) ∧ e = 0 ∧ f = 0))))) M) : E g 4 0 0 mX4_accepts 0 [.ref (p + 1), .int a, .int b, .int c, .int d, .int e, .int f] [] M Q := by
  refine E_aload_n dX4_accepts_0 rfl ?_
  refine E_getIL (v := nI 2) dX4_accepts_1 kF_X4_24 kY_4 (Or.inl rfl) (hp) (hk) hv ?_
  refine E_swIn (off := 143) (tgt := 147) dX4_accepts_4 (by decide) (by decide) (by decide) (by decide) ?_
  refine E_iload_n dX4_accepts_147 rfl ?_
  refine E_callS1 (fr' := 2) (k1 := 0) (n1 := 0) (k2 := 0) (n2 := 0) dX4_accepts_148 kO_X11_isItem kL_X4_42 rfl (by decide) (by decide) (by exact Nat.le_of_ble_eq_true rfl) (Or.inl rfl) rfl ?_
  refine sp_X11_isItem ?_
  refine gKv ?_
  refine E_if_eq_b (tgt := 190) dX4_accepts_151 (by decide) (fun c_151 => ?_) (fun c_151 => ?_)
  · refine E_iconst (v := nI 0) dX4_accepts_190 (by decide) ?_
    refine E_iret dX4_accepts_191 (Or.inr ⟨rfl, by decide⟩) ?_
    rw [← b2i_f (P := (iItem a ∧ iGlyph b ∧ iGlyph c ∧ iGlyph d) ∧ e = 0 ∧ f = 0) (by ((try simp only [ltI, ge0, ge3, ge12, ge4, ge256, ge306, ge45, ge2, ge6] at *); grind))]; exact K
  · refine E_iload_n dX4_accepts_154 rfl ?_
    refine E_callS1 (fr' := 1) (k1 := 0) (n1 := 0) (k2 := 0) (n2 := 0) dX4_accepts_155 kO_X11_isGlyph kL_X4_46 rfl (by decide) (by decide) (by exact Nat.le_of_ble_eq_true rfl) (Or.inl rfl) rfl ?_
    refine sp_X11_isGlyph ?_
    refine gKv ?_
    refine E_if_eq_b (tgt := 190) dX4_accepts_158 (by decide) (fun c_158 => ?_) (fun c_158 => ?_)
    · refine E_iconst (v := nI 0) dX4_accepts_190 (by decide) ?_
      refine E_iret dX4_accepts_191 (Or.inr ⟨rfl, by decide⟩) ?_
      rw [← b2i_f (P := (iItem a ∧ iGlyph b ∧ iGlyph c ∧ iGlyph d) ∧ e = 0 ∧ f = 0) (by ((try simp only [ltI, ge0, ge3, ge12, ge4, ge256, ge306, ge45, ge2, ge6] at *); grind))]; exact K
    · refine E_iload_n dX4_accepts_161 rfl ?_
      refine E_callS1 (fr' := 1) (k1 := 0) (n1 := 0) (k2 := 0) (n2 := 0) dX4_accepts_162 kO_X11_isGlyph kL_X4_46 rfl (by decide) (by decide) (by exact Nat.le_of_ble_eq_true rfl) (Or.inl rfl) rfl ?_
      refine sp_X11_isGlyph ?_
      refine gKv ?_
      refine E_if_eq_b (tgt := 190) dX4_accepts_165 (by decide) (fun c_165 => ?_) (fun c_165 => ?_)
      · refine E_iconst (v := nI 0) dX4_accepts_190 (by decide) ?_
        refine E_iret dX4_accepts_191 (Or.inr ⟨rfl, by decide⟩) ?_
        rw [← b2i_f (P := (iItem a ∧ iGlyph b ∧ iGlyph c ∧ iGlyph d) ∧ e = 0 ∧ f = 0) (by ((try simp only [ltI, ge0, ge3, ge12, ge4, ge256, ge306, ge45, ge2, ge6] at *); grind))]; exact K
      · refine E_iload dX4_accepts_168 rfl ?_
        refine E_callS1 (fr' := 1) (k1 := 0) (n1 := 0) (k2 := 0) (n2 := 0) dX4_accepts_170 kO_X11_isGlyph kL_X4_46 rfl (by decide) (by decide) (by exact Nat.le_of_ble_eq_true rfl) (Or.inl rfl) rfl ?_
        refine sp_X11_isGlyph ?_
        refine gKv ?_
        refine E_if_eq_b (tgt := 190) dX4_accepts_173 (by decide) (fun c_173 => ?_) (fun c_173 => ?_)
        · refine E_iconst (v := nI 0) dX4_accepts_190 (by decide) ?_
          refine E_iret dX4_accepts_191 (Or.inr ⟨rfl, by decide⟩) ?_
          rw [← b2i_f (P := (iItem a ∧ iGlyph b ∧ iGlyph c ∧ iGlyph d) ∧ e = 0 ∧ f = 0) (by ((try simp only [ltI, ge0, ge3, ge12, ge4, ge256, ge306, ge45, ge2, ge6] at *); grind))]; exact K
        · refine E_iload dX4_accepts_176 rfl ?_
          refine E_if_ne (tgt := 190) dX4_accepts_178 (by decide) (fun c_178 => ?_) (fun c_178 => ?_)
          · refine E_iconst (v := nI 0) dX4_accepts_190 (by decide) ?_
            refine E_iret dX4_accepts_191 (Or.inr ⟨rfl, by decide⟩) ?_
            rw [← b2i_f (P := (iItem a ∧ iGlyph b ∧ iGlyph c ∧ iGlyph d) ∧ e = 0 ∧ f = 0) (by ((try simp only [ltI, ge0, ge3, ge12, ge4, ge256, ge306, ge45, ge2, ge6] at *); grind))]; exact K
          · refine E_iload dX4_accepts_181 rfl ?_
            refine E_if_ne (tgt := 190) dX4_accepts_183 (by decide) (fun c_183 => ?_) (fun c_183 => ?_)
            · refine E_iconst (v := nI 0) dX4_accepts_190 (by decide) ?_
              refine E_iret dX4_accepts_191 (Or.inr ⟨rfl, by decide⟩) ?_
              rw [← b2i_f (P := (iItem a ∧ iGlyph b ∧ iGlyph c ∧ iGlyph d) ∧ e = 0 ∧ f = 0) (by ((try simp only [ltI, ge0, ge3, ge12, ge4, ge256, ge306, ge45, ge2, ge6] at *); grind))]; exact K
            · refine E_iconst (v := nI 1) dX4_accepts_186 (by decide) ?_
              refine E_goto (tgt := 191) dX4_accepts_187 (by decide) ?_
              refine E_iret dX4_accepts_191 (Or.inr ⟨rfl, by decide⟩) ?_
              rw [← b2i_t (P := (iItem a ∧ iGlyph b ∧ iGlyph c ∧ iGlyph d) ∧ e = 0 ∧ f = 0) (by ((try simp only [ltI, ge0, ge3, ge12, ge4, ge256, ge306, ge45, ge2, ge6] at *); grind))]; exact K
set_option maxRecDepth 100000 in
set_option maxHeartbeats 4000000 in
theorem sp_X4_accepts3 {g : gG} {M : gM} {Q : Option Value ⊕ String → gM → Prop} {p : Nat} (hp : p < mN M) (hk : mK M p = (4, 0)) (hv : mI M p 0 = nI 3) {a b c d e f : Int32} (K : Q (.inl (some (.int (b2i ((iItem a ∧ iItem b ∧ iItemN c ∧ iGlyph d) ∧ e = 0 ∧ f = 0))))) M) : E g 4 0 0 mX4_accepts 0 [.ref (p + 1), .int a, .int b, .int c, .int d, .int e, .int f] [] M Q := by
  refine E_aload_n dX4_accepts_0 rfl ?_
  refine E_getIL (v := nI 3) dX4_accepts_1 kF_X4_24 kY_4 (Or.inl rfl) (hp) (hk) hv ?_
  refine E_swIn (off := 188) (tgt := 192) dX4_accepts_4 (by decide) (by decide) (by decide) (by decide) ?_
  refine E_iload_n dX4_accepts_192 rfl ?_
  refine E_callS1 (fr' := 2) (k1 := 0) (n1 := 0) (k2 := 0) (n2 := 0) dX4_accepts_193 kO_X11_isItem kL_X4_42 rfl (by decide) (by decide) (by exact Nat.le_of_ble_eq_true rfl) (Or.inl rfl) rfl ?_
  refine sp_X11_isItem ?_
  refine gKv ?_
  refine E_if_eq_b (tgt := 235) dX4_accepts_196 (by decide) (fun c_196 => ?_) (fun c_196 => ?_)
  · refine E_iconst (v := nI 0) dX4_accepts_235 (by decide) ?_
    refine E_iret dX4_accepts_236 (Or.inr ⟨rfl, by decide⟩) ?_
    rw [← b2i_f (P := (iItem a ∧ iItem b ∧ iItemN c ∧ iGlyph d) ∧ e = 0 ∧ f = 0) (by ((try simp only [ltI, ge0, ge3, ge12, ge4, ge256, ge306, ge45, ge2, ge6] at *); grind))]; exact K
  · refine E_iload_n dX4_accepts_199 rfl ?_
    refine E_callS1 (fr' := 2) (k1 := 0) (n1 := 0) (k2 := 0) (n2 := 0) dX4_accepts_200 kO_X11_isItem kL_X4_42 rfl (by decide) (by decide) (by exact Nat.le_of_ble_eq_true rfl) (Or.inl rfl) rfl ?_
    refine sp_X11_isItem ?_
    refine gKv ?_
    refine E_if_eq_b (tgt := 235) dX4_accepts_203 (by decide) (fun c_203 => ?_) (fun c_203 => ?_)
    · refine E_iconst (v := nI 0) dX4_accepts_235 (by decide) ?_
      refine E_iret dX4_accepts_236 (Or.inr ⟨rfl, by decide⟩) ?_
      rw [← b2i_f (P := (iItem a ∧ iItem b ∧ iItemN c ∧ iGlyph d) ∧ e = 0 ∧ f = 0) (by ((try simp only [ltI, ge0, ge3, ge12, ge4, ge256, ge306, ge45, ge2, ge6] at *); grind))]; exact K
    · refine E_iload_n dX4_accepts_206 rfl ?_
      refine E_callS1 (fr' := 3) (k1 := 0) (n1 := 0) (k2 := 0) (n2 := 0) dX4_accepts_207 kO_X4_isItemOrNone kL_X4_49 rfl (by decide) (by decide) (by exact Nat.le_of_ble_eq_true rfl) (Or.inl rfl) rfl ?_
      refine sp_X4_isItemOrNone ?_
      refine gKv ?_
      refine E_if_eq_b (tgt := 235) dX4_accepts_210 (by decide) (fun c_210 => ?_) (fun c_210 => ?_)
      · refine E_iconst (v := nI 0) dX4_accepts_235 (by decide) ?_
        refine E_iret dX4_accepts_236 (Or.inr ⟨rfl, by decide⟩) ?_
        rw [← b2i_f (P := (iItem a ∧ iItem b ∧ iItemN c ∧ iGlyph d) ∧ e = 0 ∧ f = 0) (by ((try simp only [ltI, ge0, ge3, ge12, ge4, ge256, ge306, ge45, ge2, ge6] at *); grind))]; exact K
      · refine E_iload dX4_accepts_213 rfl ?_
        refine E_callS1 (fr' := 1) (k1 := 0) (n1 := 0) (k2 := 0) (n2 := 0) dX4_accepts_215 kO_X11_isGlyph kL_X4_46 rfl (by decide) (by decide) (by exact Nat.le_of_ble_eq_true rfl) (Or.inl rfl) rfl ?_
        refine sp_X11_isGlyph ?_
        refine gKv ?_
        refine E_if_eq_b (tgt := 235) dX4_accepts_218 (by decide) (fun c_218 => ?_) (fun c_218 => ?_)
        · refine E_iconst (v := nI 0) dX4_accepts_235 (by decide) ?_
          refine E_iret dX4_accepts_236 (Or.inr ⟨rfl, by decide⟩) ?_
          rw [← b2i_f (P := (iItem a ∧ iItem b ∧ iItemN c ∧ iGlyph d) ∧ e = 0 ∧ f = 0) (by ((try simp only [ltI, ge0, ge3, ge12, ge4, ge256, ge306, ge45, ge2, ge6] at *); grind))]; exact K
        · refine E_iload dX4_accepts_221 rfl ?_
          refine E_if_ne (tgt := 235) dX4_accepts_223 (by decide) (fun c_223 => ?_) (fun c_223 => ?_)
          · refine E_iconst (v := nI 0) dX4_accepts_235 (by decide) ?_
            refine E_iret dX4_accepts_236 (Or.inr ⟨rfl, by decide⟩) ?_
            rw [← b2i_f (P := (iItem a ∧ iItem b ∧ iItemN c ∧ iGlyph d) ∧ e = 0 ∧ f = 0) (by ((try simp only [ltI, ge0, ge3, ge12, ge4, ge256, ge306, ge45, ge2, ge6] at *); grind))]; exact K
          · refine E_iload dX4_accepts_226 rfl ?_
            refine E_if_ne (tgt := 235) dX4_accepts_228 (by decide) (fun c_228 => ?_) (fun c_228 => ?_)
            · refine E_iconst (v := nI 0) dX4_accepts_235 (by decide) ?_
              refine E_iret dX4_accepts_236 (Or.inr ⟨rfl, by decide⟩) ?_
              rw [← b2i_f (P := (iItem a ∧ iItem b ∧ iItemN c ∧ iGlyph d) ∧ e = 0 ∧ f = 0) (by ((try simp only [ltI, ge0, ge3, ge12, ge4, ge256, ge306, ge45, ge2, ge6] at *); grind))]; exact K
            · refine E_iconst (v := nI 1) dX4_accepts_231 (by decide) ?_
              refine E_goto (tgt := 236) dX4_accepts_232 (by decide) ?_
              refine E_iret dX4_accepts_236 (Or.inr ⟨rfl, by decide⟩) ?_
              rw [← b2i_t (P := (iItem a ∧ iItem b ∧ iItemN c ∧ iGlyph d) ∧ e = 0 ∧ f = 0) (by ((try simp only [ltI, ge0, ge3, ge12, ge4, ge256, ge306, ge45, ge2, ge6] at *); grind))]; exact K
set_option maxRecDepth 100000 in
set_option maxHeartbeats 4000000 in
theorem sp_X4_accepts4 {g : gG} {M : gM} {Q : Option Value ⊕ String → gM → Prop} {p : Nat} (hp : p < mN M) (hk : mK M p = (4, 0)) (hv : mI M p 0 = nI 4) {a b c d e f : Int32} (K : Q (.inl (some (.int (b2i ((iItemN a ∧ iItem b ∧ iItemN c ∧ iItemN d) ∧ (e = 0 ∨ (e = nI 1 ∧ ¬ c = -100)) ∧ iIn f (nI 0) (nI 11)))))) M) : E g 4 0 0 mX4_accepts 0 [.ref (p + 1), .int a, .int b, .int c, .int d, .int e, .int f] [] M Q := by
  refine E_aload_n dX4_accepts_0 rfl ?_
  refine E_getIL (v := nI 4) dX4_accepts_1 kF_X4_24 kY_4 (Or.inl rfl) (hp) (hk) hv ?_
  refine E_swIn (off := 233) (tgt := 237) dX4_accepts_4 (by decide) (by decide) (by decide) (by decide) ?_
  refine E_iload_n dX4_accepts_237 rfl ?_
  refine E_callS1 (fr' := 3) (k1 := 0) (n1 := 0) (k2 := 0) (n2 := 0) dX4_accepts_238 kO_X4_isItemOrNone kL_X4_49 rfl (by decide) (by decide) (by exact Nat.le_of_ble_eq_true rfl) (Or.inl rfl) rfl ?_
  refine sp_X4_isItemOrNone ?_
  refine gKv ?_
  refine E_if_eq_b (tgt := 299) dX4_accepts_241 (by decide) (fun c_241 => ?_) (fun c_241 => ?_)
  · refine E_iconst (v := nI 0) dX4_accepts_299 (by decide) ?_
    refine E_iret dX4_accepts_300 (Or.inr ⟨rfl, by decide⟩) ?_
    rw [← b2i_f (P := (iItemN a ∧ iItem b ∧ iItemN c ∧ iItemN d) ∧ (e = 0 ∨ (e = nI 1 ∧ ¬ c = -100)) ∧ iIn f (nI 0) (nI 11)) (by ((try simp only [ltI, ge0, ge3, ge12, ge4, ge256, ge306, ge45, ge2, ge6] at *); grind))]; exact K
  · refine E_iload_n dX4_accepts_244 rfl ?_
    refine E_callS1 (fr' := 2) (k1 := 0) (n1 := 0) (k2 := 0) (n2 := 0) dX4_accepts_245 kO_X11_isItem kL_X4_42 rfl (by decide) (by decide) (by exact Nat.le_of_ble_eq_true rfl) (Or.inl rfl) rfl ?_
    refine sp_X11_isItem ?_
    refine gKv ?_
    refine E_if_eq_b (tgt := 299) dX4_accepts_248 (by decide) (fun c_248 => ?_) (fun c_248 => ?_)
    · refine E_iconst (v := nI 0) dX4_accepts_299 (by decide) ?_
      refine E_iret dX4_accepts_300 (Or.inr ⟨rfl, by decide⟩) ?_
      rw [← b2i_f (P := (iItemN a ∧ iItem b ∧ iItemN c ∧ iItemN d) ∧ (e = 0 ∨ (e = nI 1 ∧ ¬ c = -100)) ∧ iIn f (nI 0) (nI 11)) (by ((try simp only [ltI, ge0, ge3, ge12, ge4, ge256, ge306, ge45, ge2, ge6] at *); grind))]; exact K
    · refine E_iload_n dX4_accepts_251 rfl ?_
      refine E_callS1 (fr' := 3) (k1 := 0) (n1 := 0) (k2 := 0) (n2 := 0) dX4_accepts_252 kO_X4_isItemOrNone kL_X4_49 rfl (by decide) (by decide) (by exact Nat.le_of_ble_eq_true rfl) (Or.inl rfl) rfl ?_
      refine sp_X4_isItemOrNone ?_
      refine gKv ?_
      refine E_if_eq_b (tgt := 299) dX4_accepts_255 (by decide) (fun c_255 => ?_) (fun c_255 => ?_)
      · refine E_iconst (v := nI 0) dX4_accepts_299 (by decide) ?_
        refine E_iret dX4_accepts_300 (Or.inr ⟨rfl, by decide⟩) ?_
        rw [← b2i_f (P := (iItemN a ∧ iItem b ∧ iItemN c ∧ iItemN d) ∧ (e = 0 ∨ (e = nI 1 ∧ ¬ c = -100)) ∧ iIn f (nI 0) (nI 11)) (by ((try simp only [ltI, ge0, ge3, ge12, ge4, ge256, ge306, ge45, ge2, ge6] at *); grind))]; exact K
      · refine E_iload dX4_accepts_258 rfl ?_
        refine E_callS1 (fr' := 3) (k1 := 0) (n1 := 0) (k2 := 0) (n2 := 0) dX4_accepts_260 kO_X4_isItemOrNone kL_X4_49 rfl (by decide) (by decide) (by exact Nat.le_of_ble_eq_true rfl) (Or.inl rfl) rfl ?_
        refine sp_X4_isItemOrNone ?_
        refine gKv ?_
        refine E_if_eq_b (tgt := 299) dX4_accepts_263 (by decide) (fun c_263 => ?_) (fun c_263 => ?_)
        · refine E_iconst (v := nI 0) dX4_accepts_299 (by decide) ?_
          refine E_iret dX4_accepts_300 (Or.inr ⟨rfl, by decide⟩) ?_
          rw [← b2i_f (P := (iItemN a ∧ iItem b ∧ iItemN c ∧ iItemN d) ∧ (e = 0 ∨ (e = nI 1 ∧ ¬ c = -100)) ∧ iIn f (nI 0) (nI 11)) (by ((try simp only [ltI, ge0, ge3, ge12, ge4, ge256, ge306, ge45, ge2, ge6] at *); grind))]; exact K
        · refine E_iload dX4_accepts_266 rfl ?_
          refine E_if_eq (tgt := 283) dX4_accepts_268 (by decide) (fun c_268 => ?_) (fun c_268 => ?_)
          · refine E_iload dX4_accepts_283 rfl ?_
            refine E_if_lt (tgt := 299) dX4_accepts_285 (by decide) (fun c_285 => ?_) (fun c_285 => ?_)
            · refine E_iconst (v := nI 0) dX4_accepts_299 (by decide) ?_
              refine E_iret dX4_accepts_300 (Or.inr ⟨rfl, by decide⟩) ?_
              rw [← b2i_f (P := (iItemN a ∧ iItem b ∧ iItemN c ∧ iItemN d) ∧ (e = 0 ∨ (e = nI 1 ∧ ¬ c = -100)) ∧ iIn f (nI 0) (nI 11)) (by ((try simp only [ltI, ge0, ge3, ge12, ge4, ge256, ge306, ge45, ge2, ge6] at *); grind))]; exact K
            · refine E_iload dX4_accepts_288 rfl ?_
              refine E_bipush (v := nI 12) dX4_accepts_290 (by decide) ?_
              refine E_icmp_ge (tgt := 299) dX4_accepts_292 (by decide) (fun c_292 => ?_) (fun c_292 => ?_)
              · refine E_iconst (v := nI 0) dX4_accepts_299 (by decide) ?_
                refine E_iret dX4_accepts_300 (Or.inr ⟨rfl, by decide⟩) ?_
                rw [← b2i_f (P := (iItemN a ∧ iItem b ∧ iItemN c ∧ iItemN d) ∧ (e = 0 ∨ (e = nI 1 ∧ ¬ c = -100)) ∧ iIn f (nI 0) (nI 11)) (by ((try simp only [ltI, ge0, ge3, ge12, ge4, ge256, ge306, ge45, ge2, ge6] at *); grind))]; exact K
              · refine E_iconst (v := nI 1) dX4_accepts_295 (by decide) ?_
                refine E_goto (tgt := 300) dX4_accepts_296 (by decide) ?_
                refine E_iret dX4_accepts_300 (Or.inr ⟨rfl, by decide⟩) ?_
                rw [← b2i_t (P := (iItemN a ∧ iItem b ∧ iItemN c ∧ iItemN d) ∧ (e = 0 ∨ (e = nI 1 ∧ ¬ c = -100)) ∧ iIn f (nI 0) (nI 11)) (by ((try simp only [ltI, ge0, ge3, ge12, ge4, ge256, ge306, ge45, ge2, ge6] at *); grind))]; exact K
          · refine E_iload dX4_accepts_271 rfl ?_
            refine E_iconst (v := nI 1) dX4_accepts_273 (by decide) ?_
            refine E_icmp_ne (tgt := 299) dX4_accepts_274 (by decide) (fun c_274 => ?_) (fun c_274 => ?_)
            · refine E_iconst (v := nI 0) dX4_accepts_299 (by decide) ?_
              refine E_iret dX4_accepts_300 (Or.inr ⟨rfl, by decide⟩) ?_
              rw [← b2i_f (P := (iItemN a ∧ iItem b ∧ iItemN c ∧ iItemN d) ∧ (e = 0 ∨ (e = nI 1 ∧ ¬ c = -100)) ∧ iIn f (nI 0) (nI 11)) (by ((try simp only [ltI, ge0, ge3, ge12, ge4, ge256, ge306, ge45, ge2, ge6] at *); grind))]; exact K
            · refine E_iload_n dX4_accepts_277 rfl ?_
              refine E_bipush (v := -100) dX4_accepts_278 (by decide) ?_
              refine E_icmp_eq (tgt := 299) dX4_accepts_280 (by decide) (fun c_280 => ?_) (fun c_280 => ?_)
              · refine E_iconst (v := nI 0) dX4_accepts_299 (by decide) ?_
                refine E_iret dX4_accepts_300 (Or.inr ⟨rfl, by decide⟩) ?_
                rw [← b2i_f (P := (iItemN a ∧ iItem b ∧ iItemN c ∧ iItemN d) ∧ (e = 0 ∨ (e = nI 1 ∧ ¬ c = -100)) ∧ iIn f (nI 0) (nI 11)) (by ((try simp only [ltI, ge0, ge3, ge12, ge4, ge256, ge306, ge45, ge2, ge6] at *); grind))]; exact K
              · refine E_iload dX4_accepts_283 rfl ?_
                refine E_if_lt (tgt := 299) dX4_accepts_285 (by decide) (fun c_285 => ?_) (fun c_285 => ?_)
                · refine E_iconst (v := nI 0) dX4_accepts_299 (by decide) ?_
                  refine E_iret dX4_accepts_300 (Or.inr ⟨rfl, by decide⟩) ?_
                  rw [← b2i_f (P := (iItemN a ∧ iItem b ∧ iItemN c ∧ iItemN d) ∧ (e = 0 ∨ (e = nI 1 ∧ ¬ c = -100)) ∧ iIn f (nI 0) (nI 11)) (by ((try simp only [ltI, ge0, ge3, ge12, ge4, ge256, ge306, ge45, ge2, ge6] at *); grind))]; exact K
                · refine E_iload dX4_accepts_288 rfl ?_
                  refine E_bipush (v := nI 12) dX4_accepts_290 (by decide) ?_
                  refine E_icmp_ge (tgt := 299) dX4_accepts_292 (by decide) (fun c_292 => ?_) (fun c_292 => ?_)
                  · refine E_iconst (v := nI 0) dX4_accepts_299 (by decide) ?_
                    refine E_iret dX4_accepts_300 (Or.inr ⟨rfl, by decide⟩) ?_
                    rw [← b2i_f (P := (iItemN a ∧ iItem b ∧ iItemN c ∧ iItemN d) ∧ (e = 0 ∨ (e = nI 1 ∧ ¬ c = -100)) ∧ iIn f (nI 0) (nI 11)) (by ((try simp only [ltI, ge0, ge3, ge12, ge4, ge256, ge306, ge45, ge2, ge6] at *); grind))]; exact K
                  · refine E_iconst (v := nI 1) dX4_accepts_295 (by decide) ?_
                    refine E_goto (tgt := 300) dX4_accepts_296 (by decide) ?_
                    refine E_iret dX4_accepts_300 (Or.inr ⟨rfl, by decide⟩) ?_
                    rw [← b2i_t (P := (iItemN a ∧ iItem b ∧ iItemN c ∧ iItemN d) ∧ (e = 0 ∨ (e = nI 1 ∧ ¬ c = -100)) ∧ iIn f (nI 0) (nI 11)) (by ((try simp only [ltI, ge0, ge3, ge12, ge4, ge256, ge306, ge45, ge2, ge6] at *); grind))]; exact K
set_option maxRecDepth 100000 in
set_option maxHeartbeats 4000000 in
theorem sp_X4_accepts5 {g : gG} {M : gM} {Q : Option Value ⊕ String → gM → Prop} {p : Nat} (hp : p < mN M) (hk : mK M p = (4, 0)) (hv : mI M p 0 = nI 5) {a b c d e f : Int32} (K : Q (.inl (some (.int (b2i ((iItemN a ∧ iItem b ∧ iItemN c ∧ iGlyph d) ∧ e = 0 ∧ f = 0))))) M) : E g 4 0 0 mX4_accepts 0 [.ref (p + 1), .int a, .int b, .int c, .int d, .int e, .int f] [] M Q := by
  refine E_aload_n dX4_accepts_0 rfl ?_
  refine E_getIL (v := nI 5) dX4_accepts_1 kF_X4_24 kY_4 (Or.inl rfl) (hp) (hk) hv ?_
  refine E_swIn (off := 297) (tgt := 301) dX4_accepts_4 (by decide) (by decide) (by decide) (by decide) ?_
  refine E_iload_n dX4_accepts_301 rfl ?_
  refine E_callS1 (fr' := 3) (k1 := 0) (n1 := 0) (k2 := 0) (n2 := 0) dX4_accepts_302 kO_X4_isItemOrNone kL_X4_49 rfl (by decide) (by decide) (by exact Nat.le_of_ble_eq_true rfl) (Or.inl rfl) rfl ?_
  refine sp_X4_isItemOrNone ?_
  refine gKv ?_
  refine E_if_eq_b (tgt := 344) dX4_accepts_305 (by decide) (fun c_305 => ?_) (fun c_305 => ?_)
  · refine E_iconst (v := nI 0) dX4_accepts_344 (by decide) ?_
    refine E_iret dX4_accepts_345 (Or.inr ⟨rfl, by decide⟩) ?_
    rw [← b2i_f (P := (iItemN a ∧ iItem b ∧ iItemN c ∧ iGlyph d) ∧ e = 0 ∧ f = 0) (by ((try simp only [ltI, ge0, ge3, ge12, ge4, ge256, ge306, ge45, ge2, ge6] at *); grind))]; exact K
  · refine E_iload_n dX4_accepts_308 rfl ?_
    refine E_callS1 (fr' := 2) (k1 := 0) (n1 := 0) (k2 := 0) (n2 := 0) dX4_accepts_309 kO_X11_isItem kL_X4_42 rfl (by decide) (by decide) (by exact Nat.le_of_ble_eq_true rfl) (Or.inl rfl) rfl ?_
    refine sp_X11_isItem ?_
    refine gKv ?_
    refine E_if_eq_b (tgt := 344) dX4_accepts_312 (by decide) (fun c_312 => ?_) (fun c_312 => ?_)
    · refine E_iconst (v := nI 0) dX4_accepts_344 (by decide) ?_
      refine E_iret dX4_accepts_345 (Or.inr ⟨rfl, by decide⟩) ?_
      rw [← b2i_f (P := (iItemN a ∧ iItem b ∧ iItemN c ∧ iGlyph d) ∧ e = 0 ∧ f = 0) (by ((try simp only [ltI, ge0, ge3, ge12, ge4, ge256, ge306, ge45, ge2, ge6] at *); grind))]; exact K
    · refine E_iload_n dX4_accepts_315 rfl ?_
      refine E_callS1 (fr' := 3) (k1 := 0) (n1 := 0) (k2 := 0) (n2 := 0) dX4_accepts_316 kO_X4_isItemOrNone kL_X4_49 rfl (by decide) (by decide) (by exact Nat.le_of_ble_eq_true rfl) (Or.inl rfl) rfl ?_
      refine sp_X4_isItemOrNone ?_
      refine gKv ?_
      refine E_if_eq_b (tgt := 344) dX4_accepts_319 (by decide) (fun c_319 => ?_) (fun c_319 => ?_)
      · refine E_iconst (v := nI 0) dX4_accepts_344 (by decide) ?_
        refine E_iret dX4_accepts_345 (Or.inr ⟨rfl, by decide⟩) ?_
        rw [← b2i_f (P := (iItemN a ∧ iItem b ∧ iItemN c ∧ iGlyph d) ∧ e = 0 ∧ f = 0) (by ((try simp only [ltI, ge0, ge3, ge12, ge4, ge256, ge306, ge45, ge2, ge6] at *); grind))]; exact K
      · refine E_iload dX4_accepts_322 rfl ?_
        refine E_callS1 (fr' := 1) (k1 := 0) (n1 := 0) (k2 := 0) (n2 := 0) dX4_accepts_324 kO_X11_isGlyph kL_X4_46 rfl (by decide) (by decide) (by exact Nat.le_of_ble_eq_true rfl) (Or.inl rfl) rfl ?_
        refine sp_X11_isGlyph ?_
        refine gKv ?_
        refine E_if_eq_b (tgt := 344) dX4_accepts_327 (by decide) (fun c_327 => ?_) (fun c_327 => ?_)
        · refine E_iconst (v := nI 0) dX4_accepts_344 (by decide) ?_
          refine E_iret dX4_accepts_345 (Or.inr ⟨rfl, by decide⟩) ?_
          rw [← b2i_f (P := (iItemN a ∧ iItem b ∧ iItemN c ∧ iGlyph d) ∧ e = 0 ∧ f = 0) (by ((try simp only [ltI, ge0, ge3, ge12, ge4, ge256, ge306, ge45, ge2, ge6] at *); grind))]; exact K
        · refine E_iload dX4_accepts_330 rfl ?_
          refine E_if_ne (tgt := 344) dX4_accepts_332 (by decide) (fun c_332 => ?_) (fun c_332 => ?_)
          · refine E_iconst (v := nI 0) dX4_accepts_344 (by decide) ?_
            refine E_iret dX4_accepts_345 (Or.inr ⟨rfl, by decide⟩) ?_
            rw [← b2i_f (P := (iItemN a ∧ iItem b ∧ iItemN c ∧ iGlyph d) ∧ e = 0 ∧ f = 0) (by ((try simp only [ltI, ge0, ge3, ge12, ge4, ge256, ge306, ge45, ge2, ge6] at *); grind))]; exact K
          · refine E_iload dX4_accepts_335 rfl ?_
            refine E_if_ne (tgt := 344) dX4_accepts_337 (by decide) (fun c_337 => ?_) (fun c_337 => ?_)
            · refine E_iconst (v := nI 0) dX4_accepts_344 (by decide) ?_
              refine E_iret dX4_accepts_345 (Or.inr ⟨rfl, by decide⟩) ?_
              rw [← b2i_f (P := (iItemN a ∧ iItem b ∧ iItemN c ∧ iGlyph d) ∧ e = 0 ∧ f = 0) (by ((try simp only [ltI, ge0, ge3, ge12, ge4, ge256, ge306, ge45, ge2, ge6] at *); grind))]; exact K
            · refine E_iconst (v := nI 1) dX4_accepts_340 (by decide) ?_
              refine E_goto (tgt := 345) dX4_accepts_341 (by decide) ?_
              refine E_iret dX4_accepts_345 (Or.inr ⟨rfl, by decide⟩) ?_
              rw [← b2i_t (P := (iItemN a ∧ iItem b ∧ iItemN c ∧ iGlyph d) ∧ e = 0 ∧ f = 0) (by ((try simp only [ltI, ge0, ge3, ge12, ge4, ge256, ge306, ge45, ge2, ge6] at *); grind))]; exact K
set_option maxRecDepth 100000 in
set_option maxHeartbeats 4000000 in
theorem sp_X4_accepts6 {g : gG} {M : gM} {Q : Option Value ⊕ String → gM → Prop} {p : Nat} (hp : p < mN M) (hk : mK M p = (4, 0)) (hv : mI M p 0 = nI 6) {a b c d e f : Int32} (K : Q (.inl (some (.int (b2i ((iItem a ∧ iItem b ∧ iFar c ∧ d = 0) ∧ e = 0 ∧ f = 0))))) M) : E g 4 0 0 mX4_accepts 0 [.ref (p + 1), .int a, .int b, .int c, .int d, .int e, .int f] [] M Q := by
  refine E_aload_n dX4_accepts_0 rfl ?_
  refine E_getIL (v := nI 6) dX4_accepts_1 kF_X4_24 kY_4 (Or.inl rfl) (hp) (hk) hv ?_
  refine E_swIn (off := 342) (tgt := 346) dX4_accepts_4 (by decide) (by decide) (by decide) (by decide) ?_
  refine E_iload_n dX4_accepts_346 rfl ?_
  refine E_callS1 (fr' := 2) (k1 := 0) (n1 := 0) (k2 := 0) (n2 := 0) dX4_accepts_347 kO_X11_isItem kL_X4_42 rfl (by decide) (by decide) (by exact Nat.le_of_ble_eq_true rfl) (Or.inl rfl) rfl ?_
  refine sp_X11_isItem ?_
  refine gKv ?_
  refine E_if_eq_b (tgt := 386) dX4_accepts_350 (by decide) (fun c_350 => ?_) (fun c_350 => ?_)
  · refine E_iconst (v := nI 0) dX4_accepts_386 (by decide) ?_
    refine E_iret dX4_accepts_387 (Or.inr ⟨rfl, by decide⟩) ?_
    rw [← b2i_f (P := (iItem a ∧ iItem b ∧ iFar c ∧ d = 0) ∧ e = 0 ∧ f = 0) (by ((try simp only [ltI, ge0, ge3, ge12, ge4, ge256, ge306, ge45, ge2, ge6] at *); grind))]; exact K
  · refine E_iload_n dX4_accepts_353 rfl ?_
    refine E_callS1 (fr' := 2) (k1 := 0) (n1 := 0) (k2 := 0) (n2 := 0) dX4_accepts_354 kO_X11_isItem kL_X4_42 rfl (by decide) (by decide) (by exact Nat.le_of_ble_eq_true rfl) (Or.inl rfl) rfl ?_
    refine sp_X11_isItem ?_
    refine gKv ?_
    refine E_if_eq_b (tgt := 386) dX4_accepts_357 (by decide) (fun c_357 => ?_) (fun c_357 => ?_)
    · refine E_iconst (v := nI 0) dX4_accepts_386 (by decide) ?_
      refine E_iret dX4_accepts_387 (Or.inr ⟨rfl, by decide⟩) ?_
      rw [← b2i_f (P := (iItem a ∧ iItem b ∧ iFar c ∧ d = 0) ∧ e = 0 ∧ f = 0) (by ((try simp only [ltI, ge0, ge3, ge12, ge4, ge256, ge306, ge45, ge2, ge6] at *); grind))]; exact K
    · refine E_iload_n dX4_accepts_360 rfl ?_
      refine E_callS1 (fr' := 1) (k1 := 0) (n1 := 0) (k2 := 0) (n2 := 0) dX4_accepts_361 kO_X4_isStep kL_X4_52 rfl (by decide) (by decide) (by exact Nat.le_of_ble_eq_true rfl) (Or.inl rfl) rfl ?_
      refine sp_X4_isStep ?_
      refine gKv ?_
      refine E_if_eq_b (tgt := 386) dX4_accepts_364 (by decide) (fun c_364 => ?_) (fun c_364 => ?_)
      · refine E_iconst (v := nI 0) dX4_accepts_386 (by decide) ?_
        refine E_iret dX4_accepts_387 (Or.inr ⟨rfl, by decide⟩) ?_
        rw [← b2i_f (P := (iItem a ∧ iItem b ∧ iFar c ∧ d = 0) ∧ e = 0 ∧ f = 0) (by ((try simp only [ltI, ge0, ge3, ge12, ge4, ge256, ge306, ge45, ge2, ge6] at *); grind))]; exact K
      · refine E_iload dX4_accepts_367 rfl ?_
        refine E_if_ne (tgt := 386) dX4_accepts_369 (by decide) (fun c_369 => ?_) (fun c_369 => ?_)
        · refine E_iconst (v := nI 0) dX4_accepts_386 (by decide) ?_
          refine E_iret dX4_accepts_387 (Or.inr ⟨rfl, by decide⟩) ?_
          rw [← b2i_f (P := (iItem a ∧ iItem b ∧ iFar c ∧ d = 0) ∧ e = 0 ∧ f = 0) (by ((try simp only [ltI, ge0, ge3, ge12, ge4, ge256, ge306, ge45, ge2, ge6] at *); grind))]; exact K
        · refine E_iload dX4_accepts_372 rfl ?_
          refine E_if_ne (tgt := 386) dX4_accepts_374 (by decide) (fun c_374 => ?_) (fun c_374 => ?_)
          · refine E_iconst (v := nI 0) dX4_accepts_386 (by decide) ?_
            refine E_iret dX4_accepts_387 (Or.inr ⟨rfl, by decide⟩) ?_
            rw [← b2i_f (P := (iItem a ∧ iItem b ∧ iFar c ∧ d = 0) ∧ e = 0 ∧ f = 0) (by ((try simp only [ltI, ge0, ge3, ge12, ge4, ge256, ge306, ge45, ge2, ge6] at *); grind))]; exact K
          · refine E_iload dX4_accepts_377 rfl ?_
            refine E_if_ne (tgt := 386) dX4_accepts_379 (by decide) (fun c_379 => ?_) (fun c_379 => ?_)
            · refine E_iconst (v := nI 0) dX4_accepts_386 (by decide) ?_
              refine E_iret dX4_accepts_387 (Or.inr ⟨rfl, by decide⟩) ?_
              rw [← b2i_f (P := (iItem a ∧ iItem b ∧ iFar c ∧ d = 0) ∧ e = 0 ∧ f = 0) (by ((try simp only [ltI, ge0, ge3, ge12, ge4, ge256, ge306, ge45, ge2, ge6] at *); grind))]; exact K
            · refine E_iconst (v := nI 1) dX4_accepts_382 (by decide) ?_
              refine E_goto (tgt := 387) dX4_accepts_383 (by decide) ?_
              refine E_iret dX4_accepts_387 (Or.inr ⟨rfl, by decide⟩) ?_
              rw [← b2i_t (P := (iItem a ∧ iItem b ∧ iFar c ∧ d = 0) ∧ e = 0 ∧ f = 0) (by ((try simp only [ltI, ge0, ge3, ge12, ge4, ge256, ge306, ge45, ge2, ge6] at *); grind))]; exact K
set_option maxRecDepth 100000 in
set_option maxHeartbeats 4000000 in
theorem sp_X4_accepts7 {g : gG} {M : gM} {Q : Option Value ⊕ String → gM → Prop} {p : Nat} (hp : p < mN M) (hk : mK M p = (4, 0)) (hv : mI M p 0 = nI 7) {a b c d e f : Int32} (K : Q (.inl (some (.int (b2i ((iItem a ∧ iFarN b ∧ iFarN c ∧ d = 0) ∧ e = 0 ∧ f = 0))))) M) : E g 4 0 0 mX4_accepts 0 [.ref (p + 1), .int a, .int b, .int c, .int d, .int e, .int f] [] M Q := by
  refine E_aload_n dX4_accepts_0 rfl ?_
  refine E_getIL (v := nI 7) dX4_accepts_1 kF_X4_24 kY_4 (Or.inl rfl) (hp) (hk) hv ?_
  refine E_swIn (off := 384) (tgt := 388) dX4_accepts_4 (by decide) (by decide) (by decide) (by decide) ?_
  refine E_iload_n dX4_accepts_388 rfl ?_
  refine E_callS1 (fr' := 2) (k1 := 0) (n1 := 0) (k2 := 0) (n2 := 0) dX4_accepts_389 kO_X11_isItem kL_X4_42 rfl (by decide) (by decide) (by exact Nat.le_of_ble_eq_true rfl) (Or.inl rfl) rfl ?_
  refine sp_X11_isItem ?_
  refine gKv ?_
  refine E_if_eq_b (tgt := 440) dX4_accepts_392 (by decide) (fun c_392 => ?_) (fun c_392 => ?_)
  · refine E_iconst (v := nI 0) dX4_accepts_440 (by decide) ?_
    refine E_iret dX4_accepts_441 (Or.inr ⟨rfl, by decide⟩) ?_
    rw [← b2i_f (P := (iItem a ∧ iFarN b ∧ iFarN c ∧ d = 0) ∧ e = 0 ∧ f = 0) (by ((try simp only [ltI, ge0, ge3, ge12, ge4, ge256, ge306, ge45, ge2, ge6] at *); grind))]; exact K
  · refine E_iload_n dX4_accepts_395 rfl ?_
    refine E_bipush (v := -100) dX4_accepts_396 (by decide) ?_
    refine E_icmp_eq (tgt := 408) dX4_accepts_398 (by decide) (fun c_398 => ?_) (fun c_398 => ?_)
    · refine E_iload_n dX4_accepts_408 rfl ?_
      refine E_bipush (v := -100) dX4_accepts_409 (by decide) ?_
      refine E_icmp_eq (tgt := 421) dX4_accepts_411 (by decide) (fun c_411 => ?_) (fun c_411 => ?_)
      · refine E_iload dX4_accepts_421 rfl ?_
        refine E_if_ne (tgt := 440) dX4_accepts_423 (by decide) (fun c_423 => ?_) (fun c_423 => ?_)
        · refine E_iconst (v := nI 0) dX4_accepts_440 (by decide) ?_
          refine E_iret dX4_accepts_441 (Or.inr ⟨rfl, by decide⟩) ?_
          rw [← b2i_f (P := (iItem a ∧ iFarN b ∧ iFarN c ∧ d = 0) ∧ e = 0 ∧ f = 0) (by ((try simp only [ltI, ge0, ge3, ge12, ge4, ge256, ge306, ge45, ge2, ge6] at *); grind))]; exact K
        · refine E_iload dX4_accepts_426 rfl ?_
          refine E_if_ne (tgt := 440) dX4_accepts_428 (by decide) (fun c_428 => ?_) (fun c_428 => ?_)
          · refine E_iconst (v := nI 0) dX4_accepts_440 (by decide) ?_
            refine E_iret dX4_accepts_441 (Or.inr ⟨rfl, by decide⟩) ?_
            rw [← b2i_f (P := (iItem a ∧ iFarN b ∧ iFarN c ∧ d = 0) ∧ e = 0 ∧ f = 0) (by ((try simp only [ltI, ge0, ge3, ge12, ge4, ge256, ge306, ge45, ge2, ge6] at *); grind))]; exact K
          · refine E_iload dX4_accepts_431 rfl ?_
            refine E_if_ne (tgt := 440) dX4_accepts_433 (by decide) (fun c_433 => ?_) (fun c_433 => ?_)
            · refine E_iconst (v := nI 0) dX4_accepts_440 (by decide) ?_
              refine E_iret dX4_accepts_441 (Or.inr ⟨rfl, by decide⟩) ?_
              rw [← b2i_f (P := (iItem a ∧ iFarN b ∧ iFarN c ∧ d = 0) ∧ e = 0 ∧ f = 0) (by ((try simp only [ltI, ge0, ge3, ge12, ge4, ge256, ge306, ge45, ge2, ge6] at *); grind))]; exact K
            · refine E_iconst (v := nI 1) dX4_accepts_436 (by decide) ?_
              refine E_goto (tgt := 441) dX4_accepts_437 (by decide) ?_
              refine E_iret dX4_accepts_441 (Or.inr ⟨rfl, by decide⟩) ?_
              rw [← b2i_t (P := (iItem a ∧ iFarN b ∧ iFarN c ∧ d = 0) ∧ e = 0 ∧ f = 0) (by ((try simp only [ltI, ge0, ge3, ge12, ge4, ge256, ge306, ge45, ge2, ge6] at *); grind))]; exact K
      · refine E_iload_n dX4_accepts_414 rfl ?_
        refine E_callS1 (fr' := 1) (k1 := 0) (n1 := 0) (k2 := 0) (n2 := 0) dX4_accepts_415 kO_X4_isStep kL_X4_52 rfl (by decide) (by decide) (by exact Nat.le_of_ble_eq_true rfl) (Or.inl rfl) rfl ?_
        refine sp_X4_isStep ?_
        refine gKv ?_
        refine E_if_eq_b (tgt := 440) dX4_accepts_418 (by decide) (fun c_418 => ?_) (fun c_418 => ?_)
        · refine E_iconst (v := nI 0) dX4_accepts_440 (by decide) ?_
          refine E_iret dX4_accepts_441 (Or.inr ⟨rfl, by decide⟩) ?_
          rw [← b2i_f (P := (iItem a ∧ iFarN b ∧ iFarN c ∧ d = 0) ∧ e = 0 ∧ f = 0) (by ((try simp only [ltI, ge0, ge3, ge12, ge4, ge256, ge306, ge45, ge2, ge6] at *); grind))]; exact K
        · refine E_iload dX4_accepts_421 rfl ?_
          refine E_if_ne (tgt := 440) dX4_accepts_423 (by decide) (fun c_423 => ?_) (fun c_423 => ?_)
          · refine E_iconst (v := nI 0) dX4_accepts_440 (by decide) ?_
            refine E_iret dX4_accepts_441 (Or.inr ⟨rfl, by decide⟩) ?_
            rw [← b2i_f (P := (iItem a ∧ iFarN b ∧ iFarN c ∧ d = 0) ∧ e = 0 ∧ f = 0) (by ((try simp only [ltI, ge0, ge3, ge12, ge4, ge256, ge306, ge45, ge2, ge6] at *); grind))]; exact K
          · refine E_iload dX4_accepts_426 rfl ?_
            refine E_if_ne (tgt := 440) dX4_accepts_428 (by decide) (fun c_428 => ?_) (fun c_428 => ?_)
            · refine E_iconst (v := nI 0) dX4_accepts_440 (by decide) ?_
              refine E_iret dX4_accepts_441 (Or.inr ⟨rfl, by decide⟩) ?_
              rw [← b2i_f (P := (iItem a ∧ iFarN b ∧ iFarN c ∧ d = 0) ∧ e = 0 ∧ f = 0) (by ((try simp only [ltI, ge0, ge3, ge12, ge4, ge256, ge306, ge45, ge2, ge6] at *); grind))]; exact K
            · refine E_iload dX4_accepts_431 rfl ?_
              refine E_if_ne (tgt := 440) dX4_accepts_433 (by decide) (fun c_433 => ?_) (fun c_433 => ?_)
              · refine E_iconst (v := nI 0) dX4_accepts_440 (by decide) ?_
                refine E_iret dX4_accepts_441 (Or.inr ⟨rfl, by decide⟩) ?_
                rw [← b2i_f (P := (iItem a ∧ iFarN b ∧ iFarN c ∧ d = 0) ∧ e = 0 ∧ f = 0) (by ((try simp only [ltI, ge0, ge3, ge12, ge4, ge256, ge306, ge45, ge2, ge6] at *); grind))]; exact K
              · refine E_iconst (v := nI 1) dX4_accepts_436 (by decide) ?_
                refine E_goto (tgt := 441) dX4_accepts_437 (by decide) ?_
                refine E_iret dX4_accepts_441 (Or.inr ⟨rfl, by decide⟩) ?_
                rw [← b2i_t (P := (iItem a ∧ iFarN b ∧ iFarN c ∧ d = 0) ∧ e = 0 ∧ f = 0) (by ((try simp only [ltI, ge0, ge3, ge12, ge4, ge256, ge306, ge45, ge2, ge6] at *); grind))]; exact K
    · refine E_iload_n dX4_accepts_401 rfl ?_
      refine E_callS1 (fr' := 1) (k1 := 0) (n1 := 0) (k2 := 0) (n2 := 0) dX4_accepts_402 kO_X4_isStep kL_X4_52 rfl (by decide) (by decide) (by exact Nat.le_of_ble_eq_true rfl) (Or.inl rfl) rfl ?_
      refine sp_X4_isStep ?_
      refine gKv ?_
      refine E_if_eq_b (tgt := 440) dX4_accepts_405 (by decide) (fun c_405 => ?_) (fun c_405 => ?_)
      · refine E_iconst (v := nI 0) dX4_accepts_440 (by decide) ?_
        refine E_iret dX4_accepts_441 (Or.inr ⟨rfl, by decide⟩) ?_
        rw [← b2i_f (P := (iItem a ∧ iFarN b ∧ iFarN c ∧ d = 0) ∧ e = 0 ∧ f = 0) (by ((try simp only [ltI, ge0, ge3, ge12, ge4, ge256, ge306, ge45, ge2, ge6] at *); grind))]; exact K
      · refine E_iload_n dX4_accepts_408 rfl ?_
        refine E_bipush (v := -100) dX4_accepts_409 (by decide) ?_
        refine E_icmp_eq (tgt := 421) dX4_accepts_411 (by decide) (fun c_411 => ?_) (fun c_411 => ?_)
        · refine E_iload dX4_accepts_421 rfl ?_
          refine E_if_ne (tgt := 440) dX4_accepts_423 (by decide) (fun c_423 => ?_) (fun c_423 => ?_)
          · refine E_iconst (v := nI 0) dX4_accepts_440 (by decide) ?_
            refine E_iret dX4_accepts_441 (Or.inr ⟨rfl, by decide⟩) ?_
            rw [← b2i_f (P := (iItem a ∧ iFarN b ∧ iFarN c ∧ d = 0) ∧ e = 0 ∧ f = 0) (by ((try simp only [ltI, ge0, ge3, ge12, ge4, ge256, ge306, ge45, ge2, ge6] at *); grind))]; exact K
          · refine E_iload dX4_accepts_426 rfl ?_
            refine E_if_ne (tgt := 440) dX4_accepts_428 (by decide) (fun c_428 => ?_) (fun c_428 => ?_)
            · refine E_iconst (v := nI 0) dX4_accepts_440 (by decide) ?_
              refine E_iret dX4_accepts_441 (Or.inr ⟨rfl, by decide⟩) ?_
              rw [← b2i_f (P := (iItem a ∧ iFarN b ∧ iFarN c ∧ d = 0) ∧ e = 0 ∧ f = 0) (by ((try simp only [ltI, ge0, ge3, ge12, ge4, ge256, ge306, ge45, ge2, ge6] at *); grind))]; exact K
            · refine E_iload dX4_accepts_431 rfl ?_
              refine E_if_ne (tgt := 440) dX4_accepts_433 (by decide) (fun c_433 => ?_) (fun c_433 => ?_)
              · refine E_iconst (v := nI 0) dX4_accepts_440 (by decide) ?_
                refine E_iret dX4_accepts_441 (Or.inr ⟨rfl, by decide⟩) ?_
                rw [← b2i_f (P := (iItem a ∧ iFarN b ∧ iFarN c ∧ d = 0) ∧ e = 0 ∧ f = 0) (by ((try simp only [ltI, ge0, ge3, ge12, ge4, ge256, ge306, ge45, ge2, ge6] at *); grind))]; exact K
              · refine E_iconst (v := nI 1) dX4_accepts_436 (by decide) ?_
                refine E_goto (tgt := 441) dX4_accepts_437 (by decide) ?_
                refine E_iret dX4_accepts_441 (Or.inr ⟨rfl, by decide⟩) ?_
                rw [← b2i_t (P := (iItem a ∧ iFarN b ∧ iFarN c ∧ d = 0) ∧ e = 0 ∧ f = 0) (by ((try simp only [ltI, ge0, ge3, ge12, ge4, ge256, ge306, ge45, ge2, ge6] at *); grind))]; exact K
        · refine E_iload_n dX4_accepts_414 rfl ?_
          refine E_callS1 (fr' := 1) (k1 := 0) (n1 := 0) (k2 := 0) (n2 := 0) dX4_accepts_415 kO_X4_isStep kL_X4_52 rfl (by decide) (by decide) (by exact Nat.le_of_ble_eq_true rfl) (Or.inl rfl) rfl ?_
          refine sp_X4_isStep ?_
          refine gKv ?_
          refine E_if_eq_b (tgt := 440) dX4_accepts_418 (by decide) (fun c_418 => ?_) (fun c_418 => ?_)
          · refine E_iconst (v := nI 0) dX4_accepts_440 (by decide) ?_
            refine E_iret dX4_accepts_441 (Or.inr ⟨rfl, by decide⟩) ?_
            rw [← b2i_f (P := (iItem a ∧ iFarN b ∧ iFarN c ∧ d = 0) ∧ e = 0 ∧ f = 0) (by ((try simp only [ltI, ge0, ge3, ge12, ge4, ge256, ge306, ge45, ge2, ge6] at *); grind))]; exact K
          · refine E_iload dX4_accepts_421 rfl ?_
            refine E_if_ne (tgt := 440) dX4_accepts_423 (by decide) (fun c_423 => ?_) (fun c_423 => ?_)
            · refine E_iconst (v := nI 0) dX4_accepts_440 (by decide) ?_
              refine E_iret dX4_accepts_441 (Or.inr ⟨rfl, by decide⟩) ?_
              rw [← b2i_f (P := (iItem a ∧ iFarN b ∧ iFarN c ∧ d = 0) ∧ e = 0 ∧ f = 0) (by ((try simp only [ltI, ge0, ge3, ge12, ge4, ge256, ge306, ge45, ge2, ge6] at *); grind))]; exact K
            · refine E_iload dX4_accepts_426 rfl ?_
              refine E_if_ne (tgt := 440) dX4_accepts_428 (by decide) (fun c_428 => ?_) (fun c_428 => ?_)
              · refine E_iconst (v := nI 0) dX4_accepts_440 (by decide) ?_
                refine E_iret dX4_accepts_441 (Or.inr ⟨rfl, by decide⟩) ?_
                rw [← b2i_f (P := (iItem a ∧ iFarN b ∧ iFarN c ∧ d = 0) ∧ e = 0 ∧ f = 0) (by ((try simp only [ltI, ge0, ge3, ge12, ge4, ge256, ge306, ge45, ge2, ge6] at *); grind))]; exact K
              · refine E_iload dX4_accepts_431 rfl ?_
                refine E_if_ne (tgt := 440) dX4_accepts_433 (by decide) (fun c_433 => ?_) (fun c_433 => ?_)
                · refine E_iconst (v := nI 0) dX4_accepts_440 (by decide) ?_
                  refine E_iret dX4_accepts_441 (Or.inr ⟨rfl, by decide⟩) ?_
                  rw [← b2i_f (P := (iItem a ∧ iFarN b ∧ iFarN c ∧ d = 0) ∧ e = 0 ∧ f = 0) (by ((try simp only [ltI, ge0, ge3, ge12, ge4, ge256, ge306, ge45, ge2, ge6] at *); grind))]; exact K
                · refine E_iconst (v := nI 1) dX4_accepts_436 (by decide) ?_
                  refine E_goto (tgt := 441) dX4_accepts_437 (by decide) ?_
                  refine E_iret dX4_accepts_441 (Or.inr ⟨rfl, by decide⟩) ?_
                  rw [← b2i_t (P := (iItem a ∧ iFarN b ∧ iFarN c ∧ d = 0) ∧ e = 0 ∧ f = 0) (by ((try simp only [ltI, ge0, ge3, ge12, ge4, ge256, ge306, ge45, ge2, ge6] at *); grind))]; exact K
set_option maxRecDepth 100000 in
set_option maxHeartbeats 4000000 in
theorem sp_X4_accepts8 {g : gG} {M : gM} {Q : Option Value ⊕ String → gM → Prop} {p : Nat} (hp : p < mN M) (hk : mK M p = (4, 0)) (hv : mI M p 0 = nI 8) {a b c d e f : Int32} (K : Q (.inl (some (.int (b2i ((iItem a ∧ (b = -100 ∨ iIn b (nI 0) (nI 2)) ∧ iClass c ∧ iFar d) ∧ iFar e ∧ f = 0))))) M) : E g 4 0 0 mX4_accepts 0 [.ref (p + 1), .int a, .int b, .int c, .int d, .int e, .int f] [] M Q := by
  refine E_aload_n dX4_accepts_0 rfl ?_
  refine E_getIL (v := nI 8) dX4_accepts_1 kF_X4_24 kY_4 (Or.inl rfl) (hp) (hk) hv ?_
  refine E_swIn (off := 438) (tgt := 442) dX4_accepts_4 (by decide) (by decide) (by decide) (by decide) ?_
  refine E_iload_n dX4_accepts_442 rfl ?_
  refine E_callS1 (fr' := 2) (k1 := 0) (n1 := 0) (k2 := 0) (n2 := 0) dX4_accepts_443 kO_X11_isItem kL_X4_42 rfl (by decide) (by decide) (by exact Nat.le_of_ble_eq_true rfl) (Or.inl rfl) rfl ?_
  refine sp_X11_isItem ?_
  refine gKv ?_
  refine E_if_eq_b (tgt := 496) dX4_accepts_446 (by decide) (fun c_446 => ?_) (fun c_446 => ?_)
  · refine E_iconst (v := nI 0) dX4_accepts_496 (by decide) ?_
    refine E_iret dX4_accepts_497 (Or.inr ⟨rfl, by decide⟩) ?_
    rw [← b2i_f (P := (iItem a ∧ (b = -100 ∨ iIn b (nI 0) (nI 2)) ∧ iClass c ∧ iFar d) ∧ iFar e ∧ f = 0) (by ((try simp only [ltI, ge0, ge3, ge12, ge4, ge256, ge306, ge45, ge2, ge6] at *); grind))]; exact K
  · refine E_iload_n dX4_accepts_449 rfl ?_
    refine E_bipush (v := -100) dX4_accepts_450 (by decide) ?_
    refine E_icmp_eq (tgt := 464) dX4_accepts_452 (by decide) (fun c_452 => ?_) (fun c_452 => ?_)
    · refine E_iload_n dX4_accepts_464 rfl ?_
      refine E_callS1 (fr' := 1) (k1 := 0) (n1 := 0) (k2 := 0) (n2 := 0) dX4_accepts_465 kO_X4_isClass kL_X4_55 rfl (by decide) (by decide) (by exact Nat.le_of_ble_eq_true rfl) (Or.inl rfl) rfl ?_
      refine sp_X4_isClass ?_
      refine gKv ?_
      refine E_if_eq_b (tgt := 496) dX4_accepts_468 (by decide) (fun c_468 => ?_) (fun c_468 => ?_)
      · refine E_iconst (v := nI 0) dX4_accepts_496 (by decide) ?_
        refine E_iret dX4_accepts_497 (Or.inr ⟨rfl, by decide⟩) ?_
        rw [← b2i_f (P := (iItem a ∧ (b = -100 ∨ iIn b (nI 0) (nI 2)) ∧ iClass c ∧ iFar d) ∧ iFar e ∧ f = 0) (by ((try simp only [ltI, ge0, ge3, ge12, ge4, ge256, ge306, ge45, ge2, ge6] at *); grind))]; exact K
      · refine E_iload dX4_accepts_471 rfl ?_
        refine E_callS1 (fr' := 1) (k1 := 0) (n1 := 0) (k2 := 0) (n2 := 0) dX4_accepts_473 kO_X4_isStep kL_X4_52 rfl (by decide) (by decide) (by exact Nat.le_of_ble_eq_true rfl) (Or.inl rfl) rfl ?_
        refine sp_X4_isStep ?_
        refine gKv ?_
        refine E_if_eq_b (tgt := 496) dX4_accepts_476 (by decide) (fun c_476 => ?_) (fun c_476 => ?_)
        · refine E_iconst (v := nI 0) dX4_accepts_496 (by decide) ?_
          refine E_iret dX4_accepts_497 (Or.inr ⟨rfl, by decide⟩) ?_
          rw [← b2i_f (P := (iItem a ∧ (b = -100 ∨ iIn b (nI 0) (nI 2)) ∧ iClass c ∧ iFar d) ∧ iFar e ∧ f = 0) (by ((try simp only [ltI, ge0, ge3, ge12, ge4, ge256, ge306, ge45, ge2, ge6] at *); grind))]; exact K
        · refine E_iload dX4_accepts_479 rfl ?_
          refine E_callS1 (fr' := 1) (k1 := 0) (n1 := 0) (k2 := 0) (n2 := 0) dX4_accepts_481 kO_X4_isStep kL_X4_52 rfl (by decide) (by decide) (by exact Nat.le_of_ble_eq_true rfl) (Or.inl rfl) rfl ?_
          refine sp_X4_isStep ?_
          refine gKv ?_
          refine E_if_eq_b (tgt := 496) dX4_accepts_484 (by decide) (fun c_484 => ?_) (fun c_484 => ?_)
          · refine E_iconst (v := nI 0) dX4_accepts_496 (by decide) ?_
            refine E_iret dX4_accepts_497 (Or.inr ⟨rfl, by decide⟩) ?_
            rw [← b2i_f (P := (iItem a ∧ (b = -100 ∨ iIn b (nI 0) (nI 2)) ∧ iClass c ∧ iFar d) ∧ iFar e ∧ f = 0) (by ((try simp only [ltI, ge0, ge3, ge12, ge4, ge256, ge306, ge45, ge2, ge6] at *); grind))]; exact K
          · refine E_iload dX4_accepts_487 rfl ?_
            refine E_if_ne (tgt := 496) dX4_accepts_489 (by decide) (fun c_489 => ?_) (fun c_489 => ?_)
            · refine E_iconst (v := nI 0) dX4_accepts_496 (by decide) ?_
              refine E_iret dX4_accepts_497 (Or.inr ⟨rfl, by decide⟩) ?_
              rw [← b2i_f (P := (iItem a ∧ (b = -100 ∨ iIn b (nI 0) (nI 2)) ∧ iClass c ∧ iFar d) ∧ iFar e ∧ f = 0) (by ((try simp only [ltI, ge0, ge3, ge12, ge4, ge256, ge306, ge45, ge2, ge6] at *); grind))]; exact K
            · refine E_iconst (v := nI 1) dX4_accepts_492 (by decide) ?_
              refine E_goto (tgt := 497) dX4_accepts_493 (by decide) ?_
              refine E_iret dX4_accepts_497 (Or.inr ⟨rfl, by decide⟩) ?_
              rw [← b2i_t (P := (iItem a ∧ (b = -100 ∨ iIn b (nI 0) (nI 2)) ∧ iClass c ∧ iFar d) ∧ iFar e ∧ f = 0) (by ((try simp only [ltI, ge0, ge3, ge12, ge4, ge256, ge306, ge45, ge2, ge6] at *); grind))]; exact K
    · refine E_iload_n dX4_accepts_455 rfl ?_
      refine E_if_lt (tgt := 496) dX4_accepts_456 (by decide) (fun c_456 => ?_) (fun c_456 => ?_)
      · refine E_iconst (v := nI 0) dX4_accepts_496 (by decide) ?_
        refine E_iret dX4_accepts_497 (Or.inr ⟨rfl, by decide⟩) ?_
        rw [← b2i_f (P := (iItem a ∧ (b = -100 ∨ iIn b (nI 0) (nI 2)) ∧ iClass c ∧ iFar d) ∧ iFar e ∧ f = 0) (by ((try simp only [ltI, ge0, ge3, ge12, ge4, ge256, ge306, ge45, ge2, ge6] at *); grind))]; exact K
      · refine E_iload_n dX4_accepts_459 rfl ?_
        refine E_iconst (v := nI 3) dX4_accepts_460 (by decide) ?_
        refine E_icmp_ge (tgt := 496) dX4_accepts_461 (by decide) (fun c_461 => ?_) (fun c_461 => ?_)
        · refine E_iconst (v := nI 0) dX4_accepts_496 (by decide) ?_
          refine E_iret dX4_accepts_497 (Or.inr ⟨rfl, by decide⟩) ?_
          rw [← b2i_f (P := (iItem a ∧ (b = -100 ∨ iIn b (nI 0) (nI 2)) ∧ iClass c ∧ iFar d) ∧ iFar e ∧ f = 0) (by ((try simp only [ltI, ge0, ge3, ge12, ge4, ge256, ge306, ge45, ge2, ge6] at *); grind))]; exact K
        · refine E_iload_n dX4_accepts_464 rfl ?_
          refine E_callS1 (fr' := 1) (k1 := 0) (n1 := 0) (k2 := 0) (n2 := 0) dX4_accepts_465 kO_X4_isClass kL_X4_55 rfl (by decide) (by decide) (by exact Nat.le_of_ble_eq_true rfl) (Or.inl rfl) rfl ?_
          refine sp_X4_isClass ?_
          refine gKv ?_
          refine E_if_eq_b (tgt := 496) dX4_accepts_468 (by decide) (fun c_468 => ?_) (fun c_468 => ?_)
          · refine E_iconst (v := nI 0) dX4_accepts_496 (by decide) ?_
            refine E_iret dX4_accepts_497 (Or.inr ⟨rfl, by decide⟩) ?_
            rw [← b2i_f (P := (iItem a ∧ (b = -100 ∨ iIn b (nI 0) (nI 2)) ∧ iClass c ∧ iFar d) ∧ iFar e ∧ f = 0) (by ((try simp only [ltI, ge0, ge3, ge12, ge4, ge256, ge306, ge45, ge2, ge6] at *); grind))]; exact K
          · refine E_iload dX4_accepts_471 rfl ?_
            refine E_callS1 (fr' := 1) (k1 := 0) (n1 := 0) (k2 := 0) (n2 := 0) dX4_accepts_473 kO_X4_isStep kL_X4_52 rfl (by decide) (by decide) (by exact Nat.le_of_ble_eq_true rfl) (Or.inl rfl) rfl ?_
            refine sp_X4_isStep ?_
            refine gKv ?_
            refine E_if_eq_b (tgt := 496) dX4_accepts_476 (by decide) (fun c_476 => ?_) (fun c_476 => ?_)
            · refine E_iconst (v := nI 0) dX4_accepts_496 (by decide) ?_
              refine E_iret dX4_accepts_497 (Or.inr ⟨rfl, by decide⟩) ?_
              rw [← b2i_f (P := (iItem a ∧ (b = -100 ∨ iIn b (nI 0) (nI 2)) ∧ iClass c ∧ iFar d) ∧ iFar e ∧ f = 0) (by ((try simp only [ltI, ge0, ge3, ge12, ge4, ge256, ge306, ge45, ge2, ge6] at *); grind))]; exact K
            · refine E_iload dX4_accepts_479 rfl ?_
              refine E_callS1 (fr' := 1) (k1 := 0) (n1 := 0) (k2 := 0) (n2 := 0) dX4_accepts_481 kO_X4_isStep kL_X4_52 rfl (by decide) (by decide) (by exact Nat.le_of_ble_eq_true rfl) (Or.inl rfl) rfl ?_
              refine sp_X4_isStep ?_
              refine gKv ?_
              refine E_if_eq_b (tgt := 496) dX4_accepts_484 (by decide) (fun c_484 => ?_) (fun c_484 => ?_)
              · refine E_iconst (v := nI 0) dX4_accepts_496 (by decide) ?_
                refine E_iret dX4_accepts_497 (Or.inr ⟨rfl, by decide⟩) ?_
                rw [← b2i_f (P := (iItem a ∧ (b = -100 ∨ iIn b (nI 0) (nI 2)) ∧ iClass c ∧ iFar d) ∧ iFar e ∧ f = 0) (by ((try simp only [ltI, ge0, ge3, ge12, ge4, ge256, ge306, ge45, ge2, ge6] at *); grind))]; exact K
              · refine E_iload dX4_accepts_487 rfl ?_
                refine E_if_ne (tgt := 496) dX4_accepts_489 (by decide) (fun c_489 => ?_) (fun c_489 => ?_)
                · refine E_iconst (v := nI 0) dX4_accepts_496 (by decide) ?_
                  refine E_iret dX4_accepts_497 (Or.inr ⟨rfl, by decide⟩) ?_
                  rw [← b2i_f (P := (iItem a ∧ (b = -100 ∨ iIn b (nI 0) (nI 2)) ∧ iClass c ∧ iFar d) ∧ iFar e ∧ f = 0) (by ((try simp only [ltI, ge0, ge3, ge12, ge4, ge256, ge306, ge45, ge2, ge6] at *); grind))]; exact K
                · refine E_iconst (v := nI 1) dX4_accepts_492 (by decide) ?_
                  refine E_goto (tgt := 497) dX4_accepts_493 (by decide) ?_
                  refine E_iret dX4_accepts_497 (Or.inr ⟨rfl, by decide⟩) ?_
                  rw [← b2i_t (P := (iItem a ∧ (b = -100 ∨ iIn b (nI 0) (nI 2)) ∧ iClass c ∧ iFar d) ∧ iFar e ∧ f = 0) (by ((try simp only [ltI, ge0, ge3, ge12, ge4, ge256, ge306, ge45, ge2, ge6] at *); grind))]; exact K
set_option maxRecDepth 100000 in
set_option maxHeartbeats 4000000 in
theorem sp_X4_accepts9 {g : gG} {M : gM} {Q : Option Value ⊕ String → gM → Prop} {p : Nat} (hp : p < mN M) (hk : mK M p = (4, 0)) (hv : mI M p 0 = nI 9) {a b c d e f : Int32} (K : Q (.inl (some (.int (b2i ((iItem a ∧ iClass b ∧ iFar c ∧ iFar d) ∧ e = 0 ∧ f = 0))))) M) : E g 4 0 0 mX4_accepts 0 [.ref (p + 1), .int a, .int b, .int c, .int d, .int e, .int f] [] M Q := by
  refine E_aload_n dX4_accepts_0 rfl ?_
  refine E_getIL (v := nI 9) dX4_accepts_1 kF_X4_24 kY_4 (Or.inl rfl) (hp) (hk) hv ?_
  refine E_swOut (tgt := 498) dX4_accepts_4 (by decide) (by decide) ?_
  refine E_iload_n dX4_accepts_498 rfl ?_
  refine E_callS1 (fr' := 2) (k1 := 0) (n1 := 0) (k2 := 0) (n2 := 0) dX4_accepts_499 kO_X11_isItem kL_X4_42 rfl (by decide) (by decide) (by exact Nat.le_of_ble_eq_true rfl) (Or.inl rfl) rfl ?_
  refine sp_X11_isItem ?_
  refine gKv ?_
  refine E_if_eq_b (tgt := 541) dX4_accepts_502 (by decide) (fun c_502 => ?_) (fun c_502 => ?_)
  · refine E_iconst (v := nI 0) dX4_accepts_541 (by decide) ?_
    refine E_iret dX4_accepts_542 (Or.inr ⟨rfl, by decide⟩) ?_
    rw [← b2i_f (P := (iItem a ∧ iClass b ∧ iFar c ∧ iFar d) ∧ e = 0 ∧ f = 0) (by ((try simp only [ltI, ge0, ge3, ge12, ge4, ge256, ge306, ge45, ge2, ge6] at *); grind))]; exact K
  · refine E_iload_n dX4_accepts_505 rfl ?_
    refine E_callS1 (fr' := 1) (k1 := 0) (n1 := 0) (k2 := 0) (n2 := 0) dX4_accepts_506 kO_X4_isClass kL_X4_55 rfl (by decide) (by decide) (by exact Nat.le_of_ble_eq_true rfl) (Or.inl rfl) rfl ?_
    refine sp_X4_isClass ?_
    refine gKv ?_
    refine E_if_eq_b (tgt := 541) dX4_accepts_509 (by decide) (fun c_509 => ?_) (fun c_509 => ?_)
    · refine E_iconst (v := nI 0) dX4_accepts_541 (by decide) ?_
      refine E_iret dX4_accepts_542 (Or.inr ⟨rfl, by decide⟩) ?_
      rw [← b2i_f (P := (iItem a ∧ iClass b ∧ iFar c ∧ iFar d) ∧ e = 0 ∧ f = 0) (by ((try simp only [ltI, ge0, ge3, ge12, ge4, ge256, ge306, ge45, ge2, ge6] at *); grind))]; exact K
    · refine E_iload_n dX4_accepts_512 rfl ?_
      refine E_callS1 (fr' := 1) (k1 := 0) (n1 := 0) (k2 := 0) (n2 := 0) dX4_accepts_513 kO_X4_isStep kL_X4_52 rfl (by decide) (by decide) (by exact Nat.le_of_ble_eq_true rfl) (Or.inl rfl) rfl ?_
      refine sp_X4_isStep ?_
      refine gKv ?_
      refine E_if_eq_b (tgt := 541) dX4_accepts_516 (by decide) (fun c_516 => ?_) (fun c_516 => ?_)
      · refine E_iconst (v := nI 0) dX4_accepts_541 (by decide) ?_
        refine E_iret dX4_accepts_542 (Or.inr ⟨rfl, by decide⟩) ?_
        rw [← b2i_f (P := (iItem a ∧ iClass b ∧ iFar c ∧ iFar d) ∧ e = 0 ∧ f = 0) (by ((try simp only [ltI, ge0, ge3, ge12, ge4, ge256, ge306, ge45, ge2, ge6] at *); grind))]; exact K
      · refine E_iload dX4_accepts_519 rfl ?_
        refine E_callS1 (fr' := 1) (k1 := 0) (n1 := 0) (k2 := 0) (n2 := 0) dX4_accepts_521 kO_X4_isStep kL_X4_52 rfl (by decide) (by decide) (by exact Nat.le_of_ble_eq_true rfl) (Or.inl rfl) rfl ?_
        refine sp_X4_isStep ?_
        refine gKv ?_
        refine E_if_eq_b (tgt := 541) dX4_accepts_524 (by decide) (fun c_524 => ?_) (fun c_524 => ?_)
        · refine E_iconst (v := nI 0) dX4_accepts_541 (by decide) ?_
          refine E_iret dX4_accepts_542 (Or.inr ⟨rfl, by decide⟩) ?_
          rw [← b2i_f (P := (iItem a ∧ iClass b ∧ iFar c ∧ iFar d) ∧ e = 0 ∧ f = 0) (by ((try simp only [ltI, ge0, ge3, ge12, ge4, ge256, ge306, ge45, ge2, ge6] at *); grind))]; exact K
        · refine E_iload dX4_accepts_527 rfl ?_
          refine E_if_ne (tgt := 541) dX4_accepts_529 (by decide) (fun c_529 => ?_) (fun c_529 => ?_)
          · refine E_iconst (v := nI 0) dX4_accepts_541 (by decide) ?_
            refine E_iret dX4_accepts_542 (Or.inr ⟨rfl, by decide⟩) ?_
            rw [← b2i_f (P := (iItem a ∧ iClass b ∧ iFar c ∧ iFar d) ∧ e = 0 ∧ f = 0) (by ((try simp only [ltI, ge0, ge3, ge12, ge4, ge256, ge306, ge45, ge2, ge6] at *); grind))]; exact K
          · refine E_iload dX4_accepts_532 rfl ?_
            refine E_if_ne (tgt := 541) dX4_accepts_534 (by decide) (fun c_534 => ?_) (fun c_534 => ?_)
            · refine E_iconst (v := nI 0) dX4_accepts_541 (by decide) ?_
              refine E_iret dX4_accepts_542 (Or.inr ⟨rfl, by decide⟩) ?_
              rw [← b2i_f (P := (iItem a ∧ iClass b ∧ iFar c ∧ iFar d) ∧ e = 0 ∧ f = 0) (by ((try simp only [ltI, ge0, ge3, ge12, ge4, ge256, ge306, ge45, ge2, ge6] at *); grind))]; exact K
            · refine E_iconst (v := nI 1) dX4_accepts_537 (by decide) ?_
              refine E_goto (tgt := 542) dX4_accepts_538 (by decide) ?_
              refine E_iret dX4_accepts_542 (Or.inr ⟨rfl, by decide⟩) ?_
              rw [← b2i_t (P := (iItem a ∧ iClass b ∧ iFar c ∧ iFar d) ∧ e = 0 ∧ f = 0) (by ((try simp only [ltI, ge0, ge3, ge12, ge4, ge256, ge306, ge45, ge2, ge6] at *); grind))]; exact K
theorem sp_X4_accepts {g : gG} {M : gM} {Q : Option Value ⊕ String → gM → Prop} {p j : Nat} (hp : p < mN M) (hk : mK M p = (4, 0)) (hj : j < 10) (hv : mI M p 0 = nI j) {a b c d e f : Int32} (K : Q (.inl (some (.int (b2i (iRl j a b c d e f))))) M) : E g 4 0 0 mX4_accepts 0 [.ref (p + 1), .int a, .int b, .int c, .int d, .int e, .int f] [] M Q := by
  rcases (show j = 0 ∨ j = 1 ∨ j = 2 ∨ j = 3 ∨ j = 4 ∨ j = 5 ∨ j = 6 ∨ j = 7 ∨ j = 8 ∨ j = 9 by omega) with rfl | rfl | rfl | rfl | rfl | rfl | rfl | rfl | rfl | rfl
  · exact sp_X4_accepts0 hp hk hv (by rw [b2i_congr (R := iRl 0 a b c d e f) (by simp [iRl, iFour, iLast])]; exact K)
  · exact sp_X4_accepts1 hp hk hv (by rw [b2i_congr (R := iRl 1 a b c d e f) (by simp [iRl, iFour, iLast])]; exact K)
  · exact sp_X4_accepts2 hp hk hv (by rw [b2i_congr (R := iRl 2 a b c d e f) (by simp [iRl, iFour, iLast])]; exact K)
  · exact sp_X4_accepts3 hp hk hv (by rw [b2i_congr (R := iRl 3 a b c d e f) (by simp [iRl, iFour, iLast])]; exact K)
  · exact sp_X4_accepts4 hp hk hv (by rw [b2i_congr (R := iRl 4 a b c d e f) (by simp [iRl, iFour, iLast])]; exact K)
  · exact sp_X4_accepts5 hp hk hv (by rw [b2i_congr (R := iRl 5 a b c d e f) (by simp [iRl, iFour, iLast])]; exact K)
  · exact sp_X4_accepts6 hp hk hv (by rw [b2i_congr (R := iRl 6 a b c d e f) (by simp [iRl, iFour, iLast])]; exact K)
  · exact sp_X4_accepts7 hp hk hv (by rw [b2i_congr (R := iRl 7 a b c d e f) (by simp [iRl, iFour, iLast])]; exact K)
  · exact sp_X4_accepts8 hp hk hv (by rw [b2i_congr (R := iRl 8 a b c d e f) (by simp [iRl, iFour, iLast])]; exact K)
  · exact sp_X4_accepts9 hp hk hv (by rw [b2i_congr (R := iRl 9 a b c d e f) (by simp [iRl, iFour, iLast])]; exact K)
