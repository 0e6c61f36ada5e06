/-! the reference: what it asks of numbers -/
abbrev iIn (v a b : Int32) : Prop := a ≤ v ∧ v ≤ b
abbrev iSign (s : Int32) : Prop := iIn s (nI 0) (nI 23) ∨ iIn s (nI 30) (nI 44)
abbrev iGlyph (v : Int32) : Prop := iIn v (nI 0) (nI 255)
abbrev iItem (v : Int32) : Prop := iGlyph v ∨ iIn v (nI 300) (nI 305)
abbrev iItemN (v : Int32) : Prop := v = -100 ∨ iItem v
abbrev iGlyphN (v : Int32) : Prop := v = -100 ∨ iGlyph v
abbrev iFar (v : Int32) : Prop := iIn v (-50) (nI 50)
abbrev iFarN (v : Int32) : Prop := v = -100 ∨ iFar v
abbrev iClass (v : Int32) : Prop := iIn v (nI 0) (nI 3)
abbrev iMarkS (s : Int32) : Prop := iIn s (nI 21) (nI 23)
abbrev iCons (s : Int32) : Prop := iIn s (nI 30) (nI 38)
abbrev iVow (s : Int32) : Prop := iIn s (nI 40) (nI 42) ∨ s = nI 44
set_option maxRecDepth 100000 in
set_option maxHeartbeats 4000000 in
theorem sp_X12_in {g : gG} {M : gM} {Q : Option Value ⊕ String → gM → Prop} {v a b : Int32}  (K : Q (.inl (some (.int (b2i (iIn v a b))))) M) : E g 1 0 0 mX12_in 0 [.int v, .int a, .int b] [] M Q := by
  refine E_iload_n dX12_in_0 rfl ?_
  refine E_iload_n dX12_in_1 rfl ?_
  refine E_icmp_lt (tgt := 14) dX12_in_2 (by decide) (fun c_2 => ?_) (fun c_2 => ?_)
  · refine E_iconst (v := nI 0) dX12_in_14 (by decide) ?_
    refine E_iret dX12_in_15 (Or.inr ⟨rfl, by decide⟩) ?_
    rw [← b2i_f (P := iIn v a b) (by simp only [iIn, Int32.lt_iff_toInt_lt, Int32.le_iff_toInt_le] at *; omega)]; exact K
  · refine E_iload_n dX12_in_5 rfl ?_
    refine E_iload_n dX12_in_6 rfl ?_
    refine E_icmp_gt (tgt := 14) dX12_in_7 (by decide) (fun c_7 => ?_) (fun c_7 => ?_)
    · refine E_iconst (v := nI 0) dX12_in_14 (by decide) ?_
      refine E_iret dX12_in_15 (Or.inr ⟨rfl, by decide⟩) ?_
      rw [← b2i_f (P := iIn v a b) (by simp only [iIn, Int32.lt_iff_toInt_lt, Int32.le_iff_toInt_le] at *; omega)]; exact K
    · refine E_iconst (v := nI 1) dX12_in_10 (by decide) ?_
      refine E_goto (tgt := 15) dX12_in_11 (by decide) ?_
      refine E_iret dX12_in_15 (Or.inr ⟨rfl, by decide⟩) ?_
      rw [← b2i_t (P := iIn v a b) (by simp only [iIn, Int32.lt_iff_toInt_lt, Int32.le_iff_toInt_le] at *; omega)]; exact K
set_option maxRecDepth 100000 in
set_option maxHeartbeats 4000000 in
theorem sp_X12_isSign {g : gG} {M : gM} {Q : Option Value ⊕ String → gM → Prop} {s : Int32}  (K : Q (.inl (some (.int (b2i (iSign s))))) M) : E g 2 0 0 mX12_isSign 0 [.int s] [] M Q := by
  refine E_iload_n dX12_isSign_0 rfl ?_
  refine E_iconst (v := nI 0) dX12_isSign_1 (by decide) ?_
  refine E_bipush (v := nI 23) dX12_isSign_2 (by decide) ?_
  refine E_callS3 (fr' := 1) (k1 := 0) (n1 := 0) (k2 := 0) (n2 := 0) dX12_isSign_4 kO_X12_in kL_X12_162 rfl rfl rfl (by decide) (by decide) (by exact Nat.le_of_ble_eq_true rfl) (Or.inl rfl) rfl ?_
  refine sp_X12_in ?_
  refine gKv ?_
  refine E_if_ne_b (tgt := 21) dX12_isSign_7 (by decide) (fun c_7 => ?_) (fun c_7 => ?_)
  · refine E_iconst (v := nI 1) dX12_isSign_21 (by decide) ?_
    refine E_goto (tgt := 26) dX12_isSign_22 (by decide) ?_
    refine E_iret dX12_isSign_26 (Or.inr ⟨rfl, by decide⟩) ?_
    rw [← b2i_t (P := iSign s) (by grind)]; exact K
  · refine E_iload_n dX12_isSign_10 rfl ?_
    refine E_bipush (v := nI 30) dX12_isSign_11 (by decide) ?_
    refine E_bipush (v := nI 44) dX12_isSign_13 (by decide) ?_
    refine E_callS3 (fr' := 1) (k1 := 0) (n1 := 0) (k2 := 0) (n2 := 0) dX12_isSign_15 kO_X12_in kL_X12_162 rfl rfl rfl (by decide) (by decide) (by exact Nat.le_of_ble_eq_true rfl) (Or.inl rfl) rfl ?_
    refine sp_X12_in ?_
    refine gKv ?_
    refine E_if_eq_b (tgt := 25) dX12_isSign_18 (by decide) (fun c_18 => ?_) (fun c_18 => ?_)
    · refine E_iconst (v := nI 0) dX12_isSign_25 (by decide) ?_
      refine E_iret dX12_isSign_26 (Or.inr ⟨rfl, by decide⟩) ?_
      rw [← b2i_f (P := iSign s) (by grind)]; exact K
    · refine E_iconst (v := nI 1) dX12_isSign_21 (by decide) ?_
      refine E_goto (tgt := 26) dX12_isSign_22 (by decide) ?_
      refine E_iret dX12_isSign_26 (Or.inr ⟨rfl, by decide⟩) ?_
      rw [← b2i_t (P := iSign s) (by grind)]; exact K
set_option maxRecDepth 100000 in
set_option maxHeartbeats 4000000 in
theorem sp_X12_isGlyph {g : gG} {M : gM} {Q : Option Value ⊕ String → gM → Prop} {v : Int32}  (K : Q (.inl (some (.int (b2i (iGlyph v))))) M) : E g 2 0 0 mX12_isGlyph 0 [.int v] [] M Q := by
  refine E_iload_n dX12_isGlyph_0 rfl ?_
  refine E_iconst (v := nI 0) dX12_isGlyph_1 (by decide) ?_
  refine E_sipush (v := nI 255) dX12_isGlyph_2 (by decide) ?_
  refine E_callS3 (fr' := 1) (k1 := 0) (n1 := 0) (k2 := 0) (n2 := 0) dX12_isGlyph_5 kO_X12_in kL_X12_162 rfl rfl rfl (by decide) (by decide) (by exact Nat.le_of_ble_eq_true rfl) (Or.inl rfl) rfl ?_
  refine sp_X12_in ?_
  refine gKv ?_
  refine E_iret dX12_isGlyph_8 (Or.inr ⟨rfl, b2i_01 _⟩) ?_
  rw [b2i_congr (R := iGlyph v) (by grind)]; exact K
set_option maxRecDepth 100000 in
set_option maxHeartbeats 4000000 in
theorem sp_X12_isItem {g : gG} {M : gM} {Q : Option Value ⊕ String → gM → Prop} {v : Int32}  (K : Q (.inl (some (.int (b2i (iItem v))))) M) : E g 3 0 0 mX12_isItem 0 [.int v] [] M Q := by
  refine E_iload_n dX12_isItem_0 rfl ?_
  refine E_callS1 (fr' := 2) (k1 := 0) (n1 := 0) (k2 := 0) (n2 := 0) dX12_isItem_1 kO_X12_isGlyph kL_X12_172 rfl (by decide) (by decide) (by exact Nat.le_of_ble_eq_true rfl) (Or.inl rfl) rfl ?_
  refine sp_X12_isGlyph ?_
  refine gKv ?_
  refine E_if_ne_b (tgt := 20) dX12_isItem_4 (by decide) (fun c_4 => ?_) (fun c_4 => ?_)
  · refine E_iconst (v := nI 1) dX12_isItem_20 (by decide) ?_
    refine E_goto (tgt := 25) dX12_isItem_21 (by decide) ?_
    refine E_iret dX12_isItem_25 (Or.inr ⟨rfl, by decide⟩) ?_
    rw [← b2i_t (P := iItem v) (by grind)]; exact K
  · refine E_iload_n dX12_isItem_7 rfl ?_
    refine E_sipush (v := nI 300) dX12_isItem_8 (by decide) ?_
    refine E_sipush (v := nI 305) dX12_isItem_11 (by decide) ?_
    refine E_callS3 (fr' := 1) (k1 := 0) (n1 := 0) (k2 := 0) (n2 := 0) dX12_isItem_14 kO_X12_in kL_X12_162 rfl rfl rfl (by decide) (by decide) (by exact Nat.le_of_ble_eq_true rfl) (Or.inl rfl) rfl ?_
    refine sp_X12_in ?_
    refine gKv ?_
    refine E_if_eq_b (tgt := 24) dX12_isItem_17 (by decide) (fun c_17 => ?_) (fun c_17 => ?_)
    · refine E_iconst (v := nI 0) dX12_isItem_24 (by decide) ?_
      refine E_iret dX12_isItem_25 (Or.inr ⟨rfl, by decide⟩) ?_
      rw [← b2i_f (P := iItem v) (by grind)]; exact K
    · refine E_iconst (v := nI 1) dX12_isItem_20 (by decide) ?_
      refine E_goto (tgt := 25) dX12_isItem_21 (by decide) ?_
      refine E_iret dX12_isItem_25 (Or.inr ⟨rfl, by decide⟩) ?_
      rw [← b2i_t (P := iItem v) (by grind)]; exact K
set_option maxRecDepth 100000 in
set_option maxHeartbeats 4000000 in
theorem sp_X12_isItemOrNone {g : gG} {M : gM} {Q : Option Value ⊕ String → gM → Prop} {v : Int32}  (K : Q (.inl (some (.int (b2i (iItemN v))))) M) : E g 4 0 0 mX12_isItemOrNone 0 [.int v] [] M Q := by
  refine E_iload_n dX12_isItemOrNone_0 rfl ?_
  refine E_bipush (v := -100) dX12_isItemOrNone_1 (by decide) ?_
  refine E_icmp_eq (tgt := 13) dX12_isItemOrNone_3 (by decide) (fun c_3 => ?_) (fun c_3 => ?_)
  · refine E_iconst (v := nI 1) dX12_isItemOrNone_13 (by decide) ?_
    refine E_goto (tgt := 18) dX12_isItemOrNone_14 (by decide) ?_
    refine E_iret dX12_isItemOrNone_18 (Or.inr ⟨rfl, by decide⟩) ?_
    rw [← b2i_t (P := iItemN v) (by grind)]; exact K
  · refine E_iload_n dX12_isItemOrNone_6 rfl ?_
    refine E_callS1 (fr' := 3) (k1 := 0) (n1 := 0) (k2 := 0) (n2 := 0) dX12_isItemOrNone_7 kO_X12_isItem kL_X12_176 rfl (by decide) (by decide) (by exact Nat.le_of_ble_eq_true rfl) (Or.inl rfl) rfl ?_
    refine sp_X12_isItem ?_
    refine gKv ?_
    refine E_if_eq_b (tgt := 17) dX12_isItemOrNone_10 (by decide) (fun c_10 => ?_) (fun c_10 => ?_)
    · refine E_iconst (v := nI 0) dX12_isItemOrNone_17 (by decide) ?_
      refine E_iret dX12_isItemOrNone_18 (Or.inr ⟨rfl, by decide⟩) ?_
      rw [← b2i_f (P := iItemN v) (by grind)]; exact K
    · refine E_iconst (v := nI 1) dX12_isItemOrNone_13 (by decide) ?_
      refine E_goto (tgt := 18) dX12_isItemOrNone_14 (by decide) ?_
      refine E_iret dX12_isItemOrNone_18 (Or.inr ⟨rfl, by decide⟩) ?_
      rw [← b2i_t (P := iItemN v) (by grind)]; exact K
set_option maxRecDepth 100000 in
set_option maxHeartbeats 4000000 in
theorem sp_X12_isGlyphOrNone {g : gG} {M : gM} {Q : Option Value ⊕ String → gM → Prop} {v : Int32}  (K : Q (.inl (some (.int (b2i (iGlyphN v))))) M) : E g 3 0 0 mX12_isGlyphOrNone 0 [.int v] [] M Q := by
  refine E_iload_n dX12_isGlyphOrNone_0 rfl ?_
  refine E_bipush (v := -100) dX12_isGlyphOrNone_1 (by decide) ?_
  refine E_icmp_eq (tgt := 13) dX12_isGlyphOrNone_3 (by decide) (fun c_3 => ?_) (fun c_3 => ?_)
  · refine E_iconst (v := nI 1) dX12_isGlyphOrNone_13 (by decide) ?_
    refine E_goto (tgt := 18) dX12_isGlyphOrNone_14 (by decide) ?_
    refine E_iret dX12_isGlyphOrNone_18 (Or.inr ⟨rfl, by decide⟩) ?_
    rw [← b2i_t (P := iGlyphN v) (by grind)]; exact K
  · refine E_iload_n dX12_isGlyphOrNone_6 rfl ?_
    refine E_callS1 (fr' := 2) (k1 := 0) (n1 := 0) (k2 := 0) (n2 := 0) dX12_isGlyphOrNone_7 kO_X12_isGlyph kL_X12_172 rfl (by decide) (by decide) (by exact Nat.le_of_ble_eq_true rfl) (Or.inl rfl) rfl ?_
    refine sp_X12_isGlyph ?_
    refine gKv ?_
    refine E_if_eq_b (tgt := 17) dX12_isGlyphOrNone_10 (by decide) (fun c_10 => ?_) (fun c_10 => ?_)
    · refine E_iconst (v := nI 0) dX12_isGlyphOrNone_17 (by decide) ?_
      refine E_iret dX12_isGlyphOrNone_18 (Or.inr ⟨rfl, by decide⟩) ?_
      rw [← b2i_f (P := iGlyphN v) (by grind)]; exact K
    · refine E_iconst (v := nI 1) dX12_isGlyphOrNone_13 (by decide) ?_
      refine E_goto (tgt := 18) dX12_isGlyphOrNone_14 (by decide) ?_
      refine E_iret dX12_isGlyphOrNone_18 (Or.inr ⟨rfl, by decide⟩) ?_
      rw [← b2i_t (P := iGlyphN v) (by grind)]; exact K
set_option maxRecDepth 100000 in
set_option maxHeartbeats 4000000 in
theorem sp_X12_isFar {g : gG} {M : gM} {Q : Option Value ⊕ String → gM → Prop} {v : Int32}  (K : Q (.inl (some (.int (b2i (iFar v))))) M) : E g 2 0 0 mX12_isFar 0 [.int v] [] M Q := by
  refine E_iload_n dX12_isFar_0 rfl ?_
  refine E_bipush (v := -50) dX12_isFar_1 (by decide) ?_
  refine E_bipush (v := nI 50) dX12_isFar_3 (by decide) ?_
  refine E_callS3 (fr' := 1) (k1 := 0) (n1 := 0) (k2 := 0) (n2 := 0) dX12_isFar_5 kO_X12_in kL_X12_162 rfl rfl rfl (by decide) (by decide) (by exact Nat.le_of_ble_eq_true rfl) (Or.inl rfl) rfl ?_
  refine sp_X12_in ?_
  refine gKv ?_
  refine E_iret dX12_isFar_8 (Or.inr ⟨rfl, b2i_01 _⟩) ?_
  rw [b2i_congr (R := iFar v) (by grind)]; exact K
set_option maxRecDepth 100000 in
set_option maxHeartbeats 4000000 in
theorem sp_X12_isFarOrNone {g : gG} {M : gM} {Q : Option Value ⊕ String → gM → Prop} {v : Int32}  (K : Q (.inl (some (.int (b2i (iFarN v))))) M) : E g 3 0 0 mX12_isFarOrNone 0 [.int v] [] M Q := by
  refine E_iload_n dX12_isFarOrNone_0 rfl ?_
  refine E_bipush (v := -100) dX12_isFarOrNone_1 (by decide) ?_
  refine E_icmp_eq (tgt := 13) dX12_isFarOrNone_3 (by decide) (fun c_3 => ?_) (fun c_3 => ?_)
  · refine E_iconst (v := nI 1) dX12_isFarOrNone_13 (by decide) ?_
    refine E_goto (tgt := 18) dX12_isFarOrNone_14 (by decide) ?_
    refine E_iret dX12_isFarOrNone_18 (Or.inr ⟨rfl, by decide⟩) ?_
    rw [← b2i_t (P := iFarN v) (by grind)]; exact K
  · refine E_iload_n dX12_isFarOrNone_6 rfl ?_
    refine E_callS1 (fr' := 2) (k1 := 0) (n1 := 0) (k2 := 0) (n2 := 0) dX12_isFarOrNone_7 kO_X12_isFar kL_X12_179 rfl (by decide) (by decide) (by exact Nat.le_of_ble_eq_true rfl) (Or.inl rfl) rfl ?_
    refine sp_X12_isFar ?_
    refine gKv ?_
    refine E_if_eq_b (tgt := 17) dX12_isFarOrNone_10 (by decide) (fun c_10 => ?_) (fun c_10 => ?_)
    · refine E_iconst (v := nI 0) dX12_isFarOrNone_17 (by decide) ?_
      refine E_iret dX12_isFarOrNone_18 (Or.inr ⟨rfl, by decide⟩) ?_
      rw [← b2i_f (P := iFarN v) (by grind)]; exact K
    · refine E_iconst (v := nI 1) dX12_isFarOrNone_13 (by decide) ?_
      refine E_goto (tgt := 18) dX12_isFarOrNone_14 (by decide) ?_
      refine E_iret dX12_isFarOrNone_18 (Or.inr ⟨rfl, by decide⟩) ?_
      rw [← b2i_t (P := iFarN v) (by grind)]; exact K
set_option maxRecDepth 100000 in
set_option maxHeartbeats 4000000 in
theorem sp_X12_isClass {g : gG} {M : gM} {Q : Option Value ⊕ String → gM → Prop} {v : Int32}  (K : Q (.inl (some (.int (b2i (iClass v))))) M) : E g 2 0 0 mX12_isClass 0 [.int v] [] M Q := by
  refine E_iload_n dX12_isClass_0 rfl ?_
  refine E_iconst (v := nI 0) dX12_isClass_1 (by decide) ?_
  refine E_iconst (v := nI 3) dX12_isClass_2 (by decide) ?_
  refine E_callS3 (fr' := 1) (k1 := 0) (n1 := 0) (k2 := 0) (n2 := 0) dX12_isClass_3 kO_X12_in kL_X12_162 rfl rfl rfl (by decide) (by decide) (by exact Nat.le_of_ble_eq_true rfl) (Or.inl rfl) rfl ?_
  refine sp_X12_in ?_
  refine gKv ?_
  refine E_iret dX12_isClass_6 (Or.inr ⟨rfl, b2i_01 _⟩) ?_
  rw [b2i_congr (R := iClass v) (by grind)]; exact K
set_option maxRecDepth 100000 in
set_option maxHeartbeats 4000000 in
theorem sp_X12_isMarkSign {g : gG} {M : gM} {Q : Option Value ⊕ String → gM → Prop} {s : Int32}  (K : Q (.inl (some (.int (b2i (iMarkS s))))) M) : E g 2 0 0 mX12_isMarkSign 0 [.int s] [] M Q := by
  refine E_iload_n dX12_isMarkSign_0 rfl ?_
  refine E_bipush (v := nI 21) dX12_isMarkSign_1 (by decide) ?_
  refine E_bipush (v := nI 23) dX12_isMarkSign_3 (by decide) ?_
  refine E_callS3 (fr' := 1) (k1 := 0) (n1 := 0) (k2 := 0) (n2 := 0) dX12_isMarkSign_5 kO_X12_in kL_X12_162 rfl rfl rfl (by decide) (by decide) (by exact Nat.le_of_ble_eq_true rfl) (Or.inl rfl) rfl ?_
  refine sp_X12_in ?_
  refine gKv ?_
  refine E_iret dX12_isMarkSign_8 (Or.inr ⟨rfl, b2i_01 _⟩) ?_
  rw [b2i_congr (R := iMarkS s) (by grind)]; exact K
set_option maxRecDepth 100000 in
set_option maxHeartbeats 4000000 in
theorem sp_X12_isConsonant {g : gG} {M : gM} {Q : Option Value ⊕ String → gM → Prop} {s : Int32}  (K : Q (.inl (some (.int (b2i (iCons s))))) M) : E g 2 0 0 mX12_isConsonant 0 [.int s] [] M Q := by
  refine E_iload_n dX12_isConsonant_0 rfl ?_
  refine E_bipush (v := nI 30) dX12_isConsonant_1 (by decide) ?_
  refine E_bipush (v := nI 38) dX12_isConsonant_3 (by decide) ?_
  refine E_callS3 (fr' := 1) (k1 := 0) (n1 := 0) (k2 := 0) (n2 := 0) dX12_isConsonant_5 kO_X12_in kL_X12_162 rfl rfl rfl (by decide) (by decide) (by exact Nat.le_of_ble_eq_true rfl) (Or.inl rfl) rfl ?_
  refine sp_X12_in ?_
  refine gKv ?_
  refine E_iret dX12_isConsonant_8 (Or.inr ⟨rfl, b2i_01 _⟩) ?_
  rw [b2i_congr (R := iCons s) (by grind)]; exact K
set_option maxRecDepth 100000 in
set_option maxHeartbeats 4000000 in
theorem sp_X12_isVowel {g : gG} {M : gM} {Q : Option Value ⊕ String → gM → Prop} {s : Int32}  (K : Q (.inl (some (.int (b2i (iVow s))))) M) : E g 2 0 0 mX12_isVowel 0 [.int s] [] M Q := by
  refine E_iload_n dX12_isVowel_0 rfl ?_
  refine E_bipush (v := nI 40) dX12_isVowel_1 (by decide) ?_
  refine E_bipush (v := nI 42) dX12_isVowel_3 (by decide) ?_
  refine E_callS3 (fr' := 1) (k1 := 0) (n1 := 0) (k2 := 0) (n2 := 0) dX12_isVowel_5 kO_X12_in kL_X12_162 rfl rfl rfl (by decide) (by decide) (by exact Nat.le_of_ble_eq_true rfl) (Or.inl rfl) rfl ?_
  refine sp_X12_in ?_
  refine gKv ?_
  refine E_if_ne_b (tgt := 17) dX12_isVowel_8 (by decide) (fun c_8 => ?_) (fun c_8 => ?_)
  · refine E_iconst (v := nI 1) dX12_isVowel_17 (by decide) ?_
    refine E_goto (tgt := 22) dX12_isVowel_18 (by decide) ?_
    refine E_iret dX12_isVowel_22 (Or.inr ⟨rfl, by decide⟩) ?_
    rw [← b2i_t (P := iVow s) (by grind)]; exact K
  · refine E_iload_n dX12_isVowel_11 rfl ?_
    refine E_bipush (v := nI 44) dX12_isVowel_12 (by decide) ?_
    refine E_icmp_ne (tgt := 21) dX12_isVowel_14 (by decide) (fun c_14 => ?_) (fun c_14 => ?_)
    · refine E_iconst (v := nI 0) dX12_isVowel_21 (by decide) ?_
      refine E_iret dX12_isVowel_22 (Or.inr ⟨rfl, by decide⟩) ?_
      rw [← b2i_f (P := iVow s) (by grind)]; exact K
    · refine E_iconst (v := nI 1) dX12_isVowel_17 (by decide) ?_
      refine E_goto (tgt := 22) dX12_isVowel_18 (by decide) ?_
      refine E_iret dX12_isVowel_22 (Or.inr ⟨rfl, by decide⟩) ?_
      rw [← b2i_t (P := iVow s) (by grind)]; exact K
