/-- the first four numbers of a rule are as its kind tells -/
abbrev iFour (k : Nat) (a b c d : Int32) : Prop := if k = 0 then iItem a ∧ iGlyph b ∧ c = 0 ∧ d = 0 else if k = 1 then iItem a ∧ iGlyph b ∧ iGlyph c ∧ iGlyphN d else if k = 2 then iItem a ∧ iGlyph b ∧ iGlyph c ∧ iGlyph d else if k = 3 then iItem a ∧ iItem b ∧ iItemN c ∧ iGlyph d else if k = 4 then iItemN a ∧ iItem b ∧ iItemN c ∧ iItemN d else if k = 5 then iItemN a ∧ iItem b ∧ iItemN c ∧ iGlyph d else if k = 6 then iItem a ∧ iItem b ∧ iFar c ∧ d = 0 else if k = 7 then iItem a ∧ iFarN b ∧ iFarN c ∧ d = 0 else if k = 8 then iItem a ∧ (b = -100 ∨ iIn b (nI 0) (nI 2)) ∧ iClass c ∧ iFar d else iItem a ∧ iClass b ∧ iFar c ∧ iFar d
set_option maxRecDepth 100000 in
set_option maxHeartbeats 4000000 in
theorem sp_X12_areFour0 {g : gG} {M : gM} {Q : Option Value ⊕ String → gM → Prop} {a b c d : Int32} (K : Q (.inl (some (.int (b2i (iItem a ∧ iGlyph b ∧ c = 0 ∧ d = 0))))) M) : E g 5 0 0 mX12_areFour 0 [.int (nI 0), .int a, .int b, .int c, .int d] [] M Q := by
  refine E_iload_n dX12_areFour_0 rfl ?_
  refine E_swIn (off := 51) (tgt := 52) dX12_areFour_1 (by decide) (by decide) (by decide) (by decide) ?_
  refine E_iload_n dX12_areFour_52 rfl ?_
  refine E_callS1 (fr' := 3) (k1 := 0) (n1 := 0) (k2 := 0) (n2 := 0) dX12_areFour_53 kO_X12_isItem kL_X12_176 rfl (by decide) (by decide) (by exact Nat.le_of_ble_eq_true rfl) (Or.inl rfl) rfl ?_
  refine sp_X12_isItem ?_
  refine gKv ?_
  refine E_if_eq_b (tgt := 79) dX12_areFour_56 (by decide) (fun c_56 => ?_) (fun c_56 => ?_)
  · refine E_iconst (v := nI 0) dX12_areFour_79 (by decide) ?_
    refine E_iret dX12_areFour_80 (Or.inr ⟨rfl, by decide⟩) ?_
    rw [← b2i_f (P := iItem a ∧ iGlyph b ∧ c = 0 ∧ d = 0) (by grind)]; exact K
  · refine E_iload_n dX12_areFour_59 rfl ?_
    refine E_callS1 (fr' := 2) (k1 := 0) (n1 := 0) (k2 := 0) (n2 := 0) dX12_areFour_60 kO_X12_isGlyph kL_X12_172 rfl (by decide) (by decide) (by exact Nat.le_of_ble_eq_true rfl) (Or.inl rfl) rfl ?_
    refine sp_X12_isGlyph ?_
    refine gKv ?_
    refine E_if_eq_b (tgt := 79) dX12_areFour_63 (by decide) (fun c_63 => ?_) (fun c_63 => ?_)
    · refine E_iconst (v := nI 0) dX12_areFour_79 (by decide) ?_
      refine E_iret dX12_areFour_80 (Or.inr ⟨rfl, by decide⟩) ?_
      rw [← b2i_f (P := iItem a ∧ iGlyph b ∧ c = 0 ∧ d = 0) (by grind)]; exact K
    · refine E_iload_n dX12_areFour_66 rfl ?_
      refine E_if_ne (tgt := 79) dX12_areFour_67 (by decide) (fun c_67 => ?_) (fun c_67 => ?_)
      · refine E_iconst (v := nI 0) dX12_areFour_79 (by decide) ?_
        refine E_iret dX12_areFour_80 (Or.inr ⟨rfl, by decide⟩) ?_
        rw [← b2i_f (P := iItem a ∧ iGlyph b ∧ c = 0 ∧ d = 0) (by grind)]; exact K
      · refine E_iload dX12_areFour_70 rfl ?_
        refine E_if_ne (tgt := 79) dX12_areFour_72 (by decide) (fun c_72 => ?_) (fun c_72 => ?_)
        · refine E_iconst (v := nI 0) dX12_areFour_79 (by decide) ?_
          refine E_iret dX12_areFour_80 (Or.inr ⟨rfl, by decide⟩) ?_
          rw [← b2i_f (P := iItem a ∧ iGlyph b ∧ c = 0 ∧ d = 0) (by grind)]; exact K
        · refine E_iconst (v := nI 1) dX12_areFour_75 (by decide) ?_
          refine E_goto (tgt := 80) dX12_areFour_76 (by decide) ?_
          refine E_iret dX12_areFour_80 (Or.inr ⟨rfl, by decide⟩) ?_
          rw [← b2i_t (P := iItem a ∧ iGlyph b ∧ c = 0 ∧ d = 0) (by grind)]; exact K
set_option maxRecDepth 100000 in
set_option maxHeartbeats 4000000 in
theorem sp_X12_areFour1 {g : gG} {M : gM} {Q : Option Value ⊕ String → gM → Prop} {a b c d : Int32} (K : Q (.inl (some (.int (b2i (iItem a ∧ iGlyph b ∧ iGlyph c ∧ iGlyphN d))))) M) : E g 5 0 0 mX12_areFour 0 [.int (nI 1), .int a, .int b, .int c, .int d] [] M Q := by
  refine E_iload_n dX12_areFour_0 rfl ?_
  refine E_swIn (off := 80) (tgt := 81) dX12_areFour_1 (by decide) (by decide) (by decide) (by decide) ?_
  refine E_iload_n dX12_areFour_81 rfl ?_
  refine E_callS1 (fr' := 3) (k1 := 0) (n1 := 0) (k2 := 0) (n2 := 0) dX12_areFour_82 kO_X12_isItem kL_X12_176 rfl (by decide) (by decide) (by exact Nat.le_of_ble_eq_true rfl) (Or.inl rfl) rfl ?_
  refine sp_X12_isItem ?_
  refine gKv ?_
  refine E_if_eq_b (tgt := 114) dX12_areFour_85 (by decide) (fun c_85 => ?_) (fun c_85 => ?_)
  · refine E_iconst (v := nI 0) dX12_areFour_114 (by decide) ?_
    refine E_iret dX12_areFour_115 (Or.inr ⟨rfl, by decide⟩) ?_
    rw [← b2i_f (P := iItem a ∧ iGlyph b ∧ iGlyph c ∧ iGlyphN d) (by grind)]; exact K
  · refine E_iload_n dX12_areFour_88 rfl ?_
    refine E_callS1 (fr' := 2) (k1 := 0) (n1 := 0) (k2 := 0) (n2 := 0) dX12_areFour_89 kO_X12_isGlyph kL_X12_172 rfl (by decide) (by decide) (by exact Nat.le_of_ble_eq_true rfl) (Or.inl rfl) rfl ?_
    refine sp_X12_isGlyph ?_
    refine gKv ?_
    refine E_if_eq_b (tgt := 114) dX12_areFour_92 (by decide) (fun c_92 => ?_) (fun c_92 => ?_)
    · refine E_iconst (v := nI 0) dX12_areFour_114 (by decide) ?_
      refine E_iret dX12_areFour_115 (Or.inr ⟨rfl, by decide⟩) ?_
      rw [← b2i_f (P := iItem a ∧ iGlyph b ∧ iGlyph c ∧ iGlyphN d) (by grind)]; exact K
    · refine E_iload_n dX12_areFour_95 rfl ?_
      refine E_callS1 (fr' := 2) (k1 := 0) (n1 := 0) (k2 := 0) (n2 := 0) dX12_areFour_96 kO_X12_isGlyph kL_X12_172 rfl (by decide) (by decide) (by exact Nat.le_of_ble_eq_true rfl) (Or.inl rfl) rfl ?_
      refine sp_X12_isGlyph ?_
      refine gKv ?_
      refine E_if_eq_b (tgt := 114) dX12_areFour_99 (by decide) (fun c_99 => ?_) (fun c_99 => ?_)
      · refine E_iconst (v := nI 0) dX12_areFour_114 (by decide) ?_
        refine E_iret dX12_areFour_115 (Or.inr ⟨rfl, by decide⟩) ?_
        rw [← b2i_f (P := iItem a ∧ iGlyph b ∧ iGlyph c ∧ iGlyphN d) (by grind)]; exact K
      · refine E_iload dX12_areFour_102 rfl ?_
        refine E_callS1 (fr' := 3) (k1 := 0) (n1 := 0) (k2 := 0) (n2 := 0) dX12_areFour_104 kO_X12_isGlyphOrNone kL_X12_182 rfl (by decide) (by decide) (by exact Nat.le_of_ble_eq_true rfl) (Or.inl rfl) rfl ?_
        refine sp_X12_isGlyphOrNone ?_
        refine gKv ?_
        refine E_if_eq_b (tgt := 114) dX12_areFour_107 (by decide) (fun c_107 => ?_) (fun c_107 => ?_)
        · refine E_iconst (v := nI 0) dX12_areFour_114 (by decide) ?_
          refine E_iret dX12_areFour_115 (Or.inr ⟨rfl, by decide⟩) ?_
          rw [← b2i_f (P := iItem a ∧ iGlyph b ∧ iGlyph c ∧ iGlyphN d) (by grind)]; exact K
        · refine E_iconst (v := nI 1) dX12_areFour_110 (by decide) ?_
          refine E_goto (tgt := 115) dX12_areFour_111 (by decide) ?_
          refine E_iret dX12_areFour_115 (Or.inr ⟨rfl, by decide⟩) ?_
          rw [← b2i_t (P := iItem a ∧ iGlyph b ∧ iGlyph c ∧ iGlyphN d) (by grind)]; exact K
set_option maxRecDepth 100000 in
set_option maxHeartbeats 4000000 in
theorem sp_X12_areFour2 {g : gG} {M : gM} {Q : Option Value ⊕ String → gM → Prop} {a b c d : Int32} (K : Q (.inl (some (.int (b2i (iItem a ∧ iGlyph b ∧ iGlyph c ∧ iGlyph d))))) M) : E g 5 0 0 mX12_areFour 0 [.int (nI 2), .int a, .int b, .int c, .int d] [] M Q := by
  refine E_iload_n dX12_areFour_0 rfl ?_
  refine E_swIn (off := 115) (tgt := 116) dX12_areFour_1 (by decide) (by decide) (by decide) (by decide) ?_
  refine E_iload_n dX12_areFour_116 rfl ?_
  refine E_callS1 (fr' := 3) (k1 := 0) (n1 := 0) (k2 := 0) (n2 := 0) dX12_areFour_117 kO_X12_isItem kL_X12_176 rfl (by decide) (by decide) (by exact Nat.le_of_ble_eq_true rfl) (Or.inl rfl) rfl ?_
  refine sp_X12_isItem ?_
  refine gKv ?_
  refine E_if_eq_b (tgt := 149) dX12_areFour_120 (by decide) (fun c_120 => ?_) (fun c_120 => ?_)
  · refine E_iconst (v := nI 0) dX12_areFour_149 (by decide) ?_
    refine E_iret dX12_areFour_150 (Or.inr ⟨rfl, by decide⟩) ?_
    rw [← b2i_f (P := iItem a ∧ iGlyph b ∧ iGlyph c ∧ iGlyph d) (by grind)]; exact K
  · refine E_iload_n dX12_areFour_123 rfl ?_
    refine E_callS1 (fr' := 2) (k1 := 0) (n1 := 0) (k2 := 0) (n2 := 0) dX12_areFour_124 kO_X12_isGlyph kL_X12_172 rfl (by decide) (by decide) (by exact Nat.le_of_ble_eq_true rfl) (Or.inl rfl) rfl ?_
    refine sp_X12_isGlyph ?_
    refine gKv ?_
    refine E_if_eq_b (tgt := 149) dX12_areFour_127 (by decide) (fun c_127 => ?_) (fun c_127 => ?_)
    · refine E_iconst (v := nI 0) dX12_areFour_149 (by decide) ?_
      refine E_iret dX12_areFour_150 (Or.inr ⟨rfl, by decide⟩) ?_
      rw [← b2i_f (P := iItem a ∧ iGlyph b ∧ iGlyph c ∧ iGlyph d) (by grind)]; exact K
    · refine E_iload_n dX12_areFour_130 rfl ?_
      refine E_callS1 (fr' := 2) (k1 := 0) (n1 := 0) (k2 := 0) (n2 := 0) dX12_areFour_131 kO_X12_isGlyph kL_X12_172 rfl (by decide) (by decide) (by exact Nat.le_of_ble_eq_true rfl) (Or.inl rfl) rfl ?_
      refine sp_X12_isGlyph ?_
      refine gKv ?_
      refine E_if_eq_b (tgt := 149) dX12_areFour_134 (by decide) (fun c_134 => ?_) (fun c_134 => ?_)
      · refine E_iconst (v := nI 0) dX12_areFour_149 (by decide) ?_
        refine E_iret dX12_areFour_150 (Or.inr ⟨rfl, by decide⟩) ?_
        rw [← b2i_f (P := iItem a ∧ iGlyph b ∧ iGlyph c ∧ iGlyph d) (by grind)]; exact K
      · refine E_iload dX12_areFour_137 rfl ?_
        refine E_callS1 (fr' := 2) (k1 := 0) (n1 := 0) (k2 := 0) (n2 := 0) dX12_areFour_139 kO_X12_isGlyph kL_X12_172 rfl (by decide) (by decide) (by exact Nat.le_of_ble_eq_true rfl) (Or.inl rfl) rfl ?_
        refine sp_X12_isGlyph ?_
        refine gKv ?_
        refine E_if_eq_b (tgt := 149) dX12_areFour_142 (by decide) (fun c_142 => ?_) (fun c_142 => ?_)
        · refine E_iconst (v := nI 0) dX12_areFour_149 (by decide) ?_
          refine E_iret dX12_areFour_150 (Or.inr ⟨rfl, by decide⟩) ?_
          rw [← b2i_f (P := iItem a ∧ iGlyph b ∧ iGlyph c ∧ iGlyph d) (by grind)]; exact K
        · refine E_iconst (v := nI 1) dX12_areFour_145 (by decide) ?_
          refine E_goto (tgt := 150) dX12_areFour_146 (by decide) ?_
          refine E_iret dX12_areFour_150 (Or.inr ⟨rfl, by decide⟩) ?_
          rw [← b2i_t (P := iItem a ∧ iGlyph b ∧ iGlyph c ∧ iGlyph d) (by grind)]; exact K
set_option maxRecDepth 100000 in
set_option maxHeartbeats 4000000 in
theorem sp_X12_areFour3 {g : gG} {M : gM} {Q : Option Value ⊕ String → gM → Prop} {a b c d : Int32} (K : Q (.inl (some (.int (b2i (iItem a ∧ iItem b ∧ iItemN c ∧ iGlyph d))))) M) : E g 5 0 0 mX12_areFour 0 [.int (nI 3), .int a, .int b, .int c, .int d] [] M Q := by
  refine E_iload_n dX12_areFour_0 rfl ?_
  refine E_swIn (off := 150) (tgt := 151) dX12_areFour_1 (by decide) (by decide) (by decide) (by decide) ?_
  refine E_iload_n dX12_areFour_151 rfl ?_
  refine E_callS1 (fr' := 3) (k1 := 0) (n1 := 0) (k2 := 0) (n2 := 0) dX12_areFour_152 kO_X12_isItem kL_X12_176 rfl (by decide) (by decide) (by exact Nat.le_of_ble_eq_true rfl) (Or.inl rfl) rfl ?_
  refine sp_X12_isItem ?_
  refine gKv ?_
  refine E_if_eq_b (tgt := 184) dX12_areFour_155 (by decide) (fun c_155 => ?_) (fun c_155 => ?_)
  · refine E_iconst (v := nI 0) dX12_areFour_184 (by decide) ?_
    refine E_iret dX12_areFour_185 (Or.inr ⟨rfl, by decide⟩) ?_
    rw [← b2i_f (P := iItem a ∧ iItem b ∧ iItemN c ∧ iGlyph d) (by grind)]; exact K
  · refine E_iload_n dX12_areFour_158 rfl ?_
    refine E_callS1 (fr' := 3) (k1 := 0) (n1 := 0) (k2 := 0) (n2 := 0) dX12_areFour_159 kO_X12_isItem kL_X12_176 rfl (by decide) (by decide) (by exact Nat.le_of_ble_eq_true rfl) (Or.inl rfl) rfl ?_
    refine sp_X12_isItem ?_
    refine gKv ?_
    refine E_if_eq_b (tgt := 184) dX12_areFour_162 (by decide) (fun c_162 => ?_) (fun c_162 => ?_)
    · refine E_iconst (v := nI 0) dX12_areFour_184 (by decide) ?_
      refine E_iret dX12_areFour_185 (Or.inr ⟨rfl, by decide⟩) ?_
      rw [← b2i_f (P := iItem a ∧ iItem b ∧ iItemN c ∧ iGlyph d) (by grind)]; exact K
    · refine E_iload_n dX12_areFour_165 rfl ?_
      refine E_callS1 (fr' := 4) (k1 := 0) (n1 := 0) (k2 := 0) (n2 := 0) dX12_areFour_166 kO_X12_isItemOrNone kL_X12_185 rfl (by decide) (by decide) (by exact Nat.le_of_ble_eq_true rfl) (Or.inl rfl) rfl ?_
      refine sp_X12_isItemOrNone ?_
      refine gKv ?_
      refine E_if_eq_b (tgt := 184) dX12_areFour_169 (by decide) (fun c_169 => ?_) (fun c_169 => ?_)
      · refine E_iconst (v := nI 0) dX12_areFour_184 (by decide) ?_
        refine E_iret dX12_areFour_185 (Or.inr ⟨rfl, by decide⟩) ?_
        rw [← b2i_f (P := iItem a ∧ iItem b ∧ iItemN c ∧ iGlyph d) (by grind)]; exact K
      · refine E_iload dX12_areFour_172 rfl ?_
        refine E_callS1 (fr' := 2) (k1 := 0) (n1 := 0) (k2 := 0) (n2 := 0) dX12_areFour_174 kO_X12_isGlyph kL_X12_172 rfl (by decide) (by decide) (by exact Nat.le_of_ble_eq_true rfl) (Or.inl rfl) rfl ?_
        refine sp_X12_isGlyph ?_
        refine gKv ?_
        refine E_if_eq_b (tgt := 184) dX12_areFour_177 (by decide) (fun c_177 => ?_) (fun c_177 => ?_)
        · refine E_iconst (v := nI 0) dX12_areFour_184 (by decide) ?_
          refine E_iret dX12_areFour_185 (Or.inr ⟨rfl, by decide⟩) ?_
          rw [← b2i_f (P := iItem a ∧ iItem b ∧ iItemN c ∧ iGlyph d) (by grind)]; exact K
        · refine E_iconst (v := nI 1) dX12_areFour_180 (by decide) ?_
          refine E_goto (tgt := 185) dX12_areFour_181 (by decide) ?_
          refine E_iret dX12_areFour_185 (Or.inr ⟨rfl, by decide⟩) ?_
          rw [← b2i_t (P := iItem a ∧ iItem b ∧ iItemN c ∧ iGlyph d) (by grind)]; exact K
set_option maxRecDepth 100000 in
set_option maxHeartbeats 4000000 in
theorem sp_X12_areFour4 {g : gG} {M : gM} {Q : Option Value ⊕ String → gM → Prop} {a b c d : Int32} (K : Q (.inl (some (.int (b2i (iItemN a ∧ iItem b ∧ iItemN c ∧ iItemN d))))) M) : E g 5 0 0 mX12_areFour 0 [.int (nI 4), .int a, .int b, .int c, .int d] [] M Q := by
  refine E_iload_n dX12_areFour_0 rfl ?_
  refine E_swIn (off := 185) (tgt := 186) dX12_areFour_1 (by decide) (by decide) (by decide) (by decide) ?_
  refine E_iload_n dX12_areFour_186 rfl ?_
  refine E_callS1 (fr' := 4) (k1 := 0) (n1 := 0) (k2 := 0) (n2 := 0) dX12_areFour_187 kO_X12_isItemOrNone kL_X12_185 rfl (by decide) (by decide) (by exact Nat.le_of_ble_eq_true rfl) (Or.inl rfl) rfl ?_
  refine sp_X12_isItemOrNone ?_
  refine gKv ?_
  refine E_if_eq_b (tgt := 219) dX12_areFour_190 (by decide) (fun c_190 => ?_) (fun c_190 => ?_)
  · refine E_iconst (v := nI 0) dX12_areFour_219 (by decide) ?_
    refine E_iret dX12_areFour_220 (Or.inr ⟨rfl, by decide⟩) ?_
    rw [← b2i_f (P := iItemN a ∧ iItem b ∧ iItemN c ∧ iItemN d) (by grind)]; exact K
  · refine E_iload_n dX12_areFour_193 rfl ?_
    refine E_callS1 (fr' := 3) (k1 := 0) (n1 := 0) (k2 := 0) (n2 := 0) dX12_areFour_194 kO_X12_isItem kL_X12_176 rfl (by decide) (by decide) (by exact Nat.le_of_ble_eq_true rfl) (Or.inl rfl) rfl ?_
    refine sp_X12_isItem ?_
    refine gKv ?_
    refine E_if_eq_b (tgt := 219) dX12_areFour_197 (by decide) (fun c_197 => ?_) (fun c_197 => ?_)
    · refine E_iconst (v := nI 0) dX12_areFour_219 (by decide) ?_
      refine E_iret dX12_areFour_220 (Or.inr ⟨rfl, by decide⟩) ?_
      rw [← b2i_f (P := iItemN a ∧ iItem b ∧ iItemN c ∧ iItemN d) (by grind)]; exact K
    · refine E_iload_n dX12_areFour_200 rfl ?_
      refine E_callS1 (fr' := 4) (k1 := 0) (n1 := 0) (k2 := 0) (n2 := 0) dX12_areFour_201 kO_X12_isItemOrNone kL_X12_185 rfl (by decide) (by decide) (by exact Nat.le_of_ble_eq_true rfl) (Or.inl rfl) rfl ?_
      refine sp_X12_isItemOrNone ?_
      refine gKv ?_
      refine E_if_eq_b (tgt := 219) dX12_areFour_204 (by decide) (fun c_204 => ?_) (fun c_204 => ?_)
      · refine E_iconst (v := nI 0) dX12_areFour_219 (by decide) ?_
        refine E_iret dX12_areFour_220 (Or.inr ⟨rfl, by decide⟩) ?_
        rw [← b2i_f (P := iItemN a ∧ iItem b ∧ iItemN c ∧ iItemN d) (by grind)]; exact K
      · refine E_iload dX12_areFour_207 rfl ?_
        refine E_callS1 (fr' := 4) (k1 := 0) (n1 := 0) (k2 := 0) (n2 := 0) dX12_areFour_209 kO_X12_isItemOrNone kL_X12_185 rfl (by decide) (by decide) (by exact Nat.le_of_ble_eq_true rfl) (Or.inl rfl) rfl ?_
        refine sp_X12_isItemOrNone ?_
        refine gKv ?_
        refine E_if_eq_b (tgt := 219) dX12_areFour_212 (by decide) (fun c_212 => ?_) (fun c_212 => ?_)
        · refine E_iconst (v := nI 0) dX12_areFour_219 (by decide) ?_
          refine E_iret dX12_areFour_220 (Or.inr ⟨rfl, by decide⟩) ?_
          rw [← b2i_f (P := iItemN a ∧ iItem b ∧ iItemN c ∧ iItemN d) (by grind)]; exact K
        · refine E_iconst (v := nI 1) dX12_areFour_215 (by decide) ?_
          refine E_goto (tgt := 220) dX12_areFour_216 (by decide) ?_
          refine E_iret dX12_areFour_220 (Or.inr ⟨rfl, by decide⟩) ?_
          rw [← b2i_t (P := iItemN a ∧ iItem b ∧ iItemN c ∧ iItemN d) (by grind)]; exact K
set_option maxRecDepth 100000 in
set_option maxHeartbeats 4000000 in
theorem sp_X12_areFour5 {g : gG} {M : gM} {Q : Option Value ⊕ String → gM → Prop} {a b c d : Int32} (K : Q (.inl (some (.int (b2i (iItemN a ∧ iItem b ∧ iItemN c ∧ iGlyph d))))) M) : E g 5 0 0 mX12_areFour 0 [.int (nI 5), .int a, .int b, .int c, .int d] [] M Q := by
  refine E_iload_n dX12_areFour_0 rfl ?_
  refine E_swIn (off := 220) (tgt := 221) dX12_areFour_1 (by decide) (by decide) (by decide) (by decide) ?_
  refine E_iload_n dX12_areFour_221 rfl ?_
  refine E_callS1 (fr' := 4) (k1 := 0) (n1 := 0) (k2 := 0) (n2 := 0) dX12_areFour_222 kO_X12_isItemOrNone kL_X12_185 rfl (by decide) (by decide) (by exact Nat.le_of_ble_eq_true rfl) (Or.inl rfl) rfl ?_
  refine sp_X12_isItemOrNone ?_
  refine gKv ?_
  refine E_if_eq_b (tgt := 254) dX12_areFour_225 (by decide) (fun c_225 => ?_) (fun c_225 => ?_)
  · refine E_iconst (v := nI 0) dX12_areFour_254 (by decide) ?_
    refine E_iret dX12_areFour_255 (Or.inr ⟨rfl, by decide⟩) ?_
    rw [← b2i_f (P := iItemN a ∧ iItem b ∧ iItemN c ∧ iGlyph d) (by grind)]; exact K
  · refine E_iload_n dX12_areFour_228 rfl ?_
    refine E_callS1 (fr' := 3) (k1 := 0) (n1 := 0) (k2 := 0) (n2 := 0) dX12_areFour_229 kO_X12_isItem kL_X12_176 rfl (by decide) (by decide) (by exact Nat.le_of_ble_eq_true rfl) (Or.inl rfl) rfl ?_
    refine sp_X12_isItem ?_
    refine gKv ?_
    refine E_if_eq_b (tgt := 254) dX12_areFour_232 (by decide) (fun c_232 => ?_) (fun c_232 => ?_)
    · refine E_iconst (v := nI 0) dX12_areFour_254 (by decide) ?_
      refine E_iret dX12_areFour_255 (Or.inr ⟨rfl, by decide⟩) ?_
      rw [← b2i_f (P := iItemN a ∧ iItem b ∧ iItemN c ∧ iGlyph d) (by grind)]; exact K
    · refine E_iload_n dX12_areFour_235 rfl ?_
      refine E_callS1 (fr' := 4) (k1 := 0) (n1 := 0) (k2 := 0) (n2 := 0) dX12_areFour_236 kO_X12_isItemOrNone kL_X12_185 rfl (by decide) (by decide) (by exact Nat.le_of_ble_eq_true rfl) (Or.inl rfl) rfl ?_
      refine sp_X12_isItemOrNone ?_
      refine gKv ?_
      refine E_if_eq_b (tgt := 254) dX12_areFour_239 (by decide) (fun c_239 => ?_) (fun c_239 => ?_)
      · refine E_iconst (v := nI 0) dX12_areFour_254 (by decide) ?_
        refine E_iret dX12_areFour_255 (Or.inr ⟨rfl, by decide⟩) ?_
        rw [← b2i_f (P := iItemN a ∧ iItem b ∧ iItemN c ∧ iGlyph d) (by grind)]; exact K
      · refine E_iload dX12_areFour_242 rfl ?_
        refine E_callS1 (fr' := 2) (k1 := 0) (n1 := 0) (k2 := 0) (n2 := 0) dX12_areFour_244 kO_X12_isGlyph kL_X12_172 rfl (by decide) (by decide) (by exact Nat.le_of_ble_eq_true rfl) (Or.inl rfl) rfl ?_
        refine sp_X12_isGlyph ?_
        refine gKv ?_
        refine E_if_eq_b (tgt := 254) dX12_areFour_247 (by decide) (fun c_247 => ?_) (fun c_247 => ?_)
        · refine E_iconst (v := nI 0) dX12_areFour_254 (by decide) ?_
          refine E_iret dX12_areFour_255 (Or.inr ⟨rfl, by decide⟩) ?_
          rw [← b2i_f (P := iItemN a ∧ iItem b ∧ iItemN c ∧ iGlyph d) (by grind)]; exact K
        · refine E_iconst (v := nI 1) dX12_areFour_250 (by decide) ?_
          refine E_goto (tgt := 255) dX12_areFour_251 (by decide) ?_
          refine E_iret dX12_areFour_255 (Or.inr ⟨rfl, by decide⟩) ?_
          rw [← b2i_t (P := iItemN a ∧ iItem b ∧ iItemN c ∧ iGlyph d) (by grind)]; exact K
set_option maxRecDepth 100000 in
set_option maxHeartbeats 4000000 in
theorem sp_X12_areFour6 {g : gG} {M : gM} {Q : Option Value ⊕ String → gM → Prop} {a b c d : Int32} (K : Q (.inl (some (.int (b2i (iItem a ∧ iItem b ∧ iFar c ∧ d = 0))))) M) : E g 5 0 0 mX12_areFour 0 [.int (nI 6), .int a, .int b, .int c, .int d] [] M Q := by
  refine E_iload_n dX12_areFour_0 rfl ?_
  refine E_swIn (off := 255) (tgt := 256) dX12_areFour_1 (by decide) (by decide) (by decide) (by decide) ?_
  refine E_iload_n dX12_areFour_256 rfl ?_
  refine E_callS1 (fr' := 3) (k1 := 0) (n1 := 0) (k2 := 0) (n2 := 0) dX12_areFour_257 kO_X12_isItem kL_X12_176 rfl (by decide) (by decide) (by exact Nat.le_of_ble_eq_true rfl) (Or.inl rfl) rfl ?_
  refine sp_X12_isItem ?_
  refine gKv ?_
  refine E_if_eq_b (tgt := 286) dX12_areFour_260 (by decide) (fun c_260 => ?_) (fun c_260 => ?_)
  · refine E_iconst (v := nI 0) dX12_areFour_286 (by decide) ?_
    refine E_iret dX12_areFour_287 (Or.inr ⟨rfl, by decide⟩) ?_
    rw [← b2i_f (P := iItem a ∧ iItem b ∧ iFar c ∧ d = 0) (by grind)]; exact K
  · refine E_iload_n dX12_areFour_263 rfl ?_
    refine E_callS1 (fr' := 3) (k1 := 0) (n1 := 0) (k2 := 0) (n2 := 0) dX12_areFour_264 kO_X12_isItem kL_X12_176 rfl (by decide) (by decide) (by exact Nat.le_of_ble_eq_true rfl) (Or.inl rfl) rfl ?_
    refine sp_X12_isItem ?_
    refine gKv ?_
    refine E_if_eq_b (tgt := 286) dX12_areFour_267 (by decide) (fun c_267 => ?_) (fun c_267 => ?_)
    · refine E_iconst (v := nI 0) dX12_areFour_286 (by decide) ?_
      refine E_iret dX12_areFour_287 (Or.inr ⟨rfl, by decide⟩) ?_
      rw [← b2i_f (P := iItem a ∧ iItem b ∧ iFar c ∧ d = 0) (by grind)]; exact K
    · refine E_iload_n dX12_areFour_270 rfl ?_
      refine E_callS1 (fr' := 2) (k1 := 0) (n1 := 0) (k2 := 0) (n2 := 0) dX12_areFour_271 kO_X12_isFar kL_X12_179 rfl (by decide) (by decide) (by exact Nat.le_of_ble_eq_true rfl) (Or.inl rfl) rfl ?_
      refine sp_X12_isFar ?_
      refine gKv ?_
      refine E_if_eq_b (tgt := 286) dX12_areFour_274 (by decide) (fun c_274 => ?_) (fun c_274 => ?_)
      · refine E_iconst (v := nI 0) dX12_areFour_286 (by decide) ?_
        refine E_iret dX12_areFour_287 (Or.inr ⟨rfl, by decide⟩) ?_
        rw [← b2i_f (P := iItem a ∧ iItem b ∧ iFar c ∧ d = 0) (by grind)]; exact K
      · refine E_iload dX12_areFour_277 rfl ?_
        refine E_if_ne (tgt := 286) dX12_areFour_279 (by decide) (fun c_279 => ?_) (fun c_279 => ?_)
        · refine E_iconst (v := nI 0) dX12_areFour_286 (by decide) ?_
          refine E_iret dX12_areFour_287 (Or.inr ⟨rfl, by decide⟩) ?_
          rw [← b2i_f (P := iItem a ∧ iItem b ∧ iFar c ∧ d = 0) (by grind)]; exact K
        · refine E_iconst (v := nI 1) dX12_areFour_282 (by decide) ?_
          refine E_goto (tgt := 287) dX12_areFour_283 (by decide) ?_
          refine E_iret dX12_areFour_287 (Or.inr ⟨rfl, by decide⟩) ?_
          rw [← b2i_t (P := iItem a ∧ iItem b ∧ iFar c ∧ d = 0) (by grind)]; exact K
set_option maxRecDepth 100000 in
set_option maxHeartbeats 4000000 in
theorem sp_X12_areFour7 {g : gG} {M : gM} {Q : Option Value ⊕ String → gM → Prop} {a b c d : Int32} (K : Q (.inl (some (.int (b2i (iItem a ∧ iFarN b ∧ iFarN c ∧ d = 0))))) M) : E g 5 0 0 mX12_areFour 0 [.int (nI 7), .int a, .int b, .int c, .int d] [] M Q := by
  refine E_iload_n dX12_areFour_0 rfl ?_
  refine E_swIn (off := 287) (tgt := 288) dX12_areFour_1 (by decide) (by decide) (by decide) (by decide) ?_
  refine E_iload_n dX12_areFour_288 rfl ?_
  refine E_callS1 (fr' := 3) (k1 := 0) (n1 := 0) (k2 := 0) (n2 := 0) dX12_areFour_289 kO_X12_isItem kL_X12_176 rfl (by decide) (by decide) (by exact Nat.le_of_ble_eq_true rfl) (Or.inl rfl) rfl ?_
  refine sp_X12_isItem ?_
  refine gKv ?_
  refine E_if_eq_b (tgt := 318) dX12_areFour_292 (by decide) (fun c_292 => ?_) (fun c_292 => ?_)
  · refine E_iconst (v := nI 0) dX12_areFour_318 (by decide) ?_
    refine E_iret dX12_areFour_319 (Or.inr ⟨rfl, by decide⟩) ?_
    rw [← b2i_f (P := iItem a ∧ iFarN b ∧ iFarN c ∧ d = 0) (by grind)]; exact K
  · refine E_iload_n dX12_areFour_295 rfl ?_
    refine E_callS1 (fr' := 3) (k1 := 0) (n1 := 0) (k2 := 0) (n2 := 0) dX12_areFour_296 kO_X12_isFarOrNone kL_X12_188 rfl (by decide) (by decide) (by exact Nat.le_of_ble_eq_true rfl) (Or.inl rfl) rfl ?_
    refine sp_X12_isFarOrNone ?_
    refine gKv ?_
    refine E_if_eq_b (tgt := 318) dX12_areFour_299 (by decide) (fun c_299 => ?_) (fun c_299 => ?_)
    · refine E_iconst (v := nI 0) dX12_areFour_318 (by decide) ?_
      refine E_iret dX12_areFour_319 (Or.inr ⟨rfl, by decide⟩) ?_
      rw [← b2i_f (P := iItem a ∧ iFarN b ∧ iFarN c ∧ d = 0) (by grind)]; exact K
    · refine E_iload_n dX12_areFour_302 rfl ?_
      refine E_callS1 (fr' := 3) (k1 := 0) (n1 := 0) (k2 := 0) (n2 := 0) dX12_areFour_303 kO_X12_isFarOrNone kL_X12_188 rfl (by decide) (by decide) (by exact Nat.le_of_ble_eq_true rfl) (Or.inl rfl) rfl ?_
      refine sp_X12_isFarOrNone ?_
      refine gKv ?_
      refine E_if_eq_b (tgt := 318) dX12_areFour_306 (by decide) (fun c_306 => ?_) (fun c_306 => ?_)
      · refine E_iconst (v := nI 0) dX12_areFour_318 (by decide) ?_
        refine E_iret dX12_areFour_319 (Or.inr ⟨rfl, by decide⟩) ?_
        rw [← b2i_f (P := iItem a ∧ iFarN b ∧ iFarN c ∧ d = 0) (by grind)]; exact K
      · refine E_iload dX12_areFour_309 rfl ?_
        refine E_if_ne (tgt := 318) dX12_areFour_311 (by decide) (fun c_311 => ?_) (fun c_311 => ?_)
        · refine E_iconst (v := nI 0) dX12_areFour_318 (by decide) ?_
          refine E_iret dX12_areFour_319 (Or.inr ⟨rfl, by decide⟩) ?_
          rw [← b2i_f (P := iItem a ∧ iFarN b ∧ iFarN c ∧ d = 0) (by grind)]; exact K
        · refine E_iconst (v := nI 1) dX12_areFour_314 (by decide) ?_
          refine E_goto (tgt := 319) dX12_areFour_315 (by decide) ?_
          refine E_iret dX12_areFour_319 (Or.inr ⟨rfl, by decide⟩) ?_
          rw [← b2i_t (P := iItem a ∧ iFarN b ∧ iFarN c ∧ d = 0) (by grind)]; exact K
set_option maxRecDepth 100000 in
set_option maxHeartbeats 4000000 in
theorem sp_X12_areFour8 {g : gG} {M : gM} {Q : Option Value ⊕ String → gM → Prop} {a b c d : Int32} (K : Q (.inl (some (.int (b2i (iItem a ∧ (b = -100 ∨ iIn b (nI 0) (nI 2)) ∧ iClass c ∧ iFar d))))) M) : E g 5 0 0 mX12_areFour 0 [.int (nI 8), .int a, .int b, .int c, .int d] [] M Q := by
  refine E_iload_n dX12_areFour_0 rfl ?_
  refine E_swIn (off := 319) (tgt := 320) dX12_areFour_1 (by decide) (by decide) (by decide) (by decide) ?_
  refine E_iload_n dX12_areFour_320 rfl ?_
  refine E_callS1 (fr' := 3) (k1 := 0) (n1 := 0) (k2 := 0) (n2 := 0) dX12_areFour_321 kO_X12_isItem kL_X12_176 rfl (by decide) (by decide) (by exact Nat.le_of_ble_eq_true rfl) (Or.inl rfl) rfl ?_
  refine sp_X12_isItem ?_
  refine gKv ?_
  refine E_if_eq_b (tgt := 361) dX12_areFour_324 (by decide) (fun c_324 => ?_) (fun c_324 => ?_)
  · refine E_iconst (v := nI 0) dX12_areFour_361 (by decide) ?_
    refine E_iret dX12_areFour_362 (Or.inr ⟨rfl, by decide⟩) ?_
    rw [← b2i_f (P := iItem a ∧ (b = -100 ∨ iIn b (nI 0) (nI 2)) ∧ iClass c ∧ iFar d) (by grind)]; exact K
  · refine E_iload_n dX12_areFour_327 rfl ?_
    refine E_bipush (v := -100) dX12_areFour_328 (by decide) ?_
    refine E_icmp_eq (tgt := 342) dX12_areFour_330 (by decide) (fun c_330 => ?_) (fun c_330 => ?_)
    · refine E_iload_n dX12_areFour_342 rfl ?_
      refine E_callS1 (fr' := 2) (k1 := 0) (n1 := 0) (k2 := 0) (n2 := 0) dX12_areFour_343 kO_X12_isClass kL_X12_191 rfl (by decide) (by decide) (by exact Nat.le_of_ble_eq_true rfl) (Or.inl rfl) rfl ?_
      refine sp_X12_isClass ?_
      refine gKv ?_
      refine E_if_eq_b (tgt := 361) dX12_areFour_346 (by decide) (fun c_346 => ?_) (fun c_346 => ?_)
      · refine E_iconst (v := nI 0) dX12_areFour_361 (by decide) ?_
        refine E_iret dX12_areFour_362 (Or.inr ⟨rfl, by decide⟩) ?_
        rw [← b2i_f (P := iItem a ∧ (b = -100 ∨ iIn b (nI 0) (nI 2)) ∧ iClass c ∧ iFar d) (by grind)]; exact K
      · refine E_iload dX12_areFour_349 rfl ?_
        refine E_callS1 (fr' := 2) (k1 := 0) (n1 := 0) (k2 := 0) (n2 := 0) dX12_areFour_351 kO_X12_isFar kL_X12_179 rfl (by decide) (by decide) (by exact Nat.le_of_ble_eq_true rfl) (Or.inl rfl) rfl ?_
        refine sp_X12_isFar ?_
        refine gKv ?_
        refine E_if_eq_b (tgt := 361) dX12_areFour_354 (by decide) (fun c_354 => ?_) (fun c_354 => ?_)
        · refine E_iconst (v := nI 0) dX12_areFour_361 (by decide) ?_
          refine E_iret dX12_areFour_362 (Or.inr ⟨rfl, by decide⟩) ?_
          rw [← b2i_f (P := iItem a ∧ (b = -100 ∨ iIn b (nI 0) (nI 2)) ∧ iClass c ∧ iFar d) (by grind)]; exact K
        · refine E_iconst (v := nI 1) dX12_areFour_357 (by decide) ?_
          refine E_goto (tgt := 362) dX12_areFour_358 (by decide) ?_
          refine E_iret dX12_areFour_362 (Or.inr ⟨rfl, by decide⟩) ?_
          rw [← b2i_t (P := iItem a ∧ (b = -100 ∨ iIn b (nI 0) (nI 2)) ∧ iClass c ∧ iFar d) (by grind)]; exact K
    · refine E_iload_n dX12_areFour_333 rfl ?_
      refine E_iconst (v := nI 0) dX12_areFour_334 (by decide) ?_
      refine E_iconst (v := nI 2) dX12_areFour_335 (by decide) ?_
      refine E_callS3 (fr' := 1) (k1 := 0) (n1 := 0) (k2 := 0) (n2 := 0) dX12_areFour_336 kO_X12_in kL_X12_162 rfl rfl rfl (by decide) (by decide) (by exact Nat.le_of_ble_eq_true rfl) (Or.inl rfl) rfl ?_
      refine sp_X12_in ?_
      refine gKv ?_
      refine E_if_eq_b (tgt := 361) dX12_areFour_339 (by decide) (fun c_339 => ?_) (fun c_339 => ?_)
      · refine E_iconst (v := nI 0) dX12_areFour_361 (by decide) ?_
        refine E_iret dX12_areFour_362 (Or.inr ⟨rfl, by decide⟩) ?_
        rw [← b2i_f (P := iItem a ∧ (b = -100 ∨ iIn b (nI 0) (nI 2)) ∧ iClass c ∧ iFar d) (by grind)]; exact K
      · refine E_iload_n dX12_areFour_342 rfl ?_
        refine E_callS1 (fr' := 2) (k1 := 0) (n1 := 0) (k2 := 0) (n2 := 0) dX12_areFour_343 kO_X12_isClass kL_X12_191 rfl (by decide) (by decide) (by exact Nat.le_of_ble_eq_true rfl) (Or.inl rfl) rfl ?_
        refine sp_X12_isClass ?_
        refine gKv ?_
        refine E_if_eq_b (tgt := 361) dX12_areFour_346 (by decide) (fun c_346 => ?_) (fun c_346 => ?_)
        · refine E_iconst (v := nI 0) dX12_areFour_361 (by decide) ?_
          refine E_iret dX12_areFour_362 (Or.inr ⟨rfl, by decide⟩) ?_
          rw [← b2i_f (P := iItem a ∧ (b = -100 ∨ iIn b (nI 0) (nI 2)) ∧ iClass c ∧ iFar d) (by grind)]; exact K
        · refine E_iload dX12_areFour_349 rfl ?_
          refine E_callS1 (fr' := 2) (k1 := 0) (n1 := 0) (k2 := 0) (n2 := 0) dX12_areFour_351 kO_X12_isFar kL_X12_179 rfl (by decide) (by decide) (by exact Nat.le_of_ble_eq_true rfl) (Or.inl rfl) rfl ?_
          refine sp_X12_isFar ?_
          refine gKv ?_
          refine E_if_eq_b (tgt := 361) dX12_areFour_354 (by decide) (fun c_354 => ?_) (fun c_354 => ?_)
          · refine E_iconst (v := nI 0) dX12_areFour_361 (by decide) ?_
            refine E_iret dX12_areFour_362 (Or.inr ⟨rfl, by decide⟩) ?_
            rw [← b2i_f (P := iItem a ∧ (b = -100 ∨ iIn b (nI 0) (nI 2)) ∧ iClass c ∧ iFar d) (by grind)]; exact K
          · refine E_iconst (v := nI 1) dX12_areFour_357 (by decide) ?_
            refine E_goto (tgt := 362) dX12_areFour_358 (by decide) ?_
            refine E_iret dX12_areFour_362 (Or.inr ⟨rfl, by decide⟩) ?_
            rw [← b2i_t (P := iItem a ∧ (b = -100 ∨ iIn b (nI 0) (nI 2)) ∧ iClass c ∧ iFar d) (by grind)]; exact K
set_option maxRecDepth 100000 in
set_option maxHeartbeats 4000000 in
theorem sp_X12_areFour9 {g : gG} {M : gM} {Q : Option Value ⊕ String → gM → Prop} {a b c d : Int32} (K : Q (.inl (some (.int (b2i (iItem a ∧ iClass b ∧ iFar c ∧ iFar d))))) M) : E g 5 0 0 mX12_areFour 0 [.int (nI 9), .int a, .int b, .int c, .int d] [] M Q := by
  refine E_iload_n dX12_areFour_0 rfl ?_
  refine E_swOut (tgt := 363) dX12_areFour_1 (by decide) (by decide) ?_
  refine E_iload_n dX12_areFour_363 rfl ?_
  refine E_callS1 (fr' := 3) (k1 := 0) (n1 := 0) (k2 := 0) (n2 := 0) dX12_areFour_364 kO_X12_isItem kL_X12_176 rfl (by decide) (by decide) (by exact Nat.le_of_ble_eq_true rfl) (Or.inl rfl) rfl ?_
  refine sp_X12_isItem ?_
  refine gKv ?_
  refine E_if_eq_b (tgt := 396) dX12_areFour_367 (by decide) (fun c_367 => ?_) (fun c_367 => ?_)
  · refine E_iconst (v := nI 0) dX12_areFour_396 (by decide) ?_
    refine E_iret dX12_areFour_397 (Or.inr ⟨rfl, by decide⟩) ?_
    rw [← b2i_f (P := iItem a ∧ iClass b ∧ iFar c ∧ iFar d) (by grind)]; exact K
  · refine E_iload_n dX12_areFour_370 rfl ?_
    refine E_callS1 (fr' := 2) (k1 := 0) (n1 := 0) (k2 := 0) (n2 := 0) dX12_areFour_371 kO_X12_isClass kL_X12_191 rfl (by decide) (by decide) (by exact Nat.le_of_ble_eq_true rfl) (Or.inl rfl) rfl ?_
    refine sp_X12_isClass ?_
    refine gKv ?_
    refine E_if_eq_b (tgt := 396) dX12_areFour_374 (by decide) (fun c_374 => ?_) (fun c_374 => ?_)
    · refine E_iconst (v := nI 0) dX12_areFour_396 (by decide) ?_
      refine E_iret dX12_areFour_397 (Or.inr ⟨rfl, by decide⟩) ?_
      rw [← b2i_f (P := iItem a ∧ iClass b ∧ iFar c ∧ iFar d) (by grind)]; exact K
    · refine E_iload_n dX12_areFour_377 rfl ?_
      refine E_callS1 (fr' := 2) (k1 := 0) (n1 := 0) (k2 := 0) (n2 := 0) dX12_areFour_378 kO_X12_isFar kL_X12_179 rfl (by decide) (by decide) (by exact Nat.le_of_ble_eq_true rfl) (Or.inl rfl) rfl ?_
      refine sp_X12_isFar ?_
      refine gKv ?_
      refine E_if_eq_b (tgt := 396) dX12_areFour_381 (by decide) (fun c_381 => ?_) (fun c_381 => ?_)
      · refine E_iconst (v := nI 0) dX12_areFour_396 (by decide) ?_
        refine E_iret dX12_areFour_397 (Or.inr ⟨rfl, by decide⟩) ?_
        rw [← b2i_f (P := iItem a ∧ iClass b ∧ iFar c ∧ iFar d) (by grind)]; exact K
      · refine E_iload dX12_areFour_384 rfl ?_
        refine E_callS1 (fr' := 2) (k1 := 0) (n1 := 0) (k2 := 0) (n2 := 0) dX12_areFour_386 kO_X12_isFar kL_X12_179 rfl (by decide) (by decide) (by exact Nat.le_of_ble_eq_true rfl) (Or.inl rfl) rfl ?_
        refine sp_X12_isFar ?_
        refine gKv ?_
        refine E_if_eq_b (tgt := 396) dX12_areFour_389 (by decide) (fun c_389 => ?_) (fun c_389 => ?_)
        · refine E_iconst (v := nI 0) dX12_areFour_396 (by decide) ?_
          refine E_iret dX12_areFour_397 (Or.inr ⟨rfl, by decide⟩) ?_
          rw [← b2i_f (P := iItem a ∧ iClass b ∧ iFar c ∧ iFar d) (by grind)]; exact K
        · refine E_iconst (v := nI 1) dX12_areFour_392 (by decide) ?_
          refine E_goto (tgt := 397) dX12_areFour_393 (by decide) ?_
          refine E_iret dX12_areFour_397 (Or.inr ⟨rfl, by decide⟩) ?_
          rw [← b2i_t (P := iItem a ∧ iClass b ∧ iFar c ∧ iFar d) (by grind)]; exact K
theorem sp_X12_areFour {g : gG} {M : gM} {Q : Option Value ⊕ String → gM → Prop} {k : Nat} {a b c d : Int32} (hk : k < 10) (K : Q (.inl (some (.int (b2i (iFour k a b c d))))) M) : E g 5 0 0 mX12_areFour 0 [.int (nI k), .int a, .int b, .int c, .int d] [] M Q := by
  rcases (show k = 0 ∨ k = 1 ∨ k = 2 ∨ k = 3 ∨ k = 4 ∨ k = 5 ∨ k = 6 ∨ k = 7 ∨ k = 8 ∨ k = 9 by omega) with rfl | rfl | rfl | rfl | rfl | rfl | rfl | rfl | rfl | rfl
  · exact sp_X12_areFour0 (by rw [b2i_congr (R := iFour 0 a b c d) (by simp [iFour])]; exact K)
  · exact sp_X12_areFour1 (by rw [b2i_congr (R := iFour 1 a b c d) (by simp [iFour])]; exact K)
  · exact sp_X12_areFour2 (by rw [b2i_congr (R := iFour 2 a b c d) (by simp [iFour])]; exact K)
  · exact sp_X12_areFour3 (by rw [b2i_congr (R := iFour 3 a b c d) (by simp [iFour])]; exact K)
  · exact sp_X12_areFour4 (by rw [b2i_congr (R := iFour 4 a b c d) (by simp [iFour])]; exact K)
  · exact sp_X12_areFour5 (by rw [b2i_congr (R := iFour 5 a b c d) (by simp [iFour])]; exact K)
  · exact sp_X12_areFour6 (by rw [b2i_congr (R := iFour 6 a b c d) (by simp [iFour])]; exact K)
  · exact sp_X12_areFour7 (by rw [b2i_congr (R := iFour 7 a b c d) (by simp [iFour])]; exact K)
  · exact sp_X12_areFour8 (by rw [b2i_congr (R := iFour 8 a b c d) (by simp [iFour])]; exact K)
  · exact sp_X12_areFour9 (by rw [b2i_congr (R := iFour 9 a b c d) (by simp [iFour])]; exact K)
/-- its last two -/
abbrev iLast (k : Nat) (c e f : Int32) : Prop := if k = 4 then (e = 0 ∨ (e = nI 1 ∧ ¬ c = -100)) ∧ iIn f (nI 0) (nI 11) else (if k = 8 then iFar e else e = 0) ∧ f = 0
set_option maxRecDepth 100000 in
set_option maxHeartbeats 4000000 in
theorem sp_X12_areLast {g : gG} {M : gM} {Q : Option Value ⊕ String → gM → Prop} {k : Nat} {c e f : Int32} (hk : k < 10) (K : Q (.inl (some (.int (b2i (iLast k c e f))))) M) : E g 3 0 0 mX12_areLast 0 [.int (nI k), .int c, .int e, .int f] [] M Q := by
  refine E_iload_n dX12_areLast_0 rfl ?_
  refine E_iconst (v := nI 4) dX12_areLast_1 (by decide) ?_
  refine E_icmp_ne_n (tgt := 36) dX12_areLast_2 (by decide) (by omega) (by omega) (fun c_2 => ?_) (fun c_2 => ?_)
  · refine E_iload_n dX12_areLast_36 rfl ?_
    refine E_bipush (v := nI 8) dX12_areLast_37 (by decide) ?_
    refine E_icmp_ne_n (tgt := 52) dX12_areLast_39 (by decide) (by omega) (by omega) (fun c_39 => ?_) (fun c_39 => ?_)
    · refine E_iload_n dX12_areLast_52 rfl ?_
      refine E_if_ne (tgt := 64) dX12_areLast_53 (by decide) (fun c_53 => ?_) (fun c_53 => ?_)
      · refine E_iconst (v := nI 0) dX12_areLast_64 (by decide) ?_
        refine E_iret dX12_areLast_65 (Or.inr ⟨rfl, by decide⟩) ?_
        rw [← b2i_f (P := iLast k c e f) (by grind)]; exact K
      · refine E_iload_n dX12_areLast_56 rfl ?_
        refine E_if_ne (tgt := 64) dX12_areLast_57 (by decide) (fun c_57 => ?_) (fun c_57 => ?_)
        · refine E_iconst (v := nI 0) dX12_areLast_64 (by decide) ?_
          refine E_iret dX12_areLast_65 (Or.inr ⟨rfl, by decide⟩) ?_
          rw [← b2i_f (P := iLast k c e f) (by grind)]; exact K
        · refine E_iconst (v := nI 1) dX12_areLast_60 (by decide) ?_
          refine E_goto (tgt := 65) dX12_areLast_61 (by decide) ?_
          refine E_iret dX12_areLast_65 (Or.inr ⟨rfl, by decide⟩) ?_
          rw [← b2i_t (P := iLast k c e f) (by grind)]; exact K
    · refine E_iload_n dX12_areLast_42 rfl ?_
      refine E_callS1 (fr' := 2) (k1 := 0) (n1 := 0) (k2 := 0) (n2 := 0) dX12_areLast_43 kO_X12_isFar kL_X12_179 rfl (by decide) (by decide) (by exact Nat.le_of_ble_eq_true rfl) (Or.inl rfl) rfl ?_
      refine sp_X12_isFar ?_
      refine gKv ?_
      refine E_if_eq_b (tgt := 64) dX12_areLast_46 (by decide) (fun c_46 => ?_) (fun c_46 => ?_)
      · refine E_iconst (v := nI 0) dX12_areLast_64 (by decide) ?_
        refine E_iret dX12_areLast_65 (Or.inr ⟨rfl, by decide⟩) ?_
        rw [← b2i_f (P := iLast k c e f) (by grind)]; exact K
      · refine E_goto (tgt := 56) dX12_areLast_49 (by decide) ?_
        refine E_iload_n dX12_areLast_56 rfl ?_
        refine E_if_ne (tgt := 64) dX12_areLast_57 (by decide) (fun c_57 => ?_) (fun c_57 => ?_)
        · refine E_iconst (v := nI 0) dX12_areLast_64 (by decide) ?_
          refine E_iret dX12_areLast_65 (Or.inr ⟨rfl, by decide⟩) ?_
          rw [← b2i_f (P := iLast k c e f) (by grind)]; exact K
        · refine E_iconst (v := nI 1) dX12_areLast_60 (by decide) ?_
          refine E_goto (tgt := 65) dX12_areLast_61 (by decide) ?_
          refine E_iret dX12_areLast_65 (Or.inr ⟨rfl, by decide⟩) ?_
          rw [← b2i_t (P := iLast k c e f) (by grind)]; exact K
  · refine E_iload_n dX12_areLast_5 rfl ?_
    refine E_if_eq (tgt := 20) dX12_areLast_6 (by decide) (fun c_6 => ?_) (fun c_6 => ?_)
    · refine E_iload_n dX12_areLast_20 rfl ?_
      refine E_iconst (v := nI 0) dX12_areLast_21 (by decide) ?_
      refine E_bipush (v := nI 11) dX12_areLast_22 (by decide) ?_
      refine E_callS3 (fr' := 1) (k1 := 0) (n1 := 0) (k2 := 0) (n2 := 0) dX12_areLast_24 kO_X12_in kL_X12_162 rfl rfl rfl (by decide) (by decide) (by exact Nat.le_of_ble_eq_true rfl) (Or.inl rfl) rfl ?_
      refine sp_X12_in ?_
      refine gKv ?_
      refine E_if_eq_b (tgt := 34) dX12_areLast_27 (by decide) (fun c_27 => ?_) (fun c_27 => ?_)
      · refine E_iconst (v := nI 0) dX12_areLast_34 (by decide) ?_
        refine E_iret dX12_areLast_35 (Or.inr ⟨rfl, by decide⟩) ?_
        rw [← b2i_f (P := iLast k c e f) (by grind)]; exact K
      · refine E_iconst (v := nI 1) dX12_areLast_30 (by decide) ?_
        refine E_goto (tgt := 35) dX12_areLast_31 (by decide) ?_
        refine E_iret dX12_areLast_35 (Or.inr ⟨rfl, by decide⟩) ?_
        rw [← b2i_t (P := iLast k c e f) (by grind)]; exact K
    · refine E_iload_n dX12_areLast_9 rfl ?_
      refine E_iconst (v := nI 1) dX12_areLast_10 (by decide) ?_
      refine E_icmp_ne (tgt := 34) dX12_areLast_11 (by decide) (fun c_11 => ?_) (fun c_11 => ?_)
      · refine E_iconst (v := nI 0) dX12_areLast_34 (by decide) ?_
        refine E_iret dX12_areLast_35 (Or.inr ⟨rfl, by decide⟩) ?_
        rw [← b2i_f (P := iLast k c e f) (by grind)]; exact K
      · refine E_iload_n dX12_areLast_14 rfl ?_
        refine E_bipush (v := -100) dX12_areLast_15 (by decide) ?_
        refine E_icmp_eq (tgt := 34) dX12_areLast_17 (by decide) (fun c_17 => ?_) (fun c_17 => ?_)
        · refine E_iconst (v := nI 0) dX12_areLast_34 (by decide) ?_
          refine E_iret dX12_areLast_35 (Or.inr ⟨rfl, by decide⟩) ?_
          rw [← b2i_f (P := iLast k c e f) (by grind)]; exact K
        · refine E_iload_n dX12_areLast_20 rfl ?_
          refine E_iconst (v := nI 0) dX12_areLast_21 (by decide) ?_
          refine E_bipush (v := nI 11) dX12_areLast_22 (by decide) ?_
          refine E_callS3 (fr' := 1) (k1 := 0) (n1 := 0) (k2 := 0) (n2 := 0) dX12_areLast_24 kO_X12_in kL_X12_162 rfl rfl rfl (by decide) (by decide) (by exact Nat.le_of_ble_eq_true rfl) (Or.inl rfl) rfl ?_
          refine sp_X12_in ?_
          refine gKv ?_
          refine E_if_eq_b (tgt := 34) dX12_areLast_27 (by decide) (fun c_27 => ?_) (fun c_27 => ?_)
          · refine E_iconst (v := nI 0) dX12_areLast_34 (by decide) ?_
            refine E_iret dX12_areLast_35 (Or.inr ⟨rfl, by decide⟩) ?_
            rw [← b2i_f (P := iLast k c e f) (by grind)]; exact K
          · refine E_iconst (v := nI 1) dX12_areLast_30 (by decide) ?_
            refine E_goto (tgt := 35) dX12_areLast_31 (by decide) ?_
            refine E_iret dX12_areLast_35 (Or.inr ⟨rfl, by decide⟩) ?_
            rw [← b2i_t (P := iLast k c e f) (by grind)]; exact K
