/-! the reference: what it asks of numbers -/
abbrev iIn (v a b : Int32) : Prop := a ≤ v ∧ v ≤ b
abbrev iSign (s : Int32) : Prop := iIn s (nI 0) (nI 23) ∨ iIn s (nI 30) (nI 44)
abbrev iGlyph (v : Int32) : Prop := iIn v (nI 0) (nI 255)
abbrev iItem (v : Int32) : Prop := iGlyph v ∨ iIn v (nI 300) (nI 305)
abbrev iItemN (v : Int32) : Prop := v = -100 ∨ iItem v
abbrev iGlyphN (v : Int32) : Prop := v = -100 ∨ iGlyph v
abbrev iFar (v : Int32) : Prop := iIn v (-50) (nI 50)
abbrev iFarN (v : Int32) : Prop := v = -100 ∨ iFar v
abbrev iClass (v : Int32) : Prop := iIn v (nI 0) (nI 3)
abbrev iMarkS (s : Int32) : Prop := iIn s (nI 21) (nI 23)
abbrev iCons (s : Int32) : Prop := iIn s (nI 30) (nI 38)
abbrev iVow (s : Int32) : Prop := iIn s (nI 40) (nI 42) ∨ s = nI 44
