/-! the reference: rule, isOf, begins -/
abbrev iRl (kd : Nat) (a b c d e f : Int32) : Prop := iFour kd a b c d ∧ iLast kd c e f
def uRule (M : gM) (at0 r : Nat) (a b c d e f : Int32) : gM := sI (sI (sI (sI (sI (sI (sI (sI (sI M 128 0 (nI 0)) 128 0 (nI 0)) 136 (6 * (8 * at0 + r)) a) 136 (6 * (8 * at0 + r) + 1) b) 136 (6 * (8 * at0 + r) + 2) c) 136 (6 * (8 * at0 + r) + 3) d) 136 (6 * (8 * at0 + r) + 4) e) 136 (6 * (8 * at0 + r) + 5) f) 135 at0 (nI (r + 1))
/-- an item is a glyph (told by its number, or a group) -/
abbrev iOf (M : gM) (fc : Nat) (item : Int32) (q : Nat) : Prop := (nI 300 ≤ item ∧ mI M 138 (256 * fc + q) = item - nI 300) ∨ (¬ nI 300 ≤ item ∧ item = nI q)
/-- the rules of a lookup that can begin with a glyph -/
def leadOf (kd : Nat) : Nat := if kd = 4 ∨ kd = 5 then 1 else 0
abbrev iBg (M : gM) (fc l kd q : Nat) (k : Nat) : Prop := iOf M fc (mI M 136 (6 * (8 * l + k) + leadOf kd)) q
