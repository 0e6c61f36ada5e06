/-! the reference: what tells -/
/-- a lookup more -/
def uLookup (M : gM) (fc cnt : Nat) (p1 p2 p3 p4 p5 : Int32) : gM := sI (sI (sI (sI (sI (sI (sI (sI M 128 0 (nI 0)) 130 (12 * fc + cnt) p1) 131 (12 * fc + cnt) p2) 132 (12 * fc + cnt) p3) 133 (12 * fc + cnt) p4) 134 (12 * fc + cnt) p5) 135 (12 * fc + cnt) (nI 0)) 129 fc (nI (cnt + 1))
abbrev iLk1 (p1 p2 : Int32) : Prop := iIn p1 (nI 0) (nI 9) ∧ iIn p2 (nI 0) (nI 6)
abbrev iLk2 (p3 p4 p5 : Int32) : Prop := iIn p3 (nI 0) (nI 1) ∧ iIn p4 (nI 0) (nI 2) ∧ iIn p5 (nI 0) (nI 5)
