/-! the reference: what tells, further -/
noncomputable def mkEnc (its : Int32) : Int32 := @ite _ (its = -100) (Classical.propDecidable _) (nI 0) (its + nI 1)
noncomputable def mkDec (w : Int32) : Int32 := @ite _ (w = 0) (Classical.propDecidable _) (-100) (w - nI 1)
