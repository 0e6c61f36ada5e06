/-! the reference: ligatures, several for one -/
def numL (L : List Gl) (i v : Nat) : List Gl := putL L i (sN (gat L i) v)
theorem num_len (L : List Gl) (i v : Nat) : (numL L i v).length = L.length := put_len _ _ _
theorem cl_len (L : List Gl) (i : Nat) : (closeL L i).length = L.length - 1 := mkL_len _ _
theorem op_len (L : List Gl) (i m : Nat) : (openL L i m).length = L.length + m := mkL_len _ _
noncomputable def jnA (L : List Gl) (one its last : Nat) (al : Int32) (lo hi : Nat) : List Gl := closeL (putL (numL (mrgL L lo hi) one its) one (sT (gat (numL (mrgL L lo hi) one its) one) al)) last
noncomputable def jnB (c : Cf) (f : Nat) (L : List Gl) (last : Nat) (al : Int32) : List Gl := prtL c f L (last + 1) (bhm c f L (last + 1)) (al - yT (gat L last)) (yT (gat L last))
noncomputable def jnQ (c : Cf) (f : Nat) (L : List Gl) (one two three : Nat) : List Gl := prtL c f L (two + 1) three (yT (gat L one)) (yT (gat L two))
theorem jnQ_len (c : Cf) (f : Nat) (L : List Gl) (one two three : Nat) : (jnQ c f L one two three).length = L.length := prt_len _ _ _ _ _ _ _
noncomputable def jnP (c : Cf) (f : Nat) (L : List Gl) (one two : Nat) : List Gl := prtL c f L (one + 1) two (nI 0) (yT (gat L one))
def al2 (L : List Gl) (one two : Nat) : Int32 := yT (gat L one) + yT (gat L two) + nI 0
noncomputable def jnC (L : List Gl) (one two its : Nat) (al : Int32) : List Gl := jnA L one its two al (min (yC (gat L one)) (yC (gat L two))) (max (yC (gat L one)) (yC (gat L two)))
noncomputable def jn2 (c : Cf) (f : Nat) (L : List Gl) (one two its : Nat) : List Gl := jnC (jnB c f (jnP c f L one two) two (al2 L one two)) one two its (al2 L one two)
theorem jnB_len (c : Cf) (f : Nat) (L : List Gl) (last : Nat) (al : Int32) : (jnB c f L last al).length = L.length := prt_len _ _ _ _ _ _ _
theorem jnP_len (c : Cf) (f : Nat) (L : List Gl) (one two : Nat) : (jnP c f L one two).length = L.length := prt_len _ _ _ _ _ _ _
def al3 (L : List Gl) (one two three : Nat) : Int32 := yT (gat L one) + yT (gat L two) + yT (gat L three)
noncomputable def jnD (L : List Gl) (one two three its : Nat) (al : Int32) : List Gl := closeL (jnA L one its three al (min (min (yC (gat L one)) (yC (gat L two))) (yC (gat L three))) (max (max (yC (gat L one)) (yC (gat L two))) (yC (gat L three)))) two
noncomputable def jn3 (c : Cf) (f : Nat) (L : List Gl) (one two three its : Nat) : List Gl := jnD (jnB c f (jnQ c f (jnP c f L one two) one two three) three (al3 L one two three)) one two three its (al3 L one two three)
theorem jnA_len (L : List Gl) (one its last : Nat) (al : Int32) (lo hi : Nat) : (jnA L one its last al lo hi).length = L.length - 1 := by unfold jnA; rw [cl_len, put_len, num_len, mrg_len]
noncomputable def wPu (w : Int32) (i m : Nat) : Int32 := w + cI (w < nI i) (nI 0) (nI m)
noncomputable def putsL (L : List Gl) (i m b cc e : Nat) : List Gl := numL (numL (numL (openL L i m) i b) (i + 1) cc) (i + m) e
theorem puts_len (L : List Gl) (i m b cc e : Nat) : (putsL L i m b cc e).length = L.length + m := by unfold putsL; rw [num_len, num_len, num_len, op_len]
