/-! the reference: what is asked from outside -/
theorem qbS {c : Cf} {M M' : gM} (h : bS c M) (hf : fr qR M M') : bS c M' := h.fr hf qR_c
theorem bS.tl {c : Cf} {M : gM} (h : bS c M) : mI M 128 14 = nI (tl c) := h.gc (Or.inr ⟨rfl, by decide⟩)
theorem bS.thr {c : Cf} {M : gM} (h : bS c M) (v : Int32) : bS c (sI M 128 0 v) := qbS h (fr.refl.wr (by unfold qR; omega))
theorem fr.thr {M M' : gM} (h : fr qR M M') (v : Int32) : fr qR M (sI M' 128 0 v) := h.wr (by unfold qR; omega)
theorem fr.sh {M M' M'' : gM} {R0 G0 : Nat} (h : fr qR M M') (h2 : fr (shR R0 G0) M' M'') : fr qR M M'' := h.trans (h2.mono shR_q)
theorem qS.thr {c : Cf} {M : gM} (h : qS c M) (v : Int32) : qS c (sI M 128 0 v) := h.fr (S := fun a j => a = 128 ∧ j = 0) (fr.refl.wr ⟨rfl, rfl⟩) (fun a j q => Or.inr q)
theorem sh0 {M M' : gM} {R0 G0 : Nat} (h : fr (shR R0 G0) M M') : mI M' 128 0 = mI M 128 0 := h.bk (by unfold shR rowR; omega)
theorem Q_rw {Q : Option Value ⊕ String → gM → Prop} {M : gM} {x y : Int32} (e : y = x) (h : Q (.inl (some (.int y))) M) : Q (.inl (some (.int x))) M := e ▸ h
noncomputable def htD (x v : Int32) : Int32 := cI (v ≤ x) (x - v) (v - x)
noncomputable def htS (c : Cf) (x : Int32) : Nat → Int32 × Int32
  | 0 => (-100, nI 0)
  | k + 1 => cI ((htS c x k).1 = -100 ∨ htD x (crt c k) < (htS c x k).2) (nI k, htD x (crt c k)) (htS c x k)
