/-! the reference: what goes back, what is taken out -/
noncomputable def bcl (L : List Gl) (i : Nat) : Nat := fnd (fun k => ¬ yC (gat L k) = yC (gat L i)) L.length i
theorem bcl_b {L : List Gl} {i : Nat} (h : i < L.length) : i + 1 ≤ bcl L i ∧ bcl L i ≤ L.length := by
  unfold bcl
  rw [fnd_skip h (fun q => q rfl)]
  exact ⟨(fnd_spec h).1, (fnd_spec h).2.1⟩
abbrev beh (x : Gl) : Prop := cCo (yO x) ∨ yO x = 64
noncomputable def led (L : List Gl) (i : Nat) : Nat := fnd (fun k => ¬ yO (gat L k) = 40) (bcl L i) i
def kilP (L : List Gl) (i k : Nat) : Prop := led L i ≤ k ∧ yN (gat L k) = 39 ∧ ∃ j, k < j ∧ j < bcl L i ∧ beh (gat L j)
noncomputable def kil (L : List Gl) (i : Nat) : Nat := rfd (kilP L i) (bcl L i)
noncomputable def mvL (L : List Gl) (i : Nat) : List Gl := cI (kil L i = 0) L (rotL L i (led L i) (kil L i))
theorem led_b {L : List Gl} {i : Nat} (h : i < L.length) : i ≤ led L i ∧ led L i ≤ bcl L i := ⟨(fnd_spec (by have := bcl_b h; omega)).1, (fnd_spec (by have := bcl_b h; omega)).2.1⟩
theorem kil_b {L : List Gl} {i : Nat} (h : i < L.length) : kil L i ≤ bcl L i ∧ (0 < kil L i → led L i < kil L i) := by
  refine ⟨rfd_le _, fun q => ?_⟩
  have := (rfd_spec (P := kilP L i) (bcl L i)).1 (kil L i - 1) (by show kil L i = _; omega)
  have := this.1
  omega
theorem mvL_len (L : List Gl) (i : Nat) : (mvL L i).length = L.length := by
  unfold mvL
  by_cases e : kil L i = 0
  · rw [cI_t e]
  · rw [cI_f e, rot_len]
theorem bcl_same {L : List Gl} {i j : Nat} (h1 : i ≤ j) (h2 : j < bcl L i) : yC (gat L j) = yC (gat L i) := by
  unfold bcl at h2
  by_cases e : i ≤ L.length
  · exact Classical.byContradiction (fun q => (fnd_spec e).2.2.2 j h1 h2 q)
  · rw [fnd_end (by omega)] at h2; omega
theorem bcl_mv {L : List Gl} {i : Nat} (h : i < L.length) : bcl (mvL L i) i = bcl L i := by
  have hb := bcl_b h
  have hl := led_b h
  have hk := kil_b h
  unfold mvL
  by_cases e : kil L i = 0
  · rw [cI_t e]
  · rw [cI_f e]
    have hk2 := hk.2 (by omega)
    have key : ∀ j, i ≤ j → j < bcl L i → yC (gat (rotL L i (led L i) (kil L i)) j) = yC (gat L i) := fun j h1 h2 => by
      unfold rotL
      rw [gat_mkL (by omega)]
      refine bcl_same ?_ ?_ <;> unfold rotS <;> repeat' split
      all_goals omega
    have hi := key i (Nat.le_refl _) (by omega)
    refine fnd_eq (by omega) (by rw [rot_len]; exact hb.2) (fun q => ?_) (fun j h1 h2 q => q ?_)
    · rw [hi]
      rw [rot_len] at q
      have : gat (rotL L i (led L i) (kil L i)) (bcl L i) = gat L (bcl L i) := by
        unfold rotL
        rw [gat_mkL q]
        unfold rotS
        rw [if_neg (by omega), if_neg (by omega), if_neg (by omega)]
      rw [this]
      exact (fnd_spec (Nat.le_of_lt h)).2.2.1 q
    · rw [key j h1 h2, hi]
noncomputable def mvs : Nat → Nat → List Gl → List Gl
  | 0, _, L => L
  | t + 1, i, L => cI (i < L.length) (mvs t (bcl L i) (mvL L i)) L
noncomputable def tko : Nat → List Gl → List Gl
  | 0, L => L
  | k + 1, L => tko k (cI (yN (gat L k) = 2 ∨ yN (gat L k) = 3) (closeL L k) L)
