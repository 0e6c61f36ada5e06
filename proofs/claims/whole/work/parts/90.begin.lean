/-! what stands when both have been made -/
noncomputable def c0 : Cf := (fun a j => if a = 128 ∧ j = 17 then 1 else if a = 137 ∧ j < 512 then cI (iMk (j % 256)) 1 0 else if a = 139 ∧ j < 512 then cI (iMk (j % 256) ∨ j % 256 = 2 ∨ j % 256 = 3) 0 10 else 0, fun _ => 0)
theorem c0_v (a j : Nat) : cN c0 a j = if a = 128 ∧ j = 17 then 1 else if a = 137 ∧ j < 512 then cI (iMk (j % 256)) 1 0 else if a = 139 ∧ j < 512 then cI (iMk (j % 256) ∨ j % 256 = 2 ∨ j % 256 = 3) 0 10 else 0 := rfl
theorem c0_17 : cN c0 128 17 = 1 := by rw [c0_v, if_pos ⟨rfl, rfl⟩]
theorem c0_137 {j : Nat} (h : j < 512) : cN c0 137 j = cI (iMk (j % 256)) 1 0 := by rw [c0_v, if_neg (by omega), if_pos ⟨rfl, h⟩]
theorem c0_139 {j : Nat} (h : j < 512) : cN c0 139 j = cI (iMk (j % 256) ∨ j % 256 = 2 ∨ j % 256 = 3) 0 10 := by rw [c0_v, if_neg (by omega), if_neg (by omega), if_pos ⟨rfl, h⟩]
theorem c0_z {a j : Nat} (h : ¬ (a = 128 ∧ j = 17)) (h1 : ¬ (a = 137 ∧ j < 512)) (h2 : ¬ (a = 139 ∧ j < 512)) : cN c0 a j = 0 := by rw [c0_v, if_neg h, if_neg h1, if_neg h2]
theorem F3_c {v : Nat} : F3 v = nI (cI (iMk v) 1 0) := by
  unfold F3
  by_cases e : iMk v
  · rw [cI_t e, cI_t e]
  · rw [cI_f e, cI_f e]
theorem F2_c {v : Nat} : F2 v = nI (cI (iMk v ∨ v = 2 ∨ v = 3) 0 10) := by
  unfold F2
  by_cases e : iMk v ∨ v = 2 ∨ v = 3
  · rw [cI_t e, cI_t e]
  · rw [cI_f e, cI_f e]
theorem F1_c {v : Nat} : F1 v = mkD (cI (iMk v) 1 0) := by
  unfold F1
  by_cases e : iMk v
  · rw [cI_t e, cI_t e, mkD_t]
  · rw [cI_f e, cI_f e, mkD_0]
theorem c0_wf : WFc c0 := by
  have z : ∀ a j, ¬ (a = 128 ∧ j = 17) → ¬ (a = 137 ∧ j < 512) → ¬ (a = 139 ∧ j < 512) → cN c0 a j = 0 := fun a j => c0_z
  have b137 : ∀ j, cN c0 137 j ≤ 4 := fun j => by
    by_cases e : j < 512
    · rw [c0_137 e]
      by_cases e2 : iMk (j % 256)
      · rw [cI_t e2]; decide
      · rw [cI_f e2]; decide
    · rw [z 137 j (by omega) (by omega) (by omega)]; decide
  have b139 : ∀ j, cN c0 139 j ≤ 100 := fun j => by
    by_cases e : j < 512
    · rw [c0_139 e]
      by_cases e2 : iMk (j % 256) ∨ j % 256 = 2 ∨ j % 256 = 3
      · rw [cI_t e2]; decide
      · rw [cI_f e2]; decide
    · rw [z 139 j (by omega) (by omega) (by omega)]; decide
  refine ⟨⟨by rw [z 128 1 (by omega) (by omega) (by omega)]; decide, by rw [z 128 14 (by omega) (by omega) (by omega)]; decide, by rw [c0_17]; decide, by rw [c0_17]; decide⟩, fun f => by rw [z 129 f (by omega) (by omega) (by omega)]; decide, fun l => ?_, fun j => ⟨b137 j, by rw [z 138 j (by omega) (by omega) (by omega)]; decide, b139 j, by rw [z 140 j (by omega) (by omega) (by omega)]; decide⟩, fun j => ⟨by rw [z 141 j (by omega) (by omega) (by omega)]; decide, by rw [z 142 j (by omega) (by omega) (by omega)]; decide⟩, fun l k hk => ?_⟩
  · refine ⟨?_, ?_, ?_, ?_, ?_, ?_⟩
    all_goals (rw [z _ l (by omega) (by omega) (by omega)]; decide)
  · rw [z 135 l (by omega) (by omega) (by omega)] at hk
    exact absurd hk (Nat.not_lt_zero k)
theorem fr_gl : ∀ t ∈ glrefL, ∃ i, i < 179 ∧ frL[i]? = some t := by
  have h : glrefL.all (fun t => (List.range 179).any (fun i => decide (frL[i]? = some t))) = true := by decide +kernel
  intro t ht
  obtain ⟨i, h1, h2⟩ := List.any_eq_true.mp (List.all_eq_true.mp h t ht)
  exact ⟨i, List.mem_range.mp h1, of_decide_eq_true h2⟩
section BG
variable {M : gM} (h : gG0 179 179 9 M)
theorem beg_lay (h : gG0 179 179 9 M) : gLay M := ⟨Nat.le_of_eq h.nn.symm, fun a ha => h.kd ha rfl, fun t ht => by
  obtain ⟨i, h1, h2⟩ := fr_gl t ht
  exact (h.2.2.1 i t h1 h2).2⟩
theorem beg_z (h : gG0 179 179 9 M) {a j : Nat} (q : ¬ S0 a j) : mI M a j = nI 0 := (h.2.2.2.2 a j q).trans (by decide)
theorem beg_f (h : gG0 179 179 9 M) (i : Nat) {a lo hi : Nat} (hi9 : i < 9) (hk : wkL[i]? = some (a, (lo, hi))) {j : Nat} (h1 : lo ≤ j) (h2 : j < hi) : mI M a j = wFn i j := (h.2.2.2.1 i _ hi9 hk).2 j h1 h2
theorem beg_bS (h : gG0 179 179 9 M) : bS c0 M := by
  refine ⟨beg_lay h, ⟨fun a j q => ?_, fun j => ?_⟩, c0_wf⟩
  · unfold cfA at q
    by_cases e1 : a = 128 ∧ j = 17
    · rw [e1.1, e1.2, c0_17]
      exact beg_f h 6 (by decide) (by decide +kernel) (lo := 17) (hi := 18) (by decide) (by decide)
    · by_cases e2 : a = 137 ∧ j < 512
      · rw [e2.1, c0_137 e2.2, ← F3_c]
        exact beg_f h 7 (by decide) (by decide +kernel) (lo := 0) (hi := 512) (Nat.zero_le _) e2.2
      · by_cases e3 : a = 139 ∧ j < 512
        · rw [e3.1, c0_139 e3.2, ← F2_c]
          exact beg_f h 8 (by decide) (by decide +kernel) (lo := 0) (hi := 512) (Nat.zero_le _) e3.2
        · rw [c0_z e1 e2 e3]
          exact beg_z h (by unfold S0; omega)
  · show mI M 136 j = 0
    exact h.2.2.2.2 136 j (by unfold S0; omega)
theorem beg_kS (h : gG0 179 179 9 M) : kS c0 (fun _ => 0) (fun i => i) M := by
  refine ⟨⟨beg_lay h, c0_wf, ?_, ⟨fun j hj => ⟨?_, ?_⟩, fun j hj => ?_, ?_, ?_⟩, fun f hf => ⟨?_, fun q hq => ⟨?_, ?_, ?_⟩, fun j hj => ?_⟩, fun f j f' j' _ _ hj _ _ => ?_⟩, ⟨fun i hi => ⟨hi, ?_⟩, fun i j _ _ q => q⟩, Or.inr ?_⟩
  · show _ = nI (cN c0 128 1)
    rw [c0_z (by omega) (by omega) (by omega)]; exact beg_z h (by unfold S0; omega)
  · rw [c0_z (by omega) (by omega) (by omega)]; exact beg_z h (by unfold S0; omega)
  · rw [c0_z (by omega) (by omega) (by omega)]; exact beg_z h (by unfold S0; omega)
  · rw [c0_z (by omega) (by omega) (by omega)]; exact beg_z h (by unfold S0; omega)
  · show _ = nI (cN c0 128 14)
    rw [c0_z (by omega) (by omega) (by omega)]; exact beg_z h (by unfold S0; omega)
  · rw [c0_17]; exact beg_f h 0 (by decide) (by decide +kernel) (lo := 4) (hi := 5) (by decide) (by decide)
  · rw [c0_z (by omega) (by omega) (by omega)]; exact beg_z h (by unfold S0 fb; omega)
  · rw [c0_137 (by omega), show (256 * f + q) % 256 = q by omega, ← F1_c]
    rcases (show f = 0 ∨ f = 1 by omega) with rfl | rfl
    · exact beg_f h 2 (by decide) (by decide +kernel) (lo := 0) (hi := 256) (Nat.zero_le _) hq
    · exact beg_f h 4 (by decide) (by decide +kernel) (lo := 0) (hi := 256) (Nat.zero_le _) hq
  · rw [c0_z (by omega) (by omega) (by omega)]; exact beg_z h (by unfold S0 fb; omega)
  · rw [c0_139 (by omega), show (256 * f + q) % 256 = q by omega, ← F2_c]
    rcases (show f = 0 ∨ f = 1 by omega) with rfl | rfl
    · exact beg_f h 3 (by decide) (by decide +kernel) (lo := 0) (hi := 256) (Nat.zero_le _) hq
    · exact beg_f h 5 (by decide) (by decide +kernel) (lo := 0) (hi := 256) (Nat.zero_le _) hq
  · rw [c0_z (by omega) (by omega) (by omega)] at hj; exact absurd hj (Nat.not_lt_zero j)
  · rw [c0_z (by omega) (by omega) (by omega)] at hj; exact absurd hj (Nat.not_lt_zero j)
  · exact h.rf (i := 6 + i) (by omega) (row_fr i hi)
  · exact beg_f h 1 (by decide) (by decide +kernel) (lo := 10) (hi := 11) (by decide) (by decide)
end BG
/-! both, kept by one another's steps -/
theorem fr.S {c : Cf} {P π : Nat → Nat} {M M' : gM} {S : Nat → Nat → Prop} (h : kS c P π M) (hf : fr S M M') (hs : ∀ a j, S a j → 128 ≤ a ∧ a ≤ 178) : kS c P π M' := by
  have hi : ∀ a j, ¬ (128 ≤ a ∧ a ≤ 178) → mI M' a j = mI M a j := fun a j q => hf.2.2 a j (fun z => q (hs a j z))
  have hr : mR M' = mR M := by unfold mR; rw [hf.2.1]
  have hL : mL M' = mL M := by unfold mL; rw [hf.2.1]
  have hk : kf (fun a _ => 128 ≤ a ∧ a ≤ 178) nT M M' := ⟨hf.1, hL, hi, fun a j _ => by rw [hr]⟩
  refine ⟨h.1.mv hk (fun a j z => by unfold told; omega) (fun _ _ z => z.elim), ⟨fun i q => ⟨(h.2.1.1 i q).1, by rw [hr]; exact (h.2.1.1 i q).2⟩, h.2.1.2⟩, ?_⟩
  rcases h.2.2 with ⟨q1, q2⟩ | q1
  · exact Or.inl ⟨(hi _ _ (by omega)).trans q1, q2.1.mv hk (fun x j z => by omega), q2.2.mv hk (fun x j z => by omega)⟩
  · exact Or.inr ((hi _ _ (by omega)).trans q1)
