/-! the law: what stands when it has begun -/
noncomputable def c0 : Cf := (fun a j => if a = 128 ∧ j = 17 then 1 else if a = 137 ∧ j < 512 then cI (iMk (j % 256)) 1 0 else if a = 139 ∧ j < 512 then cI (iMk (j % 256) ∨ j % 256 = 2 ∨ j % 256 = 3) 0 10 else 0, fun _ => 0)
theorem c0_v (a j : Nat) : cN c0 a j = if a = 128 ∧ j = 17 then 1 else if a = 137 ∧ j < 512 then cI (iMk (j % 256)) 1 0 else if a = 139 ∧ j < 512 then cI (iMk (j % 256) ∨ j % 256 = 2 ∨ j % 256 = 3) 0 10 else 0 := rfl
theorem c0_17 : cN c0 128 17 = 1 := by rw [c0_v, if_pos ⟨rfl, rfl⟩]
theorem c0_137 {j : Nat} (h : j < 512) : cN c0 137 j = cI (iMk (j % 256)) 1 0 := by rw [c0_v, if_neg (by omega), if_pos ⟨rfl, h⟩]
theorem c0_139 {j : Nat} (h : j < 512) : cN c0 139 j = cI (iMk (j % 256) ∨ j % 256 = 2 ∨ j % 256 = 3) 0 10 := by rw [c0_v, if_neg (by omega), if_neg (by omega), if_pos ⟨rfl, h⟩]
theorem c0_z {a j : Nat} (h : ¬ (a = 128 ∧ j = 17)) (h1 : ¬ (a = 137 ∧ j < 512)) (h2 : ¬ (a = 139 ∧ j < 512)) : cN c0 a j = 0 := by rw [c0_v, if_neg h, if_neg h1, if_neg h2]
theorem F2_c {v : Nat} : F2 v = nI (cI (iMk v ∨ v = 2 ∨ v = 3) 0 10) := by
  unfold F2
  by_cases e : iMk v ∨ v = 2 ∨ v = 3
  · rw [cI_t e, cI_t e]
  · rw [cI_f e, cI_f e]
theorem F1_c {v : Nat} : F1 v = mkD (cI (iMk v) 1 0) := by
  unfold F1
  by_cases e : iMk v
  · rw [cI_t e, cI_t e, mkD_t]
  · rw [cI_f e, cI_f e, mkD_0]
theorem c0_b137 (j : Nat) : cN c0 137 j ≤ 4 := by
  by_cases e : j < 512
  · rw [c0_137 e]
    by_cases e2 : iMk (j % 256)
    · rw [cI_t e2]; decide
    · rw [cI_f e2]; decide
  · rw [c0_z (by omega) (by omega) (by omega)]; decide
theorem c0_b139 (j : Nat) : cN c0 139 j ≤ 10 := by
  by_cases e : j < 512
  · rw [c0_139 e]
    by_cases e2 : iMk (j % 256) ∨ j % 256 = 2 ∨ j % 256 = 3
    · rw [cI_t e2]; decide
    · rw [cI_f e2]; decide
  · rw [c0_z (by omega) (by omega) (by omega)]; decide
theorem c0_wf : WFc c0 := by
  have z : ∀ a j, ¬ (a = 128 ∧ j = 17) → ¬ (a = 137 ∧ j < 512) → ¬ (a = 139 ∧ j < 512) → cN c0 a j = 0 := fun a j => c0_z
  refine ⟨⟨by rw [z 128 1 (by omega) (by omega) (by omega)]; decide, by rw [z 128 14 (by omega) (by omega) (by omega)]; decide, by rw [c0_17]; decide, by rw [c0_17]; decide⟩, fun f => by rw [z 129 f (by omega) (by omega) (by omega)]; decide, fun l => ?_, fun j => ⟨c0_b137 j, by rw [z 138 j (by omega) (by omega) (by omega)]; decide, by have := c0_b139 j; omega, by rw [z 140 j (by omega) (by omega) (by omega)]; decide⟩, fun j => ⟨by rw [z 141 j (by omega) (by omega) (by omega)]; decide, by rw [z 142 j (by omega) (by omega) (by omega)]; decide⟩, fun l k hk => ?_⟩
  · refine ⟨?_, ?_, ?_, ?_, ?_, ?_⟩
    all_goals (rw [z _ l (by omega) (by omega) (by omega)]; decide)
  · rw [z 135 l (by omega) (by omega) (by omega)] at hk
    exact absurd hk (Nat.not_lt_zero k)
theorem fr_gl : ∀ t ∈ glrefL, ∃ i, i < 130 ∧ frL[i]? = some t := by
  have h : glrefL.all (fun t => (List.range 130).any (fun i => decide (frL[i]? = some t))) = true := by decide +kernel
  intro t ht
  obtain ⟨i, h1, h2⟩ := List.any_eq_true.mp (List.all_eq_true.mp h t ht)
  exact ⟨i, List.mem_range.mp h1, of_decide_eq_true h2⟩
theorem beg_lay {M : gM} (h : gG0 139 130 6 M) : gLay M := ⟨Nat.le_of_eq h.nn.symm, fun a ha => h.kd ha rfl, fun t ht => by
  obtain ⟨i, h1, h2⟩ := fr_gl t ht
  exact (h.2.2.1 i t h1 h2).2⟩
theorem beg_z {M : gM} (h : gG0 139 130 6 M) {a j : Nat} (q : ¬ S0 a j) : mI M a j = nI 0 := (h.2.2.2.2 a j q).trans (by decide)
theorem beg_f {M : gM} (h : gG0 139 130 6 M) (i : Nat) {a lo hi : Nat} (hi9 : i < 6) (hk : wkL[i]? = some (a, (lo, hi))) {j : Nat} (h1 : lo ≤ j) (h2 : j < hi) : mI M a j = wFn i j := (h.2.2.2.1 i _ hi9 hk).2 j h1 h2
theorem beg_kS {M : gM} (h : gG0 139 130 6 M) : kS c0 (fun _ => 0) (fun i => i) M := by
  refine ⟨⟨beg_lay h, c0_wf, ?_, ⟨fun j hj => ⟨?_, ?_⟩, fun j hj => ?_, ?_, ?_⟩, fun f hf => ⟨?_, fun q hq => ⟨?_, ?_, ?_⟩, fun j hj => ?_⟩, fun f j f' j' _ _ hj _ _ => ?_⟩, ⟨fun i hi => ⟨hi, ?_⟩, fun i j _ _ q => q⟩, Or.inr ?_⟩
  · show _ = nI (cN c0 128 1)
    rw [c0_z (by omega) (by omega) (by omega)]; exact beg_z h (by unfold S0; omega)
  · rw [c0_z (by omega) (by omega) (by omega)]; exact beg_z h (by unfold S0; omega)
  · rw [c0_z (by omega) (by omega) (by omega)]; exact beg_z h (by unfold S0; omega)
  · rw [c0_z (by omega) (by omega) (by omega)]; exact beg_z h (by unfold S0; omega)
  · show _ = nI (cN c0 128 14)
    rw [c0_z (by omega) (by omega) (by omega)]; exact beg_z h (by unfold S0; omega)
  · rw [c0_17]; exact beg_f h 0 (by decide) (by decide +kernel) (lo := 4) (hi := 5) (by decide) (by decide)
  · rw [c0_z (by omega) (by omega) (by omega)]; exact beg_z h (by unfold S0 fb; omega)
  · rw [c0_137 (by omega), show (256 * f + q) % 256 = q by omega, ← F1_c]
    rcases (show f = 0 ∨ f = 1 by omega) with rfl | rfl
    · exact beg_f h 2 (by decide) (by decide +kernel) (lo := 0) (hi := 256) (Nat.zero_le _) hq
    · exact beg_f h 4 (by decide) (by decide +kernel) (lo := 0) (hi := 256) (Nat.zero_le _) hq
  · rw [c0_z (by omega) (by omega) (by omega)]; exact beg_z h (by unfold S0 fb; omega)
  · rw [c0_139 (by omega), show (256 * f + q) % 256 = q by omega, ← F2_c]
    rcases (show f = 0 ∨ f = 1 by omega) with rfl | rfl
    · exact beg_f h 3 (by decide) (by decide +kernel) (lo := 0) (hi := 256) (Nat.zero_le _) hq
    · exact beg_f h 5 (by decide) (by decide +kernel) (lo := 0) (hi := 256) (Nat.zero_le _) hq
  · rw [c0_z (by omega) (by omega) (by omega)] at hj; exact absurd hj (Nat.not_lt_zero j)
  · rw [c0_z (by omega) (by omega) (by omega)] at hj; exact absurd hj (Nat.not_lt_zero j)
  · exact h.rf (i := 6 + i) (by omega) (row_fr i hi)
  · exact beg_f h 1 (by decide) (by decide +kernel) (lo := 10) (hi := 11) (by decide) (by decide)
/-- the law's own cells, k glyphs told -/
def bgS (k : Nat) (M : gM) : Prop := kS c0 (fun _ => 0) (fun i => i) M ∧ (∀ j, j < k → mI M 131 j = nI (pEn c0 (gOf j))) ∧ ∀ j, mI M 132 j = if j = 2 then nI 1 else nI 0
theorem bgS.set {k : Nat} {M : gM} (h : bgS k M) {v : Int32} (hv : v = nI (pEn c0 (gOf k))) : bgS (k + 1) (sI M 131 k v) := by
  obtain ⟨h1, h2, h3⟩ := h
  refine ⟨h1.law h1.C (Nat.le_refl _) (fun _ _ => rfl) (fun a j q q2 => mI_ne (by omega)) (fun _ _ _ => rfl), fun j hj => ?_, fun j => (mI_ne (by decide)).trans (h3 j)⟩
  by_cases e : j = k
  · subst e; rw [mI_eq, hv]
  · rw [mI_nj e]; exact h2 j (by omega)
theorem c0_pE {v : Nat} (hv : v < 256) : pEn c0 v = 8193 * (cI (iMk v) 1 0 + 64 * cI (iMk v ∨ v = 2 ∨ v = 3) 0 10) := by
  unfold pEn pEf
  rw [c0_137 (by omega), c0_139 (by omega), c0_137 (by omega), c0_139 (by omega), c0_z (by omega) (by omega) (by omega), c0_z (by omega) (by omega) (by omega), show (256 * 0 + v) % 256 = v by omega, show (256 * 1 + v) % 256 = v by omega]
  omega
theorem gOf_of {v : Nat} (h : glZ v) : gOf (ofN v) = v := by
  unfold gOf ofN glZ at *
  by_cases e : v < 45
  · rw [if_pos e, if_pos e]
  · rw [if_neg e, if_neg (by omega)]; omega
theorem beg_lw {M : gM} (h : bgS 64 M) : lwS c0 (fun _ => 0) (fun i => i) M := by
  obtain ⟨h1, h2, h3⟩ := h
  have z : ∀ a j, ¬ (a = 128 ∧ j = 17) → ¬ (a = 137 ∧ j < 512) → ¬ (a = 139 ∧ j < 512) → cN c0 a j = 0 := fun a j => c0_z
  have e129 : ∀ f, cN c0 129 f = 0 := fun f => z 129 f (by omega) (by omega) (by omega)
  have e135 : ∀ f, cN c0 135 f = 0 := fun f => z 135 f (by omega) (by omega) (by omega)
  have etl : tl c0 = 0 := z 128 14 (by omega) (by omega) (by omega)
  have ef0 : fc0 c0 = 0 := z 128 1 (by omega) (by omega) (by omega)
  refine ⟨h1, ⟨h1.1.lay, c0_wf, ⟨fun f _ => by rw [e129]; decide, fun l => by rw [e135]; decide, by rw [etl]; decide, fun k hk => ?_, fun l k hk => ?_, fun f v hf hv hg => ?_⟩, fun k hk => ?_, fun f i hf hi => ?_, fun f i k hf hi hk => ?_, fun v hv => ?_, ?_, ?_, ?_, fun f hf => ?_⟩, fun l k hk => ?_, ⟨fun j => ?_, fun l k hk h6 => ?_⟩, h3 10⟩
  · rw [etl] at hk; exact absurd hk (Nat.not_lt_zero k)
  · rw [e135] at hk; exact absurd hk (Nat.not_lt_zero k)
  · rw [z 138 _ (by omega) (by omega) (by omega)]
  · rw [etl] at hk; exact absurd hk (Nat.not_lt_zero k)
  · rw [e129] at hi; exact absurd hi (Nat.not_lt_zero i)
  · rw [e129] at hi; exact absurd hi (Nat.not_lt_zero i)
  · rw [h2 (ofN v) (ofN_lt hv), gOf_of hv]
  · rw [h3, ef0]; rfl
  · rw [h3, etl]; rfl
  · rw [h3, c0_17]; rfl
  · rw [h3, e129, if_neg (by omega)]
  · rw [e135] at hk; exact absurd hk (Nat.not_lt_zero k)
  · have := c0_b139 j; omega
  · rw [e135] at hk; exact absurd hk (Nat.not_lt_zero k)
theorem beg_lk : lkS c0 0 := fun s hs => by
  rw [lk_at (by omega), cI_f bt_0, c0_z (by omega) (by omega) (by omega)]
set_option maxRecDepth 100000 in
set_option maxHeartbeats 4000000 in
theorem lb_L_law {g : gG} {Q : Option Value ⊕ String → gM → Prop} (hst : (gl1 g).stackTraces = false) (hg : gsL g < 2 ^ 20) (K : ∀ M, Q (.inl (some (.int (nI 1)))) M) : ∀ k, k ≤ 64 → 0 ≤ k → ∀ v16 v17 v18 M, bgS k M → E g 13 99000 1650000 mL_law 83 [.float 0, .ref 1, .ref 129, .ref 130, .ref 131, .ref 132, .ref 133, .ref 134, .ref 135, .ref 136, .ref 137, .ref 138, .ref 139, .long 0, .null, .int (nI k), v16, v17, v18, .null, .null, .null, .null, .null, .null] [] M Q := by
  refine lpUp 64 (fun k hk ih => ?_)
  intro _ v16 v17 v18 M hb
  have hL := hb.1.1.lay
  refine E_iload dL_law_83 rfl ?_
  refine E_bipush (v := nI 64) dL_law_85 (by decide) ?_
  refine E_icmp_ge_n (tgt := 202) dL_law_87 (by decide) (by omega) (by omega) (fun c_87 => ?_) (fun c_87 => ?_)
  · obtain rfl : k = 64 := by omega
    refine E_iconst (v := nI 0) dL_law_202 (by decide) ?_
    refine E_istore dL_law_203 (Nat.le_of_ble_eq_true rfl) (by decide) rfl ?_
    exact law_loop hst hg K 110 0 rfl c0 _ _ M 0 _ _ _ _ _ _ _ _ _ (beg_lw hb) beg_lk
  · have hk64 : k < 64 := by omega
    have fin : ∀ x v16 v17 v18, x = nI (pEn c0 (gOf k)) → E g 13 99000 1650000 mL_law 195 [.float 0, .ref 1, .ref 129, .ref 130, .ref 131, .ref 132, .ref 133, .ref 134, .ref 135, .ref 136, .ref 137, .ref 138, .ref 139, .long 0, .null, .int (nI k), v16, v17, v18, .null, .null, .null, .null, .null, .null] [.int x, .int (nI k), .ref 132] M Q := by
      intro x v16 v17 v18 hx
      refine E_iast dL_law_195 (l_131 hL) (k_131 hL) rfl (by omega) (by decide) ?_
      refine E_iinc_n (d := 1) dL_law_196 rfl rfl rfl (by decide) rfl ?_
      refine E_goto (tgt := 83) dL_law_199 (by decide) ?_
      exact ih hk64 (Nat.zero_le _) _ _ _ _ (hb.set hx)
    have two : ∀ gl, gl = gOf k → gl < 256 → ∀ b, (b = 1 ∧ iMk gl ∨ b = 0 ∧ ¬ iMk gl) → ∀ v17 v18, E g 13 99000 1650000 mL_law 142 [.float 0, .ref 1, .ref 129, .ref 130, .ref 131, .ref 132, .ref 133, .ref 134, .ref 135, .ref 136, .ref 137, .ref 138, .ref 139, .long 0, .null, .int (nI k), .int (nI gl), v17, v18, .null, .null, .null, .null, .null, .null] [.int (nI b)] M Q := by
      intro gl hgl hg2 b hb2 v17 v18
      have hpe := c0_pE hg2
      rw [hgl] at hpe
      rw [← hgl] at hpe fin
      rcases hb2 with ⟨rfl, hm⟩ | ⟨rfl, hm⟩
      · rw [cI_t hm, cI_t (Or.inl hm)] at hpe
        refine E_istore dL_law_142 (Nat.le_of_ble_eq_true rfl) (by decide) rfl ?_
        refine E_iload dL_law_144 rfl ?_
        refine E_if_eq (tgt := 153) dL_law_146 (by decide) (fun c0 => absurd c0 (by decide)) (fun _ => ?_)
        refine E_iconst (v := nI 1) dL_law_149 (by decide) ?_
        refine E_goto (tgt := 154) dL_law_150 (by decide) ?_
        refine E_bipush (v := nI 64) dL_law_154 (by decide) ?_
        refine E_iload dL_law_156 rfl ?_
        refine E_if_ne (tgt := 173) dL_law_158 (by decide) (fun _ => ?_) (fun c0 => absurd (by decide) c0)
        refine E_iconst (v := nI 0) dL_law_173 (by decide) ?_
        refine E_goto (tgt := 179) dL_law_174 (by decide) ?_
        refine E_imul_n dL_law_179 ?_
        refine E_iadd_n dL_law_180 ?_
        refine E_istore dL_law_181 (Nat.le_of_ble_eq_true rfl) (by decide) rfl ?_
        refine E_aload dL_law_183 rfl ?_
        refine E_iload dL_law_185 rfl ?_
        refine E_iload dL_law_187 rfl ?_
        refine E_iload dL_law_189 rfl ?_
        refine E_bipush (v := nI 13) dL_law_191 (by decide) ?_
        refine E_ishl dL_law_193 ?_
        refine E_iadd dL_law_194 ?_
        exact fin _ _ _ _ (by rw [hpe, zs_shl _ (by decide), nI_add])
      · rw [cI_f hm] at hpe
        refine E_istore dL_law_142 (Nat.le_of_ble_eq_true rfl) (by decide) rfl ?_
        refine E_iload dL_law_144 rfl ?_
        refine E_if_eq (tgt := 153) dL_law_146 (by decide) (fun _ => ?_) (fun c0 => absurd (by decide) c0)
        refine E_iconst (v := nI 0) dL_law_153 (by decide) ?_
        refine E_bipush (v := nI 64) dL_law_154 (by decide) ?_
        refine E_iload dL_law_156 rfl ?_
        refine E_if_ne (tgt := 173) dL_law_158 (by decide) (fun c0 => absurd c0 (by decide)) (fun _ => ?_)
        refine E_iload dL_law_161 rfl ?_
        refine E_iconst (v := nI 2) dL_law_163 (by decide) ?_
        refine E_icmp_eq_n (tgt := 173) dL_law_164 (by decide) (by omega) (by omega) (fun c_164 => ?_) (fun c_164 => ?_)
        · refine E_iconst (v := nI 0) dL_law_173 (by decide) ?_
          refine E_goto (tgt := 179) dL_law_174 (by decide) ?_
          refine E_imul_n dL_law_179 ?_
          refine E_iadd_n dL_law_180 ?_
          refine E_istore dL_law_181 (Nat.le_of_ble_eq_true rfl) (by decide) rfl ?_
          refine E_aload dL_law_183 rfl ?_
          refine E_iload dL_law_185 rfl ?_
          refine E_iload dL_law_187 rfl ?_
          refine E_iload dL_law_189 rfl ?_
          refine E_bipush (v := nI 13) dL_law_191 (by decide) ?_
          refine E_ishl dL_law_193 ?_
          refine E_iadd dL_law_194 ?_
          refine fin _ _ _ _ ?_
          first
            | (rw [hpe, cI_t (Or.inr (Or.inl (by omega))), zs_shl _ (by decide), nI_add])
            | (rw [hpe, cI_t (Or.inr (Or.inr (by omega))), zs_shl _ (by decide), nI_add])
            | (rw [hpe, cI_f (fun z => z.elim hm (fun z => by omega)), zs_shl _ (by decide), nI_add])
        · refine E_iload dL_law_167 rfl ?_
          refine E_iconst (v := nI 3) dL_law_169 (by decide) ?_
          refine E_icmp_ne_n (tgt := 177) dL_law_170 (by decide) (by omega) (by omega) (fun c_170 => ?_) (fun c_170 => ?_)
          · refine E_bipush (v := nI 10) dL_law_177 (by decide) ?_
            refine E_imul_n dL_law_179 ?_
            refine E_iadd_n dL_law_180 ?_
            refine E_istore dL_law_181 (Nat.le_of_ble_eq_true rfl) (by decide) rfl ?_
            refine E_aload dL_law_183 rfl ?_
            refine E_iload dL_law_185 rfl ?_
            refine E_iload dL_law_187 rfl ?_
            refine E_iload dL_law_189 rfl ?_
            refine E_bipush (v := nI 13) dL_law_191 (by decide) ?_
            refine E_ishl dL_law_193 ?_
            refine E_iadd dL_law_194 ?_
            refine fin _ _ _ _ ?_
            first
              | (rw [hpe, cI_t (Or.inr (Or.inl (by omega))), zs_shl _ (by decide), nI_add])
              | (rw [hpe, cI_t (Or.inr (Or.inr (by omega))), zs_shl _ (by decide), nI_add])
              | (rw [hpe, cI_f (fun z => z.elim hm (fun z => by omega)), zs_shl _ (by decide), nI_add])
          · refine E_iconst (v := nI 0) dL_law_173 (by decide) ?_
            refine E_goto (tgt := 179) dL_law_174 (by decide) ?_
            refine E_imul_n dL_law_179 ?_
            refine E_iadd_n dL_law_180 ?_
            refine E_istore dL_law_181 (Nat.le_of_ble_eq_true rfl) (by decide) rfl ?_
            refine E_aload dL_law_183 rfl ?_
            refine E_iload dL_law_185 rfl ?_
            refine E_iload dL_law_187 rfl ?_
            refine E_iload dL_law_189 rfl ?_
            refine E_bipush (v := nI 13) dL_law_191 (by decide) ?_
            refine E_ishl dL_law_193 ?_
            refine E_iadd dL_law_194 ?_
            refine fin _ _ _ _ ?_
            first
              | (rw [hpe, cI_t (Or.inr (Or.inl (by omega))), zs_shl _ (by decide), nI_add])
              | (rw [hpe, cI_t (Or.inr (Or.inr (by omega))), zs_shl _ (by decide), nI_add])
              | (rw [hpe, cI_f (fun z => z.elim hm (fun z => by omega)), zs_shl _ (by decide), nI_add])
    have one : ∀ gl, gl = gOf k → gl < 256 → ∀ v16, E g 13 99000 1650000 mL_law 107 [.float 0, .ref 1, .ref 129, .ref 130, .ref 131, .ref 132, .ref 133, .ref 134, .ref 135, .ref 136, .ref 137, .ref 138, .ref 139, .long 0, .null, .int (nI k), v16, v17, v18, .null, .null, .null, .null, .null, .null] [.int (nI gl)] M Q := by
      intro gl hgl hg2 v16
      refine E_istore dL_law_107 (Nat.le_of_ble_eq_true rfl) (by decide) rfl ?_
      refine E_iload dL_law_109 rfl ?_
      refine E_bipush (v := nI 20) dL_law_111 (by decide) ?_
      refine E_icmp_le_n (tgt := 123) dL_law_113 (by decide) (by omega) (by omega) (fun c_113 => ?_) (fun c_113 => ?_)
      · refine E_iload dL_law_123 rfl ?_
        refine E_bipush (v := nI 44) dL_law_125 (by decide) ?_
        refine E_icmp_eq_n (tgt := 137) dL_law_127 (by decide) (by omega) (by omega) (fun c_127 => ?_) (fun c_127 => ?_)
        · refine E_iconst (v := nI 1) dL_law_137 (by decide) ?_
          refine E_goto (tgt := 142) dL_law_138 (by decide) ?_
          refine two gl hgl hg2 _ ?_ _ _
          first
            | exact Or.inl ⟨rfl, by unfold iMk cMk; omega⟩
            | exact Or.inr ⟨rfl, by unfold iMk cMk; omega⟩
        · refine E_iload dL_law_130 rfl ?_
          refine E_bipush (v := nI 65) dL_law_132 (by decide) ?_
          refine E_icmp_ne_n (tgt := 141) dL_law_134 (by decide) (by omega) (by omega) (fun c_134 => ?_) (fun c_134 => ?_)
          · refine E_iconst (v := nI 0) dL_law_141 (by decide) ?_
            refine two gl hgl hg2 _ ?_ _ _
            first
              | exact Or.inl ⟨rfl, by unfold iMk cMk; omega⟩
              | exact Or.inr ⟨rfl, by unfold iMk cMk; omega⟩
          · refine E_iconst (v := nI 1) dL_law_137 (by decide) ?_
            refine E_goto (tgt := 142) dL_law_138 (by decide) ?_
            refine two gl hgl hg2 _ ?_ _ _
            first
              | exact Or.inl ⟨rfl, by unfold iMk cMk; omega⟩
              | exact Or.inr ⟨rfl, by unfold iMk cMk; omega⟩
      · refine E_iload dL_law_116 rfl ?_
        refine E_bipush (v := nI 24) dL_law_118 (by decide) ?_
        refine E_icmp_lt_n (tgt := 137) dL_law_120 (by decide) (by omega) (by omega) (fun c_120 => ?_) (fun c_120 => ?_)
        · refine E_iconst (v := nI 1) dL_law_137 (by decide) ?_
          refine E_goto (tgt := 142) dL_law_138 (by decide) ?_
          refine two gl hgl hg2 _ ?_ _ _
          first
            | exact Or.inl ⟨rfl, by unfold iMk cMk; omega⟩
            | exact Or.inr ⟨rfl, by unfold iMk cMk; omega⟩
        · refine E_iload dL_law_123 rfl ?_
          refine E_bipush (v := nI 44) dL_law_125 (by decide) ?_
          refine E_icmp_eq_n (tgt := 137) dL_law_127 (by decide) (by omega) (by omega) (fun c_127 => ?_) (fun c_127 => ?_)
          · refine E_iconst (v := nI 1) dL_law_137 (by decide) ?_
            refine E_goto (tgt := 142) dL_law_138 (by decide) ?_
            refine two gl hgl hg2 _ ?_ _ _
            first
              | exact Or.inl ⟨rfl, by unfold iMk cMk; omega⟩
              | exact Or.inr ⟨rfl, by unfold iMk cMk; omega⟩
          · refine E_iload dL_law_130 rfl ?_
            refine E_bipush (v := nI 65) dL_law_132 (by decide) ?_
            refine E_icmp_ne_n (tgt := 141) dL_law_134 (by decide) (by omega) (by omega) (fun c_134 => ?_) (fun c_134 => ?_)
            · refine E_iconst (v := nI 0) dL_law_141 (by decide) ?_
              refine two gl hgl hg2 _ ?_ _ _
              first
                | exact Or.inl ⟨rfl, by unfold iMk cMk; omega⟩
                | exact Or.inr ⟨rfl, by unfold iMk cMk; omega⟩
            · refine E_iconst (v := nI 1) dL_law_137 (by decide) ?_
              refine E_goto (tgt := 142) dL_law_138 (by decide) ?_
              refine two gl hgl hg2 _ ?_ _ _
              first
                | exact Or.inl ⟨rfl, by unfold iMk cMk; omega⟩
                | exact Or.inr ⟨rfl, by unfold iMk cMk; omega⟩
    refine E_iload dL_law_90 rfl ?_
    refine E_bipush (v := nI 45) dL_law_92 (by decide) ?_
    refine E_icmp_ge_n (tgt := 102) dL_law_94 (by decide) (by omega) (by omega) (fun c_94 => ?_) (fun c_94 => ?_)
    · refine E_iload dL_law_102 rfl ?_
      refine E_bipush (v := nI 19) dL_law_104 (by decide) ?_
      refine E_iadd_n dL_law_106 ?_
      refine one _ ?_ ?_ _
      · unfold gOf
        first
          | (rw [if_pos (by omega)])
          | (rw [if_neg (by omega)])
      · omega
    · refine E_iload dL_law_97 rfl ?_
      refine E_goto (tgt := 107) dL_law_99 (by decide) ?_
      refine one _ ?_ ?_ _
      · unfold gOf
        first
          | (rw [if_pos (by omega)])
          | (rw [if_neg (by omega)])
      · omega
set_option maxRecDepth 100000 in
set_option maxHeartbeats 4000000 in
theorem law_init {g : gG} {Q : Option Value ⊕ String → gM → Prop} (hst : (gl1 g).stackTraces = false) (hg : gsL g < 2 ^ 20) (K : ∀ M, Q (.inl (some (.int (nI 1)))) M) {M : gM} (hG : gG0 139 130 6 M) : E g 13 99000 1650000 mL_law 72 [.float 0, .ref 1, .ref 129, .ref 130, .ref 131, .ref 132, .ref 133, .ref 134, .ref 135, .ref 136, .ref 137, .ref 138, .ref 139, .null, .null, .null, .null, .null, .null, .null, .null, .null, .null, .null, .null] [] M Q := by
  have hL := beg_lay hG
  have hS := beg_kS hG
  have h0 : ∀ j, mI M 132 j = nI 0 := fun j => beg_z hG (by unfold S0; omega)
  have hb : bgS 0 (sI M 132 2 (nI 1)) := ⟨hS.law hS.C (Nat.le_refl _) (fun _ _ => rfl) (fun a j q q2 => mI_ne (by omega)) (fun _ _ _ => rfl), fun j hj => absurd hj (Nat.not_lt_zero j), fun j => by
    by_cases e : j = 2
    · subst e; rw [mI_eq, if_pos rfl]
    · rw [mI_nj e, if_neg e]; exact h0 j⟩
  refine E_lconst (v := 0) dL_law_72 (by decide) ?_
  refine E_lstore dL_law_73 (Nat.le_of_ble_eq_true rfl) (by decide) rfl ?_
  refine E_aload dL_law_75 rfl ?_
  refine E_iconst (v := nI 2) dL_law_77 (by decide) ?_
  refine E_iconst (v := nI 1) dL_law_78 (by decide) ?_
  refine E_iast dL_law_79 (l_132 hL) (k_132 hL) rfl (by omega) (by decide) ?_
  refine E_iconst (v := nI 0) dL_law_80 (by decide) ?_
  refine E_istore dL_law_81 (Nat.le_of_ble_eq_true rfl) (by decide) rfl ?_
  exact lb_L_law hst hg K 0 (Nat.zero_le _) (Nat.le_refl _) _ _ _ _ hb
