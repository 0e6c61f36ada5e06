/-! the law: what fills a line, blanks -/
noncomputable def v2 (c : Cf) (W : Nat → Int32) (r i : Nat) : Nat → Int32 := fun j => cI (j < tl c ∧ cN c 141 j = 0) (nI (r + cI (j < i) 1 0)) (W j)
noncomputable def v2E (c : Cf) (W : Nat → Int32) (L : Nat) : Nat → Int32 := fun j => cI (j < tl c ∧ cN c 141 j = 0) (nI (L / blk c (tl c) + cI (blk c j < L % blk c (tl c)) 1 0)) (W j)
theorem v2_in {c : Cf} {W : Nat → Int32} {r i j : Nat} (h : j < tl c ∧ cN c 141 j = 0) : v2 c W r i j = nI (r + cI (j < i) 1 0) := cI_t h
theorem v2_out {c : Cf} {W : Nat → Int32} {r i j : Nat} (h : ¬ (j < tl c ∧ cN c 141 j = 0)) : v2 c W r i j = W j := cI_f h
theorem dI_pos {x : Nat} (h : 0 < x) : dI x = nI (x - 1) := by rw [← dI_succ (x - 1), Nat.sub_add_cancel h]
set_option maxRecDepth 100000 in
set_option maxHeartbeats 4000000 in
theorem an_L_filled {g : gG} {M : gM} {Q : Option Value ⊕ String → gM → Prop} {c : Cf} {ps pm kk nn : Nat} {w ms : Int32} {M0 : gM} (h0 : lT c M0) (hy0 : myS c ps M0) {left : Int32} {V : Nat → Int32} (hm : mF pm V M0 M) (K : ∀ x11, E g 10 kk nn mL_filled 61 [.ref 1, .ref 129, .ref 132, .ref 133, .ref (ps + 1), .int w, .int ms, .ref (pm + 1), .int left, .int (nI (wSt c)), .int (b2i (∃ j, j < tl c ∧ msP c j)), .int x11, .null, .null] [] M Q) : ∀ i, i ≤ tl c → 0 ≤ i → E g 10 kk nn mL_filled 28 [.ref 1, .ref 129, .ref 132, .ref 133, .ref (ps + 1), .int w, .int ms, .ref (pm + 1), .int left, .int (nI (wSt c)), .int (b2i (∃ j, j < i ∧ msP c j)), .int (nI i), .null, .null] [] M Q := by
  refine lpUp (tl c) (fun i hi ih => ?_)
  intro _
  have h := h0
  have hy := hy0
  have hl := hm.1
  have h := hl.T h0
  have hy := hy0.R hl
  have hL := h.lay
  have h10 := h.t10
  have ht10 := h.S.t10
  refine E_iload dL_filled_28 rfl ?_
  refine E_aload_n dL_filled_30 rfl ?_
  refine E_iconst (v := nI 1) dL_filled_31 (by decide) ?_
  refine E_ialdL (v := nI (tl c)) dL_filled_32 (l_132 hL) (k_132 hL) rfl (by omega) (by decide) h.S.b1 ?_
  refine E_icmp_ge_n (tgt := 61) dL_filled_33 (by decide) (by omega) (by omega) (fun c_33 => ?_) (fun c_33 => ?_)
  · obtain rfl : i = tl c := by omega
    exact K _
  · have hil : i < tl c := by omega
    have ih := ih hil (Nat.zero_le _)
    obtain ⟨o1, o2⟩ := b2i_ior (∃ j, j < i ∧ msP c j)
    by_cases hm2 : msP c i
    · have cg : b2i (∃ j, j < (i + 1) ∧ msP c j) = nI 1 := b2i_t ⟨i, by omega, hm2⟩
      rw [cg] at ih
      refine E_iload dL_filled_36 rfl ?_
      refine E_aload dL_filled_38 rfl ?_
      refine E_iload dL_filled_40 rfl ?_
      refine E_ialdL (v := nI 1) dL_filled_42 (hy.1) (hy.2.2.1) rfl (by omega) (by decide) ((hy.2.2.2 i hil).trans (cI_t hm2)) ?_
      refine E_iconst (v := nI 1) dL_filled_43 (by decide) ?_
      refine E_icmp_ne_r (tgt := 51) dL_filled_44 (by decide) (fun c0 => absurd c0 (by decide)) (fun _ => ?_)
      refine E_iconst (v := nI 1) dL_filled_47 (by decide) ?_
      refine E_goto (tgt := 52) dL_filled_48 (by decide) ?_
      refine E_ior dL_filled_52 ?_
      rw [o1]
      refine E_istore dL_filled_53 (Nat.le_of_ble_eq_true rfl) (by decide) rfl ?_
      refine E_iinc_n (d := 1) dL_filled_55 rfl rfl rfl (by decide) rfl ?_
      refine E_goto (tgt := 28) dL_filled_58 (by decide) ?_
      exact ih
    · have cg : b2i (∃ j, j < (i + 1) ∧ msP c j) = b2i (∃ j, j < i ∧ msP c j) := b2i_congr ⟨fun ⟨j, q1, q2⟩ => ⟨j, by by_cases e : j = i; (rw [e] at q2; exact absurd q2 hm2); omega, q2⟩, fun ⟨j, q1, q2⟩ => ⟨j, by omega, q2⟩⟩
      rw [cg] at ih
      refine E_iload dL_filled_36 rfl ?_
      refine E_aload dL_filled_38 rfl ?_
      refine E_iload dL_filled_40 rfl ?_
      refine E_ialdL (v := nI 0) dL_filled_42 (hy.1) (hy.2.2.1) rfl (by omega) (by decide) ((hy.2.2.2 i hil).trans (cI_f hm2)) ?_
      refine E_iconst (v := nI 1) dL_filled_43 (by decide) ?_
      refine E_icmp_ne (tgt := 51) dL_filled_44 (by decide) (fun _ => ?_) (fun c0 => absurd (by decide) c0)
      refine E_iconst (v := nI 0) dL_filled_51 (by decide) ?_
      refine E_ior dL_filled_52 ?_
      rw [o2]
      refine E_istore dL_filled_53 (Nat.le_of_ble_eq_true rfl) (by decide) rfl ?_
      refine E_iinc_n (d := 1) dL_filled_55 rfl rfl rfl (by decide) rfl ?_
      refine E_goto (tgt := 28) dL_filled_58 (by decide) ?_
      exact ih
set_option maxRecDepth 100000 in
set_option maxHeartbeats 4000000 in
theorem bl_L_filled {g : gG} {M : gM} {Q : Option Value ⊕ String → gM → Prop} {c : Cf} {ps pm kk nn : Nat} {w ms : Int32} {M0 : gM} (h0 : lT c M0) (hy0 : myS c ps M0) {left : Int32} {x11 : Int32} {V : Nat → Int32} (hm : mF pm V M0 M) (K : ∀ x13, E g 10 kk nn mL_filled 172 [.ref 1, .ref 129, .ref 132, .ref 133, .ref (ps + 1), .int w, .int ms, .ref (pm + 1), .int left, .int (nI (wSt c)), .int (b2i (∃ j, j < tl c ∧ msP c j)), .int x11, .int (b2i (∃ j, j < tl c ∧ cN c 141 j = 0)), x13] [] M Q) : ∀ i, i ≤ tl c → 0 ≤ i → E g 10 kk nn mL_filled 138 [.ref 1, .ref 129, .ref 132, .ref 133, .ref (ps + 1), .int w, .int ms, .ref (pm + 1), .int left, .int (nI (wSt c)), .int (b2i (∃ j, j < tl c ∧ msP c j)), .int x11, .int (b2i (∃ j, j < i ∧ cN c 141 j = 0)), .int (nI i)] [] M Q := by
  refine lpUp (tl c) (fun i hi ih => ?_)
  intro _
  have h := h0
  have hy := hy0
  have hl := hm.1
  have h := hl.T h0
  have hy := hy0.R hl
  have hL := h.lay
  have h10 := h.t10
  have ht10 := h.S.t10
  refine E_iload dL_filled_138 rfl ?_
  refine E_aload_n dL_filled_140 rfl ?_
  refine E_iconst (v := nI 1) dL_filled_141 (by decide) ?_
  refine E_ialdL (v := nI (tl c)) dL_filled_142 (l_132 hL) (k_132 hL) rfl (by omega) (by decide) h.S.b1 ?_
  refine E_icmp_ge_n (tgt := 172) dL_filled_143 (by decide) (by omega) (by omega) (fun c_143 => ?_) (fun c_143 => ?_)
  · obtain rfl : i = tl c := by omega
    exact K _
  · have hil : i < tl c := by omega
    have hx9 := tEn_b h.wf i
    have ih := ih hil (Nat.zero_le _)
    obtain ⟨o1, o2⟩ := b2i_ior (∃ j, j < i ∧ cN c 141 j = 0)
    by_cases hm2 : cN c 141 i = 0
    · have cg : b2i (∃ j, j < (i + 1) ∧ cN c 141 j = 0) = nI 1 := b2i_t ⟨i, by omega, hm2⟩
      rw [cg] at ih
      refine E_iload dL_filled_146 rfl ?_
      refine E_aload_n dL_filled_148 rfl ?_
      refine E_iload dL_filled_149 rfl ?_
      refine E_ialdL (v := nI (tEn _ _)) dL_filled_151 (l_128 hL) (k_128 hL) rfl (by omega) (by decide) (h.tx (by omega)) ?_
      refine E_bipush (v := nI 63) dL_filled_152 (by decide) ?_
      refine E_iand dL_filled_154 ?_
      rw [tE_63 h.wf]
      refine E_if_ne_n (tgt := 162) dL_filled_155 (by decide) (by omega) (fun c_155 => ?_) (fun c_155 => ?_)
      · exfalso; omega
      · refine E_iconst (v := nI 1) dL_filled_158 (by decide) ?_
        refine E_goto (tgt := 163) dL_filled_159 (by decide) ?_
        refine E_ior dL_filled_163 ?_
        first
          | rw [o1]
          | (exfalso; omega)
        refine E_istore dL_filled_164 (Nat.le_of_ble_eq_true rfl) (by decide) rfl ?_
        refine E_iinc_n (d := 1) dL_filled_166 rfl rfl rfl (by decide) rfl ?_
        refine E_goto (tgt := 138) dL_filled_169 (by decide) ?_
        exact ih
    · have cg : b2i (∃ j, j < (i + 1) ∧ cN c 141 j = 0) = b2i (∃ j, j < i ∧ cN c 141 j = 0) := b2i_congr ⟨fun ⟨j, q1, q2⟩ => ⟨j, by by_cases e : j = i; (rw [e] at q2; exact absurd q2 hm2); omega, q2⟩, fun ⟨j, q1, q2⟩ => ⟨j, by omega, q2⟩⟩
      rw [cg] at ih
      refine E_iload dL_filled_146 rfl ?_
      refine E_aload_n dL_filled_148 rfl ?_
      refine E_iload dL_filled_149 rfl ?_
      refine E_ialdL (v := nI (tEn _ _)) dL_filled_151 (l_128 hL) (k_128 hL) rfl (by omega) (by decide) (h.tx (by omega)) ?_
      refine E_bipush (v := nI 63) dL_filled_152 (by decide) ?_
      refine E_iand dL_filled_154 ?_
      rw [tE_63 h.wf]
      refine E_if_ne_n (tgt := 162) dL_filled_155 (by decide) (by omega) (fun c_155 => ?_) (fun c_155 => ?_)
      · refine E_iconst (v := nI 0) dL_filled_162 (by decide) ?_
        refine E_ior dL_filled_163 ?_
        rw [o2]
        refine E_istore dL_filled_164 (Nat.le_of_ble_eq_true rfl) (by decide) rfl ?_
        refine E_iinc_n (d := 1) dL_filled_166 rfl rfl rfl (by decide) rfl ?_
        refine E_goto (tgt := 138) dL_filled_169 (by decide) ?_
        exact ih
      · exfalso; omega
set_option maxRecDepth 100000 in
set_option maxHeartbeats 4000000 in
theorem st2_L_filled {g : gG} {M : gM} {Q : Option Value ⊕ String → gM → Prop} {c : Cf} {ps pm kk nn : Nat} {w ms : Int32} {M0 : gM} (h0 : lT c M0) (hy0 : myS c ps M0) {L : Nat} {x11 : Int32} {W : Nat → Int32} (hL2 : L < 2 ^ 30) (hB : 0 < blk c (tl c)) {r i : Nat} (hi : i < tl c) (hp : (r * blk c (tl c) + blk c i) ≤ L) (hm : mF pm (v2 c W r i) M0 M) (K : ∀ M x13, mF pm (v2E c W L) M0 M → E g 10 kk nn mL_filled 223 [.ref 1, .ref 129, .ref 132, .ref 133, .ref (ps + 1), .int w, .int ms, .ref (pm + 1), .int (nI 0), .int (nI (wSt c)), .int (b2i (∃ j, j < tl c ∧ msP c j)), .int x11, .int (b2i (∃ j, j < tl c ∧ cN c 141 j = 0)), .int x13] [] M Q) (hnx : ∀ r' i' M, (i' = i + 1 ∧ i' < tl c ∧ r' = r ∨ i + 1 = tl c ∧ i' = 0 ∧ r' = r + 1) → (r' * blk c (tl c) + blk c i') ≤ L → mF pm (v2 c W r' i') M0 M → E g 10 kk nn mL_filled 175 [.ref 1, .ref 129, .ref 132, .ref 133, .ref (ps + 1), .int w, .int ms, .ref (pm + 1), .int (nI (L - (r' * blk c (tl c) + blk c i'))), .int (nI (wSt c)), .int (b2i (∃ j, j < tl c ∧ msP c j)), .int x11, .int (b2i (∃ j, j < tl c ∧ cN c 141 j = 0)), .int (nI i')] [] M Q) : E g 10 kk nn mL_filled 175 [.ref 1, .ref 129, .ref 132, .ref 133, .ref (ps + 1), .int w, .int ms, .ref (pm + 1), .int (nI (L - (r * blk c (tl c) + blk c i))), .int (nI (wSt c)), .int (b2i (∃ j, j < tl c ∧ msP c j)), .int x11, .int (b2i (∃ j, j < tl c ∧ cN c 141 j = 0)), .int (nI i)] [] M Q := by
  have h := h0
  have hy := hy0
  have hl := hm.1
  have h := hl.T h0
  have hy := hy0.R hl
  have hL := h.lay
  have h10 := h.t10
  have ht10 := h.S.t10
  have hx9 := tEn_b h.wf i
  have hmk : blk c i ≤ blk c (tl c) := blk_m _ (by omega)
  have hany : (∃ j, j < tl c ∧ cN c 141 j = 0) := (blk_p (tl c)).mp hB
  have hsm : (r + 1) * blk c (tl c) = r * blk c (tl c) + blk c (tl c) := Nat.succ_mul _ _
  have hex : (r * blk c (tl c) + blk c i) = L → ∀ x13, E g 10 kk nn mL_filled 223 [.ref 1, .ref 129, .ref 132, .ref 133, .ref (ps + 1), .int w, .int ms, .ref (pm + 1), .int (nI 0), .int (nI (wSt c)), .int (b2i (∃ j, j < tl c ∧ msP c j)), .int x11, .int (b2i (∃ j, j < tl c ∧ cN c 141 j = 0)), .int x13] [] M Q := fun e x13 => by
    refine K M x13 (hm.congr (fun j hj => ?_))
    by_cases hj2 : j < tl c ∧ cN c 141 j = 0
    · rw [v2_in hj2]
      unfold v2E
      rw [cI_t hj2, blN_e hB e.symm (by omega) hj2.1 hj2.2]
      congr 2
      by_cases z : j < i
      · rw [if_pos z, cI_t z]
      · rw [if_neg z, cI_f z]
    · rw [v2_out hj2]
      unfold v2E
      rw [cI_f hj2]
  refine E_iload dL_filled_175 rfl ?_
  refine E_if_eq_b (tgt := 223) dL_filled_177 (by decide) (fun c_177 => ?_) (fun c_177 => ?_)
  · first
      | exact absurd hany c_177
      | (have e : (r * blk c (tl c) + blk c i) = L := by omega
         have e0 : L - (r * blk c (tl c) + blk c i) = 0 := by omega
         rw [e0]
         exact hex e _)
  · refine E_iload dL_filled_180 rfl ?_
    refine E_if_le_n (tgt := 223) dL_filled_182 (by decide) (by omega) (fun c_182 => ?_) (fun c_182 => ?_)
    · first
        | exact absurd hany c_177
        | (have e : (r * blk c (tl c) + blk c i) = L := by omega
           have e0 : L - (r * blk c (tl c) + blk c i) = 0 := by omega
           rw [e0]
           exact hex e _)
    · by_cases hm2 : cN c 141 i = 0
      · have e1 := blk_t hm2
        have hVk : v2 c W r i i = nI r := by rw [v2_in ⟨hi, hm2⟩, cI_f (Nat.lt_irrefl i)]; rfl
        refine E_aload_n dL_filled_185 rfl ?_
        refine E_iload dL_filled_186 rfl ?_
        refine E_ialdL (v := nI (tEn _ _)) dL_filled_188 (l_128 hL) (k_128 hL) rfl (by omega) (by decide) (h.tx (by omega)) ?_
        refine E_bipush (v := nI 63) dL_filled_189 (by decide) ?_
        refine E_iand dL_filled_191 ?_
        rw [tE_63 h.wf]
        refine E_if_eq_n (tgt := 198) dL_filled_192 (by decide) (by omega) (fun c_192 => ?_) (fun c_192 => ?_)
        · refine E_aload dL_filled_198 rfl ?_
          refine E_iload dL_filled_200 rfl ?_
          refine E_dup2 dL_filled_202 rfl rfl ?_
          refine E_ialdL (v := nI r) dL_filled_203 hm.plt hm.pkd rfl (by omega) (by decide) ((hm.at (by omega)).trans hVk) ?_
          refine E_iconst (v := nI 1) dL_filled_204 (by decide) ?_
          refine E_iadd_n dL_filled_205 ?_
          refine E_setM dL_filled_206 hm rfl (by omega) (fun M hm => ?_)
          have hl := hm.1
          have h := hl.T h0
          have hy := hy0.R hl
          have hL := h.lay
          refine E_iinc_d dL_filled_207 rfl rfl (by decide) rfl ?_
          rw [dI_pos (show 0 < L - (r * blk c (tl c) + blk c i) by omega)]
          refine E_iload dL_filled_210 rfl ?_
          refine E_iconst (v := nI 1) dL_filled_212 (by decide) ?_
          refine E_iadd_n dL_filled_213 ?_
          refine E_aload_n dL_filled_214 rfl ?_
          refine E_iconst (v := nI 1) dL_filled_215 (by decide) ?_
          refine E_ialdL (v := nI (tl c)) dL_filled_216 (l_132 hL) (k_132 hL) rfl (by omega) (by decide) h.S.b1 ?_
          refine E_irem_n dL_filled_217 (by omega) (by omega) (by omega) ?_
          by_cases hlast : i + 1 = tl c
          · rw [hlast, Nat.mod_self]
            have e4 : blk c 0 = 0 := rfl
            have e6 : blk c (i + 1) = blk c (tl c) := by rw [hlast]
            have e5 : ((r + 1) * blk c (tl c) + blk c 0) = (r * blk c (tl c) + blk c i) + 1 := by rw [hsm, e4]; omega
            have hn := hnx (r + 1) 0 M (Or.inr ⟨hlast, rfl, rfl⟩) (by omega) (hm.congr (fun j hj => ?_))
            · rw [e5, ← Nat.sub_sub] at hn
              refine E_istore dL_filled_218 (Nat.le_of_ble_eq_true rfl) (by decide) rfl ?_
              refine E_goto (tgt := 175) dL_filled_220 (by decide) ?_
              exact hn
            · by_cases hj2 : j < tl c ∧ cN c 141 j = 0
              · rw [v2_in hj2, cI_f (Nat.not_lt_zero _)]
                by_cases z : j = i
                · rw [if_pos z]; try rfl
                · rw [if_neg z, v2_in hj2, cI_t (by omega)]; try rfl
              · rw [v2_out hj2]
                by_cases z : j = i
                · exact absurd ⟨by omega, by rw [z]; exact hm2⟩ hj2
                · rw [if_neg z, v2_out hj2]
          · rw [Nat.mod_eq_of_lt (by omega)]
            have e5 : (r * blk c (tl c) + blk c (i + 1)) = (r * blk c (tl c) + blk c i) + 1 := by omega
            have hn := hnx r (i + 1) M (Or.inl ⟨rfl, by omega, rfl⟩) (by omega) (hm.congr (fun j hj => ?_))
            · rw [e5, ← Nat.sub_sub] at hn
              refine E_istore dL_filled_218 (Nat.le_of_ble_eq_true rfl) (by decide) rfl ?_
              refine E_goto (tgt := 175) dL_filled_220 (by decide) ?_
              exact hn
            · by_cases hj2 : j < tl c ∧ cN c 141 j = 0
              · rw [v2_in hj2]
                by_cases z : j = i
                · rw [if_pos z, cI_t (by omega)]
                · rw [if_neg z, v2_in hj2]
                  by_cases z2 : j < i
                  · rw [cI_t z2, cI_t (by omega)]
                  · rw [cI_f z2, cI_f (by omega)]
              · rw [v2_out hj2]
                by_cases z : j = i
                · exact absurd ⟨by omega, by rw [z]; exact hm2⟩ hj2
                · rw [if_neg z, v2_out hj2]
        · exfalso; omega
      · have e1 := blk_f hm2
        refine E_aload_n dL_filled_185 rfl ?_
        refine E_iload dL_filled_186 rfl ?_
        refine E_ialdL (v := nI (tEn _ _)) dL_filled_188 (l_128 hL) (k_128 hL) rfl (by omega) (by decide) (h.tx (by omega)) ?_
        refine E_bipush (v := nI 63) dL_filled_189 (by decide) ?_
        refine E_iand dL_filled_191 ?_
        rw [tE_63 h.wf]
        refine E_if_eq_n (tgt := 198) dL_filled_192 (by decide) (by omega) (fun c_192 => ?_) (fun c_192 => ?_)
        · exfalso; omega
        · refine E_goto (tgt := 210) dL_filled_195 (by decide) ?_
          refine E_iload dL_filled_210 rfl ?_
          refine E_iconst (v := nI 1) dL_filled_212 (by decide) ?_
          refine E_iadd_n dL_filled_213 ?_
          refine E_aload_n dL_filled_214 rfl ?_
          refine E_iconst (v := nI 1) dL_filled_215 (by decide) ?_
          refine E_ialdL (v := nI (tl c)) dL_filled_216 (l_132 hL) (k_132 hL) rfl (by omega) (by decide) h.S.b1 ?_
          refine E_irem_n dL_filled_217 (by omega) (by omega) (by omega) ?_
          by_cases hlast : i + 1 = tl c
          · rw [hlast, Nat.mod_self]
            have e4 : blk c 0 = 0 := rfl
            have e6 : blk c (i + 1) = blk c (tl c) := by rw [hlast]
            have e5 : ((r + 1) * blk c (tl c) + blk c 0) = (r * blk c (tl c) + blk c i) := by rw [hsm, e4]; omega
            have hn := hnx (r + 1) 0 M (Or.inr ⟨hlast, rfl, rfl⟩) (by omega) (hm.congr (fun j hj => ?_))
            · rw [e5] at hn
              refine E_istore dL_filled_218 (Nat.le_of_ble_eq_true rfl) (by decide) rfl ?_
              refine E_goto (tgt := 175) dL_filled_220 (by decide) ?_
              exact hn
            · by_cases hj2 : j < tl c ∧ cN c 141 j = 0
              · have z : ¬ j = i := fun z => hm2 (by rw [← z]; exact hj2.2)
                rw [v2_in hj2, v2_in hj2, cI_f (Nat.not_lt_zero _), cI_t (by omega)]; try rfl
              · rw [v2_out hj2, v2_out hj2]
          · rw [Nat.mod_eq_of_lt (by omega)]
            have e5 : (r * blk c (tl c) + blk c (i + 1)) = (r * blk c (tl c) + blk c i) := by omega
            have hn := hnx r (i + 1) M (Or.inl ⟨rfl, by omega, rfl⟩) (by omega) (hm.congr (fun j hj => ?_))
            · rw [e5] at hn
              refine E_istore dL_filled_218 (Nat.le_of_ble_eq_true rfl) (by decide) rfl ?_
              refine E_goto (tgt := 175) dL_filled_220 (by decide) ?_
              exact hn
            · by_cases hj2 : j < tl c ∧ cN c 141 j = 0
              · have z : ¬ j = i := fun z => hm2 (by rw [← z]; exact hj2.2)
                rw [v2_in hj2, v2_in hj2]
                by_cases z2 : j < i
                · rw [cI_t z2, cI_t (by omega)]
                · rw [cI_f z2, cI_f (by omega)]
              · rw [v2_out hj2, v2_out hj2]
set_option maxRecDepth 100000 in
set_option maxHeartbeats 4000000 in
theorem lp2_L_filled {g : gG} {Q : Option Value ⊕ String → gM → Prop} {c : Cf} {ps pm kk nn : Nat} {w ms : Int32} {M0 : gM} (h0 : lT c M0) (hy0 : myS c ps M0) {L : Nat} {x11 : Int32} {W : Nat → Int32} (hL2 : L < 2 ^ 30) (hB : 0 < blk c (tl c)) (K : ∀ M x13, mF pm (v2E c W L) M0 M → E g 10 kk nn mL_filled 223 [.ref 1, .ref 129, .ref 132, .ref 133, .ref (ps + 1), .int w, .int ms, .ref (pm + 1), .int (nI 0), .int (nI (wSt c)), .int (b2i (∃ j, j < tl c ∧ msP c j)), .int x11, .int (b2i (∃ j, j < tl c ∧ cN c 141 j = 0)), .int x13] [] M Q) : ∀ t r, L ≤ r + t → ∀ i, i ≤ tl c - 1 → 0 ≤ i → ∀ M, (r * blk c (tl c) + blk c i) ≤ L → mF pm (v2 c W r i) M0 M → E g 10 kk nn mL_filled 175 [.ref 1, .ref 129, .ref 132, .ref 133, .ref (ps + 1), .int w, .int ms, .ref (pm + 1), .int (nI (L - (r * blk c (tl c) + blk c i))), .int (nI (wSt c)), .int (b2i (∃ j, j < tl c ∧ msP c j)), .int x11, .int (b2i (∃ j, j < tl c ∧ cN c 141 j = 0)), .int (nI i)] [] M Q := by
  have h00 : 0 < tl c := by have := blk_b c (tl c); omega
  intro t
  induction t with
  | zero =>
    intro r ht
    refine lpUp (tl c - 1) (fun i hi ih => ?_)
    intro _ M hp hm
    refine st2_L_filled h0 hy0 hL2 hB (by omega) hp hm K (fun r' i' M' hc hp' hm2 => ?_)
    rcases hc with ⟨z, z2, z3⟩ | ⟨z, z2, z3⟩
    · subst z z3
      exact ih (by omega) (Nat.zero_le _) M' hp' hm2
    · exfalso
      subst z3
      have h1 : r + 1 ≤ (r + 1) * blk c (tl c) := Nat.le_mul_of_pos_right _ hB
      omega
  | succ t iht =>
    intro r ht
    refine lpUp (tl c - 1) (fun i hi ih => ?_)
    intro _ M hp hm
    refine st2_L_filled h0 hy0 hL2 hB (by omega) hp hm K (fun r' i' M' hc hp' hm2 => ?_)
    rcases hc with ⟨z, z2, z3⟩ | ⟨z, z2, z3⟩
    · subst z z3
      exact ih (by omega) (Nat.zero_le _) M' hp' hm2
    · subst z2 z3
      exact iht (r + 1) (by omega) 0 (Nat.zero_le _) (Nat.le_refl _) M' hp' hm2
