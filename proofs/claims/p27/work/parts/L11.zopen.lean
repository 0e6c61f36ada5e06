/-! the law: forms, syllables, what goes back -/
/-- the law's number for a form -/
noncomputable def frC (c : Cf) (a b p : Nat) : Nat := cI (10 ≤ cN c 141 p ∧ cN c 141 p ≤ 20) (cI (¬ cN c 141 p = 19 ∧ jfP c a p) (cI (cBo (cN c 141 p) ∧ joP c b p) 2 3) (cI (cBo (cN c 141 p) ∧ joP c b p) 1 0)) 4
theorem frC_frm (c : Cf) (a b p : Nat) : frm c a b p = -100 ∧ frC c a b p = 4 ∨ frC c a b p < 4 ∧ frm c a b p = nI (frC c a b p) := by
  unfold frC frm
  by_cases h1 : 10 ≤ cN c 141 p ∧ cN c 141 p ≤ 20
  · rw [cI_t h1, cI_t h1]
    right
    by_cases h2 : ¬ cN c 141 p = 19 ∧ jfP c a p
    · rw [cI_t h2, cI_t h2]
      by_cases h3 : cBo (cN c 141 p) ∧ joP c b p
      · rw [cI_t h3, cI_t h3]; exact ⟨by decide, rfl⟩
      · rw [cI_f h3, cI_f h3]; exact ⟨by decide, rfl⟩
    · rw [cI_f h2, cI_f h2]
      by_cases h3 : cBo (cN c 141 p) ∧ joP c b p
      · rw [cI_t h3, cI_t h3]; exact ⟨by decide, rfl⟩
      · rw [cI_f h3, cI_f h3]; exact ⟨by decide, rfl⟩
  · rw [cI_f h1, cI_f h1]; exact Or.inl ⟨rfl, rfl⟩
theorem frC_lt (c : Cf) (a b p : Nat) : frC c a b p < 5 := by
  rcases frC_frm c a b p with ⟨-, h⟩ | ⟨h, -⟩ <;> omega
theorem frm_ok (c : Cf) (a b p : Nat) : frm c a b p = -100 ∨ ∃ j, j < 4 ∧ frm c a b p = nI j := by
  rcases frC_frm c a b p with ⟨h, -⟩ | ⟨h1, h2⟩
  · exact Or.inl h
  · exact Or.inr ⟨_, h1, h2⟩
theorem jfr_bz {c : Cf} {a k : Nat} (h : a ≤ k) : a ≤ jfr c a k ∧ jfr c a k ≤ k := by
  refine ⟨?_, rfd_le _⟩
  by_cases e : a = 0
  · omega
  · obtain ⟨g1, g2⟩ := rfd_spec (P := fun j => j < a ∨ ¬ cMk (cN c 141 j)) k
    by_cases q : a ≤ jfr c a k
    · exact q
    · exact absurd (Or.inl (show a - 1 < a by omega)) (g2 (a - 1) (by show jfr c a k ≤ _; omega) (by omega))
set_option maxRecDepth 100000 in
set_option maxHeartbeats 4000000 in
theorem f21_L_formed {g : gG} {M : gM} {Q : Option Value ⊕ String → gM → Prop} {c : Cf} (h : zS c M) {a b k : Nat} (hak : a ≤ k) (hkb : k < b) (hbt : b ≤ tl c) (hs : 10 ≤ cN c 141 k ∧ cN c 141 k ≤ 20) (hA : ¬ cN c 141 k = 19 ∧ jfP c a k) (K : Q (.inl (some (.int (nI (frC c a b k))))) M) : ∀ v5, E g 2 0 0 mL_formed 128 [.ref 129, .int (nI a), .int (nI b), .int (nI k), .int (nI (cN c 141 k)), v5, .int (nI (jon c b k)), .int (nI 1), .null] [] M Q := by
  intro v5
  have hL := h.lay
  have ht10 := h.t10
  have hj := (fnd_spec (P := fun j => ¬ cMk (cN c 141 j)) (show k + 1 ≤ b by omega)).1
  have hj : k + 1 ≤ jon c b k := hj
  have hj2 : jon c b k ≤ b := (fnd_spec (P := fun j => ¬ cMk (cN c 141 j)) (show k + 1 ≤ b by omega)).2.1
  have hb1 := tEn_b h.wf (jon c b k)
  refine E_iload dL_formed_128 rfl ?_
  refine E_callT1 (fr' := 1) (k1 := 0) (n1 := 0) (k2 := 0) (n2 := 0) dL_formed_130 kO_L_letter kL_L_175 (by exact Nat.le_of_ble_eq_true rfl) (by decide) (by exact Nat.le_of_ble_eq_true rfl) (Or.inl rfl) rfl ?_
  refine sp_L_letter (by omega) ?_
  refine gKv ?_
  refine E_if_eq_b (tgt := 194) dL_formed_133 (by decide) (fun c_133 => ?_) (fun c_133 => ?_)
  · refine E_iconst (v := nI 0) dL_formed_194 (by decide) ?_
    refine E_istore dL_formed_195 (Nat.le_of_ble_eq_true rfl) (by decide) rfl ?_
    refine E_iload dL_formed_197 rfl ?_
    refine E_if_eq (tgt := 211) dL_formed_199 (by decide) (fun c0 => absurd c0 (by decide)) (fun _ => ?_)
    refine E_iload dL_formed_202 rfl ?_
    refine E_if_eq (tgt := 211) dL_formed_204 (by decide) (fun _ => ?_) (fun c0 => absurd (by decide) c0)
    refine E_iload dL_formed_211 rfl ?_
    refine E_if_eq (tgt := 220) dL_formed_213 (by decide) (fun c0 => absurd c0 (by decide)) (fun _ => ?_)
    refine E_iconst (v := nI 3) dL_formed_216 (by decide) ?_
    refine E_goto (tgt := 230) dL_formed_217 (by decide) ?_
    refine E_iret dL_formed_230 (Or.inl rfl) ?_
    rw [show frC c a b k = 3 from (cI_t hs).trans ((cI_t hA).trans (cI_f (show ¬ (cBo (cN c 141 k) ∧ joP c b k) from fun z => by obtain ⟨z1, z2⟩ := z; unfold joP at z2; first | exact c_133 z1 | omega)))] at K
    exact K
  · refine E_iload dL_formed_136 rfl ?_
    refine E_iload_n dL_formed_138 rfl ?_
    refine E_icmp_ge_n (tgt := 194) dL_formed_139 (by decide) (by omega) (by omega) (fun c_139 => ?_) (fun c_139 => ?_)
    · refine E_iconst (v := nI 0) dL_formed_194 (by decide) ?_
      refine E_istore dL_formed_195 (Nat.le_of_ble_eq_true rfl) (by decide) rfl ?_
      refine E_iload dL_formed_197 rfl ?_
      refine E_if_eq (tgt := 211) dL_formed_199 (by decide) (fun c0 => absurd c0 (by decide)) (fun _ => ?_)
      refine E_iload dL_formed_202 rfl ?_
      refine E_if_eq (tgt := 211) dL_formed_204 (by decide) (fun _ => ?_) (fun c0 => absurd (by decide) c0)
      refine E_iload dL_formed_211 rfl ?_
      refine E_if_eq (tgt := 220) dL_formed_213 (by decide) (fun c0 => absurd c0 (by decide)) (fun _ => ?_)
      refine E_iconst (v := nI 3) dL_formed_216 (by decide) ?_
      refine E_goto (tgt := 230) dL_formed_217 (by decide) ?_
      refine E_iret dL_formed_230 (Or.inl rfl) ?_
      rw [show frC c a b k = 3 from (cI_t hs).trans ((cI_t hA).trans (cI_f (show ¬ (cBo (cN c 141 k) ∧ joP c b k) from fun z => by obtain ⟨z1, z2⟩ := z; unfold joP at z2; first | exact c_133 z1 | omega)))] at K
      exact K
    · refine E_aload_n dL_formed_142 rfl ?_
      refine E_iload dL_formed_143 rfl ?_
      refine E_ialdL (v := nI (tEn _ _)) dL_formed_145 (l_128 hL) (k_128 hL) rfl (by omega) (by decide) (h.tx (by omega)) ?_
      refine E_bipush (v := nI 63) dL_formed_146 (by decide) ?_
      refine E_iand dL_formed_148 ?_
      rw [tE_63 h.wf]
      refine E_callT1 (fr' := 1) (k1 := 0) (n1 := 0) (k2 := 0) (n2 := 0) dL_formed_149 kO_L_letter kL_L_175 (by exact Nat.le_of_ble_eq_true rfl) (by decide) (by exact Nat.le_of_ble_eq_true rfl) (Or.inl rfl) rfl ?_
      refine sp_L_letter (by omega) ?_
      refine gKv ?_
      refine E_if_ne_b (tgt := 190) dL_formed_152 (by decide) (fun c_152 => ?_) (fun c_152 => ?_)
      · refine E_iconst (v := nI 1) dL_formed_190 (by decide) ?_
        refine E_goto (tgt := 195) dL_formed_191 (by decide) ?_
        refine E_istore dL_formed_195 (Nat.le_of_ble_eq_true rfl) (by decide) rfl ?_
        refine E_iload dL_formed_197 rfl ?_
        refine E_if_eq (tgt := 211) dL_formed_199 (by decide) (fun c0 => absurd c0 (by decide)) (fun _ => ?_)
        refine E_iload dL_formed_202 rfl ?_
        refine E_if_eq (tgt := 211) dL_formed_204 (by decide) (fun c0 => absurd c0 (by decide)) (fun _ => ?_)
        refine E_iconst (v := nI 2) dL_formed_207 (by decide) ?_
        refine E_goto (tgt := 230) dL_formed_208 (by decide) ?_
        refine E_iret dL_formed_230 (Or.inl rfl) ?_
        rw [show frC c a b k = 2 from (cI_t hs).trans ((cI_t hA).trans (cI_t (show cBo (cN c 141 k) ∧ joP c b k from ⟨c_133, by unfold joP; omega⟩)))] at K
        exact K
      · refine E_aload_n dL_formed_155 rfl ?_
        refine E_iload dL_formed_156 rfl ?_
        refine E_ialdL (v := nI (tEn _ _)) dL_formed_158 (l_128 hL) (k_128 hL) rfl (by omega) (by decide) (h.tx (by omega)) ?_
        refine E_bipush (v := nI 63) dL_formed_159 (by decide) ?_
        refine E_iand dL_formed_161 ?_
        rw [tE_63 h.wf]
        refine E_iconst (v := nI 2) dL_formed_162 (by decide) ?_
        refine E_icmp_eq_n (tgt := 190) dL_formed_163 (by decide) (by omega) (by omega) (fun c_163 => ?_) (fun c_163 => ?_)
        · refine E_iconst (v := nI 1) dL_formed_190 (by decide) ?_
          refine E_goto (tgt := 195) dL_formed_191 (by decide) ?_
          refine E_istore dL_formed_195 (Nat.le_of_ble_eq_true rfl) (by decide) rfl ?_
          refine E_iload dL_formed_197 rfl ?_
          refine E_if_eq (tgt := 211) dL_formed_199 (by decide) (fun c0 => absurd c0 (by decide)) (fun _ => ?_)
          refine E_iload dL_formed_202 rfl ?_
          refine E_if_eq (tgt := 211) dL_formed_204 (by decide) (fun c0 => absurd c0 (by decide)) (fun _ => ?_)
          refine E_iconst (v := nI 2) dL_formed_207 (by decide) ?_
          refine E_goto (tgt := 230) dL_formed_208 (by decide) ?_
          refine E_iret dL_formed_230 (Or.inl rfl) ?_
          rw [show frC c a b k = 2 from (cI_t hs).trans ((cI_t hA).trans (cI_t (show cBo (cN c 141 k) ∧ joP c b k from ⟨c_133, by unfold joP; omega⟩)))] at K
          exact K
        · refine E_aload_n dL_formed_166 rfl ?_
          refine E_iload dL_formed_167 rfl ?_
          refine E_ialdL (v := nI (tEn _ _)) dL_formed_169 (l_128 hL) (k_128 hL) rfl (by omega) (by decide) (h.tx (by omega)) ?_
          refine E_bipush (v := nI 63) dL_formed_170 (by decide) ?_
          refine E_iand dL_formed_172 ?_
          rw [tE_63 h.wf]
          refine E_bipush (v := nI 15) dL_formed_173 (by decide) ?_
          refine E_icmp_le_n (tgt := 194) dL_formed_175 (by decide) (by omega) (by omega) (fun c_175 => ?_) (fun c_175 => ?_)
          · refine E_iconst (v := nI 0) dL_formed_194 (by decide) ?_
            refine E_istore dL_formed_195 (Nat.le_of_ble_eq_true rfl) (by decide) rfl ?_
            refine E_iload dL_formed_197 rfl ?_
            refine E_if_eq (tgt := 211) dL_formed_199 (by decide) (fun c0 => absurd c0 (by decide)) (fun _ => ?_)
            refine E_iload dL_formed_202 rfl ?_
            refine E_if_eq (tgt := 211) dL_formed_204 (by decide) (fun _ => ?_) (fun c0 => absurd (by decide) c0)
            refine E_iload dL_formed_211 rfl ?_
            refine E_if_eq (tgt := 220) dL_formed_213 (by decide) (fun c0 => absurd c0 (by decide)) (fun _ => ?_)
            refine E_iconst (v := nI 3) dL_formed_216 (by decide) ?_
            refine E_goto (tgt := 230) dL_formed_217 (by decide) ?_
            refine E_iret dL_formed_230 (Or.inl rfl) ?_
            rw [show frC c a b k = 3 from (cI_t hs).trans ((cI_t hA).trans (cI_f (show ¬ (cBo (cN c 141 k) ∧ joP c b k) from fun z => by obtain ⟨z1, z2⟩ := z; unfold joP at z2; first | exact c_133 z1 | omega)))] at K
            exact K
          · refine E_aload_n dL_formed_178 rfl ?_
            refine E_iload dL_formed_179 rfl ?_
            refine E_ialdL (v := nI (tEn _ _)) dL_formed_181 (l_128 hL) (k_128 hL) rfl (by omega) (by decide) (h.tx (by omega)) ?_
            refine E_bipush (v := nI 63) dL_formed_182 (by decide) ?_
            refine E_iand dL_formed_184 ?_
            rw [tE_63 h.wf]
            refine E_bipush (v := nI 19) dL_formed_185 (by decide) ?_
            refine E_icmp_ge_n (tgt := 194) dL_formed_187 (by decide) (by omega) (by omega) (fun c_187 => ?_) (fun c_187 => ?_)
            · refine E_iconst (v := nI 0) dL_formed_194 (by decide) ?_
              refine E_istore dL_formed_195 (Nat.le_of_ble_eq_true rfl) (by decide) rfl ?_
              refine E_iload dL_formed_197 rfl ?_
              refine E_if_eq (tgt := 211) dL_formed_199 (by decide) (fun c0 => absurd c0 (by decide)) (fun _ => ?_)
              refine E_iload dL_formed_202 rfl ?_
              refine E_if_eq (tgt := 211) dL_formed_204 (by decide) (fun _ => ?_) (fun c0 => absurd (by decide) c0)
              refine E_iload dL_formed_211 rfl ?_
              refine E_if_eq (tgt := 220) dL_formed_213 (by decide) (fun c0 => absurd c0 (by decide)) (fun _ => ?_)
              refine E_iconst (v := nI 3) dL_formed_216 (by decide) ?_
              refine E_goto (tgt := 230) dL_formed_217 (by decide) ?_
              refine E_iret dL_formed_230 (Or.inl rfl) ?_
              rw [show frC c a b k = 3 from (cI_t hs).trans ((cI_t hA).trans (cI_f (show ¬ (cBo (cN c 141 k) ∧ joP c b k) from fun z => by obtain ⟨z1, z2⟩ := z; unfold joP at z2; first | exact c_133 z1 | omega)))] at K
              exact K
            · refine E_iconst (v := nI 1) dL_formed_190 (by decide) ?_
              refine E_goto (tgt := 195) dL_formed_191 (by decide) ?_
              refine E_istore dL_formed_195 (Nat.le_of_ble_eq_true rfl) (by decide) rfl ?_
              refine E_iload dL_formed_197 rfl ?_
              refine E_if_eq (tgt := 211) dL_formed_199 (by decide) (fun c0 => absurd c0 (by decide)) (fun _ => ?_)
              refine E_iload dL_formed_202 rfl ?_
              refine E_if_eq (tgt := 211) dL_formed_204 (by decide) (fun c0 => absurd c0 (by decide)) (fun _ => ?_)
              refine E_iconst (v := nI 2) dL_formed_207 (by decide) ?_
              refine E_goto (tgt := 230) dL_formed_208 (by decide) ?_
              refine E_iret dL_formed_230 (Or.inl rfl) ?_
              rw [show frC c a b k = 2 from (cI_t hs).trans ((cI_t hA).trans (cI_t (show cBo (cN c 141 k) ∧ joP c b k from ⟨c_133, by unfold joP; omega⟩)))] at K
              exact K
set_option maxRecDepth 100000 in
set_option maxHeartbeats 4000000 in
theorem f20_L_formed {g : gG} {M : gM} {Q : Option Value ⊕ String → gM → Prop} {c : Cf} (h : zS c M) {a b k : Nat} (hak : a ≤ k) (hkb : k < b) (hbt : b ≤ tl c) (hs : 10 ≤ cN c 141 k ∧ cN c 141 k ≤ 20) (hA : ¬ (¬ cN c 141 k = 19 ∧ jfP c a k)) (K : Q (.inl (some (.int (nI (frC c a b k))))) M) : ∀ v5, E g 2 0 0 mL_formed 128 [.ref 129, .int (nI a), .int (nI b), .int (nI k), .int (nI (cN c 141 k)), v5, .int (nI (jon c b k)), .int (nI 0), .null] [] M Q := by
  intro v5
  have hL := h.lay
  have ht10 := h.t10
  have hj := (fnd_spec (P := fun j => ¬ cMk (cN c 141 j)) (show k + 1 ≤ b by omega)).1
  have hj : k + 1 ≤ jon c b k := hj
  have hj2 : jon c b k ≤ b := (fnd_spec (P := fun j => ¬ cMk (cN c 141 j)) (show k + 1 ≤ b by omega)).2.1
  have hb1 := tEn_b h.wf (jon c b k)
  refine E_iload dL_formed_128 rfl ?_
  refine E_callT1 (fr' := 1) (k1 := 0) (n1 := 0) (k2 := 0) (n2 := 0) dL_formed_130 kO_L_letter kL_L_175 (by exact Nat.le_of_ble_eq_true rfl) (by decide) (by exact Nat.le_of_ble_eq_true rfl) (Or.inl rfl) rfl ?_
  refine sp_L_letter (by omega) ?_
  refine gKv ?_
  refine E_if_eq_b (tgt := 194) dL_formed_133 (by decide) (fun c_133 => ?_) (fun c_133 => ?_)
  · refine E_iconst (v := nI 0) dL_formed_194 (by decide) ?_
    refine E_istore dL_formed_195 (Nat.le_of_ble_eq_true rfl) (by decide) rfl ?_
    refine E_iload dL_formed_197 rfl ?_
    refine E_if_eq (tgt := 211) dL_formed_199 (by decide) (fun _ => ?_) (fun c0 => absurd (by decide) c0)
    refine E_iload dL_formed_211 rfl ?_
    refine E_if_eq (tgt := 220) dL_formed_213 (by decide) (fun _ => ?_) (fun c0 => absurd (by decide) c0)
    refine E_iload dL_formed_220 rfl ?_
    refine E_if_eq (tgt := 229) dL_formed_222 (by decide) (fun _ => ?_) (fun c0 => absurd (by decide) c0)
    refine E_iconst (v := nI 0) dL_formed_229 (by decide) ?_
    refine E_iret dL_formed_230 (Or.inl rfl) ?_
    rw [show frC c a b k = 0 from (cI_t hs).trans ((cI_f hA).trans (cI_f (show ¬ (cBo (cN c 141 k) ∧ joP c b k) from fun z => by obtain ⟨z1, z2⟩ := z; unfold joP at z2; first | exact c_133 z1 | omega)))] at K
    exact K
  · refine E_iload dL_formed_136 rfl ?_
    refine E_iload_n dL_formed_138 rfl ?_
    refine E_icmp_ge_n (tgt := 194) dL_formed_139 (by decide) (by omega) (by omega) (fun c_139 => ?_) (fun c_139 => ?_)
    · refine E_iconst (v := nI 0) dL_formed_194 (by decide) ?_
      refine E_istore dL_formed_195 (Nat.le_of_ble_eq_true rfl) (by decide) rfl ?_
      refine E_iload dL_formed_197 rfl ?_
      refine E_if_eq (tgt := 211) dL_formed_199 (by decide) (fun _ => ?_) (fun c0 => absurd (by decide) c0)
      refine E_iload dL_formed_211 rfl ?_
      refine E_if_eq (tgt := 220) dL_formed_213 (by decide) (fun _ => ?_) (fun c0 => absurd (by decide) c0)
      refine E_iload dL_formed_220 rfl ?_
      refine E_if_eq (tgt := 229) dL_formed_222 (by decide) (fun _ => ?_) (fun c0 => absurd (by decide) c0)
      refine E_iconst (v := nI 0) dL_formed_229 (by decide) ?_
      refine E_iret dL_formed_230 (Or.inl rfl) ?_
      rw [show frC c a b k = 0 from (cI_t hs).trans ((cI_f hA).trans (cI_f (show ¬ (cBo (cN c 141 k) ∧ joP c b k) from fun z => by obtain ⟨z1, z2⟩ := z; unfold joP at z2; first | exact c_133 z1 | omega)))] at K
      exact K
    · refine E_aload_n dL_formed_142 rfl ?_
      refine E_iload dL_formed_143 rfl ?_
      refine E_ialdL (v := nI (tEn _ _)) dL_formed_145 (l_128 hL) (k_128 hL) rfl (by omega) (by decide) (h.tx (by omega)) ?_
      refine E_bipush (v := nI 63) dL_formed_146 (by decide) ?_
      refine E_iand dL_formed_148 ?_
      rw [tE_63 h.wf]
      refine E_callT1 (fr' := 1) (k1 := 0) (n1 := 0) (k2 := 0) (n2 := 0) dL_formed_149 kO_L_letter kL_L_175 (by exact Nat.le_of_ble_eq_true rfl) (by decide) (by exact Nat.le_of_ble_eq_true rfl) (Or.inl rfl) rfl ?_
      refine sp_L_letter (by omega) ?_
      refine gKv ?_
      refine E_if_ne_b (tgt := 190) dL_formed_152 (by decide) (fun c_152 => ?_) (fun c_152 => ?_)
      · refine E_iconst (v := nI 1) dL_formed_190 (by decide) ?_
        refine E_goto (tgt := 195) dL_formed_191 (by decide) ?_
        refine E_istore dL_formed_195 (Nat.le_of_ble_eq_true rfl) (by decide) rfl ?_
        refine E_iload dL_formed_197 rfl ?_
        refine E_if_eq (tgt := 211) dL_formed_199 (by decide) (fun _ => ?_) (fun c0 => absurd (by decide) c0)
        refine E_iload dL_formed_211 rfl ?_
        refine E_if_eq (tgt := 220) dL_formed_213 (by decide) (fun _ => ?_) (fun c0 => absurd (by decide) c0)
        refine E_iload dL_formed_220 rfl ?_
        refine E_if_eq (tgt := 229) dL_formed_222 (by decide) (fun c0 => absurd c0 (by decide)) (fun _ => ?_)
        refine E_iconst (v := nI 1) dL_formed_225 (by decide) ?_
        refine E_goto (tgt := 230) dL_formed_226 (by decide) ?_
        refine E_iret dL_formed_230 (Or.inl rfl) ?_
        rw [show frC c a b k = 1 from (cI_t hs).trans ((cI_f hA).trans (cI_t (show cBo (cN c 141 k) ∧ joP c b k from ⟨c_133, by unfold joP; omega⟩)))] at K
        exact K
      · refine E_aload_n dL_formed_155 rfl ?_
        refine E_iload dL_formed_156 rfl ?_
        refine E_ialdL (v := nI (tEn _ _)) dL_formed_158 (l_128 hL) (k_128 hL) rfl (by omega) (by decide) (h.tx (by omega)) ?_
        refine E_bipush (v := nI 63) dL_formed_159 (by decide) ?_
        refine E_iand dL_formed_161 ?_
        rw [tE_63 h.wf]
        refine E_iconst (v := nI 2) dL_formed_162 (by decide) ?_
        refine E_icmp_eq_n (tgt := 190) dL_formed_163 (by decide) (by omega) (by omega) (fun c_163 => ?_) (fun c_163 => ?_)
        · refine E_iconst (v := nI 1) dL_formed_190 (by decide) ?_
          refine E_goto (tgt := 195) dL_formed_191 (by decide) ?_
          refine E_istore dL_formed_195 (Nat.le_of_ble_eq_true rfl) (by decide) rfl ?_
          refine E_iload dL_formed_197 rfl ?_
          refine E_if_eq (tgt := 211) dL_formed_199 (by decide) (fun _ => ?_) (fun c0 => absurd (by decide) c0)
          refine E_iload dL_formed_211 rfl ?_
          refine E_if_eq (tgt := 220) dL_formed_213 (by decide) (fun _ => ?_) (fun c0 => absurd (by decide) c0)
          refine E_iload dL_formed_220 rfl ?_
          refine E_if_eq (tgt := 229) dL_formed_222 (by decide) (fun c0 => absurd c0 (by decide)) (fun _ => ?_)
          refine E_iconst (v := nI 1) dL_formed_225 (by decide) ?_
          refine E_goto (tgt := 230) dL_formed_226 (by decide) ?_
          refine E_iret dL_formed_230 (Or.inl rfl) ?_
          rw [show frC c a b k = 1 from (cI_t hs).trans ((cI_f hA).trans (cI_t (show cBo (cN c 141 k) ∧ joP c b k from ⟨c_133, by unfold joP; omega⟩)))] at K
          exact K
        · refine E_aload_n dL_formed_166 rfl ?_
          refine E_iload dL_formed_167 rfl ?_
          refine E_ialdL (v := nI (tEn _ _)) dL_formed_169 (l_128 hL) (k_128 hL) rfl (by omega) (by decide) (h.tx (by omega)) ?_
          refine E_bipush (v := nI 63) dL_formed_170 (by decide) ?_
          refine E_iand dL_formed_172 ?_
          rw [tE_63 h.wf]
          refine E_bipush (v := nI 15) dL_formed_173 (by decide) ?_
          refine E_icmp_le_n (tgt := 194) dL_formed_175 (by decide) (by omega) (by omega) (fun c_175 => ?_) (fun c_175 => ?_)
          · refine E_iconst (v := nI 0) dL_formed_194 (by decide) ?_
            refine E_istore dL_formed_195 (Nat.le_of_ble_eq_true rfl) (by decide) rfl ?_
            refine E_iload dL_formed_197 rfl ?_
            refine E_if_eq (tgt := 211) dL_formed_199 (by decide) (fun _ => ?_) (fun c0 => absurd (by decide) c0)
            refine E_iload dL_formed_211 rfl ?_
            refine E_if_eq (tgt := 220) dL_formed_213 (by decide) (fun _ => ?_) (fun c0 => absurd (by decide) c0)
            refine E_iload dL_formed_220 rfl ?_
            refine E_if_eq (tgt := 229) dL_formed_222 (by decide) (fun _ => ?_) (fun c0 => absurd (by decide) c0)
            refine E_iconst (v := nI 0) dL_formed_229 (by decide) ?_
            refine E_iret dL_formed_230 (Or.inl rfl) ?_
            rw [show frC c a b k = 0 from (cI_t hs).trans ((cI_f hA).trans (cI_f (show ¬ (cBo (cN c 141 k) ∧ joP c b k) from fun z => by obtain ⟨z1, z2⟩ := z; unfold joP at z2; first | exact c_133 z1 | omega)))] at K
            exact K
          · refine E_aload_n dL_formed_178 rfl ?_
            refine E_iload dL_formed_179 rfl ?_
            refine E_ialdL (v := nI (tEn _ _)) dL_formed_181 (l_128 hL) (k_128 hL) rfl (by omega) (by decide) (h.tx (by omega)) ?_
            refine E_bipush (v := nI 63) dL_formed_182 (by decide) ?_
            refine E_iand dL_formed_184 ?_
            rw [tE_63 h.wf]
            refine E_bipush (v := nI 19) dL_formed_185 (by decide) ?_
            refine E_icmp_ge_n (tgt := 194) dL_formed_187 (by decide) (by omega) (by omega) (fun c_187 => ?_) (fun c_187 => ?_)
            · refine E_iconst (v := nI 0) dL_formed_194 (by decide) ?_
              refine E_istore dL_formed_195 (Nat.le_of_ble_eq_true rfl) (by decide) rfl ?_
              refine E_iload dL_formed_197 rfl ?_
              refine E_if_eq (tgt := 211) dL_formed_199 (by decide) (fun _ => ?_) (fun c0 => absurd (by decide) c0)
              refine E_iload dL_formed_211 rfl ?_
              refine E_if_eq (tgt := 220) dL_formed_213 (by decide) (fun _ => ?_) (fun c0 => absurd (by decide) c0)
              refine E_iload dL_formed_220 rfl ?_
              refine E_if_eq (tgt := 229) dL_formed_222 (by decide) (fun _ => ?_) (fun c0 => absurd (by decide) c0)
              refine E_iconst (v := nI 0) dL_formed_229 (by decide) ?_
              refine E_iret dL_formed_230 (Or.inl rfl) ?_
              rw [show frC c a b k = 0 from (cI_t hs).trans ((cI_f hA).trans (cI_f (show ¬ (cBo (cN c 141 k) ∧ joP c b k) from fun z => by obtain ⟨z1, z2⟩ := z; unfold joP at z2; first | exact c_133 z1 | omega)))] at K
              exact K
            · refine E_iconst (v := nI 1) dL_formed_190 (by decide) ?_
              refine E_goto (tgt := 195) dL_formed_191 (by decide) ?_
              refine E_istore dL_formed_195 (Nat.le_of_ble_eq_true rfl) (by decide) rfl ?_
              refine E_iload dL_formed_197 rfl ?_
              refine E_if_eq (tgt := 211) dL_formed_199 (by decide) (fun _ => ?_) (fun c0 => absurd (by decide) c0)
              refine E_iload dL_formed_211 rfl ?_
              refine E_if_eq (tgt := 220) dL_formed_213 (by decide) (fun _ => ?_) (fun c0 => absurd (by decide) c0)
              refine E_iload dL_formed_220 rfl ?_
              refine E_if_eq (tgt := 229) dL_formed_222 (by decide) (fun c0 => absurd c0 (by decide)) (fun _ => ?_)
              refine E_iconst (v := nI 1) dL_formed_225 (by decide) ?_
              refine E_goto (tgt := 230) dL_formed_226 (by decide) ?_
              refine E_iret dL_formed_230 (Or.inl rfl) ?_
              rw [show frC c a b k = 1 from (cI_t hs).trans ((cI_f hA).trans (cI_t (show cBo (cN c 141 k) ∧ joP c b k from ⟨c_133, by unfold joP; omega⟩)))] at K
              exact K
set_option maxRecDepth 100000 in
set_option maxHeartbeats 4000000 in
theorem f1_L_formed {g : gG} {M : gM} {Q : Option Value ⊕ String → gM → Prop} {c : Cf} (h : zS c M) {a b k : Nat} (hak : a ≤ k) (hkb : k < b) (hbt : b ≤ tl c) (hs : 10 ≤ cN c 141 k ∧ cN c 141 k ≤ 20) (K : Q (.inl (some (.int (nI (frC c a b k))))) M) : E g 2 0 0 mL_formed 84 [.ref 129, .int (nI a), .int (nI b), .int (nI k), .int (nI (cN c 141 k)), .int (dI (jfr c a k)), .int (nI (jon c b k)), .null, .null] [] M Q := by
  have hL := h.lay
  have ht10 := h.t10
  have hj := jfr_bz (c := c) hak
  have hb1 := tEn_b h.wf (jfr c a k - 1)
  refine E_iload dL_formed_84 rfl ?_
  refine E_bipush (v := nI 19) dL_formed_86 (by decide) ?_
  refine E_icmp_eq_n (tgt := 125) dL_formed_88 (by decide) (by omega) (by omega) (fun c_88 => ?_) (fun c_88 => ?_)
  · refine E_iconst (v := nI 0) dL_formed_125 (by decide) ?_
    refine E_istore dL_formed_126 (Nat.le_of_ble_eq_true rfl) (by decide) rfl ?_
    exact f20_L_formed h hak hkb hbt hs (fun z => by obtain ⟨z1, z2⟩ := z; unfold jfP at z2; omega) K _
  · refine E_iload dL_formed_91 rfl ?_
    refine E_iload_n dL_formed_93 rfl ?_
    refine E_icmp_lt_d (tgt := 125) dL_formed_94 (by decide) (by omega) (by omega) (fun c_94 => ?_) (fun c_94 => ?_)
    · refine E_iconst (v := nI 0) dL_formed_125 (by decide) ?_
      refine E_istore dL_formed_126 (Nat.le_of_ble_eq_true rfl) (by decide) rfl ?_
      exact f20_L_formed h hak hkb hbt hs (fun z => by obtain ⟨z1, z2⟩ := z; unfold jfP at z2; omega) K _
    · obtain ⟨q, hq⟩ : ∃ q, jfr c a k = q + 1 := ⟨jfr c a k - 1, by omega⟩
      rw [hq, dI_succ]
      rw [show jfr c a k - 1 = q by omega] at hb1
      refine E_aload_n dL_formed_97 rfl ?_
      refine E_iload dL_formed_98 rfl ?_
      refine E_ialdL (v := nI (tEn _ _)) dL_formed_100 (l_128 hL) (k_128 hL) rfl (by omega) (by decide) (h.tx (by omega)) ?_
      refine E_bipush (v := nI 63) dL_formed_101 (by decide) ?_
      refine E_iand dL_formed_103 ?_
      rw [tE_63 h.wf]
      refine E_callT1 (fr' := 1) (k1 := 0) (n1 := 0) (k2 := 0) (n2 := 0) dL_formed_104 kO_L_letter kL_L_175 (by exact Nat.le_of_ble_eq_true rfl) (by decide) (by exact Nat.le_of_ble_eq_true rfl) (Or.inl rfl) rfl ?_
      refine sp_L_letter (by omega) ?_
      refine gKv ?_
      refine E_if_ne_b (tgt := 121) dL_formed_107 (by decide) (fun c_107 => ?_) (fun c_107 => ?_)
      · refine E_iconst (v := nI 1) dL_formed_121 (by decide) ?_
        refine E_goto (tgt := 126) dL_formed_122 (by decide) ?_
        refine E_istore dL_formed_126 (Nat.le_of_ble_eq_true rfl) (by decide) rfl ?_
        first
          | exact f21_L_formed h hak hkb hbt hs ⟨c_88, by unfold jfP; rw [hq, Nat.add_sub_cancel]; omega⟩ K _
          | exact f20_L_formed h hak hkb hbt hs (fun z => by have z2 := z.2; unfold jfP at z2; rw [hq, Nat.add_sub_cancel] at z2; omega) K _
      · refine E_aload_n dL_formed_110 rfl ?_
        refine E_iload dL_formed_111 rfl ?_
        refine E_ialdL (v := nI (tEn _ _)) dL_formed_113 (l_128 hL) (k_128 hL) rfl (by omega) (by decide) (h.tx (by omega)) ?_
        refine E_bipush (v := nI 63) dL_formed_114 (by decide) ?_
        refine E_iand dL_formed_116 ?_
        rw [tE_63 h.wf]
        refine E_iconst (v := nI 2) dL_formed_117 (by decide) ?_
        refine E_icmp_ne_n (tgt := 125) dL_formed_118 (by decide) (by omega) (by omega) (fun c_118 => ?_) (fun c_118 => ?_)
        · refine E_iconst (v := nI 0) dL_formed_125 (by decide) ?_
          refine E_istore dL_formed_126 (Nat.le_of_ble_eq_true rfl) (by decide) rfl ?_
          first
            | exact f21_L_formed h hak hkb hbt hs ⟨c_88, by unfold jfP; rw [hq, Nat.add_sub_cancel]; omega⟩ K _
            | exact f20_L_formed h hak hkb hbt hs (fun z => by have z2 := z.2; unfold jfP at z2; rw [hq, Nat.add_sub_cancel] at z2; omega) K _
        · refine E_iconst (v := nI 1) dL_formed_121 (by decide) ?_
          refine E_goto (tgt := 126) dL_formed_122 (by decide) ?_
          refine E_istore dL_formed_126 (Nat.le_of_ble_eq_true rfl) (by decide) rfl ?_
          first
            | exact f21_L_formed h hak hkb hbt hs ⟨c_88, by unfold jfP; rw [hq, Nat.add_sub_cancel]; omega⟩ K _
            | exact f20_L_formed h hak hkb hbt hs (fun z => by have z2 := z.2; unfold jfP at z2; rw [hq, Nat.add_sub_cancel] at z2; omega) K _
set_option maxRecDepth 100000 in
set_option maxHeartbeats 4000000 in
theorem lb_L_formed {g : gG} {M : gM} {Q : Option Value ⊕ String → gM → Prop} {c : Cf} (h : zS c M) {a b k : Nat} (hak : a ≤ k) (hkb : k < b) (hbt : b ≤ tl c) (hs : 10 ≤ cN c 141 k ∧ cN c 141 k ≤ 20) (K : Q (.inl (some (.int (nI (frC c a b k))))) M) : ∀ j, j ≤ b → k + 1 ≤ j → fnd (fun j => ¬ cMk (cN c 141 j)) b j = jon c b k → E g 2 0 0 mL_formed 59 [.ref 129, .int (nI a), .int (nI b), .int (nI k), .int (nI (cN c 141 k)), .int (dI (jfr c a k)), .int (nI j), .null, .null] [] M Q := by
  refine lpUp b (fun j hj ih => ?_)
  intro hkj he
  have hL := h.lay
  have ht10 := h.t10
  have hb1 := tEn_b h.wf j
  refine E_iload dL_formed_59 rfl ?_
  refine E_iload_n dL_formed_61 rfl ?_
  refine E_icmp_ge_n (tgt := 84) dL_formed_62 (by decide) (by omega) (by omega) (fun c_62 => ?_) (fun c_62 => ?_)
  · have e : j = jon c b k := by rw [← he]; first | exact (fnd_hit (P := fun j => ¬ cMk (cN c 141 j)) (by omega) c_75).symm | exact (fnd_end (by omega)).symm
    rw [e]
    exact f1_L_formed h hak hkb hbt hs K
  · refine E_aload_n dL_formed_65 rfl ?_
    refine E_iload dL_formed_66 rfl ?_
    refine E_ialdL (v := nI (tEn _ _)) dL_formed_68 (l_128 hL) (k_128 hL) rfl (by omega) (by decide) (h.tx (by omega)) ?_
    refine E_bipush (v := nI 63) dL_formed_69 (by decide) ?_
    refine E_iand dL_formed_71 ?_
    rw [tE_63 h.wf]
    refine E_callT1 (fr' := 1) (k1 := 0) (n1 := 0) (k2 := 0) (n2 := 0) dL_formed_72 kO_L_markSign kL_L_172 (by exact Nat.le_of_ble_eq_true rfl) (by decide) (by exact Nat.le_of_ble_eq_true rfl) (Or.inl rfl) rfl ?_
    refine sp_L_markSign (by omega) ?_
    refine gKv ?_
    refine E_if_eq_b (tgt := 84) dL_formed_75 (by decide) (fun c_75 => ?_) (fun c_75 => ?_)
    · have e : j = jon c b k := by rw [← he]; first | exact (fnd_hit (P := fun j => ¬ cMk (cN c 141 j)) (by omega) c_75).symm | exact (fnd_end (by omega)).symm
      rw [e]
      exact f1_L_formed h hak hkb hbt hs K
    · refine E_iinc_n (d := 1) dL_formed_78 rfl rfl rfl (by decide) rfl ?_
      refine E_goto (tgt := 59) dL_formed_81 (by decide) ?_
      exact ih (by omega) (by omega) (by rw [← he]; exact (fnd_skip (by omega) (fun q => q c_75)).symm)
set_option maxRecDepth 100000 in
set_option maxHeartbeats 4000000 in
theorem la_L_formed {g : gG} {M : gM} {Q : Option Value ⊕ String → gM → Prop} {c : Cf} (h : zS c M) {a b k : Nat} (hak : a ≤ k) (hkb : k < b) (hbt : b ≤ tl c) (hs : 10 ≤ cN c 141 k ∧ cN c 141 k ≤ 20) (K : Q (.inl (some (.int (nI (frC c a b k))))) M) : ∀ q, a ≤ q → q ≤ k → rfd (fun j => j < a ∨ ¬ cMk (cN c 141 j)) q = jfr c a k → E g 2 0 0 mL_formed 29 [.ref 129, .int (nI a), .int (nI b), .int (nI k), .int (nI (cN c 141 k)), .int (dI q), .null, .null, .null] [] M Q := by
  refine lpDn a (fun q haq ih => ?_)
  intro hqk he
  have hL := h.lay
  have ht10 := h.t10
  have out : q = jfr c a k → E g 2 0 0 mL_formed 54 [.ref 129, .int (nI a), .int (nI b), .int (nI k), .int (nI (cN c 141 k)), .int (dI q), .null, .null, .null] [] M Q := by
    intro e
    rw [e]
    refine E_iload_n dL_formed_54 rfl ?_
    refine E_iconst (v := nI 1) dL_formed_55 (by decide) ?_
    refine E_iadd_n dL_formed_56 ?_
    refine E_istore dL_formed_57 (Nat.le_of_ble_eq_true rfl) (by decide) rfl ?_
    exact lb_L_formed h hak hkb hbt hs K (k + 1) (by omega) (Nat.le_refl _) rfl
  refine E_iload dL_formed_29 rfl ?_
  refine E_iload_n dL_formed_31 rfl ?_
  refine E_icmp_lt_d (tgt := 54) dL_formed_32 (by decide) (by omega) (by omega) (fun c_32 => ?_) (fun c_32 => ?_)
  · exact out (by rw [← he]; exact (rfd_s (fun j hj => Or.inl (by omega))).symm)
  · obtain ⟨q, rfl⟩ : ∃ z, q = z + 1 := ⟨q - 1, by omega⟩
    rw [dI_succ] at out ⊢
    have hb1 := tEn_b h.wf q
    refine E_aload_n dL_formed_35 rfl ?_
    refine E_iload dL_formed_36 rfl ?_
    refine E_ialdL (v := nI (tEn _ _)) dL_formed_38 (l_128 hL) (k_128 hL) rfl (by omega) (by decide) (h.tx (by omega)) ?_
    refine E_bipush (v := nI 63) dL_formed_39 (by decide) ?_
    refine E_iand dL_formed_41 ?_
    rw [tE_63 h.wf]
    refine E_callT1 (fr' := 1) (k1 := 0) (n1 := 0) (k2 := 0) (n2 := 0) dL_formed_42 kO_L_markSign kL_L_172 (by exact Nat.le_of_ble_eq_true rfl) (by decide) (by exact Nat.le_of_ble_eq_true rfl) (Or.inl rfl) rfl ?_
    refine sp_L_markSign (by omega) ?_
    refine gKv ?_
    refine E_if_eq_b (tgt := 54) dL_formed_45 (by decide) (fun c_45 => ?_) (fun c_45 => ?_)
    · exact out (by rw [← he]; exact (rfd_t (Or.inr c_45)).symm)
    · refine E_iinc_d dL_formed_48 rfl rfl (by decide) rfl ?_
      refine E_goto (tgt := 29) dL_formed_51 (by decide) ?_
      exact ih (by omega) (by omega) (by rw [← he]; exact (rfd_f (fun z => z.elim (fun z => by omega) (fun z => z c_45))).symm)
set_option maxRecDepth 100000 in
set_option maxHeartbeats 4000000 in
theorem sp_L_formed {g : gG} {M : gM} {Q : Option Value ⊕ String → gM → Prop} {c : Cf} (h : zS c M) {a b k : Nat} (hak : a ≤ k) (hkb : k < b) (hbt : b ≤ tl c) (K : Q (.inl (some (.int (nI (frC c a b k))))) M) : E g 2 0 0 mL_formed 0 [.ref 129, .int (nI a), .int (nI b), .int (nI k), .null, .null, .null, .null, .null] [] M Q := by
  have hL := h.lay
  have ht10 := h.t10
  have hb1 := tEn_b h.wf k
  refine E_aload_n dL_formed_0 rfl ?_
  refine E_iload_n dL_formed_1 rfl ?_
  refine E_ialdL (v := nI (tEn _ _)) dL_formed_2 (l_128 hL) (k_128 hL) rfl (by omega) (by decide) (h.tx (by omega)) ?_
  refine E_bipush (v := nI 63) dL_formed_3 (by decide) ?_
  refine E_iand dL_formed_5 ?_
  rw [tE_63 h.wf]
  refine E_istore dL_formed_6 (Nat.le_of_ble_eq_true rfl) (by decide) rfl ?_
  refine E_iload dL_formed_8 rfl ?_
  refine E_bipush (v := nI 10) dL_formed_10 (by decide) ?_
  refine E_icmp_lt_n (tgt := 22) dL_formed_12 (by decide) (by omega) (by omega) (fun c_12 => ?_) (fun c_12 => ?_)
  · refine E_iconst (v := nI 4) dL_formed_22 (by decide) ?_
    refine E_iret dL_formed_23 (Or.inl rfl) ?_
    rw [show frC c a b k = 4 from cI_f (by omega)] at K
    exact K
  · refine E_iload dL_formed_15 rfl ?_
    refine E_bipush (v := nI 20) dL_formed_17 (by decide) ?_
    refine E_icmp_le_n (tgt := 24) dL_formed_19 (by decide) (by omega) (by omega) (fun c_19 => ?_) (fun c_19 => ?_)
    · refine E_iload_n dL_formed_24 rfl ?_
      refine E_iconst (v := nI 1) dL_formed_25 (by decide) ?_
      refine E_isub_d dL_formed_26 ?_
      refine E_istore dL_formed_27 (Nat.le_of_ble_eq_true rfl) (by decide) rfl ?_
      exact la_L_formed h hak hkb hbt (by omega) K k hak (Nat.le_refl _) rfl
    · refine E_iconst (v := nI 4) dL_formed_22 (by decide) ?_
      refine E_iret dL_formed_23 (Or.inl rfl) ?_
      rw [show frC c a b k = 4 from cI_f (by omega)] at K
      exact K
/-- where a syllable ends: behind a consonant (0), a killer (1), a killer and 2 or 3 (2), vowels (3) -/
noncomputable def bh2 (c : Cf) (b k : Nat) : Nat := cI (k < b ∧ cCo (cN c 141 k)) (bcE c b (k + 1)) (bv c b k)
noncomputable def bhV (c : Cf) (b s k : Nat) : Nat := cI (s = 0) (bcE c b k) (cI (s = 1) (cI (k < b ∧ (cN c 141 k = 2 ∨ cN c 141 k = 3)) (bh2 c b (k + 1)) (bh2 c b k)) (cI (s = 2) (bh2 c b k) (bv c b k)))
theorem bhV_0 (c : Cf) (b k : Nat) : bhV c b 0 k = bcE c b k := cI_t rfl
theorem bhV_1 (c : Cf) (b k : Nat) : bhV c b 1 k = cI (k < b ∧ (cN c 141 k = 2 ∨ cN c 141 k = 3)) (bh2 c b (k + 1)) (bh2 c b k) := (cI_f (by decide)).trans (cI_t rfl)
theorem bhV_2 (c : Cf) (b k : Nat) : bhV c b 2 k = bh2 c b k := (cI_f (by decide)).trans ((cI_f (by decide)).trans (cI_t rfl))
theorem bhV_3 (c : Cf) (b k : Nat) : bhV c b 3 k = bv c b k := (cI_f (by decide)).trans ((cI_f (by decide)).trans (cI_f (by decide)))
theorem bv_no {c : Cf} {b k : Nat} (hk : k < b) (h : ¬ cVo (cN c 141 k)) : bv c b k = k := fnd_hit hk h
theorem bv_yes {c : Cf} {b k : Nat} (hk : k < b) (h : cVo (cN c 141 k)) : bv c b k = bv c b (k + 1) := fnd_skip hk (fun q => q h)
theorem bv_e {c : Cf} {b k : Nat} (hk : b ≤ k) : bv c b k = k := fnd_end hk
theorem bh2_no {c : Cf} {b k : Nat} (h : ¬ (k < b ∧ cCo (cN c 141 k))) : bh2 c b k = bv c b k := cI_f h
theorem bcE_39 {c : Cf} {b k : Nat} (hk : k < b) (h : cN c 141 k = 39) : bcE c b k = bhV c b 1 (k + 1) := by
  rw [bhV_1]
  by_cases h2 : k + 1 < b ∧ (cN c 141 (k + 1) = 2 ∨ cN c 141 (k + 1) = 3)
  · rw [cI_t h2]
    have e : bk c b k = k + 2 := cI_t h2
    by_cases h3 : bk c b k < b ∧ cCo (cN c 141 (bk c b k))
    · rw [bcE_2 ⟨hk, h⟩ h3, e]; rw [e] at h3; exact (cI_t h3).symm
    · rw [bcE_1 ⟨hk, h⟩ h3, e]; rw [e] at h3; exact (cI_f h3).symm
  · rw [cI_f h2]
    have e : bk c b k = k + 1 := cI_f h2
    by_cases h3 : bk c b k < b ∧ cCo (cN c 141 (bk c b k))
    · rw [bcE_2 ⟨hk, h⟩ h3, e]; rw [e] at h3; exact (cI_t h3).symm
    · rw [bcE_1 ⟨hk, h⟩ h3, e]; rw [e] at h3; exact (cI_f h3).symm
theorem bh_end {c : Cf} {b s k : Nat} (hs : s < 4) (hk : b ≤ k) : bhV c b s k = k := by
  have h0 : bcE c b k = k := by rw [bcE_0 (fun q => by omega)]; exact bv_e hk
  have h2 : bh2 c b k = k := by rw [bh2_no (fun q => by omega)]; exact bv_e hk
  rcases (show s = 0 ∨ s = 1 ∨ s = 2 ∨ s = 3 by omega) with rfl | rfl | rfl | rfl
  · rw [bhV_0, h0]
  · rw [bhV_1, cI_f (fun q => by omega), h2]
  · rw [bhV_2, h2]
  · rw [bhV_3]; exact bv_e hk
theorem bh_vow {c : Cf} {b s k : Nat} (hs : s < 4) (hk : k < b) (h : cVo (cN c 141 k)) : bhV c b s k = bhV c b 3 (k + 1) := by
  have h0 : bcE c b k = bv c b (k + 1) := by rw [bcE_0 (fun q => by unfold cVo at h; omega)]; exact bv_yes hk h
  have h2 : bh2 c b k = bv c b (k + 1) := by rw [bh2_no (fun q => by unfold cVo cCo at *; omega)]; exact bv_yes hk h
  rw [bhV_3]
  rcases (show s = 0 ∨ s = 1 ∨ s = 2 ∨ s = 3 by omega) with rfl | rfl | rfl | rfl
  · rw [bhV_0, h0]
  · rw [bhV_1, cI_f (fun q => by unfold cVo at h; omega), h2]
  · rw [bhV_2, h2]
  · rw [bhV_3]; exact bv_yes hk h
theorem bh_ret {c : Cf} {b s k : Nat} (hs : s < 4) (hk : k < b) (h : ¬ cVo (cN c 141 k)) (h0 : s = 0 → ¬ cN c 141 k = 39) (h1 : s = 1 → ¬ (cN c 141 k = 2 ∨ cN c 141 k = 3)) (h2 : s = 1 ∨ s = 2 → ¬ cCo (cN c 141 k)) : bhV c b s k = k := by
  have e := bv_no hk h
  rcases (show s = 0 ∨ s = 1 ∨ s = 2 ∨ s = 3 by omega) with rfl | rfl | rfl | rfl
  · rw [bhV_0, bcE_0 (fun q => h0 rfl q.2)]; exact e
  · rw [bhV_1, cI_f (fun q => h1 rfl q.2), bh2_no (fun q => h2 (Or.inl rfl) q.2)]; exact e
  · rw [bhV_2, bh2_no (fun q => h2 (Or.inr rfl) q.2)]; exact e
  · rw [bhV_3]; exact e
theorem bh_con {c : Cf} {b s k : Nat} (hs : s = 1 ∨ s = 2) (hk : k < b) (h : cCo (cN c 141 k)) : bhV c b s k = bhV c b 0 (k + 1) := by
  have e : bh2 c b k = bcE c b (k + 1) := cI_t ⟨hk, h⟩
  rw [bhV_0]
  rcases hs with rfl | rfl
  · rw [bhV_1, cI_f (fun q => by unfold cCo at h; omega), e]
  · rw [bhV_2, e]
theorem bh_j {c : Cf} {b k : Nat} (hk : k < b) (h : cN c 141 k = 2 ∨ cN c 141 k = 3) : bhV c b 1 k = bhV c b 2 (k + 1) := by
  rw [bhV_1, cI_t ⟨hk, h⟩, bhV_2]
set_option maxRecDepth 100000 in
set_option maxHeartbeats 4000000 in
theorem lp_L_behind {g : gG} {M : gM} {Q : Option Value ⊕ String → gM → Prop} {c : Cf} (h : zS c M) {a b s0 : Nat} (hbt : b ≤ tl c) {r : Nat} (K : Q (.inl (some (.int (nI r)))) M) : ∀ k, k ≤ b → ∀ s, s < 4 → bhV c b s k = r → ∀ v6, E g 2 0 0 mL_behind 6 [.ref 129, .int (nI a), .int (nI b), .int (nI s0), .int (nI s), .int (nI k), v6] [] M Q := by
  refine lpUp b (fun k hk ih => ?_)
  intro s hs he v6
  have hL := h.lay
  have ht10 := h.t10
  have hb1 := tEn_b h.wf k
  refine E_iload dL_behind_6 rfl ?_
  refine E_iload_n dL_behind_8 rfl ?_
  refine E_icmp_ge_n (tgt := 127) dL_behind_9 (by decide) (by omega) (by omega) (fun c_9 => ?_) (fun c_9 => ?_)
  · refine E_iload_n dL_behind_127 rfl ?_
    refine E_iret dL_behind_128 (Or.inl rfl) ?_
    rw [← he, bh_end hs (by omega)] at K
    rw [show k = b by omega] at K
    exact K
  · refine E_aload_n dL_behind_12 rfl ?_
    refine E_iload dL_behind_13 rfl ?_
    refine E_ialdL (v := nI (tEn _ _)) dL_behind_15 (l_128 hL) (k_128 hL) rfl (by omega) (by decide) (h.tx (by omega)) ?_
    refine E_bipush (v := nI 63) dL_behind_16 (by decide) ?_
    refine E_iand dL_behind_18 ?_
    rw [tE_63 h.wf]
    refine E_istore dL_behind_19 (Nat.le_of_ble_eq_true rfl) (by decide) rfl ?_
    refine E_iload dL_behind_21 rfl ?_
    refine E_bipush (v := nI 39) dL_behind_23 (by decide) ?_
    refine E_icmp_le_n (tgt := 35) dL_behind_25 (by decide) (by omega) (by omega) (fun c_25 => ?_) (fun c_25 => ?_)
    · refine E_iload dL_behind_35 rfl ?_
      refine E_bipush (v := nI 44) dL_behind_37 (by decide) ?_
      refine E_icmp_ne_n (tgt := 48) dL_behind_39 (by decide) (by omega) (by omega) (fun c_39 => ?_) (fun c_39 => ?_)
      · refine E_iload dL_behind_48 rfl ?_
        refine E_iconst (v := nI 3) dL_behind_50 (by decide) ?_
        refine E_icmp_ne_n (tgt := 57) dL_behind_51 (by decide) (by omega) (by omega) (fun c_51 => ?_) (fun c_51 => ?_)
        · refine E_iload dL_behind_57 rfl ?_
          refine E_bipush (v := nI 39) dL_behind_59 (by decide) ?_
          refine E_icmp_ne_n (tgt := 75) dL_behind_61 (by decide) (by omega) (by omega) (fun c_61 => ?_) (fun c_61 => ?_)
          · refine E_iload dL_behind_75 rfl ?_
            refine E_iconst (v := nI 2) dL_behind_77 (by decide) ?_
            refine E_icmp_eq_n (tgt := 87) dL_behind_78 (by decide) (by omega) (by omega) (fun c_78 => ?_) (fun c_78 => ?_)
            · refine E_iload dL_behind_87 rfl ?_
              refine E_iconst (v := nI 1) dL_behind_89 (by decide) ?_
              refine E_icmp_ne_n (tgt := 99) dL_behind_90 (by decide) (by omega) (by omega) (fun c_90 => ?_) (fun c_90 => ?_)
              · refine E_iload dL_behind_99 rfl ?_
                refine E_callT1 (fr' := 1) (k1 := 0) (n1 := 0) (k2 := 0) (n2 := 0) dL_behind_101 kO_L_consonant kL_L_178 (by exact Nat.le_of_ble_eq_true rfl) (by decide) (by exact Nat.le_of_ble_eq_true rfl) (Or.inl rfl) rfl ?_
                refine sp_L_consonant (by omega) ?_
                refine gKv ?_
                refine E_if_eq_b (tgt := 118) dL_behind_104 (by decide) (fun c_104 => ?_) (fun c_104 => ?_)
                · refine E_iload dL_behind_118 rfl ?_
                  refine E_iret dL_behind_120 (Or.inl rfl) ?_
                  rw [← he, bh_ret hs (by omega) (by unfold cVo; omega) (by omega) (by omega) (fun z => by first | exact c_104 | (exfalso; omega))] at K
                  exact K
                · refine E_iload dL_behind_107 rfl ?_
                  refine E_if_le_n (tgt := 118) dL_behind_109 (by decide) (by omega) (fun c_109 => ?_) (fun c_109 => ?_)
                  · refine E_iload dL_behind_118 rfl ?_
                    refine E_iret dL_behind_120 (Or.inl rfl) ?_
                    rw [← he, bh_ret hs (by omega) (by unfold cVo; omega) (by omega) (by omega) (fun z => by first | exact c_104 | (exfalso; omega))] at K
                    exact K
                  · refine E_iconst (v := nI 0) dL_behind_112 (by decide) ?_
                    refine E_istore dL_behind_113 (Nat.le_of_ble_eq_true rfl) (by decide) rfl ?_
                    refine E_goto (tgt := 121) dL_behind_115 (by decide) ?_
                    refine E_iinc_n (d := 1) dL_behind_121 rfl rfl rfl (by decide) rfl ?_
                    refine E_goto (tgt := 6) dL_behind_124 (by decide) ?_
                    first
                      | exact ih (by omega) 3 (by decide) (by rw [← he]; exact (bh_vow hs (by omega) (by unfold cVo; omega)).symm) _
                      | exact ih (by omega) 1 (by decide) (by rw [← he, show s = 0 by omega, bhV_0]; exact (bcE_39 (by omega) (by omega)).symm) _
                      | exact ih (by omega) 2 (by decide) (by rw [← he, show s = 1 by omega]; exact (bh_j (by omega) (by omega)).symm) _
                      | exact ih (by omega) 0 (by decide) (by rw [← he]; exact (bh_con (by omega) (by omega) c_104).symm) _
              · refine E_iconst (v := nI 2) dL_behind_93 (by decide) ?_
                refine E_istore dL_behind_94 (Nat.le_of_ble_eq_true rfl) (by decide) rfl ?_
                refine E_goto (tgt := 121) dL_behind_96 (by decide) ?_
                refine E_iinc_n (d := 1) dL_behind_121 rfl rfl rfl (by decide) rfl ?_
                refine E_goto (tgt := 6) dL_behind_124 (by decide) ?_
                first
                  | exact ih (by omega) 3 (by decide) (by rw [← he]; exact (bh_vow hs (by omega) (by unfold cVo; omega)).symm) _
                  | exact ih (by omega) 1 (by decide) (by rw [← he, show s = 0 by omega, bhV_0]; exact (bcE_39 (by omega) (by omega)).symm) _
                  | exact ih (by omega) 2 (by decide) (by rw [← he, show s = 1 by omega]; exact (bh_j (by omega) (by omega)).symm) _
                  | exact ih (by omega) 0 (by decide) (by rw [← he]; exact (bh_con (by omega) (by omega) c_104).symm) _
            · refine E_iload dL_behind_81 rfl ?_
              refine E_iconst (v := nI 3) dL_behind_83 (by decide) ?_
              refine E_icmp_ne_n (tgt := 99) dL_behind_84 (by decide) (by omega) (by omega) (fun c_84 => ?_) (fun c_84 => ?_)
              · refine E_iload dL_behind_99 rfl ?_
                refine E_callT1 (fr' := 1) (k1 := 0) (n1 := 0) (k2 := 0) (n2 := 0) dL_behind_101 kO_L_consonant kL_L_178 (by exact Nat.le_of_ble_eq_true rfl) (by decide) (by exact Nat.le_of_ble_eq_true rfl) (Or.inl rfl) rfl ?_
                refine sp_L_consonant (by omega) ?_
                refine gKv ?_
                refine E_if_eq_b (tgt := 118) dL_behind_104 (by decide) (fun c_104 => ?_) (fun c_104 => ?_)
                · refine E_iload dL_behind_118 rfl ?_
                  refine E_iret dL_behind_120 (Or.inl rfl) ?_
                  rw [← he, bh_ret hs (by omega) (by unfold cVo; omega) (by omega) (by omega) (fun z => by first | exact c_104 | (exfalso; omega))] at K
                  exact K
                · refine E_iload dL_behind_107 rfl ?_
                  refine E_if_le_n (tgt := 118) dL_behind_109 (by decide) (by omega) (fun c_109 => ?_) (fun c_109 => ?_)
                  · refine E_iload dL_behind_118 rfl ?_
                    refine E_iret dL_behind_120 (Or.inl rfl) ?_
                    rw [← he, bh_ret hs (by omega) (by unfold cVo; omega) (by omega) (by omega) (fun z => by first | exact c_104 | (exfalso; omega))] at K
                    exact K
                  · refine E_iconst (v := nI 0) dL_behind_112 (by decide) ?_
                    refine E_istore dL_behind_113 (Nat.le_of_ble_eq_true rfl) (by decide) rfl ?_
                    refine E_goto (tgt := 121) dL_behind_115 (by decide) ?_
                    refine E_iinc_n (d := 1) dL_behind_121 rfl rfl rfl (by decide) rfl ?_
                    refine E_goto (tgt := 6) dL_behind_124 (by decide) ?_
                    first
                      | exact ih (by omega) 3 (by decide) (by rw [← he]; exact (bh_vow hs (by omega) (by unfold cVo; omega)).symm) _
                      | exact ih (by omega) 1 (by decide) (by rw [← he, show s = 0 by omega, bhV_0]; exact (bcE_39 (by omega) (by omega)).symm) _
                      | exact ih (by omega) 2 (by decide) (by rw [← he, show s = 1 by omega]; exact (bh_j (by omega) (by omega)).symm) _
                      | exact ih (by omega) 0 (by decide) (by rw [← he]; exact (bh_con (by omega) (by omega) c_104).symm) _
              · refine E_iload dL_behind_87 rfl ?_
                refine E_iconst (v := nI 1) dL_behind_89 (by decide) ?_
                refine E_icmp_ne_n (tgt := 99) dL_behind_90 (by decide) (by omega) (by omega) (fun c_90 => ?_) (fun c_90 => ?_)
                · refine E_iload dL_behind_99 rfl ?_
                  refine E_callT1 (fr' := 1) (k1 := 0) (n1 := 0) (k2 := 0) (n2 := 0) dL_behind_101 kO_L_consonant kL_L_178 (by exact Nat.le_of_ble_eq_true rfl) (by decide) (by exact Nat.le_of_ble_eq_true rfl) (Or.inl rfl) rfl ?_
                  refine sp_L_consonant (by omega) ?_
                  refine gKv ?_
                  refine E_if_eq_b (tgt := 118) dL_behind_104 (by decide) (fun c_104 => ?_) (fun c_104 => ?_)
                  · refine E_iload dL_behind_118 rfl ?_
                    refine E_iret dL_behind_120 (Or.inl rfl) ?_
                    rw [← he, bh_ret hs (by omega) (by unfold cVo; omega) (by omega) (by omega) (fun z => by first | exact c_104 | (exfalso; omega))] at K
                    exact K
                  · refine E_iload dL_behind_107 rfl ?_
                    refine E_if_le_n (tgt := 118) dL_behind_109 (by decide) (by omega) (fun c_109 => ?_) (fun c_109 => ?_)
                    · refine E_iload dL_behind_118 rfl ?_
                      refine E_iret dL_behind_120 (Or.inl rfl) ?_
                      rw [← he, bh_ret hs (by omega) (by unfold cVo; omega) (by omega) (by omega) (fun z => by first | exact c_104 | (exfalso; omega))] at K
                      exact K
                    · refine E_iconst (v := nI 0) dL_behind_112 (by decide) ?_
                      refine E_istore dL_behind_113 (Nat.le_of_ble_eq_true rfl) (by decide) rfl ?_
                      refine E_goto (tgt := 121) dL_behind_115 (by decide) ?_
                      refine E_iinc_n (d := 1) dL_behind_121 rfl rfl rfl (by decide) rfl ?_
                      refine E_goto (tgt := 6) dL_behind_124 (by decide) ?_
                      first
                        | exact ih (by omega) 3 (by decide) (by rw [← he]; exact (bh_vow hs (by omega) (by unfold cVo; omega)).symm) _
                        | exact ih (by omega) 1 (by decide) (by rw [← he, show s = 0 by omega, bhV_0]; exact (bcE_39 (by omega) (by omega)).symm) _
                        | exact ih (by omega) 2 (by decide) (by rw [← he, show s = 1 by omega]; exact (bh_j (by omega) (by omega)).symm) _
                        | exact ih (by omega) 0 (by decide) (by rw [← he]; exact (bh_con (by omega) (by omega) c_104).symm) _
                · refine E_iconst (v := nI 2) dL_behind_93 (by decide) ?_
                  refine E_istore dL_behind_94 (Nat.le_of_ble_eq_true rfl) (by decide) rfl ?_
                  refine E_goto (tgt := 121) dL_behind_96 (by decide) ?_
                  refine E_iinc_n (d := 1) dL_behind_121 rfl rfl rfl (by decide) rfl ?_
                  refine E_goto (tgt := 6) dL_behind_124 (by decide) ?_
                  first
                    | exact ih (by omega) 3 (by decide) (by rw [← he]; exact (bh_vow hs (by omega) (by unfold cVo; omega)).symm) _
                    | exact ih (by omega) 1 (by decide) (by rw [← he, show s = 0 by omega, bhV_0]; exact (bcE_39 (by omega) (by omega)).symm) _
                    | exact ih (by omega) 2 (by decide) (by rw [← he, show s = 1 by omega]; exact (bh_j (by omega) (by omega)).symm) _
                    | exact ih (by omega) 0 (by decide) (by rw [← he]; exact (bh_con (by omega) (by omega) c_104).symm) _
          · refine E_iload dL_behind_64 rfl ?_
            refine E_if_ne_n (tgt := 75) dL_behind_66 (by decide) (by omega) (fun c_66 => ?_) (fun c_66 => ?_)
            · refine E_iload dL_behind_75 rfl ?_
              refine E_iconst (v := nI 2) dL_behind_77 (by decide) ?_
              refine E_icmp_eq_n (tgt := 87) dL_behind_78 (by decide) (by omega) (by omega) (fun c_78 => ?_) (fun c_78 => ?_)
              · refine E_iload dL_behind_87 rfl ?_
                refine E_iconst (v := nI 1) dL_behind_89 (by decide) ?_
                refine E_icmp_ne_n (tgt := 99) dL_behind_90 (by decide) (by omega) (by omega) (fun c_90 => ?_) (fun c_90 => ?_)
                · refine E_iload dL_behind_99 rfl ?_
                  refine E_callT1 (fr' := 1) (k1 := 0) (n1 := 0) (k2 := 0) (n2 := 0) dL_behind_101 kO_L_consonant kL_L_178 (by exact Nat.le_of_ble_eq_true rfl) (by decide) (by exact Nat.le_of_ble_eq_true rfl) (Or.inl rfl) rfl ?_
                  refine sp_L_consonant (by omega) ?_
                  refine gKv ?_
                  refine E_if_eq_b (tgt := 118) dL_behind_104 (by decide) (fun c_104 => ?_) (fun c_104 => ?_)
                  · refine E_iload dL_behind_118 rfl ?_
                    refine E_iret dL_behind_120 (Or.inl rfl) ?_
                    rw [← he, bh_ret hs (by omega) (by unfold cVo; omega) (by omega) (by omega) (fun z => by first | exact c_104 | (exfalso; omega))] at K
                    exact K
                  · refine E_iload dL_behind_107 rfl ?_
                    refine E_if_le_n (tgt := 118) dL_behind_109 (by decide) (by omega) (fun c_109 => ?_) (fun c_109 => ?_)
                    · refine E_iload dL_behind_118 rfl ?_
                      refine E_iret dL_behind_120 (Or.inl rfl) ?_
                      rw [← he, bh_ret hs (by omega) (by unfold cVo; omega) (by omega) (by omega) (fun z => by first | exact c_104 | (exfalso; omega))] at K
                      exact K
                    · refine E_iconst (v := nI 0) dL_behind_112 (by decide) ?_
                      refine E_istore dL_behind_113 (Nat.le_of_ble_eq_true rfl) (by decide) rfl ?_
                      refine E_goto (tgt := 121) dL_behind_115 (by decide) ?_
                      refine E_iinc_n (d := 1) dL_behind_121 rfl rfl rfl (by decide) rfl ?_
                      refine E_goto (tgt := 6) dL_behind_124 (by decide) ?_
                      first
                        | exact ih (by omega) 3 (by decide) (by rw [← he]; exact (bh_vow hs (by omega) (by unfold cVo; omega)).symm) _
                        | exact ih (by omega) 1 (by decide) (by rw [← he, show s = 0 by omega, bhV_0]; exact (bcE_39 (by omega) (by omega)).symm) _
                        | exact ih (by omega) 2 (by decide) (by rw [← he, show s = 1 by omega]; exact (bh_j (by omega) (by omega)).symm) _
                        | exact ih (by omega) 0 (by decide) (by rw [← he]; exact (bh_con (by omega) (by omega) c_104).symm) _
                · refine E_iconst (v := nI 2) dL_behind_93 (by decide) ?_
                  refine E_istore dL_behind_94 (Nat.le_of_ble_eq_true rfl) (by decide) rfl ?_
                  refine E_goto (tgt := 121) dL_behind_96 (by decide) ?_
                  refine E_iinc_n (d := 1) dL_behind_121 rfl rfl rfl (by decide) rfl ?_
                  refine E_goto (tgt := 6) dL_behind_124 (by decide) ?_
                  first
                    | exact ih (by omega) 3 (by decide) (by rw [← he]; exact (bh_vow hs (by omega) (by unfold cVo; omega)).symm) _
                    | exact ih (by omega) 1 (by decide) (by rw [← he, show s = 0 by omega, bhV_0]; exact (bcE_39 (by omega) (by omega)).symm) _
                    | exact ih (by omega) 2 (by decide) (by rw [← he, show s = 1 by omega]; exact (bh_j (by omega) (by omega)).symm) _
                    | exact ih (by omega) 0 (by decide) (by rw [← he]; exact (bh_con (by omega) (by omega) c_104).symm) _
              · refine E_iload dL_behind_81 rfl ?_
                refine E_iconst (v := nI 3) dL_behind_83 (by decide) ?_
                refine E_icmp_ne_n (tgt := 99) dL_behind_84 (by decide) (by omega) (by omega) (fun c_84 => ?_) (fun c_84 => ?_)
                · refine E_iload dL_behind_99 rfl ?_
                  refine E_callT1 (fr' := 1) (k1 := 0) (n1 := 0) (k2 := 0) (n2 := 0) dL_behind_101 kO_L_consonant kL_L_178 (by exact Nat.le_of_ble_eq_true rfl) (by decide) (by exact Nat.le_of_ble_eq_true rfl) (Or.inl rfl) rfl ?_
                  refine sp_L_consonant (by omega) ?_
                  refine gKv ?_
                  refine E_if_eq_b (tgt := 118) dL_behind_104 (by decide) (fun c_104 => ?_) (fun c_104 => ?_)
                  · refine E_iload dL_behind_118 rfl ?_
                    refine E_iret dL_behind_120 (Or.inl rfl) ?_
                    rw [← he, bh_ret hs (by omega) (by unfold cVo; omega) (by omega) (by omega) (fun z => by first | exact c_104 | (exfalso; omega))] at K
                    exact K
                  · refine E_iload dL_behind_107 rfl ?_
                    refine E_if_le_n (tgt := 118) dL_behind_109 (by decide) (by omega) (fun c_109 => ?_) (fun c_109 => ?_)
                    · refine E_iload dL_behind_118 rfl ?_
                      refine E_iret dL_behind_120 (Or.inl rfl) ?_
                      rw [← he, bh_ret hs (by omega) (by unfold cVo; omega) (by omega) (by omega) (fun z => by first | exact c_104 | (exfalso; omega))] at K
                      exact K
                    · refine E_iconst (v := nI 0) dL_behind_112 (by decide) ?_
                      refine E_istore dL_behind_113 (Nat.le_of_ble_eq_true rfl) (by decide) rfl ?_
                      refine E_goto (tgt := 121) dL_behind_115 (by decide) ?_
                      refine E_iinc_n (d := 1) dL_behind_121 rfl rfl rfl (by decide) rfl ?_
                      refine E_goto (tgt := 6) dL_behind_124 (by decide) ?_
                      first
                        | exact ih (by omega) 3 (by decide) (by rw [← he]; exact (bh_vow hs (by omega) (by unfold cVo; omega)).symm) _
                        | exact ih (by omega) 1 (by decide) (by rw [← he, show s = 0 by omega, bhV_0]; exact (bcE_39 (by omega) (by omega)).symm) _
                        | exact ih (by omega) 2 (by decide) (by rw [← he, show s = 1 by omega]; exact (bh_j (by omega) (by omega)).symm) _
                        | exact ih (by omega) 0 (by decide) (by rw [← he]; exact (bh_con (by omega) (by omega) c_104).symm) _
                · refine E_iload dL_behind_87 rfl ?_
                  refine E_iconst (v := nI 1) dL_behind_89 (by decide) ?_
                  refine E_icmp_ne_n (tgt := 99) dL_behind_90 (by decide) (by omega) (by omega) (fun c_90 => ?_) (fun c_90 => ?_)
                  · refine E_iload dL_behind_99 rfl ?_
                    refine E_callT1 (fr' := 1) (k1 := 0) (n1 := 0) (k2 := 0) (n2 := 0) dL_behind_101 kO_L_consonant kL_L_178 (by exact Nat.le_of_ble_eq_true rfl) (by decide) (by exact Nat.le_of_ble_eq_true rfl) (Or.inl rfl) rfl ?_
                    refine sp_L_consonant (by omega) ?_
                    refine gKv ?_
                    refine E_if_eq_b (tgt := 118) dL_behind_104 (by decide) (fun c_104 => ?_) (fun c_104 => ?_)
                    · refine E_iload dL_behind_118 rfl ?_
                      refine E_iret dL_behind_120 (Or.inl rfl) ?_
                      rw [← he, bh_ret hs (by omega) (by unfold cVo; omega) (by omega) (by omega) (fun z => by first | exact c_104 | (exfalso; omega))] at K
                      exact K
                    · refine E_iload dL_behind_107 rfl ?_
                      refine E_if_le_n (tgt := 118) dL_behind_109 (by decide) (by omega) (fun c_109 => ?_) (fun c_109 => ?_)
                      · refine E_iload dL_behind_118 rfl ?_
                        refine E_iret dL_behind_120 (Or.inl rfl) ?_
                        rw [← he, bh_ret hs (by omega) (by unfold cVo; omega) (by omega) (by omega) (fun z => by first | exact c_104 | (exfalso; omega))] at K
                        exact K
                      · refine E_iconst (v := nI 0) dL_behind_112 (by decide) ?_
                        refine E_istore dL_behind_113 (Nat.le_of_ble_eq_true rfl) (by decide) rfl ?_
                        refine E_goto (tgt := 121) dL_behind_115 (by decide) ?_
                        refine E_iinc_n (d := 1) dL_behind_121 rfl rfl rfl (by decide) rfl ?_
                        refine E_goto (tgt := 6) dL_behind_124 (by decide) ?_
                        first
                          | exact ih (by omega) 3 (by decide) (by rw [← he]; exact (bh_vow hs (by omega) (by unfold cVo; omega)).symm) _
                          | exact ih (by omega) 1 (by decide) (by rw [← he, show s = 0 by omega, bhV_0]; exact (bcE_39 (by omega) (by omega)).symm) _
                          | exact ih (by omega) 2 (by decide) (by rw [← he, show s = 1 by omega]; exact (bh_j (by omega) (by omega)).symm) _
                          | exact ih (by omega) 0 (by decide) (by rw [← he]; exact (bh_con (by omega) (by omega) c_104).symm) _
                  · refine E_iconst (v := nI 2) dL_behind_93 (by decide) ?_
                    refine E_istore dL_behind_94 (Nat.le_of_ble_eq_true rfl) (by decide) rfl ?_
                    refine E_goto (tgt := 121) dL_behind_96 (by decide) ?_
                    refine E_iinc_n (d := 1) dL_behind_121 rfl rfl rfl (by decide) rfl ?_
                    refine E_goto (tgt := 6) dL_behind_124 (by decide) ?_
                    first
                      | exact ih (by omega) 3 (by decide) (by rw [← he]; exact (bh_vow hs (by omega) (by unfold cVo; omega)).symm) _
                      | exact ih (by omega) 1 (by decide) (by rw [← he, show s = 0 by omega, bhV_0]; exact (bcE_39 (by omega) (by omega)).symm) _
                      | exact ih (by omega) 2 (by decide) (by rw [← he, show s = 1 by omega]; exact (bh_j (by omega) (by omega)).symm) _
                      | exact ih (by omega) 0 (by decide) (by rw [← he]; exact (bh_con (by omega) (by omega) c_104).symm) _
            · refine E_iconst (v := nI 1) dL_behind_69 (by decide) ?_
              refine E_istore dL_behind_70 (Nat.le_of_ble_eq_true rfl) (by decide) rfl ?_
              refine E_goto (tgt := 121) dL_behind_72 (by decide) ?_
              refine E_iinc_n (d := 1) dL_behind_121 rfl rfl rfl (by decide) rfl ?_
              refine E_goto (tgt := 6) dL_behind_124 (by decide) ?_
              first
                | exact ih (by omega) 3 (by decide) (by rw [← he]; exact (bh_vow hs (by omega) (by unfold cVo; omega)).symm) _
                | exact ih (by omega) 1 (by decide) (by rw [← he, show s = 0 by omega, bhV_0]; exact (bcE_39 (by omega) (by omega)).symm) _
                | exact ih (by omega) 2 (by decide) (by rw [← he, show s = 1 by omega]; exact (bh_j (by omega) (by omega)).symm) _
                | exact ih (by omega) 0 (by decide) (by rw [← he]; exact (bh_con (by omega) (by omega) c_104).symm) _
        · refine E_iload dL_behind_54 rfl ?_
          refine E_iret dL_behind_56 (Or.inl rfl) ?_
          rw [← he, bh_ret hs (by omega) (by unfold cVo; omega) (by omega) (by omega) (by omega)] at K
          exact K
      · refine E_iconst (v := nI 3) dL_behind_42 (by decide) ?_
        refine E_istore dL_behind_43 (Nat.le_of_ble_eq_true rfl) (by decide) rfl ?_
        refine E_goto (tgt := 121) dL_behind_45 (by decide) ?_
        refine E_iinc_n (d := 1) dL_behind_121 rfl rfl rfl (by decide) rfl ?_
        refine E_goto (tgt := 6) dL_behind_124 (by decide) ?_
        first
          | exact ih (by omega) 3 (by decide) (by rw [← he]; exact (bh_vow hs (by omega) (by unfold cVo; omega)).symm) _
          | exact ih (by omega) 1 (by decide) (by rw [← he, show s = 0 by omega, bhV_0]; exact (bcE_39 (by omega) (by omega)).symm) _
          | exact ih (by omega) 2 (by decide) (by rw [← he, show s = 1 by omega]; exact (bh_j (by omega) (by omega)).symm) _
          | exact ih (by omega) 0 (by decide) (by rw [← he]; exact (bh_con (by omega) (by omega) c_104).symm) _
    · refine E_iload dL_behind_28 rfl ?_
      refine E_bipush (v := nI 43) dL_behind_30 (by decide) ?_
      refine E_icmp_lt_n (tgt := 42) dL_behind_32 (by decide) (by omega) (by omega) (fun c_32 => ?_) (fun c_32 => ?_)
      · refine E_iconst (v := nI 3) dL_behind_42 (by decide) ?_
        refine E_istore dL_behind_43 (Nat.le_of_ble_eq_true rfl) (by decide) rfl ?_
        refine E_goto (tgt := 121) dL_behind_45 (by decide) ?_
        refine E_iinc_n (d := 1) dL_behind_121 rfl rfl rfl (by decide) rfl ?_
        refine E_goto (tgt := 6) dL_behind_124 (by decide) ?_
        first
          | exact ih (by omega) 3 (by decide) (by rw [← he]; exact (bh_vow hs (by omega) (by unfold cVo; omega)).symm) _
          | exact ih (by omega) 1 (by decide) (by rw [← he, show s = 0 by omega, bhV_0]; exact (bcE_39 (by omega) (by omega)).symm) _
          | exact ih (by omega) 2 (by decide) (by rw [← he, show s = 1 by omega]; exact (bh_j (by omega) (by omega)).symm) _
          | exact ih (by omega) 0 (by decide) (by rw [← he]; exact (bh_con (by omega) (by omega) c_104).symm) _
      · refine E_iload dL_behind_35 rfl ?_
        refine E_bipush (v := nI 44) dL_behind_37 (by decide) ?_
        refine E_icmp_ne_n (tgt := 48) dL_behind_39 (by decide) (by omega) (by omega) (fun c_39 => ?_) (fun c_39 => ?_)
        · refine E_iload dL_behind_48 rfl ?_
          refine E_iconst (v := nI 3) dL_behind_50 (by decide) ?_
          refine E_icmp_ne_n (tgt := 57) dL_behind_51 (by decide) (by omega) (by omega) (fun c_51 => ?_) (fun c_51 => ?_)
          · refine E_iload dL_behind_57 rfl ?_
            refine E_bipush (v := nI 39) dL_behind_59 (by decide) ?_
            refine E_icmp_ne_n (tgt := 75) dL_behind_61 (by decide) (by omega) (by omega) (fun c_61 => ?_) (fun c_61 => ?_)
            · refine E_iload dL_behind_75 rfl ?_
              refine E_iconst (v := nI 2) dL_behind_77 (by decide) ?_
              refine E_icmp_eq_n (tgt := 87) dL_behind_78 (by decide) (by omega) (by omega) (fun c_78 => ?_) (fun c_78 => ?_)
              · refine E_iload dL_behind_87 rfl ?_
                refine E_iconst (v := nI 1) dL_behind_89 (by decide) ?_
                refine E_icmp_ne_n (tgt := 99) dL_behind_90 (by decide) (by omega) (by omega) (fun c_90 => ?_) (fun c_90 => ?_)
                · refine E_iload dL_behind_99 rfl ?_
                  refine E_callT1 (fr' := 1) (k1 := 0) (n1 := 0) (k2 := 0) (n2 := 0) dL_behind_101 kO_L_consonant kL_L_178 (by exact Nat.le_of_ble_eq_true rfl) (by decide) (by exact Nat.le_of_ble_eq_true rfl) (Or.inl rfl) rfl ?_
                  refine sp_L_consonant (by omega) ?_
                  refine gKv ?_
                  refine E_if_eq_b (tgt := 118) dL_behind_104 (by decide) (fun c_104 => ?_) (fun c_104 => ?_)
                  · refine E_iload dL_behind_118 rfl ?_
                    refine E_iret dL_behind_120 (Or.inl rfl) ?_
                    rw [← he, bh_ret hs (by omega) (by unfold cVo; omega) (by omega) (by omega) (fun z => by first | exact c_104 | (exfalso; omega))] at K
                    exact K
                  · refine E_iload dL_behind_107 rfl ?_
                    refine E_if_le_n (tgt := 118) dL_behind_109 (by decide) (by omega) (fun c_109 => ?_) (fun c_109 => ?_)
                    · refine E_iload dL_behind_118 rfl ?_
                      refine E_iret dL_behind_120 (Or.inl rfl) ?_
                      rw [← he, bh_ret hs (by omega) (by unfold cVo; omega) (by omega) (by omega) (fun z => by first | exact c_104 | (exfalso; omega))] at K
                      exact K
                    · refine E_iconst (v := nI 0) dL_behind_112 (by decide) ?_
                      refine E_istore dL_behind_113 (Nat.le_of_ble_eq_true rfl) (by decide) rfl ?_
                      refine E_goto (tgt := 121) dL_behind_115 (by decide) ?_
                      refine E_iinc_n (d := 1) dL_behind_121 rfl rfl rfl (by decide) rfl ?_
                      refine E_goto (tgt := 6) dL_behind_124 (by decide) ?_
                      first
                        | exact ih (by omega) 3 (by decide) (by rw [← he]; exact (bh_vow hs (by omega) (by unfold cVo; omega)).symm) _
                        | exact ih (by omega) 1 (by decide) (by rw [← he, show s = 0 by omega, bhV_0]; exact (bcE_39 (by omega) (by omega)).symm) _
                        | exact ih (by omega) 2 (by decide) (by rw [← he, show s = 1 by omega]; exact (bh_j (by omega) (by omega)).symm) _
                        | exact ih (by omega) 0 (by decide) (by rw [← he]; exact (bh_con (by omega) (by omega) c_104).symm) _
                · refine E_iconst (v := nI 2) dL_behind_93 (by decide) ?_
                  refine E_istore dL_behind_94 (Nat.le_of_ble_eq_true rfl) (by decide) rfl ?_
                  refine E_goto (tgt := 121) dL_behind_96 (by decide) ?_
                  refine E_iinc_n (d := 1) dL_behind_121 rfl rfl rfl (by decide) rfl ?_
                  refine E_goto (tgt := 6) dL_behind_124 (by decide) ?_
                  first
                    | exact ih (by omega) 3 (by decide) (by rw [← he]; exact (bh_vow hs (by omega) (by unfold cVo; omega)).symm) _
                    | exact ih (by omega) 1 (by decide) (by rw [← he, show s = 0 by omega, bhV_0]; exact (bcE_39 (by omega) (by omega)).symm) _
                    | exact ih (by omega) 2 (by decide) (by rw [← he, show s = 1 by omega]; exact (bh_j (by omega) (by omega)).symm) _
                    | exact ih (by omega) 0 (by decide) (by rw [← he]; exact (bh_con (by omega) (by omega) c_104).symm) _
              · refine E_iload dL_behind_81 rfl ?_
                refine E_iconst (v := nI 3) dL_behind_83 (by decide) ?_
                refine E_icmp_ne_n (tgt := 99) dL_behind_84 (by decide) (by omega) (by omega) (fun c_84 => ?_) (fun c_84 => ?_)
                · refine E_iload dL_behind_99 rfl ?_
                  refine E_callT1 (fr' := 1) (k1 := 0) (n1 := 0) (k2 := 0) (n2 := 0) dL_behind_101 kO_L_consonant kL_L_178 (by exact Nat.le_of_ble_eq_true rfl) (by decide) (by exact Nat.le_of_ble_eq_true rfl) (Or.inl rfl) rfl ?_
                  refine sp_L_consonant (by omega) ?_
                  refine gKv ?_
                  refine E_if_eq_b (tgt := 118) dL_behind_104 (by decide) (fun c_104 => ?_) (fun c_104 => ?_)
                  · refine E_iload dL_behind_118 rfl ?_
                    refine E_iret dL_behind_120 (Or.inl rfl) ?_
                    rw [← he, bh_ret hs (by omega) (by unfold cVo; omega) (by omega) (by omega) (fun z => by first | exact c_104 | (exfalso; omega))] at K
                    exact K
                  · refine E_iload dL_behind_107 rfl ?_
                    refine E_if_le_n (tgt := 118) dL_behind_109 (by decide) (by omega) (fun c_109 => ?_) (fun c_109 => ?_)
                    · refine E_iload dL_behind_118 rfl ?_
                      refine E_iret dL_behind_120 (Or.inl rfl) ?_
                      rw [← he, bh_ret hs (by omega) (by unfold cVo; omega) (by omega) (by omega) (fun z => by first | exact c_104 | (exfalso; omega))] at K
                      exact K
                    · refine E_iconst (v := nI 0) dL_behind_112 (by decide) ?_
                      refine E_istore dL_behind_113 (Nat.le_of_ble_eq_true rfl) (by decide) rfl ?_
                      refine E_goto (tgt := 121) dL_behind_115 (by decide) ?_
                      refine E_iinc_n (d := 1) dL_behind_121 rfl rfl rfl (by decide) rfl ?_
                      refine E_goto (tgt := 6) dL_behind_124 (by decide) ?_
                      first
                        | exact ih (by omega) 3 (by decide) (by rw [← he]; exact (bh_vow hs (by omega) (by unfold cVo; omega)).symm) _
                        | exact ih (by omega) 1 (by decide) (by rw [← he, show s = 0 by omega, bhV_0]; exact (bcE_39 (by omega) (by omega)).symm) _
                        | exact ih (by omega) 2 (by decide) (by rw [← he, show s = 1 by omega]; exact (bh_j (by omega) (by omega)).symm) _
                        | exact ih (by omega) 0 (by decide) (by rw [← he]; exact (bh_con (by omega) (by omega) c_104).symm) _
                · refine E_iload dL_behind_87 rfl ?_
                  refine E_iconst (v := nI 1) dL_behind_89 (by decide) ?_
                  refine E_icmp_ne_n (tgt := 99) dL_behind_90 (by decide) (by omega) (by omega) (fun c_90 => ?_) (fun c_90 => ?_)
                  · refine E_iload dL_behind_99 rfl ?_
                    refine E_callT1 (fr' := 1) (k1 := 0) (n1 := 0) (k2 := 0) (n2 := 0) dL_behind_101 kO_L_consonant kL_L_178 (by exact Nat.le_of_ble_eq_true rfl) (by decide) (by exact Nat.le_of_ble_eq_true rfl) (Or.inl rfl) rfl ?_
                    refine sp_L_consonant (by omega) ?_
                    refine gKv ?_
                    refine E_if_eq_b (tgt := 118) dL_behind_104 (by decide) (fun c_104 => ?_) (fun c_104 => ?_)
                    · refine E_iload dL_behind_118 rfl ?_
                      refine E_iret dL_behind_120 (Or.inl rfl) ?_
                      rw [← he, bh_ret hs (by omega) (by unfold cVo; omega) (by omega) (by omega) (fun z => by first | exact c_104 | (exfalso; omega))] at K
                      exact K
                    · refine E_iload dL_behind_107 rfl ?_
                      refine E_if_le_n (tgt := 118) dL_behind_109 (by decide) (by omega) (fun c_109 => ?_) (fun c_109 => ?_)
                      · refine E_iload dL_behind_118 rfl ?_
                        refine E_iret dL_behind_120 (Or.inl rfl) ?_
                        rw [← he, bh_ret hs (by omega) (by unfold cVo; omega) (by omega) (by omega) (fun z => by first | exact c_104 | (exfalso; omega))] at K
                        exact K
                      · refine E_iconst (v := nI 0) dL_behind_112 (by decide) ?_
                        refine E_istore dL_behind_113 (Nat.le_of_ble_eq_true rfl) (by decide) rfl ?_
                        refine E_goto (tgt := 121) dL_behind_115 (by decide) ?_
                        refine E_iinc_n (d := 1) dL_behind_121 rfl rfl rfl (by decide) rfl ?_
                        refine E_goto (tgt := 6) dL_behind_124 (by decide) ?_
                        first
                          | exact ih (by omega) 3 (by decide) (by rw [← he]; exact (bh_vow hs (by omega) (by unfold cVo; omega)).symm) _
                          | exact ih (by omega) 1 (by decide) (by rw [← he, show s = 0 by omega, bhV_0]; exact (bcE_39 (by omega) (by omega)).symm) _
                          | exact ih (by omega) 2 (by decide) (by rw [← he, show s = 1 by omega]; exact (bh_j (by omega) (by omega)).symm) _
                          | exact ih (by omega) 0 (by decide) (by rw [← he]; exact (bh_con (by omega) (by omega) c_104).symm) _
                  · refine E_iconst (v := nI 2) dL_behind_93 (by decide) ?_
                    refine E_istore dL_behind_94 (Nat.le_of_ble_eq_true rfl) (by decide) rfl ?_
                    refine E_goto (tgt := 121) dL_behind_96 (by decide) ?_
                    refine E_iinc_n (d := 1) dL_behind_121 rfl rfl rfl (by decide) rfl ?_
                    refine E_goto (tgt := 6) dL_behind_124 (by decide) ?_
                    first
                      | exact ih (by omega) 3 (by decide) (by rw [← he]; exact (bh_vow hs (by omega) (by unfold cVo; omega)).symm) _
                      | exact ih (by omega) 1 (by decide) (by rw [← he, show s = 0 by omega, bhV_0]; exact (bcE_39 (by omega) (by omega)).symm) _
                      | exact ih (by omega) 2 (by decide) (by rw [← he, show s = 1 by omega]; exact (bh_j (by omega) (by omega)).symm) _
                      | exact ih (by omega) 0 (by decide) (by rw [← he]; exact (bh_con (by omega) (by omega) c_104).symm) _
            · refine E_iload dL_behind_64 rfl ?_
              refine E_if_ne_n (tgt := 75) dL_behind_66 (by decide) (by omega) (fun c_66 => ?_) (fun c_66 => ?_)
              · refine E_iload dL_behind_75 rfl ?_
                refine E_iconst (v := nI 2) dL_behind_77 (by decide) ?_
                refine E_icmp_eq_n (tgt := 87) dL_behind_78 (by decide) (by omega) (by omega) (fun c_78 => ?_) (fun c_78 => ?_)
                · refine E_iload dL_behind_87 rfl ?_
                  refine E_iconst (v := nI 1) dL_behind_89 (by decide) ?_
                  refine E_icmp_ne_n (tgt := 99) dL_behind_90 (by decide) (by omega) (by omega) (fun c_90 => ?_) (fun c_90 => ?_)
                  · refine E_iload dL_behind_99 rfl ?_
                    refine E_callT1 (fr' := 1) (k1 := 0) (n1 := 0) (k2 := 0) (n2 := 0) dL_behind_101 kO_L_consonant kL_L_178 (by exact Nat.le_of_ble_eq_true rfl) (by decide) (by exact Nat.le_of_ble_eq_true rfl) (Or.inl rfl) rfl ?_
                    refine sp_L_consonant (by omega) ?_
                    refine gKv ?_
                    refine E_if_eq_b (tgt := 118) dL_behind_104 (by decide) (fun c_104 => ?_) (fun c_104 => ?_)
                    · refine E_iload dL_behind_118 rfl ?_
                      refine E_iret dL_behind_120 (Or.inl rfl) ?_
                      rw [← he, bh_ret hs (by omega) (by unfold cVo; omega) (by omega) (by omega) (fun z => by first | exact c_104 | (exfalso; omega))] at K
                      exact K
                    · refine E_iload dL_behind_107 rfl ?_
                      refine E_if_le_n (tgt := 118) dL_behind_109 (by decide) (by omega) (fun c_109 => ?_) (fun c_109 => ?_)
                      · refine E_iload dL_behind_118 rfl ?_
                        refine E_iret dL_behind_120 (Or.inl rfl) ?_
                        rw [← he, bh_ret hs (by omega) (by unfold cVo; omega) (by omega) (by omega) (fun z => by first | exact c_104 | (exfalso; omega))] at K
                        exact K
                      · refine E_iconst (v := nI 0) dL_behind_112 (by decide) ?_
                        refine E_istore dL_behind_113 (Nat.le_of_ble_eq_true rfl) (by decide) rfl ?_
                        refine E_goto (tgt := 121) dL_behind_115 (by decide) ?_
                        refine E_iinc_n (d := 1) dL_behind_121 rfl rfl rfl (by decide) rfl ?_
                        refine E_goto (tgt := 6) dL_behind_124 (by decide) ?_
                        first
                          | exact ih (by omega) 3 (by decide) (by rw [← he]; exact (bh_vow hs (by omega) (by unfold cVo; omega)).symm) _
                          | exact ih (by omega) 1 (by decide) (by rw [← he, show s = 0 by omega, bhV_0]; exact (bcE_39 (by omega) (by omega)).symm) _
                          | exact ih (by omega) 2 (by decide) (by rw [← he, show s = 1 by omega]; exact (bh_j (by omega) (by omega)).symm) _
                          | exact ih (by omega) 0 (by decide) (by rw [← he]; exact (bh_con (by omega) (by omega) c_104).symm) _
                  · refine E_iconst (v := nI 2) dL_behind_93 (by decide) ?_
                    refine E_istore dL_behind_94 (Nat.le_of_ble_eq_true rfl) (by decide) rfl ?_
                    refine E_goto (tgt := 121) dL_behind_96 (by decide) ?_
                    refine E_iinc_n (d := 1) dL_behind_121 rfl rfl rfl (by decide) rfl ?_
                    refine E_goto (tgt := 6) dL_behind_124 (by decide) ?_
                    first
                      | exact ih (by omega) 3 (by decide) (by rw [← he]; exact (bh_vow hs (by omega) (by unfold cVo; omega)).symm) _
                      | exact ih (by omega) 1 (by decide) (by rw [← he, show s = 0 by omega, bhV_0]; exact (bcE_39 (by omega) (by omega)).symm) _
                      | exact ih (by omega) 2 (by decide) (by rw [← he, show s = 1 by omega]; exact (bh_j (by omega) (by omega)).symm) _
                      | exact ih (by omega) 0 (by decide) (by rw [← he]; exact (bh_con (by omega) (by omega) c_104).symm) _
                · refine E_iload dL_behind_81 rfl ?_
                  refine E_iconst (v := nI 3) dL_behind_83 (by decide) ?_
                  refine E_icmp_ne_n (tgt := 99) dL_behind_84 (by decide) (by omega) (by omega) (fun c_84 => ?_) (fun c_84 => ?_)
                  · refine E_iload dL_behind_99 rfl ?_
                    refine E_callT1 (fr' := 1) (k1 := 0) (n1 := 0) (k2 := 0) (n2 := 0) dL_behind_101 kO_L_consonant kL_L_178 (by exact Nat.le_of_ble_eq_true rfl) (by decide) (by exact Nat.le_of_ble_eq_true rfl) (Or.inl rfl) rfl ?_
                    refine sp_L_consonant (by omega) ?_
                    refine gKv ?_
                    refine E_if_eq_b (tgt := 118) dL_behind_104 (by decide) (fun c_104 => ?_) (fun c_104 => ?_)
                    · refine E_iload dL_behind_118 rfl ?_
                      refine E_iret dL_behind_120 (Or.inl rfl) ?_
                      rw [← he, bh_ret hs (by omega) (by unfold cVo; omega) (by omega) (by omega) (fun z => by first | exact c_104 | (exfalso; omega))] at K
                      exact K
                    · refine E_iload dL_behind_107 rfl ?_
                      refine E_if_le_n (tgt := 118) dL_behind_109 (by decide) (by omega) (fun c_109 => ?_) (fun c_109 => ?_)
                      · refine E_iload dL_behind_118 rfl ?_
                        refine E_iret dL_behind_120 (Or.inl rfl) ?_
                        rw [← he, bh_ret hs (by omega) (by unfold cVo; omega) (by omega) (by omega) (fun z => by first | exact c_104 | (exfalso; omega))] at K
                        exact K
                      · refine E_iconst (v := nI 0) dL_behind_112 (by decide) ?_
                        refine E_istore dL_behind_113 (Nat.le_of_ble_eq_true rfl) (by decide) rfl ?_
                        refine E_goto (tgt := 121) dL_behind_115 (by decide) ?_
                        refine E_iinc_n (d := 1) dL_behind_121 rfl rfl rfl (by decide) rfl ?_
                        refine E_goto (tgt := 6) dL_behind_124 (by decide) ?_
                        first
                          | exact ih (by omega) 3 (by decide) (by rw [← he]; exact (bh_vow hs (by omega) (by unfold cVo; omega)).symm) _
                          | exact ih (by omega) 1 (by decide) (by rw [← he, show s = 0 by omega, bhV_0]; exact (bcE_39 (by omega) (by omega)).symm) _
                          | exact ih (by omega) 2 (by decide) (by rw [← he, show s = 1 by omega]; exact (bh_j (by omega) (by omega)).symm) _
                          | exact ih (by omega) 0 (by decide) (by rw [← he]; exact (bh_con (by omega) (by omega) c_104).symm) _
                  · refine E_iload dL_behind_87 rfl ?_
                    refine E_iconst (v := nI 1) dL_behind_89 (by decide) ?_
                    refine E_icmp_ne_n (tgt := 99) dL_behind_90 (by decide) (by omega) (by omega) (fun c_90 => ?_) (fun c_90 => ?_)
                    · refine E_iload dL_behind_99 rfl ?_
                      refine E_callT1 (fr' := 1) (k1 := 0) (n1 := 0) (k2 := 0) (n2 := 0) dL_behind_101 kO_L_consonant kL_L_178 (by exact Nat.le_of_ble_eq_true rfl) (by decide) (by exact Nat.le_of_ble_eq_true rfl) (Or.inl rfl) rfl ?_
                      refine sp_L_consonant (by omega) ?_
                      refine gKv ?_
                      refine E_if_eq_b (tgt := 118) dL_behind_104 (by decide) (fun c_104 => ?_) (fun c_104 => ?_)
                      · refine E_iload dL_behind_118 rfl ?_
                        refine E_iret dL_behind_120 (Or.inl rfl) ?_
                        rw [← he, bh_ret hs (by omega) (by unfold cVo; omega) (by omega) (by omega) (fun z => by first | exact c_104 | (exfalso; omega))] at K
                        exact K
                      · refine E_iload dL_behind_107 rfl ?_
                        refine E_if_le_n (tgt := 118) dL_behind_109 (by decide) (by omega) (fun c_109 => ?_) (fun c_109 => ?_)
                        · refine E_iload dL_behind_118 rfl ?_
                          refine E_iret dL_behind_120 (Or.inl rfl) ?_
                          rw [← he, bh_ret hs (by omega) (by unfold cVo; omega) (by omega) (by omega) (fun z => by first | exact c_104 | (exfalso; omega))] at K
                          exact K
                        · refine E_iconst (v := nI 0) dL_behind_112 (by decide) ?_
                          refine E_istore dL_behind_113 (Nat.le_of_ble_eq_true rfl) (by decide) rfl ?_
                          refine E_goto (tgt := 121) dL_behind_115 (by decide) ?_
                          refine E_iinc_n (d := 1) dL_behind_121 rfl rfl rfl (by decide) rfl ?_
                          refine E_goto (tgt := 6) dL_behind_124 (by decide) ?_
                          first
                            | exact ih (by omega) 3 (by decide) (by rw [← he]; exact (bh_vow hs (by omega) (by unfold cVo; omega)).symm) _
                            | exact ih (by omega) 1 (by decide) (by rw [← he, show s = 0 by omega, bhV_0]; exact (bcE_39 (by omega) (by omega)).symm) _
                            | exact ih (by omega) 2 (by decide) (by rw [← he, show s = 1 by omega]; exact (bh_j (by omega) (by omega)).symm) _
                            | exact ih (by omega) 0 (by decide) (by rw [← he]; exact (bh_con (by omega) (by omega) c_104).symm) _
                    · refine E_iconst (v := nI 2) dL_behind_93 (by decide) ?_
                      refine E_istore dL_behind_94 (Nat.le_of_ble_eq_true rfl) (by decide) rfl ?_
                      refine E_goto (tgt := 121) dL_behind_96 (by decide) ?_
                      refine E_iinc_n (d := 1) dL_behind_121 rfl rfl rfl (by decide) rfl ?_
                      refine E_goto (tgt := 6) dL_behind_124 (by decide) ?_
                      first
                        | exact ih (by omega) 3 (by decide) (by rw [← he]; exact (bh_vow hs (by omega) (by unfold cVo; omega)).symm) _
                        | exact ih (by omega) 1 (by decide) (by rw [← he, show s = 0 by omega, bhV_0]; exact (bcE_39 (by omega) (by omega)).symm) _
                        | exact ih (by omega) 2 (by decide) (by rw [← he, show s = 1 by omega]; exact (bh_j (by omega) (by omega)).symm) _
                        | exact ih (by omega) 0 (by decide) (by rw [← he]; exact (bh_con (by omega) (by omega) c_104).symm) _
              · refine E_iconst (v := nI 1) dL_behind_69 (by decide) ?_
                refine E_istore dL_behind_70 (Nat.le_of_ble_eq_true rfl) (by decide) rfl ?_
                refine E_goto (tgt := 121) dL_behind_72 (by decide) ?_
                refine E_iinc_n (d := 1) dL_behind_121 rfl rfl rfl (by decide) rfl ?_
                refine E_goto (tgt := 6) dL_behind_124 (by decide) ?_
                first
                  | exact ih (by omega) 3 (by decide) (by rw [← he]; exact (bh_vow hs (by omega) (by unfold cVo; omega)).symm) _
                  | exact ih (by omega) 1 (by decide) (by rw [← he, show s = 0 by omega, bhV_0]; exact (bcE_39 (by omega) (by omega)).symm) _
                  | exact ih (by omega) 2 (by decide) (by rw [← he, show s = 1 by omega]; exact (bh_j (by omega) (by omega)).symm) _
                  | exact ih (by omega) 0 (by decide) (by rw [← he]; exact (bh_con (by omega) (by omega) c_104).symm) _
          · refine E_iload dL_behind_54 rfl ?_
            refine E_iret dL_behind_56 (Or.inl rfl) ?_
            rw [← he, bh_ret hs (by omega) (by unfold cVo; omega) (by omega) (by omega) (by omega)] at K
            exact K
        · refine E_iconst (v := nI 3) dL_behind_42 (by decide) ?_
          refine E_istore dL_behind_43 (Nat.le_of_ble_eq_true rfl) (by decide) rfl ?_
          refine E_goto (tgt := 121) dL_behind_45 (by decide) ?_
          refine E_iinc_n (d := 1) dL_behind_121 rfl rfl rfl (by decide) rfl ?_
          refine E_goto (tgt := 6) dL_behind_124 (by decide) ?_
          first
            | exact ih (by omega) 3 (by decide) (by rw [← he]; exact (bh_vow hs (by omega) (by unfold cVo; omega)).symm) _
            | exact ih (by omega) 1 (by decide) (by rw [← he, show s = 0 by omega, bhV_0]; exact (bcE_39 (by omega) (by omega)).symm) _
            | exact ih (by omega) 2 (by decide) (by rw [← he, show s = 1 by omega]; exact (bh_j (by omega) (by omega)).symm) _
            | exact ih (by omega) 0 (by decide) (by rw [← he]; exact (bh_con (by omega) (by omega) c_104).symm) _
set_option maxRecDepth 100000 in
set_option maxHeartbeats 4000000 in
theorem sp_L_behind {g : gG} {M : gM} {Q : Option Value ⊕ String → gM → Prop} {c : Cf} (h : zS c M) {a b s0 : Nat} (hab : a ≤ b) (hbt : b ≤ tl c) (hs : s0 < 4) (K : Q (.inl (some (.int (nI (bhV c b s0 a))))) M) : E g 2 0 0 mL_behind 0 [.ref 129, .int (nI a), .int (nI b), .int (nI s0), .null, .null, .null] [] M Q := by
  have hL := h.lay
  have ht10 := h.t10
  refine E_iload_n dL_behind_0 rfl ?_
  refine E_istore dL_behind_1 (Nat.le_of_ble_eq_true rfl) (by decide) rfl ?_
  refine E_iload_n dL_behind_3 rfl ?_
  refine E_istore dL_behind_4 (Nat.le_of_ble_eq_true rfl) (by decide) rfl ?_
  exact lp_L_behind h hbt K a hab s0 hs rfl _
