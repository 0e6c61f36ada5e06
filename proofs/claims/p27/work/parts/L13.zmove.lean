/-! the law: what goes back -/
theorem bdE_rot {B a b e : Nat} {L : List Gl} (h : bdE B L) (h1 : a ≤ b) (h2 : b ≤ e) (h3 : e ≤ L.length) : bdE B (rotL L a b e) := fun k hk => by
  rw [rot_len] at hk
  rw [gat_rot hk]
  exact h _ (by unfold rotS; (repeat' split) <;> omega)
theorem bdE_mv {B i : Nat} {L : List Gl} (h : bdE B L) (hi : i < L.length) : bdE B (mvL L i) := by
  have hb := bcl_b hi
  have hl := led_b hi
  have hk := kil_b hi
  unfold mvL
  by_cases e : kil L i = 0
  · rw [cI_t e]; exact h
  · rw [cI_f e]
    have := hk.2 (by omega)
    exact bdE_rot h hl.1 (by omega) (by omega)
set_option maxRecDepth 100000 in
set_option maxHeartbeats 4000000 in
theorem mv_L_move {g : gG} {Q : Option Value ⊕ String → gM → Prop} {c : Cf} {f : Nat} {M0 : gM} {pw : Nat} {L : List Gl} {z : Int32} {i q : Nat} (hi : i < L.length) (hq : kil L i = q + 1) (K : ∀ M v3 v4 v5 v6 v7 v8, lX c f M0 pw (mvL L i) (-1) z M → E g 2 0 0 mL_move 2 [.ref (pw + 1), .ref 133, .int (nI (bcl L i)), v3, v4, v5, v6, v7, v8] [] M Q) : ∀ k, k ≤ led L i - i → 0 ≤ k → ∀ M v7 v8, lX c f M0 pw (rotL L i (i + k) (q + 1)) (-1) z M → E g 2 0 0 mL_move 197 [.ref (pw + 1), .ref 133, .int (nI i), .int (nI (bcl L i)), .int (nI (led L i - i)), .int (nI q), .int (nI k), v7, v8] [] M Q := by
  refine lpUp (led L i - i) (fun k hk ih => ?_)
  intro _ M v7 v8 h
  have hb := bcl_b hi
  have hl := led_b hi
  have hkl := kil_b hi
  have hk2 := hkl.2 (by omega)
  have hr := rot_len L i (i + k) (q + 1)
  have hmv : mvL L i = rotL L i (led L i) (q + 1) := by unfold mvL; rw [cI_f (by omega), hq]
  have hL := h.lay
  have hn := h.len
  have ht10 := h.S.t10
  refine E_iload dL_move_197 rfl ?_
  refine E_iload dL_move_199 rfl ?_
  refine E_icmp_ge_n (tgt := 228) dL_move_201 (by decide) (by omega) (by omega) (fun c_201 => ?_) (fun c_201 => ?_)
  · obtain rfl : k = led L i - i := by omega
    rw [show i + (led L i - i) = led L i by omega, ← hmv] at h
    refine E_iload_n dL_move_228 rfl ?_
    refine E_istore_n dL_move_229 (Nat.le_of_ble_eq_true rfl) (by decide) rfl ?_
    refine E_goto (tgt := 2) dL_move_230 (by decide) ?_
    exact K M _ _ _ _ _ _ h
  · refine E_iload dL_move_204 rfl ?_
    refine E_if_lt_n (tgt := 228) dL_move_206 (by decide) (by omega) ?_
    have hok := h.ok (i := i) (by omega)
    refine E_aload_n dL_move_209 rfl ?_
    refine E_aload_n dL_move_210 rfl ?_
    refine E_iload dL_move_211 rfl ?_
    refine E_aload_n dL_move_213 rfl ?_
    refine E_aload_n dL_move_214 rfl ?_
    refine E_iload_n dL_move_215 rfl ?_
    refine E_callT3 (fr' := 1) (k1 := 0) (n1 := 0) (k2 := 0) (n2 := 0) dL_move_216 kO_L_take kL_L_153 (by exact Nat.le_of_ble_eq_true rfl) (by decide) (by exact Nat.le_of_ble_eq_true rfl) (Or.inl rfl) rfl ?_
    refine sp_L_take h (by omega) (fun M h => ?_)
    rw [wTa_m (by omega)] at h
    have hL := h.lay
    have hln := clo_len (rotL L i (i + k) (q + 1)) i
    refine gKv ?_
    refine E_callT4 (fr' := 1) (k1 := 0) (n1 := 0) (k2 := 0) (n2 := 0) dL_move_219 kO_L_put kL_L_136 (by exact Nat.le_of_ble_eq_true rfl) (by decide) (by exact Nat.le_of_ble_eq_true rfl) (Or.inl rfl) rfl ?_
    refine sp_L_put h (by omega) (by omega) hok (fun M h => ?_)
    rw [wPt_m (by omega), ins_rot2 (by omega) (by omega), rot_step (by omega) (by omega)] at h
    have hL := h.lay
    refine gKn ?_
    refine E_iinc_n (d := 1) dL_move_222 rfl rfl rfl (by decide) rfl ?_
    refine E_goto (tgt := 197) dL_move_225 (by decide) ?_
    exact ih (by omega) (Nat.zero_le _) M _ _ (by rw [show i + (k + 1) = i + k + 1 by omega]; exact h)
set_option maxRecDepth 100000 in
set_option maxHeartbeats 4000000 in
theorem is_L_move {g : gG} {M : gM} {Q : Option Value ⊕ String → gM → Prop} {c : Cf} {f : Nat} {M0 : gM} {pw : Nat} {L : List Gl} {z : Int32} (h : lX c f M0 pw L (-1) z M) {i : Nat} (hi : i < L.length) {k : Nat} {x5 : Value} (hk : k < bcl L i) (K : ∀ v8, E g 2 0 0 mL_move 179 [.ref (pw + 1), .ref 133, .int (nI i), .int (nI (bcl L i)), .int (nI (led L i - i)), x5, .int (nI k), .int (b2i (∃ y, k < y ∧ y < bcl L i ∧ beh (gat L y))), v8] [] M Q) : ∀ j, j ≤ bcl L i → k + 1 ≤ j → E g 2 0 0 mL_move 122 [.ref (pw + 1), .ref 133, .int (nI i), .int (nI (bcl L i)), .int (nI (led L i - i)), x5, .int (nI k), .int (b2i (∃ y, k < y ∧ y < j ∧ beh (gat L y))), .int (nI j)] [] M Q := by
  refine lpUp (bcl L i) (fun j hj ih => ?_)
  intro hkj
  have hb := bcl_b hi
  have hL := h.lay
  have hn := h.len
  have ht10 := h.S.t10
  refine E_iload dL_move_122 rfl ?_
  refine E_iload_n dL_move_124 rfl ?_
  refine E_icmp_ge_n (tgt := 179) dL_move_125 (by decide) (by omega) (by omega) (fun c_125 => ?_) (fun c_125 => ?_)
  · obtain rfl : j = bcl L i := by omega
    exact K _
  · have hgl := (h.ok (i := j) (by omega)).b
    obtain ⟨o1, o2⟩ := b2i_ior (∃ y, k < y ∧ y < j ∧ beh (gat L y))
    have cg : b2i (∃ y, k < y ∧ y < (j + 1) ∧ beh (gat L y)) = @ite _ (beh (gat L j)) (Classical.propDecidable _) (nI 1) (b2i (∃ y, k < y ∧ y < j ∧ beh (gat L y))) := by
      by_cases hbj : beh (gat L j)
      · rw [if_pos hbj]; exact b2i_t ⟨j, by omega, by omega, hbj⟩
      · rw [if_neg hbj]
        refine b2i_congr ⟨fun ⟨q, q1, q2, q3⟩ => ⟨q, q1, ?_, q3⟩, fun ⟨q, q1, q2, q3⟩ => ⟨q, q1, by omega, q3⟩⟩
        by_cases e : q = j
        · rw [e] at q3; exact absurd q3 hbj
        · omega
    have ih := ih (by omega) (by omega)
    rw [cg] at ih
    refine E_iload dL_move_128 rfl ?_
    refine E_aload_n dL_move_130 rfl ?_
    refine E_iload dL_move_131 rfl ?_
    refine E_laldL (v := pk _) dL_move_133 h.plt h.pkd rfl (by omega) (by decide) (h.wk (by omega)) ?_
    refine E_bipush (v := nI 53) dL_move_134 (by decide) ?_
    refine E_sipush (v := nI 255) dL_move_136 (by decide) ?_
    refine E_callT3 (fr' := 1) (k1 := 0) (n1 := 0) (k2 := 0) (n2 := 0) dL_move_139 kO_L_part kL_L_116 (by exact Nat.le_of_ble_eq_true rfl) (by decide) (by exact Nat.le_of_ble_eq_true rfl) (Or.inl rfl) rfl ?_
    refine sp_L_part_O (h.ok (by omega)) ?_
    refine gKv ?_
    refine E_callT1 (fr' := 1) (k1 := 0) (n1 := 0) (k2 := 0) (n2 := 0) dL_move_142 kO_L_consonant kL_L_178 (by exact Nat.le_of_ble_eq_true rfl) (by decide) (by exact Nat.le_of_ble_eq_true rfl) (Or.inl rfl) rfl ?_
    refine sp_L_consonant (by omega) ?_
    refine gKv ?_
    refine E_if_ne_b (tgt := 165) dL_move_145 (by decide) (fun c_145 => ?_) (fun c_145 => ?_)
    · refine E_iconst (v := nI 1) dL_move_165 (by decide) ?_
      refine E_goto (tgt := 170) dL_move_166 (by decide) ?_
      refine E_ior dL_move_170 ?_
      first
        | rw [o1]
        | rw [o2]
      refine E_istore dL_move_171 (Nat.le_of_ble_eq_true rfl) (by decide) rfl ?_
      refine E_iinc_n (d := 1) dL_move_173 rfl rfl rfl (by decide) rfl ?_
      refine E_goto (tgt := 122) dL_move_176 (by decide) ?_
      first
        | (rw [if_pos (show beh (gat L j) from Or.inl c_145)] at ih; exact ih)
        | (rw [if_pos (show beh (gat L j) from Or.inr (by omega))] at ih; exact ih)
        | (rw [if_neg (show ¬ beh (gat L j) from fun z => z.elim c_145 (fun z => by omega))] at ih; exact ih)
    · refine E_aload_n dL_move_148 rfl ?_
      refine E_iload dL_move_149 rfl ?_
      refine E_laldL (v := pk _) dL_move_151 h.plt h.pkd rfl (by omega) (by decide) (h.wk (by omega)) ?_
      refine E_bipush (v := nI 53) dL_move_152 (by decide) ?_
      refine E_sipush (v := nI 255) dL_move_154 (by decide) ?_
      refine E_callT3 (fr' := 1) (k1 := 0) (n1 := 0) (k2 := 0) (n2 := 0) dL_move_157 kO_L_part kL_L_116 (by exact Nat.le_of_ble_eq_true rfl) (by decide) (by exact Nat.le_of_ble_eq_true rfl) (Or.inl rfl) rfl ?_
      refine sp_L_part_O (h.ok (by omega)) ?_
      refine gKv ?_
      refine E_bipush (v := nI 64) dL_move_160 (by decide) ?_
      refine E_icmp_ne_n (tgt := 169) dL_move_162 (by decide) (by omega) (by omega) (fun c_162 => ?_) (fun c_162 => ?_)
      · refine E_iconst (v := nI 0) dL_move_169 (by decide) ?_
        refine E_ior dL_move_170 ?_
        first
          | rw [o1]
          | rw [o2]
        refine E_istore dL_move_171 (Nat.le_of_ble_eq_true rfl) (by decide) rfl ?_
        refine E_iinc_n (d := 1) dL_move_173 rfl rfl rfl (by decide) rfl ?_
        refine E_goto (tgt := 122) dL_move_176 (by decide) ?_
        first
          | (rw [if_pos (show beh (gat L j) from Or.inl c_145)] at ih; exact ih)
          | (rw [if_pos (show beh (gat L j) from Or.inr (by omega))] at ih; exact ih)
          | (rw [if_neg (show ¬ beh (gat L j) from fun z => z.elim c_145 (fun z => by omega))] at ih; exact ih)
      · refine E_iconst (v := nI 1) dL_move_165 (by decide) ?_
        refine E_goto (tgt := 170) dL_move_166 (by decide) ?_
        refine E_ior dL_move_170 ?_
        first
          | rw [o1]
          | rw [o2]
        refine E_istore dL_move_171 (Nat.le_of_ble_eq_true rfl) (by decide) rfl ?_
        refine E_iinc_n (d := 1) dL_move_173 rfl rfl rfl (by decide) rfl ?_
        refine E_goto (tgt := 122) dL_move_176 (by decide) ?_
        first
          | (rw [if_pos (show beh (gat L j) from Or.inl c_145)] at ih; exact ih)
          | (rw [if_pos (show beh (gat L j) from Or.inr (by omega))] at ih; exact ih)
          | (rw [if_neg (show ¬ beh (gat L j) from fun z => z.elim c_145 (fun z => by omega))] at ih; exact ih)
set_option maxRecDepth 100000 in
set_option maxHeartbeats 4000000 in
theorem ki_L_move {g : gG} {M : gM} {Q : Option Value ⊕ String → gM → Prop} {c : Cf} {f : Nat} {M0 : gM} {pw : Nat} {L : List Gl} {z : Int32} (h : lX c f M0 pw L (-1) z M) {i : Nat} (hi : i < L.length) (K : ∀ M v3 v4 v5 v6 v7 v8, lX c f M0 pw (mvL L i) (-1) z M → E g 2 0 0 mL_move 2 [.ref (pw + 1), .ref 133, .int (nI (bcl L i)), v3, v4, v5, v6, v7, v8] [] M Q) : ∀ k, k ≤ bcl L i → led L i ≤ k → ∀ v7 v8, E g 2 0 0 mL_move 92 [.ref (pw + 1), .ref 133, .int (nI i), .int (nI (bcl L i)), .int (nI (led L i - i)), .int (dI (rfd (kilP L i) k)), .int (nI k), v7, v8] [] M Q := by
  refine lpUp (bcl L i) (fun k hk ih => ?_)
  intro hlk v7 v8
  have hb := bcl_b hi
  have hl := led_b hi
  have hkl := kil_b hi
  have hL := h.lay
  have hn := h.len
  have ht10 := h.S.t10
  have hrl := rfd_le (P := kilP L i) k
  have nxt : ∀ q, q = rfd (kilP L i) (k + 1) → k < bcl L i → ∀ v7 v8, E g 2 0 0 mL_move 188 [.ref (pw + 1), .ref 133, .int (nI i), .int (nI (bcl L i)), .int (nI (led L i - i)), .int (dI q), .int (nI k), v7, v8] [] M Q := by
    intro q e hk2 v7 v8
    rw [e]
    refine E_iinc_n (d := 1) dL_move_188 rfl rfl rfl (by decide) rfl ?_
    refine E_goto (tgt := 92) dL_move_191 (by decide) ?_
    exact ih hk2 (by omega) _ _
  refine E_iload dL_move_92 rfl ?_
  refine E_iload_n dL_move_94 rfl ?_
  refine E_icmp_ge_n (tgt := 194) dL_move_95 (by decide) (by omega) (by omega) (fun c_95 => ?_) (fun c_95 => ?_)
  · obtain rfl : k = bcl L i := by omega
    have hkk : kil L i = rfd (kilP L i) (bcl L i) := rfl
    rw [← hkk]
    by_cases hz : kil L i = 0
    · have hmv : mvL L i = L := cI_t hz
      rw [hmv] at K
      rw [hz]
      refine E_iconst (v := nI 0) dL_move_194 (by decide) ?_
      refine E_istore dL_move_195 (Nat.le_of_ble_eq_true rfl) (by decide) rfl ?_
      refine E_iload dL_move_197 rfl ?_
      refine E_iload dL_move_199 rfl ?_
      refine E_icmp_ge_n (tgt := 228) dL_move_201 (by decide) (by omega) (by omega) (fun c_201 => ?_) (fun c_201 => ?_)
      · refine E_iload_n dL_move_228 rfl ?_
        refine E_istore_n dL_move_229 (Nat.le_of_ble_eq_true rfl) (by decide) rfl ?_
        refine E_goto (tgt := 2) dL_move_230 (by decide) ?_
        exact K M _ _ _ _ _ _ h
      · refine E_iload dL_move_204 rfl ?_
        refine E_if_lt_d (tgt := 228) dL_move_206 (by decide) (by omega) (fun c_206 => ?_) (fun c_206 => ?_)
        · refine E_iload_n dL_move_228 rfl ?_
          refine E_istore_n dL_move_229 (Nat.le_of_ble_eq_true rfl) (by decide) rfl ?_
          refine E_goto (tgt := 2) dL_move_230 (by decide) ?_
          exact K M _ _ _ _ _ _ h
        · exfalso; omega
    · obtain ⟨q, hq⟩ : ∃ q, kil L i = q + 1 := ⟨kil L i - 1, by omega⟩
      have hk2 := hkl.2 (by omega)
      rw [hq, dI_succ]
      refine E_iconst (v := nI 0) dL_move_194 (by decide) ?_
      refine E_istore dL_move_195 (Nat.le_of_ble_eq_true rfl) (by decide) rfl ?_
      exact mv_L_move hi hq K 0 (Nat.zero_le _) (Nat.le_refl _) M _ _ (by rw [Nat.add_zero, show rotL L i i (q + 1) = L from row_ext (rot_len _ _ _ _) (fun j hj => by rw [rot_len] at hj; rw [gat_rot hj]; congr 1; unfold rotS; (repeat' split) <;> omega)]; exact h)
  · have hgl := (h.ok (i := k) (by omega)).b.1
    refine E_aload_n dL_move_98 rfl ?_
    refine E_iload dL_move_99 rfl ?_
    refine E_laldL (v := pk _) dL_move_101 h.plt h.pkd rfl (by omega) (by decide) (h.wk (by omega)) ?_
    refine E_callT1 (fr' := 1) (k1 := 0) (n1 := 0) (k2 := 0) (n2 := 0) dL_move_102 kO_L_glyphOf kL_L_108 (by exact Nat.le_of_ble_eq_true rfl) (by decide) (by exact Nat.le_of_ble_eq_true rfl) (Or.inl rfl) rfl ?_
    refine sp_L_glyphOf (h.ok (by omega)) ?_
    refine gKv ?_
    refine E_bipush (v := nI 39) dL_move_105 (by decide) ?_
    refine E_icmp_eq_n (tgt := 113) dL_move_107 (by decide) (by omega) (by omega) (fun c_107 => ?_) (fun c_107 => ?_)
    · refine E_iconst (v := nI 0) dL_move_113 (by decide) ?_
      refine E_istore dL_move_114 (Nat.le_of_ble_eq_true rfl) (by decide) rfl ?_
      refine E_iload dL_move_116 rfl ?_
      refine E_iconst (v := nI 1) dL_move_118 (by decide) ?_
      refine E_iadd_n dL_move_119 ?_
      refine E_istore dL_move_120 (Nat.le_of_ble_eq_true rfl) (by decide) rfl ?_
      have e0 : (∃ y, k < y ∧ y < (k + 1) ∧ beh (gat L y)) ↔ False := ⟨fun ⟨j, j1, j2, _⟩ => by omega, False.elim⟩
      rw [show nI 0 = b2i (∃ y, k < y ∧ y < (k + 1) ∧ beh (gat L y)) from (b2i_f (fun z => e0.mp z)).symm]
      refine is_L_move h hi (by omega) (fun v8 => ?_) (k + 1) (by omega) (Nat.le_refl _)
      refine E_iload dL_move_179 rfl ?_
      refine E_if_eq_b (tgt := 188) dL_move_181 (by decide) (fun c_181 => ?_) (fun c_181 => ?_)
      · first
          | exact nxt _ (rfd_f (fun z => c_181 z.2.2)).symm (by omega) _ _
          | (have z := nxt (k + 1) (rfd_t (P := kilP L i) ⟨hlk, by omega, c_181⟩).symm (by omega)
             rw [dI_succ] at z
             exact z _ _)
      · refine E_iload dL_move_184 rfl ?_
        refine E_istore dL_move_186 (Nat.le_of_ble_eq_true rfl) (by decide) rfl ?_
        first
          | exact nxt _ (rfd_f (fun z => c_181 z.2.2)).symm (by omega) _ _
          | (have z := nxt (k + 1) (rfd_t (P := kilP L i) ⟨hlk, by omega, c_181⟩).symm (by omega)
             rw [dI_succ] at z
             exact z _ _)
    · refine E_goto (tgt := 188) dL_move_110 (by decide) ?_
      exact nxt _ (rfd_f (fun z => by have := z.2.1; omega)).symm (by omega) _ _
set_option maxRecDepth 100000 in
set_option maxHeartbeats 4000000 in
theorem le_L_move {g : gG} {M : gM} {Q : Option Value ⊕ String → gM → Prop} {c : Cf} {f : Nat} {M0 : gM} {pw : Nat} {L : List Gl} {z : Int32} (h : lX c f M0 pw L (-1) z M) {i : Nat} (hi : i < L.length) (K : ∀ M v3 v4 v5 v6 v7 v8, lX c f M0 pw (mvL L i) (-1) z M → E g 2 0 0 mL_move 2 [.ref (pw + 1), .ref 133, .int (nI (bcl L i)), v3, v4, v5, v6, v7, v8] [] M Q) : ∀ k, k ≤ bcl L i → i ≤ k → fnd (fun k => ¬ yO (gat L k) = 40) (bcl L i) k = led L i → ∀ v5 v6 v7 v8, E g 2 0 0 mL_move 50 [.ref (pw + 1), .ref 133, .int (nI i), .int (nI (bcl L i)), .int (nI (k - i)), v5, v6, v7, v8] [] M Q := by
  refine lpUp (bcl L i) (fun k hk ih => ?_)
  intro hik he v5 v6 v7 v8
  have hb := bcl_b hi
  have hL := h.lay
  have hn := h.len
  have ht10 := h.S.t10
  refine E_iload_n dL_move_50 rfl ?_
  refine E_iload dL_move_51 rfl ?_
  refine E_iadd_n dL_move_53 ?_
  refine E_iload_n dL_move_54 rfl ?_
  refine E_icmp_ge_n (tgt := 83) dL_move_55 (by decide) (by omega) (by omega) (fun c_55 => ?_) (fun c_55 => ?_)
  · have ek : k = led L i := by rw [← he]; first | exact (fnd_hit (P := fun k => ¬ yO (gat L k) = 40) (by omega) (by omega)).symm | (rw [show k = bcl L i by omega]; exact (fnd_end (Nat.le_refl _)).symm)
    rw [ek]
    have hl := led_b hi
    have e0 : rfd (kilP L i) (led L i) = 0 := rfd_eq (Nat.zero_le _) (fun j q => by omega) (fun j _ q z => by have := z.1; omega)
    refine E_iconst (v := -1) dL_move_83 (by decide) ?_
    refine E_istore dL_move_84 (Nat.le_of_ble_eq_true rfl) (by decide) rfl ?_
    refine E_iload_n dL_move_86 rfl ?_
    refine E_iload dL_move_87 rfl ?_
    refine E_iadd_n dL_move_89 ?_
    refine E_istore dL_move_90 (Nat.le_of_ble_eq_true rfl) (by decide) rfl ?_
    rw [show i + (led L i - i) = led L i by omega]
    have z := ki_L_move h hi K (led L i) hl.2 (Nat.le_refl _)
    rw [e0, dI_0] at z
    exact z _ _
  · have hgl := (h.ok (i := k) (by omega)).b
    refine E_aload_n dL_move_58 rfl ?_
    refine E_iload_n dL_move_59 rfl ?_
    refine E_iload dL_move_60 rfl ?_
    refine E_iadd_n dL_move_62 ?_
    rw [show i + (k - i) = k by omega]
    refine E_laldL (v := pk _) dL_move_63 h.plt h.pkd rfl (by omega) (by decide) (h.wk (by omega)) ?_
    refine E_bipush (v := nI 53) dL_move_64 (by decide) ?_
    refine E_sipush (v := nI 255) dL_move_66 (by decide) ?_
    refine E_callT3 (fr' := 1) (k1 := 0) (n1 := 0) (k2 := 0) (n2 := 0) dL_move_69 kO_L_part kL_L_116 (by exact Nat.le_of_ble_eq_true rfl) (by decide) (by exact Nat.le_of_ble_eq_true rfl) (Or.inl rfl) rfl ?_
    refine sp_L_part_O (h.ok (by omega)) ?_
    refine gKv ?_
    refine E_bipush (v := nI 40) dL_move_72 (by decide) ?_
    refine E_icmp_ne_n (tgt := 83) dL_move_74 (by decide) (by omega) (by omega) (fun c_74 => ?_) (fun c_74 => ?_)
    · have ek : k = led L i := by rw [← he]; first | exact (fnd_hit (P := fun k => ¬ yO (gat L k) = 40) (by omega) (by omega)).symm | (rw [show k = bcl L i by omega]; exact (fnd_end (Nat.le_refl _)).symm)
      rw [ek]
      have hl := led_b hi
      have e0 : rfd (kilP L i) (led L i) = 0 := rfd_eq (Nat.zero_le _) (fun j q => by omega) (fun j _ q z => by have := z.1; omega)
      refine E_iconst (v := -1) dL_move_83 (by decide) ?_
      refine E_istore dL_move_84 (Nat.le_of_ble_eq_true rfl) (by decide) rfl ?_
      refine E_iload_n dL_move_86 rfl ?_
      refine E_iload dL_move_87 rfl ?_
      refine E_iadd_n dL_move_89 ?_
      refine E_istore dL_move_90 (Nat.le_of_ble_eq_true rfl) (by decide) rfl ?_
      rw [show i + (led L i - i) = led L i by omega]
      have z := ki_L_move h hi K (led L i) hl.2 (Nat.le_refl _)
      rw [e0, dI_0] at z
      exact z _ _
    · refine E_iinc_n (d := 1) dL_move_77 rfl rfl rfl (by decide) rfl ?_
      refine E_goto (tgt := 50) dL_move_80 (by decide) ?_
      rw [show k - i + 1 = k + 1 - i by omega]
      exact ih (by omega) (by omega) (by rw [← he]; exact (fnd_skip (P := fun k => ¬ yO (gat L k) = 40) (by omega) (fun q => q (by omega))).symm) _ _ _ _
set_option maxRecDepth 100000 in
set_option maxHeartbeats 4000000 in
theorem bc_L_move {g : gG} {M : gM} {Q : Option Value ⊕ String → gM → Prop} {c : Cf} {f : Nat} {M0 : gM} {pw : Nat} {L : List Gl} {z : Int32} (h : lX c f M0 pw L (-1) z M) {i : Nat} (hi : i < L.length) (K : ∀ M v3 v4 v5 v6 v7 v8, lX c f M0 pw (mvL L i) (-1) z M → E g 2 0 0 mL_move 2 [.ref (pw + 1), .ref 133, .int (nI (bcl L i)), v3, v4, v5, v6, v7, v8] [] M Q) : ∀ k, k ≤ L.length → i ≤ k → fnd (fun k => ¬ yC (gat L k) = yC (gat L i)) L.length k = bcl L i → ∀ v4 v5 v6 v7 v8, E g 2 0 0 mL_move 11 [.ref (pw + 1), .ref 133, .int (nI i), .int (nI k), v4, v5, v6, v7, v8] [] M Q := by
  refine lpUp L.length (fun k hk ih => ?_)
  intro hik he v4 v5 v6 v7 v8
  have hL := h.lay
  have hn := h.len
  have ht10 := h.S.t10
  have hgi := (h.ok (i := i) (by omega)).b
  refine E_iload_n dL_move_11 rfl ?_
  refine E_aload_n dL_move_12 rfl ?_
  refine E_iconst (v := nI 5) dL_move_13 (by decide) ?_
  refine E_ialdL (v := nI (List.length _)) dL_move_14 (l_132 hL) (k_132 hL) rfl (by omega) (by decide) h.a5 ?_
  refine E_icmp_ge_n (tgt := 47) dL_move_15 (by decide) (by omega) (by omega) (fun c_15 => ?_) (fun c_15 => ?_)
  · have ek : k = bcl L i := by rw [← he]; first | exact (fnd_hit (P := fun k => ¬ yC (gat L k) = yC (gat L i)) (by omega) (by omega)).symm | (rw [show k = L.length by omega]; exact (fnd_end (Nat.le_refl _)).symm)
    rw [ek]
    have hb := bcl_b hi
    refine E_iconst (v := nI 0) dL_move_47 (by decide) ?_
    refine E_istore dL_move_48 (Nat.le_of_ble_eq_true rfl) (by decide) rfl ?_
    have z := le_L_move h hi K i (by omega) (Nat.le_refl _) rfl
    rw [Nat.sub_self] at z
    exact z _ _ _ _
  · have hgl := (h.ok (i := k) (by omega)).b
    refine E_aload_n dL_move_18 rfl ?_
    refine E_iload_n dL_move_19 rfl ?_
    refine E_laldL (v := pk _) dL_move_20 h.plt h.pkd rfl (by omega) (by decide) (h.wk (by omega)) ?_
    refine E_bipush (v := nI 8) dL_move_21 (by decide) ?_
    refine E_bipush (v := nI 15) dL_move_23 (by decide) ?_
    refine E_callT3 (fr' := 1) (k1 := 0) (n1 := 0) (k2 := 0) (n2 := 0) dL_move_25 kO_L_part kL_L_116 (by exact Nat.le_of_ble_eq_true rfl) (by decide) (by exact Nat.le_of_ble_eq_true rfl) (Or.inl rfl) rfl ?_
    refine sp_L_part_C (h.ok (by omega)) ?_
    refine gKv ?_
    refine E_aload_n dL_move_28 rfl ?_
    refine E_iload_n dL_move_29 rfl ?_
    refine E_laldL (v := pk _) dL_move_30 h.plt h.pkd rfl (by omega) (by decide) (h.wk (by omega)) ?_
    refine E_bipush (v := nI 8) dL_move_31 (by decide) ?_
    refine E_bipush (v := nI 15) dL_move_33 (by decide) ?_
    refine E_callT3 (fr' := 1) (k1 := 0) (n1 := 0) (k2 := 0) (n2 := 0) dL_move_35 kO_L_part kL_L_116 (by exact Nat.le_of_ble_eq_true rfl) (by decide) (by exact Nat.le_of_ble_eq_true rfl) (Or.inl rfl) rfl ?_
    refine sp_L_part_C (h.ok (by omega)) ?_
    refine gKv ?_
    refine E_icmp_ne_n (tgt := 47) dL_move_38 (by decide) (by omega) (by omega) (fun c_38 => ?_) (fun c_38 => ?_)
    · have ek : k = bcl L i := by rw [← he]; first | exact (fnd_hit (P := fun k => ¬ yC (gat L k) = yC (gat L i)) (by omega) (by omega)).symm | (rw [show k = L.length by omega]; exact (fnd_end (Nat.le_refl _)).symm)
      rw [ek]
      have hb := bcl_b hi
      refine E_iconst (v := nI 0) dL_move_47 (by decide) ?_
      refine E_istore dL_move_48 (Nat.le_of_ble_eq_true rfl) (by decide) rfl ?_
      have z := le_L_move h hi K i (by omega) (Nat.le_refl _) rfl
      rw [Nat.sub_self] at z
      exact z _ _ _ _
    · refine E_iinc_n (d := 1) dL_move_41 rfl rfl rfl (by decide) rfl ?_
      refine E_goto (tgt := 11) dL_move_44 (by decide) ?_
      exact ih (by omega) (by omega) (by rw [← he]; exact (fnd_skip (P := fun k => ¬ yC (gat L k) = yC (gat L i)) (by omega) (fun q => q (by omega))).symm) _ _ _ _ _
set_option maxRecDepth 100000 in
set_option maxHeartbeats 4000000 in
theorem lp_L_move {g : gG} {Q : Option Value ⊕ String → gM → Prop} {c : Cf} {f : Nat} {M0 : gM} {pw : Nat} {z : Int32} {B : Nat} : ∀ t (i : Nat) (L : List Gl) (M : gM), lX c f M0 pw L (-1) z M → L.length - i ≤ t → i ≤ L.length → bdE B L → (∀ M, lX c f M0 pw (mvs t i L) (-1) z M → bdE B (mvs t i L) → Q (.inl none) M) → ∀ v3 v4 v5 v6 v7 v8, E g 2 0 0 mL_move 2 [.ref (pw + 1), .ref 133, .int (nI i), v3, v4, v5, v6, v7, v8] [] M Q := by
  intro t
  induction t with
  | zero =>
    intro i L M h ht hi hb K v3 v4 v5 v6 v7 v8
    have hL := h.lay
    have hn := h.len
    have ht10 := h.S.t10
    refine E_iload_n dL_move_2 rfl ?_
    refine E_aload_n dL_move_3 rfl ?_
    refine E_iconst (v := nI 5) dL_move_4 (by decide) ?_
    refine E_ialdL (v := nI (List.length _)) dL_move_5 (l_132 hL) (k_132 hL) rfl (by omega) (by decide) h.a5 ?_
    refine E_icmp_ge_n (tgt := 233) dL_move_6 (by decide) (by omega) (by omega) (fun c_6 => ?_) (fun c_6 => ?_)
    · refine E_vret dL_move_233 rfl ?_
      exact K M h hb
    · exfalso; omega
  | succ t ih =>
    intro i L M h ht hi hb K v3 v4 v5 v6 v7 v8
    have hL := h.lay
    have hn := h.len
    have ht10 := h.S.t10
    refine E_iload_n dL_move_2 rfl ?_
    refine E_aload_n dL_move_3 rfl ?_
    refine E_iconst (v := nI 5) dL_move_4 (by decide) ?_
    refine E_ialdL (v := nI (List.length _)) dL_move_5 (l_132 hL) (k_132 hL) rfl (by omega) (by decide) h.a5 ?_
    refine E_icmp_ge_n (tgt := 233) dL_move_6 (by decide) (by omega) (by omega) (fun c_6 => ?_) (fun c_6 => ?_)
    · refine E_vret dL_move_233 rfl ?_
      have e : mvs (t + 1) i L = L := cI_f (by omega)
      rw [e] at K
      exact K M h hb
    · have hil : i < L.length := by omega
      have e : mvs (t + 1) i L = mvs t (bcl L i) (mvL L i) := cI_t hil
      rw [e] at K
      have hbb := bcl_b hil
      have hml := mvL_len L i
      refine E_iload_n dL_move_9 rfl ?_
      refine E_istore_n dL_move_10 (Nat.le_of_ble_eq_true rfl) (by decide) rfl ?_
      exact bc_L_move h hil (fun M v3 v4 v5 v6 v7 v8 h => ih (bcl L i) _ M h (by omega) (by omega) (bdE_mv hb hil) K _ _ _ _ _ _) i (by omega) (Nat.le_refl _) rfl _ _ _ _ _
set_option maxRecDepth 100000 in
set_option maxHeartbeats 4000000 in
theorem sp_L_move {g : gG} {M : gM} {Q : Option Value ⊕ String → gM → Prop} {c : Cf} {f : Nat} {M0 : gM} {pw : Nat} {L : List Gl} {z : Int32} (h : lX c f M0 pw L (-1) z M) {B : Nat} (hb : bdE B L) (K : ∀ M, lX c f M0 pw (mvs 64 0 L) (-1) z M → bdE B (mvs 64 0 L) → Q (.inl none) M) : E g 2 0 0 mL_move 0 [.ref (pw + 1), .ref 133, .null, .null, .null, .null, .null, .null, .null] [] M Q := by
  have hL := h.lay
  have hn := h.len
  have ht10 := h.S.t10
  refine E_iconst (v := nI 0) dL_move_0 (by decide) ?_
  refine E_istore_n dL_move_1 (Nat.le_of_ble_eq_true rfl) (by decide) rfl ?_
  exact lp_L_move 64 0 L M h (by omega) (Nat.zero_le _) hb K _ _ _ _ _ _
