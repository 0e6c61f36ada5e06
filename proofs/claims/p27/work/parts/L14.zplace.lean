/-! the law: places -/
def zrP (c : Cf) (f l : Nat) (L : List Gl) (one two k : Nat) : Prop := isAt c f (rul c l k 0) (yN (gat L one)) ∧ (cN c 130 l = 6 → isAt c f (rul c l k 1) (yN (gat L two))) ∧ (cN c 130 l = 8 → (rul c l k 1 = -100 ∨ rul c l k 1 = bsT L two one) ∧ rul c l k 2 = dI (mkc c f (gat L two))) ∧ (cN c 130 l = 9 → rul c l k 1 = dI (mkc c f (gat L two)))
noncomputable def zrA (c : Cf) (f l : Nat) (L : List Gl) (one two : Nat) : Nat := fnd (zrP c f l L one two) (cN c 135 l) 0
theorem zrA_6 {c : Cf} {f l : Nat} {L : List Gl} {i : Nat} (h : cN c 130 l = 6) : zrA c f l L i (aft c f l L i) = prA c f l L i := fnd_congr (fun k _ _ => by unfold zrP prP; rw [h]; simp)
theorem zrA_7 {c : Cf} {f l : Nat} {L : List Gl} {i : Nat} (h : cN c 130 l = 7) : zrA c f l L i i = rfA c f l L i := fnd_congr (fun k _ _ => by unfold zrP; rw [h]; simp)
theorem zrA_8 {c : Cf} {f l : Nat} {L : List Gl} {i b : Nat} (h : cN c 130 l = 8) : zrA c f l L b i = bsA c f l L i b := fnd_congr (fun k _ _ => by unfold zrP bsP; rw [h]; simp)
theorem zrA_9 {c : Cf} {f l : Nat} {L : List Gl} {i b : Nat} (h : cN c 130 l = 9) : zrA c f l L b i = mkA c f l L i b := fnd_congr (fun k _ _ => by unfold zrP mkP; rw [h]; simp)
theorem zrT {L : List Gl} {i b : Nat} (hi : okZ (gat L i)) (hb : okZ (gat L b)) : (0 < zP (gat L i) → bsT L i b = dI (zP (gat L i))) ∧ (zP (gat L i) = 0 → bsT L i b = dI (zT (gat L b))) := by
  unfold bsT
  rcases yP_pN hi with ⟨h1, h2⟩ | ⟨h1, h2⟩
  · rw [cI_t h1, yT_tN hb]
    exact ⟨fun q => by omega, fun _ => rfl⟩
  · have hz : zP (gat L i) < 262144 := hi.b.2.2.2.2.1
    rw [cI_f (by rw [h1, show zP (gat L i) = zP (gat L i) - 1 + 1 by omega, dI_succ]; exact nI_ne100 (by omega))]
    exact ⟨fun _ => h1, fun q => by omega⟩
set_option maxRecDepth 100000 in
set_option maxHeartbeats 4000000 in
theorem lp_L_first {g : gG} {M : gM} {Q : Option Value ⊕ String → gM → Prop} {c : Cf} {f : Nat} {M0 : gM} {pw : Nat} {L : List Gl} {w z : Int32} (h : lX c f M0 pw L w z M) {l : Nat} (hl : l < cN c 129 f) {one two : Nat} (h1 : one < L.length) (h2 : two < L.length) (K0 : ¬ zrA c f (12 * f + l) L one two < cN c 135 (12 * f + l) → Q (.inl (some (.int (-1)))) M) (K : zrA c f (12 * f + l) L one two < cN c 135 (12 * f + l) → Q (.inl (some (.int (nI (zrA c f (12 * f + l) L one two))))) M) : ∀ k, k ≤ cN c 135 (12 * f + l) → fnd (zrP c f (12 * f + l) L one two) (cN c 135 (12 * f + l)) k = zrA c f (12 * f + l) L one two → ∀ v10 v11 v12, E g 3 0 0 mL_first 12 [.ref (pw + 1), .ref 131, .ref 130, .ref 132, .ref 133, .int (nI (8 * f + l)), .int (nI one), .int (nI two), .int (nI (cN c 130 (12 * f + l))), .int (nI k), v10, v11, v12] [] M Q := by
  refine lpUp (cN c 135 (12 * f + l)) (fun k hk ih => ?_)
  intro he v10 v11 v12
  have hL := h.lay
  have hf := h.f2
  have hn := h.len
  have hct := h.ct
  have hr4 := h.S.r4 (12 * f + l)
  have hmb := mEn_b h.wf (12 * f + l)
  have ho1 := h.ok h1
  have ho2 := h.ok h2
  have hb1 := ho1.b
  have hb2 := ho2.b
  obtain ⟨t1, t2⟩ := zrT ho2 ho1
  have nxt : ¬ zrP c f (12 * f + l) L one two k → k < cN c 135 (12 * f + l) → ∀ v10 v11 v12, E g 3 0 0 mL_first 223 [.ref (pw + 1), .ref 131, .ref 130, .ref 132, .ref 133, .int (nI (8 * f + l)), .int (nI one), .int (nI two), .int (nI (cN c 130 (12 * f + l))), .int (nI k), v10, v11, v12] [] M Q := by
    intro hc hk2 v10 v11 v12
    refine E_iinc_n (d := 1) dL_first_223 rfl rfl rfl (by decide) rfl ?_
    refine E_goto (tgt := 12) dL_first_226 (by decide) ?_
    exact ih hk2 (by rw [← he]; exact (fnd_skip hk2 hc).symm) _ _ _
  refine E_iload dL_first_12 rfl ?_
  refine E_aload_n dL_first_14 rfl ?_
  refine E_iload dL_first_15 rfl ?_
  refine E_ialdL (v := nI (mEn _ _)) dL_first_17 (l_129 hL) (k_129 hL) rfl (by omega) (by decide) (h.me hl) ?_
  refine E_bipush (v := nI 13) dL_first_18 (by decide) ?_
  refine E_ishr dL_first_20 ?_
  rw [mE_13 h.wf]
  refine E_icmp_ge_n (tgt := 229) dL_first_21 (by decide) (by omega) (by omega) (fun c_21 => ?_) (fun c_21 => ?_)
  · refine E_iconst (v := -1) dL_first_229 (by decide) ?_
    refine E_iret dL_first_230 (Or.inl rfl) ?_
    exact K0 (by rw [← he, fnd_end (by omega)]; omega)
  · refine E_aload_n dL_first_24 rfl ?_
    refine E_aload dL_first_25 rfl ?_
    refine E_bipush (v := nI 6) dL_first_27 (by decide) ?_
    refine E_ialdL (v := nI _) dL_first_29 (l_132 hL) (k_132 hL) rfl (by omega) (by decide) h.a6 ?_
    refine E_aload_n dL_first_30 rfl ?_
    refine E_iload dL_first_31 rfl ?_
    refine E_iload dL_first_33 rfl ?_
    refine E_iconst (v := nI 0) dL_first_35 (by decide) ?_
    refine E_callT4 (fr' := 1) (k1 := 0) (n1 := 0) (k2 := 0) (n2 := 0) dL_first_36 kO_L_number kL_L_124 (by exact Nat.le_of_ble_eq_true rfl) (by decide) (by exact Nat.le_of_ble_eq_true rfl) (Or.inl rfl) rfl ?_
    refine sp_L_number (by first | exact h | exact h.S) hf hl (by omega) (by decide) ?_
    refine gKv ?_
    refine E_aload_n dL_first_39 rfl ?_
    refine E_iload dL_first_40 rfl ?_
    refine E_laldL (v := pk _) dL_first_42 h.plt h.pkd rfl (by omega) (by decide) (h.wk (by omega)) ?_
    refine E_callT1 (fr' := 1) (k1 := 0) (n1 := 0) (k2 := 0) (n2 := 0) dL_first_43 kO_L_glyphOf kL_L_108 (by exact Nat.le_of_ble_eq_true rfl) (by decide) (by exact Nat.le_of_ble_eq_true rfl) (Or.inl rfl) rfl ?_
    refine sp_L_glyphOf (h.ok (by omega)) ?_
    refine gKv ?_
    refine E_callT4 (fr' := 2) (k1 := 0) (n1 := 0) (k2 := 0) (n2 := 0) dL_first_46 kO_L_is kL_L_128 (by exact Nat.le_of_ble_eq_true rfl) (by decide) (by exact Nat.le_of_ble_eq_true rfl) (Or.inl rfl) rfl ?_
    refine sp_L_is (by first | exact h | exact h.S) hf (by first | assumption | exact h.gl (by omega)) ?_
    refine gKv ?_
    refine E_if_ne_b (tgt := 55) dL_first_49 (by decide) (fun c_49 => ?_) (fun c_49 => ?_)
    · refine E_aload_n dL_first_55 rfl ?_
      refine E_iload dL_first_56 rfl ?_
      refine E_iload dL_first_58 rfl ?_
      refine E_iconst (v := nI 1) dL_first_60 (by decide) ?_
      refine E_callT4 (fr' := 1) (k1 := 0) (n1 := 0) (k2 := 0) (n2 := 0) dL_first_61 kO_L_number kL_L_124 (by exact Nat.le_of_ble_eq_true rfl) (by decide) (by exact Nat.le_of_ble_eq_true rfl) (Or.inl rfl) rfl ?_
      refine sp_L_number (by first | exact h | exact h.S) hf hl (by omega) (by decide) ?_
      refine gKv ?_
      refine E_istore dL_first_64 (Nat.le_of_ble_eq_true rfl) (by decide) rfl ?_
      refine E_iload dL_first_66 rfl ?_
      refine E_bipush (v := nI 6) dL_first_68 (by decide) ?_
      refine E_icmp_ne_n (tgt := 97) dL_first_70 (by decide) (by omega) (by omega) (fun c_70 => ?_) (fun c_70 => ?_)
      · refine E_iload dL_first_97 rfl ?_
        refine E_bipush (v := nI 8) dL_first_99 (by decide) ?_
        refine E_icmp_ne_n (tgt := 189) dL_first_101 (by decide) (by omega) (by omega) (fun c_101 => ?_) (fun c_101 => ?_)
        · refine E_iload dL_first_189 rfl ?_
          refine E_bipush (v := nI 9) dL_first_191 (by decide) ?_
          refine E_icmp_ne_n (tgt := 220) dL_first_193 (by decide) (by omega) (by omega) (fun c_193 => ?_) (fun c_193 => ?_)
          · refine E_iload dL_first_220 rfl ?_
            refine E_iret dL_first_222 (Or.inl rfl) ?_
            have hp : zrP c f (12 * f + l) L one two k := by
              refine ⟨c_49, fun z => ?_, fun z => ?_, fun z => ?_⟩
              · first
                  | exact c_91
                  | (exfalso; omega)
              · first
                  | (exfalso; omega)
                  | exact ⟨Or.inl c_148, c_183⟩
                  | exact ⟨Or.inr ((by first | exact c_155 | assumption : rul c (12 * f + l) k 1 = _).trans (t1 c_121).symm), c_183⟩
                  | exact ⟨Or.inr (c_155.trans (t2 c_121).symm), c_183⟩
              · first
                  | exact c_214
                  | (exfalso; omega)
            rw [fnd_hit (P := zrP c f (12 * f + l) L one two) (by omega) hp] at he
            rw [← he] at K
            exact K (by omega)
          · refine E_iload dL_first_196 rfl ?_
            refine E_aload_n dL_first_198 rfl ?_
            refine E_aload dL_first_199 rfl ?_
            refine E_bipush (v := nI 6) dL_first_201 (by decide) ?_
            refine E_ialdL (v := nI _) dL_first_203 (l_132 hL) (k_132 hL) rfl (by omega) (by decide) h.a6 ?_
            refine E_aload_n dL_first_204 rfl ?_
            refine E_iload dL_first_205 rfl ?_
            refine E_laldL (v := pk _) dL_first_207 h.plt h.pkd rfl (by omega) (by decide) (h.wk (by omega)) ?_
            refine E_callT1 (fr' := 1) (k1 := 0) (n1 := 0) (k2 := 0) (n2 := 0) dL_first_208 kO_L_glyphOf kL_L_108 (by exact Nat.le_of_ble_eq_true rfl) (by decide) (by exact Nat.le_of_ble_eq_true rfl) (Or.inl rfl) rfl ?_
            refine sp_L_glyphOf (h.ok (by omega)) ?_
            refine gKv ?_
            refine E_callT3 (fr' := 2) (k1 := 0) (n1 := 0) (k2 := 0) (n2 := 0) dL_first_211 kO_L_mark kL_L_112 (by exact Nat.le_of_ble_eq_true rfl) (by decide) (by exact Nat.le_of_ble_eq_true rfl) (Or.inl rfl) rfl ?_
            refine sp_L_mark (by first | exact h | exact h.S) hf (by first | assumption | exact h.gl (by omega)) ?_
            refine gKv ?_
            refine E_icmp_eq (tgt := 220) dL_first_214 (by decide) (fun c_214 => ?_) (fun c_214 => ?_)
            · refine E_iload dL_first_220 rfl ?_
              refine E_iret dL_first_222 (Or.inl rfl) ?_
              have hp : zrP c f (12 * f + l) L one two k := by
                refine ⟨c_49, fun z => ?_, fun z => ?_, fun z => ?_⟩
                · first
                    | exact c_91
                    | (exfalso; omega)
                · first
                    | (exfalso; omega)
                    | exact ⟨Or.inl c_148, c_183⟩
                    | exact ⟨Or.inr ((by first | exact c_155 | assumption : rul c (12 * f + l) k 1 = _).trans (t1 c_121).symm), c_183⟩
                    | exact ⟨Or.inr (c_155.trans (t2 c_121).symm), c_183⟩
                · first
                    | exact c_214
                    | (exfalso; omega)
              rw [fnd_hit (P := zrP c f (12 * f + l) L one two) (by omega) hp] at he
              rw [← he] at K
              exact K (by omega)
            · refine E_goto (tgt := 223) dL_first_217 (by decide) ?_
              refine nxt (fun q => ?_) (by omega) _ _ _
              obtain ⟨q1, q2, q3, q4⟩ := q
              first
                | exact c_49 q1
                | exact c_91 (q2 c_70)
                | (rcases (q3 c_101).1 with z | z
                   · exact c_148 z
                   · rw [t1 c_121] at z; exact c_155 z)
                | (rcases (q3 c_101).1 with z | z
                   · exact c_148 z
                   · rw [t2 c_121] at z; exact c_155 z)
                | exact c_183 (q3 c_101).2
                | exact c_214 (q4 c_193)
        · refine E_aload_n dL_first_104 rfl ?_
          refine E_iload dL_first_105 rfl ?_
          refine E_laldL (v := pk _) dL_first_107 h.plt h.pkd rfl (by omega) (by decide) (h.wk (by omega)) ?_
          refine E_bipush (v := nI 17) dL_first_108 (by decide) ?_
          refine E_ldc (v := nI 262143) dL_first_110 (gW_at 759 (by decide +kernel) (by decide +kernel)) ?_
          refine E_callT3 (fr' := 1) (k1 := 0) (n1 := 0) (k2 := 0) (n2 := 0) dL_first_112 kO_L_part kL_L_116 (by exact Nat.le_of_ble_eq_true rfl) (by decide) (by exact Nat.le_of_ble_eq_true rfl) (Or.inl rfl) rfl ?_
          refine sp_L_part_P (h.ok (by omega)) ?_
          refine gKv ?_
          refine E_iconst (v := nI 1) dL_first_115 (by decide) ?_
          refine E_isub_d dL_first_116 ?_
          refine E_istore dL_first_117 (Nat.le_of_ble_eq_true rfl) (by decide) rfl ?_
          refine E_iload dL_first_119 rfl ?_
          refine E_if_ge_d (tgt := 140) dL_first_121 (by decide) (by omega) (fun c_121 => ?_) (fun c_121 => ?_)
          · refine E_iload dL_first_140 rfl ?_
            refine E_istore dL_first_142 (Nat.le_of_ble_eq_true rfl) (by decide) rfl ?_
            refine E_iload dL_first_144 rfl ?_
            refine E_bipush (v := -100) dL_first_146 (by decide) ?_
            refine E_icmp_eq (tgt := 158) dL_first_148 (by decide) (fun c_148 => ?_) (fun c_148 => ?_)
            · refine E_aload_n dL_first_158 rfl ?_
              refine E_iload dL_first_159 rfl ?_
              refine E_iload dL_first_161 rfl ?_
              refine E_iconst (v := nI 2) dL_first_163 (by decide) ?_
              refine E_callT4 (fr' := 1) (k1 := 0) (n1 := 0) (k2 := 0) (n2 := 0) dL_first_164 kO_L_number kL_L_124 (by exact Nat.le_of_ble_eq_true rfl) (by decide) (by exact Nat.le_of_ble_eq_true rfl) (Or.inl rfl) rfl ?_
              refine sp_L_number (by first | exact h | exact h.S) hf hl (by omega) (by decide) ?_
              refine gKv ?_
              refine E_aload_n dL_first_167 rfl ?_
              refine E_aload dL_first_168 rfl ?_
              refine E_bipush (v := nI 6) dL_first_170 (by decide) ?_
              refine E_ialdL (v := nI _) dL_first_172 (l_132 hL) (k_132 hL) rfl (by omega) (by decide) h.a6 ?_
              refine E_aload_n dL_first_173 rfl ?_
              refine E_iload dL_first_174 rfl ?_
              refine E_laldL (v := pk _) dL_first_176 h.plt h.pkd rfl (by omega) (by decide) (h.wk (by omega)) ?_
              refine E_callT1 (fr' := 1) (k1 := 0) (n1 := 0) (k2 := 0) (n2 := 0) dL_first_177 kO_L_glyphOf kL_L_108 (by exact Nat.le_of_ble_eq_true rfl) (by decide) (by exact Nat.le_of_ble_eq_true rfl) (Or.inl rfl) rfl ?_
              refine sp_L_glyphOf (h.ok (by omega)) ?_
              refine gKv ?_
              refine E_callT3 (fr' := 2) (k1 := 0) (n1 := 0) (k2 := 0) (n2 := 0) dL_first_180 kO_L_mark kL_L_112 (by exact Nat.le_of_ble_eq_true rfl) (by decide) (by exact Nat.le_of_ble_eq_true rfl) (Or.inl rfl) rfl ?_
              refine sp_L_mark (by first | exact h | exact h.S) hf (by first | assumption | exact h.gl (by omega)) ?_
              refine gKv ?_
              refine E_icmp_eq (tgt := 189) dL_first_183 (by decide) (fun c_183 => ?_) (fun c_183 => ?_)
              · refine E_iload dL_first_189 rfl ?_
                refine E_bipush (v := nI 9) dL_first_191 (by decide) ?_
                refine E_icmp_ne_n (tgt := 220) dL_first_193 (by decide) (by omega) (by omega) (fun c_193 => ?_) (fun c_193 => ?_)
                · refine E_iload dL_first_220 rfl ?_
                  refine E_iret dL_first_222 (Or.inl rfl) ?_
                  have hp : zrP c f (12 * f + l) L one two k := by
                    refine ⟨c_49, fun z => ?_, fun z => ?_, fun z => ?_⟩
                    · first
                        | exact c_91
                        | (exfalso; omega)
                    · first
                        | (exfalso; omega)
                        | exact ⟨Or.inl c_148, c_183⟩
                        | exact ⟨Or.inr ((by first | exact c_155 | assumption : rul c (12 * f + l) k 1 = _).trans (t1 c_121).symm), c_183⟩
                        | exact ⟨Or.inr (c_155.trans (t2 c_121).symm), c_183⟩
                    · first
                        | exact c_214
                        | (exfalso; omega)
                  rw [fnd_hit (P := zrP c f (12 * f + l) L one two) (by omega) hp] at he
                  rw [← he] at K
                  exact K (by omega)
                · refine E_iload dL_first_196 rfl ?_
                  refine E_aload_n dL_first_198 rfl ?_
                  refine E_aload dL_first_199 rfl ?_
                  refine E_bipush (v := nI 6) dL_first_201 (by decide) ?_
                  refine E_ialdL (v := nI _) dL_first_203 (l_132 hL) (k_132 hL) rfl (by omega) (by decide) h.a6 ?_
                  refine E_aload_n dL_first_204 rfl ?_
                  refine E_iload dL_first_205 rfl ?_
                  refine E_laldL (v := pk _) dL_first_207 h.plt h.pkd rfl (by omega) (by decide) (h.wk (by omega)) ?_
                  refine E_callT1 (fr' := 1) (k1 := 0) (n1 := 0) (k2 := 0) (n2 := 0) dL_first_208 kO_L_glyphOf kL_L_108 (by exact Nat.le_of_ble_eq_true rfl) (by decide) (by exact Nat.le_of_ble_eq_true rfl) (Or.inl rfl) rfl ?_
                  refine sp_L_glyphOf (h.ok (by omega)) ?_
                  refine gKv ?_
                  refine E_callT3 (fr' := 2) (k1 := 0) (n1 := 0) (k2 := 0) (n2 := 0) dL_first_211 kO_L_mark kL_L_112 (by exact Nat.le_of_ble_eq_true rfl) (by decide) (by exact Nat.le_of_ble_eq_true rfl) (Or.inl rfl) rfl ?_
                  refine sp_L_mark (by first | exact h | exact h.S) hf (by first | assumption | exact h.gl (by omega)) ?_
                  refine gKv ?_
                  refine E_icmp_eq (tgt := 220) dL_first_214 (by decide) (fun c_214 => ?_) (fun c_214 => ?_)
                  · refine E_iload dL_first_220 rfl ?_
                    refine E_iret dL_first_222 (Or.inl rfl) ?_
                    have hp : zrP c f (12 * f + l) L one two k := by
                      refine ⟨c_49, fun z => ?_, fun z => ?_, fun z => ?_⟩
                      · first
                          | exact c_91
                          | (exfalso; omega)
                      · first
                          | (exfalso; omega)
                          | exact ⟨Or.inl c_148, c_183⟩
                          | exact ⟨Or.inr ((by first | exact c_155 | assumption : rul c (12 * f + l) k 1 = _).trans (t1 c_121).symm), c_183⟩
                          | exact ⟨Or.inr (c_155.trans (t2 c_121).symm), c_183⟩
                      · first
                          | exact c_214
                          | (exfalso; omega)
                    rw [fnd_hit (P := zrP c f (12 * f + l) L one two) (by omega) hp] at he
                    rw [← he] at K
                    exact K (by omega)
                  · refine E_goto (tgt := 223) dL_first_217 (by decide) ?_
                    refine nxt (fun q => ?_) (by omega) _ _ _
                    obtain ⟨q1, q2, q3, q4⟩ := q
                    first
                      | exact c_49 q1
                      | exact c_91 (q2 c_70)
                      | (rcases (q3 c_101).1 with z | z
                         · exact c_148 z
                         · rw [t1 c_121] at z; exact c_155 z)
                      | (rcases (q3 c_101).1 with z | z
                         · exact c_148 z
                         · rw [t2 c_121] at z; exact c_155 z)
                      | exact c_183 (q3 c_101).2
                      | exact c_214 (q4 c_193)
              · refine E_goto (tgt := 223) dL_first_186 (by decide) ?_
                refine nxt (fun q => ?_) (by omega) _ _ _
                obtain ⟨q1, q2, q3, q4⟩ := q
                first
                  | exact c_49 q1
                  | exact c_91 (q2 c_70)
                  | (rcases (q3 c_101).1 with z | z
                     · exact c_148 z
                     · rw [t1 c_121] at z; exact c_155 z)
                  | (rcases (q3 c_101).1 with z | z
                     · exact c_148 z
                     · rw [t2 c_121] at z; exact c_155 z)
                  | exact c_183 (q3 c_101).2
                  | exact c_214 (q4 c_193)
            · refine E_iload dL_first_151 rfl ?_
              refine E_iload dL_first_153 rfl ?_
              refine E_icmp_ne_r (tgt := 223) dL_first_155 (by decide) (fun c_155 => ?_) (fun c_155 => ?_)
              · refine nxt (fun q => ?_) (by omega) _ _ _
                obtain ⟨q1, q2, q3, q4⟩ := q
                first
                  | exact c_49 q1
                  | exact c_91 (q2 c_70)
                  | (rcases (q3 c_101).1 with z | z
                     · exact c_148 z
                     · rw [t1 c_121] at z; exact c_155 z)
                  | (rcases (q3 c_101).1 with z | z
                     · exact c_148 z
                     · rw [t2 c_121] at z; exact c_155 z)
                  | exact c_183 (q3 c_101).2
                  | exact c_214 (q4 c_193)
              · refine E_aload_n dL_first_158 rfl ?_
                refine E_iload dL_first_159 rfl ?_
                refine E_iload dL_first_161 rfl ?_
                refine E_iconst (v := nI 2) dL_first_163 (by decide) ?_
                refine E_callT4 (fr' := 1) (k1 := 0) (n1 := 0) (k2 := 0) (n2 := 0) dL_first_164 kO_L_number kL_L_124 (by exact Nat.le_of_ble_eq_true rfl) (by decide) (by exact Nat.le_of_ble_eq_true rfl) (Or.inl rfl) rfl ?_
                refine sp_L_number (by first | exact h | exact h.S) hf hl (by omega) (by decide) ?_
                refine gKv ?_
                refine E_aload_n dL_first_167 rfl ?_
                refine E_aload dL_first_168 rfl ?_
                refine E_bipush (v := nI 6) dL_first_170 (by decide) ?_
                refine E_ialdL (v := nI _) dL_first_172 (l_132 hL) (k_132 hL) rfl (by omega) (by decide) h.a6 ?_
                refine E_aload_n dL_first_173 rfl ?_
                refine E_iload dL_first_174 rfl ?_
                refine E_laldL (v := pk _) dL_first_176 h.plt h.pkd rfl (by omega) (by decide) (h.wk (by omega)) ?_
                refine E_callT1 (fr' := 1) (k1 := 0) (n1 := 0) (k2 := 0) (n2 := 0) dL_first_177 kO_L_glyphOf kL_L_108 (by exact Nat.le_of_ble_eq_true rfl) (by decide) (by exact Nat.le_of_ble_eq_true rfl) (Or.inl rfl) rfl ?_
                refine sp_L_glyphOf (h.ok (by omega)) ?_
                refine gKv ?_
                refine E_callT3 (fr' := 2) (k1 := 0) (n1 := 0) (k2 := 0) (n2 := 0) dL_first_180 kO_L_mark kL_L_112 (by exact Nat.le_of_ble_eq_true rfl) (by decide) (by exact Nat.le_of_ble_eq_true rfl) (Or.inl rfl) rfl ?_
                refine sp_L_mark (by first | exact h | exact h.S) hf (by first | assumption | exact h.gl (by omega)) ?_
                refine gKv ?_
                refine E_icmp_eq (tgt := 189) dL_first_183 (by decide) (fun c_183 => ?_) (fun c_183 => ?_)
                · refine E_iload dL_first_189 rfl ?_
                  refine E_bipush (v := nI 9) dL_first_191 (by decide) ?_
                  refine E_icmp_ne_n (tgt := 220) dL_first_193 (by decide) (by omega) (by omega) (fun c_193 => ?_) (fun c_193 => ?_)
                  · refine E_iload dL_first_220 rfl ?_
                    refine E_iret dL_first_222 (Or.inl rfl) ?_
                    have hp : zrP c f (12 * f + l) L one two k := by
                      refine ⟨c_49, fun z => ?_, fun z => ?_, fun z => ?_⟩
                      · first
                          | exact c_91
                          | (exfalso; omega)
                      · first
                          | (exfalso; omega)
                          | exact ⟨Or.inl c_148, c_183⟩
                          | exact ⟨Or.inr ((by first | exact c_155 | assumption : rul c (12 * f + l) k 1 = _).trans (t1 c_121).symm), c_183⟩
                          | exact ⟨Or.inr (c_155.trans (t2 c_121).symm), c_183⟩
                      · first
                          | exact c_214
                          | (exfalso; omega)
                    rw [fnd_hit (P := zrP c f (12 * f + l) L one two) (by omega) hp] at he
                    rw [← he] at K
                    exact K (by omega)
                  · refine E_iload dL_first_196 rfl ?_
                    refine E_aload_n dL_first_198 rfl ?_
                    refine E_aload dL_first_199 rfl ?_
                    refine E_bipush (v := nI 6) dL_first_201 (by decide) ?_
                    refine E_ialdL (v := nI _) dL_first_203 (l_132 hL) (k_132 hL) rfl (by omega) (by decide) h.a6 ?_
                    refine E_aload_n dL_first_204 rfl ?_
                    refine E_iload dL_first_205 rfl ?_
                    refine E_laldL (v := pk _) dL_first_207 h.plt h.pkd rfl (by omega) (by decide) (h.wk (by omega)) ?_
                    refine E_callT1 (fr' := 1) (k1 := 0) (n1 := 0) (k2 := 0) (n2 := 0) dL_first_208 kO_L_glyphOf kL_L_108 (by exact Nat.le_of_ble_eq_true rfl) (by decide) (by exact Nat.le_of_ble_eq_true rfl) (Or.inl rfl) rfl ?_
                    refine sp_L_glyphOf (h.ok (by omega)) ?_
                    refine gKv ?_
                    refine E_callT3 (fr' := 2) (k1 := 0) (n1 := 0) (k2 := 0) (n2 := 0) dL_first_211 kO_L_mark kL_L_112 (by exact Nat.le_of_ble_eq_true rfl) (by decide) (by exact Nat.le_of_ble_eq_true rfl) (Or.inl rfl) rfl ?_
                    refine sp_L_mark (by first | exact h | exact h.S) hf (by first | assumption | exact h.gl (by omega)) ?_
                    refine gKv ?_
                    refine E_icmp_eq (tgt := 220) dL_first_214 (by decide) (fun c_214 => ?_) (fun c_214 => ?_)
                    · refine E_iload dL_first_220 rfl ?_
                      refine E_iret dL_first_222 (Or.inl rfl) ?_
                      have hp : zrP c f (12 * f + l) L one two k := by
                        refine ⟨c_49, fun z => ?_, fun z => ?_, fun z => ?_⟩
                        · first
                            | exact c_91
                            | (exfalso; omega)
                        · first
                            | (exfalso; omega)
                            | exact ⟨Or.inl c_148, c_183⟩
                            | exact ⟨Or.inr ((by first | exact c_155 | assumption : rul c (12 * f + l) k 1 = _).trans (t1 c_121).symm), c_183⟩
                            | exact ⟨Or.inr (c_155.trans (t2 c_121).symm), c_183⟩
                        · first
                            | exact c_214
                            | (exfalso; omega)
                      rw [fnd_hit (P := zrP c f (12 * f + l) L one two) (by omega) hp] at he
                      rw [← he] at K
                      exact K (by omega)
                    · refine E_goto (tgt := 223) dL_first_217 (by decide) ?_
                      refine nxt (fun q => ?_) (by omega) _ _ _
                      obtain ⟨q1, q2, q3, q4⟩ := q
                      first
                        | exact c_49 q1
                        | exact c_91 (q2 c_70)
                        | (rcases (q3 c_101).1 with z | z
                           · exact c_148 z
                           · rw [t1 c_121] at z; exact c_155 z)
                        | (rcases (q3 c_101).1 with z | z
                           · exact c_148 z
                           · rw [t2 c_121] at z; exact c_155 z)
                        | exact c_183 (q3 c_101).2
                        | exact c_214 (q4 c_193)
                · refine E_goto (tgt := 223) dL_first_186 (by decide) ?_
                  refine nxt (fun q => ?_) (by omega) _ _ _
                  obtain ⟨q1, q2, q3, q4⟩ := q
                  first
                    | exact c_49 q1
                    | exact c_91 (q2 c_70)
                    | (rcases (q3 c_101).1 with z | z
                       · exact c_148 z
                       · rw [t1 c_121] at z; exact c_155 z)
                    | (rcases (q3 c_101).1 with z | z
                       · exact c_148 z
                       · rw [t2 c_121] at z; exact c_155 z)
                    | exact c_183 (q3 c_101).2
                    | exact c_214 (q4 c_193)
          · refine E_aload_n dL_first_124 rfl ?_
            refine E_iload dL_first_125 rfl ?_
            refine E_laldL (v := pk _) dL_first_127 h.plt h.pkd rfl (by omega) (by decide) (h.wk (by omega)) ?_
            refine E_bipush (v := nI 35) dL_first_128 (by decide) ?_
            refine E_ldc (v := nI 262143) dL_first_130 (gW_at 759 (by decide +kernel) (by decide +kernel)) ?_
            refine E_callT3 (fr' := 1) (k1 := 0) (n1 := 0) (k2 := 0) (n2 := 0) dL_first_132 kO_L_part kL_L_116 (by exact Nat.le_of_ble_eq_true rfl) (by decide) (by exact Nat.le_of_ble_eq_true rfl) (Or.inl rfl) rfl ?_
            refine sp_L_part_T (h.ok (by omega)) ?_
            refine gKv ?_
            refine E_iconst (v := nI 1) dL_first_135 (by decide) ?_
            refine E_isub_d dL_first_136 ?_
            refine E_goto (tgt := 142) dL_first_137 (by decide) ?_
            refine E_istore dL_first_142 (Nat.le_of_ble_eq_true rfl) (by decide) rfl ?_
            refine E_iload dL_first_144 rfl ?_
            refine E_bipush (v := -100) dL_first_146 (by decide) ?_
            refine E_icmp_eq (tgt := 158) dL_first_148 (by decide) (fun c_148 => ?_) (fun c_148 => ?_)
            · refine E_aload_n dL_first_158 rfl ?_
              refine E_iload dL_first_159 rfl ?_
              refine E_iload dL_first_161 rfl ?_
              refine E_iconst (v := nI 2) dL_first_163 (by decide) ?_
              refine E_callT4 (fr' := 1) (k1 := 0) (n1 := 0) (k2 := 0) (n2 := 0) dL_first_164 kO_L_number kL_L_124 (by exact Nat.le_of_ble_eq_true rfl) (by decide) (by exact Nat.le_of_ble_eq_true rfl) (Or.inl rfl) rfl ?_
              refine sp_L_number (by first | exact h | exact h.S) hf hl (by omega) (by decide) ?_
              refine gKv ?_
              refine E_aload_n dL_first_167 rfl ?_
              refine E_aload dL_first_168 rfl ?_
              refine E_bipush (v := nI 6) dL_first_170 (by decide) ?_
              refine E_ialdL (v := nI _) dL_first_172 (l_132 hL) (k_132 hL) rfl (by omega) (by decide) h.a6 ?_
              refine E_aload_n dL_first_173 rfl ?_
              refine E_iload dL_first_174 rfl ?_
              refine E_laldL (v := pk _) dL_first_176 h.plt h.pkd rfl (by omega) (by decide) (h.wk (by omega)) ?_
              refine E_callT1 (fr' := 1) (k1 := 0) (n1 := 0) (k2 := 0) (n2 := 0) dL_first_177 kO_L_glyphOf kL_L_108 (by exact Nat.le_of_ble_eq_true rfl) (by decide) (by exact Nat.le_of_ble_eq_true rfl) (Or.inl rfl) rfl ?_
              refine sp_L_glyphOf (h.ok (by omega)) ?_
              refine gKv ?_
              refine E_callT3 (fr' := 2) (k1 := 0) (n1 := 0) (k2 := 0) (n2 := 0) dL_first_180 kO_L_mark kL_L_112 (by exact Nat.le_of_ble_eq_true rfl) (by decide) (by exact Nat.le_of_ble_eq_true rfl) (Or.inl rfl) rfl ?_
              refine sp_L_mark (by first | exact h | exact h.S) hf (by first | assumption | exact h.gl (by omega)) ?_
              refine gKv ?_
              refine E_icmp_eq (tgt := 189) dL_first_183 (by decide) (fun c_183 => ?_) (fun c_183 => ?_)
              · refine E_iload dL_first_189 rfl ?_
                refine E_bipush (v := nI 9) dL_first_191 (by decide) ?_
                refine E_icmp_ne_n (tgt := 220) dL_first_193 (by decide) (by omega) (by omega) (fun c_193 => ?_) (fun c_193 => ?_)
                · refine E_iload dL_first_220 rfl ?_
                  refine E_iret dL_first_222 (Or.inl rfl) ?_
                  have hp : zrP c f (12 * f + l) L one two k := by
                    refine ⟨c_49, fun z => ?_, fun z => ?_, fun z => ?_⟩
                    · first
                        | exact c_91
                        | (exfalso; omega)
                    · first
                        | (exfalso; omega)
                        | exact ⟨Or.inl c_148, c_183⟩
                        | exact ⟨Or.inr ((by first | exact c_155 | assumption : rul c (12 * f + l) k 1 = _).trans (t1 c_121).symm), c_183⟩
                        | exact ⟨Or.inr (c_155.trans (t2 c_121).symm), c_183⟩
                    · first
                        | exact c_214
                        | (exfalso; omega)
                  rw [fnd_hit (P := zrP c f (12 * f + l) L one two) (by omega) hp] at he
                  rw [← he] at K
                  exact K (by omega)
                · refine E_iload dL_first_196 rfl ?_
                  refine E_aload_n dL_first_198 rfl ?_
                  refine E_aload dL_first_199 rfl ?_
                  refine E_bipush (v := nI 6) dL_first_201 (by decide) ?_
                  refine E_ialdL (v := nI _) dL_first_203 (l_132 hL) (k_132 hL) rfl (by omega) (by decide) h.a6 ?_
                  refine E_aload_n dL_first_204 rfl ?_
                  refine E_iload dL_first_205 rfl ?_
                  refine E_laldL (v := pk _) dL_first_207 h.plt h.pkd rfl (by omega) (by decide) (h.wk (by omega)) ?_
                  refine E_callT1 (fr' := 1) (k1 := 0) (n1 := 0) (k2 := 0) (n2 := 0) dL_first_208 kO_L_glyphOf kL_L_108 (by exact Nat.le_of_ble_eq_true rfl) (by decide) (by exact Nat.le_of_ble_eq_true rfl) (Or.inl rfl) rfl ?_
                  refine sp_L_glyphOf (h.ok (by omega)) ?_
                  refine gKv ?_
                  refine E_callT3 (fr' := 2) (k1 := 0) (n1 := 0) (k2 := 0) (n2 := 0) dL_first_211 kO_L_mark kL_L_112 (by exact Nat.le_of_ble_eq_true rfl) (by decide) (by exact Nat.le_of_ble_eq_true rfl) (Or.inl rfl) rfl ?_
                  refine sp_L_mark (by first | exact h | exact h.S) hf (by first | assumption | exact h.gl (by omega)) ?_
                  refine gKv ?_
                  refine E_icmp_eq (tgt := 220) dL_first_214 (by decide) (fun c_214 => ?_) (fun c_214 => ?_)
                  · refine E_iload dL_first_220 rfl ?_
                    refine E_iret dL_first_222 (Or.inl rfl) ?_
                    have hp : zrP c f (12 * f + l) L one two k := by
                      refine ⟨c_49, fun z => ?_, fun z => ?_, fun z => ?_⟩
                      · first
                          | exact c_91
                          | (exfalso; omega)
                      · first
                          | (exfalso; omega)
                          | exact ⟨Or.inl c_148, c_183⟩
                          | exact ⟨Or.inr ((by first | exact c_155 | assumption : rul c (12 * f + l) k 1 = _).trans (t1 c_121).symm), c_183⟩
                          | exact ⟨Or.inr (c_155.trans (t2 c_121).symm), c_183⟩
                      · first
                          | exact c_214
                          | (exfalso; omega)
                    rw [fnd_hit (P := zrP c f (12 * f + l) L one two) (by omega) hp] at he
                    rw [← he] at K
                    exact K (by omega)
                  · refine E_goto (tgt := 223) dL_first_217 (by decide) ?_
                    refine nxt (fun q => ?_) (by omega) _ _ _
                    obtain ⟨q1, q2, q3, q4⟩ := q
                    first
                      | exact c_49 q1
                      | exact c_91 (q2 c_70)
                      | (rcases (q3 c_101).1 with z | z
                         · exact c_148 z
                         · rw [t1 c_121] at z; exact c_155 z)
                      | (rcases (q3 c_101).1 with z | z
                         · exact c_148 z
                         · rw [t2 c_121] at z; exact c_155 z)
                      | exact c_183 (q3 c_101).2
                      | exact c_214 (q4 c_193)
              · refine E_goto (tgt := 223) dL_first_186 (by decide) ?_
                refine nxt (fun q => ?_) (by omega) _ _ _
                obtain ⟨q1, q2, q3, q4⟩ := q
                first
                  | exact c_49 q1
                  | exact c_91 (q2 c_70)
                  | (rcases (q3 c_101).1 with z | z
                     · exact c_148 z
                     · rw [t1 c_121] at z; exact c_155 z)
                  | (rcases (q3 c_101).1 with z | z
                     · exact c_148 z
                     · rw [t2 c_121] at z; exact c_155 z)
                  | exact c_183 (q3 c_101).2
                  | exact c_214 (q4 c_193)
            · refine E_iload dL_first_151 rfl ?_
              refine E_iload dL_first_153 rfl ?_
              refine E_icmp_ne_r (tgt := 223) dL_first_155 (by decide) (fun c_155 => ?_) (fun c_155 => ?_)
              · refine nxt (fun q => ?_) (by omega) _ _ _
                obtain ⟨q1, q2, q3, q4⟩ := q
                first
                  | exact c_49 q1
                  | exact c_91 (q2 c_70)
                  | (rcases (q3 c_101).1 with z | z
                     · exact c_148 z
                     · rw [t1 c_121] at z; exact c_155 z)
                  | (rcases (q3 c_101).1 with z | z
                     · exact c_148 z
                     · rw [t2 c_121] at z; exact c_155 z)
                  | exact c_183 (q3 c_101).2
                  | exact c_214 (q4 c_193)
              · refine E_aload_n dL_first_158 rfl ?_
                refine E_iload dL_first_159 rfl ?_
                refine E_iload dL_first_161 rfl ?_
                refine E_iconst (v := nI 2) dL_first_163 (by decide) ?_
                refine E_callT4 (fr' := 1) (k1 := 0) (n1 := 0) (k2 := 0) (n2 := 0) dL_first_164 kO_L_number kL_L_124 (by exact Nat.le_of_ble_eq_true rfl) (by decide) (by exact Nat.le_of_ble_eq_true rfl) (Or.inl rfl) rfl ?_
                refine sp_L_number (by first | exact h | exact h.S) hf hl (by omega) (by decide) ?_
                refine gKv ?_
                refine E_aload_n dL_first_167 rfl ?_
                refine E_aload dL_first_168 rfl ?_
                refine E_bipush (v := nI 6) dL_first_170 (by decide) ?_
                refine E_ialdL (v := nI _) dL_first_172 (l_132 hL) (k_132 hL) rfl (by omega) (by decide) h.a6 ?_
                refine E_aload_n dL_first_173 rfl ?_
                refine E_iload dL_first_174 rfl ?_
                refine E_laldL (v := pk _) dL_first_176 h.plt h.pkd rfl (by omega) (by decide) (h.wk (by omega)) ?_
                refine E_callT1 (fr' := 1) (k1 := 0) (n1 := 0) (k2 := 0) (n2 := 0) dL_first_177 kO_L_glyphOf kL_L_108 (by exact Nat.le_of_ble_eq_true rfl) (by decide) (by exact Nat.le_of_ble_eq_true rfl) (Or.inl rfl) rfl ?_
                refine sp_L_glyphOf (h.ok (by omega)) ?_
                refine gKv ?_
                refine E_callT3 (fr' := 2) (k1 := 0) (n1 := 0) (k2 := 0) (n2 := 0) dL_first_180 kO_L_mark kL_L_112 (by exact Nat.le_of_ble_eq_true rfl) (by decide) (by exact Nat.le_of_ble_eq_true rfl) (Or.inl rfl) rfl ?_
                refine sp_L_mark (by first | exact h | exact h.S) hf (by first | assumption | exact h.gl (by omega)) ?_
                refine gKv ?_
                refine E_icmp_eq (tgt := 189) dL_first_183 (by decide) (fun c_183 => ?_) (fun c_183 => ?_)
                · refine E_iload dL_first_189 rfl ?_
                  refine E_bipush (v := nI 9) dL_first_191 (by decide) ?_
                  refine E_icmp_ne_n (tgt := 220) dL_first_193 (by decide) (by omega) (by omega) (fun c_193 => ?_) (fun c_193 => ?_)
                  · refine E_iload dL_first_220 rfl ?_
                    refine E_iret dL_first_222 (Or.inl rfl) ?_
                    have hp : zrP c f (12 * f + l) L one two k := by
                      refine ⟨c_49, fun z => ?_, fun z => ?_, fun z => ?_⟩
                      · first
                          | exact c_91
                          | (exfalso; omega)
                      · first
                          | (exfalso; omega)
                          | exact ⟨Or.inl c_148, c_183⟩
                          | exact ⟨Or.inr ((by first | exact c_155 | assumption : rul c (12 * f + l) k 1 = _).trans (t1 c_121).symm), c_183⟩
                          | exact ⟨Or.inr (c_155.trans (t2 c_121).symm), c_183⟩
                      · first
                          | exact c_214
                          | (exfalso; omega)
                    rw [fnd_hit (P := zrP c f (12 * f + l) L one two) (by omega) hp] at he
                    rw [← he] at K
                    exact K (by omega)
                  · refine E_iload dL_first_196 rfl ?_
                    refine E_aload_n dL_first_198 rfl ?_
                    refine E_aload dL_first_199 rfl ?_
                    refine E_bipush (v := nI 6) dL_first_201 (by decide) ?_
                    refine E_ialdL (v := nI _) dL_first_203 (l_132 hL) (k_132 hL) rfl (by omega) (by decide) h.a6 ?_
                    refine E_aload_n dL_first_204 rfl ?_
                    refine E_iload dL_first_205 rfl ?_
                    refine E_laldL (v := pk _) dL_first_207 h.plt h.pkd rfl (by omega) (by decide) (h.wk (by omega)) ?_
                    refine E_callT1 (fr' := 1) (k1 := 0) (n1 := 0) (k2 := 0) (n2 := 0) dL_first_208 kO_L_glyphOf kL_L_108 (by exact Nat.le_of_ble_eq_true rfl) (by decide) (by exact Nat.le_of_ble_eq_true rfl) (Or.inl rfl) rfl ?_
                    refine sp_L_glyphOf (h.ok (by omega)) ?_
                    refine gKv ?_
                    refine E_callT3 (fr' := 2) (k1 := 0) (n1 := 0) (k2 := 0) (n2 := 0) dL_first_211 kO_L_mark kL_L_112 (by exact Nat.le_of_ble_eq_true rfl) (by decide) (by exact Nat.le_of_ble_eq_true rfl) (Or.inl rfl) rfl ?_
                    refine sp_L_mark (by first | exact h | exact h.S) hf (by first | assumption | exact h.gl (by omega)) ?_
                    refine gKv ?_
                    refine E_icmp_eq (tgt := 220) dL_first_214 (by decide) (fun c_214 => ?_) (fun c_214 => ?_)
                    · refine E_iload dL_first_220 rfl ?_
                      refine E_iret dL_first_222 (Or.inl rfl) ?_
                      have hp : zrP c f (12 * f + l) L one two k := by
                        refine ⟨c_49, fun z => ?_, fun z => ?_, fun z => ?_⟩
                        · first
                            | exact c_91
                            | (exfalso; omega)
                        · first
                            | (exfalso; omega)
                            | exact ⟨Or.inl c_148, c_183⟩
                            | exact ⟨Or.inr ((by first | exact c_155 | assumption : rul c (12 * f + l) k 1 = _).trans (t1 c_121).symm), c_183⟩
                            | exact ⟨Or.inr (c_155.trans (t2 c_121).symm), c_183⟩
                        · first
                            | exact c_214
                            | (exfalso; omega)
                      rw [fnd_hit (P := zrP c f (12 * f + l) L one two) (by omega) hp] at he
                      rw [← he] at K
                      exact K (by omega)
                    · refine E_goto (tgt := 223) dL_first_217 (by decide) ?_
                      refine nxt (fun q => ?_) (by omega) _ _ _
                      obtain ⟨q1, q2, q3, q4⟩ := q
                      first
                        | exact c_49 q1
                        | exact c_91 (q2 c_70)
                        | (rcases (q3 c_101).1 with z | z
                           · exact c_148 z
                           · rw [t1 c_121] at z; exact c_155 z)
                        | (rcases (q3 c_101).1 with z | z
                           · exact c_148 z
                           · rw [t2 c_121] at z; exact c_155 z)
                        | exact c_183 (q3 c_101).2
                        | exact c_214 (q4 c_193)
                · refine E_goto (tgt := 223) dL_first_186 (by decide) ?_
                  refine nxt (fun q => ?_) (by omega) _ _ _
                  obtain ⟨q1, q2, q3, q4⟩ := q
                  first
                    | exact c_49 q1
                    | exact c_91 (q2 c_70)
                    | (rcases (q3 c_101).1 with z | z
                       · exact c_148 z
                       · rw [t1 c_121] at z; exact c_155 z)
                    | (rcases (q3 c_101).1 with z | z
                       · exact c_148 z
                       · rw [t2 c_121] at z; exact c_155 z)
                    | exact c_183 (q3 c_101).2
                    | exact c_214 (q4 c_193)
      · refine E_aload_n dL_first_73 rfl ?_
        refine E_aload dL_first_74 rfl ?_
        refine E_bipush (v := nI 6) dL_first_76 (by decide) ?_
        refine E_ialdL (v := nI _) dL_first_78 (l_132 hL) (k_132 hL) rfl (by omega) (by decide) h.a6 ?_
        refine E_iload dL_first_79 rfl ?_
        refine E_aload_n dL_first_81 rfl ?_
        refine E_iload dL_first_82 rfl ?_
        refine E_laldL (v := pk _) dL_first_84 h.plt h.pkd rfl (by omega) (by decide) (h.wk (by omega)) ?_
        refine E_callT1 (fr' := 1) (k1 := 0) (n1 := 0) (k2 := 0) (n2 := 0) dL_first_85 kO_L_glyphOf kL_L_108 (by exact Nat.le_of_ble_eq_true rfl) (by decide) (by exact Nat.le_of_ble_eq_true rfl) (Or.inl rfl) rfl ?_
        refine sp_L_glyphOf (h.ok (by omega)) ?_
        refine gKv ?_
        refine E_callT4 (fr' := 2) (k1 := 0) (n1 := 0) (k2 := 0) (n2 := 0) dL_first_88 kO_L_is kL_L_128 (by exact Nat.le_of_ble_eq_true rfl) (by decide) (by exact Nat.le_of_ble_eq_true rfl) (Or.inl rfl) rfl ?_
        refine sp_L_is (by first | exact h | exact h.S) hf (by first | assumption | exact h.gl (by omega)) ?_
        refine gKv ?_
        refine E_if_ne_b (tgt := 97) dL_first_91 (by decide) (fun c_91 => ?_) (fun c_91 => ?_)
        · refine E_iload dL_first_97 rfl ?_
          refine E_bipush (v := nI 8) dL_first_99 (by decide) ?_
          refine E_icmp_ne_n (tgt := 189) dL_first_101 (by decide) (by omega) (by omega) (fun c_101 => ?_) (fun c_101 => ?_)
          · refine E_iload dL_first_189 rfl ?_
            refine E_bipush (v := nI 9) dL_first_191 (by decide) ?_
            refine E_icmp_ne_n (tgt := 220) dL_first_193 (by decide) (by omega) (by omega) (fun c_193 => ?_) (fun c_193 => ?_)
            · refine E_iload dL_first_220 rfl ?_
              refine E_iret dL_first_222 (Or.inl rfl) ?_
              have hp : zrP c f (12 * f + l) L one two k := by
                refine ⟨c_49, fun z => ?_, fun z => ?_, fun z => ?_⟩
                · first
                    | exact c_91
                    | (exfalso; omega)
                · first
                    | (exfalso; omega)
                    | exact ⟨Or.inl c_148, c_183⟩
                    | exact ⟨Or.inr ((by first | exact c_155 | assumption : rul c (12 * f + l) k 1 = _).trans (t1 c_121).symm), c_183⟩
                    | exact ⟨Or.inr (c_155.trans (t2 c_121).symm), c_183⟩
                · first
                    | exact c_214
                    | (exfalso; omega)
              rw [fnd_hit (P := zrP c f (12 * f + l) L one two) (by omega) hp] at he
              rw [← he] at K
              exact K (by omega)
            · refine E_iload dL_first_196 rfl ?_
              refine E_aload_n dL_first_198 rfl ?_
              refine E_aload dL_first_199 rfl ?_
              refine E_bipush (v := nI 6) dL_first_201 (by decide) ?_
              refine E_ialdL (v := nI _) dL_first_203 (l_132 hL) (k_132 hL) rfl (by omega) (by decide) h.a6 ?_
              refine E_aload_n dL_first_204 rfl ?_
              refine E_iload dL_first_205 rfl ?_
              refine E_laldL (v := pk _) dL_first_207 h.plt h.pkd rfl (by omega) (by decide) (h.wk (by omega)) ?_
              refine E_callT1 (fr' := 1) (k1 := 0) (n1 := 0) (k2 := 0) (n2 := 0) dL_first_208 kO_L_glyphOf kL_L_108 (by exact Nat.le_of_ble_eq_true rfl) (by decide) (by exact Nat.le_of_ble_eq_true rfl) (Or.inl rfl) rfl ?_
              refine sp_L_glyphOf (h.ok (by omega)) ?_
              refine gKv ?_
              refine E_callT3 (fr' := 2) (k1 := 0) (n1 := 0) (k2 := 0) (n2 := 0) dL_first_211 kO_L_mark kL_L_112 (by exact Nat.le_of_ble_eq_true rfl) (by decide) (by exact Nat.le_of_ble_eq_true rfl) (Or.inl rfl) rfl ?_
              refine sp_L_mark (by first | exact h | exact h.S) hf (by first | assumption | exact h.gl (by omega)) ?_
              refine gKv ?_
              refine E_icmp_eq (tgt := 220) dL_first_214 (by decide) (fun c_214 => ?_) (fun c_214 => ?_)
              · refine E_iload dL_first_220 rfl ?_
                refine E_iret dL_first_222 (Or.inl rfl) ?_
                have hp : zrP c f (12 * f + l) L one two k := by
                  refine ⟨c_49, fun z => ?_, fun z => ?_, fun z => ?_⟩
                  · first
                      | exact c_91
                      | (exfalso; omega)
                  · first
                      | (exfalso; omega)
                      | exact ⟨Or.inl c_148, c_183⟩
                      | exact ⟨Or.inr ((by first | exact c_155 | assumption : rul c (12 * f + l) k 1 = _).trans (t1 c_121).symm), c_183⟩
                      | exact ⟨Or.inr (c_155.trans (t2 c_121).symm), c_183⟩
                  · first
                      | exact c_214
                      | (exfalso; omega)
                rw [fnd_hit (P := zrP c f (12 * f + l) L one two) (by omega) hp] at he
                rw [← he] at K
                exact K (by omega)
              · refine E_goto (tgt := 223) dL_first_217 (by decide) ?_
                refine nxt (fun q => ?_) (by omega) _ _ _
                obtain ⟨q1, q2, q3, q4⟩ := q
                first
                  | exact c_49 q1
                  | exact c_91 (q2 c_70)
                  | (rcases (q3 c_101).1 with z | z
                     · exact c_148 z
                     · rw [t1 c_121] at z; exact c_155 z)
                  | (rcases (q3 c_101).1 with z | z
                     · exact c_148 z
                     · rw [t2 c_121] at z; exact c_155 z)
                  | exact c_183 (q3 c_101).2
                  | exact c_214 (q4 c_193)
          · refine E_aload_n dL_first_104 rfl ?_
            refine E_iload dL_first_105 rfl ?_
            refine E_laldL (v := pk _) dL_first_107 h.plt h.pkd rfl (by omega) (by decide) (h.wk (by omega)) ?_
            refine E_bipush (v := nI 17) dL_first_108 (by decide) ?_
            refine E_ldc (v := nI 262143) dL_first_110 (gW_at 759 (by decide +kernel) (by decide +kernel)) ?_
            refine E_callT3 (fr' := 1) (k1 := 0) (n1 := 0) (k2 := 0) (n2 := 0) dL_first_112 kO_L_part kL_L_116 (by exact Nat.le_of_ble_eq_true rfl) (by decide) (by exact Nat.le_of_ble_eq_true rfl) (Or.inl rfl) rfl ?_
            refine sp_L_part_P (h.ok (by omega)) ?_
            refine gKv ?_
            refine E_iconst (v := nI 1) dL_first_115 (by decide) ?_
            refine E_isub_d dL_first_116 ?_
            refine E_istore dL_first_117 (Nat.le_of_ble_eq_true rfl) (by decide) rfl ?_
            refine E_iload dL_first_119 rfl ?_
            refine E_if_ge_d (tgt := 140) dL_first_121 (by decide) (by omega) (fun c_121 => ?_) (fun c_121 => ?_)
            · refine E_iload dL_first_140 rfl ?_
              refine E_istore dL_first_142 (Nat.le_of_ble_eq_true rfl) (by decide) rfl ?_
              refine E_iload dL_first_144 rfl ?_
              refine E_bipush (v := -100) dL_first_146 (by decide) ?_
              refine E_icmp_eq (tgt := 158) dL_first_148 (by decide) (fun c_148 => ?_) (fun c_148 => ?_)
              · refine E_aload_n dL_first_158 rfl ?_
                refine E_iload dL_first_159 rfl ?_
                refine E_iload dL_first_161 rfl ?_
                refine E_iconst (v := nI 2) dL_first_163 (by decide) ?_
                refine E_callT4 (fr' := 1) (k1 := 0) (n1 := 0) (k2 := 0) (n2 := 0) dL_first_164 kO_L_number kL_L_124 (by exact Nat.le_of_ble_eq_true rfl) (by decide) (by exact Nat.le_of_ble_eq_true rfl) (Or.inl rfl) rfl ?_
                refine sp_L_number (by first | exact h | exact h.S) hf hl (by omega) (by decide) ?_
                refine gKv ?_
                refine E_aload_n dL_first_167 rfl ?_
                refine E_aload dL_first_168 rfl ?_
                refine E_bipush (v := nI 6) dL_first_170 (by decide) ?_
                refine E_ialdL (v := nI _) dL_first_172 (l_132 hL) (k_132 hL) rfl (by omega) (by decide) h.a6 ?_
                refine E_aload_n dL_first_173 rfl ?_
                refine E_iload dL_first_174 rfl ?_
                refine E_laldL (v := pk _) dL_first_176 h.plt h.pkd rfl (by omega) (by decide) (h.wk (by omega)) ?_
                refine E_callT1 (fr' := 1) (k1 := 0) (n1 := 0) (k2 := 0) (n2 := 0) dL_first_177 kO_L_glyphOf kL_L_108 (by exact Nat.le_of_ble_eq_true rfl) (by decide) (by exact Nat.le_of_ble_eq_true rfl) (Or.inl rfl) rfl ?_
                refine sp_L_glyphOf (h.ok (by omega)) ?_
                refine gKv ?_
                refine E_callT3 (fr' := 2) (k1 := 0) (n1 := 0) (k2 := 0) (n2 := 0) dL_first_180 kO_L_mark kL_L_112 (by exact Nat.le_of_ble_eq_true rfl) (by decide) (by exact Nat.le_of_ble_eq_true rfl) (Or.inl rfl) rfl ?_
                refine sp_L_mark (by first | exact h | exact h.S) hf (by first | assumption | exact h.gl (by omega)) ?_
                refine gKv ?_
                refine E_icmp_eq (tgt := 189) dL_first_183 (by decide) (fun c_183 => ?_) (fun c_183 => ?_)
                · refine E_iload dL_first_189 rfl ?_
                  refine E_bipush (v := nI 9) dL_first_191 (by decide) ?_
                  refine E_icmp_ne_n (tgt := 220) dL_first_193 (by decide) (by omega) (by omega) (fun c_193 => ?_) (fun c_193 => ?_)
                  · refine E_iload dL_first_220 rfl ?_
                    refine E_iret dL_first_222 (Or.inl rfl) ?_
                    have hp : zrP c f (12 * f + l) L one two k := by
                      refine ⟨c_49, fun z => ?_, fun z => ?_, fun z => ?_⟩
                      · first
                          | exact c_91
                          | (exfalso; omega)
                      · first
                          | (exfalso; omega)
                          | exact ⟨Or.inl c_148, c_183⟩
                          | exact ⟨Or.inr ((by first | exact c_155 | assumption : rul c (12 * f + l) k 1 = _).trans (t1 c_121).symm), c_183⟩
                          | exact ⟨Or.inr (c_155.trans (t2 c_121).symm), c_183⟩
                      · first
                          | exact c_214
                          | (exfalso; omega)
                    rw [fnd_hit (P := zrP c f (12 * f + l) L one two) (by omega) hp] at he
                    rw [← he] at K
                    exact K (by omega)
                  · refine E_iload dL_first_196 rfl ?_
                    refine E_aload_n dL_first_198 rfl ?_
                    refine E_aload dL_first_199 rfl ?_
                    refine E_bipush (v := nI 6) dL_first_201 (by decide) ?_
                    refine E_ialdL (v := nI _) dL_first_203 (l_132 hL) (k_132 hL) rfl (by omega) (by decide) h.a6 ?_
                    refine E_aload_n dL_first_204 rfl ?_
                    refine E_iload dL_first_205 rfl ?_
                    refine E_laldL (v := pk _) dL_first_207 h.plt h.pkd rfl (by omega) (by decide) (h.wk (by omega)) ?_
                    refine E_callT1 (fr' := 1) (k1 := 0) (n1 := 0) (k2 := 0) (n2 := 0) dL_first_208 kO_L_glyphOf kL_L_108 (by exact Nat.le_of_ble_eq_true rfl) (by decide) (by exact Nat.le_of_ble_eq_true rfl) (Or.inl rfl) rfl ?_
                    refine sp_L_glyphOf (h.ok (by omega)) ?_
                    refine gKv ?_
                    refine E_callT3 (fr' := 2) (k1 := 0) (n1 := 0) (k2 := 0) (n2 := 0) dL_first_211 kO_L_mark kL_L_112 (by exact Nat.le_of_ble_eq_true rfl) (by decide) (by exact Nat.le_of_ble_eq_true rfl) (Or.inl rfl) rfl ?_
                    refine sp_L_mark (by first | exact h | exact h.S) hf (by first | assumption | exact h.gl (by omega)) ?_
                    refine gKv ?_
                    refine E_icmp_eq (tgt := 220) dL_first_214 (by decide) (fun c_214 => ?_) (fun c_214 => ?_)
                    · refine E_iload dL_first_220 rfl ?_
                      refine E_iret dL_first_222 (Or.inl rfl) ?_
                      have hp : zrP c f (12 * f + l) L one two k := by
                        refine ⟨c_49, fun z => ?_, fun z => ?_, fun z => ?_⟩
                        · first
                            | exact c_91
                            | (exfalso; omega)
                        · first
                            | (exfalso; omega)
                            | exact ⟨Or.inl c_148, c_183⟩
                            | exact ⟨Or.inr ((by first | exact c_155 | assumption : rul c (12 * f + l) k 1 = _).trans (t1 c_121).symm), c_183⟩
                            | exact ⟨Or.inr (c_155.trans (t2 c_121).symm), c_183⟩
                        · first
                            | exact c_214
                            | (exfalso; omega)
                      rw [fnd_hit (P := zrP c f (12 * f + l) L one two) (by omega) hp] at he
                      rw [← he] at K
                      exact K (by omega)
                    · refine E_goto (tgt := 223) dL_first_217 (by decide) ?_
                      refine nxt (fun q => ?_) (by omega) _ _ _
                      obtain ⟨q1, q2, q3, q4⟩ := q
                      first
                        | exact c_49 q1
                        | exact c_91 (q2 c_70)
                        | (rcases (q3 c_101).1 with z | z
                           · exact c_148 z
                           · rw [t1 c_121] at z; exact c_155 z)
                        | (rcases (q3 c_101).1 with z | z
                           · exact c_148 z
                           · rw [t2 c_121] at z; exact c_155 z)
                        | exact c_183 (q3 c_101).2
                        | exact c_214 (q4 c_193)
                · refine E_goto (tgt := 223) dL_first_186 (by decide) ?_
                  refine nxt (fun q => ?_) (by omega) _ _ _
                  obtain ⟨q1, q2, q3, q4⟩ := q
                  first
                    | exact c_49 q1
                    | exact c_91 (q2 c_70)
                    | (rcases (q3 c_101).1 with z | z
                       · exact c_148 z
                       · rw [t1 c_121] at z; exact c_155 z)
                    | (rcases (q3 c_101).1 with z | z
                       · exact c_148 z
                       · rw [t2 c_121] at z; exact c_155 z)
                    | exact c_183 (q3 c_101).2
                    | exact c_214 (q4 c_193)
              · refine E_iload dL_first_151 rfl ?_
                refine E_iload dL_first_153 rfl ?_
                refine E_icmp_ne_r (tgt := 223) dL_first_155 (by decide) (fun c_155 => ?_) (fun c_155 => ?_)
                · refine nxt (fun q => ?_) (by omega) _ _ _
                  obtain ⟨q1, q2, q3, q4⟩ := q
                  first
                    | exact c_49 q1
                    | exact c_91 (q2 c_70)
                    | (rcases (q3 c_101).1 with z | z
                       · exact c_148 z
                       · rw [t1 c_121] at z; exact c_155 z)
                    | (rcases (q3 c_101).1 with z | z
                       · exact c_148 z
                       · rw [t2 c_121] at z; exact c_155 z)
                    | exact c_183 (q3 c_101).2
                    | exact c_214 (q4 c_193)
                · refine E_aload_n dL_first_158 rfl ?_
                  refine E_iload dL_first_159 rfl ?_
                  refine E_iload dL_first_161 rfl ?_
                  refine E_iconst (v := nI 2) dL_first_163 (by decide) ?_
                  refine E_callT4 (fr' := 1) (k1 := 0) (n1 := 0) (k2 := 0) (n2 := 0) dL_first_164 kO_L_number kL_L_124 (by exact Nat.le_of_ble_eq_true rfl) (by decide) (by exact Nat.le_of_ble_eq_true rfl) (Or.inl rfl) rfl ?_
                  refine sp_L_number (by first | exact h | exact h.S) hf hl (by omega) (by decide) ?_
                  refine gKv ?_
                  refine E_aload_n dL_first_167 rfl ?_
                  refine E_aload dL_first_168 rfl ?_
                  refine E_bipush (v := nI 6) dL_first_170 (by decide) ?_
                  refine E_ialdL (v := nI _) dL_first_172 (l_132 hL) (k_132 hL) rfl (by omega) (by decide) h.a6 ?_
                  refine E_aload_n dL_first_173 rfl ?_
                  refine E_iload dL_first_174 rfl ?_
                  refine E_laldL (v := pk _) dL_first_176 h.plt h.pkd rfl (by omega) (by decide) (h.wk (by omega)) ?_
                  refine E_callT1 (fr' := 1) (k1 := 0) (n1 := 0) (k2 := 0) (n2 := 0) dL_first_177 kO_L_glyphOf kL_L_108 (by exact Nat.le_of_ble_eq_true rfl) (by decide) (by exact Nat.le_of_ble_eq_true rfl) (Or.inl rfl) rfl ?_
                  refine sp_L_glyphOf (h.ok (by omega)) ?_
                  refine gKv ?_
                  refine E_callT3 (fr' := 2) (k1 := 0) (n1 := 0) (k2 := 0) (n2 := 0) dL_first_180 kO_L_mark kL_L_112 (by exact Nat.le_of_ble_eq_true rfl) (by decide) (by exact Nat.le_of_ble_eq_true rfl) (Or.inl rfl) rfl ?_
                  refine sp_L_mark (by first | exact h | exact h.S) hf (by first | assumption | exact h.gl (by omega)) ?_
                  refine gKv ?_
                  refine E_icmp_eq (tgt := 189) dL_first_183 (by decide) (fun c_183 => ?_) (fun c_183 => ?_)
                  · refine E_iload dL_first_189 rfl ?_
                    refine E_bipush (v := nI 9) dL_first_191 (by decide) ?_
                    refine E_icmp_ne_n (tgt := 220) dL_first_193 (by decide) (by omega) (by omega) (fun c_193 => ?_) (fun c_193 => ?_)
                    · refine E_iload dL_first_220 rfl ?_
                      refine E_iret dL_first_222 (Or.inl rfl) ?_
                      have hp : zrP c f (12 * f + l) L one two k := by
                        refine ⟨c_49, fun z => ?_, fun z => ?_, fun z => ?_⟩
                        · first
                            | exact c_91
                            | (exfalso; omega)
                        · first
                            | (exfalso; omega)
                            | exact ⟨Or.inl c_148, c_183⟩
                            | exact ⟨Or.inr ((by first | exact c_155 | assumption : rul c (12 * f + l) k 1 = _).trans (t1 c_121).symm), c_183⟩
                            | exact ⟨Or.inr (c_155.trans (t2 c_121).symm), c_183⟩
                        · first
                            | exact c_214
                            | (exfalso; omega)
                      rw [fnd_hit (P := zrP c f (12 * f + l) L one two) (by omega) hp] at he
                      rw [← he] at K
                      exact K (by omega)
                    · refine E_iload dL_first_196 rfl ?_
                      refine E_aload_n dL_first_198 rfl ?_
                      refine E_aload dL_first_199 rfl ?_
                      refine E_bipush (v := nI 6) dL_first_201 (by decide) ?_
                      refine E_ialdL (v := nI _) dL_first_203 (l_132 hL) (k_132 hL) rfl (by omega) (by decide) h.a6 ?_
                      refine E_aload_n dL_first_204 rfl ?_
                      refine E_iload dL_first_205 rfl ?_
                      refine E_laldL (v := pk _) dL_first_207 h.plt h.pkd rfl (by omega) (by decide) (h.wk (by omega)) ?_
                      refine E_callT1 (fr' := 1) (k1 := 0) (n1 := 0) (k2 := 0) (n2 := 0) dL_first_208 kO_L_glyphOf kL_L_108 (by exact Nat.le_of_ble_eq_true rfl) (by decide) (by exact Nat.le_of_ble_eq_true rfl) (Or.inl rfl) rfl ?_
                      refine sp_L_glyphOf (h.ok (by omega)) ?_
                      refine gKv ?_
                      refine E_callT3 (fr' := 2) (k1 := 0) (n1 := 0) (k2 := 0) (n2 := 0) dL_first_211 kO_L_mark kL_L_112 (by exact Nat.le_of_ble_eq_true rfl) (by decide) (by exact Nat.le_of_ble_eq_true rfl) (Or.inl rfl) rfl ?_
                      refine sp_L_mark (by first | exact h | exact h.S) hf (by first | assumption | exact h.gl (by omega)) ?_
                      refine gKv ?_
                      refine E_icmp_eq (tgt := 220) dL_first_214 (by decide) (fun c_214 => ?_) (fun c_214 => ?_)
                      · refine E_iload dL_first_220 rfl ?_
                        refine E_iret dL_first_222 (Or.inl rfl) ?_
                        have hp : zrP c f (12 * f + l) L one two k := by
                          refine ⟨c_49, fun z => ?_, fun z => ?_, fun z => ?_⟩
                          · first
                              | exact c_91
                              | (exfalso; omega)
                          · first
                              | (exfalso; omega)
                              | exact ⟨Or.inl c_148, c_183⟩
                              | exact ⟨Or.inr ((by first | exact c_155 | assumption : rul c (12 * f + l) k 1 = _).trans (t1 c_121).symm), c_183⟩
                              | exact ⟨Or.inr (c_155.trans (t2 c_121).symm), c_183⟩
                          · first
                              | exact c_214
                              | (exfalso; omega)
                        rw [fnd_hit (P := zrP c f (12 * f + l) L one two) (by omega) hp] at he
                        rw [← he] at K
                        exact K (by omega)
                      · refine E_goto (tgt := 223) dL_first_217 (by decide) ?_
                        refine nxt (fun q => ?_) (by omega) _ _ _
                        obtain ⟨q1, q2, q3, q4⟩ := q
                        first
                          | exact c_49 q1
                          | exact c_91 (q2 c_70)
                          | (rcases (q3 c_101).1 with z | z
                             · exact c_148 z
                             · rw [t1 c_121] at z; exact c_155 z)
                          | (rcases (q3 c_101).1 with z | z
                             · exact c_148 z
                             · rw [t2 c_121] at z; exact c_155 z)
                          | exact c_183 (q3 c_101).2
                          | exact c_214 (q4 c_193)
                  · refine E_goto (tgt := 223) dL_first_186 (by decide) ?_
                    refine nxt (fun q => ?_) (by omega) _ _ _
                    obtain ⟨q1, q2, q3, q4⟩ := q
                    first
                      | exact c_49 q1
                      | exact c_91 (q2 c_70)
                      | (rcases (q3 c_101).1 with z | z
                         · exact c_148 z
                         · rw [t1 c_121] at z; exact c_155 z)
                      | (rcases (q3 c_101).1 with z | z
                         · exact c_148 z
                         · rw [t2 c_121] at z; exact c_155 z)
                      | exact c_183 (q3 c_101).2
                      | exact c_214 (q4 c_193)
            · refine E_aload_n dL_first_124 rfl ?_
              refine E_iload dL_first_125 rfl ?_
              refine E_laldL (v := pk _) dL_first_127 h.plt h.pkd rfl (by omega) (by decide) (h.wk (by omega)) ?_
              refine E_bipush (v := nI 35) dL_first_128 (by decide) ?_
              refine E_ldc (v := nI 262143) dL_first_130 (gW_at 759 (by decide +kernel) (by decide +kernel)) ?_
              refine E_callT3 (fr' := 1) (k1 := 0) (n1 := 0) (k2 := 0) (n2 := 0) dL_first_132 kO_L_part kL_L_116 (by exact Nat.le_of_ble_eq_true rfl) (by decide) (by exact Nat.le_of_ble_eq_true rfl) (Or.inl rfl) rfl ?_
              refine sp_L_part_T (h.ok (by omega)) ?_
              refine gKv ?_
              refine E_iconst (v := nI 1) dL_first_135 (by decide) ?_
              refine E_isub_d dL_first_136 ?_
              refine E_goto (tgt := 142) dL_first_137 (by decide) ?_
              refine E_istore dL_first_142 (Nat.le_of_ble_eq_true rfl) (by decide) rfl ?_
              refine E_iload dL_first_144 rfl ?_
              refine E_bipush (v := -100) dL_first_146 (by decide) ?_
              refine E_icmp_eq (tgt := 158) dL_first_148 (by decide) (fun c_148 => ?_) (fun c_148 => ?_)
              · refine E_aload_n dL_first_158 rfl ?_
                refine E_iload dL_first_159 rfl ?_
                refine E_iload dL_first_161 rfl ?_
                refine E_iconst (v := nI 2) dL_first_163 (by decide) ?_
                refine E_callT4 (fr' := 1) (k1 := 0) (n1 := 0) (k2 := 0) (n2 := 0) dL_first_164 kO_L_number kL_L_124 (by exact Nat.le_of_ble_eq_true rfl) (by decide) (by exact Nat.le_of_ble_eq_true rfl) (Or.inl rfl) rfl ?_
                refine sp_L_number (by first | exact h | exact h.S) hf hl (by omega) (by decide) ?_
                refine gKv ?_
                refine E_aload_n dL_first_167 rfl ?_
                refine E_aload dL_first_168 rfl ?_
                refine E_bipush (v := nI 6) dL_first_170 (by decide) ?_
                refine E_ialdL (v := nI _) dL_first_172 (l_132 hL) (k_132 hL) rfl (by omega) (by decide) h.a6 ?_
                refine E_aload_n dL_first_173 rfl ?_
                refine E_iload dL_first_174 rfl ?_
                refine E_laldL (v := pk _) dL_first_176 h.plt h.pkd rfl (by omega) (by decide) (h.wk (by omega)) ?_
                refine E_callT1 (fr' := 1) (k1 := 0) (n1 := 0) (k2 := 0) (n2 := 0) dL_first_177 kO_L_glyphOf kL_L_108 (by exact Nat.le_of_ble_eq_true rfl) (by decide) (by exact Nat.le_of_ble_eq_true rfl) (Or.inl rfl) rfl ?_
                refine sp_L_glyphOf (h.ok (by omega)) ?_
                refine gKv ?_
                refine E_callT3 (fr' := 2) (k1 := 0) (n1 := 0) (k2 := 0) (n2 := 0) dL_first_180 kO_L_mark kL_L_112 (by exact Nat.le_of_ble_eq_true rfl) (by decide) (by exact Nat.le_of_ble_eq_true rfl) (Or.inl rfl) rfl ?_
                refine sp_L_mark (by first | exact h | exact h.S) hf (by first | assumption | exact h.gl (by omega)) ?_
                refine gKv ?_
                refine E_icmp_eq (tgt := 189) dL_first_183 (by decide) (fun c_183 => ?_) (fun c_183 => ?_)
                · refine E_iload dL_first_189 rfl ?_
                  refine E_bipush (v := nI 9) dL_first_191 (by decide) ?_
                  refine E_icmp_ne_n (tgt := 220) dL_first_193 (by decide) (by omega) (by omega) (fun c_193 => ?_) (fun c_193 => ?_)
                  · refine E_iload dL_first_220 rfl ?_
                    refine E_iret dL_first_222 (Or.inl rfl) ?_
                    have hp : zrP c f (12 * f + l) L one two k := by
                      refine ⟨c_49, fun z => ?_, fun z => ?_, fun z => ?_⟩
                      · first
                          | exact c_91
                          | (exfalso; omega)
                      · first
                          | (exfalso; omega)
                          | exact ⟨Or.inl c_148, c_183⟩
                          | exact ⟨Or.inr ((by first | exact c_155 | assumption : rul c (12 * f + l) k 1 = _).trans (t1 c_121).symm), c_183⟩
                          | exact ⟨Or.inr (c_155.trans (t2 c_121).symm), c_183⟩
                      · first
                          | exact c_214
                          | (exfalso; omega)
                    rw [fnd_hit (P := zrP c f (12 * f + l) L one two) (by omega) hp] at he
                    rw [← he] at K
                    exact K (by omega)
                  · refine E_iload dL_first_196 rfl ?_
                    refine E_aload_n dL_first_198 rfl ?_
                    refine E_aload dL_first_199 rfl ?_
                    refine E_bipush (v := nI 6) dL_first_201 (by decide) ?_
                    refine E_ialdL (v := nI _) dL_first_203 (l_132 hL) (k_132 hL) rfl (by omega) (by decide) h.a6 ?_
                    refine E_aload_n dL_first_204 rfl ?_
                    refine E_iload dL_first_205 rfl ?_
                    refine E_laldL (v := pk _) dL_first_207 h.plt h.pkd rfl (by omega) (by decide) (h.wk (by omega)) ?_
                    refine E_callT1 (fr' := 1) (k1 := 0) (n1 := 0) (k2 := 0) (n2 := 0) dL_first_208 kO_L_glyphOf kL_L_108 (by exact Nat.le_of_ble_eq_true rfl) (by decide) (by exact Nat.le_of_ble_eq_true rfl) (Or.inl rfl) rfl ?_
                    refine sp_L_glyphOf (h.ok (by omega)) ?_
                    refine gKv ?_
                    refine E_callT3 (fr' := 2) (k1 := 0) (n1 := 0) (k2 := 0) (n2 := 0) dL_first_211 kO_L_mark kL_L_112 (by exact Nat.le_of_ble_eq_true rfl) (by decide) (by exact Nat.le_of_ble_eq_true rfl) (Or.inl rfl) rfl ?_
                    refine sp_L_mark (by first | exact h | exact h.S) hf (by first | assumption | exact h.gl (by omega)) ?_
                    refine gKv ?_
                    refine E_icmp_eq (tgt := 220) dL_first_214 (by decide) (fun c_214 => ?_) (fun c_214 => ?_)
                    · refine E_iload dL_first_220 rfl ?_
                      refine E_iret dL_first_222 (Or.inl rfl) ?_
                      have hp : zrP c f (12 * f + l) L one two k := by
                        refine ⟨c_49, fun z => ?_, fun z => ?_, fun z => ?_⟩
                        · first
                            | exact c_91
                            | (exfalso; omega)
                        · first
                            | (exfalso; omega)
                            | exact ⟨Or.inl c_148, c_183⟩
                            | exact ⟨Or.inr ((by first | exact c_155 | assumption : rul c (12 * f + l) k 1 = _).trans (t1 c_121).symm), c_183⟩
                            | exact ⟨Or.inr (c_155.trans (t2 c_121).symm), c_183⟩
                        · first
                            | exact c_214
                            | (exfalso; omega)
                      rw [fnd_hit (P := zrP c f (12 * f + l) L one two) (by omega) hp] at he
                      rw [← he] at K
                      exact K (by omega)
                    · refine E_goto (tgt := 223) dL_first_217 (by decide) ?_
                      refine nxt (fun q => ?_) (by omega) _ _ _
                      obtain ⟨q1, q2, q3, q4⟩ := q
                      first
                        | exact c_49 q1
                        | exact c_91 (q2 c_70)
                        | (rcases (q3 c_101).1 with z | z
                           · exact c_148 z
                           · rw [t1 c_121] at z; exact c_155 z)
                        | (rcases (q3 c_101).1 with z | z
                           · exact c_148 z
                           · rw [t2 c_121] at z; exact c_155 z)
                        | exact c_183 (q3 c_101).2
                        | exact c_214 (q4 c_193)
                · refine E_goto (tgt := 223) dL_first_186 (by decide) ?_
                  refine nxt (fun q => ?_) (by omega) _ _ _
                  obtain ⟨q1, q2, q3, q4⟩ := q
                  first
                    | exact c_49 q1
                    | exact c_91 (q2 c_70)
                    | (rcases (q3 c_101).1 with z | z
                       · exact c_148 z
                       · rw [t1 c_121] at z; exact c_155 z)
                    | (rcases (q3 c_101).1 with z | z
                       · exact c_148 z
                       · rw [t2 c_121] at z; exact c_155 z)
                    | exact c_183 (q3 c_101).2
                    | exact c_214 (q4 c_193)
              · refine E_iload dL_first_151 rfl ?_
                refine E_iload dL_first_153 rfl ?_
                refine E_icmp_ne_r (tgt := 223) dL_first_155 (by decide) (fun c_155 => ?_) (fun c_155 => ?_)
                · refine nxt (fun q => ?_) (by omega) _ _ _
                  obtain ⟨q1, q2, q3, q4⟩ := q
                  first
                    | exact c_49 q1
                    | exact c_91 (q2 c_70)
                    | (rcases (q3 c_101).1 with z | z
                       · exact c_148 z
                       · rw [t1 c_121] at z; exact c_155 z)
                    | (rcases (q3 c_101).1 with z | z
                       · exact c_148 z
                       · rw [t2 c_121] at z; exact c_155 z)
                    | exact c_183 (q3 c_101).2
                    | exact c_214 (q4 c_193)
                · refine E_aload_n dL_first_158 rfl ?_
                  refine E_iload dL_first_159 rfl ?_
                  refine E_iload dL_first_161 rfl ?_
                  refine E_iconst (v := nI 2) dL_first_163 (by decide) ?_
                  refine E_callT4 (fr' := 1) (k1 := 0) (n1 := 0) (k2 := 0) (n2 := 0) dL_first_164 kO_L_number kL_L_124 (by exact Nat.le_of_ble_eq_true rfl) (by decide) (by exact Nat.le_of_ble_eq_true rfl) (Or.inl rfl) rfl ?_
                  refine sp_L_number (by first | exact h | exact h.S) hf hl (by omega) (by decide) ?_
                  refine gKv ?_
                  refine E_aload_n dL_first_167 rfl ?_
                  refine E_aload dL_first_168 rfl ?_
                  refine E_bipush (v := nI 6) dL_first_170 (by decide) ?_
                  refine E_ialdL (v := nI _) dL_first_172 (l_132 hL) (k_132 hL) rfl (by omega) (by decide) h.a6 ?_
                  refine E_aload_n dL_first_173 rfl ?_
                  refine E_iload dL_first_174 rfl ?_
                  refine E_laldL (v := pk _) dL_first_176 h.plt h.pkd rfl (by omega) (by decide) (h.wk (by omega)) ?_
                  refine E_callT1 (fr' := 1) (k1 := 0) (n1 := 0) (k2 := 0) (n2 := 0) dL_first_177 kO_L_glyphOf kL_L_108 (by exact Nat.le_of_ble_eq_true rfl) (by decide) (by exact Nat.le_of_ble_eq_true rfl) (Or.inl rfl) rfl ?_
                  refine sp_L_glyphOf (h.ok (by omega)) ?_
                  refine gKv ?_
                  refine E_callT3 (fr' := 2) (k1 := 0) (n1 := 0) (k2 := 0) (n2 := 0) dL_first_180 kO_L_mark kL_L_112 (by exact Nat.le_of_ble_eq_true rfl) (by decide) (by exact Nat.le_of_ble_eq_true rfl) (Or.inl rfl) rfl ?_
                  refine sp_L_mark (by first | exact h | exact h.S) hf (by first | assumption | exact h.gl (by omega)) ?_
                  refine gKv ?_
                  refine E_icmp_eq (tgt := 189) dL_first_183 (by decide) (fun c_183 => ?_) (fun c_183 => ?_)
                  · refine E_iload dL_first_189 rfl ?_
                    refine E_bipush (v := nI 9) dL_first_191 (by decide) ?_
                    refine E_icmp_ne_n (tgt := 220) dL_first_193 (by decide) (by omega) (by omega) (fun c_193 => ?_) (fun c_193 => ?_)
                    · refine E_iload dL_first_220 rfl ?_
                      refine E_iret dL_first_222 (Or.inl rfl) ?_
                      have hp : zrP c f (12 * f + l) L one two k := by
                        refine ⟨c_49, fun z => ?_, fun z => ?_, fun z => ?_⟩
                        · first
                            | exact c_91
                            | (exfalso; omega)
                        · first
                            | (exfalso; omega)
                            | exact ⟨Or.inl c_148, c_183⟩
                            | exact ⟨Or.inr ((by first | exact c_155 | assumption : rul c (12 * f + l) k 1 = _).trans (t1 c_121).symm), c_183⟩
                            | exact ⟨Or.inr (c_155.trans (t2 c_121).symm), c_183⟩
                        · first
                            | exact c_214
                            | (exfalso; omega)
                      rw [fnd_hit (P := zrP c f (12 * f + l) L one two) (by omega) hp] at he
                      rw [← he] at K
                      exact K (by omega)
                    · refine E_iload dL_first_196 rfl ?_
                      refine E_aload_n dL_first_198 rfl ?_
                      refine E_aload dL_first_199 rfl ?_
                      refine E_bipush (v := nI 6) dL_first_201 (by decide) ?_
                      refine E_ialdL (v := nI _) dL_first_203 (l_132 hL) (k_132 hL) rfl (by omega) (by decide) h.a6 ?_
                      refine E_aload_n dL_first_204 rfl ?_
                      refine E_iload dL_first_205 rfl ?_
                      refine E_laldL (v := pk _) dL_first_207 h.plt h.pkd rfl (by omega) (by decide) (h.wk (by omega)) ?_
                      refine E_callT1 (fr' := 1) (k1 := 0) (n1 := 0) (k2 := 0) (n2 := 0) dL_first_208 kO_L_glyphOf kL_L_108 (by exact Nat.le_of_ble_eq_true rfl) (by decide) (by exact Nat.le_of_ble_eq_true rfl) (Or.inl rfl) rfl ?_
                      refine sp_L_glyphOf (h.ok (by omega)) ?_
                      refine gKv ?_
                      refine E_callT3 (fr' := 2) (k1 := 0) (n1 := 0) (k2 := 0) (n2 := 0) dL_first_211 kO_L_mark kL_L_112 (by exact Nat.le_of_ble_eq_true rfl) (by decide) (by exact Nat.le_of_ble_eq_true rfl) (Or.inl rfl) rfl ?_
                      refine sp_L_mark (by first | exact h | exact h.S) hf (by first | assumption | exact h.gl (by omega)) ?_
                      refine gKv ?_
                      refine E_icmp_eq (tgt := 220) dL_first_214 (by decide) (fun c_214 => ?_) (fun c_214 => ?_)
                      · refine E_iload dL_first_220 rfl ?_
                        refine E_iret dL_first_222 (Or.inl rfl) ?_
                        have hp : zrP c f (12 * f + l) L one two k := by
                          refine ⟨c_49, fun z => ?_, fun z => ?_, fun z => ?_⟩
                          · first
                              | exact c_91
                              | (exfalso; omega)
                          · first
                              | (exfalso; omega)
                              | exact ⟨Or.inl c_148, c_183⟩
                              | exact ⟨Or.inr ((by first | exact c_155 | assumption : rul c (12 * f + l) k 1 = _).trans (t1 c_121).symm), c_183⟩
                              | exact ⟨Or.inr (c_155.trans (t2 c_121).symm), c_183⟩
                          · first
                              | exact c_214
                              | (exfalso; omega)
                        rw [fnd_hit (P := zrP c f (12 * f + l) L one two) (by omega) hp] at he
                        rw [← he] at K
                        exact K (by omega)
                      · refine E_goto (tgt := 223) dL_first_217 (by decide) ?_
                        refine nxt (fun q => ?_) (by omega) _ _ _
                        obtain ⟨q1, q2, q3, q4⟩ := q
                        first
                          | exact c_49 q1
                          | exact c_91 (q2 c_70)
                          | (rcases (q3 c_101).1 with z | z
                             · exact c_148 z
                             · rw [t1 c_121] at z; exact c_155 z)
                          | (rcases (q3 c_101).1 with z | z
                             · exact c_148 z
                             · rw [t2 c_121] at z; exact c_155 z)
                          | exact c_183 (q3 c_101).2
                          | exact c_214 (q4 c_193)
                  · refine E_goto (tgt := 223) dL_first_186 (by decide) ?_
                    refine nxt (fun q => ?_) (by omega) _ _ _
                    obtain ⟨q1, q2, q3, q4⟩ := q
                    first
                      | exact c_49 q1
                      | exact c_91 (q2 c_70)
                      | (rcases (q3 c_101).1 with z | z
                         · exact c_148 z
                         · rw [t1 c_121] at z; exact c_155 z)
                      | (rcases (q3 c_101).1 with z | z
                         · exact c_148 z
                         · rw [t2 c_121] at z; exact c_155 z)
                      | exact c_183 (q3 c_101).2
                      | exact c_214 (q4 c_193)
        · refine E_goto (tgt := 223) dL_first_94 (by decide) ?_
          refine nxt (fun q => ?_) (by omega) _ _ _
          obtain ⟨q1, q2, q3, q4⟩ := q
          first
            | exact c_49 q1
            | exact c_91 (q2 c_70)
            | (rcases (q3 c_101).1 with z | z
               · exact c_148 z
               · rw [t1 c_121] at z; exact c_155 z)
            | (rcases (q3 c_101).1 with z | z
               · exact c_148 z
               · rw [t2 c_121] at z; exact c_155 z)
            | exact c_183 (q3 c_101).2
            | exact c_214 (q4 c_193)
    · refine E_goto (tgt := 223) dL_first_52 (by decide) ?_
      refine nxt (fun q => ?_) (by omega) _ _ _
      obtain ⟨q1, q2, q3, q4⟩ := q
      first
        | exact c_49 q1
        | exact c_91 (q2 c_70)
        | (rcases (q3 c_101).1 with z | z
           · exact c_148 z
           · rw [t1 c_121] at z; exact c_155 z)
        | (rcases (q3 c_101).1 with z | z
           · exact c_148 z
           · rw [t2 c_121] at z; exact c_155 z)
        | exact c_183 (q3 c_101).2
        | exact c_214 (q4 c_193)
set_option maxRecDepth 100000 in
set_option maxHeartbeats 4000000 in
theorem sp_L_first {g : gG} {M : gM} {Q : Option Value ⊕ String → gM → Prop} {c : Cf} {f : Nat} {M0 : gM} {pw : Nat} {L : List Gl} {w z : Int32} (h : lX c f M0 pw L w z M) {l : Nat} (hl : l < cN c 129 f) {one two : Nat} (h1 : one < L.length) (h2 : two < L.length) (K0 : ¬ zrA c f (12 * f + l) L one two < cN c 135 (12 * f + l) → Q (.inl (some (.int (-1)))) M) (K : zrA c f (12 * f + l) L one two < cN c 135 (12 * f + l) → Q (.inl (some (.int (nI (zrA c f (12 * f + l) L one two))))) M) : E g 3 0 0 mL_first 0 [.ref (pw + 1), .ref 131, .ref 130, .ref 132, .ref 133, .int (nI (8 * f + l)), .int (nI one), .int (nI two), .null, .null, .null, .null, .null] [] M Q := by
  have hL := h.lay
  have hf := h.f2
  have hn := h.len
  have hct := h.ct
  have hmb := mEn_b h.wf (12 * f + l)
  refine E_aload_n dL_first_0 rfl ?_
  refine E_iload dL_first_1 rfl ?_
  refine E_ialdL (v := nI (mEn _ _)) dL_first_3 (l_129 hL) (k_129 hL) rfl (by omega) (by decide) (h.me hl) ?_
  refine E_bipush (v := nI 15) dL_first_4 (by decide) ?_
  refine E_iand dL_first_6 ?_
  rw [mE_0_15 h.wf]
  refine E_istore dL_first_7 (Nat.le_of_ble_eq_true rfl) (by decide) rfl ?_
  refine E_iconst (v := nI 0) dL_first_9 (by decide) ?_
  refine E_istore dL_first_10 (Nat.le_of_ble_eq_true rfl) (by decide) rfl ?_
  exact lp_L_first h hl h1 h2 K0 K 0 (Nat.zero_le _) rfl _ _ _
