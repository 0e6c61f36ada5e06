/-! the law: contexts -/
theorem dI_0 : dI 0 = -1 := by decide
theorem thr_0 {c : Cf} {f : Nat} {L : List Gl} {item : Int32} : thr c f L item 0 ↔ item = -100 := by
  unfold thr
  exact ⟨fun q => q.elim id (fun z => by omega), Or.inl⟩
theorem thr_o {c : Cf} {f : Nat} {L : List Gl} {item : Int32} {p : Nat} (h : L.length < p) : thr c f L item p ↔ item = -100 := by
  unfold thr
  exact ⟨fun q => q.elim id (fun z => by omega), Or.inl⟩
theorem thr_i {c : Cf} {f : Nat} {L : List Gl} {item : Int32} {i : Nat} (h : ¬ item = -100) (hi : i < L.length) : thr c f L item (i + 1) ↔ isAt c f item (yN (gat L i)) := by
  unfold thr
  rw [Nat.add_sub_cancel]
  exact ⟨fun q => q.elim (fun z => absurd z h) (fun z => z.2.2), fun q => Or.inr ⟨by omega, by omega, q⟩⟩
theorem iItem_z {v : Int32} (h : iItem v) : ¬ v = -100 := by
  intro e
  subst e
  rcases h with ⟨h, -⟩ | ⟨h, -⟩
  · exact absurd h (by decide)
  · exact absurd h (by decide)
theorem sp_L_fitsN {g : gG} {M : gM} {Q : Option Value ⊕ String → gM → Prop} {c : Cf} {f : Nat} {M0 : gM} {pw : Nat} {L : List Gl} {w z : Int32} (h : lX c f M0 pw L w z M) {item : Int32} {i : Nat} (hi : i < L.length) (K : Q (.inl (some (.int (b2i (thr c f L item (i + 1)))))) M) : E g 3 0 0 mL_fits 0 [.ref (pw + 1), .ref 132, .ref 133, .int item, .int (nI i)] [] M Q := by
  rw [← dI_succ i]
  exact sp_L_fits h (by omega) K
theorem sp_L_fitsM {g : gG} {M : gM} {Q : Option Value ⊕ String → gM → Prop} {c : Cf} {f : Nat} {M0 : gM} {pw : Nat} {L : List Gl} {w z : Int32} (h : lX c f M0 pw L w z M) {item : Int32} (K : Q (.inl (some (.int (b2i (thr c f L item 0))))) M) : E g 3 0 0 mL_fits 0 [.ref (pw + 1), .ref 132, .ref 133, .int item, .int (-1)] [] M Q := by
  rw [← dI_0]
  exact sp_L_fits h (by omega) K
set_option maxRecDepth 100000 in
set_option maxHeartbeats 4000000 in
theorem tl_L_context {g : gG} {Q : Option Value ⊕ String → gM → Prop} {c : Cf} {f : Nat} {M0 : gM} {pw : Nat} {L' : List Gl} {z' : Int32} {l i k t : Nat} (hit : i ≤ t) (ht : t < 2 ^ 20) (K : ∀ M, lX c f M0 pw L' (-1) z' M → Q (.inl (some (.int (nI (t + 1))))) M) : ∀ M v8 v9 v10 v11 (x12 : Int32) v13, lX c f M0 pw L' (nI t) z' M → E g 7 0 0 mL_context 274 [.ref (pw + 1), .ref 130, .ref 131, .ref 132, .ref 133, .int (nI (8 * f + l)), .int (nI i), .int (nI k), v8, v9, v10, v11, .int x12, v13] [] M Q := by
  intro M v8 v9 v10 v11 x12 v13 h
  have hL := h.lay
  have hf := h.f2
  have hn := h.len
  have hct := h.ct
  refine E_aload dL_context_274 rfl ?_
  refine E_bipush (v := nI 7) dL_context_276 (by decide) ?_
  refine E_ialdL (v := nI _) dL_context_278 (l_132 hL) (k_132 hL) rfl (by omega) (by decide) h.a7 ?_
  refine E_iconst (v := nI 1) dL_context_279 (by decide) ?_
  refine E_iadd_n dL_context_280 ?_
  refine E_istore dL_context_281 (Nat.le_of_ble_eq_true rfl) (by decide) rfl ?_
  refine E_aload dL_context_283 rfl ?_
  refine E_bipush (v := nI 7) dL_context_285 (by decide) ?_
  refine E_iconst (v := -1) dL_context_287 (by decide) ?_
  refine E_setW dL_context_288 h (fun M h => ?_)
  have hL := h.lay
  refine E_iload dL_context_289 rfl ?_
  refine E_iload dL_context_291 rfl ?_
  refine E_icmp_le_n (tgt := 301) dL_context_293 (by decide) (by omega) (by omega) (fun c_293 => ?_) (fun c_293 => ?_)
  · exfalso; omega
  · refine E_iload dL_context_296 rfl ?_
    refine E_goto (tgt := 305) dL_context_298 (by decide) ?_
    refine E_iret dL_context_305 (Or.inl rfl) ?_
    exact K M h
set_option maxRecDepth 100000 in
set_option maxHeartbeats 4000000 in
theorem cr_L_context {g : gG} {Q : Option Value ⊕ String → gM → Prop} {c : Cf} {f : Nat} {M0 : gM} {pw : Nat} {L : List Gl} {z : Int32} {l : Nat} (hl : l < cN c 129 f) {i k two s q : Nat} {B : Nat} (bd : bdJ B i L) (hi : i < L.length) (hk : k < cN c 135 (12 * f + l)) (his : i ≤ s) (hst : s ≤ two) (h2 : two < L.length) (hq : q ≤ 11) (htw : twC c f L (12 * f + l) k i = two) (hsp : spo c f L (12 * f + l) k i = s) (hq5 : rul c (12 * f + l) k 5 = nI q) (K : ∀ M z' L' i', lX c f M0 pw L' (-1) z' M → stpB L i L' i' → (z' = nI 1 ∨ (z' = z ∧ L' = cxL c f L (12 * f + l) k i ∧ i' = cxI c f L (12 * f + l) k i)) → Q (.inl (some (.int (nI i')))) M) : ∀ M v8 v9 v13, lX c f M0 pw L (nI two) z M → E g 7 0 0 mL_context 202 [.ref (pw + 1), .ref 130, .ref 131, .ref 132, .ref 133, .int (nI (8 * f + l)), .int (nI i), .int (nI k), v8, v9, .int (nI q), .int (nI s), .null, v13] [] M Q := by
  intro M v8 v9 v13 h
  have eL : cxL c f L (12 * f + l) k i = caL c f L q s := by unfold cxL; rw [hsp, hq5, gN_nI (by omega)]
  have eW : cxW c f L (12 * f + l) k i = caW c f L (nI two) q s := by unfold cxW; rw [hsp, hq5, gN_nI (by omega), htw]
  have hn64 := h.len
  have ho := h.2
  have hmq := mEn_b h.wf (12 * f + q)
  have no : ¬ caP c f L q s → ∀ M (x12 : Int32) v13, lX c f M0 pw L (nI two) z M → E g 7 0 0 mL_context 274 [.ref (pw + 1), .ref 130, .ref 131, .ref 132, .ref 133, .int (nI (8 * f + l)), .int (nI i), .int (nI k), v8, v9, .int (nI q), .int (nI s), .int x12, v13] [] M Q := by
    intro hc M x12 v13 h
    have e1 : cxL c f L (12 * f + l) k i = L := by rw [eL]; exact cI_f hc
    have e2 : cxI c f L (12 * f + l) k i = two + 1 := by unfold cxI; rw [eW, show caW c f L (nI two) q s = nI two from cI_f hc, gN_nI (by omega)]
    exact tl_L_context (by omega) (by omega) (fun M h => K M z L (two + 1) h (stpB_1 (by omega) (by omega) hi) (Or.inr ⟨rfl, e1.symm, e2.symm⟩)) M _ _ _ _ _ _ h
  have hL := h.lay
  have hf := h.f2
  have hn := h.len
  have hct := h.ct
  refine E_bipush (v := nI 8) dL_context_202 (by decide) ?_
  refine E_aload dL_context_204 rfl ?_
  refine E_bipush (v := nI 6) dL_context_206 (by decide) ?_
  refine E_ialdL (v := nI _) dL_context_208 (l_132 hL) (k_132 hL) rfl (by omega) (by decide) h.a6 ?_
  refine E_imul_n dL_context_209 ?_
  refine E_iload dL_context_210 rfl ?_
  refine E_iadd_n dL_context_212 ?_
  refine E_istore dL_context_213 (Nat.le_of_ble_eq_true rfl) (by decide) rfl ?_
  refine E_iload dL_context_215 rfl ?_
  refine E_aload dL_context_217 rfl ?_
  refine E_iconst (v := nI 3) dL_context_219 (by decide) ?_
  refine E_aload dL_context_220 rfl ?_
  refine E_bipush (v := nI 6) dL_context_222 (by decide) ?_
  refine E_ialdL (v := nI _) dL_context_224 (l_132 hL) (k_132 hL) rfl (by omega) (by decide) h.a6 ?_
  refine E_iadd_n dL_context_225 ?_
  refine E_ialdL (v := nI (cN c 129 f)) dL_context_226 (l_132 hL) (k_132 hL) rfl (by omega) (by decide) (h.S.b3 hf) ?_
  refine E_icmp_ge_n (tgt := 274) dL_context_227 (by decide) (by omega) (by omega) (fun e_227 => ?_) (fun e_227 => ?_)
  · first
      | exact no (fun hc => by have q1 := hc.1; have q2 := hc.2.1; omega) M _ _ h
      | exact no (fun hc => hc.2.2.1 e_257) M _ _ h
  · refine E_aload_n dL_context_230 rfl ?_
    refine E_iload dL_context_231 rfl ?_
    refine E_ialdL (v := nI (mEn c (12 * f + q))) dL_context_233 (l_129 hL) (k_129 hL) rfl (by omega) (by decide) (h.me (show q < cN c 129 f by omega)) ?_
    refine E_bipush (v := nI 15) dL_context_234 (by decide) ?_
    refine E_iand dL_context_236 ?_
    rw [mE_0_15 h.wf]
    refine E_iconst (v := nI 4) dL_context_237 (by decide) ?_
    refine E_icmp_ge_n (tgt := 274) dL_context_238 (by decide) (by omega) (by omega) (fun e_238 => ?_) (fun e_238 => ?_)
    · first
        | exact no (fun hc => by have q1 := hc.1; have q2 := hc.2.1; omega) M _ _ h
        | exact no (fun hc => hc.2.2.1 e_257) M _ _ h
    · refine E_aload_n dL_context_241 rfl ?_
      refine E_aload_n dL_context_242 rfl ?_
      refine E_aload dL_context_243 rfl ?_
      refine E_bipush (v := nI 6) dL_context_245 (by decide) ?_
      refine E_ialdL (v := nI _) dL_context_247 (l_132 hL) (k_132 hL) rfl (by omega) (by decide) h.a6 ?_
      refine E_iload dL_context_248 rfl ?_
      refine E_aload_n dL_context_250 rfl ?_
      refine E_iload dL_context_251 rfl ?_
      refine E_laldL (v := pk (gat L s)) dL_context_253 h.plt h.pkd rfl (by omega) (by decide) (h.wk (by omega)) ?_
      refine E_callT5 (fr' := 3) (k1 := 0) (n1 := 0) (k2 := 0) (n2 := 0) dL_context_254 kO_L_passed kL_L_120 (by exact Nat.le_of_ble_eq_true rfl) (by decide) (by exact Nat.le_of_ble_eq_true rfl) (Or.inl rfl) rfl ?_
      refine sp_L_passed h.S hf (show q < cN c 129 f by omega) (h.ok (by omega)) ?_
      refine gKv ?_
      refine E_if_ne_b (tgt := 274) dL_context_257 (by decide) (fun e_257 => ?_) (fun e_257 => ?_)
      · first
          | exact no (fun hc => by have q1 := hc.1; have q2 := hc.2.1; omega) M _ _ h
          | exact no (fun hc => hc.2.2.1 e_257) M _ _ h
      · refine E_aload_n dL_context_260 rfl ?_
        refine E_aload_n dL_context_261 rfl ?_
        refine E_aload_n dL_context_262 rfl ?_
        refine E_aload_n dL_context_263 rfl ?_
        refine E_aload dL_context_264 rfl ?_
        refine E_iload dL_context_266 rfl ?_
        refine E_iload dL_context_268 rfl ?_
        refine E_callT7 (fr' := 6) (k1 := 0) (n1 := 0) (k2 := 0) (n2 := 0) dL_context_270 kO_L_rules kL_L_161 (by exact Nat.le_of_ble_eq_true rfl) (by decide) (by exact Nat.le_of_ble_eq_true rfl) (Or.inl rfl) rfl ?_
        refine sp_L_rules h (show q < cN c 129 f by omega) (by omega) (by omega) (bdJ_up bd his) ⟨two + 1, by omega, (dI_succ two).symm⟩ (fun M z' h hz => ?_) (fun k' M z' hk' hf' h hz => ?_)
        · have hL := h.lay
          refine E_pop dL_context_273 rfl ?_
          refine tl_L_context (by omega) (by omega) (fun M h => K M z' L (two + 1) h (stpB_1 (by omega) (by omega) hi) (hz.imp id (fun zz => ⟨zz.1, ?_, ?_⟩))) M _ _ _ _ _ _ h
          · rw [eL]; exact (cI_f (fun hc => zz.2 hc.2.2.2)).symm
          · unfold cxI
            rw [eW, show caW c f L (nI two) q s = nI two from cI_f (fun hc => zz.2 hc.2.2.2), gN_nI (by omega)]
        · have hL := h.lay
          obtain ⟨t', a1, a2, a3, a4, a5⟩ := chg_wI hn64 hst h2 hf'
          rw [a1] at h
          refine E_pop dL_context_273 rfl ?_
          refine tl_L_context (by omega) (by omega) (fun M h => K M z' _ (t' + 1) h (stpB_w ho his hst h2 hf' a1 (by omega)) (hz.imp id (fun zz => ?_))) M _ _ _ _ _ _ h
          obtain ⟨z1, z2⟩ := zz
          have hc : caP c f L q s := ⟨by omega, by omega, e_257, by rw [← z2]; exact hk'⟩
          refine ⟨z1, ?_, ?_⟩
          · rw [eL, show caL c f L q s = _ from cI_t hc, ← z2]
          · unfold cxI
            rw [eW, show caW c f L (nI two) q s = _ from cI_t hc, ← z2, a1, gN_nI (by omega)]
set_option maxRecDepth 100000 in
set_option maxHeartbeats 4000000 in
theorem cx_L_context {g : gG} {M : gM} {Q : Option Value ⊕ String → gM → Prop} {c : Cf} {f : Nat} {M0 : gM} {pw : Nat} {L : List Gl} {w z : Int32} (h : lX c f M0 pw L w z M) {l : Nat} (hl : l < cN c 129 f) {i k two : Nat} {B : Nat} (bd : bdJ B i L) (hi : i < L.length) (hk : k < cN c 135 (12 * f + l)) (hkd : cN c 130 (12 * f + l) = 4) (hit : i ≤ two) (h2 : two < L.length) (htw : twC c f L (12 * f + l) k i = two) (K : ∀ M z' L' i', lX c f M0 pw L' (-1) z' M → stpB L i L' i' → (z' = nI 1 ∨ (z' = z ∧ L' = cxL c f L (12 * f + l) k i ∧ i' = cxI c f L (12 * f + l) k i)) → Q (.inl (some (.int (nI i')))) M) : ∀ v8 v13, E g 7 0 0 mL_context 163 [.ref (pw + 1), .ref 130, .ref 131, .ref 132, .ref 133, .int (nI (8 * f + l)), .int (nI i), .int (nI k), v8, .int (nI two), .null, .null, .null, v13] [] M Q := by
  intro v8 v13
  have hL := h.lay
  have hf := h.f2
  have hn := h.len
  have hct := h.ct
  have hr := h.wf.ru hk
  rw [hkd] at hr
  have hr : (rul c (12 * f + l) k 4 = 0 ∨ _) ∧ iIn (rul c (12 * f + l) k 5) (nI 0) (nI 11) := hr.2
  obtain ⟨g1, g2⟩ := gN_ok hr.2 (by decide)
  have hr4 := h.S.r4 (12 * f + l)
  refine E_aload dL_context_163 rfl ?_
  refine E_bipush (v := nI 7) dL_context_165 (by decide) ?_
  refine E_iload dL_context_167 rfl ?_
  refine E_setW dL_context_169 h (fun M h => ?_)
  have hL := h.lay
  refine E_aload_n dL_context_170 rfl ?_
  refine E_iload dL_context_171 rfl ?_
  refine E_iload dL_context_173 rfl ?_
  refine E_iconst (v := nI 5) dL_context_175 (by decide) ?_
  refine E_callT4 (fr' := 1) (k1 := 0) (n1 := 0) (k2 := 0) (n2 := 0) dL_context_176 kO_L_number kL_L_124 (by exact Nat.le_of_ble_eq_true rfl) (by decide) (by exact Nat.le_of_ble_eq_true rfl) (Or.inl rfl) rfl ?_
  refine sp_L_number h.S hf hl hk (by decide) ?_
  rw [g1]
  refine gKv ?_
  refine E_istore dL_context_179 (Nat.le_of_ble_eq_true rfl) (by decide) rfl ?_
  refine E_aload_n dL_context_181 rfl ?_
  refine E_iload dL_context_182 rfl ?_
  refine E_iload dL_context_184 rfl ?_
  refine E_iconst (v := nI 4) dL_context_186 (by decide) ?_
  refine E_callT4 (fr' := 1) (k1 := 0) (n1 := 0) (k2 := 0) (n2 := 0) dL_context_187 kO_L_number kL_L_124 (by exact Nat.le_of_ble_eq_true rfl) (by decide) (by exact Nat.le_of_ble_eq_true rfl) (Or.inl rfl) rfl ?_
  refine sp_L_number (by first | exact h | exact h.S) hf hl (by omega) (by decide) ?_
  refine gKv ?_
  refine E_if_ne_r (tgt := 198) dL_context_190 (by decide) (fun c_190 => ?_) (fun c_190 => ?_)
  · refine E_iload dL_context_198 rfl ?_
    refine E_istore dL_context_200 (Nat.le_of_ble_eq_true rfl) (by decide) rfl ?_
    have s1 : spo c f L (12 * f + l) k i = _ := (by unfold spo; first | exact cI_t c_190 | exact cI_f c_190)
    first
      | exact cr_L_context hl bd hi hk (by omega) (by omega) h2 g2 htw s1 g1 K M _ _ _ h
      | exact cr_L_context hl bd hi hk (by omega) (by omega) h2 g2 htw (s1.trans htw) g1 K M _ _ _ h
  · refine E_iload dL_context_193 rfl ?_
    refine E_goto (tgt := 200) dL_context_195 (by decide) ?_
    refine E_istore dL_context_200 (Nat.le_of_ble_eq_true rfl) (by decide) rfl ?_
    have s1 : spo c f L (12 * f + l) k i = _ := (by unfold spo; first | exact cI_t c_190 | exact cI_f c_190)
    first
      | exact cr_L_context hl bd hi hk (by omega) (by omega) h2 g2 htw s1 g1 K M _ _ _ h
      | exact cr_L_context hl bd hi hk (by omega) (by omega) h2 g2 htw (s1.trans htw) g1 K M _ _ _ h
set_option maxRecDepth 100000 in
set_option maxHeartbeats 4000000 in
theorem md_L_context {g : gG} {M : gM} {Q : Option Value ⊕ String → gM → Prop} {c : Cf} {f : Nat} {M0 : gM} {pw : Nat} {L : List Gl} {w z : Int32} (h : lX c f M0 pw L w z M) {l : Nat} (hl : l < cN c 129 f) {i k two : Nat} {B : Nat} (bd : bdJ B i L) (hi : i < L.length) (hk : k < cN c 135 (12 * f + l)) (hkd : cN c 130 (12 * f + l) = 4) (hit : i ≤ two) (h2 : two < L.length) (htw : twC c f L (12 * f + l) k i = two) (K0 : ¬ cfit c f L (12 * f + l) k i → ∀ v8 v9 v13, E g 7 0 0 mL_context 306 [.ref (pw + 1), .ref 130, .ref 131, .ref 132, .ref 133, .int (nI (8 * f + l)), .int (nI i), .int (nI k), v8, v9, .null, .null, .null, v13] [] M Q) (K : cfit c f L (12 * f + l) k i → ∀ M z' L' i', lX c f M0 pw L' (-1) z' M → stpB L i L' i' → (z' = nI 1 ∨ (z' = z ∧ L' = cxL c f L (12 * f + l) k i ∧ i' = cxI c f L (12 * f + l) k i)) → Q (.inl (some (.int (nI i')))) M) : ∀ v13, E g 7 0 0 mL_context 58 [.ref (pw + 1), .ref 130, .ref 131, .ref 132, .ref 133, .int (nI (8 * f + l)), .int (nI i), .int (nI k), .int (rul c (12 * f + l) k 2), .int (nI two), .null, .null, .null, v13] [] M Q := by
  intro v13
  have hL := h.lay
  have hf := h.f2
  have hn := h.len
  have hct := h.ct
  have hr := h.wf.ru hk
  rw [hkd] at hr
  have hi1 := iItem_z (iF4 hr.1).2.1
  have hr4 := h.S.r4 (12 * f + l)
  have ti := thr_i (c := c) (f := f) hi1 hi
  have hb2 := aft_b c f (12 * f + l) h2
  refine E_aload_n dL_context_58 rfl ?_
  refine E_aload_n dL_context_59 rfl ?_
  refine E_aload dL_context_60 rfl ?_
  refine E_aload_n dL_context_62 rfl ?_
  refine E_iload dL_context_63 rfl ?_
  refine E_iload dL_context_65 rfl ?_
  refine E_iconst (v := nI 1) dL_context_67 (by decide) ?_
  refine E_callT4 (fr' := 1) (k1 := 0) (n1 := 0) (k2 := 0) (n2 := 0) dL_context_68 kO_L_number kL_L_124 (by exact Nat.le_of_ble_eq_true rfl) (by decide) (by exact Nat.le_of_ble_eq_true rfl) (Or.inl rfl) rfl ?_
  refine sp_L_number (by first | exact h | exact h.S) hf hl (by omega) (by decide) ?_
  refine gKv ?_
  refine E_iload dL_context_71 rfl ?_
  refine E_callT5 (fr' := 3) (k1 := 0) (n1 := 0) (k2 := 0) (n2 := 0) dL_context_73 kO_L_fits kL_L_157 (by exact Nat.le_of_ble_eq_true rfl) (by decide) (by exact Nat.le_of_ble_eq_true rfl) (Or.inl rfl) rfl ?_
  refine sp_L_fitsN h (by omega) ?_
  refine gKv ?_
  refine E_if_eq_b (tgt := 306) dL_context_76 (by decide) (fun c_76 => ?_) (fun c_76 => ?_)
  · refine K0 (fun hc => ?_) _ _ _
    obtain ⟨q1, q2, q3, q4⟩ := hc
    rw [htw] at q2 q4
    first
      | exact c_76 (ti.mpr q1)
      | exact c_90 q2
      | exact c_125 q3
      | exact c_157 (thr_0.mpr ((thr_o (by omega)).mp q4))
      | exact c_157 q4
  · refine E_aload_n dL_context_79 rfl ?_
    refine E_aload_n dL_context_80 rfl ?_
    refine E_aload dL_context_81 rfl ?_
    refine E_iload dL_context_83 rfl ?_
    refine E_iload dL_context_85 rfl ?_
    refine E_callT5 (fr' := 3) (k1 := 0) (n1 := 0) (k2 := 0) (n2 := 0) dL_context_87 kO_L_fits kL_L_157 (by exact Nat.le_of_ble_eq_true rfl) (by decide) (by exact Nat.le_of_ble_eq_true rfl) (Or.inl rfl) rfl ?_
    refine sp_L_fitsN h (by omega) ?_
    refine gKv ?_
    refine E_if_ne_b (tgt := 96) dL_context_90 (by decide) (fun c_90 => ?_) (fun c_90 => ?_)
    · refine E_aload_n dL_context_96 rfl ?_
      refine E_aload_n dL_context_97 rfl ?_
      refine E_aload dL_context_98 rfl ?_
      refine E_aload_n dL_context_100 rfl ?_
      refine E_iload dL_context_101 rfl ?_
      refine E_iload dL_context_103 rfl ?_
      refine E_iconst (v := nI 0) dL_context_105 (by decide) ?_
      refine E_callT4 (fr' := 1) (k1 := 0) (n1 := 0) (k2 := 0) (n2 := 0) dL_context_106 kO_L_number kL_L_124 (by exact Nat.le_of_ble_eq_true rfl) (by decide) (by exact Nat.le_of_ble_eq_true rfl) (Or.inl rfl) rfl ?_
      refine sp_L_number (by first | exact h | exact h.S) hf hl (by omega) (by decide) ?_
      refine gKv ?_
      refine E_aload_n dL_context_109 rfl ?_
      refine E_aload_n dL_context_110 rfl ?_
      refine E_aload_n dL_context_111 rfl ?_
      refine E_aload dL_context_112 rfl ?_
      refine E_iload dL_context_114 rfl ?_
      refine E_iload dL_context_116 rfl ?_
      refine E_iconst (v := -1) dL_context_118 (by decide) ?_
      refine E_callT7 (fr' := 4) (k1 := 0) (n1 := 0) (k2 := 0) (n2 := 0) dL_context_119 kO_L_next kL_L_145 (by exact Nat.le_of_ble_eq_true rfl) (by decide) (by exact Nat.le_of_ble_eq_true rfl) (Or.inl rfl) rfl ?_
      refine sp_L_nextB h hl (by omega) ?_
      refine gKv ?_
      refine E_callT5 (fr' := 3) (k1 := 0) (n1 := 0) (k2 := 0) (n2 := 0) dL_context_122 kO_L_fits kL_L_157 (by exact Nat.le_of_ble_eq_true rfl) (by decide) (by exact Nat.le_of_ble_eq_true rfl) (Or.inl rfl) rfl ?_
      refine sp_L_fits h (Nat.le_trans (ahd_le _ _ _ _ _) (by omega)) ?_
      refine gKv ?_
      refine E_if_eq_b (tgt := 306) dL_context_125 (by decide) (fun c_125 => ?_) (fun c_125 => ?_)
      · refine K0 (fun hc => ?_) _ _ _
        obtain ⟨q1, q2, q3, q4⟩ := hc
        rw [htw] at q2 q4
        first
          | exact c_76 (ti.mpr q1)
          | exact c_90 q2
          | exact c_125 q3
          | exact c_157 (thr_0.mpr ((thr_o (by omega)).mp q4))
          | exact c_157 q4
      · refine E_aload_n dL_context_128 rfl ?_
        refine E_aload_n dL_context_129 rfl ?_
        refine E_aload dL_context_130 rfl ?_
        refine E_aload_n dL_context_132 rfl ?_
        refine E_iload dL_context_133 rfl ?_
        refine E_iload dL_context_135 rfl ?_
        refine E_iconst (v := nI 3) dL_context_137 (by decide) ?_
        refine E_callT4 (fr' := 1) (k1 := 0) (n1 := 0) (k2 := 0) (n2 := 0) dL_context_138 kO_L_number kL_L_124 (by exact Nat.le_of_ble_eq_true rfl) (by decide) (by exact Nat.le_of_ble_eq_true rfl) (Or.inl rfl) rfl ?_
        refine sp_L_number (by first | exact h | exact h.S) hf hl (by omega) (by decide) ?_
        refine gKv ?_
        refine E_aload_n dL_context_141 rfl ?_
        refine E_aload_n dL_context_142 rfl ?_
        refine E_aload_n dL_context_143 rfl ?_
        refine E_aload dL_context_144 rfl ?_
        refine E_iload dL_context_146 rfl ?_
        refine E_iload dL_context_148 rfl ?_
        refine E_iconst (v := nI 1) dL_context_150 (by decide) ?_
        refine E_callT7 (fr' := 4) (k1 := 0) (n1 := 0) (k2 := 0) (n2 := 0) dL_context_151 kO_L_next kL_L_145 (by exact Nat.le_of_ble_eq_true rfl) (by decide) (by exact Nat.le_of_ble_eq_true rfl) (Or.inl rfl) rfl ?_
        refine sp_L_nextF h hl h2 (fun hn1 => ?_) (fun hn1 => ?_)
        · refine gKv ?_
          refine E_callT5 (fr' := 3) (k1 := 0) (n1 := 0) (k2 := 0) (n2 := 0) dL_context_154 kO_L_fits kL_L_157 (by exact Nat.le_of_ble_eq_true rfl) (by decide) (by exact Nat.le_of_ble_eq_true rfl) (Or.inl rfl) rfl ?_
          refine sp_L_fitsM h ?_
          refine gKv ?_
          refine E_if_ne_b (tgt := 163) dL_context_157 (by decide) (fun c_157 => ?_) (fun c_157 => ?_)
          · have hc : cfit c f L (12 * f + l) k i := by
              refine ⟨ti.mp c_76, by rw [htw]; exact c_90, c_125, ?_⟩
              rw [htw]
              first
                | exact (thr_o (by omega)).mpr (thr_0.mp c_157)
                | exact c_157
            exact cx_L_context h hl bd hi hk hkd hit h2 htw (K hc) _ _
          · refine E_goto (tgt := 306) dL_context_160 (by decide) ?_
            refine K0 (fun hc => ?_) _ _ _
            obtain ⟨q1, q2, q3, q4⟩ := hc
            rw [htw] at q2 q4
            first
              | exact c_76 (ti.mpr q1)
              | exact c_90 q2
              | exact c_125 q3
              | exact c_157 (thr_0.mpr ((thr_o (by omega)).mp q4))
              | exact c_157 q4
        · refine gKv ?_
          refine E_callT5 (fr' := 3) (k1 := 0) (n1 := 0) (k2 := 0) (n2 := 0) dL_context_154 kO_L_fits kL_L_157 (by exact Nat.le_of_ble_eq_true rfl) (by decide) (by exact Nat.le_of_ble_eq_true rfl) (Or.inl rfl) rfl ?_
          refine sp_L_fitsN h (by omega) ?_
          refine gKv ?_
          refine E_if_ne_b (tgt := 163) dL_context_157 (by decide) (fun c_157 => ?_) (fun c_157 => ?_)
          · have hc : cfit c f L (12 * f + l) k i := by
              refine ⟨ti.mp c_76, by rw [htw]; exact c_90, c_125, ?_⟩
              rw [htw]
              first
                | exact (thr_o (by omega)).mpr (thr_0.mp c_157)
                | exact c_157
            exact cx_L_context h hl bd hi hk hkd hit h2 htw (K hc) _ _
          · refine E_goto (tgt := 306) dL_context_160 (by decide) ?_
            refine K0 (fun hc => ?_) _ _ _
            obtain ⟨q1, q2, q3, q4⟩ := hc
            rw [htw] at q2 q4
            first
              | exact c_76 (ti.mpr q1)
              | exact c_90 q2
              | exact c_125 q3
              | exact c_157 (thr_0.mpr ((thr_o (by omega)).mp q4))
              | exact c_157 q4
    · refine E_goto (tgt := 306) dL_context_93 (by decide) ?_
      refine K0 (fun hc => ?_) _ _ _
      obtain ⟨q1, q2, q3, q4⟩ := hc
      rw [htw] at q2 q4
      first
        | exact c_76 (ti.mpr q1)
        | exact c_90 q2
        | exact c_125 q3
        | exact c_157 (thr_0.mpr ((thr_o (by omega)).mp q4))
        | exact c_157 q4
set_option maxRecDepth 100000 in
set_option maxHeartbeats 4000000 in
theorem lp_L_context {g : gG} {M : gM} {Q : Option Value ⊕ String → gM → Prop} {c : Cf} {f : Nat} {M0 : gM} {pw : Nat} {L : List Gl} {w z : Int32} (h : lX c f M0 pw L w z M) {l : Nat} (hl : l < cN c 129 f) {i : Nat} {B : Nat} (bd : bdJ B i L) (hi : i < L.length) (hkd : cN c 130 (12 * f + l) = 4) (K0 : ¬ ctA c f L (12 * f + l) i < cN c 135 (12 * f + l) → Q (.inl (some (.int (-1)))) M) (K : ctA c f L (12 * f + l) i < cN c 135 (12 * f + l) → ∀ M z' L' i', lX c f M0 pw L' (-1) z' M → stpB L i L' i' → (z' = nI 1 ∨ (z' = z ∧ L' = cxL c f L (12 * f + l) (ctA c f L (12 * f + l) i) i ∧ i' = cxI c f L (12 * f + l) (ctA c f L (12 * f + l) i) i)) → Q (.inl (some (.int (nI i')))) M) : ∀ k, k ≤ cN c 135 (12 * f + l) → fnd (fun k => cfit c f L (12 * f + l) k i) (cN c 135 (12 * f + l)) k = ctA c f L (12 * f + l) i → ∀ v8 v9 v13, E g 7 0 0 mL_context 3 [.ref (pw + 1), .ref 130, .ref 131, .ref 132, .ref 133, .int (nI (8 * f + l)), .int (nI i), .int (nI k), v8, v9, .null, .null, .null, v13] [] M Q := by
  refine lpUp (cN c 135 (12 * f + l)) (fun k hk ih => ?_)
  intro he v8 v9 v13
  have hL := h.lay
  have hf := h.f2
  have hn := h.len
  have hct := h.ct
  have hr4 := h.S.r4 (12 * f + l)
  have hb := aft_b c f (12 * f + l) hi
  have nxt : ¬ cfit c f L (12 * f + l) k i → k < cN c 135 (12 * f + l) → ∀ v8 v9 v13, E g 7 0 0 mL_context 306 [.ref (pw + 1), .ref 130, .ref 131, .ref 132, .ref 133, .int (nI (8 * f + l)), .int (nI i), .int (nI k), v8, v9, .null, .null, .null, v13] [] M Q := by
    intro hc hk2 v8 v9 v13
    refine E_iinc_n (d := 1) dL_context_306 rfl rfl rfl (by decide) rfl ?_
    refine E_goto (tgt := 3) dL_context_309 (by decide) ?_
    exact ih hk2 (by rw [← he]; exact (fnd_skip hk2 hc).symm) _ _ _
  refine E_iload dL_context_3 rfl ?_
  refine E_aload_n dL_context_5 rfl ?_
  refine E_iload dL_context_6 rfl ?_
  refine E_ialdL (v := nI (mEn _ _)) dL_context_8 (l_129 hL) (k_129 hL) rfl (by omega) (by decide) (h.me hl) ?_
  refine E_bipush (v := nI 13) dL_context_9 (by decide) ?_
  refine E_ishr dL_context_11 ?_
  rw [mE_13 h.wf]
  refine E_icmp_ge_n (tgt := 312) dL_context_12 (by decide) (by omega) (by omega) (fun c_12 => ?_) (fun c_12 => ?_)
  · refine E_iconst (v := -1) dL_context_312 (by decide) ?_
    refine E_iret dL_context_313 (Or.inl rfl) ?_
    exact K0 (by rw [← he, fnd_end (by omega)]; omega)
  · refine E_aload_n dL_context_15 rfl ?_
    refine E_iload dL_context_16 rfl ?_
    refine E_iload dL_context_18 rfl ?_
    refine E_iconst (v := nI 2) dL_context_20 (by decide) ?_
    refine E_callT4 (fr' := 1) (k1 := 0) (n1 := 0) (k2 := 0) (n2 := 0) dL_context_21 kO_L_number kL_L_124 (by exact Nat.le_of_ble_eq_true rfl) (by decide) (by exact Nat.le_of_ble_eq_true rfl) (Or.inl rfl) rfl ?_
    refine sp_L_number (by first | exact h | exact h.S) hf hl (by omega) (by decide) ?_
    refine gKv ?_
    refine E_istore dL_context_24 (Nat.le_of_ble_eq_true rfl) (by decide) rfl ?_
    refine E_iload dL_context_26 rfl ?_
    refine E_bipush (v := -100) dL_context_28 (by decide) ?_
    refine E_icmp_ne_r (tgt := 38) dL_context_30 (by decide) (fun c_30 => ?_) (fun c_30 => ?_)
    · refine E_aload_n dL_context_38 rfl ?_
      refine E_aload_n dL_context_39 rfl ?_
      refine E_aload_n dL_context_40 rfl ?_
      refine E_aload dL_context_41 rfl ?_
      refine E_iload dL_context_43 rfl ?_
      refine E_iload dL_context_45 rfl ?_
      refine E_iconst (v := nI 1) dL_context_47 (by decide) ?_
      refine E_callT7 (fr' := 4) (k1 := 0) (n1 := 0) (k2 := 0) (n2 := 0) dL_context_48 kO_L_next kL_L_145 (by exact Nat.le_of_ble_eq_true rfl) (by decide) (by exact Nat.le_of_ble_eq_true rfl) (Or.inl rfl) rfl ?_
      refine sp_L_nextF h hl hi (fun hn0 => ?_) (fun hn0 => ?_)
      · refine gKv ?_
        refine E_istore dL_context_51 (Nat.le_of_ble_eq_true rfl) (by decide) rfl ?_
        refine E_iload dL_context_53 rfl ?_
        refine E_if_lt (tgt := 306) dL_context_55 (by decide) (fun _ => ?_) (fun c0 => absurd (by decide) c0)
        refine nxt (fun hc => ?_) (by omega) _ _ _
        have q2 := hc.2.1
        rw [show twC c f L (12 * f + l) k i = _ from cI_f c_30, thr_o (by omega)] at q2
        exact c_30 q2
      · refine gKv ?_
        refine E_istore dL_context_51 (Nat.le_of_ble_eq_true rfl) (by decide) rfl ?_
        refine E_iload dL_context_53 rfl ?_
        refine E_if_lt_n (tgt := 306) dL_context_55 (by decide) (by omega) ?_
        have he2 : cfit c f L (12 * f + l) k i → k = ctA c f L (12 * f + l) i := fun hc => by rw [← he]; exact (fnd_hit (P := fun k => cfit c f L (12 * f + l) k i) (by omega) hc).symm
        have K2 : cfit c f L (12 * f + l) k i → ∀ M z' L' i', lX c f M0 pw L' (-1) z' M → stpB L i L' i' → (z' = nI 1 ∨ (z' = z ∧ L' = cxL c f L (12 * f + l) k i ∧ i' = cxI c f L (12 * f + l) k i)) → Q (.inl (some (.int (nI i')))) M := fun hc => by rw [he2 hc]; exact K (by rw [← he2 hc]; omega)
        first
          | exact md_L_context h hl bd hi (by omega) hkd (Nat.le_refl _) hi (cI_t c_30) (fun hc => nxt hc (by omega)) K2 _
          | exact md_L_context h hl bd hi (by omega) hkd (by omega) hn0 (cI_f c_30) (fun hc => nxt hc (by omega)) K2 _
    · refine E_iload dL_context_33 rfl ?_
      refine E_goto (tgt := 51) dL_context_35 (by decide) ?_
      refine E_istore dL_context_51 (Nat.le_of_ble_eq_true rfl) (by decide) rfl ?_
      refine E_iload dL_context_53 rfl ?_
      refine E_if_lt_n (tgt := 306) dL_context_55 (by decide) (by omega) ?_
      have he2 : cfit c f L (12 * f + l) k i → k = ctA c f L (12 * f + l) i := fun hc => by rw [← he]; exact (fnd_hit (P := fun k => cfit c f L (12 * f + l) k i) (by omega) hc).symm
      have K2 : cfit c f L (12 * f + l) k i → ∀ M z' L' i', lX c f M0 pw L' (-1) z' M → stpB L i L' i' → (z' = nI 1 ∨ (z' = z ∧ L' = cxL c f L (12 * f + l) k i ∧ i' = cxI c f L (12 * f + l) k i)) → Q (.inl (some (.int (nI i')))) M := fun hc => by rw [he2 hc]; exact K (by rw [← he2 hc]; omega)
      first
        | exact md_L_context h hl bd hi (by omega) hkd (Nat.le_refl _) hi (cI_t c_30) (fun hc => nxt hc (by omega)) K2 _
        | exact md_L_context h hl bd hi (by omega) hkd (by omega) hn0 (cI_f c_30) (fun hc => nxt hc (by omega)) K2 _
set_option maxRecDepth 100000 in
set_option maxHeartbeats 4000000 in
theorem sp_L_context {g : gG} {M : gM} {Q : Option Value ⊕ String → gM → Prop} {c : Cf} {f : Nat} {M0 : gM} {pw : Nat} {L : List Gl} {w z : Int32} (h : lX c f M0 pw L w z M) {l : Nat} (hl : l < cN c 129 f) {i : Nat} {B : Nat} (bd : bdJ B i L) (hi : i < L.length) (hkd : cN c 130 (12 * f + l) = 4) (K0 : ¬ ctA c f L (12 * f + l) i < cN c 135 (12 * f + l) → Q (.inl (some (.int (-1)))) M) (K : ctA c f L (12 * f + l) i < cN c 135 (12 * f + l) → ∀ M z' L' i', lX c f M0 pw L' (-1) z' M → stpB L i L' i' → (z' = nI 1 ∨ (z' = z ∧ L' = cxL c f L (12 * f + l) (ctA c f L (12 * f + l) i) i ∧ i' = cxI c f L (12 * f + l) (ctA c f L (12 * f + l) i) i)) → Q (.inl (some (.int (nI i')))) M) : E g 7 0 0 mL_context 0 [.ref (pw + 1), .ref 130, .ref 131, .ref 132, .ref 133, .int (nI (8 * f + l)), .int (nI i), .null, .null, .null, .null, .null, .null, .null] [] M Q := by
  have hL := h.lay
  have hf := h.f2
  have hn := h.len
  have hct := h.ct
  refine E_iconst (v := nI 0) dL_context_0 (by decide) ?_
  refine E_istore dL_context_1 (Nat.le_of_ble_eq_true rfl) (by decide) rfl ?_
  exact lp_L_context h hl bd hi hkd K0 K 0 (Nat.zero_le _) rfl _ _ _
