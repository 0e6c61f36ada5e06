/-! the law: ligatures -/
theorem gat_prt {c : Cf} {f : Nat} {L : List Gl} {a b j : Nat} {s p : Int32} (h : j < L.length) : gat (prtL c f L a b s p) j = prF c f a b s p j (gat L j) := gat_upd h
theorem prt_out {c : Cf} {f : Nat} {L : List Gl} {a b j : Nat} {s p : Int32} (h : j < L.length) (q : j < a ∨ b ≤ j) : gat (prtL c f L a b s p) j = gat L j := by
  rw [gat_prt h]
  rcases q with q | q
  · exact pr_lo q
  · exact pr_hi q
theorem prF_N (c : Cf) (f a b : Nat) (s p : Int32) (j : Nat) (x : Gl) : yN (prF c f a b s p j x) = yN x ∧ yC (prF c f a b s p j x) = yC x ∧ yT (prF c f a b s p j x) = yT x := by
  unfold prF
  by_cases q : a ≤ j ∧ j < b ∧ 0 < cN c 137 (256 * f + yN x)
  · rw [cI_t q]; exact ⟨rfl, rfl, rfl⟩
  · rw [cI_f q]; exact ⟨rfl, rfl, rfl⟩
theorem prt_N {c : Cf} {f : Nat} {L : List Gl} {a b j : Nat} {s p : Int32} (h : j < L.length) : yN (gat (prtL c f L a b s p) j) = yN (gat L j) ∧ yC (gat (prtL c f L a b s p) j) = yC (gat L j) ∧ yT (gat (prtL c f L a b s p) j) = yT (gat L j) := by
  rw [gat_prt h]; exact prF_N ..
/-- what a mark's part becomes -/
theorem pr_val {x : Gl} (hx : okZ x) {s p : Nat} (hp : 1 ≤ p) : nI s + cI (yP x = -100) (nI p - nI 1) (yP x) = nI (s + (if zP x = 0 then p else zP x) - 1) := by
  rcases yP_pN hx with ⟨q1, q2⟩ | ⟨q1, q2⟩
  · rw [cI_t q1, if_pos q2, pk_sub hp, nI_add]; congr 1; omega
  · rw [cI_f (by rw [q1]; obtain ⟨j, e⟩ : ∃ j, zP x = j + 1 := ⟨zP x - 1, by omega⟩; rw [e, dI_succ]; exact m100_nI (by have := hx.b; omega)), if_neg (by omega), q1]
    obtain ⟨j, e⟩ : ∃ j, zP x = j + 1 := ⟨zP x - 1, by omega⟩
    rw [e, dI_succ, nI_add]; congr 1
set_option maxRecDepth 100000 in
set_option maxHeartbeats 4000000 in
theorem sp_L_parts {g : gG} {M : gM} {Q : Option Value ⊕ String → gM → Prop} {c : Cf} {f : Nat} {M0 : gM} {pw : Nat} {L : List Gl} {w z : Int32} (h : lX c f M0 pw L w z M) {k s its : Nat} (hk : k < L.length) (hp : 1 ≤ its) (hb : s + its < 2 ^ 18) (hb2 : s + zP (gat L k) < 2 ^ 18) (K : ∀ M, lX c f M0 pw (putL L k (sP (gat L k) (nI s + cI (yP (gat L k) = -100) (nI its - nI 1) (yP (gat L k))))) w z M → Q (.inl none) M) : E g 2 0 0 mL_parts 0 [.ref (pw + 1), .ref 132, .ref 133, .int (nI k), .int (nI s), .int (nI its), .null] [] M Q := by
  have hL := h.lay
  have hf := h.f2
  have hn := h.len
  have hct := h.ct
  have ho := h.ok hk
  have hv := pr_val ho (s := s) hp
  rw [hv] at K
  refine E_aload_n dL_parts_0 rfl ?_
  refine E_iload_n dL_parts_1 rfl ?_
  refine E_laldL (v := pk (gat L k)) dL_parts_2 h.plt h.pkd rfl (by omega) (by decide) (h.wk hk) ?_
  refine E_bipush (v := nI 17) dL_parts_3 (by decide) ?_
  refine E_ldc (v := nI 262143) dL_parts_5 (gW_at 759 (by decide +kernel) (by decide +kernel)) ?_
  refine E_callT3 (fr' := 1) (k1 := 0) (n1 := 0) (k2 := 0) (n2 := 0) dL_parts_7 kO_L_part kL_L_116 (by exact Nat.le_of_ble_eq_true rfl) (by decide) (by exact Nat.le_of_ble_eq_true rfl) (Or.inl rfl) rfl ?_
  refine sp_L_part_P ho ?_
  refine gKv ?_
  refine E_iconst (v := nI 1) dL_parts_10 (by decide) ?_
  refine E_isub_d dL_parts_11 ?_
  refine E_istore dL_parts_12 (Nat.le_of_ble_eq_true rfl) (by decide) rfl ?_
  refine E_aload_n dL_parts_14 rfl ?_
  refine E_iload_n dL_parts_15 rfl ?_
  refine E_aload_n dL_parts_16 rfl ?_
  refine E_iload_n dL_parts_17 rfl ?_
  refine E_laldL (v := pk (gat L k)) dL_parts_18 h.plt h.pkd rfl (by omega) (by decide) (h.wk hk) ?_
  refine E_bipush (v := nI 17) dL_parts_19 (by decide) ?_
  refine E_ldc (v := nI 262143) dL_parts_21 (gW_at 759 (by decide +kernel) (by decide +kernel)) ?_
  refine E_iload dL_parts_23 rfl ?_
  refine E_iload dL_parts_25 rfl ?_
  refine E_if_ge_d (tgt := 37) dL_parts_27 (by decide) (by omega) (fun c_27 => ?_) (fun c_27 => ?_)
  · rw [if_neg (show ¬ zP (gat L k) = 0 by omega)] at K
    obtain ⟨q, hq⟩ : ∃ q, zP (gat L k) = q + 1 := ⟨zP (gat L k) - 1, by omega⟩
    rw [hq] at K hb2 ⊢
    rw [dI_succ]
    refine E_iload dL_parts_37 rfl ?_
    refine E_iadd_n dL_parts_39 ?_
    refine E_iconst (v := nI 1) dL_parts_40 (by decide) ?_
    refine E_iadd_n dL_parts_41 ?_
    refine E_callT4 (fr' := 1) (k1 := 0) (n1 := 0) (k2 := 0) (n2 := 0) dL_parts_42 kO_L_with kL_L_132 (by exact Nat.le_of_ble_eq_true rfl) (by decide) (by exact Nat.le_of_ble_eq_true rfl) (Or.inl rfl) rfl ?_
    refine sp_L_with_P ho (v := s + q) (by omega) ?_
    refine gKv ?_
    refine E_putK dL_parts_45 h rfl hk rfl (okZ_sP ho (by omega)) (fun M h => ?_)
    refine E_vret dL_parts_46 rfl ?_
    exact K _ h
  · rw [if_pos c_27] at K
    obtain ⟨q, rfl⟩ : ∃ q, its = q + 1 := ⟨its - 1, by omega⟩
    refine E_iload dL_parts_30 rfl ?_
    refine E_iconst (v := nI 1) dL_parts_32 (by decide) ?_
    refine E_isub_n dL_parts_33 (by omega) ?_
    refine E_goto (tgt := 39) dL_parts_34 (by decide) ?_
    refine E_iadd_n dL_parts_39 ?_
    refine E_iconst (v := nI 1) dL_parts_40 (by decide) ?_
    refine E_iadd_n dL_parts_41 ?_
    refine E_callT4 (fr' := 1) (k1 := 0) (n1 := 0) (k2 := 0) (n2 := 0) dL_parts_42 kO_L_with kL_L_132 (by exact Nat.le_of_ble_eq_true rfl) (by decide) (by exact Nat.le_of_ble_eq_true rfl) (Or.inl rfl) rfl ?_
    refine sp_L_with_P ho (v := s + q) (by omega) ?_
    refine gKv ?_
    refine E_putK dL_parts_45 h rfl hk rfl (okZ_sP ho (by omega)) (fun M h => ?_)
    refine E_vret dL_parts_46 rfl ?_
    exact K _ h
set_option maxRecDepth 100000 in
set_option maxHeartbeats 4000000 in
theorem ph_L_joined {g : gG} {Q : Option Value ⊕ String → gM → Prop} {c : Cf} {f : Nat} {M0 : gM} {pw : Nat} {L : List Gl} {w z : Int32} {l i two three a e s p lo mo : Nat} {b cc d : Int32} (he : e ≤ L.length) (hne : ∀ k, a ≤ k → k < e → ¬ k = two ∧ ¬ k = three) (hmk : ∀ k, a ≤ k → k < e → 0 < cN c 137 (256 * f + yN (gat L k))) (hp : 1 ≤ p) (hb : s + p < 2 ^ 18) (hb2 : ∀ k, a ≤ k → k < e → s + zP (gat L k) < 2 ^ 18) (h2 : two < 2 ^ 20) (h3 : three < 2 ^ 20) (K : ∀ M v16, lX c f M0 pw (prtL c f L a e (nI s) (nI p)) w z M → E g 5 0 0 mL_joined 140 [.ref (pw + 1), .ref 130, .ref 132, .ref 133, .int (nI (8 * f + l)), .int (nI i), .int b, .int cc, .int d, .int (nI two), .int (nI three), .int (nI s), .int (nI p), .int (nI lo), .int (nI mo), .int (nI e), v16] [] M Q) : ∀ k, k ≤ e → a ≤ k → ∀ M v16, lX c f M0 pw (upK L (prF c f a e (nI s) (nI p)) k) w z M → E g 5 0 0 mL_joined 140 [.ref (pw + 1), .ref 130, .ref 132, .ref 133, .int (nI (8 * f + l)), .int (nI i), .int b, .int cc, .int d, .int (nI two), .int (nI three), .int (nI s), .int (nI p), .int (nI lo), .int (nI mo), .int (nI k), v16] [] M Q := by
  refine lpUp e (fun k hk ih => ?_)
  intro hak M v16 h
  by_cases hke : k = e
  · subst hke
    rw [upK_n (F := prF c f a k (nI s) (nI p)) (fun j hj => pr_hi hj)] at h
    exact K M v16 h
  have hu := upK_len L (prF c f a e (nI s) (nI p)) k
  have hg : gat (upK L (prF c f a e (nI s) (nI p)) k) k = gat L k := by rw [gat_upK (by omega), if_neg (Nat.lt_irrefl k)]
  have hm := hmk k hak (by omega)
  have hm2 := pEf_b h.wf f (yN (gat (upK L (prF c f a e (nI s) (nI p)) k) k))
  have hq := hne k hak (by omega)
  have hst : prF c f a e (nI s) (nI p) k (gat L k) = sP (gat L k) (nI s + cI (yP (gat L k) = -100) (nI p - nI 1) (yP (gat L k))) := cI_t ⟨hak, by omega, hm⟩
  have hL := h.lay
  have hf := h.f2
  have hn := h.len
  have hct := h.ct
  refine E_iload dL_joined_140 rfl ?_
  refine E_aload_n dL_joined_142 rfl ?_
  refine E_iconst (v := nI 5) dL_joined_143 (by decide) ?_
  refine E_ialdL (v := nI (List.length _)) dL_joined_144 (l_132 hL) (k_132 hL) rfl (by omega) (by decide) h.a5 ?_
  refine E_icmp_ge_n (tgt := 279) dL_joined_145 (by decide) (by omega) (by omega) (fun c_145 => ?_) (fun c_145 => ?_)
  · exfalso; omega
  · refine E_iload dL_joined_148 rfl ?_
    refine E_iload dL_joined_150 rfl ?_
    refine E_icmp_eq_n (tgt := 162) dL_joined_152 (by decide) (by omega) (by omega) (fun c_152 => ?_) (fun c_152 => ?_)
    · exact absurd (by assumption) (by omega)
    · refine E_iload dL_joined_155 rfl ?_
      refine E_iload dL_joined_157 rfl ?_
      refine E_icmp_ne_n (tgt := 230) dL_joined_159 (by decide) (by omega) (by omega) (fun c_159 => ?_) (fun c_159 => ?_)
      · refine E_aload_n dL_joined_230 rfl ?_
        refine E_aload_n dL_joined_231 rfl ?_
        refine E_bipush (v := nI 6) dL_joined_232 (by decide) ?_
        refine E_ialdL (v := nI _) dL_joined_234 (l_132 hL) (k_132 hL) rfl (by omega) (by decide) h.a6 ?_
        refine E_aload_n dL_joined_235 rfl ?_
        refine E_iload dL_joined_236 rfl ?_
        refine E_laldL (v := pk _) dL_joined_238 h.plt h.pkd rfl (by omega) (by decide) (h.wk (by omega)) ?_
        refine E_callT1 (fr' := 1) (k1 := 0) (n1 := 0) (k2 := 0) (n2 := 0) dL_joined_239 kO_L_glyphOf kL_L_108 (by exact Nat.le_of_ble_eq_true rfl) (by decide) (by exact Nat.le_of_ble_eq_true rfl) (Or.inl rfl) rfl ?_
        refine sp_L_glyphOf (h.ok (by omega)) ?_
        refine gKv ?_
        refine E_callT3 (fr' := 2) (k1 := 0) (n1 := 0) (k2 := 0) (n2 := 0) dL_joined_242 kO_L_mark kL_L_112 (by exact Nat.le_of_ble_eq_true rfl) (by decide) (by exact Nat.le_of_ble_eq_true rfl) (Or.inl rfl) rfl ?_
        refine sp_L_mark (by first | exact h | exact h.S) hf (by first | assumption | exact h.gl (by omega)) ?_
        refine gKv ?_
        refine E_if_lt_d (tgt := 263) dL_joined_245 (by decide) (by omega) (fun c_245 => ?_) (fun c_245 => ?_)
        · exfalso; rw [hg] at c_245; omega
        · refine E_aload_n dL_joined_248 rfl ?_
          refine E_aload_n dL_joined_249 rfl ?_
          refine E_aload_n dL_joined_250 rfl ?_
          refine E_iload dL_joined_251 rfl ?_
          refine E_iload dL_joined_253 rfl ?_
          refine E_iload dL_joined_255 rfl ?_
          refine E_callT6 (fr' := 2) (k1 := 0) (n1 := 0) (k2 := 0) (n2 := 0) dL_joined_257 kO_L_parts kL_L_149 (by exact Nat.le_of_ble_eq_true rfl) (by decide) (by exact Nat.le_of_ble_eq_true rfl) (Or.inl rfl) rfl ?_
          refine sp_L_parts h (by omega) hp hb (by rw [hg]; exact hb2 k hak (by omega)) (fun M h => ?_)
          rw [hg, ← hst] at h
          have h := (show lX c f M0 pw (upK L (prF c f a e (nI s) (nI p)) (k + 1)) w z M by rw [← upK_s (by omega), hg]; exact h)
          have hL := h.lay
          refine gKn ?_
          refine E_goto (tgt := 273) dL_joined_260 (by decide) ?_
          refine E_iinc_n (d := 1) dL_joined_273 rfl rfl rfl (by decide) rfl ?_
          refine E_goto (tgt := 140) dL_joined_276 (by decide) ?_
          exact ih (by omega) (by omega) M _ h
      · exact absurd (by assumption) (by omega)
set_option maxRecDepth 100000 in
set_option maxHeartbeats 4000000 in
theorem mg_L_joined {g : gG} {Q : Option Value ⊕ String → gM → Prop} {c : Cf} {f : Nat} {M0 : gM} {pw : Nat} {L : List Gl} {w z : Int32} {l i two three s p lo mo : Nat} {b cc d : Int32} (hlo : lo < 16) (hmo : mo < 16) (K : ∀ M v15 v16, lX c f M0 pw (mrgL L lo mo) w z M → E g 5 0 0 mL_joined 345 [.ref (pw + 1), .ref 130, .ref 132, .ref 133, .int (nI (8 * f + l)), .int (nI i), .int b, .int cc, .int d, .int (nI two), .int (nI three), .int (nI s), .int (nI p), .int (nI lo), .int (nI mo), v15, v16] [] M Q) : ∀ k, k ≤ L.length → ∀ M v16, lX c f M0 pw (upK L (mgF lo mo) k) w z M → E g 5 0 0 mL_joined 282 [.ref (pw + 1), .ref 130, .ref 132, .ref 133, .int (nI (8 * f + l)), .int (nI i), .int b, .int cc, .int d, .int (nI two), .int (nI three), .int (nI s), .int (nI p), .int (nI lo), .int (nI mo), .int (nI k), v16] [] M Q := by
  refine lpUp L.length (fun k hk ih => ?_)
  intro M v16 h
  have hu := upK_len L (mgF lo mo) k
  have hL := h.lay
  have hf := h.f2
  have hn := h.len
  have hct := h.ct
  refine E_iload dL_joined_282 rfl ?_
  refine E_aload_n dL_joined_284 rfl ?_
  refine E_iconst (v := nI 5) dL_joined_285 (by decide) ?_
  refine E_ialdL (v := nI (List.length _)) dL_joined_286 (l_132 hL) (k_132 hL) rfl (by omega) (by decide) h.a5 ?_
  refine E_icmp_ge_n (tgt := 345) dL_joined_287 (by decide) (by omega) (by omega) (fun c_287 => ?_) (fun c_287 => ?_)
  · obtain rfl : k = L.length := by omega
    rw [show upK L (mgF lo mo) L.length = mrgL L lo mo from mkL_congr (fun j hj => if_pos hj)] at h
    exact K M _ _ h
  · have hc := (h.ok (i := k) (by omega)).b.2.1
    refine E_aload_n dL_joined_290 rfl ?_
    refine E_iload dL_joined_291 rfl ?_
    refine E_laldL (v := pk _) dL_joined_293 h.plt h.pkd rfl (by omega) (by decide) (h.wk (by omega)) ?_
    refine E_bipush (v := nI 8) dL_joined_294 (by decide) ?_
    refine E_bipush (v := nI 15) dL_joined_296 (by decide) ?_
    refine E_callT3 (fr' := 1) (k1 := 0) (n1 := 0) (k2 := 0) (n2 := 0) dL_joined_298 kO_L_part kL_L_116 (by exact Nat.le_of_ble_eq_true rfl) (by decide) (by exact Nat.le_of_ble_eq_true rfl) (Or.inl rfl) rfl ?_
    refine sp_L_part_C (h.ok (by omega)) ?_
    refine gKv ?_
    refine E_iload dL_joined_301 rfl ?_
    refine E_icmp_lt_n (tgt := 339) dL_joined_303 (by decide) (by omega) (by omega) (fun e_303 => ?_) (fun e_303 => ?_)
    · have h := (show lX c f M0 pw (upK L (mgF lo mo) (k + 1)) w z M by rw [← upK_s' (by omega) (cI_f (by omega))]; exact h)
      have hL := h.lay
      refine E_iinc_n (d := 1) dL_joined_339 rfl rfl rfl (by decide) rfl ?_
      refine E_goto (tgt := 282) dL_joined_342 (by decide) ?_
      exact ih (by omega) M _ h
    · refine E_aload_n dL_joined_306 rfl ?_
      refine E_iload dL_joined_307 rfl ?_
      refine E_laldL (v := pk _) dL_joined_309 h.plt h.pkd rfl (by omega) (by decide) (h.wk (by omega)) ?_
      refine E_bipush (v := nI 8) dL_joined_310 (by decide) ?_
      refine E_bipush (v := nI 15) dL_joined_312 (by decide) ?_
      refine E_callT3 (fr' := 1) (k1 := 0) (n1 := 0) (k2 := 0) (n2 := 0) dL_joined_314 kO_L_part kL_L_116 (by exact Nat.le_of_ble_eq_true rfl) (by decide) (by exact Nat.le_of_ble_eq_true rfl) (Or.inl rfl) rfl ?_
      refine sp_L_part_C (h.ok (by omega)) ?_
      refine gKv ?_
      refine E_iload dL_joined_317 rfl ?_
      refine E_icmp_gt_n (tgt := 339) dL_joined_319 (by decide) (by omega) (by omega) (fun e_319 => ?_) (fun e_319 => ?_)
      · have h := (show lX c f M0 pw (upK L (mgF lo mo) (k + 1)) w z M by rw [← upK_s' (by omega) (cI_f (by omega))]; exact h)
        have hL := h.lay
        refine E_iinc_n (d := 1) dL_joined_339 rfl rfl rfl (by decide) rfl ?_
        refine E_goto (tgt := 282) dL_joined_342 (by decide) ?_
        exact ih (by omega) M _ h
      · refine E_aload_n dL_joined_322 rfl ?_
        refine E_iload dL_joined_323 rfl ?_
        refine E_aload_n dL_joined_325 rfl ?_
        refine E_iload dL_joined_326 rfl ?_
        refine E_laldL (v := pk _) dL_joined_328 h.plt h.pkd rfl (by omega) (by decide) (h.wk (by omega)) ?_
        refine E_bipush (v := nI 8) dL_joined_329 (by decide) ?_
        refine E_bipush (v := nI 15) dL_joined_331 (by decide) ?_
        refine E_iload dL_joined_333 rfl ?_
        refine E_callT4 (fr' := 1) (k1 := 0) (n1 := 0) (k2 := 0) (n2 := 0) dL_joined_335 kO_L_with kL_L_132 (by exact Nat.le_of_ble_eq_true rfl) (by decide) (by exact Nat.le_of_ble_eq_true rfl) (Or.inl rfl) rfl ?_
        refine sp_L_with_C (h.ok (by omega)) hlo ?_
        refine gKv ?_
        refine E_putK dL_joined_338 h rfl (by omega) rfl (okZ_sC (h.ok (by omega)) hlo) (fun M h => ?_)
        have h := (show lX c f M0 pw (upK L (mgF lo mo) (k + 1)) w z M by rw [← upK_s (by omega), show mgF lo mo k (gat (upK L (mgF lo mo) k) k) = sC (gat (upK L (mgF lo mo) k) k) lo from cI_t (by omega)]; exact h)
        have hL := h.lay
        refine E_iinc_n (d := 1) dL_joined_339 rfl rfl rfl (by decide) rfl ?_
        refine E_goto (tgt := 282) dL_joined_342 (by decide) ?_
        exact ih (by omega) M _ h
