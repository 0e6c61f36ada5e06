/-! the law: a call -/
abbrev mL_law : gMu := (yL_law, (cL_law, (7, ((some .boolean), []))))
theorem nI_ij {a b : Nat} {p : Int32} (h1 : p = nI a) (h2 : p = nI b) (ha : a < 2 ^ 31) (hb : b < 2 ^ 31) : b = a := by
  have h := congrArg Int32.toInt (h1.symm.trans h2)
  rw [nI_toInt ha, nI_toInt hb] at h
  omega
theorem bel_mk {p : Int32} {n j : Nat} (hn : n < 2 ^ 30) (h1 : j < n) (h2 : p = nI j) : iBel p n := (iBel_iff hn).mpr ⟨j, h1, h2⟩
theorem in_mk {p : Int32} {a b j : Nat} (hb : b < 2 ^ 31) (h1 : a ≤ j) (h2 : j ≤ b) (h3 : p = nI j) : iIn p (nI a) (nI b) := by
  subst h3
  exact ⟨(nI_leI (by omega) (by omega)).mpr h1, (nI_leI (by omega) (by omega)).mpr h2⟩
theorem gl_mk {p : Int32} {j : Nat} (h1 : j < 256) (h2 : p = nI j) : iGlyph p := in_mk (by decide) (Nat.zero_le _) (by omega) h2
theorem ng_1024 {c : Cf} (hw : WFc c) : ng c ≤ 1024 := by
  have h16 : tl c ≤ 16 := hw.tl
  have hr : tr c ≤ tl c - 0 := (nr_b (c := c) (Nat.zero_le (tl c)) h16).1
  have key : ∀ t, t ≤ tr c → gS c 0 (tl c) t ≤ 64 * t := by
    intro t
    induction t with
    | zero => intro _; exact Nat.le_refl _
    | succ t ih =>
      intro ht
      have h1 := ih (by omega)
      have h2 := rL_64 hw (a := 0) (b := tl c) (r := t) (Nat.zero_le _) h16 (by show t < tr c; omega)
      show gS c 0 (tl c) t + (rL c 0 (tl c) t).length ≤ _
      omega
  have := key (tr c) (Nat.le_refl _)
  show gS c 0 (tl c) (tr c) ≤ 1024
  omega
theorem fr_L {S : Nat → Nat → Prop} {M M' : gM} (h : fr S M M') {a j : Nat} {v : Int64} (hv : mL M a j = v) : mL M' a j = v := by
  unfold mL at hv ⊢; rw [h.2.1]; exact hv
theorem lcz {x y : Int64} (h : x = y) : lg_cmp x y = 0 := (lg_cmp_eq _ _).mpr h
theorem refR_8 (a j : Nat) (h : refR a j) : 128 ≤ a ∧ a ≤ 178 := by unfold refR at h; omega
theorem qR_8 (a j : Nat) (h : qR a j) : 128 ≤ a ∧ a ≤ 178 := by unfold qR at h; omega
set_option maxRecDepth 100000 in
set_option maxHeartbeats 4000000 in
theorem sp_X12_thrown {g : gG} {M : gM} {Q : Option Value ⊕ String → gM → Prop} (hL : gLay M) {k : Nat} (h0 : mI M 128 0 = nI k) (K : Q (.inl (some (.int (nI k)))) M) : E g 1 0 0 mX12_thrown 0 [.ref 129] [] M Q := by
  refine E_aload_n dX12_thrown_0 rfl ?_
  refine E_getIL (v := nI k) dX12_thrown_1 kF_X12_166 kY_12 (Or.inl rfl) (l_128 hL) (k_128 hL) h0 ?_
  refine E_iret dX12_thrown_4 (Or.inl rfl) ?_
  exact K
set_option maxRecDepth 100000 in
set_option maxHeartbeats 4000000 in
theorem case_useFace {g : gG} {Q : Option Value ⊕ String → gM → Prop} (hst : (gl1 g).stackTraces = false) {z : UInt32} {i kk nn : Nat} (hi : i + 8 ≤ gsL g) (h4 : gsL g ≤ 4096) {c : Cf} {P π : Nat → Nat} {M : gM} (hb : bS c M) (hS : kS c P π M) (IH : ∀ c' P' π' M' v5 v6, bS c' M' → kS c' P' π' M' → E g 18 kk nn mL_law 1687 [.float z, .ref 1, .ref 129, .ref 179, .int (nI i), v5, v6] [] M' Q) {v5 v6 : Value} : E g 18 (kk + 12) (nn + 330) mL_law 152 [.float z, .ref 1, .ref 129, .ref 179, .int (nI i), v5, v6] [] M Q := by
  have hw := hb.wf
  have hcf : cN c 128 1 < 2 := hw.fac
  have hct := hw.ct (cN c 128 1)
  have hct2 : cnt0 c ≤ 12 := hct
  have h16 : tl c ≤ 16 := hw.tl
  have hng := ng_1024 hw
  have hL := hb.lay
  refine E_aload_n dL_law_152 rfl ?_
  refine E_aload_s dL_law_153 rfl ?_
  refine E_iload dL_law_154 rfl ?_
  refine E_iconst (v := nI 1) dL_law_156 (by decide) ?_
  refine E_iadd_n dL_law_157 ?_
  refine E_sld dL_law_158 rfl (by omega) (by omega) ?_
  refine E_aload_n dL_law_159 rfl ?_
  refine E_room (Nat.le_refl _) (k' := 1 + kk) (n' := 6 + nn) (by omega) (by omega) ?_
  refine E_callS3 (fr' := 8) (k1 := 1) (n1 := 6) (k2 := kk) (n2 := nn) dL_law_160 kO_L_useFace kL_L_94 rfl rfl rfl (by decide) (by decide) (by exact Nat.le_of_ble_eq_true rfl) (Or.inr (gW_at 816 (by decide +kernel) (by decide +kernel))) rfl ?_
  refine w_useFace hst hS (fun z1 M1 P1 π1 hS1 hke hm => ?_) (fun z1 M1 P1 π1 hS1 hke => ?_)
  · have hL := hS1.1.lay
    have hb1 := hb.ke hke hL
    refine gKv ?_
    refine E_istore dL_law_163 (Nat.le_of_ble_eq_true rfl) (by decide) rfl ?_
    refine E_aload_n dL_law_165 rfl ?_
    refine E_aload_s dL_law_166 rfl ?_
    refine E_iload dL_law_167 rfl ?_
    refine E_iconst (v := nI 1) dL_law_169 (by decide) ?_
    refine E_iadd_n dL_law_170 ?_
    refine E_sld dL_law_171 rfl (by omega) (by omega) ?_
    refine E_room (Nat.le_refl _) (k' := 0 + kk) (n' := 0 + nn) (by omega) (by omega) ?_
    refine E_callV1 (fr' := 2) (k1 := 0) (n1 := 0) (k2 := kk) (n2 := nn) dL_law_172 kO_X12_useFace kL_L_99 (l_128 hL) (k_128 hL) ⟨by decide, rfl⟩ rfl (by decide) (by decide) (by exact Nat.le_of_ble_eq_true rfl) rfl ?_
    refine o_useFace hb1 (fun y1 M2 hb2 hf2 h0 => ?_) (fun y1 M2 hb2 hf2 h0 => ?_) 
    · have hS2 := fr.S hS1 hf2 refR_8
      have hL := hb2.lay
      have hm2 := fr_L hf2 hm
      refine gKv ?_
      refine E_istore dL_law_175 (Nat.le_of_ble_eq_true rfl) (by decide) rfl ?_
      refine E_aload_n dL_law_177 rfl ?_
      refine E_room (Nat.le_refl _) (k' := 0 + kk) (n' := 0 + nn) (by omega) (by omega) ?_
      refine E_callV0 (fr' := 1) (k1 := 0) (n1 := 0) (k2 := kk) (n2 := nn) dL_law_178 kO_X12_thrown kL_L_100 (l_128 hL) (k_128 hL) ⟨by decide, rfl⟩  (by decide) (by decide) (by exact Nat.le_of_ble_eq_true rfl) rfl ?_
      refine sp_X12_thrown hL h0 ?_
      refine gKv ?_
      refine E_iload dL_law_181 rfl ?_
      refine E_icmp_eq (tgt := 188) dL_law_183 (by decide) (fun _ => ?_) (fun c0 => absurd (by decide) c0)
      refine E_iload dL_law_188 rfl ?_
      refine E_if_ne (tgt := 205) dL_law_190 (by decide) (fun c0 => absurd c0 (by decide)) (fun _ => ?_)
      refine E_aload_n dL_law_193 rfl ?_
      refine E_iconst (v := nI 0) dL_law_194 (by decide) ?_
      refine E_lald dL_law_195 (l_178 hL) (k_178 hL) rfl (by omega) (by decide) ?_
      refine E_iload dL_law_196 rfl ?_
      refine E_i2l dL_law_198 ?_
      refine E_lcmp dL_law_199 ?_
      refine E_if_eq (tgt := 205) dL_law_200 (by decide) (fun _ => ?_) (fun c0 => absurd (lcz hm2) c0)
      refine E_goto (tgt := 1687) dL_law_205 (by decide) ?_
      exact IH _ _ _ _ _ _ hb2 hS2
    · exfalso
      first
        | exact z1 y1
        | exact y1 z1
        | exact z2 y2
        | exact y2 z2
        | exact z3 y3
        | exact y3 z3
        | omega
        | exact z1 (bel_mk (by omega) y1 y2)
        | exact y1 (bel_mk (by omega) z1 z2)
        | exact z1 (gl_mk y1 y2)
        | exact y1 (gl_mk z1 z2)
        | exact z2 y3
        | exact y2 z3
        | exact z1 y3
        | exact y1 z3
        | exact z1 ⟨gl_mk y1 y2, y3⟩
        | exact y1 ⟨gl_mk z1 z2, z3⟩
        | exact z1 (in_mk (by omega) (Nat.zero_le _) y1 y2)
        | exact y1 (in_mk (by omega) (Nat.zero_le _) z1 z2)
        | exact z1 ((iIn1 (by omega)).mpr ⟨jj, y1, y2, y3⟩)
        | exact y1 ((iIn1 (by omega)).mpr ⟨j, z1, z2, z3⟩)
  · have hL := hS1.1.lay
    have hb1 := hb.ke hke hL
    refine gKv ?_
    refine E_istore dL_law_163 (Nat.le_of_ble_eq_true rfl) (by decide) rfl ?_
    refine E_aload_n dL_law_165 rfl ?_
    refine E_aload_s dL_law_166 rfl ?_
    refine E_iload dL_law_167 rfl ?_
    refine E_iconst (v := nI 1) dL_law_169 (by decide) ?_
    refine E_iadd_n dL_law_170 ?_
    refine E_sld dL_law_171 rfl (by omega) (by omega) ?_
    refine E_room (Nat.le_refl _) (k' := 0 + kk) (n' := 0 + nn) (by omega) (by omega) ?_
    refine E_callV1 (fr' := 2) (k1 := 0) (n1 := 0) (k2 := kk) (n2 := nn) dL_law_172 kO_X12_useFace kL_L_99 (l_128 hL) (k_128 hL) ⟨by decide, rfl⟩ rfl (by decide) (by decide) (by exact Nat.le_of_ble_eq_true rfl) rfl ?_
    refine o_useFace hb1 (fun y1 M2 hb2 hf2 h0 => ?_) (fun y1 M2 hb2 hf2 h0 => ?_) 
    · exfalso
      first
        | exact z1 y1
        | exact y1 z1
        | exact z2 y2
        | exact y2 z2
        | exact z3 y3
        | exact y3 z3
        | omega
        | exact z1 (bel_mk (by omega) y1 y2)
        | exact y1 (bel_mk (by omega) z1 z2)
        | exact z1 (gl_mk y1 y2)
        | exact y1 (gl_mk z1 z2)
        | exact z2 y3
        | exact y2 z3
        | exact z1 y3
        | exact y1 z3
        | exact z1 ⟨gl_mk y1 y2, y3⟩
        | exact y1 ⟨gl_mk z1 z2, z3⟩
        | exact z1 (in_mk (by omega) (Nat.zero_le _) y1 y2)
        | exact y1 (in_mk (by omega) (Nat.zero_le _) z1 z2)
        | exact z1 ((iIn1 (by omega)).mpr ⟨jj, y1, y2, y3⟩)
        | exact y1 ((iIn1 (by omega)).mpr ⟨j, z1, z2, z3⟩)
    · have hS2 := fr.S hS1 hf2 refR_8
      have hL := hb2.lay
      refine gKv ?_
      refine E_istore dL_law_175 (Nat.le_of_ble_eq_true rfl) (by decide) rfl ?_
      refine E_aload_n dL_law_177 rfl ?_
      refine E_room (Nat.le_refl _) (k' := 0 + kk) (n' := 0 + nn) (by omega) (by omega) ?_
      refine E_callV0 (fr' := 1) (k1 := 0) (n1 := 0) (k2 := kk) (n2 := nn) dL_law_178 kO_X12_thrown kL_L_100 (l_128 hL) (k_128 hL) ⟨by decide, rfl⟩  (by decide) (by decide) (by exact Nat.le_of_ble_eq_true rfl) rfl ?_
      refine sp_X12_thrown hL h0 ?_
      refine gKv ?_
      refine E_iload dL_law_181 rfl ?_
      refine E_icmp_eq (tgt := 188) dL_law_183 (by decide) (fun _ => ?_) (fun c0 => absurd (by decide) c0)
      refine E_iload dL_law_188 rfl ?_
      refine E_if_ne (tgt := 205) dL_law_190 (by decide) (fun _ => ?_) (fun c0 => absurd (by decide) c0)
      refine E_goto (tgt := 1687) dL_law_205 (by decide) ?_
      exact IH _ _ _ _ _ _ hb2 hS2
set_option maxRecDepth 100000 in
set_option maxHeartbeats 4000000 in
theorem case_lookup {g : gG} {Q : Option Value ⊕ String → gM → Prop} (hst : (gl1 g).stackTraces = false) {z : UInt32} {i kk nn : Nat} (hi : i + 8 ≤ gsL g) (h4 : gsL g ≤ 4096) {c : Cf} {P π : Nat → Nat} {M : gM} (hb : bS c M) (hS : kS c P π M) (IH : ∀ c' P' π' M' v5 v6, bS c' M' → kS c' P' π' M' → E g 18 kk nn mL_law 1687 [.float z, .ref 1, .ref 129, .ref 179, .int (nI i), v5, v6] [] M' Q) {v5 v6 : Value} : E g 18 (kk + 12) (nn + 330) mL_law 208 [.float z, .ref 1, .ref 129, .ref 179, .int (nI i), v5, v6] [] M Q := by
  have hw := hb.wf
  have hcf : cN c 128 1 < 2 := hw.fac
  have hct := hw.ct (cN c 128 1)
  have hct2 : cnt0 c ≤ 12 := hct
  have h16 : tl c ≤ 16 := hw.tl
  have hng := ng_1024 hw
  have hL := hb.lay
  refine E_aload_n dL_law_208 rfl ?_
  refine E_aload_s dL_law_209 rfl ?_
  refine E_iload dL_law_210 rfl ?_
  refine E_iconst (v := nI 1) dL_law_212 (by decide) ?_
  refine E_iadd_n dL_law_213 ?_
  refine E_sld dL_law_214 rfl (by omega) (by omega) ?_
  refine E_aload_s dL_law_215 rfl ?_
  refine E_iload dL_law_216 rfl ?_
  refine E_iconst (v := nI 2) dL_law_218 (by decide) ?_
  refine E_iadd_n dL_law_219 ?_
  refine E_sld dL_law_220 rfl (by omega) (by omega) ?_
  refine E_aload_s dL_law_221 rfl ?_
  refine E_iload dL_law_222 rfl ?_
  refine E_iconst (v := nI 3) dL_law_224 (by decide) ?_
  refine E_iadd_n dL_law_225 ?_
  refine E_sld dL_law_226 rfl (by omega) (by omega) ?_
  refine E_aload_s dL_law_227 rfl ?_
  refine E_iload dL_law_228 rfl ?_
  refine E_iconst (v := nI 4) dL_law_230 (by decide) ?_
  refine E_iadd_n dL_law_231 ?_
  refine E_sld dL_law_232 rfl (by omega) (by omega) ?_
  refine E_aload_s dL_law_233 rfl ?_
  refine E_iload dL_law_234 rfl ?_
  refine E_iconst (v := nI 5) dL_law_236 (by decide) ?_
  refine E_iadd_n dL_law_237 ?_
  refine E_sld dL_law_238 rfl (by omega) (by omega) ?_
  refine E_aload_n dL_law_239 rfl ?_
  refine E_room (Nat.le_refl _) (k' := 11 + kk) (n' := 321 + nn) (by omega) (by omega) ?_
  refine E_callS7 (fr' := 8) (k1 := 11) (n1 := 321) (k2 := kk) (n2 := nn) dL_law_240 kO_L_lookup kL_L_104 rfl rfl rfl rfl rfl rfl rfl (by decide) (by decide) (by exact Nat.le_of_ble_eq_true rfl) (Or.inr (gW_at 892 (by decide +kernel) (by decide +kernel))) rfl ?_
  refine w_lookup hst hS (fun z1 z2 z3 M1 P1 π1 hS1 hke hm => ?_) (fun z1 M1 P1 π1 hS1 hke => ?_) (fun z1 z2 M1 P1 π1 hS1 hke => ?_) (fun z1 z2 z3 M1 P1 π1 hS1 hke => ?_)
  · have hL := hS1.1.lay
    have hb1 := hb.ke hke hL
    refine gKv ?_
    refine E_istore dL_law_243 (Nat.le_of_ble_eq_true rfl) (by decide) rfl ?_
    refine E_aload_n dL_law_245 rfl ?_
    refine E_aload_s dL_law_246 rfl ?_
    refine E_iload dL_law_247 rfl ?_
    refine E_iconst (v := nI 1) dL_law_249 (by decide) ?_
    refine E_iadd_n dL_law_250 ?_
    refine E_sld dL_law_251 rfl (by omega) (by omega) ?_
    refine E_aload_s dL_law_252 rfl ?_
    refine E_iload dL_law_253 rfl ?_
    refine E_iconst (v := nI 2) dL_law_255 (by decide) ?_
    refine E_iadd_n dL_law_256 ?_
    refine E_sld dL_law_257 rfl (by omega) (by omega) ?_
    refine E_aload_s dL_law_258 rfl ?_
    refine E_iload dL_law_259 rfl ?_
    refine E_iconst (v := nI 3) dL_law_261 (by decide) ?_
    refine E_iadd_n dL_law_262 ?_
    refine E_sld dL_law_263 rfl (by omega) (by omega) ?_
    refine E_aload_s dL_law_264 rfl ?_
    refine E_iload dL_law_265 rfl ?_
    refine E_iconst (v := nI 4) dL_law_267 (by decide) ?_
    refine E_iadd_n dL_law_268 ?_
    refine E_sld dL_law_269 rfl (by omega) (by omega) ?_
    refine E_aload_s dL_law_270 rfl ?_
    refine E_iload dL_law_271 rfl ?_
    refine E_iconst (v := nI 5) dL_law_273 (by decide) ?_
    refine E_iadd_n dL_law_274 ?_
    refine E_sld dL_law_275 rfl (by omega) (by omega) ?_
    refine E_room (Nat.le_refl _) (k' := 0 + kk) (n' := 0 + nn) (by omega) (by omega) ?_
    refine E_callV5 (fr' := 2) (k1 := 0) (n1 := 0) (k2 := kk) (n2 := nn) dL_law_276 kO_X12_lookup kL_L_107 (l_128 hL) (k_128 hL) ⟨by decide, rfl⟩ rfl rfl rfl rfl rfl (by decide) (by decide) (by exact Nat.le_of_ble_eq_true rfl) rfl ?_
    refine o_lookup hb1 (fun y1 M2 hb2 hf2 h0 => ?_) (fun y1 y2 M2 hb2 hf2 h0 => ?_) (fun y1 y2 y3 M2 hb2 hf2 h0 => ?_) (fun y1 y2 y3 M2 hb2 hf2 h0 => ?_) 
    · exfalso
      first
        | exact z1 y1
        | exact y1 z1
        | exact z2 y2
        | exact y2 z2
        | exact z3 y3
        | exact y3 z3
        | omega
        | exact z1 (bel_mk (by omega) y1 y2)
        | exact y1 (bel_mk (by omega) z1 z2)
        | exact z1 (gl_mk y1 y2)
        | exact y1 (gl_mk z1 z2)
        | exact z2 y3
        | exact y2 z3
        | exact z1 y3
        | exact y1 z3
        | exact z1 ⟨gl_mk y1 y2, y3⟩
        | exact y1 ⟨gl_mk z1 z2, z3⟩
        | exact z1 (in_mk (by omega) (Nat.zero_le _) y1 y2)
        | exact y1 (in_mk (by omega) (Nat.zero_le _) z1 z2)
        | exact z1 ((iIn1 (by omega)).mpr ⟨jj, y1, y2, y3⟩)
        | exact y1 ((iIn1 (by omega)).mpr ⟨j, z1, z2, z3⟩)
    · exfalso
      first
        | exact z1 y1
        | exact y1 z1
        | exact z2 y2
        | exact y2 z2
        | exact z3 y3
        | exact y3 z3
        | omega
        | exact z1 (bel_mk (by omega) y1 y2)
        | exact y1 (bel_mk (by omega) z1 z2)
        | exact z1 (gl_mk y1 y2)
        | exact y1 (gl_mk z1 z2)
        | exact z2 y3
        | exact y2 z3
        | exact z1 y3
        | exact y1 z3
        | exact z1 ⟨gl_mk y1 y2, y3⟩
        | exact y1 ⟨gl_mk z1 z2, z3⟩
        | exact z1 (in_mk (by omega) (Nat.zero_le _) y1 y2)
        | exact y1 (in_mk (by omega) (Nat.zero_le _) z1 z2)
        | exact z1 ((iIn1 (by omega)).mpr ⟨jj, y1, y2, y3⟩)
        | exact y1 ((iIn1 (by omega)).mpr ⟨j, z1, z2, z3⟩)
    · exfalso
      first
        | exact z1 y1
        | exact y1 z1
        | exact z2 y2
        | exact y2 z2
        | exact z3 y3
        | exact y3 z3
        | omega
        | exact z1 (bel_mk (by omega) y1 y2)
        | exact y1 (bel_mk (by omega) z1 z2)
        | exact z1 (gl_mk y1 y2)
        | exact y1 (gl_mk z1 z2)
        | exact z2 y3
        | exact y2 z3
        | exact z1 y3
        | exact y1 z3
        | exact z1 ⟨gl_mk y1 y2, y3⟩
        | exact y1 ⟨gl_mk z1 z2, z3⟩
        | exact z1 (in_mk (by omega) (Nat.zero_le _) y1 y2)
        | exact y1 (in_mk (by omega) (Nat.zero_le _) z1 z2)
        | exact z1 ((iIn1 (by omega)).mpr ⟨jj, y1, y2, y3⟩)
        | exact y1 ((iIn1 (by omega)).mpr ⟨j, z1, z2, z3⟩)
    · have hS2 := fr.S hS1 hf2 refR_8
      have hL := hb2.lay
      have hm2 := fr_L hf2 hm
      refine gKv ?_
      refine E_istore dL_law_279 (Nat.le_of_ble_eq_true rfl) (by decide) rfl ?_
      refine E_aload_n dL_law_281 rfl ?_
      refine E_room (Nat.le_refl _) (k' := 0 + kk) (n' := 0 + nn) (by omega) (by omega) ?_
      refine E_callV0 (fr' := 1) (k1 := 0) (n1 := 0) (k2 := kk) (n2 := nn) dL_law_282 kO_X12_thrown kL_L_100 (l_128 hL) (k_128 hL) ⟨by decide, rfl⟩  (by decide) (by decide) (by exact Nat.le_of_ble_eq_true rfl) rfl ?_
      refine sp_X12_thrown hL h0 ?_
      refine gKv ?_
      refine E_iload dL_law_285 rfl ?_
      refine E_icmp_eq (tgt := 292) dL_law_287 (by decide) (fun _ => ?_) (fun c0 => absurd (by decide) c0)
      refine E_iload dL_law_292 rfl ?_
      refine E_if_ne (tgt := 309) dL_law_294 (by decide) (fun c0 => absurd c0 (by decide)) (fun _ => ?_)
      refine E_aload_n dL_law_297 rfl ?_
      refine E_iconst (v := nI 0) dL_law_298 (by decide) ?_
      refine E_lald dL_law_299 (l_178 hL) (k_178 hL) rfl (by omega) (by decide) ?_
      refine E_iload dL_law_300 rfl ?_
      refine E_i2l dL_law_302 ?_
      refine E_lcmp dL_law_303 ?_
      refine E_if_eq (tgt := 309) dL_law_304 (by decide) (fun _ => ?_) (fun c0 => absurd (lcz hm2) c0)
      refine E_goto (tgt := 1687) dL_law_309 (by decide) ?_
      exact IH _ _ _ _ _ _ hb2 hS2
  · have hL := hS1.1.lay
    have hb1 := hb.ke hke hL
    refine gKv ?_
    refine E_istore dL_law_243 (Nat.le_of_ble_eq_true rfl) (by decide) rfl ?_
    refine E_aload_n dL_law_245 rfl ?_
    refine E_aload_s dL_law_246 rfl ?_
    refine E_iload dL_law_247 rfl ?_
    refine E_iconst (v := nI 1) dL_law_249 (by decide) ?_
    refine E_iadd_n dL_law_250 ?_
    refine E_sld dL_law_251 rfl (by omega) (by omega) ?_
    refine E_aload_s dL_law_252 rfl ?_
    refine E_iload dL_law_253 rfl ?_
    refine E_iconst (v := nI 2) dL_law_255 (by decide) ?_
    refine E_iadd_n dL_law_256 ?_
    refine E_sld dL_law_257 rfl (by omega) (by omega) ?_
    refine E_aload_s dL_law_258 rfl ?_
    refine E_iload dL_law_259 rfl ?_
    refine E_iconst (v := nI 3) dL_law_261 (by decide) ?_
    refine E_iadd_n dL_law_262 ?_
    refine E_sld dL_law_263 rfl (by omega) (by omega) ?_
    refine E_aload_s dL_law_264 rfl ?_
    refine E_iload dL_law_265 rfl ?_
    refine E_iconst (v := nI 4) dL_law_267 (by decide) ?_
    refine E_iadd_n dL_law_268 ?_
    refine E_sld dL_law_269 rfl (by omega) (by omega) ?_
    refine E_aload_s dL_law_270 rfl ?_
    refine E_iload dL_law_271 rfl ?_
    refine E_iconst (v := nI 5) dL_law_273 (by decide) ?_
    refine E_iadd_n dL_law_274 ?_
    refine E_sld dL_law_275 rfl (by omega) (by omega) ?_
    refine E_room (Nat.le_refl _) (k' := 0 + kk) (n' := 0 + nn) (by omega) (by omega) ?_
    refine E_callV5 (fr' := 2) (k1 := 0) (n1 := 0) (k2 := kk) (n2 := nn) dL_law_276 kO_X12_lookup kL_L_107 (l_128 hL) (k_128 hL) ⟨by decide, rfl⟩ rfl rfl rfl rfl rfl (by decide) (by decide) (by exact Nat.le_of_ble_eq_true rfl) rfl ?_
    refine o_lookup hb1 (fun y1 M2 hb2 hf2 h0 => ?_) (fun y1 y2 M2 hb2 hf2 h0 => ?_) (fun y1 y2 y3 M2 hb2 hf2 h0 => ?_) (fun y1 y2 y3 M2 hb2 hf2 h0 => ?_) 
    · have hS2 := fr.S hS1 hf2 refR_8
      have hL := hb2.lay
      refine gKv ?_
      refine E_istore dL_law_279 (Nat.le_of_ble_eq_true rfl) (by decide) rfl ?_
      refine E_aload_n dL_law_281 rfl ?_
      refine E_room (Nat.le_refl _) (k' := 0 + kk) (n' := 0 + nn) (by omega) (by omega) ?_
      refine E_callV0 (fr' := 1) (k1 := 0) (n1 := 0) (k2 := kk) (n2 := nn) dL_law_282 kO_X12_thrown kL_L_100 (l_128 hL) (k_128 hL) ⟨by decide, rfl⟩  (by decide) (by decide) (by exact Nat.le_of_ble_eq_true rfl) rfl ?_
      refine sp_X12_thrown hL h0 ?_
      refine gKv ?_
      refine E_iload dL_law_285 rfl ?_
      refine E_icmp_eq (tgt := 292) dL_law_287 (by decide) (fun _ => ?_) (fun c0 => absurd (by decide) c0)
      refine E_iload dL_law_292 rfl ?_
      refine E_if_ne (tgt := 309) dL_law_294 (by decide) (fun _ => ?_) (fun c0 => absurd (by decide) c0)
      refine E_goto (tgt := 1687) dL_law_309 (by decide) ?_
      exact IH _ _ _ _ _ _ hb2 hS2
    · exfalso
      first
        | exact z1 y1
        | exact y1 z1
        | exact z2 y2
        | exact y2 z2
        | exact z3 y3
        | exact y3 z3
        | omega
        | exact z1 (bel_mk (by omega) y1 y2)
        | exact y1 (bel_mk (by omega) z1 z2)
        | exact z1 (gl_mk y1 y2)
        | exact y1 (gl_mk z1 z2)
        | exact z2 y3
        | exact y2 z3
        | exact z1 y3
        | exact y1 z3
        | exact z1 ⟨gl_mk y1 y2, y3⟩
        | exact y1 ⟨gl_mk z1 z2, z3⟩
        | exact z1 (in_mk (by omega) (Nat.zero_le _) y1 y2)
        | exact y1 (in_mk (by omega) (Nat.zero_le _) z1 z2)
        | exact z1 ((iIn1 (by omega)).mpr ⟨jj, y1, y2, y3⟩)
        | exact y1 ((iIn1 (by omega)).mpr ⟨j, z1, z2, z3⟩)
    · exfalso
      first
        | exact z1 y1
        | exact y1 z1
        | exact z2 y2
        | exact y2 z2
        | exact z3 y3
        | exact y3 z3
        | omega
        | exact z1 (bel_mk (by omega) y1 y2)
        | exact y1 (bel_mk (by omega) z1 z2)
        | exact z1 (gl_mk y1 y2)
        | exact y1 (gl_mk z1 z2)
        | exact z2 y3
        | exact y2 z3
        | exact z1 y3
        | exact y1 z3
        | exact z1 ⟨gl_mk y1 y2, y3⟩
        | exact y1 ⟨gl_mk z1 z2, z3⟩
        | exact z1 (in_mk (by omega) (Nat.zero_le _) y1 y2)
        | exact y1 (in_mk (by omega) (Nat.zero_le _) z1 z2)
        | exact z1 ((iIn1 (by omega)).mpr ⟨jj, y1, y2, y3⟩)
        | exact y1 ((iIn1 (by omega)).mpr ⟨j, z1, z2, z3⟩)
    · exfalso
      first
        | exact z1 y1
        | exact y1 z1
        | exact z2 y2
        | exact y2 z2
        | exact z3 y3
        | exact y3 z3
        | omega
        | exact z1 (bel_mk (by omega) y1 y2)
        | exact y1 (bel_mk (by omega) z1 z2)
        | exact z1 (gl_mk y1 y2)
        | exact y1 (gl_mk z1 z2)
        | exact z2 y3
        | exact y2 z3
        | exact z1 y3
        | exact y1 z3
        | exact z1 ⟨gl_mk y1 y2, y3⟩
        | exact y1 ⟨gl_mk z1 z2, z3⟩
        | exact z1 (in_mk (by omega) (Nat.zero_le _) y1 y2)
        | exact y1 (in_mk (by omega) (Nat.zero_le _) z1 z2)
        | exact z1 ((iIn1 (by omega)).mpr ⟨jj, y1, y2, y3⟩)
        | exact y1 ((iIn1 (by omega)).mpr ⟨j, z1, z2, z3⟩)
  · have hL := hS1.1.lay
    have hb1 := hb.ke hke hL
    refine gKv ?_
    refine E_istore dL_law_243 (Nat.le_of_ble_eq_true rfl) (by decide) rfl ?_
    refine E_aload_n dL_law_245 rfl ?_
    refine E_aload_s dL_law_246 rfl ?_
    refine E_iload dL_law_247 rfl ?_
    refine E_iconst (v := nI 1) dL_law_249 (by decide) ?_
    refine E_iadd_n dL_law_250 ?_
    refine E_sld dL_law_251 rfl (by omega) (by omega) ?_
    refine E_aload_s dL_law_252 rfl ?_
    refine E_iload dL_law_253 rfl ?_
    refine E_iconst (v := nI 2) dL_law_255 (by decide) ?_
    refine E_iadd_n dL_law_256 ?_
    refine E_sld dL_law_257 rfl (by omega) (by omega) ?_
    refine E_aload_s dL_law_258 rfl ?_
    refine E_iload dL_law_259 rfl ?_
    refine E_iconst (v := nI 3) dL_law_261 (by decide) ?_
    refine E_iadd_n dL_law_262 ?_
    refine E_sld dL_law_263 rfl (by omega) (by omega) ?_
    refine E_aload_s dL_law_264 rfl ?_
    refine E_iload dL_law_265 rfl ?_
    refine E_iconst (v := nI 4) dL_law_267 (by decide) ?_
    refine E_iadd_n dL_law_268 ?_
    refine E_sld dL_law_269 rfl (by omega) (by omega) ?_
    refine E_aload_s dL_law_270 rfl ?_
    refine E_iload dL_law_271 rfl ?_
    refine E_iconst (v := nI 5) dL_law_273 (by decide) ?_
    refine E_iadd_n dL_law_274 ?_
    refine E_sld dL_law_275 rfl (by omega) (by omega) ?_
    refine E_room (Nat.le_refl _) (k' := 0 + kk) (n' := 0 + nn) (by omega) (by omega) ?_
    refine E_callV5 (fr' := 2) (k1 := 0) (n1 := 0) (k2 := kk) (n2 := nn) dL_law_276 kO_X12_lookup kL_L_107 (l_128 hL) (k_128 hL) ⟨by decide, rfl⟩ rfl rfl rfl rfl rfl (by decide) (by decide) (by exact Nat.le_of_ble_eq_true rfl) rfl ?_
    refine o_lookup hb1 (fun y1 M2 hb2 hf2 h0 => ?_) (fun y1 y2 M2 hb2 hf2 h0 => ?_) (fun y1 y2 y3 M2 hb2 hf2 h0 => ?_) (fun y1 y2 y3 M2 hb2 hf2 h0 => ?_) 
    · exfalso
      first
        | exact z1 y1
        | exact y1 z1
        | exact z2 y2
        | exact y2 z2
        | exact z3 y3
        | exact y3 z3
        | omega
        | exact z1 (bel_mk (by omega) y1 y2)
        | exact y1 (bel_mk (by omega) z1 z2)
        | exact z1 (gl_mk y1 y2)
        | exact y1 (gl_mk z1 z2)
        | exact z2 y3
        | exact y2 z3
        | exact z1 y3
        | exact y1 z3
        | exact z1 ⟨gl_mk y1 y2, y3⟩
        | exact y1 ⟨gl_mk z1 z2, z3⟩
        | exact z1 (in_mk (by omega) (Nat.zero_le _) y1 y2)
        | exact y1 (in_mk (by omega) (Nat.zero_le _) z1 z2)
        | exact z1 ((iIn1 (by omega)).mpr ⟨jj, y1, y2, y3⟩)
        | exact y1 ((iIn1 (by omega)).mpr ⟨j, z1, z2, z3⟩)
    · have hS2 := fr.S hS1 hf2 refR_8
      have hL := hb2.lay
      refine gKv ?_
      refine E_istore dL_law_279 (Nat.le_of_ble_eq_true rfl) (by decide) rfl ?_
      refine E_aload_n dL_law_281 rfl ?_
      refine E_room (Nat.le_refl _) (k' := 0 + kk) (n' := 0 + nn) (by omega) (by omega) ?_
      refine E_callV0 (fr' := 1) (k1 := 0) (n1 := 0) (k2 := kk) (n2 := nn) dL_law_282 kO_X12_thrown kL_L_100 (l_128 hL) (k_128 hL) ⟨by decide, rfl⟩  (by decide) (by decide) (by exact Nat.le_of_ble_eq_true rfl) rfl ?_
      refine sp_X12_thrown hL h0 ?_
      refine gKv ?_
      refine E_iload dL_law_285 rfl ?_
      refine E_icmp_eq (tgt := 292) dL_law_287 (by decide) (fun _ => ?_) (fun c0 => absurd (by decide) c0)
      refine E_iload dL_law_292 rfl ?_
      refine E_if_ne (tgt := 309) dL_law_294 (by decide) (fun _ => ?_) (fun c0 => absurd (by decide) c0)
      refine E_goto (tgt := 1687) dL_law_309 (by decide) ?_
      exact IH _ _ _ _ _ _ hb2 hS2
    · exfalso
      first
        | exact z1 y1
        | exact y1 z1
        | exact z2 y2
        | exact y2 z2
        | exact z3 y3
        | exact y3 z3
        | omega
        | exact z1 (bel_mk (by omega) y1 y2)
        | exact y1 (bel_mk (by omega) z1 z2)
        | exact z1 (gl_mk y1 y2)
        | exact y1 (gl_mk z1 z2)
        | exact z2 y3
        | exact y2 z3
        | exact z1 y3
        | exact y1 z3
        | exact z1 ⟨gl_mk y1 y2, y3⟩
        | exact y1 ⟨gl_mk z1 z2, z3⟩
        | exact z1 (in_mk (by omega) (Nat.zero_le _) y1 y2)
        | exact y1 (in_mk (by omega) (Nat.zero_le _) z1 z2)
        | exact z1 ((iIn1 (by omega)).mpr ⟨jj, y1, y2, y3⟩)
        | exact y1 ((iIn1 (by omega)).mpr ⟨j, z1, z2, z3⟩)
    · exfalso
      first
        | exact z1 y1
        | exact y1 z1
        | exact z2 y2
        | exact y2 z2
        | exact z3 y3
        | exact y3 z3
        | omega
        | exact z1 (bel_mk (by omega) y1 y2)
        | exact y1 (bel_mk (by omega) z1 z2)
        | exact z1 (gl_mk y1 y2)
        | exact y1 (gl_mk z1 z2)
        | exact z2 y3
        | exact y2 z3
        | exact z1 y3
        | exact y1 z3
        | exact z1 ⟨gl_mk y1 y2, y3⟩
        | exact y1 ⟨gl_mk z1 z2, z3⟩
        | exact z1 (in_mk (by omega) (Nat.zero_le _) y1 y2)
        | exact y1 (in_mk (by omega) (Nat.zero_le _) z1 z2)
        | exact z1 ((iIn1 (by omega)).mpr ⟨jj, y1, y2, y3⟩)
        | exact y1 ((iIn1 (by omega)).mpr ⟨j, z1, z2, z3⟩)
  · have hL := hS1.1.lay
    have hb1 := hb.ke hke hL
    refine gKv ?_
    refine E_istore dL_law_243 (Nat.le_of_ble_eq_true rfl) (by decide) rfl ?_
    refine E_aload_n dL_law_245 rfl ?_
    refine E_aload_s dL_law_246 rfl ?_
    refine E_iload dL_law_247 rfl ?_
    refine E_iconst (v := nI 1) dL_law_249 (by decide) ?_
    refine E_iadd_n dL_law_250 ?_
    refine E_sld dL_law_251 rfl (by omega) (by omega) ?_
    refine E_aload_s dL_law_252 rfl ?_
    refine E_iload dL_law_253 rfl ?_
    refine E_iconst (v := nI 2) dL_law_255 (by decide) ?_
    refine E_iadd_n dL_law_256 ?_
    refine E_sld dL_law_257 rfl (by omega) (by omega) ?_
    refine E_aload_s dL_law_258 rfl ?_
    refine E_iload dL_law_259 rfl ?_
    refine E_iconst (v := nI 3) dL_law_261 (by decide) ?_
    refine E_iadd_n dL_law_262 ?_
    refine E_sld dL_law_263 rfl (by omega) (by omega) ?_
    refine E_aload_s dL_law_264 rfl ?_
    refine E_iload dL_law_265 rfl ?_
    refine E_iconst (v := nI 4) dL_law_267 (by decide) ?_
    refine E_iadd_n dL_law_268 ?_
    refine E_sld dL_law_269 rfl (by omega) (by omega) ?_
    refine E_aload_s dL_law_270 rfl ?_
    refine E_iload dL_law_271 rfl ?_
    refine E_iconst (v := nI 5) dL_law_273 (by decide) ?_
    refine E_iadd_n dL_law_274 ?_
    refine E_sld dL_law_275 rfl (by omega) (by omega) ?_
    refine E_room (Nat.le_refl _) (k' := 0 + kk) (n' := 0 + nn) (by omega) (by omega) ?_
    refine E_callV5 (fr' := 2) (k1 := 0) (n1 := 0) (k2 := kk) (n2 := nn) dL_law_276 kO_X12_lookup kL_L_107 (l_128 hL) (k_128 hL) ⟨by decide, rfl⟩ rfl rfl rfl rfl rfl (by decide) (by decide) (by exact Nat.le_of_ble_eq_true rfl) rfl ?_
    refine o_lookup hb1 (fun y1 M2 hb2 hf2 h0 => ?_) (fun y1 y2 M2 hb2 hf2 h0 => ?_) (fun y1 y2 y3 M2 hb2 hf2 h0 => ?_) (fun y1 y2 y3 M2 hb2 hf2 h0 => ?_) 
    · exfalso
      first
        | exact z1 y1
        | exact y1 z1
        | exact z2 y2
        | exact y2 z2
        | exact z3 y3
        | exact y3 z3
        | omega
        | exact z1 (bel_mk (by omega) y1 y2)
        | exact y1 (bel_mk (by omega) z1 z2)
        | exact z1 (gl_mk y1 y2)
        | exact y1 (gl_mk z1 z2)
        | exact z2 y3
        | exact y2 z3
        | exact z1 y3
        | exact y1 z3
        | exact z1 ⟨gl_mk y1 y2, y3⟩
        | exact y1 ⟨gl_mk z1 z2, z3⟩
        | exact z1 (in_mk (by omega) (Nat.zero_le _) y1 y2)
        | exact y1 (in_mk (by omega) (Nat.zero_le _) z1 z2)
        | exact z1 ((iIn1 (by omega)).mpr ⟨jj, y1, y2, y3⟩)
        | exact y1 ((iIn1 (by omega)).mpr ⟨j, z1, z2, z3⟩)
    · exfalso
      first
        | exact z1 y1
        | exact y1 z1
        | exact z2 y2
        | exact y2 z2
        | exact z3 y3
        | exact y3 z3
        | omega
        | exact z1 (bel_mk (by omega) y1 y2)
        | exact y1 (bel_mk (by omega) z1 z2)
        | exact z1 (gl_mk y1 y2)
        | exact y1 (gl_mk z1 z2)
        | exact z2 y3
        | exact y2 z3
        | exact z1 y3
        | exact y1 z3
        | exact z1 ⟨gl_mk y1 y2, y3⟩
        | exact y1 ⟨gl_mk z1 z2, z3⟩
        | exact z1 (in_mk (by omega) (Nat.zero_le _) y1 y2)
        | exact y1 (in_mk (by omega) (Nat.zero_le _) z1 z2)
        | exact z1 ((iIn1 (by omega)).mpr ⟨jj, y1, y2, y3⟩)
        | exact y1 ((iIn1 (by omega)).mpr ⟨j, z1, z2, z3⟩)
    · have hS2 := fr.S hS1 hf2 refR_8
      have hL := hb2.lay
      refine gKv ?_
      refine E_istore dL_law_279 (Nat.le_of_ble_eq_true rfl) (by decide) rfl ?_
      refine E_aload_n dL_law_281 rfl ?_
      refine E_room (Nat.le_refl _) (k' := 0 + kk) (n' := 0 + nn) (by omega) (by omega) ?_
      refine E_callV0 (fr' := 1) (k1 := 0) (n1 := 0) (k2 := kk) (n2 := nn) dL_law_282 kO_X12_thrown kL_L_100 (l_128 hL) (k_128 hL) ⟨by decide, rfl⟩  (by decide) (by decide) (by exact Nat.le_of_ble_eq_true rfl) rfl ?_
      refine sp_X12_thrown hL h0 ?_
      refine gKv ?_
      refine E_iload dL_law_285 rfl ?_
      refine E_icmp_eq (tgt := 292) dL_law_287 (by decide) (fun _ => ?_) (fun c0 => absurd (by decide) c0)
      refine E_iload dL_law_292 rfl ?_
      refine E_if_ne (tgt := 309) dL_law_294 (by decide) (fun _ => ?_) (fun c0 => absurd (by decide) c0)
      refine E_goto (tgt := 1687) dL_law_309 (by decide) ?_
      exact IH _ _ _ _ _ _ hb2 hS2
    · exfalso
      first
        | exact z1 y1
        | exact y1 z1
        | exact z2 y2
        | exact y2 z2
        | exact z3 y3
        | exact y3 z3
        | omega
        | exact z1 (bel_mk (by omega) y1 y2)
        | exact y1 (bel_mk (by omega) z1 z2)
        | exact z1 (gl_mk y1 y2)
        | exact y1 (gl_mk z1 z2)
        | exact z2 y3
        | exact y2 z3
        | exact z1 y3
        | exact y1 z3
        | exact z1 ⟨gl_mk y1 y2, y3⟩
        | exact y1 ⟨gl_mk z1 z2, z3⟩
        | exact z1 (in_mk (by omega) (Nat.zero_le _) y1 y2)
        | exact y1 (in_mk (by omega) (Nat.zero_le _) z1 z2)
        | exact z1 ((iIn1 (by omega)).mpr ⟨jj, y1, y2, y3⟩)
        | exact y1 ((iIn1 (by omega)).mpr ⟨j, z1, z2, z3⟩)
set_option maxRecDepth 100000 in
set_option maxHeartbeats 4000000 in
theorem case_rule {g : gG} {Q : Option Value ⊕ String → gM → Prop} (hst : (gl1 g).stackTraces = false) {z : UInt32} {i kk nn : Nat} (hi : i + 8 ≤ gsL g) (h4 : gsL g ≤ 4096) {c : Cf} {P π : Nat → Nat} {M : gM} (hb : bS c M) (hS : kS c P π M) (IH : ∀ c' P' π' M' v5 v6, bS c' M' → kS c' P' π' M' → E g 18 kk nn mL_law 1687 [.float z, .ref 1, .ref 129, .ref 179, .int (nI i), v5, v6] [] M' Q) {v5 v6 : Value} : E g 18 (kk + 12) (nn + 330) mL_law 312 [.float z, .ref 1, .ref 129, .ref 179, .int (nI i), v5, v6] [] M Q := by
  have hw := hb.wf
  have hcf : cN c 128 1 < 2 := hw.fac
  have hct := hw.ct (cN c 128 1)
  have hct2 : cnt0 c ≤ 12 := hct
  have h16 : tl c ≤ 16 := hw.tl
  have hng := ng_1024 hw
  have hL := hb.lay
  refine E_aload_n dL_law_312 rfl ?_
  refine E_aload_s dL_law_313 rfl ?_
  refine E_iload dL_law_314 rfl ?_
  refine E_iconst (v := nI 1) dL_law_316 (by decide) ?_
  refine E_iadd_n dL_law_317 ?_
  refine E_sld dL_law_318 rfl (by omega) (by omega) ?_
  refine E_aload_s dL_law_319 rfl ?_
  refine E_iload dL_law_320 rfl ?_
  refine E_iconst (v := nI 2) dL_law_322 (by decide) ?_
  refine E_iadd_n dL_law_323 ?_
  refine E_sld dL_law_324 rfl (by omega) (by omega) ?_
  refine E_aload_s dL_law_325 rfl ?_
  refine E_iload dL_law_326 rfl ?_
  refine E_iconst (v := nI 3) dL_law_328 (by decide) ?_
  refine E_iadd_n dL_law_329 ?_
  refine E_sld dL_law_330 rfl (by omega) (by omega) ?_
  refine E_aload_s dL_law_331 rfl ?_
  refine E_iload dL_law_332 rfl ?_
  refine E_iconst (v := nI 4) dL_law_334 (by decide) ?_
  refine E_iadd_n dL_law_335 ?_
  refine E_sld dL_law_336 rfl (by omega) (by omega) ?_
  refine E_aload_s dL_law_337 rfl ?_
  refine E_iload dL_law_338 rfl ?_
  refine E_iconst (v := nI 5) dL_law_340 (by decide) ?_
  refine E_iadd_n dL_law_341 ?_
  refine E_sld dL_law_342 rfl (by omega) (by omega) ?_
  refine E_aload_s dL_law_343 rfl ?_
  refine E_iload dL_law_344 rfl ?_
  refine E_bipush (v := nI 6) dL_law_346 (by decide) ?_
  refine E_iadd_n dL_law_348 ?_
  refine E_sld dL_law_349 rfl (by omega) (by omega) ?_
  refine E_aload_s dL_law_350 rfl ?_
  refine E_iload dL_law_351 rfl ?_
  refine E_bipush (v := nI 7) dL_law_353 (by decide) ?_
  refine E_iadd_n dL_law_355 ?_
  refine E_sld dL_law_356 rfl (by omega) (by omega) ?_
  refine E_aload_n dL_law_357 rfl ?_
  refine E_room (Nat.le_refl _) (k' := 1 + kk) (n' := 6 + nn) (by omega) (by omega) ?_
  refine E_callS9 (fr' := 8) (k1 := 1) (n1 := 6) (k2 := kk) (n2 := nn) dL_law_358 kO_L_rule kL_L_108 rfl rfl rfl rfl rfl rfl rfl rfl rfl (by decide) (by decide) (by exact Nat.le_of_ble_eq_true rfl) (Or.inr (gW_at 982 (by decide +kernel) (by decide +kernel))) rfl ?_
  refine w_rule hst hS (fun j z1 z2 z3 z4 M1 P1 π1 hS1 hke hm => ?_) (fun z1 M1 P1 π1 hS1 hke => ?_) (fun j z1 z2 z3 M1 P1 π1 hS1 hke => ?_) (fun j z1 z2 z3 z4 M1 P1 π1 hS1 hke => ?_)
  · have hL := hS1.1.lay
    have hb1 := hb.ke hke hL
    refine gKv ?_
    refine E_istore dL_law_361 (Nat.le_of_ble_eq_true rfl) (by decide) rfl ?_
    refine E_aload_n dL_law_363 rfl ?_
    refine E_aload_s dL_law_364 rfl ?_
    refine E_iload dL_law_365 rfl ?_
    refine E_iconst (v := nI 1) dL_law_367 (by decide) ?_
    refine E_iadd_n dL_law_368 ?_
    refine E_sld dL_law_369 rfl (by omega) (by omega) ?_
    refine E_aload_s dL_law_370 rfl ?_
    refine E_iload dL_law_371 rfl ?_
    refine E_iconst (v := nI 2) dL_law_373 (by decide) ?_
    refine E_iadd_n dL_law_374 ?_
    refine E_sld dL_law_375 rfl (by omega) (by omega) ?_
    refine E_aload_s dL_law_376 rfl ?_
    refine E_iload dL_law_377 rfl ?_
    refine E_iconst (v := nI 3) dL_law_379 (by decide) ?_
    refine E_iadd_n dL_law_380 ?_
    refine E_sld dL_law_381 rfl (by omega) (by omega) ?_
    refine E_aload_s dL_law_382 rfl ?_
    refine E_iload dL_law_383 rfl ?_
    refine E_iconst (v := nI 4) dL_law_385 (by decide) ?_
    refine E_iadd_n dL_law_386 ?_
    refine E_sld dL_law_387 rfl (by omega) (by omega) ?_
    refine E_aload_s dL_law_388 rfl ?_
    refine E_iload dL_law_389 rfl ?_
    refine E_iconst (v := nI 5) dL_law_391 (by decide) ?_
    refine E_iadd_n dL_law_392 ?_
    refine E_sld dL_law_393 rfl (by omega) (by omega) ?_
    refine E_aload_s dL_law_394 rfl ?_
    refine E_iload dL_law_395 rfl ?_
    refine E_bipush (v := nI 6) dL_law_397 (by decide) ?_
    refine E_iadd_n dL_law_399 ?_
    refine E_sld dL_law_400 rfl (by omega) (by omega) ?_
    refine E_aload_s dL_law_401 rfl ?_
    refine E_iload dL_law_402 rfl ?_
    refine E_bipush (v := nI 7) dL_law_404 (by decide) ?_
    refine E_iadd_n dL_law_406 ?_
    refine E_sld dL_law_407 rfl (by omega) (by omega) ?_
    refine E_room (Nat.le_refl _) (k' := 0 + kk) (n' := 0 + nn) (by omega) (by omega) ?_
    refine E_callV7 (fr' := 6) (k1 := 0) (n1 := 0) (k2 := kk) (n2 := nn) dL_law_408 kO_X12_rule kL_L_111 (l_128 hL) (k_128 hL) ⟨by decide, rfl⟩ rfl rfl rfl rfl rfl rfl rfl (by decide) (by decide) (by exact Nat.le_of_ble_eq_true rfl) rfl ?_
    refine o_rule hb1 (fun y1 M2 hb2 hf2 h0 => ?_) (fun jj y1 y2 y3 M2 hb2 hf2 h0 => ?_) (fun jj y1 y2 y3 y4 M2 hb2 hf2 h0 => ?_) (fun jj y1 y2 y3 y4 M2 hb2 hf2 h0 => ?_) 
    · exfalso
      first
        | exact z1 (bel_mk (by omega) y1 y2)
        | exact y1 (bel_mk (by omega) z1 z2)
        | (obtain rfl := nI_ij z2 y2 (by omega) (by omega); first | exact z3 y3 | exact y3 z3 | omega)
    · exfalso
      first
        | exact z1 (bel_mk (by omega) y1 y2)
        | exact y1 (bel_mk (by omega) z1 z2)
        | (obtain rfl := nI_ij z2 y2 (by omega) (by omega); first | exact z3 y3 | exact y3 z3 | omega)
    · exfalso
      first
        | exact z1 (bel_mk (by omega) y1 y2)
        | exact y1 (bel_mk (by omega) z1 z2)
        | (obtain rfl := nI_ij z2 y2 (by omega) (by omega); first | exact z3 y3 | exact y3 z3 | omega)
    · obtain rfl : jj = j := nI_ij z2 y2 (by omega) (by omega)
      have hS2 := fr.S hS1 hf2 refR_8
      have hL := hb2.lay
      have hm2 := fr_L hf2 hm
      refine gKv ?_
      refine E_istore dL_law_411 (Nat.le_of_ble_eq_true rfl) (by decide) rfl ?_
      refine E_aload_n dL_law_413 rfl ?_
      refine E_room (Nat.le_refl _) (k' := 0 + kk) (n' := 0 + nn) (by omega) (by omega) ?_
      refine E_callV0 (fr' := 1) (k1 := 0) (n1 := 0) (k2 := kk) (n2 := nn) dL_law_414 kO_X12_thrown kL_L_100 (l_128 hL) (k_128 hL) ⟨by decide, rfl⟩  (by decide) (by decide) (by exact Nat.le_of_ble_eq_true rfl) rfl ?_
      refine sp_X12_thrown hL h0 ?_
      refine gKv ?_
      refine E_iload dL_law_417 rfl ?_
      refine E_icmp_eq (tgt := 424) dL_law_419 (by decide) (fun _ => ?_) (fun c0 => absurd (by decide) c0)
      refine E_iload dL_law_424 rfl ?_
      refine E_if_ne (tgt := 441) dL_law_426 (by decide) (fun c0 => absurd c0 (by decide)) (fun _ => ?_)
      refine E_aload_n dL_law_429 rfl ?_
      refine E_iconst (v := nI 0) dL_law_430 (by decide) ?_
      refine E_lald dL_law_431 (l_178 hL) (k_178 hL) rfl (by omega) (by decide) ?_
      refine E_iload dL_law_432 rfl ?_
      refine E_i2l dL_law_434 ?_
      refine E_lcmp dL_law_435 ?_
      refine E_if_eq (tgt := 441) dL_law_436 (by decide) (fun _ => ?_) (fun c0 => absurd (lcz hm2) c0)
      refine E_goto (tgt := 1687) dL_law_441 (by decide) ?_
      exact IH _ _ _ _ _ _ hb2 hS2
  · have hL := hS1.1.lay
    have hb1 := hb.ke hke hL
    refine gKv ?_
    refine E_istore dL_law_361 (Nat.le_of_ble_eq_true rfl) (by decide) rfl ?_
    refine E_aload_n dL_law_363 rfl ?_
    refine E_aload_s dL_law_364 rfl ?_
    refine E_iload dL_law_365 rfl ?_
    refine E_iconst (v := nI 1) dL_law_367 (by decide) ?_
    refine E_iadd_n dL_law_368 ?_
    refine E_sld dL_law_369 rfl (by omega) (by omega) ?_
    refine E_aload_s dL_law_370 rfl ?_
    refine E_iload dL_law_371 rfl ?_
    refine E_iconst (v := nI 2) dL_law_373 (by decide) ?_
    refine E_iadd_n dL_law_374 ?_
    refine E_sld dL_law_375 rfl (by omega) (by omega) ?_
    refine E_aload_s dL_law_376 rfl ?_
    refine E_iload dL_law_377 rfl ?_
    refine E_iconst (v := nI 3) dL_law_379 (by decide) ?_
    refine E_iadd_n dL_law_380 ?_
    refine E_sld dL_law_381 rfl (by omega) (by omega) ?_
    refine E_aload_s dL_law_382 rfl ?_
    refine E_iload dL_law_383 rfl ?_
    refine E_iconst (v := nI 4) dL_law_385 (by decide) ?_
    refine E_iadd_n dL_law_386 ?_
    refine E_sld dL_law_387 rfl (by omega) (by omega) ?_
    refine E_aload_s dL_law_388 rfl ?_
    refine E_iload dL_law_389 rfl ?_
    refine E_iconst (v := nI 5) dL_law_391 (by decide) ?_
    refine E_iadd_n dL_law_392 ?_
    refine E_sld dL_law_393 rfl (by omega) (by omega) ?_
    refine E_aload_s dL_law_394 rfl ?_
    refine E_iload dL_law_395 rfl ?_
    refine E_bipush (v := nI 6) dL_law_397 (by decide) ?_
    refine E_iadd_n dL_law_399 ?_
    refine E_sld dL_law_400 rfl (by omega) (by omega) ?_
    refine E_aload_s dL_law_401 rfl ?_
    refine E_iload dL_law_402 rfl ?_
    refine E_bipush (v := nI 7) dL_law_404 (by decide) ?_
    refine E_iadd_n dL_law_406 ?_
    refine E_sld dL_law_407 rfl (by omega) (by omega) ?_
    refine E_room (Nat.le_refl _) (k' := 0 + kk) (n' := 0 + nn) (by omega) (by omega) ?_
    refine E_callV7 (fr' := 6) (k1 := 0) (n1 := 0) (k2 := kk) (n2 := nn) dL_law_408 kO_X12_rule kL_L_111 (l_128 hL) (k_128 hL) ⟨by decide, rfl⟩ rfl rfl rfl rfl rfl rfl rfl (by decide) (by decide) (by exact Nat.le_of_ble_eq_true rfl) rfl ?_
    refine o_rule hb1 (fun y1 M2 hb2 hf2 h0 => ?_) (fun jj y1 y2 y3 M2 hb2 hf2 h0 => ?_) (fun jj y1 y2 y3 y4 M2 hb2 hf2 h0 => ?_) (fun jj y1 y2 y3 y4 M2 hb2 hf2 h0 => ?_) 
    · have hS2 := fr.S hS1 hf2 refR_8
      have hL := hb2.lay
      refine gKv ?_
      refine E_istore dL_law_411 (Nat.le_of_ble_eq_true rfl) (by decide) rfl ?_
      refine E_aload_n dL_law_413 rfl ?_
      refine E_room (Nat.le_refl _) (k' := 0 + kk) (n' := 0 + nn) (by omega) (by omega) ?_
      refine E_callV0 (fr' := 1) (k1 := 0) (n1 := 0) (k2 := kk) (n2 := nn) dL_law_414 kO_X12_thrown kL_L_100 (l_128 hL) (k_128 hL) ⟨by decide, rfl⟩  (by decide) (by decide) (by exact Nat.le_of_ble_eq_true rfl) rfl ?_
      refine sp_X12_thrown hL h0 ?_
      refine gKv ?_
      refine E_iload dL_law_417 rfl ?_
      refine E_icmp_eq (tgt := 424) dL_law_419 (by decide) (fun _ => ?_) (fun c0 => absurd (by decide) c0)
      refine E_iload dL_law_424 rfl ?_
      refine E_if_ne (tgt := 441) dL_law_426 (by decide) (fun _ => ?_) (fun c0 => absurd (by decide) c0)
      refine E_goto (tgt := 1687) dL_law_441 (by decide) ?_
      exact IH _ _ _ _ _ _ hb2 hS2
    · exfalso
      first
        | exact z1 (bel_mk (by omega) y1 y2)
        | exact y1 (bel_mk (by omega) z1 z2)
        | (obtain rfl := nI_ij z2 y2 (by omega) (by omega); first | exact z3 y3 | exact y3 z3 | omega)
    · exfalso
      first
        | exact z1 (bel_mk (by omega) y1 y2)
        | exact y1 (bel_mk (by omega) z1 z2)
        | (obtain rfl := nI_ij z2 y2 (by omega) (by omega); first | exact z3 y3 | exact y3 z3 | omega)
    · exfalso
      first
        | exact z1 (bel_mk (by omega) y1 y2)
        | exact y1 (bel_mk (by omega) z1 z2)
        | (obtain rfl := nI_ij z2 y2 (by omega) (by omega); first | exact z3 y3 | exact y3 z3 | omega)
  · have hL := hS1.1.lay
    have hb1 := hb.ke hke hL
    refine gKv ?_
    refine E_istore dL_law_361 (Nat.le_of_ble_eq_true rfl) (by decide) rfl ?_
    refine E_aload_n dL_law_363 rfl ?_
    refine E_aload_s dL_law_364 rfl ?_
    refine E_iload dL_law_365 rfl ?_
    refine E_iconst (v := nI 1) dL_law_367 (by decide) ?_
    refine E_iadd_n dL_law_368 ?_
    refine E_sld dL_law_369 rfl (by omega) (by omega) ?_
    refine E_aload_s dL_law_370 rfl ?_
    refine E_iload dL_law_371 rfl ?_
    refine E_iconst (v := nI 2) dL_law_373 (by decide) ?_
    refine E_iadd_n dL_law_374 ?_
    refine E_sld dL_law_375 rfl (by omega) (by omega) ?_
    refine E_aload_s dL_law_376 rfl ?_
    refine E_iload dL_law_377 rfl ?_
    refine E_iconst (v := nI 3) dL_law_379 (by decide) ?_
    refine E_iadd_n dL_law_380 ?_
    refine E_sld dL_law_381 rfl (by omega) (by omega) ?_
    refine E_aload_s dL_law_382 rfl ?_
    refine E_iload dL_law_383 rfl ?_
    refine E_iconst (v := nI 4) dL_law_385 (by decide) ?_
    refine E_iadd_n dL_law_386 ?_
    refine E_sld dL_law_387 rfl (by omega) (by omega) ?_
    refine E_aload_s dL_law_388 rfl ?_
    refine E_iload dL_law_389 rfl ?_
    refine E_iconst (v := nI 5) dL_law_391 (by decide) ?_
    refine E_iadd_n dL_law_392 ?_
    refine E_sld dL_law_393 rfl (by omega) (by omega) ?_
    refine E_aload_s dL_law_394 rfl ?_
    refine E_iload dL_law_395 rfl ?_
    refine E_bipush (v := nI 6) dL_law_397 (by decide) ?_
    refine E_iadd_n dL_law_399 ?_
    refine E_sld dL_law_400 rfl (by omega) (by omega) ?_
    refine E_aload_s dL_law_401 rfl ?_
    refine E_iload dL_law_402 rfl ?_
    refine E_bipush (v := nI 7) dL_law_404 (by decide) ?_
    refine E_iadd_n dL_law_406 ?_
    refine E_sld dL_law_407 rfl (by omega) (by omega) ?_
    refine E_room (Nat.le_refl _) (k' := 0 + kk) (n' := 0 + nn) (by omega) (by omega) ?_
    refine E_callV7 (fr' := 6) (k1 := 0) (n1 := 0) (k2 := kk) (n2 := nn) dL_law_408 kO_X12_rule kL_L_111 (l_128 hL) (k_128 hL) ⟨by decide, rfl⟩ rfl rfl rfl rfl rfl rfl rfl (by decide) (by decide) (by exact Nat.le_of_ble_eq_true rfl) rfl ?_
    refine o_rule hb1 (fun y1 M2 hb2 hf2 h0 => ?_) (fun jj y1 y2 y3 M2 hb2 hf2 h0 => ?_) (fun jj y1 y2 y3 y4 M2 hb2 hf2 h0 => ?_) (fun jj y1 y2 y3 y4 M2 hb2 hf2 h0 => ?_) 
    · exfalso
      first
        | exact z1 (bel_mk (by omega) y1 y2)
        | exact y1 (bel_mk (by omega) z1 z2)
        | (obtain rfl := nI_ij z2 y2 (by omega) (by omega); first | exact z3 y3 | exact y3 z3 | omega)
    · obtain rfl : jj = j := nI_ij z2 y2 (by omega) (by omega)
      have hS2 := fr.S hS1 hf2 refR_8
      have hL := hb2.lay
      refine gKv ?_
      refine E_istore dL_law_411 (Nat.le_of_ble_eq_true rfl) (by decide) rfl ?_
      refine E_aload_n dL_law_413 rfl ?_
      refine E_room (Nat.le_refl _) (k' := 0 + kk) (n' := 0 + nn) (by omega) (by omega) ?_
      refine E_callV0 (fr' := 1) (k1 := 0) (n1 := 0) (k2 := kk) (n2 := nn) dL_law_414 kO_X12_thrown kL_L_100 (l_128 hL) (k_128 hL) ⟨by decide, rfl⟩  (by decide) (by decide) (by exact Nat.le_of_ble_eq_true rfl) rfl ?_
      refine sp_X12_thrown hL h0 ?_
      refine gKv ?_
      refine E_iload dL_law_417 rfl ?_
      refine E_icmp_eq (tgt := 424) dL_law_419 (by decide) (fun _ => ?_) (fun c0 => absurd (by decide) c0)
      refine E_iload dL_law_424 rfl ?_
      refine E_if_ne (tgt := 441) dL_law_426 (by decide) (fun _ => ?_) (fun c0 => absurd (by decide) c0)
      refine E_goto (tgt := 1687) dL_law_441 (by decide) ?_
      exact IH _ _ _ _ _ _ hb2 hS2
    · exfalso
      first
        | exact z1 (bel_mk (by omega) y1 y2)
        | exact y1 (bel_mk (by omega) z1 z2)
        | (obtain rfl := nI_ij z2 y2 (by omega) (by omega); first | exact z3 y3 | exact y3 z3 | omega)
    · exfalso
      first
        | exact z1 (bel_mk (by omega) y1 y2)
        | exact y1 (bel_mk (by omega) z1 z2)
        | (obtain rfl := nI_ij z2 y2 (by omega) (by omega); first | exact z3 y3 | exact y3 z3 | omega)
  · have hL := hS1.1.lay
    have hb1 := hb.ke hke hL
    refine gKv ?_
    refine E_istore dL_law_361 (Nat.le_of_ble_eq_true rfl) (by decide) rfl ?_
    refine E_aload_n dL_law_363 rfl ?_
    refine E_aload_s dL_law_364 rfl ?_
    refine E_iload dL_law_365 rfl ?_
    refine E_iconst (v := nI 1) dL_law_367 (by decide) ?_
    refine E_iadd_n dL_law_368 ?_
    refine E_sld dL_law_369 rfl (by omega) (by omega) ?_
    refine E_aload_s dL_law_370 rfl ?_
    refine E_iload dL_law_371 rfl ?_
    refine E_iconst (v := nI 2) dL_law_373 (by decide) ?_
    refine E_iadd_n dL_law_374 ?_
    refine E_sld dL_law_375 rfl (by omega) (by omega) ?_
    refine E_aload_s dL_law_376 rfl ?_
    refine E_iload dL_law_377 rfl ?_
    refine E_iconst (v := nI 3) dL_law_379 (by decide) ?_
    refine E_iadd_n dL_law_380 ?_
    refine E_sld dL_law_381 rfl (by omega) (by omega) ?_
    refine E_aload_s dL_law_382 rfl ?_
    refine E_iload dL_law_383 rfl ?_
    refine E_iconst (v := nI 4) dL_law_385 (by decide) ?_
    refine E_iadd_n dL_law_386 ?_
    refine E_sld dL_law_387 rfl (by omega) (by omega) ?_
    refine E_aload_s dL_law_388 rfl ?_
    refine E_iload dL_law_389 rfl ?_
    refine E_iconst (v := nI 5) dL_law_391 (by decide) ?_
    refine E_iadd_n dL_law_392 ?_
    refine E_sld dL_law_393 rfl (by omega) (by omega) ?_
    refine E_aload_s dL_law_394 rfl ?_
    refine E_iload dL_law_395 rfl ?_
    refine E_bipush (v := nI 6) dL_law_397 (by decide) ?_
    refine E_iadd_n dL_law_399 ?_
    refine E_sld dL_law_400 rfl (by omega) (by omega) ?_
    refine E_aload_s dL_law_401 rfl ?_
    refine E_iload dL_law_402 rfl ?_
    refine E_bipush (v := nI 7) dL_law_404 (by decide) ?_
    refine E_iadd_n dL_law_406 ?_
    refine E_sld dL_law_407 rfl (by omega) (by omega) ?_
    refine E_room (Nat.le_refl _) (k' := 0 + kk) (n' := 0 + nn) (by omega) (by omega) ?_
    refine E_callV7 (fr' := 6) (k1 := 0) (n1 := 0) (k2 := kk) (n2 := nn) dL_law_408 kO_X12_rule kL_L_111 (l_128 hL) (k_128 hL) ⟨by decide, rfl⟩ rfl rfl rfl rfl rfl rfl rfl (by decide) (by decide) (by exact Nat.le_of_ble_eq_true rfl) rfl ?_
    refine o_rule hb1 (fun y1 M2 hb2 hf2 h0 => ?_) (fun jj y1 y2 y3 M2 hb2 hf2 h0 => ?_) (fun jj y1 y2 y3 y4 M2 hb2 hf2 h0 => ?_) (fun jj y1 y2 y3 y4 M2 hb2 hf2 h0 => ?_) 
    · exfalso
      first
        | exact z1 (bel_mk (by omega) y1 y2)
        | exact y1 (bel_mk (by omega) z1 z2)
        | (obtain rfl := nI_ij z2 y2 (by omega) (by omega); first | exact z3 y3 | exact y3 z3 | omega)
    · exfalso
      first
        | exact z1 (bel_mk (by omega) y1 y2)
        | exact y1 (bel_mk (by omega) z1 z2)
        | (obtain rfl := nI_ij z2 y2 (by omega) (by omega); first | exact z3 y3 | exact y3 z3 | omega)
    · obtain rfl : jj = j := nI_ij z2 y2 (by omega) (by omega)
      have hS2 := fr.S hS1 hf2 refR_8
      have hL := hb2.lay
      refine gKv ?_
      refine E_istore dL_law_411 (Nat.le_of_ble_eq_true rfl) (by decide) rfl ?_
      refine E_aload_n dL_law_413 rfl ?_
      refine E_room (Nat.le_refl _) (k' := 0 + kk) (n' := 0 + nn) (by omega) (by omega) ?_
      refine E_callV0 (fr' := 1) (k1 := 0) (n1 := 0) (k2 := kk) (n2 := nn) dL_law_414 kO_X12_thrown kL_L_100 (l_128 hL) (k_128 hL) ⟨by decide, rfl⟩  (by decide) (by decide) (by exact Nat.le_of_ble_eq_true rfl) rfl ?_
      refine sp_X12_thrown hL h0 ?_
      refine gKv ?_
      refine E_iload dL_law_417 rfl ?_
      refine E_icmp_eq (tgt := 424) dL_law_419 (by decide) (fun _ => ?_) (fun c0 => absurd (by decide) c0)
      refine E_iload dL_law_424 rfl ?_
      refine E_if_ne (tgt := 441) dL_law_426 (by decide) (fun _ => ?_) (fun c0 => absurd (by decide) c0)
      refine E_goto (tgt := 1687) dL_law_441 (by decide) ?_
      exact IH _ _ _ _ _ _ hb2 hS2
    · exfalso
      first
        | exact z1 (bel_mk (by omega) y1 y2)
        | exact y1 (bel_mk (by omega) z1 z2)
        | (obtain rfl := nI_ij z2 y2 (by omega) (by omega); first | exact z3 y3 | exact y3 z3 | omega)
set_option maxRecDepth 100000 in
set_option maxHeartbeats 4000000 in
theorem case_setMark {g : gG} {Q : Option Value ⊕ String → gM → Prop} (hst : (gl1 g).stackTraces = false) {z : UInt32} {i kk nn : Nat} (hi : i + 8 ≤ gsL g) (h4 : gsL g ≤ 4096) {c : Cf} {P π : Nat → Nat} {M : gM} (hb : bS c M) (hS : kS c P π M) (IH : ∀ c' P' π' M' v5 v6, bS c' M' → kS c' P' π' M' → E g 18 kk nn mL_law 1687 [.float z, .ref 1, .ref 129, .ref 179, .int (nI i), v5, v6] [] M' Q) {v5 v6 : Value} : E g 18 (kk + 12) (nn + 330) mL_law 444 [.float z, .ref 1, .ref 129, .ref 179, .int (nI i), v5, v6] [] M Q := by
  have hw := hb.wf
  have hcf : cN c 128 1 < 2 := hw.fac
  have hct := hw.ct (cN c 128 1)
  have hct2 : cnt0 c ≤ 12 := hct
  have h16 : tl c ≤ 16 := hw.tl
  have hng := ng_1024 hw
  have hL := hb.lay
  refine E_aload_n dL_law_444 rfl ?_
  refine E_aload_s dL_law_445 rfl ?_
  refine E_iload dL_law_446 rfl ?_
  refine E_iconst (v := nI 1) dL_law_448 (by decide) ?_
  refine E_iadd_n dL_law_449 ?_
  refine E_sld dL_law_450 rfl (by omega) (by omega) ?_
  refine E_aload_s dL_law_451 rfl ?_
  refine E_iload dL_law_452 rfl ?_
  refine E_iconst (v := nI 2) dL_law_454 (by decide) ?_
  refine E_iadd_n dL_law_455 ?_
  refine E_sld dL_law_456 rfl (by omega) (by omega) ?_
  refine E_aload_n dL_law_457 rfl ?_
  refine E_room (Nat.le_refl _) (k' := 1 + kk) (n' := 6 + nn) (by omega) (by omega) ?_
  refine E_callS4 (fr' := 8) (k1 := 1) (n1 := 6) (k2 := kk) (n2 := nn) dL_law_458 kO_L_setMark kL_L_112 rfl rfl rfl rfl (by decide) (by decide) (by exact Nat.le_of_ble_eq_true rfl) (Or.inr (gW_at 1018 (by decide +kernel) (by decide +kernel))) rfl ?_
  refine w_setMark hst hS (fun j z1 z2 z3 M1 P1 π1 hS1 hke hm => ?_) (fun z1 M1 P1 π1 hS1 hke => ?_) (fun z1 z2 M1 P1 π1 hS1 hke => ?_)
  · have hL := hS1.1.lay
    have hb1 := hb.ke hke hL
    refine gKv ?_
    refine E_istore dL_law_461 (Nat.le_of_ble_eq_true rfl) (by decide) rfl ?_
    refine E_aload_n dL_law_463 rfl ?_
    refine E_aload_s dL_law_464 rfl ?_
    refine E_iload dL_law_465 rfl ?_
    refine E_iconst (v := nI 1) dL_law_467 (by decide) ?_
    refine E_iadd_n dL_law_468 ?_
    refine E_sld dL_law_469 rfl (by omega) (by omega) ?_
    refine E_aload_s dL_law_470 rfl ?_
    refine E_iload dL_law_471 rfl ?_
    refine E_iconst (v := nI 2) dL_law_473 (by decide) ?_
    refine E_iadd_n dL_law_474 ?_
    refine E_sld dL_law_475 rfl (by omega) (by omega) ?_
    refine E_room (Nat.le_refl _) (k' := 0 + kk) (n' := 0 + nn) (by omega) (by omega) ?_
    refine E_callV2 (fr' := 3) (k1 := 0) (n1 := 0) (k2 := kk) (n2 := nn) dL_law_476 kO_X12_setMark kL_L_115 (l_128 hL) (k_128 hL) ⟨by decide, rfl⟩ rfl rfl (by decide) (by decide) (by exact Nat.le_of_ble_eq_true rfl) rfl ?_
    refine o_setMark hb1 (fun y1 M2 hb2 hf2 h0 => ?_) (fun y1 y2 M2 hb2 hf2 h0 => ?_) (fun jj y1 y2 y3 M2 hb2 hf2 h0 => ?_) 
    · exfalso
      first
        | exact z1 y1
        | exact y1 z1
        | exact z2 y2
        | exact y2 z2
        | exact z3 y3
        | exact y3 z3
        | omega
        | exact z1 (bel_mk (by omega) y1 y2)
        | exact y1 (bel_mk (by omega) z1 z2)
        | exact z1 (gl_mk y1 y2)
        | exact y1 (gl_mk z1 z2)
        | exact z2 y3
        | exact y2 z3
        | exact z1 y3
        | exact y1 z3
        | exact z1 ⟨gl_mk y1 y2, y3⟩
        | exact y1 ⟨gl_mk z1 z2, z3⟩
        | exact z1 (in_mk (by omega) (Nat.zero_le _) y1 y2)
        | exact y1 (in_mk (by omega) (Nat.zero_le _) z1 z2)
        | exact z1 ((iIn1 (by omega)).mpr ⟨jj, y1, y2, y3⟩)
        | exact y1 ((iIn1 (by omega)).mpr ⟨j, z1, z2, z3⟩)
    · exfalso
      first
        | exact z1 y1
        | exact y1 z1
        | exact z2 y2
        | exact y2 z2
        | exact z3 y3
        | exact y3 z3
        | omega
        | exact z1 (bel_mk (by omega) y1 y2)
        | exact y1 (bel_mk (by omega) z1 z2)
        | exact z1 (gl_mk y1 y2)
        | exact y1 (gl_mk z1 z2)
        | exact z2 y3
        | exact y2 z3
        | exact z1 y3
        | exact y1 z3
        | exact z1 ⟨gl_mk y1 y2, y3⟩
        | exact y1 ⟨gl_mk z1 z2, z3⟩
        | exact z1 (in_mk (by omega) (Nat.zero_le _) y1 y2)
        | exact y1 (in_mk (by omega) (Nat.zero_le _) z1 z2)
        | exact z1 ((iIn1 (by omega)).mpr ⟨jj, y1, y2, y3⟩)
        | exact y1 ((iIn1 (by omega)).mpr ⟨j, z1, z2, z3⟩)
    · obtain rfl : jj = j := nI_ij z2 y2 (by omega) (by omega)
      have hS2 := fr.S hS1 hf2 refR_8
      have hL := hb2.lay
      have hm2 := fr_L hf2 hm
      refine gKv ?_
      refine E_istore dL_law_479 (Nat.le_of_ble_eq_true rfl) (by decide) rfl ?_
      refine E_aload_n dL_law_481 rfl ?_
      refine E_room (Nat.le_refl _) (k' := 0 + kk) (n' := 0 + nn) (by omega) (by omega) ?_
      refine E_callV0 (fr' := 1) (k1 := 0) (n1 := 0) (k2 := kk) (n2 := nn) dL_law_482 kO_X12_thrown kL_L_100 (l_128 hL) (k_128 hL) ⟨by decide, rfl⟩  (by decide) (by decide) (by exact Nat.le_of_ble_eq_true rfl) rfl ?_
      refine sp_X12_thrown hL h0 ?_
      refine gKv ?_
      refine E_iload dL_law_485 rfl ?_
      refine E_icmp_eq (tgt := 492) dL_law_487 (by decide) (fun _ => ?_) (fun c0 => absurd (by decide) c0)
      refine E_iload dL_law_492 rfl ?_
      refine E_if_ne (tgt := 509) dL_law_494 (by decide) (fun c0 => absurd c0 (by decide)) (fun _ => ?_)
      refine E_aload_n dL_law_497 rfl ?_
      refine E_iconst (v := nI 0) dL_law_498 (by decide) ?_
      refine E_lald dL_law_499 (l_178 hL) (k_178 hL) rfl (by omega) (by decide) ?_
      refine E_iload dL_law_500 rfl ?_
      refine E_i2l dL_law_502 ?_
      refine E_lcmp dL_law_503 ?_
      refine E_if_eq (tgt := 509) dL_law_504 (by decide) (fun _ => ?_) (fun c0 => absurd (lcz hm2) c0)
      refine E_goto (tgt := 1687) dL_law_509 (by decide) ?_
      exact IH _ _ _ _ _ _ hb2 hS2
  · have hL := hS1.1.lay
    have hb1 := hb.ke hke hL
    refine gKv ?_
    refine E_istore dL_law_461 (Nat.le_of_ble_eq_true rfl) (by decide) rfl ?_
    refine E_aload_n dL_law_463 rfl ?_
    refine E_aload_s dL_law_464 rfl ?_
    refine E_iload dL_law_465 rfl ?_
    refine E_iconst (v := nI 1) dL_law_467 (by decide) ?_
    refine E_iadd_n dL_law_468 ?_
    refine E_sld dL_law_469 rfl (by omega) (by omega) ?_
    refine E_aload_s dL_law_470 rfl ?_
    refine E_iload dL_law_471 rfl ?_
    refine E_iconst (v := nI 2) dL_law_473 (by decide) ?_
    refine E_iadd_n dL_law_474 ?_
    refine E_sld dL_law_475 rfl (by omega) (by omega) ?_
    refine E_room (Nat.le_refl _) (k' := 0 + kk) (n' := 0 + nn) (by omega) (by omega) ?_
    refine E_callV2 (fr' := 3) (k1 := 0) (n1 := 0) (k2 := kk) (n2 := nn) dL_law_476 kO_X12_setMark kL_L_115 (l_128 hL) (k_128 hL) ⟨by decide, rfl⟩ rfl rfl (by decide) (by decide) (by exact Nat.le_of_ble_eq_true rfl) rfl ?_
    refine o_setMark hb1 (fun y1 M2 hb2 hf2 h0 => ?_) (fun y1 y2 M2 hb2 hf2 h0 => ?_) (fun jj y1 y2 y3 M2 hb2 hf2 h0 => ?_) 
    · have hS2 := fr.S hS1 hf2 refR_8
      have hL := hb2.lay
      refine gKv ?_
      refine E_istore dL_law_479 (Nat.le_of_ble_eq_true rfl) (by decide) rfl ?_
      refine E_aload_n dL_law_481 rfl ?_
      refine E_room (Nat.le_refl _) (k' := 0 + kk) (n' := 0 + nn) (by omega) (by omega) ?_
      refine E_callV0 (fr' := 1) (k1 := 0) (n1 := 0) (k2 := kk) (n2 := nn) dL_law_482 kO_X12_thrown kL_L_100 (l_128 hL) (k_128 hL) ⟨by decide, rfl⟩  (by decide) (by decide) (by exact Nat.le_of_ble_eq_true rfl) rfl ?_
      refine sp_X12_thrown hL h0 ?_
      refine gKv ?_
      refine E_iload dL_law_485 rfl ?_
      refine E_icmp_eq (tgt := 492) dL_law_487 (by decide) (fun _ => ?_) (fun c0 => absurd (by decide) c0)
      refine E_iload dL_law_492 rfl ?_
      refine E_if_ne (tgt := 509) dL_law_494 (by decide) (fun _ => ?_) (fun c0 => absurd (by decide) c0)
      refine E_goto (tgt := 1687) dL_law_509 (by decide) ?_
      exact IH _ _ _ _ _ _ hb2 hS2
    · exfalso
      first
        | exact z1 y1
        | exact y1 z1
        | exact z2 y2
        | exact y2 z2
        | exact z3 y3
        | exact y3 z3
        | omega
        | exact z1 (bel_mk (by omega) y1 y2)
        | exact y1 (bel_mk (by omega) z1 z2)
        | exact z1 (gl_mk y1 y2)
        | exact y1 (gl_mk z1 z2)
        | exact z2 y3
        | exact y2 z3
        | exact z1 y3
        | exact y1 z3
        | exact z1 ⟨gl_mk y1 y2, y3⟩
        | exact y1 ⟨gl_mk z1 z2, z3⟩
        | exact z1 (in_mk (by omega) (Nat.zero_le _) y1 y2)
        | exact y1 (in_mk (by omega) (Nat.zero_le _) z1 z2)
        | exact z1 ((iIn1 (by omega)).mpr ⟨jj, y1, y2, y3⟩)
        | exact y1 ((iIn1 (by omega)).mpr ⟨j, z1, z2, z3⟩)
    · exfalso
      first
        | exact z1 y1
        | exact y1 z1
        | exact z2 y2
        | exact y2 z2
        | exact z3 y3
        | exact y3 z3
        | omega
        | exact z1 (bel_mk (by omega) y1 y2)
        | exact y1 (bel_mk (by omega) z1 z2)
        | exact z1 (gl_mk y1 y2)
        | exact y1 (gl_mk z1 z2)
        | exact z2 y3
        | exact y2 z3
        | exact z1 y3
        | exact y1 z3
        | exact z1 ⟨gl_mk y1 y2, y3⟩
        | exact y1 ⟨gl_mk z1 z2, z3⟩
        | exact z1 (in_mk (by omega) (Nat.zero_le _) y1 y2)
        | exact y1 (in_mk (by omega) (Nat.zero_le _) z1 z2)
        | exact z1 ((iIn1 (by omega)).mpr ⟨jj, y1, y2, y3⟩)
        | exact y1 ((iIn1 (by omega)).mpr ⟨j, z1, z2, z3⟩)
  · have hL := hS1.1.lay
    have hb1 := hb.ke hke hL
    refine gKv ?_
    refine E_istore dL_law_461 (Nat.le_of_ble_eq_true rfl) (by decide) rfl ?_
    refine E_aload_n dL_law_463 rfl ?_
    refine E_aload_s dL_law_464 rfl ?_
    refine E_iload dL_law_465 rfl ?_
    refine E_iconst (v := nI 1) dL_law_467 (by decide) ?_
    refine E_iadd_n dL_law_468 ?_
    refine E_sld dL_law_469 rfl (by omega) (by omega) ?_
    refine E_aload_s dL_law_470 rfl ?_
    refine E_iload dL_law_471 rfl ?_
    refine E_iconst (v := nI 2) dL_law_473 (by decide) ?_
    refine E_iadd_n dL_law_474 ?_
    refine E_sld dL_law_475 rfl (by omega) (by omega) ?_
    refine E_room (Nat.le_refl _) (k' := 0 + kk) (n' := 0 + nn) (by omega) (by omega) ?_
    refine E_callV2 (fr' := 3) (k1 := 0) (n1 := 0) (k2 := kk) (n2 := nn) dL_law_476 kO_X12_setMark kL_L_115 (l_128 hL) (k_128 hL) ⟨by decide, rfl⟩ rfl rfl (by decide) (by decide) (by exact Nat.le_of_ble_eq_true rfl) rfl ?_
    refine o_setMark hb1 (fun y1 M2 hb2 hf2 h0 => ?_) (fun y1 y2 M2 hb2 hf2 h0 => ?_) (fun jj y1 y2 y3 M2 hb2 hf2 h0 => ?_) 
    · exfalso
      first
        | exact z1 y1
        | exact y1 z1
        | exact z2 y2
        | exact y2 z2
        | exact z3 y3
        | exact y3 z3
        | omega
        | exact z1 (bel_mk (by omega) y1 y2)
        | exact y1 (bel_mk (by omega) z1 z2)
        | exact z1 (gl_mk y1 y2)
        | exact y1 (gl_mk z1 z2)
        | exact z2 y3
        | exact y2 z3
        | exact z1 y3
        | exact y1 z3
        | exact z1 ⟨gl_mk y1 y2, y3⟩
        | exact y1 ⟨gl_mk z1 z2, z3⟩
        | exact z1 (in_mk (by omega) (Nat.zero_le _) y1 y2)
        | exact y1 (in_mk (by omega) (Nat.zero_le _) z1 z2)
        | exact z1 ((iIn1 (by omega)).mpr ⟨jj, y1, y2, y3⟩)
        | exact y1 ((iIn1 (by omega)).mpr ⟨j, z1, z2, z3⟩)
    · have hS2 := fr.S hS1 hf2 refR_8
      have hL := hb2.lay
      refine gKv ?_
      refine E_istore dL_law_479 (Nat.le_of_ble_eq_true rfl) (by decide) rfl ?_
      refine E_aload_n dL_law_481 rfl ?_
      refine E_room (Nat.le_refl _) (k' := 0 + kk) (n' := 0 + nn) (by omega) (by omega) ?_
      refine E_callV0 (fr' := 1) (k1 := 0) (n1 := 0) (k2 := kk) (n2 := nn) dL_law_482 kO_X12_thrown kL_L_100 (l_128 hL) (k_128 hL) ⟨by decide, rfl⟩  (by decide) (by decide) (by exact Nat.le_of_ble_eq_true rfl) rfl ?_
      refine sp_X12_thrown hL h0 ?_
      refine gKv ?_
      refine E_iload dL_law_485 rfl ?_
      refine E_icmp_eq (tgt := 492) dL_law_487 (by decide) (fun _ => ?_) (fun c0 => absurd (by decide) c0)
      refine E_iload dL_law_492 rfl ?_
      refine E_if_ne (tgt := 509) dL_law_494 (by decide) (fun _ => ?_) (fun c0 => absurd (by decide) c0)
      refine E_goto (tgt := 1687) dL_law_509 (by decide) ?_
      exact IH _ _ _ _ _ _ hb2 hS2
    · exfalso
      first
        | exact z1 y1
        | exact y1 z1
        | exact z2 y2
        | exact y2 z2
        | exact z3 y3
        | exact y3 z3
        | omega
        | exact z1 (bel_mk (by omega) y1 y2)
        | exact y1 (bel_mk (by omega) z1 z2)
        | exact z1 (gl_mk y1 y2)
        | exact y1 (gl_mk z1 z2)
        | exact z2 y3
        | exact y2 z3
        | exact z1 y3
        | exact y1 z3
        | exact z1 ⟨gl_mk y1 y2, y3⟩
        | exact y1 ⟨gl_mk z1 z2, z3⟩
        | exact z1 (in_mk (by omega) (Nat.zero_le _) y1 y2)
        | exact y1 (in_mk (by omega) (Nat.zero_le _) z1 z2)
        | exact z1 ((iIn1 (by omega)).mpr ⟨jj, y1, y2, y3⟩)
        | exact y1 ((iIn1 (by omega)).mpr ⟨j, z1, z2, z3⟩)
set_option maxRecDepth 100000 in
set_option maxHeartbeats 4000000 in
theorem case_setGroup {g : gG} {Q : Option Value ⊕ String → gM → Prop} (hst : (gl1 g).stackTraces = false) {z : UInt32} {i kk nn : Nat} (hi : i + 8 ≤ gsL g) (h4 : gsL g ≤ 4096) {c : Cf} {P π : Nat → Nat} {M : gM} (hb : bS c M) (hS : kS c P π M) (IH : ∀ c' P' π' M' v5 v6, bS c' M' → kS c' P' π' M' → E g 18 kk nn mL_law 1687 [.float z, .ref 1, .ref 129, .ref 179, .int (nI i), v5, v6] [] M' Q) {v5 v6 : Value} : E g 18 (kk + 12) (nn + 330) mL_law 512 [.float z, .ref 1, .ref 129, .ref 179, .int (nI i), v5, v6] [] M Q := by
  have hw := hb.wf
  have hcf : cN c 128 1 < 2 := hw.fac
  have hct := hw.ct (cN c 128 1)
  have hct2 : cnt0 c ≤ 12 := hct
  have h16 : tl c ≤ 16 := hw.tl
  have hng := ng_1024 hw
  have hL := hb.lay
  refine E_aload_n dL_law_512 rfl ?_
  refine E_aload_s dL_law_513 rfl ?_
  refine E_iload dL_law_514 rfl ?_
  refine E_iconst (v := nI 1) dL_law_516 (by decide) ?_
  refine E_iadd_n dL_law_517 ?_
  refine E_sld dL_law_518 rfl (by omega) (by omega) ?_
  refine E_aload_s dL_law_519 rfl ?_
  refine E_iload dL_law_520 rfl ?_
  refine E_iconst (v := nI 2) dL_law_522 (by decide) ?_
  refine E_iadd_n dL_law_523 ?_
  refine E_sld dL_law_524 rfl (by omega) (by omega) ?_
  refine E_aload_n dL_law_525 rfl ?_
  refine E_room (Nat.le_refl _) (k' := 1 + kk) (n' := 6 + nn) (by omega) (by omega) ?_
  refine E_callS4 (fr' := 8) (k1 := 1) (n1 := 6) (k2 := kk) (n2 := nn) dL_law_526 kO_L_setGroup kL_L_116 rfl rfl rfl rfl (by decide) (by decide) (by exact Nat.le_of_ble_eq_true rfl) (Or.inr (gW_at 1027 (by decide +kernel) (by decide +kernel))) rfl ?_
  refine w_setGroup hst hS (fun j z1 z2 z3 M1 P1 π1 hS1 hke hm => ?_) (fun z1 M1 P1 π1 hS1 hke => ?_)
  · have hL := hS1.1.lay
    have hb1 := hb.ke hke hL
    refine gKv ?_
    refine E_istore dL_law_529 (Nat.le_of_ble_eq_true rfl) (by decide) rfl ?_
    refine E_aload_n dL_law_531 rfl ?_
    refine E_aload_s dL_law_532 rfl ?_
    refine E_iload dL_law_533 rfl ?_
    refine E_iconst (v := nI 1) dL_law_535 (by decide) ?_
    refine E_iadd_n dL_law_536 ?_
    refine E_sld dL_law_537 rfl (by omega) (by omega) ?_
    refine E_aload_s dL_law_538 rfl ?_
    refine E_iload dL_law_539 rfl ?_
    refine E_iconst (v := nI 2) dL_law_541 (by decide) ?_
    refine E_iadd_n dL_law_542 ?_
    refine E_sld dL_law_543 rfl (by omega) (by omega) ?_
    refine E_room (Nat.le_refl _) (k' := 0 + kk) (n' := 0 + nn) (by omega) (by omega) ?_
    refine E_callV2 (fr' := 3) (k1 := 0) (n1 := 0) (k2 := kk) (n2 := nn) dL_law_544 kO_X12_setGroup kL_L_118 (l_128 hL) (k_128 hL) ⟨by decide, rfl⟩ rfl rfl (by decide) (by decide) (by exact Nat.le_of_ble_eq_true rfl) rfl ?_
    refine o_setGroup hb1 (fun y1 M2 hb2 hf2 h0 => ?_) (fun jj y1 y2 y3 M2 hb2 hf2 h0 => ?_) 
    · exfalso
      first
        | exact z1 y1
        | exact y1 z1
        | exact z2 y2
        | exact y2 z2
        | exact z3 y3
        | exact y3 z3
        | omega
        | exact z1 (bel_mk (by omega) y1 y2)
        | exact y1 (bel_mk (by omega) z1 z2)
        | exact z1 (gl_mk y1 y2)
        | exact y1 (gl_mk z1 z2)
        | exact z2 y3
        | exact y2 z3
        | exact z1 y3
        | exact y1 z3
        | exact z1 ⟨gl_mk y1 y2, y3⟩
        | exact y1 ⟨gl_mk z1 z2, z3⟩
        | exact z1 (in_mk (by omega) (Nat.zero_le _) y1 y2)
        | exact y1 (in_mk (by omega) (Nat.zero_le _) z1 z2)
        | exact z1 ((iIn1 (by omega)).mpr ⟨jj, y1, y2, y3⟩)
        | exact y1 ((iIn1 (by omega)).mpr ⟨j, z1, z2, z3⟩)
    · obtain rfl : jj = j := nI_ij z2 y2 (by omega) (by omega)
      have hS2 := fr.S hS1 hf2 refR_8
      have hL := hb2.lay
      have hm2 := fr_L hf2 hm
      refine gKv ?_
      refine E_istore dL_law_547 (Nat.le_of_ble_eq_true rfl) (by decide) rfl ?_
      refine E_aload_n dL_law_549 rfl ?_
      refine E_room (Nat.le_refl _) (k' := 0 + kk) (n' := 0 + nn) (by omega) (by omega) ?_
      refine E_callV0 (fr' := 1) (k1 := 0) (n1 := 0) (k2 := kk) (n2 := nn) dL_law_550 kO_X12_thrown kL_L_100 (l_128 hL) (k_128 hL) ⟨by decide, rfl⟩  (by decide) (by decide) (by exact Nat.le_of_ble_eq_true rfl) rfl ?_
      refine sp_X12_thrown hL h0 ?_
      refine gKv ?_
      refine E_iload dL_law_553 rfl ?_
      refine E_icmp_eq (tgt := 560) dL_law_555 (by decide) (fun _ => ?_) (fun c0 => absurd (by decide) c0)
      refine E_iload dL_law_560 rfl ?_
      refine E_if_ne (tgt := 577) dL_law_562 (by decide) (fun c0 => absurd c0 (by decide)) (fun _ => ?_)
      refine E_aload_n dL_law_565 rfl ?_
      refine E_iconst (v := nI 0) dL_law_566 (by decide) ?_
      refine E_lald dL_law_567 (l_178 hL) (k_178 hL) rfl (by omega) (by decide) ?_
      refine E_iload dL_law_568 rfl ?_
      refine E_i2l dL_law_570 ?_
      refine E_lcmp dL_law_571 ?_
      refine E_if_eq (tgt := 577) dL_law_572 (by decide) (fun _ => ?_) (fun c0 => absurd (lcz hm2) c0)
      refine E_goto (tgt := 1687) dL_law_577 (by decide) ?_
      exact IH _ _ _ _ _ _ hb2 hS2
  · have hL := hS1.1.lay
    have hb1 := hb.ke hke hL
    refine gKv ?_
    refine E_istore dL_law_529 (Nat.le_of_ble_eq_true rfl) (by decide) rfl ?_
    refine E_aload_n dL_law_531 rfl ?_
    refine E_aload_s dL_law_532 rfl ?_
    refine E_iload dL_law_533 rfl ?_
    refine E_iconst (v := nI 1) dL_law_535 (by decide) ?_
    refine E_iadd_n dL_law_536 ?_
    refine E_sld dL_law_537 rfl (by omega) (by omega) ?_
    refine E_aload_s dL_law_538 rfl ?_
    refine E_iload dL_law_539 rfl ?_
    refine E_iconst (v := nI 2) dL_law_541 (by decide) ?_
    refine E_iadd_n dL_law_542 ?_
    refine E_sld dL_law_543 rfl (by omega) (by omega) ?_
    refine E_room (Nat.le_refl _) (k' := 0 + kk) (n' := 0 + nn) (by omega) (by omega) ?_
    refine E_callV2 (fr' := 3) (k1 := 0) (n1 := 0) (k2 := kk) (n2 := nn) dL_law_544 kO_X12_setGroup kL_L_118 (l_128 hL) (k_128 hL) ⟨by decide, rfl⟩ rfl rfl (by decide) (by decide) (by exact Nat.le_of_ble_eq_true rfl) rfl ?_
    refine o_setGroup hb1 (fun y1 M2 hb2 hf2 h0 => ?_) (fun jj y1 y2 y3 M2 hb2 hf2 h0 => ?_) 
    · have hS2 := fr.S hS1 hf2 refR_8
      have hL := hb2.lay
      refine gKv ?_
      refine E_istore dL_law_547 (Nat.le_of_ble_eq_true rfl) (by decide) rfl ?_
      refine E_aload_n dL_law_549 rfl ?_
      refine E_room (Nat.le_refl _) (k' := 0 + kk) (n' := 0 + nn) (by omega) (by omega) ?_
      refine E_callV0 (fr' := 1) (k1 := 0) (n1 := 0) (k2 := kk) (n2 := nn) dL_law_550 kO_X12_thrown kL_L_100 (l_128 hL) (k_128 hL) ⟨by decide, rfl⟩  (by decide) (by decide) (by exact Nat.le_of_ble_eq_true rfl) rfl ?_
      refine sp_X12_thrown hL h0 ?_
      refine gKv ?_
      refine E_iload dL_law_553 rfl ?_
      refine E_icmp_eq (tgt := 560) dL_law_555 (by decide) (fun _ => ?_) (fun c0 => absurd (by decide) c0)
      refine E_iload dL_law_560 rfl ?_
      refine E_if_ne (tgt := 577) dL_law_562 (by decide) (fun _ => ?_) (fun c0 => absurd (by decide) c0)
      refine E_goto (tgt := 1687) dL_law_577 (by decide) ?_
      exact IH _ _ _ _ _ _ hb2 hS2
    · exfalso
      first
        | exact z1 y1
        | exact y1 z1
        | exact z2 y2
        | exact y2 z2
        | exact z3 y3
        | exact y3 z3
        | omega
        | exact z1 (bel_mk (by omega) y1 y2)
        | exact y1 (bel_mk (by omega) z1 z2)
        | exact z1 (gl_mk y1 y2)
        | exact y1 (gl_mk z1 z2)
        | exact z2 y3
        | exact y2 z3
        | exact z1 y3
        | exact y1 z3
        | exact z1 ⟨gl_mk y1 y2, y3⟩
        | exact y1 ⟨gl_mk z1 z2, z3⟩
        | exact z1 (in_mk (by omega) (Nat.zero_le _) y1 y2)
        | exact y1 (in_mk (by omega) (Nat.zero_le _) z1 z2)
        | exact z1 ((iIn1 (by omega)).mpr ⟨jj, y1, y2, y3⟩)
        | exact y1 ((iIn1 (by omega)).mpr ⟨j, z1, z2, z3⟩)
set_option maxRecDepth 100000 in
set_option maxHeartbeats 4000000 in
theorem case_setWidth {g : gG} {Q : Option Value ⊕ String → gM → Prop} (hst : (gl1 g).stackTraces = false) {z : UInt32} {i kk nn : Nat} (hi : i + 8 ≤ gsL g) (h4 : gsL g ≤ 4096) {c : Cf} {P π : Nat → Nat} {M : gM} (hb : bS c M) (hS : kS c P π M) (IH : ∀ c' P' π' M' v5 v6, bS c' M' → kS c' P' π' M' → E g 18 kk nn mL_law 1687 [.float z, .ref 1, .ref 129, .ref 179, .int (nI i), v5, v6] [] M' Q) {v5 v6 : Value} : E g 18 (kk + 12) (nn + 330) mL_law 580 [.float z, .ref 1, .ref 129, .ref 179, .int (nI i), v5, v6] [] M Q := by
  have hw := hb.wf
  have hcf : cN c 128 1 < 2 := hw.fac
  have hct := hw.ct (cN c 128 1)
  have hct2 : cnt0 c ≤ 12 := hct
  have h16 : tl c ≤ 16 := hw.tl
  have hng := ng_1024 hw
  have hL := hb.lay
  refine E_aload_n dL_law_580 rfl ?_
  refine E_aload_s dL_law_581 rfl ?_
  refine E_iload dL_law_582 rfl ?_
  refine E_iconst (v := nI 1) dL_law_584 (by decide) ?_
  refine E_iadd_n dL_law_585 ?_
  refine E_sld dL_law_586 rfl (by omega) (by omega) ?_
  refine E_aload_s dL_law_587 rfl ?_
  refine E_iload dL_law_588 rfl ?_
  refine E_iconst (v := nI 2) dL_law_590 (by decide) ?_
  refine E_iadd_n dL_law_591 ?_
  refine E_sld dL_law_592 rfl (by omega) (by omega) ?_
  refine E_aload_n dL_law_593 rfl ?_
  refine E_room (Nat.le_refl _) (k' := 1 + kk) (n' := 6 + nn) (by omega) (by omega) ?_
  refine E_callS4 (fr' := 8) (k1 := 1) (n1 := 6) (k2 := kk) (n2 := nn) dL_law_594 kO_L_setWidth kL_L_119 rfl rfl rfl rfl (by decide) (by decide) (by exact Nat.le_of_ble_eq_true rfl) (Or.inr (gW_at 1040 (by decide +kernel) (by decide +kernel))) rfl ?_
  refine w_setWidth hst hS (fun j z1 z2 z3 M1 P1 π1 hS1 hke hm => ?_) (fun z1 M1 P1 π1 hS1 hke => ?_) (fun z1 z2 M1 P1 π1 hS1 hke => ?_)
  · have hL := hS1.1.lay
    have hb1 := hb.ke hke hL
    refine gKv ?_
    refine E_istore dL_law_597 (Nat.le_of_ble_eq_true rfl) (by decide) rfl ?_
    refine E_aload_n dL_law_599 rfl ?_
    refine E_aload_s dL_law_600 rfl ?_
    refine E_iload dL_law_601 rfl ?_
    refine E_iconst (v := nI 1) dL_law_603 (by decide) ?_
    refine E_iadd_n dL_law_604 ?_
    refine E_sld dL_law_605 rfl (by omega) (by omega) ?_
    refine E_aload_s dL_law_606 rfl ?_
    refine E_iload dL_law_607 rfl ?_
    refine E_iconst (v := nI 2) dL_law_609 (by decide) ?_
    refine E_iadd_n dL_law_610 ?_
    refine E_sld dL_law_611 rfl (by omega) (by omega) ?_
    refine E_room (Nat.le_refl _) (k' := 0 + kk) (n' := 0 + nn) (by omega) (by omega) ?_
    refine E_callV2 (fr' := 3) (k1 := 0) (n1 := 0) (k2 := kk) (n2 := nn) dL_law_612 kO_X12_setWidth kL_L_121 (l_128 hL) (k_128 hL) ⟨by decide, rfl⟩ rfl rfl (by decide) (by decide) (by exact Nat.le_of_ble_eq_true rfl) rfl ?_
    refine o_setWidth hb1 (fun y1 M2 hb2 hf2 h0 => ?_) (fun y1 y2 M2 hb2 hf2 h0 => ?_) (fun jj y1 y2 y3 M2 hb2 hf2 h0 => ?_) 
    · exfalso
      first
        | exact z1 y1
        | exact y1 z1
        | exact z2 y2
        | exact y2 z2
        | exact z3 y3
        | exact y3 z3
        | omega
        | exact z1 (bel_mk (by omega) y1 y2)
        | exact y1 (bel_mk (by omega) z1 z2)
        | exact z1 (gl_mk y1 y2)
        | exact y1 (gl_mk z1 z2)
        | exact z2 y3
        | exact y2 z3
        | exact z1 y3
        | exact y1 z3
        | exact z1 ⟨gl_mk y1 y2, y3⟩
        | exact y1 ⟨gl_mk z1 z2, z3⟩
        | exact z1 (in_mk (by omega) (Nat.zero_le _) y1 y2)
        | exact y1 (in_mk (by omega) (Nat.zero_le _) z1 z2)
        | exact z1 ((iIn1 (by omega)).mpr ⟨jj, y1, y2, y3⟩)
        | exact y1 ((iIn1 (by omega)).mpr ⟨j, z1, z2, z3⟩)
    · exfalso
      first
        | exact z1 y1
        | exact y1 z1
        | exact z2 y2
        | exact y2 z2
        | exact z3 y3
        | exact y3 z3
        | omega
        | exact z1 (bel_mk (by omega) y1 y2)
        | exact y1 (bel_mk (by omega) z1 z2)
        | exact z1 (gl_mk y1 y2)
        | exact y1 (gl_mk z1 z2)
        | exact z2 y3
        | exact y2 z3
        | exact z1 y3
        | exact y1 z3
        | exact z1 ⟨gl_mk y1 y2, y3⟩
        | exact y1 ⟨gl_mk z1 z2, z3⟩
        | exact z1 (in_mk (by omega) (Nat.zero_le _) y1 y2)
        | exact y1 (in_mk (by omega) (Nat.zero_le _) z1 z2)
        | exact z1 ((iIn1 (by omega)).mpr ⟨jj, y1, y2, y3⟩)
        | exact y1 ((iIn1 (by omega)).mpr ⟨j, z1, z2, z3⟩)
    · obtain rfl : jj = j := nI_ij z2 y2 (by omega) (by omega)
      have hS2 := fr.S hS1 hf2 refR_8
      have hL := hb2.lay
      have hm2 := fr_L hf2 hm
      refine gKv ?_
      refine E_istore dL_law_615 (Nat.le_of_ble_eq_true rfl) (by decide) rfl ?_
      refine E_aload_n dL_law_617 rfl ?_
      refine E_room (Nat.le_refl _) (k' := 0 + kk) (n' := 0 + nn) (by omega) (by omega) ?_
      refine E_callV0 (fr' := 1) (k1 := 0) (n1 := 0) (k2 := kk) (n2 := nn) dL_law_618 kO_X12_thrown kL_L_100 (l_128 hL) (k_128 hL) ⟨by decide, rfl⟩  (by decide) (by decide) (by exact Nat.le_of_ble_eq_true rfl) rfl ?_
      refine sp_X12_thrown hL h0 ?_
      refine gKv ?_
      refine E_iload dL_law_621 rfl ?_
      refine E_icmp_eq (tgt := 628) dL_law_623 (by decide) (fun _ => ?_) (fun c0 => absurd (by decide) c0)
      refine E_iload dL_law_628 rfl ?_
      refine E_if_ne (tgt := 645) dL_law_630 (by decide) (fun c0 => absurd c0 (by decide)) (fun _ => ?_)
      refine E_aload_n dL_law_633 rfl ?_
      refine E_iconst (v := nI 0) dL_law_634 (by decide) ?_
      refine E_lald dL_law_635 (l_178 hL) (k_178 hL) rfl (by omega) (by decide) ?_
      refine E_iload dL_law_636 rfl ?_
      refine E_i2l dL_law_638 ?_
      refine E_lcmp dL_law_639 ?_
      refine E_if_eq (tgt := 645) dL_law_640 (by decide) (fun _ => ?_) (fun c0 => absurd (lcz hm2) c0)
      refine E_goto (tgt := 1687) dL_law_645 (by decide) ?_
      exact IH _ _ _ _ _ _ hb2 hS2
  · have hL := hS1.1.lay
    have hb1 := hb.ke hke hL
    refine gKv ?_
    refine E_istore dL_law_597 (Nat.le_of_ble_eq_true rfl) (by decide) rfl ?_
    refine E_aload_n dL_law_599 rfl ?_
    refine E_aload_s dL_law_600 rfl ?_
    refine E_iload dL_law_601 rfl ?_
    refine E_iconst (v := nI 1) dL_law_603 (by decide) ?_
    refine E_iadd_n dL_law_604 ?_
    refine E_sld dL_law_605 rfl (by omega) (by omega) ?_
    refine E_aload_s dL_law_606 rfl ?_
    refine E_iload dL_law_607 rfl ?_
    refine E_iconst (v := nI 2) dL_law_609 (by decide) ?_
    refine E_iadd_n dL_law_610 ?_
    refine E_sld dL_law_611 rfl (by omega) (by omega) ?_
    refine E_room (Nat.le_refl _) (k' := 0 + kk) (n' := 0 + nn) (by omega) (by omega) ?_
    refine E_callV2 (fr' := 3) (k1 := 0) (n1 := 0) (k2 := kk) (n2 := nn) dL_law_612 kO_X12_setWidth kL_L_121 (l_128 hL) (k_128 hL) ⟨by decide, rfl⟩ rfl rfl (by decide) (by decide) (by exact Nat.le_of_ble_eq_true rfl) rfl ?_
    refine o_setWidth hb1 (fun y1 M2 hb2 hf2 h0 => ?_) (fun y1 y2 M2 hb2 hf2 h0 => ?_) (fun jj y1 y2 y3 M2 hb2 hf2 h0 => ?_) 
    · have hS2 := fr.S hS1 hf2 refR_8
      have hL := hb2.lay
      refine gKv ?_
      refine E_istore dL_law_615 (Nat.le_of_ble_eq_true rfl) (by decide) rfl ?_
      refine E_aload_n dL_law_617 rfl ?_
      refine E_room (Nat.le_refl _) (k' := 0 + kk) (n' := 0 + nn) (by omega) (by omega) ?_
      refine E_callV0 (fr' := 1) (k1 := 0) (n1 := 0) (k2 := kk) (n2 := nn) dL_law_618 kO_X12_thrown kL_L_100 (l_128 hL) (k_128 hL) ⟨by decide, rfl⟩  (by decide) (by decide) (by exact Nat.le_of_ble_eq_true rfl) rfl ?_
      refine sp_X12_thrown hL h0 ?_
      refine gKv ?_
      refine E_iload dL_law_621 rfl ?_
      refine E_icmp_eq (tgt := 628) dL_law_623 (by decide) (fun _ => ?_) (fun c0 => absurd (by decide) c0)
      refine E_iload dL_law_628 rfl ?_
      refine E_if_ne (tgt := 645) dL_law_630 (by decide) (fun _ => ?_) (fun c0 => absurd (by decide) c0)
      refine E_goto (tgt := 1687) dL_law_645 (by decide) ?_
      exact IH _ _ _ _ _ _ hb2 hS2
    · exfalso
      first
        | exact z1 y1
        | exact y1 z1
        | exact z2 y2
        | exact y2 z2
        | exact z3 y3
        | exact y3 z3
        | omega
        | exact z1 (bel_mk (by omega) y1 y2)
        | exact y1 (bel_mk (by omega) z1 z2)
        | exact z1 (gl_mk y1 y2)
        | exact y1 (gl_mk z1 z2)
        | exact z2 y3
        | exact y2 z3
        | exact z1 y3
        | exact y1 z3
        | exact z1 ⟨gl_mk y1 y2, y3⟩
        | exact y1 ⟨gl_mk z1 z2, z3⟩
        | exact z1 (in_mk (by omega) (Nat.zero_le _) y1 y2)
        | exact y1 (in_mk (by omega) (Nat.zero_le _) z1 z2)
        | exact z1 ((iIn1 (by omega)).mpr ⟨jj, y1, y2, y3⟩)
        | exact y1 ((iIn1 (by omega)).mpr ⟨j, z1, z2, z3⟩)
    · exfalso
      first
        | exact z1 y1
        | exact y1 z1
        | exact z2 y2
        | exact y2 z2
        | exact z3 y3
        | exact y3 z3
        | omega
        | exact z1 (bel_mk (by omega) y1 y2)
        | exact y1 (bel_mk (by omega) z1 z2)
        | exact z1 (gl_mk y1 y2)
        | exact y1 (gl_mk z1 z2)
        | exact z2 y3
        | exact y2 z3
        | exact z1 y3
        | exact y1 z3
        | exact z1 ⟨gl_mk y1 y2, y3⟩
        | exact y1 ⟨gl_mk z1 z2, z3⟩
        | exact z1 (in_mk (by omega) (Nat.zero_le _) y1 y2)
        | exact y1 (in_mk (by omega) (Nat.zero_le _) z1 z2)
        | exact z1 ((iIn1 (by omega)).mpr ⟨jj, y1, y2, y3⟩)
        | exact y1 ((iIn1 (by omega)).mpr ⟨j, z1, z2, z3⟩)
  · have hL := hS1.1.lay
    have hb1 := hb.ke hke hL
    refine gKv ?_
    refine E_istore dL_law_597 (Nat.le_of_ble_eq_true rfl) (by decide) rfl ?_
    refine E_aload_n dL_law_599 rfl ?_
    refine E_aload_s dL_law_600 rfl ?_
    refine E_iload dL_law_601 rfl ?_
    refine E_iconst (v := nI 1) dL_law_603 (by decide) ?_
    refine E_iadd_n dL_law_604 ?_
    refine E_sld dL_law_605 rfl (by omega) (by omega) ?_
    refine E_aload_s dL_law_606 rfl ?_
    refine E_iload dL_law_607 rfl ?_
    refine E_iconst (v := nI 2) dL_law_609 (by decide) ?_
    refine E_iadd_n dL_law_610 ?_
    refine E_sld dL_law_611 rfl (by omega) (by omega) ?_
    refine E_room (Nat.le_refl _) (k' := 0 + kk) (n' := 0 + nn) (by omega) (by omega) ?_
    refine E_callV2 (fr' := 3) (k1 := 0) (n1 := 0) (k2 := kk) (n2 := nn) dL_law_612 kO_X12_setWidth kL_L_121 (l_128 hL) (k_128 hL) ⟨by decide, rfl⟩ rfl rfl (by decide) (by decide) (by exact Nat.le_of_ble_eq_true rfl) rfl ?_
    refine o_setWidth hb1 (fun y1 M2 hb2 hf2 h0 => ?_) (fun y1 y2 M2 hb2 hf2 h0 => ?_) (fun jj y1 y2 y3 M2 hb2 hf2 h0 => ?_) 
    · exfalso
      first
        | exact z1 y1
        | exact y1 z1
        | exact z2 y2
        | exact y2 z2
        | exact z3 y3
        | exact y3 z3
        | omega
        | exact z1 (bel_mk (by omega) y1 y2)
        | exact y1 (bel_mk (by omega) z1 z2)
        | exact z1 (gl_mk y1 y2)
        | exact y1 (gl_mk z1 z2)
        | exact z2 y3
        | exact y2 z3
        | exact z1 y3
        | exact y1 z3
        | exact z1 ⟨gl_mk y1 y2, y3⟩
        | exact y1 ⟨gl_mk z1 z2, z3⟩
        | exact z1 (in_mk (by omega) (Nat.zero_le _) y1 y2)
        | exact y1 (in_mk (by omega) (Nat.zero_le _) z1 z2)
        | exact z1 ((iIn1 (by omega)).mpr ⟨jj, y1, y2, y3⟩)
        | exact y1 ((iIn1 (by omega)).mpr ⟨j, z1, z2, z3⟩)
    · have hS2 := fr.S hS1 hf2 refR_8
      have hL := hb2.lay
      refine gKv ?_
      refine E_istore dL_law_615 (Nat.le_of_ble_eq_true rfl) (by decide) rfl ?_
      refine E_aload_n dL_law_617 rfl ?_
      refine E_room (Nat.le_refl _) (k' := 0 + kk) (n' := 0 + nn) (by omega) (by omega) ?_
      refine E_callV0 (fr' := 1) (k1 := 0) (n1 := 0) (k2 := kk) (n2 := nn) dL_law_618 kO_X12_thrown kL_L_100 (l_128 hL) (k_128 hL) ⟨by decide, rfl⟩  (by decide) (by decide) (by exact Nat.le_of_ble_eq_true rfl) rfl ?_
      refine sp_X12_thrown hL h0 ?_
      refine gKv ?_
      refine E_iload dL_law_621 rfl ?_
      refine E_icmp_eq (tgt := 628) dL_law_623 (by decide) (fun _ => ?_) (fun c0 => absurd (by decide) c0)
      refine E_iload dL_law_628 rfl ?_
      refine E_if_ne (tgt := 645) dL_law_630 (by decide) (fun _ => ?_) (fun c0 => absurd (by decide) c0)
      refine E_goto (tgt := 1687) dL_law_645 (by decide) ?_
      exact IH _ _ _ _ _ _ hb2 hS2
    · exfalso
      first
        | exact z1 y1
        | exact y1 z1
        | exact z2 y2
        | exact y2 z2
        | exact z3 y3
        | exact y3 z3
        | omega
        | exact z1 (bel_mk (by omega) y1 y2)
        | exact y1 (bel_mk (by omega) z1 z2)
        | exact z1 (gl_mk y1 y2)
        | exact y1 (gl_mk z1 z2)
        | exact z2 y3
        | exact y2 z3
        | exact z1 y3
        | exact y1 z3
        | exact z1 ⟨gl_mk y1 y2, y3⟩
        | exact y1 ⟨gl_mk z1 z2, z3⟩
        | exact z1 (in_mk (by omega) (Nat.zero_le _) y1 y2)
        | exact y1 (in_mk (by omega) (Nat.zero_le _) z1 z2)
        | exact z1 ((iIn1 (by omega)).mpr ⟨jj, y1, y2, y3⟩)
        | exact y1 ((iIn1 (by omega)).mpr ⟨j, z1, z2, z3⟩)
set_option maxRecDepth 100000 in
set_option maxHeartbeats 4000000 in
theorem case_lack {g : gG} {Q : Option Value ⊕ String → gM → Prop} (hst : (gl1 g).stackTraces = false) {z : UInt32} {i kk nn : Nat} (hi : i + 8 ≤ gsL g) (h4 : gsL g ≤ 4096) {c : Cf} {P π : Nat → Nat} {M : gM} (hb : bS c M) (hS : kS c P π M) (IH : ∀ c' P' π' M' v5 v6, bS c' M' → kS c' P' π' M' → E g 18 kk nn mL_law 1687 [.float z, .ref 1, .ref 129, .ref 179, .int (nI i), v5, v6] [] M' Q) {v5 v6 : Value} : E g 18 (kk + 12) (nn + 330) mL_law 648 [.float z, .ref 1, .ref 129, .ref 179, .int (nI i), v5, v6] [] M Q := by
  have hw := hb.wf
  have hcf : cN c 128 1 < 2 := hw.fac
  have hct := hw.ct (cN c 128 1)
  have hct2 : cnt0 c ≤ 12 := hct
  have h16 : tl c ≤ 16 := hw.tl
  have hng := ng_1024 hw
  have hL := hb.lay
  refine E_aload_n dL_law_648 rfl ?_
  refine E_aload_s dL_law_649 rfl ?_
  refine E_iload dL_law_650 rfl ?_
  refine E_iconst (v := nI 1) dL_law_652 (by decide) ?_
  refine E_iadd_n dL_law_653 ?_
  refine E_sld dL_law_654 rfl (by omega) (by omega) ?_
  refine E_aload_n dL_law_655 rfl ?_
  refine E_room (Nat.le_refl _) (k' := 1 + kk) (n' := 6 + nn) (by omega) (by omega) ?_
  refine E_callS3 (fr' := 8) (k1 := 1) (n1 := 6) (k2 := kk) (n2 := nn) dL_law_656 kO_L_lack kL_L_122 rfl rfl rfl (by decide) (by decide) (by exact Nat.le_of_ble_eq_true rfl) (Or.inr (gW_at 1048 (by decide +kernel) (by decide +kernel))) rfl ?_
  refine w_lack hst hS (fun j z1 z2 z3 M1 P1 π1 hS1 hke hm => ?_) (fun z1 M1 P1 π1 hS1 hke => ?_)
  · have hL := hS1.1.lay
    have hb1 := hb.ke hke hL
    have h1c := (hw.gl j).2.2.2
    refine gKv ?_
    refine E_istore dL_law_659 (Nat.le_of_ble_eq_true rfl) (by decide) rfl ?_
    refine E_aload_n dL_law_661 rfl ?_
    refine E_aload_s dL_law_662 rfl ?_
    refine E_iload dL_law_663 rfl ?_
    refine E_iconst (v := nI 1) dL_law_665 (by decide) ?_
    refine E_iadd_n dL_law_666 ?_
    refine E_sld dL_law_667 rfl (by omega) (by omega) ?_
    refine E_room (Nat.le_refl _) (k' := 0 + kk) (n' := 0 + nn) (by omega) (by omega) ?_
    refine E_callV1 (fr' := 3) (k1 := 0) (n1 := 0) (k2 := kk) (n2 := nn) dL_law_668 kO_X12_lack kL_L_124 (l_128 hL) (k_128 hL) ⟨by decide, rfl⟩ rfl (by decide) (by decide) (by exact Nat.le_of_ble_eq_true rfl) rfl ?_
    refine o_lack hb1 (fun y1 M2 hb2 hf2 h0 => ?_) (fun jj y1 y2 y3 M2 hb2 hf2 h0 => ?_) 
    · exfalso
      first
        | exact z1 y1
        | exact y1 z1
        | exact z2 y2
        | exact y2 z2
        | exact z3 y3
        | exact y3 z3
        | omega
        | exact z1 (bel_mk (by omega) y1 y2)
        | exact y1 (bel_mk (by omega) z1 z2)
        | exact z1 (gl_mk y1 y2)
        | exact y1 (gl_mk z1 z2)
        | exact z2 y3
        | exact y2 z3
        | exact z1 y3
        | exact y1 z3
        | exact z1 ⟨gl_mk y1 y2, y3⟩
        | exact y1 ⟨gl_mk z1 z2, z3⟩
        | exact z1 (in_mk (by omega) (Nat.zero_le _) y1 y2)
        | exact y1 (in_mk (by omega) (Nat.zero_le _) z1 z2)
        | exact z1 ((iIn1 (by omega)).mpr ⟨jj, y1, y2, y3⟩)
        | exact y1 ((iIn1 (by omega)).mpr ⟨j, z1, z2, z3⟩)
    · obtain rfl : jj = j := nI_ij z2 y2 (by omega) (by omega)
      have hS2 := fr.S hS1 hf2 refR_8
      have hL := hb2.lay
      have hm2 := fr_L hf2 hm
      refine gKv ?_
      refine E_istore dL_law_671 (Nat.le_of_ble_eq_true rfl) (by decide) rfl ?_
      refine E_aload_n dL_law_673 rfl ?_
      refine E_room (Nat.le_refl _) (k' := 0 + kk) (n' := 0 + nn) (by omega) (by omega) ?_
      refine E_callV0 (fr' := 1) (k1 := 0) (n1 := 0) (k2 := kk) (n2 := nn) dL_law_674 kO_X12_thrown kL_L_100 (l_128 hL) (k_128 hL) ⟨by decide, rfl⟩  (by decide) (by decide) (by exact Nat.le_of_ble_eq_true rfl) rfl ?_
      refine sp_X12_thrown hL h0 ?_
      refine gKv ?_
      refine E_iload dL_law_677 rfl ?_
      refine E_icmp_eq (tgt := 684) dL_law_679 (by decide) (fun _ => ?_) (fun c0 => absurd (by decide) c0)
      refine E_iload dL_law_684 rfl ?_
      refine E_if_ne (tgt := 708) dL_law_686 (by decide) (fun c0 => absurd c0 (by decide)) (fun _ => ?_)
      refine E_aload_n dL_law_689 rfl ?_
      refine E_iconst (v := nI 0) dL_law_690 (by decide) ?_
      refine E_lald dL_law_691 (l_178 hL) (k_178 hL) rfl (by omega) (by decide) ?_
      refine E_iload dL_law_692 rfl ?_
      refine E_if_eq_n (tgt := 701) dL_law_694 (by decide) (by omega) (fun e_694 => ?_) (fun e_694 => ?_)
      · refine E_lconst (v := 0) dL_law_701 (by decide) ?_
        refine E_lcmp dL_law_702 ?_
        refine E_if_eq (tgt := 708) dL_law_703 (by decide) (fun _ => ?_) (fun c0 => absurd (lcz (hm2.trans (by first | (rw [show 1 - cN c 140 jj = 1 by omega]; decide) | (rw [show 1 - cN c 140 jj = 0 by omega]; decide)))) c0)
        refine E_goto (tgt := 1687) dL_law_708 (by decide) ?_
        exact IH _ _ _ _ _ _ hb2 hS2
      · refine E_lconst (v := 1) dL_law_697 (by decide) ?_
        refine E_goto (tgt := 702) dL_law_698 (by decide) ?_
        refine E_lcmp dL_law_702 ?_
        refine E_if_eq (tgt := 708) dL_law_703 (by decide) (fun _ => ?_) (fun c0 => absurd (lcz (hm2.trans (by first | (rw [show 1 - cN c 140 jj = 1 by omega]; decide) | (rw [show 1 - cN c 140 jj = 0 by omega]; decide)))) c0)
        refine E_goto (tgt := 1687) dL_law_708 (by decide) ?_
        exact IH _ _ _ _ _ _ hb2 hS2
  · have hL := hS1.1.lay
    have hb1 := hb.ke hke hL
    refine gKv ?_
    refine E_istore dL_law_659 (Nat.le_of_ble_eq_true rfl) (by decide) rfl ?_
    refine E_aload_n dL_law_661 rfl ?_
    refine E_aload_s dL_law_662 rfl ?_
    refine E_iload dL_law_663 rfl ?_
    refine E_iconst (v := nI 1) dL_law_665 (by decide) ?_
    refine E_iadd_n dL_law_666 ?_
    refine E_sld dL_law_667 rfl (by omega) (by omega) ?_
    refine E_room (Nat.le_refl _) (k' := 0 + kk) (n' := 0 + nn) (by omega) (by omega) ?_
    refine E_callV1 (fr' := 3) (k1 := 0) (n1 := 0) (k2 := kk) (n2 := nn) dL_law_668 kO_X12_lack kL_L_124 (l_128 hL) (k_128 hL) ⟨by decide, rfl⟩ rfl (by decide) (by decide) (by exact Nat.le_of_ble_eq_true rfl) rfl ?_
    refine o_lack hb1 (fun y1 M2 hb2 hf2 h0 => ?_) (fun jj y1 y2 y3 M2 hb2 hf2 h0 => ?_) 
    · have hS2 := fr.S hS1 hf2 refR_8
      have hL := hb2.lay
      refine gKv ?_
      refine E_istore dL_law_671 (Nat.le_of_ble_eq_true rfl) (by decide) rfl ?_
      refine E_aload_n dL_law_673 rfl ?_
      refine E_room (Nat.le_refl _) (k' := 0 + kk) (n' := 0 + nn) (by omega) (by omega) ?_
      refine E_callV0 (fr' := 1) (k1 := 0) (n1 := 0) (k2 := kk) (n2 := nn) dL_law_674 kO_X12_thrown kL_L_100 (l_128 hL) (k_128 hL) ⟨by decide, rfl⟩  (by decide) (by decide) (by exact Nat.le_of_ble_eq_true rfl) rfl ?_
      refine sp_X12_thrown hL h0 ?_
      refine gKv ?_
      refine E_iload dL_law_677 rfl ?_
      refine E_icmp_eq (tgt := 684) dL_law_679 (by decide) (fun _ => ?_) (fun c0 => absurd (by decide) c0)
      refine E_iload dL_law_684 rfl ?_
      refine E_if_ne (tgt := 708) dL_law_686 (by decide) (fun _ => ?_) (fun c0 => absurd (by decide) c0)
      refine E_goto (tgt := 1687) dL_law_708 (by decide) ?_
      exact IH _ _ _ _ _ _ hb2 hS2
    · exfalso
      first
        | exact z1 y1
        | exact y1 z1
        | exact z2 y2
        | exact y2 z2
        | exact z3 y3
        | exact y3 z3
        | omega
        | exact z1 (bel_mk (by omega) y1 y2)
        | exact y1 (bel_mk (by omega) z1 z2)
        | exact z1 (gl_mk y1 y2)
        | exact y1 (gl_mk z1 z2)
        | exact z2 y3
        | exact y2 z3
        | exact z1 y3
        | exact y1 z3
        | exact z1 ⟨gl_mk y1 y2, y3⟩
        | exact y1 ⟨gl_mk z1 z2, z3⟩
        | exact z1 (in_mk (by omega) (Nat.zero_le _) y1 y2)
        | exact y1 (in_mk (by omega) (Nat.zero_le _) z1 z2)
        | exact z1 ((iIn1 (by omega)).mpr ⟨jj, y1, y2, y3⟩)
        | exact y1 ((iIn1 (by omega)).mpr ⟨j, z1, z2, z3⟩)
set_option maxRecDepth 100000 in
set_option maxHeartbeats 4000000 in
theorem case_size {g : gG} {Q : Option Value ⊕ String → gM → Prop} (hst : (gl1 g).stackTraces = false) {z : UInt32} {i kk nn : Nat} (hi : i + 8 ≤ gsL g) (h4 : gsL g ≤ 4096) {c : Cf} {P π : Nat → Nat} {M : gM} (hb : bS c M) (hS : kS c P π M) (IH : ∀ c' P' π' M' v5 v6, bS c' M' → kS c' P' π' M' → E g 18 kk nn mL_law 1687 [.float z, .ref 1, .ref 129, .ref 179, .int (nI i), v5, v6] [] M' Q) {v5 v6 : Value} : E g 18 (kk + 12) (nn + 330) mL_law 711 [.float z, .ref 1, .ref 129, .ref 179, .int (nI i), v5, v6] [] M Q := by
  have hw := hb.wf
  have hcf : cN c 128 1 < 2 := hw.fac
  have hct := hw.ct (cN c 128 1)
  have hct2 : cnt0 c ≤ 12 := hct
  have h16 : tl c ≤ 16 := hw.tl
  have hng := ng_1024 hw
  have hL := hb.lay
  refine E_aload_n dL_law_711 rfl ?_
  refine E_aload_s dL_law_712 rfl ?_
  refine E_iload dL_law_713 rfl ?_
  refine E_iconst (v := nI 1) dL_law_715 (by decide) ?_
  refine E_iadd_n dL_law_716 ?_
  refine E_sld dL_law_717 rfl (by omega) (by omega) ?_
  refine E_aload_n dL_law_718 rfl ?_
  refine E_room (Nat.le_refl _) (k' := 1 + kk) (n' := 6 + nn) (by omega) (by omega) ?_
  refine E_callS3 (fr' := 8) (k1 := 1) (n1 := 6) (k2 := kk) (n2 := nn) dL_law_719 kO_L_size kL_L_125 rfl rfl rfl (by decide) (by decide) (by exact Nat.le_of_ble_eq_true rfl) (Or.inr (gW_at 1059 (by decide +kernel) (by decide +kernel))) rfl ?_
  refine w_size hst hS (fun j z1 z2 M1 P1 π1 hS1 hke hm => ?_) (fun z1 M1 P1 π1 hS1 hke => ?_)
  · have hL := hS1.1.lay
    have hb1 := hb.ke hke hL
    refine gKv ?_
    refine E_istore dL_law_722 (Nat.le_of_ble_eq_true rfl) (by decide) rfl ?_
    refine E_aload_n dL_law_724 rfl ?_
    refine E_aload_s dL_law_725 rfl ?_
    refine E_iload dL_law_726 rfl ?_
    refine E_iconst (v := nI 1) dL_law_728 (by decide) ?_
    refine E_iadd_n dL_law_729 ?_
    refine E_sld dL_law_730 rfl (by omega) (by omega) ?_
    refine E_room (Nat.le_refl _) (k' := 0 + kk) (n' := 0 + nn) (by omega) (by omega) ?_
    refine E_callV1 (fr' := 3) (k1 := 0) (n1 := 0) (k2 := kk) (n2 := nn) dL_law_731 kO_X12_size kL_L_127 (l_128 hL) (k_128 hL) ⟨by decide, rfl⟩ rfl (by decide) (by decide) (by exact Nat.le_of_ble_eq_true rfl) rfl ?_
    refine o_size hb1 (fun y1 M2 hb2 hf2 h0 => ?_) (fun jj y1 y2 M2 hb2 hf2 h0 => ?_) 
    · exfalso
      first
        | exact z1 y1
        | exact y1 z1
        | exact z2 y2
        | exact y2 z2
        | exact z3 y3
        | exact y3 z3
        | omega
        | exact z1 (bel_mk (by omega) y1 y2)
        | exact y1 (bel_mk (by omega) z1 z2)
        | exact z1 (gl_mk y1 y2)
        | exact y1 (gl_mk z1 z2)
        | exact z2 y3
        | exact y2 z3
        | exact z1 y3
        | exact y1 z3
        | exact z1 ⟨gl_mk y1 y2, y3⟩
        | exact y1 ⟨gl_mk z1 z2, z3⟩
        | exact z1 (in_mk (by omega) (Nat.zero_le _) y1 y2)
        | exact y1 (in_mk (by omega) (Nat.zero_le _) z1 z2)
        | exact z1 ((iIn1 (by omega)).mpr ⟨jj, y1, y2, y3⟩)
        | exact y1 ((iIn1 (by omega)).mpr ⟨j, z1, z2, z3⟩)
    · obtain rfl : jj = j := nI_ij z2 y2 (by omega) (by omega)
      have hS2 := fr.S hS1 hf2 refR_8
      have hL := hb2.lay
      have hm2 := fr_L hf2 hm
      refine gKv ?_
      refine E_istore dL_law_734 (Nat.le_of_ble_eq_true rfl) (by decide) rfl ?_
      refine E_aload_n dL_law_736 rfl ?_
      refine E_room (Nat.le_refl _) (k' := 0 + kk) (n' := 0 + nn) (by omega) (by omega) ?_
      refine E_callV0 (fr' := 1) (k1 := 0) (n1 := 0) (k2 := kk) (n2 := nn) dL_law_737 kO_X12_thrown kL_L_100 (l_128 hL) (k_128 hL) ⟨by decide, rfl⟩  (by decide) (by decide) (by exact Nat.le_of_ble_eq_true rfl) rfl ?_
      refine sp_X12_thrown hL h0 ?_
      refine gKv ?_
      refine E_iload dL_law_740 rfl ?_
      refine E_icmp_eq (tgt := 747) dL_law_742 (by decide) (fun _ => ?_) (fun c0 => absurd (by decide) c0)
      refine E_iload dL_law_747 rfl ?_
      refine E_if_ne (tgt := 764) dL_law_749 (by decide) (fun c0 => absurd c0 (by decide)) (fun _ => ?_)
      refine E_aload_n dL_law_752 rfl ?_
      refine E_iconst (v := nI 0) dL_law_753 (by decide) ?_
      refine E_lald dL_law_754 (l_178 hL) (k_178 hL) rfl (by omega) (by decide) ?_
      refine E_iload dL_law_755 rfl ?_
      refine E_i2l dL_law_757 ?_
      refine E_lcmp dL_law_758 ?_
      refine E_if_eq (tgt := 764) dL_law_759 (by decide) (fun _ => ?_) (fun c0 => absurd (lcz hm2) c0)
      refine E_goto (tgt := 1687) dL_law_764 (by decide) ?_
      exact IH _ _ _ _ _ _ hb2 hS2
  · have hL := hS1.1.lay
    have hb1 := hb.ke hke hL
    refine gKv ?_
    refine E_istore dL_law_722 (Nat.le_of_ble_eq_true rfl) (by decide) rfl ?_
    refine E_aload_n dL_law_724 rfl ?_
    refine E_aload_s dL_law_725 rfl ?_
    refine E_iload dL_law_726 rfl ?_
    refine E_iconst (v := nI 1) dL_law_728 (by decide) ?_
    refine E_iadd_n dL_law_729 ?_
    refine E_sld dL_law_730 rfl (by omega) (by omega) ?_
    refine E_room (Nat.le_refl _) (k' := 0 + kk) (n' := 0 + nn) (by omega) (by omega) ?_
    refine E_callV1 (fr' := 3) (k1 := 0) (n1 := 0) (k2 := kk) (n2 := nn) dL_law_731 kO_X12_size kL_L_127 (l_128 hL) (k_128 hL) ⟨by decide, rfl⟩ rfl (by decide) (by decide) (by exact Nat.le_of_ble_eq_true rfl) rfl ?_
    refine o_size hb1 (fun y1 M2 hb2 hf2 h0 => ?_) (fun jj y1 y2 M2 hb2 hf2 h0 => ?_) 
    · have hS2 := fr.S hS1 hf2 refR_8
      have hL := hb2.lay
      refine gKv ?_
      refine E_istore dL_law_734 (Nat.le_of_ble_eq_true rfl) (by decide) rfl ?_
      refine E_aload_n dL_law_736 rfl ?_
      refine E_room (Nat.le_refl _) (k' := 0 + kk) (n' := 0 + nn) (by omega) (by omega) ?_
      refine E_callV0 (fr' := 1) (k1 := 0) (n1 := 0) (k2 := kk) (n2 := nn) dL_law_737 kO_X12_thrown kL_L_100 (l_128 hL) (k_128 hL) ⟨by decide, rfl⟩  (by decide) (by decide) (by exact Nat.le_of_ble_eq_true rfl) rfl ?_
      refine sp_X12_thrown hL h0 ?_
      refine gKv ?_
      refine E_iload dL_law_740 rfl ?_
      refine E_icmp_eq (tgt := 747) dL_law_742 (by decide) (fun _ => ?_) (fun c0 => absurd (by decide) c0)
      refine E_iload dL_law_747 rfl ?_
      refine E_if_ne (tgt := 764) dL_law_749 (by decide) (fun _ => ?_) (fun c0 => absurd (by decide) c0)
      refine E_goto (tgt := 1687) dL_law_764 (by decide) ?_
      exact IH _ _ _ _ _ _ hb2 hS2
    · exfalso
      first
        | exact z1 y1
        | exact y1 z1
        | exact z2 y2
        | exact y2 z2
        | exact z3 y3
        | exact y3 z3
        | omega
        | exact z1 (bel_mk (by omega) y1 y2)
        | exact y1 (bel_mk (by omega) z1 z2)
        | exact z1 (gl_mk y1 y2)
        | exact y1 (gl_mk z1 z2)
        | exact z2 y3
        | exact y2 z3
        | exact z1 y3
        | exact y1 z3
        | exact z1 ⟨gl_mk y1 y2, y3⟩
        | exact y1 ⟨gl_mk z1 z2, z3⟩
        | exact z1 (in_mk (by omega) (Nat.zero_le _) y1 y2)
        | exact y1 (in_mk (by omega) (Nat.zero_le _) z1 z2)
        | exact z1 ((iIn1 (by omega)).mpr ⟨jj, y1, y2, y3⟩)
        | exact y1 ((iIn1 (by omega)).mpr ⟨j, z1, z2, z3⟩)
set_option maxRecDepth 100000 in
set_option maxHeartbeats 4000000 in
theorem case_insert {g : gG} {Q : Option Value ⊕ String → gM → Prop} (hst : (gl1 g).stackTraces = false) {z : UInt32} {i kk nn : Nat} (hi : i + 8 ≤ gsL g) (h4 : gsL g ≤ 4096) {c : Cf} {P π : Nat → Nat} {M : gM} (hb : bS c M) (hS : kS c P π M) (IH : ∀ c' P' π' M' v5 v6, bS c' M' → kS c' P' π' M' → E g 18 kk nn mL_law 1687 [.float z, .ref 1, .ref 129, .ref 179, .int (nI i), v5, v6] [] M' Q) {v5 v6 : Value} : E g 18 (kk + 12) (nn + 330) mL_law 767 [.float z, .ref 1, .ref 129, .ref 179, .int (nI i), v5, v6] [] M Q := by
  have hw := hb.wf
  have hcf : cN c 128 1 < 2 := hw.fac
  have hct := hw.ct (cN c 128 1)
  have hct2 : cnt0 c ≤ 12 := hct
  have h16 : tl c ≤ 16 := hw.tl
  have hng := ng_1024 hw
  have hL := hb.lay
  refine E_aload_n dL_law_767 rfl ?_
  refine E_aload_s dL_law_768 rfl ?_
  refine E_iload dL_law_769 rfl ?_
  refine E_iconst (v := nI 1) dL_law_771 (by decide) ?_
  refine E_iadd_n dL_law_772 ?_
  refine E_sld dL_law_773 rfl (by omega) (by omega) ?_
  refine E_aload_s dL_law_774 rfl ?_
  refine E_iload dL_law_775 rfl ?_
  refine E_iconst (v := nI 2) dL_law_777 (by decide) ?_
  refine E_iadd_n dL_law_778 ?_
  refine E_sld dL_law_779 rfl (by omega) (by omega) ?_
  refine E_aload_n dL_law_780 rfl ?_
  refine E_room (Nat.le_refl _) (k' := 1 + kk) (n' := 6 + nn) (by omega) (by omega) ?_
  refine E_callS4 (fr' := 8) (k1 := 1) (n1 := 6) (k2 := kk) (n2 := nn) dL_law_781 kO_L_insert kL_L_128 rfl rfl rfl rfl (by decide) (by decide) (by exact Nat.le_of_ble_eq_true rfl) (Or.inr (gW_at 1077 (by decide +kernel) (by decide +kernel))) rfl ?_
  refine w_insert hst hS (fun j v z1 z2 z3 z4 z5 z6 M1 P1 π1 hS1 hke hm => ?_) (fun z1 M1 P1 π1 hS1 hke => ?_) (fun z1 z2 M1 P1 π1 hS1 hke => ?_) (fun z1 z2 z3 M1 P1 π1 hS1 hke => ?_)
  · have hL := hS1.1.lay
    have hb1 := hb.ke hke hL
    refine gKv ?_
    refine E_istore dL_law_784 (Nat.le_of_ble_eq_true rfl) (by decide) rfl ?_
    refine E_aload_n dL_law_786 rfl ?_
    refine E_aload_s dL_law_787 rfl ?_
    refine E_iload dL_law_788 rfl ?_
    refine E_iconst (v := nI 1) dL_law_790 (by decide) ?_
    refine E_iadd_n dL_law_791 ?_
    refine E_sld dL_law_792 rfl (by omega) (by omega) ?_
    refine E_aload_s dL_law_793 rfl ?_
    refine E_iload dL_law_794 rfl ?_
    refine E_iconst (v := nI 2) dL_law_796 (by decide) ?_
    refine E_iadd_n dL_law_797 ?_
    refine E_sld dL_law_798 rfl (by omega) (by omega) ?_
    refine E_room (Nat.le_refl _) (k' := 0 + kk) (n' := 0 + nn) (by omega) (by omega) ?_
    refine E_callV2 (fr' := 3) (k1 := 0) (n1 := 0) (k2 := kk) (n2 := nn) dL_law_799 kO_X12_insert kL_L_130 (l_128 hL) (k_128 hL) ⟨by decide, rfl⟩ rfl rfl (by decide) (by decide) (by exact Nat.le_of_ble_eq_true rfl) rfl ?_
    refine o_insert hb1 (fun y1 M2 hb2 hf2 h0 => ?_) (fun y1 y2 M2 hb2 hf2 h0 => ?_) (fun y1 y2 y3 M2 hb2 hf2 h0 => ?_) (fun jj vv y1 y2 y3 y4 y5 y6 M2 hb2 hf2 h0 => ?_) 
    · exfalso
      first
        | exact z1 y1
        | exact y1 z1
        | exact z2 y2
        | exact y2 z2
        | exact z1 (in_mk (by omega) (Nat.zero_le _) y1 y2)
        | exact y1 (in_mk (by omega) (Nat.zero_le _) z1 z2)
        | exact z2 y5
        | exact y2 z5
        | omega
    · exfalso
      first
        | exact z1 y1
        | exact y1 z1
        | exact z2 y2
        | exact y2 z2
        | exact z1 (in_mk (by omega) (Nat.zero_le _) y1 y2)
        | exact y1 (in_mk (by omega) (Nat.zero_le _) z1 z2)
        | exact z2 y5
        | exact y2 z5
        | omega
    · exfalso
      first
        | exact z1 y1
        | exact y1 z1
        | exact z2 y2
        | exact y2 z2
        | exact z1 (in_mk (by omega) (Nat.zero_le _) y1 y2)
        | exact y1 (in_mk (by omega) (Nat.zero_le _) z1 z2)
        | exact z2 y5
        | exact y2 z5
        | omega
    · obtain rfl : jj = j := nI_ij z2 y2 (by omega) (by omega)
      obtain rfl : vv = v := nI_ij z4 y4 (by omega) (by omega)
      have hS2 := fr.S hS1 hf2 refR_8
      have hL := hb2.lay
      have hm2 := fr_L hf2 hm
      refine gKv ?_
      refine E_istore dL_law_802 (Nat.le_of_ble_eq_true rfl) (by decide) rfl ?_
      refine E_aload_n dL_law_804 rfl ?_
      refine E_room (Nat.le_refl _) (k' := 0 + kk) (n' := 0 + nn) (by omega) (by omega) ?_
      refine E_callV0 (fr' := 1) (k1 := 0) (n1 := 0) (k2 := kk) (n2 := nn) dL_law_805 kO_X12_thrown kL_L_100 (l_128 hL) (k_128 hL) ⟨by decide, rfl⟩  (by decide) (by decide) (by exact Nat.le_of_ble_eq_true rfl) rfl ?_
      refine sp_X12_thrown hL h0 ?_
      refine gKv ?_
      refine E_iload dL_law_808 rfl ?_
      refine E_icmp_eq (tgt := 815) dL_law_810 (by decide) (fun _ => ?_) (fun c0 => absurd (by decide) c0)
      refine E_iload dL_law_815 rfl ?_
      refine E_if_ne (tgt := 832) dL_law_817 (by decide) (fun c0 => absurd c0 (by decide)) (fun _ => ?_)
      refine E_aload_n dL_law_820 rfl ?_
      refine E_iconst (v := nI 0) dL_law_821 (by decide) ?_
      refine E_lald dL_law_822 (l_178 hL) (k_178 hL) rfl (by omega) (by decide) ?_
      refine E_iload dL_law_823 rfl ?_
      refine E_i2l dL_law_825 ?_
      refine E_lcmp dL_law_826 ?_
      refine E_if_eq (tgt := 832) dL_law_827 (by decide) (fun _ => ?_) (fun c0 => absurd (lcz hm2) c0)
      refine E_goto (tgt := 1687) dL_law_832 (by decide) ?_
      exact IH _ _ _ _ _ _ hb2 hS2
  · have hL := hS1.1.lay
    have hb1 := hb.ke hke hL
    refine gKv ?_
    refine E_istore dL_law_784 (Nat.le_of_ble_eq_true rfl) (by decide) rfl ?_
    refine E_aload_n dL_law_786 rfl ?_
    refine E_aload_s dL_law_787 rfl ?_
    refine E_iload dL_law_788 rfl ?_
    refine E_iconst (v := nI 1) dL_law_790 (by decide) ?_
    refine E_iadd_n dL_law_791 ?_
    refine E_sld dL_law_792 rfl (by omega) (by omega) ?_
    refine E_aload_s dL_law_793 rfl ?_
    refine E_iload dL_law_794 rfl ?_
    refine E_iconst (v := nI 2) dL_law_796 (by decide) ?_
    refine E_iadd_n dL_law_797 ?_
    refine E_sld dL_law_798 rfl (by omega) (by omega) ?_
    refine E_room (Nat.le_refl _) (k' := 0 + kk) (n' := 0 + nn) (by omega) (by omega) ?_
    refine E_callV2 (fr' := 3) (k1 := 0) (n1 := 0) (k2 := kk) (n2 := nn) dL_law_799 kO_X12_insert kL_L_130 (l_128 hL) (k_128 hL) ⟨by decide, rfl⟩ rfl rfl (by decide) (by decide) (by exact Nat.le_of_ble_eq_true rfl) rfl ?_
    refine o_insert hb1 (fun y1 M2 hb2 hf2 h0 => ?_) (fun y1 y2 M2 hb2 hf2 h0 => ?_) (fun y1 y2 y3 M2 hb2 hf2 h0 => ?_) (fun jj vv y1 y2 y3 y4 y5 y6 M2 hb2 hf2 h0 => ?_) 
    · have hS2 := fr.S hS1 hf2 refR_8
      have hL := hb2.lay
      refine gKv ?_
      refine E_istore dL_law_802 (Nat.le_of_ble_eq_true rfl) (by decide) rfl ?_
      refine E_aload_n dL_law_804 rfl ?_
      refine E_room (Nat.le_refl _) (k' := 0 + kk) (n' := 0 + nn) (by omega) (by omega) ?_
      refine E_callV0 (fr' := 1) (k1 := 0) (n1 := 0) (k2 := kk) (n2 := nn) dL_law_805 kO_X12_thrown kL_L_100 (l_128 hL) (k_128 hL) ⟨by decide, rfl⟩  (by decide) (by decide) (by exact Nat.le_of_ble_eq_true rfl) rfl ?_
      refine sp_X12_thrown hL h0 ?_
      refine gKv ?_
      refine E_iload dL_law_808 rfl ?_
      refine E_icmp_eq (tgt := 815) dL_law_810 (by decide) (fun _ => ?_) (fun c0 => absurd (by decide) c0)
      refine E_iload dL_law_815 rfl ?_
      refine E_if_ne (tgt := 832) dL_law_817 (by decide) (fun _ => ?_) (fun c0 => absurd (by decide) c0)
      refine E_goto (tgt := 1687) dL_law_832 (by decide) ?_
      exact IH _ _ _ _ _ _ hb2 hS2
    · exfalso
      first
        | exact z1 y1
        | exact y1 z1
        | exact z2 y2
        | exact y2 z2
        | exact z1 (in_mk (by omega) (Nat.zero_le _) y1 y2)
        | exact y1 (in_mk (by omega) (Nat.zero_le _) z1 z2)
        | exact z2 y5
        | exact y2 z5
        | omega
    · exfalso
      first
        | exact z1 y1
        | exact y1 z1
        | exact z2 y2
        | exact y2 z2
        | exact z1 (in_mk (by omega) (Nat.zero_le _) y1 y2)
        | exact y1 (in_mk (by omega) (Nat.zero_le _) z1 z2)
        | exact z2 y5
        | exact y2 z5
        | omega
    · exfalso
      first
        | exact z1 y1
        | exact y1 z1
        | exact z2 y2
        | exact y2 z2
        | exact z1 (in_mk (by omega) (Nat.zero_le _) y1 y2)
        | exact y1 (in_mk (by omega) (Nat.zero_le _) z1 z2)
        | exact z2 y5
        | exact y2 z5
        | omega
  · have hL := hS1.1.lay
    have hb1 := hb.ke hke hL
    refine gKv ?_
    refine E_istore dL_law_784 (Nat.le_of_ble_eq_true rfl) (by decide) rfl ?_
    refine E_aload_n dL_law_786 rfl ?_
    refine E_aload_s dL_law_787 rfl ?_
    refine E_iload dL_law_788 rfl ?_
    refine E_iconst (v := nI 1) dL_law_790 (by decide) ?_
    refine E_iadd_n dL_law_791 ?_
    refine E_sld dL_law_792 rfl (by omega) (by omega) ?_
    refine E_aload_s dL_law_793 rfl ?_
    refine E_iload dL_law_794 rfl ?_
    refine E_iconst (v := nI 2) dL_law_796 (by decide) ?_
    refine E_iadd_n dL_law_797 ?_
    refine E_sld dL_law_798 rfl (by omega) (by omega) ?_
    refine E_room (Nat.le_refl _) (k' := 0 + kk) (n' := 0 + nn) (by omega) (by omega) ?_
    refine E_callV2 (fr' := 3) (k1 := 0) (n1 := 0) (k2 := kk) (n2 := nn) dL_law_799 kO_X12_insert kL_L_130 (l_128 hL) (k_128 hL) ⟨by decide, rfl⟩ rfl rfl (by decide) (by decide) (by exact Nat.le_of_ble_eq_true rfl) rfl ?_
    refine o_insert hb1 (fun y1 M2 hb2 hf2 h0 => ?_) (fun y1 y2 M2 hb2 hf2 h0 => ?_) (fun y1 y2 y3 M2 hb2 hf2 h0 => ?_) (fun jj vv y1 y2 y3 y4 y5 y6 M2 hb2 hf2 h0 => ?_) 
    · exfalso
      first
        | exact z1 y1
        | exact y1 z1
        | exact z2 y2
        | exact y2 z2
        | exact z1 (in_mk (by omega) (Nat.zero_le _) y1 y2)
        | exact y1 (in_mk (by omega) (Nat.zero_le _) z1 z2)
        | exact z2 y5
        | exact y2 z5
        | omega
    · have hS2 := fr.S hS1 hf2 refR_8
      have hL := hb2.lay
      refine gKv ?_
      refine E_istore dL_law_802 (Nat.le_of_ble_eq_true rfl) (by decide) rfl ?_
      refine E_aload_n dL_law_804 rfl ?_
      refine E_room (Nat.le_refl _) (k' := 0 + kk) (n' := 0 + nn) (by omega) (by omega) ?_
      refine E_callV0 (fr' := 1) (k1 := 0) (n1 := 0) (k2 := kk) (n2 := nn) dL_law_805 kO_X12_thrown kL_L_100 (l_128 hL) (k_128 hL) ⟨by decide, rfl⟩  (by decide) (by decide) (by exact Nat.le_of_ble_eq_true rfl) rfl ?_
      refine sp_X12_thrown hL h0 ?_
      refine gKv ?_
      refine E_iload dL_law_808 rfl ?_
      refine E_icmp_eq (tgt := 815) dL_law_810 (by decide) (fun _ => ?_) (fun c0 => absurd (by decide) c0)
      refine E_iload dL_law_815 rfl ?_
      refine E_if_ne (tgt := 832) dL_law_817 (by decide) (fun _ => ?_) (fun c0 => absurd (by decide) c0)
      refine E_goto (tgt := 1687) dL_law_832 (by decide) ?_
      exact IH _ _ _ _ _ _ hb2 hS2
    · exfalso
      first
        | exact z1 y1
        | exact y1 z1
        | exact z2 y2
        | exact y2 z2
        | exact z1 (in_mk (by omega) (Nat.zero_le _) y1 y2)
        | exact y1 (in_mk (by omega) (Nat.zero_le _) z1 z2)
        | exact z2 y5
        | exact y2 z5
        | omega
    · exfalso
      first
        | exact z1 y1
        | exact y1 z1
        | exact z2 y2
        | exact y2 z2
        | exact z1 (in_mk (by omega) (Nat.zero_le _) y1 y2)
        | exact y1 (in_mk (by omega) (Nat.zero_le _) z1 z2)
        | exact z2 y5
        | exact y2 z5
        | omega
  · have hL := hS1.1.lay
    have hb1 := hb.ke hke hL
    refine gKv ?_
    refine E_istore dL_law_784 (Nat.le_of_ble_eq_true rfl) (by decide) rfl ?_
    refine E_aload_n dL_law_786 rfl ?_
    refine E_aload_s dL_law_787 rfl ?_
    refine E_iload dL_law_788 rfl ?_
    refine E_iconst (v := nI 1) dL_law_790 (by decide) ?_
    refine E_iadd_n dL_law_791 ?_
    refine E_sld dL_law_792 rfl (by omega) (by omega) ?_
    refine E_aload_s dL_law_793 rfl ?_
    refine E_iload dL_law_794 rfl ?_
    refine E_iconst (v := nI 2) dL_law_796 (by decide) ?_
    refine E_iadd_n dL_law_797 ?_
    refine E_sld dL_law_798 rfl (by omega) (by omega) ?_
    refine E_room (Nat.le_refl _) (k' := 0 + kk) (n' := 0 + nn) (by omega) (by omega) ?_
    refine E_callV2 (fr' := 3) (k1 := 0) (n1 := 0) (k2 := kk) (n2 := nn) dL_law_799 kO_X12_insert kL_L_130 (l_128 hL) (k_128 hL) ⟨by decide, rfl⟩ rfl rfl (by decide) (by decide) (by exact Nat.le_of_ble_eq_true rfl) rfl ?_
    refine o_insert hb1 (fun y1 M2 hb2 hf2 h0 => ?_) (fun y1 y2 M2 hb2 hf2 h0 => ?_) (fun y1 y2 y3 M2 hb2 hf2 h0 => ?_) (fun jj vv y1 y2 y3 y4 y5 y6 M2 hb2 hf2 h0 => ?_) 
    · exfalso
      first
        | exact z1 y1
        | exact y1 z1
        | exact z2 y2
        | exact y2 z2
        | exact z1 (in_mk (by omega) (Nat.zero_le _) y1 y2)
        | exact y1 (in_mk (by omega) (Nat.zero_le _) z1 z2)
        | exact z2 y5
        | exact y2 z5
        | omega
    · exfalso
      first
        | exact z1 y1
        | exact y1 z1
        | exact z2 y2
        | exact y2 z2
        | exact z1 (in_mk (by omega) (Nat.zero_le _) y1 y2)
        | exact y1 (in_mk (by omega) (Nat.zero_le _) z1 z2)
        | exact z2 y5
        | exact y2 z5
        | omega
    · have hS2 := fr.S hS1 hf2 refR_8
      have hL := hb2.lay
      refine gKv ?_
      refine E_istore dL_law_802 (Nat.le_of_ble_eq_true rfl) (by decide) rfl ?_
      refine E_aload_n dL_law_804 rfl ?_
      refine E_room (Nat.le_refl _) (k' := 0 + kk) (n' := 0 + nn) (by omega) (by omega) ?_
      refine E_callV0 (fr' := 1) (k1 := 0) (n1 := 0) (k2 := kk) (n2 := nn) dL_law_805 kO_X12_thrown kL_L_100 (l_128 hL) (k_128 hL) ⟨by decide, rfl⟩  (by decide) (by decide) (by exact Nat.le_of_ble_eq_true rfl) rfl ?_
      refine sp_X12_thrown hL h0 ?_
      refine gKv ?_
      refine E_iload dL_law_808 rfl ?_
      refine E_icmp_eq (tgt := 815) dL_law_810 (by decide) (fun _ => ?_) (fun c0 => absurd (by decide) c0)
      refine E_iload dL_law_815 rfl ?_
      refine E_if_ne (tgt := 832) dL_law_817 (by decide) (fun _ => ?_) (fun c0 => absurd (by decide) c0)
      refine E_goto (tgt := 1687) dL_law_832 (by decide) ?_
      exact IH _ _ _ _ _ _ hb2 hS2
    · exfalso
      first
        | exact z1 y1
        | exact y1 z1
        | exact z2 y2
        | exact y2 z2
        | exact z1 (in_mk (by omega) (Nat.zero_le _) y1 y2)
        | exact y1 (in_mk (by omega) (Nat.zero_le _) z1 z2)
        | exact z2 y5
        | exact y2 z5
        | omega
set_option maxRecDepth 100000 in
set_option maxHeartbeats 4000000 in
theorem case_cut {g : gG} {Q : Option Value ⊕ String → gM → Prop} (hst : (gl1 g).stackTraces = false) {z : UInt32} {i kk nn : Nat} (hi : i + 8 ≤ gsL g) (h4 : gsL g ≤ 4096) {c : Cf} {P π : Nat → Nat} {M : gM} (hb : bS c M) (hS : kS c P π M) (IH : ∀ c' P' π' M' v5 v6, bS c' M' → kS c' P' π' M' → E g 18 kk nn mL_law 1687 [.float z, .ref 1, .ref 129, .ref 179, .int (nI i), v5, v6] [] M' Q) {v5 v6 : Value} : E g 18 (kk + 12) (nn + 330) mL_law 835 [.float z, .ref 1, .ref 129, .ref 179, .int (nI i), v5, v6] [] M Q := by
  have hw := hb.wf
  have hcf : cN c 128 1 < 2 := hw.fac
  have hct := hw.ct (cN c 128 1)
  have hct2 : cnt0 c ≤ 12 := hct
  have h16 : tl c ≤ 16 := hw.tl
  have hng := ng_1024 hw
  have hL := hb.lay
  refine E_aload_n dL_law_835 rfl ?_
  refine E_aload_s dL_law_836 rfl ?_
  refine E_iload dL_law_837 rfl ?_
  refine E_iconst (v := nI 1) dL_law_839 (by decide) ?_
  refine E_iadd_n dL_law_840 ?_
  refine E_sld dL_law_841 rfl (by omega) (by omega) ?_
  refine E_aload_n dL_law_842 rfl ?_
  refine E_room (Nat.le_refl _) (k' := 1 + kk) (n' := 6 + nn) (by omega) (by omega) ?_
  refine E_callS3 (fr' := 9) (k1 := 1) (n1 := 6) (k2 := kk) (n2 := nn) dL_law_843 kO_L_cut kL_L_131 rfl rfl rfl (by decide) (by decide) (by exact Nat.le_of_ble_eq_true rfl) (Or.inr (gW_at 1090 (by decide +kernel) (by decide +kernel))) rfl ?_
  refine w_cut hst hS (fun j z1 z2 M1 P1 π1 hS1 hke hm => ?_) (fun z1 M1 P1 π1 hS1 hke => ?_)
  · have hL := hS1.1.lay
    have hb1 := hb.ke hke hL
    refine gKv ?_
    refine E_istore dL_law_846 (Nat.le_of_ble_eq_true rfl) (by decide) rfl ?_
    refine E_aload_n dL_law_848 rfl ?_
    refine E_aload_s dL_law_849 rfl ?_
    refine E_iload dL_law_850 rfl ?_
    refine E_iconst (v := nI 1) dL_law_852 (by decide) ?_
    refine E_iadd_n dL_law_853 ?_
    refine E_sld dL_law_854 rfl (by omega) (by omega) ?_
    refine E_room (Nat.le_refl _) (k' := 0 + kk) (n' := 0 + nn) (by omega) (by omega) ?_
    refine E_callV1 (fr' := 3) (k1 := 0) (n1 := 0) (k2 := kk) (n2 := nn) dL_law_855 kO_X12_cut kL_L_133 (l_128 hL) (k_128 hL) ⟨by decide, rfl⟩ rfl (by decide) (by decide) (by exact Nat.le_of_ble_eq_true rfl) rfl ?_
    refine o_cut hb1 (fun y1 M2 hb2 hf2 h0 => ?_) (fun jj y1 y2 M2 hb2 hf2 h0 => ?_) 
    · exfalso
      first
        | exact z1 y1
        | exact y1 z1
        | exact z2 y2
        | exact y2 z2
        | exact z3 y3
        | exact y3 z3
        | omega
        | exact z1 (bel_mk (by omega) y1 y2)
        | exact y1 (bel_mk (by omega) z1 z2)
        | exact z1 (gl_mk y1 y2)
        | exact y1 (gl_mk z1 z2)
        | exact z2 y3
        | exact y2 z3
        | exact z1 y3
        | exact y1 z3
        | exact z1 ⟨gl_mk y1 y2, y3⟩
        | exact y1 ⟨gl_mk z1 z2, z3⟩
        | exact z1 (in_mk (by omega) (Nat.zero_le _) y1 y2)
        | exact y1 (in_mk (by omega) (Nat.zero_le _) z1 z2)
        | exact z1 ((iIn1 (by omega)).mpr ⟨jj, y1, y2, y3⟩)
        | exact y1 ((iIn1 (by omega)).mpr ⟨j, z1, z2, z3⟩)
    · obtain rfl : jj = j := nI_ij z2 y2 (by omega) (by omega)
      have hS2 := fr.S hS1 hf2 refR_8
      have hL := hb2.lay
      have hm2 := fr_L hf2 hm
      refine gKv ?_
      refine E_istore dL_law_858 (Nat.le_of_ble_eq_true rfl) (by decide) rfl ?_
      refine E_aload_n dL_law_860 rfl ?_
      refine E_room (Nat.le_refl _) (k' := 0 + kk) (n' := 0 + nn) (by omega) (by omega) ?_
      refine E_callV0 (fr' := 1) (k1 := 0) (n1 := 0) (k2 := kk) (n2 := nn) dL_law_861 kO_X12_thrown kL_L_100 (l_128 hL) (k_128 hL) ⟨by decide, rfl⟩  (by decide) (by decide) (by exact Nat.le_of_ble_eq_true rfl) rfl ?_
      refine sp_X12_thrown hL h0 ?_
      refine gKv ?_
      refine E_iload dL_law_864 rfl ?_
      refine E_icmp_eq (tgt := 871) dL_law_866 (by decide) (fun _ => ?_) (fun c0 => absurd (by decide) c0)
      refine E_iload dL_law_871 rfl ?_
      refine E_if_ne (tgt := 888) dL_law_873 (by decide) (fun c0 => absurd c0 (by decide)) (fun _ => ?_)
      refine E_aload_n dL_law_876 rfl ?_
      refine E_iconst (v := nI 0) dL_law_877 (by decide) ?_
      refine E_lald dL_law_878 (l_178 hL) (k_178 hL) rfl (by omega) (by decide) ?_
      refine E_iload dL_law_879 rfl ?_
      refine E_i2l dL_law_881 ?_
      refine E_lcmp dL_law_882 ?_
      refine E_if_eq (tgt := 888) dL_law_883 (by decide) (fun _ => ?_) (fun c0 => absurd (lcz hm2) c0)
      refine E_goto (tgt := 1687) dL_law_888 (by decide) ?_
      exact IH _ _ _ _ _ _ hb2 hS2
  · have hL := hS1.1.lay
    have hb1 := hb.ke hke hL
    refine gKv ?_
    refine E_istore dL_law_846 (Nat.le_of_ble_eq_true rfl) (by decide) rfl ?_
    refine E_aload_n dL_law_848 rfl ?_
    refine E_aload_s dL_law_849 rfl ?_
    refine E_iload dL_law_850 rfl ?_
    refine E_iconst (v := nI 1) dL_law_852 (by decide) ?_
    refine E_iadd_n dL_law_853 ?_
    refine E_sld dL_law_854 rfl (by omega) (by omega) ?_
    refine E_room (Nat.le_refl _) (k' := 0 + kk) (n' := 0 + nn) (by omega) (by omega) ?_
    refine E_callV1 (fr' := 3) (k1 := 0) (n1 := 0) (k2 := kk) (n2 := nn) dL_law_855 kO_X12_cut kL_L_133 (l_128 hL) (k_128 hL) ⟨by decide, rfl⟩ rfl (by decide) (by decide) (by exact Nat.le_of_ble_eq_true rfl) rfl ?_
    refine o_cut hb1 (fun y1 M2 hb2 hf2 h0 => ?_) (fun jj y1 y2 M2 hb2 hf2 h0 => ?_) 
    · have hS2 := fr.S hS1 hf2 refR_8
      have hL := hb2.lay
      refine gKv ?_
      refine E_istore dL_law_858 (Nat.le_of_ble_eq_true rfl) (by decide) rfl ?_
      refine E_aload_n dL_law_860 rfl ?_
      refine E_room (Nat.le_refl _) (k' := 0 + kk) (n' := 0 + nn) (by omega) (by omega) ?_
      refine E_callV0 (fr' := 1) (k1 := 0) (n1 := 0) (k2 := kk) (n2 := nn) dL_law_861 kO_X12_thrown kL_L_100 (l_128 hL) (k_128 hL) ⟨by decide, rfl⟩  (by decide) (by decide) (by exact Nat.le_of_ble_eq_true rfl) rfl ?_
      refine sp_X12_thrown hL h0 ?_
      refine gKv ?_
      refine E_iload dL_law_864 rfl ?_
      refine E_icmp_eq (tgt := 871) dL_law_866 (by decide) (fun _ => ?_) (fun c0 => absurd (by decide) c0)
      refine E_iload dL_law_871 rfl ?_
      refine E_if_ne (tgt := 888) dL_law_873 (by decide) (fun _ => ?_) (fun c0 => absurd (by decide) c0)
      refine E_goto (tgt := 1687) dL_law_888 (by decide) ?_
      exact IH _ _ _ _ _ _ hb2 hS2
    · exfalso
      first
        | exact z1 y1
        | exact y1 z1
        | exact z2 y2
        | exact y2 z2
        | exact z3 y3
        | exact y3 z3
        | omega
        | exact z1 (bel_mk (by omega) y1 y2)
        | exact y1 (bel_mk (by omega) z1 z2)
        | exact z1 (gl_mk y1 y2)
        | exact y1 (gl_mk z1 z2)
        | exact z2 y3
        | exact y2 z3
        | exact z1 y3
        | exact y1 z3
        | exact z1 ⟨gl_mk y1 y2, y3⟩
        | exact y1 ⟨gl_mk z1 z2, z3⟩
        | exact z1 (in_mk (by omega) (Nat.zero_le _) y1 y2)
        | exact y1 (in_mk (by omega) (Nat.zero_le _) z1 z2)
        | exact z1 ((iIn1 (by omega)).mpr ⟨jj, y1, y2, y3⟩)
        | exact y1 ((iIn1 (by omega)).mpr ⟨j, z1, z2, z3⟩)
set_option maxRecDepth 100000 in
set_option maxHeartbeats 4000000 in
theorem case_setTongue {g : gG} {Q : Option Value ⊕ String → gM → Prop} (hst : (gl1 g).stackTraces = false) {z : UInt32} {i kk nn : Nat} (hi : i + 8 ≤ gsL g) (h4 : gsL g ≤ 4096) {c : Cf} {P π : Nat → Nat} {M : gM} (hb : bS c M) (hS : kS c P π M) (IH : ∀ c' P' π' M' v5 v6, bS c' M' → kS c' P' π' M' → E g 18 kk nn mL_law 1687 [.float z, .ref 1, .ref 129, .ref 179, .int (nI i), v5, v6] [] M' Q) {v5 v6 : Value} : E g 18 (kk + 12) (nn + 330) mL_law 891 [.float z, .ref 1, .ref 129, .ref 179, .int (nI i), v5, v6] [] M Q := by
  have hw := hb.wf
  have hcf : cN c 128 1 < 2 := hw.fac
  have hct := hw.ct (cN c 128 1)
  have hct2 : cnt0 c ≤ 12 := hct
  have h16 : tl c ≤ 16 := hw.tl
  have hng := ng_1024 hw
  have hL := hb.lay
  refine E_aload_n dL_law_891 rfl ?_
  refine E_aload_s dL_law_892 rfl ?_
  refine E_iload dL_law_893 rfl ?_
  refine E_iconst (v := nI 1) dL_law_895 (by decide) ?_
  refine E_iadd_n dL_law_896 ?_
  refine E_sld dL_law_897 rfl (by omega) (by omega) ?_
  refine E_aload_n dL_law_898 rfl ?_
  refine E_room (Nat.le_refl _) (k' := 1 + kk) (n' := 6 + nn) (by omega) (by omega) ?_
  refine E_callS3 (fr' := 8) (k1 := 1) (n1 := 6) (k2 := kk) (n2 := nn) dL_law_899 kO_L_setTongue kL_L_134 rfl rfl rfl (by decide) (by decide) (by exact Nat.le_of_ble_eq_true rfl) (Or.inr (gW_at 1105 (by decide +kernel) (by decide +kernel))) rfl ?_
  refine w_setTongue hst hS (fun z1 M1 P1 π1 hS1 hke hm => ?_) (fun z1 M1 P1 π1 hS1 hke => ?_)
  · have hL := hS1.1.lay
    have hb1 := hb.ke hke hL
    refine gKv ?_
    refine E_istore dL_law_902 (Nat.le_of_ble_eq_true rfl) (by decide) rfl ?_
    refine E_aload_n dL_law_904 rfl ?_
    refine E_aload_s dL_law_905 rfl ?_
    refine E_iload dL_law_906 rfl ?_
    refine E_iconst (v := nI 1) dL_law_908 (by decide) ?_
    refine E_iadd_n dL_law_909 ?_
    refine E_sld dL_law_910 rfl (by omega) (by omega) ?_
    refine E_room (Nat.le_refl _) (k' := 0 + kk) (n' := 0 + nn) (by omega) (by omega) ?_
    refine E_callV1 (fr' := 2) (k1 := 0) (n1 := 0) (k2 := kk) (n2 := nn) dL_law_911 kO_X12_setTongue kL_L_136 (l_128 hL) (k_128 hL) ⟨by decide, rfl⟩ rfl (by decide) (by decide) (by exact Nat.le_of_ble_eq_true rfl) rfl ?_
    refine o_setTongue hb1 (fun y1 M2 hb2 hf2 h0 => ?_) (fun y1 M2 hb2 hf2 h0 => ?_) 
    · exfalso
      first
        | exact z1 y1
        | exact y1 z1
        | exact z2 y2
        | exact y2 z2
        | exact z3 y3
        | exact y3 z3
        | omega
        | exact z1 (bel_mk (by omega) y1 y2)
        | exact y1 (bel_mk (by omega) z1 z2)
        | exact z1 (gl_mk y1 y2)
        | exact y1 (gl_mk z1 z2)
        | exact z2 y3
        | exact y2 z3
        | exact z1 y3
        | exact y1 z3
        | exact z1 ⟨gl_mk y1 y2, y3⟩
        | exact y1 ⟨gl_mk z1 z2, z3⟩
        | exact z1 (in_mk (by omega) (Nat.zero_le _) y1 y2)
        | exact y1 (in_mk (by omega) (Nat.zero_le _) z1 z2)
        | exact z1 ((iIn1 (by omega)).mpr ⟨jj, y1, y2, y3⟩)
        | exact y1 ((iIn1 (by omega)).mpr ⟨j, z1, z2, z3⟩)
    · have hS2 := fr.S hS1 hf2 refR_8
      have hL := hb2.lay
      have hm2 := fr_L hf2 hm
      refine gKv ?_
      refine E_istore dL_law_914 (Nat.le_of_ble_eq_true rfl) (by decide) rfl ?_
      refine E_aload_n dL_law_916 rfl ?_
      refine E_room (Nat.le_refl _) (k' := 0 + kk) (n' := 0 + nn) (by omega) (by omega) ?_
      refine E_callV0 (fr' := 1) (k1 := 0) (n1 := 0) (k2 := kk) (n2 := nn) dL_law_917 kO_X12_thrown kL_L_100 (l_128 hL) (k_128 hL) ⟨by decide, rfl⟩  (by decide) (by decide) (by exact Nat.le_of_ble_eq_true rfl) rfl ?_
      refine sp_X12_thrown hL h0 ?_
      refine gKv ?_
      refine E_iload dL_law_920 rfl ?_
      refine E_icmp_eq (tgt := 927) dL_law_922 (by decide) (fun _ => ?_) (fun c0 => absurd (by decide) c0)
      refine E_iload dL_law_927 rfl ?_
      refine E_if_ne (tgt := 944) dL_law_929 (by decide) (fun c0 => absurd c0 (by decide)) (fun _ => ?_)
      refine E_aload_n dL_law_932 rfl ?_
      refine E_iconst (v := nI 0) dL_law_933 (by decide) ?_
      refine E_lald dL_law_934 (l_178 hL) (k_178 hL) rfl (by omega) (by decide) ?_
      refine E_iload dL_law_935 rfl ?_
      refine E_i2l dL_law_937 ?_
      refine E_lcmp dL_law_938 ?_
      refine E_if_eq (tgt := 944) dL_law_939 (by decide) (fun _ => ?_) (fun c0 => absurd (lcz hm2) c0)
      refine E_goto (tgt := 1687) dL_law_944 (by decide) ?_
      exact IH _ _ _ _ _ _ hb2 hS2
  · have hL := hS1.1.lay
    have hb1 := hb.ke hke hL
    refine gKv ?_
    refine E_istore dL_law_902 (Nat.le_of_ble_eq_true rfl) (by decide) rfl ?_
    refine E_aload_n dL_law_904 rfl ?_
    refine E_aload_s dL_law_905 rfl ?_
    refine E_iload dL_law_906 rfl ?_
    refine E_iconst (v := nI 1) dL_law_908 (by decide) ?_
    refine E_iadd_n dL_law_909 ?_
    refine E_sld dL_law_910 rfl (by omega) (by omega) ?_
    refine E_room (Nat.le_refl _) (k' := 0 + kk) (n' := 0 + nn) (by omega) (by omega) ?_
    refine E_callV1 (fr' := 2) (k1 := 0) (n1 := 0) (k2 := kk) (n2 := nn) dL_law_911 kO_X12_setTongue kL_L_136 (l_128 hL) (k_128 hL) ⟨by decide, rfl⟩ rfl (by decide) (by decide) (by exact Nat.le_of_ble_eq_true rfl) rfl ?_
    refine o_setTongue hb1 (fun y1 M2 hb2 hf2 h0 => ?_) (fun y1 M2 hb2 hf2 h0 => ?_) 
    · have hS2 := fr.S hS1 hf2 refR_8
      have hL := hb2.lay
      refine gKv ?_
      refine E_istore dL_law_914 (Nat.le_of_ble_eq_true rfl) (by decide) rfl ?_
      refine E_aload_n dL_law_916 rfl ?_
      refine E_room (Nat.le_refl _) (k' := 0 + kk) (n' := 0 + nn) (by omega) (by omega) ?_
      refine E_callV0 (fr' := 1) (k1 := 0) (n1 := 0) (k2 := kk) (n2 := nn) dL_law_917 kO_X12_thrown kL_L_100 (l_128 hL) (k_128 hL) ⟨by decide, rfl⟩  (by decide) (by decide) (by exact Nat.le_of_ble_eq_true rfl) rfl ?_
      refine sp_X12_thrown hL h0 ?_
      refine gKv ?_
      refine E_iload dL_law_920 rfl ?_
      refine E_icmp_eq (tgt := 927) dL_law_922 (by decide) (fun _ => ?_) (fun c0 => absurd (by decide) c0)
      refine E_iload dL_law_927 rfl ?_
      refine E_if_ne (tgt := 944) dL_law_929 (by decide) (fun _ => ?_) (fun c0 => absurd (by decide) c0)
      refine E_goto (tgt := 1687) dL_law_944 (by decide) ?_
      exact IH _ _ _ _ _ _ hb2 hS2
    · exfalso
      first
        | exact z1 y1
        | exact y1 z1
        | exact z2 y2
        | exact y2 z2
        | exact z3 y3
        | exact y3 z3
        | omega
        | exact z1 (bel_mk (by omega) y1 y2)
        | exact y1 (bel_mk (by omega) z1 z2)
        | exact z1 (gl_mk y1 y2)
        | exact y1 (gl_mk z1 z2)
        | exact z2 y3
        | exact y2 z3
        | exact z1 y3
        | exact y1 z3
        | exact z1 ⟨gl_mk y1 y2, y3⟩
        | exact y1 ⟨gl_mk z1 z2, z3⟩
        | exact z1 (in_mk (by omega) (Nat.zero_le _) y1 y2)
        | exact y1 (in_mk (by omega) (Nat.zero_le _) z1 z2)
        | exact z1 ((iIn1 (by omega)).mpr ⟨jj, y1, y2, y3⟩)
        | exact y1 ((iIn1 (by omega)).mpr ⟨j, z1, z2, z3⟩)
set_option maxRecDepth 100000 in
set_option maxHeartbeats 4000000 in
theorem case_setExtra {g : gG} {Q : Option Value ⊕ String → gM → Prop} (hst : (gl1 g).stackTraces = false) {z : UInt32} {i kk nn : Nat} (hi : i + 8 ≤ gsL g) (h4 : gsL g ≤ 4096) {c : Cf} {P π : Nat → Nat} {M : gM} (hb : bS c M) (hS : kS c P π M) (IH : ∀ c' P' π' M' v5 v6, bS c' M' → kS c' P' π' M' → E g 18 kk nn mL_law 1687 [.float z, .ref 1, .ref 129, .ref 179, .int (nI i), v5, v6] [] M' Q) {v5 v6 : Value} : E g 18 (kk + 12) (nn + 330) mL_law 947 [.float z, .ref 1, .ref 129, .ref 179, .int (nI i), v5, v6] [] M Q := by
  have hw := hb.wf
  have hcf : cN c 128 1 < 2 := hw.fac
  have hct := hw.ct (cN c 128 1)
  have hct2 : cnt0 c ≤ 12 := hct
  have h16 : tl c ≤ 16 := hw.tl
  have hng := ng_1024 hw
  have hL := hb.lay
  refine E_aload_n dL_law_947 rfl ?_
  refine E_aload_s dL_law_948 rfl ?_
  refine E_iload dL_law_949 rfl ?_
  refine E_iconst (v := nI 1) dL_law_951 (by decide) ?_
  refine E_iadd_n dL_law_952 ?_
  refine E_sld dL_law_953 rfl (by omega) (by omega) ?_
  refine E_aload_s dL_law_954 rfl ?_
  refine E_iload dL_law_955 rfl ?_
  refine E_iconst (v := nI 2) dL_law_957 (by decide) ?_
  refine E_iadd_n dL_law_958 ?_
  refine E_sld dL_law_959 rfl (by omega) (by omega) ?_
  refine E_aload_s dL_law_960 rfl ?_
  refine E_iload dL_law_961 rfl ?_
  refine E_iconst (v := nI 3) dL_law_963 (by decide) ?_
  refine E_iadd_n dL_law_964 ?_
  refine E_sld dL_law_965 rfl (by omega) (by omega) ?_
  refine E_aload_n dL_law_966 rfl ?_
  refine E_room (Nat.le_refl _) (k' := 3 + kk) (n' := 18 + nn) (by omega) (by omega) ?_
  refine E_callS5 (fr' := 9) (k1 := 3) (n1 := 18) (k2 := kk) (n2 := nn) dL_law_967 kO_L_setExtra kL_L_137 rfl rfl rfl rfl rfl (by decide) (by decide) (by exact Nat.le_of_ble_eq_true rfl) (Or.inr (gW_at 1112 (by decide +kernel) (by decide +kernel))) rfl ?_
  refine w_setExtra hst hS (fun i j v z1 z2 z3 z4 z5 z6 M1 P1 π1 hS1 hke hm => ?_) (fun z1 M1 P1 π1 hS1 hke => ?_) (fun z1 z2 M1 P1 π1 hS1 hke => ?_)
  · have hL := hS1.1.lay
    have hb1 := hb.ke hke hL
    refine gKv ?_
    refine E_istore dL_law_970 (Nat.le_of_ble_eq_true rfl) (by decide) rfl ?_
    refine E_aload_n dL_law_972 rfl ?_
    refine E_aload_s dL_law_973 rfl ?_
    refine E_iload dL_law_974 rfl ?_
    refine E_iconst (v := nI 1) dL_law_976 (by decide) ?_
    refine E_iadd_n dL_law_977 ?_
    refine E_sld dL_law_978 rfl (by omega) (by omega) ?_
    refine E_aload_s dL_law_979 rfl ?_
    refine E_iload dL_law_980 rfl ?_
    refine E_iconst (v := nI 2) dL_law_982 (by decide) ?_
    refine E_iadd_n dL_law_983 ?_
    refine E_sld dL_law_984 rfl (by omega) (by omega) ?_
    refine E_aload_s dL_law_985 rfl ?_
    refine E_iload dL_law_986 rfl ?_
    refine E_iconst (v := nI 3) dL_law_988 (by decide) ?_
    refine E_iadd_n dL_law_989 ?_
    refine E_sld dL_law_990 rfl (by omega) (by omega) ?_
    refine E_room (Nat.le_refl _) (k' := 0 + kk) (n' := 0 + nn) (by omega) (by omega) ?_
    refine E_callV3 (fr' := 3) (k1 := 0) (n1 := 0) (k2 := kk) (n2 := nn) dL_law_991 kO_X12_setExtra kL_L_140 (l_128 hL) (k_128 hL) ⟨by decide, rfl⟩ rfl rfl rfl (by decide) (by decide) (by exact Nat.le_of_ble_eq_true rfl) rfl ?_
    refine o_setExtra hb1 (fun y1 M2 hb2 hf2 h0 => ?_) (fun y1 y2 M2 hb2 hf2 h0 => ?_) (fun ii jj vv y1 y2 y3 y4 y5 y6 M2 hb2 hf2 h0 => ?_) 
    · exfalso
      first
        | exact z1 y1
        | exact y1 z1
        | exact z1 ⟨bel_mk (j := ii) (by omega) (by have := y1; have := y2; omega) y3, bel_mk (j := jj) (by omega) y2 y4, by rw [y3, y4]; exact (nI_leI (by have := y1; have := y2; omega) (by have := y2; omega)).mpr y1⟩
        | exact y1 ⟨bel_mk (j := i) (by omega) (by have := z1; have := z2; omega) z3, bel_mk (j := j) (by omega) z2 z4, by rw [z3, z4]; exact (nI_leI (by have := z1; have := z2; omega) (by have := z2; omega)).mpr z1⟩
        | exact z2 (in_mk (by decide) (Nat.zero_le _) y5 y6)
        | exact y2 (in_mk (by decide) (Nat.zero_le _) z5 z6)
    · exfalso
      first
        | exact z1 y1
        | exact y1 z1
        | exact z1 ⟨bel_mk (j := ii) (by omega) (by have := y1; have := y2; omega) y3, bel_mk (j := jj) (by omega) y2 y4, by rw [y3, y4]; exact (nI_leI (by have := y1; have := y2; omega) (by have := y2; omega)).mpr y1⟩
        | exact y1 ⟨bel_mk (j := i) (by omega) (by have := z1; have := z2; omega) z3, bel_mk (j := j) (by omega) z2 z4, by rw [z3, z4]; exact (nI_leI (by have := z1; have := z2; omega) (by have := z2; omega)).mpr z1⟩
        | exact z2 (in_mk (by decide) (Nat.zero_le _) y5 y6)
        | exact y2 (in_mk (by decide) (Nat.zero_le _) z5 z6)
    · obtain rfl : ii = i := nI_ij z3 y3 (by omega) (by omega)
      obtain rfl : jj = j := nI_ij z4 y4 (by omega) (by omega)
      obtain rfl : vv = v := nI_ij z6 y6 (by omega) (by omega)
      have hS2 := fr.S hS1 hf2 refR_8
      have hL := hb2.lay
      have hm2 := fr_L hf2 hm
      refine gKv ?_
      refine E_istore dL_law_994 (Nat.le_of_ble_eq_true rfl) (by decide) rfl ?_
      refine E_aload_n dL_law_996 rfl ?_
      refine E_room (Nat.le_refl _) (k' := 0 + kk) (n' := 0 + nn) (by omega) (by omega) ?_
      refine E_callV0 (fr' := 1) (k1 := 0) (n1 := 0) (k2 := kk) (n2 := nn) dL_law_997 kO_X12_thrown kL_L_100 (l_128 hL) (k_128 hL) ⟨by decide, rfl⟩  (by decide) (by decide) (by exact Nat.le_of_ble_eq_true rfl) rfl ?_
      refine sp_X12_thrown hL h0 ?_
      refine gKv ?_
      refine E_iload dL_law_1000 rfl ?_
      refine E_icmp_eq (tgt := 1007) dL_law_1002 (by decide) (fun _ => ?_) (fun c0 => absurd (by decide) c0)
      refine E_iload dL_law_1007 rfl ?_
      refine E_if_ne (tgt := 1024) dL_law_1009 (by decide) (fun c0 => absurd c0 (by decide)) (fun _ => ?_)
      refine E_aload_n dL_law_1012 rfl ?_
      refine E_iconst (v := nI 0) dL_law_1013 (by decide) ?_
      refine E_lald dL_law_1014 (l_178 hL) (k_178 hL) rfl (by omega) (by decide) ?_
      refine E_iload dL_law_1015 rfl ?_
      refine E_i2l dL_law_1017 ?_
      refine E_lcmp dL_law_1018 ?_
      refine E_if_eq (tgt := 1024) dL_law_1019 (by decide) (fun _ => ?_) (fun c0 => absurd (lcz hm2) c0)
      refine E_goto (tgt := 1687) dL_law_1024 (by decide) ?_
      exact IH _ _ _ _ _ _ hb2 hS2
  · have hL := hS1.1.lay
    have hb1 := hb.ke hke hL
    refine gKv ?_
    refine E_istore dL_law_970 (Nat.le_of_ble_eq_true rfl) (by decide) rfl ?_
    refine E_aload_n dL_law_972 rfl ?_
    refine E_aload_s dL_law_973 rfl ?_
    refine E_iload dL_law_974 rfl ?_
    refine E_iconst (v := nI 1) dL_law_976 (by decide) ?_
    refine E_iadd_n dL_law_977 ?_
    refine E_sld dL_law_978 rfl (by omega) (by omega) ?_
    refine E_aload_s dL_law_979 rfl ?_
    refine E_iload dL_law_980 rfl ?_
    refine E_iconst (v := nI 2) dL_law_982 (by decide) ?_
    refine E_iadd_n dL_law_983 ?_
    refine E_sld dL_law_984 rfl (by omega) (by omega) ?_
    refine E_aload_s dL_law_985 rfl ?_
    refine E_iload dL_law_986 rfl ?_
    refine E_iconst (v := nI 3) dL_law_988 (by decide) ?_
    refine E_iadd_n dL_law_989 ?_
    refine E_sld dL_law_990 rfl (by omega) (by omega) ?_
    refine E_room (Nat.le_refl _) (k' := 0 + kk) (n' := 0 + nn) (by omega) (by omega) ?_
    refine E_callV3 (fr' := 3) (k1 := 0) (n1 := 0) (k2 := kk) (n2 := nn) dL_law_991 kO_X12_setExtra kL_L_140 (l_128 hL) (k_128 hL) ⟨by decide, rfl⟩ rfl rfl rfl (by decide) (by decide) (by exact Nat.le_of_ble_eq_true rfl) rfl ?_
    refine o_setExtra hb1 (fun y1 M2 hb2 hf2 h0 => ?_) (fun y1 y2 M2 hb2 hf2 h0 => ?_) (fun ii jj vv y1 y2 y3 y4 y5 y6 M2 hb2 hf2 h0 => ?_) 
    · have hS2 := fr.S hS1 hf2 refR_8
      have hL := hb2.lay
      refine gKv ?_
      refine E_istore dL_law_994 (Nat.le_of_ble_eq_true rfl) (by decide) rfl ?_
      refine E_aload_n dL_law_996 rfl ?_
      refine E_room (Nat.le_refl _) (k' := 0 + kk) (n' := 0 + nn) (by omega) (by omega) ?_
      refine E_callV0 (fr' := 1) (k1 := 0) (n1 := 0) (k2 := kk) (n2 := nn) dL_law_997 kO_X12_thrown kL_L_100 (l_128 hL) (k_128 hL) ⟨by decide, rfl⟩  (by decide) (by decide) (by exact Nat.le_of_ble_eq_true rfl) rfl ?_
      refine sp_X12_thrown hL h0 ?_
      refine gKv ?_
      refine E_iload dL_law_1000 rfl ?_
      refine E_icmp_eq (tgt := 1007) dL_law_1002 (by decide) (fun _ => ?_) (fun c0 => absurd (by decide) c0)
      refine E_iload dL_law_1007 rfl ?_
      refine E_if_ne (tgt := 1024) dL_law_1009 (by decide) (fun _ => ?_) (fun c0 => absurd (by decide) c0)
      refine E_goto (tgt := 1687) dL_law_1024 (by decide) ?_
      exact IH _ _ _ _ _ _ hb2 hS2
    · exfalso
      first
        | exact z1 y1
        | exact y1 z1
        | exact z1 ⟨bel_mk (j := ii) (by omega) (by have := y1; have := y2; omega) y3, bel_mk (j := jj) (by omega) y2 y4, by rw [y3, y4]; exact (nI_leI (by have := y1; have := y2; omega) (by have := y2; omega)).mpr y1⟩
        | exact y1 ⟨bel_mk (j := i) (by omega) (by have := z1; have := z2; omega) z3, bel_mk (j := j) (by omega) z2 z4, by rw [z3, z4]; exact (nI_leI (by have := z1; have := z2; omega) (by have := z2; omega)).mpr z1⟩
        | exact z2 (in_mk (by decide) (Nat.zero_le _) y5 y6)
        | exact y2 (in_mk (by decide) (Nat.zero_le _) z5 z6)
    · exfalso
      first
        | exact z1 y1
        | exact y1 z1
        | exact z1 ⟨bel_mk (j := ii) (by omega) (by have := y1; have := y2; omega) y3, bel_mk (j := jj) (by omega) y2 y4, by rw [y3, y4]; exact (nI_leI (by have := y1; have := y2; omega) (by have := y2; omega)).mpr y1⟩
        | exact y1 ⟨bel_mk (j := i) (by omega) (by have := z1; have := z2; omega) z3, bel_mk (j := j) (by omega) z2 z4, by rw [z3, z4]; exact (nI_leI (by have := z1; have := z2; omega) (by have := z2; omega)).mpr z1⟩
        | exact z2 (in_mk (by decide) (Nat.zero_le _) y5 y6)
        | exact y2 (in_mk (by decide) (Nat.zero_le _) z5 z6)
  · have hL := hS1.1.lay
    have hb1 := hb.ke hke hL
    refine gKv ?_
    refine E_istore dL_law_970 (Nat.le_of_ble_eq_true rfl) (by decide) rfl ?_
    refine E_aload_n dL_law_972 rfl ?_
    refine E_aload_s dL_law_973 rfl ?_
    refine E_iload dL_law_974 rfl ?_
    refine E_iconst (v := nI 1) dL_law_976 (by decide) ?_
    refine E_iadd_n dL_law_977 ?_
    refine E_sld dL_law_978 rfl (by omega) (by omega) ?_
    refine E_aload_s dL_law_979 rfl ?_
    refine E_iload dL_law_980 rfl ?_
    refine E_iconst (v := nI 2) dL_law_982 (by decide) ?_
    refine E_iadd_n dL_law_983 ?_
    refine E_sld dL_law_984 rfl (by omega) (by omega) ?_
    refine E_aload_s dL_law_985 rfl ?_
    refine E_iload dL_law_986 rfl ?_
    refine E_iconst (v := nI 3) dL_law_988 (by decide) ?_
    refine E_iadd_n dL_law_989 ?_
    refine E_sld dL_law_990 rfl (by omega) (by omega) ?_
    refine E_room (Nat.le_refl _) (k' := 0 + kk) (n' := 0 + nn) (by omega) (by omega) ?_
    refine E_callV3 (fr' := 3) (k1 := 0) (n1 := 0) (k2 := kk) (n2 := nn) dL_law_991 kO_X12_setExtra kL_L_140 (l_128 hL) (k_128 hL) ⟨by decide, rfl⟩ rfl rfl rfl (by decide) (by decide) (by exact Nat.le_of_ble_eq_true rfl) rfl ?_
    refine o_setExtra hb1 (fun y1 M2 hb2 hf2 h0 => ?_) (fun y1 y2 M2 hb2 hf2 h0 => ?_) (fun ii jj vv y1 y2 y3 y4 y5 y6 M2 hb2 hf2 h0 => ?_) 
    · exfalso
      first
        | exact z1 y1
        | exact y1 z1
        | exact z1 ⟨bel_mk (j := ii) (by omega) (by have := y1; have := y2; omega) y3, bel_mk (j := jj) (by omega) y2 y4, by rw [y3, y4]; exact (nI_leI (by have := y1; have := y2; omega) (by have := y2; omega)).mpr y1⟩
        | exact y1 ⟨bel_mk (j := i) (by omega) (by have := z1; have := z2; omega) z3, bel_mk (j := j) (by omega) z2 z4, by rw [z3, z4]; exact (nI_leI (by have := z1; have := z2; omega) (by have := z2; omega)).mpr z1⟩
        | exact z2 (in_mk (by decide) (Nat.zero_le _) y5 y6)
        | exact y2 (in_mk (by decide) (Nat.zero_le _) z5 z6)
    · have hS2 := fr.S hS1 hf2 refR_8
      have hL := hb2.lay
      refine gKv ?_
      refine E_istore dL_law_994 (Nat.le_of_ble_eq_true rfl) (by decide) rfl ?_
      refine E_aload_n dL_law_996 rfl ?_
      refine E_room (Nat.le_refl _) (k' := 0 + kk) (n' := 0 + nn) (by omega) (by omega) ?_
      refine E_callV0 (fr' := 1) (k1 := 0) (n1 := 0) (k2 := kk) (n2 := nn) dL_law_997 kO_X12_thrown kL_L_100 (l_128 hL) (k_128 hL) ⟨by decide, rfl⟩  (by decide) (by decide) (by exact Nat.le_of_ble_eq_true rfl) rfl ?_
      refine sp_X12_thrown hL h0 ?_
      refine gKv ?_
      refine E_iload dL_law_1000 rfl ?_
      refine E_icmp_eq (tgt := 1007) dL_law_1002 (by decide) (fun _ => ?_) (fun c0 => absurd (by decide) c0)
      refine E_iload dL_law_1007 rfl ?_
      refine E_if_ne (tgt := 1024) dL_law_1009 (by decide) (fun _ => ?_) (fun c0 => absurd (by decide) c0)
      refine E_goto (tgt := 1687) dL_law_1024 (by decide) ?_
      exact IH _ _ _ _ _ _ hb2 hS2
    · exfalso
      first
        | exact z1 y1
        | exact y1 z1
        | exact z1 ⟨bel_mk (j := ii) (by omega) (by have := y1; have := y2; omega) y3, bel_mk (j := jj) (by omega) y2 y4, by rw [y3, y4]; exact (nI_leI (by have := y1; have := y2; omega) (by have := y2; omega)).mpr y1⟩
        | exact y1 ⟨bel_mk (j := i) (by omega) (by have := z1; have := z2; omega) z3, bel_mk (j := j) (by omega) z2 z4, by rw [z3, z4]; exact (nI_leI (by have := z1; have := z2; omega) (by have := z2; omega)).mpr z1⟩
        | exact z2 (in_mk (by decide) (Nat.zero_le _) y5 y6)
        | exact y2 (in_mk (by decide) (Nat.zero_le _) z5 z6)
set_option maxRecDepth 100000 in
set_option maxHeartbeats 4000000 in
theorem case_glyphs {g : gG} {Q : Option Value ⊕ String → gM → Prop} (hst : (gl1 g).stackTraces = false) {z : UInt32} {i kk nn : Nat} (hi : i + 8 ≤ gsL g) (h4 : gsL g ≤ 4096) {c : Cf} {P π : Nat → Nat} {M : gM} (hb : bS c M) (hS : kS c P π M) (IH : ∀ c' P' π' M' v5 v6, bS c' M' → kS c' P' π' M' → E g 18 kk nn mL_law 1687 [.float z, .ref 1, .ref 129, .ref 179, .int (nI i), v5, v6] [] M' Q) {v5 v6 : Value} : E g 18 (kk + 12) (nn + 330) mL_law 1027 [.float z, .ref 1, .ref 129, .ref 179, .int (nI i), v5, v6] [] M Q := by
  have hw := hb.wf
  have hcf : cN c 128 1 < 2 := hw.fac
  have hct := hw.ct (cN c 128 1)
  have hct2 : cnt0 c ≤ 12 := hct
  have h16 : tl c ≤ 16 := hw.tl
  have hng := ng_1024 hw
  have hL := hb.lay
  refine E_aload_n dL_law_1027 rfl ?_
  refine E_room (Nat.le_refl _) (k' := 1 + kk) (n' := 6 + nn) (by omega) (by omega) ?_
  refine E_callV0 (fr' := 8) (k1 := 1) (n1 := 6) (k2 := kk) (n2 := nn) dL_law_1028 kO_X11_glyphs kL_L_141 (l_0 hL) (k_0 hL) ⟨by decide, rfl⟩  (by decide) (by decide) (by exact Nat.le_of_ble_eq_true rfl) rfl ?_
  refine sp_X11_glyphs hst hS (fun M1 π1 hS1 hkd => ?_)
  have hL := hS1.1.lay
  have hb1 := hb.ke hkd.e hL
  refine gKv ?_
  refine E_aload_n dL_law_1031 rfl ?_
  refine E_room (Nat.le_refl _) (k' := 0 + kk) (n' := 0 + nn) (by omega) (by omega) ?_
  refine E_callV0 (fr' := 16) (k1 := 0) (n1 := 0) (k2 := kk) (n2 := nn) dL_law_1032 kO_X12_glyphs kL_L_144 (l_128 hL) (k_128 hL) ⟨by decide, rfl⟩  (by decide) (by decide) (by exact Nat.le_of_ble_eq_true rfl) rfl ?_
  refine sp_X12_glyphs hb1 (fun M2 hf2 h0 => ?_)
  have hb2 := qbS hb1 hf2
  have hS2 := fr.S hS1 hf2 qR_8
  refine gKv ?_
  refine E_icmp_eq (tgt := 1687) dL_law_1035 (by decide) (fun _ => ?_) (fun c0 => absurd rfl c0)
  exact IH _ _ _ _ _ _ hb2 hS2
set_option maxRecDepth 100000 in
set_option maxHeartbeats 4000000 in
theorem case_glyph {g : gG} {Q : Option Value ⊕ String → gM → Prop} (hst : (gl1 g).stackTraces = false) {z : UInt32} {i kk nn : Nat} (hi : i + 8 ≤ gsL g) (h4 : gsL g ≤ 4096) {c : Cf} {P π : Nat → Nat} {M : gM} (hb : bS c M) (hS : kS c P π M) (IH : ∀ c' P' π' M' v5 v6, bS c' M' → kS c' P' π' M' → E g 18 kk nn mL_law 1687 [.float z, .ref 1, .ref 129, .ref 179, .int (nI i), v5, v6] [] M' Q) {v5 v6 : Value} : E g 18 (kk + 12) (nn + 330) mL_law 1040 [.float z, .ref 1, .ref 129, .ref 179, .int (nI i), v5, v6] [] M Q := by
  have hw := hb.wf
  have hcf : cN c 128 1 < 2 := hw.fac
  have hct := hw.ct (cN c 128 1)
  have hct2 : cnt0 c ≤ 12 := hct
  have h16 : tl c ≤ 16 := hw.tl
  have hng := ng_1024 hw
  have hL := hb.lay
  refine E_aload_n dL_law_1040 rfl ?_
  refine E_aload_s dL_law_1041 rfl ?_
  refine E_iload dL_law_1042 rfl ?_
  refine E_iconst (v := nI 1) dL_law_1044 (by decide) ?_
  refine E_iadd_n dL_law_1045 ?_
  refine E_sld dL_law_1046 rfl (by omega) (by omega) ?_
  refine E_aload_n dL_law_1047 rfl ?_
  refine E_room (Nat.le_refl _) (k' := 1 + kk) (n' := 6 + nn) (by omega) (by omega) ?_
  refine E_callS3 (fr' := 9) (k1 := 1) (n1 := 6) (k2 := kk) (n2 := nn) dL_law_1048 kO_L_glyph kL_L_145 rfl rfl rfl (by decide) (by decide) (by exact Nat.le_of_ble_eq_true rfl) (Or.inr (gW_at 1126 (by decide +kernel) (by decide +kernel))) rfl ?_
  refine w_glyph hst hS (fun j z1 z2 M1 P1 π1 hS1 hke hm => ?_) (fun z1 M1 P1 π1 hS1 hke => ?_)
  · have hL := hS1.1.lay
    have hb1 := hb.ke hke hL
    refine gKv ?_
    refine E_istore dL_law_1051 (Nat.le_of_ble_eq_true rfl) (by decide) rfl ?_
    refine E_aload_n dL_law_1053 rfl ?_
    refine E_aload_s dL_law_1054 rfl ?_
    refine E_iload dL_law_1055 rfl ?_
    refine E_iconst (v := nI 1) dL_law_1057 (by decide) ?_
    refine E_iadd_n dL_law_1058 ?_
    refine E_sld dL_law_1059 rfl (by omega) (by omega) ?_
    refine E_room (Nat.le_refl _) (k' := 0 + kk) (n' := 0 + nn) (by omega) (by omega) ?_
    refine E_callV1 (fr' := 17) (k1 := 0) (n1 := 0) (k2 := kk) (n2 := nn) dL_law_1060 kO_X12_glyph kL_L_147 (l_128 hL) (k_128 hL) ⟨by decide, rfl⟩ rfl (by decide) (by decide) (by exact Nat.le_of_ble_eq_true rfl) rfl ?_
    refine sp_X12_glyph hb1 (fun jj y1 y2 M2 hf2 h0 => ?_) (fun y1 M2 hf2 h0 => ?_) 
    · obtain rfl : jj = j := nI_ij z2 y2 (by omega) (by omega)
      have hb2 := qbS hb1 hf2
      have hS2 := fr.S hS1 hf2 qR_8
      have hL := hb2.lay
      have hm2 := fr_L hf2 hm
      refine gKv ?_
      refine E_istore dL_law_1063 (Nat.le_of_ble_eq_true rfl) (by decide) rfl ?_
      refine E_aload_n dL_law_1065 rfl ?_
      refine E_room (Nat.le_refl _) (k' := 0 + kk) (n' := 0 + nn) (by omega) (by omega) ?_
      refine E_callV0 (fr' := 1) (k1 := 0) (n1 := 0) (k2 := kk) (n2 := nn) dL_law_1066 kO_X12_thrown kL_L_100 (l_128 hL) (k_128 hL) ⟨by decide, rfl⟩  (by decide) (by decide) (by exact Nat.le_of_ble_eq_true rfl) rfl ?_
      refine sp_X12_thrown hL h0 ?_
      refine gKv ?_
      refine E_iload dL_law_1069 rfl ?_
      refine E_icmp_eq (tgt := 1076) dL_law_1071 (by decide) (fun _ => ?_) (fun c0 => absurd (by decide) c0)
      refine E_iload dL_law_1076 rfl ?_
      refine E_if_ne (tgt := 1093) dL_law_1078 (by decide) (fun c0 => absurd c0 (by decide)) (fun _ => ?_)
      refine E_aload_n dL_law_1081 rfl ?_
      refine E_iconst (v := nI 0) dL_law_1082 (by decide) ?_
      refine E_lald dL_law_1083 (l_178 hL) (k_178 hL) rfl (by omega) (by decide) ?_
      refine E_iload dL_law_1084 rfl ?_
      refine E_i2l dL_law_1086 ?_
      refine E_lcmp dL_law_1087 ?_
      refine E_if_eq (tgt := 1093) dL_law_1088 (by decide) (fun _ => ?_) (fun c0 => absurd (lcz hm2) c0)
      refine E_goto (tgt := 1687) dL_law_1093 (by decide) ?_
      exact IH _ _ _ _ _ _ hb2 hS2
    · exfalso
      first
        | exact z1 y1
        | exact y1 z1
        | exact z2 y2
        | exact y2 z2
        | exact z3 y3
        | exact y3 z3
        | omega
        | exact z1 (bel_mk (by omega) y1 y2)
        | exact y1 (bel_mk (by omega) z1 z2)
        | exact z1 (gl_mk y1 y2)
        | exact y1 (gl_mk z1 z2)
        | exact z2 y3
        | exact y2 z3
        | exact z1 y3
        | exact y1 z3
        | exact z1 ⟨gl_mk y1 y2, y3⟩
        | exact y1 ⟨gl_mk z1 z2, z3⟩
        | exact z1 (in_mk (by omega) (Nat.zero_le _) y1 y2)
        | exact y1 (in_mk (by omega) (Nat.zero_le _) z1 z2)
        | exact z1 ((iIn1 (by omega)).mpr ⟨jj, y1, y2, y3⟩)
        | exact y1 ((iIn1 (by omega)).mpr ⟨j, z1, z2, z3⟩)
  · have hL := hS1.1.lay
    have hb1 := hb.ke hke hL
    refine gKv ?_
    refine E_istore dL_law_1051 (Nat.le_of_ble_eq_true rfl) (by decide) rfl ?_
    refine E_aload_n dL_law_1053 rfl ?_
    refine E_aload_s dL_law_1054 rfl ?_
    refine E_iload dL_law_1055 rfl ?_
    refine E_iconst (v := nI 1) dL_law_1057 (by decide) ?_
    refine E_iadd_n dL_law_1058 ?_
    refine E_sld dL_law_1059 rfl (by omega) (by omega) ?_
    refine E_room (Nat.le_refl _) (k' := 0 + kk) (n' := 0 + nn) (by omega) (by omega) ?_
    refine E_callV1 (fr' := 17) (k1 := 0) (n1 := 0) (k2 := kk) (n2 := nn) dL_law_1060 kO_X12_glyph kL_L_147 (l_128 hL) (k_128 hL) ⟨by decide, rfl⟩ rfl (by decide) (by decide) (by exact Nat.le_of_ble_eq_true rfl) rfl ?_
    refine sp_X12_glyph hb1 (fun jj y1 y2 M2 hf2 h0 => ?_) (fun y1 M2 hf2 h0 => ?_) 
    · exfalso
      first
        | exact z1 y1
        | exact y1 z1
        | exact z2 y2
        | exact y2 z2
        | exact z3 y3
        | exact y3 z3
        | omega
        | exact z1 (bel_mk (by omega) y1 y2)
        | exact y1 (bel_mk (by omega) z1 z2)
        | exact z1 (gl_mk y1 y2)
        | exact y1 (gl_mk z1 z2)
        | exact z2 y3
        | exact y2 z3
        | exact z1 y3
        | exact y1 z3
        | exact z1 ⟨gl_mk y1 y2, y3⟩
        | exact y1 ⟨gl_mk z1 z2, z3⟩
        | exact z1 (in_mk (by omega) (Nat.zero_le _) y1 y2)
        | exact y1 (in_mk (by omega) (Nat.zero_le _) z1 z2)
        | exact z1 ((iIn1 (by omega)).mpr ⟨jj, y1, y2, y3⟩)
        | exact y1 ((iIn1 (by omega)).mpr ⟨j, z1, z2, z3⟩)
    · have hb2 := qbS hb1 hf2
      have hS2 := fr.S hS1 hf2 qR_8
      have hL := hb2.lay
      refine gKv ?_
      refine E_istore dL_law_1063 (Nat.le_of_ble_eq_true rfl) (by decide) rfl ?_
      refine E_aload_n dL_law_1065 rfl ?_
      refine E_room (Nat.le_refl _) (k' := 0 + kk) (n' := 0 + nn) (by omega) (by omega) ?_
      refine E_callV0 (fr' := 1) (k1 := 0) (n1 := 0) (k2 := kk) (n2 := nn) dL_law_1066 kO_X12_thrown kL_L_100 (l_128 hL) (k_128 hL) ⟨by decide, rfl⟩  (by decide) (by decide) (by exact Nat.le_of_ble_eq_true rfl) rfl ?_
      refine sp_X12_thrown hL h0 ?_
      refine gKv ?_
      refine E_iload dL_law_1069 rfl ?_
      refine E_icmp_eq (tgt := 1076) dL_law_1071 (by decide) (fun _ => ?_) (fun c0 => absurd (by decide) c0)
      refine E_iload dL_law_1076 rfl ?_
      refine E_if_ne (tgt := 1093) dL_law_1078 (by decide) (fun _ => ?_) (fun c0 => absurd (by decide) c0)
      refine E_goto (tgt := 1687) dL_law_1093 (by decide) ?_
      exact IH _ _ _ _ _ _ hb2 hS2
set_option maxRecDepth 100000 in
set_option maxHeartbeats 4000000 in
theorem case_glyphAnew {g : gG} {Q : Option Value ⊕ String → gM → Prop} (hst : (gl1 g).stackTraces = false) {z : UInt32} {i kk nn : Nat} (hi : i + 8 ≤ gsL g) (h4 : gsL g ≤ 4096) {c : Cf} {P π : Nat → Nat} {M : gM} (hb : bS c M) (hS : kS c P π M) (IH : ∀ c' P' π' M' v5 v6, bS c' M' → kS c' P' π' M' → E g 18 kk nn mL_law 1687 [.float z, .ref 1, .ref 129, .ref 179, .int (nI i), v5, v6] [] M' Q) {v5 v6 : Value} : E g 18 (kk + 12) (nn + 330) mL_law 1096 [.float z, .ref 1, .ref 129, .ref 179, .int (nI i), v5, v6] [] M Q := by
  have hw := hb.wf
  have hcf : cN c 128 1 < 2 := hw.fac
  have hct := hw.ct (cN c 128 1)
  have hct2 : cnt0 c ≤ 12 := hct
  have h16 : tl c ≤ 16 := hw.tl
  have hng := ng_1024 hw
  have hL := hb.lay
  refine E_aload_n dL_law_1096 rfl ?_
  refine E_aload_s dL_law_1097 rfl ?_
  refine E_iload dL_law_1098 rfl ?_
  refine E_iconst (v := nI 1) dL_law_1100 (by decide) ?_
  refine E_iadd_n dL_law_1101 ?_
  refine E_sld dL_law_1102 rfl (by omega) (by omega) ?_
  refine E_aload_n dL_law_1103 rfl ?_
  refine E_room (Nat.le_refl _) (k' := 1 + kk) (n' := 6 + nn) (by omega) (by omega) ?_
  refine E_callS3 (fr' := 9) (k1 := 1) (n1 := 6) (k2 := kk) (n2 := nn) dL_law_1104 kO_L_glyphAnew kL_L_148 rfl rfl rfl (by decide) (by decide) (by exact Nat.le_of_ble_eq_true rfl) (Or.inr (gW_at 1136 (by decide +kernel) (by decide +kernel))) rfl ?_
  refine w_glyphAnew hst hS (fun j z1 z2 M1 P1 π1 hS1 hke hm => ?_) (fun z1 M1 P1 π1 hS1 hke => ?_)
  · have hL := hS1.1.lay
    have hb1 := hb.ke hke hL
    refine gKv ?_
    refine E_istore dL_law_1107 (Nat.le_of_ble_eq_true rfl) (by decide) rfl ?_
    refine E_aload_n dL_law_1109 rfl ?_
    refine E_aload_s dL_law_1110 rfl ?_
    refine E_iload dL_law_1111 rfl ?_
    refine E_iconst (v := nI 1) dL_law_1113 (by decide) ?_
    refine E_iadd_n dL_law_1114 ?_
    refine E_sld dL_law_1115 rfl (by omega) (by omega) ?_
    refine E_room (Nat.le_refl _) (k' := 0 + kk) (n' := 0 + nn) (by omega) (by omega) ?_
    refine E_callV1 (fr' := 17) (k1 := 0) (n1 := 0) (k2 := kk) (n2 := nn) dL_law_1116 kO_X12_glyphAnew kL_L_150 (l_128 hL) (k_128 hL) ⟨by decide, rfl⟩ rfl (by decide) (by decide) (by exact Nat.le_of_ble_eq_true rfl) rfl ?_
    refine sp_X12_glyphAnew hb1 (fun jj y1 y2 M2 hf2 h0 => ?_) (fun y1 M2 hf2 h0 => ?_) 
    · obtain rfl : jj = j := nI_ij z2 y2 (by omega) (by omega)
      have hb2 := qbS hb1 hf2
      have hS2 := fr.S hS1 hf2 qR_8
      have hL := hb2.lay
      have hm2 := fr_L hf2 hm
      refine gKv ?_
      refine E_istore dL_law_1119 (Nat.le_of_ble_eq_true rfl) (by decide) rfl ?_
      refine E_aload_n dL_law_1121 rfl ?_
      refine E_room (Nat.le_refl _) (k' := 0 + kk) (n' := 0 + nn) (by omega) (by omega) ?_
      refine E_callV0 (fr' := 1) (k1 := 0) (n1 := 0) (k2 := kk) (n2 := nn) dL_law_1122 kO_X12_thrown kL_L_100 (l_128 hL) (k_128 hL) ⟨by decide, rfl⟩  (by decide) (by decide) (by exact Nat.le_of_ble_eq_true rfl) rfl ?_
      refine sp_X12_thrown hL h0 ?_
      refine gKv ?_
      refine E_iload dL_law_1125 rfl ?_
      refine E_icmp_eq (tgt := 1132) dL_law_1127 (by decide) (fun _ => ?_) (fun c0 => absurd (by decide) c0)
      refine E_iload dL_law_1132 rfl ?_
      refine E_if_ne (tgt := 1149) dL_law_1134 (by decide) (fun c0 => absurd c0 (by decide)) (fun _ => ?_)
      refine E_aload_n dL_law_1137 rfl ?_
      refine E_iconst (v := nI 0) dL_law_1138 (by decide) ?_
      refine E_lald dL_law_1139 (l_178 hL) (k_178 hL) rfl (by omega) (by decide) ?_
      refine E_iload dL_law_1140 rfl ?_
      refine E_i2l dL_law_1142 ?_
      refine E_lcmp dL_law_1143 ?_
      refine E_if_eq (tgt := 1149) dL_law_1144 (by decide) (fun _ => ?_) (fun c0 => absurd (lcz hm2) c0)
      refine E_goto (tgt := 1687) dL_law_1149 (by decide) ?_
      exact IH _ _ _ _ _ _ hb2 hS2
    · exfalso
      first
        | exact z1 y1
        | exact y1 z1
        | exact z2 y2
        | exact y2 z2
        | exact z3 y3
        | exact y3 z3
        | omega
        | exact z1 (bel_mk (by omega) y1 y2)
        | exact y1 (bel_mk (by omega) z1 z2)
        | exact z1 (gl_mk y1 y2)
        | exact y1 (gl_mk z1 z2)
        | exact z2 y3
        | exact y2 z3
        | exact z1 y3
        | exact y1 z3
        | exact z1 ⟨gl_mk y1 y2, y3⟩
        | exact y1 ⟨gl_mk z1 z2, z3⟩
        | exact z1 (in_mk (by omega) (Nat.zero_le _) y1 y2)
        | exact y1 (in_mk (by omega) (Nat.zero_le _) z1 z2)
        | exact z1 ((iIn1 (by omega)).mpr ⟨jj, y1, y2, y3⟩)
        | exact y1 ((iIn1 (by omega)).mpr ⟨j, z1, z2, z3⟩)
  · have hL := hS1.1.lay
    have hb1 := hb.ke hke hL
    refine gKv ?_
    refine E_istore dL_law_1107 (Nat.le_of_ble_eq_true rfl) (by decide) rfl ?_
    refine E_aload_n dL_law_1109 rfl ?_
    refine E_aload_s dL_law_1110 rfl ?_
    refine E_iload dL_law_1111 rfl ?_
    refine E_iconst (v := nI 1) dL_law_1113 (by decide) ?_
    refine E_iadd_n dL_law_1114 ?_
    refine E_sld dL_law_1115 rfl (by omega) (by omega) ?_
    refine E_room (Nat.le_refl _) (k' := 0 + kk) (n' := 0 + nn) (by omega) (by omega) ?_
    refine E_callV1 (fr' := 17) (k1 := 0) (n1 := 0) (k2 := kk) (n2 := nn) dL_law_1116 kO_X12_glyphAnew kL_L_150 (l_128 hL) (k_128 hL) ⟨by decide, rfl⟩ rfl (by decide) (by decide) (by exact Nat.le_of_ble_eq_true rfl) rfl ?_
    refine sp_X12_glyphAnew hb1 (fun jj y1 y2 M2 hf2 h0 => ?_) (fun y1 M2 hf2 h0 => ?_) 
    · exfalso
      first
        | exact z1 y1
        | exact y1 z1
        | exact z2 y2
        | exact y2 z2
        | exact z3 y3
        | exact y3 z3
        | omega
        | exact z1 (bel_mk (by omega) y1 y2)
        | exact y1 (bel_mk (by omega) z1 z2)
        | exact z1 (gl_mk y1 y2)
        | exact y1 (gl_mk z1 z2)
        | exact z2 y3
        | exact y2 z3
        | exact z1 y3
        | exact y1 z3
        | exact z1 ⟨gl_mk y1 y2, y3⟩
        | exact y1 ⟨gl_mk z1 z2, z3⟩
        | exact z1 (in_mk (by omega) (Nat.zero_le _) y1 y2)
        | exact y1 (in_mk (by omega) (Nat.zero_le _) z1 z2)
        | exact z1 ((iIn1 (by omega)).mpr ⟨jj, y1, y2, y3⟩)
        | exact y1 ((iIn1 (by omega)).mpr ⟨j, z1, z2, z3⟩)
    · have hb2 := qbS hb1 hf2
      have hS2 := fr.S hS1 hf2 qR_8
      have hL := hb2.lay
      refine gKv ?_
      refine E_istore dL_law_1119 (Nat.le_of_ble_eq_true rfl) (by decide) rfl ?_
      refine E_aload_n dL_law_1121 rfl ?_
      refine E_room (Nat.le_refl _) (k' := 0 + kk) (n' := 0 + nn) (by omega) (by omega) ?_
      refine E_callV0 (fr' := 1) (k1 := 0) (n1 := 0) (k2 := kk) (n2 := nn) dL_law_1122 kO_X12_thrown kL_L_100 (l_128 hL) (k_128 hL) ⟨by decide, rfl⟩  (by decide) (by decide) (by exact Nat.le_of_ble_eq_true rfl) rfl ?_
      refine sp_X12_thrown hL h0 ?_
      refine gKv ?_
      refine E_iload dL_law_1125 rfl ?_
      refine E_icmp_eq (tgt := 1132) dL_law_1127 (by decide) (fun _ => ?_) (fun c0 => absurd (by decide) c0)
      refine E_iload dL_law_1132 rfl ?_
      refine E_if_ne (tgt := 1149) dL_law_1134 (by decide) (fun _ => ?_) (fun c0 => absurd (by decide) c0)
      refine E_goto (tgt := 1687) dL_law_1149 (by decide) ?_
      exact IH _ _ _ _ _ _ hb2 hS2
set_option maxRecDepth 100000 in
set_option maxHeartbeats 4000000 in
theorem case_cluster {g : gG} {Q : Option Value ⊕ String → gM → Prop} (hst : (gl1 g).stackTraces = false) {z : UInt32} {i kk nn : Nat} (hi : i + 8 ≤ gsL g) (h4 : gsL g ≤ 4096) {c : Cf} {P π : Nat → Nat} {M : gM} (hb : bS c M) (hS : kS c P π M) (IH : ∀ c' P' π' M' v5 v6, bS c' M' → kS c' P' π' M' → E g 18 kk nn mL_law 1687 [.float z, .ref 1, .ref 129, .ref 179, .int (nI i), v5, v6] [] M' Q) {v5 v6 : Value} : E g 18 (kk + 12) (nn + 330) mL_law 1152 [.float z, .ref 1, .ref 129, .ref 179, .int (nI i), v5, v6] [] M Q := by
  have hw := hb.wf
  have hcf : cN c 128 1 < 2 := hw.fac
  have hct := hw.ct (cN c 128 1)
  have hct2 : cnt0 c ≤ 12 := hct
  have h16 : tl c ≤ 16 := hw.tl
  have hng := ng_1024 hw
  have hL := hb.lay
  refine E_aload_n dL_law_1152 rfl ?_
  refine E_aload_s dL_law_1153 rfl ?_
  refine E_iload dL_law_1154 rfl ?_
  refine E_iconst (v := nI 1) dL_law_1156 (by decide) ?_
  refine E_iadd_n dL_law_1157 ?_
  refine E_sld dL_law_1158 rfl (by omega) (by omega) ?_
  refine E_aload_n dL_law_1159 rfl ?_
  refine E_room (Nat.le_refl _) (k' := 1 + kk) (n' := 6 + nn) (by omega) (by omega) ?_
  refine E_callS3 (fr' := 9) (k1 := 1) (n1 := 6) (k2 := kk) (n2 := nn) dL_law_1160 kO_L_cluster kL_L_151 rfl rfl rfl (by decide) (by decide) (by exact Nat.le_of_ble_eq_true rfl) (Or.inr (gW_at 1143 (by decide +kernel) (by decide +kernel))) rfl ?_
  refine w_cluster hst hS (fun j z1 z2 M1 P1 π1 hS1 hke hm => ?_) (fun z1 M1 P1 π1 hS1 hke => ?_)
  · have hL := hS1.1.lay
    have hb1 := hb.ke hke hL
    refine gKv ?_
    refine E_istore dL_law_1163 (Nat.le_of_ble_eq_true rfl) (by decide) rfl ?_
    refine E_aload_n dL_law_1165 rfl ?_
    refine E_aload_s dL_law_1166 rfl ?_
    refine E_iload dL_law_1167 rfl ?_
    refine E_iconst (v := nI 1) dL_law_1169 (by decide) ?_
    refine E_iadd_n dL_law_1170 ?_
    refine E_sld dL_law_1171 rfl (by omega) (by omega) ?_
    refine E_room (Nat.le_refl _) (k' := 0 + kk) (n' := 0 + nn) (by omega) (by omega) ?_
    refine E_callV1 (fr' := 17) (k1 := 0) (n1 := 0) (k2 := kk) (n2 := nn) dL_law_1172 kO_X12_cluster kL_L_153 (l_128 hL) (k_128 hL) ⟨by decide, rfl⟩ rfl (by decide) (by decide) (by exact Nat.le_of_ble_eq_true rfl) rfl ?_
    refine sp_X12_cluster hb1 (fun jj y1 y2 M2 hf2 h0 => ?_) (fun y1 M2 hf2 h0 => ?_) 
    · obtain rfl : jj = j := nI_ij z2 y2 (by omega) (by omega)
      have hb2 := qbS hb1 hf2
      have hS2 := fr.S hS1 hf2 qR_8
      have hL := hb2.lay
      have hm2 := fr_L hf2 hm
      refine gKv ?_
      refine E_istore dL_law_1175 (Nat.le_of_ble_eq_true rfl) (by decide) rfl ?_
      refine E_aload_n dL_law_1177 rfl ?_
      refine E_room (Nat.le_refl _) (k' := 0 + kk) (n' := 0 + nn) (by omega) (by omega) ?_
      refine E_callV0 (fr' := 1) (k1 := 0) (n1 := 0) (k2 := kk) (n2 := nn) dL_law_1178 kO_X12_thrown kL_L_100 (l_128 hL) (k_128 hL) ⟨by decide, rfl⟩  (by decide) (by decide) (by exact Nat.le_of_ble_eq_true rfl) rfl ?_
      refine sp_X12_thrown hL h0 ?_
      refine gKv ?_
      refine E_iload dL_law_1181 rfl ?_
      refine E_icmp_eq (tgt := 1188) dL_law_1183 (by decide) (fun _ => ?_) (fun c0 => absurd (by decide) c0)
      refine E_iload dL_law_1188 rfl ?_
      refine E_if_ne (tgt := 1205) dL_law_1190 (by decide) (fun c0 => absurd c0 (by decide)) (fun _ => ?_)
      refine E_aload_n dL_law_1193 rfl ?_
      refine E_iconst (v := nI 0) dL_law_1194 (by decide) ?_
      refine E_lald dL_law_1195 (l_178 hL) (k_178 hL) rfl (by omega) (by decide) ?_
      refine E_iload dL_law_1196 rfl ?_
      refine E_i2l dL_law_1198 ?_
      refine E_lcmp dL_law_1199 ?_
      refine E_if_eq (tgt := 1205) dL_law_1200 (by decide) (fun _ => ?_) (fun c0 => absurd (lcz hm2) c0)
      refine E_goto (tgt := 1687) dL_law_1205 (by decide) ?_
      exact IH _ _ _ _ _ _ hb2 hS2
    · exfalso
      first
        | exact z1 y1
        | exact y1 z1
        | exact z2 y2
        | exact y2 z2
        | exact z3 y3
        | exact y3 z3
        | omega
        | exact z1 (bel_mk (by omega) y1 y2)
        | exact y1 (bel_mk (by omega) z1 z2)
        | exact z1 (gl_mk y1 y2)
        | exact y1 (gl_mk z1 z2)
        | exact z2 y3
        | exact y2 z3
        | exact z1 y3
        | exact y1 z3
        | exact z1 ⟨gl_mk y1 y2, y3⟩
        | exact y1 ⟨gl_mk z1 z2, z3⟩
        | exact z1 (in_mk (by omega) (Nat.zero_le _) y1 y2)
        | exact y1 (in_mk (by omega) (Nat.zero_le _) z1 z2)
        | exact z1 ((iIn1 (by omega)).mpr ⟨jj, y1, y2, y3⟩)
        | exact y1 ((iIn1 (by omega)).mpr ⟨j, z1, z2, z3⟩)
  · have hL := hS1.1.lay
    have hb1 := hb.ke hke hL
    refine gKv ?_
    refine E_istore dL_law_1163 (Nat.le_of_ble_eq_true rfl) (by decide) rfl ?_
    refine E_aload_n dL_law_1165 rfl ?_
    refine E_aload_s dL_law_1166 rfl ?_
    refine E_iload dL_law_1167 rfl ?_
    refine E_iconst (v := nI 1) dL_law_1169 (by decide) ?_
    refine E_iadd_n dL_law_1170 ?_
    refine E_sld dL_law_1171 rfl (by omega) (by omega) ?_
    refine E_room (Nat.le_refl _) (k' := 0 + kk) (n' := 0 + nn) (by omega) (by omega) ?_
    refine E_callV1 (fr' := 17) (k1 := 0) (n1 := 0) (k2 := kk) (n2 := nn) dL_law_1172 kO_X12_cluster kL_L_153 (l_128 hL) (k_128 hL) ⟨by decide, rfl⟩ rfl (by decide) (by decide) (by exact Nat.le_of_ble_eq_true rfl) rfl ?_
    refine sp_X12_cluster hb1 (fun jj y1 y2 M2 hf2 h0 => ?_) (fun y1 M2 hf2 h0 => ?_) 
    · exfalso
      first
        | exact z1 y1
        | exact y1 z1
        | exact z2 y2
        | exact y2 z2
        | exact z3 y3
        | exact y3 z3
        | omega
        | exact z1 (bel_mk (by omega) y1 y2)
        | exact y1 (bel_mk (by omega) z1 z2)
        | exact z1 (gl_mk y1 y2)
        | exact y1 (gl_mk z1 z2)
        | exact z2 y3
        | exact y2 z3
        | exact z1 y3
        | exact y1 z3
        | exact z1 ⟨gl_mk y1 y2, y3⟩
        | exact y1 ⟨gl_mk z1 z2, z3⟩
        | exact z1 (in_mk (by omega) (Nat.zero_le _) y1 y2)
        | exact y1 (in_mk (by omega) (Nat.zero_le _) z1 z2)
        | exact z1 ((iIn1 (by omega)).mpr ⟨jj, y1, y2, y3⟩)
        | exact y1 ((iIn1 (by omega)).mpr ⟨j, z1, z2, z3⟩)
    · have hb2 := qbS hb1 hf2
      have hS2 := fr.S hS1 hf2 qR_8
      have hL := hb2.lay
      refine gKv ?_
      refine E_istore dL_law_1175 (Nat.le_of_ble_eq_true rfl) (by decide) rfl ?_
      refine E_aload_n dL_law_1177 rfl ?_
      refine E_room (Nat.le_refl _) (k' := 0 + kk) (n' := 0 + nn) (by omega) (by omega) ?_
      refine E_callV0 (fr' := 1) (k1 := 0) (n1 := 0) (k2 := kk) (n2 := nn) dL_law_1178 kO_X12_thrown kL_L_100 (l_128 hL) (k_128 hL) ⟨by decide, rfl⟩  (by decide) (by decide) (by exact Nat.le_of_ble_eq_true rfl) rfl ?_
      refine sp_X12_thrown hL h0 ?_
      refine gKv ?_
      refine E_iload dL_law_1181 rfl ?_
      refine E_icmp_eq (tgt := 1188) dL_law_1183 (by decide) (fun _ => ?_) (fun c0 => absurd (by decide) c0)
      refine E_iload dL_law_1188 rfl ?_
      refine E_if_ne (tgt := 1205) dL_law_1190 (by decide) (fun _ => ?_) (fun c0 => absurd (by decide) c0)
      refine E_goto (tgt := 1687) dL_law_1205 (by decide) ?_
      exact IH _ _ _ _ _ _ hb2 hS2
set_option maxRecDepth 100000 in
set_option maxHeartbeats 4000000 in
theorem case_place {g : gG} {Q : Option Value ⊕ String → gM → Prop} (hst : (gl1 g).stackTraces = false) {z : UInt32} {i kk nn : Nat} (hi : i + 8 ≤ gsL g) (h4 : gsL g ≤ 4096) {c : Cf} {P π : Nat → Nat} {M : gM} (hb : bS c M) (hS : kS c P π M) (IH : ∀ c' P' π' M' v5 v6, bS c' M' → kS c' P' π' M' → E g 18 kk nn mL_law 1687 [.float z, .ref 1, .ref 129, .ref 179, .int (nI i), v5, v6] [] M' Q) {v5 v6 : Value} : E g 18 (kk + 12) (nn + 330) mL_law 1208 [.float z, .ref 1, .ref 129, .ref 179, .int (nI i), v5, v6] [] M Q := by
  have hw := hb.wf
  have hcf : cN c 128 1 < 2 := hw.fac
  have hct := hw.ct (cN c 128 1)
  have hct2 : cnt0 c ≤ 12 := hct
  have h16 : tl c ≤ 16 := hw.tl
  have hng := ng_1024 hw
  have hL := hb.lay
  refine E_aload_n dL_law_1208 rfl ?_
  refine E_aload_s dL_law_1209 rfl ?_
  refine E_iload dL_law_1210 rfl ?_
  refine E_iconst (v := nI 1) dL_law_1212 (by decide) ?_
  refine E_iadd_n dL_law_1213 ?_
  refine E_sld dL_law_1214 rfl (by omega) (by omega) ?_
  refine E_aload_s dL_law_1215 rfl ?_
  refine E_iload dL_law_1216 rfl ?_
  refine E_iconst (v := nI 2) dL_law_1218 (by decide) ?_
  refine E_iadd_n dL_law_1219 ?_
  refine E_sld dL_law_1220 rfl (by omega) (by omega) ?_
  refine E_aload_n dL_law_1221 rfl ?_
  refine E_room (Nat.le_refl _) (k' := 2 + kk) (n' := 12 + nn) (by omega) (by omega) ?_
  refine E_callS4 (fr' := 9) (k1 := 2) (n1 := 12) (k2 := kk) (n2 := nn) dL_law_1222 kO_L_place kL_L_154 rfl rfl rfl rfl (by decide) (by decide) (by exact Nat.le_of_ble_eq_true rfl) (Or.inr (gW_at 1150 (by decide +kernel) (by decide +kernel))) rfl ?_
  refine w_place hst hS (fun j z1 z2 z3 M1 P1 π1 hS1 hke hm => ?_) (fun z1 M1 P1 π1 hS1 hke => ?_) (fun j z1 z2 z3 M1 P1 π1 hS1 hke => ?_)
  · have hL := hS1.1.lay
    have hb1 := hb.ke hke hL
    refine gKv ?_
    refine E_istore dL_law_1225 (Nat.le_of_ble_eq_true rfl) (by decide) rfl ?_
    refine E_aload_n dL_law_1227 rfl ?_
    refine E_aload_s dL_law_1228 rfl ?_
    refine E_iload dL_law_1229 rfl ?_
    refine E_iconst (v := nI 1) dL_law_1231 (by decide) ?_
    refine E_iadd_n dL_law_1232 ?_
    refine E_sld dL_law_1233 rfl (by omega) (by omega) ?_
    refine E_aload_s dL_law_1234 rfl ?_
    refine E_iload dL_law_1235 rfl ?_
    refine E_iconst (v := nI 2) dL_law_1237 (by decide) ?_
    refine E_iadd_n dL_law_1238 ?_
    refine E_sld dL_law_1239 rfl (by omega) (by omega) ?_
    refine E_room (Nat.le_refl _) (k' := 0 + kk) (n' := 0 + nn) (by omega) (by omega) ?_
    refine E_callV2 (fr' := 17) (k1 := 0) (n1 := 0) (k2 := kk) (n2 := nn) dL_law_1240 kO_X12_place kL_L_156 (l_128 hL) (k_128 hL) ⟨by decide, rfl⟩ rfl rfl (by decide) (by decide) (by exact Nat.le_of_ble_eq_true rfl) rfl ?_
    refine sp_X12_place hb1 (fun jj y1 y2 y3 M2 hf2 h0 => ?_) (fun jj y1 y2 y3 M2 hf2 h0 => ?_) (fun y1 M2 hf2 h0 => ?_) 
    · obtain rfl : jj = j := nI_ij z2 y2 (by omega) (by omega)
      have hb2 := qbS hb1 hf2
      have hS2 := fr.S hS1 hf2 qR_8
      have hL := hb2.lay
      have hm2 := fr_L hf2 hm
      refine gKv ?_
      refine E_istore dL_law_1243 (Nat.le_of_ble_eq_true rfl) (by decide) rfl ?_
      refine E_aload_n dL_law_1245 rfl ?_
      refine E_room (Nat.le_refl _) (k' := 0 + kk) (n' := 0 + nn) (by omega) (by omega) ?_
      refine E_callV0 (fr' := 1) (k1 := 0) (n1 := 0) (k2 := kk) (n2 := nn) dL_law_1246 kO_X12_thrown kL_L_100 (l_128 hL) (k_128 hL) ⟨by decide, rfl⟩  (by decide) (by decide) (by exact Nat.le_of_ble_eq_true rfl) rfl ?_
      refine sp_X12_thrown hL h0 ?_
      refine gKv ?_
      refine E_iload dL_law_1249 rfl ?_
      refine E_icmp_eq (tgt := 1256) dL_law_1251 (by decide) (fun _ => ?_) (fun c0 => absurd (by decide) c0)
      refine E_iload dL_law_1256 rfl ?_
      refine E_if_ne (tgt := 1273) dL_law_1258 (by decide) (fun c0 => absurd c0 (by decide)) (fun _ => ?_)
      refine E_aload_n dL_law_1261 rfl ?_
      refine E_iconst (v := nI 0) dL_law_1262 (by decide) ?_
      refine E_lald dL_law_1263 (l_178 hL) (k_178 hL) rfl (by omega) (by decide) ?_
      refine E_iload dL_law_1264 rfl ?_
      refine E_i2l dL_law_1266 ?_
      refine E_lcmp dL_law_1267 ?_
      refine E_if_eq (tgt := 1273) dL_law_1268 (by decide) (fun _ => ?_) (fun c0 => absurd (lcz hm2) c0)
      refine E_goto (tgt := 1687) dL_law_1273 (by decide) ?_
      exact IH _ _ _ _ _ _ hb2 hS2
    · exfalso
      first
        | exact z1 (bel_mk (by omega) y1 y2)
        | exact y1 (bel_mk (by omega) z1 z2)
        | exact z3 y3
        | exact y3 z3
    · exfalso
      first
        | exact z1 (bel_mk (by omega) y1 y2)
        | exact y1 (bel_mk (by omega) z1 z2)
        | exact z3 y3
        | exact y3 z3
  · have hL := hS1.1.lay
    have hb1 := hb.ke hke hL
    refine gKv ?_
    refine E_istore dL_law_1225 (Nat.le_of_ble_eq_true rfl) (by decide) rfl ?_
    refine E_aload_n dL_law_1227 rfl ?_
    refine E_aload_s dL_law_1228 rfl ?_
    refine E_iload dL_law_1229 rfl ?_
    refine E_iconst (v := nI 1) dL_law_1231 (by decide) ?_
    refine E_iadd_n dL_law_1232 ?_
    refine E_sld dL_law_1233 rfl (by omega) (by omega) ?_
    refine E_aload_s dL_law_1234 rfl ?_
    refine E_iload dL_law_1235 rfl ?_
    refine E_iconst (v := nI 2) dL_law_1237 (by decide) ?_
    refine E_iadd_n dL_law_1238 ?_
    refine E_sld dL_law_1239 rfl (by omega) (by omega) ?_
    refine E_room (Nat.le_refl _) (k' := 0 + kk) (n' := 0 + nn) (by omega) (by omega) ?_
    refine E_callV2 (fr' := 17) (k1 := 0) (n1 := 0) (k2 := kk) (n2 := nn) dL_law_1240 kO_X12_place kL_L_156 (l_128 hL) (k_128 hL) ⟨by decide, rfl⟩ rfl rfl (by decide) (by decide) (by exact Nat.le_of_ble_eq_true rfl) rfl ?_
    refine sp_X12_place hb1 (fun jj y1 y2 y3 M2 hf2 h0 => ?_) (fun jj y1 y2 y3 M2 hf2 h0 => ?_) (fun y1 M2 hf2 h0 => ?_) 
    · exfalso
      first
        | exact z1 (bel_mk (by omega) y1 y2)
        | exact y1 (bel_mk (by omega) z1 z2)
        | exact z3 y3
        | exact y3 z3
    · exfalso
      first
        | exact z1 (bel_mk (by omega) y1 y2)
        | exact y1 (bel_mk (by omega) z1 z2)
        | exact z3 y3
        | exact y3 z3
    · have hb2 := qbS hb1 hf2
      have hS2 := fr.S hS1 hf2 qR_8
      have hL := hb2.lay
      refine gKv ?_
      refine E_istore dL_law_1243 (Nat.le_of_ble_eq_true rfl) (by decide) rfl ?_
      refine E_aload_n dL_law_1245 rfl ?_
      refine E_room (Nat.le_refl _) (k' := 0 + kk) (n' := 0 + nn) (by omega) (by omega) ?_
      refine E_callV0 (fr' := 1) (k1 := 0) (n1 := 0) (k2 := kk) (n2 := nn) dL_law_1246 kO_X12_thrown kL_L_100 (l_128 hL) (k_128 hL) ⟨by decide, rfl⟩  (by decide) (by decide) (by exact Nat.le_of_ble_eq_true rfl) rfl ?_
      refine sp_X12_thrown hL h0 ?_
      refine gKv ?_
      refine E_iload dL_law_1249 rfl ?_
      refine E_icmp_eq (tgt := 1256) dL_law_1251 (by decide) (fun _ => ?_) (fun c0 => absurd (by decide) c0)
      refine E_iload dL_law_1256 rfl ?_
      refine E_if_ne (tgt := 1273) dL_law_1258 (by decide) (fun _ => ?_) (fun c0 => absurd (by decide) c0)
      refine E_goto (tgt := 1687) dL_law_1273 (by decide) ?_
      exact IH _ _ _ _ _ _ hb2 hS2
  · have hL := hS1.1.lay
    have hb1 := hb.ke hke hL
    refine gKv ?_
    refine E_istore dL_law_1225 (Nat.le_of_ble_eq_true rfl) (by decide) rfl ?_
    refine E_aload_n dL_law_1227 rfl ?_
    refine E_aload_s dL_law_1228 rfl ?_
    refine E_iload dL_law_1229 rfl ?_
    refine E_iconst (v := nI 1) dL_law_1231 (by decide) ?_
    refine E_iadd_n dL_law_1232 ?_
    refine E_sld dL_law_1233 rfl (by omega) (by omega) ?_
    refine E_aload_s dL_law_1234 rfl ?_
    refine E_iload dL_law_1235 rfl ?_
    refine E_iconst (v := nI 2) dL_law_1237 (by decide) ?_
    refine E_iadd_n dL_law_1238 ?_
    refine E_sld dL_law_1239 rfl (by omega) (by omega) ?_
    refine E_room (Nat.le_refl _) (k' := 0 + kk) (n' := 0 + nn) (by omega) (by omega) ?_
    refine E_callV2 (fr' := 17) (k1 := 0) (n1 := 0) (k2 := kk) (n2 := nn) dL_law_1240 kO_X12_place kL_L_156 (l_128 hL) (k_128 hL) ⟨by decide, rfl⟩ rfl rfl (by decide) (by decide) (by exact Nat.le_of_ble_eq_true rfl) rfl ?_
    refine sp_X12_place hb1 (fun jj y1 y2 y3 M2 hf2 h0 => ?_) (fun jj y1 y2 y3 M2 hf2 h0 => ?_) (fun y1 M2 hf2 h0 => ?_) 
    · exfalso
      first
        | exact z1 (bel_mk (by omega) y1 y2)
        | exact y1 (bel_mk (by omega) z1 z2)
        | exact z3 y3
        | exact y3 z3
    · obtain rfl : jj = j := nI_ij z2 y2 (by omega) (by omega)
      have hb2 := qbS hb1 hf2
      have hS2 := fr.S hS1 hf2 qR_8
      have hL := hb2.lay
      refine gKv ?_
      refine E_istore dL_law_1243 (Nat.le_of_ble_eq_true rfl) (by decide) rfl ?_
      refine E_aload_n dL_law_1245 rfl ?_
      refine E_room (Nat.le_refl _) (k' := 0 + kk) (n' := 0 + nn) (by omega) (by omega) ?_
      refine E_callV0 (fr' := 1) (k1 := 0) (n1 := 0) (k2 := kk) (n2 := nn) dL_law_1246 kO_X12_thrown kL_L_100 (l_128 hL) (k_128 hL) ⟨by decide, rfl⟩  (by decide) (by decide) (by exact Nat.le_of_ble_eq_true rfl) rfl ?_
      refine sp_X12_thrown hL h0 ?_
      refine gKv ?_
      refine E_iload dL_law_1249 rfl ?_
      refine E_icmp_eq (tgt := 1256) dL_law_1251 (by decide) (fun _ => ?_) (fun c0 => absurd (by decide) c0)
      refine E_iload dL_law_1256 rfl ?_
      refine E_if_ne (tgt := 1273) dL_law_1258 (by decide) (fun _ => ?_) (fun c0 => absurd (by decide) c0)
      refine E_goto (tgt := 1687) dL_law_1273 (by decide) ?_
      exact IH _ _ _ _ _ _ hb2 hS2
    · exfalso
      first
        | exact z1 (bel_mk (by omega) y1 y2)
        | exact y1 (bel_mk (by omega) z1 z2)
        | exact z3 y3
        | exact y3 z3
set_option maxRecDepth 100000 in
set_option maxHeartbeats 4000000 in
theorem case_form {g : gG} {Q : Option Value ⊕ String → gM → Prop} (hst : (gl1 g).stackTraces = false) {z : UInt32} {i kk nn : Nat} (hi : i + 8 ≤ gsL g) (h4 : gsL g ≤ 4096) {c : Cf} {P π : Nat → Nat} {M : gM} (hb : bS c M) (hS : kS c P π M) (IH : ∀ c' P' π' M' v5 v6, bS c' M' → kS c' P' π' M' → E g 18 kk nn mL_law 1687 [.float z, .ref 1, .ref 129, .ref 179, .int (nI i), v5, v6] [] M' Q) {v5 v6 : Value} : E g 18 (kk + 12) (nn + 330) mL_law 1276 [.float z, .ref 1, .ref 129, .ref 179, .int (nI i), v5, v6] [] M Q := by
  have hw := hb.wf
  have hcf : cN c 128 1 < 2 := hw.fac
  have hct := hw.ct (cN c 128 1)
  have hct2 : cnt0 c ≤ 12 := hct
  have h16 : tl c ≤ 16 := hw.tl
  have hng := ng_1024 hw
  have hL := hb.lay
  refine E_aload_n dL_law_1276 rfl ?_
  refine E_aload_s dL_law_1277 rfl ?_
  refine E_iload dL_law_1278 rfl ?_
  refine E_iconst (v := nI 1) dL_law_1280 (by decide) ?_
  refine E_iadd_n dL_law_1281 ?_
  refine E_sld dL_law_1282 rfl (by omega) (by omega) ?_
  refine E_aload_n dL_law_1283 rfl ?_
  refine E_room (Nat.le_refl _) (k' := 1 + kk) (n' := 6 + nn) (by omega) (by omega) ?_
  refine E_callS3 (fr' := 9) (k1 := 1) (n1 := 6) (k2 := kk) (n2 := nn) dL_law_1284 kO_L_form kL_L_157 rfl rfl rfl (by decide) (by decide) (by exact Nat.le_of_ble_eq_true rfl) (Or.inr (gW_at 1158 (by decide +kernel) (by decide +kernel))) rfl ?_
  refine w_form hst hS (fun j z1 z2 M1 P1 π1 hS1 hke hm => ?_) (fun z1 M1 P1 π1 hS1 hke => ?_)
  · have hL := hS1.1.lay
    have hb1 := hb.ke hke hL
    refine gKv ?_
    refine E_istore dL_law_1287 (Nat.le_of_ble_eq_true rfl) (by decide) rfl ?_
    refine E_aload_n dL_law_1289 rfl ?_
    refine E_aload_s dL_law_1290 rfl ?_
    refine E_iload dL_law_1291 rfl ?_
    refine E_iconst (v := nI 1) dL_law_1293 (by decide) ?_
    refine E_iadd_n dL_law_1294 ?_
    refine E_sld dL_law_1295 rfl (by omega) (by omega) ?_
    refine E_room (Nat.le_refl _) (k' := 0 + kk) (n' := 0 + nn) (by omega) (by omega) ?_
    refine E_callV1 (fr' := 16) (k1 := 0) (n1 := 0) (k2 := kk) (n2 := nn) dL_law_1296 kO_X12_form kL_L_159 (l_128 hL) (k_128 hL) ⟨by decide, rfl⟩ rfl (by decide) (by decide) (by exact Nat.le_of_ble_eq_true rfl) rfl ?_
    refine sp_X12_form hb1 (fun jj y1 y2 M2 hf2 h0 => ?_) (fun y1 M2 hf2 h0 => ?_) 
    · obtain rfl : jj = j := nI_ij z2 y2 (by omega) (by omega)
      have hb2 := qbS hb1 hf2
      have hS2 := fr.S hS1 hf2 qR_8
      have hL := hb2.lay
      have hm2 := fr_L hf2 hm
      refine gKv ?_
      refine E_istore dL_law_1299 (Nat.le_of_ble_eq_true rfl) (by decide) rfl ?_
      refine E_aload_n dL_law_1301 rfl ?_
      refine E_room (Nat.le_refl _) (k' := 0 + kk) (n' := 0 + nn) (by omega) (by omega) ?_
      refine E_callV0 (fr' := 1) (k1 := 0) (n1 := 0) (k2 := kk) (n2 := nn) dL_law_1302 kO_X12_thrown kL_L_100 (l_128 hL) (k_128 hL) ⟨by decide, rfl⟩  (by decide) (by decide) (by exact Nat.le_of_ble_eq_true rfl) rfl ?_
      refine sp_X12_thrown hL h0 ?_
      refine gKv ?_
      refine E_iload dL_law_1305 rfl ?_
      refine E_icmp_eq (tgt := 1312) dL_law_1307 (by decide) (fun _ => ?_) (fun c0 => absurd (by decide) c0)
      refine E_iload dL_law_1312 rfl ?_
      refine E_if_ne (tgt := 1329) dL_law_1314 (by decide) (fun c0 => absurd c0 (by decide)) (fun _ => ?_)
      refine E_aload_n dL_law_1317 rfl ?_
      refine E_iconst (v := nI 0) dL_law_1318 (by decide) ?_
      refine E_lald dL_law_1319 (l_178 hL) (k_178 hL) rfl (by omega) (by decide) ?_
      refine E_iload dL_law_1320 rfl ?_
      refine E_i2l dL_law_1322 ?_
      refine E_lcmp dL_law_1323 ?_
      refine E_if_eq (tgt := 1329) dL_law_1324 (by decide) (fun _ => ?_) (fun c0 => absurd (lcz hm2) c0)
      refine E_goto (tgt := 1687) dL_law_1329 (by decide) ?_
      exact IH _ _ _ _ _ _ hb2 hS2
    · exfalso
      first
        | exact z1 y1
        | exact y1 z1
        | exact z2 y2
        | exact y2 z2
        | exact z3 y3
        | exact y3 z3
        | omega
        | exact z1 (bel_mk (by omega) y1 y2)
        | exact y1 (bel_mk (by omega) z1 z2)
        | exact z1 (gl_mk y1 y2)
        | exact y1 (gl_mk z1 z2)
        | exact z2 y3
        | exact y2 z3
        | exact z1 y3
        | exact y1 z3
        | exact z1 ⟨gl_mk y1 y2, y3⟩
        | exact y1 ⟨gl_mk z1 z2, z3⟩
        | exact z1 (in_mk (by omega) (Nat.zero_le _) y1 y2)
        | exact y1 (in_mk (by omega) (Nat.zero_le _) z1 z2)
        | exact z1 ((iIn1 (by omega)).mpr ⟨jj, y1, y2, y3⟩)
        | exact y1 ((iIn1 (by omega)).mpr ⟨j, z1, z2, z3⟩)
  · have hL := hS1.1.lay
    have hb1 := hb.ke hke hL
    refine gKv ?_
    refine E_istore dL_law_1287 (Nat.le_of_ble_eq_true rfl) (by decide) rfl ?_
    refine E_aload_n dL_law_1289 rfl ?_
    refine E_aload_s dL_law_1290 rfl ?_
    refine E_iload dL_law_1291 rfl ?_
    refine E_iconst (v := nI 1) dL_law_1293 (by decide) ?_
    refine E_iadd_n dL_law_1294 ?_
    refine E_sld dL_law_1295 rfl (by omega) (by omega) ?_
    refine E_room (Nat.le_refl _) (k' := 0 + kk) (n' := 0 + nn) (by omega) (by omega) ?_
    refine E_callV1 (fr' := 16) (k1 := 0) (n1 := 0) (k2 := kk) (n2 := nn) dL_law_1296 kO_X12_form kL_L_159 (l_128 hL) (k_128 hL) ⟨by decide, rfl⟩ rfl (by decide) (by decide) (by exact Nat.le_of_ble_eq_true rfl) rfl ?_
    refine sp_X12_form hb1 (fun jj y1 y2 M2 hf2 h0 => ?_) (fun y1 M2 hf2 h0 => ?_) 
    · exfalso
      first
        | exact z1 y1
        | exact y1 z1
        | exact z2 y2
        | exact y2 z2
        | exact z3 y3
        | exact y3 z3
        | omega
        | exact z1 (bel_mk (by omega) y1 y2)
        | exact y1 (bel_mk (by omega) z1 z2)
        | exact z1 (gl_mk y1 y2)
        | exact y1 (gl_mk z1 z2)
        | exact z2 y3
        | exact y2 z3
        | exact z1 y3
        | exact y1 z3
        | exact z1 ⟨gl_mk y1 y2, y3⟩
        | exact y1 ⟨gl_mk z1 z2, z3⟩
        | exact z1 (in_mk (by omega) (Nat.zero_le _) y1 y2)
        | exact y1 (in_mk (by omega) (Nat.zero_le _) z1 z2)
        | exact z1 ((iIn1 (by omega)).mpr ⟨jj, y1, y2, y3⟩)
        | exact y1 ((iIn1 (by omega)).mpr ⟨j, z1, z2, z3⟩)
    · have hb2 := qbS hb1 hf2
      have hS2 := fr.S hS1 hf2 qR_8
      have hL := hb2.lay
      refine gKv ?_
      refine E_istore dL_law_1299 (Nat.le_of_ble_eq_true rfl) (by decide) rfl ?_
      refine E_aload_n dL_law_1301 rfl ?_
      refine E_room (Nat.le_refl _) (k' := 0 + kk) (n' := 0 + nn) (by omega) (by omega) ?_
      refine E_callV0 (fr' := 1) (k1 := 0) (n1 := 0) (k2 := kk) (n2 := nn) dL_law_1302 kO_X12_thrown kL_L_100 (l_128 hL) (k_128 hL) ⟨by decide, rfl⟩  (by decide) (by decide) (by exact Nat.le_of_ble_eq_true rfl) rfl ?_
      refine sp_X12_thrown hL h0 ?_
      refine gKv ?_
      refine E_iload dL_law_1305 rfl ?_
      refine E_icmp_eq (tgt := 1312) dL_law_1307 (by decide) (fun _ => ?_) (fun c0 => absurd (by decide) c0)
      refine E_iload dL_law_1312 rfl ?_
      refine E_if_ne (tgt := 1329) dL_law_1314 (by decide) (fun _ => ?_) (fun c0 => absurd (by decide) c0)
      refine E_goto (tgt := 1687) dL_law_1329 (by decide) ?_
      exact IH _ _ _ _ _ _ hb2 hS2
set_option maxRecDepth 100000 in
set_option maxHeartbeats 4000000 in
theorem case_run {g : gG} {Q : Option Value ⊕ String → gM → Prop} (hst : (gl1 g).stackTraces = false) {z : UInt32} {i kk nn : Nat} (hi : i + 8 ≤ gsL g) (h4 : gsL g ≤ 4096) {c : Cf} {P π : Nat → Nat} {M : gM} (hb : bS c M) (hS : kS c P π M) (IH : ∀ c' P' π' M' v5 v6, bS c' M' → kS c' P' π' M' → E g 18 kk nn mL_law 1687 [.float z, .ref 1, .ref 129, .ref 179, .int (nI i), v5, v6] [] M' Q) {v5 v6 : Value} : E g 18 (kk + 12) (nn + 330) mL_law 1332 [.float z, .ref 1, .ref 129, .ref 179, .int (nI i), v5, v6] [] M Q := by
  have hw := hb.wf
  have hcf : cN c 128 1 < 2 := hw.fac
  have hct := hw.ct (cN c 128 1)
  have hct2 : cnt0 c ≤ 12 := hct
  have h16 : tl c ≤ 16 := hw.tl
  have hng := ng_1024 hw
  have hL := hb.lay
  refine E_aload_n dL_law_1332 rfl ?_
  refine E_aload_s dL_law_1333 rfl ?_
  refine E_iload dL_law_1334 rfl ?_
  refine E_iconst (v := nI 1) dL_law_1336 (by decide) ?_
  refine E_iadd_n dL_law_1337 ?_
  refine E_sld dL_law_1338 rfl (by omega) (by omega) ?_
  refine E_aload_n dL_law_1339 rfl ?_
  refine E_room (Nat.le_refl _) (k' := 1 + kk) (n' := 6 + nn) (by omega) (by omega) ?_
  refine E_callS3 (fr' := 9) (k1 := 1) (n1 := 6) (k2 := kk) (n2 := nn) dL_law_1340 kO_L_run kL_L_160 rfl rfl rfl (by decide) (by decide) (by exact Nat.le_of_ble_eq_true rfl) (Or.inr (gW_at 1165 (by decide +kernel) (by decide +kernel))) rfl ?_
  refine w_run hst hS (fun j z1 z2 M1 P1 π1 hS1 hke hm => ?_) (fun z1 M1 P1 π1 hS1 hke => ?_)
  · have hL := hS1.1.lay
    have hb1 := hb.ke hke hL
    refine gKv ?_
    refine E_istore dL_law_1343 (Nat.le_of_ble_eq_true rfl) (by decide) rfl ?_
    refine E_aload_n dL_law_1345 rfl ?_
    refine E_aload_s dL_law_1346 rfl ?_
    refine E_iload dL_law_1347 rfl ?_
    refine E_iconst (v := nI 1) dL_law_1349 (by decide) ?_
    refine E_iadd_n dL_law_1350 ?_
    refine E_sld dL_law_1351 rfl (by omega) (by omega) ?_
    refine E_room (Nat.le_refl _) (k' := 0 + kk) (n' := 0 + nn) (by omega) (by omega) ?_
    refine E_callV1 (fr' := 16) (k1 := 0) (n1 := 0) (k2 := kk) (n2 := nn) dL_law_1352 kO_X12_run kL_L_162 (l_128 hL) (k_128 hL) ⟨by decide, rfl⟩ rfl (by decide) (by decide) (by exact Nat.le_of_ble_eq_true rfl) rfl ?_
    refine sp_X12_run hb1 (fun jj y1 y2 M2 hf2 h0 => ?_) (fun y1 M2 hf2 h0 => ?_) 
    · obtain rfl : jj = j := nI_ij z2 y2 (by omega) (by omega)
      have hb2 := qbS hb1 hf2
      have hS2 := fr.S hS1 hf2 qR_8
      have hL := hb2.lay
      have hm2 := fr_L hf2 hm
      refine gKv ?_
      refine E_istore dL_law_1355 (Nat.le_of_ble_eq_true rfl) (by decide) rfl ?_
      refine E_aload_n dL_law_1357 rfl ?_
      refine E_room (Nat.le_refl _) (k' := 0 + kk) (n' := 0 + nn) (by omega) (by omega) ?_
      refine E_callV0 (fr' := 1) (k1 := 0) (n1 := 0) (k2 := kk) (n2 := nn) dL_law_1358 kO_X12_thrown kL_L_100 (l_128 hL) (k_128 hL) ⟨by decide, rfl⟩  (by decide) (by decide) (by exact Nat.le_of_ble_eq_true rfl) rfl ?_
      refine sp_X12_thrown hL h0 ?_
      refine gKv ?_
      refine E_iload dL_law_1361 rfl ?_
      refine E_icmp_eq (tgt := 1368) dL_law_1363 (by decide) (fun _ => ?_) (fun c0 => absurd (by decide) c0)
      refine E_iload dL_law_1368 rfl ?_
      refine E_if_ne (tgt := 1385) dL_law_1370 (by decide) (fun c0 => absurd c0 (by decide)) (fun _ => ?_)
      refine E_aload_n dL_law_1373 rfl ?_
      refine E_iconst (v := nI 0) dL_law_1374 (by decide) ?_
      refine E_lald dL_law_1375 (l_178 hL) (k_178 hL) rfl (by omega) (by decide) ?_
      refine E_iload dL_law_1376 rfl ?_
      refine E_i2l dL_law_1378 ?_
      refine E_lcmp dL_law_1379 ?_
      refine E_if_eq (tgt := 1385) dL_law_1380 (by decide) (fun _ => ?_) (fun c0 => absurd (lcz hm2) c0)
      refine E_goto (tgt := 1687) dL_law_1385 (by decide) ?_
      exact IH _ _ _ _ _ _ hb2 hS2
    · exfalso
      first
        | exact z1 y1
        | exact y1 z1
        | exact z2 y2
        | exact y2 z2
        | exact z3 y3
        | exact y3 z3
        | omega
        | exact z1 (bel_mk (by omega) y1 y2)
        | exact y1 (bel_mk (by omega) z1 z2)
        | exact z1 (gl_mk y1 y2)
        | exact y1 (gl_mk z1 z2)
        | exact z2 y3
        | exact y2 z3
        | exact z1 y3
        | exact y1 z3
        | exact z1 ⟨gl_mk y1 y2, y3⟩
        | exact y1 ⟨gl_mk z1 z2, z3⟩
        | exact z1 (in_mk (by omega) (Nat.zero_le _) y1 y2)
        | exact y1 (in_mk (by omega) (Nat.zero_le _) z1 z2)
        | exact z1 ((iIn1 (by omega)).mpr ⟨jj, y1, y2, y3⟩)
        | exact y1 ((iIn1 (by omega)).mpr ⟨j, z1, z2, z3⟩)
  · have hL := hS1.1.lay
    have hb1 := hb.ke hke hL
    refine gKv ?_
    refine E_istore dL_law_1343 (Nat.le_of_ble_eq_true rfl) (by decide) rfl ?_
    refine E_aload_n dL_law_1345 rfl ?_
    refine E_aload_s dL_law_1346 rfl ?_
    refine E_iload dL_law_1347 rfl ?_
    refine E_iconst (v := nI 1) dL_law_1349 (by decide) ?_
    refine E_iadd_n dL_law_1350 ?_
    refine E_sld dL_law_1351 rfl (by omega) (by omega) ?_
    refine E_room (Nat.le_refl _) (k' := 0 + kk) (n' := 0 + nn) (by omega) (by omega) ?_
    refine E_callV1 (fr' := 16) (k1 := 0) (n1 := 0) (k2 := kk) (n2 := nn) dL_law_1352 kO_X12_run kL_L_162 (l_128 hL) (k_128 hL) ⟨by decide, rfl⟩ rfl (by decide) (by decide) (by exact Nat.le_of_ble_eq_true rfl) rfl ?_
    refine sp_X12_run hb1 (fun jj y1 y2 M2 hf2 h0 => ?_) (fun y1 M2 hf2 h0 => ?_) 
    · exfalso
      first
        | exact z1 y1
        | exact y1 z1
        | exact z2 y2
        | exact y2 z2
        | exact z3 y3
        | exact y3 z3
        | omega
        | exact z1 (bel_mk (by omega) y1 y2)
        | exact y1 (bel_mk (by omega) z1 z2)
        | exact z1 (gl_mk y1 y2)
        | exact y1 (gl_mk z1 z2)
        | exact z2 y3
        | exact y2 z3
        | exact z1 y3
        | exact y1 z3
        | exact z1 ⟨gl_mk y1 y2, y3⟩
        | exact y1 ⟨gl_mk z1 z2, z3⟩
        | exact z1 (in_mk (by omega) (Nat.zero_le _) y1 y2)
        | exact y1 (in_mk (by omega) (Nat.zero_le _) z1 z2)
        | exact z1 ((iIn1 (by omega)).mpr ⟨jj, y1, y2, y3⟩)
        | exact y1 ((iIn1 (by omega)).mpr ⟨j, z1, z2, z3⟩)
    · have hb2 := qbS hb1 hf2
      have hS2 := fr.S hS1 hf2 qR_8
      have hL := hb2.lay
      refine gKv ?_
      refine E_istore dL_law_1355 (Nat.le_of_ble_eq_true rfl) (by decide) rfl ?_
      refine E_aload_n dL_law_1357 rfl ?_
      refine E_room (Nat.le_refl _) (k' := 0 + kk) (n' := 0 + nn) (by omega) (by omega) ?_
      refine E_callV0 (fr' := 1) (k1 := 0) (n1 := 0) (k2 := kk) (n2 := nn) dL_law_1358 kO_X12_thrown kL_L_100 (l_128 hL) (k_128 hL) ⟨by decide, rfl⟩  (by decide) (by decide) (by exact Nat.le_of_ble_eq_true rfl) rfl ?_
      refine sp_X12_thrown hL h0 ?_
      refine gKv ?_
      refine E_iload dL_law_1361 rfl ?_
      refine E_icmp_eq (tgt := 1368) dL_law_1363 (by decide) (fun _ => ?_) (fun c0 => absurd (by decide) c0)
      refine E_iload dL_law_1368 rfl ?_
      refine E_if_ne (tgt := 1385) dL_law_1370 (by decide) (fun _ => ?_) (fun c0 => absurd (by decide) c0)
      refine E_goto (tgt := 1687) dL_law_1385 (by decide) ?_
      exact IH _ _ _ _ _ _ hb2 hS2
set_option maxRecDepth 100000 in
set_option maxHeartbeats 4000000 in
theorem case_caret {g : gG} {Q : Option Value ⊕ String → gM → Prop} (hst : (gl1 g).stackTraces = false) {z : UInt32} {i kk nn : Nat} (hi : i + 8 ≤ gsL g) (h4 : gsL g ≤ 4096) {c : Cf} {P π : Nat → Nat} {M : gM} (hb : bS c M) (hS : kS c P π M) (IH : ∀ c' P' π' M' v5 v6, bS c' M' → kS c' P' π' M' → E g 18 kk nn mL_law 1687 [.float z, .ref 1, .ref 129, .ref 179, .int (nI i), v5, v6] [] M' Q) {v5 v6 : Value} : E g 18 (kk + 12) (nn + 330) mL_law 1388 [.float z, .ref 1, .ref 129, .ref 179, .int (nI i), v5, v6] [] M Q := by
  have hw := hb.wf
  have hcf : cN c 128 1 < 2 := hw.fac
  have hct := hw.ct (cN c 128 1)
  have hct2 : cnt0 c ≤ 12 := hct
  have h16 : tl c ≤ 16 := hw.tl
  have hng := ng_1024 hw
  have hL := hb.lay
  refine E_aload_n dL_law_1388 rfl ?_
  refine E_aload_s dL_law_1389 rfl ?_
  refine E_iload dL_law_1390 rfl ?_
  refine E_iconst (v := nI 1) dL_law_1392 (by decide) ?_
  refine E_iadd_n dL_law_1393 ?_
  refine E_sld dL_law_1394 rfl (by omega) (by omega) ?_
  refine E_aload_n dL_law_1395 rfl ?_
  refine E_room (Nat.le_refl _) (k' := 1 + kk) (n' := 6 + nn) (by omega) (by omega) ?_
  refine E_callS3 (fr' := 9) (k1 := 1) (n1 := 6) (k2 := kk) (n2 := nn) dL_law_1396 kO_L_caret kL_L_163 rfl rfl rfl (by decide) (by decide) (by exact Nat.le_of_ble_eq_true rfl) (Or.inr (gW_at 1176 (by decide +kernel) (by decide +kernel))) rfl ?_
  refine w_caret hst hS (fun j z1 z2 M1 P1 π1 hS1 hke hm => ?_) (fun z1 M1 P1 π1 hS1 hke => ?_)
  · have hL := hS1.1.lay
    have hb1 := hb.ke hke hL
    refine gKv ?_
    refine E_istore dL_law_1399 (Nat.le_of_ble_eq_true rfl) (by decide) rfl ?_
    refine E_aload_n dL_law_1401 rfl ?_
    refine E_aload_s dL_law_1402 rfl ?_
    refine E_iload dL_law_1403 rfl ?_
    refine E_iconst (v := nI 1) dL_law_1405 (by decide) ?_
    refine E_iadd_n dL_law_1406 ?_
    refine E_sld dL_law_1407 rfl (by omega) (by omega) ?_
    refine E_room (Nat.le_refl _) (k' := 0 + kk) (n' := 0 + nn) (by omega) (by omega) ?_
    refine E_callV1 (fr' := 16) (k1 := 0) (n1 := 0) (k2 := kk) (n2 := nn) dL_law_1408 kO_X12_caret kL_L_165 (l_128 hL) (k_128 hL) ⟨by decide, rfl⟩ rfl (by decide) (by decide) (by exact Nat.le_of_ble_eq_true rfl) rfl ?_
    refine sp_X12_caret hb1 (fun jj y1 y2 M2 hf2 h0 => ?_) (fun y1 M2 hf2 h0 => ?_) 
    · obtain rfl : jj = j := nI_ij z2 y2 (by omega) (by omega)
      have hb2 := qbS hb1 hf2
      have hS2 := fr.S hS1 hf2 qR_8
      have hL := hb2.lay
      have hm2 := fr_L hf2 hm
      refine gKv ?_
      refine E_istore dL_law_1411 (Nat.le_of_ble_eq_true rfl) (by decide) rfl ?_
      refine E_aload_n dL_law_1413 rfl ?_
      refine E_room (Nat.le_refl _) (k' := 0 + kk) (n' := 0 + nn) (by omega) (by omega) ?_
      refine E_callV0 (fr' := 1) (k1 := 0) (n1 := 0) (k2 := kk) (n2 := nn) dL_law_1414 kO_X12_thrown kL_L_100 (l_128 hL) (k_128 hL) ⟨by decide, rfl⟩  (by decide) (by decide) (by exact Nat.le_of_ble_eq_true rfl) rfl ?_
      refine sp_X12_thrown hL h0 ?_
      refine gKv ?_
      refine E_iload dL_law_1417 rfl ?_
      refine E_icmp_eq (tgt := 1424) dL_law_1419 (by decide) (fun _ => ?_) (fun c0 => absurd (by decide) c0)
      refine E_iload dL_law_1424 rfl ?_
      refine E_if_ne (tgt := 1441) dL_law_1426 (by decide) (fun c0 => absurd c0 (by decide)) (fun _ => ?_)
      refine E_aload_n dL_law_1429 rfl ?_
      refine E_iconst (v := nI 0) dL_law_1430 (by decide) ?_
      refine E_lald dL_law_1431 (l_178 hL) (k_178 hL) rfl (by omega) (by decide) ?_
      refine E_iload dL_law_1432 rfl ?_
      refine E_i2l dL_law_1434 ?_
      refine E_lcmp dL_law_1435 ?_
      refine E_if_eq (tgt := 1441) dL_law_1436 (by decide) (fun _ => ?_) (fun c0 => absurd (lcz hm2) c0)
      refine E_goto (tgt := 1687) dL_law_1441 (by decide) ?_
      exact IH _ _ _ _ _ _ hb2 hS2
    · exfalso
      first
        | exact z1 y1
        | exact y1 z1
        | exact z2 y2
        | exact y2 z2
        | exact z3 y3
        | exact y3 z3
        | omega
        | exact z1 (bel_mk (by omega) y1 y2)
        | exact y1 (bel_mk (by omega) z1 z2)
        | exact z1 (gl_mk y1 y2)
        | exact y1 (gl_mk z1 z2)
        | exact z2 y3
        | exact y2 z3
        | exact z1 y3
        | exact y1 z3
        | exact z1 ⟨gl_mk y1 y2, y3⟩
        | exact y1 ⟨gl_mk z1 z2, z3⟩
        | exact z1 (in_mk (by omega) (Nat.zero_le _) y1 y2)
        | exact y1 (in_mk (by omega) (Nat.zero_le _) z1 z2)
        | exact z1 ((iIn1 (by omega)).mpr ⟨jj, y1, y2, y3⟩)
        | exact y1 ((iIn1 (by omega)).mpr ⟨j, z1, z2, z3⟩)
  · have hL := hS1.1.lay
    have hb1 := hb.ke hke hL
    refine gKv ?_
    refine E_istore dL_law_1399 (Nat.le_of_ble_eq_true rfl) (by decide) rfl ?_
    refine E_aload_n dL_law_1401 rfl ?_
    refine E_aload_s dL_law_1402 rfl ?_
    refine E_iload dL_law_1403 rfl ?_
    refine E_iconst (v := nI 1) dL_law_1405 (by decide) ?_
    refine E_iadd_n dL_law_1406 ?_
    refine E_sld dL_law_1407 rfl (by omega) (by omega) ?_
    refine E_room (Nat.le_refl _) (k' := 0 + kk) (n' := 0 + nn) (by omega) (by omega) ?_
    refine E_callV1 (fr' := 16) (k1 := 0) (n1 := 0) (k2 := kk) (n2 := nn) dL_law_1408 kO_X12_caret kL_L_165 (l_128 hL) (k_128 hL) ⟨by decide, rfl⟩ rfl (by decide) (by decide) (by exact Nat.le_of_ble_eq_true rfl) rfl ?_
    refine sp_X12_caret hb1 (fun jj y1 y2 M2 hf2 h0 => ?_) (fun y1 M2 hf2 h0 => ?_) 
    · exfalso
      first
        | exact z1 y1
        | exact y1 z1
        | exact z2 y2
        | exact y2 z2
        | exact z3 y3
        | exact y3 z3
        | omega
        | exact z1 (bel_mk (by omega) y1 y2)
        | exact y1 (bel_mk (by omega) z1 z2)
        | exact z1 (gl_mk y1 y2)
        | exact y1 (gl_mk z1 z2)
        | exact z2 y3
        | exact y2 z3
        | exact z1 y3
        | exact y1 z3
        | exact z1 ⟨gl_mk y1 y2, y3⟩
        | exact y1 ⟨gl_mk z1 z2, z3⟩
        | exact z1 (in_mk (by omega) (Nat.zero_le _) y1 y2)
        | exact y1 (in_mk (by omega) (Nat.zero_le _) z1 z2)
        | exact z1 ((iIn1 (by omega)).mpr ⟨jj, y1, y2, y3⟩)
        | exact y1 ((iIn1 (by omega)).mpr ⟨j, z1, z2, z3⟩)
    · have hb2 := qbS hb1 hf2
      have hS2 := fr.S hS1 hf2 qR_8
      have hL := hb2.lay
      refine gKv ?_
      refine E_istore dL_law_1411 (Nat.le_of_ble_eq_true rfl) (by decide) rfl ?_
      refine E_aload_n dL_law_1413 rfl ?_
      refine E_room (Nat.le_refl _) (k' := 0 + kk) (n' := 0 + nn) (by omega) (by omega) ?_
      refine E_callV0 (fr' := 1) (k1 := 0) (n1 := 0) (k2 := kk) (n2 := nn) dL_law_1414 kO_X12_thrown kL_L_100 (l_128 hL) (k_128 hL) ⟨by decide, rfl⟩  (by decide) (by decide) (by exact Nat.le_of_ble_eq_true rfl) rfl ?_
      refine sp_X12_thrown hL h0 ?_
      refine gKv ?_
      refine E_iload dL_law_1417 rfl ?_
      refine E_icmp_eq (tgt := 1424) dL_law_1419 (by decide) (fun _ => ?_) (fun c0 => absurd (by decide) c0)
      refine E_iload dL_law_1424 rfl ?_
      refine E_if_ne (tgt := 1441) dL_law_1426 (by decide) (fun _ => ?_) (fun c0 => absurd (by decide) c0)
      refine E_goto (tgt := 1687) dL_law_1441 (by decide) ?_
      exact IH _ _ _ _ _ _ hb2 hS2
set_option maxRecDepth 100000 in
set_option maxHeartbeats 4000000 in
theorem case_hit {g : gG} {Q : Option Value ⊕ String → gM → Prop} (hst : (gl1 g).stackTraces = false) {z : UInt32} {i kk nn : Nat} (hi : i + 8 ≤ gsL g) (h4 : gsL g ≤ 4096) {c : Cf} {P π : Nat → Nat} {M : gM} (hb : bS c M) (hS : kS c P π M) (IH : ∀ c' P' π' M' v5 v6, bS c' M' → kS c' P' π' M' → E g 18 kk nn mL_law 1687 [.float z, .ref 1, .ref 129, .ref 179, .int (nI i), v5, v6] [] M' Q) {v5 v6 : Value} : E g 18 (kk + 12) (nn + 330) mL_law 1444 [.float z, .ref 1, .ref 129, .ref 179, .int (nI i), v5, v6] [] M Q := by
  have hw := hb.wf
  have hcf : cN c 128 1 < 2 := hw.fac
  have hct := hw.ct (cN c 128 1)
  have hct2 : cnt0 c ≤ 12 := hct
  have h16 : tl c ≤ 16 := hw.tl
  have hng := ng_1024 hw
  have hL := hb.lay
  refine E_aload_n dL_law_1444 rfl ?_
  refine E_aload_s dL_law_1445 rfl ?_
  refine E_iload dL_law_1446 rfl ?_
  refine E_iconst (v := nI 1) dL_law_1448 (by decide) ?_
  refine E_iadd_n dL_law_1449 ?_
  refine E_sld dL_law_1450 rfl (by omega) (by omega) ?_
  refine E_aload_n dL_law_1451 rfl ?_
  refine E_room (Nat.le_refl _) (k' := 1 + kk) (n' := 6 + nn) (by omega) (by omega) ?_
  refine E_callS3 (fr' := 9) (k1 := 1) (n1 := 6) (k2 := kk) (n2 := nn) dL_law_1452 kO_L_hit kL_L_166 rfl rfl rfl (by decide) (by decide) (by exact Nat.le_of_ble_eq_true rfl) (Or.inr (gW_at 1199 (by decide +kernel) (by decide +kernel))) rfl ?_
  refine w_hit hst hS (fun z1 M1 P1 π1 hS1 hke hm => ?_) (fun z1 M1 P1 π1 hS1 hke => ?_)
  · have hL := hS1.1.lay
    have hb1 := hb.ke hke hL
    refine gKv ?_
    refine E_istore dL_law_1455 (Nat.le_of_ble_eq_true rfl) (by decide) rfl ?_
    refine E_aload_n dL_law_1457 rfl ?_
    refine E_aload_s dL_law_1458 rfl ?_
    refine E_iload dL_law_1459 rfl ?_
    refine E_iconst (v := nI 1) dL_law_1461 (by decide) ?_
    refine E_iadd_n dL_law_1462 ?_
    refine E_sld dL_law_1463 rfl (by omega) (by omega) ?_
    refine E_room (Nat.le_refl _) (k' := 0 + kk) (n' := 0 + nn) (by omega) (by omega) ?_
    refine E_callV1 (fr' := 16) (k1 := 0) (n1 := 0) (k2 := kk) (n2 := nn) dL_law_1464 kO_X12_hit kL_L_168 (l_128 hL) (k_128 hL) ⟨by decide, rfl⟩ rfl (by decide) (by decide) (by exact Nat.le_of_ble_eq_true rfl) rfl ?_
    refine sp_X12_hit hb1 (fun y1 M2 hf2 h0 => ?_) (fun y1 M2 hf2 h0 => ?_) 
    · have hb2 := qbS hb1 hf2
      have hS2 := fr.S hS1 hf2 qR_8
      have hL := hb2.lay
      have hm2 := fr_L hf2 hm
      refine gKv ?_
      refine E_istore dL_law_1467 (Nat.le_of_ble_eq_true rfl) (by decide) rfl ?_
      refine E_aload_n dL_law_1469 rfl ?_
      refine E_room (Nat.le_refl _) (k' := 0 + kk) (n' := 0 + nn) (by omega) (by omega) ?_
      refine E_callV0 (fr' := 1) (k1 := 0) (n1 := 0) (k2 := kk) (n2 := nn) dL_law_1470 kO_X12_thrown kL_L_100 (l_128 hL) (k_128 hL) ⟨by decide, rfl⟩  (by decide) (by decide) (by exact Nat.le_of_ble_eq_true rfl) rfl ?_
      refine sp_X12_thrown hL h0 ?_
      refine gKv ?_
      refine E_iload dL_law_1473 rfl ?_
      refine E_icmp_eq (tgt := 1480) dL_law_1475 (by decide) (fun _ => ?_) (fun c0 => absurd (by decide) c0)
      refine E_iload dL_law_1480 rfl ?_
      refine E_if_ne (tgt := 1497) dL_law_1482 (by decide) (fun c0 => absurd c0 (by decide)) (fun _ => ?_)
      refine E_aload_n dL_law_1485 rfl ?_
      refine E_iconst (v := nI 0) dL_law_1486 (by decide) ?_
      refine E_lald dL_law_1487 (l_178 hL) (k_178 hL) rfl (by omega) (by decide) ?_
      refine E_iload dL_law_1488 rfl ?_
      refine E_i2l dL_law_1490 ?_
      refine E_lcmp dL_law_1491 ?_
      refine E_if_eq (tgt := 1497) dL_law_1492 (by decide) (fun _ => ?_) (fun c0 => absurd (lcz hm2) c0)
      refine E_goto (tgt := 1687) dL_law_1497 (by decide) ?_
      exact IH _ _ _ _ _ _ hb2 hS2
    · exfalso
      first
        | exact z1 y1
        | exact y1 z1
        | exact z2 y2
        | exact y2 z2
        | exact z3 y3
        | exact y3 z3
        | omega
        | exact z1 (bel_mk (by omega) y1 y2)
        | exact y1 (bel_mk (by omega) z1 z2)
        | exact z1 (gl_mk y1 y2)
        | exact y1 (gl_mk z1 z2)
        | exact z2 y3
        | exact y2 z3
        | exact z1 y3
        | exact y1 z3
        | exact z1 ⟨gl_mk y1 y2, y3⟩
        | exact y1 ⟨gl_mk z1 z2, z3⟩
        | exact z1 (in_mk (by omega) (Nat.zero_le _) y1 y2)
        | exact y1 (in_mk (by omega) (Nat.zero_le _) z1 z2)
        | exact z1 ((iIn1 (by omega)).mpr ⟨jj, y1, y2, y3⟩)
        | exact y1 ((iIn1 (by omega)).mpr ⟨j, z1, z2, z3⟩)
  · have hL := hS1.1.lay
    have hb1 := hb.ke hke hL
    refine gKv ?_
    refine E_istore dL_law_1455 (Nat.le_of_ble_eq_true rfl) (by decide) rfl ?_
    refine E_aload_n dL_law_1457 rfl ?_
    refine E_aload_s dL_law_1458 rfl ?_
    refine E_iload dL_law_1459 rfl ?_
    refine E_iconst (v := nI 1) dL_law_1461 (by decide) ?_
    refine E_iadd_n dL_law_1462 ?_
    refine E_sld dL_law_1463 rfl (by omega) (by omega) ?_
    refine E_room (Nat.le_refl _) (k' := 0 + kk) (n' := 0 + nn) (by omega) (by omega) ?_
    refine E_callV1 (fr' := 16) (k1 := 0) (n1 := 0) (k2 := kk) (n2 := nn) dL_law_1464 kO_X12_hit kL_L_168 (l_128 hL) (k_128 hL) ⟨by decide, rfl⟩ rfl (by decide) (by decide) (by exact Nat.le_of_ble_eq_true rfl) rfl ?_
    refine sp_X12_hit hb1 (fun y1 M2 hf2 h0 => ?_) (fun y1 M2 hf2 h0 => ?_) 
    · exfalso
      first
        | exact z1 y1
        | exact y1 z1
        | exact z2 y2
        | exact y2 z2
        | exact z3 y3
        | exact y3 z3
        | omega
        | exact z1 (bel_mk (by omega) y1 y2)
        | exact y1 (bel_mk (by omega) z1 z2)
        | exact z1 (gl_mk y1 y2)
        | exact y1 (gl_mk z1 z2)
        | exact z2 y3
        | exact y2 z3
        | exact z1 y3
        | exact y1 z3
        | exact z1 ⟨gl_mk y1 y2, y3⟩
        | exact y1 ⟨gl_mk z1 z2, z3⟩
        | exact z1 (in_mk (by omega) (Nat.zero_le _) y1 y2)
        | exact y1 (in_mk (by omega) (Nat.zero_le _) z1 z2)
        | exact z1 ((iIn1 (by omega)).mpr ⟨jj, y1, y2, y3⟩)
        | exact y1 ((iIn1 (by omega)).mpr ⟨j, z1, z2, z3⟩)
    · have hb2 := qbS hb1 hf2
      have hS2 := fr.S hS1 hf2 qR_8
      have hL := hb2.lay
      refine gKv ?_
      refine E_istore dL_law_1467 (Nat.le_of_ble_eq_true rfl) (by decide) rfl ?_
      refine E_aload_n dL_law_1469 rfl ?_
      refine E_room (Nat.le_refl _) (k' := 0 + kk) (n' := 0 + nn) (by omega) (by omega) ?_
      refine E_callV0 (fr' := 1) (k1 := 0) (n1 := 0) (k2 := kk) (n2 := nn) dL_law_1470 kO_X12_thrown kL_L_100 (l_128 hL) (k_128 hL) ⟨by decide, rfl⟩  (by decide) (by decide) (by exact Nat.le_of_ble_eq_true rfl) rfl ?_
      refine sp_X12_thrown hL h0 ?_
      refine gKv ?_
      refine E_iload dL_law_1473 rfl ?_
      refine E_icmp_eq (tgt := 1480) dL_law_1475 (by decide) (fun _ => ?_) (fun c0 => absurd (by decide) c0)
      refine E_iload dL_law_1480 rfl ?_
      refine E_if_ne (tgt := 1497) dL_law_1482 (by decide) (fun _ => ?_) (fun c0 => absurd (by decide) c0)
      refine E_goto (tgt := 1687) dL_law_1497 (by decide) ?_
      exact IH _ _ _ _ _ _ hb2 hS2
set_option maxRecDepth 100000 in
set_option maxHeartbeats 4000000 in
theorem case_isSafe {g : gG} {Q : Option Value ⊕ String → gM → Prop} (hst : (gl1 g).stackTraces = false) {z : UInt32} {i kk nn : Nat} (hi : i + 8 ≤ gsL g) (h4 : gsL g ≤ 4096) {c : Cf} {P π : Nat → Nat} {M : gM} (hb : bS c M) (hS : kS c P π M) (IH : ∀ c' P' π' M' v5 v6, bS c' M' → kS c' P' π' M' → E g 18 kk nn mL_law 1687 [.float z, .ref 1, .ref 129, .ref 179, .int (nI i), v5, v6] [] M' Q) {v5 v6 : Value} : E g 18 (kk + 12) (nn + 330) mL_law 1500 [.float z, .ref 1, .ref 129, .ref 179, .int (nI i), v5, v6] [] M Q := by
  have hw := hb.wf
  have hcf : cN c 128 1 < 2 := hw.fac
  have hct := hw.ct (cN c 128 1)
  have hct2 : cnt0 c ≤ 12 := hct
  have h16 : tl c ≤ 16 := hw.tl
  have hng := ng_1024 hw
  have hL := hb.lay
  refine E_aload_n dL_law_1500 rfl ?_
  refine E_aload_s dL_law_1501 rfl ?_
  refine E_iload dL_law_1502 rfl ?_
  refine E_iconst (v := nI 1) dL_law_1504 (by decide) ?_
  refine E_iadd_n dL_law_1505 ?_
  refine E_sld dL_law_1506 rfl (by omega) (by omega) ?_
  refine E_aload_n dL_law_1507 rfl ?_
  refine E_room (Nat.le_refl _) (k' := 1 + kk) (n' := 6 + nn) (by omega) (by omega) ?_
  refine E_callS3 (fr' := 9) (k1 := 1) (n1 := 6) (k2 := kk) (n2 := nn) dL_law_1508 kO_L_isSafe kL_L_169 rfl rfl rfl (by decide) (by decide) (by exact Nat.le_of_ble_eq_true rfl) (Or.inr (gW_at 1210 (by decide +kernel) (by decide +kernel))) rfl ?_
  refine w_isSafe hst hS (fun j z1 z2 z3 M1 P1 π1 hS1 hke hm => ?_) (fun z1 M1 P1 π1 hS1 hke => ?_)
  · have hL := hS1.1.lay
    have hb1 := hb.ke hke hL
    refine gKv ?_
    refine E_istore dL_law_1511 (Nat.le_of_ble_eq_true rfl) (by decide) rfl ?_
    refine E_aload_n dL_law_1513 rfl ?_
    refine E_aload_s dL_law_1514 rfl ?_
    refine E_iload dL_law_1515 rfl ?_
    refine E_iconst (v := nI 1) dL_law_1517 (by decide) ?_
    refine E_iadd_n dL_law_1518 ?_
    refine E_sld dL_law_1519 rfl (by omega) (by omega) ?_
    refine E_room (Nat.le_refl _) (k' := 0 + kk) (n' := 0 + nn) (by omega) (by omega) ?_
    refine E_callV1 (fr' := 16) (k1 := 0) (n1 := 0) (k2 := kk) (n2 := nn) dL_law_1520 kO_X12_isSafe kL_L_171 (l_128 hL) (k_128 hL) ⟨by decide, rfl⟩ rfl (by decide) (by decide) (by exact Nat.le_of_ble_eq_true rfl) rfl ?_
    refine sp_X12_isSafe hb1 (fun jj y1 y2 y3 M2 hf2 h0 => ?_) (fun y1 M2 hf2 h0 => ?_) 
    · obtain rfl : jj = j := nI_ij z3 y3 (by omega) (by omega)
      have hb2 := qbS hb1 hf2
      have hS2 := fr.S hS1 hf2 qR_8
      have hL := hb2.lay
      have hm2 := fr_L hf2 hm
      refine gKv ?_
      refine E_istore dL_law_1523 (Nat.le_of_ble_eq_true rfl) (by decide) rfl ?_
      refine E_aload_n dL_law_1525 rfl ?_
      refine E_room (Nat.le_refl _) (k' := 0 + kk) (n' := 0 + nn) (by omega) (by omega) ?_
      refine E_callV0 (fr' := 1) (k1 := 0) (n1 := 0) (k2 := kk) (n2 := nn) dL_law_1526 kO_X12_thrown kL_L_100 (l_128 hL) (k_128 hL) ⟨by decide, rfl⟩  (by decide) (by decide) (by exact Nat.le_of_ble_eq_true rfl) rfl ?_
      refine sp_X12_thrown hL h0 ?_
      refine gKv ?_
      refine E_iload dL_law_1529 rfl ?_
      refine E_icmp_eq (tgt := 1536) dL_law_1531 (by decide) (fun _ => ?_) (fun c0 => absurd (by decide) c0)
      refine E_iload dL_law_1536 rfl ?_
      refine E_if_ne (tgt := 1560) dL_law_1538 (by decide) (fun c0 => absurd c0 (by decide)) (fun _ => ?_)
      refine E_aload_n dL_law_1541 rfl ?_
      refine E_iconst (v := nI 0) dL_law_1542 (by decide) ?_
      refine E_lald dL_law_1543 (l_178 hL) (k_178 hL) rfl (by omega) (by decide) ?_
      refine E_iload dL_law_1544 rfl ?_
      refine E_if_eq_b (tgt := 1553) dL_law_1546 (by decide) (fun e_1546 => ?_) (fun e_1546 => ?_)
      · refine E_lconst (v := 0) dL_law_1553 (by decide) ?_
        refine E_lcmp dL_law_1554 ?_
        refine E_if_eq (tgt := 1560) dL_law_1555 (by decide) (fun _ => ?_) (fun c0 => absurd (lcz (hm2.trans (by first | (rw [b2i_t (by assumption)]; decide) | (rw [b2i_f (by assumption)]; decide)))) c0)
        refine E_goto (tgt := 1687) dL_law_1560 (by decide) ?_
        exact IH _ _ _ _ _ _ hb2 hS2
      · refine E_lconst (v := 1) dL_law_1549 (by decide) ?_
        refine E_goto (tgt := 1554) dL_law_1550 (by decide) ?_
        refine E_lcmp dL_law_1554 ?_
        refine E_if_eq (tgt := 1560) dL_law_1555 (by decide) (fun _ => ?_) (fun c0 => absurd (lcz (hm2.trans (by first | (rw [b2i_t (by assumption)]; decide) | (rw [b2i_f (by assumption)]; decide)))) c0)
        refine E_goto (tgt := 1687) dL_law_1560 (by decide) ?_
        exact IH _ _ _ _ _ _ hb2 hS2
    · exfalso
      first
        | exact z1 y1
        | exact y1 z1
        | exact z2 y2
        | exact y2 z2
        | exact z3 y3
        | exact y3 z3
        | omega
        | exact z1 (bel_mk (by omega) y1 y2)
        | exact y1 (bel_mk (by omega) z1 z2)
        | exact z1 (gl_mk y1 y2)
        | exact y1 (gl_mk z1 z2)
        | exact z2 y3
        | exact y2 z3
        | exact z1 y3
        | exact y1 z3
        | exact z1 ⟨gl_mk y1 y2, y3⟩
        | exact y1 ⟨gl_mk z1 z2, z3⟩
        | exact z1 (in_mk (by omega) (Nat.zero_le _) y1 y2)
        | exact y1 (in_mk (by omega) (Nat.zero_le _) z1 z2)
        | exact z1 ((iIn1 (by omega)).mpr ⟨jj, y1, y2, y3⟩)
        | exact y1 ((iIn1 (by omega)).mpr ⟨j, z1, z2, z3⟩)
  · have hL := hS1.1.lay
    have hb1 := hb.ke hke hL
    refine gKv ?_
    refine E_istore dL_law_1511 (Nat.le_of_ble_eq_true rfl) (by decide) rfl ?_
    refine E_aload_n dL_law_1513 rfl ?_
    refine E_aload_s dL_law_1514 rfl ?_
    refine E_iload dL_law_1515 rfl ?_
    refine E_iconst (v := nI 1) dL_law_1517 (by decide) ?_
    refine E_iadd_n dL_law_1518 ?_
    refine E_sld dL_law_1519 rfl (by omega) (by omega) ?_
    refine E_room (Nat.le_refl _) (k' := 0 + kk) (n' := 0 + nn) (by omega) (by omega) ?_
    refine E_callV1 (fr' := 16) (k1 := 0) (n1 := 0) (k2 := kk) (n2 := nn) dL_law_1520 kO_X12_isSafe kL_L_171 (l_128 hL) (k_128 hL) ⟨by decide, rfl⟩ rfl (by decide) (by decide) (by exact Nat.le_of_ble_eq_true rfl) rfl ?_
    refine sp_X12_isSafe hb1 (fun jj y1 y2 y3 M2 hf2 h0 => ?_) (fun y1 M2 hf2 h0 => ?_) 
    · exfalso
      first
        | exact z1 y1
        | exact y1 z1
        | exact z2 y2
        | exact y2 z2
        | exact z3 y3
        | exact y3 z3
        | omega
        | exact z1 (bel_mk (by omega) y1 y2)
        | exact y1 (bel_mk (by omega) z1 z2)
        | exact z1 (gl_mk y1 y2)
        | exact y1 (gl_mk z1 z2)
        | exact z2 y3
        | exact y2 z3
        | exact z1 y3
        | exact y1 z3
        | exact z1 ⟨gl_mk y1 y2, y3⟩
        | exact y1 ⟨gl_mk z1 z2, z3⟩
        | exact z1 (in_mk (by omega) (Nat.zero_le _) y1 y2)
        | exact y1 (in_mk (by omega) (Nat.zero_le _) z1 z2)
        | exact z1 ((iIn1 (by omega)).mpr ⟨jj, y1, y2, y3⟩)
        | exact y1 ((iIn1 (by omega)).mpr ⟨j, z1, z2, z3⟩)
    · have hb2 := qbS hb1 hf2
      have hS2 := fr.S hS1 hf2 qR_8
      have hL := hb2.lay
      refine gKv ?_
      refine E_istore dL_law_1523 (Nat.le_of_ble_eq_true rfl) (by decide) rfl ?_
      refine E_aload_n dL_law_1525 rfl ?_
      refine E_room (Nat.le_refl _) (k' := 0 + kk) (n' := 0 + nn) (by omega) (by omega) ?_
      refine E_callV0 (fr' := 1) (k1 := 0) (n1 := 0) (k2 := kk) (n2 := nn) dL_law_1526 kO_X12_thrown kL_L_100 (l_128 hL) (k_128 hL) ⟨by decide, rfl⟩  (by decide) (by decide) (by exact Nat.le_of_ble_eq_true rfl) rfl ?_
      refine sp_X12_thrown hL h0 ?_
      refine gKv ?_
      refine E_iload dL_law_1529 rfl ?_
      refine E_icmp_eq (tgt := 1536) dL_law_1531 (by decide) (fun _ => ?_) (fun c0 => absurd (by decide) c0)
      refine E_iload dL_law_1536 rfl ?_
      refine E_if_ne (tgt := 1560) dL_law_1538 (by decide) (fun _ => ?_) (fun c0 => absurd (by decide) c0)
      refine E_goto (tgt := 1687) dL_law_1560 (by decide) ?_
      exact IH _ _ _ _ _ _ hb2 hS2
set_option maxRecDepth 100000 in
set_option maxHeartbeats 4000000 in
theorem case_fill {g : gG} {Q : Option Value ⊕ String → gM → Prop} (hst : (gl1 g).stackTraces = false) {z : UInt32} {i kk nn : Nat} (hi : i + 8 ≤ gsL g) (h4 : gsL g ≤ 4096) {c : Cf} {P π : Nat → Nat} {M : gM} (hb : bS c M) (hS : kS c P π M) (IH : ∀ c' P' π' M' v5 v6, bS c' M' → kS c' P' π' M' → E g 18 kk nn mL_law 1687 [.float z, .ref 1, .ref 129, .ref 179, .int (nI i), v5, v6] [] M' Q) {v5 v6 : Value} : E g 18 (kk + 12) (nn + 330) mL_law 1563 [.float z, .ref 1, .ref 129, .ref 179, .int (nI i), v5, v6] [] M Q := by
  have hw := hb.wf
  have hcf : cN c 128 1 < 2 := hw.fac
  have hct := hw.ct (cN c 128 1)
  have hct2 : cnt0 c ≤ 12 := hct
  have h16 : tl c ≤ 16 := hw.tl
  have hng := ng_1024 hw
  have hL := hb.lay
  refine E_aload_n dL_law_1563 rfl ?_
  refine E_aload_s dL_law_1564 rfl ?_
  refine E_iload dL_law_1565 rfl ?_
  refine E_iconst (v := nI 1) dL_law_1567 (by decide) ?_
  refine E_iadd_n dL_law_1568 ?_
  refine E_sld dL_law_1569 rfl (by omega) (by omega) ?_
  refine E_aload_n dL_law_1570 rfl ?_
  refine E_room (Nat.le_refl _) (k' := 1 + kk) (n' := 6 + nn) (by omega) (by omega) ?_
  refine E_callS3 (fr' := 9) (k1 := 1) (n1 := 6) (k2 := kk) (n2 := nn) dL_law_1571 kO_L_fill kL_L_172 rfl rfl rfl (by decide) (by decide) (by exact Nat.le_of_ble_eq_true rfl) (Or.inr (gW_at 1221 (by decide +kernel) (by decide +kernel))) rfl ?_
  refine w_fill hst hS (fun z1 M1 P1 π1 hS1 hke hm => ?_) (fun z1 M1 P1 π1 hS1 hke => ?_)
  · have hL := hS1.1.lay
    have hb1 := hb.ke hke hL
    refine gKv ?_
    refine E_istore dL_law_1574 (Nat.le_of_ble_eq_true rfl) (by decide) rfl ?_
    refine E_aload_n dL_law_1576 rfl ?_
    refine E_aload_s dL_law_1577 rfl ?_
    refine E_iload dL_law_1578 rfl ?_
    refine E_iconst (v := nI 1) dL_law_1580 (by decide) ?_
    refine E_iadd_n dL_law_1581 ?_
    refine E_sld dL_law_1582 rfl (by omega) (by omega) ?_
    refine E_room (Nat.le_refl _) (k' := 0 + kk) (n' := 0 + nn) (by omega) (by omega) ?_
    refine E_callV1 (fr' := 16) (k1 := 0) (n1 := 0) (k2 := kk) (n2 := nn) dL_law_1583 kO_X12_fill kL_L_174 (l_128 hL) (k_128 hL) ⟨by decide, rfl⟩ rfl (by decide) (by decide) (by exact Nat.le_of_ble_eq_true rfl) rfl ?_
    refine sp_X12_fill hb1 (smW_of hb1.wf) (fun y1 M2 hf2 h0 => ?_) (fun y1 M2 hf2 h0 => ?_) 
    · have hb2 := qbS hb1 hf2
      have hS2 := fr.S hS1 hf2 qR_8
      have hL := hb2.lay
      have hm2 := fr_L hf2 hm
      refine gKv ?_
      refine E_istore dL_law_1586 (Nat.le_of_ble_eq_true rfl) (by decide) rfl ?_
      refine E_aload_n dL_law_1588 rfl ?_
      refine E_room (Nat.le_refl _) (k' := 0 + kk) (n' := 0 + nn) (by omega) (by omega) ?_
      refine E_callV0 (fr' := 1) (k1 := 0) (n1 := 0) (k2 := kk) (n2 := nn) dL_law_1589 kO_X12_thrown kL_L_100 (l_128 hL) (k_128 hL) ⟨by decide, rfl⟩  (by decide) (by decide) (by exact Nat.le_of_ble_eq_true rfl) rfl ?_
      refine sp_X12_thrown hL h0 ?_
      refine gKv ?_
      refine E_iload dL_law_1592 rfl ?_
      refine E_icmp_eq (tgt := 1599) dL_law_1594 (by decide) (fun _ => ?_) (fun c0 => absurd (by decide) c0)
      refine E_iload dL_law_1599 rfl ?_
      refine E_if_ne (tgt := 1616) dL_law_1601 (by decide) (fun c0 => absurd c0 (by decide)) (fun _ => ?_)
      refine E_aload_n dL_law_1604 rfl ?_
      refine E_iconst (v := nI 0) dL_law_1605 (by decide) ?_
      refine E_lald dL_law_1606 (l_178 hL) (k_178 hL) rfl (by omega) (by decide) ?_
      refine E_iload dL_law_1607 rfl ?_
      refine E_i2l dL_law_1609 ?_
      refine E_lcmp dL_law_1610 ?_
      refine E_if_eq (tgt := 1616) dL_law_1611 (by decide) (fun _ => ?_) (fun c0 => absurd (lcz hm2) c0)
      refine E_goto (tgt := 1687) dL_law_1616 (by decide) ?_
      exact IH _ _ _ _ _ _ hb2 hS2
    · exfalso
      first
        | exact z1 y1
        | exact y1 z1
        | exact z2 y2
        | exact y2 z2
        | exact z3 y3
        | exact y3 z3
        | omega
        | exact z1 (bel_mk (by omega) y1 y2)
        | exact y1 (bel_mk (by omega) z1 z2)
        | exact z1 (gl_mk y1 y2)
        | exact y1 (gl_mk z1 z2)
        | exact z2 y3
        | exact y2 z3
        | exact z1 y3
        | exact y1 z3
        | exact z1 ⟨gl_mk y1 y2, y3⟩
        | exact y1 ⟨gl_mk z1 z2, z3⟩
        | exact z1 (in_mk (by omega) (Nat.zero_le _) y1 y2)
        | exact y1 (in_mk (by omega) (Nat.zero_le _) z1 z2)
        | exact z1 ((iIn1 (by omega)).mpr ⟨jj, y1, y2, y3⟩)
        | exact y1 ((iIn1 (by omega)).mpr ⟨j, z1, z2, z3⟩)
  · have hL := hS1.1.lay
    have hb1 := hb.ke hke hL
    refine gKv ?_
    refine E_istore dL_law_1574 (Nat.le_of_ble_eq_true rfl) (by decide) rfl ?_
    refine E_aload_n dL_law_1576 rfl ?_
    refine E_aload_s dL_law_1577 rfl ?_
    refine E_iload dL_law_1578 rfl ?_
    refine E_iconst (v := nI 1) dL_law_1580 (by decide) ?_
    refine E_iadd_n dL_law_1581 ?_
    refine E_sld dL_law_1582 rfl (by omega) (by omega) ?_
    refine E_room (Nat.le_refl _) (k' := 0 + kk) (n' := 0 + nn) (by omega) (by omega) ?_
    refine E_callV1 (fr' := 16) (k1 := 0) (n1 := 0) (k2 := kk) (n2 := nn) dL_law_1583 kO_X12_fill kL_L_174 (l_128 hL) (k_128 hL) ⟨by decide, rfl⟩ rfl (by decide) (by decide) (by exact Nat.le_of_ble_eq_true rfl) rfl ?_
    refine sp_X12_fill hb1 (smW_of hb1.wf) (fun y1 M2 hf2 h0 => ?_) (fun y1 M2 hf2 h0 => ?_) 
    · exfalso
      first
        | exact z1 y1
        | exact y1 z1
        | exact z2 y2
        | exact y2 z2
        | exact z3 y3
        | exact y3 z3
        | omega
        | exact z1 (bel_mk (by omega) y1 y2)
        | exact y1 (bel_mk (by omega) z1 z2)
        | exact z1 (gl_mk y1 y2)
        | exact y1 (gl_mk z1 z2)
        | exact z2 y3
        | exact y2 z3
        | exact z1 y3
        | exact y1 z3
        | exact z1 ⟨gl_mk y1 y2, y3⟩
        | exact y1 ⟨gl_mk z1 z2, z3⟩
        | exact z1 (in_mk (by omega) (Nat.zero_le _) y1 y2)
        | exact y1 (in_mk (by omega) (Nat.zero_le _) z1 z2)
        | exact z1 ((iIn1 (by omega)).mpr ⟨jj, y1, y2, y3⟩)
        | exact y1 ((iIn1 (by omega)).mpr ⟨j, z1, z2, z3⟩)
    · have hb2 := qbS hb1 hf2
      have hS2 := fr.S hS1 hf2 qR_8
      have hL := hb2.lay
      refine gKv ?_
      refine E_istore dL_law_1586 (Nat.le_of_ble_eq_true rfl) (by decide) rfl ?_
      refine E_aload_n dL_law_1588 rfl ?_
      refine E_room (Nat.le_refl _) (k' := 0 + kk) (n' := 0 + nn) (by omega) (by omega) ?_
      refine E_callV0 (fr' := 1) (k1 := 0) (n1 := 0) (k2 := kk) (n2 := nn) dL_law_1589 kO_X12_thrown kL_L_100 (l_128 hL) (k_128 hL) ⟨by decide, rfl⟩  (by decide) (by decide) (by exact Nat.le_of_ble_eq_true rfl) rfl ?_
      refine sp_X12_thrown hL h0 ?_
      refine gKv ?_
      refine E_iload dL_law_1592 rfl ?_
      refine E_icmp_eq (tgt := 1599) dL_law_1594 (by decide) (fun _ => ?_) (fun c0 => absurd (by decide) c0)
      refine E_iload dL_law_1599 rfl ?_
      refine E_if_ne (tgt := 1616) dL_law_1601 (by decide) (fun _ => ?_) (fun c0 => absurd (by decide) c0)
      refine E_goto (tgt := 1687) dL_law_1616 (by decide) ?_
      exact IH _ _ _ _ _ _ hb2 hS2
set_option maxRecDepth 100000 in
set_option maxHeartbeats 4000000 in
theorem case_filling {g : gG} {Q : Option Value ⊕ String → gM → Prop} (hst : (gl1 g).stackTraces = false) {z : UInt32} {i kk nn : Nat} (hi : i + 8 ≤ gsL g) (h4 : gsL g ≤ 4096) {c : Cf} {P π : Nat → Nat} {M : gM} (hb : bS c M) (hS : kS c P π M) (IH : ∀ c' P' π' M' v5 v6, bS c' M' → kS c' P' π' M' → E g 18 kk nn mL_law 1687 [.float z, .ref 1, .ref 129, .ref 179, .int (nI i), v5, v6] [] M' Q) {v5 v6 : Value} : E g 18 (kk + 12) (nn + 330) mL_law 1619 [.float z, .ref 1, .ref 129, .ref 179, .int (nI i), v5, v6] [] M Q := by
  have hw := hb.wf
  have hcf : cN c 128 1 < 2 := hw.fac
  have hct := hw.ct (cN c 128 1)
  have hct2 : cnt0 c ≤ 12 := hct
  have h16 : tl c ≤ 16 := hw.tl
  have hng := ng_1024 hw
  have hL := hb.lay
  refine E_aload_n dL_law_1619 rfl ?_
  refine E_aload_s dL_law_1620 rfl ?_
  refine E_iload dL_law_1621 rfl ?_
  refine E_iconst (v := nI 1) dL_law_1623 (by decide) ?_
  refine E_iadd_n dL_law_1624 ?_
  refine E_sld dL_law_1625 rfl (by omega) (by omega) ?_
  refine E_aload_s dL_law_1626 rfl ?_
  refine E_iload dL_law_1627 rfl ?_
  refine E_iconst (v := nI 2) dL_law_1629 (by decide) ?_
  refine E_iadd_n dL_law_1630 ?_
  refine E_sld dL_law_1631 rfl (by omega) (by omega) ?_
  refine E_aload_n dL_law_1632 rfl ?_
  refine E_room (Nat.le_refl _) (k' := 2 + kk) (n' := 12 + nn) (by omega) (by omega) ?_
  refine E_callS4 (fr' := 9) (k1 := 2) (n1 := 12) (k2 := kk) (n2 := nn) dL_law_1633 kO_L_filling kL_L_175 rfl rfl rfl rfl (by decide) (by decide) (by exact Nat.le_of_ble_eq_true rfl) (Or.inr (gW_at 1249 (by decide +kernel) (by decide +kernel))) rfl ?_
  refine w_filling hst hS (fun j z1 z2 z3 M1 P1 π1 hS1 hke hm => ?_) (fun z1 M1 P1 π1 hS1 hke => ?_) (fun j z1 z2 z3 M1 P1 π1 hS1 hke => ?_)
  · have hL := hS1.1.lay
    have hb1 := hb.ke hke hL
    refine gKv ?_
    refine E_istore dL_law_1636 (Nat.le_of_ble_eq_true rfl) (by decide) rfl ?_
    refine E_aload_n dL_law_1638 rfl ?_
    refine E_aload_s dL_law_1639 rfl ?_
    refine E_iload dL_law_1640 rfl ?_
    refine E_iconst (v := nI 1) dL_law_1642 (by decide) ?_
    refine E_iadd_n dL_law_1643 ?_
    refine E_sld dL_law_1644 rfl (by omega) (by omega) ?_
    refine E_aload_s dL_law_1645 rfl ?_
    refine E_iload dL_law_1646 rfl ?_
    refine E_iconst (v := nI 2) dL_law_1648 (by decide) ?_
    refine E_iadd_n dL_law_1649 ?_
    refine E_sld dL_law_1650 rfl (by omega) (by omega) ?_
    refine E_room (Nat.le_refl _) (k' := 0 + kk) (n' := 0 + nn) (by omega) (by omega) ?_
    refine E_callV2 (fr' := 16) (k1 := 0) (n1 := 0) (k2 := kk) (n2 := nn) dL_law_1651 kO_X12_filling kL_L_177 (l_128 hL) (k_128 hL) ⟨by decide, rfl⟩ rfl rfl (by decide) (by decide) (by exact Nat.le_of_ble_eq_true rfl) rfl ?_
    refine sp_X12_filling hb1 (smW_of hb1.wf) (fun jj y1 y2 y3 M2 hf2 h0 => ?_) (fun jj y1 y2 y3 M2 hf2 h0 => ?_) (fun y1 M2 hf2 h0 => ?_) 
    · obtain rfl : jj = j := nI_ij z2 y2 (by omega) (by omega)
      have hb2 := qbS hb1 hf2
      have hS2 := fr.S hS1 hf2 qR_8
      have hL := hb2.lay
      have hm2 := fr_L hf2 hm
      refine gKv ?_
      refine E_istore dL_law_1654 (Nat.le_of_ble_eq_true rfl) (by decide) rfl ?_
      refine E_aload_n dL_law_1656 rfl ?_
      refine E_room (Nat.le_refl _) (k' := 0 + kk) (n' := 0 + nn) (by omega) (by omega) ?_
      refine E_callV0 (fr' := 1) (k1 := 0) (n1 := 0) (k2 := kk) (n2 := nn) dL_law_1657 kO_X12_thrown kL_L_100 (l_128 hL) (k_128 hL) ⟨by decide, rfl⟩  (by decide) (by decide) (by exact Nat.le_of_ble_eq_true rfl) rfl ?_
      refine sp_X12_thrown hL h0 ?_
      refine gKv ?_
      refine E_iload dL_law_1660 rfl ?_
      refine E_icmp_eq (tgt := 1667) dL_law_1662 (by decide) (fun _ => ?_) (fun c0 => absurd (by decide) c0)
      refine E_iload dL_law_1667 rfl ?_
      refine E_if_ne (tgt := 1684) dL_law_1669 (by decide) (fun c0 => absurd c0 (by decide)) (fun _ => ?_)
      refine E_aload_n dL_law_1672 rfl ?_
      refine E_iconst (v := nI 0) dL_law_1673 (by decide) ?_
      refine E_lald dL_law_1674 (l_178 hL) (k_178 hL) rfl (by omega) (by decide) ?_
      refine E_iload dL_law_1675 rfl ?_
      refine E_i2l dL_law_1677 ?_
      refine E_lcmp dL_law_1678 ?_
      refine E_if_eq (tgt := 1684) dL_law_1679 (by decide) (fun _ => ?_) (fun c0 => absurd (lcz hm2) c0)
      refine E_goto (tgt := 1687) dL_law_1684 (by decide) ?_
      exact IH _ _ _ _ _ _ hb2 hS2
    · exfalso
      first
        | exact z1 (bel_mk (by omega) y1 y2)
        | exact y1 (bel_mk (by omega) z1 z2)
        | exact z3 y3
        | exact y3 z3
    · exfalso
      first
        | exact z1 (bel_mk (by omega) y1 y2)
        | exact y1 (bel_mk (by omega) z1 z2)
        | exact z3 y3
        | exact y3 z3
  · have hL := hS1.1.lay
    have hb1 := hb.ke hke hL
    refine gKv ?_
    refine E_istore dL_law_1636 (Nat.le_of_ble_eq_true rfl) (by decide) rfl ?_
    refine E_aload_n dL_law_1638 rfl ?_
    refine E_aload_s dL_law_1639 rfl ?_
    refine E_iload dL_law_1640 rfl ?_
    refine E_iconst (v := nI 1) dL_law_1642 (by decide) ?_
    refine E_iadd_n dL_law_1643 ?_
    refine E_sld dL_law_1644 rfl (by omega) (by omega) ?_
    refine E_aload_s dL_law_1645 rfl ?_
    refine E_iload dL_law_1646 rfl ?_
    refine E_iconst (v := nI 2) dL_law_1648 (by decide) ?_
    refine E_iadd_n dL_law_1649 ?_
    refine E_sld dL_law_1650 rfl (by omega) (by omega) ?_
    refine E_room (Nat.le_refl _) (k' := 0 + kk) (n' := 0 + nn) (by omega) (by omega) ?_
    refine E_callV2 (fr' := 16) (k1 := 0) (n1 := 0) (k2 := kk) (n2 := nn) dL_law_1651 kO_X12_filling kL_L_177 (l_128 hL) (k_128 hL) ⟨by decide, rfl⟩ rfl rfl (by decide) (by decide) (by exact Nat.le_of_ble_eq_true rfl) rfl ?_
    refine sp_X12_filling hb1 (smW_of hb1.wf) (fun jj y1 y2 y3 M2 hf2 h0 => ?_) (fun jj y1 y2 y3 M2 hf2 h0 => ?_) (fun y1 M2 hf2 h0 => ?_) 
    · exfalso
      first
        | exact z1 (bel_mk (by omega) y1 y2)
        | exact y1 (bel_mk (by omega) z1 z2)
        | exact z3 y3
        | exact y3 z3
    · exfalso
      first
        | exact z1 (bel_mk (by omega) y1 y2)
        | exact y1 (bel_mk (by omega) z1 z2)
        | exact z3 y3
        | exact y3 z3
    · have hb2 := qbS hb1 hf2
      have hS2 := fr.S hS1 hf2 qR_8
      have hL := hb2.lay
      refine gKv ?_
      refine E_istore dL_law_1654 (Nat.le_of_ble_eq_true rfl) (by decide) rfl ?_
      refine E_aload_n dL_law_1656 rfl ?_
      refine E_room (Nat.le_refl _) (k' := 0 + kk) (n' := 0 + nn) (by omega) (by omega) ?_
      refine E_callV0 (fr' := 1) (k1 := 0) (n1 := 0) (k2 := kk) (n2 := nn) dL_law_1657 kO_X12_thrown kL_L_100 (l_128 hL) (k_128 hL) ⟨by decide, rfl⟩  (by decide) (by decide) (by exact Nat.le_of_ble_eq_true rfl) rfl ?_
      refine sp_X12_thrown hL h0 ?_
      refine gKv ?_
      refine E_iload dL_law_1660 rfl ?_
      refine E_icmp_eq (tgt := 1667) dL_law_1662 (by decide) (fun _ => ?_) (fun c0 => absurd (by decide) c0)
      refine E_iload dL_law_1667 rfl ?_
      refine E_if_ne (tgt := 1684) dL_law_1669 (by decide) (fun _ => ?_) (fun c0 => absurd (by decide) c0)
      refine E_goto (tgt := 1687) dL_law_1684 (by decide) ?_
      exact IH _ _ _ _ _ _ hb2 hS2
  · have hL := hS1.1.lay
    have hb1 := hb.ke hke hL
    refine gKv ?_
    refine E_istore dL_law_1636 (Nat.le_of_ble_eq_true rfl) (by decide) rfl ?_
    refine E_aload_n dL_law_1638 rfl ?_
    refine E_aload_s dL_law_1639 rfl ?_
    refine E_iload dL_law_1640 rfl ?_
    refine E_iconst (v := nI 1) dL_law_1642 (by decide) ?_
    refine E_iadd_n dL_law_1643 ?_
    refine E_sld dL_law_1644 rfl (by omega) (by omega) ?_
    refine E_aload_s dL_law_1645 rfl ?_
    refine E_iload dL_law_1646 rfl ?_
    refine E_iconst (v := nI 2) dL_law_1648 (by decide) ?_
    refine E_iadd_n dL_law_1649 ?_
    refine E_sld dL_law_1650 rfl (by omega) (by omega) ?_
    refine E_room (Nat.le_refl _) (k' := 0 + kk) (n' := 0 + nn) (by omega) (by omega) ?_
    refine E_callV2 (fr' := 16) (k1 := 0) (n1 := 0) (k2 := kk) (n2 := nn) dL_law_1651 kO_X12_filling kL_L_177 (l_128 hL) (k_128 hL) ⟨by decide, rfl⟩ rfl rfl (by decide) (by decide) (by exact Nat.le_of_ble_eq_true rfl) rfl ?_
    refine sp_X12_filling hb1 (smW_of hb1.wf) (fun jj y1 y2 y3 M2 hf2 h0 => ?_) (fun jj y1 y2 y3 M2 hf2 h0 => ?_) (fun y1 M2 hf2 h0 => ?_) 
    · exfalso
      first
        | exact z1 (bel_mk (by omega) y1 y2)
        | exact y1 (bel_mk (by omega) z1 z2)
        | exact z3 y3
        | exact y3 z3
    · obtain rfl : jj = j := nI_ij z2 y2 (by omega) (by omega)
      have hb2 := qbS hb1 hf2
      have hS2 := fr.S hS1 hf2 qR_8
      have hL := hb2.lay
      refine gKv ?_
      refine E_istore dL_law_1654 (Nat.le_of_ble_eq_true rfl) (by decide) rfl ?_
      refine E_aload_n dL_law_1656 rfl ?_
      refine E_room (Nat.le_refl _) (k' := 0 + kk) (n' := 0 + nn) (by omega) (by omega) ?_
      refine E_callV0 (fr' := 1) (k1 := 0) (n1 := 0) (k2 := kk) (n2 := nn) dL_law_1657 kO_X12_thrown kL_L_100 (l_128 hL) (k_128 hL) ⟨by decide, rfl⟩  (by decide) (by decide) (by exact Nat.le_of_ble_eq_true rfl) rfl ?_
      refine sp_X12_thrown hL h0 ?_
      refine gKv ?_
      refine E_iload dL_law_1660 rfl ?_
      refine E_icmp_eq (tgt := 1667) dL_law_1662 (by decide) (fun _ => ?_) (fun c0 => absurd (by decide) c0)
      refine E_iload dL_law_1667 rfl ?_
      refine E_if_ne (tgt := 1684) dL_law_1669 (by decide) (fun _ => ?_) (fun c0 => absurd (by decide) c0)
      refine E_goto (tgt := 1687) dL_law_1684 (by decide) ?_
      exact IH _ _ _ _ _ _ hb2 hS2
    · exfalso
      first
        | exact z1 (bel_mk (by omega) y1 y2)
        | exact y1 (bel_mk (by omega) z1 z2)
        | exact z3 y3
        | exact y3 z3
