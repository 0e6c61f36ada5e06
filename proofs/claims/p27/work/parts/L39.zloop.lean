set_option maxRecDepth 100000 in
set_option maxHeartbeats 4000000 in
theorem td_L_law {g : gG} {Q : Option Value ⊕ String → gM → Prop} (hst : (gl1 g).stackTraces = false) {i kk nn : Nat} (hi : i < 110) (K : ∀ M, Q (.inl (some (.int (nI 1)))) M) (IH : ∀ c P π M lk v16 v17 v18 v19 v20 v21 v22 v23 v24, lwS c P π M → lkS c lk → E g 13 kk nn mL_law 205 [.float 0, .ref 1, .ref 129, .ref 130, .ref 131, .ref 132, .ref 133, .ref 134, .ref 135, .ref 136, .ref 137, .ref 138, .ref 139, .long lk, .null, .int (nI (i + 1)), v16, v17, v18, v19, v20, v21, v22, v23, v24] [] M Q) {M : gM} {c : Cf} {P π : Nat → Nat} {lk : Int64} (hs : lwS c P π M) (hlk : lkS c lk) {act : Nat} {u cc : Int32} {v20 v21 v22 v23 v24 : Value} (ha : act < 30) : E g 13 (kk + 900) (nn + 15000) mL_law 271 [.float 0, .ref 1, .ref 129, .ref 130, .ref 131, .ref 132, .ref 133, .ref 134, .ref 135, .ref 136, .ref 137, .ref 138, .ref 139, .long lk, .null, .int (nI i), .int (nI act), .int u, .int cc, .int (nI 1), v20, v21, v22, v23, v24] [] M Q := by
  have hS := hs.1
  have h := hs.2.1
  have hI := hs.2.2.1
  have hW := hs.2.2.2.1
  have h10 := hs.2.2.2.2
  have hL := h.lay
  have hf : fc0 c < 2 := h.wf.1.1
  have hct := h.ct hf
  have ht10 := h.t10
  refine E_iload dL_law_271 rfl ?_
  refine E_bipush (v := nI 6) dL_law_273 (by decide) ?_
  refine E_icmp_ge_n (tgt := 583) dL_law_275 (by decide) (by omega) (by omega) (fun c_275 => ?_) (fun c_275 => ?_)
  · refine E_iload dL_law_583 rfl ?_
    refine E_bipush (v := nI 15) dL_law_585 (by decide) ?_
    refine E_icmp_ge_n (tgt := 610) dL_law_587 (by decide) (by omega) (by omega) (fun c_587 => ?_) (fun c_587 => ?_)
    · refine E_iload dL_law_610 rfl ?_
      refine E_bipush (v := nI 19) dL_law_612 (by decide) ?_
      refine E_icmp_ge_n (tgt := 640) dL_law_614 (by decide) (by omega) (by omega) (fun c_614 => ?_) (fun c_614 => ?_)
      · refine E_iload dL_law_640 rfl ?_
        refine E_bipush (v := nI 19) dL_law_642 (by decide) ?_
        refine E_icmp_ne_n (tgt := 725) dL_law_644 (by decide) (by omega) (by omega) (fun c_644 => ?_) (fun c_644 => ?_)
        · refine E_iload dL_law_725 rfl ?_
          refine E_bipush (v := nI 20) dL_law_727 (by decide) ?_
          refine E_icmp_ne_n (tgt := 795) dL_law_729 (by decide) (by omega) (by omega) (fun c_729 => ?_) (fun c_729 => ?_)
          · refine E_iload dL_law_795 rfl ?_
            refine E_bipush (v := nI 23) dL_law_797 (by decide) ?_
            refine E_icmp_ge_n (tgt := 985) dL_law_799 (by decide) (by omega) (by omega) (fun c_799 => ?_) (fun c_799 => ?_)
            · refine E_iload dL_law_985 rfl ?_
              refine E_bipush (v := nI 23) dL_law_987 (by decide) ?_
              refine E_icmp_ne_n (tgt := 999) dL_law_989 (by decide) (by omega) (by omega) (fun c_989 => ?_) (fun c_989 => ?_)
              · refine E_aload dL_law_999 rfl ?_
                refine E_iconst (v := nI 1) dL_law_1001 (by decide) ?_
                refine E_ialdL (v := nI (tl c)) dL_law_1002 (l_132 hL) (k_132 hL) rfl (by omega) (by decide) h.b1 ?_
                refine E_bipush (v := nI 10) dL_law_1003 (by decide) ?_
                refine E_icmp_ne_n (tgt := 1113) dL_law_1005 (by decide) (by omega) (by omega) (fun c_1005 => ?_) (fun c_1005 => ?_)
                · exact ti_L_law hst hi K IH hs hlk (by omega)
                · exact tc_L_law hst hi K IH hs hlk (by omega)
              · refine E_aload dL_law_992 rfl ?_
                refine E_iconst (v := nI 1) dL_law_994 (by decide) ?_
                refine E_ialdL (v := nI (tl c)) dL_law_995 (l_132 hL) (k_132 hL) rfl (by omega) (by decide) h.b1 ?_
                refine E_if_gt_n (tgt := 1008) dL_law_996 (by decide) (by omega) (fun c_996 => ?_) (fun c_996 => ?_)
                · exact tc_L_law hst hi K IH hs hlk (by omega)
                · refine E_aload dL_law_999 rfl ?_
                  refine E_iconst (v := nI 1) dL_law_1001 (by decide) ?_
                  refine E_ialdL (v := nI (tl c)) dL_law_1002 (l_132 hL) (k_132 hL) rfl (by omega) (by decide) h.b1 ?_
                  refine E_bipush (v := nI 10) dL_law_1003 (by decide) ?_
                  refine E_icmp_ne_n (tgt := 1113) dL_law_1005 (by decide) (by omega) (by omega) (fun c_1005 => ?_) (fun c_1005 => ?_)
                  · exact ti_L_law hst hi K IH hs hlk (by omega)
                  · exact tc_L_law hst hi K IH hs hlk (by omega)
            · refine E_aload dL_law_802 rfl ?_
              refine E_iconst (v := nI 1) dL_law_804 (by decide) ?_
              refine E_ialdL (v := nI (tl c)) dL_law_805 (l_132 hL) (k_132 hL) rfl (by omega) (by decide) h.b1 ?_
              refine E_if_le_n (tgt := 985) dL_law_806 (by decide) (by omega) (fun c_806 => ?_) (fun c_806 => ?_)
              · refine E_iload dL_law_985 rfl ?_
                refine E_bipush (v := nI 23) dL_law_987 (by decide) ?_
                refine E_icmp_ne_n (tgt := 999) dL_law_989 (by decide) (by omega) (by omega) (fun c_989 => ?_) (fun c_989 => ?_)
                · refine E_aload dL_law_999 rfl ?_
                  refine E_iconst (v := nI 1) dL_law_1001 (by decide) ?_
                  refine E_ialdL (v := nI (tl c)) dL_law_1002 (l_132 hL) (k_132 hL) rfl (by omega) (by decide) h.b1 ?_
                  refine E_bipush (v := nI 10) dL_law_1003 (by decide) ?_
                  refine E_icmp_ne_n (tgt := 1113) dL_law_1005 (by decide) (by omega) (by omega) (fun c_1005 => ?_) (fun c_1005 => ?_)
                  · exact ti_L_law hst hi K IH hs hlk (by omega)
                  · exact tc_L_law hst hi K IH hs hlk (by omega)
                · refine E_aload dL_law_992 rfl ?_
                  refine E_iconst (v := nI 1) dL_law_994 (by decide) ?_
                  refine E_ialdL (v := nI (tl c)) dL_law_995 (l_132 hL) (k_132 hL) rfl (by omega) (by decide) h.b1 ?_
                  refine E_if_gt_n (tgt := 1008) dL_law_996 (by decide) (by omega) (fun c_996 => ?_) (fun c_996 => ?_)
                  · exact tc_L_law hst hi K IH hs hlk (by omega)
                  · refine E_aload dL_law_999 rfl ?_
                    refine E_iconst (v := nI 1) dL_law_1001 (by decide) ?_
                    refine E_ialdL (v := nI (tl c)) dL_law_1002 (l_132 hL) (k_132 hL) rfl (by omega) (by decide) h.b1 ?_
                    refine E_bipush (v := nI 10) dL_law_1003 (by decide) ?_
                    refine E_icmp_ne_n (tgt := 1113) dL_law_1005 (by decide) (by omega) (by omega) (fun c_1005 => ?_) (fun c_1005 => ?_)
                    · exact ti_L_law hst hi K IH hs hlk (by omega)
                    · exact tc_L_law hst hi K IH hs hlk (by omega)
              · exact tx_L_law hst hi K IH hs hlk (by omega)
          · exact tg_L_law hst hi K IH hs hlk
        · exact tk_L_law hst hi K IH hs hlk
      · exact tf_L_law hst hi K IH hs hlk (by omega) (by omega)
    · exact tr_L_law hst hi K IH hs hlk
  · exact tl_L_law hst hi K IH hs hlk
set_option maxRecDepth 100000 in
set_option maxHeartbeats 4000000 in
theorem law_loop {g : gG} {Q : Option Value ⊕ String → gM → Prop} (hst : (gl1 g).stackTraces = false) (hg : gsL g < 2 ^ 20) (K : ∀ M, Q (.inl (some (.int (nI 1)))) M) : ∀ r i, i + r = 110 → ∀ c P π M lk v16 v17 v18 v19 v20 v21 v22 v23 v24, lwS c P π M → lkS c lk → E g 13 (900 * r) (15000 * r) mL_law 205 [.float 0, .ref 1, .ref 129, .ref 130, .ref 131, .ref 132, .ref 133, .ref 134, .ref 135, .ref 136, .ref 137, .ref 138, .ref 139, .long lk, .null, .int (nI i), v16, v17, v18, v19, v20, v21, v22, v23, v24] [] M Q := by
  intro r
  induction r with
  | zero =>
    intro i hi c P π M lk v16 v17 v18 v19 v20 v21 v22 v23 v24 hs hlk
    have hL := hs.2.1.lay
    refine E_iload dL_law_205 rfl ?_
    refine E_bipush (v := nI 110) dL_law_207 (by decide) ?_
    refine E_icmp_ge_n (tgt := 1318) dL_law_209 (by decide) (by omega) (by omega) (fun c_209 => ?_) (fun c_209 => ?_)
    · refine E_iconst (v := nI 1) dL_law_1318 (by decide) ?_
      refine E_iret dL_law_1319 (Or.inr ⟨rfl, by decide⟩) ?_
      exact K M
    · exact absurd c_209 (by omega)
  | succ r ih =>
    intro i hi c P π M lk v16 v17 v18 v19 v20 v21 v22 v23 v24 hs hlk
    have hL := hs.2.1.lay
    show E g 13 (900 * r + 900) (15000 * r + 15000) mL_law 205 [.float 0, .ref 1, .ref 129, .ref 130, .ref 131, .ref 132, .ref 133, .ref 134, .ref 135, .ref 136, .ref 137, .ref 138, .ref 139, .long lk, .null, .int (nI i), v16, v17, v18, v19, v20, v21, v22, v23, v24] [] M Q
    have hi1 : i < 110 := by omega
    have IH : ∀ c P π M lk v16 v17 v18 v19 v20 v21 v22 v23 v24, lwS c P π M → lkS c lk → E g 13 (900 * r) (15000 * r) mL_law 205 [.float 0, .ref 1, .ref 129, .ref 130, .ref 131, .ref 132, .ref 133, .ref 134, .ref 135, .ref 136, .ref 137, .ref 138, .ref 139, .long lk, .null, .int (nI (i + 1)), v16, v17, v18, v19, v20, v21, v22, v23, v24] [] M Q := fun c P π M lk v16 v17 v18 v19 v20 v21 v22 v23 v24 hs hlk => ih (i + 1) (by omega) c P π M lk v16 v17 v18 v19 v20 v21 v22 v23 v24 hs hlk
    have go : ∀ act, act < 30 → E g 13 (900 * r + 900) (15000 * r + 15000) mL_law 242 [.float 0, .ref 1, .ref 129, .ref 130, .ref 131, .ref 132, .ref 133, .ref 134, .ref 135, .ref 136, .ref 137, .ref 138, .ref 139, .long lk, .null, .int (nI i), v16, v17, v18, v19, v20, v21, v22, v23, v24] [.int (nI act)] M Q := by
      intro act hact
      refine E_istore dL_law_242 (Nat.le_of_ble_eq_true rfl) (by decide) rfl ?_
      refine E_aload_s dL_law_244 rfl ?_
      refine E_iconst (v := nI 3) dL_law_245 (by decide) ?_
      refine E_iload dL_law_246 rfl ?_
      refine E_imul_n dL_law_248 ?_
      refine E_iconst (v := nI 1) dL_law_249 (by decide) ?_
      refine E_iadd_n dL_law_250 ?_
      refine E_room (Nat.le_refl _) (k' := 0 + (900 * r + 900)) (n' := 0 + (15000 * r + 15000)) (by omega) (by omega) ?_
      refine E_callT2 (fr' := 1) (k1 := 0) (n1 := 0) (k2 := (900 * r + 900)) (n2 := (15000 * r + 15000)) dL_law_251 kO_L_cell kL_L_307 (by exact Nat.le_of_ble_eq_true rfl) (by decide) (by exact Nat.le_of_ble_eq_true rfl) (Or.inl rfl) rfl ?_
      refine sp_L_cell (by omega) hg (fun u => ?_)
      refine gKv ?_
      refine E_istore dL_law_254 (Nat.le_of_ble_eq_true rfl) (by decide) rfl ?_
      refine E_aload_s dL_law_256 rfl ?_
      refine E_iconst (v := nI 3) dL_law_257 (by decide) ?_
      refine E_iload dL_law_258 rfl ?_
      refine E_imul_n dL_law_260 ?_
      refine E_iconst (v := nI 2) dL_law_261 (by decide) ?_
      refine E_iadd_n dL_law_262 ?_
      refine E_room (Nat.le_refl _) (k' := 0 + (900 * r + 900)) (n' := 0 + (15000 * r + 15000)) (by omega) (by omega) ?_
      refine E_callT2 (fr' := 1) (k1 := 0) (n1 := 0) (k2 := (900 * r + 900)) (n2 := (15000 * r + 15000)) dL_law_263 kO_L_cell kL_L_307 (by exact Nat.le_of_ble_eq_true rfl) (by decide) (by exact Nat.le_of_ble_eq_true rfl) (Or.inl rfl) rfl ?_
      refine sp_L_cell (by omega) hg (fun cc => ?_)
      refine gKv ?_
      refine E_istore dL_law_266 (Nat.le_of_ble_eq_true rfl) (by decide) rfl ?_
      refine E_iconst (v := nI 1) dL_law_268 (by decide) ?_
      refine E_istore dL_law_269 (Nat.le_of_ble_eq_true rfl) (by decide) rfl ?_
      exact td_L_law hst hi1 K IH hs hlk hact
    refine E_iload dL_law_205 rfl ?_
    refine E_bipush (v := nI 110) dL_law_207 (by decide) ?_
    refine E_icmp_ge_n (tgt := 1318) dL_law_209 (by decide) (by omega) (by omega) (fun c_209 => ?_) (fun c_209 => ?_)
    · refine E_iconst (v := nI 1) dL_law_1318 (by decide) ?_
      refine E_iret dL_law_1319 (Or.inr ⟨rfl, by decide⟩) ?_
      exact absurd c_209 (by omega)
    · refine E_iload dL_law_212 rfl ?_
      refine E_bipush (v := nI 12) dL_law_214 (by decide) ?_
      refine E_icmp_ge_n (tgt := 229) dL_law_216 (by decide) (by omega) (by omega) (fun c_216 => ?_) (fun c_216 => ?_)
      · refine E_aload_s dL_law_229 rfl ?_
        refine E_iconst (v := nI 3) dL_law_230 (by decide) ?_
        refine E_iload dL_law_231 rfl ?_
        refine E_imul_n dL_law_233 ?_
        refine E_room (Nat.le_refl _) (k' := 0 + (900 * r + 900)) (n' := 0 + (15000 * r + 15000)) (by omega) (by omega) ?_
        refine E_callT2 (fr' := 1) (k1 := 0) (n1 := 0) (k2 := (900 * r + 900)) (n2 := (15000 * r + 15000)) dL_law_234 kO_L_cell kL_L_307 (by exact Nat.le_of_ble_eq_true rfl) (by decide) (by exact Nat.le_of_ble_eq_true rfl) (Or.inl rfl) rfl ?_
        refine sp_L_cell (by omega) hg (fun x0 => ?_)
        refine gKv ?_
        refine E_bipush (v := nI 30) dL_law_237 (by decide) ?_
        refine E_room (Nat.le_refl _) (k' := 0 + (900 * r + 900)) (n' := 0 + (15000 * r + 15000)) (by omega) (by omega) ?_
        refine E_callT2 (fr' := 1) (k1 := 0) (n1 := 0) (k2 := (900 * r + 900)) (n2 := (15000 * r + 15000)) dL_law_239 kO_L_low kL_L_229 (by exact Nat.le_of_ble_eq_true rfl) (by decide) (by exact Nat.le_of_ble_eq_true rfl) (Or.inl rfl) rfl ?_
        refine sp_L_low (by decide) (by decide) ?_
        refine gKv ?_
        exact go _ (by first | exact lowN_lt _ (by decide) | omega)
      · refine E_iload dL_law_219 rfl ?_
        refine E_iconst (v := nI 2) dL_law_221 (by decide) ?_
        refine E_irem_n dL_law_222 (by omega) (by omega) (by omega) ?_
        refine E_bipush (v := nI 6) dL_law_223 (by decide) ?_
        refine E_imul_n dL_law_225 ?_
        refine E_goto (tgt := 242) dL_law_226 (by decide) ?_
        exact go _ (by first | exact lowN_lt _ (by decide) | omega)
