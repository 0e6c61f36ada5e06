/-! the law: a line filled -/
def qI (pm n : Nat) (V : Nat → Int32) (M : gM) : Prop := pm < mN M ∧ 139 ≤ pm ∧ mK M pm = (13, 16) ∧ ∀ j, j < n → mI M pm j = V j
theorem qI.kq {pm n : Nat} {V : Nat → Int32} {M M' : gM} (h : qI pm n V M) (hl : kq M M') : qI pm n V M' := ⟨Nat.lt_of_lt_of_le h.1 hl.1, h.2.1, (hl.2.1 _ h.1).trans h.2.2.1, fun j hj => (hl.2.2 _ _ (by have := h.2.1; omega) h.1).1.trans (h.2.2.2 j hj)⟩
/-- what the law must find of a line -/
def fOK (c : Cf) (w ms left : Int32) (V : Nat → Int32) : Prop := (0 ≤ ms → fiV c w = left ∧ ∀ j, j < tl c → fgV c w j = V j) ∧ (¬ 0 ≤ ms → fiV c w = -100 ∧ ∀ j, j < tl c → fgV c w j = nI 0)
set_option maxRecDepth 100000 in
set_option maxHeartbeats 4000000 in
theorem p2A_L_filled {g : gG} {M : gM} {Q : Option Value ⊕ String → gM → Prop} {c : Cf} {ps pm kk nn : Nat} {w ms : Int32} {M0 : gM} (h0 : lT c M0) (hy0 : myS c ps M0) {x11 : Int32} {W : Nat → Int32} (hn : ms < 0) (hm : mF pm W M0 M) (K : ∀ M x13, mF pm W M0 M → E g 10 kk nn mL_filled 223 [.ref 1, .ref 129, .ref 132, .ref 133, .ref (ps + 1), .int w, .int ms, .ref (pm + 1), .int ms, .int (nI (wSt c)), .int (b2i (∃ j, j < tl c ∧ msP c j)), .int x11, .int (b2i (∃ j, j < tl c ∧ cN c 141 j = 0)), .int x13] [] M Q) : ∀ v12 v13, E g 10 kk nn mL_filled 132 [.ref 1, .ref 129, .ref 132, .ref 133, .ref (ps + 1), .int w, .int ms, .ref (pm + 1), .int ms, .int (nI (wSt c)), .int (b2i (∃ j, j < tl c ∧ msP c j)), .int x11, v12, v13] [] M Q := by
  intro v12 v13
  have h := h0
  have hy := hy0
  have hl := hm.1
  have h := hl.T h0
  have hy := hy0.R hl
  have hL := h.lay
  have h10 := h.t10
  have ht10 := h.S.t10
  refine E_iconst (v := nI 0) dL_filled_132 (by decide) ?_
  refine E_istore dL_filled_133 (Nat.le_of_ble_eq_true rfl) (by decide) rfl ?_
  refine E_iconst (v := nI 0) dL_filled_135 (by decide) ?_
  refine E_istore dL_filled_136 (Nat.le_of_ble_eq_true rfl) (by decide) rfl ?_
  have z := bl_L_filled (g := g) (Q := Q) (kk := kk) (nn := nn) (w := w) (ms := ms) (left := ms) (x11 := x11) h0 hy0 hm (fun x13 => by
    refine E_iconst (v := nI 0) dL_filled_172 (by decide) ?_
    refine E_istore dL_filled_173 (Nat.le_of_ble_eq_true rfl) (by decide) rfl ?_
    refine E_iload dL_filled_175 rfl ?_
    refine E_if_eq_b (tgt := 223) dL_filled_177 (by decide) (fun c_177 => ?_) (fun c_177 => ?_)
    · exact K M _ hm
    · refine E_iload dL_filled_180 rfl ?_
      refine E_if_le (tgt := 223) dL_filled_182 (by decide) (fun c_182 => ?_) (fun c_182 => ?_)
      · exact K M _ hm
      · exact absurd (Int32.le_of_lt hn) c_182) 0 (Nat.zero_le _) (Nat.le_refl _)
  rw [show b2i (∃ j, j < 0 ∧ cN c 141 j = 0) = nI 0 from b2i_f (fun ⟨j, q, _⟩ => absurd q (Nat.not_lt_zero j))] at z
  exact z
set_option maxRecDepth 100000 in
set_option maxHeartbeats 4000000 in
theorem p2B_L_filled {g : gG} {M : gM} {Q : Option Value ⊕ String → gM → Prop} {c : Cf} {ps pm kk nn : Nat} {w ms : Int32} {M0 : gM} (h0 : lT c M0) (hy0 : myS c ps M0) {x11 : Int32} {L : Nat} {W : Nat → Int32} (hL2 : L < 2 ^ 30) (hW : ∀ j, j < tl c → cN c 141 j = 0 → W j = nI 0) (hm : mF pm W M0 M) (K : ∀ M x13, mF pm (v2E c W L) M0 M → E g 10 kk nn mL_filled 223 [.ref 1, .ref 129, .ref 132, .ref 133, .ref (ps + 1), .int w, .int ms, .ref (pm + 1), .int (cI (blk c (tl c) = 0) (nI L) (nI 0)), .int (nI (wSt c)), .int (b2i (∃ j, j < tl c ∧ msP c j)), .int x11, .int (b2i (∃ j, j < tl c ∧ cN c 141 j = 0)), .int x13] [] M Q) : ∀ v12 v13, E g 10 kk nn mL_filled 132 [.ref 1, .ref 129, .ref 132, .ref 133, .ref (ps + 1), .int w, .int ms, .ref (pm + 1), .int (nI L), .int (nI (wSt c)), .int (b2i (∃ j, j < tl c ∧ msP c j)), .int x11, v12, v13] [] M Q := by
  intro v12 v13
  have h := h0
  have hy := hy0
  have hl := hm.1
  have h := hl.T h0
  have hy := hy0.R hl
  have hL := h.lay
  have h10 := h.t10
  have ht10 := h.S.t10
  have aft : ∀ x13 : Value, E g 10 kk nn mL_filled 172 [.ref 1, .ref 129, .ref 132, .ref 133, .ref (ps + 1), .int w, .int ms, .ref (pm + 1), .int (nI L), .int (nI (wSt c)), .int (b2i (∃ j, j < tl c ∧ msP c j)), .int x11, .int (b2i (∃ j, j < tl c ∧ cN c 141 j = 0)), x13] [] M Q := by
    intro x13
    by_cases hB : 0 < blk c (tl c)
    · rw [cI_f (by omega)] at K
      have h00 : 0 < tl c := by have := blk_b c (tl c); omega
      have e4 : blk c 0 = 0 := rfl
      have z := lp2_L_filled (g := g) (Q := Q) (kk := kk) (nn := nn) (w := w) (ms := ms) (x11 := x11) (W := W) h0 hy0 hL2 hB K L 0 (by omega) 0 (Nat.zero_le _) (Nat.le_refl _) M (by rw [e4]; omega) (hm.congr (fun j _ => by
        by_cases q : j < tl c ∧ cN c 141 j = 0
        · rw [v2_in q, cI_f (Nat.not_lt_zero _), hW j q.1 q.2]
        · rw [v2_out q]))
      rw [e4, Nat.zero_mul, Nat.zero_add, Nat.sub_zero] at z
      refine E_iconst (v := nI 0) dL_filled_172 (by decide) ?_
      refine E_istore dL_filled_173 (Nat.le_of_ble_eq_true rfl) (by decide) rfl ?_
      exact z
    · rw [cI_t (by omega)] at K
      have hno : ¬ (∃ j, j < tl c ∧ cN c 141 j = 0) := fun z => hB ((blk_p (tl c)).mpr z)
      have hm2 : mF pm (v2E c W L) M0 M := hm.congr (fun j _ => cI_f (fun q => hno ⟨j, q⟩))
      refine E_iconst (v := nI 0) dL_filled_172 (by decide) ?_
      refine E_istore dL_filled_173 (Nat.le_of_ble_eq_true rfl) (by decide) rfl ?_
      refine E_iload dL_filled_175 rfl ?_
      refine E_if_eq_b (tgt := 223) dL_filled_177 (by decide) (fun c_177 => ?_) (fun c_177 => ?_)
      · exact K M _ hm2
      · refine E_iload dL_filled_180 rfl ?_
        refine E_if_le_n (tgt := 223) dL_filled_182 (by decide) (by omega) (fun c_182 => ?_) (fun c_182 => ?_)
        · exact K M _ hm2
        · exact absurd c_177 hno
  refine E_iconst (v := nI 0) dL_filled_132 (by decide) ?_
  refine E_istore dL_filled_133 (Nat.le_of_ble_eq_true rfl) (by decide) rfl ?_
  refine E_iconst (v := nI 0) dL_filled_135 (by decide) ?_
  refine E_istore dL_filled_136 (Nat.le_of_ble_eq_true rfl) (by decide) rfl ?_
  have z := bl_L_filled (g := g) (Q := Q) (kk := kk) (nn := nn) (w := w) (ms := ms) (left := nI L) (x11 := x11) h0 hy0 hm aft 0 (Nat.zero_le _) (Nat.le_refl _)
  rw [show b2i (∃ j, j < 0 ∧ cN c 141 j = 0) = nI 0 from b2i_f (fun ⟨j, q, _⟩ => absurd q (Nat.not_lt_zero j))] at z
  exact z
set_option maxRecDepth 100000 in
set_option maxHeartbeats 4000000 in
theorem en_L_filled {g : gG} {M : gM} {Q : Option Value ⊕ String → gM → Prop} (hst : (gl1 g).stackTraces = false) {c : Cf} {P : Nat → Nat} {ps pm : Nat} {w ms left x9 x10 x11 x12 : Int32} {V : Nat → Int32} (hw : iIn w (nI 0) (nI 10000)) (hf : fOK c w ms left V) {M00 : gM} {π : Nat → Nat} (hS : kS c P π M) (h : lT c M) (hq : qI pm (tl c) V M) (h00 : kq M00 M) (K : ∀ M1 π1, kS c P π1 M1 → lT c M1 → kq M00 M1 → Q (.inl (some (.int (nI 1)))) M1) : ∀ v13, E g 10 5 30 mL_filled 290 [.ref 1, .ref 129, .ref 132, .ref 133, .ref (ps + 1), .int w, .int ms, .ref (pm + 1), .int left, .int x9, .int x10, .int x11, .int x12, v13] [] M Q := by
  intro v13
  have hL := h.lay
  have h10 := h.t10
  refine E_aload_n dL_filled_290 rfl ?_
  refine E_iload dL_filled_291 rfl ?_
  refine E_aload_n dL_filled_293 rfl ?_
  refine E_iconst (v := nI 1) dL_filled_294 (by decide) ?_
  refine E_ialdL (v := nI (tl c)) dL_filled_295 (l_132 hL) (k_132 hL) rfl (by omega) (by decide) h.S.b1 ?_
  refine E_callT3 (fr' := 9) (k1 := 2) (n1 := 12) (k2 := 3) (n2 := 18) dL_filled_296 kO_L_filling kL_L_251 (by exact Nat.le_of_ble_eq_true rfl) (by decide) (by exact Nat.le_of_ble_eq_true rfl) (Or.inr (gW_at 1203 (by decide +kernel) (by decide +kernel))) rfl ?_
  refine w_filling hst hS (fun j hj e _ _ _ _ _ => absurd ((nI_eq (by omega) (by omega)).mp e) (by omega)) (fun z1 M1 π1 hS1 hkd => ?_) (fun j hj e _ _ _ _ _ => absurd ((nI_eq (by omega) (by omega)).mp e) (by omega))
  have hS := hS1
  have hL := hS1.1.lay
  have h := h.kq hL hkd
  have hq := hq.kq hkd
  have h00 := h00.trans hkd
  refine gKv ?_
  refine E_sipush (v := -7100) dL_filled_299 (by decide) ?_
  refine E_icmp_ne_r (tgt := 340) dL_filled_302 (by decide) (fun c0 => absurd c0 (by decide)) (fun _ => ?_)
  refine E_aload_n dL_filled_305 rfl ?_
  refine E_iconst (v := nI 1) dL_filled_306 (by decide) ?_
  refine E_ialdL (v := nI (tl c)) dL_filled_307 (l_132 hL) (k_132 hL) rfl (by omega) (by decide) h.S.b1 ?_
  refine E_if_eq_n (tgt := 323) dL_filled_308 (by decide) (by omega) (fun c_308 => ?_) (fun c_308 => ?_)
  · refine E_aload_n dL_filled_323 rfl ?_
    refine E_sipush (v := nI 10001) dL_filled_324 (by decide) ?_
    refine E_callT2 (fr' := 9) (k1 := 1) (n1 := 6) (k2 := 2) (n2 := 12) dL_filled_327 kO_L_fill kL_L_249 (by exact Nat.le_of_ble_eq_true rfl) (by decide) (by exact Nat.le_of_ble_eq_true rfl) (Or.inr (gW_at 1174 (by decide +kernel) (by decide +kernel))) rfl ?_
    refine w_fill hst hS (fun z1 _ _ _ _ => absurd z1 (by decide)) (fun z1 M1 π1 hS1 hkd => ?_)
    have hS := hS1
    have hL := hS1.1.lay
    have h := h.kq hL hkd
    have hq := hq.kq hkd
    have h00 := h00.trans hkd
    refine gKv ?_
    refine E_sipush (v := -7200) dL_filled_330 (by decide) ?_
    refine E_icmp_ne_r (tgt := 340) dL_filled_333 (by decide) (fun c0 => absurd c0 (by decide)) (fun _ => ?_)
    refine E_iconst (v := nI 1) dL_filled_336 (by decide) ?_
    refine E_goto (tgt := 341) dL_filled_337 (by decide) ?_
    refine E_iret dL_filled_341 (Or.inr ⟨rfl, by decide⟩) ?_
    exact K _ _ hS h h00
  · refine E_aload_n dL_filled_311 rfl ?_
    refine E_iconst (v := -1) dL_filled_312 (by decide) ?_
    refine E_iconst (v := nI 0) dL_filled_313 (by decide) ?_
    refine E_callT3 (fr' := 9) (k1 := 2) (n1 := 12) (k2 := 1) (n2 := 6) dL_filled_314 kO_L_filling kL_L_251 (by exact Nat.le_of_ble_eq_true rfl) (by decide) (by exact Nat.le_of_ble_eq_true rfl) (Or.inr (gW_at 1203 (by decide +kernel) (by decide +kernel))) rfl ?_
    refine w_filling hst hS (fun j hj e z1 _ _ _ _ => absurd z1 (by decide)) (fun z1 _ _ _ _ => absurd ((iBel_iff (by omega)).mpr ⟨0, by omega, rfl⟩) z1) (fun j hj e z1 M1 π1 hS1 hkd => ?_)
    have hS := hS1
    have hL := hS1.1.lay
    have h := h.kq hL hkd
    have hq := hq.kq hkd
    have h00 := h00.trans hkd
    refine gKv ?_
    refine E_sipush (v := -7200) dL_filled_317 (by decide) ?_
    refine E_icmp_ne_r (tgt := 340) dL_filled_320 (by decide) (fun c0 => absurd c0 (by decide)) (fun _ => ?_)
    refine E_aload_n dL_filled_323 rfl ?_
    refine E_sipush (v := nI 10001) dL_filled_324 (by decide) ?_
    refine E_callT2 (fr' := 9) (k1 := 1) (n1 := 6) (k2 := 0) (n2 := 0) dL_filled_327 kO_L_fill kL_L_249 (by exact Nat.le_of_ble_eq_true rfl) (by decide) (by exact Nat.le_of_ble_eq_true rfl) (Or.inr (gW_at 1174 (by decide +kernel) (by decide +kernel))) rfl ?_
    refine w_fill hst hS (fun z1 _ _ _ _ => absurd z1 (by decide)) (fun z1 M1 π1 hS1 hkd => ?_)
    have hS := hS1
    have hL := hS1.1.lay
    have h := h.kq hL hkd
    have hq := hq.kq hkd
    have h00 := h00.trans hkd
    refine gKv ?_
    refine E_sipush (v := -7200) dL_filled_330 (by decide) ?_
    refine E_icmp_ne_r (tgt := 340) dL_filled_333 (by decide) (fun c0 => absurd c0 (by decide)) (fun _ => ?_)
    refine E_iconst (v := nI 1) dL_filled_336 (by decide) ?_
    refine E_goto (tgt := 341) dL_filled_337 (by decide) ?_
    refine E_iret dL_filled_341 (Or.inr ⟨rfl, by decide⟩) ?_
    exact K _ _ hS h h00
set_option maxRecDepth 100000 in
set_option maxHeartbeats 4000000 in
theorem ck_L_filled {g : gG} {Q : Option Value ⊕ String → gM → Prop} (hst : (gl1 g).stackTraces = false) {c : Cf} {P : Nat → Nat} {ps pm : Nat} {w ms left x9 x10 x11 x12 : Int32} {V : Nat → Int32} (hw : iIn w (nI 0) (nI 10000)) (hf : fOK c w ms left V) {M00 : gM} (K : ∀ M1 π1, kS c P π1 M1 → lT c M1 → kq M00 M1 → Q (.inl (some (.int (nI 1)))) M1) : ∀ i, i ≤ tl c → 0 ≤ i → ∀ M π, kS c P π M → lT c M → qI pm (tl c) V M → kq M00 M → E g 10 (2 * (tl c - i) + 5) (12 * (tl c - i) + 30) mL_filled 249 [.ref 1, .ref 129, .ref 132, .ref 133, .ref (ps + 1), .int w, .int ms, .ref (pm + 1), .int left, .int x9, .int x10, .int x11, .int x12, .int (nI i)] [] M Q := by
  refine lpUp (tl c) (fun i hi ih => ?_)
  intro _ M π hS h hq h00
  have hL := h.lay
  have h10 := h.t10
  have hM : M = M := rfl
  refine E_iload dL_filled_249 rfl ?_
  refine E_aload_n dL_filled_251 rfl ?_
  refine E_iconst (v := nI 1) dL_filled_252 (by decide) ?_
  refine E_ialdL (v := nI (tl c)) dL_filled_253 (l_132 hL) (k_132 hL) rfl (by omega) (by decide) h.S.b1 ?_
  refine E_icmp_ge_n (tgt := 290) dL_filled_254 (by decide) (by omega) (by omega) (fun c_254 => ?_) (fun c_254 => ?_)
  · obtain rfl : i = tl c := by omega
    exact E_room (Nat.le_refl _) (by omega) (by omega) (en_L_filled hst hw hf hS h hq h00 K _)
  · have hil : i < tl c := by omega
    refine E_aload_n dL_filled_257 rfl ?_
    refine E_iload dL_filled_258 rfl ?_
    refine E_iload dL_filled_260 rfl ?_
    refine E_room (Nat.le_refl _) (k' := 2 + 2 * (tl c - (i + 1)) + 5) (n' := 12 + 12 * (tl c - (i + 1)) + 30) (by omega) (by omega) ?_
    refine E_callT3 (fr' := 9) (k1 := 2) (n1 := 12) (k2 := 2 * (tl c - (i + 1)) + 5) (n2 := 12 * (tl c - (i + 1)) + 30) dL_filled_262 kO_L_filling kL_L_251 (by exact Nat.le_of_ble_eq_true rfl) (by decide) (by exact Nat.le_of_ble_eq_true rfl) (Or.inr (gW_at 1203 (by decide +kernel) (by decide +kernel))) rfl ?_
    refine w_filling hst hS (fun j hj e z1 M1 π1 hS1 hkd => ?_) (fun z1 _ _ _ _ => absurd ((iBel_iff (by omega)).mpr ⟨i, hil, rfl⟩) z1) (fun j hj e z1 _ _ _ _ => absurd hw z1)
    obtain rfl : i = j := (nI_eq (by omega) (by omega)).mp e
    have hS := hS1
    have hL := hS1.1.lay
    have h := h.kq hL hkd
    have hq := hq.kq hkd
    have h00 := h00.trans hkd
    refine gKv ?_
    refine E_iload dL_filled_265 rfl ?_
    refine E_if_ge (tgt := 274) dL_filled_267 (by decide) (fun c_267 => ?_) (fun c_267 => ?_)
    · refine E_aload dL_filled_274 rfl ?_
      refine E_iload dL_filled_276 rfl ?_
      refine E_ialdL (v := _) dL_filled_278 hq.1 hq.2.2.1 rfl (by omega) (by decide) (hq.2.2.2 i hil) ?_
      refine E_icmp_eq (tgt := 284) dL_filled_279 (by decide) (fun c_279 => ?_) (fun c_279 => ?_)
      · refine E_iinc_n (d := 1) dL_filled_284 rfl rfl rfl (by decide) rfl ?_
        refine E_goto (tgt := 249) dL_filled_287 (by decide) ?_
        exact ih hil (Nat.zero_le _) _ _ hS h hq h00
      · refine E_iconst (v := nI 0) dL_filled_282 (by decide) ?_
        refine E_iret dL_filled_283 (Or.inr ⟨rfl, by decide⟩) ?_
        exfalso
        first
          | exact c_279 ((hf.1 c_267).2 i hil)
          | exact c_279 ((hf.2 c_267).2 i hil)
          | exact c_279 ((hf.1 (Int32.not_lt.mp c_267)).2 i hil)
          | exact c_279 ((hf.2 (Int32.not_le.mpr c_267)).2 i hil)
    · refine E_iconst (v := nI 0) dL_filled_270 (by decide) ?_
      refine E_goto (tgt := 279) dL_filled_271 (by decide) ?_
      refine E_icmp_eq (tgt := 284) dL_filled_279 (by decide) (fun c_279 => ?_) (fun c_279 => ?_)
      · refine E_iinc_n (d := 1) dL_filled_284 rfl rfl rfl (by decide) rfl ?_
        refine E_goto (tgt := 249) dL_filled_287 (by decide) ?_
        exact ih hil (Nat.zero_le _) _ _ hS h hq h00
      · refine E_iconst (v := nI 0) dL_filled_282 (by decide) ?_
        refine E_iret dL_filled_283 (Or.inr ⟨rfl, by decide⟩) ?_
        exfalso
        first
          | exact c_279 ((hf.1 c_267).2 i hil)
          | exact c_279 ((hf.2 c_267).2 i hil)
          | exact c_279 ((hf.1 (Int32.not_lt.mp c_267)).2 i hil)
          | exact c_279 ((hf.2 (Int32.not_le.mpr c_267)).2 i hil)
set_option maxRecDepth 100000 in
set_option maxHeartbeats 4000000 in
theorem p3_L_filled {g : gG} {M : gM} {Q : Option Value ⊕ String → gM → Prop} (hst : (gl1 g).stackTraces = false) {c : Cf} {P : Nat → Nat} {ps pm : Nat} {w ms left x9 x10 x11 x12 : Int32} {V : Nat → Int32} (hw : iIn w (nI 0) (nI 10000)) (hf : fOK c w ms left V) {M00 : gM} {π : Nat → Nat} (hS : kS c P π M) (h : lT c M) (hq : qI pm (tl c) V M) (h00 : kq M00 M) (K : ∀ M1 π1, kS c P π1 M1 → lT c M1 → kq M00 M1 → Q (.inl (some (.int (nI 1)))) M1) : ∀ v13, E g 10 29 184 mL_filled 223 [.ref 1, .ref 129, .ref 132, .ref 133, .ref (ps + 1), .int w, .int ms, .ref (pm + 1), .int left, .int x9, .int x10, .int x11, .int x12, v13] [] M Q := by
  intro v13
  have hL := h.lay
  have h10 := h.t10
  refine E_aload_n dL_filled_223 rfl ?_
  refine E_iload dL_filled_224 rfl ?_
  refine E_callT2 (fr' := 9) (k1 := 1) (n1 := 6) (k2 := 28) (n2 := 178) dL_filled_226 kO_L_fill kL_L_249 (by exact Nat.le_of_ble_eq_true rfl) (by decide) (by exact Nat.le_of_ble_eq_true rfl) (Or.inr (gW_at 1174 (by decide +kernel) (by decide +kernel))) rfl ?_
  refine w_fill hst hS (fun z1 M1 π1 hS1 hkd => ?_) (fun z1 _ _ _ _ => absurd hw z1)
  have hS := hS1
  have hL := hS1.1.lay
  have h := h.kq hL hkd
  have hq := hq.kq hkd
  have h00 := h00.trans hkd
  refine gKv ?_
  refine E_iload dL_filled_229 rfl ?_
  refine E_if_ge (tgt := 239) dL_filled_231 (by decide) (fun c_231 => ?_) (fun c_231 => ?_)
  · refine E_iload dL_filled_239 rfl ?_
    refine E_icmp_eq (tgt := 246) dL_filled_241 (by decide) (fun c_241 => ?_) (fun c_241 => ?_)
    · refine E_iconst (v := nI 0) dL_filled_246 (by decide) ?_
      refine E_istore dL_filled_247 (Nat.le_of_ble_eq_true rfl) (by decide) rfl ?_
      exact E_room (Nat.le_refl _) (by omega) (by omega) (ck_L_filled hst hw hf K 0 (Nat.zero_le _) (Nat.le_refl _) _ _ hS h hq h00)
    · refine E_iconst (v := nI 0) dL_filled_244 (by decide) ?_
      refine E_iret dL_filled_245 (Or.inr ⟨rfl, by decide⟩) ?_
      exfalso
      first
        | exact c_241 (hf.1 c_231).1
        | exact c_241 (hf.2 c_231).1
        | exact c_241 (hf.1 (Int32.not_lt.mp c_231)).1
        | exact c_241 (hf.2 (Int32.not_le.mpr c_231)).1
  · refine E_bipush (v := -100) dL_filled_234 (by decide) ?_
    refine E_goto (tgt := 241) dL_filled_236 (by decide) ?_
    refine E_icmp_eq (tgt := 246) dL_filled_241 (by decide) (fun c_241 => ?_) (fun c_241 => ?_)
    · refine E_iconst (v := nI 0) dL_filled_246 (by decide) ?_
      refine E_istore dL_filled_247 (Nat.le_of_ble_eq_true rfl) (by decide) rfl ?_
      exact E_room (Nat.le_refl _) (by omega) (by omega) (ck_L_filled hst hw hf K 0 (Nat.zero_le _) (Nat.le_refl _) _ _ hS h hq h00)
    · refine E_iconst (v := nI 0) dL_filled_244 (by decide) ?_
      refine E_iret dL_filled_245 (Or.inr ⟨rfl, by decide⟩) ?_
      exfalso
      first
        | exact c_241 (hf.1 c_231).1
        | exact c_241 (hf.2 c_231).1
        | exact c_241 (hf.1 (Int32.not_lt.mp c_231)).1
        | exact c_241 (hf.2 (Int32.not_le.mpr c_231)).1
theorem fOK_n {c : Cf} {w ms left : Int32} {V : Nat → Int32} (hm : mis c w = ms) (hn : ms < 0) : fOK c w ms left V := by
  have h0 : ¬ 0 ≤ ms := Int32.not_le.mpr hn
  refine ⟨fun z => absurd z h0, fun _ => ⟨?_, fun j _ => ?_⟩⟩
  · unfold fiV; rw [hm, cI_f h0]
  · unfold fgV; rw [hm, cI_f h0]
theorem fOK_p {c : Cf} {w : Int32} {q : Nat} (hm : mis c w = nI q) (hq : q < 2 ^ 31) : fOK c w (nI q) (cI (blk c (tl c) = 0) (nI (stL c q)) (nI 0)) (v2E c (v1E c q) (stL c q)) := by
  have h0 : 0 ≤ nI q := nI_nneg hq
  refine ⟨fun _ => ⟨?_, fun j hj => ?_⟩, fun z => absurd h0 z⟩
  · unfold fiV; rw [hm, cI_t h0, gN_nI hq]
  · unfold fgV
    rw [hm, cI_t h0, gN_nI hq]
    unfold v2E
    by_cases e : cN c 141 j = 0
    · rw [cI_t e, cI_t (P := j < tl c ∧ cN c 141 j = 0) ⟨hj, e⟩]
    · rw [cI_f e, cI_f (P := j < tl c ∧ cN c 141 j = 0) (fun z => e z.2)]
      unfold v1E
      by_cases e2 : msP c j
      · have : 0 < stM c := (msC_p (tl c)).mpr ⟨j, hj, e2⟩
        rw [cI_t (P := j < tl c ∧ msP c j) ⟨hj, e2⟩, cI_f (P := stM c = 0 ∨ ¬ msP c j) (fun z => z.elim (fun z => by omega) (fun z => z e2))]
      · rw [cI_f (P := j < tl c ∧ msP c j) (fun z => e2 z.2), cI_t (Or.inr e2)]
set_option maxRecDepth 100000 in
set_option maxHeartbeats 4000000 in
theorem sp_L_filled {g : gG} {M : gM} {Q : Option Value ⊕ String → gM → Prop} (hst : (gl1 g).stackTraces = false) {c : Cf} {P : Nat → Nat} {π : Nat → Nat} {ps : Nat} {w ms : Int32} (hw : iIn w (nI 0) (nI 10000)) (hms : mis c w = ms) (hS : kS c P π M) (h : lT c M) (hy : myS c ps M) (K : ∀ M1 π1, kS c P π1 M1 → lT c M1 → kq M M1 → Q (.inl (some (.int (nI 1)))) M1) : E g 10 30 200 mL_filled 0 [.ref 1, .ref 129, .ref 132, .ref 133, .ref (ps + 1), .int w, .int ms, .null, .null, .null, .null, .null, .null, .null] [] M Q := by
  have hL := h.lay
  have h10 := h.t10
  have h139 : 139 ≤ mN M := hL.1
  have hN : mF (mN M) (fun _ => nI 0) M (mNew M (13, 16)) := ⟨lR.refl.new, rfl, by rw [mN_new]; omega, by rw [mK_new, if_pos rfl], fun j _ => by rw [mI_new, if_pos rfl]; rfl⟩
  have hx := hN.1.T h
  have e20 : (nI (pEn c 20) >>> (nI 6 &&& 31)) &&& nI 127 = nI (wSt c) := pE_6 hx.wf (f := 0) (v := 20) (by decide)
  have a20 : mI (mNew M (13, 16)) 131 20 = nI (pEn c 20) := hx.S.pe (v := 20) (Or.inl (by decide))
  have fin : ∀ (V : Nat → Int32) (left : Int32) M1, fOK c w ms left V → mF (mN M) V M M1 → ∀ x9 x10 x11 x12 v13, E g 10 29 184 mL_filled 223 [.ref 1, .ref 129, .ref 132, .ref 133, .ref (ps + 1), .int w, .int ms, .ref (mN M + 1), .int left, .int x9, .int x10, .int x11, .int x12, v13] [] M1 Q := by
    intro V left M1 hf hm x9 x10 x11 x12 v13
    exact p3_L_filled hst hw hf (hm.1.kS hS) (hm.1.T h) ⟨hm.plt, h139, hm.pkd, fun j hj => hm.at (by omega)⟩ hm.1.kq K _
  have m61 : ∀ M1, mF (mN M) (fun _ => nI 0) M M1 → ∀ x11 v12 v13, E g 10 29 184 mL_filled 61 [.ref 1, .ref 129, .ref 132, .ref 133, .ref (ps + 1), .int w, .int ms, .ref (mN M + 1), .int ms, .int (nI (wSt c)), .int (b2i (∃ j, j < tl c ∧ msP c j)), .int x11, v12, v13] [] M1 Q := by
    intro M1 hm x11 v12 v13
    by_cases hn : ms < 0
    · exact p1A_L_filled h hy hn hm (fun M2 x11 hm v12 v13 => p2A_L_filled h hy hn hm (fun M3 x13 hm => fin _ _ M3 (fOK_n hms hn) hm _ _ _ _ _) _ _) _ _ _
    · obtain ⟨q, hq, e⟩ := ge0_nI (Int32.not_lt.mp hn)
      have hq2 := smW_of h.wf w q hw (hms.trans e) hq
      have hst := stL_b c q
      rw [e]
      refine p1B_L_filled h hy hq2 hm (fun M2 x11 hm v12 v13 => p2B_L_filled h hy (by omega) (fun j hj z => ?_) hm (fun M3 x13 hm => ?_) _ _) _ _ _
      · unfold v1E
        rw [cI_f (fun q2 => by have := q2.2.1; unfold cBo at this; omega)]
      · have fin := fin _ _ M3 (by rw [e]; exact fOK_p (hms.trans e) hq) hm (nI (wSt c)) (b2i (∃ j, j < tl c ∧ msP c j)) x11 (b2i (∃ j, j < tl c ∧ cN c 141 j = 0)) (.int x13)
        rw [e] at fin
        exact fin
  refine E_bipush (v := nI 16) dL_filled_0 (by decide) ?_
  refine E_newI (len := 16) (k := 29) (n := 184) dL_filled_2 (gW_at 92 (by decide +kernel) (by decide +kernel)) rfl (by decide) ?_
  have hL := hx.lay
  refine E_astore dL_filled_4 (Nat.le_of_ble_eq_true rfl) (by decide) rfl ?_
  refine E_iload dL_filled_6 rfl ?_
  refine E_istore dL_filled_8 (Nat.le_of_ble_eq_true rfl) (by decide) rfl ?_
  refine E_aload_n dL_filled_10 rfl ?_
  refine E_bipush (v := nI 20) dL_filled_11 (by decide) ?_
  refine E_ialdL (v := nI (pEn c 20)) dL_filled_13 (l_131 hL) (k_131 hL) rfl (by omega) (by decide) a20 ?_
  refine E_bipush (v := nI 6) dL_filled_14 (by decide) ?_
  refine E_ishr dL_filled_16 ?_
  refine E_bipush (v := nI 127) dL_filled_17 (by decide) ?_
  refine E_iand dL_filled_19 ?_
  rw [e20]
  refine E_istore dL_filled_20 (Nat.le_of_ble_eq_true rfl) (by decide) rfl ?_
  refine E_iconst (v := nI 0) dL_filled_22 (by decide) ?_
  refine E_istore dL_filled_23 (Nat.le_of_ble_eq_true rfl) (by decide) rfl ?_
  refine E_iconst (v := nI 0) dL_filled_25 (by decide) ?_
  refine E_istore dL_filled_26 (Nat.le_of_ble_eq_true rfl) (by decide) rfl ?_
  have z := an_L_filled (g := g) (Q := Q) (kk := 29) (nn := 184) (w := w) (ms := ms) (left := ms) h hy hN (fun x11 => m61 _ hN _ _ _) 0 (Nat.zero_le _) (Nat.le_refl _)
  rw [show b2i (∃ j, j < 0 ∧ msP c j) = nI 0 from b2i_f (fun ⟨j, q, _⟩ => absurd q (Nat.not_lt_zero j))] at z
  exact z
