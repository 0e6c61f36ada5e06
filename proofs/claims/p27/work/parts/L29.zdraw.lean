/-! the law: what it draws -/
def itV (n : Nat) (v : Int32) : Prop := (n = 1 ∧ v = -100) ∨ ∃ j, (sgZ j ∨ (300 ≤ j ∧ j ≤ 302)) ∧ v = nI j
theorem nx_or (a b : Nat) : nI a ||| nI b = nI (a ||| b) := by
  have h : ∀ x y : Nat, BitVec.ofNat 32 x ||| BitVec.ofNat 32 y = BitVec.ofNat 32 (x ||| y) := fun x y => by
    apply BitVec.eq_of_getLsbD_eq
    intro i hi
    rw [BitVec.getLsbD_or, BitVec.getLsbD_ofNat, BitVec.getLsbD_ofNat, BitVec.getLsbD_ofNat, Nat.testBit_or]
    simp [hi]
  apply Int32.toBitVec_inj.mp
  rw [Int32.toBitVec_or]
  exact h a b
theorem shl_1 : ∀ s, s < 16 → nI 1 <<< (nI s &&& 31) = nI (2 ^ s) := by decide +kernel
theorem bgN_t {P : Nat → Prop} : ∀ n s, (Nat.testBit (bgN P n) s = true) ↔ (s < n ∧ P s)
  | 0, s => by
    show Nat.testBit 0 s = true ↔ _
    rw [Nat.zero_testBit]
    exact ⟨fun h => by (cases h), fun h => absurd h.1 (Nat.not_lt_zero s)⟩
  | n + 1, s => by
    have ih := bgN_t (P := P) n s
    have hb := bgN_b P n
    show Nat.testBit (bgN P n + cI (P n) (2 ^ n) 0) s = true ↔ _
    by_cases e : P n
    · rw [cI_t e, Nat.add_comm]
      by_cases q : s = n
      · subst q
        rw [Nat.testBit_two_pow_add_eq, Nat.testBit_lt_two_pow hb]
        exact ⟨fun _ => ⟨by omega, e⟩, fun _ => rfl⟩
      · by_cases q2 : s < n
        · rw [Nat.testBit_two_pow_add_gt q2, ih]
          exact ⟨fun z => ⟨by omega, z.2⟩, fun z => ⟨q2, z.2⟩⟩
        · have h2 : 2 ^ n + bgN P n < 2 ^ s := by
            have : 2 ^ (n + 1) ≤ 2 ^ s := Nat.pow_le_pow_right (by decide) (by omega)
            rw [Nat.pow_succ] at this
            omega
          rw [Nat.testBit_lt_two_pow h2]
          exact ⟨fun z => by (cases z), fun z => by omega⟩
    · rw [cI_f e, Nat.add_zero, ih]
      exact ⟨fun z => ⟨by omega, z.2⟩, fun z => ⟨by by_cases q : s = n; (rw [q] at z; exact absurd z.2 e); omega, z.2⟩⟩
theorem bgN_d {P : Nat → Prop} {n s : Nat} (hs : s < n) : bgN P n / 2 ^ s % 2 = cI (P s) 1 0 := by
  have h := bgN_t (P := P) n s
  rw [Nat.testBit_eq_decide_div_mod_eq] at h
  by_cases e : P s
  · rw [cI_t e]
    have := h.mpr ⟨hs, e⟩
    exact of_decide_eq_true this
  · rw [cI_f e]
    have h3 : ¬ bgN P n / 2 ^ s % 2 = 1 := fun q => e (h.mp (decide_eq_true q)).2
    omega
theorem bgN_or {P R : Nat → Prop} {n s : Nat} (hs : s < n) (h : ∀ x, R x ↔ (P x ∨ s = x)) : bgN P n ||| 2 ^ s = bgN R n := by
  apply Nat.eq_of_testBit_eq
  intro i
  rw [Nat.testBit_or, Nat.testBit_two_pow]
  rw [Bool.eq_iff_iff, Bool.or_eq_true, bgN_t, bgN_t, h, decide_eq_true_iff]
  constructor
  · rintro (⟨z1, z2⟩ | z)
    · exact ⟨z1, Or.inl z2⟩
    · exact ⟨by omega, Or.inr z⟩
  · rintro ⟨z1, z2 | z2⟩
    · exact Or.inl ⟨z1, z2⟩
    · exact Or.inr z2
def pcL (x : Nat) : Nat → Nat
  | 0 => 0
  | k + 1 => pcL x k + x / 2 ^ k % 2
theorem pcL_4 : ∀ x, x < 16 → pcL x 4 = pcN 8 x := by decide +kernel
theorem pcL_b (x : Nat) : ∀ k, pcL x k ≤ k
  | 0 => Nat.le_refl _
  | k + 1 => by have := pcL_b x k; show pcL x k + x / 2 ^ k % 2 ≤ k + 1; omega
def wfI (c : Cf) : Prop := ∀ l k, k < cN c 135 l → ∃ j, rul c l k (leadOf (cN c 130 l)) = nI j ∧ (j < 45 ∨ (300 ≤ j ∧ j ≤ 302))
theorem bgB_4 {c : Cf} {f l q : Nat} (h : cN c 135 l ≤ 4) : bgB c f l q < 16 := by
  have h1 := bgN_b (begP c f l q) (cN c 135 l)
  have : 2 ^ cN c 135 l ≤ 2 ^ 4 := Nat.pow_le_pow_right (by decide) h
  unfold bgB; omega
theorem isAt_300 {c : Cf} {f q j : Nat} {item : Int32} (hq : ¬ glZ q) (h0 : cN c 138 (256 * f + q) = 0) (hi : item = nI j) (hj : j < 45 ∨ (300 ≤ j ∧ j ≤ 302)) (hq2 : q < 256) : isAt c f item q ↔ item = nI 300 := by
  unfold isAt
  have e1 : nI j = nI 300 ↔ j = 300 := nI_eq (by omega) (by decide)
  have e2 : nI j = nI q ↔ j = q := nI_eq (by omega) (by omega)
  rw [h0, hi, nI_leI (by decide) (by omega), e1, e2]
  constructor
  · rintro (⟨z1, z2⟩ | ⟨z1, z2⟩)
    · rw [pk_sub z1] at z2
      have := (nI_eq (by decide) (by omega)).mp z2
      omega
    · exact absurd (by unfold glZ; omega) hq
  · intro z
    subst z
    exact Or.inl ⟨Nat.le_refl _, rfl⟩
set_option maxRecDepth 100000 in
set_option maxHeartbeats 4000000 in
theorem sp_L_signBy {g : gG} {M : gM} {Q : Option Value ⊕ String → gM → Prop} {v : Int32} (K : ∀ s, sgZ s → Q (.inl (some (.int (nI s)))) M) : E g 2 0 0 mL_signBy 0 [.int v, .null] [] M Q := by
  refine E_iload_n dL_signBy_0 rfl ?_
  refine E_bipush (v := nI 8) dL_signBy_1 (by decide) ?_
  refine E_callT2 (fr' := 1) (k1 := 0) (n1 := 0) (k2 := 0) (n2 := 0) dL_signBy_3 kO_L_low kL_L_229 (by exact Nat.le_of_ble_eq_true rfl) (by decide) (by exact Nat.le_of_ble_eq_true rfl) (Or.inl rfl) rfl ?_
  refine sp_L_low (by omega) (by omega) ?_
  refine gKv ?_
  refine E_istore_n dL_signBy_6 (Nat.le_of_ble_eq_true rfl) (by decide) rfl ?_
  refine E_iload_n dL_signBy_7 rfl ?_
  refine E_iconst (v := nI 3) dL_signBy_8 (by decide) ?_
  refine E_icmp_ge_n (tgt := 25) dL_signBy_9 (by decide) (by first | omega | (have := lowN_lt v (n := 8) (by decide); omega) | (have := lowN_lt (v >>> (nI 4 &&& 31)) (n := 2) (by decide); omega)) (by first | omega | (have := lowN_lt v (n := 8) (by decide); omega) | (have := lowN_lt (v >>> (nI 4 &&& 31)) (n := 2) (by decide); omega)) (fun c_9 => ?_) (fun c_9 => ?_)
  · refine E_iload_n dL_signBy_25 rfl ?_
    refine E_iconst (v := nI 3) dL_signBy_26 (by decide) ?_
    refine E_icmp_ne_n (tgt := 43) dL_signBy_27 (by decide) (by first | omega | (have := lowN_lt v (n := 8) (by decide); omega) | (have := lowN_lt (v >>> (nI 4 &&& 31)) (n := 2) (by decide); omega)) (by first | omega | (have := lowN_lt v (n := 8) (by decide); omega) | (have := lowN_lt (v >>> (nI 4 &&& 31)) (n := 2) (by decide); omega)) (fun c_27 => ?_) (fun c_27 => ?_)
    · refine E_iload_n dL_signBy_43 rfl ?_
      refine E_iconst (v := nI 4) dL_signBy_44 (by decide) ?_
      refine E_icmp_ne_n (tgt := 61) dL_signBy_45 (by decide) (by first | omega | (have := lowN_lt v (n := 8) (by decide); omega) | (have := lowN_lt (v >>> (nI 4 &&& 31)) (n := 2) (by decide); omega)) (by first | omega | (have := lowN_lt v (n := 8) (by decide); omega) | (have := lowN_lt (v >>> (nI 4 &&& 31)) (n := 2) (by decide); omega)) (fun c_45 => ?_) (fun c_45 => ?_)
      · refine E_iload_n dL_signBy_61 rfl ?_
        refine E_iconst (v := nI 5) dL_signBy_62 (by decide) ?_
        refine E_icmp_ne_n (tgt := 79) dL_signBy_63 (by decide) (by first | omega | (have := lowN_lt v (n := 8) (by decide); omega) | (have := lowN_lt (v >>> (nI 4 &&& 31)) (n := 2) (by decide); omega)) (by first | omega | (have := lowN_lt v (n := 8) (by decide); omega) | (have := lowN_lt (v >>> (nI 4 &&& 31)) (n := 2) (by decide); omega)) (fun c_63 => ?_) (fun c_63 => ?_)
        · refine E_iload_n dL_signBy_79 rfl ?_
          refine E_bipush (v := nI 6) dL_signBy_80 (by decide) ?_
          refine E_icmp_ne_n (tgt := 95) dL_signBy_82 (by decide) (by first | omega | (have := lowN_lt v (n := 8) (by decide); omega) | (have := lowN_lt (v >>> (nI 4 &&& 31)) (n := 2) (by decide); omega)) (by first | omega | (have := lowN_lt v (n := 8) (by decide); omega) | (have := lowN_lt (v >>> (nI 4 &&& 31)) (n := 2) (by decide); omega)) (fun c_82 => ?_) (fun c_82 => ?_)
          · refine E_iload_n dL_signBy_95 rfl ?_
            refine E_iconst (v := nI 4) dL_signBy_96 (by decide) ?_
            refine E_ishr dL_signBy_97 ?_
            refine E_iconst (v := nI 2) dL_signBy_98 (by decide) ?_
            refine E_callT2 (fr' := 1) (k1 := 0) (n1 := 0) (k2 := 0) (n2 := 0) dL_signBy_99 kO_L_low kL_L_229 (by exact Nat.le_of_ble_eq_true rfl) (by decide) (by exact Nat.le_of_ble_eq_true rfl) (Or.inl rfl) rfl ?_
            refine sp_L_low (by omega) (by omega) ?_
            refine gKv ?_
            refine E_if_ne_n (tgt := 119) dL_signBy_102 (by decide) (by first | omega | (have := lowN_lt v (n := 8) (by decide); omega) | (have := lowN_lt (v >>> (nI 4 &&& 31)) (n := 2) (by decide); omega)) (fun c_102 => ?_) (fun c_102 => ?_)
            · refine E_bipush (v := nI 30) dL_signBy_119 (by decide) ?_
              refine E_iload_n dL_signBy_121 rfl ?_
              refine E_iconst (v := nI 3) dL_signBy_122 (by decide) ?_
              refine E_ishr dL_signBy_123 ?_
              refine E_bipush (v := nI 15) dL_signBy_124 (by decide) ?_
              refine E_callT2 (fr' := 1) (k1 := 0) (n1 := 0) (k2 := 0) (n2 := 0) dL_signBy_126 kO_L_low kL_L_229 (by exact Nat.le_of_ble_eq_true rfl) (by decide) (by exact Nat.le_of_ble_eq_true rfl) (Or.inl rfl) rfl ?_
              refine sp_L_low (by omega) (by omega) ?_
              refine gKv ?_
              refine E_iadd_n dL_signBy_129 ?_
              refine E_iret dL_signBy_130 (Or.inl rfl) ?_
              refine K _ ?_
              unfold sgZ
              first
                | (have := lowN_lt (v >>> (nI 3 &&& 31)) (n := 3) (by decide); omega)
                | (have := lowN_lt (v >>> (nI 3 &&& 31)) (n := 4) (by decide); omega)
                | (have := lowN_lt (v >>> (nI 3 &&& 31)) (n := 14) (by decide); omega)
                | (have := lowN_lt (v >>> (nI 3 &&& 31)) (n := 15) (by decide); omega)
            · refine E_bipush (v := nI 10) dL_signBy_105 (by decide) ?_
              refine E_iload_n dL_signBy_107 rfl ?_
              refine E_iconst (v := nI 3) dL_signBy_108 (by decide) ?_
              refine E_ishr dL_signBy_109 ?_
              refine E_bipush (v := nI 14) dL_signBy_110 (by decide) ?_
              refine E_callT2 (fr' := 1) (k1 := 0) (n1 := 0) (k2 := 0) (n2 := 0) dL_signBy_112 kO_L_low kL_L_229 (by exact Nat.le_of_ble_eq_true rfl) (by decide) (by exact Nat.le_of_ble_eq_true rfl) (Or.inl rfl) rfl ?_
              refine sp_L_low (by omega) (by omega) ?_
              refine gKv ?_
              refine E_iadd_n dL_signBy_115 ?_
              refine E_goto (tgt := 130) dL_signBy_116 (by decide) ?_
              refine E_iret dL_signBy_130 (Or.inl rfl) ?_
              refine K _ ?_
              unfold sgZ
              first
                | (have := lowN_lt (v >>> (nI 3 &&& 31)) (n := 3) (by decide); omega)
                | (have := lowN_lt (v >>> (nI 3 &&& 31)) (n := 4) (by decide); omega)
                | (have := lowN_lt (v >>> (nI 3 &&& 31)) (n := 14) (by decide); omega)
                | (have := lowN_lt (v >>> (nI 3 &&& 31)) (n := 15) (by decide); omega)
          · refine E_iload_n dL_signBy_85 rfl ?_
            refine E_iconst (v := nI 3) dL_signBy_86 (by decide) ?_
            refine E_ishr dL_signBy_87 ?_
            refine E_iconst (v := nI 4) dL_signBy_88 (by decide) ?_
            refine E_callT2 (fr' := 1) (k1 := 0) (n1 := 0) (k2 := 0) (n2 := 0) dL_signBy_89 kO_L_low kL_L_229 (by exact Nat.le_of_ble_eq_true rfl) (by decide) (by exact Nat.le_of_ble_eq_true rfl) (Or.inl rfl) rfl ?_
            refine sp_L_low (by omega) (by omega) ?_
            refine gKv ?_
            refine E_goto (tgt := 130) dL_signBy_92 (by decide) ?_
            refine E_iret dL_signBy_130 (Or.inl rfl) ?_
            refine K _ ?_
            unfold sgZ
            first
              | (have := lowN_lt (v >>> (nI 3 &&& 31)) (n := 3) (by decide); omega)
              | (have := lowN_lt (v >>> (nI 3 &&& 31)) (n := 4) (by decide); omega)
              | (have := lowN_lt (v >>> (nI 3 &&& 31)) (n := 14) (by decide); omega)
              | (have := lowN_lt (v >>> (nI 3 &&& 31)) (n := 15) (by decide); omega)
        · refine E_bipush (v := nI 38) dL_signBy_66 (by decide) ?_
          refine E_iload_n dL_signBy_68 rfl ?_
          refine E_iconst (v := nI 3) dL_signBy_69 (by decide) ?_
          refine E_ishr dL_signBy_70 ?_
          refine E_iconst (v := nI 4) dL_signBy_71 (by decide) ?_
          refine E_callT2 (fr' := 1) (k1 := 0) (n1 := 0) (k2 := 0) (n2 := 0) dL_signBy_72 kO_L_low kL_L_229 (by exact Nat.le_of_ble_eq_true rfl) (by decide) (by exact Nat.le_of_ble_eq_true rfl) (Or.inl rfl) rfl ?_
          refine sp_L_low (by omega) (by omega) ?_
          refine gKv ?_
          refine E_iadd_n dL_signBy_75 ?_
          refine E_goto (tgt := 130) dL_signBy_76 (by decide) ?_
          refine E_iret dL_signBy_130 (Or.inl rfl) ?_
          refine K _ ?_
          unfold sgZ
          first
            | (have := lowN_lt (v >>> (nI 3 &&& 31)) (n := 3) (by decide); omega)
            | (have := lowN_lt (v >>> (nI 3 &&& 31)) (n := 4) (by decide); omega)
            | (have := lowN_lt (v >>> (nI 3 &&& 31)) (n := 14) (by decide); omega)
            | (have := lowN_lt (v >>> (nI 3 &&& 31)) (n := 15) (by decide); omega)
      · refine E_bipush (v := nI 30) dL_signBy_48 (by decide) ?_
        refine E_iload_n dL_signBy_50 rfl ?_
        refine E_iconst (v := nI 3) dL_signBy_51 (by decide) ?_
        refine E_ishr dL_signBy_52 ?_
        refine E_iconst (v := nI 3) dL_signBy_53 (by decide) ?_
        refine E_callT2 (fr' := 1) (k1 := 0) (n1 := 0) (k2 := 0) (n2 := 0) dL_signBy_54 kO_L_low kL_L_229 (by exact Nat.le_of_ble_eq_true rfl) (by decide) (by exact Nat.le_of_ble_eq_true rfl) (Or.inl rfl) rfl ?_
        refine sp_L_low (by omega) (by omega) ?_
        refine gKv ?_
        refine E_iadd_n dL_signBy_57 ?_
        refine E_goto (tgt := 130) dL_signBy_58 (by decide) ?_
        refine E_iret dL_signBy_130 (Or.inl rfl) ?_
        refine K _ ?_
        unfold sgZ
        first
          | (have := lowN_lt (v >>> (nI 3 &&& 31)) (n := 3) (by decide); omega)
          | (have := lowN_lt (v >>> (nI 3 &&& 31)) (n := 4) (by decide); omega)
          | (have := lowN_lt (v >>> (nI 3 &&& 31)) (n := 14) (by decide); omega)
          | (have := lowN_lt (v >>> (nI 3 &&& 31)) (n := 15) (by decide); omega)
    · refine E_bipush (v := nI 20) dL_signBy_30 (by decide) ?_
      refine E_iload_n dL_signBy_32 rfl ?_
      refine E_iconst (v := nI 3) dL_signBy_33 (by decide) ?_
      refine E_ishr dL_signBy_34 ?_
      refine E_iconst (v := nI 3) dL_signBy_35 (by decide) ?_
      refine E_callT2 (fr' := 1) (k1 := 0) (n1 := 0) (k2 := 0) (n2 := 0) dL_signBy_36 kO_L_low kL_L_229 (by exact Nat.le_of_ble_eq_true rfl) (by decide) (by exact Nat.le_of_ble_eq_true rfl) (Or.inl rfl) rfl ?_
      refine sp_L_low (by omega) (by omega) ?_
      refine gKv ?_
      refine E_iadd_n dL_signBy_39 ?_
      refine E_goto (tgt := 130) dL_signBy_40 (by decide) ?_
      refine E_iret dL_signBy_130 (Or.inl rfl) ?_
      refine K _ ?_
      unfold sgZ
      first
        | (have := lowN_lt (v >>> (nI 3 &&& 31)) (n := 3) (by decide); omega)
        | (have := lowN_lt (v >>> (nI 3 &&& 31)) (n := 4) (by decide); omega)
        | (have := lowN_lt (v >>> (nI 3 &&& 31)) (n := 14) (by decide); omega)
        | (have := lowN_lt (v >>> (nI 3 &&& 31)) (n := 15) (by decide); omega)
  · refine E_bipush (v := nI 10) dL_signBy_12 (by decide) ?_
    refine E_iload_n dL_signBy_14 rfl ?_
    refine E_iconst (v := nI 3) dL_signBy_15 (by decide) ?_
    refine E_ishr dL_signBy_16 ?_
    refine E_iconst (v := nI 3) dL_signBy_17 (by decide) ?_
    refine E_callT2 (fr' := 1) (k1 := 0) (n1 := 0) (k2 := 0) (n2 := 0) dL_signBy_18 kO_L_low kL_L_229 (by exact Nat.le_of_ble_eq_true rfl) (by decide) (by exact Nat.le_of_ble_eq_true rfl) (Or.inl rfl) rfl ?_
    refine sp_L_low (by omega) (by omega) ?_
    refine gKv ?_
    refine E_iadd_n dL_signBy_21 ?_
    refine E_goto (tgt := 130) dL_signBy_22 (by decide) ?_
    refine E_iret dL_signBy_130 (Or.inl rfl) ?_
    refine K _ ?_
    unfold sgZ
    first
      | (have := lowN_lt (v >>> (nI 3 &&& 31)) (n := 3) (by decide); omega)
      | (have := lowN_lt (v >>> (nI 3 &&& 31)) (n := 4) (by decide); omega)
      | (have := lowN_lt (v >>> (nI 3 &&& 31)) (n := 14) (by decide); omega)
      | (have := lowN_lt (v >>> (nI 3 &&& 31)) (n := 15) (by decide); omega)
set_option maxRecDepth 100000 in
set_option maxHeartbeats 4000000 in
theorem sp_L_glyphBy {g : gG} {M : gM} {Q : Option Value ⊕ String → gM → Prop} {v : Int32} (K : ∀ j, glZ j → Q (.inl (some (.int (nI j)))) M) : E g 2 0 0 mL_glyphBy 0 [.int v, .null] [] M Q := by
  have l1 := lowN_lt v (n := 3) (by decide)
  have l2 := lowN_lt (v >>> (nI 2 &&& 31)) (n := 45) (by decide)
  have l3 := lowN_lt (v >>> (nI 2 &&& 31)) (n := 19) (by decide)
  have l4 := lowN_lt (v >>> (nI 2 &&& 31)) (n := 4) (by decide)
  have l5 := lowN_lt (v >>> (nI 8 &&& 31)) (n := 4) (by decide)
  refine E_iload_n dL_glyphBy_0 rfl ?_
  refine E_iconst (v := nI 3) dL_glyphBy_1 (by decide) ?_
  refine E_callT2 (fr' := 1) (k1 := 0) (n1 := 0) (k2 := 0) (n2 := 0) dL_glyphBy_2 kO_L_low kL_L_229 (by exact Nat.le_of_ble_eq_true rfl) (by decide) (by exact Nat.le_of_ble_eq_true rfl) (Or.inl rfl) rfl ?_
  refine sp_L_low (by omega) (by omega) ?_
  refine gKv ?_
  refine E_iconst (v := nI 2) dL_glyphBy_5 (by decide) ?_
  refine E_icmp_ge_n (tgt := 20) dL_glyphBy_6 (by decide) (by omega) (by omega) (fun c_6 => ?_) (fun c_6 => ?_)
  · refine E_bipush (v := nI 64) dL_glyphBy_20 (by decide) ?_
    refine E_iload_n dL_glyphBy_22 rfl ?_
    refine E_iconst (v := nI 2) dL_glyphBy_23 (by decide) ?_
    refine E_ishr dL_glyphBy_24 ?_
    refine E_bipush (v := nI 19) dL_glyphBy_25 (by decide) ?_
    refine E_callT2 (fr' := 1) (k1 := 0) (n1 := 0) (k2 := 0) (n2 := 0) dL_glyphBy_27 kO_L_low kL_L_229 (by exact Nat.le_of_ble_eq_true rfl) (by decide) (by exact Nat.le_of_ble_eq_true rfl) (Or.inl rfl) rfl ?_
    refine sp_L_low (by omega) (by omega) ?_
    refine gKv ?_
    refine E_iadd_n dL_glyphBy_30 ?_
    refine E_istore_n dL_glyphBy_31 (Nat.le_of_ble_eq_true rfl) (by decide) rfl ?_
    refine E_iload_n dL_glyphBy_32 rfl ?_
    refine E_bipush (v := nI 8) dL_glyphBy_33 (by decide) ?_
    refine E_ishr dL_glyphBy_35 ?_
    refine E_iconst (v := nI 4) dL_glyphBy_36 (by decide) ?_
    refine E_callT2 (fr' := 1) (k1 := 0) (n1 := 0) (k2 := 0) (n2 := 0) dL_glyphBy_37 kO_L_low kL_L_229 (by exact Nat.le_of_ble_eq_true rfl) (by decide) (by exact Nat.le_of_ble_eq_true rfl) (Or.inl rfl) rfl ?_
    refine sp_L_low (by omega) (by omega) ?_
    refine gKv ?_
    refine E_if_ne_n (tgt := 56) dL_glyphBy_40 (by decide) (by omega) (fun c_40 => ?_) (fun c_40 => ?_)
    · refine E_iload_n dL_glyphBy_56 rfl ?_
      refine E_iret dL_glyphBy_57 (Or.inl rfl) ?_
      refine K _ ?_
      unfold glZ
      omega
    · refine E_bipush (v := nI 20) dL_glyphBy_43 (by decide) ?_
      refine E_iload_n dL_glyphBy_45 rfl ?_
      refine E_iconst (v := nI 2) dL_glyphBy_46 (by decide) ?_
      refine E_ishr dL_glyphBy_47 ?_
      refine E_iconst (v := nI 4) dL_glyphBy_48 (by decide) ?_
      refine E_callT2 (fr' := 1) (k1 := 0) (n1 := 0) (k2 := 0) (n2 := 0) dL_glyphBy_49 kO_L_low kL_L_229 (by exact Nat.le_of_ble_eq_true rfl) (by decide) (by exact Nat.le_of_ble_eq_true rfl) (Or.inl rfl) rfl ?_
      refine sp_L_low (by omega) (by omega) ?_
      refine gKv ?_
      refine E_iadd_n dL_glyphBy_52 ?_
      refine E_goto (tgt := 57) dL_glyphBy_53 (by decide) ?_
      refine E_iret dL_glyphBy_57 (Or.inl rfl) ?_
      refine K _ ?_
      unfold glZ
      omega
  · refine E_iload_n dL_glyphBy_9 rfl ?_
    refine E_iconst (v := nI 2) dL_glyphBy_10 (by decide) ?_
    refine E_ishr dL_glyphBy_11 ?_
    refine E_bipush (v := nI 45) dL_glyphBy_12 (by decide) ?_
    refine E_callT2 (fr' := 1) (k1 := 0) (n1 := 0) (k2 := 0) (n2 := 0) dL_glyphBy_14 kO_L_low kL_L_229 (by exact Nat.le_of_ble_eq_true rfl) (by decide) (by exact Nat.le_of_ble_eq_true rfl) (Or.inl rfl) rfl ?_
    refine sp_L_low (by omega) (by omega) ?_
    refine gKv ?_
    refine E_goto (tgt := 31) dL_glyphBy_17 (by decide) ?_
    refine E_istore_n dL_glyphBy_31 (Nat.le_of_ble_eq_true rfl) (by decide) rfl ?_
    refine E_iload_n dL_glyphBy_32 rfl ?_
    refine E_bipush (v := nI 8) dL_glyphBy_33 (by decide) ?_
    refine E_ishr dL_glyphBy_35 ?_
    refine E_iconst (v := nI 4) dL_glyphBy_36 (by decide) ?_
    refine E_callT2 (fr' := 1) (k1 := 0) (n1 := 0) (k2 := 0) (n2 := 0) dL_glyphBy_37 kO_L_low kL_L_229 (by exact Nat.le_of_ble_eq_true rfl) (by decide) (by exact Nat.le_of_ble_eq_true rfl) (Or.inl rfl) rfl ?_
    refine sp_L_low (by omega) (by omega) ?_
    refine gKv ?_
    refine E_if_ne_n (tgt := 56) dL_glyphBy_40 (by decide) (by omega) (fun c_40 => ?_) (fun c_40 => ?_)
    · refine E_iload_n dL_glyphBy_56 rfl ?_
      refine E_iret dL_glyphBy_57 (Or.inl rfl) ?_
      refine K _ ?_
      unfold glZ
      omega
    · refine E_bipush (v := nI 20) dL_glyphBy_43 (by decide) ?_
      refine E_iload_n dL_glyphBy_45 rfl ?_
      refine E_iconst (v := nI 2) dL_glyphBy_46 (by decide) ?_
      refine E_ishr dL_glyphBy_47 ?_
      refine E_iconst (v := nI 4) dL_glyphBy_48 (by decide) ?_
      refine E_callT2 (fr' := 1) (k1 := 0) (n1 := 0) (k2 := 0) (n2 := 0) dL_glyphBy_49 kO_L_low kL_L_229 (by exact Nat.le_of_ble_eq_true rfl) (by decide) (by exact Nat.le_of_ble_eq_true rfl) (Or.inl rfl) rfl ?_
      refine sp_L_low (by omega) (by omega) ?_
      refine gKv ?_
      refine E_iadd_n dL_glyphBy_52 ?_
      refine E_goto (tgt := 57) dL_glyphBy_53 (by decide) ?_
      refine E_iret dL_glyphBy_57 (Or.inl rfl) ?_
      refine K _ ?_
      unfold glZ
      omega
set_option maxRecDepth 100000 in
set_option maxHeartbeats 4000000 in
theorem sp_L_itemBy {g : gG} {M : gM} {Q : Option Value ⊕ String → gM → Prop} {v : Int32} {n : Nat} (hn : n ≤ 1) (K : ∀ x, itV n x → Q (.inl (some (.int x))) M) : E g 3 0 0 mL_itemBy 0 [.int v, .int (nI n), .null] [] M Q := by
  have l1 := lowN_lt v (n := 5) (by decide)
  have l3 := lowN_lt (v >>> (nI 3 &&& 31)) (n := 3) (by decide)
  refine E_iload_n dL_itemBy_0 rfl ?_
  refine E_iconst (v := nI 5) dL_itemBy_1 (by decide) ?_
  refine E_callT2 (fr' := 1) (k1 := 0) (n1 := 0) (k2 := 0) (n2 := 0) dL_itemBy_2 kO_L_low kL_L_229 (by exact Nat.le_of_ble_eq_true rfl) (by decide) (by exact Nat.le_of_ble_eq_true rfl) (Or.inl rfl) rfl ?_
  refine sp_L_low (by omega) (by omega) ?_
  refine gKv ?_
  refine E_istore_n dL_itemBy_5 (Nat.le_of_ble_eq_true rfl) (by decide) rfl ?_
  refine E_iload_n dL_itemBy_6 rfl ?_
  refine E_if_eq_n (tgt := 19) dL_itemBy_7 (by decide) (by omega) (fun c_7 => ?_) (fun c_7 => ?_)
  · refine E_iload_n dL_itemBy_19 rfl ?_
    refine E_iconst (v := nI 2) dL_itemBy_20 (by decide) ?_
    refine E_icmp_ge_n (tgt := 38) dL_itemBy_21 (by decide) (by omega) (by omega) (fun c_21 => ?_) (fun c_21 => ?_)
    · refine E_iload_n dL_itemBy_38 rfl ?_
      refine E_iconst (v := nI 3) dL_itemBy_39 (by decide) ?_
      refine E_ishr dL_itemBy_40 ?_
      refine E_callT1 (fr' := 2) (k1 := 0) (n1 := 0) (k2 := 0) (n2 := 0) dL_itemBy_41 kO_L_signBy kL_L_276 (by exact Nat.le_of_ble_eq_true rfl) (by decide) (by exact Nat.le_of_ble_eq_true rfl) (Or.inl rfl) rfl ?_
      refine sp_L_signBy (fun s hs => ?_)
      refine gKv ?_
      refine E_iret dL_itemBy_44 (Or.inl rfl) ?_
      refine K _ ?_
      first
        | exact Or.inl ⟨by omega, rfl⟩
        | exact Or.inr ⟨_, Or.inl (by assumption), rfl⟩
        | exact Or.inr ⟨_, Or.inr (by omega), rfl⟩
    · refine E_sipush (v := nI 300) dL_itemBy_24 (by decide) ?_
      refine E_iload_n dL_itemBy_27 rfl ?_
      refine E_iconst (v := nI 3) dL_itemBy_28 (by decide) ?_
      refine E_ishr dL_itemBy_29 ?_
      refine E_iconst (v := nI 3) dL_itemBy_30 (by decide) ?_
      refine E_callT2 (fr' := 1) (k1 := 0) (n1 := 0) (k2 := 0) (n2 := 0) dL_itemBy_31 kO_L_low kL_L_229 (by exact Nat.le_of_ble_eq_true rfl) (by decide) (by exact Nat.le_of_ble_eq_true rfl) (Or.inl rfl) rfl ?_
      refine sp_L_low (by omega) (by omega) ?_
      refine gKv ?_
      refine E_iadd_n dL_itemBy_34 ?_
      refine E_goto (tgt := 44) dL_itemBy_35 (by decide) ?_
      refine E_iret dL_itemBy_44 (Or.inl rfl) ?_
      refine K _ ?_
      first
        | exact Or.inl ⟨by omega, rfl⟩
        | exact Or.inr ⟨_, Or.inl (by assumption), rfl⟩
        | exact Or.inr ⟨_, Or.inr (by omega), rfl⟩
  · refine E_iload_n dL_itemBy_10 rfl ?_
    refine E_if_ne_n (tgt := 19) dL_itemBy_11 (by decide) (by omega) (fun c_11 => ?_) (fun c_11 => ?_)
    · refine E_iload_n dL_itemBy_19 rfl ?_
      refine E_iconst (v := nI 2) dL_itemBy_20 (by decide) ?_
      refine E_icmp_ge_n (tgt := 38) dL_itemBy_21 (by decide) (by omega) (by omega) (fun c_21 => ?_) (fun c_21 => ?_)
      · refine E_iload_n dL_itemBy_38 rfl ?_
        refine E_iconst (v := nI 3) dL_itemBy_39 (by decide) ?_
        refine E_ishr dL_itemBy_40 ?_
        refine E_callT1 (fr' := 2) (k1 := 0) (n1 := 0) (k2 := 0) (n2 := 0) dL_itemBy_41 kO_L_signBy kL_L_276 (by exact Nat.le_of_ble_eq_true rfl) (by decide) (by exact Nat.le_of_ble_eq_true rfl) (Or.inl rfl) rfl ?_
        refine sp_L_signBy (fun s hs => ?_)
        refine gKv ?_
        refine E_iret dL_itemBy_44 (Or.inl rfl) ?_
        refine K _ ?_
        first
          | exact Or.inl ⟨by omega, rfl⟩
          | exact Or.inr ⟨_, Or.inl (by assumption), rfl⟩
          | exact Or.inr ⟨_, Or.inr (by omega), rfl⟩
      · refine E_sipush (v := nI 300) dL_itemBy_24 (by decide) ?_
        refine E_iload_n dL_itemBy_27 rfl ?_
        refine E_iconst (v := nI 3) dL_itemBy_28 (by decide) ?_
        refine E_ishr dL_itemBy_29 ?_
        refine E_iconst (v := nI 3) dL_itemBy_30 (by decide) ?_
        refine E_callT2 (fr' := 1) (k1 := 0) (n1 := 0) (k2 := 0) (n2 := 0) dL_itemBy_31 kO_L_low kL_L_229 (by exact Nat.le_of_ble_eq_true rfl) (by decide) (by exact Nat.le_of_ble_eq_true rfl) (Or.inl rfl) rfl ?_
        refine sp_L_low (by omega) (by omega) ?_
        refine gKv ?_
        refine E_iadd_n dL_itemBy_34 ?_
        refine E_goto (tgt := 44) dL_itemBy_35 (by decide) ?_
        refine E_iret dL_itemBy_44 (Or.inl rfl) ?_
        refine K _ ?_
        first
          | exact Or.inl ⟨by omega, rfl⟩
          | exact Or.inr ⟨_, Or.inl (by assumption), rfl⟩
          | exact Or.inr ⟨_, Or.inr (by omega), rfl⟩
    · refine E_bipush (v := -100) dL_itemBy_14 (by decide) ?_
      refine E_goto (tgt := 44) dL_itemBy_16 (by decide) ?_
      refine E_iret dL_itemBy_44 (Or.inl rfl) ?_
      refine K _ ?_
      first
        | exact Or.inl ⟨by omega, rfl⟩
        | exact Or.inr ⟨_, Or.inl (by assumption), rfl⟩
        | exact Or.inr ⟨_, Or.inr (by omega), rfl⟩
set_option maxRecDepth 100000 in
set_option maxHeartbeats 4000000 in
theorem l1_L_sized {g : gG} {M : gM} {Q : Option Value ⊕ String → gM → Prop} {c : Cf} (h : zS c M) {l : Nat} (hl : l < cN c 129 (fc0 c)) (hI : wfI c) {q sum sn : Nat} (hq : q < 256) (K : ∀ v12, E g 3 0 0 mL_sized 165 [.ref 130, .ref 131, .ref 132, .ref 133, .int (nI l), .int (nI (cN c 130 (12 * fc0 c + l))), .int (nI sn), .int (nI sum), .int (nI q), .int (b2i (glZ q)), .int (nI ((bgB c (fc0 c) (12 * fc0 c + l)) q)), .int (nI (cN c 135 (12 * fc0 c + l))), v12] [] M Q) : ∀ k, k ≤ cN c 135 (12 * fc0 c + l) → 0 ≤ k → ∀ v12, E g 3 0 0 mL_sized 67 [.ref 130, .ref 131, .ref 132, .ref 133, .int (nI l), .int (nI (cN c 130 (12 * fc0 c + l))), .int (nI sn), .int (nI sum), .int (nI q), .int (b2i (glZ q)), .int (nI (bgN (begP c (fc0 c) (12 * fc0 c + l) q) k)), .int (nI k), v12] [] M Q := by
  refine lpUp (cN c 135 (12 * fc0 c + l)) (fun k hk ih => ?_)
  intro _ v12
  have hL := h.lay
  have hf : fc0 c < 2 := h.wf.1.1
  have hct := h.ct hf
  have hr4 := h.r4 (12 * fc0 c + l)
  have hmb := mEn_b h.wf (12 * fc0 c + l)
  refine E_iload dL_sized_67 rfl ?_
  refine E_aload_n dL_sized_69 rfl ?_
  refine E_bipush (v := nI 8) dL_sized_70 (by decide) ?_
  refine E_aload_n dL_sized_72 rfl ?_
  refine E_iconst (v := nI 0) dL_sized_73 (by decide) ?_
  refine E_ialdL (v := nI (fc0 c)) dL_sized_74 (l_132 hL) (k_132 hL) rfl (by omega) (by decide) h.b0 ?_
  refine E_imul_n dL_sized_75 ?_
  refine E_iload dL_sized_76 rfl ?_
  refine E_iadd_n dL_sized_78 ?_
  refine E_ialdL (v := nI (mEn _ _)) dL_sized_79 (l_129 hL) (k_129 hL) rfl (by omega) (by decide) (h.me hf hl) ?_
  refine E_bipush (v := nI 13) dL_sized_80 (by decide) ?_
  refine E_ishr dL_sized_82 ?_
  rw [mE_13 h.wf]
  refine E_icmp_ge_n (tgt := 165) dL_sized_83 (by decide) (by omega) (by omega) (fun c_83 => ?_) (fun c_83 => ?_)
  · obtain rfl : k = cN c 135 (12 * fc0 c + l) := by omega
    exact K _
  · have hkl : k < cN c 135 (12 * fc0 c + l) := by omega
    have hbb := bgN_b (begP c (fc0 c) (12 * fc0 c + l) q) k
    have h24 : 2 ^ k ≤ 8 := Nat.pow_le_pow_right (n := 2) (by decide) (show k ≤ 3 by omega)
    have ih := ih hkl (Nat.zero_le _)
    obtain ⟨j, hj1, hj2⟩ := hI (12 * fc0 c + l) k hkl
    have hkd : leadOf (cN c 130 (12 * fc0 c + l)) = 0 ∧ ¬ (cN c 130 (12 * fc0 c + l) = 4 ∨ cN c 130 (12 * fc0 c + l) = 5) ∨ leadOf (cN c 130 (12 * fc0 c + l)) = 1 ∧ (cN c 130 (12 * fc0 c + l) = 4 ∨ cN c 130 (12 * fc0 c + l) = 5) := by
      unfold leadOf
      by_cases e : cN c 130 (12 * fc0 c + l) = 4 ∨ cN c 130 (12 * fc0 c + l) = 5
      · rw [if_pos e]; exact Or.inr ⟨rfl, e⟩
      · rw [if_neg e]; exact Or.inl ⟨rfl, e⟩
    have es : bgN (begP c (fc0 c) (12 * fc0 c + l) q) (k + 1) = bgN (begP c (fc0 c) (12 * fc0 c + l) q) k + cI ((begP c (fc0 c) (12 * fc0 c + l) q) k) (2 ^ k) 0 := rfl
    rw [es] at ih
    have hob := or_bit ⟨bgN (begP c (fc0 c) (12 * fc0 c + l) q) k, by omega⟩ ⟨k, by omega⟩ hbb
    have yes : ∀ x, x = rul c (12 * fc0 c + l) k (leadOf (cN c 130 (12 * fc0 c + l))) → (begP c (fc0 c) (12 * fc0 c + l) q) k → E g 3 0 0 mL_sized 150 [.ref 130, .ref 131, .ref 132, .ref 133, .int (nI l), .int (nI (cN c 130 (12 * fc0 c + l))), .int (nI sn), .int (nI sum), .int (nI q), .int (b2i (glZ q)), .int (nI (bgN (begP c (fc0 c) (12 * fc0 c + l) q) k)), .int (nI k), .int x] [] M Q := by
      intro x hx hp
      rw [cI_t hp] at ih
      refine E_iload dL_sized_150 rfl ?_
      refine E_iconst (v := nI 1) dL_sized_152 (by decide) ?_
      refine E_iload dL_sized_153 rfl ?_
      refine E_ishl dL_sized_155 ?_
      refine E_ior dL_sized_156 ?_
      rw [hob]
      refine E_istore dL_sized_157 (Nat.le_of_ble_eq_true rfl) (by decide) rfl ?_
      refine E_iinc_n (d := 1) dL_sized_159 rfl rfl rfl (by decide) rfl ?_
      refine E_goto (tgt := 67) dL_sized_162 (by decide) ?_
      exact ih _
    have no : ∀ x, x = rul c (12 * fc0 c + l) k (leadOf (cN c 130 (12 * fc0 c + l))) → ¬ (begP c (fc0 c) (12 * fc0 c + l) q) k → E g 3 0 0 mL_sized 159 [.ref 130, .ref 131, .ref 132, .ref 133, .int (nI l), .int (nI (cN c 130 (12 * fc0 c + l))), .int (nI sn), .int (nI sum), .int (nI q), .int (b2i (glZ q)), .int (nI (bgN (begP c (fc0 c) (12 * fc0 c + l) q) k)), .int (nI k), .int x] [] M Q := by
      intro x hx hp
      rw [cI_f hp, Nat.add_zero] at ih
      refine E_iinc_n (d := 1) dL_sized_159 rfl rfl rfl (by decide) rfl ?_
      refine E_goto (tgt := 67) dL_sized_162 (by decide) ?_
      exact ih _
    have go : ∀ x, x = rul c (12 * fc0 c + l) k (leadOf (cN c 130 (12 * fc0 c + l))) → E g 3 0 0 mL_sized 120 [.ref 130, .ref 131, .ref 132, .ref 133, .int (nI l), .int (nI (cN c 130 (12 * fc0 c + l))), .int (nI sn), .int (nI sum), .int (nI q), .int (b2i (glZ q)), .int (nI (bgN (begP c (fc0 c) (12 * fc0 c + l) q) k)), .int (nI k), .int x] [] M Q := by
      intro x hx
      have hpx : (begP c (fc0 c) (12 * fc0 c + l) q) k ↔ isAt c (fc0 c) x q := by rw [hx]; exact Iff.rfl
      have h300 : ¬ glZ q → (isAt c (fc0 c) x q ↔ x = nI 300) := fun z => isAt_300 z (h.wz.2.2.2.2.2 (fc0 c) q hf hq z) (hx.trans hj1) hj2 hq
      refine E_iload dL_sized_120 rfl ?_
      refine E_if_eq_b (tgt := 142) dL_sized_122 (by decide) (fun c_122 => ?_) (fun c_122 => ?_)
      · refine E_iload dL_sized_142 rfl ?_
        refine E_sipush (v := nI 300) dL_sized_144 (by decide) ?_
        refine E_icmp_ne_r (tgt := 159) dL_sized_147 (by decide) (fun c_147 => ?_) (fun c_147 => ?_)
        · first
            | exact no _ hx (fun z => c_136 (hpx.mp z))
            | exact no _ hx (fun z => c_147 ((h300 c_122).mp (hpx.mp z)))
        · first
            | exact yes _ hx (hpx.mpr c_136)
            | exact yes _ hx (hpx.mpr ((h300 c_122).mpr c_147))
      · refine E_aload_n dL_sized_125 rfl ?_
        refine E_aload_n dL_sized_126 rfl ?_
        refine E_iconst (v := nI 0) dL_sized_127 (by decide) ?_
        refine E_ialdL (v := nI (fc0 c)) dL_sized_128 (l_132 hL) (k_132 hL) rfl (by omega) (by decide) h.b0 ?_
        refine E_iload dL_sized_129 rfl ?_
        refine E_iload dL_sized_131 rfl ?_
        refine E_callT4 (fr' := 2) (k1 := 0) (n1 := 0) (k2 := 0) (n2 := 0) dL_sized_133 kO_L_is kL_L_128 (by exact Nat.le_of_ble_eq_true rfl) (by decide) (by exact Nat.le_of_ble_eq_true rfl) (Or.inl rfl) rfl ?_
        refine sp_L_is h hf c_122 ?_
        refine gKv ?_
        refine E_if_eq_b (tgt := 159) dL_sized_136 (by decide) (fun c_136 => ?_) (fun c_136 => ?_)
        · first
            | exact no _ hx (fun z => c_136 (hpx.mp z))
            | exact no _ hx (fun z => c_147 ((h300 c_122).mp (hpx.mp z)))
        · refine E_goto (tgt := 150) dL_sized_139 (by decide) ?_
          first
            | exact yes _ hx (hpx.mpr c_136)
            | exact yes _ hx (hpx.mpr ((h300 c_122).mpr c_147))
    refine E_aload_n dL_sized_86 rfl ?_
    refine E_bipush (v := nI 8) dL_sized_87 (by decide) ?_
    refine E_aload_n dL_sized_89 rfl ?_
    refine E_iconst (v := nI 0) dL_sized_90 (by decide) ?_
    refine E_ialdL (v := nI (fc0 c)) dL_sized_91 (l_132 hL) (k_132 hL) rfl (by omega) (by decide) h.b0 ?_
    refine E_imul_n dL_sized_92 ?_
    refine E_iload dL_sized_93 rfl ?_
    refine E_iadd_n dL_sized_95 ?_
    refine E_iload dL_sized_96 rfl ?_
    refine E_iload dL_sized_98 rfl ?_
    refine E_iconst (v := nI 4) dL_sized_100 (by decide) ?_
    refine E_icmp_eq_n (tgt := 110) dL_sized_101 (by decide) (by omega) (by omega) (fun c_101 => ?_) (fun c_101 => ?_)
    · refine E_iconst (v := nI 1) dL_sized_110 (by decide) ?_
      refine E_goto (tgt := 115) dL_sized_111 (by decide) ?_
      refine E_callT4 (fr' := 1) (k1 := 0) (n1 := 0) (k2 := 0) (n2 := 0) dL_sized_115 kO_L_number kL_L_124 (by exact Nat.le_of_ble_eq_true rfl) (by decide) (by exact Nat.le_of_ble_eq_true rfl) (Or.inl rfl) rfl ?_
      refine sp_L_number h hf hl hkl (by decide) ?_
      refine gKv ?_
      refine E_istore dL_sized_118 (Nat.le_of_ble_eq_true rfl) (by decide) rfl ?_
      refine go _ ?_
      first
        | (rw [(hkd.resolve_left (fun z => by omega)).1])
        | (rw [(hkd.resolve_right (fun z => by omega)).1])
    · refine E_iload dL_sized_104 rfl ?_
      refine E_iconst (v := nI 5) dL_sized_106 (by decide) ?_
      refine E_icmp_ne_n (tgt := 114) dL_sized_107 (by decide) (by omega) (by omega) (fun c_107 => ?_) (fun c_107 => ?_)
      · refine E_iconst (v := nI 0) dL_sized_114 (by decide) ?_
        refine E_callT4 (fr' := 1) (k1 := 0) (n1 := 0) (k2 := 0) (n2 := 0) dL_sized_115 kO_L_number kL_L_124 (by exact Nat.le_of_ble_eq_true rfl) (by decide) (by exact Nat.le_of_ble_eq_true rfl) (Or.inl rfl) rfl ?_
        refine sp_L_number h hf hl hkl (by decide) ?_
        refine gKv ?_
        refine E_istore dL_sized_118 (Nat.le_of_ble_eq_true rfl) (by decide) rfl ?_
        refine go _ ?_
        first
          | (rw [(hkd.resolve_left (fun z => by omega)).1])
          | (rw [(hkd.resolve_right (fun z => by omega)).1])
      · refine E_iconst (v := nI 1) dL_sized_110 (by decide) ?_
        refine E_goto (tgt := 115) dL_sized_111 (by decide) ?_
        refine E_callT4 (fr' := 1) (k1 := 0) (n1 := 0) (k2 := 0) (n2 := 0) dL_sized_115 kO_L_number kL_L_124 (by exact Nat.le_of_ble_eq_true rfl) (by decide) (by exact Nat.le_of_ble_eq_true rfl) (Or.inl rfl) rfl ?_
        refine sp_L_number h hf hl hkl (by decide) ?_
        refine gKv ?_
        refine E_istore dL_sized_118 (Nat.le_of_ble_eq_true rfl) (by decide) rfl ?_
        refine go _ ?_
        first
          | (rw [(hkd.resolve_left (fun z => by omega)).1])
          | (rw [(hkd.resolve_right (fun z => by omega)).1])
set_option maxRecDepth 100000 in
set_option maxHeartbeats 4000000 in
theorem l2_L_sized {g : gG} {M : gM} {Q : Option Value ⊕ String → gM → Prop} {c : Cf} (h : zS c M) {l : Nat} (hl : l < cN c 129 (fc0 c)) (hI : wfI c) {q sum : Nat} {v12 : Value} (hq : q < 256) (hsum : sum < 10000) (K : ∀ x11, E g 3 0 0 mL_sized 210 [.ref 130, .ref 131, .ref 132, .ref 133, .int (nI l), .int (nI (cN c 130 (12 * fc0 c + l))), .int (nI (bgN (seen (bgB c (fc0 c) (12 * fc0 c + l)) q) 16)), .int (nI (sum + cI (seen (bgB c (fc0 c) (12 * fc0 c + l)) q ((bgB c (fc0 c) (12 * fc0 c + l)) q)) 0 (pcN 8 ((bgB c (fc0 c) (12 * fc0 c + l)) q)))), .int (nI q), .int (b2i (glZ q)), .int (nI ((bgB c (fc0 c) (12 * fc0 c + l)) q)), .int x11, v12] [] M Q) : ∀ x11, E g 3 0 0 mL_sized 173 [.ref 130, .ref 131, .ref 132, .ref 133, .int (nI l), .int (nI (cN c 130 (12 * fc0 c + l))), .int (nI (bgN (seen (bgB c (fc0 c) (12 * fc0 c + l)) q) 16)), .int (nI sum), .int (nI q), .int (b2i (glZ q)), .int (nI ((bgB c (fc0 c) (12 * fc0 c + l)) q)), .int x11, v12] [] M Q := by
  intro x11
  have hL := h.lay
  have hf : fc0 c < 2 := h.wf.1.1
  have hct := h.ct hf
  have hr4 := h.r4 (12 * fc0 c + l)
  have hmb := mEn_b h.wf (12 * fc0 c + l)
  have hs16 : ((bgB c (fc0 c) (12 * fc0 c + l)) q) < 16 := bgB_4 hr4
  have hm16 := bgN_b (seen (bgB c (fc0 c) (12 * fc0 c + l)) q) 16
  have eS : (nI (bgN (seen (bgB c (fc0 c) (12 * fc0 c + l)) q) 16) >>> (nI ((bgB c (fc0 c) (12 * fc0 c + l)) q) &&& 31)) &&& nI 1 = nI (cI (seen (bgB c (fc0 c) (12 * fc0 c + l)) q ((bgB c (fc0 c) (12 * fc0 c + l)) q)) 1 0) := zf (k := 1) (by omega) (by omega) rfl (bgN_d hs16)
  have hlp : ∀ k, k ≤ 4 → 0 ≤ k → ¬ seen (bgB c (fc0 c) (12 * fc0 c + l)) q ((bgB c (fc0 c) (12 * fc0 c + l)) q) → E g 3 0 0 mL_sized 176 [.ref 130, .ref 131, .ref 132, .ref 133, .int (nI l), .int (nI (cN c 130 (12 * fc0 c + l))), .int (nI (bgN (seen (bgB c (fc0 c) (12 * fc0 c + l)) q) 16)), .int (nI (sum + pcL ((bgB c (fc0 c) (12 * fc0 c + l)) q) k)), .int (nI q), .int (b2i (glZ q)), .int (nI ((bgB c (fc0 c) (12 * fc0 c + l)) q)), .int (nI k), v12] [] M Q := by
    refine lpUp 4 (fun k hk ih => ?_)
    intro _ hn
    rw [cI_f hn] at eS K
    have hpb := pcL_b ((bgB c (fc0 c) (12 * fc0 c + l)) q) k
    refine E_iload dL_sized_176 rfl ?_
    refine E_iconst (v := nI 4) dL_sized_178 (by decide) ?_
    refine E_icmp_ge_n (tgt := 210) dL_sized_179 (by decide) (by omega) (by omega) (fun c_179 => ?_) (fun c_179 => ?_)
    · obtain rfl : k = 4 := by omega
      rw [← pcL_4 _ hs16] at K
      exact K _
    · refine E_iload dL_sized_182 rfl ?_
      refine E_iload dL_sized_184 rfl ?_
      refine E_ishr dL_sized_186 ?_
      refine E_iconst (v := nI 1) dL_sized_187 (by decide) ?_
      refine E_iand dL_sized_188 ?_
      rw [eS]
      refine E_if_ne (tgt := 210) dL_sized_189 (by decide) (fun c0 => absurd c0 (by decide)) (fun _ => ?_)
      refine E_iload dL_sized_192 rfl ?_
      refine E_iload dL_sized_194 rfl ?_
      refine E_iload dL_sized_196 rfl ?_
      refine E_ishr dL_sized_198 ?_
      refine E_iconst (v := nI 1) dL_sized_199 (by decide) ?_
      have eK : (nI ((bgB c (fc0 c) (12 * fc0 c + l)) q) >>> (nI k &&& 31)) &&& nI 1 = nI (((bgB c (fc0 c) (12 * fc0 c + l)) q) / 2 ^ k % 2) := zf (k := 1) (by omega) (by omega) rfl rfl
      refine E_iand dL_sized_200 ?_
      rw [eK]
      refine E_iadd_n dL_sized_201 ?_
      refine E_istore dL_sized_202 (Nat.le_of_ble_eq_true rfl) (by decide) rfl ?_
      refine E_iinc_n (d := 1) dL_sized_204 rfl rfl rfl (by decide) rfl ?_
      refine E_goto (tgt := 176) dL_sized_207 (by decide) ?_
      rw [Nat.add_assoc]
      exact ih (by omega) (Nat.zero_le _) hn
  by_cases hn : seen (bgB c (fc0 c) (12 * fc0 c + l)) q ((bgB c (fc0 c) (12 * fc0 c + l)) q)
  · rw [cI_t hn] at eS K
    refine E_iconst (v := nI 0) dL_sized_173 (by decide) ?_
    refine E_istore dL_sized_174 (Nat.le_of_ble_eq_true rfl) (by decide) rfl ?_
    refine E_iload dL_sized_176 rfl ?_
    refine E_iconst (v := nI 4) dL_sized_178 (by decide) ?_
    refine E_icmp_ge (tgt := 210) dL_sized_179 (by decide) (fun c0 => absurd c0 (by decide)) (fun _ => ?_)
    refine E_iload dL_sized_182 rfl ?_
    refine E_iload dL_sized_184 rfl ?_
    refine E_ishr dL_sized_186 ?_
    refine E_iconst (v := nI 1) dL_sized_187 (by decide) ?_
    refine E_iand dL_sized_188 ?_
    rw [eS]
    refine E_if_ne (tgt := 210) dL_sized_189 (by decide) (fun _ => ?_) (fun c0 => absurd (by decide) c0)
    exact K _
  · have z := hlp 0 (by decide) (Nat.le_refl _) hn
    refine E_iconst (v := nI 0) dL_sized_173 (by decide) ?_
    refine E_istore dL_sized_174 (Nat.le_of_ble_eq_true rfl) (by decide) rfl ?_
    exact z
set_option maxRecDepth 100000 in
set_option maxHeartbeats 4000000 in
theorem lp_L_sized {g : gG} {M : gM} {Q : Option Value ⊕ String → gM → Prop} {c : Cf} (h : zS c M) {l : Nat} (hl : l < cN c 129 (fc0 c)) (hI : wfI c) (K : Q (.inl (some (.int (nI (szV c l))))) M) : ∀ q, q ≤ 256 → 0 ≤ q → ∀ v9 v10 v11 v12, E g 3 0 0 mL_sized 25 [.ref 130, .ref 131, .ref 132, .ref 133, .int (nI l), .int (nI (cN c 130 (12 * fc0 c + l))), .int (nI (bgN (seen (bgB c (fc0 c) (12 * fc0 c + l)) q) 16)), .int (nI (szS (bgB c (fc0 c) (12 * fc0 c + l)) q)), .int (nI q), v9, v10, v11, v12] [] M Q := by
  refine lpUp 256 (fun q hq ih => ?_)
  intro _ v9 v10 v11 v12
  have hL := h.lay
  have hf : fc0 c < 2 := h.wf.1.1
  have hct := h.ct hf
  have hr4 := h.r4 (12 * fc0 c + l)
  have hmb := mEn_b h.wf (12 * fc0 c + l)
  have hsb := szS_b (bgB c (fc0 c) (12 * fc0 c + l)) q
  have hm16 := bgN_b (seen (bgB c (fc0 c) (12 * fc0 c + l)) q) 16
  refine E_iload dL_sized_25 rfl ?_
  refine E_sipush (v := nI 256) dL_sized_27 (by decide) ?_
  refine E_icmp_ge_n (tgt := 225) dL_sized_30 (by decide) (by omega) (by omega) (fun c_30 => ?_) (fun c_30 => ?_)
  · refine E_iload dL_sized_225 rfl ?_
    refine E_iret dL_sized_227 (Or.inl rfl) ?_
    obtain rfl : q = 256 := by omega
    exact K
  · have hq2 : q < 256 := by omega
    have hs16 : ((bgB c (fc0 c) (12 * fc0 c + l)) q) < 16 := bgB_4 hr4
    have hp16 : 2 ^ ((bgB c (fc0 c) (12 * fc0 c + l)) q) ≤ 2 ^ 15 := Nat.pow_le_pow_right (by decide) (by omega)
    have eO : nI (bgN (seen (bgB c (fc0 c) (12 * fc0 c + l)) q) 16) ||| (nI 1 <<< (nI ((bgB c (fc0 c) (12 * fc0 c + l)) q) &&& 31)) = nI (bgN (seen (bgB c (fc0 c) (12 * fc0 c + l)) (q + 1)) 16) := by
      rw [shl_1 _ hs16, nx_or, bgN_or hs16 (fun x => seen_s)]
    have go : ∀ x, x = b2i (glZ q) → E g 3 0 0 mL_sized 59 [.ref 130, .ref 131, .ref 132, .ref 133, .int (nI l), .int (nI (cN c 130 (12 * fc0 c + l))), .int (nI (bgN (seen (bgB c (fc0 c) (12 * fc0 c + l)) q) 16)), .int (nI (szS (bgB c (fc0 c) (12 * fc0 c + l)) q)), .int (nI q), v9, v10, v11, v12] [.int x] M Q := by
      intro x hx
      rw [hx]
      refine E_istore dL_sized_59 (Nat.le_of_ble_eq_true rfl) (by decide) rfl ?_
      refine E_iconst (v := nI 0) dL_sized_61 (by decide) ?_
      refine E_istore dL_sized_62 (Nat.le_of_ble_eq_true rfl) (by decide) rfl ?_
      refine E_iconst (v := nI 0) dL_sized_64 (by decide) ?_
      refine E_istore dL_sized_65 (Nat.le_of_ble_eq_true rfl) (by decide) rfl ?_
      refine l1_L_sized h hl hI hq2 (fun v12 => ?_) 0 (Nat.zero_le _) (Nat.le_refl _) _
      have go2 : ∀ x x11, x = szS (bgB c (fc0 c) (12 * fc0 c + l)) q + cI (((bgB c (fc0 c) (12 * fc0 c + l)) q) = 0) 0 1 → E g 3 0 0 mL_sized 173 [.ref 130, .ref 131, .ref 132, .ref 133, .int (nI l), .int (nI (cN c 130 (12 * fc0 c + l))), .int (nI (bgN (seen (bgB c (fc0 c) (12 * fc0 c + l)) q) 16)), .int (nI x), .int (nI q), .int (b2i (glZ q)), .int (nI ((bgB c (fc0 c) (12 * fc0 c + l)) q)), .int x11, v12] [] M Q := by
        intro x x11 hx
        have hc1 : cI (((bgB c (fc0 c) (12 * fc0 c + l)) q) = 0) 0 1 ≤ 1 := by
          by_cases e : ((bgB c (fc0 c) (12 * fc0 c + l)) q) = 0
          · rw [cI_t e]; omega
          · rw [cI_f e]; omega
        rw [hx]
        refine l2_L_sized h hl hI hq2 (by omega) (fun x11 => ?_) x11
        refine E_iload dL_sized_210 rfl ?_
        refine E_iconst (v := nI 1) dL_sized_212 (by decide) ?_
        refine E_iload dL_sized_213 rfl ?_
        refine E_ishl dL_sized_215 ?_
        refine E_ior dL_sized_216 ?_
        rw [eO]
        refine E_istore dL_sized_217 (Nat.le_of_ble_eq_true rfl) (by decide) rfl ?_
        refine E_iinc_n (d := 1) dL_sized_219 rfl rfl rfl (by decide) rfl ?_
        refine E_goto (tgt := 25) dL_sized_222 (by decide) ?_
        exact ih hq2 (Nat.zero_le _) _ _ _ _
      refine E_iload dL_sized_165 rfl ?_
      refine E_if_le_n (tgt := 173) dL_sized_167 (by decide) (by omega) (fun c_167 => ?_) (fun c_167 => ?_)
      · first
          | exact go2 _ _ (by rw [cI_t (by omega)]; rfl)
          | exact go2 _ _ (by rw [cI_f (by omega)])
      · refine E_iinc_n (d := 1) dL_sized_170 rfl rfl rfl (by decide) rfl ?_
        first
          | exact go2 _ _ (by rw [cI_t (by omega)]; rfl)
          | exact go2 _ _ (by rw [cI_f (by omega)])
    refine E_iload dL_sized_33 rfl ?_
    refine E_bipush (v := nI 45) dL_sized_35 (by decide) ?_
    refine E_icmp_lt_n (tgt := 54) dL_sized_37 (by decide) (by omega) (by omega) (fun c_37 => ?_) (fun c_37 => ?_)
    · refine E_iconst (v := nI 1) dL_sized_54 (by decide) ?_
      refine E_goto (tgt := 59) dL_sized_55 (by decide) ?_
      first
        | exact go _ (b2i_t (by unfold glZ; omega)).symm
        | exact go _ (b2i_f (by unfold glZ; omega)).symm
    · refine E_iload dL_sized_40 rfl ?_
      refine E_bipush (v := nI 63) dL_sized_42 (by decide) ?_
      refine E_icmp_le_n (tgt := 58) dL_sized_44 (by decide) (by omega) (by omega) (fun c_44 => ?_) (fun c_44 => ?_)
      · refine E_iconst (v := nI 0) dL_sized_58 (by decide) ?_
        first
          | exact go _ (b2i_t (by unfold glZ; omega)).symm
          | exact go _ (b2i_f (by unfold glZ; omega)).symm
      · refine E_iload dL_sized_47 rfl ?_
        refine E_bipush (v := nI 83) dL_sized_49 (by decide) ?_
        refine E_icmp_ge_n (tgt := 58) dL_sized_51 (by decide) (by omega) (by omega) (fun c_51 => ?_) (fun c_51 => ?_)
        · refine E_iconst (v := nI 0) dL_sized_58 (by decide) ?_
          first
            | exact go _ (b2i_t (by unfold glZ; omega)).symm
            | exact go _ (b2i_f (by unfold glZ; omega)).symm
        · refine E_iconst (v := nI 1) dL_sized_54 (by decide) ?_
          refine E_goto (tgt := 59) dL_sized_55 (by decide) ?_
          first
            | exact go _ (b2i_t (by unfold glZ; omega)).symm
            | exact go _ (b2i_f (by unfold glZ; omega)).symm
set_option maxRecDepth 100000 in
set_option maxHeartbeats 4000000 in
theorem sp_L_sized {g : gG} {M : gM} {Q : Option Value ⊕ String → gM → Prop} {c : Cf} (h : zS c M) {l : Nat} (hl : l < cN c 129 (fc0 c)) (hI : wfI c) (K : Q (.inl (some (.int (nI (szV c l))))) M) : E g 3 0 0 mL_sized 0 [.ref 130, .ref 131, .ref 132, .ref 133, .int (nI l), .null, .null, .null, .null, .null, .null, .null, .null] [] M Q := by
  have hL := h.lay
  have hf : fc0 c < 2 := h.wf.1.1
  have hct := h.ct hf
  have hr4 := h.r4 (12 * fc0 c + l)
  have hmb := mEn_b h.wf (12 * fc0 c + l)
  have e1 : (bgN (seen (bgB c (fc0 c) (12 * fc0 c + l)) 0) 16) = 1 := by
    apply Nat.eq_of_testBit_eq
    intro i
    rw [Bool.eq_iff_iff, bgN_t]
    unfold seen
    by_cases e : i = 0
    · subst e
      exact ⟨fun _ => by decide, fun _ => ⟨by decide, Or.inl rfl⟩⟩
    · rw [show (1 : Nat) = 2 ^ 0 from rfl, Nat.testBit_two_pow, decide_eq_true_iff]
      exact ⟨fun z => by rcases z.2 with z | ⟨j, z, -⟩ <;> omega, fun z => by omega⟩
  refine E_aload_n dL_sized_0 rfl ?_
  refine E_bipush (v := nI 8) dL_sized_1 (by decide) ?_
  refine E_aload_n dL_sized_3 rfl ?_
  refine E_iconst (v := nI 0) dL_sized_4 (by decide) ?_
  refine E_ialdL (v := nI (fc0 c)) dL_sized_5 (l_132 hL) (k_132 hL) rfl (by omega) (by decide) h.b0 ?_
  refine E_imul_n dL_sized_6 ?_
  refine E_iload dL_sized_7 rfl ?_
  refine E_iadd_n dL_sized_9 ?_
  refine E_ialdL (v := nI (mEn _ _)) dL_sized_10 (l_129 hL) (k_129 hL) rfl (by omega) (by decide) (h.me hf hl) ?_
  refine E_bipush (v := nI 15) dL_sized_11 (by decide) ?_
  refine E_iand dL_sized_13 ?_
  rw [mE_0_15 h.wf]
  refine E_istore dL_sized_14 (Nat.le_of_ble_eq_true rfl) (by decide) rfl ?_
  refine E_iconst (v := nI 1) dL_sized_16 (by decide) ?_
  refine E_istore dL_sized_17 (Nat.le_of_ble_eq_true rfl) (by decide) rfl ?_
  refine E_iconst (v := nI 0) dL_sized_19 (by decide) ?_
  refine E_istore dL_sized_20 (Nat.le_of_ble_eq_true rfl) (by decide) rfl ?_
  refine E_iconst (v := nI 0) dL_sized_22 (by decide) ?_
  refine E_istore dL_sized_23 (Nat.le_of_ble_eq_true rfl) (by decide) rfl ?_
  have z := lp_L_sized (g := g) h hl hI K 0 (Nat.zero_le _) (Nat.le_refl _) .null .null .null .null
  rw [e1] at z
  exact z
