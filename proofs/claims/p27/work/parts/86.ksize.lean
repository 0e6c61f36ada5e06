/-! the class: the size of a table -/
section LS
variable {g : gG} {fr k n : Nat} {μ : gMu} {pc : Nat} {ls st : List Value} {M : gM} {Q : Option Value ⊕ String → gM → Prop}
end LS
/-! bits of longs -/
def bt (v : Int64) (t : Nat) : Prop := v.toBitVec.getLsbD t = true
def oneL (t : Nat) : Int64 := 1 <<< ((nI t).toInt64 &&& 63)
theorem oneL_v : ∀ t, t < 64 → (oneL t).toBitVec = BitVec.twoPow 64 t := by decide +kernel
theorem bt_and {v : Int64} {t : Nat} (ht : t < 64) : v &&& oneL t = 0 ↔ ¬ bt v t := by
  rw [← Int64.toBitVec_inj, Int64.toBitVec_and, oneL_v t ht]
  unfold bt
  constructor
  · intro h q
    have h2 := congrArg (fun z => BitVec.getLsbD z t) h
    rw [BitVec.getLsbD_eq_getElem ht] at q
    simp [BitVec.getLsbD_and, BitVec.getLsbD_twoPow, ht, q] at h2
  · intro h
    apply BitVec.eq_of_getLsbD_eq
    intro s hs
    rw [BitVec.getLsbD_and, BitVec.getLsbD_twoPow]
    by_cases e : t = s
    · subst e
      simp at h
      simp [h]
    · simp [e]
theorem bt_or {v : Int64} {t s : Nat} (ht : t < 64) : bt (v ||| oneL t) s ↔ bt v s ∨ s = t := by
  unfold bt
  rw [Int64.toBitVec_or, oneL_v t ht, BitVec.getLsbD_or, BitVec.getLsbD_twoPow]
  by_cases e : t = s
  · subst e; simp [ht]
  · have e2 : ¬ s = t := fun q => e q.symm
    simp [e, e2]
theorem bt_0 {t : Nat} : ¬ bt 0 t := by
  unfold bt
  simp
theorem lgc_0 {x : Int64} : lg_cmp x 0 = 0 ↔ x = 0 := lg_cmp_eq x 0
def sn (b : Nat → Nat) (k x : Nat) : Prop := ¬ x = 0 ∧ seen b k x
def bcU (a y : Int32) : Int32 := (a.toUInt32 >>> (y.toUInt32 &&& Int32.toUInt32 31)).toInt32
def bc1 (a : Int32) : Int32 := a - (bcU a (nI 1) &&& 1431655765)
def bc2 (a : Int32) : Int32 := (a &&& 858993459) + (bcU a (nI 2) &&& 858993459)
def bc3 (a : Int32) : Int32 := (a + bcU a (nI 4)) &&& 252645135
def bc4 (a : Int32) : Int32 := a + bcU a (nI 8)
def bc5 (a : Int32) : Int32 := a + bcU a (nI 16)
theorem bc_v : ∀ x, x < 256 → bc5 (bc4 (bc3 (bc2 (bc1 (nI x))))) &&& nI 63 = nI (pcN 8 x) := by decide +kernel
theorem and255 : ∀ x, x < 256 → nI x &&& nI 255 = nI x := by decide +kernel
set_option maxRecDepth 100000 in
set_option maxHeartbeats 4000000 in
theorem sp_J6_bitCount {g : gG} {M : gM} {Q : Option Value ⊕ String → gM → Prop} {x : Nat} (hx : x < 256) (K : Q (.inl (some (.int (nI (pcN 8 x))))) M) : E g 1 0 0 mJ6_bitCount_0f7a4 0 [.int (nI x)] [] M Q := by
  refine E_iload_n dJ6_bitCount_0f7a4_0 rfl ?_
  refine E_iload_n dJ6_bitCount_0f7a4_1 rfl ?_
  refine E_iconst (v := nI 1) dJ6_bitCount_0f7a4_2 (by decide) ?_
  refine E_iushr dJ6_bitCount_0f7a4_3 ?_
  refine E_ldcw (v := 1431655765) dJ6_bitCount_0f7a4_4 (gW_at 1278 (by decide +kernel) (by decide +kernel)) ?_
  refine E_iand dJ6_bitCount_0f7a4_7 ?_
  refine E_isub dJ6_bitCount_0f7a4_8 ?_
  refine E_istore_n dJ6_bitCount_0f7a4_9 (Nat.le_of_ble_eq_true rfl) (by decide) rfl ?_
  refine E_iload_n dJ6_bitCount_0f7a4_10 rfl ?_
  refine E_ldcw (v := 858993459) dJ6_bitCount_0f7a4_11 (gW_at 1279 (by decide +kernel) (by decide +kernel)) ?_
  refine E_iand dJ6_bitCount_0f7a4_14 ?_
  refine E_iload_n dJ6_bitCount_0f7a4_15 rfl ?_
  refine E_iconst (v := nI 2) dJ6_bitCount_0f7a4_16 (by decide) ?_
  refine E_iushr dJ6_bitCount_0f7a4_17 ?_
  refine E_ldcw (v := 858993459) dJ6_bitCount_0f7a4_18 (gW_at 1279 (by decide +kernel) (by decide +kernel)) ?_
  refine E_iand dJ6_bitCount_0f7a4_21 ?_
  refine E_iadd dJ6_bitCount_0f7a4_22 ?_
  refine E_istore_n dJ6_bitCount_0f7a4_23 (Nat.le_of_ble_eq_true rfl) (by decide) rfl ?_
  refine E_iload_n dJ6_bitCount_0f7a4_24 rfl ?_
  refine E_iload_n dJ6_bitCount_0f7a4_25 rfl ?_
  refine E_iconst (v := nI 4) dJ6_bitCount_0f7a4_26 (by decide) ?_
  refine E_iushr dJ6_bitCount_0f7a4_27 ?_
  refine E_iadd dJ6_bitCount_0f7a4_28 ?_
  refine E_ldcw (v := 252645135) dJ6_bitCount_0f7a4_29 (gW_at 1280 (by decide +kernel) (by decide +kernel)) ?_
  refine E_iand dJ6_bitCount_0f7a4_32 ?_
  refine E_istore_n dJ6_bitCount_0f7a4_33 (Nat.le_of_ble_eq_true rfl) (by decide) rfl ?_
  refine E_iload_n dJ6_bitCount_0f7a4_34 rfl ?_
  refine E_iload_n dJ6_bitCount_0f7a4_35 rfl ?_
  refine E_bipush (v := nI 8) dJ6_bitCount_0f7a4_36 (by decide) ?_
  refine E_iushr dJ6_bitCount_0f7a4_38 ?_
  refine E_iadd dJ6_bitCount_0f7a4_39 ?_
  refine E_istore_n dJ6_bitCount_0f7a4_40 (Nat.le_of_ble_eq_true rfl) (by decide) rfl ?_
  refine E_iload_n dJ6_bitCount_0f7a4_41 rfl ?_
  refine E_iload_n dJ6_bitCount_0f7a4_42 rfl ?_
  refine E_bipush (v := nI 16) dJ6_bitCount_0f7a4_43 (by decide) ?_
  refine E_iushr dJ6_bitCount_0f7a4_45 ?_
  refine E_iadd dJ6_bitCount_0f7a4_46 ?_
  refine E_istore_n dJ6_bitCount_0f7a4_47 (Nat.le_of_ble_eq_true rfl) (by decide) rfl ?_
  refine E_iload_n dJ6_bitCount_0f7a4_48 rfl ?_
  refine E_bipush (v := nI 63) dJ6_bitCount_0f7a4_49 (by decide) ?_
  refine E_iand dJ6_bitCount_0f7a4_51 ?_
  refine E_iret dJ6_bitCount_0f7a4_52 (Or.inl rfl) ?_
  show Q (.inl (some (.int (bc5 (bc4 (bc3 (bc2 (bc1 (nI x))))) &&& nI 63)))) M
  rw [bc_v x hx]; exact K
