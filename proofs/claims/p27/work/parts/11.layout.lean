/-! the places of the fixed objects (printed by wip/gen/layout.py), rules over them -/
def glayL : List (Nat × Nat) := [(11, 0), (17, 2), (10, 0), (13, 16), (13, 16), (14, 45), (8, 0), (19, 64), (2, 0), (2, 0), (2, 0), (2, 0), (2, 0), (2, 0), (2, 0), (2, 0), (2, 0), (2, 0), (2, 0), (2, 0), (2, 0), (2, 0), (2, 0), (2, 0), (2, 0), (2, 0), (2, 0), (2, 0), (2, 0), (2, 0), (2, 0), (2, 0), (2, 0), (2, 0), (2, 0), (2, 0), (2, 0), (2, 0), (2, 0), (2, 0), (2, 0), (2, 0), (2, 0), (2, 0), (2, 0), (2, 0), (2, 0), (2, 0), (2, 0), (2, 0), (2, 0), (2, 0), (2, 0), (2, 0), (2, 0), (2, 0), (2, 0), (2, 0), (2, 0), (2, 0), (2, 0), (2, 0), (2, 0), (2, 0), (2, 0), (2, 0), (2, 0), (2, 0), (2, 0), (2, 0), (2, 0), (2, 0), (5, 0), (0, 0), (13, 3), (7, 0), (3, 0), (13, 16), (6, 0), (9, 0), (13, 16), (13, 16), (14, 16), (13, 16), (13, 16), (13, 16), (13, 16), (13, 16), (13, 16), (13, 16), (13, 1024), (13, 1024), (13, 1024), (13, 1024), (13, 1024), (13, 1024), (13, 1024), (13, 1024), (6, 0), (9, 0), (13, 16), (13, 16), (14, 16), (13, 16), (13, 16), (13, 16), (13, 16), (13, 16), (13, 16), (13, 16), (13, 1024), (13, 1024), (13, 1024), (13, 1024), (13, 1024), (13, 1024), (13, 1024), (13, 1024), (1, 0), (18, 12), (13, 256), (13, 256), (13, 256), (1, 0), (18, 12), (13, 256), (13, 256), (13, 256), (13, 16), (13, 16), (15, 64), (13, 64), (13, 12), (13, 64), (13, 64), (13, 64), (13, 64), (13, 64), (13, 62)]
def glrefL : List (Nat × (Nat × Nat)) := [(0, (0, 1)), (0, (1, 2)), (0, (2, 6)), (0, (3, 72)), (0, (4, 73)), (0, (5, 75)), (0, (6, 76)), (0, (7, 78)), (0, (8, 98)), (1, (0, 118)), (1, (1, 123)), (2, (0, 3)), (2, (1, 4)), (2, (2, 5)), (6, (0, 7)), (72, (0, 6)), (73, (0, 6)), (73, (1, 74)), (75, (0, 6)), (76, (0, 77)), (78, (0, 79)), (78, (1, 90)), (78, (2, 91)), (78, (3, 92)), (78, (4, 93)), (78, (5, 94)), (78, (6, 95)), (78, (7, 96)), (78, (8, 97)), (79, (0, 80)), (79, (1, 81)), (79, (2, 82)), (79, (3, 83)), (79, (4, 84)), (79, (5, 85)), (79, (6, 86)), (79, (7, 87)), (79, (8, 88)), (79, (9, 89)), (98, (0, 99)), (98, (1, 110)), (98, (2, 111)), (98, (3, 112)), (98, (4, 113)), (98, (5, 114)), (98, (6, 115)), (98, (7, 116)), (98, (8, 117)), (99, (0, 100)), (99, (1, 101)), (99, (2, 102)), (99, (3, 103)), (99, (4, 104)), (99, (5, 105)), (99, (6, 106)), (99, (7, 107)), (99, (8, 108)), (99, (9, 109)), (118, (0, 119)), (118, (1, 120)), (118, (2, 121)), (118, (3, 122)), (123, (0, 124)), (123, (1, 125)), (123, (2, 126)), (123, (3, 127))]
abbrev gN0 : Nat := 139
/-- the fixed objects lie where they were made; their final references stand -/
def gLay (M : gM) : Prop := gN0 ≤ mN M ∧ (∀ a, a < gN0 → mK M a = glayL.getD a (0, 0)) ∧ ∀ t ∈ glrefL, mR M t.1 t.2.1 = t.2.2 + 1
theorem gLay.lt {M : gM} (h : gLay M) {a : Nat} (ha : a < gN0) : a < mN M := Nat.lt_of_lt_of_le ha h.1
theorem gLay.k {M : gM} (h : gLay M) {a : Nat} (ha : a < gN0) {κ : Nat × Nat} (hk : glayL.getD a (0, 0) = κ) : mK M a = κ := (h.2.1 a ha).trans hk
theorem gLay.r {M : gM} (h : gLay M) {a k b : Nat} (i : Nat) (hk : glrefL[i]? = some (a, (k, b))) : mR M a k = b + 1 := h.2.2 (a, (k, b)) (List.mem_of_getElem? hk)
theorem gLay.of {M M' : gM} (h : gLay M) (hN : mN M ≤ mN M') (hK : ∀ a, a < mN M → mK M' a = mK M a) (hR : ∀ t ∈ glrefL, mR M' t.1 t.2.1 = mR M t.1 t.2.1) : gLay M' :=
  ⟨Nat.le_trans h.1 hN, fun a ha => (hK a (h.lt ha)).trans (h.2.1 a ha), fun t ht => (hR t ht).trans (h.2.2 t ht)⟩
theorem k_0 {M : gM} (h : gLay M) : mK M 0 = (11, 0) := h.k (by decide) rfl
theorem l_0 {M : gM} (h : gLay M) : 0 < mN M := h.lt (by decide)
theorem k_1 {M : gM} (h : gLay M) : mK M 1 = (17, 2) := h.k (by decide) rfl
theorem l_1 {M : gM} (h : gLay M) : 1 < mN M := h.lt (by decide)
theorem k_2 {M : gM} (h : gLay M) : mK M 2 = (10, 0) := h.k (by decide) rfl
theorem l_2 {M : gM} (h : gLay M) : 2 < mN M := h.lt (by decide)
theorem k_3 {M : gM} (h : gLay M) : mK M 3 = (13, 16) := h.k (by decide) rfl
theorem l_3 {M : gM} (h : gLay M) : 3 < mN M := h.lt (by decide)
theorem k_4 {M : gM} (h : gLay M) : mK M 4 = (13, 16) := h.k (by decide) rfl
theorem l_4 {M : gM} (h : gLay M) : 4 < mN M := h.lt (by decide)
theorem k_5 {M : gM} (h : gLay M) : mK M 5 = (14, 45) := h.k (by decide) rfl
theorem l_5 {M : gM} (h : gLay M) : 5 < mN M := h.lt (by decide)
theorem k_6 {M : gM} (h : gLay M) : mK M 6 = (8, 0) := h.k (by decide) rfl
theorem l_6 {M : gM} (h : gLay M) : 6 < mN M := h.lt (by decide)
theorem k_7 {M : gM} (h : gLay M) : mK M 7 = (19, 64) := h.k (by decide) rfl
theorem l_7 {M : gM} (h : gLay M) : 7 < mN M := h.lt (by decide)
theorem k_8 {M : gM} (h : gLay M) : mK M 8 = (2, 0) := h.k (by decide) rfl
theorem l_8 {M : gM} (h : gLay M) : 8 < mN M := h.lt (by decide)
theorem k_9 {M : gM} (h : gLay M) : mK M 9 = (2, 0) := h.k (by decide) rfl
theorem l_9 {M : gM} (h : gLay M) : 9 < mN M := h.lt (by decide)
theorem k_10 {M : gM} (h : gLay M) : mK M 10 = (2, 0) := h.k (by decide) rfl
theorem l_10 {M : gM} (h : gLay M) : 10 < mN M := h.lt (by decide)
theorem k_11 {M : gM} (h : gLay M) : mK M 11 = (2, 0) := h.k (by decide) rfl
theorem l_11 {M : gM} (h : gLay M) : 11 < mN M := h.lt (by decide)
theorem k_12 {M : gM} (h : gLay M) : mK M 12 = (2, 0) := h.k (by decide) rfl
theorem l_12 {M : gM} (h : gLay M) : 12 < mN M := h.lt (by decide)
theorem k_13 {M : gM} (h : gLay M) : mK M 13 = (2, 0) := h.k (by decide) rfl
theorem l_13 {M : gM} (h : gLay M) : 13 < mN M := h.lt (by decide)
theorem k_14 {M : gM} (h : gLay M) : mK M 14 = (2, 0) := h.k (by decide) rfl
theorem l_14 {M : gM} (h : gLay M) : 14 < mN M := h.lt (by decide)
theorem k_15 {M : gM} (h : gLay M) : mK M 15 = (2, 0) := h.k (by decide) rfl
theorem l_15 {M : gM} (h : gLay M) : 15 < mN M := h.lt (by decide)
theorem k_16 {M : gM} (h : gLay M) : mK M 16 = (2, 0) := h.k (by decide) rfl
theorem l_16 {M : gM} (h : gLay M) : 16 < mN M := h.lt (by decide)
theorem k_17 {M : gM} (h : gLay M) : mK M 17 = (2, 0) := h.k (by decide) rfl
theorem l_17 {M : gM} (h : gLay M) : 17 < mN M := h.lt (by decide)
theorem k_18 {M : gM} (h : gLay M) : mK M 18 = (2, 0) := h.k (by decide) rfl
theorem l_18 {M : gM} (h : gLay M) : 18 < mN M := h.lt (by decide)
theorem k_19 {M : gM} (h : gLay M) : mK M 19 = (2, 0) := h.k (by decide) rfl
theorem l_19 {M : gM} (h : gLay M) : 19 < mN M := h.lt (by decide)
theorem k_20 {M : gM} (h : gLay M) : mK M 20 = (2, 0) := h.k (by decide) rfl
theorem l_20 {M : gM} (h : gLay M) : 20 < mN M := h.lt (by decide)
theorem k_21 {M : gM} (h : gLay M) : mK M 21 = (2, 0) := h.k (by decide) rfl
theorem l_21 {M : gM} (h : gLay M) : 21 < mN M := h.lt (by decide)
theorem k_22 {M : gM} (h : gLay M) : mK M 22 = (2, 0) := h.k (by decide) rfl
theorem l_22 {M : gM} (h : gLay M) : 22 < mN M := h.lt (by decide)
theorem k_23 {M : gM} (h : gLay M) : mK M 23 = (2, 0) := h.k (by decide) rfl
theorem l_23 {M : gM} (h : gLay M) : 23 < mN M := h.lt (by decide)
theorem k_24 {M : gM} (h : gLay M) : mK M 24 = (2, 0) := h.k (by decide) rfl
theorem l_24 {M : gM} (h : gLay M) : 24 < mN M := h.lt (by decide)
theorem k_25 {M : gM} (h : gLay M) : mK M 25 = (2, 0) := h.k (by decide) rfl
theorem l_25 {M : gM} (h : gLay M) : 25 < mN M := h.lt (by decide)
theorem k_26 {M : gM} (h : gLay M) : mK M 26 = (2, 0) := h.k (by decide) rfl
theorem l_26 {M : gM} (h : gLay M) : 26 < mN M := h.lt (by decide)
theorem k_27 {M : gM} (h : gLay M) : mK M 27 = (2, 0) := h.k (by decide) rfl
theorem l_27 {M : gM} (h : gLay M) : 27 < mN M := h.lt (by decide)
theorem k_28 {M : gM} (h : gLay M) : mK M 28 = (2, 0) := h.k (by decide) rfl
theorem l_28 {M : gM} (h : gLay M) : 28 < mN M := h.lt (by decide)
theorem k_29 {M : gM} (h : gLay M) : mK M 29 = (2, 0) := h.k (by decide) rfl
theorem l_29 {M : gM} (h : gLay M) : 29 < mN M := h.lt (by decide)
theorem k_30 {M : gM} (h : gLay M) : mK M 30 = (2, 0) := h.k (by decide) rfl
theorem l_30 {M : gM} (h : gLay M) : 30 < mN M := h.lt (by decide)
theorem k_31 {M : gM} (h : gLay M) : mK M 31 = (2, 0) := h.k (by decide) rfl
theorem l_31 {M : gM} (h : gLay M) : 31 < mN M := h.lt (by decide)
theorem k_32 {M : gM} (h : gLay M) : mK M 32 = (2, 0) := h.k (by decide) rfl
theorem l_32 {M : gM} (h : gLay M) : 32 < mN M := h.lt (by decide)
theorem k_33 {M : gM} (h : gLay M) : mK M 33 = (2, 0) := h.k (by decide) rfl
theorem l_33 {M : gM} (h : gLay M) : 33 < mN M := h.lt (by decide)
theorem k_34 {M : gM} (h : gLay M) : mK M 34 = (2, 0) := h.k (by decide) rfl
theorem l_34 {M : gM} (h : gLay M) : 34 < mN M := h.lt (by decide)
theorem k_35 {M : gM} (h : gLay M) : mK M 35 = (2, 0) := h.k (by decide) rfl
theorem l_35 {M : gM} (h : gLay M) : 35 < mN M := h.lt (by decide)
theorem k_36 {M : gM} (h : gLay M) : mK M 36 = (2, 0) := h.k (by decide) rfl
theorem l_36 {M : gM} (h : gLay M) : 36 < mN M := h.lt (by decide)
theorem k_37 {M : gM} (h : gLay M) : mK M 37 = (2, 0) := h.k (by decide) rfl
theorem l_37 {M : gM} (h : gLay M) : 37 < mN M := h.lt (by decide)
theorem k_38 {M : gM} (h : gLay M) : mK M 38 = (2, 0) := h.k (by decide) rfl
theorem l_38 {M : gM} (h : gLay M) : 38 < mN M := h.lt (by decide)
theorem k_39 {M : gM} (h : gLay M) : mK M 39 = (2, 0) := h.k (by decide) rfl
theorem l_39 {M : gM} (h : gLay M) : 39 < mN M := h.lt (by decide)
theorem k_40 {M : gM} (h : gLay M) : mK M 40 = (2, 0) := h.k (by decide) rfl
theorem l_40 {M : gM} (h : gLay M) : 40 < mN M := h.lt (by decide)
theorem k_41 {M : gM} (h : gLay M) : mK M 41 = (2, 0) := h.k (by decide) rfl
theorem l_41 {M : gM} (h : gLay M) : 41 < mN M := h.lt (by decide)
theorem k_42 {M : gM} (h : gLay M) : mK M 42 = (2, 0) := h.k (by decide) rfl
theorem l_42 {M : gM} (h : gLay M) : 42 < mN M := h.lt (by decide)
theorem k_43 {M : gM} (h : gLay M) : mK M 43 = (2, 0) := h.k (by decide) rfl
theorem l_43 {M : gM} (h : gLay M) : 43 < mN M := h.lt (by decide)
theorem k_44 {M : gM} (h : gLay M) : mK M 44 = (2, 0) := h.k (by decide) rfl
theorem l_44 {M : gM} (h : gLay M) : 44 < mN M := h.lt (by decide)
theorem k_45 {M : gM} (h : gLay M) : mK M 45 = (2, 0) := h.k (by decide) rfl
theorem l_45 {M : gM} (h : gLay M) : 45 < mN M := h.lt (by decide)
theorem k_46 {M : gM} (h : gLay M) : mK M 46 = (2, 0) := h.k (by decide) rfl
theorem l_46 {M : gM} (h : gLay M) : 46 < mN M := h.lt (by decide)
theorem k_47 {M : gM} (h : gLay M) : mK M 47 = (2, 0) := h.k (by decide) rfl
theorem l_47 {M : gM} (h : gLay M) : 47 < mN M := h.lt (by decide)
theorem k_48 {M : gM} (h : gLay M) : mK M 48 = (2, 0) := h.k (by decide) rfl
theorem l_48 {M : gM} (h : gLay M) : 48 < mN M := h.lt (by decide)
theorem k_49 {M : gM} (h : gLay M) : mK M 49 = (2, 0) := h.k (by decide) rfl
theorem l_49 {M : gM} (h : gLay M) : 49 < mN M := h.lt (by decide)
theorem k_50 {M : gM} (h : gLay M) : mK M 50 = (2, 0) := h.k (by decide) rfl
theorem l_50 {M : gM} (h : gLay M) : 50 < mN M := h.lt (by decide)
theorem k_51 {M : gM} (h : gLay M) : mK M 51 = (2, 0) := h.k (by decide) rfl
theorem l_51 {M : gM} (h : gLay M) : 51 < mN M := h.lt (by decide)
theorem k_52 {M : gM} (h : gLay M) : mK M 52 = (2, 0) := h.k (by decide) rfl
theorem l_52 {M : gM} (h : gLay M) : 52 < mN M := h.lt (by decide)
theorem k_53 {M : gM} (h : gLay M) : mK M 53 = (2, 0) := h.k (by decide) rfl
theorem l_53 {M : gM} (h : gLay M) : 53 < mN M := h.lt (by decide)
theorem k_54 {M : gM} (h : gLay M) : mK M 54 = (2, 0) := h.k (by decide) rfl
theorem l_54 {M : gM} (h : gLay M) : 54 < mN M := h.lt (by decide)
theorem k_55 {M : gM} (h : gLay M) : mK M 55 = (2, 0) := h.k (by decide) rfl
theorem l_55 {M : gM} (h : gLay M) : 55 < mN M := h.lt (by decide)
theorem k_56 {M : gM} (h : gLay M) : mK M 56 = (2, 0) := h.k (by decide) rfl
theorem l_56 {M : gM} (h : gLay M) : 56 < mN M := h.lt (by decide)
theorem k_57 {M : gM} (h : gLay M) : mK M 57 = (2, 0) := h.k (by decide) rfl
theorem l_57 {M : gM} (h : gLay M) : 57 < mN M := h.lt (by decide)
theorem k_58 {M : gM} (h : gLay M) : mK M 58 = (2, 0) := h.k (by decide) rfl
theorem l_58 {M : gM} (h : gLay M) : 58 < mN M := h.lt (by decide)
theorem k_59 {M : gM} (h : gLay M) : mK M 59 = (2, 0) := h.k (by decide) rfl
theorem l_59 {M : gM} (h : gLay M) : 59 < mN M := h.lt (by decide)
theorem k_60 {M : gM} (h : gLay M) : mK M 60 = (2, 0) := h.k (by decide) rfl
theorem l_60 {M : gM} (h : gLay M) : 60 < mN M := h.lt (by decide)
theorem k_61 {M : gM} (h : gLay M) : mK M 61 = (2, 0) := h.k (by decide) rfl
theorem l_61 {M : gM} (h : gLay M) : 61 < mN M := h.lt (by decide)
theorem k_62 {M : gM} (h : gLay M) : mK M 62 = (2, 0) := h.k (by decide) rfl
theorem l_62 {M : gM} (h : gLay M) : 62 < mN M := h.lt (by decide)
theorem k_63 {M : gM} (h : gLay M) : mK M 63 = (2, 0) := h.k (by decide) rfl
theorem l_63 {M : gM} (h : gLay M) : 63 < mN M := h.lt (by decide)
theorem k_64 {M : gM} (h : gLay M) : mK M 64 = (2, 0) := h.k (by decide) rfl
theorem l_64 {M : gM} (h : gLay M) : 64 < mN M := h.lt (by decide)
theorem k_65 {M : gM} (h : gLay M) : mK M 65 = (2, 0) := h.k (by decide) rfl
theorem l_65 {M : gM} (h : gLay M) : 65 < mN M := h.lt (by decide)
theorem k_66 {M : gM} (h : gLay M) : mK M 66 = (2, 0) := h.k (by decide) rfl
theorem l_66 {M : gM} (h : gLay M) : 66 < mN M := h.lt (by decide)
theorem k_67 {M : gM} (h : gLay M) : mK M 67 = (2, 0) := h.k (by decide) rfl
theorem l_67 {M : gM} (h : gLay M) : 67 < mN M := h.lt (by decide)
theorem k_68 {M : gM} (h : gLay M) : mK M 68 = (2, 0) := h.k (by decide) rfl
theorem l_68 {M : gM} (h : gLay M) : 68 < mN M := h.lt (by decide)
theorem k_69 {M : gM} (h : gLay M) : mK M 69 = (2, 0) := h.k (by decide) rfl
theorem l_69 {M : gM} (h : gLay M) : 69 < mN M := h.lt (by decide)
theorem k_70 {M : gM} (h : gLay M) : mK M 70 = (2, 0) := h.k (by decide) rfl
theorem l_70 {M : gM} (h : gLay M) : 70 < mN M := h.lt (by decide)
theorem k_71 {M : gM} (h : gLay M) : mK M 71 = (2, 0) := h.k (by decide) rfl
theorem l_71 {M : gM} (h : gLay M) : 71 < mN M := h.lt (by decide)
theorem k_72 {M : gM} (h : gLay M) : mK M 72 = (5, 0) := h.k (by decide) rfl
theorem l_72 {M : gM} (h : gLay M) : 72 < mN M := h.lt (by decide)
theorem k_73 {M : gM} (h : gLay M) : mK M 73 = (0, 0) := h.k (by decide) rfl
theorem l_73 {M : gM} (h : gLay M) : 73 < mN M := h.lt (by decide)
theorem k_74 {M : gM} (h : gLay M) : mK M 74 = (13, 3) := h.k (by decide) rfl
theorem l_74 {M : gM} (h : gLay M) : 74 < mN M := h.lt (by decide)
theorem k_75 {M : gM} (h : gLay M) : mK M 75 = (7, 0) := h.k (by decide) rfl
theorem l_75 {M : gM} (h : gLay M) : 75 < mN M := h.lt (by decide)
theorem k_76 {M : gM} (h : gLay M) : mK M 76 = (3, 0) := h.k (by decide) rfl
theorem l_76 {M : gM} (h : gLay M) : 76 < mN M := h.lt (by decide)
theorem k_77 {M : gM} (h : gLay M) : mK M 77 = (13, 16) := h.k (by decide) rfl
theorem l_77 {M : gM} (h : gLay M) : 77 < mN M := h.lt (by decide)
theorem k_78 {M : gM} (h : gLay M) : mK M 78 = (6, 0) := h.k (by decide) rfl
theorem l_78 {M : gM} (h : gLay M) : 78 < mN M := h.lt (by decide)
theorem k_79 {M : gM} (h : gLay M) : mK M 79 = (9, 0) := h.k (by decide) rfl
theorem l_79 {M : gM} (h : gLay M) : 79 < mN M := h.lt (by decide)
theorem k_80 {M : gM} (h : gLay M) : mK M 80 = (13, 16) := h.k (by decide) rfl
theorem l_80 {M : gM} (h : gLay M) : 80 < mN M := h.lt (by decide)
theorem k_81 {M : gM} (h : gLay M) : mK M 81 = (13, 16) := h.k (by decide) rfl
theorem l_81 {M : gM} (h : gLay M) : 81 < mN M := h.lt (by decide)
theorem k_82 {M : gM} (h : gLay M) : mK M 82 = (14, 16) := h.k (by decide) rfl
theorem l_82 {M : gM} (h : gLay M) : 82 < mN M := h.lt (by decide)
theorem k_83 {M : gM} (h : gLay M) : mK M 83 = (13, 16) := h.k (by decide) rfl
theorem l_83 {M : gM} (h : gLay M) : 83 < mN M := h.lt (by decide)
theorem k_84 {M : gM} (h : gLay M) : mK M 84 = (13, 16) := h.k (by decide) rfl
theorem l_84 {M : gM} (h : gLay M) : 84 < mN M := h.lt (by decide)
theorem k_85 {M : gM} (h : gLay M) : mK M 85 = (13, 16) := h.k (by decide) rfl
theorem l_85 {M : gM} (h : gLay M) : 85 < mN M := h.lt (by decide)
theorem k_86 {M : gM} (h : gLay M) : mK M 86 = (13, 16) := h.k (by decide) rfl
theorem l_86 {M : gM} (h : gLay M) : 86 < mN M := h.lt (by decide)
theorem k_87 {M : gM} (h : gLay M) : mK M 87 = (13, 16) := h.k (by decide) rfl
theorem l_87 {M : gM} (h : gLay M) : 87 < mN M := h.lt (by decide)
theorem k_88 {M : gM} (h : gLay M) : mK M 88 = (13, 16) := h.k (by decide) rfl
theorem l_88 {M : gM} (h : gLay M) : 88 < mN M := h.lt (by decide)
theorem k_89 {M : gM} (h : gLay M) : mK M 89 = (13, 16) := h.k (by decide) rfl
theorem l_89 {M : gM} (h : gLay M) : 89 < mN M := h.lt (by decide)
theorem k_90 {M : gM} (h : gLay M) : mK M 90 = (13, 1024) := h.k (by decide) rfl
theorem l_90 {M : gM} (h : gLay M) : 90 < mN M := h.lt (by decide)
theorem k_91 {M : gM} (h : gLay M) : mK M 91 = (13, 1024) := h.k (by decide) rfl
theorem l_91 {M : gM} (h : gLay M) : 91 < mN M := h.lt (by decide)
theorem k_92 {M : gM} (h : gLay M) : mK M 92 = (13, 1024) := h.k (by decide) rfl
theorem l_92 {M : gM} (h : gLay M) : 92 < mN M := h.lt (by decide)
theorem k_93 {M : gM} (h : gLay M) : mK M 93 = (13, 1024) := h.k (by decide) rfl
theorem l_93 {M : gM} (h : gLay M) : 93 < mN M := h.lt (by decide)
theorem k_94 {M : gM} (h : gLay M) : mK M 94 = (13, 1024) := h.k (by decide) rfl
theorem l_94 {M : gM} (h : gLay M) : 94 < mN M := h.lt (by decide)
theorem k_95 {M : gM} (h : gLay M) : mK M 95 = (13, 1024) := h.k (by decide) rfl
theorem l_95 {M : gM} (h : gLay M) : 95 < mN M := h.lt (by decide)
theorem k_96 {M : gM} (h : gLay M) : mK M 96 = (13, 1024) := h.k (by decide) rfl
theorem l_96 {M : gM} (h : gLay M) : 96 < mN M := h.lt (by decide)
theorem k_97 {M : gM} (h : gLay M) : mK M 97 = (13, 1024) := h.k (by decide) rfl
theorem l_97 {M : gM} (h : gLay M) : 97 < mN M := h.lt (by decide)
theorem k_98 {M : gM} (h : gLay M) : mK M 98 = (6, 0) := h.k (by decide) rfl
theorem l_98 {M : gM} (h : gLay M) : 98 < mN M := h.lt (by decide)
theorem k_99 {M : gM} (h : gLay M) : mK M 99 = (9, 0) := h.k (by decide) rfl
theorem l_99 {M : gM} (h : gLay M) : 99 < mN M := h.lt (by decide)
theorem k_100 {M : gM} (h : gLay M) : mK M 100 = (13, 16) := h.k (by decide) rfl
theorem l_100 {M : gM} (h : gLay M) : 100 < mN M := h.lt (by decide)
theorem k_101 {M : gM} (h : gLay M) : mK M 101 = (13, 16) := h.k (by decide) rfl
theorem l_101 {M : gM} (h : gLay M) : 101 < mN M := h.lt (by decide)
theorem k_102 {M : gM} (h : gLay M) : mK M 102 = (14, 16) := h.k (by decide) rfl
theorem l_102 {M : gM} (h : gLay M) : 102 < mN M := h.lt (by decide)
theorem k_103 {M : gM} (h : gLay M) : mK M 103 = (13, 16) := h.k (by decide) rfl
theorem l_103 {M : gM} (h : gLay M) : 103 < mN M := h.lt (by decide)
theorem k_104 {M : gM} (h : gLay M) : mK M 104 = (13, 16) := h.k (by decide) rfl
theorem l_104 {M : gM} (h : gLay M) : 104 < mN M := h.lt (by decide)
theorem k_105 {M : gM} (h : gLay M) : mK M 105 = (13, 16) := h.k (by decide) rfl
theorem l_105 {M : gM} (h : gLay M) : 105 < mN M := h.lt (by decide)
theorem k_106 {M : gM} (h : gLay M) : mK M 106 = (13, 16) := h.k (by decide) rfl
theorem l_106 {M : gM} (h : gLay M) : 106 < mN M := h.lt (by decide)
theorem k_107 {M : gM} (h : gLay M) : mK M 107 = (13, 16) := h.k (by decide) rfl
theorem l_107 {M : gM} (h : gLay M) : 107 < mN M := h.lt (by decide)
theorem k_108 {M : gM} (h : gLay M) : mK M 108 = (13, 16) := h.k (by decide) rfl
theorem l_108 {M : gM} (h : gLay M) : 108 < mN M := h.lt (by decide)
theorem k_109 {M : gM} (h : gLay M) : mK M 109 = (13, 16) := h.k (by decide) rfl
theorem l_109 {M : gM} (h : gLay M) : 109 < mN M := h.lt (by decide)
theorem k_110 {M : gM} (h : gLay M) : mK M 110 = (13, 1024) := h.k (by decide) rfl
theorem l_110 {M : gM} (h : gLay M) : 110 < mN M := h.lt (by decide)
theorem k_111 {M : gM} (h : gLay M) : mK M 111 = (13, 1024) := h.k (by decide) rfl
theorem l_111 {M : gM} (h : gLay M) : 111 < mN M := h.lt (by decide)
theorem k_112 {M : gM} (h : gLay M) : mK M 112 = (13, 1024) := h.k (by decide) rfl
theorem l_112 {M : gM} (h : gLay M) : 112 < mN M := h.lt (by decide)
theorem k_113 {M : gM} (h : gLay M) : mK M 113 = (13, 1024) := h.k (by decide) rfl
theorem l_113 {M : gM} (h : gLay M) : 113 < mN M := h.lt (by decide)
theorem k_114 {M : gM} (h : gLay M) : mK M 114 = (13, 1024) := h.k (by decide) rfl
theorem l_114 {M : gM} (h : gLay M) : 114 < mN M := h.lt (by decide)
theorem k_115 {M : gM} (h : gLay M) : mK M 115 = (13, 1024) := h.k (by decide) rfl
theorem l_115 {M : gM} (h : gLay M) : 115 < mN M := h.lt (by decide)
theorem k_116 {M : gM} (h : gLay M) : mK M 116 = (13, 1024) := h.k (by decide) rfl
theorem l_116 {M : gM} (h : gLay M) : 116 < mN M := h.lt (by decide)
theorem k_117 {M : gM} (h : gLay M) : mK M 117 = (13, 1024) := h.k (by decide) rfl
theorem l_117 {M : gM} (h : gLay M) : 117 < mN M := h.lt (by decide)
theorem k_118 {M : gM} (h : gLay M) : mK M 118 = (1, 0) := h.k (by decide) rfl
theorem l_118 {M : gM} (h : gLay M) : 118 < mN M := h.lt (by decide)
theorem k_119 {M : gM} (h : gLay M) : mK M 119 = (18, 12) := h.k (by decide) rfl
theorem l_119 {M : gM} (h : gLay M) : 119 < mN M := h.lt (by decide)
theorem k_120 {M : gM} (h : gLay M) : mK M 120 = (13, 256) := h.k (by decide) rfl
theorem l_120 {M : gM} (h : gLay M) : 120 < mN M := h.lt (by decide)
theorem k_121 {M : gM} (h : gLay M) : mK M 121 = (13, 256) := h.k (by decide) rfl
theorem l_121 {M : gM} (h : gLay M) : 121 < mN M := h.lt (by decide)
theorem k_122 {M : gM} (h : gLay M) : mK M 122 = (13, 256) := h.k (by decide) rfl
theorem l_122 {M : gM} (h : gLay M) : 122 < mN M := h.lt (by decide)
theorem k_123 {M : gM} (h : gLay M) : mK M 123 = (1, 0) := h.k (by decide) rfl
theorem l_123 {M : gM} (h : gLay M) : 123 < mN M := h.lt (by decide)
theorem k_124 {M : gM} (h : gLay M) : mK M 124 = (18, 12) := h.k (by decide) rfl
theorem l_124 {M : gM} (h : gLay M) : 124 < mN M := h.lt (by decide)
theorem k_125 {M : gM} (h : gLay M) : mK M 125 = (13, 256) := h.k (by decide) rfl
theorem l_125 {M : gM} (h : gLay M) : 125 < mN M := h.lt (by decide)
theorem k_126 {M : gM} (h : gLay M) : mK M 126 = (13, 256) := h.k (by decide) rfl
theorem l_126 {M : gM} (h : gLay M) : 126 < mN M := h.lt (by decide)
theorem k_127 {M : gM} (h : gLay M) : mK M 127 = (13, 256) := h.k (by decide) rfl
theorem l_127 {M : gM} (h : gLay M) : 127 < mN M := h.lt (by decide)
theorem k_128 {M : gM} (h : gLay M) : mK M 128 = (13, 16) := h.k (by decide) rfl
theorem l_128 {M : gM} (h : gLay M) : 128 < mN M := h.lt (by decide)
theorem k_129 {M : gM} (h : gLay M) : mK M 129 = (13, 16) := h.k (by decide) rfl
theorem l_129 {M : gM} (h : gLay M) : 129 < mN M := h.lt (by decide)
theorem k_130 {M : gM} (h : gLay M) : mK M 130 = (15, 64) := h.k (by decide) rfl
theorem l_130 {M : gM} (h : gLay M) : 130 < mN M := h.lt (by decide)
theorem k_131 {M : gM} (h : gLay M) : mK M 131 = (13, 64) := h.k (by decide) rfl
theorem l_131 {M : gM} (h : gLay M) : 131 < mN M := h.lt (by decide)
theorem k_132 {M : gM} (h : gLay M) : mK M 132 = (13, 12) := h.k (by decide) rfl
theorem l_132 {M : gM} (h : gLay M) : 132 < mN M := h.lt (by decide)
theorem k_133 {M : gM} (h : gLay M) : mK M 133 = (13, 64) := h.k (by decide) rfl
theorem l_133 {M : gM} (h : gLay M) : 133 < mN M := h.lt (by decide)
theorem k_134 {M : gM} (h : gLay M) : mK M 134 = (13, 64) := h.k (by decide) rfl
theorem l_134 {M : gM} (h : gLay M) : 134 < mN M := h.lt (by decide)
theorem k_135 {M : gM} (h : gLay M) : mK M 135 = (13, 64) := h.k (by decide) rfl
theorem l_135 {M : gM} (h : gLay M) : 135 < mN M := h.lt (by decide)
theorem k_136 {M : gM} (h : gLay M) : mK M 136 = (13, 64) := h.k (by decide) rfl
theorem l_136 {M : gM} (h : gLay M) : 136 < mN M := h.lt (by decide)
theorem k_137 {M : gM} (h : gLay M) : mK M 137 = (13, 64) := h.k (by decide) rfl
theorem l_137 {M : gM} (h : gLay M) : 137 < mN M := h.lt (by decide)
theorem k_138 {M : gM} (h : gLay M) : mK M 138 = (13, 62) := h.k (by decide) rfl
theorem l_138 {M : gM} (h : gLay M) : 138 < mN M := h.lt (by decide)
theorem r_0_0 {M : gM} (h : gLay M) : mR M 0 0 = 2 := h.r 0 rfl
theorem r_0_1 {M : gM} (h : gLay M) : mR M 0 1 = 3 := h.r 1 rfl
theorem r_0_2 {M : gM} (h : gLay M) : mR M 0 2 = 7 := h.r 2 rfl
theorem r_0_3 {M : gM} (h : gLay M) : mR M 0 3 = 73 := h.r 3 rfl
theorem r_0_4 {M : gM} (h : gLay M) : mR M 0 4 = 74 := h.r 4 rfl
theorem r_0_5 {M : gM} (h : gLay M) : mR M 0 5 = 76 := h.r 5 rfl
theorem r_0_6 {M : gM} (h : gLay M) : mR M 0 6 = 77 := h.r 6 rfl
theorem r_0_7 {M : gM} (h : gLay M) : mR M 0 7 = 79 := h.r 7 rfl
theorem r_0_8 {M : gM} (h : gLay M) : mR M 0 8 = 99 := h.r 8 rfl
theorem r_1_0 {M : gM} (h : gLay M) : mR M 1 0 = 119 := h.r 9 rfl
theorem r_1_1 {M : gM} (h : gLay M) : mR M 1 1 = 124 := h.r 10 rfl
theorem r_2_0 {M : gM} (h : gLay M) : mR M 2 0 = 4 := h.r 11 rfl
theorem r_2_1 {M : gM} (h : gLay M) : mR M 2 1 = 5 := h.r 12 rfl
theorem r_2_2 {M : gM} (h : gLay M) : mR M 2 2 = 6 := h.r 13 rfl
theorem r_6_0 {M : gM} (h : gLay M) : mR M 6 0 = 8 := h.r 14 rfl
theorem r_72_0 {M : gM} (h : gLay M) : mR M 72 0 = 7 := h.r 15 rfl
theorem r_73_0 {M : gM} (h : gLay M) : mR M 73 0 = 7 := h.r 16 rfl
theorem r_73_1 {M : gM} (h : gLay M) : mR M 73 1 = 75 := h.r 17 rfl
theorem r_75_0 {M : gM} (h : gLay M) : mR M 75 0 = 7 := h.r 18 rfl
theorem r_76_0 {M : gM} (h : gLay M) : mR M 76 0 = 78 := h.r 19 rfl
theorem r_78_0 {M : gM} (h : gLay M) : mR M 78 0 = 80 := h.r 20 rfl
theorem r_78_1 {M : gM} (h : gLay M) : mR M 78 1 = 91 := h.r 21 rfl
theorem r_78_2 {M : gM} (h : gLay M) : mR M 78 2 = 92 := h.r 22 rfl
theorem r_78_3 {M : gM} (h : gLay M) : mR M 78 3 = 93 := h.r 23 rfl
theorem r_78_4 {M : gM} (h : gLay M) : mR M 78 4 = 94 := h.r 24 rfl
theorem r_78_5 {M : gM} (h : gLay M) : mR M 78 5 = 95 := h.r 25 rfl
theorem r_78_6 {M : gM} (h : gLay M) : mR M 78 6 = 96 := h.r 26 rfl
theorem r_78_7 {M : gM} (h : gLay M) : mR M 78 7 = 97 := h.r 27 rfl
theorem r_78_8 {M : gM} (h : gLay M) : mR M 78 8 = 98 := h.r 28 rfl
theorem r_79_0 {M : gM} (h : gLay M) : mR M 79 0 = 81 := h.r 29 rfl
theorem r_79_1 {M : gM} (h : gLay M) : mR M 79 1 = 82 := h.r 30 rfl
theorem r_79_2 {M : gM} (h : gLay M) : mR M 79 2 = 83 := h.r 31 rfl
theorem r_79_3 {M : gM} (h : gLay M) : mR M 79 3 = 84 := h.r 32 rfl
theorem r_79_4 {M : gM} (h : gLay M) : mR M 79 4 = 85 := h.r 33 rfl
theorem r_79_5 {M : gM} (h : gLay M) : mR M 79 5 = 86 := h.r 34 rfl
theorem r_79_6 {M : gM} (h : gLay M) : mR M 79 6 = 87 := h.r 35 rfl
theorem r_79_7 {M : gM} (h : gLay M) : mR M 79 7 = 88 := h.r 36 rfl
theorem r_79_8 {M : gM} (h : gLay M) : mR M 79 8 = 89 := h.r 37 rfl
theorem r_79_9 {M : gM} (h : gLay M) : mR M 79 9 = 90 := h.r 38 rfl
theorem r_98_0 {M : gM} (h : gLay M) : mR M 98 0 = 100 := h.r 39 rfl
theorem r_98_1 {M : gM} (h : gLay M) : mR M 98 1 = 111 := h.r 40 rfl
theorem r_98_2 {M : gM} (h : gLay M) : mR M 98 2 = 112 := h.r 41 rfl
theorem r_98_3 {M : gM} (h : gLay M) : mR M 98 3 = 113 := h.r 42 rfl
theorem r_98_4 {M : gM} (h : gLay M) : mR M 98 4 = 114 := h.r 43 rfl
theorem r_98_5 {M : gM} (h : gLay M) : mR M 98 5 = 115 := h.r 44 rfl
theorem r_98_6 {M : gM} (h : gLay M) : mR M 98 6 = 116 := h.r 45 rfl
theorem r_98_7 {M : gM} (h : gLay M) : mR M 98 7 = 117 := h.r 46 rfl
theorem r_98_8 {M : gM} (h : gLay M) : mR M 98 8 = 118 := h.r 47 rfl
theorem r_99_0 {M : gM} (h : gLay M) : mR M 99 0 = 101 := h.r 48 rfl
theorem r_99_1 {M : gM} (h : gLay M) : mR M 99 1 = 102 := h.r 49 rfl
theorem r_99_2 {M : gM} (h : gLay M) : mR M 99 2 = 103 := h.r 50 rfl
theorem r_99_3 {M : gM} (h : gLay M) : mR M 99 3 = 104 := h.r 51 rfl
theorem r_99_4 {M : gM} (h : gLay M) : mR M 99 4 = 105 := h.r 52 rfl
theorem r_99_5 {M : gM} (h : gLay M) : mR M 99 5 = 106 := h.r 53 rfl
theorem r_99_6 {M : gM} (h : gLay M) : mR M 99 6 = 107 := h.r 54 rfl
theorem r_99_7 {M : gM} (h : gLay M) : mR M 99 7 = 108 := h.r 55 rfl
theorem r_99_8 {M : gM} (h : gLay M) : mR M 99 8 = 109 := h.r 56 rfl
theorem r_99_9 {M : gM} (h : gLay M) : mR M 99 9 = 110 := h.r 57 rfl
theorem r_118_0 {M : gM} (h : gLay M) : mR M 118 0 = 120 := h.r 58 rfl
theorem r_118_1 {M : gM} (h : gLay M) : mR M 118 1 = 121 := h.r 59 rfl
theorem r_118_2 {M : gM} (h : gLay M) : mR M 118 2 = 122 := h.r 60 rfl
theorem r_118_3 {M : gM} (h : gLay M) : mR M 118 3 = 123 := h.r 61 rfl
theorem r_123_0 {M : gM} (h : gLay M) : mR M 123 0 = 125 := h.r 62 rfl
theorem r_123_1 {M : gM} (h : gLay M) : mR M 123 1 = 126 := h.r 63 rfl
theorem r_123_2 {M : gM} (h : gLay M) : mR M 123 2 = 127 := h.r 64 rfl
theorem r_123_3 {M : gM} (h : gLay M) : mR M 123 3 = 128 := h.r 65 rfl
noncomputable def b2i (P : Prop) : Int32 := @ite Int32 P (Classical.propDecidable P) (nI 1) (nI 0)
theorem b2i_t {P : Prop} (h : P) : b2i P = nI 1 := @if_pos P (Classical.propDecidable P) h _ _ _
theorem b2i_f {P : Prop} (h : ¬ P) : b2i P = nI 0 := @if_neg P (Classical.propDecidable P) h _ _ _
theorem b2i_01 (P : Prop) : b2i P = 0 ∨ b2i P = 1 := by
  by_cases h : P
  · exact Or.inr (b2i_t h)
  · exact Or.inl (b2i_f h)
theorem b2i_0 {P : Prop} : b2i P = 0 ↔ ¬ P := by
  by_cases h : P
  · rw [b2i_t h]; exact ⟨fun q => absurd q (by decide), fun q => absurd h q⟩
  · rw [b2i_f h]; exact ⟨fun _ => h, fun _ => rfl⟩
theorem b2i_congr {P R : Prop} (h : P ↔ R) : b2i P = b2i R := by
  by_cases hp : P
  · rw [b2i_t hp, b2i_t (h.mp hp)]
  · rw [b2i_f hp, b2i_f (fun q => hp (h.mpr q))]
section GN
variable {g : gG} {fr k n : Nat} {μ : gMu} {pc : Nat} {ls st : List Value} {M : gM} {Q : Option Value ⊕ String → gM → Prop}
theorem gKv {v : Value} {rest : List Value} (k0 : E g fr k n μ (pc + 3) ls (v :: rest) M Q) : gK g fr k n μ pc ls rest Q (.inl (some v)) M := k0
theorem gKn {rest : List Value} (k0 : E g fr k n μ (pc + 3) ls rest M Q) : gK g fr k n μ pc ls rest Q (.inl none) M := k0
theorem gKx {rest : List Value} {x : String} (hh : ghh μ = []) (hQ : Q (.inr x) M) : gK g fr k n μ pc ls rest Q (.inr x) M := Ex_out hh hQ
theorem E_iadd_n {a b : Nat} (hd : decode (gcc μ) pc = .ok (.iadd, 1)) (k0 : E g fr k n μ (pc + 1) ls (.int (nI (a + b)) :: st) M Q) : E g fr k n μ pc ls (.int (nI b) :: .int (nI a) :: st) M Q :=
  E_iadd hd (by rw [nI_add]; exact k0)
theorem E_isub_n {a b : Nat} (hd : decode (gcc μ) pc = .ok (.isub, 1)) (h : b ≤ a) (k0 : E g fr k n μ (pc + 1) ls (.int (nI (a - b)) :: st) M Q) : E g fr k n μ pc ls (.int (nI b) :: .int (nI a) :: st) M Q :=
  E_isub hd (by rw [pk_sub h]; exact k0)
theorem E_imul_n {a b : Nat} (hd : decode (gcc μ) pc = .ok (.imul, 1)) (k0 : E g fr k n μ (pc + 1) ls (.int (nI (a * b)) :: st) M Q) : E g fr k n μ pc ls (.int (nI b) :: .int (nI a) :: st) M Q :=
  E_imul hd (by rw [pk_mul]; exact k0)
theorem E_iinc_n {i a d b : Nat} {dd : Int} (hd : decode (gcc μ) pc = .ok (.iinc i dd, 3)) (hx0 : ls[i]? = some (.int (nI a))) (hdd : dd = (d : Int)) (hb : a + d = b) (hn : i < gnL μ) (hk : gnl ls i = true) (k0 : E g fr k n μ (pc + 3) (ls.set i (.int (nI b))) st M Q) : E g fr k n μ pc ls st M Q :=
  E_iinc hd hx0 (by subst hdd; subst hb; rw [← nI_add]; rfl) hn hk k0
theorem E_getRL {a c f idx v : Nat} {z : Nat} (hd : decode (gcc μ) pc = .ok (.getfield idx, 3)) (hl : gLF (gy μ).cls idx c f) (hy : gLy c) (ht : gIsR (gTys c f)) (ha : a < mN M) (hk : mK M a = (c, z)) (hv : mR M a f = v)
    (k0 : E g fr k n μ (pc + 3) ls (.ref v :: st) M Q) : E g fr k n μ pc ls (.ref (a + 1) :: st) M Q := E_getR hd hl hy ht ha hk (by rw [hv]; exact k0)
theorem E_getIL {a c f idx : Nat} {z : Nat} {v : Int32} (hd : decode (gcc μ) pc = .ok (.getfield idx, 3)) (hl : gLF (gy μ).cls idx c f) (hy : gLy c) (ht : gTys c f = .int ∨ gTys c f = .boolean) (ha : a < mN M) (hk : mK M a = (c, z)) (hv : mI M a f = v)
    (k0 : E g fr k n μ (pc + 3) ls (.int v :: st) M Q) : E g fr k n μ pc ls (.ref (a + 1) :: st) M Q := E_getI hd hl hy ht ha hk (by rw [hv]; exact k0)
theorem E_ialdL {a j len : Nat} {i v : Int32} (hd : decode (gcc μ) pc = .ok (.iaload, 1)) (ha : a < mN M) (hk : mK M a = (13, len)) (hi : i = nI j) (hj : j < len) (hl : len < 2 ^ 31) (hv : mI M a j = v)
    (k0 : E g fr k n μ (pc + 1) ls (.int v :: st) M Q) : E g fr k n μ pc ls (.int i :: .ref (a + 1) :: st) M Q := E_iald hd ha hk hi hj hl (by rw [hv]; exact k0)
theorem E_zaldL {a j len : Nat} {i v : Int32} (hd : decode (gcc μ) pc = .ok (.baload, 1)) (ha : a < mN M) (hk : mK M a = (14, len)) (hi : i = nI j) (hj : j < len) (hl : len < 2 ^ 31) (hv : mI M a j = v)
    (k0 : E g fr k n μ (pc + 1) ls (.int v :: st) M Q) : E g fr k n μ pc ls (.int i :: .ref (a + 1) :: st) M Q := E_zald hd ha hk hi hj hl (by rw [hv]; exact k0)
theorem E_aaldL {a j len t v : Nat} {i : Int32} (hd : decode (gcc μ) pc = .ok (.aaload, 1)) (ha : a < mN M) (hk : mK M a = (t, len)) (ht : 16 ≤ t) (ht2 : t < 20) (hi : i = nI j) (hj : j < len) (hl : len < 2 ^ 31) (hv : mR M a j = v)
    (k0 : E g fr k n μ (pc + 1) ls (.ref v :: st) M Q) : E g fr k n μ pc ls (.int i :: .ref (a + 1) :: st) M Q := E_aald hd ha hk ht ht2 hi hj hl (by rw [hv]; exact k0)
theorem E_if_eq_b {P : Prop} {off : Int} {tgt : Nat} (hd : decode (gcc μ) pc = .ok (.ifCond .eq off, 3)) (ht : (pc : Int) + off = (tgt : Int)) (kt : ¬ P → E g fr k n μ tgt ls st M Q) (kf : P → E g fr k n μ (pc + 3) ls st M Q) : E g fr k n μ pc ls (.int (b2i P) :: st) M Q :=
  E_if_eq hd ht (fun h => kt (b2i_0.mp h)) (fun h => kf (Classical.byContradiction fun q => h (b2i_0.mpr q)))
theorem E_if_ne_b {P : Prop} {off : Int} {tgt : Nat} (hd : decode (gcc μ) pc = .ok (.ifCond .ne off, 3)) (ht : (pc : Int) + off = (tgt : Int)) (kt : P → E g fr k n μ tgt ls st M Q) (kf : ¬ P → E g fr k n μ (pc + 3) ls st M Q) : E g fr k n μ pc ls (.int (b2i P) :: st) M Q :=
  E_if_ne hd ht (fun h => kt (Classical.byContradiction fun q => h (b2i_0.mpr q))) (fun h => kf (b2i_0.mp (Classical.byContradiction fun q => h q)))
theorem E_icmp_eq_n {a b : Nat} {off : Int} {tgt : Nat} (hd : decode (gcc μ) pc = .ok (.if_icmp .eq off, 3)) (ht : (pc : Int) + off = (tgt : Int)) (ha : a < 2 ^ 31) (hb : b < 2 ^ 31) (kt : a = b → E g fr k n μ tgt ls st M Q) (kf : ¬ a = b → E g fr k n μ (pc + 3) ls st M Q) : E g fr k n μ pc ls (.int (nI b) :: .int (nI a) :: st) M Q :=
  E_icmp_eq hd ht (fun h => kt ((nI_eq ha hb).mp h)) (fun h => kf (fun q => h ((nI_eq ha hb).mpr q)))
theorem E_icmp_ne_n {a b : Nat} {off : Int} {tgt : Nat} (hd : decode (gcc μ) pc = .ok (.if_icmp .ne off, 3)) (ht : (pc : Int) + off = (tgt : Int)) (ha : a < 2 ^ 31) (hb : b < 2 ^ 31) (kt : ¬ a = b → E g fr k n μ tgt ls st M Q) (kf : a = b → E g fr k n μ (pc + 3) ls st M Q) : E g fr k n μ pc ls (.int (nI b) :: .int (nI a) :: st) M Q :=
  E_icmp_ne hd ht (fun h => kt ((not_congr (nI_eq ha hb)).mp h)) (fun h => kf (Classical.byContradiction fun q => h ((not_congr (nI_eq ha hb)).mpr q)))
theorem E_icmp_lt_n {a b : Nat} {off : Int} {tgt : Nat} (hd : decode (gcc μ) pc = .ok (.if_icmp .lt off, 3)) (ht : (pc : Int) + off = (tgt : Int)) (ha : a < 2 ^ 31) (hb : b < 2 ^ 31) (kt : a < b → E g fr k n μ tgt ls st M Q) (kf : b ≤ a → E g fr k n μ (pc + 3) ls st M Q) : E g fr k n μ pc ls (.int (nI b) :: .int (nI a) :: st) M Q :=
  E_icmp_lt hd ht (fun h => kt ((nI_ltI ha hb).mp h)) (fun h => kf (Nat.not_lt.mp fun q => h ((nI_ltI ha hb).mpr q)))
theorem E_icmp_ge_n {a b : Nat} {off : Int} {tgt : Nat} (hd : decode (gcc μ) pc = .ok (.if_icmp .ge off, 3)) (ht : (pc : Int) + off = (tgt : Int)) (ha : a < 2 ^ 31) (hb : b < 2 ^ 31) (kt : b ≤ a → E g fr k n μ tgt ls st M Q) (kf : a < b → E g fr k n μ (pc + 3) ls st M Q) : E g fr k n μ pc ls (.int (nI b) :: .int (nI a) :: st) M Q :=
  E_icmp_ge hd ht (fun h => kt ((nI_leI hb ha).mp h)) (fun h => kf (Nat.not_le.mp fun q => h ((nI_leI hb ha).mpr q)))
theorem E_icmp_gt_n {a b : Nat} {off : Int} {tgt : Nat} (hd : decode (gcc μ) pc = .ok (.if_icmp .gt off, 3)) (ht : (pc : Int) + off = (tgt : Int)) (ha : a < 2 ^ 31) (hb : b < 2 ^ 31) (kt : b < a → E g fr k n μ tgt ls st M Q) (kf : a ≤ b → E g fr k n μ (pc + 3) ls st M Q) : E g fr k n μ pc ls (.int (nI b) :: .int (nI a) :: st) M Q :=
  E_icmp_gt hd ht (fun h => kt ((nI_ltI hb ha).mp h)) (fun h => kf (Nat.not_lt.mp fun q => h ((nI_ltI hb ha).mpr q)))
theorem E_icmp_le_n {a b : Nat} {off : Int} {tgt : Nat} (hd : decode (gcc μ) pc = .ok (.if_icmp .le off, 3)) (ht : (pc : Int) + off = (tgt : Int)) (ha : a < 2 ^ 31) (hb : b < 2 ^ 31) (kt : a ≤ b → E g fr k n μ tgt ls st M Q) (kf : b < a → E g fr k n μ (pc + 3) ls st M Q) : E g fr k n μ pc ls (.int (nI b) :: .int (nI a) :: st) M Q :=
  E_icmp_le hd ht (fun h => kt ((nI_leI ha hb).mp h)) (fun h => kf (Nat.not_le.mp fun q => h ((nI_leI ha hb).mpr q)))
theorem E_callV0 {fr' k1 n1 k2 n2 idx r cb z : Nat} {rest ls0 : List Value} {μ' : gMu} (hd : decode (gcc μ) pc = .ok (.invokevirtual idx, 3)) (ho : gOkV μ' 0) (hl : gLk (gy μ).cls idx (gy μ')) (hr : r < mN M) (hk : mK M r = (cb, z)) (hcb : cb < 12 ∧ (gcl cb).1 = (gy μ').cls)  (hlen : 0 + 1 ≤ gnL μ') (hfr : fr' + 1 ≤ fr) (hrest : (rest.map fun v => v.category).sum ≤ 8) (hp : gpad (gnL μ') (.ref (r + 1) :: []) = ls0)
    (hE : E g fr' k1 n1 μ' 0 ls0 [] M (gK g fr k2 n2 μ pc ls rest Q)) : E g fr (k1 + k2) (n1 + n2) μ pc ls (.ref (r + 1) :: rest) M Q := by
  subst hp
  exact E_callV (As := []) hd ho hl rfl hr hk hcb.1 hcb.2 (fun v hv => by cases hv) hlen hfr hrest hE
theorem E_callI0 {fr' k1 n1 k2 n2 idx r : Nat} {rest ls0 : List Value} {μ' : gMu} (hd : decode (gcc μ) pc = .ok (.invokespecial idx, 3)) (ho : gOkI μ' 0) (hl : gLk (gy μ).cls idx (gy μ')) (hr : r < mN M)  (hlen : 0 + 1 ≤ gnL μ') (hfr : fr' + 1 ≤ fr) (hrest : (rest.map fun v => v.category).sum ≤ 8) (hp : gpad (gnL μ') (.ref (r + 1) :: []) = ls0)
    (hE : E g fr' k1 n1 μ' 0 ls0 [] M (gK g fr k2 n2 μ pc ls rest Q)) : E g fr (k1 + k2) (n1 + n2) μ pc ls (.ref (r + 1) :: rest) M Q := by
  subst hp
  exact E_callI (As := []) hd ho hl rfl hr (fun v hv => by cases hv) hlen hfr hrest hE
theorem E_callV1 {fr' k1 n1 k2 n2 idx r cb z : Nat} {v1 : Value} {rest ls0 : List Value} {μ' : gMu} (hd : decode (gcc μ) pc = .ok (.invokevirtual idx, 3)) (ho : gOkV μ' 1) (hl : gLk (gy μ).cls idx (gy μ')) (hr : r < mN M) (hk : mK M r = (cb, z)) (hcb : cb < 12 ∧ (gcl cb).1 = (gy μ').cls) (hv1 : v1.category = 1) (hlen : 1 + 1 ≤ gnL μ') (hfr : fr' + 1 ≤ fr) (hrest : (rest.map fun v => v.category).sum ≤ 8) (hp : gpad (gnL μ') (.ref (r + 1) :: [v1]) = ls0)
    (hE : E g fr' k1 n1 μ' 0 ls0 [] M (gK g fr k2 n2 μ pc ls rest Q)) : E g fr (k1 + k2) (n1 + n2) μ pc ls (v1 :: .ref (r + 1) :: rest) M Q := by
  subst hp
  exact E_callV (As := [v1]) hd ho hl rfl hr hk hcb.1 hcb.2 (fun v hv => by simp only [List.mem_cons, List.not_mem_nil, or_false] at hv; rcases hv with rfl <;> assumption) hlen hfr hrest hE
theorem E_callI1 {fr' k1 n1 k2 n2 idx r : Nat} {v1 : Value} {rest ls0 : List Value} {μ' : gMu} (hd : decode (gcc μ) pc = .ok (.invokespecial idx, 3)) (ho : gOkI μ' 1) (hl : gLk (gy μ).cls idx (gy μ')) (hr : r < mN M) (hv1 : v1.category = 1) (hlen : 1 + 1 ≤ gnL μ') (hfr : fr' + 1 ≤ fr) (hrest : (rest.map fun v => v.category).sum ≤ 8) (hp : gpad (gnL μ') (.ref (r + 1) :: [v1]) = ls0)
    (hE : E g fr' k1 n1 μ' 0 ls0 [] M (gK g fr k2 n2 μ pc ls rest Q)) : E g fr (k1 + k2) (n1 + n2) μ pc ls (v1 :: .ref (r + 1) :: rest) M Q := by
  subst hp
  exact E_callI (As := [v1]) hd ho hl rfl hr (fun v hv => by simp only [List.mem_cons, List.not_mem_nil, or_false] at hv; rcases hv with rfl <;> assumption) hlen hfr hrest hE
theorem E_callV2 {fr' k1 n1 k2 n2 idx r cb z : Nat} {v1 v2 : Value} {rest ls0 : List Value} {μ' : gMu} (hd : decode (gcc μ) pc = .ok (.invokevirtual idx, 3)) (ho : gOkV μ' 2) (hl : gLk (gy μ).cls idx (gy μ')) (hr : r < mN M) (hk : mK M r = (cb, z)) (hcb : cb < 12 ∧ (gcl cb).1 = (gy μ').cls) (hv1 : v1.category = 1) (hv2 : v2.category = 1) (hlen : 2 + 1 ≤ gnL μ') (hfr : fr' + 1 ≤ fr) (hrest : (rest.map fun v => v.category).sum ≤ 8) (hp : gpad (gnL μ') (.ref (r + 1) :: [v1, v2]) = ls0)
    (hE : E g fr' k1 n1 μ' 0 ls0 [] M (gK g fr k2 n2 μ pc ls rest Q)) : E g fr (k1 + k2) (n1 + n2) μ pc ls (v2 :: v1 :: .ref (r + 1) :: rest) M Q := by
  subst hp
  exact E_callV (As := [v1, v2]) hd ho hl rfl hr hk hcb.1 hcb.2 (fun v hv => by simp only [List.mem_cons, List.not_mem_nil, or_false] at hv; rcases hv with rfl | rfl <;> assumption) hlen hfr hrest hE
theorem E_callI2 {fr' k1 n1 k2 n2 idx r : Nat} {v1 v2 : Value} {rest ls0 : List Value} {μ' : gMu} (hd : decode (gcc μ) pc = .ok (.invokespecial idx, 3)) (ho : gOkI μ' 2) (hl : gLk (gy μ).cls idx (gy μ')) (hr : r < mN M) (hv1 : v1.category = 1) (hv2 : v2.category = 1) (hlen : 2 + 1 ≤ gnL μ') (hfr : fr' + 1 ≤ fr) (hrest : (rest.map fun v => v.category).sum ≤ 8) (hp : gpad (gnL μ') (.ref (r + 1) :: [v1, v2]) = ls0)
    (hE : E g fr' k1 n1 μ' 0 ls0 [] M (gK g fr k2 n2 μ pc ls rest Q)) : E g fr (k1 + k2) (n1 + n2) μ pc ls (v2 :: v1 :: .ref (r + 1) :: rest) M Q := by
  subst hp
  exact E_callI (As := [v1, v2]) hd ho hl rfl hr (fun v hv => by simp only [List.mem_cons, List.not_mem_nil, or_false] at hv; rcases hv with rfl | rfl <;> assumption) hlen hfr hrest hE
theorem E_callV3 {fr' k1 n1 k2 n2 idx r cb z : Nat} {v1 v2 v3 : Value} {rest ls0 : List Value} {μ' : gMu} (hd : decode (gcc μ) pc = .ok (.invokevirtual idx, 3)) (ho : gOkV μ' 3) (hl : gLk (gy μ).cls idx (gy μ')) (hr : r < mN M) (hk : mK M r = (cb, z)) (hcb : cb < 12 ∧ (gcl cb).1 = (gy μ').cls) (hv1 : v1.category = 1) (hv2 : v2.category = 1) (hv3 : v3.category = 1) (hlen : 3 + 1 ≤ gnL μ') (hfr : fr' + 1 ≤ fr) (hrest : (rest.map fun v => v.category).sum ≤ 8) (hp : gpad (gnL μ') (.ref (r + 1) :: [v1, v2, v3]) = ls0)
    (hE : E g fr' k1 n1 μ' 0 ls0 [] M (gK g fr k2 n2 μ pc ls rest Q)) : E g fr (k1 + k2) (n1 + n2) μ pc ls (v3 :: v2 :: v1 :: .ref (r + 1) :: rest) M Q := by
  subst hp
  exact E_callV (As := [v1, v2, v3]) hd ho hl rfl hr hk hcb.1 hcb.2 (fun v hv => by simp only [List.mem_cons, List.not_mem_nil, or_false] at hv; rcases hv with rfl | rfl | rfl <;> assumption) hlen hfr hrest hE
theorem E_callI3 {fr' k1 n1 k2 n2 idx r : Nat} {v1 v2 v3 : Value} {rest ls0 : List Value} {μ' : gMu} (hd : decode (gcc μ) pc = .ok (.invokespecial idx, 3)) (ho : gOkI μ' 3) (hl : gLk (gy μ).cls idx (gy μ')) (hr : r < mN M) (hv1 : v1.category = 1) (hv2 : v2.category = 1) (hv3 : v3.category = 1) (hlen : 3 + 1 ≤ gnL μ') (hfr : fr' + 1 ≤ fr) (hrest : (rest.map fun v => v.category).sum ≤ 8) (hp : gpad (gnL μ') (.ref (r + 1) :: [v1, v2, v3]) = ls0)
    (hE : E g fr' k1 n1 μ' 0 ls0 [] M (gK g fr k2 n2 μ pc ls rest Q)) : E g fr (k1 + k2) (n1 + n2) μ pc ls (v3 :: v2 :: v1 :: .ref (r + 1) :: rest) M Q := by
  subst hp
  exact E_callI (As := [v1, v2, v3]) hd ho hl rfl hr (fun v hv => by simp only [List.mem_cons, List.not_mem_nil, or_false] at hv; rcases hv with rfl | rfl | rfl <;> assumption) hlen hfr hrest hE
theorem E_callV4 {fr' k1 n1 k2 n2 idx r cb z : Nat} {v1 v2 v3 v4 : Value} {rest ls0 : List Value} {μ' : gMu} (hd : decode (gcc μ) pc = .ok (.invokevirtual idx, 3)) (ho : gOkV μ' 4) (hl : gLk (gy μ).cls idx (gy μ')) (hr : r < mN M) (hk : mK M r = (cb, z)) (hcb : cb < 12 ∧ (gcl cb).1 = (gy μ').cls) (hv1 : v1.category = 1) (hv2 : v2.category = 1) (hv3 : v3.category = 1) (hv4 : v4.category = 1) (hlen : 4 + 1 ≤ gnL μ') (hfr : fr' + 1 ≤ fr) (hrest : (rest.map fun v => v.category).sum ≤ 8) (hp : gpad (gnL μ') (.ref (r + 1) :: [v1, v2, v3, v4]) = ls0)
    (hE : E g fr' k1 n1 μ' 0 ls0 [] M (gK g fr k2 n2 μ pc ls rest Q)) : E g fr (k1 + k2) (n1 + n2) μ pc ls (v4 :: v3 :: v2 :: v1 :: .ref (r + 1) :: rest) M Q := by
  subst hp
  exact E_callV (As := [v1, v2, v3, v4]) hd ho hl rfl hr hk hcb.1 hcb.2 (fun v hv => by simp only [List.mem_cons, List.not_mem_nil, or_false] at hv; rcases hv with rfl | rfl | rfl | rfl <;> assumption) hlen hfr hrest hE
theorem E_callI4 {fr' k1 n1 k2 n2 idx r : Nat} {v1 v2 v3 v4 : Value} {rest ls0 : List Value} {μ' : gMu} (hd : decode (gcc μ) pc = .ok (.invokespecial idx, 3)) (ho : gOkI μ' 4) (hl : gLk (gy μ).cls idx (gy μ')) (hr : r < mN M) (hv1 : v1.category = 1) (hv2 : v2.category = 1) (hv3 : v3.category = 1) (hv4 : v4.category = 1) (hlen : 4 + 1 ≤ gnL μ') (hfr : fr' + 1 ≤ fr) (hrest : (rest.map fun v => v.category).sum ≤ 8) (hp : gpad (gnL μ') (.ref (r + 1) :: [v1, v2, v3, v4]) = ls0)
    (hE : E g fr' k1 n1 μ' 0 ls0 [] M (gK g fr k2 n2 μ pc ls rest Q)) : E g fr (k1 + k2) (n1 + n2) μ pc ls (v4 :: v3 :: v2 :: v1 :: .ref (r + 1) :: rest) M Q := by
  subst hp
  exact E_callI (As := [v1, v2, v3, v4]) hd ho hl rfl hr (fun v hv => by simp only [List.mem_cons, List.not_mem_nil, or_false] at hv; rcases hv with rfl | rfl | rfl | rfl <;> assumption) hlen hfr hrest hE
theorem E_callV5 {fr' k1 n1 k2 n2 idx r cb z : Nat} {v1 v2 v3 v4 v5 : Value} {rest ls0 : List Value} {μ' : gMu} (hd : decode (gcc μ) pc = .ok (.invokevirtual idx, 3)) (ho : gOkV μ' 5) (hl : gLk (gy μ).cls idx (gy μ')) (hr : r < mN M) (hk : mK M r = (cb, z)) (hcb : cb < 12 ∧ (gcl cb).1 = (gy μ').cls) (hv1 : v1.category = 1) (hv2 : v2.category = 1) (hv3 : v3.category = 1) (hv4 : v4.category = 1) (hv5 : v5.category = 1) (hlen : 5 + 1 ≤ gnL μ') (hfr : fr' + 1 ≤ fr) (hrest : (rest.map fun v => v.category).sum ≤ 8) (hp : gpad (gnL μ') (.ref (r + 1) :: [v1, v2, v3, v4, v5]) = ls0)
    (hE : E g fr' k1 n1 μ' 0 ls0 [] M (gK g fr k2 n2 μ pc ls rest Q)) : E g fr (k1 + k2) (n1 + n2) μ pc ls (v5 :: v4 :: v3 :: v2 :: v1 :: .ref (r + 1) :: rest) M Q := by
  subst hp
  exact E_callV (As := [v1, v2, v3, v4, v5]) hd ho hl rfl hr hk hcb.1 hcb.2 (fun v hv => by simp only [List.mem_cons, List.not_mem_nil, or_false] at hv; rcases hv with rfl | rfl | rfl | rfl | rfl <;> assumption) hlen hfr hrest hE
theorem E_callI5 {fr' k1 n1 k2 n2 idx r : Nat} {v1 v2 v3 v4 v5 : Value} {rest ls0 : List Value} {μ' : gMu} (hd : decode (gcc μ) pc = .ok (.invokespecial idx, 3)) (ho : gOkI μ' 5) (hl : gLk (gy μ).cls idx (gy μ')) (hr : r < mN M) (hv1 : v1.category = 1) (hv2 : v2.category = 1) (hv3 : v3.category = 1) (hv4 : v4.category = 1) (hv5 : v5.category = 1) (hlen : 5 + 1 ≤ gnL μ') (hfr : fr' + 1 ≤ fr) (hrest : (rest.map fun v => v.category).sum ≤ 8) (hp : gpad (gnL μ') (.ref (r + 1) :: [v1, v2, v3, v4, v5]) = ls0)
    (hE : E g fr' k1 n1 μ' 0 ls0 [] M (gK g fr k2 n2 μ pc ls rest Q)) : E g fr (k1 + k2) (n1 + n2) μ pc ls (v5 :: v4 :: v3 :: v2 :: v1 :: .ref (r + 1) :: rest) M Q := by
  subst hp
  exact E_callI (As := [v1, v2, v3, v4, v5]) hd ho hl rfl hr (fun v hv => by simp only [List.mem_cons, List.not_mem_nil, or_false] at hv; rcases hv with rfl | rfl | rfl | rfl | rfl <;> assumption) hlen hfr hrest hE
theorem E_callV6 {fr' k1 n1 k2 n2 idx r cb z : Nat} {v1 v2 v3 v4 v5 v6 : Value} {rest ls0 : List Value} {μ' : gMu} (hd : decode (gcc μ) pc = .ok (.invokevirtual idx, 3)) (ho : gOkV μ' 6) (hl : gLk (gy μ).cls idx (gy μ')) (hr : r < mN M) (hk : mK M r = (cb, z)) (hcb : cb < 12 ∧ (gcl cb).1 = (gy μ').cls) (hv1 : v1.category = 1) (hv2 : v2.category = 1) (hv3 : v3.category = 1) (hv4 : v4.category = 1) (hv5 : v5.category = 1) (hv6 : v6.category = 1) (hlen : 6 + 1 ≤ gnL μ') (hfr : fr' + 1 ≤ fr) (hrest : (rest.map fun v => v.category).sum ≤ 8) (hp : gpad (gnL μ') (.ref (r + 1) :: [v1, v2, v3, v4, v5, v6]) = ls0)
    (hE : E g fr' k1 n1 μ' 0 ls0 [] M (gK g fr k2 n2 μ pc ls rest Q)) : E g fr (k1 + k2) (n1 + n2) μ pc ls (v6 :: v5 :: v4 :: v3 :: v2 :: v1 :: .ref (r + 1) :: rest) M Q := by
  subst hp
  exact E_callV (As := [v1, v2, v3, v4, v5, v6]) hd ho hl rfl hr hk hcb.1 hcb.2 (fun v hv => by simp only [List.mem_cons, List.not_mem_nil, or_false] at hv; rcases hv with rfl | rfl | rfl | rfl | rfl | rfl <;> assumption) hlen hfr hrest hE
theorem E_callI6 {fr' k1 n1 k2 n2 idx r : Nat} {v1 v2 v3 v4 v5 v6 : Value} {rest ls0 : List Value} {μ' : gMu} (hd : decode (gcc μ) pc = .ok (.invokespecial idx, 3)) (ho : gOkI μ' 6) (hl : gLk (gy μ).cls idx (gy μ')) (hr : r < mN M) (hv1 : v1.category = 1) (hv2 : v2.category = 1) (hv3 : v3.category = 1) (hv4 : v4.category = 1) (hv5 : v5.category = 1) (hv6 : v6.category = 1) (hlen : 6 + 1 ≤ gnL μ') (hfr : fr' + 1 ≤ fr) (hrest : (rest.map fun v => v.category).sum ≤ 8) (hp : gpad (gnL μ') (.ref (r + 1) :: [v1, v2, v3, v4, v5, v6]) = ls0)
    (hE : E g fr' k1 n1 μ' 0 ls0 [] M (gK g fr k2 n2 μ pc ls rest Q)) : E g fr (k1 + k2) (n1 + n2) μ pc ls (v6 :: v5 :: v4 :: v3 :: v2 :: v1 :: .ref (r + 1) :: rest) M Q := by
  subst hp
  exact E_callI (As := [v1, v2, v3, v4, v5, v6]) hd ho hl rfl hr (fun v hv => by simp only [List.mem_cons, List.not_mem_nil, or_false] at hv; rcases hv with rfl | rfl | rfl | rfl | rfl | rfl <;> assumption) hlen hfr hrest hE
theorem E_callV7 {fr' k1 n1 k2 n2 idx r cb z : Nat} {v1 v2 v3 v4 v5 v6 v7 : Value} {rest ls0 : List Value} {μ' : gMu} (hd : decode (gcc μ) pc = .ok (.invokevirtual idx, 3)) (ho : gOkV μ' 7) (hl : gLk (gy μ).cls idx (gy μ')) (hr : r < mN M) (hk : mK M r = (cb, z)) (hcb : cb < 12 ∧ (gcl cb).1 = (gy μ').cls) (hv1 : v1.category = 1) (hv2 : v2.category = 1) (hv3 : v3.category = 1) (hv4 : v4.category = 1) (hv5 : v5.category = 1) (hv6 : v6.category = 1) (hv7 : v7.category = 1) (hlen : 7 + 1 ≤ gnL μ') (hfr : fr' + 1 ≤ fr) (hrest : (rest.map fun v => v.category).sum ≤ 8) (hp : gpad (gnL μ') (.ref (r + 1) :: [v1, v2, v3, v4, v5, v6, v7]) = ls0)
    (hE : E g fr' k1 n1 μ' 0 ls0 [] M (gK g fr k2 n2 μ pc ls rest Q)) : E g fr (k1 + k2) (n1 + n2) μ pc ls (v7 :: v6 :: v5 :: v4 :: v3 :: v2 :: v1 :: .ref (r + 1) :: rest) M Q := by
  subst hp
  exact E_callV (As := [v1, v2, v3, v4, v5, v6, v7]) hd ho hl rfl hr hk hcb.1 hcb.2 (fun v hv => by simp only [List.mem_cons, List.not_mem_nil, or_false] at hv; rcases hv with rfl | rfl | rfl | rfl | rfl | rfl | rfl <;> assumption) hlen hfr hrest hE
theorem E_callI7 {fr' k1 n1 k2 n2 idx r : Nat} {v1 v2 v3 v4 v5 v6 v7 : Value} {rest ls0 : List Value} {μ' : gMu} (hd : decode (gcc μ) pc = .ok (.invokespecial idx, 3)) (ho : gOkI μ' 7) (hl : gLk (gy μ).cls idx (gy μ')) (hr : r < mN M) (hv1 : v1.category = 1) (hv2 : v2.category = 1) (hv3 : v3.category = 1) (hv4 : v4.category = 1) (hv5 : v5.category = 1) (hv6 : v6.category = 1) (hv7 : v7.category = 1) (hlen : 7 + 1 ≤ gnL μ') (hfr : fr' + 1 ≤ fr) (hrest : (rest.map fun v => v.category).sum ≤ 8) (hp : gpad (gnL μ') (.ref (r + 1) :: [v1, v2, v3, v4, v5, v6, v7]) = ls0)
    (hE : E g fr' k1 n1 μ' 0 ls0 [] M (gK g fr k2 n2 μ pc ls rest Q)) : E g fr (k1 + k2) (n1 + n2) μ pc ls (v7 :: v6 :: v5 :: v4 :: v3 :: v2 :: v1 :: .ref (r + 1) :: rest) M Q := by
  subst hp
  exact E_callI (As := [v1, v2, v3, v4, v5, v6, v7]) hd ho hl rfl hr (fun v hv => by simp only [List.mem_cons, List.not_mem_nil, or_false] at hv; rcases hv with rfl | rfl | rfl | rfl | rfl | rfl | rfl <;> assumption) hlen hfr hrest hE
theorem E_callS1 {fr' k1 n1 k2 n2 idx : Nat} {v1 : Value} {rest ls0 : List Value} {μ' : gMu} (hd : decode (gcc μ) pc = .ok (.invokestatic idx, 3)) (ho : gOkS μ' 1) (hl : gLk (gy μ).cls idx (gy μ')) (hv1 : v1.category = 1) (hlen : 1 ≤ gnL μ') (hfr : fr' + 1 ≤ fr) (hrest : (rest.map fun v => v.category).sum ≤ 8) (hx0 : ghh μ' = [] ∨ Cond.methodLink (gy μ).cls idx (gy μ') ∈ gW) (hp : gpad (gnL μ') [v1] = ls0)
    (hE : E g fr' k1 n1 μ' 0 ls0 [] M (gK g fr k2 n2 μ pc ls rest Q)) : E g fr (k1 + k2) (n1 + n2) μ pc ls (v1 :: rest) M Q := by
  subst hp
  exact E_callS (As := [v1]) hd ho hl rfl (fun v hv => by simp only [List.mem_cons, List.not_mem_nil, or_false] at hv; rcases hv with rfl <;> assumption) hlen hfr hrest hx0 hE
theorem E_callS2 {fr' k1 n1 k2 n2 idx : Nat} {v1 v2 : Value} {rest ls0 : List Value} {μ' : gMu} (hd : decode (gcc μ) pc = .ok (.invokestatic idx, 3)) (ho : gOkS μ' 2) (hl : gLk (gy μ).cls idx (gy μ')) (hv1 : v1.category = 1) (hv2 : v2.category = 1) (hlen : 2 ≤ gnL μ') (hfr : fr' + 1 ≤ fr) (hrest : (rest.map fun v => v.category).sum ≤ 8) (hx0 : ghh μ' = [] ∨ Cond.methodLink (gy μ).cls idx (gy μ') ∈ gW) (hp : gpad (gnL μ') [v1, v2] = ls0)
    (hE : E g fr' k1 n1 μ' 0 ls0 [] M (gK g fr k2 n2 μ pc ls rest Q)) : E g fr (k1 + k2) (n1 + n2) μ pc ls (v2 :: v1 :: rest) M Q := by
  subst hp
  exact E_callS (As := [v1, v2]) hd ho hl rfl (fun v hv => by simp only [List.mem_cons, List.not_mem_nil, or_false] at hv; rcases hv with rfl | rfl <;> assumption) hlen hfr hrest hx0 hE
theorem E_callS3 {fr' k1 n1 k2 n2 idx : Nat} {v1 v2 v3 : Value} {rest ls0 : List Value} {μ' : gMu} (hd : decode (gcc μ) pc = .ok (.invokestatic idx, 3)) (ho : gOkS μ' 3) (hl : gLk (gy μ).cls idx (gy μ')) (hv1 : v1.category = 1) (hv2 : v2.category = 1) (hv3 : v3.category = 1) (hlen : 3 ≤ gnL μ') (hfr : fr' + 1 ≤ fr) (hrest : (rest.map fun v => v.category).sum ≤ 8) (hx0 : ghh μ' = [] ∨ Cond.methodLink (gy μ).cls idx (gy μ') ∈ gW) (hp : gpad (gnL μ') [v1, v2, v3] = ls0)
    (hE : E g fr' k1 n1 μ' 0 ls0 [] M (gK g fr k2 n2 μ pc ls rest Q)) : E g fr (k1 + k2) (n1 + n2) μ pc ls (v3 :: v2 :: v1 :: rest) M Q := by
  subst hp
  exact E_callS (As := [v1, v2, v3]) hd ho hl rfl (fun v hv => by simp only [List.mem_cons, List.not_mem_nil, or_false] at hv; rcases hv with rfl | rfl | rfl <;> assumption) hlen hfr hrest hx0 hE
theorem E_callS4 {fr' k1 n1 k2 n2 idx : Nat} {v1 v2 v3 v4 : Value} {rest ls0 : List Value} {μ' : gMu} (hd : decode (gcc μ) pc = .ok (.invokestatic idx, 3)) (ho : gOkS μ' 4) (hl : gLk (gy μ).cls idx (gy μ')) (hv1 : v1.category = 1) (hv2 : v2.category = 1) (hv3 : v3.category = 1) (hv4 : v4.category = 1) (hlen : 4 ≤ gnL μ') (hfr : fr' + 1 ≤ fr) (hrest : (rest.map fun v => v.category).sum ≤ 8) (hx0 : ghh μ' = [] ∨ Cond.methodLink (gy μ).cls idx (gy μ') ∈ gW) (hp : gpad (gnL μ') [v1, v2, v3, v4] = ls0)
    (hE : E g fr' k1 n1 μ' 0 ls0 [] M (gK g fr k2 n2 μ pc ls rest Q)) : E g fr (k1 + k2) (n1 + n2) μ pc ls (v4 :: v3 :: v2 :: v1 :: rest) M Q := by
  subst hp
  exact E_callS (As := [v1, v2, v3, v4]) hd ho hl rfl (fun v hv => by simp only [List.mem_cons, List.not_mem_nil, or_false] at hv; rcases hv with rfl | rfl | rfl | rfl <;> assumption) hlen hfr hrest hx0 hE
theorem E_callS5 {fr' k1 n1 k2 n2 idx : Nat} {v1 v2 v3 v4 v5 : Value} {rest ls0 : List Value} {μ' : gMu} (hd : decode (gcc μ) pc = .ok (.invokestatic idx, 3)) (ho : gOkS μ' 5) (hl : gLk (gy μ).cls idx (gy μ')) (hv1 : v1.category = 1) (hv2 : v2.category = 1) (hv3 : v3.category = 1) (hv4 : v4.category = 1) (hv5 : v5.category = 1) (hlen : 5 ≤ gnL μ') (hfr : fr' + 1 ≤ fr) (hrest : (rest.map fun v => v.category).sum ≤ 8) (hx0 : ghh μ' = [] ∨ Cond.methodLink (gy μ).cls idx (gy μ') ∈ gW) (hp : gpad (gnL μ') [v1, v2, v3, v4, v5] = ls0)
    (hE : E g fr' k1 n1 μ' 0 ls0 [] M (gK g fr k2 n2 μ pc ls rest Q)) : E g fr (k1 + k2) (n1 + n2) μ pc ls (v5 :: v4 :: v3 :: v2 :: v1 :: rest) M Q := by
  subst hp
  exact E_callS (As := [v1, v2, v3, v4, v5]) hd ho hl rfl (fun v hv => by simp only [List.mem_cons, List.not_mem_nil, or_false] at hv; rcases hv with rfl | rfl | rfl | rfl | rfl <;> assumption) hlen hfr hrest hx0 hE
theorem E_callS6 {fr' k1 n1 k2 n2 idx : Nat} {v1 v2 v3 v4 v5 v6 : Value} {rest ls0 : List Value} {μ' : gMu} (hd : decode (gcc μ) pc = .ok (.invokestatic idx, 3)) (ho : gOkS μ' 6) (hl : gLk (gy μ).cls idx (gy μ')) (hv1 : v1.category = 1) (hv2 : v2.category = 1) (hv3 : v3.category = 1) (hv4 : v4.category = 1) (hv5 : v5.category = 1) (hv6 : v6.category = 1) (hlen : 6 ≤ gnL μ') (hfr : fr' + 1 ≤ fr) (hrest : (rest.map fun v => v.category).sum ≤ 8) (hx0 : ghh μ' = [] ∨ Cond.methodLink (gy μ).cls idx (gy μ') ∈ gW) (hp : gpad (gnL μ') [v1, v2, v3, v4, v5, v6] = ls0)
    (hE : E g fr' k1 n1 μ' 0 ls0 [] M (gK g fr k2 n2 μ pc ls rest Q)) : E g fr (k1 + k2) (n1 + n2) μ pc ls (v6 :: v5 :: v4 :: v3 :: v2 :: v1 :: rest) M Q := by
  subst hp
  exact E_callS (As := [v1, v2, v3, v4, v5, v6]) hd ho hl rfl (fun v hv => by simp only [List.mem_cons, List.not_mem_nil, or_false] at hv; rcases hv with rfl | rfl | rfl | rfl | rfl | rfl <;> assumption) hlen hfr hrest hx0 hE
theorem E_callS7 {fr' k1 n1 k2 n2 idx : Nat} {v1 v2 v3 v4 v5 v6 v7 : Value} {rest ls0 : List Value} {μ' : gMu} (hd : decode (gcc μ) pc = .ok (.invokestatic idx, 3)) (ho : gOkS μ' 7) (hl : gLk (gy μ).cls idx (gy μ')) (hv1 : v1.category = 1) (hv2 : v2.category = 1) (hv3 : v3.category = 1) (hv4 : v4.category = 1) (hv5 : v5.category = 1) (hv6 : v6.category = 1) (hv7 : v7.category = 1) (hlen : 7 ≤ gnL μ') (hfr : fr' + 1 ≤ fr) (hrest : (rest.map fun v => v.category).sum ≤ 8) (hx0 : ghh μ' = [] ∨ Cond.methodLink (gy μ).cls idx (gy μ') ∈ gW) (hp : gpad (gnL μ') [v1, v2, v3, v4, v5, v6, v7] = ls0)
    (hE : E g fr' k1 n1 μ' 0 ls0 [] M (gK g fr k2 n2 μ pc ls rest Q)) : E g fr (k1 + k2) (n1 + n2) μ pc ls (v7 :: v6 :: v5 :: v4 :: v3 :: v2 :: v1 :: rest) M Q := by
  subst hp
  exact E_callS (As := [v1, v2, v3, v4, v5, v6, v7]) hd ho hl rfl (fun v hv => by simp only [List.mem_cons, List.not_mem_nil, or_false] at hv; rcases hv with rfl | rfl | rfl | rfl | rfl | rfl | rfl <;> assumption) hlen hfr hrest hx0 hE
theorem E_callS8 {fr' k1 n1 k2 n2 idx : Nat} {v1 v2 v3 v4 v5 v6 v7 v8 : Value} {rest ls0 : List Value} {μ' : gMu} (hd : decode (gcc μ) pc = .ok (.invokestatic idx, 3)) (ho : gOkS μ' 8) (hl : gLk (gy μ).cls idx (gy μ')) (hv1 : v1.category = 1) (hv2 : v2.category = 1) (hv3 : v3.category = 1) (hv4 : v4.category = 1) (hv5 : v5.category = 1) (hv6 : v6.category = 1) (hv7 : v7.category = 1) (hv8 : v8.category = 1) (hlen : 8 ≤ gnL μ') (hfr : fr' + 1 ≤ fr) (hrest : (rest.map fun v => v.category).sum ≤ 8) (hx0 : ghh μ' = [] ∨ Cond.methodLink (gy μ).cls idx (gy μ') ∈ gW) (hp : gpad (gnL μ') [v1, v2, v3, v4, v5, v6, v7, v8] = ls0)
    (hE : E g fr' k1 n1 μ' 0 ls0 [] M (gK g fr k2 n2 μ pc ls rest Q)) : E g fr (k1 + k2) (n1 + n2) μ pc ls (v8 :: v7 :: v6 :: v5 :: v4 :: v3 :: v2 :: v1 :: rest) M Q := by
  subst hp
  exact E_callS (As := [v1, v2, v3, v4, v5, v6, v7, v8]) hd ho hl rfl (fun v hv => by simp only [List.mem_cons, List.not_mem_nil, or_false] at hv; rcases hv with rfl | rfl | rfl | rfl | rfl | rfl | rfl | rfl <;> assumption) hlen hfr hrest hx0 hE
theorem E_callS9 {fr' k1 n1 k2 n2 idx : Nat} {v1 v2 v3 v4 v5 v6 v7 v8 v9 : Value} {rest ls0 : List Value} {μ' : gMu} (hd : decode (gcc μ) pc = .ok (.invokestatic idx, 3)) (ho : gOkS μ' 9) (hl : gLk (gy μ).cls idx (gy μ')) (hv1 : v1.category = 1) (hv2 : v2.category = 1) (hv3 : v3.category = 1) (hv4 : v4.category = 1) (hv5 : v5.category = 1) (hv6 : v6.category = 1) (hv7 : v7.category = 1) (hv8 : v8.category = 1) (hv9 : v9.category = 1) (hlen : 9 ≤ gnL μ') (hfr : fr' + 1 ≤ fr) (hrest : (rest.map fun v => v.category).sum ≤ 8) (hx0 : ghh μ' = [] ∨ Cond.methodLink (gy μ).cls idx (gy μ') ∈ gW) (hp : gpad (gnL μ') [v1, v2, v3, v4, v5, v6, v7, v8, v9] = ls0)
    (hE : E g fr' k1 n1 μ' 0 ls0 [] M (gK g fr k2 n2 μ pc ls rest Q)) : E g fr (k1 + k2) (n1 + n2) μ pc ls (v9 :: v8 :: v7 :: v6 :: v5 :: v4 :: v3 :: v2 :: v1 :: rest) M Q := by
  subst hp
  exact E_callS (As := [v1, v2, v3, v4, v5, v6, v7, v8, v9]) hd ho hl rfl (fun v hv => by simp only [List.mem_cons, List.not_mem_nil, or_false] at hv; rcases hv with rfl | rfl | rfl | rfl | rfl | rfl | rfl | rfl | rfl <;> assumption) hlen hfr hrest hx0 hE
end GN
