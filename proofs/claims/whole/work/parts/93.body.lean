/-! the law: its loop, its body -/
theorem and31 (x : Int32) : ∃ q, q < 32 ∧ x &&& nI 31 = nI q := by
  refine ⟨(x.toBitVec &&& 31#32).toNat, ?_, ?_⟩
  · rw [BitVec.toNat_and]
    exact Nat.lt_of_le_of_lt Nat.and_le_right (by decide)
  · apply Int32.toBitVec_inj.mp
    rw [Int32.toBitVec_and]
    show x.toBitVec &&& 31#32 = BitVec.ofNat 32 (x.toBitVec &&& 31#32).toNat
    rw [BitVec.ofNat_toNat, BitVec.setWidth_eq]
theorem len8 {L i : Nat} (hL : L < 2 ^ 30) (hi : i < 2 ^ 30) : nI L - nI 8 < nI i ↔ L < i + 8 := by
  have e : (nI L - nI 8).toInt = (L : Int) - 8 := by
    rw [Int32.toInt_sub, nI_toInt (by omega), nI_toInt (by decide), bm (by omega) (by omega)]; rfl
  rw [Int32.lt_iff_toInt_lt, e, nI_toInt (by omega)]
  omega
set_option maxRecDepth 100000 in
set_option maxHeartbeats 4000000 in
theorem law_loop {g : gG} {Q : Option Value ⊕ String → gM → Prop} (hst : (gl1 g).stackTraces = false) (h4 : gsL g ≤ 4096) {z : UInt32} (K : ∀ M, Q (.inl (some (.int (nI 1)))) M) : ∀ r i, i ≤ 4104 → gsL g ≤ i + 8 * r + 7 → ∀ (c : Cf) (P π : Nat → Nat) (M : gM) (v5 v6 : Value), bS c M → kS c P π M → E g 18 (12 * r) (330 * r) mL_law 23 [.float z, .ref 1, .ref 129, .ref 179, .int (nI i), v5, v6] [] M Q := by
  intro r
  induction r with
  | zero =>
    intro i hi hr c P π M v5 v6 hb hS
    refine E_iload dL_law_23 rfl ?_
    refine E_aload_s dL_law_25 rfl ?_
    refine E_slen dL_law_26 ?_
    refine E_bipush (v := nI 8) dL_law_27 (by decide) ?_
    refine E_isub dL_law_29 ?_
    refine E_icmp_gt (tgt := 1693) dL_law_30 (by decide) (fun c_30 => ?_) (fun c_30 => ?_)
    · refine E_iconst (v := nI 1) dL_law_1693 (by decide) ?_
      refine E_iret dL_law_1694 (Or.inr ⟨rfl, by decide⟩) ?_
      exact K M
    · exact absurd ((len8 (by omega) (by omega)).mpr (by omega)) c_30
  | succ r ih =>
    intro i hi hr c P π M v5 v6 hb hS
    show E g 18 (12 * r + 12) (330 * r + 330) mL_law 23 [.float z, .ref 1, .ref 129, .ref 179, .int (nI i), v5, v6] [] M Q
    refine E_iload dL_law_23 rfl ?_
    refine E_aload_s dL_law_25 rfl ?_
    refine E_slen dL_law_26 ?_
    refine E_bipush (v := nI 8) dL_law_27 (by decide) ?_
    refine E_isub dL_law_29 ?_
    refine E_icmp_gt (tgt := 1693) dL_law_30 (by decide) (fun c_30 => ?_) (fun c_30 => ?_)
    · refine E_iconst (v := nI 1) dL_law_1693 (by decide) ?_
      refine E_iret dL_law_1694 (Or.inr ⟨rfl, by decide⟩) ?_
      exact K M
    · have h8 : i + 8 ≤ gsL g := by
        have := mt (len8 (L := gsL g) (i := i) (by omega) (by omega)).mpr c_30
        omega
      have step : ∀ c' P' π' M' v5 v6, bS c' M' → kS c' P' π' M' → E g 18 (12 * r) (330 * r) mL_law 1687 [.float z, .ref 1, .ref 129, .ref 179, .int (nI i), v5, v6] [] M' Q := fun c' P' π' M' v5 v6 hb' hS' => by
        refine E_iinc_n (d := 8) dL_law_1687 rfl rfl rfl (by decide) rfl ?_
        refine E_goto (tgt := 23) dL_law_1690 (by decide) ?_
        exact ih (i + 8) (by omega) (by omega) c' P' π' M' v5 v6 hb' hS'
      refine E_aload_s dL_law_33 rfl ?_
      refine E_iload dL_law_34 rfl ?_
      refine E_sld dL_law_36 rfl (by omega) (by omega) ?_
      refine E_bipush (v := nI 31) dL_law_37 (by decide) ?_
      refine E_iand dL_law_39 ?_
      obtain ⟨q, hq, eq⟩ := and31 (gsx g i)
      rw [eq]
      by_cases h24 : 24 ≤ q
      · refine E_swOut (tgt := 1687) dL_law_40 (Or.inr (by rw [nI_toInt (by omega)]; omega)) (by decide) ?_
        exact E_room (Nat.le_refl _) (Nat.le_add_right _ _) (Nat.le_add_right _ _) (step c P π M v5 v6 hb hS)
      · rcases (show q = 0 ∨ q = 1 ∨ q = 2 ∨ q = 3 ∨ q = 4 ∨ q = 5 ∨ q = 6 ∨ q = 7 ∨ q = 8 ∨ q = 9 ∨ q = 10 ∨ q = 11 ∨ q = 12 ∨ q = 13 ∨ q = 14 ∨ q = 15 ∨ q = 16 ∨ q = 17 ∨ q = 18 ∨ q = 19 ∨ q = 20 ∨ q = 21 ∨ q = 22 ∨ q = 23 by omega) with rfl | rfl | rfl | rfl | rfl | rfl | rfl | rfl | rfl | rfl | rfl | rfl | rfl | rfl | rfl | rfl | rfl | rfl | rfl | rfl | rfl | rfl | rfl | rfl
        · refine E_swIn (off := 112) (tgt := 152) dL_law_40 (by decide) (by decide) (by decide) (by decide) ?_
          exact case_useFace hst h8 h4 hb hS step
        · refine E_swIn (off := 168) (tgt := 208) dL_law_40 (by decide) (by decide) (by decide) (by decide) ?_
          exact case_lookup hst h8 h4 hb hS step
        · refine E_swIn (off := 272) (tgt := 312) dL_law_40 (by decide) (by decide) (by decide) (by decide) ?_
          exact case_rule hst h8 h4 hb hS step
        · refine E_swIn (off := 404) (tgt := 444) dL_law_40 (by decide) (by decide) (by decide) (by decide) ?_
          exact case_setMark hst h8 h4 hb hS step
        · refine E_swIn (off := 472) (tgt := 512) dL_law_40 (by decide) (by decide) (by decide) (by decide) ?_
          exact case_setGroup hst h8 h4 hb hS step
        · refine E_swIn (off := 540) (tgt := 580) dL_law_40 (by decide) (by decide) (by decide) (by decide) ?_
          exact case_setWidth hst h8 h4 hb hS step
        · refine E_swIn (off := 608) (tgt := 648) dL_law_40 (by decide) (by decide) (by decide) (by decide) ?_
          exact case_lack hst h8 h4 hb hS step
        · refine E_swIn (off := 671) (tgt := 711) dL_law_40 (by decide) (by decide) (by decide) (by decide) ?_
          exact case_size hst h8 h4 hb hS step
        · refine E_swIn (off := 727) (tgt := 767) dL_law_40 (by decide) (by decide) (by decide) (by decide) ?_
          exact case_insert hst h8 h4 hb hS step
        · refine E_swIn (off := 795) (tgt := 835) dL_law_40 (by decide) (by decide) (by decide) (by decide) ?_
          exact case_cut hst h8 h4 hb hS step
        · refine E_swIn (off := 851) (tgt := 891) dL_law_40 (by decide) (by decide) (by decide) (by decide) ?_
          exact case_setTongue hst h8 h4 hb hS step
        · refine E_swIn (off := 907) (tgt := 947) dL_law_40 (by decide) (by decide) (by decide) (by decide) ?_
          exact case_setExtra hst h8 h4 hb hS step
        · refine E_swIn (off := 987) (tgt := 1027) dL_law_40 (by decide) (by decide) (by decide) (by decide) ?_
          exact case_glyphs hst h8 h4 hb hS step
        · refine E_swIn (off := 1000) (tgt := 1040) dL_law_40 (by decide) (by decide) (by decide) (by decide) ?_
          exact case_glyph hst h8 h4 hb hS step
        · refine E_swIn (off := 1056) (tgt := 1096) dL_law_40 (by decide) (by decide) (by decide) (by decide) ?_
          exact case_glyphAnew hst h8 h4 hb hS step
        · refine E_swIn (off := 1112) (tgt := 1152) dL_law_40 (by decide) (by decide) (by decide) (by decide) ?_
          exact case_cluster hst h8 h4 hb hS step
        · refine E_swIn (off := 1168) (tgt := 1208) dL_law_40 (by decide) (by decide) (by decide) (by decide) ?_
          exact case_place hst h8 h4 hb hS step
        · refine E_swIn (off := 1236) (tgt := 1276) dL_law_40 (by decide) (by decide) (by decide) (by decide) ?_
          exact case_form hst h8 h4 hb hS step
        · refine E_swIn (off := 1292) (tgt := 1332) dL_law_40 (by decide) (by decide) (by decide) (by decide) ?_
          exact case_run hst h8 h4 hb hS step
        · refine E_swIn (off := 1348) (tgt := 1388) dL_law_40 (by decide) (by decide) (by decide) (by decide) ?_
          exact case_caret hst h8 h4 hb hS step
        · refine E_swIn (off := 1404) (tgt := 1444) dL_law_40 (by decide) (by decide) (by decide) (by decide) ?_
          exact case_hit hst h8 h4 hb hS step
        · refine E_swIn (off := 1460) (tgt := 1500) dL_law_40 (by decide) (by decide) (by decide) (by decide) ?_
          exact case_isSafe hst h8 h4 hb hS step
        · refine E_swIn (off := 1523) (tgt := 1563) dL_law_40 (by decide) (by decide) (by decide) (by decide) ?_
          exact case_fill hst h8 h4 hb hS step
        · refine E_swIn (off := 1579) (tgt := 1619) dL_law_40 (by decide) (by decide) (by decide) (by decide) ?_
          exact case_filling hst h8 h4 hb hS step
set_option maxRecDepth 100000 in
set_option maxHeartbeats 4000000 in
theorem law_body {g : gG} {Q : Option Value ⊕ String → gM → Prop} (hst : (gl1 g).stackTraces = false) (h4 : gsL g ≤ 4096) {z : UInt32} (K : ∀ M, Q (.inl (some (.int (nI 1)))) M) {M : gM} (hG : gG0 0 0 0 M) : E g 18 6323 207927 mL_law 0 [.float z, .null, .null, .null, .null, .null, .null] [] M Q := by
  refine E_new (c := 11) (k := 6322) (n := 207916) dL_law_0 (by decide) kY_11 (gW_at 122 (by decide +kernel) (by decide +kernel)) (gW_at 123 (by decide +kernel) (by decide +kernel)) (gW_at 101 (by decide +kernel) (by decide +kernel)) ?_
  rw [hG.nn]
  refine cE (hG.new (by decide +kernel)) (fun M hG => ?_)
  refine E_dup dL_law_3 rfl ?_
  refine E_callI0 (fr' := 3) (k1 := 127) (n1 := 19335) (k2 := 6195) (n2 := 188581) dL_law_4 kO_X11_init kL_L_90 (hG.lt (a := 0) (by decide))  (by decide) (by decide) (by exact Nat.le_of_ble_eq_true rfl) rfl ?_
  refine ci_X11_init_0 hG (fun M hG => ?_)
  refine gKn ?_
  refine E_astore_n dL_law_7 (Nat.le_of_ble_eq_true rfl) (by decide) rfl ?_
  refine E_new (c := 12) (k := 6194) (n := 188523) dL_law_8 (by decide) kY_12 (gW_at 1256 (by decide +kernel) (by decide +kernel)) (gW_at 1257 (by decide +kernel) (by decide +kernel)) (gW_at 112 (by decide +kernel) (by decide +kernel)) ?_
  rw [hG.nn]
  refine cE (hG.new (by decide +kernel)) (fun M hG => ?_)
  refine E_dup dL_law_11 rfl ?_
  refine E_callI0 (fr' := 2) (k1 := 49) (n1 := 19562) (k2 := 6145) (n2 := 168961) dL_law_12 kO_X12_init kL_L_93 (hG.lt (a := 128) (by decide))  (by decide) (by decide) (by exact Nat.le_of_ble_eq_true rfl) rfl ?_
  refine ci_X12_init_128 hG (fun M hG => ?_)
  refine gKn ?_
  refine E_astore_n dL_law_15 (Nat.le_of_ble_eq_true rfl) (by decide) rfl ?_
  refine E_iconst (v := nI 1) dL_law_16 (by decide) ?_
  refine E_newL (len := 1) (k := 6144) (n := 168960) dL_law_17 (gW_at 1076 (by decide +kernel) (by decide +kernel)) rfl (by decide) ?_
  rw [hG.nn]
  refine cE (hG.new (by decide +kernel)) (fun M hG => ?_)
  refine E_astore_n dL_law_19 (Nat.le_of_ble_eq_true rfl) (by decide) rfl ?_
  refine E_iconst (v := nI 0) dL_law_20 (by decide) ?_
  refine E_istore dL_law_21 (Nat.le_of_ble_eq_true rfl) (by decide) rfl ?_
  exact law_loop hst h4 K 512 0 (by omega) (by omega) c0 _ _ M _ _ (beg_bS hG) (beg_kS hG)
