/-! the law: rules that change glyphs -/
set_option maxRecDepth 100000 in
set_option maxHeartbeats 4000000 in
theorem sp_L_joined2 {g : gG} {M : gM} {Q : Option Value ⊕ String → gM → Prop} {c : Cf} {f : Nat} {M0 : gM} {pw : Nat} {L : List Gl} {w z : Int32} (h : lX c f M0 pw L w z M) {l : Nat} (hl : l < cN c 129 f) {i d0 : Nat} {b : Int32} {B : Nat} (hi : i < L.length) (bd : bdJ B i L) (hd : glZ d0) (K0 : ¬ lgF c f (12 * f + l) L i b (-100) → Q (.inl (some (.int (nI 0)))) M) (K : lgF c f (12 * f + l) L i b (-100) → ∀ M, lX c f M0 pw (lgL c f (12 * f + l) L i (-100) d0) (lgW c f (12 * f + l) L w i (-100)) z M → Q (.inl (some (.int (nI 1)))) M) : E g 5 0 0 mL_joined 0 [.ref (pw + 1), .ref 130, .ref 132, .ref 133, .int (nI (8 * f + l)), .int (nI i), .int b, .int (-100), .int (nI d0), .null, .null, .null, .null, .null, .null, .null, .null] [] M Q := by
  have hL := h.lay
  have hf := h.f2
  have hn := h.len
  have hct := h.ct
  have hb := aft_b c f (12 * f + l) hi
  refine E_aload_n dL_joined_0 rfl ?_
  refine E_aload_n dL_joined_1 rfl ?_
  refine E_aload_n dL_joined_2 rfl ?_
  refine E_aload_n dL_joined_3 rfl ?_
  refine E_iload dL_joined_4 rfl ?_
  refine E_iload dL_joined_6 rfl ?_
  refine E_iconst (v := nI 1) dL_joined_8 (by decide) ?_
  refine E_callT7 (fr' := 4) (k1 := 0) (n1 := 0) (k2 := 0) (n2 := 0) dL_joined_9 kO_L_next kL_L_145 (by exact Nat.le_of_ble_eq_true rfl) (by decide) (by exact Nat.le_of_ble_eq_true rfl) (Or.inl rfl) rfl ?_
  refine sp_L_nextF h hl hi (fun hn0 => ?_) (fun hn0 => ?_)
  · refine gKv ?_
    refine E_istore dL_joined_12 (Nat.le_of_ble_eq_true rfl) (by decide) rfl ?_
    refine E_iload dL_joined_14 rfl ?_
    refine E_if_lt (tgt := 39) dL_joined_16 (by decide) (fun _ => ?_) (fun c0 => absurd (by decide) c0)
    refine E_iconst (v := nI 0) dL_joined_39 (by decide) ?_
    refine E_iret dL_joined_40 (Or.inr ⟨rfl, by decide⟩) ?_
    exact K0 (fun q => by
      obtain ⟨q1, q2, q3⟩ := q
      first
        | exact hn0 q1
        | exact c_36 q2
        | (rcases q3 with q3 | q3; exact hc q3; first | exact hn1 q3.1 | exact c_96 q3.2))
  · have hb2 := aft_b c f (12 * f + l) hn0
    refine gKv ?_
    refine E_istore dL_joined_12 (Nat.le_of_ble_eq_true rfl) (by decide) rfl ?_
    refine E_iload dL_joined_14 rfl ?_
    refine E_if_lt_n (tgt := 39) dL_joined_16 (by decide) (by omega) ?_
    refine E_aload_n dL_joined_19 rfl ?_
    refine E_aload_n dL_joined_20 rfl ?_
    refine E_bipush (v := nI 6) dL_joined_21 (by decide) ?_
    refine E_ialdL (v := nI _) dL_joined_23 (l_132 hL) (k_132 hL) rfl (by omega) (by decide) h.a6 ?_
    refine E_iload dL_joined_24 rfl ?_
    refine E_aload_n dL_joined_26 rfl ?_
    refine E_iload dL_joined_27 rfl ?_
    refine E_laldL (v := pk _) dL_joined_29 h.plt h.pkd rfl (by omega) (by decide) (h.wk (by omega)) ?_
    refine E_callT1 (fr' := 1) (k1 := 0) (n1 := 0) (k2 := 0) (n2 := 0) dL_joined_30 kO_L_glyphOf kL_L_108 (by exact Nat.le_of_ble_eq_true rfl) (by decide) (by exact Nat.le_of_ble_eq_true rfl) (Or.inl rfl) rfl ?_
    refine sp_L_glyphOf (h.ok (by omega)) ?_
    refine gKv ?_
    refine E_callT4 (fr' := 2) (k1 := 0) (n1 := 0) (k2 := 0) (n2 := 0) dL_joined_33 kO_L_is kL_L_128 (by exact Nat.le_of_ble_eq_true rfl) (by decide) (by exact Nat.le_of_ble_eq_true rfl) (Or.inl rfl) rfl ?_
    refine sp_L_is (by first | exact h | exact h.S) hf (by first | assumption | exact h.gl (by omega)) ?_
    refine gKv ?_
    refine E_if_ne_b (tgt := 41) dL_joined_36 (by decide) (fun c_36 => ?_) (fun c_36 => ?_)
    · refine E_iload dL_joined_41 rfl ?_
      refine E_bipush (v := -100) dL_joined_43 (by decide) ?_
      refine E_icmp_ne_r (tgt := 53) dL_joined_45 (by decide) (fun c0 => absurd c0 (by decide)) (fun _ => ?_)
      refine E_iload dL_joined_48 rfl ?_
      refine E_goto (tgt := 65) dL_joined_50 (by decide) ?_
      refine E_istore dL_joined_65 (Nat.le_of_ble_eq_true rfl) (by decide) rfl ?_
      refine E_iload dL_joined_67 rfl ?_
      refine E_if_lt_n (tgt := 99) dL_joined_69 (by decide) (by omega) ?_
      refine E_iload dL_joined_72 rfl ?_
      refine E_bipush (v := -100) dL_joined_74 (by decide) ?_
      refine E_icmp_eq (tgt := 101) dL_joined_76 (by decide) (fun _ => ?_) (fun c0 => absurd (by decide) c0)
      refine md2_L_joined h bd (by omega) hn0 (fun k z1 z2 => aft_sk hi z1 z2) hd (fun M h => ?_)
      have e1 : lgL c f (12 * f + l) L i (-100) d0 = _ := cI_t rfl
      have e2 : lgW c f (12 * f + l) L w i (-100) = _ := cI_t rfl
      rw [e1, e2] at K
      exact K ⟨hn0, c_36, Or.inl rfl⟩ M h
    · refine E_iconst (v := nI 0) dL_joined_39 (by decide) ?_
      refine E_iret dL_joined_40 (Or.inr ⟨rfl, by decide⟩) ?_
      exact K0 (fun q => by
        obtain ⟨q1, q2, q3⟩ := q
        first
          | exact hn0 q1
          | exact c_36 q2
          | (rcases q3 with q3 | q3; exact hc q3; first | exact hn1 q3.1 | exact c_96 q3.2))
set_option maxRecDepth 100000 in
set_option maxHeartbeats 4000000 in
theorem sp_L_joined3 {g : gG} {M : gM} {Q : Option Value ⊕ String → gM → Prop} {c : Cf} {f : Nat} {M0 : gM} {pw : Nat} {L : List Gl} {w z : Int32} (h : lX c f M0 pw L w z M) {l : Nat} (hl : l < cN c 129 f) {i d0 : Nat} {b : Int32} {cc : Int32} (hc : ¬ cc = -100) {B : Nat} (hi : i < L.length) (bd : bdJ B i L) (hd : glZ d0) (K0 : ¬ lgF c f (12 * f + l) L i b cc → Q (.inl (some (.int (nI 0)))) M) (K : lgF c f (12 * f + l) L i b cc → ∀ M, lX c f M0 pw (lgL c f (12 * f + l) L i cc d0) (lgW c f (12 * f + l) L w i cc) z M → Q (.inl (some (.int (nI 1)))) M) : E g 5 0 0 mL_joined 0 [.ref (pw + 1), .ref 130, .ref 132, .ref 133, .int (nI (8 * f + l)), .int (nI i), .int b, .int cc, .int (nI d0), .null, .null, .null, .null, .null, .null, .null, .null] [] M Q := by
  have hL := h.lay
  have hf := h.f2
  have hn := h.len
  have hct := h.ct
  have hb := aft_b c f (12 * f + l) hi
  refine E_aload_n dL_joined_0 rfl ?_
  refine E_aload_n dL_joined_1 rfl ?_
  refine E_aload_n dL_joined_2 rfl ?_
  refine E_aload_n dL_joined_3 rfl ?_
  refine E_iload dL_joined_4 rfl ?_
  refine E_iload dL_joined_6 rfl ?_
  refine E_iconst (v := nI 1) dL_joined_8 (by decide) ?_
  refine E_callT7 (fr' := 4) (k1 := 0) (n1 := 0) (k2 := 0) (n2 := 0) dL_joined_9 kO_L_next kL_L_145 (by exact Nat.le_of_ble_eq_true rfl) (by decide) (by exact Nat.le_of_ble_eq_true rfl) (Or.inl rfl) rfl ?_
  refine sp_L_nextF h hl hi (fun hn0 => ?_) (fun hn0 => ?_)
  · refine gKv ?_
    refine E_istore dL_joined_12 (Nat.le_of_ble_eq_true rfl) (by decide) rfl ?_
    refine E_iload dL_joined_14 rfl ?_
    refine E_if_lt (tgt := 39) dL_joined_16 (by decide) (fun _ => ?_) (fun c0 => absurd (by decide) c0)
    refine E_iconst (v := nI 0) dL_joined_39 (by decide) ?_
    refine E_iret dL_joined_40 (Or.inr ⟨rfl, by decide⟩) ?_
    exact K0 (fun q => by
      obtain ⟨q1, q2, q3⟩ := q
      first
        | exact hn0 q1
        | exact c_36 q2
        | (rcases q3 with q3 | q3; exact hc q3; first | exact hn1 q3.1 | exact c_96 q3.2))
  · have hb2 := aft_b c f (12 * f + l) hn0
    refine gKv ?_
    refine E_istore dL_joined_12 (Nat.le_of_ble_eq_true rfl) (by decide) rfl ?_
    refine E_iload dL_joined_14 rfl ?_
    refine E_if_lt_n (tgt := 39) dL_joined_16 (by decide) (by omega) ?_
    refine E_aload_n dL_joined_19 rfl ?_
    refine E_aload_n dL_joined_20 rfl ?_
    refine E_bipush (v := nI 6) dL_joined_21 (by decide) ?_
    refine E_ialdL (v := nI _) dL_joined_23 (l_132 hL) (k_132 hL) rfl (by omega) (by decide) h.a6 ?_
    refine E_iload dL_joined_24 rfl ?_
    refine E_aload_n dL_joined_26 rfl ?_
    refine E_iload dL_joined_27 rfl ?_
    refine E_laldL (v := pk _) dL_joined_29 h.plt h.pkd rfl (by omega) (by decide) (h.wk (by omega)) ?_
    refine E_callT1 (fr' := 1) (k1 := 0) (n1 := 0) (k2 := 0) (n2 := 0) dL_joined_30 kO_L_glyphOf kL_L_108 (by exact Nat.le_of_ble_eq_true rfl) (by decide) (by exact Nat.le_of_ble_eq_true rfl) (Or.inl rfl) rfl ?_
    refine sp_L_glyphOf (h.ok (by omega)) ?_
    refine gKv ?_
    refine E_callT4 (fr' := 2) (k1 := 0) (n1 := 0) (k2 := 0) (n2 := 0) dL_joined_33 kO_L_is kL_L_128 (by exact Nat.le_of_ble_eq_true rfl) (by decide) (by exact Nat.le_of_ble_eq_true rfl) (Or.inl rfl) rfl ?_
    refine sp_L_is (by first | exact h | exact h.S) hf (by first | assumption | exact h.gl (by omega)) ?_
    refine gKv ?_
    refine E_if_ne_b (tgt := 41) dL_joined_36 (by decide) (fun c_36 => ?_) (fun c_36 => ?_)
    · refine E_iload dL_joined_41 rfl ?_
      refine E_bipush (v := -100) dL_joined_43 (by decide) ?_
      refine E_icmp_ne (tgt := 53) dL_joined_45 (by decide) (fun _ => ?_) (fun c0 => absurd hc c0)
      refine E_aload_n dL_joined_53 rfl ?_
      refine E_aload_n dL_joined_54 rfl ?_
      refine E_aload_n dL_joined_55 rfl ?_
      refine E_aload_n dL_joined_56 rfl ?_
      refine E_iload dL_joined_57 rfl ?_
      refine E_iload dL_joined_59 rfl ?_
      refine E_iconst (v := nI 1) dL_joined_61 (by decide) ?_
      refine E_callT7 (fr' := 4) (k1 := 0) (n1 := 0) (k2 := 0) (n2 := 0) dL_joined_62 kO_L_next kL_L_145 (by exact Nat.le_of_ble_eq_true rfl) (by decide) (by exact Nat.le_of_ble_eq_true rfl) (Or.inl rfl) rfl ?_
      refine sp_L_nextF h hl hn0 (fun hn1 => ?_) (fun hn1 => ?_)
      · refine gKv ?_
        refine E_istore dL_joined_65 (Nat.le_of_ble_eq_true rfl) (by decide) rfl ?_
        refine E_iload dL_joined_67 rfl ?_
        refine E_if_lt (tgt := 99) dL_joined_69 (by decide) (fun _ => ?_) (fun c0 => absurd (by decide) c0)
        refine E_iconst (v := nI 0) dL_joined_99 (by decide) ?_
        refine E_iret dL_joined_100 (Or.inr ⟨rfl, by decide⟩) ?_
        exact K0 (fun q => by
          obtain ⟨q1, q2, q3⟩ := q
          first
            | exact hn0 q1
            | exact c_36 q2
            | (rcases q3 with q3 | q3; exact hc q3; first | exact hn1 q3.1 | exact c_96 q3.2))
      · refine gKv ?_
        refine E_istore dL_joined_65 (Nat.le_of_ble_eq_true rfl) (by decide) rfl ?_
        refine E_iload dL_joined_67 rfl ?_
        refine E_if_lt_n (tgt := 99) dL_joined_69 (by decide) (by omega) ?_
        refine E_iload dL_joined_72 rfl ?_
        refine E_bipush (v := -100) dL_joined_74 (by decide) ?_
        refine E_icmp_eq (tgt := 101) dL_joined_76 (by decide) (fun c0 => absurd c0 hc) (fun _ => ?_)
        refine E_aload_n dL_joined_79 rfl ?_
        refine E_aload_n dL_joined_80 rfl ?_
        refine E_bipush (v := nI 6) dL_joined_81 (by decide) ?_
        refine E_ialdL (v := nI _) dL_joined_83 (l_132 hL) (k_132 hL) rfl (by omega) (by decide) h.a6 ?_
        refine E_iload dL_joined_84 rfl ?_
        refine E_aload_n dL_joined_86 rfl ?_
        refine E_iload dL_joined_87 rfl ?_
        refine E_laldL (v := pk _) dL_joined_89 h.plt h.pkd rfl (by omega) (by decide) (h.wk (by omega)) ?_
        refine E_callT1 (fr' := 1) (k1 := 0) (n1 := 0) (k2 := 0) (n2 := 0) dL_joined_90 kO_L_glyphOf kL_L_108 (by exact Nat.le_of_ble_eq_true rfl) (by decide) (by exact Nat.le_of_ble_eq_true rfl) (Or.inl rfl) rfl ?_
        refine sp_L_glyphOf (h.ok (by omega)) ?_
        refine gKv ?_
        refine E_callT4 (fr' := 2) (k1 := 0) (n1 := 0) (k2 := 0) (n2 := 0) dL_joined_93 kO_L_is kL_L_128 (by exact Nat.le_of_ble_eq_true rfl) (by decide) (by exact Nat.le_of_ble_eq_true rfl) (Or.inl rfl) rfl ?_
        refine sp_L_is (by first | exact h | exact h.S) hf (by first | assumption | exact h.gl (by omega)) ?_
        refine gKv ?_
        refine E_if_ne_b (tgt := 101) dL_joined_96 (by decide) (fun c_96 => ?_) (fun c_96 => ?_)
        · refine md3_L_joined h bd (by omega) (by omega) hn1 (fun k z1 z2 => aft_sk hn0 z1 z2) (fun k z1 z2 => aft_sk hi z1 z2) hd (fun M h => ?_)
          have e1 : lgL c f (12 * f + l) L i cc d0 = _ := cI_f hc
          have e2 : lgW c f (12 * f + l) L w i cc = _ := cI_f hc
          rw [e1, e2] at K
          exact K ⟨hn0, c_36, Or.inr ⟨hn1, c_96⟩⟩ M h
        · refine E_iconst (v := nI 0) dL_joined_99 (by decide) ?_
          refine E_iret dL_joined_100 (Or.inr ⟨rfl, by decide⟩) ?_
          exact K0 (fun q => by
            obtain ⟨q1, q2, q3⟩ := q
            first
              | exact hn0 q1
              | exact c_36 q2
              | (rcases q3 with q3 | q3; exact hc q3; first | exact hn1 q3.1 | exact c_96 q3.2))
    · refine E_iconst (v := nI 0) dL_joined_39 (by decide) ?_
      refine E_iret dL_joined_40 (Or.inr ⟨rfl, by decide⟩) ?_
      exact K0 (fun q => by
        obtain ⟨q1, q2, q3⟩ := q
        first
          | exact hn0 q1
          | exact c_36 q2
          | (rcases q3 with q3 | q3; exact hc q3; first | exact hn1 q3.1 | exact c_96 q3.2))
theorem sp_L_joined {g : gG} {M : gM} {Q : Option Value ⊕ String → gM → Prop} {c : Cf} {f : Nat} {M0 : gM} {pw : Nat} {L : List Gl} {w z : Int32} (h : lX c f M0 pw L w z M) {l : Nat} (hl : l < cN c 129 f) {i d0 : Nat} {b cc : Int32} {B : Nat} (hi : i < L.length) (bd : bdJ B i L) (hd : glZ d0) (K0 : ¬ lgF c f (12 * f + l) L i b cc → Q (.inl (some (.int (nI 0)))) M) (K : lgF c f (12 * f + l) L i b cc → ∀ M, lX c f M0 pw (lgL c f (12 * f + l) L i cc d0) (lgW c f (12 * f + l) L w i cc) z M → Q (.inl (some (.int (nI 1)))) M) : E g 5 0 0 mL_joined 0 [.ref (pw + 1), .ref 130, .ref 132, .ref 133, .int (nI (8 * f + l)), .int (nI i), .int b, .int cc, .int (nI d0), .null, .null, .null, .null, .null, .null, .null, .null] [] M Q := by
  by_cases hc : cc = -100
  · subst hc; exact sp_L_joined2 h hl hi bd hd K0 K
  · exact sp_L_joined3 h hl hc hi bd hd K0 K
/-- the law's SEVERAL as the pure one -/
theorem gat_opz {L : List Gl} {a m j : Nat} (h : j < L.length + m) : gat (openL L a m) j = gat L (if j ≤ a then j else if j ≤ a + m then a else j - m) := gat_mkL h
theorem gat_numz {L : List Gl} {i v j : Nat} (h : j < L.length) : gat (numL L i v) j = if j = i then sN (gat L i) v else gat L j := gat_put h
theorem sv_1 {L : List Gl} {i b cc : Nat} (hi : i < L.length) : insL (putL L i (sN (gat L i) b)) (i + 1) (sN (gat L i) cc) = putsL L i 1 b cc cc := row_ext (by rw [ins_len, put_len, puts_len]) (fun j hj => by
  rw [ins_len, put_len] at hj
  have l0 := op_len L i 1
  have l1 := num_len (openL L i 1) i b
  have l2 := num_len (numL (openL L i 1) i b) (i + 1) cc
  unfold putsL
  rw [gat_ins (by rw [put_len]; exact hj), gat_numz (by omega), gat_numz (by omega), gat_numz (by omega), gat_numz (by omega), gat_numz (by omega), gat_numz (by omega), gat_opz (by omega), gat_opz (by omega), gat_opz (by omega), if_pos (show i ≤ i by omega), if_neg (show ¬ i + 1 ≤ i by omega), if_pos (show i + 1 ≤ i + 1 by omega)]
  by_cases e1 : j < i + 1
  · rw [if_pos e1, gat_put (by omega), if_neg (show ¬ j = i + 1 by omega), if_neg (show ¬ j = i + 1 by omega), if_pos (show j ≤ i by omega)]
  · rw [if_neg e1]
    by_cases e2 : j = i + 1
    · rw [if_pos e2, if_pos e2, if_pos rfl, if_neg (show ¬ i + 1 = i by omega)]; rfl
    · rw [if_neg e2, if_neg e2, if_neg e2, if_neg (show ¬ j = i by omega), if_neg (show ¬ j ≤ i by omega), if_neg (show ¬ j ≤ i + 1 by omega), gat_put (by omega), if_neg (by omega)])
theorem sv_2 {L : List Gl} {i b cc d : Nat} (hi : i < L.length) : insL (insL (putL L i (sN (gat L i) b)) (i + 1) (sN (gat L i) cc)) (i + 2) (sN (gat L i) d) = putsL L i 2 b cc d := row_ext (by rw [ins_len, ins_len, put_len, puts_len]) (fun j hj => by
  rw [ins_len, ins_len, put_len] at hj
  have l0 := op_len L i 2
  have l1 := num_len (openL L i 2) i b
  have l2 := num_len (numL (openL L i 2) i b) (i + 1) cc
  unfold putsL
  rw [gat_ins (by rw [ins_len, put_len]; exact hj)]
  repeat rw [gat_numz (by omega)]
  repeat rw [gat_opz (by omega)]
  rw [if_pos (show i ≤ i by omega), if_neg (show ¬ i + 1 ≤ i by omega), if_neg (show ¬ i + 2 ≤ i by omega), if_pos (show i + 1 ≤ i + 2 by omega), if_pos (show i + 2 ≤ i + 2 by omega)]
  by_cases e1 : j < i + 2
  · rw [if_pos e1, gat_ins (by rw [put_len]; omega), if_neg (show ¬ j = i + 2 by omega)]
    by_cases e2 : j < i + 1
    · rw [if_pos e2, gat_put (by omega), if_neg (show ¬ j = i + 1 by omega), if_pos (show j ≤ i by omega)]
    · rw [if_neg e2, if_pos (show j = i + 1 by omega), if_pos (show j = i + 1 by omega), if_neg (show ¬ i + 1 = i by omega)]
  · rw [if_neg e1]
    by_cases e2 : j = i + 2
    · rw [if_pos e2, if_pos e2, if_neg (show ¬ i + 2 = i + 1 by omega), if_neg (show ¬ i + 2 = i by omega)]
    · rw [if_neg e2, if_neg e2, if_neg (show ¬ j = i + 1 by omega), if_neg (show ¬ j = i by omega), if_neg (show ¬ j ≤ i by omega), if_neg (show ¬ j ≤ i + 2 by omega), gat_ins (by rw [put_len]; omega), if_neg (by omega), if_neg (by omega), gat_put (by omega), if_neg (by omega)]
      rfl)
theorem wPt_1 {w : Int32} {i : Nat} (hw : (∃ t, t < 2 ^ 20 ∧ w = dI t)) (hi : i < 2 ^ 20) : cI (wPt w (i + 1) = nI i) (nI (i + 1)) (wPt w (i + 1)) = wPu w i 1 := by
  obtain ⟨t, ht, rfl⟩ := hw
  unfold wPt wPu
  by_cases e1 : dI t < nI (i + 1)
  · rw [cI_t e1]
    rw [dI_lt (by omega) (by omega)] at e1
    by_cases e2 : dI t = nI i
    · rw [cI_t e2, cI_f (by rw [e2]; exact fun q => by rw [nI_ltI (by omega) (by omega)] at q; omega), e2, nI_add]
    · rw [cI_f e2]
      rw [dI_eqn (by omega) (by omega)] at e2
      rw [cI_t ((dI_lt (by omega) (by omega)).mpr (by omega))]; exact (Int32.add_zero _).symm
  · rw [cI_f e1]
    rw [dI_lt (by omega) (by omega)] at e1
    obtain ⟨s, rfl⟩ : ∃ s, t = s + 1 := ⟨t - 1, by omega⟩
    rw [dI_succ, nI_add, cI_f (by rw [nI_eq (by omega) (by omega)]; omega), cI_f (by rw [nI_ltI (by omega) (by omega)]; omega), nI_add]
theorem wPt_2 {w : Int32} {i : Nat} (hw : (∃ t, t < 2 ^ 20 ∧ w = dI t)) (hi : i < 2 ^ 20) : cI (wPt (wPt w (i + 1)) (i + 2) = nI i) (nI (i + 2)) (wPt (wPt w (i + 1)) (i + 2)) = wPu w i 2 := by
  obtain ⟨t, ht, rfl⟩ := hw
  unfold wPu
  by_cases e1 : dI t < nI (i + 1)
  · have q1 : wPt (dI t) (i + 1) = dI t := cI_t e1
    rw [dI_lt (by omega) (by omega)] at e1
    have q2 : wPt (dI t) (i + 2) = dI t := cI_t ((dI_lt (by omega) (by omega)).mpr (by omega))
    rw [q1, q2]
    by_cases e2 : dI t = nI i
    · rw [cI_t e2, cI_f (by rw [e2]; exact fun q => by rw [nI_ltI (by omega) (by omega)] at q; omega), e2, nI_add]
    · rw [cI_f e2]
      rw [dI_eqn (by omega) (by omega)] at e2
      rw [cI_t ((dI_lt (by omega) (by omega)).mpr (by omega))]; exact (Int32.add_zero _).symm
  · have q1 : wPt (dI t) (i + 1) = dI t + nI 1 := cI_f e1
    rw [dI_lt (by omega) (by omega)] at e1
    obtain ⟨s, rfl⟩ : ∃ s, t = s + 1 := ⟨t - 1, by omega⟩
    rw [dI_succ, nI_add] at q1
    rw [dI_succ, q1]
    have q2 : wPt (nI (s + 1)) (i + 2) = nI (s + 1) + nI 1 := cI_f (by rw [nI_ltI (by omega) (by omega)]; omega)
    rw [q2, nI_add, cI_f (by rw [nI_eq (by omega) (by omega)]; omega), cI_f (by rw [nI_ltI (by omega) (by omega)]; omega), nI_add]
theorem gZ_n {v : Int32} (h : gZ v) : v = nI (gN v) ∧ glZ (gN v) := by
  obtain ⟨j, h1, h2⟩ := h
  have := glZ_256 h1
  rw [h2, gN_nI (by omega)]
  exact ⟨rfl, h1⟩
set_option maxRecDepth 100000 in
set_option maxHeartbeats 4000000 in
theorem lp_L_rules0 {g : gG} {Q : Option Value ⊕ String → gM → Prop} {c : Cf} {f : Nat} {M0 : gM} {pw : Nat} {L : List Gl} {w z : Int32} {l : Nat} (hl : l < cN c 129 f) {i : Nat} (hi : i < L.length) (hkd : cN c 130 (12 * f + l) = 0) (K0 : ∀ M z', lX c f M0 pw L w z' M → (z' = nI 1 ∨ (z' = z ∧ ¬ ffA c f L (12 * f + l) i < cN c 135 (12 * f + l))) → Q (.inl (some (.int (-1)))) M) (K1 : ∀ k M z', k < cN c 135 (12 * f + l) → fit c f L (12 * f + l) k i → lX c f M0 pw (chgL c f L (12 * f + l) k i) (chgW c f L w (12 * f + l) k i) z' M → (z' = nI 1 ∨ (z' = z ∧ k = ffA c f L (12 * f + l) i)) → Q (.inl (some (.int (nI (chgI c (12 * f + l) k i))))) M) : ∀ k, k ≤ cN c 135 (12 * f + l) → ∀ M z', lX c f M0 pw L w z' M → (z' = nI 1 ∨ (z' = z ∧ fnd (fun k => fit c f L (12 * f + l) k i) (cN c 135 (12 * f + l)) k = ffA c f L (12 * f + l) i)) → ∀ v9 v10 v11 v12 v13 v14 v15, E g 6 0 0 mL_rules 12 [.ref (pw + 1), .ref 130, .ref 131, .ref 132, .ref 133, .int (nI (8 * f + l)), .int (nI i), .int (nI 0), .int (nI k), v9, v10, v11, v12, v13, v14, v15] [] M Q := by
  refine lpUp (cN c 135 (12 * f + l)) (fun k hk ih => ?_)
  intro M z' h hz v9 v10 v11 v12 v13 v14 v15
  have hL := h.lay
  have hf := h.f2
  have hn := h.len
  have hct := h.ct
  have hr4 := h.S.r4 (12 * f + l)
  have hi2 := h.ok hi
  refine E_iload dL_rules_12 rfl ?_
  refine E_aload_n dL_rules_14 rfl ?_
  refine E_iload dL_rules_15 rfl ?_
  refine E_ialdL (v := nI (mEn _ _)) dL_rules_17 (l_129 hL) (k_129 hL) rfl (by omega) (by decide) (h.me hl) ?_
  refine E_bipush (v := nI 13) dL_rules_18 (by decide) ?_
  refine E_ishr dL_rules_20 ?_
  rw [mE_13 h.wf]
  refine E_icmp_ge_n (tgt := 373) dL_rules_21 (by decide) (by omega) (by omega) (fun c_21 => ?_) (fun c_21 => ?_)
  · refine E_iconst (v := -1) dL_rules_373 (by decide) ?_
    refine E_iret dL_rules_374 (Or.inl rfl) ?_
    exact K0 M z' h (hz.imp id (fun q => ⟨q.1, by rw [← q.2, fnd_end (by omega)]; omega⟩))
  · refine E_aload_n dL_rules_24 rfl ?_
    refine E_aload dL_rules_25 rfl ?_
    refine E_bipush (v := nI 6) dL_rules_27 (by decide) ?_
    refine E_ialdL (v := nI _) dL_rules_29 (l_132 hL) (k_132 hL) rfl (by omega) (by decide) h.a6 ?_
    refine E_aload_n dL_rules_30 rfl ?_
    refine E_iload dL_rules_31 rfl ?_
    refine E_iload dL_rules_33 rfl ?_
    refine E_iconst (v := nI 0) dL_rules_35 (by decide) ?_
    refine E_callT4 (fr' := 1) (k1 := 0) (n1 := 0) (k2 := 0) (n2 := 0) dL_rules_36 kO_L_number kL_L_124 (by exact Nat.le_of_ble_eq_true rfl) (by decide) (by exact Nat.le_of_ble_eq_true rfl) (Or.inl rfl) rfl ?_
    refine sp_L_number (by first | exact h | exact h.S) hf hl (by omega) (by decide) ?_
    refine gKv ?_
    refine E_aload_n dL_rules_39 rfl ?_
    refine E_iload dL_rules_40 rfl ?_
    refine E_laldL (v := pk _) dL_rules_42 h.plt h.pkd rfl (by omega) (by decide) (h.wk (by omega)) ?_
    refine E_callT1 (fr' := 1) (k1 := 0) (n1 := 0) (k2 := 0) (n2 := 0) dL_rules_43 kO_L_glyphOf kL_L_108 (by exact Nat.le_of_ble_eq_true rfl) (by decide) (by exact Nat.le_of_ble_eq_true rfl) (Or.inl rfl) rfl ?_
    refine sp_L_glyphOf (h.ok (by omega)) ?_
    refine gKv ?_
    refine E_callT4 (fr' := 2) (k1 := 0) (n1 := 0) (k2 := 0) (n2 := 0) dL_rules_46 kO_L_is kL_L_128 (by exact Nat.le_of_ble_eq_true rfl) (by decide) (by exact Nat.le_of_ble_eq_true rfl) (Or.inl rfl) rfl ?_
    refine sp_L_is (by first | exact h | exact h.S) hf (by first | assumption | exact h.gl (by omega)) ?_
    refine gKv ?_
    refine E_if_ne_b (tgt := 55) dL_rules_49 (by decide) (fun c_49 => ?_) (fun c_49 => ?_)
    · have hrg := (h.S.wz.2.2.2.2.1 _ k (by omega)).2
      rw [hkd] at hrg
      obtain ⟨g1, g2⟩ := gZ_n (hrg.1 rfl)
      have g3 := glZ_256 g2
      refine E_aload_n dL_rules_55 rfl ?_
      refine E_iload dL_rules_56 rfl ?_
      refine E_iload dL_rules_58 rfl ?_
      refine E_iconst (v := nI 1) dL_rules_60 (by decide) ?_
      refine E_callT4 (fr' := 1) (k1 := 0) (n1 := 0) (k2 := 0) (n2 := 0) dL_rules_61 kO_L_number kL_L_124 (by exact Nat.le_of_ble_eq_true rfl) (by decide) (by exact Nat.le_of_ble_eq_true rfl) (Or.inl rfl) rfl ?_
      refine sp_L_number (by first | exact h | exact h.S) hf hl (by omega) (by decide) ?_
      refine gKv ?_
      refine E_istore dL_rules_64 (Nat.le_of_ble_eq_true rfl) (by decide) rfl ?_
      refine E_aload_n dL_rules_66 rfl ?_
      refine E_iload dL_rules_67 rfl ?_
      refine E_iload dL_rules_69 rfl ?_
      refine E_iconst (v := nI 2) dL_rules_71 (by decide) ?_
      refine E_callT4 (fr' := 1) (k1 := 0) (n1 := 0) (k2 := 0) (n2 := 0) dL_rules_72 kO_L_number kL_L_124 (by exact Nat.le_of_ble_eq_true rfl) (by decide) (by exact Nat.le_of_ble_eq_true rfl) (Or.inl rfl) rfl ?_
      refine sp_L_number (by first | exact h | exact h.S) hf hl (by omega) (by decide) ?_
      refine gKv ?_
      refine E_istore dL_rules_75 (Nat.le_of_ble_eq_true rfl) (by decide) rfl ?_
      refine E_aload_n dL_rules_77 rfl ?_
      refine E_iload dL_rules_78 rfl ?_
      refine E_iload dL_rules_80 rfl ?_
      refine E_iconst (v := nI 3) dL_rules_82 (by decide) ?_
      refine E_callT4 (fr' := 1) (k1 := 0) (n1 := 0) (k2 := 0) (n2 := 0) dL_rules_83 kO_L_number kL_L_124 (by exact Nat.le_of_ble_eq_true rfl) (by decide) (by exact Nat.le_of_ble_eq_true rfl) (Or.inl rfl) rfl ?_
      refine sp_L_number (by first | exact h | exact h.S) hf hl (by omega) (by decide) ?_
      refine gKv ?_
      refine E_istore dL_rules_86 (Nat.le_of_ble_eq_true rfl) (by decide) rfl ?_
      refine E_iload dL_rules_88 rfl ?_
      refine E_if_ne (tgt := 115) dL_rules_90 (by decide) (fun c0 => absurd c0 (by decide)) (fun _ => ?_)
      refine E_aload_n dL_rules_93 rfl ?_
      refine E_iload dL_rules_94 rfl ?_
      refine E_aload_n dL_rules_96 rfl ?_
      refine E_iload dL_rules_97 rfl ?_
      refine E_laldL (v := pk (gat L i)) dL_rules_99 h.plt h.pkd rfl (by omega) (by decide) (h.wk hi) ?_
      refine E_iconst (v := nI 0) dL_rules_100 (by decide) ?_
      refine E_sipush (v := nI 255) dL_rules_101 (by decide) ?_
      refine E_iload dL_rules_104 rfl ?_
      refine E_callT4 (fr' := 1) (k1 := 0) (n1 := 0) (k2 := 0) (n2 := 0) dL_rules_106 kO_L_with kL_L_132 (by exact Nat.le_of_ble_eq_true rfl) (by decide) (by exact Nat.le_of_ble_eq_true rfl) (Or.inl rfl) rfl ?_
      rw [g1]
      refine sp_L_with_N hi2 g3 ?_
      refine gKv ?_
      have hfit : fit c f L (12 * f + l) k i := ⟨c_49, Or.inl hkd⟩
      refine E_putK dL_rules_109 h rfl hi rfl (okZ_sN hi2 g2) (fun M h => ?_)
      have e1 : chgL c f L (12 * f + l) k i = numL L i (gN (rul c (12 * f + l) k 1)) := cI_t hkd
      have e2 : chgW c f L w (12 * f + l) k i = w := cI_t hkd
      have e3 : chgI c (12 * f + l) k i = i + 1 := cI_f (by omega)
      refine E_iload dL_rules_110 rfl ?_
      refine E_iconst (v := nI 1) dL_rules_112 (by decide) ?_
      refine E_iadd_n dL_rules_113 ?_
      refine E_iret dL_rules_114 (Or.inl rfl) ?_
      rw [← e3]
      exact K1 k M z' (by omega) hfit (by rw [e1, e2]; exact h) (hz.imp id (fun q => ⟨q.1, by rw [← q.2]; exact (fnd_hit (P := fun k => fit c f L (12 * f + l) k i) (by omega) hfit).symm⟩))
    · refine E_goto (tgt := 367) dL_rules_52 (by decide) ?_
      refine E_iinc_n (d := 1) dL_rules_367 rfl rfl rfl (by decide) rfl ?_
      refine E_goto (tgt := 12) dL_rules_370 (by decide) ?_
      exact ih (by omega) M z' h (hz.imp id (fun q => ⟨q.1, by rw [← q.2]; exact (fnd_skip (by omega) (fun z => c_49 z.1)).symm⟩)) _ _ _ _ _ _ _
set_option maxRecDepth 100000 in
set_option maxHeartbeats 4000000 in
theorem sp_L_rules0 {g : gG} {M : gM} {Q : Option Value ⊕ String → gM → Prop} {c : Cf} {f : Nat} {M0 : gM} {pw : Nat} {L : List Gl} {w z : Int32} (h : lX c f M0 pw L w z M) {l : Nat} (hl : l < cN c 129 f) {i : Nat} (hi : i < L.length) (hkd : cN c 130 (12 * f + l) = 0) (K0 : ∀ M z', lX c f M0 pw L w z' M → (z' = nI 1 ∨ (z' = z ∧ ¬ ffA c f L (12 * f + l) i < cN c 135 (12 * f + l))) → Q (.inl (some (.int (-1)))) M) (K1 : ∀ k M z', k < cN c 135 (12 * f + l) → fit c f L (12 * f + l) k i → lX c f M0 pw (chgL c f L (12 * f + l) k i) (chgW c f L w (12 * f + l) k i) z' M → (z' = nI 1 ∨ (z' = z ∧ k = ffA c f L (12 * f + l) i)) → Q (.inl (some (.int (nI (chgI c (12 * f + l) k i))))) M) : E g 6 0 0 mL_rules 0 [.ref (pw + 1), .ref 130, .ref 131, .ref 132, .ref 133, .int (nI (8 * f + l)), .int (nI i), .null, .null, .null, .null, .null, .null, .null, .null, .null] [] M Q := by
  have hL := h.lay
  have hf := h.f2
  have hn := h.len
  have hct := h.ct
  refine E_aload_n dL_rules_0 rfl ?_
  refine E_iload dL_rules_1 rfl ?_
  refine E_ialdL (v := nI (mEn _ _)) dL_rules_3 (l_129 hL) (k_129 hL) rfl (by omega) (by decide) (h.me hl) ?_
  refine E_bipush (v := nI 15) dL_rules_4 (by decide) ?_
  refine E_iand dL_rules_6 ?_
  rw [mE_0_15 h.wf, hkd]
  refine E_istore dL_rules_7 (Nat.le_of_ble_eq_true rfl) (by decide) rfl ?_
  refine E_iconst (v := nI 0) dL_rules_9 (by decide) ?_
  refine E_istore dL_rules_10 (Nat.le_of_ble_eq_true rfl) (by decide) rfl ?_
  exact lp_L_rules0 hl hi hkd K0 K1 0 (Nat.zero_le _) M z h (Or.inr ⟨rfl, rfl⟩) _ _ _ _ _ _ _
set_option maxRecDepth 100000 in
set_option maxHeartbeats 4000000 in
theorem lp_L_rules1 {g : gG} {Q : Option Value ⊕ String → gM → Prop} {c : Cf} {f : Nat} {M0 : gM} {pw : Nat} {L : List Gl} {w z : Int32} {l : Nat} (hl : l < cN c 129 f) {i : Nat} (hi : i < L.length) (hkd : cN c 130 (12 * f + l) = 1) (hw : ∃ t, t < 2 ^ 20 ∧ w = dI t) (K0 : ∀ M z', lX c f M0 pw L w z' M → (z' = nI 1 ∨ (z' = z ∧ ¬ ffA c f L (12 * f + l) i < cN c 135 (12 * f + l))) → Q (.inl (some (.int (-1)))) M) (K1 : ∀ k M z', k < cN c 135 (12 * f + l) → fit c f L (12 * f + l) k i → lX c f M0 pw (chgL c f L (12 * f + l) k i) (chgW c f L w (12 * f + l) k i) z' M → (z' = nI 1 ∨ (z' = z ∧ k = ffA c f L (12 * f + l) i)) → Q (.inl (some (.int (nI (chgI c (12 * f + l) k i))))) M) : ∀ k, k ≤ cN c 135 (12 * f + l) → ∀ M z', lX c f M0 pw L w z' M → (z' = nI 1 ∨ (z' = z ∧ fnd (fun k => fit c f L (12 * f + l) k i) (cN c 135 (12 * f + l)) k = ffA c f L (12 * f + l) i)) → ∀ v9 v10 v11 v12 v13 v14 v15, E g 6 0 0 mL_rules 12 [.ref (pw + 1), .ref 130, .ref 131, .ref 132, .ref 133, .int (nI (8 * f + l)), .int (nI i), .int (nI 1), .int (nI k), v9, v10, v11, v12, v13, v14, v15] [] M Q := by
  refine lpUp (cN c 135 (12 * f + l)) (fun k hk ih => ?_)
  intro M z' h hz v9 v10 v11 v12 v13 v14 v15
  have hL := h.lay
  have hf := h.f2
  have hn := h.len
  have hct := h.ct
  have hr4 := h.S.r4 (12 * f + l)
  have hi2 := h.ok hi
  refine E_iload dL_rules_12 rfl ?_
  refine E_aload_n dL_rules_14 rfl ?_
  refine E_iload dL_rules_15 rfl ?_
  refine E_ialdL (v := nI (mEn _ _)) dL_rules_17 (l_129 hL) (k_129 hL) rfl (by omega) (by decide) (h.me hl) ?_
  refine E_bipush (v := nI 13) dL_rules_18 (by decide) ?_
  refine E_ishr dL_rules_20 ?_
  rw [mE_13 h.wf]
  refine E_icmp_ge_n (tgt := 373) dL_rules_21 (by decide) (by omega) (by omega) (fun c_21 => ?_) (fun c_21 => ?_)
  · refine E_iconst (v := -1) dL_rules_373 (by decide) ?_
    refine E_iret dL_rules_374 (Or.inl rfl) ?_
    exact K0 M z' h (hz.imp id (fun q => ⟨q.1, by rw [← q.2, fnd_end (by omega)]; omega⟩))
  · refine E_aload_n dL_rules_24 rfl ?_
    refine E_aload dL_rules_25 rfl ?_
    refine E_bipush (v := nI 6) dL_rules_27 (by decide) ?_
    refine E_ialdL (v := nI _) dL_rules_29 (l_132 hL) (k_132 hL) rfl (by omega) (by decide) h.a6 ?_
    refine E_aload_n dL_rules_30 rfl ?_
    refine E_iload dL_rules_31 rfl ?_
    refine E_iload dL_rules_33 rfl ?_
    refine E_iconst (v := nI 0) dL_rules_35 (by decide) ?_
    refine E_callT4 (fr' := 1) (k1 := 0) (n1 := 0) (k2 := 0) (n2 := 0) dL_rules_36 kO_L_number kL_L_124 (by exact Nat.le_of_ble_eq_true rfl) (by decide) (by exact Nat.le_of_ble_eq_true rfl) (Or.inl rfl) rfl ?_
    refine sp_L_number (by first | exact h | exact h.S) hf hl (by omega) (by decide) ?_
    refine gKv ?_
    refine E_aload_n dL_rules_39 rfl ?_
    refine E_iload dL_rules_40 rfl ?_
    refine E_laldL (v := pk _) dL_rules_42 h.plt h.pkd rfl (by omega) (by decide) (h.wk (by omega)) ?_
    refine E_callT1 (fr' := 1) (k1 := 0) (n1 := 0) (k2 := 0) (n2 := 0) dL_rules_43 kO_L_glyphOf kL_L_108 (by exact Nat.le_of_ble_eq_true rfl) (by decide) (by exact Nat.le_of_ble_eq_true rfl) (Or.inl rfl) rfl ?_
    refine sp_L_glyphOf (h.ok (by omega)) ?_
    refine gKv ?_
    refine E_callT4 (fr' := 2) (k1 := 0) (n1 := 0) (k2 := 0) (n2 := 0) dL_rules_46 kO_L_is kL_L_128 (by exact Nat.le_of_ble_eq_true rfl) (by decide) (by exact Nat.le_of_ble_eq_true rfl) (Or.inl rfl) rfl ?_
    refine sp_L_is (by first | exact h | exact h.S) hf (by first | assumption | exact h.gl (by omega)) ?_
    refine gKv ?_
    refine E_if_ne_b (tgt := 55) dL_rules_49 (by decide) (fun c_49 => ?_) (fun c_49 => ?_)
    · have hrg := (h.S.wz.2.2.2.2.1 _ k (by omega)).2
      rw [hkd] at hrg
      obtain ⟨r1, r2, r3⟩ := hrg.2.1 rfl
      obtain ⟨g1, g2⟩ := gZ_n r1
      obtain ⟨u1, u2⟩ := gZ_n r2
      have g3 := glZ_256 g2
      have u3 := glZ_256 u2
      refine E_aload_n dL_rules_55 rfl ?_
      refine E_iload dL_rules_56 rfl ?_
      refine E_iload dL_rules_58 rfl ?_
      refine E_iconst (v := nI 1) dL_rules_60 (by decide) ?_
      refine E_callT4 (fr' := 1) (k1 := 0) (n1 := 0) (k2 := 0) (n2 := 0) dL_rules_61 kO_L_number kL_L_124 (by exact Nat.le_of_ble_eq_true rfl) (by decide) (by exact Nat.le_of_ble_eq_true rfl) (Or.inl rfl) rfl ?_
      refine sp_L_number (by first | exact h | exact h.S) hf hl (by omega) (by decide) ?_
      refine gKv ?_
      refine E_istore dL_rules_64 (Nat.le_of_ble_eq_true rfl) (by decide) rfl ?_
      refine E_aload_n dL_rules_66 rfl ?_
      refine E_iload dL_rules_67 rfl ?_
      refine E_iload dL_rules_69 rfl ?_
      refine E_iconst (v := nI 2) dL_rules_71 (by decide) ?_
      refine E_callT4 (fr' := 1) (k1 := 0) (n1 := 0) (k2 := 0) (n2 := 0) dL_rules_72 kO_L_number kL_L_124 (by exact Nat.le_of_ble_eq_true rfl) (by decide) (by exact Nat.le_of_ble_eq_true rfl) (Or.inl rfl) rfl ?_
      refine sp_L_number (by first | exact h | exact h.S) hf hl (by omega) (by decide) ?_
      refine gKv ?_
      refine E_istore dL_rules_75 (Nat.le_of_ble_eq_true rfl) (by decide) rfl ?_
      refine E_aload_n dL_rules_77 rfl ?_
      refine E_iload dL_rules_78 rfl ?_
      refine E_iload dL_rules_80 rfl ?_
      refine E_iconst (v := nI 3) dL_rules_82 (by decide) ?_
      refine E_callT4 (fr' := 1) (k1 := 0) (n1 := 0) (k2 := 0) (n2 := 0) dL_rules_83 kO_L_number kL_L_124 (by exact Nat.le_of_ble_eq_true rfl) (by decide) (by exact Nat.le_of_ble_eq_true rfl) (Or.inl rfl) rfl ?_
      refine sp_L_number (by first | exact h | exact h.S) hf hl (by omega) (by decide) ?_
      refine gKv ?_
      refine E_istore dL_rules_86 (Nat.le_of_ble_eq_true rfl) (by decide) rfl ?_
      refine E_iload dL_rules_88 rfl ?_
      refine E_if_ne (tgt := 115) dL_rules_90 (by decide) (fun _ => ?_) (fun c0 => absurd (by decide) c0)
      refine E_aload_n dL_rules_115 rfl ?_
      refine E_iload dL_rules_116 rfl ?_
      refine E_laldL (v := pk _) dL_rules_118 h.plt h.pkd rfl (by omega) (by decide) (h.wk (by omega)) ?_
      refine E_bipush (v := nI 15) dL_rules_119 (by decide) ?_
      refine E_iconst (v := nI 3) dL_rules_121 (by decide) ?_
      refine E_callT3 (fr' := 1) (k1 := 0) (n1 := 0) (k2 := 0) (n2 := 0) dL_rules_122 kO_L_part kL_L_116 (by exact Nat.le_of_ble_eq_true rfl) (by decide) (by exact Nat.le_of_ble_eq_true rfl) (Or.inl rfl) rfl ?_
      refine sp_L_part_E (h.ok (by omega)) ?_
      refine gKv ?_
      refine E_istore dL_rules_125 (Nat.le_of_ble_eq_true rfl) (by decide) rfl ?_
      refine E_iload dL_rules_127 rfl ?_
      refine E_iconst (v := nI 2) dL_rules_129 (by decide) ?_
      refine E_icmp_ne (tgt := 182) dL_rules_130 (by decide) (fun _ => ?_) (fun c0 => absurd (by decide) c0)
      refine E_iload dL_rules_182 rfl ?_
      refine E_bipush (v := -100) dL_rules_184 (by decide) ?_
      refine E_icmp_ne_r (tgt := 193) dL_rules_186 (by decide) (fun c_186 => ?_) (fun c_186 => ?_)
      · have hmr : mrN (rul c (12 * f + l) k 3) = 2 := (cI_f c_186)
        have r4 := r3.resolve_left c_186
        obtain ⟨v1, v2⟩ := gZ_n r4
        have v3 := glZ_256 v2
        refine E_iconst (v := nI 2) dL_rules_193 (by decide) ?_
        refine E_istore dL_rules_194 (Nat.le_of_ble_eq_true rfl) (by decide) rfl ?_
        refine E_iload dL_rules_196 rfl ?_
        refine E_iconst (v := nI 1) dL_rules_198 (by decide) ?_
        refine E_icmp_ne_r (tgt := 311) dL_rules_199 (by decide) (fun c0 => absurd c0 (by decide)) (fun _ => ?_)
        refine E_aload dL_rules_202 rfl ?_
        refine E_iconst (v := nI 5) dL_rules_204 (by decide) ?_
        refine E_ialdL (v := nI (List.length _)) dL_rules_205 (l_132 hL) (k_132 hL) rfl (by omega) (by decide) h.a5 ?_
        refine E_iload dL_rules_206 rfl ?_
        refine E_iadd_n dL_rules_208 ?_
        refine E_bipush (v := nI 64) dL_rules_209 (by decide) ?_
        refine E_icmp_ge_n (tgt := 311) dL_rules_211 (by decide) (by omega) (by omega) (fun c_211 => ?_) (fun c_211 => ?_)
        · refine E_iload dL_rules_311 rfl ?_
          refine E_iconst (v := nI 1) dL_rules_313 (by decide) ?_
          refine E_icmp_ne_r (tgt := 335) dL_rules_314 (by decide) (fun c0 => absurd c0 (by decide)) (fun _ => ?_)
          refine E_aload dL_rules_317 rfl ?_
          refine E_iconst (v := nI 5) dL_rules_319 (by decide) ?_
          refine E_ialdL (v := nI (List.length _)) dL_rules_320 (l_132 hL) (k_132 hL) rfl (by omega) (by decide) h.a5 ?_
          refine E_iload dL_rules_321 rfl ?_
          refine E_iadd_n dL_rules_323 ?_
          refine E_bipush (v := nI 64) dL_rules_324 (by decide) ?_
          refine E_icmp_lt_n (tgt := 335) dL_rules_326 (by decide) (by omega) (by omega) (fun c_326 => ?_) (fun c_326 => ?_)
          · refine E_iload dL_rules_335 rfl ?_
            refine E_iconst (v := nI 3) dL_rules_337 (by decide) ?_
            refine E_icmp_ne (tgt := 367) dL_rules_338 (by decide) (fun _ => ?_) (fun c0 => absurd (by decide) c0)
            refine E_iinc_n (d := 1) dL_rules_367 rfl rfl rfl (by decide) rfl ?_
            refine E_goto (tgt := 12) dL_rules_370 (by decide) ?_
            exfalso; omega
          · refine E_aload dL_rules_329 rfl ?_
            refine E_bipush (v := nI 10) dL_rules_331 (by decide) ?_
            refine E_iconst (v := nI 1) dL_rules_333 (by decide) ?_
            refine E_setZ dL_rules_334 h (fun M h => ?_)
            have hL := h.lay
            refine E_iload dL_rules_335 rfl ?_
            refine E_iconst (v := nI 3) dL_rules_337 (by decide) ?_
            refine E_icmp_ne (tgt := 367) dL_rules_338 (by decide) (fun _ => ?_) (fun c0 => absurd (by decide) c0)
            refine E_iinc_n (d := 1) dL_rules_367 rfl rfl rfl (by decide) rfl ?_
            refine E_goto (tgt := 12) dL_rules_370 (by decide) ?_
            exact ih (by omega) M _ h (Or.inl rfl) _ _ _ _ _ _ _
        · refine E_aload_n dL_rules_214 rfl ?_
          refine E_iload dL_rules_215 rfl ?_
          refine E_laldL (v := pk (gat L i)) dL_rules_217 h.plt h.pkd rfl (by omega) (by decide) (h.wk hi) ?_
          refine E_lstore dL_rules_218 (Nat.le_of_ble_eq_true rfl) (by decide) rfl ?_
          refine E_aload_n dL_rules_220 rfl ?_
          refine E_iload dL_rules_221 rfl ?_
          refine E_lload dL_rules_223 rfl ?_
          refine E_iconst (v := nI 0) dL_rules_225 (by decide) ?_
          refine E_sipush (v := nI 255) dL_rules_226 (by decide) ?_
          refine E_iload dL_rules_229 rfl ?_
          refine E_callT4 (fr' := 1) (k1 := 0) (n1 := 0) (k2 := 0) (n2 := 0) dL_rules_231 kO_L_with kL_L_132 (by exact Nat.le_of_ble_eq_true rfl) (by decide) (by exact Nat.le_of_ble_eq_true rfl) (Or.inl rfl) rfl ?_
          rw [g1]
          refine sp_L_with_N hi2 g3 ?_
          refine gKv ?_
          refine E_putK dL_rules_234 h rfl hi rfl (okZ_sN hi2 g2) (fun M h => ?_)
          have hL := h.lay
          have hln := h.len
          have hl1 : (putL L i (sN (gat L i) (gN (rul c (12 * f + l) k 1)))).length = L.length := put_len _ _ _
          refine E_aload_n dL_rules_235 rfl ?_
          refine E_aload dL_rules_236 rfl ?_
          refine E_iload dL_rules_238 rfl ?_
          refine E_iconst (v := nI 1) dL_rules_240 (by decide) ?_
          refine E_iadd_n dL_rules_241 ?_
          refine E_lload dL_rules_242 rfl ?_
          refine E_iconst (v := nI 0) dL_rules_244 (by decide) ?_
          refine E_sipush (v := nI 255) dL_rules_245 (by decide) ?_
          refine E_iload dL_rules_248 rfl ?_
          refine E_callT4 (fr' := 1) (k1 := 0) (n1 := 0) (k2 := 0) (n2 := 0) dL_rules_250 kO_L_with kL_L_132 (by exact Nat.le_of_ble_eq_true rfl) (by decide) (by exact Nat.le_of_ble_eq_true rfl) (Or.inl rfl) rfl ?_
          rw [u1]
          refine sp_L_with_N hi2 u3 ?_
          refine gKv ?_
          refine E_callT4 (fr' := 1) (k1 := 0) (n1 := 0) (k2 := 0) (n2 := 0) dL_rules_253 kO_L_put kL_L_136 (by exact Nat.le_of_ble_eq_true rfl) (by decide) (by exact Nat.le_of_ble_eq_true rfl) (Or.inl rfl) rfl ?_
          refine sp_L_put h (by omega) (by omega) (okZ_sN hi2 u2) (fun M h => ?_)
          have hL := h.lay
          have hln := h.len
          have hl2 := ins_len (putL L i (sN (gat L i) (gN (rul c (12 * f + l) k 1)))) (i + 1) (sN (gat L i) (gN (rul c (12 * f + l) k 2)))
          refine gKn ?_
          refine E_iload dL_rules_256 rfl ?_
          refine E_iconst (v := nI 2) dL_rules_258 (by decide) ?_
          refine E_icmp_ne_r (tgt := 283) dL_rules_259 (by decide) (fun c0 => absurd c0 (by decide)) (fun _ => ?_)
          refine E_aload_n dL_rules_262 rfl ?_
          refine E_aload dL_rules_263 rfl ?_
          refine E_iload dL_rules_265 rfl ?_
          refine E_iconst (v := nI 2) dL_rules_267 (by decide) ?_
          refine E_iadd_n dL_rules_268 ?_
          refine E_lload dL_rules_269 rfl ?_
          refine E_iconst (v := nI 0) dL_rules_271 (by decide) ?_
          refine E_sipush (v := nI 255) dL_rules_272 (by decide) ?_
          refine E_iload dL_rules_275 rfl ?_
          refine E_callT4 (fr' := 1) (k1 := 0) (n1 := 0) (k2 := 0) (n2 := 0) dL_rules_277 kO_L_with kL_L_132 (by exact Nat.le_of_ble_eq_true rfl) (by decide) (by exact Nat.le_of_ble_eq_true rfl) (Or.inl rfl) rfl ?_
          rw [v1]
          refine sp_L_with_N hi2 v3 ?_
          refine gKv ?_
          refine E_callT4 (fr' := 1) (k1 := 0) (n1 := 0) (k2 := 0) (n2 := 0) dL_rules_280 kO_L_put kL_L_136 (by exact Nat.le_of_ble_eq_true rfl) (by decide) (by exact Nat.le_of_ble_eq_true rfl) (Or.inl rfl) rfl ?_
          refine sp_L_put h (by omega) (by omega) (okZ_sN hi2 v2) (fun M h => ?_)
          have hL := h.lay
          have hln := h.len
          refine gKn ?_
          have hfit : fit c f L (12 * f + l) k i := ⟨c_49, Or.inr (Or.inl ⟨hkd, by rw [hmr]; omega⟩)⟩
          have e1 : chgL c f L (12 * f + l) k i = putsL L i 2 (gN (rul c (12 * f + l) k 1)) (gN (rul c (12 * f + l) k 2)) (gN (rul c (12 * f + l) k 3)) := by
            have e0 : chgL c f L (12 * f + l) k i = ptL L i (rul c (12 * f + l) k 1) (rul c (12 * f + l) k 2) (rul c (12 * f + l) k 3) := (cI_f (by omega)).trans (cI_t hkd)
            rw [e0]
            unfold ptL
            rw [hmr, cI_f c_186]
          have e2 : chgW c f L w (12 * f + l) k i = wPu w i 2 := by
            have e0 : chgW c f L w (12 * f + l) k i = wPu w i (mrN (rul c (12 * f + l) k 3)) := (cI_f (by omega)).trans (cI_t hkd)
            rw [e0, hmr]
          have e3 : chgI c (12 * f + l) k i = i + 2 + 1 := by
            have e0 : chgI c (12 * f + l) k i = i + mrN (rul c (12 * f + l) k 3) + 1 := cI_t hkd
            rw [e0, hmr]
          rw [sv_2 hi] at h
          refine E_aload dL_rules_283 rfl ?_
          refine E_bipush (v := nI 7) dL_rules_285 (by decide) ?_
          refine E_ialdL (v := _) dL_rules_287 (l_132 hL) (k_132 hL) rfl (by omega) (by decide) h.a7 ?_
          refine E_iload dL_rules_288 rfl ?_
          refine E_icmp_ne_r (tgt := 303) dL_rules_290 (by decide) (fun c_290 => ?_) (fun c_290 => ?_)
          · refine E_iload dL_rules_303 rfl ?_
            refine E_iload dL_rules_305 rfl ?_
            refine E_iadd_n dL_rules_307 ?_
            refine E_iconst (v := nI 1) dL_rules_308 (by decide) ?_
            refine E_iadd_n dL_rules_309 ?_
            refine E_iret dL_rules_310 (Or.inl rfl) ?_
            rw [← e3]
            exact K1 k M z' (by omega) hfit (by rw [e1, e2, ← wPt_2 hw (by omega)]; first | (rw [cI_t c_290]; exact h) | (rw [cI_f c_290]; exact h)) (hz.imp id (fun q => ⟨q.1, by rw [← q.2]; exact (fnd_hit (P := fun k => fit c f L (12 * f + l) k i) (by omega) hfit).symm⟩))
          · refine E_aload dL_rules_293 rfl ?_
            refine E_bipush (v := nI 7) dL_rules_295 (by decide) ?_
            refine E_iload dL_rules_297 rfl ?_
            refine E_iload dL_rules_299 rfl ?_
            refine E_iadd_n dL_rules_301 ?_
            refine E_setW dL_rules_302 h (fun M h => ?_)
            have hL := h.lay
            refine E_iload dL_rules_303 rfl ?_
            refine E_iload dL_rules_305 rfl ?_
            refine E_iadd_n dL_rules_307 ?_
            refine E_iconst (v := nI 1) dL_rules_308 (by decide) ?_
            refine E_iadd_n dL_rules_309 ?_
            refine E_iret dL_rules_310 (Or.inl rfl) ?_
            rw [← e3]
            exact K1 k M z' (by omega) hfit (by rw [e1, e2, ← wPt_2 hw (by omega)]; first | (rw [cI_t c_290]; exact h) | (rw [cI_f c_290]; exact h)) (hz.imp id (fun q => ⟨q.1, by rw [← q.2]; exact (fnd_hit (P := fun k => fit c f L (12 * f + l) k i) (by omega) hfit).symm⟩))
      · have hmr : mrN (rul c (12 * f + l) k 3) = 1 := (cI_t c_186)
        refine E_iconst (v := nI 1) dL_rules_189 (by decide) ?_
        refine E_goto (tgt := 194) dL_rules_190 (by decide) ?_
        refine E_istore dL_rules_194 (Nat.le_of_ble_eq_true rfl) (by decide) rfl ?_
        refine E_iload dL_rules_196 rfl ?_
        refine E_iconst (v := nI 1) dL_rules_198 (by decide) ?_
        refine E_icmp_ne_r (tgt := 311) dL_rules_199 (by decide) (fun c0 => absurd c0 (by decide)) (fun _ => ?_)
        refine E_aload dL_rules_202 rfl ?_
        refine E_iconst (v := nI 5) dL_rules_204 (by decide) ?_
        refine E_ialdL (v := nI (List.length _)) dL_rules_205 (l_132 hL) (k_132 hL) rfl (by omega) (by decide) h.a5 ?_
        refine E_iload dL_rules_206 rfl ?_
        refine E_iadd_n dL_rules_208 ?_
        refine E_bipush (v := nI 64) dL_rules_209 (by decide) ?_
        refine E_icmp_ge_n (tgt := 311) dL_rules_211 (by decide) (by omega) (by omega) (fun c_211 => ?_) (fun c_211 => ?_)
        · refine E_iload dL_rules_311 rfl ?_
          refine E_iconst (v := nI 1) dL_rules_313 (by decide) ?_
          refine E_icmp_ne_r (tgt := 335) dL_rules_314 (by decide) (fun c0 => absurd c0 (by decide)) (fun _ => ?_)
          refine E_aload dL_rules_317 rfl ?_
          refine E_iconst (v := nI 5) dL_rules_319 (by decide) ?_
          refine E_ialdL (v := nI (List.length _)) dL_rules_320 (l_132 hL) (k_132 hL) rfl (by omega) (by decide) h.a5 ?_
          refine E_iload dL_rules_321 rfl ?_
          refine E_iadd_n dL_rules_323 ?_
          refine E_bipush (v := nI 64) dL_rules_324 (by decide) ?_
          refine E_icmp_lt_n (tgt := 335) dL_rules_326 (by decide) (by omega) (by omega) (fun c_326 => ?_) (fun c_326 => ?_)
          · refine E_iload dL_rules_335 rfl ?_
            refine E_iconst (v := nI 3) dL_rules_337 (by decide) ?_
            refine E_icmp_ne (tgt := 367) dL_rules_338 (by decide) (fun _ => ?_) (fun c0 => absurd (by decide) c0)
            refine E_iinc_n (d := 1) dL_rules_367 rfl rfl rfl (by decide) rfl ?_
            refine E_goto (tgt := 12) dL_rules_370 (by decide) ?_
            exfalso; omega
          · refine E_aload dL_rules_329 rfl ?_
            refine E_bipush (v := nI 10) dL_rules_331 (by decide) ?_
            refine E_iconst (v := nI 1) dL_rules_333 (by decide) ?_
            refine E_setZ dL_rules_334 h (fun M h => ?_)
            have hL := h.lay
            refine E_iload dL_rules_335 rfl ?_
            refine E_iconst (v := nI 3) dL_rules_337 (by decide) ?_
            refine E_icmp_ne (tgt := 367) dL_rules_338 (by decide) (fun _ => ?_) (fun c0 => absurd (by decide) c0)
            refine E_iinc_n (d := 1) dL_rules_367 rfl rfl rfl (by decide) rfl ?_
            refine E_goto (tgt := 12) dL_rules_370 (by decide) ?_
            exact ih (by omega) M _ h (Or.inl rfl) _ _ _ _ _ _ _
        · refine E_aload_n dL_rules_214 rfl ?_
          refine E_iload dL_rules_215 rfl ?_
          refine E_laldL (v := pk (gat L i)) dL_rules_217 h.plt h.pkd rfl (by omega) (by decide) (h.wk hi) ?_
          refine E_lstore dL_rules_218 (Nat.le_of_ble_eq_true rfl) (by decide) rfl ?_
          refine E_aload_n dL_rules_220 rfl ?_
          refine E_iload dL_rules_221 rfl ?_
          refine E_lload dL_rules_223 rfl ?_
          refine E_iconst (v := nI 0) dL_rules_225 (by decide) ?_
          refine E_sipush (v := nI 255) dL_rules_226 (by decide) ?_
          refine E_iload dL_rules_229 rfl ?_
          refine E_callT4 (fr' := 1) (k1 := 0) (n1 := 0) (k2 := 0) (n2 := 0) dL_rules_231 kO_L_with kL_L_132 (by exact Nat.le_of_ble_eq_true rfl) (by decide) (by exact Nat.le_of_ble_eq_true rfl) (Or.inl rfl) rfl ?_
          rw [g1]
          refine sp_L_with_N hi2 g3 ?_
          refine gKv ?_
          refine E_putK dL_rules_234 h rfl hi rfl (okZ_sN hi2 g2) (fun M h => ?_)
          have hL := h.lay
          have hln := h.len
          have hl1 : (putL L i (sN (gat L i) (gN (rul c (12 * f + l) k 1)))).length = L.length := put_len _ _ _
          refine E_aload_n dL_rules_235 rfl ?_
          refine E_aload dL_rules_236 rfl ?_
          refine E_iload dL_rules_238 rfl ?_
          refine E_iconst (v := nI 1) dL_rules_240 (by decide) ?_
          refine E_iadd_n dL_rules_241 ?_
          refine E_lload dL_rules_242 rfl ?_
          refine E_iconst (v := nI 0) dL_rules_244 (by decide) ?_
          refine E_sipush (v := nI 255) dL_rules_245 (by decide) ?_
          refine E_iload dL_rules_248 rfl ?_
          refine E_callT4 (fr' := 1) (k1 := 0) (n1 := 0) (k2 := 0) (n2 := 0) dL_rules_250 kO_L_with kL_L_132 (by exact Nat.le_of_ble_eq_true rfl) (by decide) (by exact Nat.le_of_ble_eq_true rfl) (Or.inl rfl) rfl ?_
          rw [u1]
          refine sp_L_with_N hi2 u3 ?_
          refine gKv ?_
          refine E_callT4 (fr' := 1) (k1 := 0) (n1 := 0) (k2 := 0) (n2 := 0) dL_rules_253 kO_L_put kL_L_136 (by exact Nat.le_of_ble_eq_true rfl) (by decide) (by exact Nat.le_of_ble_eq_true rfl) (Or.inl rfl) rfl ?_
          refine sp_L_put h (by omega) (by omega) (okZ_sN hi2 u2) (fun M h => ?_)
          have hL := h.lay
          have hln := h.len
          have hl2 := ins_len (putL L i (sN (gat L i) (gN (rul c (12 * f + l) k 1)))) (i + 1) (sN (gat L i) (gN (rul c (12 * f + l) k 2)))
          refine gKn ?_
          refine E_iload dL_rules_256 rfl ?_
          refine E_iconst (v := nI 2) dL_rules_258 (by decide) ?_
          refine E_icmp_ne (tgt := 283) dL_rules_259 (by decide) (fun _ => ?_) (fun c0 => absurd (by decide) c0)
          have hfit : fit c f L (12 * f + l) k i := ⟨c_49, Or.inr (Or.inl ⟨hkd, by rw [hmr]; omega⟩)⟩
          have e1 : chgL c f L (12 * f + l) k i = putsL L i 1 (gN (rul c (12 * f + l) k 1)) (gN (rul c (12 * f + l) k 2)) (gN (rul c (12 * f + l) k 2)) := by
            have e0 : chgL c f L (12 * f + l) k i = ptL L i (rul c (12 * f + l) k 1) (rul c (12 * f + l) k 2) (rul c (12 * f + l) k 3) := (cI_f (by omega)).trans (cI_t hkd)
            rw [e0]
            unfold ptL
            rw [hmr, cI_t c_186]
          have e2 : chgW c f L w (12 * f + l) k i = wPu w i 1 := by
            have e0 : chgW c f L w (12 * f + l) k i = wPu w i (mrN (rul c (12 * f + l) k 3)) := (cI_f (by omega)).trans (cI_t hkd)
            rw [e0, hmr]
          have e3 : chgI c (12 * f + l) k i = i + 1 + 1 := by
            have e0 : chgI c (12 * f + l) k i = i + mrN (rul c (12 * f + l) k 3) + 1 := cI_t hkd
            rw [e0, hmr]
          rw [sv_1 hi] at h
          refine E_aload dL_rules_283 rfl ?_
          refine E_bipush (v := nI 7) dL_rules_285 (by decide) ?_
          refine E_ialdL (v := _) dL_rules_287 (l_132 hL) (k_132 hL) rfl (by omega) (by decide) h.a7 ?_
          refine E_iload dL_rules_288 rfl ?_
          refine E_icmp_ne_r (tgt := 303) dL_rules_290 (by decide) (fun c_290 => ?_) (fun c_290 => ?_)
          · refine E_iload dL_rules_303 rfl ?_
            refine E_iload dL_rules_305 rfl ?_
            refine E_iadd_n dL_rules_307 ?_
            refine E_iconst (v := nI 1) dL_rules_308 (by decide) ?_
            refine E_iadd_n dL_rules_309 ?_
            refine E_iret dL_rules_310 (Or.inl rfl) ?_
            rw [← e3]
            exact K1 k M z' (by omega) hfit (by rw [e1, e2, ← wPt_1 hw (by omega)]; first | (rw [cI_t c_290]; exact h) | (rw [cI_f c_290]; exact h)) (hz.imp id (fun q => ⟨q.1, by rw [← q.2]; exact (fnd_hit (P := fun k => fit c f L (12 * f + l) k i) (by omega) hfit).symm⟩))
          · refine E_aload dL_rules_293 rfl ?_
            refine E_bipush (v := nI 7) dL_rules_295 (by decide) ?_
            refine E_iload dL_rules_297 rfl ?_
            refine E_iload dL_rules_299 rfl ?_
            refine E_iadd_n dL_rules_301 ?_
            refine E_setW dL_rules_302 h (fun M h => ?_)
            have hL := h.lay
            refine E_iload dL_rules_303 rfl ?_
            refine E_iload dL_rules_305 rfl ?_
            refine E_iadd_n dL_rules_307 ?_
            refine E_iconst (v := nI 1) dL_rules_308 (by decide) ?_
            refine E_iadd_n dL_rules_309 ?_
            refine E_iret dL_rules_310 (Or.inl rfl) ?_
            rw [← e3]
            exact K1 k M z' (by omega) hfit (by rw [e1, e2, ← wPt_1 hw (by omega)]; first | (rw [cI_t c_290]; exact h) | (rw [cI_f c_290]; exact h)) (hz.imp id (fun q => ⟨q.1, by rw [← q.2]; exact (fnd_hit (P := fun k => fit c f L (12 * f + l) k i) (by omega) hfit).symm⟩))
    · refine E_goto (tgt := 367) dL_rules_52 (by decide) ?_
      refine E_iinc_n (d := 1) dL_rules_367 rfl rfl rfl (by decide) rfl ?_
      refine E_goto (tgt := 12) dL_rules_370 (by decide) ?_
      exact ih (by omega) M z' h (hz.imp id (fun q => ⟨q.1, by rw [← q.2]; exact (fnd_skip (by omega) (fun z => c_49 z.1)).symm⟩)) _ _ _ _ _ _ _
set_option maxRecDepth 100000 in
set_option maxHeartbeats 4000000 in
theorem sp_L_rules1 {g : gG} {M : gM} {Q : Option Value ⊕ String → gM → Prop} {c : Cf} {f : Nat} {M0 : gM} {pw : Nat} {L : List Gl} {w z : Int32} (h : lX c f M0 pw L w z M) {l : Nat} (hl : l < cN c 129 f) {i : Nat} (hi : i < L.length) (hkd : cN c 130 (12 * f + l) = 1) (hw : ∃ t, t < 2 ^ 20 ∧ w = dI t) (K0 : ∀ M z', lX c f M0 pw L w z' M → (z' = nI 1 ∨ (z' = z ∧ ¬ ffA c f L (12 * f + l) i < cN c 135 (12 * f + l))) → Q (.inl (some (.int (-1)))) M) (K1 : ∀ k M z', k < cN c 135 (12 * f + l) → fit c f L (12 * f + l) k i → lX c f M0 pw (chgL c f L (12 * f + l) k i) (chgW c f L w (12 * f + l) k i) z' M → (z' = nI 1 ∨ (z' = z ∧ k = ffA c f L (12 * f + l) i)) → Q (.inl (some (.int (nI (chgI c (12 * f + l) k i))))) M) : E g 6 0 0 mL_rules 0 [.ref (pw + 1), .ref 130, .ref 131, .ref 132, .ref 133, .int (nI (8 * f + l)), .int (nI i), .null, .null, .null, .null, .null, .null, .null, .null, .null] [] M Q := by
  have hL := h.lay
  have hf := h.f2
  have hn := h.len
  have hct := h.ct
  refine E_aload_n dL_rules_0 rfl ?_
  refine E_iload dL_rules_1 rfl ?_
  refine E_ialdL (v := nI (mEn _ _)) dL_rules_3 (l_129 hL) (k_129 hL) rfl (by omega) (by decide) (h.me hl) ?_
  refine E_bipush (v := nI 15) dL_rules_4 (by decide) ?_
  refine E_iand dL_rules_6 ?_
  rw [mE_0_15 h.wf, hkd]
  refine E_istore dL_rules_7 (Nat.le_of_ble_eq_true rfl) (by decide) rfl ?_
  refine E_iconst (v := nI 0) dL_rules_9 (by decide) ?_
  refine E_istore dL_rules_10 (Nat.le_of_ble_eq_true rfl) (by decide) rfl ?_
  exact lp_L_rules1 hl hi hkd hw K0 K1 0 (Nat.zero_le _) M z h (Or.inr ⟨rfl, rfl⟩) _ _ _ _ _ _ _
set_option maxRecDepth 100000 in
set_option maxHeartbeats 4000000 in
theorem lp_L_rules2 {g : gG} {Q : Option Value ⊕ String → gM → Prop} {c : Cf} {f : Nat} {M0 : gM} {pw : Nat} {L : List Gl} {w z : Int32} {l : Nat} (hl : l < cN c 129 f) {i : Nat} (hi : i < L.length) (hkd : cN c 130 (12 * f + l) = 2) (K0 : ∀ M z', lX c f M0 pw L w z' M → (z' = nI 1 ∨ (z' = z ∧ ¬ ffA c f L (12 * f + l) i < cN c 135 (12 * f + l))) → Q (.inl (some (.int (-1)))) M) (K1 : ∀ k M z', k < cN c 135 (12 * f + l) → fit c f L (12 * f + l) k i → lX c f M0 pw (chgL c f L (12 * f + l) k i) (chgW c f L w (12 * f + l) k i) z' M → (z' = nI 1 ∨ (z' = z ∧ k = ffA c f L (12 * f + l) i)) → Q (.inl (some (.int (nI (chgI c (12 * f + l) k i))))) M) : ∀ k, k ≤ cN c 135 (12 * f + l) → ∀ M z', lX c f M0 pw L w z' M → (z' = nI 1 ∨ (z' = z ∧ fnd (fun k => fit c f L (12 * f + l) k i) (cN c 135 (12 * f + l)) k = ffA c f L (12 * f + l) i)) → ∀ v9 v10 v11 v12 v13 v14 v15, E g 6 0 0 mL_rules 12 [.ref (pw + 1), .ref 130, .ref 131, .ref 132, .ref 133, .int (nI (8 * f + l)), .int (nI i), .int (nI 2), .int (nI k), v9, v10, v11, v12, v13, v14, v15] [] M Q := by
  refine lpUp (cN c 135 (12 * f + l)) (fun k hk ih => ?_)
  intro M z' h hz v9 v10 v11 v12 v13 v14 v15
  have hL := h.lay
  have hf := h.f2
  have hn := h.len
  have hct := h.ct
  have hr4 := h.S.r4 (12 * f + l)
  have hi2 := h.ok hi
  refine E_iload dL_rules_12 rfl ?_
  refine E_aload_n dL_rules_14 rfl ?_
  refine E_iload dL_rules_15 rfl ?_
  refine E_ialdL (v := nI (mEn _ _)) dL_rules_17 (l_129 hL) (k_129 hL) rfl (by omega) (by decide) (h.me hl) ?_
  refine E_bipush (v := nI 13) dL_rules_18 (by decide) ?_
  refine E_ishr dL_rules_20 ?_
  rw [mE_13 h.wf]
  refine E_icmp_ge_n (tgt := 373) dL_rules_21 (by decide) (by omega) (by omega) (fun c_21 => ?_) (fun c_21 => ?_)
  · refine E_iconst (v := -1) dL_rules_373 (by decide) ?_
    refine E_iret dL_rules_374 (Or.inl rfl) ?_
    exact K0 M z' h (hz.imp id (fun q => ⟨q.1, by rw [← q.2, fnd_end (by omega)]; omega⟩))
  · refine E_aload_n dL_rules_24 rfl ?_
    refine E_aload dL_rules_25 rfl ?_
    refine E_bipush (v := nI 6) dL_rules_27 (by decide) ?_
    refine E_ialdL (v := nI _) dL_rules_29 (l_132 hL) (k_132 hL) rfl (by omega) (by decide) h.a6 ?_
    refine E_aload_n dL_rules_30 rfl ?_
    refine E_iload dL_rules_31 rfl ?_
    refine E_iload dL_rules_33 rfl ?_
    refine E_iconst (v := nI 0) dL_rules_35 (by decide) ?_
    refine E_callT4 (fr' := 1) (k1 := 0) (n1 := 0) (k2 := 0) (n2 := 0) dL_rules_36 kO_L_number kL_L_124 (by exact Nat.le_of_ble_eq_true rfl) (by decide) (by exact Nat.le_of_ble_eq_true rfl) (Or.inl rfl) rfl ?_
    refine sp_L_number (by first | exact h | exact h.S) hf hl (by omega) (by decide) ?_
    refine gKv ?_
    refine E_aload_n dL_rules_39 rfl ?_
    refine E_iload dL_rules_40 rfl ?_
    refine E_laldL (v := pk _) dL_rules_42 h.plt h.pkd rfl (by omega) (by decide) (h.wk (by omega)) ?_
    refine E_callT1 (fr' := 1) (k1 := 0) (n1 := 0) (k2 := 0) (n2 := 0) dL_rules_43 kO_L_glyphOf kL_L_108 (by exact Nat.le_of_ble_eq_true rfl) (by decide) (by exact Nat.le_of_ble_eq_true rfl) (Or.inl rfl) rfl ?_
    refine sp_L_glyphOf (h.ok (by omega)) ?_
    refine gKv ?_
    refine E_callT4 (fr' := 2) (k1 := 0) (n1 := 0) (k2 := 0) (n2 := 0) dL_rules_46 kO_L_is kL_L_128 (by exact Nat.le_of_ble_eq_true rfl) (by decide) (by exact Nat.le_of_ble_eq_true rfl) (Or.inl rfl) rfl ?_
    refine sp_L_is (by first | exact h | exact h.S) hf (by first | assumption | exact h.gl (by omega)) ?_
    refine gKv ?_
    refine E_if_ne_b (tgt := 55) dL_rules_49 (by decide) (fun c_49 => ?_) (fun c_49 => ?_)
    · have hrg := (h.S.wz.2.2.2.2.1 _ k (by omega)).2
      rw [hkd] at hrg
      obtain ⟨r1, r2, r3⟩ := hrg.2.2.1 rfl
      obtain ⟨g1, g2⟩ := gZ_n r1
      obtain ⟨u1, u2⟩ := gZ_n r2
      obtain ⟨v1, v2⟩ := gZ_n r3
      have g3 := glZ_256 g2
      have u3 := glZ_256 u2
      have v3 := glZ_256 v2
      have he4 := hi2.b.2.2.2.1
      refine E_aload_n dL_rules_55 rfl ?_
      refine E_iload dL_rules_56 rfl ?_
      refine E_iload dL_rules_58 rfl ?_
      refine E_iconst (v := nI 1) dL_rules_60 (by decide) ?_
      refine E_callT4 (fr' := 1) (k1 := 0) (n1 := 0) (k2 := 0) (n2 := 0) dL_rules_61 kO_L_number kL_L_124 (by exact Nat.le_of_ble_eq_true rfl) (by decide) (by exact Nat.le_of_ble_eq_true rfl) (Or.inl rfl) rfl ?_
      refine sp_L_number (by first | exact h | exact h.S) hf hl (by omega) (by decide) ?_
      refine gKv ?_
      refine E_istore dL_rules_64 (Nat.le_of_ble_eq_true rfl) (by decide) rfl ?_
      refine E_aload_n dL_rules_66 rfl ?_
      refine E_iload dL_rules_67 rfl ?_
      refine E_iload dL_rules_69 rfl ?_
      refine E_iconst (v := nI 2) dL_rules_71 (by decide) ?_
      refine E_callT4 (fr' := 1) (k1 := 0) (n1 := 0) (k2 := 0) (n2 := 0) dL_rules_72 kO_L_number kL_L_124 (by exact Nat.le_of_ble_eq_true rfl) (by decide) (by exact Nat.le_of_ble_eq_true rfl) (Or.inl rfl) rfl ?_
      refine sp_L_number (by first | exact h | exact h.S) hf hl (by omega) (by decide) ?_
      refine gKv ?_
      refine E_istore dL_rules_75 (Nat.le_of_ble_eq_true rfl) (by decide) rfl ?_
      refine E_aload_n dL_rules_77 rfl ?_
      refine E_iload dL_rules_78 rfl ?_
      refine E_iload dL_rules_80 rfl ?_
      refine E_iconst (v := nI 3) dL_rules_82 (by decide) ?_
      refine E_callT4 (fr' := 1) (k1 := 0) (n1 := 0) (k2 := 0) (n2 := 0) dL_rules_83 kO_L_number kL_L_124 (by exact Nat.le_of_ble_eq_true rfl) (by decide) (by exact Nat.le_of_ble_eq_true rfl) (Or.inl rfl) rfl ?_
      refine sp_L_number (by first | exact h | exact h.S) hf hl (by omega) (by decide) ?_
      refine gKv ?_
      refine E_istore dL_rules_86 (Nat.le_of_ble_eq_true rfl) (by decide) rfl ?_
      refine E_iload dL_rules_88 rfl ?_
      refine E_if_ne (tgt := 115) dL_rules_90 (by decide) (fun _ => ?_) (fun c0 => absurd (by decide) c0)
      refine E_aload_n dL_rules_115 rfl ?_
      refine E_iload dL_rules_116 rfl ?_
      refine E_laldL (v := pk _) dL_rules_118 h.plt h.pkd rfl (by omega) (by decide) (h.wk (by omega)) ?_
      refine E_bipush (v := nI 15) dL_rules_119 (by decide) ?_
      refine E_iconst (v := nI 3) dL_rules_121 (by decide) ?_
      refine E_callT3 (fr' := 1) (k1 := 0) (n1 := 0) (k2 := 0) (n2 := 0) dL_rules_122 kO_L_part kL_L_116 (by exact Nat.le_of_ble_eq_true rfl) (by decide) (by exact Nat.le_of_ble_eq_true rfl) (Or.inl rfl) rfl ?_
      refine sp_L_part_E (h.ok (by omega)) ?_
      refine gKv ?_
      refine E_istore dL_rules_125 (Nat.le_of_ble_eq_true rfl) (by decide) rfl ?_
      refine E_iload dL_rules_127 rfl ?_
      refine E_iconst (v := nI 2) dL_rules_129 (by decide) ?_
      refine E_icmp_ne_r (tgt := 182) dL_rules_130 (by decide) (fun c0 => absurd c0 (by decide)) (fun _ => ?_)
      refine E_iload dL_rules_133 rfl ?_
      refine E_if_le_n (tgt := 182) dL_rules_135 (by decide) (by omega) (fun c_135 => ?_) (fun c_135 => ?_)
      · refine E_iload dL_rules_182 rfl ?_
        refine E_bipush (v := -100) dL_rules_184 (by decide) ?_
        refine E_icmp_ne_r (tgt := 193) dL_rules_186 (by decide) (fun c_186 => ?_) (fun c_186 => ?_)
        · refine E_iconst (v := nI 2) dL_rules_193 (by decide) ?_
          refine E_istore dL_rules_194 (Nat.le_of_ble_eq_true rfl) (by decide) rfl ?_
          refine E_iload dL_rules_196 rfl ?_
          refine E_iconst (v := nI 1) dL_rules_198 (by decide) ?_
          refine E_icmp_ne (tgt := 311) dL_rules_199 (by decide) (fun _ => ?_) (fun c0 => absurd (by decide) c0)
          refine E_iload dL_rules_311 rfl ?_
          refine E_iconst (v := nI 1) dL_rules_313 (by decide) ?_
          refine E_icmp_ne (tgt := 335) dL_rules_314 (by decide) (fun _ => ?_) (fun c0 => absurd (by decide) c0)
          refine E_iload dL_rules_335 rfl ?_
          refine E_iconst (v := nI 3) dL_rules_337 (by decide) ?_
          refine E_icmp_ne (tgt := 367) dL_rules_338 (by decide) (fun _ => ?_) (fun c0 => absurd (by decide) c0)
          refine E_iinc_n (d := 1) dL_rules_367 rfl rfl rfl (by decide) rfl ?_
          refine E_goto (tgt := 12) dL_rules_370 (by decide) ?_
          exact ih (by omega) M z' h (hz.imp id (fun q => ⟨q.1, by rw [← q.2]; exact (fnd_skip (by omega) (fun z => by first | exact c_49 z.1 | (rcases z.2 with q | q | q | q <;> omega))).symm⟩)) _ _ _ _ _ _ _
        · refine E_iconst (v := nI 1) dL_rules_189 (by decide) ?_
          refine E_goto (tgt := 194) dL_rules_190 (by decide) ?_
          refine E_istore dL_rules_194 (Nat.le_of_ble_eq_true rfl) (by decide) rfl ?_
          refine E_iload dL_rules_196 rfl ?_
          refine E_iconst (v := nI 1) dL_rules_198 (by decide) ?_
          refine E_icmp_ne (tgt := 311) dL_rules_199 (by decide) (fun _ => ?_) (fun c0 => absurd (by decide) c0)
          refine E_iload dL_rules_311 rfl ?_
          refine E_iconst (v := nI 1) dL_rules_313 (by decide) ?_
          refine E_icmp_ne (tgt := 335) dL_rules_314 (by decide) (fun _ => ?_) (fun c0 => absurd (by decide) c0)
          refine E_iload dL_rules_335 rfl ?_
          refine E_iconst (v := nI 3) dL_rules_337 (by decide) ?_
          refine E_icmp_ne (tgt := 367) dL_rules_338 (by decide) (fun _ => ?_) (fun c0 => absurd (by decide) c0)
          refine E_iinc_n (d := 1) dL_rules_367 rfl rfl rfl (by decide) rfl ?_
          refine E_goto (tgt := 12) dL_rules_370 (by decide) ?_
          exact ih (by omega) M z' h (hz.imp id (fun q => ⟨q.1, by rw [← q.2]; exact (fnd_skip (by omega) (fun z => by first | exact c_49 z.1 | (rcases z.2 with q | q | q | q <;> omega))).symm⟩)) _ _ _ _ _ _ _
      · refine E_aload_n dL_rules_138 rfl ?_
        refine E_iload dL_rules_139 rfl ?_
        refine E_aload_n dL_rules_141 rfl ?_
        refine E_iload dL_rules_142 rfl ?_
        refine E_laldL (v := pk (gat L i)) dL_rules_144 h.plt h.pkd rfl (by omega) (by decide) (h.wk hi) ?_
        refine E_iconst (v := nI 0) dL_rules_145 (by decide) ?_
        refine E_sipush (v := nI 255) dL_rules_146 (by decide) ?_
        refine E_iload dL_rules_149 rfl ?_
        refine E_iconst (v := nI 1) dL_rules_151 (by decide) ?_
        refine E_icmp_ne_n (tgt := 160) dL_rules_152 (by decide) (by omega) (by omega) (fun c_152 => ?_) (fun c_152 => ?_)
        · refine E_iload dL_rules_160 rfl ?_
          refine E_iconst (v := nI 2) dL_rules_162 (by decide) ?_
          refine E_icmp_ne_n (tgt := 171) dL_rules_163 (by decide) (by omega) (by omega) (fun c_163 => ?_) (fun c_163 => ?_)
          · refine E_iload dL_rules_171 rfl ?_
            refine E_callT4 (fr' := 1) (k1 := 0) (n1 := 0) (k2 := 0) (n2 := 0) dL_rules_173 kO_L_with kL_L_132 (by exact Nat.le_of_ble_eq_true rfl) (by decide) (by exact Nat.le_of_ble_eq_true rfl) (Or.inl rfl) rfl ?_
            rw [v1]
            refine sp_L_with_N hi2 v3 ?_
            refine gKv ?_
            have hfit : fit c f L (12 * f + l) k i := ⟨c_49, Or.inr (Or.inr (Or.inl ⟨hkd, by omega⟩))⟩
            have e2 : chgW c f L w (12 * f + l) k i = w := (cI_f (by omega)).trans ((cI_f (by omega)).trans (cI_t hkd))
            have e3 : chgI c (12 * f + l) k i = i + 1 := cI_f (by omega)
            refine E_putK dL_rules_176 h rfl hi rfl (okZ_sN hi2 v2) (fun M h => ?_)
            have e1 : chgL c f L (12 * f + l) k i = numL L i (gN (rul c (12 * f + l) k 3)) := by
              have e0 : chgL c f L (12 * f + l) k i = numL L i (gN (rul c (12 * f + l) k (yE (gat L i)))) := (cI_f (by omega)).trans ((cI_f (by omega)).trans (cI_t hkd))
              rw [e0, show yE (gat L i) = 3 by omega]
            refine E_iload dL_rules_177 rfl ?_
            refine E_iconst (v := nI 1) dL_rules_179 (by decide) ?_
            refine E_iadd_n dL_rules_180 ?_
            refine E_iret dL_rules_181 (Or.inl rfl) ?_
            rw [← e3]
            exact K1 k M z' (by omega) hfit (by rw [e1, e2]; exact h) (hz.imp id (fun q => ⟨q.1, by rw [← q.2]; exact (fnd_hit (P := fun k => fit c f L (12 * f + l) k i) (by omega) hfit).symm⟩))
          · refine E_iload dL_rules_166 rfl ?_
            refine E_goto (tgt := 173) dL_rules_168 (by decide) ?_
            refine E_callT4 (fr' := 1) (k1 := 0) (n1 := 0) (k2 := 0) (n2 := 0) dL_rules_173 kO_L_with kL_L_132 (by exact Nat.le_of_ble_eq_true rfl) (by decide) (by exact Nat.le_of_ble_eq_true rfl) (Or.inl rfl) rfl ?_
            rw [u1]
            refine sp_L_with_N hi2 u3 ?_
            refine gKv ?_
            have hfit : fit c f L (12 * f + l) k i := ⟨c_49, Or.inr (Or.inr (Or.inl ⟨hkd, by omega⟩))⟩
            have e2 : chgW c f L w (12 * f + l) k i = w := (cI_f (by omega)).trans ((cI_f (by omega)).trans (cI_t hkd))
            have e3 : chgI c (12 * f + l) k i = i + 1 := cI_f (by omega)
            refine E_putK dL_rules_176 h rfl hi rfl (okZ_sN hi2 u2) (fun M h => ?_)
            have e1 : chgL c f L (12 * f + l) k i = numL L i (gN (rul c (12 * f + l) k 2)) := by
              have e0 : chgL c f L (12 * f + l) k i = numL L i (gN (rul c (12 * f + l) k (yE (gat L i)))) := (cI_f (by omega)).trans ((cI_f (by omega)).trans (cI_t hkd))
              rw [e0, show yE (gat L i) = 2 by omega]
            refine E_iload dL_rules_177 rfl ?_
            refine E_iconst (v := nI 1) dL_rules_179 (by decide) ?_
            refine E_iadd_n dL_rules_180 ?_
            refine E_iret dL_rules_181 (Or.inl rfl) ?_
            rw [← e3]
            exact K1 k M z' (by omega) hfit (by rw [e1, e2]; exact h) (hz.imp id (fun q => ⟨q.1, by rw [← q.2]; exact (fnd_hit (P := fun k => fit c f L (12 * f + l) k i) (by omega) hfit).symm⟩))
        · refine E_iload dL_rules_155 rfl ?_
          refine E_goto (tgt := 173) dL_rules_157 (by decide) ?_
          refine E_callT4 (fr' := 1) (k1 := 0) (n1 := 0) (k2 := 0) (n2 := 0) dL_rules_173 kO_L_with kL_L_132 (by exact Nat.le_of_ble_eq_true rfl) (by decide) (by exact Nat.le_of_ble_eq_true rfl) (Or.inl rfl) rfl ?_
          rw [g1]
          refine sp_L_with_N hi2 g3 ?_
          refine gKv ?_
          have hfit : fit c f L (12 * f + l) k i := ⟨c_49, Or.inr (Or.inr (Or.inl ⟨hkd, by omega⟩))⟩
          have e2 : chgW c f L w (12 * f + l) k i = w := (cI_f (by omega)).trans ((cI_f (by omega)).trans (cI_t hkd))
          have e3 : chgI c (12 * f + l) k i = i + 1 := cI_f (by omega)
          refine E_putK dL_rules_176 h rfl hi rfl (okZ_sN hi2 g2) (fun M h => ?_)
          have e1 : chgL c f L (12 * f + l) k i = numL L i (gN (rul c (12 * f + l) k 1)) := by
            have e0 : chgL c f L (12 * f + l) k i = numL L i (gN (rul c (12 * f + l) k (yE (gat L i)))) := (cI_f (by omega)).trans ((cI_f (by omega)).trans (cI_t hkd))
            rw [e0, show yE (gat L i) = 1 by omega]
          refine E_iload dL_rules_177 rfl ?_
          refine E_iconst (v := nI 1) dL_rules_179 (by decide) ?_
          refine E_iadd_n dL_rules_180 ?_
          refine E_iret dL_rules_181 (Or.inl rfl) ?_
          rw [← e3]
          exact K1 k M z' (by omega) hfit (by rw [e1, e2]; exact h) (hz.imp id (fun q => ⟨q.1, by rw [← q.2]; exact (fnd_hit (P := fun k => fit c f L (12 * f + l) k i) (by omega) hfit).symm⟩))
    · refine E_goto (tgt := 367) dL_rules_52 (by decide) ?_
      refine E_iinc_n (d := 1) dL_rules_367 rfl rfl rfl (by decide) rfl ?_
      refine E_goto (tgt := 12) dL_rules_370 (by decide) ?_
      exact ih (by omega) M z' h (hz.imp id (fun q => ⟨q.1, by rw [← q.2]; exact (fnd_skip (by omega) (fun z => c_49 z.1)).symm⟩)) _ _ _ _ _ _ _
set_option maxRecDepth 100000 in
set_option maxHeartbeats 4000000 in
theorem sp_L_rules2 {g : gG} {M : gM} {Q : Option Value ⊕ String → gM → Prop} {c : Cf} {f : Nat} {M0 : gM} {pw : Nat} {L : List Gl} {w z : Int32} (h : lX c f M0 pw L w z M) {l : Nat} (hl : l < cN c 129 f) {i : Nat} (hi : i < L.length) (hkd : cN c 130 (12 * f + l) = 2) (K0 : ∀ M z', lX c f M0 pw L w z' M → (z' = nI 1 ∨ (z' = z ∧ ¬ ffA c f L (12 * f + l) i < cN c 135 (12 * f + l))) → Q (.inl (some (.int (-1)))) M) (K1 : ∀ k M z', k < cN c 135 (12 * f + l) → fit c f L (12 * f + l) k i → lX c f M0 pw (chgL c f L (12 * f + l) k i) (chgW c f L w (12 * f + l) k i) z' M → (z' = nI 1 ∨ (z' = z ∧ k = ffA c f L (12 * f + l) i)) → Q (.inl (some (.int (nI (chgI c (12 * f + l) k i))))) M) : E g 6 0 0 mL_rules 0 [.ref (pw + 1), .ref 130, .ref 131, .ref 132, .ref 133, .int (nI (8 * f + l)), .int (nI i), .null, .null, .null, .null, .null, .null, .null, .null, .null] [] M Q := by
  have hL := h.lay
  have hf := h.f2
  have hn := h.len
  have hct := h.ct
  refine E_aload_n dL_rules_0 rfl ?_
  refine E_iload dL_rules_1 rfl ?_
  refine E_ialdL (v := nI (mEn _ _)) dL_rules_3 (l_129 hL) (k_129 hL) rfl (by omega) (by decide) (h.me hl) ?_
  refine E_bipush (v := nI 15) dL_rules_4 (by decide) ?_
  refine E_iand dL_rules_6 ?_
  rw [mE_0_15 h.wf, hkd]
  refine E_istore dL_rules_7 (Nat.le_of_ble_eq_true rfl) (by decide) rfl ?_
  refine E_iconst (v := nI 0) dL_rules_9 (by decide) ?_
  refine E_istore dL_rules_10 (Nat.le_of_ble_eq_true rfl) (by decide) rfl ?_
  exact lp_L_rules2 hl hi hkd K0 K1 0 (Nat.zero_le _) M z h (Or.inr ⟨rfl, rfl⟩) _ _ _ _ _ _ _
set_option maxRecDepth 100000 in
set_option maxHeartbeats 4000000 in
theorem lp_L_rules3 {g : gG} {Q : Option Value ⊕ String → gM → Prop} {c : Cf} {f : Nat} {M0 : gM} {pw : Nat} {L : List Gl} {w z : Int32} {l : Nat} (hl : l < cN c 129 f) {i : Nat} (hi : i < L.length) (hkd : cN c 130 (12 * f + l) = 3) {B : Nat} (bd : bdJ B i L) (K0 : ∀ M z', lX c f M0 pw L w z' M → (z' = nI 1 ∨ (z' = z ∧ ¬ ffA c f L (12 * f + l) i < cN c 135 (12 * f + l))) → Q (.inl (some (.int (-1)))) M) (K1 : ∀ k M z', k < cN c 135 (12 * f + l) → fit c f L (12 * f + l) k i → lX c f M0 pw (chgL c f L (12 * f + l) k i) (chgW c f L w (12 * f + l) k i) z' M → (z' = nI 1 ∨ (z' = z ∧ k = ffA c f L (12 * f + l) i)) → Q (.inl (some (.int (nI (chgI c (12 * f + l) k i))))) M) : ∀ k, k ≤ cN c 135 (12 * f + l) → ∀ M z', lX c f M0 pw L w z' M → (z' = nI 1 ∨ (z' = z ∧ fnd (fun k => fit c f L (12 * f + l) k i) (cN c 135 (12 * f + l)) k = ffA c f L (12 * f + l) i)) → ∀ v9 v10 v11 v12 v13 v14 v15, E g 6 0 0 mL_rules 12 [.ref (pw + 1), .ref 130, .ref 131, .ref 132, .ref 133, .int (nI (8 * f + l)), .int (nI i), .int (nI 3), .int (nI k), v9, v10, v11, v12, v13, v14, v15] [] M Q := by
  refine lpUp (cN c 135 (12 * f + l)) (fun k hk ih => ?_)
  intro M z' h hz v9 v10 v11 v12 v13 v14 v15
  have hL := h.lay
  have hf := h.f2
  have hn := h.len
  have hct := h.ct
  have hr4 := h.S.r4 (12 * f + l)
  have hi2 := h.ok hi
  refine E_iload dL_rules_12 rfl ?_
  refine E_aload_n dL_rules_14 rfl ?_
  refine E_iload dL_rules_15 rfl ?_
  refine E_ialdL (v := nI (mEn _ _)) dL_rules_17 (l_129 hL) (k_129 hL) rfl (by omega) (by decide) (h.me hl) ?_
  refine E_bipush (v := nI 13) dL_rules_18 (by decide) ?_
  refine E_ishr dL_rules_20 ?_
  rw [mE_13 h.wf]
  refine E_icmp_ge_n (tgt := 373) dL_rules_21 (by decide) (by omega) (by omega) (fun c_21 => ?_) (fun c_21 => ?_)
  · refine E_iconst (v := -1) dL_rules_373 (by decide) ?_
    refine E_iret dL_rules_374 (Or.inl rfl) ?_
    exact K0 M z' h (hz.imp id (fun q => ⟨q.1, by rw [← q.2, fnd_end (by omega)]; omega⟩))
  · refine E_aload_n dL_rules_24 rfl ?_
    refine E_aload dL_rules_25 rfl ?_
    refine E_bipush (v := nI 6) dL_rules_27 (by decide) ?_
    refine E_ialdL (v := nI _) dL_rules_29 (l_132 hL) (k_132 hL) rfl (by omega) (by decide) h.a6 ?_
    refine E_aload_n dL_rules_30 rfl ?_
    refine E_iload dL_rules_31 rfl ?_
    refine E_iload dL_rules_33 rfl ?_
    refine E_iconst (v := nI 0) dL_rules_35 (by decide) ?_
    refine E_callT4 (fr' := 1) (k1 := 0) (n1 := 0) (k2 := 0) (n2 := 0) dL_rules_36 kO_L_number kL_L_124 (by exact Nat.le_of_ble_eq_true rfl) (by decide) (by exact Nat.le_of_ble_eq_true rfl) (Or.inl rfl) rfl ?_
    refine sp_L_number (by first | exact h | exact h.S) hf hl (by omega) (by decide) ?_
    refine gKv ?_
    refine E_aload_n dL_rules_39 rfl ?_
    refine E_iload dL_rules_40 rfl ?_
    refine E_laldL (v := pk _) dL_rules_42 h.plt h.pkd rfl (by omega) (by decide) (h.wk (by omega)) ?_
    refine E_callT1 (fr' := 1) (k1 := 0) (n1 := 0) (k2 := 0) (n2 := 0) dL_rules_43 kO_L_glyphOf kL_L_108 (by exact Nat.le_of_ble_eq_true rfl) (by decide) (by exact Nat.le_of_ble_eq_true rfl) (Or.inl rfl) rfl ?_
    refine sp_L_glyphOf (h.ok (by omega)) ?_
    refine gKv ?_
    refine E_callT4 (fr' := 2) (k1 := 0) (n1 := 0) (k2 := 0) (n2 := 0) dL_rules_46 kO_L_is kL_L_128 (by exact Nat.le_of_ble_eq_true rfl) (by decide) (by exact Nat.le_of_ble_eq_true rfl) (Or.inl rfl) rfl ?_
    refine sp_L_is (by first | exact h | exact h.S) hf (by first | assumption | exact h.gl (by omega)) ?_
    refine gKv ?_
    refine E_if_ne_b (tgt := 55) dL_rules_49 (by decide) (fun c_49 => ?_) (fun c_49 => ?_)
    · have hrg := (h.S.wz.2.2.2.2.1 _ k (by omega)).2
      rw [hkd] at hrg
      obtain ⟨g1, g2⟩ := gZ_n (hrg.2.2.2 (Or.inl rfl))
      refine E_aload_n dL_rules_55 rfl ?_
      refine E_iload dL_rules_56 rfl ?_
      refine E_iload dL_rules_58 rfl ?_
      refine E_iconst (v := nI 1) dL_rules_60 (by decide) ?_
      refine E_callT4 (fr' := 1) (k1 := 0) (n1 := 0) (k2 := 0) (n2 := 0) dL_rules_61 kO_L_number kL_L_124 (by exact Nat.le_of_ble_eq_true rfl) (by decide) (by exact Nat.le_of_ble_eq_true rfl) (Or.inl rfl) rfl ?_
      refine sp_L_number (by first | exact h | exact h.S) hf hl (by omega) (by decide) ?_
      refine gKv ?_
      refine E_istore dL_rules_64 (Nat.le_of_ble_eq_true rfl) (by decide) rfl ?_
      refine E_aload_n dL_rules_66 rfl ?_
      refine E_iload dL_rules_67 rfl ?_
      refine E_iload dL_rules_69 rfl ?_
      refine E_iconst (v := nI 2) dL_rules_71 (by decide) ?_
      refine E_callT4 (fr' := 1) (k1 := 0) (n1 := 0) (k2 := 0) (n2 := 0) dL_rules_72 kO_L_number kL_L_124 (by exact Nat.le_of_ble_eq_true rfl) (by decide) (by exact Nat.le_of_ble_eq_true rfl) (Or.inl rfl) rfl ?_
      refine sp_L_number (by first | exact h | exact h.S) hf hl (by omega) (by decide) ?_
      refine gKv ?_
      refine E_istore dL_rules_75 (Nat.le_of_ble_eq_true rfl) (by decide) rfl ?_
      refine E_aload_n dL_rules_77 rfl ?_
      refine E_iload dL_rules_78 rfl ?_
      refine E_iload dL_rules_80 rfl ?_
      refine E_iconst (v := nI 3) dL_rules_82 (by decide) ?_
      refine E_callT4 (fr' := 1) (k1 := 0) (n1 := 0) (k2 := 0) (n2 := 0) dL_rules_83 kO_L_number kL_L_124 (by exact Nat.le_of_ble_eq_true rfl) (by decide) (by exact Nat.le_of_ble_eq_true rfl) (Or.inl rfl) rfl ?_
      refine sp_L_number (by first | exact h | exact h.S) hf hl (by omega) (by decide) ?_
      refine gKv ?_
      refine E_istore dL_rules_86 (Nat.le_of_ble_eq_true rfl) (by decide) rfl ?_
      refine E_iload dL_rules_88 rfl ?_
      refine E_if_ne (tgt := 115) dL_rules_90 (by decide) (fun _ => ?_) (fun c0 => absurd (by decide) c0)
      refine E_aload_n dL_rules_115 rfl ?_
      refine E_iload dL_rules_116 rfl ?_
      refine E_laldL (v := pk _) dL_rules_118 h.plt h.pkd rfl (by omega) (by decide) (h.wk (by omega)) ?_
      refine E_bipush (v := nI 15) dL_rules_119 (by decide) ?_
      refine E_iconst (v := nI 3) dL_rules_121 (by decide) ?_
      refine E_callT3 (fr' := 1) (k1 := 0) (n1 := 0) (k2 := 0) (n2 := 0) dL_rules_122 kO_L_part kL_L_116 (by exact Nat.le_of_ble_eq_true rfl) (by decide) (by exact Nat.le_of_ble_eq_true rfl) (Or.inl rfl) rfl ?_
      refine sp_L_part_E (h.ok (by omega)) ?_
      refine gKv ?_
      refine E_istore dL_rules_125 (Nat.le_of_ble_eq_true rfl) (by decide) rfl ?_
      refine E_iload dL_rules_127 rfl ?_
      refine E_iconst (v := nI 2) dL_rules_129 (by decide) ?_
      refine E_icmp_ne (tgt := 182) dL_rules_130 (by decide) (fun _ => ?_) (fun c0 => absurd (by decide) c0)
      refine E_iload dL_rules_182 rfl ?_
      refine E_bipush (v := -100) dL_rules_184 (by decide) ?_
      refine E_icmp_ne_r (tgt := 193) dL_rules_186 (by decide) (fun c_186 => ?_) (fun c_186 => ?_)
      · refine E_iconst (v := nI 2) dL_rules_193 (by decide) ?_
        refine E_istore dL_rules_194 (Nat.le_of_ble_eq_true rfl) (by decide) rfl ?_
        refine E_iload dL_rules_196 rfl ?_
        refine E_iconst (v := nI 1) dL_rules_198 (by decide) ?_
        refine E_icmp_ne (tgt := 311) dL_rules_199 (by decide) (fun _ => ?_) (fun c0 => absurd (by decide) c0)
        refine E_iload dL_rules_311 rfl ?_
        refine E_iconst (v := nI 1) dL_rules_313 (by decide) ?_
        refine E_icmp_ne (tgt := 335) dL_rules_314 (by decide) (fun _ => ?_) (fun c0 => absurd (by decide) c0)
        refine E_iload dL_rules_335 rfl ?_
        refine E_iconst (v := nI 3) dL_rules_337 (by decide) ?_
        refine E_icmp_ne_r (tgt := 367) dL_rules_338 (by decide) (fun c0 => absurd c0 (by decide)) (fun _ => ?_)
        refine E_aload_n dL_rules_341 rfl ?_
        refine E_aload_n dL_rules_342 rfl ?_
        refine E_aload_n dL_rules_343 rfl ?_
        refine E_aload dL_rules_344 rfl ?_
        refine E_iload dL_rules_346 rfl ?_
        refine E_iload dL_rules_348 rfl ?_
        refine E_iload dL_rules_350 rfl ?_
        refine E_iload dL_rules_352 rfl ?_
        refine E_iload dL_rules_354 rfl ?_
        refine E_callT9 (fr' := 5) (k1 := 0) (n1 := 0) (k2 := 0) (n2 := 0) dL_rules_356 kO_L_joined kL_L_140 (by exact Nat.le_of_ble_eq_true rfl) (by decide) (by exact Nat.le_of_ble_eq_true rfl) (Or.inl rfl) rfl ?_
        rw [g1]
        refine sp_L_joined h hl hi bd g2 (fun hj => ?_) (fun hj M h => ?_)
        · refine gKv ?_
          refine E_if_eq (tgt := 367) dL_rules_359 (by decide) (fun _ => ?_) (fun c0 => absurd (by decide) c0)
          refine E_iinc_n (d := 1) dL_rules_367 rfl rfl rfl (by decide) rfl ?_
          refine E_goto (tgt := 12) dL_rules_370 (by decide) ?_
          exact ih (by omega) M z' h (hz.imp id (fun q => ⟨q.1, by rw [← q.2]; exact (fnd_skip (by omega) (fun z => by rcases z.2 with q | q | q | q; omega; omega; omega; exact hj q.2)).symm⟩)) _ _ _ _ _ _ _
        · have hfit : fit c f L (12 * f + l) k i := ⟨c_49, Or.inr (Or.inr (Or.inr ⟨hkd, hj⟩))⟩
          have e1 : chgL c f L (12 * f + l) k i = _ := (cI_f (by omega)).trans ((cI_f (by omega)).trans (cI_f (by omega)))
          have e2 : chgW c f L w (12 * f + l) k i = _ := (cI_f (by omega)).trans ((cI_f (by omega)).trans (cI_f (by omega)))
          have e3 : chgI c (12 * f + l) k i = i + 1 := cI_f (by omega)
          rw [← e1, ← e2] at h
          refine gKv ?_
          refine E_if_eq (tgt := 367) dL_rules_359 (by decide) (fun c0 => absurd c0 (by decide)) (fun _ => ?_)
          refine E_iload dL_rules_362 rfl ?_
          refine E_iconst (v := nI 1) dL_rules_364 (by decide) ?_
          refine E_iadd_n dL_rules_365 ?_
          refine E_iret dL_rules_366 (Or.inl rfl) ?_
          rw [← e3]
          exact K1 k M z' (by omega) hfit h (hz.imp id (fun q => ⟨q.1, by rw [← q.2]; exact (fnd_hit (P := fun k => fit c f L (12 * f + l) k i) (by omega) hfit).symm⟩))
      · refine E_iconst (v := nI 1) dL_rules_189 (by decide) ?_
        refine E_goto (tgt := 194) dL_rules_190 (by decide) ?_
        refine E_istore dL_rules_194 (Nat.le_of_ble_eq_true rfl) (by decide) rfl ?_
        refine E_iload dL_rules_196 rfl ?_
        refine E_iconst (v := nI 1) dL_rules_198 (by decide) ?_
        refine E_icmp_ne (tgt := 311) dL_rules_199 (by decide) (fun _ => ?_) (fun c0 => absurd (by decide) c0)
        refine E_iload dL_rules_311 rfl ?_
        refine E_iconst (v := nI 1) dL_rules_313 (by decide) ?_
        refine E_icmp_ne (tgt := 335) dL_rules_314 (by decide) (fun _ => ?_) (fun c0 => absurd (by decide) c0)
        refine E_iload dL_rules_335 rfl ?_
        refine E_iconst (v := nI 3) dL_rules_337 (by decide) ?_
        refine E_icmp_ne_r (tgt := 367) dL_rules_338 (by decide) (fun c0 => absurd c0 (by decide)) (fun _ => ?_)
        refine E_aload_n dL_rules_341 rfl ?_
        refine E_aload_n dL_rules_342 rfl ?_
        refine E_aload_n dL_rules_343 rfl ?_
        refine E_aload dL_rules_344 rfl ?_
        refine E_iload dL_rules_346 rfl ?_
        refine E_iload dL_rules_348 rfl ?_
        refine E_iload dL_rules_350 rfl ?_
        refine E_iload dL_rules_352 rfl ?_
        refine E_iload dL_rules_354 rfl ?_
        refine E_callT9 (fr' := 5) (k1 := 0) (n1 := 0) (k2 := 0) (n2 := 0) dL_rules_356 kO_L_joined kL_L_140 (by exact Nat.le_of_ble_eq_true rfl) (by decide) (by exact Nat.le_of_ble_eq_true rfl) (Or.inl rfl) rfl ?_
        rw [g1]
        refine sp_L_joined h hl hi bd g2 (fun hj => ?_) (fun hj M h => ?_)
        · refine gKv ?_
          refine E_if_eq (tgt := 367) dL_rules_359 (by decide) (fun _ => ?_) (fun c0 => absurd (by decide) c0)
          refine E_iinc_n (d := 1) dL_rules_367 rfl rfl rfl (by decide) rfl ?_
          refine E_goto (tgt := 12) dL_rules_370 (by decide) ?_
          exact ih (by omega) M z' h (hz.imp id (fun q => ⟨q.1, by rw [← q.2]; exact (fnd_skip (by omega) (fun z => by rcases z.2 with q | q | q | q; omega; omega; omega; exact hj q.2)).symm⟩)) _ _ _ _ _ _ _
        · have hfit : fit c f L (12 * f + l) k i := ⟨c_49, Or.inr (Or.inr (Or.inr ⟨hkd, hj⟩))⟩
          have e1 : chgL c f L (12 * f + l) k i = _ := (cI_f (by omega)).trans ((cI_f (by omega)).trans (cI_f (by omega)))
          have e2 : chgW c f L w (12 * f + l) k i = _ := (cI_f (by omega)).trans ((cI_f (by omega)).trans (cI_f (by omega)))
          have e3 : chgI c (12 * f + l) k i = i + 1 := cI_f (by omega)
          rw [← e1, ← e2] at h
          refine gKv ?_
          refine E_if_eq (tgt := 367) dL_rules_359 (by decide) (fun c0 => absurd c0 (by decide)) (fun _ => ?_)
          refine E_iload dL_rules_362 rfl ?_
          refine E_iconst (v := nI 1) dL_rules_364 (by decide) ?_
          refine E_iadd_n dL_rules_365 ?_
          refine E_iret dL_rules_366 (Or.inl rfl) ?_
          rw [← e3]
          exact K1 k M z' (by omega) hfit h (hz.imp id (fun q => ⟨q.1, by rw [← q.2]; exact (fnd_hit (P := fun k => fit c f L (12 * f + l) k i) (by omega) hfit).symm⟩))
    · refine E_goto (tgt := 367) dL_rules_52 (by decide) ?_
      refine E_iinc_n (d := 1) dL_rules_367 rfl rfl rfl (by decide) rfl ?_
      refine E_goto (tgt := 12) dL_rules_370 (by decide) ?_
      exact ih (by omega) M z' h (hz.imp id (fun q => ⟨q.1, by rw [← q.2]; exact (fnd_skip (by omega) (fun z => c_49 z.1)).symm⟩)) _ _ _ _ _ _ _
set_option maxRecDepth 100000 in
set_option maxHeartbeats 4000000 in
theorem sp_L_rules3 {g : gG} {M : gM} {Q : Option Value ⊕ String → gM → Prop} {c : Cf} {f : Nat} {M0 : gM} {pw : Nat} {L : List Gl} {w z : Int32} (h : lX c f M0 pw L w z M) {l : Nat} (hl : l < cN c 129 f) {i : Nat} (hi : i < L.length) (hkd : cN c 130 (12 * f + l) = 3) {B : Nat} (bd : bdJ B i L) (K0 : ∀ M z', lX c f M0 pw L w z' M → (z' = nI 1 ∨ (z' = z ∧ ¬ ffA c f L (12 * f + l) i < cN c 135 (12 * f + l))) → Q (.inl (some (.int (-1)))) M) (K1 : ∀ k M z', k < cN c 135 (12 * f + l) → fit c f L (12 * f + l) k i → lX c f M0 pw (chgL c f L (12 * f + l) k i) (chgW c f L w (12 * f + l) k i) z' M → (z' = nI 1 ∨ (z' = z ∧ k = ffA c f L (12 * f + l) i)) → Q (.inl (some (.int (nI (chgI c (12 * f + l) k i))))) M) : E g 6 0 0 mL_rules 0 [.ref (pw + 1), .ref 130, .ref 131, .ref 132, .ref 133, .int (nI (8 * f + l)), .int (nI i), .null, .null, .null, .null, .null, .null, .null, .null, .null] [] M Q := by
  have hL := h.lay
  have hf := h.f2
  have hn := h.len
  have hct := h.ct
  refine E_aload_n dL_rules_0 rfl ?_
  refine E_iload dL_rules_1 rfl ?_
  refine E_ialdL (v := nI (mEn _ _)) dL_rules_3 (l_129 hL) (k_129 hL) rfl (by omega) (by decide) (h.me hl) ?_
  refine E_bipush (v := nI 15) dL_rules_4 (by decide) ?_
  refine E_iand dL_rules_6 ?_
  rw [mE_0_15 h.wf, hkd]
  refine E_istore dL_rules_7 (Nat.le_of_ble_eq_true rfl) (by decide) rfl ?_
  refine E_iconst (v := nI 0) dL_rules_9 (by decide) ?_
  refine E_istore dL_rules_10 (Nat.le_of_ble_eq_true rfl) (by decide) rfl ?_
  exact lp_L_rules3 hl hi hkd bd K0 K1 0 (Nat.zero_le _) M z h (Or.inr ⟨rfl, rfl⟩) _ _ _ _ _ _ _
theorem sp_L_rules {g : gG} {M : gM} {Q : Option Value ⊕ String → gM → Prop} {c : Cf} {f : Nat} {M0 : gM} {pw : Nat} {L : List Gl} {w z : Int32} (h : lX c f M0 pw L w z M) {l : Nat} (hl : l < cN c 129 f) {i : Nat} (hi : i < L.length) (hkd : cN c 130 (12 * f + l) ≤ 3) {B : Nat} (bd : bdJ B i L) (hw : ∃ t, t < 2 ^ 20 ∧ w = dI t) (K0 : ∀ M z', lX c f M0 pw L w z' M → (z' = nI 1 ∨ (z' = z ∧ ¬ ffA c f L (12 * f + l) i < cN c 135 (12 * f + l))) → Q (.inl (some (.int (-1)))) M) (K1 : ∀ k M z', k < cN c 135 (12 * f + l) → fit c f L (12 * f + l) k i → lX c f M0 pw (chgL c f L (12 * f + l) k i) (chgW c f L w (12 * f + l) k i) z' M → (z' = nI 1 ∨ (z' = z ∧ k = ffA c f L (12 * f + l) i)) → Q (.inl (some (.int (nI (chgI c (12 * f + l) k i))))) M) : E g 6 0 0 mL_rules 0 [.ref (pw + 1), .ref 130, .ref 131, .ref 132, .ref 133, .int (nI (8 * f + l)), .int (nI i), .null, .null, .null, .null, .null, .null, .null, .null, .null] [] M Q := by
  rcases (show cN c 130 (12 * f + l) = 0 ∨ cN c 130 (12 * f + l) = 1 ∨ cN c 130 (12 * f + l) = 2 ∨ cN c 130 (12 * f + l) = 3 by omega) with q | q | q | q
  · exact sp_L_rules0 h hl hi q K0 K1
  · exact sp_L_rules1 h hl hi q hw K0 K1
  · exact sp_L_rules2 h hl hi q K0 K1
  · exact sp_L_rules3 h hl hi q bd K0 K1
