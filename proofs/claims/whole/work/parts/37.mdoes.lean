/-! the reference: the rules of the kinds that change glyphs -/
theorem sI_same {M : gM} {a k : Nat} {v : Int32} (h : mI M a k = v) : sI M a k v = M := gm_ext (fun b j => by
  rw [mI_sI]; split
  · rename_i e; rw [e.1, e.2, h]
  · rfl) rfl rfl
def lgF (c : Cf) (f l : Nat) (L : List Gl) (i : Nat) (b cc : Int32) : Prop := aft c f l L i < L.length ∧ isAt c f b (yN (gat L (aft c f l L i))) ∧ (cc = -100 ∨ (aft c f l L (aft c f l L i) < L.length ∧ isAt c f cc (yN (gat L (aft c f l L (aft c f l L i))))))
noncomputable def lgL (c : Cf) (f l : Nat) (L : List Gl) (i : Nat) (cc : Int32) (d : Nat) : List Gl := cI (cc = -100) (jn2 c f L i (aft c f l L i) d) (jn3 c f L i (aft c f l L i) (aft c f l L (aft c f l L i)) d)
noncomputable def lgW (c : Cf) (f l : Nat) (L : List Gl) (w : Int32) (i : Nat) (cc : Int32) : Int32 := cI (cc = -100) (wTk w (aft c f l L i) i) (wTk (wTk w (aft c f l L (aft c f l L i)) i) (aft c f l L i) i)
set_option maxRecDepth 100000 in
set_option maxHeartbeats 4000000 in
theorem sp_X12_ligates2 {g : gG} {M : gM} {Q : Option Value ⊕ String → gM → Prop} {c : Cf} {f : Nat} {M0 : gM} {L : List Gl} {w : Int32} (h : mX c f M0 L w M) {l i : Nat} (hl : l < 24) (hi : i < L.length) {b d : Int32} {d0 : Nat} (hd : d = nI d0) (hd2 : d0 < 256) (K0 : ¬ lgF c f l L i b (-100) → Q (.inl (some (.int (-100)))) M) (K : lgF c f l L i b (-100) → ∀ M, mX c f M0 (lgL c f l L i (-100) d0) (lgW c f l L w i (-100)) M → Q (.inl (some (.int (nI (i + 1))))) M) : E g 5 0 0 mX12_ligates 0 [.ref 129, .int (nI l), .int (nI i), .int b, .int (-100), .int d, .null, .null] [] M Q := by
  have hL := h.lay
  have hf := h.hf
  have hn := h.len
  have hb := aft_b c f l hi
  refine E_aload_n dX12_ligates_0 rfl ?_
  refine E_iload_n dX12_ligates_1 rfl ?_
  refine E_iload_n dX12_ligates_2 rfl ?_
  refine E_callV2 (fr' := 3) (k1 := 0) (n1 := 0) (k2 := 0) (n2 := 0) dX12_ligates_3 kO_X12_after kL_X12_320 (l_128 hL) (k_128 hL) ⟨by decide, rfl⟩ rfl rfl (by decide) (by decide) (by exact Nat.le_of_ble_eq_true rfl) rfl ?_
  refine sp_X12_after h (by omega) (by omega) ?_
  refine gKv ?_
  refine E_istore dX12_ligates_6 (Nat.le_of_ble_eq_true rfl) (by decide) rfl ?_
  refine E_iload dX12_ligates_8 rfl ?_
  refine E_aload_n dX12_ligates_10 rfl ?_
  refine E_getIL (v := nI _) dX12_ligates_11 kF_X12_235 kY_12 (Or.inl rfl) (l_128 hL) (k_128 hL) h.gn ?_
  refine E_icmp_ge_n (tgt := 27) dX12_ligates_14 (by decide) (by omega) (by omega) (fun c_14 => ?_) (fun c_14 => ?_)
  · refine E_bipush (v := -100) dX12_ligates_27 (by decide) ?_
    refine E_iret dX12_ligates_29 (Or.inl rfl) ?_
    exact K0 (fun q => by unfold lgF at q; first | omega | exact c_24 q.2.1)
  · refine E_aload_n dX12_ligates_17 rfl ?_
    refine E_iload_n dX12_ligates_18 rfl ?_
    refine E_iload dX12_ligates_19 rfl ?_
    refine E_callV2 (fr' := 2) (k1 := 0) (n1 := 0) (k2 := 0) (n2 := 0) dX12_ligates_21 kO_X12_is kL_X12_288 (l_128 hL) (k_128 hL) ⟨by decide, rfl⟩ rfl rfl (by decide) (by decide) (by exact Nat.le_of_ble_eq_true rfl) rfl ?_
    refine sp_X12_is h (by omega) ?_
    refine gKv ?_
    refine E_if_ne_b (tgt := 30) dX12_ligates_24 (by decide) (fun c_24 => ?_) (fun c_24 => ?_)
    · refine E_iload dX12_ligates_30 rfl ?_
      refine E_bipush (v := -100) dX12_ligates_32 (by decide) ?_
      refine E_icmp_ne_r (tgt := 42) dX12_ligates_34 (by decide) (fun c0 => absurd c0 (by decide)) (fun _ => ?_)
      refine E_bipush (v := -100) dX12_ligates_37 (by decide) ?_
      refine E_goto (tgt := 49) dX12_ligates_39 (by decide) ?_
      refine E_istore dX12_ligates_49 (Nat.le_of_ble_eq_true rfl) (by decide) rfl ?_
      refine E_iload dX12_ligates_51 rfl ?_
      refine E_bipush (v := -100) dX12_ligates_53 (by decide) ?_
      refine E_icmp_eq (tgt := 81) dX12_ligates_55 (by decide) (fun _ => ?_) (fun c0 => absurd (by decide) c0)
      refine E_aload_n dX12_ligates_81 rfl ?_
      refine E_iload_n dX12_ligates_82 rfl ?_
      refine E_iload dX12_ligates_83 rfl ?_
      refine E_iload dX12_ligates_85 rfl ?_
      refine E_iload dX12_ligates_87 rfl ?_
      refine E_callV4 (fr' := 4) (k1 := 0) (n1 := 0) (k2 := 0) (n2 := 0) dX12_ligates_89 kO_X12_joins kL_X12_323 (l_128 hL) (k_128 hL) ⟨by decide, rfl⟩ rfl rfl rfl rfl (by decide) (by decide) (by exact Nat.le_of_ble_eq_true rfl) rfl ?_
      refine sp_X12_joins2 h hd (by omega) (by omega) hd2 (fun M h => ?_)
      refine gKn ?_
      refine E_iload_n dX12_ligates_92 rfl ?_
      refine E_iconst (v := nI 1) dX12_ligates_93 (by decide) ?_
      refine E_iadd_n dX12_ligates_94 ?_
      refine E_iret dX12_ligates_95 (Or.inl rfl) ?_
      have e1 : lgL c f l L i (-100) d0 = _ := cI_t rfl
      have e2 : lgW c f l L w i (-100) = _ := cI_t rfl
      rw [e1, e2] at K
      exact K ⟨by omega, c_24, Or.inl rfl⟩ M h
    · refine E_bipush (v := -100) dX12_ligates_27 (by decide) ?_
      refine E_iret dX12_ligates_29 (Or.inl rfl) ?_
      exact K0 (fun q => by unfold lgF at q; first | omega | exact c_24 q.2.1)
set_option maxRecDepth 100000 in
set_option maxHeartbeats 4000000 in
theorem sp_X12_ligates3 {g : gG} {M : gM} {Q : Option Value ⊕ String → gM → Prop} {c : Cf} {f : Nat} {M0 : gM} {L : List Gl} {w : Int32} (h : mX c f M0 L w M) {l i : Nat} (hl : l < 24) (hi : i < L.length) {b d : Int32} {d0 : Nat} (hd : d = nI d0) (hd2 : d0 < 256) {cc : Int32} (hc : ¬ cc = -100) (K0 : ¬ lgF c f l L i b cc → Q (.inl (some (.int (-100)))) M) (K : lgF c f l L i b cc → ∀ M, mX c f M0 (lgL c f l L i cc d0) (lgW c f l L w i cc) M → Q (.inl (some (.int (nI (i + 1))))) M) : E g 5 0 0 mX12_ligates 0 [.ref 129, .int (nI l), .int (nI i), .int b, .int cc, .int d, .null, .null] [] M Q := by
  have hL := h.lay
  have hf := h.hf
  have hn := h.len
  have hb := aft_b c f l hi
  refine E_aload_n dX12_ligates_0 rfl ?_
  refine E_iload_n dX12_ligates_1 rfl ?_
  refine E_iload_n dX12_ligates_2 rfl ?_
  refine E_callV2 (fr' := 3) (k1 := 0) (n1 := 0) (k2 := 0) (n2 := 0) dX12_ligates_3 kO_X12_after kL_X12_320 (l_128 hL) (k_128 hL) ⟨by decide, rfl⟩ rfl rfl (by decide) (by decide) (by exact Nat.le_of_ble_eq_true rfl) rfl ?_
  refine sp_X12_after h (by omega) (by omega) ?_
  refine gKv ?_
  refine E_istore dX12_ligates_6 (Nat.le_of_ble_eq_true rfl) (by decide) rfl ?_
  refine E_iload dX12_ligates_8 rfl ?_
  refine E_aload_n dX12_ligates_10 rfl ?_
  refine E_getIL (v := nI _) dX12_ligates_11 kF_X12_235 kY_12 (Or.inl rfl) (l_128 hL) (k_128 hL) h.gn ?_
  refine E_icmp_ge_n (tgt := 27) dX12_ligates_14 (by decide) (by omega) (by omega) (fun c_14 => ?_) (fun c_14 => ?_)
  · refine E_bipush (v := -100) dX12_ligates_27 (by decide) ?_
    refine E_iret dX12_ligates_29 (Or.inl rfl) ?_
    exact K0 (fun q => by unfold lgF at q; first | omega | exact c_24 q.2.1)
  · refine E_aload_n dX12_ligates_17 rfl ?_
    refine E_iload_n dX12_ligates_18 rfl ?_
    refine E_iload dX12_ligates_19 rfl ?_
    refine E_callV2 (fr' := 2) (k1 := 0) (n1 := 0) (k2 := 0) (n2 := 0) dX12_ligates_21 kO_X12_is kL_X12_288 (l_128 hL) (k_128 hL) ⟨by decide, rfl⟩ rfl rfl (by decide) (by decide) (by exact Nat.le_of_ble_eq_true rfl) rfl ?_
    refine sp_X12_is h (by omega) ?_
    refine gKv ?_
    refine E_if_ne_b (tgt := 30) dX12_ligates_24 (by decide) (fun c_24 => ?_) (fun c_24 => ?_)
    · refine E_iload dX12_ligates_30 rfl ?_
      refine E_bipush (v := -100) dX12_ligates_32 (by decide) ?_
      refine E_icmp_ne (tgt := 42) dX12_ligates_34 (by decide) (fun _ => ?_) (fun c0 => absurd hc c0)
      refine E_aload_n dX12_ligates_42 rfl ?_
      refine E_iload_n dX12_ligates_43 rfl ?_
      refine E_iload dX12_ligates_44 rfl ?_
      refine E_callV2 (fr' := 3) (k1 := 0) (n1 := 0) (k2 := 0) (n2 := 0) dX12_ligates_46 kO_X12_after kL_X12_320 (l_128 hL) (k_128 hL) ⟨by decide, rfl⟩ rfl rfl (by decide) (by decide) (by exact Nat.le_of_ble_eq_true rfl) rfl ?_
      refine sp_X12_after h (by omega) (by omega) ?_
      have hb3 := aft_b c f l c_14
      refine gKv ?_
      refine E_istore dX12_ligates_49 (Nat.le_of_ble_eq_true rfl) (by decide) rfl ?_
      refine E_iload dX12_ligates_51 rfl ?_
      refine E_bipush (v := -100) dX12_ligates_53 (by decide) ?_
      refine E_icmp_eq (tgt := 81) dX12_ligates_55 (by decide) (fun c0 => absurd c0 hc) (fun _ => ?_)
      refine E_iload dX12_ligates_58 rfl ?_
      refine E_aload_n dX12_ligates_60 rfl ?_
      refine E_getIL (v := nI _) dX12_ligates_61 kF_X12_235 kY_12 (Or.inl rfl) (l_128 hL) (k_128 hL) h.gn ?_
      refine E_icmp_ge_n (tgt := 78) dX12_ligates_64 (by decide) (by omega) (by omega) (fun c_64 => ?_) (fun c_64 => ?_)
      · refine E_bipush (v := -100) dX12_ligates_78 (by decide) ?_
        refine E_iret dX12_ligates_80 (Or.inl rfl) ?_
        exact K0 (fun q => by unfold lgF at q; rcases q.2.2 with q | q; exact hc q; first | omega | exact c_75 q.2)
      · refine E_aload_n dX12_ligates_67 rfl ?_
        refine E_iload dX12_ligates_68 rfl ?_
        refine E_iload dX12_ligates_70 rfl ?_
        refine E_callV2 (fr' := 2) (k1 := 0) (n1 := 0) (k2 := 0) (n2 := 0) dX12_ligates_72 kO_X12_is kL_X12_288 (l_128 hL) (k_128 hL) ⟨by decide, rfl⟩ rfl rfl (by decide) (by decide) (by exact Nat.le_of_ble_eq_true rfl) rfl ?_
        refine sp_X12_is h (by omega) ?_
        refine gKv ?_
        refine E_if_ne_b (tgt := 81) dX12_ligates_75 (by decide) (fun c_75 => ?_) (fun c_75 => ?_)
        · refine E_aload_n dX12_ligates_81 rfl ?_
          refine E_iload_n dX12_ligates_82 rfl ?_
          refine E_iload dX12_ligates_83 rfl ?_
          refine E_iload dX12_ligates_85 rfl ?_
          refine E_iload dX12_ligates_87 rfl ?_
          refine E_callV4 (fr' := 4) (k1 := 0) (n1 := 0) (k2 := 0) (n2 := 0) dX12_ligates_89 kO_X12_joins kL_X12_323 (l_128 hL) (k_128 hL) ⟨by decide, rfl⟩ rfl rfl rfl rfl (by decide) (by decide) (by exact Nat.le_of_ble_eq_true rfl) rfl ?_
          refine sp_X12_joins3 h hd (by omega) (by omega) (by omega) hd2 (fun M h => ?_)
          refine gKn ?_
          refine E_iload_n dX12_ligates_92 rfl ?_
          refine E_iconst (v := nI 1) dX12_ligates_93 (by decide) ?_
          refine E_iadd_n dX12_ligates_94 ?_
          refine E_iret dX12_ligates_95 (Or.inl rfl) ?_
          have e1 : lgL c f l L i cc d0 = _ := cI_f hc
          have e2 : lgW c f l L w i cc = _ := cI_f hc
          rw [e1, e2] at K
          exact K ⟨by omega, c_24, Or.inr ⟨by omega, c_75⟩⟩ M h
        · refine E_bipush (v := -100) dX12_ligates_78 (by decide) ?_
          refine E_iret dX12_ligates_80 (Or.inl rfl) ?_
          exact K0 (fun q => by unfold lgF at q; rcases q.2.2 with q | q; exact hc q; first | omega | exact c_75 q.2)
    · refine E_bipush (v := -100) dX12_ligates_27 (by decide) ?_
      refine E_iret dX12_ligates_29 (Or.inl rfl) ?_
      exact K0 (fun q => by unfold lgF at q; first | omega | exact c_24 q.2.1)
theorem sp_X12_ligates {g : gG} {M : gM} {Q : Option Value ⊕ String → gM → Prop} {c : Cf} {f : Nat} {M0 : gM} {L : List Gl} {w : Int32} (h : mX c f M0 L w M) {l i : Nat} (hl : l < 24) (hi : i < L.length) {b d : Int32} {d0 : Nat} (hd : d = nI d0) (hd2 : d0 < 256) {cc : Int32} (K0 : ¬ lgF c f l L i b cc → Q (.inl (some (.int (-100)))) M) (K : lgF c f l L i b cc → ∀ M, mX c f M0 (lgL c f l L i cc d0) (lgW c f l L w i cc) M → Q (.inl (some (.int (nI (i + 1))))) M) : E g 5 0 0 mX12_ligates 0 [.ref 129, .int (nI l), .int (nI i), .int b, .int cc, .int d, .null, .null] [] M Q := by
  by_cases hc : cc = -100
  · subst hc; exact sp_X12_ligates2 h hl hi hd hd2 K0 K
  · exact sp_X12_ligates3 h hl hi hd hd2 hc K0 K
noncomputable def mrN (d : Int32) : Nat := cI (d = -100) 1 2
theorem mrN_b (d : Int32) : 1 ≤ mrN d ∧ mrN d ≤ 2 := by
  unfold mrN
  by_cases h : d = -100
  · rw [cI_t h]; decide
  · rw [cI_f h]; decide
noncomputable def ptL (L : List Gl) (i : Nat) (b cc d : Int32) : List Gl := putsL L i (mrN d) (gN b) (gN cc) (gN (cI (d = -100) cc d))
theorem sp_X12_puts {g : gG} {M : gM} {Q : Option Value ⊕ String → gM → Prop} {c : Cf} {f : Nat} {M0 : gM} {L : List Gl} {w : Int32} (h : mX c f M0 L w M) {i : Nat} {b cc d : Int32} (hi : i < L.length) (hb : iGlyph b) (hc : iGlyph cc) (hd : iGlyphN d) (K0 : ¬ L.length + mrN d ≤ 64 → Q (.inl (some (.int (-100)))) M) (K : L.length + mrN d ≤ 64 → ∀ M, mX c f M0 (ptL L i b cc d) (wPu w i (mrN d)) M → Q (.inl (some (.int (nI (i + mrN d + 1))))) M) : E g 3 0 0 mX12_puts 0 [.ref 129, .int (nI i), .int b, .int cc, .int d, .null] [] M Q := by
  obtain ⟨b1, b2⟩ := gN_ok hb (by decide)
  obtain ⟨c1, c2⟩ := gN_ok hc (by decide)
  unfold ptL mrN at K
  unfold mrN at K0
  by_cases e : d = -100
  · subst e
    rw [cI_t rfl, cI_t rfl] at K
    rw [cI_t rfl] at K0
    rw [b1, c1]
    exact sp_X12_puts1 h hi (by omega) (by omega) K0 K
  · obtain ⟨d1, d2⟩ := gN_ok (hd.resolve_left e) (by decide)
    rw [cI_f e, cI_f e] at K
    rw [cI_f e] at K0
    rw [b1, c1, d1]
    exact sp_X12_puts2 h hi (by omega) (by omega) (by omega) K0 K
def fit (c : Cf) (f : Nat) (L : List Gl) (l k i : Nat) : Prop := isAt c f (rul c l k 0) (yN (gat L i)) ∧ (cN c 130 l = 0 ∨ (cN c 130 l = 1 ∧ L.length + mrN (rul c l k 3) ≤ 64) ∨ (cN c 130 l = 2 ∧ 0 < yE (gat L i)) ∨ (cN c 130 l = 3 ∧ lgF c f l L i (rul c l k 1) (rul c l k 2)))
noncomputable def chgL (c : Cf) (f : Nat) (L : List Gl) (l k i : Nat) : List Gl := cI (cN c 130 l = 0) (numL L i (gN (rul c l k 1))) (cI (cN c 130 l = 1) (ptL L i (rul c l k 1) (rul c l k 2) (rul c l k 3)) (cI (cN c 130 l = 2) (numL L i (gN (rul c l k (yE (gat L i))))) (lgL c f l L i (rul c l k 2) (gN (rul c l k 3)))))
noncomputable def chgW (c : Cf) (f : Nat) (L : List Gl) (w : Int32) (l k i : Nat) : Int32 := cI (cN c 130 l = 0) w (cI (cN c 130 l = 1) (wPu w i (mrN (rul c l k 3))) (cI (cN c 130 l = 2) w (lgW c f l L w i (rul c l k 2))))
noncomputable def chgI (c : Cf) (l k i : Nat) : Nat := cI (cN c 130 l = 1) (i + mrN (rul c l k 3) + 1) (i + 1)
theorem chgI_b (c : Cf) (l k i : Nat) : i + 1 ≤ chgI c l k i ∧ chgI c l k i ≤ i + 3 := by
  unfold chgI
  have := mrN_b (rul c l k 3)
  by_cases h : cN c 130 l = 1
  · rw [cI_t h]; omega
  · rw [cI_f h]; omega
theorem iF0 {a b c d : Int32} (h : iFour 0 a b c d) : iItem a ∧ iGlyph b ∧ c = 0 ∧ d = 0 := h
theorem iF1 {a b c d : Int32} (h : iFour 1 a b c d) : iItem a ∧ iGlyph b ∧ iGlyph c ∧ iGlyphN d := h
theorem iF2 {a b c d : Int32} (h : iFour 2 a b c d) : iItem a ∧ iGlyph b ∧ iGlyph c ∧ iGlyph d := h
theorem iF3 {a b c d : Int32} (h : iFour 3 a b c d) : iItem a ∧ iItem b ∧ iItemN c ∧ iGlyph d := h
theorem iF4 {a b c d : Int32} (h : iFour 4 a b c d) : iItemN a ∧ iItem b ∧ iItemN c ∧ iItemN d := h
theorem iF5 {a b c d : Int32} (h : iFour 5 a b c d) : iItemN a ∧ iItem b ∧ iItemN c ∧ iGlyph d := h
theorem iF6 {a b c d : Int32} (h : iFour 6 a b c d) : iItem a ∧ iItem b ∧ iFar c ∧ d = 0 := h
theorem iF7 {a b c d : Int32} (h : iFour 7 a b c d) : iItem a ∧ iFarN b ∧ iFarN c ∧ d = 0 := h
theorem iF8 {a b c d : Int32} (h : iFour 8 a b c d) : iItem a ∧ (b = -100 ∨ iIn b (nI 0) (nI 2)) ∧ iClass c ∧ iFar d := h
theorem iF9 {a b c d : Int32} (h : iFour 9 a b c d) : iItem a ∧ iClass b ∧ iFar c ∧ iFar d := h
set_option maxRecDepth 100000 in
set_option maxHeartbeats 4000000 in
theorem sp_X12_does0 {g : gG} {M : gM} {Q : Option Value ⊕ String → gM → Prop} {c : Cf} {f : Nat} {M0 : gM} {L : List Gl} {w : Int32} (h : mX c f M0 L w M) {l k i : Nat} (hl : l < 24) (hk : k < cN c 135 l) (hi : i < L.length) (hkd : cN c 130 l = 0) (K0 : ¬ fit c f L l k i → Q (.inl (some (.int (-100)))) M) (K : fit c f L l k i → ∀ M, mX c f M0 (chgL c f L l k i) (chgW c f L w l k i) M → Q (.inl (some (.int (nI (chgI c l k i))))) M) : E g 6 0 0 mX12_does 0 [.ref 129, .int (nI l), .int (nI k), .int (nI i), .null, .null, .null] [] M Q := by
  have hL := h.lay
  have hf := h.hf
  have hn := h.len
  have hk8 := (h.wf.lk l).2.2.2.2.2
  have he4 := h.e4 i
  have hr := h.wf.ru hk
  rw [hkd] at hr
  have hr := iF0 hr.1
  have e1 : chgL c f L l k i = _ := cI_t hkd
  have e2 : chgW c f L w l k i = _ := cI_t hkd
  have e3 : chgI c l k i = _ := cI_f (by omega)
  rw [e1, e2, e3] at K
  refine E_aload_n dX12_does_0 rfl ?_
  refine E_iload_n dX12_does_1 rfl ?_
  refine E_iload_n dX12_does_2 rfl ?_
  refine E_iconst (v := nI 1) dX12_does_3 (by decide) ?_
  refine E_callV3 (fr' := 1) (k1 := 0) (n1 := 0) (k2 := 0) (n2 := 0) dX12_does_4 kO_X12_numberOf kL_X12_306 (l_128 hL) (k_128 hL) ⟨by decide, rfl⟩ rfl rfl rfl (by decide) (by decide) (by exact Nat.le_of_ble_eq_true rfl) rfl ?_
  refine sp_X12_numberOf h (by omega) (by omega) (by decide) ?_
  refine gKv ?_
  refine E_istore dX12_does_7 (Nat.le_of_ble_eq_true rfl) (by decide) rfl ?_
  refine E_aload_n dX12_does_9 rfl ?_
  refine E_iload_n dX12_does_10 rfl ?_
  refine E_iload_n dX12_does_11 rfl ?_
  refine E_iconst (v := nI 2) dX12_does_12 (by decide) ?_
  refine E_callV3 (fr' := 1) (k1 := 0) (n1 := 0) (k2 := 0) (n2 := 0) dX12_does_13 kO_X12_numberOf kL_X12_306 (l_128 hL) (k_128 hL) ⟨by decide, rfl⟩ rfl rfl rfl (by decide) (by decide) (by exact Nat.le_of_ble_eq_true rfl) rfl ?_
  refine sp_X12_numberOf h (by omega) (by omega) (by decide) ?_
  refine gKv ?_
  refine E_istore dX12_does_16 (Nat.le_of_ble_eq_true rfl) (by decide) rfl ?_
  refine E_aload_n dX12_does_18 rfl ?_
  refine E_iload_n dX12_does_19 rfl ?_
  refine E_iload_n dX12_does_20 rfl ?_
  refine E_iconst (v := nI 3) dX12_does_21 (by decide) ?_
  refine E_callV3 (fr' := 1) (k1 := 0) (n1 := 0) (k2 := 0) (n2 := 0) dX12_does_22 kO_X12_numberOf kL_X12_306 (l_128 hL) (k_128 hL) ⟨by decide, rfl⟩ rfl rfl rfl (by decide) (by decide) (by exact Nat.le_of_ble_eq_true rfl) rfl ?_
  refine sp_X12_numberOf h (by omega) (by omega) (by decide) ?_
  refine gKv ?_
  refine E_istore dX12_does_25 (Nat.le_of_ble_eq_true rfl) (by decide) rfl ?_
  refine E_aload_n dX12_does_27 rfl ?_
  refine E_aload_n dX12_does_28 rfl ?_
  refine E_iload_n dX12_does_29 rfl ?_
  refine E_iload_n dX12_does_30 rfl ?_
  refine E_iconst (v := nI 0) dX12_does_31 (by decide) ?_
  refine E_callV3 (fr' := 1) (k1 := 0) (n1 := 0) (k2 := 0) (n2 := 0) dX12_does_32 kO_X12_numberOf kL_X12_306 (l_128 hL) (k_128 hL) ⟨by decide, rfl⟩ rfl rfl rfl (by decide) (by decide) (by exact Nat.le_of_ble_eq_true rfl) rfl ?_
  refine sp_X12_numberOf h (by omega) (by omega) (by decide) ?_
  refine gKv ?_
  refine E_iload_n dX12_does_35 rfl ?_
  refine E_callV2 (fr' := 2) (k1 := 0) (n1 := 0) (k2 := 0) (n2 := 0) dX12_does_36 kO_X12_is kL_X12_288 (l_128 hL) (k_128 hL) ⟨by decide, rfl⟩ rfl rfl (by decide) (by decide) (by exact Nat.le_of_ble_eq_true rfl) rfl ?_
  refine sp_X12_is h (by omega) ?_
  refine gKv ?_
  refine E_if_ne_b (tgt := 45) dX12_does_39 (by decide) (fun c_39 => ?_) (fun c_39 => ?_)
  · refine E_aload_n dX12_does_45 rfl ?_
    refine E_getRL dX12_does_46 kF_X12_13 kY_12 (Or.inr ⟨_, rfl⟩) (l_128 hL) (k_128 hL) (r_128_3 hL) ?_
    refine E_iload_n dX12_does_49 rfl ?_
    refine E_ialdL (v := nI 0) dX12_does_50 (l_130 hL) (k_130 hL) rfl (by first | omega | exact h.n256 _) (by decide) (by rw [h.gc (Or.inl ⟨by decide, by decide, by decide⟩), hkd]) ?_
    refine E_if_ne (tgt := 66) dX12_does_51 (by decide) (fun c0 => absurd c0 (by decide)) (fun _ => ?_)
    refine E_aload_n dX12_does_54 rfl ?_
    refine E_getRL dX12_does_55 kF_X12_63 kY_12 (Or.inr ⟨_, rfl⟩) (l_128 hL) (k_128 hL) (r_128_22 hL) ?_
    refine E_iload_n dX12_does_58 rfl ?_
    refine E_iload dX12_does_59 rfl ?_
    refine E_iast dX12_does_61 (l_145 hL) (k_145 hL) rfl (by first | omega | exact h.n256 _) (by decide) ?_
    refine E_iload_n dX12_does_62 rfl ?_
    refine E_iconst (v := nI 1) dX12_does_63 (by decide) ?_
    refine E_iadd_n dX12_does_64 ?_
    refine E_iret dX12_does_65 (Or.inl rfl) ?_
    obtain ⟨b1, b2⟩ := gN_ok hr.2.1 (by decide)
    have h5 := h.putN (v := gN (rul c l k 1)) hi (by omega)
    rw [← b1] at h5
    exact K ⟨c_39, Or.inl hkd⟩ _ h5
  · refine E_bipush (v := -100) dX12_does_42 (by decide) ?_
    refine E_iret dX12_does_44 (Or.inl rfl) ?_
    exact K0 (fun q => c_39 q.1)
set_option maxRecDepth 100000 in
set_option maxHeartbeats 4000000 in
theorem sp_X12_does1 {g : gG} {M : gM} {Q : Option Value ⊕ String → gM → Prop} {c : Cf} {f : Nat} {M0 : gM} {L : List Gl} {w : Int32} (h : mX c f M0 L w M) {l k i : Nat} (hl : l < 24) (hk : k < cN c 135 l) (hi : i < L.length) (hkd : cN c 130 l = 1) (K0 : ¬ fit c f L l k i → Q (.inl (some (.int (-100)))) M) (K : fit c f L l k i → ∀ M, mX c f M0 (chgL c f L l k i) (chgW c f L w l k i) M → Q (.inl (some (.int (nI (chgI c l k i))))) M) : E g 6 0 0 mX12_does 0 [.ref 129, .int (nI l), .int (nI k), .int (nI i), .null, .null, .null] [] M Q := by
  have hL := h.lay
  have hf := h.hf
  have hn := h.len
  have hk8 := (h.wf.lk l).2.2.2.2.2
  have he4 := h.e4 i
  have hr := h.wf.ru hk
  rw [hkd] at hr
  have hr := iF1 hr.1
  have e1 : chgL c f L l k i = _ := (cI_f (by omega)).trans (cI_t hkd)
  have e2 : chgW c f L w l k i = _ := (cI_f (by omega)).trans (cI_t hkd)
  have e3 : chgI c l k i = _ := cI_t hkd
  rw [e1, e2, e3] at K
  refine E_aload_n dX12_does_0 rfl ?_
  refine E_iload_n dX12_does_1 rfl ?_
  refine E_iload_n dX12_does_2 rfl ?_
  refine E_iconst (v := nI 1) dX12_does_3 (by decide) ?_
  refine E_callV3 (fr' := 1) (k1 := 0) (n1 := 0) (k2 := 0) (n2 := 0) dX12_does_4 kO_X12_numberOf kL_X12_306 (l_128 hL) (k_128 hL) ⟨by decide, rfl⟩ rfl rfl rfl (by decide) (by decide) (by exact Nat.le_of_ble_eq_true rfl) rfl ?_
  refine sp_X12_numberOf h (by omega) (by omega) (by decide) ?_
  refine gKv ?_
  refine E_istore dX12_does_7 (Nat.le_of_ble_eq_true rfl) (by decide) rfl ?_
  refine E_aload_n dX12_does_9 rfl ?_
  refine E_iload_n dX12_does_10 rfl ?_
  refine E_iload_n dX12_does_11 rfl ?_
  refine E_iconst (v := nI 2) dX12_does_12 (by decide) ?_
  refine E_callV3 (fr' := 1) (k1 := 0) (n1 := 0) (k2 := 0) (n2 := 0) dX12_does_13 kO_X12_numberOf kL_X12_306 (l_128 hL) (k_128 hL) ⟨by decide, rfl⟩ rfl rfl rfl (by decide) (by decide) (by exact Nat.le_of_ble_eq_true rfl) rfl ?_
  refine sp_X12_numberOf h (by omega) (by omega) (by decide) ?_
  refine gKv ?_
  refine E_istore dX12_does_16 (Nat.le_of_ble_eq_true rfl) (by decide) rfl ?_
  refine E_aload_n dX12_does_18 rfl ?_
  refine E_iload_n dX12_does_19 rfl ?_
  refine E_iload_n dX12_does_20 rfl ?_
  refine E_iconst (v := nI 3) dX12_does_21 (by decide) ?_
  refine E_callV3 (fr' := 1) (k1 := 0) (n1 := 0) (k2 := 0) (n2 := 0) dX12_does_22 kO_X12_numberOf kL_X12_306 (l_128 hL) (k_128 hL) ⟨by decide, rfl⟩ rfl rfl rfl (by decide) (by decide) (by exact Nat.le_of_ble_eq_true rfl) rfl ?_
  refine sp_X12_numberOf h (by omega) (by omega) (by decide) ?_
  refine gKv ?_
  refine E_istore dX12_does_25 (Nat.le_of_ble_eq_true rfl) (by decide) rfl ?_
  refine E_aload_n dX12_does_27 rfl ?_
  refine E_aload_n dX12_does_28 rfl ?_
  refine E_iload_n dX12_does_29 rfl ?_
  refine E_iload_n dX12_does_30 rfl ?_
  refine E_iconst (v := nI 0) dX12_does_31 (by decide) ?_
  refine E_callV3 (fr' := 1) (k1 := 0) (n1 := 0) (k2 := 0) (n2 := 0) dX12_does_32 kO_X12_numberOf kL_X12_306 (l_128 hL) (k_128 hL) ⟨by decide, rfl⟩ rfl rfl rfl (by decide) (by decide) (by exact Nat.le_of_ble_eq_true rfl) rfl ?_
  refine sp_X12_numberOf h (by omega) (by omega) (by decide) ?_
  refine gKv ?_
  refine E_iload_n dX12_does_35 rfl ?_
  refine E_callV2 (fr' := 2) (k1 := 0) (n1 := 0) (k2 := 0) (n2 := 0) dX12_does_36 kO_X12_is kL_X12_288 (l_128 hL) (k_128 hL) ⟨by decide, rfl⟩ rfl rfl (by decide) (by decide) (by exact Nat.le_of_ble_eq_true rfl) rfl ?_
  refine sp_X12_is h (by omega) ?_
  refine gKv ?_
  refine E_if_ne_b (tgt := 45) dX12_does_39 (by decide) (fun c_39 => ?_) (fun c_39 => ?_)
  · refine E_aload_n dX12_does_45 rfl ?_
    refine E_getRL dX12_does_46 kF_X12_13 kY_12 (Or.inr ⟨_, rfl⟩) (l_128 hL) (k_128 hL) (r_128_3 hL) ?_
    refine E_iload_n dX12_does_49 rfl ?_
    refine E_ialdL (v := nI 1) dX12_does_50 (l_130 hL) (k_130 hL) rfl (by first | omega | exact h.n256 _) (by decide) (by rw [h.gc (Or.inl ⟨by decide, by decide, by decide⟩), hkd]) ?_
    refine E_if_ne (tgt := 66) dX12_does_51 (by decide) (fun _ => ?_) (fun c0 => absurd (by decide) c0)
    refine E_aload_n dX12_does_66 rfl ?_
    refine E_getRL dX12_does_67 kF_X12_13 kY_12 (Or.inr ⟨_, rfl⟩) (l_128 hL) (k_128 hL) (r_128_3 hL) ?_
    refine E_iload_n dX12_does_70 rfl ?_
    refine E_ialdL (v := nI 1) dX12_does_71 (l_130 hL) (k_130 hL) rfl (by first | omega | exact h.n256 _) (by decide) (by rw [h.gc (Or.inl ⟨by decide, by decide, by decide⟩), hkd]) ?_
    refine E_iconst (v := nI 2) dX12_does_72 (by decide) ?_
    refine E_icmp_ne (tgt := 130) dX12_does_73 (by decide) (fun _ => ?_) (fun c0 => absurd (by decide) c0)
    refine E_aload_n dX12_does_130 rfl ?_
    refine E_getRL dX12_does_131 kF_X12_13 kY_12 (Or.inr ⟨_, rfl⟩) (l_128 hL) (k_128 hL) (r_128_3 hL) ?_
    refine E_iload_n dX12_does_134 rfl ?_
    refine E_ialdL (v := nI 1) dX12_does_135 (l_130 hL) (k_130 hL) rfl (by first | omega | exact h.n256 _) (by decide) (by rw [h.gc (Or.inl ⟨by decide, by decide, by decide⟩), hkd]) ?_
    refine E_iconst (v := nI 1) dX12_does_136 (by decide) ?_
    refine E_icmp_ne_r (tgt := 154) dX12_does_137 (by decide) (fun c0 => absurd c0 (by decide)) (fun _ => ?_)
    refine E_aload_n dX12_does_140 rfl ?_
    refine E_iload_n dX12_does_141 rfl ?_
    refine E_iload dX12_does_142 rfl ?_
    refine E_iload dX12_does_144 rfl ?_
    refine E_iload dX12_does_146 rfl ?_
    refine E_callV4 (fr' := 3) (k1 := 0) (n1 := 0) (k2 := 0) (n2 := 0) dX12_does_148 kO_X12_puts kL_X12_309 (l_128 hL) (k_128 hL) ⟨by decide, rfl⟩ rfl rfl rfl rfl (by decide) (by decide) (by exact Nat.le_of_ble_eq_true rfl) rfl ?_
    refine sp_X12_puts h hi hr.2.1 hr.2.2.1 hr.2.2.2 (fun hn => ?_) (fun hn M h => ?_)
    · refine gKv ?_
      refine E_goto (tgt := 166) dX12_does_151 (by decide) ?_
      refine E_iret dX12_does_166 (Or.inl rfl) ?_
      exact K0 (fun q => by rcases q.2 with q | q | q | q <;> omega)
    · refine gKv ?_
      refine E_goto (tgt := 166) dX12_does_151 (by decide) ?_
      refine E_iret dX12_does_166 (Or.inl rfl) ?_
      exact K ⟨c_39, Or.inr (Or.inl ⟨hkd, hn⟩)⟩ _ h
  · refine E_bipush (v := -100) dX12_does_42 (by decide) ?_
    refine E_iret dX12_does_44 (Or.inl rfl) ?_
    exact K0 (fun q => c_39 q.1)
set_option maxRecDepth 100000 in
set_option maxHeartbeats 4000000 in
theorem sp_X12_does2 {g : gG} {M : gM} {Q : Option Value ⊕ String → gM → Prop} {c : Cf} {f : Nat} {M0 : gM} {L : List Gl} {w : Int32} (h : mX c f M0 L w M) {l k i : Nat} (hl : l < 24) (hk : k < cN c 135 l) (hi : i < L.length) (hkd : cN c 130 l = 2) (K0 : ¬ fit c f L l k i → Q (.inl (some (.int (-100)))) M) (K : fit c f L l k i → ∀ M, mX c f M0 (chgL c f L l k i) (chgW c f L w l k i) M → Q (.inl (some (.int (nI (chgI c l k i))))) M) : E g 6 0 0 mX12_does 0 [.ref 129, .int (nI l), .int (nI k), .int (nI i), .null, .null, .null] [] M Q := by
  have hL := h.lay
  have hf := h.hf
  have hn := h.len
  have hk8 := (h.wf.lk l).2.2.2.2.2
  have he4 := h.e4 i
  have hr := h.wf.ru hk
  rw [hkd] at hr
  have hr := iF2 hr.1
  have e1 : chgL c f L l k i = _ := (cI_f (by omega)).trans ((cI_f (by omega)).trans (cI_t hkd))
  have e2 : chgW c f L w l k i = _ := (cI_f (by omega)).trans ((cI_f (by omega)).trans (cI_t hkd))
  have e3 : chgI c l k i = _ := cI_f (by omega)
  rw [e1, e2, e3] at K
  refine E_aload_n dX12_does_0 rfl ?_
  refine E_iload_n dX12_does_1 rfl ?_
  refine E_iload_n dX12_does_2 rfl ?_
  refine E_iconst (v := nI 1) dX12_does_3 (by decide) ?_
  refine E_callV3 (fr' := 1) (k1 := 0) (n1 := 0) (k2 := 0) (n2 := 0) dX12_does_4 kO_X12_numberOf kL_X12_306 (l_128 hL) (k_128 hL) ⟨by decide, rfl⟩ rfl rfl rfl (by decide) (by decide) (by exact Nat.le_of_ble_eq_true rfl) rfl ?_
  refine sp_X12_numberOf h (by omega) (by omega) (by decide) ?_
  refine gKv ?_
  refine E_istore dX12_does_7 (Nat.le_of_ble_eq_true rfl) (by decide) rfl ?_
  refine E_aload_n dX12_does_9 rfl ?_
  refine E_iload_n dX12_does_10 rfl ?_
  refine E_iload_n dX12_does_11 rfl ?_
  refine E_iconst (v := nI 2) dX12_does_12 (by decide) ?_
  refine E_callV3 (fr' := 1) (k1 := 0) (n1 := 0) (k2 := 0) (n2 := 0) dX12_does_13 kO_X12_numberOf kL_X12_306 (l_128 hL) (k_128 hL) ⟨by decide, rfl⟩ rfl rfl rfl (by decide) (by decide) (by exact Nat.le_of_ble_eq_true rfl) rfl ?_
  refine sp_X12_numberOf h (by omega) (by omega) (by decide) ?_
  refine gKv ?_
  refine E_istore dX12_does_16 (Nat.le_of_ble_eq_true rfl) (by decide) rfl ?_
  refine E_aload_n dX12_does_18 rfl ?_
  refine E_iload_n dX12_does_19 rfl ?_
  refine E_iload_n dX12_does_20 rfl ?_
  refine E_iconst (v := nI 3) dX12_does_21 (by decide) ?_
  refine E_callV3 (fr' := 1) (k1 := 0) (n1 := 0) (k2 := 0) (n2 := 0) dX12_does_22 kO_X12_numberOf kL_X12_306 (l_128 hL) (k_128 hL) ⟨by decide, rfl⟩ rfl rfl rfl (by decide) (by decide) (by exact Nat.le_of_ble_eq_true rfl) rfl ?_
  refine sp_X12_numberOf h (by omega) (by omega) (by decide) ?_
  refine gKv ?_
  refine E_istore dX12_does_25 (Nat.le_of_ble_eq_true rfl) (by decide) rfl ?_
  refine E_aload_n dX12_does_27 rfl ?_
  refine E_aload_n dX12_does_28 rfl ?_
  refine E_iload_n dX12_does_29 rfl ?_
  refine E_iload_n dX12_does_30 rfl ?_
  refine E_iconst (v := nI 0) dX12_does_31 (by decide) ?_
  refine E_callV3 (fr' := 1) (k1 := 0) (n1 := 0) (k2 := 0) (n2 := 0) dX12_does_32 kO_X12_numberOf kL_X12_306 (l_128 hL) (k_128 hL) ⟨by decide, rfl⟩ rfl rfl rfl (by decide) (by decide) (by exact Nat.le_of_ble_eq_true rfl) rfl ?_
  refine sp_X12_numberOf h (by omega) (by omega) (by decide) ?_
  refine gKv ?_
  refine E_iload_n dX12_does_35 rfl ?_
  refine E_callV2 (fr' := 2) (k1 := 0) (n1 := 0) (k2 := 0) (n2 := 0) dX12_does_36 kO_X12_is kL_X12_288 (l_128 hL) (k_128 hL) ⟨by decide, rfl⟩ rfl rfl (by decide) (by decide) (by exact Nat.le_of_ble_eq_true rfl) rfl ?_
  refine sp_X12_is h (by omega) ?_
  refine gKv ?_
  refine E_if_ne_b (tgt := 45) dX12_does_39 (by decide) (fun c_39 => ?_) (fun c_39 => ?_)
  · refine E_aload_n dX12_does_45 rfl ?_
    refine E_getRL dX12_does_46 kF_X12_13 kY_12 (Or.inr ⟨_, rfl⟩) (l_128 hL) (k_128 hL) (r_128_3 hL) ?_
    refine E_iload_n dX12_does_49 rfl ?_
    refine E_ialdL (v := nI 2) dX12_does_50 (l_130 hL) (k_130 hL) rfl (by first | omega | exact h.n256 _) (by decide) (by rw [h.gc (Or.inl ⟨by decide, by decide, by decide⟩), hkd]) ?_
    refine E_if_ne (tgt := 66) dX12_does_51 (by decide) (fun _ => ?_) (fun c0 => absurd (by decide) c0)
    refine E_aload_n dX12_does_66 rfl ?_
    refine E_getRL dX12_does_67 kF_X12_13 kY_12 (Or.inr ⟨_, rfl⟩) (l_128 hL) (k_128 hL) (r_128_3 hL) ?_
    refine E_iload_n dX12_does_70 rfl ?_
    refine E_ialdL (v := nI 2) dX12_does_71 (l_130 hL) (k_130 hL) rfl (by first | omega | exact h.n256 _) (by decide) (by rw [h.gc (Or.inl ⟨by decide, by decide, by decide⟩), hkd]) ?_
    refine E_iconst (v := nI 2) dX12_does_72 (by decide) ?_
    refine E_icmp_ne_r (tgt := 130) dX12_does_73 (by decide) (fun c0 => absurd c0 (by decide)) (fun _ => ?_)
    refine E_aload_n dX12_does_76 rfl ?_
    refine E_getRL dX12_does_77 kF_X12_63 kY_12 (Or.inr ⟨_, rfl⟩) (l_128 hL) (k_128 hL) (r_128_22 hL) ?_
    refine E_iload_n dX12_does_80 rfl ?_
    refine E_aload_n dX12_does_81 rfl ?_
    refine E_getRL dX12_does_82 kF_X12_72 kY_12 (Or.inr ⟨_, rfl⟩) (l_128 hL) (k_128 hL) (r_128_25 hL) ?_
    refine E_iload_n dX12_does_85 rfl ?_
    refine E_ialdL (v := nI (yE (gat _ _))) dX12_does_86 (l_148 hL) (k_148 hL) rfl (by first | omega | exact h.n256 _) (by decide) (h.at (by omega)).2.2.2.1 ?_
    refine E_if_ne_n (tgt := 99) dX12_does_87 (by decide) (by omega) (fun c_87 => ?_) (fun c_87 => ?_)
    · refine E_aload_n dX12_does_99 rfl ?_
      refine E_iload_n dX12_does_100 rfl ?_
      refine E_iload_n dX12_does_101 rfl ?_
      refine E_aload_n dX12_does_102 rfl ?_
      refine E_getRL dX12_does_103 kF_X12_72 kY_12 (Or.inr ⟨_, rfl⟩) (l_128 hL) (k_128 hL) (r_128_25 hL) ?_
      refine E_iload_n dX12_does_106 rfl ?_
      refine E_ialdL (v := nI (yE (gat _ _))) dX12_does_107 (l_148 hL) (k_148 hL) rfl (by first | omega | exact h.n256 _) (by decide) (h.at (by omega)).2.2.2.1 ?_
      refine E_callV3 (fr' := 1) (k1 := 0) (n1 := 0) (k2 := 0) (n2 := 0) dX12_does_108 kO_X12_numberOf kL_X12_306 (l_128 hL) (k_128 hL) ⟨by decide, rfl⟩ rfl rfl rfl (by decide) (by decide) (by exact Nat.le_of_ble_eq_true rfl) rfl ?_
      refine sp_X12_numberOf h (by omega) (by omega) (by have := h.e4 i; omega) ?_
      refine gKv ?_
      refine E_iast dX12_does_111 (l_145 hL) (k_145 hL) rfl (by first | omega | exact h.n256 _) (by decide) ?_
      refine E_aload_n dX12_does_112 rfl ?_
      refine E_getRL dX12_does_113 kF_X12_72 kY_12 (Or.inr ⟨_, rfl⟩) (l_128 hL) (k_128 hL) (r_128_25 hL) ?_
      refine E_iload_n dX12_does_116 rfl ?_
      refine E_ialdL (v := nI (yE (gat _ _))) dX12_does_117 (l_148 hL) (k_148 hL) rfl (by first | omega | exact h.n256 _) (by decide) (h.at (by omega)).2.2.2.1 ?_
      refine E_if_ne_n (tgt := 126) dX12_does_118 (by decide) (by omega) (fun c_118 => ?_) (fun c_118 => ?_)
      · refine E_iload_n dX12_does_126 rfl ?_
        refine E_iconst (v := nI 1) dX12_does_127 (by decide) ?_
        refine E_iadd_n dX12_does_128 ?_
        refine E_iret dX12_does_129 (Or.inl rfl) ?_
        first
          | (exfalso; omega)
          | (refine Q_mem (sI_same (h.at hi).1) (K0 (fun q => ?_)); rcases q.2 with q | q | q | q <;> omega)
          | (have he := h.e4 i
             have hg : iGlyph (rul c l k (yE (gat L i))) := by
               rcases (show yE (gat L i) = 1 ∨ yE (gat L i) = 2 ∨ yE (gat L i) = 3 by omega) with q | q | q <;> rw [q]
               · exact hr.2.1
               · exact hr.2.2.1
               · exact hr.2.2.2
             obtain ⟨b1, b2⟩ := gN_ok hg (by decide)
             have h5 := h.putN (v := gN (rul c l k (yE (gat L i)))) hi (by omega)
             rw [← b1] at h5
             exact K ⟨c_39, Or.inr (Or.inr (Or.inl ⟨hkd, by omega⟩))⟩ _ h5)
      · refine E_bipush (v := -100) dX12_does_121 (by decide) ?_
        refine E_goto (tgt := 129) dX12_does_123 (by decide) ?_
        refine E_iret dX12_does_129 (Or.inl rfl) ?_
        first
          | (exfalso; omega)
          | (refine Q_mem (sI_same (h.at hi).1) (K0 (fun q => ?_)); rcases q.2 with q | q | q | q <;> omega)
          | (have he := h.e4 i
             have hg : iGlyph (rul c l k (yE (gat L i))) := by
               rcases (show yE (gat L i) = 1 ∨ yE (gat L i) = 2 ∨ yE (gat L i) = 3 by omega) with q | q | q <;> rw [q]
               · exact hr.2.1
               · exact hr.2.2.1
               · exact hr.2.2.2
             obtain ⟨b1, b2⟩ := gN_ok hg (by decide)
             have h5 := h.putN (v := gN (rul c l k (yE (gat L i)))) hi (by omega)
             rw [← b1] at h5
             exact K ⟨c_39, Or.inr (Or.inr (Or.inl ⟨hkd, by omega⟩))⟩ _ h5)
    · refine E_aload_n dX12_does_90 rfl ?_
      refine E_getRL dX12_does_91 kF_X12_63 kY_12 (Or.inr ⟨_, rfl⟩) (l_128 hL) (k_128 hL) (r_128_22 hL) ?_
      refine E_iload_n dX12_does_94 rfl ?_
      refine E_ialdL (v := nI (yN (gat _ _))) dX12_does_95 (l_145 hL) (k_145 hL) rfl (by first | omega | exact h.n256 _) (by decide) (h.at (by omega)).1 ?_
      refine E_goto (tgt := 111) dX12_does_96 (by decide) ?_
      refine E_iast dX12_does_111 (l_145 hL) (k_145 hL) rfl (by first | omega | exact h.n256 _) (by decide) ?_
      refine E_aload_n dX12_does_112 rfl ?_
      refine E_getRL dX12_does_113 kF_X12_72 kY_12 (Or.inr ⟨_, rfl⟩) (l_128 hL) (k_128 hL) (r_128_25 hL) ?_
      refine E_iload_n dX12_does_116 rfl ?_
      refine E_ialdL (v := nI (yE (gat _ _))) dX12_does_117 (l_148 hL) (k_148 hL) rfl (by first | omega | exact h.n256 _) (by decide) (h.at (by omega)).2.2.2.1 ?_
      refine E_if_ne_n (tgt := 126) dX12_does_118 (by decide) (by omega) (fun c_118 => ?_) (fun c_118 => ?_)
      · refine E_iload_n dX12_does_126 rfl ?_
        refine E_iconst (v := nI 1) dX12_does_127 (by decide) ?_
        refine E_iadd_n dX12_does_128 ?_
        refine E_iret dX12_does_129 (Or.inl rfl) ?_
        first
          | (exfalso; omega)
          | (refine Q_mem (sI_same (h.at hi).1) (K0 (fun q => ?_)); rcases q.2 with q | q | q | q <;> omega)
          | (have he := h.e4 i
             have hg : iGlyph (rul c l k (yE (gat L i))) := by
               rcases (show yE (gat L i) = 1 ∨ yE (gat L i) = 2 ∨ yE (gat L i) = 3 by omega) with q | q | q <;> rw [q]
               · exact hr.2.1
               · exact hr.2.2.1
               · exact hr.2.2.2
             obtain ⟨b1, b2⟩ := gN_ok hg (by decide)
             have h5 := h.putN (v := gN (rul c l k (yE (gat L i)))) hi (by omega)
             rw [← b1] at h5
             exact K ⟨c_39, Or.inr (Or.inr (Or.inl ⟨hkd, by omega⟩))⟩ _ h5)
      · refine E_bipush (v := -100) dX12_does_121 (by decide) ?_
        refine E_goto (tgt := 129) dX12_does_123 (by decide) ?_
        refine E_iret dX12_does_129 (Or.inl rfl) ?_
        first
          | (exfalso; omega)
          | (refine Q_mem (sI_same (h.at hi).1) (K0 (fun q => ?_)); rcases q.2 with q | q | q | q <;> omega)
          | (have he := h.e4 i
             have hg : iGlyph (rul c l k (yE (gat L i))) := by
               rcases (show yE (gat L i) = 1 ∨ yE (gat L i) = 2 ∨ yE (gat L i) = 3 by omega) with q | q | q <;> rw [q]
               · exact hr.2.1
               · exact hr.2.2.1
               · exact hr.2.2.2
             obtain ⟨b1, b2⟩ := gN_ok hg (by decide)
             have h5 := h.putN (v := gN (rul c l k (yE (gat L i)))) hi (by omega)
             rw [← b1] at h5
             exact K ⟨c_39, Or.inr (Or.inr (Or.inl ⟨hkd, by omega⟩))⟩ _ h5)
  · refine E_bipush (v := -100) dX12_does_42 (by decide) ?_
    refine E_iret dX12_does_44 (Or.inl rfl) ?_
    exact K0 (fun q => c_39 q.1)
set_option maxRecDepth 100000 in
set_option maxHeartbeats 4000000 in
theorem sp_X12_does3 {g : gG} {M : gM} {Q : Option Value ⊕ String → gM → Prop} {c : Cf} {f : Nat} {M0 : gM} {L : List Gl} {w : Int32} (h : mX c f M0 L w M) {l k i : Nat} (hl : l < 24) (hk : k < cN c 135 l) (hi : i < L.length) (hkd : cN c 130 l = 3) (K0 : ¬ fit c f L l k i → Q (.inl (some (.int (-100)))) M) (K : fit c f L l k i → ∀ M, mX c f M0 (chgL c f L l k i) (chgW c f L w l k i) M → Q (.inl (some (.int (nI (chgI c l k i))))) M) : E g 6 0 0 mX12_does 0 [.ref 129, .int (nI l), .int (nI k), .int (nI i), .null, .null, .null] [] M Q := by
  have hL := h.lay
  have hf := h.hf
  have hn := h.len
  have hk8 := (h.wf.lk l).2.2.2.2.2
  have he4 := h.e4 i
  have hr := h.wf.ru hk
  rw [hkd] at hr
  have hr := iF3 hr.1
  have e1 : chgL c f L l k i = _ := (cI_f (by omega)).trans ((cI_f (by omega)).trans (cI_f (by omega)))
  have e2 : chgW c f L w l k i = _ := (cI_f (by omega)).trans ((cI_f (by omega)).trans (cI_f (by omega)))
  have e3 : chgI c l k i = _ := cI_f (by omega)
  obtain ⟨b1, b2⟩ := gN_ok hr.2.2.2 (by decide)
  rw [e1, e2, e3] at K
  refine E_aload_n dX12_does_0 rfl ?_
  refine E_iload_n dX12_does_1 rfl ?_
  refine E_iload_n dX12_does_2 rfl ?_
  refine E_iconst (v := nI 1) dX12_does_3 (by decide) ?_
  refine E_callV3 (fr' := 1) (k1 := 0) (n1 := 0) (k2 := 0) (n2 := 0) dX12_does_4 kO_X12_numberOf kL_X12_306 (l_128 hL) (k_128 hL) ⟨by decide, rfl⟩ rfl rfl rfl (by decide) (by decide) (by exact Nat.le_of_ble_eq_true rfl) rfl ?_
  refine sp_X12_numberOf h (by omega) (by omega) (by decide) ?_
  refine gKv ?_
  refine E_istore dX12_does_7 (Nat.le_of_ble_eq_true rfl) (by decide) rfl ?_
  refine E_aload_n dX12_does_9 rfl ?_
  refine E_iload_n dX12_does_10 rfl ?_
  refine E_iload_n dX12_does_11 rfl ?_
  refine E_iconst (v := nI 2) dX12_does_12 (by decide) ?_
  refine E_callV3 (fr' := 1) (k1 := 0) (n1 := 0) (k2 := 0) (n2 := 0) dX12_does_13 kO_X12_numberOf kL_X12_306 (l_128 hL) (k_128 hL) ⟨by decide, rfl⟩ rfl rfl rfl (by decide) (by decide) (by exact Nat.le_of_ble_eq_true rfl) rfl ?_
  refine sp_X12_numberOf h (by omega) (by omega) (by decide) ?_
  refine gKv ?_
  refine E_istore dX12_does_16 (Nat.le_of_ble_eq_true rfl) (by decide) rfl ?_
  refine E_aload_n dX12_does_18 rfl ?_
  refine E_iload_n dX12_does_19 rfl ?_
  refine E_iload_n dX12_does_20 rfl ?_
  refine E_iconst (v := nI 3) dX12_does_21 (by decide) ?_
  refine E_callV3 (fr' := 1) (k1 := 0) (n1 := 0) (k2 := 0) (n2 := 0) dX12_does_22 kO_X12_numberOf kL_X12_306 (l_128 hL) (k_128 hL) ⟨by decide, rfl⟩ rfl rfl rfl (by decide) (by decide) (by exact Nat.le_of_ble_eq_true rfl) rfl ?_
  refine sp_X12_numberOf h (by omega) (by omega) (by decide) ?_
  refine gKv ?_
  refine E_istore dX12_does_25 (Nat.le_of_ble_eq_true rfl) (by decide) rfl ?_
  refine E_aload_n dX12_does_27 rfl ?_
  refine E_aload_n dX12_does_28 rfl ?_
  refine E_iload_n dX12_does_29 rfl ?_
  refine E_iload_n dX12_does_30 rfl ?_
  refine E_iconst (v := nI 0) dX12_does_31 (by decide) ?_
  refine E_callV3 (fr' := 1) (k1 := 0) (n1 := 0) (k2 := 0) (n2 := 0) dX12_does_32 kO_X12_numberOf kL_X12_306 (l_128 hL) (k_128 hL) ⟨by decide, rfl⟩ rfl rfl rfl (by decide) (by decide) (by exact Nat.le_of_ble_eq_true rfl) rfl ?_
  refine sp_X12_numberOf h (by omega) (by omega) (by decide) ?_
  refine gKv ?_
  refine E_iload_n dX12_does_35 rfl ?_
  refine E_callV2 (fr' := 2) (k1 := 0) (n1 := 0) (k2 := 0) (n2 := 0) dX12_does_36 kO_X12_is kL_X12_288 (l_128 hL) (k_128 hL) ⟨by decide, rfl⟩ rfl rfl (by decide) (by decide) (by exact Nat.le_of_ble_eq_true rfl) rfl ?_
  refine sp_X12_is h (by omega) ?_
  refine gKv ?_
  refine E_if_ne_b (tgt := 45) dX12_does_39 (by decide) (fun c_39 => ?_) (fun c_39 => ?_)
  · refine E_aload_n dX12_does_45 rfl ?_
    refine E_getRL dX12_does_46 kF_X12_13 kY_12 (Or.inr ⟨_, rfl⟩) (l_128 hL) (k_128 hL) (r_128_3 hL) ?_
    refine E_iload_n dX12_does_49 rfl ?_
    refine E_ialdL (v := nI 3) dX12_does_50 (l_130 hL) (k_130 hL) rfl (by first | omega | exact h.n256 _) (by decide) (by rw [h.gc (Or.inl ⟨by decide, by decide, by decide⟩), hkd]) ?_
    refine E_if_ne (tgt := 66) dX12_does_51 (by decide) (fun _ => ?_) (fun c0 => absurd (by decide) c0)
    refine E_aload_n dX12_does_66 rfl ?_
    refine E_getRL dX12_does_67 kF_X12_13 kY_12 (Or.inr ⟨_, rfl⟩) (l_128 hL) (k_128 hL) (r_128_3 hL) ?_
    refine E_iload_n dX12_does_70 rfl ?_
    refine E_ialdL (v := nI 3) dX12_does_71 (l_130 hL) (k_130 hL) rfl (by first | omega | exact h.n256 _) (by decide) (by rw [h.gc (Or.inl ⟨by decide, by decide, by decide⟩), hkd]) ?_
    refine E_iconst (v := nI 2) dX12_does_72 (by decide) ?_
    refine E_icmp_ne (tgt := 130) dX12_does_73 (by decide) (fun _ => ?_) (fun c0 => absurd (by decide) c0)
    refine E_aload_n dX12_does_130 rfl ?_
    refine E_getRL dX12_does_131 kF_X12_13 kY_12 (Or.inr ⟨_, rfl⟩) (l_128 hL) (k_128 hL) (r_128_3 hL) ?_
    refine E_iload_n dX12_does_134 rfl ?_
    refine E_ialdL (v := nI 3) dX12_does_135 (l_130 hL) (k_130 hL) rfl (by first | omega | exact h.n256 _) (by decide) (by rw [h.gc (Or.inl ⟨by decide, by decide, by decide⟩), hkd]) ?_
    refine E_iconst (v := nI 1) dX12_does_136 (by decide) ?_
    refine E_icmp_ne (tgt := 154) dX12_does_137 (by decide) (fun _ => ?_) (fun c0 => absurd (by decide) c0)
    refine E_aload_n dX12_does_154 rfl ?_
    refine E_iload_n dX12_does_155 rfl ?_
    refine E_iload_n dX12_does_156 rfl ?_
    refine E_iload dX12_does_157 rfl ?_
    refine E_iload dX12_does_159 rfl ?_
    refine E_iload dX12_does_161 rfl ?_
    refine E_callV5 (fr' := 5) (k1 := 0) (n1 := 0) (k2 := 0) (n2 := 0) dX12_does_163 kO_X12_ligates kL_X12_313 (l_128 hL) (k_128 hL) ⟨by decide, rfl⟩ rfl rfl rfl rfl rfl (by decide) (by decide) (by exact Nat.le_of_ble_eq_true rfl) rfl ?_
    refine sp_X12_ligates h (by omega) hi b1 (by omega) (fun hn => ?_) (fun hn M h => ?_)
    · refine gKv ?_
      refine E_iret dX12_does_166 (Or.inl rfl) ?_
      exact K0 (fun q => by rcases q.2 with q | q | q | q; omega; omega; omega; exact hn q.2)
    · refine gKv ?_
      refine E_iret dX12_does_166 (Or.inl rfl) ?_
      exact K ⟨c_39, Or.inr (Or.inr (Or.inr ⟨hkd, hn⟩))⟩ _ h
  · refine E_bipush (v := -100) dX12_does_42 (by decide) ?_
    refine E_iret dX12_does_44 (Or.inl rfl) ?_
    exact K0 (fun q => c_39 q.1)
theorem sp_X12_does {g : gG} {M : gM} {Q : Option Value ⊕ String → gM → Prop} {c : Cf} {f : Nat} {M0 : gM} {L : List Gl} {w : Int32} (h : mX c f M0 L w M) {l k i : Nat} (hl : l < 24) (hk : k < cN c 135 l) (hi : i < L.length) (hkd : cN c 130 l ≤ 3) (K0 : ¬ fit c f L l k i → Q (.inl (some (.int (-100)))) M) (K : fit c f L l k i → ∀ M, mX c f M0 (chgL c f L l k i) (chgW c f L w l k i) M → Q (.inl (some (.int (nI (chgI c l k i))))) M) : E g 6 0 0 mX12_does 0 [.ref 129, .int (nI l), .int (nI k), .int (nI i), .null, .null, .null] [] M Q := by
  rcases (show cN c 130 l = 0 ∨ cN c 130 l = 1 ∨ cN c 130 l = 2 ∨ cN c 130 l = 3 by omega) with q | q | q | q
  · exact sp_X12_does0 h hl hk hi q K0 K
  · exact sp_X12_does1 h hl hk hi q K0 K
  · exact sp_X12_does2 h hl hk hi q K0 K
  · exact sp_X12_does3 h hl hk hi q K0 K
noncomputable def ffA (c : Cf) (f : Nat) (L : List Gl) (l i : Nat) : Nat := fnd (fun k => fit c f L l k i) (cN c 135 l) 0
set_option maxRecDepth 100000 in
set_option maxHeartbeats 4000000 in
theorem lp_X12_doesFirst {g : gG} {M : gM} {Q : Option Value ⊕ String → gM → Prop} {c : Cf} {f : Nat} {M0 : gM} {L : List Gl} {w : Int32} (h : mX c f M0 L w M) {l i : Nat} (hl : l < 24) (hi : i < L.length) (hkd : cN c 130 l ≤ 3) (K0 : ¬ ffA c f L l i < cN c 135 l → Q (.inl (some (.int (-100)))) M) (K : ffA c f L l i < cN c 135 l → ∀ M, mX c f M0 (chgL c f L l (ffA c f L l i) i) (chgW c f L w l (ffA c f L l i) i) M → Q (.inl (some (.int (nI (chgI c l (ffA c f L l i) i))))) M) : ∀ k, k ≤ cN c 135 l → fnd (fun k => fit c f L l k i) (cN c 135 l) k = ffA c f L l i → E g 7 0 0 mX12_doesFirst 6 [.ref 129, .int (nI l), .int (nI i), .int (-100), .int (nI k)] [] M Q := by
  have hL := h.lay
  have hf := h.hf
  have hn := h.len
  have hk8 := (h.wf.lk l).2.2.2.2.2
  refine lpUp (cN c 135 l) (fun k hk ih => ?_)
  intro he
  refine E_iload dX12_doesFirst_6 rfl ?_
  refine E_aload_n dX12_doesFirst_8 rfl ?_
  refine E_getRL dX12_doesFirst_9 kF_X12_28 kY_12 (Or.inr ⟨_, rfl⟩) (l_128 hL) (k_128 hL) (r_128_8 hL) ?_
  refine E_iload_n dX12_doesFirst_12 rfl ?_
  refine E_ialdL (v := nI (cN _ 135 _)) dX12_doesFirst_13 (l_135 hL) (k_135 hL) rfl (by first | omega | exact h.n256 _) (by decide) (h.gc (Or.inl ⟨by decide, by decide, by decide⟩)) ?_
  refine E_icmp_ge_n (tgt := 38) dX12_doesFirst_14 (by decide) (by omega) (by omega) (fun c_14 => ?_) (fun c_14 => ?_)
  · refine E_iload_n dX12_doesFirst_38 rfl ?_
    refine E_iret dX12_doesFirst_39 (Or.inl rfl) ?_
    exact K0 (by rw [← he, fnd_end c_14]; omega)
  · refine E_iload_n dX12_doesFirst_17 rfl ?_
    refine E_bipush (v := -100) dX12_doesFirst_18 (by decide) ?_
    refine E_icmp_ne_r (tgt := 38) dX12_doesFirst_20 (by decide) (fun c0 => absurd c0 (by decide)) (fun _ => ?_)
    refine E_aload_n dX12_doesFirst_23 rfl ?_
    refine E_iload_n dX12_doesFirst_24 rfl ?_
    refine E_iload dX12_doesFirst_25 rfl ?_
    refine E_iload_n dX12_doesFirst_27 rfl ?_
    refine E_callV3 (fr' := 6) (k1 := 0) (n1 := 0) (k2 := 0) (n2 := 0) dX12_doesFirst_28 kO_X12_does kL_X12_326 (l_128 hL) (k_128 hL) ⟨by decide, rfl⟩ rfl rfl rfl (by decide) (by decide) (by exact Nat.le_of_ble_eq_true rfl) rfl ?_
    refine sp_X12_does h hl c_14 hi hkd (fun hn => ?_) (fun hn M h => ?_)
    · refine gKv ?_
      refine E_istore_n dX12_doesFirst_31 (Nat.le_of_ble_eq_true rfl) (by decide) rfl ?_
      refine E_iinc_n (d := 1) dX12_doesFirst_32 rfl rfl rfl (by decide) rfl ?_
      refine E_goto (tgt := 6) dX12_doesFirst_35 (by decide) ?_
      exact ih c_14 (by rw [← he]; exact (fnd_skip c_14 hn).symm)
    · have he2 := he
      rw [fnd_hit c_14 hn] at he2
      subst he2
      have hL := h.lay
      have hx := chgI_b c l (ffA c f L l i) i
      refine gKv ?_
      refine E_istore_n dX12_doesFirst_31 (Nat.le_of_ble_eq_true rfl) (by decide) rfl ?_
      refine E_iinc_n (d := 1) dX12_doesFirst_32 rfl rfl rfl (by decide) rfl ?_
      refine E_goto (tgt := 6) dX12_doesFirst_35 (by decide) ?_
      refine E_iload dX12_doesFirst_6 rfl ?_
      refine E_aload_n dX12_doesFirst_8 rfl ?_
      refine E_getRL dX12_doesFirst_9 kF_X12_28 kY_12 (Or.inr ⟨_, rfl⟩) (l_128 hL) (k_128 hL) (r_128_8 hL) ?_
      refine E_iload_n dX12_doesFirst_12 rfl ?_
      refine E_ialdL (v := nI (cN _ 135 _)) dX12_doesFirst_13 (l_135 hL) (k_135 hL) rfl (by first | omega | exact h.n256 _) (by decide) (h.gc (Or.inl ⟨by decide, by decide, by decide⟩)) ?_
      refine E_icmp_ge_n (tgt := 38) dX12_doesFirst_14 (by decide) (by omega) (by omega) (fun e_14 => ?_) (fun e_14 => ?_)
      · refine E_iload_n dX12_doesFirst_38 rfl ?_
        refine E_iret dX12_doesFirst_39 (Or.inl rfl) ?_
        exact K c_14 _ h
      · refine E_iload_n dX12_doesFirst_17 rfl ?_
        refine E_bipush (v := -100) dX12_doesFirst_18 (by decide) ?_
        refine E_icmp_ne (tgt := 38) dX12_doesFirst_20 (by decide) (fun _ => ?_) (fun c0 => absurd (nI_ne100 (by omega)) c0)
        refine E_iload_n dX12_doesFirst_38 rfl ?_
        refine E_iret dX12_doesFirst_39 (Or.inl rfl) ?_
        exact K c_14 _ h
set_option maxRecDepth 100000 in
set_option maxHeartbeats 4000000 in
theorem sp_X12_doesFirst {g : gG} {M : gM} {Q : Option Value ⊕ String → gM → Prop} {c : Cf} {f : Nat} {M0 : gM} {L : List Gl} {w : Int32} (h : mX c f M0 L w M) {l i : Nat} (hl : l < 24) (hi : i < L.length) (hkd : cN c 130 l ≤ 3) (K0 : ¬ ffA c f L l i < cN c 135 l → Q (.inl (some (.int (-100)))) M) (K : ffA c f L l i < cN c 135 l → ∀ M, mX c f M0 (chgL c f L l (ffA c f L l i) i) (chgW c f L w l (ffA c f L l i) i) M → Q (.inl (some (.int (nI (chgI c l (ffA c f L l i) i))))) M) : E g 7 0 0 mX12_doesFirst 0 [.ref 129, .int (nI l), .int (nI i), .null, .null] [] M Q := by
  have hL := h.lay
  have hf := h.hf
  have hn := h.len
  refine E_bipush (v := -100) dX12_doesFirst_0 (by decide) ?_
  refine E_istore_n dX12_doesFirst_2 (Nat.le_of_ble_eq_true rfl) (by decide) rfl ?_
  refine E_iconst (v := nI 0) dX12_doesFirst_3 (by decide) ?_
  refine E_istore dX12_doesFirst_4 (Nat.le_of_ble_eq_true rfl) (by decide) rfl ?_
  exact lp_X12_doesFirst h hl hi hkd K0 K 0 (Nat.zero_le _) rfl
