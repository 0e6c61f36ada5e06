/-! the reference: what it does to its row -/
set_option maxRecDepth 100000 in
set_option maxHeartbeats 4000000 in
theorem sp_X12_copies {g : gG} {M : gM} {Q : Option Value ⊕ String → gM → Prop} {c : Cf} {f : Nat} {M0 : gM} {n : Nat} {r : Nat → Option Gl} {w : Int32} (h : mY c f M0 n r w M) {a b : Nat} (ha : a < 72) (hb : b < 72) (K : ∀ M, mY c f M0 n (rup r b (r a)) w M → Q (.inl none) M) : E g 1 0 0 mX12_copies 0 [.ref 129, .int (nI a), .int (nI b)] [] M Q := by
  have hL := h.lay
  have hf := h.hf
  refine E_aload_n dX12_copies_0 rfl ?_
  refine E_getRL dX12_copies_1 kF_X12_63 kY_12 (Or.inr ⟨_, rfl⟩) (l_128 hL) (k_128 hL) (r_128_22 hL) ?_
  refine E_iload_n dX12_copies_4 rfl ?_
  refine E_aload_n dX12_copies_5 rfl ?_
  refine E_getRL dX12_copies_6 kF_X12_63 kY_12 (Or.inr ⟨_, rfl⟩) (l_128 hL) (k_128 hL) (r_128_22 hL) ?_
  refine E_iload_n dX12_copies_9 rfl ?_
  refine E_iald dX12_copies_10 (l_145 hL) (k_145 hL) rfl (by omega) (by decide) ?_
  refine E_iast dX12_copies_11 (l_145 hL) (k_145 hL) rfl (by omega) (by decide) ?_
  refine E_aload_n dX12_copies_12 rfl ?_
  refine E_getRL dX12_copies_13 kF_X12_66 kY_12 (Or.inr ⟨_, rfl⟩) (l_128 hL) (k_128 hL) (r_128_23 hL) ?_
  refine E_iload_n dX12_copies_16 rfl ?_
  refine E_aload_n dX12_copies_17 rfl ?_
  refine E_getRL dX12_copies_18 kF_X12_66 kY_12 (Or.inr ⟨_, rfl⟩) (l_128 hL) (k_128 hL) (r_128_23 hL) ?_
  refine E_iload_n dX12_copies_21 rfl ?_
  refine E_iald dX12_copies_22 (l_146 hL) (k_146 hL) rfl (by omega) (by decide) ?_
  refine E_iast dX12_copies_23 (l_146 hL) (k_146 hL) rfl (by omega) (by decide) ?_
  refine E_aload_n dX12_copies_24 rfl ?_
  refine E_getRL dX12_copies_25 kF_X12_72 kY_12 (Or.inr ⟨_, rfl⟩) (l_128 hL) (k_128 hL) (r_128_25 hL) ?_
  refine E_iload_n dX12_copies_28 rfl ?_
  refine E_aload_n dX12_copies_29 rfl ?_
  refine E_getRL dX12_copies_30 kF_X12_72 kY_12 (Or.inr ⟨_, rfl⟩) (l_128 hL) (k_128 hL) (r_128_25 hL) ?_
  refine E_iload_n dX12_copies_33 rfl ?_
  refine E_iald dX12_copies_34 (l_148 hL) (k_148 hL) rfl (by omega) (by decide) ?_
  refine E_iast dX12_copies_35 (l_148 hL) (k_148 hL) rfl (by omega) (by decide) ?_
  refine E_aload_n dX12_copies_36 rfl ?_
  refine E_getRL dX12_copies_37 kF_X12_69 kY_12 (Or.inr ⟨_, rfl⟩) (l_128 hL) (k_128 hL) (r_128_24 hL) ?_
  refine E_iload_n dX12_copies_40 rfl ?_
  refine E_aload_n dX12_copies_41 rfl ?_
  refine E_getRL dX12_copies_42 kF_X12_69 kY_12 (Or.inr ⟨_, rfl⟩) (l_128 hL) (k_128 hL) (r_128_24 hL) ?_
  refine E_iload_n dX12_copies_45 rfl ?_
  refine E_iald dX12_copies_46 (l_147 hL) (k_147 hL) rfl (by omega) (by decide) ?_
  refine E_iast dX12_copies_47 (l_147 hL) (k_147 hL) rfl (by omega) (by decide) ?_
  refine E_aload_n dX12_copies_48 rfl ?_
  refine E_getRL dX12_copies_49 kF_X12_75 kY_12 (Or.inr ⟨_, rfl⟩) (l_128 hL) (k_128 hL) (r_128_26 hL) ?_
  refine E_iload_n dX12_copies_52 rfl ?_
  refine E_aload_n dX12_copies_53 rfl ?_
  refine E_getRL dX12_copies_54 kF_X12_75 kY_12 (Or.inr ⟨_, rfl⟩) (l_128 hL) (k_128 hL) (r_128_26 hL) ?_
  refine E_iload_n dX12_copies_57 rfl ?_
  refine E_iald dX12_copies_58 (l_149 hL) (k_149 hL) rfl (by omega) (by decide) ?_
  refine E_iast dX12_copies_59 (l_149 hL) (k_149 hL) rfl (by omega) (by decide) ?_
  refine E_aload_n dX12_copies_60 rfl ?_
  refine E_getRL dX12_copies_61 kF_X12_78 kY_12 (Or.inr ⟨_, rfl⟩) (l_128 hL) (k_128 hL) (r_128_27 hL) ?_
  refine E_iload_n dX12_copies_64 rfl ?_
  refine E_aload_n dX12_copies_65 rfl ?_
  refine E_getRL dX12_copies_66 kF_X12_78 kY_12 (Or.inr ⟨_, rfl⟩) (l_128 hL) (k_128 hL) (r_128_27 hL) ?_
  refine E_iload_n dX12_copies_69 rfl ?_
  refine E_iald dX12_copies_70 (l_150 hL) (k_150 hL) rfl (by omega) (by decide) ?_
  refine E_iast dX12_copies_71 (l_150 hL) (k_150 hL) rfl (by omega) (by decide) ?_
  refine E_aload_n dX12_copies_72 rfl ?_
  refine E_getRL dX12_copies_73 kF_X12_81 kY_12 (Or.inr ⟨_, rfl⟩) (l_128 hL) (k_128 hL) (r_128_28 hL) ?_
  refine E_iload_n dX12_copies_76 rfl ?_
  refine E_aload_n dX12_copies_77 rfl ?_
  refine E_getRL dX12_copies_78 kF_X12_81 kY_12 (Or.inr ⟨_, rfl⟩) (l_128 hL) (k_128 hL) (r_128_28 hL) ?_
  refine E_iload_n dX12_copies_81 rfl ?_
  refine E_iald dX12_copies_82 (l_151 hL) (k_151 hL) rfl (by omega) (by decide) ?_
  refine E_iast dX12_copies_83 (l_151 hL) (k_151 hL) rfl (by omega) (by decide) ?_
  refine E_vret dX12_copies_84 rfl ?_
  exact Q_mem (c7_eq M b (fun p => mI M p a)) (K _ (h.copy a b))
def clR (L : List Gl) (a k : Nat) : Nat → Option Gl := fun j => if a ≤ j ∧ j < k then L[j + 1]? else L[j]?
theorem clR_0 (L : List Gl) (a : Nat) : clR L a a = fun j => L[j]? := funext fun j => if_neg (by omega)
theorem clR_s (L : List Gl) {a k : Nat} (h : a ≤ k) : rup (clR L a k) k (clR L a k (k + 1)) = clR L a (k + 1) := funext fun j => by
  unfold rup clR
  by_cases e : j = k
  · subst e; rw [if_pos rfl, if_neg (by omega), if_pos ⟨h, by omega⟩]
  · rw [if_neg e]; by_cases e2 : a ≤ j ∧ j < k
    · rw [if_pos e2, if_pos (by omega)]
    · rw [if_neg e2, if_neg (by omega)]
theorem clR_e {L : List Gl} {a i : Nat} (hi : i < L.length - 1) : clR L a (L.length - 1) i = some (gat (closeL L a) i) := by
  unfold clR closeL
  rw [gat_mkL hi]
  by_cases e : i < a
  · rw [if_neg (by omega), if_pos e]; exact gat_some (by omega)
  · rw [if_pos (by omega), if_neg e]; exact gat_some (by omega)
theorem ok_close {L : List Gl} (h : okL L) (a : Nat) : okL (closeL L a) := okL_mk (by have := h.1; omega) (fun i _ => h.at _)
set_option maxRecDepth 100000 in
set_option maxHeartbeats 4000000 in
theorem lp_X12_closes {g : gG} {Q : Option Value ⊕ String → gM → Prop} {c : Cf} {f : Nat} {M0 : gM} {L : List Gl} {w : Int32} {a : Nat} (hs : mS c f M0) (ho : okL L) (ha : a < L.length) (K : ∀ M, mX c f M0 (closeL L a) w M → Q (.inl none) M) : ∀ k, k ≤ L.length - 1 → a ≤ k → ∀ M, mY c f M0 (L.length - 1) (clR L a k) w M → E g 2 0 0 mX12_closes 12 [.ref 129, .int (nI a), .int (nI k)] [] M Q := by
  have hn := ho.1
  refine lpUp (L.length - 1) (fun k hk ih => ?_)
  intro hak M h
  have hL := h.lay
  have hf := h.hf
  refine E_iload_n dX12_closes_12 rfl ?_
  refine E_aload_n dX12_closes_13 rfl ?_
  refine E_getIL (v := nI _) dX12_closes_14 kF_X12_235 kY_12 (Or.inl rfl) (l_128 hL) (k_128 hL) h.gn ?_
  refine E_icmp_ge_n (tgt := 34) dX12_closes_17 (by decide) (by omega) (by omega) (fun c_17 => ?_) (fun c_17 => ?_)
  · refine E_vret dX12_closes_34 rfl ?_
    obtain rfl : k = L.length - 1 := by omega
    exact K _ (h.x rfl (mkL_len _ _) (fun i hi => clR_e hi) (ok_close ho a))
  · refine E_aload_n dX12_closes_20 rfl ?_
    refine E_iload_n dX12_closes_21 rfl ?_
    refine E_iconst (v := nI 1) dX12_closes_22 (by decide) ?_
    refine E_iadd_n dX12_closes_23 ?_
    refine E_iload_n dX12_closes_24 rfl ?_
    refine E_callV2 (fr' := 1) (k1 := 0) (n1 := 0) (k2 := 0) (n2 := 0) dX12_closes_25 kO_X12_copies kL_X12_258 (l_128 hL) (k_128 hL) ⟨by decide, rfl⟩ rfl rfl (by decide) (by decide) (by exact Nat.le_of_ble_eq_true rfl) rfl ?_
    refine sp_X12_copies h (by omega) (by omega) (fun M h => ?_)
    have hL := h.lay
    refine gKn ?_
    refine E_iinc_n (d := 1) dX12_closes_28 rfl rfl rfl (by decide) rfl ?_
    refine E_goto (tgt := 12) dX12_closes_31 (by decide) ?_
    exact ih (by omega) (by omega) M (by rw [clR_s L hak] at h; exact h)
set_option maxRecDepth 100000 in
set_option maxHeartbeats 4000000 in
theorem sp_X12_closes {g : gG} {M : gM} {Q : Option Value ⊕ String → gM → Prop} {c : Cf} {f : Nat} {M0 : gM} {L : List Gl} {w : Int32} (h : mX c f M0 L w M) {a : Nat} (ha : a < L.length) (K : ∀ M, mX c f M0 (closeL L a) w M → Q (.inl none) M) : E g 2 0 0 mX12_closes 0 [.ref 129, .int (nI a), .null] [] M Q := by
  have hL := h.lay
  have hf := h.hf
  have hn := h.len
  refine E_aload_n dX12_closes_0 rfl ?_
  refine E_dup dX12_closes_1 rfl ?_
  refine E_getIL (v := nI _) dX12_closes_2 kF_X12_235 kY_12 (Or.inl rfl) (l_128 hL) (k_128 hL) h.gn ?_
  refine E_iconst (v := nI 1) dX12_closes_5 (by decide) ?_
  refine E_isub_n dX12_closes_6 (by omega) ?_
  refine E_putI dX12_closes_7 kF_X12_235 kY_12 (Or.inl rfl) (l_128 hL) (k_128 hL) (Or.inl rfl) ?_
  refine E_iload_n dX12_closes_10 rfl ?_
  refine E_istore_n dX12_closes_11 (Nat.le_of_ble_eq_true rfl) (by decide) rfl ?_
  refine lp_X12_closes h.1.1 h.2 ha K a (by omega) (Nat.le_refl _) _ ?_
  rw [clR_0]
  exact h.1.setN _
def gv7 (x : Gl) : Nat → Int32 := fun p => if p = 145 then nI (yN x) else if p = 146 then nI (yC x) else if p = 147 then yF x else if p = 148 then nI (yE x) else if p = 149 then yP x else if p = 150 then yT x else nI (yO x)
theorem gv7_ok (M : gM) (b : Nat) (x : Gl) : gM7 (wF M (c7 (mI M) b (gv7 x))) b x := by
  unfold gM7
  simp only [mI_wF]
  rw [c7_at (by decide), c7_at (by decide), c7_at (by decide), c7_at (by decide), c7_at (by decide), c7_at (by decide), c7_at (by decide)]
  exact ⟨rfl, rfl, rfl, rfl, rfl, rfl, rfl⟩
def newG (its cl ex : Nat) (form : Int32) : Gl := (its, (cl, (form, (ex, (-100, (nI 1, its))))))
theorem okG_new {its cl ex : Nat} {form : Int32} (h1 : its < 256) (h2 : cl < 16) (h3 : ex ≤ 3) : okG (newG its cl ex form) := ⟨h1, h2, h3, h1⟩
theorem ok_add {L : List Gl} {x : Gl} (h : okL L) (hx : okG x) (hn : L.length < 64) : okL (addL L x) := okL_mk (by omega) (fun i _ => by
  by_cases e : i < L.length
  · rw [if_pos e]; exact h.at i
  · rw [if_neg e]; exact hx)
theorem mX.add {c : Cf} {f : Nat} {M0 M : gM} {L : List Gl} {w : Int32} (h : mX c f M0 L w M) {x : Gl} (hx : okG x) (hn : L.length < 64) : mX c f M0 (addL L x) w (sI (wF M (c7 (mI M) L.length (gv7 x))) 128 21 (nI (L.length + 1))) := by
  have h1 := (h.1.cell (b := L.length) (v := some x) (F := c7 (mI M) L.length (gv7 x)) (fun p j q => if_neg (fun z => q ⟨z.1, by omega, z.2.2⟩)) (fun y hy => by cases hy; exact gv7_ok M _ x)).setN (L.length + 1)
  refine h1.x rfl (mkL_len _ _) (fun i hi => ?_) (ok_add h.2 hx hn)
  unfold addL rup
  rw [gat_mkL hi]
  by_cases e : i = L.length
  · rw [if_pos e, if_neg (by omega)]
  · rw [if_neg e, if_pos (by omega)]; exact gat_some (by omega)
set_option maxRecDepth 100000 in
set_option maxHeartbeats 4000000 in
theorem sp_X12_addsGlyph {g : gG} {M : gM} {Q : Option Value ⊕ String → gM → Prop} {c : Cf} {f : Nat} {M0 : gM} {L : List Gl} {w : Int32} (h : mX c f M0 L w M) {its cl ex : Nat} {form : Int32} (h1 : its < 256) (h2 : cl < 16) (h3 : ex ≤ 3) (h4 : L.length < 64) (K : ∀ M, mX c f M0 (addL L (newG its cl ex form)) w M → Q (.inl none) M) : E g 1 0 0 mX12_addsGlyph 0 [.ref 129, .int (nI its), .int (nI cl), .int (nI ex), .int form] [] M Q := by
  have hL := h.lay
  have hf := h.hf
  have hn := h.len
  refine E_aload_n dX12_addsGlyph_0 rfl ?_
  refine E_getRL dX12_addsGlyph_1 kF_X12_63 kY_12 (Or.inr ⟨_, rfl⟩) (l_128 hL) (k_128 hL) (r_128_22 hL) ?_
  refine E_aload_n dX12_addsGlyph_4 rfl ?_
  refine E_getIL (v := nI _) dX12_addsGlyph_5 kF_X12_235 kY_12 (Or.inl rfl) (l_128 hL) (k_128 hL) h.gn ?_
  refine E_iload_n dX12_addsGlyph_8 rfl ?_
  refine E_iast dX12_addsGlyph_9 (l_145 hL) (k_145 hL) rfl (by first | omega | exact h.n256 _) (by decide) ?_
  refine E_aload_n dX12_addsGlyph_10 rfl ?_
  refine E_getRL dX12_addsGlyph_11 kF_X12_66 kY_12 (Or.inr ⟨_, rfl⟩) (l_128 hL) (k_128 hL) (r_128_23 hL) ?_
  refine E_aload_n dX12_addsGlyph_14 rfl ?_
  refine E_getIL (v := nI _) dX12_addsGlyph_15 kF_X12_235 kY_12 (Or.inl rfl) (l_128 hL) (k_128 hL) h.gn ?_
  refine E_iload_n dX12_addsGlyph_18 rfl ?_
  refine E_iast dX12_addsGlyph_19 (l_146 hL) (k_146 hL) rfl (by first | omega | exact h.n256 _) (by decide) ?_
  refine E_aload_n dX12_addsGlyph_20 rfl ?_
  refine E_getRL dX12_addsGlyph_21 kF_X12_72 kY_12 (Or.inr ⟨_, rfl⟩) (l_128 hL) (k_128 hL) (r_128_25 hL) ?_
  refine E_aload_n dX12_addsGlyph_24 rfl ?_
  refine E_getIL (v := nI _) dX12_addsGlyph_25 kF_X12_235 kY_12 (Or.inl rfl) (l_128 hL) (k_128 hL) h.gn ?_
  refine E_iload_n dX12_addsGlyph_28 rfl ?_
  refine E_iast dX12_addsGlyph_29 (l_148 hL) (k_148 hL) rfl (by first | omega | exact h.n256 _) (by decide) ?_
  refine E_aload_n dX12_addsGlyph_30 rfl ?_
  refine E_getRL dX12_addsGlyph_31 kF_X12_69 kY_12 (Or.inr ⟨_, rfl⟩) (l_128 hL) (k_128 hL) (r_128_24 hL) ?_
  refine E_aload_n dX12_addsGlyph_34 rfl ?_
  refine E_getIL (v := nI _) dX12_addsGlyph_35 kF_X12_235 kY_12 (Or.inl rfl) (l_128 hL) (k_128 hL) h.gn ?_
  refine E_iload dX12_addsGlyph_38 rfl ?_
  refine E_iast dX12_addsGlyph_40 (l_147 hL) (k_147 hL) rfl (by first | omega | exact h.n256 _) (by decide) ?_
  refine E_aload_n dX12_addsGlyph_41 rfl ?_
  refine E_getRL dX12_addsGlyph_42 kF_X12_75 kY_12 (Or.inr ⟨_, rfl⟩) (l_128 hL) (k_128 hL) (r_128_26 hL) ?_
  refine E_aload_n dX12_addsGlyph_45 rfl ?_
  refine E_getIL (v := nI _) dX12_addsGlyph_46 kF_X12_235 kY_12 (Or.inl rfl) (l_128 hL) (k_128 hL) h.gn ?_
  refine E_bipush (v := -100) dX12_addsGlyph_49 (by decide) ?_
  refine E_iast dX12_addsGlyph_51 (l_149 hL) (k_149 hL) rfl (by first | omega | exact h.n256 _) (by decide) ?_
  refine E_aload_n dX12_addsGlyph_52 rfl ?_
  refine E_getRL dX12_addsGlyph_53 kF_X12_78 kY_12 (Or.inr ⟨_, rfl⟩) (l_128 hL) (k_128 hL) (r_128_27 hL) ?_
  refine E_aload_n dX12_addsGlyph_56 rfl ?_
  refine E_getIL (v := nI _) dX12_addsGlyph_57 kF_X12_235 kY_12 (Or.inl rfl) (l_128 hL) (k_128 hL) h.gn ?_
  refine E_iconst (v := nI 1) dX12_addsGlyph_60 (by decide) ?_
  refine E_iast dX12_addsGlyph_61 (l_150 hL) (k_150 hL) rfl (by first | omega | exact h.n256 _) (by decide) ?_
  refine E_aload_n dX12_addsGlyph_62 rfl ?_
  refine E_getRL dX12_addsGlyph_63 kF_X12_81 kY_12 (Or.inr ⟨_, rfl⟩) (l_128 hL) (k_128 hL) (r_128_28 hL) ?_
  refine E_aload_n dX12_addsGlyph_66 rfl ?_
  refine E_getIL (v := nI _) dX12_addsGlyph_67 kF_X12_235 kY_12 (Or.inl rfl) (l_128 hL) (k_128 hL) h.gn ?_
  refine E_iload_n dX12_addsGlyph_70 rfl ?_
  refine E_iast dX12_addsGlyph_71 (l_151 hL) (k_151 hL) rfl (by first | omega | exact h.n256 _) (by decide) ?_
  refine E_aload_n dX12_addsGlyph_72 rfl ?_
  refine E_dup dX12_addsGlyph_73 rfl ?_
  refine E_getIL (v := nI _) dX12_addsGlyph_74 kF_X12_235 kY_12 (Or.inl rfl) (l_128 hL) (k_128 hL) h.gn ?_
  refine E_iconst (v := nI 1) dX12_addsGlyph_77 (by decide) ?_
  refine E_iadd_n dX12_addsGlyph_78 ?_
  refine E_putI dX12_addsGlyph_79 kF_X12_235 kY_12 (Or.inl rfl) (l_128 hL) (k_128 hL) (Or.inl rfl) ?_
  refine E_vret dX12_addsGlyph_82 rfl ?_
  exact Q_mem (congrArg (fun z => sI z 128 21 (nI (L.length + 1))) (c7_eq M L.length (gv7 (newG its cl ex form)))) (K _ (h.add (okG_new h1 h2 h3) h4))
def op1 (L : List Gl) (m q : Nat) : Nat → Option Gl := fun j => if q + m ≤ j then L[j - m]? else L[j]?
theorem op1_0 (L : List Gl) (m : Nat) : ∀ i x, op1 L m L.length i = some x → L[i]? = some x := fun i x h => by
  unfold op1 at h
  by_cases e : L.length + m ≤ i
  · rw [if_pos e, List.getElem?_eq_none (by omega)] at h; cases h
  · rw [if_neg e] at h; exact h
theorem op1_s (L : List Gl) {m q : Nat} (hm : 0 < m) : rup (op1 L m (q + 1)) (q + m) (op1 L m (q + 1) q) = op1 L m q := funext fun j => by
  unfold rup op1
  by_cases e : j = q + m
  · subst e; rw [if_pos rfl, if_neg (by omega), if_pos (by omega), Nat.add_sub_cancel]
  · rw [if_neg e]; by_cases e2 : q + m ≤ j
    · rw [if_pos e2, if_pos (by omega)]
    · rw [if_neg e2, if_neg (by omega)]
def op2 (L : List Gl) (a m k : Nat) : Nat → Option Gl := fun j => if a ≤ j ∧ j < k then L[a]? else op1 L m a j
theorem op2_s (L : List Gl) {a m k : Nat} (hk : a ≤ k) (hk2 : k < a + m) : rup (op2 L a m k) k (op2 L a m k (a + m)) = op2 L a m (k + 1) := funext fun j => by
  unfold rup op2
  by_cases e : j = k
  · subst e; rw [if_pos rfl, if_neg (by omega), if_pos (by omega)]; unfold op1; rw [if_pos (by omega), Nat.add_sub_cancel]
  · rw [if_neg e]; by_cases e2 : a ≤ j ∧ j < k
    · rw [if_pos e2, if_pos (by omega)]
    · rw [if_neg e2, if_neg (by omega)]
theorem ok_open {L : List Gl} (h : okL L) (a m : Nat) (hn : L.length + m ≤ 64) : okL (openL L a m) := okL_mk hn (fun i _ => h.at _)
theorem op2_e {L : List Gl} {a m : Nat} (ha : a < L.length) {i : Nat} (hi : i < L.length + m) : op2 L a m (a + m) i = some (gat (openL L a m) i) := by
  unfold openL
  rw [gat_mkL hi]
  unfold op2 op1
  by_cases e : i ≤ a
  · rw [if_pos e]; by_cases e2 : i = a
    · subst e2; by_cases e3 : m = 0
      · subst e3; rw [if_neg (by omega), if_pos (by omega)]; exact gat_some (by omega)
      · rw [if_pos (by omega)]; exact gat_some ha
    · rw [if_neg (by omega), if_neg (by omega)]; exact gat_some (by omega)
  · rw [if_neg e]; by_cases e2 : i ≤ a + m
    · rw [if_pos e2]; by_cases e3 : i = a + m
      · subst e3; rw [if_neg (by omega), if_pos (by omega), Nat.add_sub_cancel]; exact gat_some ha
      · rw [if_pos (by omega)]; exact gat_some ha
    · rw [if_neg e2, if_neg (by omega), if_pos (by omega)]; exact gat_some (by omega)
set_option maxRecDepth 100000 in
set_option maxHeartbeats 4000000 in
theorem lp2_X12_opens {g : gG} {Q : Option Value ⊕ String → gM → Prop} {c : Cf} {f : Nat} {M0 : gM} {L : List Gl} {w : Int32} (hs : mS c f M0) (ho : okL L) {a m : Nat} (ha : a < L.length) (hm : 0 < m) (hm2 : L.length + m ≤ 64) (K : ∀ M, mX c f M0 (openL L a m) w M → Q (.inl none) M) : ∀ k, k ≤ a + m → a ≤ k → ∀ M, mY c f M0 (L.length + m) (op2 L a m k) w M → E g 2 0 0 mX12_opens 38 [.ref 129, .int (nI a), .int (nI m), .int (nI k)] [] M Q := by
  have hn := ho.1
  refine lpUp (a + m) (fun k hk ih => ?_)
  intro hak M h
  have hL := h.lay
  have hf := h.hf
  refine E_iload_n dX12_opens_38 rfl ?_
  refine E_iload_n dX12_opens_39 rfl ?_
  refine E_iload_n dX12_opens_40 rfl ?_
  refine E_iadd_n dX12_opens_41 ?_
  refine E_icmp_ge_n (tgt := 59) dX12_opens_42 (by decide) (by omega) (by omega) (fun c_42 => ?_) (fun c_42 => ?_)
  · refine E_vret dX12_opens_59 rfl ?_
    obtain rfl : k = a + m := by omega
    exact K _ (h.x rfl (mkL_len _ _) (fun i hi => op2_e ha hi) (ok_open ho a m hm2))
  · refine E_aload_n dX12_opens_45 rfl ?_
    refine E_iload_n dX12_opens_46 rfl ?_
    refine E_iload_n dX12_opens_47 rfl ?_
    refine E_iadd_n dX12_opens_48 ?_
    refine E_iload_n dX12_opens_49 rfl ?_
    refine E_callV2 (fr' := 1) (k1 := 0) (n1 := 0) (k2 := 0) (n2 := 0) dX12_opens_50 kO_X12_copies kL_X12_258 (l_128 hL) (k_128 hL) ⟨by decide, rfl⟩ rfl rfl (by decide) (by decide) (by exact Nat.le_of_ble_eq_true rfl) rfl ?_
    refine sp_X12_copies h (by omega) (by omega) (fun M h => ?_)
    have hL := h.lay
    refine gKn ?_
    refine E_iinc_n (d := 1) dX12_opens_53 rfl rfl rfl (by decide) rfl ?_
    refine E_goto (tgt := 38) dX12_opens_56 (by decide) ?_
    exact ih (by omega) (by omega) M (by rw [op2_s L hak (by omega)] at h; exact h)
set_option maxRecDepth 100000 in
set_option maxHeartbeats 4000000 in
theorem lp1_X12_opens {g : gG} {Q : Option Value ⊕ String → gM → Prop} {c : Cf} {f : Nat} {M0 : gM} {L : List Gl} {w : Int32} (hs : mS c f M0) (ho : okL L) {a m : Nat} (ha : a < L.length) (hm : 0 < m) (hm2 : L.length + m ≤ 64) (K : ∀ M, mX c f M0 (openL L a m) w M → Q (.inl none) M) : ∀ q, a ≤ q → q ≤ L.length → ∀ M, mY c f M0 L.length (op1 L m q) w M → E g 2 0 0 mX12_opens 7 [.ref 129, .int (nI a), .int (nI m), .int (dI q)] [] M Q := by
  have hn := ho.1
  refine lpDn a (fun q haq ih => ?_)
  intro hqn M h
  have hL := h.lay
  have hf := h.hf
  refine E_iload_n dX12_opens_7 rfl ?_
  refine E_iload_n dX12_opens_8 rfl ?_
  refine E_icmp_lt_d (tgt := 26) dX12_opens_9 (by decide) (by omega) (by omega) (fun c_9 => ?_) (fun c_9 => ?_)
  · obtain rfl : q = a := by omega
    refine E_aload_n dX12_opens_26 rfl ?_
    refine E_dup dX12_opens_27 rfl ?_
    refine E_getIL (v := nI _) dX12_opens_28 kF_X12_235 kY_12 (Or.inl rfl) (l_128 hL) (k_128 hL) h.gn ?_
    refine E_iload_n dX12_opens_31 rfl ?_
    refine E_iadd_n dX12_opens_32 ?_
    refine E_putI dX12_opens_33 kF_X12_235 kY_12 (Or.inl rfl) (l_128 hL) (k_128 hL) (Or.inl rfl) ?_
    refine E_iload_n dX12_opens_36 rfl ?_
    refine E_istore_n dX12_opens_37 (Nat.le_of_ble_eq_true rfl) (by decide) rfl ?_
    refine lp2_X12_opens hs ho ha hm hm2 K q (by omega) (Nat.le_refl _) _ ?_
    rw [show op2 L q m q = op1 L m q from funext fun j => if_neg (by omega)]
    exact h.setN _
  · obtain ⟨q, rfl⟩ : ∃ z, q = z + 1 := ⟨q - 1, by omega⟩
    rw [dI_succ]
    refine E_aload_n dX12_opens_12 rfl ?_
    refine E_iload_n dX12_opens_13 rfl ?_
    refine E_iload_n dX12_opens_14 rfl ?_
    refine E_iload_n dX12_opens_15 rfl ?_
    refine E_iadd_n dX12_opens_16 ?_
    refine E_callV2 (fr' := 1) (k1 := 0) (n1 := 0) (k2 := 0) (n2 := 0) dX12_opens_17 kO_X12_copies kL_X12_258 (l_128 hL) (k_128 hL) ⟨by decide, rfl⟩ rfl rfl (by decide) (by decide) (by exact Nat.le_of_ble_eq_true rfl) rfl ?_
    refine sp_X12_copies h (by omega) (by omega) (fun M h => ?_)
    have hL := h.lay
    refine gKn ?_
    refine E_iinc_d dX12_opens_20 rfl rfl (by decide) rfl ?_
    refine E_goto (tgt := 7) dX12_opens_23 (by decide) ?_
    exact ih (by omega) (by omega) M (by rw [op1_s L hm] at h; exact h)
set_option maxRecDepth 100000 in
set_option maxHeartbeats 4000000 in
theorem sp_X12_opens {g : gG} {M : gM} {Q : Option Value ⊕ String → gM → Prop} {c : Cf} {f : Nat} {M0 : gM} {L : List Gl} {w : Int32} (h : mX c f M0 L w M) {a m : Nat} (ha : a < L.length) (hm : 0 < m) (hm2 : L.length + m ≤ 64) (K : ∀ M, mX c f M0 (openL L a m) w M → Q (.inl none) M) : E g 2 0 0 mX12_opens 0 [.ref 129, .int (nI a), .int (nI m), .null] [] M Q := by
  have hL := h.lay
  have hf := h.hf
  have hn := h.len
  refine E_aload_n dX12_opens_0 rfl ?_
  refine E_getIL (v := nI _) dX12_opens_1 kF_X12_235 kY_12 (Or.inl rfl) (l_128 hL) (k_128 hL) h.gn ?_
  refine E_iconst (v := nI 1) dX12_opens_4 (by decide) ?_
  refine E_isub_d dX12_opens_5 ?_
  refine E_istore_n dX12_opens_6 (Nat.le_of_ble_eq_true rfl) (by decide) rfl ?_
  exact lp1_X12_opens h.1.1 h.2 ha hm hm2 K L.length (by omega) (Nat.le_refl _) _ (h.1.mono (op1_0 L m))
def rt1 (L : List Gl) (k i : Nat) : Nat → Option Gl := fun j => if j = 68 then L[k]? else if i < j ∧ j ≤ k then L[j - 1]? else L[j]?
theorem rt1_0 (L : List Gl) (k : Nat) : rup (fun j => L[j]?) 68 (L[k]?) = rt1 L k k := funext fun j => by
  unfold rup rt1
  by_cases e : j = 68
  · rw [if_pos e, if_pos e]
  · rw [if_neg e, if_neg e, if_neg (by omega)]
theorem rt1_s (L : List Gl) {k i : Nat} (hi : i + 1 ≤ k) (hk : k < 68) : rup (rt1 L k (i + 1)) (i + 1) (rt1 L k (i + 1) i) = rt1 L k i := funext fun j => by
  unfold rup rt1
  by_cases e : j = i + 1
  · subst e; rw [if_pos rfl, if_neg (by omega), if_neg (by omega), if_neg (by omega), if_pos (by omega), Nat.add_sub_cancel]
  · rw [if_neg e]; by_cases e2 : j = 68
    · rw [if_pos e2, if_pos e2]
    · rw [if_neg e2, if_neg e2]; by_cases e3 : i < j ∧ j ≤ k
      · rw [if_pos e3, if_pos (by omega)]
      · rw [if_neg e3, if_neg (by omega)]
theorem rotS_e {a b j : Nat} : rotS a b b j = j := by unfold rotS; split <;> (try split) <;> (try split) <;> omega
theorem rotL_e (L : List Gl) (a b : Nat) : rotL L a b b = L := row_ext (mkL_len _ _) (fun i hi => by
  unfold rotL at hi ⊢
  rw [mkL_len] at hi
  rw [gat_mkL hi, rotS_e])
theorem rotS_s {a b k j : Nat} (hab : a ≤ b) (hbk : b ≤ k) : rotS a b (k + 1) j = if j = a + k - b then rotS a b k k else if a + k - b < j ∧ j ≤ k then rotS a b k (j - 1) else rotS a b k j := by
  unfold rotS
  repeat' split
  all_goals omega
theorem ok_rot {L : List Gl} (h : okL L) (a b e : Nat) : okL (rotL L a b e) := okL_mk h.1 (fun i _ => h.at _)
theorem rot_len (L : List Gl) (a b e : Nat) : (rotL L a b e).length = L.length := mkL_len _ _
theorem rt1_e {L : List Gl} {a b k : Nat} (hab : a ≤ b) (hbk : b ≤ k) (hk : k < L.length) (hn : L.length ≤ 64) {i : Nat} (hi : i < L.length) : rup (rt1 (rotL L a b k) k (a + k - b)) (a + k - b) (rt1 (rotL L a b k) k (a + k - b) 68) i = some (gat (rotL L a b (k + 1)) i) := by
  have hl := rot_len L a b k
  have e0 : ∀ j, j < L.length → gat (rotL L a b k) j = gat L (rotS a b k j) := fun j hj => gat_mkL hj
  rw [show gat (rotL L a b (k + 1)) i = gat L (rotS a b (k + 1) i) from gat_mkL hi, rotS_s hab hbk]
  unfold rup rt1
  by_cases e : i = a + k - b
  · rw [if_pos e, if_pos rfl, if_pos e, gat_some (by omega), e0 k hk]
  · rw [if_neg e, if_neg e, if_neg (by omega)]
    by_cases e2 : a + k - b < i ∧ i ≤ k
    · rw [if_pos e2, if_pos e2, gat_some (by omega), e0 _ (by omega)]
    · rw [if_neg e2, if_neg e2, gat_some (by omega), e0 _ hi]
set_option maxRecDepth 100000 in
set_option maxHeartbeats 4000000 in
theorem lp1_X12_turns {g : gG} {Q : Option Value ⊕ String → gM → Prop} {c : Cf} {f : Nat} {M0 : gM} {L : List Gl} {w : Int32} (hs : mS c f M0) (ho : okL L) {a b e k : Nat} (hab : a ≤ b) (hbk : b ≤ k) (hke : k < e) (he : e ≤ L.length) (K : ∀ M v1 v2, mX c f M0 (rotL L a b (k + 1)) w M → E g 2 0 0 mX12_turns 3 [.ref 129, .int (nI a), .int (nI b), .int (nI e), .int (nI (k + 1)), .int v1, .int v2] [] M Q) : ∀ i, a + k - b ≤ i → i ≤ k → ∀ M, mY c f M0 L.length (rt1 (rotL L a b k) k i) w M → E g 2 0 0 mX12_turns 29 [.ref 129, .int (nI a), .int (nI b), .int (nI e), .int (nI k), .int (nI (a + k - b)), .int (nI i)] [] M Q := by
  have hn := ho.1
  refine lpDn (a + k - b) (fun i hi ih => ?_)
  intro hik M h
  have hL := h.lay
  have hf := h.hf
  refine E_iload dX12_turns_29 rfl ?_
  refine E_iload dX12_turns_31 rfl ?_
  refine E_icmp_le_n (tgt := 52) dX12_turns_33 (by decide) (by omega) (by omega) (fun c_33 => ?_) (fun c_33 => ?_)
  · obtain rfl : i = a + k - b := by omega
    refine E_aload_n dX12_turns_52 rfl ?_
    refine E_bipush (v := nI 68) dX12_turns_53 (by decide) ?_
    refine E_iload dX12_turns_55 rfl ?_
    refine E_callV2 (fr' := 1) (k1 := 0) (n1 := 0) (k2 := 0) (n2 := 0) dX12_turns_57 kO_X12_copies kL_X12_258 (l_128 hL) (k_128 hL) ⟨by decide, rfl⟩ rfl rfl (by decide) (by decide) (by exact Nat.le_of_ble_eq_true rfl) rfl ?_
    refine sp_X12_copies h (by omega) (by omega) (fun M h => ?_)
    have hL := h.lay
    refine gKn ?_
    refine E_iinc_n (d := 1) dX12_turns_60 rfl rfl rfl (by decide) rfl ?_
    refine E_goto (tgt := 3) dX12_turns_63 (by decide) ?_
    exact K _ _ _ (h.x rfl (mkL_len _ _) (fun i hi => rt1_e hab hbk (by omega) hn hi) (ok_rot ho a b (k + 1)))
  · obtain ⟨i, rfl⟩ : ∃ z, i = z + 1 := ⟨i - 1, by omega⟩
    refine E_aload_n dX12_turns_36 rfl ?_
    refine E_iload dX12_turns_37 rfl ?_
    refine E_iconst (v := nI 1) dX12_turns_39 (by decide) ?_
    refine E_isub_n dX12_turns_40 (by omega) ?_
    refine E_iload dX12_turns_41 rfl ?_
    refine E_callV2 (fr' := 1) (k1 := 0) (n1 := 0) (k2 := 0) (n2 := 0) dX12_turns_43 kO_X12_copies kL_X12_258 (l_128 hL) (k_128 hL) ⟨by decide, rfl⟩ rfl rfl (by decide) (by decide) (by exact Nat.le_of_ble_eq_true rfl) rfl ?_
    refine sp_X12_copies h (by omega) (by omega) (fun M h => ?_)
    have hL := h.lay
    refine gKn ?_
    refine E_iinc (v := nI i) dX12_turns_46 rfl (pk_m1 i) (by decide) rfl ?_
    refine E_goto (tgt := 29) dX12_turns_49 (by decide) ?_
    exact ih (by omega) (by omega) M (by rw [show i + 1 - 1 = i from rfl, rt1_s _ hik (by omega)] at h; exact h)
set_option maxRecDepth 100000 in
set_option maxHeartbeats 4000000 in
theorem lp2_X12_turns {g : gG} {Q : Option Value ⊕ String → gM → Prop} {c : Cf} {f : Nat} {M0 : gM} {L : List Gl} {w : Int32} (hs : mS c f M0) (ho : okL L) {a b e : Nat} (hab : a ≤ b) (hbe : b ≤ e) (he : e ≤ L.length) (K : ∀ M, mX c f M0 (rotL L a b e) w M → Q (.inl none) M) : ∀ k, k ≤ e → b ≤ k → ∀ M v1 v2, mX c f M0 (rotL L a b k) w M → E g 2 0 0 mX12_turns 3 [.ref 129, .int (nI a), .int (nI b), .int (nI e), .int (nI k), v1, v2] [] M Q := by
  have hn := ho.1
  refine lpUp e (fun k hk ih => ?_)
  intro hbk M v1 v2 h
  have hL := h.lay
  have hf := h.hf
  refine E_iload dX12_turns_3 rfl ?_
  refine E_iload_n dX12_turns_5 rfl ?_
  refine E_icmp_ge_n (tgt := 66) dX12_turns_6 (by decide) (by omega) (by omega) (fun c_6 => ?_) (fun c_6 => ?_)
  · refine E_vret dX12_turns_66 rfl ?_
    obtain rfl : k = e := by omega
    exact K _ h
  · refine E_aload_n dX12_turns_9 rfl ?_
    refine E_iload dX12_turns_10 rfl ?_
    refine E_bipush (v := nI 68) dX12_turns_12 (by decide) ?_
    refine E_callV2 (fr' := 1) (k1 := 0) (n1 := 0) (k2 := 0) (n2 := 0) dX12_turns_14 kO_X12_copies kL_X12_258 (l_128 hL) (k_128 hL) ⟨by decide, rfl⟩ rfl rfl (by decide) (by decide) (by exact Nat.le_of_ble_eq_true rfl) rfl ?_
    refine sp_X12_copies h.1 (by omega) (by omega) (fun M h => ?_)
    have hL := h.lay
    refine gKn ?_
    refine E_iload_n dX12_turns_17 rfl ?_
    refine E_iload dX12_turns_18 rfl ?_
    refine E_iadd_n dX12_turns_20 ?_
    refine E_iload_n dX12_turns_21 rfl ?_
    refine E_isub_n dX12_turns_22 (by omega) ?_
    refine E_istore dX12_turns_23 (Nat.le_of_ble_eq_true rfl) (by decide) rfl ?_
    refine E_iload dX12_turns_25 rfl ?_
    refine E_istore dX12_turns_27 (Nat.le_of_ble_eq_true rfl) (by decide) rfl ?_
    rw [rot_len, rt1_0] at h
    exact lp1_X12_turns hs ho hab hbk (by omega) he (fun M v1 v2 h => ih (by omega) (by omega) M _ _ h) k (by omega) (Nat.le_refl _) M h
set_option maxRecDepth 100000 in
set_option maxHeartbeats 4000000 in
theorem sp_X12_turns {g : gG} {M : gM} {Q : Option Value ⊕ String → gM → Prop} {c : Cf} {f : Nat} {M0 : gM} {L : List Gl} {w : Int32} (h : mX c f M0 L w M) {a b e : Nat} (hab : a ≤ b) (hbe : b ≤ e) (he : e ≤ L.length) (K : ∀ M, mX c f M0 (rotL L a b e) w M → Q (.inl none) M) : E g 2 0 0 mX12_turns 0 [.ref 129, .int (nI a), .int (nI b), .int (nI e), .null, .null, .null] [] M Q := by
  have hL := h.lay
  have hf := h.hf
  have hn := h.len
  refine E_iload_n dX12_turns_0 rfl ?_
  refine E_istore dX12_turns_1 (Nat.le_of_ble_eq_true rfl) (by decide) rfl ?_
  exact lp2_X12_turns h.1.1 h.2 hab hbe he K b (by omega) (Nat.le_refl _) M _ _ (by rw [rotL_e]; exact h)
