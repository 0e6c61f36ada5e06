/-! the reference: one glyph changed; parts, clusters -/
theorem ok_put {L : List Gl} (h : okL L) {x : Gl} (hx : okG x) (i : Nat) : okL (putL L i x) := okL_mk h.1 (fun j _ => by
  by_cases e : j = i
  · rw [if_pos e]; exact hx
  · rw [if_neg e]; exact h.at j)
theorem put_len (L : List Gl) (i : Nat) (x : Gl) : (putL L i x).length = L.length := mkL_len _ _
theorem gat_put {L : List Gl} {i : Nat} {x : Gl} {j : Nat} (h : j < L.length) : gat (putL L i x) j = if j = i then x else gat L j := gat_mkL h
theorem put_self (L : List Gl) (i : Nat) : putL L i (gat L i) = L := row_ext (put_len _ _ _) (fun j hj => by
  rw [put_len] at hj
  rw [gat_put hj]; split
  · rename_i e; rw [e]
  · rfl)
theorem mX.put {c : Cf} {f : Nat} {M0 M : gM} {L : List Gl} {w : Int32} (h : mX c f M0 L w M) {a i : Nat} {v : Int32} {x : Gl} (ha : 145 ≤ a ∧ a ≤ 151) (hg : gM7 (sI M a i v) i x) (hx : okG x) : mX c f M0 (putL L i x) w (sI M a i v) := by
  have h1 := h.1.cell (b := i) (v := some x) (F := mI (sI M a i v)) (fun p j q => by rw [mI_sI, if_neg (by omega)]) (fun y hy => by cases hy; exact hg)
  rw [show wF M (mI (sI M a i v)) = sI M a i v from rfl] at h1
  refine h1.x rfl (put_len _ _ _) (fun j hj => ?_) (ok_put h.2 hx i)
  rw [gat_put hj]
  unfold rup
  by_cases e : j = i
  · rw [if_pos e, if_pos e]
  · rw [if_neg e, if_neg e]; exact gat_some hj
theorem mX.putN {c : Cf} {f : Nat} {M0 M : gM} {L : List Gl} {w : Int32} (h : mX c f M0 L w M) {i v : Nat} (hi : i < L.length) (hv : v < 256) : mX c f M0 (putL L i (sN (gat L i) v)) w (sI M 145 i (nI v)) :=
  h.put (by decide) (by
    have := h.at hi
    unfold gM7 at *
    simp only [mI_sI]
    simpa [sN, yN, yC, yF, yE, yP, yT, yO] using this.2) (by have := h.ok.at i; exact ⟨hv, this.2⟩)
theorem mX.putC {c : Cf} {f : Nat} {M0 M : gM} {L : List Gl} {w : Int32} (h : mX c f M0 L w M) {i v : Nat} (hi : i < L.length) (hv : v < 16) : mX c f M0 (putL L i (sC (gat L i) v)) w (sI M 146 i (nI v)) :=
  h.put (by decide) (by
    have := h.at hi
    unfold gM7 at *
    simp only [mI_sI]
    simpa [sC, yN, yC, yF, yE, yP, yT, yO] using And.intro this.1 this.2.2) (by have := h.ok.at i; exact ⟨this.1, hv, this.2.2⟩)
theorem mX.putP {c : Cf} {f : Nat} {M0 M : gM} {L : List Gl} {w : Int32} (h : mX c f M0 L w M) {i : Nat} {v : Int32} (hi : i < L.length) : mX c f M0 (putL L i (sP (gat L i) v)) w (sI M 149 i v) :=
  h.put (by decide) (by
    have := h.at hi
    unfold gM7 at *
    simp only [mI_sI]
    obtain ⟨a1, a2, a3, a4, a5, a6, a7⟩ := this
    simpa [sP, yN, yC, yF, yE, yP, yT, yO] using And.intro a1 (And.intro a2 (And.intro a3 (And.intro a4 (And.intro a6 a7))))) (by have := h.ok.at i; exact this)
theorem mX.putT {c : Cf} {f : Nat} {M0 M : gM} {L : List Gl} {w : Int32} (h : mX c f M0 L w M) {i : Nat} {v : Int32} (hi : i < L.length) : mX c f M0 (putL L i (sT (gat L i) v)) w (sI M 150 i v) :=
  h.put (by decide) (by
    have := h.at hi
    unfold gM7 at *
    simp only [mI_sI]
    obtain ⟨a1, a2, a3, a4, a5, a6, a7⟩ := this
    simpa [sT, yN, yC, yF, yE, yP, yT, yO] using And.intro a1 (And.intro a2 (And.intro a3 (And.intro a4 (And.intro a5 a7))))) (by have := h.ok.at i; exact this)
/-- all glyphs below a place changed -/
noncomputable def upK (L : List Gl) (F : Nat → Gl → Gl) (k : Nat) : List Gl := mkL L.length (fun j => if j < k then F j (gat L j) else gat L j)
noncomputable def updL (L : List Gl) (F : Nat → Gl → Gl) : List Gl := mkL L.length (fun j => F j (gat L j))
theorem upK_len (L : List Gl) (F : Nat → Gl → Gl) (k : Nat) : (upK L F k).length = L.length := mkL_len _ _
theorem upd_len (L : List Gl) (F : Nat → Gl → Gl) : (updL L F).length = L.length := mkL_len _ _
theorem gat_upK {L : List Gl} {F : Nat → Gl → Gl} {k j : Nat} (h : j < L.length) : gat (upK L F k) j = if j < k then F j (gat L j) else gat L j := gat_mkL h
theorem gat_upd {L : List Gl} {F : Nat → Gl → Gl} {j : Nat} (h : j < L.length) : gat (updL L F) j = F j (gat L j) := gat_mkL h
theorem upK_0 {L : List Gl} {F : Nat → Gl → Gl} {a : Nat} (h : ∀ j, j < a → F j (gat L j) = gat L j) : upK L F a = L := row_ext (upK_len _ _ _) (fun j hj => by
  rw [upK_len] at hj
  rw [gat_upK hj]; split
  · exact h j (by assumption)
  · rfl)
theorem upK_s {L : List Gl} {F : Nat → Gl → Gl} {k : Nat} (hk : k < L.length) : putL (upK L F k) k (F k (gat (upK L F k) k)) = upK L F (k + 1) := row_ext (by rw [put_len, upK_len, upK_len]) (fun j hj => by
  rw [put_len, upK_len] at hj
  rw [gat_put (by rw [upK_len]; exact hj), gat_upK hj, gat_upK hj, gat_upK hk, if_neg (Nat.lt_irrefl k)]
  by_cases e : j = k
  · subst e; rw [if_pos rfl, if_pos (by omega)]
  · rw [if_neg e]; by_cases e2 : j < k
    · rw [if_pos e2, if_pos (by omega)]
    · rw [if_neg e2, if_neg (by omega)])
theorem upK_s' {L : List Gl} {F : Nat → Gl → Gl} {k : Nat} (hk : k < L.length) (h : F k (gat (upK L F k) k) = gat (upK L F k) k) : upK L F k = upK L F (k + 1) := by
  rw [← upK_s hk, h, put_self]
theorem upK_n {L : List Gl} {F : Nat → Gl → Gl} {b : Nat} (h : ∀ j, b ≤ j → F j (gat L j) = gat L j) : upK L F b = updL L F := row_ext (by rw [upK_len, upd_len]) (fun j hj => by
  rw [upK_len] at hj
  rw [gat_upK hj, gat_upd hj]; split
  · rfl
  · exact (h j (by omega)).symm)
noncomputable def prF (c : Cf) (f a b : Nat) (s p : Int32) (j : Nat) (x : Gl) : Gl := cI (a ≤ j ∧ j < b ∧ 0 < cN c 137 (256 * f + yN x)) (sP x (s + cI (yP x = -100) (p - nI 1) (yP x))) x
theorem pr_lo {c : Cf} {f a b : Nat} {s p : Int32} {j : Nat} {x : Gl} (h : j < a) : prF c f a b s p j x = x := cI_f (fun q => by omega)
theorem pr_hi {c : Cf} {f a b : Nat} {s p : Int32} {j : Nat} {x : Gl} (h : b ≤ j) : prF c f a b s p j x = x := cI_f (fun q => by omega)
noncomputable def prtL (c : Cf) (f : Nat) (L : List Gl) (a b : Nat) (s p : Int32) : List Gl := updL L (prF c f a b s p)
theorem prt_len (c : Cf) (f : Nat) (L : List Gl) (a b : Nat) (s p : Int32) : (prtL c f L a b s p).length = L.length := upd_len _ _
set_option maxRecDepth 100000 in
set_option maxHeartbeats 4000000 in
theorem lp_X12_partsOf {g : gG} {Q : Option Value ⊕ String → gM → Prop} {c : Cf} {f : Nat} {M0 : gM} {L : List Gl} {w : Int32} {a b : Nat} {s p : Int32} (hb : b ≤ L.length) (K : ∀ M, mX c f M0 (prtL c f L a b s p) w M → Q (.inl none) M) : ∀ k, k ≤ b → a ≤ k → ∀ M, mX c f M0 (upK L (prF c f a b s p) k) w M → E g 2 0 0 mX12_partsOf 3 [.ref 129, .int (nI a), .int (nI b), .int s, .int p, .int (nI k)] [] M Q := by
  refine lpUp b (fun k hk ih => ?_)
  intro hak M h
  have hL := h.lay
  have hf := h.hf
  have hn := h.len
  have hu := upK_len L (prF c f a b s p) k
  have h1 := (h.wf.gl (256 * f + yN (gat (upK L (prF c f a b s p) k) k))).1
  refine E_iload dX12_partsOf_3 rfl ?_
  refine E_iload_n dX12_partsOf_5 rfl ?_
  refine E_icmp_ge_n (tgt := 59) dX12_partsOf_6 (by decide) (by omega) (by omega) (fun c_6 => ?_) (fun c_6 => ?_)
  · refine E_vret dX12_partsOf_59 rfl ?_
    obtain rfl : k = b := by omega
    rw [upK_n (F := prF c f a k s p) (fun j hj => pr_hi hj)] at h
    exact K M h
  · refine E_aload_n dX12_partsOf_9 rfl ?_
    refine E_iload dX12_partsOf_10 rfl ?_
    refine E_callV1 (fr' := 1) (k1 := 0) (n1 := 0) (k2 := 0) (n2 := 0) dX12_partsOf_12 kO_X12_markAt kL_X12_282 (l_128 hL) (k_128 hL) ⟨by decide, rfl⟩ rfl (by decide) (by decide) (by exact Nat.le_of_ble_eq_true rfl) rfl ?_
    refine sp_X12_markAt h (by omega) ?_
    refine gKv ?_
    refine E_if_lt_d (tgt := 53) dX12_partsOf_15 (by decide) (by omega) (fun c_15 => ?_) (fun c_15 => ?_)
    · rw [upK_s' (F := prF c f a b s p) (by omega) (cI_f (fun q => by omega))] at h
      refine E_iinc_n (d := 1) dX12_partsOf_53 rfl rfl rfl (by decide) rfl ?_
      refine E_goto (tgt := 3) dX12_partsOf_56 (by decide) ?_
      exact ih (by omega) (by omega) M h
    · have hM : prF c f a b s p k (gat (upK L (prF c f a b s p) k) k) = sP (gat (upK L (prF c f a b s p) k) k) (s + cI (yP (gat (upK L (prF c f a b s p) k) k) = -100) (p - nI 1) (yP (gat (upK L (prF c f a b s p) k) k))) := cI_t ⟨hak, by omega, by omega⟩
      refine E_aload_n dX12_partsOf_18 rfl ?_
      refine E_getRL dX12_partsOf_19 kF_X12_75 kY_12 (Or.inr ⟨_, rfl⟩) (l_128 hL) (k_128 hL) (r_128_26 hL) ?_
      refine E_iload dX12_partsOf_22 rfl ?_
      refine E_iload_n dX12_partsOf_24 rfl ?_
      refine E_aload_n dX12_partsOf_25 rfl ?_
      refine E_getRL dX12_partsOf_26 kF_X12_75 kY_12 (Or.inr ⟨_, rfl⟩) (l_128 hL) (k_128 hL) (r_128_26 hL) ?_
      refine E_iload dX12_partsOf_29 rfl ?_
      refine E_ialdL (v := yP (gat _ _)) dX12_partsOf_31 (l_149 hL) (k_149 hL) rfl (by first | omega | exact h.n256 _) (by decide) (h.at (by omega)).2.2.2.2.1 ?_
      refine E_bipush (v := -100) dX12_partsOf_32 (by decide) ?_
      refine E_icmp_ne_r (tgt := 44) dX12_partsOf_34 (by decide) (fun c_34 => ?_) (fun c_34 => ?_)
      · refine E_aload_n dX12_partsOf_44 rfl ?_
        refine E_getRL dX12_partsOf_45 kF_X12_75 kY_12 (Or.inr ⟨_, rfl⟩) (l_128 hL) (k_128 hL) (r_128_26 hL) ?_
        refine E_iload dX12_partsOf_48 rfl ?_
        refine E_ialdL (v := yP (gat _ _)) dX12_partsOf_50 (l_149 hL) (k_149 hL) rfl (by first | omega | exact h.n256 _) (by decide) (h.at (by omega)).2.2.2.2.1 ?_
        refine E_iadd dX12_partsOf_51 ?_
        refine E_iast dX12_partsOf_52 (l_149 hL) (k_149 hL) rfl (by first | omega | exact h.n256 _) (by decide) ?_
        refine E_iinc_n (d := 1) dX12_partsOf_53 rfl rfl rfl (by decide) rfl ?_
        refine E_goto (tgt := 3) dX12_partsOf_56 (by decide) ?_
        refine ih (by omega) (by omega) _ ?_
        rw [← upK_s (by omega), hM]
        first
          | (rw [cI_t (by assumption)]; exact h.putP (by omega))
          | (rw [cI_f (by assumption)]; exact h.putP (by omega))
      · refine E_iload dX12_partsOf_37 rfl ?_
        refine E_iconst (v := nI 1) dX12_partsOf_39 (by decide) ?_
        refine E_isub dX12_partsOf_40 ?_
        refine E_goto (tgt := 51) dX12_partsOf_41 (by decide) ?_
        refine E_iadd dX12_partsOf_51 ?_
        refine E_iast dX12_partsOf_52 (l_149 hL) (k_149 hL) rfl (by first | omega | exact h.n256 _) (by decide) ?_
        refine E_iinc_n (d := 1) dX12_partsOf_53 rfl rfl rfl (by decide) rfl ?_
        refine E_goto (tgt := 3) dX12_partsOf_56 (by decide) ?_
        refine ih (by omega) (by omega) _ ?_
        rw [← upK_s (by omega), hM]
        first
          | (rw [cI_t (by assumption)]; exact h.putP (by omega))
          | (rw [cI_f (by assumption)]; exact h.putP (by omega))
set_option maxRecDepth 100000 in
set_option maxHeartbeats 4000000 in
theorem sp_X12_partsOf {g : gG} {M : gM} {Q : Option Value ⊕ String → gM → Prop} {c : Cf} {f : Nat} {M0 : gM} {L : List Gl} {w : Int32} (h : mX c f M0 L w M) {a b : Nat} {s p : Int32} (ha : a ≤ b) (hb : b ≤ L.length) (K : ∀ M, mX c f M0 (prtL c f L a b s p) w M → Q (.inl none) M) : E g 2 0 0 mX12_partsOf 0 [.ref 129, .int (nI a), .int (nI b), .int s, .int p, .null] [] M Q := by
  have hL := h.lay
  have hf := h.hf
  have hn := h.len
  refine E_iload_n dX12_partsOf_0 rfl ?_
  refine E_istore dX12_partsOf_1 (Nat.le_of_ble_eq_true rfl) (by decide) rfl ?_
  refine lp_X12_partsOf hb K a ha (Nat.le_refl _) M ?_
  rw [upK_0 (F := prF c f a b s p) (fun j hj => pr_lo hj)]
  exact h
noncomputable def mgF (lo hi : Nat) (_ : Nat) (x : Gl) : Gl := cI (lo ≤ yC x ∧ yC x ≤ hi) (sC x lo) x
noncomputable def mrgL (L : List Gl) (lo hi : Nat) : List Gl := updL L (mgF lo hi)
theorem mrg_len (L : List Gl) (lo hi : Nat) : (mrgL L lo hi).length = L.length := upd_len _ _
theorem sC_self (x : Gl) : sC x (yC x) = x := rfl
theorem sN_self (x : Gl) : sN x (yN x) = x := rfl
theorem mkL_congr {n : Nat} {h h' : Nat → Gl} (q : ∀ j, j < n → h j = h' j) : mkL n h = mkL n h' := row_ext (by rw [mkL_len, mkL_len]) (fun i hi => by
  rw [mkL_len] at hi
  rw [gat_mkL hi, gat_mkL hi, q i hi])
set_option maxRecDepth 100000 in
set_option maxHeartbeats 4000000 in
theorem lp_X12_merges {g : gG} {Q : Option Value ⊕ String → gM → Prop} {c : Cf} {f : Nat} {M0 : gM} {L : List Gl} {w : Int32} {a b : Nat} (ha : a < 16) (hb : b < 16) (K : ∀ M, mX c f M0 (mrgL L a b) w M → Q (.inl none) M) : ∀ k, k ≤ L.length → ∀ M, mX c f M0 (upK L (mgF a b) k) w M → E g 2 0 0 mX12_merges 2 [.ref 129, .int (nI a), .int (nI b), .int (nI k)] [] M Q := by
  refine lpUp L.length (fun k hk ih => ?_)
  intro M h
  have hL := h.lay
  have hf := h.hf
  have hn := h.len
  have hu := upK_len L (mgF a b) k
  have h1 := h.c16 k
  refine E_iload_n dX12_merges_2 rfl ?_
  refine E_aload_n dX12_merges_3 rfl ?_
  refine E_getIL (v := nI _) dX12_merges_4 kF_X12_235 kY_12 (Or.inl rfl) (l_128 hL) (k_128 hL) h.gn ?_
  refine E_icmp_ge_n (tgt := 46) dX12_merges_7 (by decide) (by omega) (by omega) (fun c_7 => ?_) (fun c_7 => ?_)
  · refine E_vret dX12_merges_46 rfl ?_
    obtain rfl : k = L.length := by omega
    rw [show upK L (mgF a b) L.length = mrgL L a b from mkL_congr (fun j hj => if_pos hj)] at h
    exact K M h
  · refine E_aload_n dX12_merges_10 rfl ?_
    refine E_getRL dX12_merges_11 kF_X12_66 kY_12 (Or.inr ⟨_, rfl⟩) (l_128 hL) (k_128 hL) (r_128_23 hL) ?_
    refine E_iload_n dX12_merges_14 rfl ?_
    refine E_aload_n dX12_merges_15 rfl ?_
    refine E_getRL dX12_merges_16 kF_X12_66 kY_12 (Or.inr ⟨_, rfl⟩) (l_128 hL) (k_128 hL) (r_128_23 hL) ?_
    refine E_iload_n dX12_merges_19 rfl ?_
    refine E_ialdL (v := nI (yC (gat _ _))) dX12_merges_20 (l_146 hL) (k_146 hL) rfl (by first | omega | exact h.n256 _) (by decide) (h.at (by omega)).2.1 ?_
    refine E_iload_n dX12_merges_21 rfl ?_
    refine E_iload_n dX12_merges_22 rfl ?_
    refine E_callS3 (fr' := 1) (k1 := 0) (n1 := 0) (k2 := 0) (n2 := 0) dX12_merges_23 kO_X12_in kL_X12_162 rfl rfl rfl (by decide) (by decide) (by exact Nat.le_of_ble_eq_true rfl) (Or.inl rfl) rfl ?_
    refine sp_X12_in ?_
    refine gKv ?_
    refine E_if_eq_b (tgt := 33) dX12_merges_26 (by decide) (fun c_26 => ?_) (fun c_26 => ?_)
    · rw [iIn_n (by omega) (by omega) (by omega)] at c_26
      refine E_aload_n dX12_merges_33 rfl ?_
      refine E_getRL dX12_merges_34 kF_X12_66 kY_12 (Or.inr ⟨_, rfl⟩) (l_128 hL) (k_128 hL) (r_128_23 hL) ?_
      refine E_iload_n dX12_merges_37 rfl ?_
      refine E_ialdL (v := nI (yC (gat _ _))) dX12_merges_38 (l_146 hL) (k_146 hL) rfl (by first | omega | exact h.n256 _) (by decide) (h.at (by omega)).2.1 ?_
      refine E_iast dX12_merges_39 (l_146 hL) (k_146 hL) rfl (by first | omega | exact h.n256 _) (by decide) ?_
      refine E_iinc_n (d := 1) dX12_merges_40 rfl rfl rfl (by decide) rfl ?_
      refine E_goto (tgt := 2) dX12_merges_43 (by decide) ?_
      refine ih (by omega) _ ?_
      rw [← upK_s (by omega), show mgF a b k (gat (upK L (mgF a b) k) k) = sC (gat (upK L (mgF a b) k) k) (yC (gat (upK L (mgF a b) k) k)) from cI_f c_26]
      exact h.putC (by omega) h1
    · rw [iIn_n (by omega) (by omega) (by omega)] at c_26
      refine E_iload_n dX12_merges_29 rfl ?_
      refine E_goto (tgt := 39) dX12_merges_30 (by decide) ?_
      refine E_iast dX12_merges_39 (l_146 hL) (k_146 hL) rfl (by first | omega | exact h.n256 _) (by decide) ?_
      refine E_iinc_n (d := 1) dX12_merges_40 rfl rfl rfl (by decide) rfl ?_
      refine E_goto (tgt := 2) dX12_merges_43 (by decide) ?_
      refine ih (by omega) _ ?_
      rw [← upK_s (by omega), show mgF a b k (gat (upK L (mgF a b) k) k) = sC (gat (upK L (mgF a b) k) k) a from cI_t c_26]
      exact h.putC (by omega) ha
set_option maxRecDepth 100000 in
set_option maxHeartbeats 4000000 in
theorem sp_X12_merges {g : gG} {M : gM} {Q : Option Value ⊕ String → gM → Prop} {c : Cf} {f : Nat} {M0 : gM} {L : List Gl} {w : Int32} (h : mX c f M0 L w M) {a b : Nat} (ha : a < 16) (hb : b < 16) (K : ∀ M, mX c f M0 (mrgL L a b) w M → Q (.inl none) M) : E g 2 0 0 mX12_merges 0 [.ref 129, .int (nI a), .int (nI b), .null] [] M Q := by
  have hL := h.lay
  have hf := h.hf
  have hn := h.len
  refine E_iconst (v := nI 0) dX12_merges_0 (by decide) ?_
  refine E_istore_n dX12_merges_1 (Nat.le_of_ble_eq_true rfl) (by decide) rfl ?_
  refine lp_X12_merges ha hb K 0 (Nat.zero_le _) M ?_
  rw [upK_0 (fun j hj => by omega)]
  exact h
noncomputable def wTk (w : Int32) (i into : Nat) : Int32 := cI (w = nI i) (nI into) (cI (w ≤ nI i) w (w - nI 1))
set_option maxRecDepth 100000 in
set_option maxHeartbeats 4000000 in
theorem sp_X12_takesIn {g : gG} {M : gM} {Q : Option Value ⊕ String → gM → Prop} {c : Cf} {f : Nat} {M0 : gM} {L : List Gl} {w : Int32} (h : mX c f M0 L w M) {i into : Nat} (hi : i < L.length) (K : ∀ M, mX c f M0 (closeL L i) (wTk w i into) M → Q (.inl none) M) : E g 3 0 0 mX12_takesIn 0 [.ref 129, .int (nI i), .int (nI into)] [] M Q := by
  have hL := h.lay
  have hf := h.hf
  have hn := h.len
  refine E_aload_n dX12_takesIn_0 rfl ?_
  refine E_iload_n dX12_takesIn_1 rfl ?_
  refine E_callV1 (fr' := 2) (k1 := 0) (n1 := 0) (k2 := 0) (n2 := 0) dX12_takesIn_2 kO_X12_closes kL_X12_262 (l_128 hL) (k_128 hL) ⟨by decide, rfl⟩ rfl (by decide) (by decide) (by exact Nat.le_of_ble_eq_true rfl) rfl ?_
  refine sp_X12_closes h (by omega) (fun M h => ?_)
  have hL := h.lay
  have hn := h.len
  refine gKn ?_
  refine E_aload_n dX12_takesIn_5 rfl ?_
  refine E_aload_n dX12_takesIn_6 rfl ?_
  refine E_getIL (v := w) dX12_takesIn_7 kF_X12_303 kY_12 (Or.inl rfl) (l_128 hL) (k_128 hL) h.gw ?_
  refine E_iload_n dX12_takesIn_10 rfl ?_
  refine E_icmp_ne_r (tgt := 18) dX12_takesIn_11 (by decide) (fun c_11 => ?_) (fun c_11 => ?_)
  · refine E_aload_n dX12_takesIn_18 rfl ?_
    refine E_getIL (v := w) dX12_takesIn_19 kF_X12_303 kY_12 (Or.inl rfl) (l_128 hL) (k_128 hL) h.gw ?_
    refine E_iload_n dX12_takesIn_22 rfl ?_
    refine E_icmp_le (tgt := 35) dX12_takesIn_23 (by decide) (fun c_23 => ?_) (fun c_23 => ?_)
    · refine E_aload_n dX12_takesIn_35 rfl ?_
      refine E_getIL (v := w) dX12_takesIn_36 kF_X12_303 kY_12 (Or.inl rfl) (l_128 hL) (k_128 hL) h.gw ?_
      refine E_putI dX12_takesIn_39 kF_X12_303 kY_12 (Or.inl rfl) (l_128 hL) (k_128 hL) (Or.inl rfl) ?_
      refine E_vret dX12_takesIn_42 rfl ?_
      have h2 := h.setW (wTk w i into)
      unfold wTk at h2
      first
        | (rw [cI_t (by assumption)] at h2; refine K _ ?_; unfold wTk; rw [cI_t (by assumption)]; exact h2)
        | (rw [cI_f (by assumption), cI_t (by assumption)] at h2; refine K _ ?_; unfold wTk; rw [cI_f (by assumption), cI_t (by assumption)]; exact h2)
        | (rw [cI_f (by assumption), cI_f (by assumption)] at h2; refine K _ ?_; unfold wTk; rw [cI_f (by assumption), cI_f (by assumption)]; exact h2)
    · refine E_aload_n dX12_takesIn_26 rfl ?_
      refine E_getIL (v := w) dX12_takesIn_27 kF_X12_303 kY_12 (Or.inl rfl) (l_128 hL) (k_128 hL) h.gw ?_
      refine E_iconst (v := nI 1) dX12_takesIn_30 (by decide) ?_
      refine E_isub dX12_takesIn_31 ?_
      refine E_goto (tgt := 39) dX12_takesIn_32 (by decide) ?_
      refine E_putI dX12_takesIn_39 kF_X12_303 kY_12 (Or.inl rfl) (l_128 hL) (k_128 hL) (Or.inl rfl) ?_
      refine E_vret dX12_takesIn_42 rfl ?_
      have h2 := h.setW (wTk w i into)
      unfold wTk at h2
      first
        | (rw [cI_t (by assumption)] at h2; refine K _ ?_; unfold wTk; rw [cI_t (by assumption)]; exact h2)
        | (rw [cI_f (by assumption), cI_t (by assumption)] at h2; refine K _ ?_; unfold wTk; rw [cI_f (by assumption), cI_t (by assumption)]; exact h2)
        | (rw [cI_f (by assumption), cI_f (by assumption)] at h2; refine K _ ?_; unfold wTk; rw [cI_f (by assumption), cI_f (by assumption)]; exact h2)
  · refine E_iload_n dX12_takesIn_14 rfl ?_
    refine E_goto (tgt := 39) dX12_takesIn_15 (by decide) ?_
    refine E_putI dX12_takesIn_39 kF_X12_303 kY_12 (Or.inl rfl) (l_128 hL) (k_128 hL) (Or.inl rfl) ?_
    refine E_vret dX12_takesIn_42 rfl ?_
    have h2 := h.setW (wTk w i into)
    unfold wTk at h2
    first
      | (rw [cI_t (by assumption)] at h2; refine K _ ?_; unfold wTk; rw [cI_t (by assumption)]; exact h2)
      | (rw [cI_f (by assumption), cI_t (by assumption)] at h2; refine K _ ?_; unfold wTk; rw [cI_f (by assumption), cI_t (by assumption)]; exact h2)
      | (rw [cI_f (by assumption), cI_f (by assumption)] at h2; refine K _ ?_; unfold wTk; rw [cI_f (by assumption), cI_f (by assumption)]; exact h2)
