/-! the law: its row -/
set_option maxRecDepth 100000 in
set_option maxHeartbeats 4000000 in
theorem lp_L_nextF {g : gG} {M : gM} {Q : Option Value ⊕ String → gM → Prop} {c : Cf} {f : Nat} {M0 : gM} {pw : Nat} {L : List Gl} {w z : Int32} (h : lX c f M0 pw L w z M) {l : Nat} (hl : l < cN c 129 f) {i : Nat} (hi : i < L.length) (K0 : ¬ aft c f (12 * f + l) L i < L.length → Q (.inl (some (.int (-1)))) M) (K : aft c f (12 * f + l) L i < L.length → Q (.inl (some (.int (nI (aft c f (12 * f + l) L i))))) M) : ∀ k, k ≤ L.length → fnd (fun k => ¬ skp c f (12 * f + l) (yN (gat L k))) L.length k = aft c f (12 * f + l) L i → E g 4 0 0 mL_next 7 [.ref (pw + 1), .ref 130, .ref 132, .ref 133, .int (nI (8 * f + l)), .int (nI i), .int (nI 1), .int (nI k)] [] M Q := by
  have hL := h.lay
  have hf := h.f2
  have hn := h.len
  have hct := h.ct
  refine lpUp L.length (fun k hk ih => ?_)
  intro he
  refine E_iload dL_next_7 rfl ?_
  refine E_if_lt_n (tgt := 51) dL_next_9 (by decide) (by omega) ?_
  refine E_iload dL_next_12 rfl ?_
  refine E_aload_n dL_next_14 rfl ?_
  refine E_iconst (v := nI 5) dL_next_15 (by decide) ?_
  refine E_ialdL (v := nI (List.length _)) dL_next_16 (l_132 hL) (k_132 hL) rfl (by omega) (by decide) h.a5 ?_
  refine E_icmp_ge_n (tgt := 51) dL_next_17 (by decide) (by omega) (by omega) (fun c_17 => ?_) (fun c_17 => ?_)
  · refine E_iconst (v := -1) dL_next_51 (by decide) ?_
    refine E_iret dL_next_52 (Or.inl rfl) ?_
    exact K0 (by rw [← he, fnd_end (by omega)]; omega)
  · refine E_aload_n dL_next_20 rfl ?_
    refine E_aload_n dL_next_21 rfl ?_
    refine E_aload_n dL_next_22 rfl ?_
    refine E_bipush (v := nI 6) dL_next_23 (by decide) ?_
    refine E_ialdL (v := nI _) dL_next_25 (l_132 hL) (k_132 hL) rfl (by omega) (by decide) h.a6 ?_
    refine E_iload dL_next_26 rfl ?_
    refine E_aload_n dL_next_28 rfl ?_
    refine E_iload dL_next_29 rfl ?_
    refine E_laldL (v := pk _) dL_next_31 h.plt h.pkd rfl (by omega) (by decide) (h.wk (by omega)) ?_
    refine E_callT5 (fr' := 3) (k1 := 0) (n1 := 0) (k2 := 0) (n2 := 0) dL_next_32 kO_L_passed kL_L_120 (by exact Nat.le_of_ble_eq_true rfl) (by decide) (by exact Nat.le_of_ble_eq_true rfl) (Or.inl rfl) rfl ?_
    refine sp_L_passed (by first | exact h | exact h.S) hf hl (h.ok (by omega)) ?_
    refine gKv ?_
    refine E_if_ne_b (tgt := 41) dL_next_35 (by decide) (fun c_35 => ?_) (fun c_35 => ?_)
    · refine E_iload dL_next_41 rfl ?_
      refine E_iload dL_next_43 rfl ?_
      refine E_iadd_n dL_next_45 ?_
      refine E_istore dL_next_46 (Nat.le_of_ble_eq_true rfl) (by decide) rfl ?_
      refine E_goto (tgt := 7) dL_next_48 (by decide) ?_
      exact ih (by omega) (by rw [← he]; exact (fnd_skip (by omega) (fun q => q c_35)).symm)
    · refine E_iload dL_next_38 rfl ?_
      refine E_iret dL_next_40 (Or.inl rfl) ?_
      have e2 : k = aft c f (12 * f + l) L i := by rw [← he]; exact (fnd_hit (by omega) c_35).symm
      rw [← e2] at K
      exact K (by omega)
set_option maxRecDepth 100000 in
set_option maxHeartbeats 4000000 in
theorem sp_L_nextF {g : gG} {M : gM} {Q : Option Value ⊕ String → gM → Prop} {c : Cf} {f : Nat} {M0 : gM} {pw : Nat} {L : List Gl} {w z : Int32} (h : lX c f M0 pw L w z M) {l : Nat} (hl : l < cN c 129 f) {i : Nat} (hi : i < L.length) (K0 : ¬ aft c f (12 * f + l) L i < L.length → Q (.inl (some (.int (-1)))) M) (K : aft c f (12 * f + l) L i < L.length → Q (.inl (some (.int (nI (aft c f (12 * f + l) L i))))) M) : E g 4 0 0 mL_next 0 [.ref (pw + 1), .ref 130, .ref 132, .ref 133, .int (nI (8 * f + l)), .int (nI i), .int (nI 1), .null] [] M Q := by
  have hL := h.lay
  have hf := h.f2
  have hn := h.len
  have hct := h.ct
  refine E_iload dL_next_0 rfl ?_
  refine E_iload dL_next_2 rfl ?_
  refine E_iadd_n dL_next_4 ?_
  refine E_istore dL_next_5 (Nat.le_of_ble_eq_true rfl) (by decide) rfl ?_
  exact lp_L_nextF h hl hi K0 K (i + 1) (by omega) rfl
theorem ahd_le (c : Cf) (f l : Nat) (L : List Gl) (i : Nat) : ahd c f l L i ≤ i := rfd_le (P := fun k => ¬ skp c f l (yN (gat L k))) i
set_option maxRecDepth 100000 in
set_option maxHeartbeats 4000000 in
theorem lp_L_nextB {g : gG} {M : gM} {Q : Option Value ⊕ String → gM → Prop} {c : Cf} {f : Nat} {M0 : gM} {pw : Nat} {L : List Gl} {w z : Int32} (h : lX c f M0 pw L w z M) {l : Nat} (hl : l < cN c 129 f) {i : Nat} (hi : i < L.length) (K : Q (.inl (some (.int (dI (ahd c f (12 * f + l) L i))))) M) : ∀ q, 0 ≤ q → q ≤ i → rfd (fun k => ¬ skp c f (12 * f + l) (yN (gat L k))) q = ahd c f (12 * f + l) L i → E g 4 0 0 mL_next 7 [.ref (pw + 1), .ref 130, .ref 132, .ref 133, .int (nI (8 * f + l)), .int (nI i), .int (-1), .int (dI q)] [] M Q := by
  have hL := h.lay
  have hf := h.f2
  have hn := h.len
  have hct := h.ct
  refine lpDn 0 (fun q _ ih => ?_)
  intro hqi he
  refine E_iload dL_next_7 rfl ?_
  refine E_if_lt_d (tgt := 51) dL_next_9 (by decide) (by omega) (fun c_9 => ?_) (fun c_9 => ?_)
  · refine E_iconst (v := -1) dL_next_51 (by decide) ?_
    refine E_iret dL_next_52 (Or.inl rfl) ?_
    subst c_9
    have e2 : ahd c f (12 * f + l) L i = 0 := he.symm
    rw [e2] at K
    exact K
  · obtain ⟨q, rfl⟩ : ∃ z, q = z + 1 := ⟨q - 1, by omega⟩
    rw [dI_succ]
    refine E_iload dL_next_12 rfl ?_
    refine E_aload_n dL_next_14 rfl ?_
    refine E_iconst (v := nI 5) dL_next_15 (by decide) ?_
    refine E_ialdL (v := nI (List.length _)) dL_next_16 (l_132 hL) (k_132 hL) rfl (by omega) (by decide) h.a5 ?_
    refine E_icmp_ge_n (tgt := 51) dL_next_17 (by decide) (by omega) (by omega) (fun c_17 => ?_) (fun c_17 => ?_)
    · refine E_iconst (v := -1) dL_next_51 (by decide) ?_
      refine E_iret dL_next_52 (Or.inl rfl) ?_
      exfalso; omega
    · refine E_aload_n dL_next_20 rfl ?_
      refine E_aload_n dL_next_21 rfl ?_
      refine E_aload_n dL_next_22 rfl ?_
      refine E_bipush (v := nI 6) dL_next_23 (by decide) ?_
      refine E_ialdL (v := nI _) dL_next_25 (l_132 hL) (k_132 hL) rfl (by omega) (by decide) h.a6 ?_
      refine E_iload dL_next_26 rfl ?_
      refine E_aload_n dL_next_28 rfl ?_
      refine E_iload dL_next_29 rfl ?_
      refine E_laldL (v := pk _) dL_next_31 h.plt h.pkd rfl (by omega) (by decide) (h.wk (by omega)) ?_
      refine E_callT5 (fr' := 3) (k1 := 0) (n1 := 0) (k2 := 0) (n2 := 0) dL_next_32 kO_L_passed kL_L_120 (by exact Nat.le_of_ble_eq_true rfl) (by decide) (by exact Nat.le_of_ble_eq_true rfl) (Or.inl rfl) rfl ?_
      refine sp_L_passed (by first | exact h | exact h.S) hf hl (h.ok (by omega)) ?_
      refine gKv ?_
      refine E_if_ne_b (tgt := 41) dL_next_35 (by decide) (fun c_35 => ?_) (fun c_35 => ?_)
      · refine E_iload dL_next_41 rfl ?_
        refine E_iload dL_next_43 rfl ?_
        refine E_iadd dL_next_45 ?_
        rw [nI_m1]
        refine E_istore dL_next_46 (Nat.le_of_ble_eq_true rfl) (by decide) rfl ?_
        refine E_goto (tgt := 7) dL_next_48 (by decide) ?_
        exact ih (by omega) (by omega) (by rw [← he]; exact (rfd_f (fun z => z c_35)).symm)
      · refine E_iload dL_next_38 rfl ?_
        refine E_iret dL_next_40 (Or.inl rfl) ?_
        rw [rfd_t c_35] at he
        rw [← he, dI_succ] at K
        exact K
set_option maxRecDepth 100000 in
set_option maxHeartbeats 4000000 in
theorem sp_L_nextB {g : gG} {M : gM} {Q : Option Value ⊕ String → gM → Prop} {c : Cf} {f : Nat} {M0 : gM} {pw : Nat} {L : List Gl} {w z : Int32} (h : lX c f M0 pw L w z M) {l : Nat} (hl : l < cN c 129 f) {i : Nat} (hi : i < L.length) (K : Q (.inl (some (.int (dI (ahd c f (12 * f + l) L i))))) M) : E g 4 0 0 mL_next 0 [.ref (pw + 1), .ref 130, .ref 132, .ref 133, .int (nI (8 * f + l)), .int (nI i), .int (-1), .null] [] M Q := by
  have hL := h.lay
  have hf := h.f2
  have hn := h.len
  have hct := h.ct
  refine E_iload dL_next_0 rfl ?_
  refine E_iload dL_next_2 rfl ?_
  refine E_iadd dL_next_4 ?_
  rw [nI_m1]
  refine E_istore dL_next_5 (Nat.le_of_ble_eq_true rfl) (by decide) rfl ?_
  exact lp_L_nextB h hl hi K i (Nat.zero_le _) (Nat.le_refl _) rfl
/-- one glyph put in -/
def insL (L : List Gl) (a : Nat) (x : Gl) : List Gl := mkL (L.length + 1) (fun j => if j < a then gat L j else if j = a then x else gat L (j - 1))
theorem ins_len (L : List Gl) (a : Nat) (x : Gl) : (insL L a x).length = L.length + 1 := mkL_len _ _
theorem gat_ins {L : List Gl} {a j : Nat} {x : Gl} (h : j < L.length + 1) : gat (insL L a x) j = if j < a then gat L j else if j = a then x else gat L (j - 1) := gat_mkL h
theorem gat_close {L : List Gl} {a j : Nat} (h : j < L.length - 1) : gat (closeL L a) j = gat L (if j < a then j else j + 1) := gat_mkL h
theorem clo_len (L : List Gl) (a : Nat) : (closeL L a).length = L.length - 1 := mkL_len _ _
theorem okZL_ins {L : List Gl} (h : okZL L) {x : Gl} (hx : okZ x) {a : Nat} (ha : a ≤ L.length) (hn : L.length < 64) : okZL (insL L a x) := okZL_mk (by omega) (fun i hi => by
  by_cases e : i < a
  · rw [if_pos e]; exact h.at (by omega)
  · rw [if_neg e]; by_cases e2 : i = a
    · rw [if_pos e2]; exact hx
    · rw [if_neg e2]; exact h.at (by omega))
theorem okZL_close {L : List Gl} (h : okZL L) (a : Nat) : okZL (closeL L a) := okZL_mk (by have := h.1; omega) (fun i hi => h.at (by split <;> omega))
def ptR (L : List Gl) (k : Nat) : Nat → Option Gl := fun j => if k < j then L[j - 1]? else L[j]?
theorem ptR_0 (L : List Gl) : ∀ i x, ptR L L.length i = some x → L[i]? = some x := fun i x h => by
  unfold ptR at h
  by_cases e : L.length < i
  · rw [if_pos e, List.getElem?_eq_none (by omega)] at h; cases h
  · rw [if_neg e] at h; exact h
theorem ptR_s (L : List Gl) (k : Nat) : rup (ptR L (k + 1)) (k + 1) (L[k]?) = ptR L k := funext fun j => by
  unfold rup ptR
  by_cases e : j = k + 1
  · subst e; rw [if_pos rfl, if_pos (by omega), Nat.add_sub_cancel]
  · rw [if_neg e]; by_cases e2 : k < j
    · rw [if_pos e2, if_pos (by omega)]
    · rw [if_neg e2, if_neg (by omega)]
theorem ptR_e {L : List Gl} {a : Nat} {x : Gl} (ha : a ≤ L.length) {i : Nat} (hi : i < (insL L a x).length) : rup (ptR L a) a (some x) i = some (gat (insL L a x) i) := by
  rw [ins_len] at hi
  rw [gat_ins hi]
  unfold rup ptR
  by_cases e : i = a
  · rw [if_pos e, if_neg (by omega), if_pos e]
  · rw [if_neg e]; by_cases e2 : i < a
    · rw [if_neg (by omega), if_pos e2]; exact gat_some (by omega)
    · rw [if_pos (by omega), if_neg e2, if_neg e]; exact gat_some (by omega)
noncomputable def wPt (w : Int32) (a : Nat) : Int32 := cI (w < nI a) w (w + nI 1)
noncomputable def wTa (w : Int32) (a : Nat) : Int32 := cI (w ≤ nI a) w (w - nI 1)
set_option maxRecDepth 100000 in
set_option maxHeartbeats 4000000 in
theorem lp_L_put {g : gG} {Q : Option Value ⊕ String → gM → Prop} {c : Cf} {f : Nat} {M0 : gM} {pw : Nat} {L : List Gl} {w z : Int32} (ho : okZL L) {a : Nat} {x : Gl} (ha : a ≤ L.length) (hn : L.length < 64) (hx : okZ x) (K : ∀ M, lX c f M0 pw (insL L a x) (wPt w a) z M → Q (.inl none) M) : ∀ k, a ≤ k → k ≤ L.length → ∀ M, lY c f M0 pw L.length (ptR L k) w z M → E g 1 0 0 mL_put 5 [.ref (pw + 1), .ref 133, .int (nI a), .long (pk x), .null, .int (nI k)] [] M Q := by
  refine lpDn a (fun k hak ih => ?_)
  intro hkn M h
  have hL := h.lay
  refine E_iload dL_put_5 rfl ?_
  refine E_iload_n dL_put_7 rfl ?_
  refine E_icmp_le_n (tgt := 27) dL_put_8 (by decide) (by omega) (by omega) (fun c_8 => ?_) (fun c_8 => ?_)
  · obtain rfl : k = a := by omega
    refine E_aload_n dL_put_27 rfl ?_
    refine E_iload_n dL_put_28 rfl ?_
    refine E_lload_n dL_put_29 rfl ?_
    refine E_last dL_put_30 h.plt h.pkd rfl (by omega) (by decide) ?_
    have h1 := (h.cell (b := k) (x := x)).setN (m := L.length + 1)
    have h2 := h1.x (L := insL L k x) (ins_len _ _ _).symm (fun i hi => ptR_e ha hi) (okZL_ins ho hx ha hn)
    have h0 := h
    have e5 : mI (sL M pw k (pk x)) 132 5 = nI L.length := h0.a5
    refine E_aload_n dL_put_31 rfl ?_
    refine E_iconst (v := nI 5) dL_put_32 (by decide) ?_
    refine E_dup2 dL_put_33 rfl rfl ?_
    refine E_ialdL (v := nI L.length) dL_put_34 (l_132 hL) (k_132 hL) rfl (by decide) (by decide) e5 ?_
    refine E_iconst (v := nI 1) dL_put_35 (by decide) ?_
    refine E_iadd_n dL_put_36 ?_
    refine E_iast dL_put_37 (l_132 hL) (k_132 hL) rfl (by decide) (by decide) ?_
    generalize sI (sL M pw k (pk x)) 132 5 (nI (L.length + 1)) = M at h2 ⊢
    have h := h2
    have hL := h.lay
    refine E_aload_n dL_put_38 rfl ?_
    refine E_bipush (v := nI 7) dL_put_39 (by decide) ?_
    refine E_ialdL (v := _) dL_put_41 (l_132 hL) (k_132 hL) rfl (by omega) (by decide) h.a7 ?_
    refine E_iload_n dL_put_42 rfl ?_
    refine E_icmp_lt (tgt := 54) dL_put_43 (by decide) (fun c_43 => ?_) (fun c_43 => ?_)
    · refine E_vret dL_put_54 rfl ?_
      first
        | (rw [show wPt w k = w from cI_t c_43] at K; exact K _ h)
        | (rw [show wPt w k = w + nI 1 from cI_f c_43] at K; exact K _ h)
    · refine E_aload_n dL_put_46 rfl ?_
      refine E_bipush (v := nI 7) dL_put_47 (by decide) ?_
      refine E_dup2 dL_put_49 rfl rfl ?_
      refine E_ialdL (v := _) dL_put_50 (l_132 hL) (k_132 hL) rfl (by omega) (by decide) h.a7 ?_
      refine E_iconst (v := nI 1) dL_put_51 (by decide) ?_
      refine E_iadd dL_put_52 ?_
      refine E_setW dL_put_53 h (fun M h => ?_)
      refine E_vret dL_put_54 rfl ?_
      first
        | (rw [show wPt w k = w from cI_t c_43] at K; exact K _ h)
        | (rw [show wPt w k = w + nI 1 from cI_f c_43] at K; exact K _ h)
  · obtain ⟨k, rfl⟩ : ∃ z, k = z + 1 := ⟨k - 1, by omega⟩
    refine E_aload_n dL_put_11 rfl ?_
    refine E_iload dL_put_12 rfl ?_
    refine E_aload_n dL_put_14 rfl ?_
    refine E_iload dL_put_15 rfl ?_
    refine E_iconst (v := nI 1) dL_put_17 (by decide) ?_
    refine E_isub_n dL_put_18 (by omega) ?_
    refine E_laldL (v := pk (gat L k)) dL_put_19 h.plt h.pkd rfl (by omega) (by decide) (h.at (i := k) (x := gat L k) (by unfold ptR; rw [if_neg (by omega)]; exact gat_some (by omega))) ?_
    refine E_last dL_put_20 h.plt h.pkd rfl (by omega) (by decide) ?_
    refine E_iinc (v := nI k) dL_put_21 rfl (pk_m1 k) (by decide) rfl ?_
    refine E_goto (tgt := 5) dL_put_24 (by decide) ?_
    have h1 := h.cell (b := k + 1) (x := gat L k)
    rw [← gat_some (show k < L.length by omega), ptR_s] at h1
    exact ih (by omega) (by omega) _ h1
set_option maxRecDepth 100000 in
set_option maxHeartbeats 4000000 in
theorem sp_L_put {g : gG} {M : gM} {Q : Option Value ⊕ String → gM → Prop} {c : Cf} {f : Nat} {M0 : gM} {pw : Nat} {L : List Gl} {w z : Int32} (h : lX c f M0 pw L w z M) {a : Nat} {x : Gl} (ha : a ≤ L.length) (hn : L.length < 64) (hx : okZ x) (K : ∀ M, lX c f M0 pw (insL L a x) (wPt w a) z M → Q (.inl none) M) : E g 1 0 0 mL_put 0 [.ref (pw + 1), .ref 133, .int (nI a), .long (pk x), .null, .null] [] M Q := by
  have hL := h.lay
  refine E_aload_n dL_put_0 rfl ?_
  refine E_iconst (v := nI 5) dL_put_1 (by decide) ?_
  refine E_ialdL (v := nI (List.length _)) dL_put_2 (l_132 hL) (k_132 hL) rfl (by omega) (by decide) h.a5 ?_
  refine E_istore dL_put_3 (Nat.le_of_ble_eq_true rfl) (by decide) rfl ?_
  exact lp_L_put h.2 ha hn hx K L.length ha (Nat.le_refl _) M (h.1.mono (ptR_0 L))
set_option maxRecDepth 100000 in
set_option maxHeartbeats 4000000 in
theorem lp_L_take {g : gG} {Q : Option Value ⊕ String → gM → Prop} {c : Cf} {f : Nat} {M0 : gM} {pw : Nat} {L : List Gl} {w z : Int32} (ho : okZL L) {a : Nat} (ha : a < L.length) (K : ∀ M, lX c f M0 pw (closeL L a) (wTa w a) z M → Q (.inl (some (.long (pk (gat L a))))) M) : ∀ k, k ≤ L.length - 1 → a ≤ k → ∀ M, lY c f M0 pw (L.length - 1) (clR L a k) w z M → E g 1 0 0 mL_take 14 [.ref (pw + 1), .ref 133, .int (nI a), .long (pk (gat L a)), .null, .int (nI k)] [] M Q := by
  have hn := ho.1
  refine lpUp (L.length - 1) (fun k hk ih => ?_)
  intro hak M h
  have hL := h.lay
  refine E_iload dL_take_14 rfl ?_
  refine E_aload_n dL_take_16 rfl ?_
  refine E_iconst (v := nI 5) dL_take_17 (by decide) ?_
  refine E_ialdL (v := nI (List.length _ - 1)) dL_take_18 (l_132 hL) (k_132 hL) rfl (by omega) (by decide) h.a5 ?_
  refine E_icmp_ge_n (tgt := 38) dL_take_19 (by decide) (by omega) (by omega) (fun c_19 => ?_) (fun c_19 => ?_)
  · obtain rfl : k = L.length - 1 := by omega
    have h := h.x (L := closeL L a) (clo_len _ _).symm (fun i hi => clR_e (by rw [clo_len] at hi; exact hi)) (okZL_close ho a)
    refine E_aload_n dL_take_38 rfl ?_
    refine E_bipush (v := nI 7) dL_take_39 (by decide) ?_
    refine E_ialdL (v := _) dL_take_41 (l_132 hL) (k_132 hL) rfl (by omega) (by decide) h.a7 ?_
    refine E_iload_n dL_take_42 rfl ?_
    refine E_icmp_le (tgt := 54) dL_take_43 (by decide) (fun c_43 => ?_) (fun c_43 => ?_)
    · refine E_lload_n dL_take_54 rfl ?_
      refine E_lret dL_take_55 rfl ?_
      first
        | (rw [show wTa w a = w from cI_t c_43] at K; exact K _ h)
        | (rw [show wTa w a = w - nI 1 from cI_f c_43] at K; exact K _ h)
    · refine E_aload_n dL_take_46 rfl ?_
      refine E_bipush (v := nI 7) dL_take_47 (by decide) ?_
      refine E_dup2 dL_take_49 rfl rfl ?_
      refine E_ialdL (v := _) dL_take_50 (l_132 hL) (k_132 hL) rfl (by omega) (by decide) h.a7 ?_
      refine E_iconst (v := nI 1) dL_take_51 (by decide) ?_
      refine E_isub dL_take_52 ?_
      refine E_setW dL_take_53 h (fun M h => ?_)
      refine E_lload_n dL_take_54 rfl ?_
      refine E_lret dL_take_55 rfl ?_
      first
        | (rw [show wTa w a = w from cI_t c_43] at K; exact K _ h)
        | (rw [show wTa w a = w - nI 1 from cI_f c_43] at K; exact K _ h)
  · refine E_aload_n dL_take_22 rfl ?_
    refine E_iload dL_take_23 rfl ?_
    refine E_aload_n dL_take_25 rfl ?_
    refine E_iload dL_take_26 rfl ?_
    refine E_iconst (v := nI 1) dL_take_28 (by decide) ?_
    refine E_iadd_n dL_take_29 ?_
    refine E_laldL (v := pk (gat L (k + 1))) dL_take_30 h.plt h.pkd rfl (by omega) (by decide) (h.at (i := k + 1) (x := gat L (k + 1)) (by unfold clR; rw [if_neg (by omega)]; exact gat_some (by omega))) ?_
    refine E_last dL_take_31 h.plt h.pkd rfl (by omega) (by decide) ?_
    refine E_iinc_n (d := 1) dL_take_32 rfl rfl rfl (by decide) rfl ?_
    refine E_goto (tgt := 14) dL_take_35 (by decide) ?_
    have h1 := h.cell (b := k) (x := gat L (k + 1))
    have e : (some (gat L (k + 1)) : Option Gl) = clR L a k (k + 1) := by unfold clR; rw [if_neg (by omega)]; exact (gat_some (by omega)).symm
    rw [e, clR_s L hak] at h1
    exact ih (by omega) (by omega) _ h1
set_option maxRecDepth 100000 in
set_option maxHeartbeats 4000000 in
theorem sp_L_take {g : gG} {M : gM} {Q : Option Value ⊕ String → gM → Prop} {c : Cf} {f : Nat} {M0 : gM} {pw : Nat} {L : List Gl} {w z : Int32} (h : lX c f M0 pw L w z M) {a : Nat} (ha : a < L.length) (K : ∀ M, lX c f M0 pw (closeL L a) (wTa w a) z M → Q (.inl (some (.long (pk (gat L a))))) M) : E g 1 0 0 mL_take 0 [.ref (pw + 1), .ref 133, .int (nI a), .null, .null, .null] [] M Q := by
  have hL := h.lay
  have hf := h.f2
  have hn := h.len
  refine E_aload_n dL_take_0 rfl ?_
  refine E_iload_n dL_take_1 rfl ?_
  refine E_laldL (v := pk _) dL_take_2 h.plt h.pkd rfl (by omega) (by decide) (h.wk (by omega)) ?_
  refine E_lstore_n dL_take_3 (Nat.le_of_ble_eq_true rfl) (by decide) rfl ?_
  refine E_aload_n dL_take_4 rfl ?_
  refine E_iconst (v := nI 5) dL_take_5 (by decide) ?_
  refine E_dup2 dL_take_6 rfl rfl ?_
  refine E_ialdL (v := nI (List.length _)) dL_take_7 (l_132 hL) (k_132 hL) rfl (by omega) (by decide) h.a5 ?_
  refine E_iconst (v := nI 1) dL_take_8 (by decide) ?_
  refine E_isub_n dL_take_9 (by omega) ?_
  refine E_iast dL_take_10 (l_132 hL) (k_132 hL) rfl (by omega) (by decide) ?_
  refine E_iload_n dL_take_11 rfl ?_
  refine E_istore dL_take_12 (Nat.le_of_ble_eq_true rfl) (by decide) rfl ?_
  refine lp_L_take h.2 ha K a (by omega) (Nat.le_refl _) _ ?_
  rw [clR_0]
  exact h.1.setN
set_option maxRecDepth 100000 in
set_option maxHeartbeats 4000000 in
theorem sp_L_fits {g : gG} {M : gM} {Q : Option Value ⊕ String → gM → Prop} {c : Cf} {f : Nat} {M0 : gM} {pw : Nat} {L : List Gl} {w z : Int32} (h : lX c f M0 pw L w z M) {item : Int32} {q : Nat} (hq : q ≤ L.length) (K : Q (.inl (some (.int (b2i (thr c f L item q))))) M) : E g 3 0 0 mL_fits 0 [.ref (pw + 1), .ref 132, .ref 133, .int item, .int (dI q)] [] M Q := by
  have hL := h.lay
  have hf := h.f2
  have hn := h.len
  have hct := h.ct
  refine E_iload_n dL_fits_0 rfl ?_
  refine E_bipush (v := -100) dL_fits_1 (by decide) ?_
  refine E_icmp_eq (tgt := 30) dL_fits_3 (by decide) (fun c_3 => ?_) (fun c_3 => ?_)
  · refine E_iconst (v := nI 1) dL_fits_30 (by decide) ?_
    refine E_goto (tgt := 35) dL_fits_31 (by decide) ?_
    refine E_iret dL_fits_35 (Or.inr ⟨rfl, by decide⟩) ?_
    rw [← b2i_t (P := thr c f L item q) (by unfold thr; first | exact Or.inl c_3 | (intro z; rcases z with z | z; exact c_3 z; omega))]; exact K
  · refine E_iload dL_fits_6 rfl ?_
    refine E_if_lt_d (tgt := 34) dL_fits_8 (by decide) (by omega) (fun c_8 => ?_) (fun c_8 => ?_)
    · refine E_iconst (v := nI 0) dL_fits_34 (by decide) ?_
      refine E_iret dL_fits_35 (Or.inr ⟨rfl, by decide⟩) ?_
      rw [← b2i_f (P := thr c f L item q) (by unfold thr; first | exact Or.inl c_3 | (intro z; rcases z with z | z; exact c_3 z; omega))]; exact K
    · obtain ⟨q, rfl⟩ : ∃ z, q = z + 1 := ⟨q - 1, by omega⟩
      rw [dI_succ]
      refine E_aload_n dL_fits_11 rfl ?_
      refine E_aload_n dL_fits_12 rfl ?_
      refine E_bipush (v := nI 6) dL_fits_13 (by decide) ?_
      refine E_ialdL (v := nI _) dL_fits_15 (l_132 hL) (k_132 hL) rfl (by omega) (by decide) h.a6 ?_
      refine E_iload_n dL_fits_16 rfl ?_
      refine E_aload_n dL_fits_17 rfl ?_
      refine E_iload dL_fits_18 rfl ?_
      refine E_laldL (v := pk _) dL_fits_20 h.plt h.pkd rfl (by omega) (by decide) (h.wk (by omega)) ?_
      refine E_callT1 (fr' := 1) (k1 := 0) (n1 := 0) (k2 := 0) (n2 := 0) dL_fits_21 kO_L_glyphOf kL_L_108 (by exact Nat.le_of_ble_eq_true rfl) (by decide) (by exact Nat.le_of_ble_eq_true rfl) (Or.inl rfl) rfl ?_
      refine sp_L_glyphOf (h.ok (by omega)) ?_
      refine gKv ?_
      refine E_callT4 (fr' := 2) (k1 := 0) (n1 := 0) (k2 := 0) (n2 := 0) dL_fits_24 kO_L_is kL_L_128 (by exact Nat.le_of_ble_eq_true rfl) (by decide) (by exact Nat.le_of_ble_eq_true rfl) (Or.inl rfl) rfl ?_
      refine sp_L_is (by first | exact h | exact h.S) hf (by first | assumption | exact h.gl (by omega)) ?_
      refine gKv ?_
      refine E_if_eq_b (tgt := 34) dL_fits_27 (by decide) (fun c_27 => ?_) (fun c_27 => ?_)
      · refine E_iconst (v := nI 0) dL_fits_34 (by decide) ?_
        refine E_iret dL_fits_35 (Or.inr ⟨rfl, by decide⟩) ?_
        rw [← b2i_f (P := thr c f L item (q + 1)) (by unfold thr; rw [Nat.add_sub_cancel]; first | exact Or.inr ⟨by omega, by omega, c_27⟩ | (intro z; rcases z with z | z; exact c_3 z; exact c_27 z.2.2))]; exact K
      · refine E_iconst (v := nI 1) dL_fits_30 (by decide) ?_
        refine E_goto (tgt := 35) dL_fits_31 (by decide) ?_
        refine E_iret dL_fits_35 (Or.inr ⟨rfl, by decide⟩) ?_
        rw [← b2i_t (P := thr c f L item (q + 1)) (by unfold thr; rw [Nat.add_sub_cancel]; first | exact Or.inr ⟨by omega, by omega, c_27⟩ | (intro z; rcases z with z | z; exact c_3 z; exact c_27 z.2.2))]; exact K
set_option maxRecDepth 100000 in
set_option maxHeartbeats 4000000 in
theorem lp_L_base {g : gG} {M : gM} {Q : Option Value ⊕ String → gM → Prop} {c : Cf} {f : Nat} {M0 : gM} {pw : Nat} {L : List Gl} {w z : Int32} (h : lX c f M0 pw L w z M) {i : Nat} (hi : i < L.length) (K : Q (.inl (some (.int (dI (bsE c f L i))))) M) : ∀ q, 0 ≤ q → q ≤ i → rfd (fun k => ¬ 0 < mkc c f (gat L k)) q = bsE c f L i → E g 3 0 0 mL_base 5 [.ref (pw + 1), .ref 132, .ref 133, .int (nI i), .int (dI q)] [] M Q := by
  have hL := h.lay
  have hf := h.f2
  have hn := h.len
  have hct := h.ct
  refine lpDn 0 (fun q _ ih => ?_)
  intro hqi he
  refine E_iload dL_base_5 rfl ?_
  refine E_if_lt_d (tgt := 37) dL_base_7 (by decide) (by omega) (fun c_7 => ?_) (fun c_7 => ?_)
  · refine E_iconst (v := -1) dL_base_37 (by decide) ?_
    refine E_iret dL_base_38 (Or.inl rfl) ?_
    subst c_7
    have e2 : bsE c f L i = 0 := he.symm
    rw [e2] at K
    exact K
  · obtain ⟨q, rfl⟩ : ∃ z, q = z + 1 := ⟨q - 1, by omega⟩
    rw [dI_succ]
    have hm := pEf_b h.wf f (yN (gat L q))
    refine E_aload_n dL_base_10 rfl ?_
    refine E_aload_n dL_base_11 rfl ?_
    refine E_bipush (v := nI 6) dL_base_12 (by decide) ?_
    refine E_ialdL (v := nI _) dL_base_14 (l_132 hL) (k_132 hL) rfl (by omega) (by decide) h.a6 ?_
    refine E_aload_n dL_base_15 rfl ?_
    refine E_iload dL_base_16 rfl ?_
    refine E_laldL (v := pk _) dL_base_18 h.plt h.pkd rfl (by omega) (by decide) (h.wk (by omega)) ?_
    refine E_callT1 (fr' := 1) (k1 := 0) (n1 := 0) (k2 := 0) (n2 := 0) dL_base_19 kO_L_glyphOf kL_L_108 (by exact Nat.le_of_ble_eq_true rfl) (by decide) (by exact Nat.le_of_ble_eq_true rfl) (Or.inl rfl) rfl ?_
    refine sp_L_glyphOf (h.ok (by omega)) ?_
    refine gKv ?_
    refine E_callT3 (fr' := 2) (k1 := 0) (n1 := 0) (k2 := 0) (n2 := 0) dL_base_22 kO_L_mark kL_L_112 (by exact Nat.le_of_ble_eq_true rfl) (by decide) (by exact Nat.le_of_ble_eq_true rfl) (Or.inl rfl) rfl ?_
    refine sp_L_mark (by first | exact h | exact h.S) hf (by first | assumption | exact h.gl (by omega)) ?_
    refine gKv ?_
    refine E_if_ge_d (tgt := 31) dL_base_25 (by decide) (by omega) (fun c_25 => ?_) (fun c_25 => ?_)
    · refine E_iinc_d dL_base_31 rfl rfl (by decide) rfl ?_
      refine E_goto (tgt := 5) dL_base_34 (by decide) ?_
      exact ih (by omega) (by omega) (by rw [← he]; exact (rfd_f (fun z => z c_25)).symm)
    · refine E_iload dL_base_28 rfl ?_
      refine E_iret dL_base_30 (Or.inl rfl) ?_
      rw [rfd_t (P := fun k => ¬ 0 < mkc c f (gat L k)) (show ¬ 0 < mkc c f (gat L q) from by show ¬ 0 < cN c 137 (256 * f + yN (gat L q)); omega)] at he
      rw [← he, dI_succ] at K
      exact K
set_option maxRecDepth 100000 in
set_option maxHeartbeats 4000000 in
theorem sp_L_base {g : gG} {M : gM} {Q : Option Value ⊕ String → gM → Prop} {c : Cf} {f : Nat} {M0 : gM} {pw : Nat} {L : List Gl} {w z : Int32} (h : lX c f M0 pw L w z M) {i : Nat} (hi : i < L.length) (K : Q (.inl (some (.int (dI (bsE c f L i))))) M) : E g 3 0 0 mL_base 0 [.ref (pw + 1), .ref 132, .ref 133, .int (nI i), .null] [] M Q := by
  have hL := h.lay
  have hf := h.f2
  have hn := h.len
  have hct := h.ct
  refine E_iload_n dL_base_0 rfl ?_
  refine E_iconst (v := nI 1) dL_base_1 (by decide) ?_
  refine E_isub_d dL_base_2 ?_
  refine E_istore dL_base_3 (Nat.le_of_ble_eq_true rfl) (by decide) rfl ?_
  exact lp_L_base h hi K i (Nat.zero_le _) (Nat.le_refl _) rfl
/-- the law's 'low' -/
def lowN (v : Int32) (n : Nat) : Nat := v.toUInt32.toNat / 2 % n
theorem lo_v (v : Int32) : (v.toUInt32 >>> ((nI 1).toUInt32 &&& Int32.toUInt32 31)).toInt32 = nI (v.toUInt32.toNat / 2) := by
  have e : v.toUInt32 >>> ((nI 1).toUInt32 &&& Int32.toUInt32 31) = UInt32.ofNat (v.toUInt32.toNat / 2) := UInt32.toNat_inj.mp (by
    rw [UInt32.toNat_shiftRight, show ((nI 1).toUInt32 &&& Int32.toUInt32 31).toNat % 32 = 1 by decide, Nat.shiftRight_eq_div_pow, UInt32.toNat_ofNat']
    have := v.toUInt32.toNat_lt
    rw [Nat.mod_eq_of_lt (by omega)])
  rw [e]
  rfl
theorem lo_lt (v : Int32) : v.toUInt32.toNat / 2 < 2 ^ 31 := by have := v.toUInt32.toNat_lt; omega
theorem lowN_lt (v : Int32) {n : Nat} (h : 0 < n) : lowN v n < n := Nat.mod_lt _ h
set_option maxRecDepth 100000 in
set_option maxHeartbeats 4000000 in
theorem sp_L_low {g : gG} {M : gM} {Q : Option Value ⊕ String → gM → Prop} {v : Int32} {n : Nat} (h0 : 0 < n) (hn : n < 2 ^ 31) (K : Q (.inl (some (.int (nI (lowN v n))))) M) : E g 1 0 0 mL_low 0 [.int v, .int (nI n)] [] M Q := by
  have hl := lo_lt v
  refine E_iload_n dL_low_0 rfl ?_
  refine E_iconst (v := nI 1) dL_low_1 (by decide) ?_
  refine E_iushr dL_low_2 ?_
  rw [lo_v]
  refine E_iload_n dL_low_3 rfl ?_
  refine E_irem_n dL_low_4 (by omega) (by omega) (by omega) ?_
  refine E_iret dL_low_5 (Or.inl rfl) ?_
  exact K
set_option maxRecDepth 100000 in
set_option maxHeartbeats 4000000 in
theorem sp_L_cell {g : gG} {M : gM} {Q : Option Value ⊕ String → gM → Prop} {k : Nat} (hk : k < 2 ^ 20) (hs : gsL g < 2 ^ 20) (K : ∀ v, Q (.inl (some (.int v))) M) : E g 1 0 0 mL_cell 0 [.float 0, .int (nI k)] [] M Q := by
  refine E_iload_n dL_cell_0 rfl ?_
  refine E_aload_s dL_cell_1 rfl ?_
  refine E_slen dL_cell_2 ?_
  refine E_icmp_ge_n (tgt := 12) dL_cell_3 (by decide) (by omega) (by omega) (fun c_3 => ?_) (fun c_3 => ?_)
  · refine E_ldc (v := nI 1205456357) dL_cell_12 (gW_at 448 (by decide +kernel) (by decide +kernel)) ?_
    refine E_iload_n dL_cell_14 rfl ?_
    refine E_bipush (v := nI 9) dL_cell_15 (by decide) ?_
    refine E_iadd_n dL_cell_17 ?_
    refine E_imul_n dL_cell_18 ?_
    refine E_iret dL_cell_19 (Or.inl rfl) ?_
    exact K _
  · refine E_aload_s dL_cell_6 rfl ?_
    refine E_iload_n dL_cell_7 rfl ?_
    refine E_sld dL_cell_8 rfl (by omega) (by omega) ?_
    refine E_goto (tgt := 19) dL_cell_9 (by decide) ?_
    refine E_iret dL_cell_19 (Or.inl rfl) ?_
    exact K _
