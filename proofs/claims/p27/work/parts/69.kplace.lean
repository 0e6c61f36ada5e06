/-! the class: places -/
/-- which field of a glyph each row of places is: advance, height, on, right, up -/
def fdq (q : Nat) : Nat := if q = 0 then 7 else if q = 1 then 8 else q + 8
theorem fdq_inj {p q : Nat} (hp : p < 5) (hq : q < 5) (h : fdq p = fdq q) : p = q := by
  unfold fdq at h
  repeat' split at h
  all_goals omega
theorem fdq_b {q : Nat} (hq : q < 5) : 7 ≤ fdq q ∧ fdq q ≤ 12 ∧ ¬ fdq q = 9 := by
  unfold fdq
  repeat' split
  all_goals omega
def cP (c : Cf) (P : Nat → Nat) (M0 : gM) (L : List Gl) (π : Nat → Nat) (A : Pl) (M : gM) : Prop := cX c P M0 L π M ∧ ∀ q i, q < 5 → i < L.length → mI M (8 + π i) (fdq q) = A q i
section CP
variable {c : Cf} {P : Nat → Nat} {M0 M : gM} {L : List Gl} {π : Nat → Nat} {A : Pl} {f tb : Nat}
theorem cX.gp (h : cX c P M0 L π M) {i k : Nat} {v : Int32} (hi : i < L.length) (hk : 7 ≤ k) : cX c P M0 L π (sI M (8 + π i) k v) := by
  have hn := h.len
  have hp := h.p64 (show i < 64 by omega)
  refine ⟨h.1, h.2.1.wr (by unfold rwR; omega), (mI_ne (by omega)).trans h.n, h.2.2.2.1, h.2.2.2.2.1, fun j hj => ?_, h.ok⟩
  have := h.gl hj
  unfold glC at *
  rw [mI_nj (by omega), mI_nj (by omega), mI_nj (by omega), mI_nj (by omega), mI_nj (by omega), mI_nj (by omega), mI_nj (by omega)]
  exact this
theorem cP.set (h : cP c P M0 L π A M) {q i : Nat} {v : Int32} (hq : q < 5) (hi : i < L.length) : cP c P M0 L π (u2 A q i v) (sI M (8 + π i) (fdq q) v) := by
  have hn := h.1.len
  refine ⟨h.1.gp hi (fdq_b hq).1, fun p j hp hj => ?_⟩
  unfold u2
  rw [mI_sI]
  by_cases e : p = q ∧ j = i
  · rw [if_pos e, if_pos ⟨by rw [e.2], by rw [e.1]⟩]
  · rw [if_neg e, if_neg (fun z => e ⟨fdq_inj hp hq z.2, h.1.inj (by omega) (by omega) (by omega)⟩)]
    exact h.2 p j hp hj
theorem cP.s3 (h : cP c P M0 L π A M) {i : Nat} (b x y : Int32) (hi : i < L.length) : cP c P M0 L π (set3 A i b x y) (sI (sI (sI M (8 + π i) 10 b) (8 + π i) 11 x) (8 + π i) 12 y) :=
  ((h.set (q := 2) (by decide) hi).set (q := 3) (by decide) hi).set (q := 4) (by decide) hi
theorem cP.a7 (h : cP c P M0 L π A M) {i : Nat} (hi : i < L.length) : mI M (8 + π i) 7 = A 0 i := h.2 0 i (by decide) hi
theorem cP.a8 (h : cP c P M0 L π A M) {i : Nat} (hi : i < L.length) : mI M (8 + π i) 8 = A 1 i := h.2 1 i (by decide) hi
theorem cP.a10 (h : cP c P M0 L π A M) {i : Nat} (hi : i < L.length) : mI M (8 + π i) 10 = A 2 i := h.2 2 i (by decide) hi
theorem cP.a11 (h : cP c P M0 L π A M) {i : Nat} (hi : i < L.length) : mI M (8 + π i) 11 = A 3 i := h.2 3 i (by decide) hi
theorem cP.a12 (h : cP c P M0 L π A M) {i : Nat} (hi : i < L.length) : mI M (8 + π i) 12 = A 4 i := h.2 4 i (by decide) hi
theorem cX.fac7 (h : cX c P M0 L π M) (hF : mR M0 75 1 = fb f + 1) : mR M 75 1 = fb f + 1 := (h.fr.bkR (by unfold rwT; decide)).trans hF
theorem cX.tab7 (h : cX c P M0 L π M) (hT : mI M0 75 2 = nI tb) : mI M 75 2 = nI tb := (h.fr.bk (by unfold rwR; omega)).trans hT
end CP
set_option maxRecDepth 100000 in
set_option maxHeartbeats 4000000 in
theorem lp_X7_pairRule {g : gG} {M : gM} {Q : Option Value ⊕ String → gM → Prop} {c : Cf} {P : Nat → Nat} {M0 : gM} {L : List Gl} {π : Nat → Nat} (hc : cX c P M0 L π M) {f tb l p : Nat} (hf : f < 2) (hF0 : mR M0 75 1 = fb f + 1) (hT0 : mI M0 75 2 = nI tb) (htb : tb ≤ 1) (hk0 : kLk c M0 l p) (hfl : l / 12 = f) {i nx : Nat} (hkd : cN c 130 l = 6) (hi : i < L.length) (hnx : nx < L.length) (K : Q (.inl (some (.int (afV (cN c 135 l) (fnd (prP c f l L i nx) (cN c 135 l) 0))))) M) : ∀ k, k ≤ cN c 135 l → fnd (prP c f l L i nx) (cN c 135 l) k = fnd (prP c f l L i nx) (cN c 135 l) 0 → E g 3 0 0 mX7_pairRule 29 [.ref 76, .ref (p + 1), .int (nI i), .int (nI nx), .int (nI (bgB c f l (yN (gat L i)))), .int (nI k)] [] M Q := by
  have hB := hc.B
  have hL := hB.lay
  have hn := hc.len
  have hk := hc.lk hk0
  have hl := hB.wf.lk l
  have hb0 : ∀ q k, begP c f l q k ↔ isAt c f (rul c l k 0) q := fun q k => by unfold begP; rw [show leadOf (cN c 130 l) = 0 by unfold leadOf; rw [if_neg (by omega)]]
  refine lpUp (cN c 135 l) (fun k hk8 ih => ?_)
  intro he
  have n1 := hc.n256 nx
  have hbn : k < cN c 135 l → ((nI (bgB c f l (yN (gat L i))) >>> (nI k &&& 31)) &&& nI 1 = 0 ↔ ¬ begP c f l (yN (gat L i)) k) := fun z => bit_no hl.2.2.2.2.2 z
  have hbP : k < cN c 135 l → ¬ ((nI (bgB c f l (yN (gat L i))) >>> (nI k &&& 31)) &&& nI 1 = 0) → isAt c f (rul c l k 0) (yN (gat L i)) := fun z w => (hb0 _ _).mp (Classical.byContradiction (fun y => w ((hbn z).mpr y)))
  have skip : k < cN c 135 l → ¬ prP c f l L i nx k → fnd (prP c f l L i nx) (cN c 135 l) (k + 1) = fnd (prP c f l L i nx) (cN c 135 l) 0 := fun z w => by rw [← he]; exact (fnd_skip (P := (prP c f l L i nx)) z w).symm
  have hne : k < cN c 135 l → ¬ rul c l k 1 = -100 := fun z => by
    have hwr := hB.wf.ru z
    rw [hkd] at hwr
    exact iItem_n (iF6 hwr.1).2.1
  refine E_iload dX7_pairRule_29 rfl ?_
  refine E_aload_n dX7_pairRule_31 rfl ?_
  refine E_getIL (v := nI (cN _ 135 _)) dX7_pairRule_32 kF_X7_103 kY_4 (Or.inl rfl) (hk.lt0) (hk.kd) hk.f8 ?_
  refine E_icmp_ge_n (tgt := 88) dX7_pairRule_35 (by decide) (by omega) (by omega) (fun c_35 => ?_) (fun c_35 => ?_)
  · refine E_bipush (v := -100) dX7_pairRule_88 (by decide) ?_
    refine E_iret dX7_pairRule_90 (Or.inl rfl) ?_
    rw [← he, fnd_end (by omega), afV_0 (by omega)] at K; exact K
  · refine E_iload dX7_pairRule_38 rfl ?_
    refine E_iload dX7_pairRule_40 rfl ?_
    refine E_ishr dX7_pairRule_42 ?_
    refine E_iconst (v := nI 1) dX7_pairRule_43 (by decide) ?_
    refine E_iand dX7_pairRule_44 ?_
    refine E_if_eq (tgt := 82) dX7_pairRule_45 (by decide) (fun c_45 => ?_) (fun c_45 => ?_)
    · refine E_iinc_n (d := 1) dX7_pairRule_82 rfl rfl rfl (by decide) rfl ?_
      refine E_goto (tgt := 29) dX7_pairRule_85 (by decide) ?_
      refine ih (by omega) (skip (by omega) ?_)
      first
        | exact fun z => (hbn (by omega)).mp c_45 ((hb0 _ _).mpr z.1)
        | exact fun z => c_76 (Or.inr z.2)
    · refine E_aload_n dX7_pairRule_48 rfl ?_
      refine E_getRL dX7_pairRule_49 kF_X7_9 kY_7 (Or.inl ⟨_, rfl⟩) (l_75 hL) (k_75 hL) (hc.fac7 hF0) ?_
      refine E_aload_n dX7_pairRule_52 rfl ?_
      refine E_getRL dX7_pairRule_53 kF_X7_95 kY_4 (Or.inr ⟨_, rfl⟩) (hk.lt0) (hk.kd) hk.r6 ?_
      refine E_iload dX7_pairRule_56 rfl ?_
      refine E_aaldL (v := _) dX7_pairRule_58 (hk.lt (i := 1) (by decide)) (hk.kd1) (by decide) (by decide) rfl (by omega) (by decide) (hk.ru (by omega)) ?_
      refine E_iconst (v := nI 1) dX7_pairRule_59 (by decide) ?_
      refine E_ialdL (v := _) dX7_pairRule_60 (hk.ltu (by omega)) (hk.kdu (by omega)) rfl (by omega) (by decide) (hk.rn (by omega) (by omega)) ?_
      refine E_aload_n dX7_pairRule_61 rfl ?_
      refine E_getRL dX7_pairRule_62 kF_X7_19 kY_7 (Or.inl ⟨_, rfl⟩) (l_75 hL) (k_75 hL) (r_75_0 hL) ?_
      refine E_getRL dX7_pairRule_65 kF_X7_29 kY_8 (Or.inr ⟨_, rfl⟩) (l_6 hL) (k_6 hL) (r_6_0 hL) ?_
      refine E_iload_n dX7_pairRule_68 rfl ?_
      refine E_aaldL (v := _) dX7_pairRule_69 (l_7 hL) (k_7 hL) (by decide) (by decide) rfl (by omega) (by decide) (hc.cell (by omega)) ?_
      refine E_getIL (v := nI (yN (gat _ _))) dX7_pairRule_70 kF_X7_33 kY_2 (Or.inl rfl) (hc.glt (by omega)) (hc.gkd (by omega)) (hc.g0 (by omega)) ?_
      refine E_callV2 (fr' := 1) (k1 := 0) (n1 := 0) (k2 := 0) (n2 := 0) dX7_pairRule_73 kO_X1_suits kL_X7_106 (hB.flt0 hf) (hB.fk0 hf) ⟨by decide, rfl⟩ rfl rfl (by decide) (by decide) (by exact Nat.le_of_ble_eq_true rfl) rfl ?_
      refine sp_X1_suits hB hf n1 ?_
      refine gKv ?_
      refine E_if_eq_b (tgt := 82) dX7_pairRule_76 (by decide) (fun c_76 => ?_) (fun c_76 => ?_)
      · refine E_iinc_n (d := 1) dX7_pairRule_82 rfl rfl rfl (by decide) rfl ?_
        refine E_goto (tgt := 29) dX7_pairRule_85 (by decide) ?_
        refine ih (by omega) (skip (by omega) ?_)
        first
          | exact fun z => (hbn (by omega)).mp c_45 ((hb0 _ _).mpr z.1)
          | exact fun z => c_76 (Or.inr z.2)
      · refine E_iload dX7_pairRule_79 rfl ?_
        refine E_iret dX7_pairRule_81 (Or.inl rfl) ?_
        have hp : prP c f l L i nx k := ⟨hbP (by omega) c_45, c_76.resolve_left (hne (by omega))⟩
        have e : fnd (prP c f l L i nx) (cN c 135 l) 0 = k := by rw [← he]; exact fnd_hit (P := (prP c f l L i nx)) (by omega) hp
        rw [e, afV_n (by omega)] at K; exact K
set_option maxRecDepth 100000 in
set_option maxHeartbeats 4000000 in
theorem sp_X7_pairRule {g : gG} {M : gM} {Q : Option Value ⊕ String → gM → Prop} {c : Cf} {P : Nat → Nat} {M0 : gM} {L : List Gl} {π : Nat → Nat} (hc : cX c P M0 L π M) {f tb l p : Nat} (hf : f < 2) (hF0 : mR M0 75 1 = fb f + 1) (hT0 : mI M0 75 2 = nI tb) (htb : tb ≤ 1) (hk0 : kLk c M0 l p) (hfl : l / 12 = f) {i nx : Nat} (hkd : cN c 130 l = 6) (hi : i < L.length) (hnx : nx < L.length) (K : Q (.inl (some (.int (afV (cN c 135 l) (fnd (prP c f l L i nx) (cN c 135 l) 0))))) M) : E g 3 0 0 mX7_pairRule 0 [.ref 76, .ref (p + 1), .int (nI i), .int (nI nx), .null, .null] [] M Q := by
  have hB := hc.B
  have hL := hB.lay
  have hn := hc.len
  have hk := hc.lk hk0
  have hl := hB.wf.lk l
  refine E_aload_n dX7_pairRule_0 rfl ?_
  refine E_getRL dX7_pairRule_1 kF_X7_9 kY_7 (Or.inl ⟨_, rfl⟩) (l_75 hL) (k_75 hL) (hc.fac7 hF0) ?_
  refine E_aload_n dX7_pairRule_4 rfl ?_
  refine E_aload_n dX7_pairRule_5 rfl ?_
  refine E_getRL dX7_pairRule_6 kF_X7_19 kY_7 (Or.inl ⟨_, rfl⟩) (l_75 hL) (k_75 hL) (r_75_0 hL) ?_
  refine E_getRL dX7_pairRule_9 kF_X7_29 kY_8 (Or.inr ⟨_, rfl⟩) (l_6 hL) (k_6 hL) (r_6_0 hL) ?_
  refine E_iload_n dX7_pairRule_12 rfl ?_
  refine E_aaldL (v := _) dX7_pairRule_13 (l_7 hL) (k_7 hL) (by decide) (by decide) rfl (by omega) (by decide) (hc.cell (by omega)) ?_
  refine E_getIL (v := nI (yN (gat _ _))) dX7_pairRule_14 kF_X7_33 kY_2 (Or.inl rfl) (hc.glt (by omega)) (hc.gkd (by omega)) (hc.g0 (by omega)) ?_
  refine E_aload_n dX7_pairRule_17 rfl ?_
  refine E_getIL (v := nI tb) dX7_pairRule_18 kF_X7_15 kY_7 (Or.inr rfl) (l_75 hL) (k_75 hL) (hc.tab7 hT0) ?_
  refine E_callV3 (fr' := 2) (k1 := 0) (n1 := 0) (k2 := 0) (n2 := 0) dX7_pairRule_21 kO_X1_beginning kL_X7_99 (hB.flt0 hf) (hB.fk0 hf) ⟨by decide, rfl⟩ rfl rfl rfl (by decide) (by decide) (by exact Nat.le_of_ble_eq_true rfl) rfl ?_
  refine sp_X1_beginning hB hf hk hfl (hc.n256 i) htb ?_
  refine gKv ?_
  refine E_istore dX7_pairRule_24 (Nat.le_of_ble_eq_true rfl) (by decide) rfl ?_
  refine E_iconst (v := nI 0) dX7_pairRule_26 (by decide) ?_
  refine E_istore dX7_pairRule_27 (Nat.le_of_ble_eq_true rfl) (by decide) rfl ?_
  exact lp_X7_pairRule hc hf hF0 hT0 htb hk0 hfl hkd hi hnx K 0 (Nat.zero_le _) rfl
set_option maxRecDepth 100000 in
set_option maxHeartbeats 4000000 in
theorem lp_X7_addToPairs {g : gG} {Q : Option Value ⊕ String → gM → Prop} {c : Cf} {P : Nat → Nat} {M0 : gM} {L : List Gl} {π : Nat → Nat} {f tb l p : Nat} (hf : f < 2) (hF0 : mR M0 75 1 = fb f + 1) (hT0 : mI M0 75 2 = nI tb) (htb : tb ≤ 1) (hk0 : kLk c M0 l p) (hfl : l / 12 = f) (hkd : cN c 130 l = 6) : ∀ t i s (A : Pl) M, cP c P M0 L π A M → L.length - i ≤ t → i ≤ L.length → s ≤ i → (K : ∀ M, cP c P M0 L π (prs c f l L t i A) M → Q (.inl none) M) → ∀ v4 v5, E g 4 0 0 mX7_addToPairs 4 [.ref 76, .ref (p + 1), .int (nI i), .int (nI s), v4, v5] [] M Q := by
  intro t
  induction t with
  | zero =>
    intro i s A M hq ht hi hs K v4 v5
    have hc := hq.1
    have hB := hc.B
    have hL := hB.lay
    have hn := hc.len
    have hk := hc.lk hk0
    have hl := hB.wf.lk l
    refine E_iload_n dX7_addToPairs_4 rfl ?_
    refine E_aload_n dX7_addToPairs_5 rfl ?_
    refine E_getRL dX7_addToPairs_6 kF_X7_19 kY_7 (Or.inl ⟨_, rfl⟩) (l_75 hL) (k_75 hL) (r_75_0 hL) ?_
    refine E_getIL (v := nI (List.length _)) dX7_addToPairs_9 kF_X7_23 kY_8 (Or.inl rfl) (l_6 hL) (k_6 hL) hc.n ?_
    refine E_icmp_ge_n (tgt := 131) dX7_addToPairs_12 (by decide) (by omega) (by omega) (fun c_12 => ?_) (fun c_12 => ?_)
    · refine E_vret dX7_addToPairs_131 rfl ?_
      exact K _ hq
    · refine E_iload_n dX7_addToPairs_15 rfl ?_
      refine E_bipush (v := nI 64) dX7_addToPairs_16 (by decide) ?_
      refine E_icmp_ge_n (tgt := 131) dX7_addToPairs_18 (by decide) (by omega) (by omega) (fun c_18 => ?_) (fun c_18 => ?_)
      · refine E_vret dX7_addToPairs_131 rfl ?_
        exact K _ hq
      · exfalso; omega
  | succ t ih =>
    intro i s A M hq ht hi hs K v4 v5
    have K : ∀ M, cP c P M0 L π (cI (i < L.length) (prs c f l L t (prI c f l L i) (prS c f l L i A)) A) M → Q (.inl none) M := K
    have hc := hq.1
    have hB := hc.B
    have hL := hB.lay
    have hn := hc.len
    have hk := hc.lk hk0
    have hl := hB.wf.lk l
    have no : i < L.length → ¬ prD c f l L i → ∀ v4 v5, E g 4 0 0 mX7_addToPairs 4 [.ref 76, .ref (p + 1), .int (nI (i + 1)), .int (nI (s + 1)), v4, v5] [] M Q := fun hil hnd v4 v5 => by
      rw [cI_t hil] at K
      unfold prS prI at K
      rw [cI_f hnd, cI_f hnd] at K
      exact ih _ _ _ _ hq (by omega) (by omega) (by omega) K _ _
    refine E_iload_n dX7_addToPairs_4 rfl ?_
    refine E_aload_n dX7_addToPairs_5 rfl ?_
    refine E_getRL dX7_addToPairs_6 kF_X7_19 kY_7 (Or.inl ⟨_, rfl⟩) (l_75 hL) (k_75 hL) (r_75_0 hL) ?_
    refine E_getIL (v := nI (List.length _)) dX7_addToPairs_9 kF_X7_23 kY_8 (Or.inl rfl) (l_6 hL) (k_6 hL) hc.n ?_
    refine E_icmp_ge_n (tgt := 131) dX7_addToPairs_12 (by decide) (by omega) (by omega) (fun c_12 => ?_) (fun c_12 => ?_)
    · refine E_vret dX7_addToPairs_131 rfl ?_
      first
        | (exfalso; omega)
        | (rw [cI_f (by omega)] at K
           exact K _ hq)
    · refine E_iload_n dX7_addToPairs_15 rfl ?_
      refine E_bipush (v := nI 64) dX7_addToPairs_16 (by decide) ?_
      refine E_icmp_ge_n (tgt := 131) dX7_addToPairs_18 (by decide) (by omega) (by omega) (fun c_18 => ?_) (fun c_18 => ?_)
      · refine E_vret dX7_addToPairs_131 rfl ?_
        first
          | (exfalso; omega)
          | (rw [cI_f (by omega)] at K
             exact K _ hq)
      · have hil : i < L.length := by omega
        have hab := aft_b c f l hil
        refine E_aload_n dX7_addToPairs_21 rfl ?_
        refine E_getRL dX7_addToPairs_22 kF_X7_9 kY_7 (Or.inl ⟨_, rfl⟩) (l_75 hL) (k_75 hL) (hc.fac7 hF0) ?_
        refine E_aload_n dX7_addToPairs_25 rfl ?_
        refine E_aload_n dX7_addToPairs_26 rfl ?_
        refine E_getRL dX7_addToPairs_27 kF_X7_19 kY_7 (Or.inl ⟨_, rfl⟩) (l_75 hL) (k_75 hL) (r_75_0 hL) ?_
        refine E_getRL dX7_addToPairs_30 kF_X7_29 kY_8 (Or.inr ⟨_, rfl⟩) (l_6 hL) (k_6 hL) (r_6_0 hL) ?_
        refine E_iload_n dX7_addToPairs_33 rfl ?_
        refine E_aaldL (v := _) dX7_addToPairs_34 (l_7 hL) (k_7 hL) (by decide) (by decide) rfl (by omega) (by decide) (hc.cell (by omega)) ?_
        refine E_callV2 (fr' := 2) (k1 := 0) (n1 := 0) (k2 := 0) (n2 := 0) dX7_addToPairs_35 kO_X1_hasTurn kL_X7_83 (hB.flt0 hf) (hB.fk0 hf) ⟨by decide, rfl⟩ rfl rfl (by decide) (by decide) (by exact Nat.le_of_ble_eq_true rfl) rfl ?_
        refine sp_X1_hasTurn hc hf hk (by omega) ?_
        refine gKv ?_
        refine E_if_eq_b (tgt := 57) dX7_addToPairs_38 (by decide) (fun c_38 => ?_) (fun c_38 => ?_)
        · refine E_bipush (v := -100) dX7_addToPairs_57 (by decide) ?_
          refine E_istore dX7_addToPairs_59 (Nat.le_of_ble_eq_true rfl) (by decide) rfl ?_
          refine E_iload dX7_addToPairs_61 rfl ?_
          refine E_bipush (v := -100) dX7_addToPairs_63 (by decide) ?_
          refine E_icmp_ne_r (tgt := 73) dX7_addToPairs_65 (by decide) (fun c0 => absurd c0 (by decide)) (fun _ => ?_)
          refine E_bipush (v := -100) dX7_addToPairs_68 (by decide) ?_
          refine E_goto (tgt := 81) dX7_addToPairs_70 (by decide) ?_
          refine E_istore dX7_addToPairs_81 (Nat.le_of_ble_eq_true rfl) (by decide) rfl ?_
          refine E_iload dX7_addToPairs_83 rfl ?_
          refine E_bipush (v := -100) dX7_addToPairs_85 (by decide) ?_
          refine E_icmp_ne_r (tgt := 96) dX7_addToPairs_87 (by decide) (fun c0 => absurd c0 (by decide)) (fun _ => ?_)
          refine E_iinc_n (d := 1) dX7_addToPairs_90 rfl rfl rfl (by decide) rfl ?_
          refine E_goto (tgt := 125) dX7_addToPairs_93 (by decide) ?_
          refine E_iinc_n (d := 1) dX7_addToPairs_125 rfl rfl rfl (by decide) rfl ?_
          refine E_goto (tgt := 4) dX7_addToPairs_128 (by decide) ?_
          exact no hil (fun z => by have := z.1; contradiction) _ _
        · refine E_aload_n dX7_addToPairs_41 rfl ?_
          refine E_getRL dX7_addToPairs_42 kF_X7_19 kY_7 (Or.inl ⟨_, rfl⟩) (l_75 hL) (k_75 hL) (r_75_0 hL) ?_
          refine E_aload_n dX7_addToPairs_45 rfl ?_
          refine E_getRL dX7_addToPairs_46 kF_X7_9 kY_7 (Or.inl ⟨_, rfl⟩) (l_75 hL) (k_75 hL) (hc.fac7 hF0) ?_
          refine E_aload_n dX7_addToPairs_49 rfl ?_
          refine E_iload_n dX7_addToPairs_50 rfl ?_
          refine E_callV3 (fr' := 2) (k1 := 0) (n1 := 0) (k2 := 0) (n2 := 0) dX7_addToPairs_51 kO_X8_behind kL_X7_87 (l_6 hL) (k_6 hL) ⟨by decide, rfl⟩ rfl rfl rfl (by decide) (by decide) (by exact Nat.le_of_ble_eq_true rfl) rfl ?_
          refine sp_X8_behind hc hf hk hil ?_
          refine gKv ?_
          refine E_goto (tgt := 59) dX7_addToPairs_54 (by decide) ?_
          have hgo : goP c f L l i := by assumption
          by_cases hx : aft c f l L i < L.length
          · rw [afV_n hx]
            refine E_istore dX7_addToPairs_59 (Nat.le_of_ble_eq_true rfl) (by decide) rfl ?_
            refine E_iload dX7_addToPairs_61 rfl ?_
            refine E_bipush (v := -100) dX7_addToPairs_63 (by decide) ?_
            refine E_icmp_ne (tgt := 73) dX7_addToPairs_65 (by decide) (fun _ => ?_) (fun c0 => absurd (nI_ne100 (by omega)) c0)
            refine E_aload_n dX7_addToPairs_73 rfl ?_
            refine E_aload_n dX7_addToPairs_74 rfl ?_
            refine E_iload_n dX7_addToPairs_75 rfl ?_
            refine E_iload dX7_addToPairs_76 rfl ?_
            refine E_callV3 (fr' := 3) (k1 := 0) (n1 := 0) (k2 := 0) (n2 := 0) dX7_addToPairs_78 kO_X7_pairRule kL_X7_91 (l_75 hL) (k_75 hL) ⟨by decide, rfl⟩ rfl rfl rfl (by decide) (by decide) (by exact Nat.le_of_ble_eq_true rfl) rfl ?_
            refine sp_X7_pairRule hc hf hF0 hT0 htb hk0 hfl hkd hil hx ?_
            refine gKv ?_
            by_cases hr : prA c f l L i < cN c 135 l
            · rw [show fnd (prP c f l L i (aft c f l L i)) (cN c 135 l) 0 = prA c f l L i from rfl, afV_n hr]
              have hd : prD c f l L i := ⟨hgo, hx, hr⟩
              refine E_istore dX7_addToPairs_81 (Nat.le_of_ble_eq_true rfl) (by decide) rfl ?_
              refine E_iload dX7_addToPairs_83 rfl ?_
              refine E_bipush (v := -100) dX7_addToPairs_85 (by decide) ?_
              refine E_icmp_ne (tgt := 96) dX7_addToPairs_87 (by decide) (fun _ => ?_) (fun c0 => absurd (nI_ne100 (by omega)) c0)
              refine E_aload_n dX7_addToPairs_96 rfl ?_
              refine E_getRL dX7_addToPairs_97 kF_X7_19 kY_7 (Or.inl ⟨_, rfl⟩) (l_75 hL) (k_75 hL) (r_75_0 hL) ?_
              refine E_getRL dX7_addToPairs_100 kF_X7_29 kY_8 (Or.inr ⟨_, rfl⟩) (l_6 hL) (k_6 hL) (r_6_0 hL) ?_
              refine E_iload_n dX7_addToPairs_103 rfl ?_
              refine E_aaldL (v := _) dX7_addToPairs_104 (l_7 hL) (k_7 hL) (by decide) (by decide) rfl (by omega) (by decide) (hc.cell (by omega)) ?_
              refine E_dup dX7_addToPairs_105 rfl ?_
              refine E_getIL (v := _) dX7_addToPairs_106 kF_X7_48 kY_2 (Or.inl rfl) (hc.glt (by omega)) (hc.gkd (by omega)) (hq.a7 (by omega)) ?_
              refine E_aload_n dX7_addToPairs_109 rfl ?_
              refine E_getRL dX7_addToPairs_110 kF_X7_95 kY_4 (Or.inr ⟨_, rfl⟩) (hk.lt0) (hk.kd) hk.r6 ?_
              refine E_iload dX7_addToPairs_113 rfl ?_
              refine E_aaldL (v := _) dX7_addToPairs_115 (hk.lt (i := 1) (by decide)) (hk.kd1) (by decide) (by decide) rfl (by omega) (by decide) (hk.ru (by omega)) ?_
              refine E_iconst (v := nI 2) dX7_addToPairs_116 (by decide) ?_
              refine E_ialdL (v := _) dX7_addToPairs_117 (hk.ltu (by omega)) (hk.kdu (by omega)) rfl (by omega) (by decide) (hk.rn (by omega) (by omega)) ?_
              refine E_iadd dX7_addToPairs_118 ?_
              refine E_putI dX7_addToPairs_119 kF_X7_48 kY_2 (Or.inl rfl) (hc.glt (by omega)) (hc.gkd (by omega)) (Or.inl rfl) ?_
              have hq2 := hq.set (q := 0) (i := i) (v := A 0 i + rul c l (prA c f l L i) 2) (by decide) hil
              rw [cI_t hil] at K
              unfold prS prI at K
              rw [cI_t hd, cI_t hd] at K
              refine E_iload dX7_addToPairs_122 rfl ?_
              refine E_istore_n dX7_addToPairs_124 (Nat.le_of_ble_eq_true rfl) (by decide) rfl ?_
              refine E_iinc_n (d := 1) dX7_addToPairs_125 rfl rfl rfl (by decide) rfl ?_
              refine E_goto (tgt := 4) dX7_addToPairs_128 (by decide) ?_
              exact ih _ _ _ _ hq2 (by omega) (by omega) (by omega) K _ _
            · rw [show fnd (prP c f l L i (aft c f l L i)) (cN c 135 l) 0 = prA c f l L i from rfl, afV_0 hr]
              refine E_istore dX7_addToPairs_81 (Nat.le_of_ble_eq_true rfl) (by decide) rfl ?_
              refine E_iload dX7_addToPairs_83 rfl ?_
              refine E_bipush (v := -100) dX7_addToPairs_85 (by decide) ?_
              refine E_icmp_ne_r (tgt := 96) dX7_addToPairs_87 (by decide) (fun c0 => absurd c0 (by decide)) (fun _ => ?_)
              refine E_iinc_n (d := 1) dX7_addToPairs_90 rfl rfl rfl (by decide) rfl ?_
              refine E_goto (tgt := 125) dX7_addToPairs_93 (by decide) ?_
              refine E_iinc_n (d := 1) dX7_addToPairs_125 rfl rfl rfl (by decide) rfl ?_
              refine E_goto (tgt := 4) dX7_addToPairs_128 (by decide) ?_
              exact no hil (fun z => hr z.2.2) _ _
          · rw [afV_0 hx]
            refine E_istore dX7_addToPairs_59 (Nat.le_of_ble_eq_true rfl) (by decide) rfl ?_
            refine E_iload dX7_addToPairs_61 rfl ?_
            refine E_bipush (v := -100) dX7_addToPairs_63 (by decide) ?_
            refine E_icmp_ne_r (tgt := 73) dX7_addToPairs_65 (by decide) (fun c0 => absurd c0 (by decide)) (fun _ => ?_)
            refine E_bipush (v := -100) dX7_addToPairs_68 (by decide) ?_
            refine E_goto (tgt := 81) dX7_addToPairs_70 (by decide) ?_
            refine E_istore dX7_addToPairs_81 (Nat.le_of_ble_eq_true rfl) (by decide) rfl ?_
            refine E_iload dX7_addToPairs_83 rfl ?_
            refine E_bipush (v := -100) dX7_addToPairs_85 (by decide) ?_
            refine E_icmp_ne_r (tgt := 96) dX7_addToPairs_87 (by decide) (fun c0 => absurd c0 (by decide)) (fun _ => ?_)
            refine E_iinc_n (d := 1) dX7_addToPairs_90 rfl rfl rfl (by decide) rfl ?_
            refine E_goto (tgt := 125) dX7_addToPairs_93 (by decide) ?_
            refine E_iinc_n (d := 1) dX7_addToPairs_125 rfl rfl rfl (by decide) rfl ?_
            refine E_goto (tgt := 4) dX7_addToPairs_128 (by decide) ?_
            exact no hil (fun z => hx z.2.1) _ _
set_option maxRecDepth 100000 in
set_option maxHeartbeats 4000000 in
theorem sp_X7_addToPairs {g : gG} {M : gM} {Q : Option Value ⊕ String → gM → Prop} {c : Cf} {P : Nat → Nat} {M0 : gM} {L : List Gl} {π : Nat → Nat} {A : Pl} (hq : cP c P M0 L π A M) {f tb l p : Nat} (hf : f < 2) (hF0 : mR M0 75 1 = fb f + 1) (hT0 : mI M0 75 2 = nI tb) (htb : tb ≤ 1) (hk0 : kLk c M0 l p) (hfl : l / 12 = f) (hkd : cN c 130 l = 6) (K : ∀ M, cP c P M0 L π (prs c f l L L.length 0 A) M → Q (.inl none) M) : E g 4 0 0 mX7_addToPairs 0 [.ref 76, .ref (p + 1), .null, .null, .null, .null] [] M Q := by
  have hc := hq.1
  have hB := hc.B
  have hL := hB.lay
  have hn := hc.len
  have hk := hc.lk hk0
  have hl := hB.wf.lk l
  refine E_iconst (v := nI 0) dX7_addToPairs_0 (by decide) ?_
  refine E_istore_n dX7_addToPairs_1 (Nat.le_of_ble_eq_true rfl) (by decide) rfl ?_
  refine E_iconst (v := nI 0) dX7_addToPairs_2 (by decide) ?_
  refine E_istore_n dX7_addToPairs_3 (Nat.le_of_ble_eq_true rfl) (by decide) rfl ?_
  exact lp_X7_addToPairs hf hF0 hT0 htb hk0 hfl hkd L.length 0 0 A M hq (by omega) (Nat.zero_le _) (Nat.le_refl _) K _ _
set_option maxRecDepth 100000 in
set_option maxHeartbeats 4000000 in
theorem sp_X4_firstOf0 {g : gG} {M : gM} {Q : Option Value ⊕ String → gM → Prop} {c : Cf} {P : Nat → Nat} (hB : kB c P M) {l p : Nat} (hk : kLk c M l p) (K : Q (.inl (some (.int (-100)))) M) : E g 1 0 0 mX4_firstOf 0 [.ref (p + 1), .int (nI 0), .null] [] M Q := by
  have go : ∀ k, k ≤ cN c 135 l → E g 1 0 0 mX4_firstOf 2 [.ref (p + 1), .int (nI 0), .int (nI k)] [] M Q := by
    have hL := hB.lay
    have hl := hB.wf.lk l
    refine lpUp (cN c 135 l) (fun k hk8 ih => ?_)
    have hz : (nI 0 >>> (nI k &&& 31)) &&& nI 1 = 0 := by
      have h : ∀ k : Fin 9, (nI 0 >>> (nI k.val &&& 31)) &&& nI 1 = 0 := by decide +kernel
      exact h ⟨k, by omega⟩
    refine E_iload_n dX4_firstOf_2 rfl ?_
    refine E_aload_n dX4_firstOf_3 rfl ?_
    refine E_getIL (v := nI (cN _ 135 _)) dX4_firstOf_4 kF_X4_20 kY_4 (Or.inl rfl) (hk.lt0) (hk.kd) hk.f8 ?_
    refine E_icmp_ge_n (tgt := 26) dX4_firstOf_7 (by decide) (by omega) (by omega) (fun c_7 => ?_) (fun c_7 => ?_)
    · refine E_bipush (v := -100) dX4_firstOf_26 (by decide) ?_
      refine E_iret dX4_firstOf_28 (Or.inl rfl) ?_
      first
        | exact K
        | contradiction
    · refine E_iload_n dX4_firstOf_10 rfl ?_
      refine E_iload_n dX4_firstOf_11 rfl ?_
      refine E_ishr dX4_firstOf_12 ?_
      refine E_iconst (v := nI 1) dX4_firstOf_13 (by decide) ?_
      refine E_iand dX4_firstOf_14 ?_
      refine E_if_eq (tgt := 20) dX4_firstOf_15 (by decide) (fun c_15 => ?_) (fun c_15 => ?_)
      · refine E_iinc_n (d := 1) dX4_firstOf_20 rfl rfl rfl (by decide) rfl ?_
        refine E_goto (tgt := 2) dX4_firstOf_23 (by decide) ?_
        exact ih (by omega)
      · refine E_iload_n dX4_firstOf_18 rfl ?_
        refine E_iret dX4_firstOf_19 (Or.inl rfl) ?_
        first
          | exact K
          | contradiction
  have hL := hB.lay
  refine E_iconst (v := nI 0) dX4_firstOf_0 (by decide) ?_
  refine E_istore_n dX4_firstOf_1 (Nat.le_of_ble_eq_true rfl) (by decide) rfl ?_
  exact go 0 (Nat.zero_le _)
noncomputable def fdV (c : Cf) (f l : Nat) (L : List Gl) (i : Nat) : Int32 := cI (hasF c l (gat L i) ∧ rfA c f l L i < cN c 135 l) (nI (rfA c f l L i)) (-100)
noncomputable def lfV (c : Cf) (f l : Nat) (L : List Gl) (i : Nat) : Int32 := cI (hasF c l (gat L i) ∧ rfA c f l L i < cN c 135 l) (rul c l (rfA c f l L i) 2) (-100)
noncomputable def enV (c : Cf) (f l : Nat) (L : List Gl) (i : Nat) : Int32 := cI (hasF c l (gat L i) ∧ rfA c f l L i < cN c 135 l) (rul c l (rfA c f l L i) 1) (-100)
/-- what was not skipped last, and its exit -/
noncomputable def lhR (c : Cf) (f l : Nat) (L : List Gl) (π : Nat → Nat) (k : Nat) : Nat := if ahd c f l L k = 0 then 0 else 8 + π (ahd c f l L k - 1) + 1
noncomputable def lhV (c : Cf) (f l : Nat) (L : List Gl) (k : Nat) : Int32 := if ahd c f l L k = 0 then -100 else lfV c f l L (ahd c f l L k - 1)
theorem rf_fo {c : Cf} {f l : Nat} {L : List Gl} {i : Nat} (hkd : cN c 130 l = 7) : fnd (begP c f l (yN (gat L i))) (cN c 135 l) 0 = rfA c f l L i := fnd_congr (fun k _ _ => by unfold begP; rw [hkd]; exact Iff.rfl)
theorem crv_flat {c : Cf} {f l : Nat} {L : List Gl} {A : Pl} {a : Nat} : ∀ b, a ≤ b → (∀ j, a ≤ j → j < b → ¬ crG c f l L j) → crv c f l L b A = crv c f l L a A := by
  intro b h
  induction b with
  | zero => intro _; rw [Nat.le_zero.mp h]
  | succ b ih =>
    intro hn
    by_cases e : a = b + 1
    · rw [e]
    · show crS c f l L b (crv c f l L b A) = _
      have e2 : crS c f l L b (crv c f l L b A) = crv c f l L b A := cI_f (hn b (by omega) (by omega))
      rw [e2]
      exact ih (by omega) (fun j h1 h2 => hn j h1 (by omega))
theorem ahd_s {c : Cf} {f l : Nat} {L : List Gl} {k : Nat} : (skp c f l (yN (gat L k)) → ahd c f l L (k + 1) = ahd c f l L k) ∧ (¬ skp c f l (yN (gat L k)) → ahd c f l L (k + 1) = k + 1) :=
  ⟨fun h => rfd_f (P := fun k => ¬ skp c f l (yN (gat L k))) (not_not_intro h), fun h => rfd_t (P := fun k => ¬ skp c f l (yN (gat L k))) h⟩
theorem ahd_sp {c : Cf} {f l : Nat} {L : List Gl} (k : Nat) : (∀ j, ahd c f l L k = j + 1 → ¬ skp c f l (yN (gat L j))) ∧ (∀ j, ahd c f l L k ≤ j → j < k → skp c f l (yN (gat L j))) := by
  have h := rfd_spec (P := fun k => ¬ skp c f l (yN (gat L k))) k
  exact ⟨h.1, fun j h1 h2 => Classical.not_not.mp (h.2 j h1 h2)⟩
theorem ahd_aft {c : Cf} {f l : Nat} {L : List Gl} {k q : Nat} (hk : k ≤ L.length) (hq : ahd c f l L k = q + 1) (hns : k < L.length → ¬ skp c f l (yN (gat L k))) : aft c f l L q = k := by
  have h := ahd_sp (c := c) (f := f) (l := l) (L := L) k
  have hle : ahd c f l L k ≤ k := rfd_le k
  exact fnd_eq (P := fun k => ¬ skp c f l (yN (gat L k))) (by omega) hk hns (fun j h1 h2 => not_not_intro (h.2 j (by omega) h2))
theorem crS_no {c : Cf} {f l : Nat} {L : List Gl} {A : Pl} {q k : Nat} (he : aft c f l L q = k) (h : lfV c f l L q = -100 ∨ enV c f l L k = -100) : crS c f l L q A = A := by
  unfold crS
  by_cases g : crG c f l L q
  · rw [cI_t g]
    refine cI_f (fun z => ?_)
    rw [he] at z
    have g2 := g.2.2.2
    rw [he] at g2
    rcases h with h | h
    · unfold lfV at h; rw [cI_t ⟨g.2.2.1, z.1⟩] at h; exact z.2.2.1 h
    · unfold enV at h; rw [cI_t ⟨g2, z.2.1⟩] at h; exact z.2.2.2 h
  · rw [cI_f g]
theorem crS_yes {c : Cf} {f l : Nat} {L : List Gl} {A : Pl} {q k : Nat} (he : aft c f l L q = k) (hk : k < L.length) (hns : ¬ skp c f l (yN (gat L q))) (h1 : ¬ lfV c f l L q = -100) (h2 : ¬ enV c f l L k = -100) : crS c f l L q A = u2 A 1 k (A 1 q + lfV c f l L q - enV c f l L k) := by
  have a1 : hasF c l (gat L q) ∧ rfA c f l L q < cN c 135 l := Classical.byContradiction (fun z => h1 (cI_f z))
  have a2 : hasF c l (gat L k) ∧ rfA c f l L k < cN c 135 l := Classical.byContradiction (fun z => h2 (cI_f z))
  have e1 : lfV c f l L q = rul c l (rfA c f l L q) 2 := cI_t a1
  have e2 : enV c f l L k = rul c l (rfA c f l L k) 1 := cI_t a2
  have g : crG c f l L q := ⟨hns, by omega, a1.1, by rw [he]; exact a2.1⟩
  unfold crS crU
  rw [cI_t g, he, cI_t ⟨a1.2, a2.2, by rw [← e1]; exact h1, by rw [← e2]; exact h2⟩, e1, e2]
set_option maxRecDepth 100000 in
set_option maxHeartbeats 4000000 in
theorem t1_X7_linkHeights {g : gG} {M : gM} {Q : Option Value ⊕ String → gM → Prop} {c : Cf} {P : Nat → Nat} {M0 : gM} {L : List Gl} {π : Nat → Nat} {A : Pl} {f tb l p : Nat} (hf : f < 2) (hF0 : mR M0 75 1 = fb f + 1) (hT0 : mI M0 75 2 = nI tb) (htb : tb ≤ 1) (hk0 : kLk c M0 l p) (hfl : l / 12 = f) {k : Nat} (hkl : k < L.length) (hns : ¬ skp c f l (yN (gat L k))) (K : ∀ M v5 v6 v7 v8, cP c P M0 L π (crv c f l L k A) M → E g 3 0 0 mX7_linkHeights 170 [.ref 76, .ref (p + 1), .ref (lhR c f l L π (k + 1)), .int (lhV c f l L (k + 1)), .int (nI k), v5, v6, v7, v8] [] M Q) (hq : cP c P M0 L π (crv c f l L k A) M) : ∀ r2 lv v6 v8, E g 3 0 0 mX7_linkHeights 145 [.ref 76, .ref (p + 1), .ref r2, .int lv, .int (nI k), .ref (8 + π k + 1), .int v6, .int (fdV c f l L k), v8] [] M Q := by
  intro r2 lv v6 v8
  have hc := hq.1
  have hB := hc.B
  have hL := hB.lay
  have hn := hc.len
  have hk := hc.lk hk0
  have hl := hB.wf.lk l
  have ahs := ahd_s (c := c) (f := f) (l := l) (L := L) (k := k)
  have e2 : lhR c f l L π (k + 1) = 8 + π k + 1 := by unfold lhR; rw [ahs.2 hns, if_neg (by omega), Nat.add_sub_cancel]
  have e3 : lhV c f l L (k + 1) = lfV c f l L k := by unfold lhV; rw [ahs.2 hns, if_neg (by omega), Nat.add_sub_cancel]
  rw [e2, e3] at K
  by_cases hr : hasF c l (gat L k) ∧ rfA c f l L k < cN c 135 l
  · rw [show fdV c f l L k = nI (rfA c f l L k) from cI_t hr]
    rw [show lfV c f l L k = rul c l (rfA c f l L k) 2 from cI_t hr] at K
    have hr2 := hr.2
    refine E_aload dX7_linkHeights_145 rfl ?_
    refine E_astore_n dX7_linkHeights_147 (Nat.le_of_ble_eq_true rfl) (by decide) rfl ?_
    refine E_iload dX7_linkHeights_148 rfl ?_
    refine E_bipush (v := -100) dX7_linkHeights_150 (by decide) ?_
    refine E_icmp_ne (tgt := 160) dX7_linkHeights_152 (by decide) (fun _ => ?_) (fun c0 => absurd (nI_ne100 (by omega)) c0)
    refine E_aload_n dX7_linkHeights_160 rfl ?_
    refine E_getRL dX7_linkHeights_161 kF_X7_95 kY_4 (Or.inr ⟨_, rfl⟩) (hk.lt0) (hk.kd) hk.r6 ?_
    refine E_iload dX7_linkHeights_164 rfl ?_
    refine E_aaldL (v := _) dX7_linkHeights_166 (hk.lt (i := 1) (by decide)) (hk.kd1) (by decide) (by decide) rfl (by omega) (by decide) (hk.ru (by omega)) ?_
    refine E_iconst (v := nI 2) dX7_linkHeights_167 (by decide) ?_
    refine E_ialdL (v := _) dX7_linkHeights_168 (hk.ltu (by omega)) (hk.kdu (by omega)) rfl (by omega) (by decide) (hk.rn (by omega) (by omega)) ?_
    refine E_istore_n dX7_linkHeights_169 (Nat.le_of_ble_eq_true rfl) (by decide) rfl ?_
    exact K _ _ _ _ _ hq
  · rw [show fdV c f l L k = -100 from cI_f hr]
    rw [show lfV c f l L k = -100 from cI_f hr] at K
    refine E_aload dX7_linkHeights_145 rfl ?_
    refine E_astore_n dX7_linkHeights_147 (Nat.le_of_ble_eq_true rfl) (by decide) rfl ?_
    refine E_iload dX7_linkHeights_148 rfl ?_
    refine E_bipush (v := -100) dX7_linkHeights_150 (by decide) ?_
    refine E_icmp_ne_r (tgt := 160) dX7_linkHeights_152 (by decide) (fun c0 => absurd c0 (by decide)) (fun _ => ?_)
    refine E_bipush (v := -100) dX7_linkHeights_155 (by decide) ?_
    refine E_goto (tgt := 169) dX7_linkHeights_157 (by decide) ?_
    refine E_istore_n dX7_linkHeights_169 (Nat.le_of_ble_eq_true rfl) (by decide) rfl ?_
    exact K _ _ _ _ _ hq
set_option maxRecDepth 100000 in
set_option maxHeartbeats 4000000 in
theorem t2_X7_linkHeights {g : gG} {M : gM} {Q : Option Value ⊕ String → gM → Prop} {c : Cf} {P : Nat → Nat} {M0 : gM} {L : List Gl} {π : Nat → Nat} {A : Pl} {f tb l p : Nat} (hf : f < 2) (hF0 : mR M0 75 1 = fb f + 1) (hT0 : mI M0 75 2 = nI tb) (htb : tb ≤ 1) (hk0 : kLk c M0 l p) (hfl : l / 12 = f) (hkd : cN c 130 l = 7) {k : Nat} (hkl : k < L.length) (hns : ¬ skp c f l (yN (gat L k))) (K : ∀ M v5 v6 v7 v8, cP c P M0 L π (crv c f l L k A) M → E g 3 0 0 mX7_linkHeights 170 [.ref 76, .ref (p + 1), .ref (lhR c f l L π (k + 1)), .int (lhV c f l L (k + 1)), .int (nI k), v5, v6, v7, v8] [] M Q) (hq : cP c P M0 L π (crv c f l L (ahd c f l L k - 1) A) M) : ∀ v6 v8, E g 3 0 0 mX7_linkHeights 112 [.ref 76, .ref (p + 1), .ref (lhR c f l L π k), .int (lhV c f l L k), .int (nI k), .ref (8 + π k + 1), .int v6, .int (fdV c f l L k), v8] [.int (enV c f l L k)] M Q := by
  intro v6 v8
  have hc := hq.1
  have hB := hc.B
  have hL := hB.lay
  have hn := hc.len
  have hk := hc.lk hk0
  have hl := hB.wf.lk l
  have hle : ahd c f l L k ≤ k := rfd_le k
  have hsp := ahd_sp (c := c) (f := f) (l := l) (L := L) k
  by_cases q0 : ahd c f l L k = 0
  · have hfl2 : crv c f l L k A = crv c f l L (ahd c f l L k - 1) A := crv_flat k (by omega) (fun j h1 h2 z => z.1 (hsp.2 j (by omega) h2))
    rw [show lhR c f l L π k = 0 by unfold lhR; rw [if_pos q0], show lhV c f l L k = -100 by unfold lhV; rw [if_pos q0]]
    refine E_istore dX7_linkHeights_112 (Nat.le_of_ble_eq_true rfl) (by decide) rfl ?_
    refine E_aload_n dX7_linkHeights_114 rfl ?_
    refine E_ifnull (tgt := 145) dX7_linkHeights_115 (by decide) (fun c_115 => ?_) (fun c_115 => ?_)
    · exact t1_X7_linkHeights hf hF0 hT0 htb hk0 hfl hkl hns K (by rw [hfl2]; exact hq) _ _ _ _
    · exfalso; omega
  · have hae : aft c f l L (ahd c f l L k - 1) = k := ahd_aft (by omega) (by omega) (fun _ => hns)
    have hnq : ¬ skp c f l (yN (gat L (ahd c f l L k - 1))) := hsp.1 _ (by omega)
    have hcr : crv c f l L k A = crS c f l L (ahd c f l L k - 1) (crv c f l L (ahd c f l L k - 1) A) := by
      have e1 : crv c f l L k A = crv c f l L (ahd c f l L k - 1 + 1) A := crv_flat k (by omega) (fun j h1 h2 z => z.1 (hsp.2 j (by omega) h2))
      exact e1
    rw [show lhR c f l L π k = 8 + π (ahd c f l L k - 1) + 1 by unfold lhR; rw [if_neg q0], show lhV c f l L k = lfV c f l L (ahd c f l L k - 1) by unfold lhV; rw [if_neg q0]]
    have hqq : ahd c f l L k - 1 < L.length := by omega
    generalize ahd c f l L k - 1 = qq at *
    refine E_istore dX7_linkHeights_112 (Nat.le_of_ble_eq_true rfl) (by decide) rfl ?_
    refine E_aload_n dX7_linkHeights_114 rfl ?_
    refine E_ifnull (tgt := 145) dX7_linkHeights_115 (by decide) (fun c_115 => ?_) (fun c_115 => ?_)
    · first
        | exact t1_X7_linkHeights hf hF0 hT0 htb hk0 hfl hkl hns K (by rw [hcr, crS_no hae (Or.inl (by assumption))]; exact hq) _ _ _ _
        | exact t1_X7_linkHeights hf hF0 hT0 htb hk0 hfl hkl hns K (by rw [hcr, crS_no hae (Or.inr (by assumption))]; exact hq) _ _ _ _
        | exact t1_X7_linkHeights hf hF0 hT0 htb hk0 hfl hkl hns K (by rw [hcr, crS_yes hae hkl hnq (by assumption) (by assumption)]; exact hq.set (q := 1) (by decide) hkl) _ _ _ _
        | (exfalso; omega)
    · refine E_iload_n dX7_linkHeights_118 rfl ?_
      refine E_bipush (v := -100) dX7_linkHeights_119 (by decide) ?_
      refine E_icmp_eq (tgt := 145) dX7_linkHeights_121 (by decide) (fun c_121 => ?_) (fun c_121 => ?_)
      · first
          | exact t1_X7_linkHeights hf hF0 hT0 htb hk0 hfl hkl hns K (by rw [hcr, crS_no hae (Or.inl (by assumption))]; exact hq) _ _ _ _
          | exact t1_X7_linkHeights hf hF0 hT0 htb hk0 hfl hkl hns K (by rw [hcr, crS_no hae (Or.inr (by assumption))]; exact hq) _ _ _ _
          | exact t1_X7_linkHeights hf hF0 hT0 htb hk0 hfl hkl hns K (by rw [hcr, crS_yes hae hkl hnq (by assumption) (by assumption)]; exact hq.set (q := 1) (by decide) hkl) _ _ _ _
          | (exfalso; omega)
      · refine E_iload dX7_linkHeights_124 rfl ?_
        refine E_bipush (v := -100) dX7_linkHeights_126 (by decide) ?_
        refine E_icmp_eq (tgt := 145) dX7_linkHeights_128 (by decide) (fun c_128 => ?_) (fun c_128 => ?_)
        · first
            | exact t1_X7_linkHeights hf hF0 hT0 htb hk0 hfl hkl hns K (by rw [hcr, crS_no hae (Or.inl (by assumption))]; exact hq) _ _ _ _
            | exact t1_X7_linkHeights hf hF0 hT0 htb hk0 hfl hkl hns K (by rw [hcr, crS_no hae (Or.inr (by assumption))]; exact hq) _ _ _ _
            | exact t1_X7_linkHeights hf hF0 hT0 htb hk0 hfl hkl hns K (by rw [hcr, crS_yes hae hkl hnq (by assumption) (by assumption)]; exact hq.set (q := 1) (by decide) hkl) _ _ _ _
            | (exfalso; omega)
        · refine E_aload dX7_linkHeights_131 rfl ?_
          refine E_aload_n dX7_linkHeights_133 rfl ?_
          refine E_getIL (v := _) dX7_linkHeights_134 kF_X7_51 kY_2 (Or.inl rfl) (hc.glt (by omega)) (hc.gkd (by omega)) (hq.a8 (by omega)) ?_
          refine E_iload_n dX7_linkHeights_137 rfl ?_
          refine E_iadd dX7_linkHeights_138 ?_
          refine E_iload dX7_linkHeights_139 rfl ?_
          refine E_isub dX7_linkHeights_141 ?_
          refine E_putI dX7_linkHeights_142 kF_X7_51 kY_2 (Or.inl rfl) (hc.glt (by omega)) (hc.gkd (by omega)) (Or.inl rfl) ?_
          first
            | exact t1_X7_linkHeights hf hF0 hT0 htb hk0 hfl hkl hns K (by rw [hcr, crS_no hae (Or.inl (by assumption))]; exact hq) _ _ _ _
            | exact t1_X7_linkHeights hf hF0 hT0 htb hk0 hfl hkl hns K (by rw [hcr, crS_no hae (Or.inr (by assumption))]; exact hq) _ _ _ _
            | exact t1_X7_linkHeights hf hF0 hT0 htb hk0 hfl hkl hns K (by rw [hcr, crS_yes hae hkl hnq (by assumption) (by assumption)]; exact hq.set (q := 1) (by decide) hkl) _ _ _ _
            | (exfalso; omega)
set_option maxRecDepth 100000 in
set_option maxHeartbeats 4000000 in
theorem t3_X7_linkHeights {g : gG} {M : gM} {Q : Option Value ⊕ String → gM → Prop} {c : Cf} {P : Nat → Nat} {M0 : gM} {L : List Gl} {π : Nat → Nat} {A : Pl} {f tb l p : Nat} (hf : f < 2) (hF0 : mR M0 75 1 = fb f + 1) (hT0 : mI M0 75 2 = nI tb) (htb : tb ≤ 1) (hk0 : kLk c M0 l p) (hfl : l / 12 = f) (hkd : cN c 130 l = 7) {k : Nat} (hkl : k < L.length) (hns : ¬ skp c f l (yN (gat L k))) (K : ∀ M v5 v6 v7 v8, cP c P M0 L π (crv c f l L k A) M → E g 3 0 0 mX7_linkHeights 170 [.ref 76, .ref (p + 1), .ref (lhR c f l L π (k + 1)), .int (lhV c f l L (k + 1)), .int (nI k), v5, v6, v7, v8] [] M Q) (hq : cP c P M0 L π (crv c f l L (ahd c f l L k - 1) A) M) : ∀ v6 v7 v8, E g 3 0 0 mX7_linkHeights 89 [.ref 76, .ref (p + 1), .ref (lhR c f l L π k), .int (lhV c f l L k), .int (nI k), .ref (8 + π k + 1), .int v6, v7, v8] [.int (fdV c f l L k)] M Q := by
  intro v6 v7 v8
  have hc := hq.1
  have hB := hc.B
  have hL := hB.lay
  have hn := hc.len
  have hk := hc.lk hk0
  have hl := hB.wf.lk l
  have go := t2_X7_linkHeights (g := g) (Q := Q) hf hF0 hT0 htb hk0 hfl hkd hkl hns K hq
  by_cases hr : hasF c l (gat L k) ∧ rfA c f l L k < cN c 135 l
  · rw [show fdV c f l L k = nI (rfA c f l L k) from cI_t hr, show enV c f l L k = rul c l (rfA c f l L k) 1 from cI_t hr] at *
    have hr2 := hr.2
    refine E_istore dX7_linkHeights_89 (Nat.le_of_ble_eq_true rfl) (by decide) rfl ?_
    refine E_iload dX7_linkHeights_91 rfl ?_
    refine E_bipush (v := -100) dX7_linkHeights_93 (by decide) ?_
    refine E_icmp_ne (tgt := 103) dX7_linkHeights_95 (by decide) (fun _ => ?_) (fun c0 => absurd (nI_ne100 (by omega)) c0)
    refine E_aload_n dX7_linkHeights_103 rfl ?_
    refine E_getRL dX7_linkHeights_104 kF_X7_95 kY_4 (Or.inr ⟨_, rfl⟩) (hk.lt0) (hk.kd) hk.r6 ?_
    refine E_iload dX7_linkHeights_107 rfl ?_
    refine E_aaldL (v := _) dX7_linkHeights_109 (hk.lt (i := 1) (by decide)) (hk.kd1) (by decide) (by decide) rfl (by omega) (by decide) (hk.ru (by omega)) ?_
    refine E_iconst (v := nI 1) dX7_linkHeights_110 (by decide) ?_
    refine E_ialdL (v := _) dX7_linkHeights_111 (hk.ltu (by omega)) (hk.kdu (by omega)) rfl (by omega) (by decide) (hk.rn (by omega) (by omega)) ?_
    exact go _ _
  · rw [show fdV c f l L k = -100 from cI_f hr, show enV c f l L k = -100 from cI_f hr] at *
    refine E_istore dX7_linkHeights_89 (Nat.le_of_ble_eq_true rfl) (by decide) rfl ?_
    refine E_iload dX7_linkHeights_91 rfl ?_
    refine E_bipush (v := -100) dX7_linkHeights_93 (by decide) ?_
    refine E_icmp_ne_r (tgt := 103) dX7_linkHeights_95 (by decide) (fun c0 => absurd c0 (by decide)) (fun _ => ?_)
    refine E_bipush (v := -100) dX7_linkHeights_98 (by decide) ?_
    refine E_goto (tgt := 112) dX7_linkHeights_100 (by decide) ?_
    exact go _ _
set_option maxRecDepth 100000 in
set_option maxHeartbeats 4000000 in
theorem lp_X7_linkHeights {g : gG} {Q : Option Value ⊕ String → gM → Prop} {c : Cf} {P : Nat → Nat} {M0 : gM} {L : List Gl} {π : Nat → Nat} {A : Pl} {f tb l p : Nat} (hf : f < 2) (hF0 : mR M0 75 1 = fb f + 1) (hT0 : mI M0 75 2 = nI tb) (htb : tb ≤ 1) (hk0 : kLk c M0 l p) (hfl : l / 12 = f) (hkd : cN c 130 l = 7) (K : ∀ M, cP c P M0 L π (crv c f l L L.length A) M → Q (.inl none) M) : ∀ k, k ≤ L.length → ∀ M v5 v6 v7 v8, cP c P M0 L π (crv c f l L (ahd c f l L k - 1) A) M → E g 3 0 0 mX7_linkHeights 8 [.ref 76, .ref (p + 1), .ref (lhR c f l L π k), .int (lhV c f l L k), .int (nI k), v5, v6, v7, v8] [] M Q := by
  refine lpUp L.length (fun k hkn ih => ?_)
  intro M v5 v6 v7 v8 hq
  have hc := hq.1
  have hB := hc.B
  have hL := hB.lay
  have hn := hc.len
  have hk := hc.lk hk0
  have hl := hB.wf.lk l
  have n1 := hc.n256 k
  have hle : ahd c f l L k ≤ k := rfd_le k
  have hsp := ahd_sp (c := c) (f := f) (l := l) (L := L) k
  have ahs := ahd_s (c := c) (f := f) (l := l) (L := L) (k := k)
  refine E_iload dX7_linkHeights_8 rfl ?_
  refine E_aload_n dX7_linkHeights_10 rfl ?_
  refine E_getRL dX7_linkHeights_11 kF_X7_19 kY_7 (Or.inl ⟨_, rfl⟩) (l_75 hL) (k_75 hL) (r_75_0 hL) ?_
  refine E_getIL (v := nI (List.length _)) dX7_linkHeights_14 kF_X7_23 kY_8 (Or.inl rfl) (l_6 hL) (k_6 hL) hc.n ?_
  refine E_icmp_ge_n (tgt := 176) dX7_linkHeights_17 (by decide) (by omega) (by omega) (fun c_17 => ?_) (fun c_17 => ?_)
  · refine E_vret dX7_linkHeights_176 rfl ?_
    obtain rfl : k = L.length := by omega
    refine K M ?_
    have e : crv c f l L L.length A = crv c f l L (ahd c f l L L.length - 1) A := crv_flat _ (by omega) (fun j h1 h2 z => by
      by_cases w : ahd c f l L L.length ≤ j
      · exact z.1 (hsp.2 j w h2)
      · have ea := ahd_aft (c := c) (f := f) (l := l) (L := L) (k := L.length) (q := j) (Nat.le_refl _) (by omega) (fun w => by omega)
        have := z.2.1
        omega)
    rw [e]; exact hq
  · refine E_aload_n dX7_linkHeights_20 rfl ?_
    refine E_getRL dX7_linkHeights_21 kF_X7_19 kY_7 (Or.inl ⟨_, rfl⟩) (l_75 hL) (k_75 hL) (r_75_0 hL) ?_
    refine E_getRL dX7_linkHeights_24 kF_X7_29 kY_8 (Or.inr ⟨_, rfl⟩) (l_6 hL) (k_6 hL) (r_6_0 hL) ?_
    refine E_iload dX7_linkHeights_27 rfl ?_
    refine E_aaldL (v := _) dX7_linkHeights_29 (l_7 hL) (k_7 hL) (by decide) (by decide) rfl (by omega) (by decide) (hc.cell (by omega)) ?_
    refine E_astore dX7_linkHeights_30 (Nat.le_of_ble_eq_true rfl) (by decide) rfl ?_
    refine E_aload_n dX7_linkHeights_32 rfl ?_
    refine E_getRL dX7_linkHeights_33 kF_X7_9 kY_7 (Or.inl ⟨_, rfl⟩) (l_75 hL) (k_75 hL) (hc.fac7 hF0) ?_
    refine E_aload_n dX7_linkHeights_36 rfl ?_
    refine E_aload dX7_linkHeights_37 rfl ?_
    refine E_getIL (v := nI (yN (gat _ _))) dX7_linkHeights_39 kF_X7_33 kY_2 (Or.inl rfl) (hc.glt (by omega)) (hc.gkd (by omega)) (hc.g0 (by omega)) ?_
    refine E_callV2 (fr' := 1) (k1 := 0) (n1 := 0) (k2 := 0) (n2 := 0) dX7_linkHeights_42 kO_X1_skips kL_X7_110 (hB.flt0 hf) (hB.fk0 hf) ⟨by decide, rfl⟩ rfl rfl (by decide) (by decide) (by exact Nat.le_of_ble_eq_true rfl) rfl ?_
    refine sp_X1_skips hB hf hk (by omega) ?_
    refine gKv ?_
    refine E_if_eq_b (tgt := 51) dX7_linkHeights_45 (by decide) (fun c_45 => ?_) (fun c_45 => ?_)
    · have hkl : k < L.length := by omega
      have hns : ¬ skp c f l (yN (gat L k)) := by assumption
      have go := t3_X7_linkHeights (g := g) (Q := Q) hf hF0 hT0 htb hk0 hfl hkd hkl hns (fun M v5 v6 v7 v8 hq => by
        have hc := hq.1
        have hL := hc.B.lay
        have z := ih hkl M v5 v6 v7 v8 (by rw [ahs.2 hns, Nat.add_sub_cancel]; exact hq)
        refine E_iinc_n (d := 1) dX7_linkHeights_170 rfl rfl rfl (by decide) rfl ?_
        refine E_goto (tgt := 8) dX7_linkHeights_173 (by decide) ?_
        exact z) hq
      refine E_aload_n dX7_linkHeights_51 rfl ?_
      refine E_aload dX7_linkHeights_52 rfl ?_
      refine E_callV1 (fr' := 1) (k1 := 0) (n1 := 0) (k2 := 0) (n2 := 0) dX7_linkHeights_54 kO_X4_isFor kL_X7_114 (hk.lt0) (hk.kd) ⟨by decide, rfl⟩ rfl (by decide) (by decide) (by exact Nat.le_of_ble_eq_true rfl) rfl ?_
      refine sp_X4_isFor hc hk hkl ?_
      refine gKv ?_
      refine E_if_eq_b (tgt := 80) dX7_linkHeights_57 (by decide) (fun c_57 => ?_) (fun c_57 => ?_)
      · refine E_iconst (v := nI 0) dX7_linkHeights_80 (by decide) ?_
        by_cases hh : hasF c l (gat L k)
        · have ef : fdV c f l L k = foV c f l (yN (gat L k)) := by
            unfold fdV foV
            rw [rf_fo hkd]
            exact cI_congr ⟨fun z => z.2, fun z => ⟨hh, z⟩⟩
          rw [ef] at go
          first
            | contradiction
            | (refine E_istore dX7_linkHeights_81 (Nat.le_of_ble_eq_true rfl) (by decide) rfl ?_
               refine E_aload_n dX7_linkHeights_83 rfl ?_
               refine E_iload dX7_linkHeights_84 rfl ?_
               refine E_callV1 (fr' := 1) (k1 := 0) (n1 := 0) (k2 := 0) (n2 := 0) dX7_linkHeights_86 kO_X4_firstOf kL_X7_118 (hk.lt0) (hk.kd) ⟨by decide, rfl⟩ rfl (by decide) (by decide) (by exact Nat.le_of_ble_eq_true rfl) rfl ?_
               refine sp_X4_firstOf hB hk ?_
               refine gKv ?_
               exact go _ _ _)
        · have ef : fdV c f l L k = -100 := cI_f (fun z => hh z.1)
          rw [ef] at go
          first
            | contradiction
            | (refine E_istore dX7_linkHeights_81 (Nat.le_of_ble_eq_true rfl) (by decide) rfl ?_
               refine E_aload_n dX7_linkHeights_83 rfl ?_
               refine E_iload dX7_linkHeights_84 rfl ?_
               refine E_callV1 (fr' := 1) (k1 := 0) (n1 := 0) (k2 := 0) (n2 := 0) dX7_linkHeights_86 kO_X4_firstOf kL_X7_118 (hk.lt0) (hk.kd) ⟨by decide, rfl⟩ rfl (by decide) (by decide) (by exact Nat.le_of_ble_eq_true rfl) rfl ?_
               refine sp_X4_firstOf0 hB hk ?_
               refine gKv ?_
               exact go _ _ _)
      · refine E_aload_n dX7_linkHeights_60 rfl ?_
        refine E_getRL dX7_linkHeights_61 kF_X7_9 kY_7 (Or.inl ⟨_, rfl⟩) (l_75 hL) (k_75 hL) (hc.fac7 hF0) ?_
        refine E_aload_n dX7_linkHeights_64 rfl ?_
        refine E_aload dX7_linkHeights_65 rfl ?_
        refine E_getIL (v := nI (yN (gat _ _))) dX7_linkHeights_67 kF_X7_33 kY_2 (Or.inl rfl) (hc.glt (by omega)) (hc.gkd (by omega)) (hc.g0 (by omega)) ?_
        refine E_aload_n dX7_linkHeights_70 rfl ?_
        refine E_getIL (v := nI tb) dX7_linkHeights_71 kF_X7_15 kY_7 (Or.inr rfl) (l_75 hL) (k_75 hL) (hc.tab7 hT0) ?_
        refine E_callV3 (fr' := 2) (k1 := 0) (n1 := 0) (k2 := 0) (n2 := 0) dX7_linkHeights_74 kO_X1_beginning kL_X7_99 (hB.flt0 hf) (hB.fk0 hf) ⟨by decide, rfl⟩ rfl rfl rfl (by decide) (by decide) (by exact Nat.le_of_ble_eq_true rfl) rfl ?_
        refine sp_X1_beginning hB hf hk hfl n1 htb ?_
        refine gKv ?_
        refine E_goto (tgt := 81) dX7_linkHeights_77 (by decide) ?_
        by_cases hh : hasF c l (gat L k)
        · have ef : fdV c f l L k = foV c f l (yN (gat L k)) := by
            unfold fdV foV
            rw [rf_fo hkd]
            exact cI_congr ⟨fun z => z.2, fun z => ⟨hh, z⟩⟩
          rw [ef] at go
          first
            | contradiction
            | (refine E_istore dX7_linkHeights_81 (Nat.le_of_ble_eq_true rfl) (by decide) rfl ?_
               refine E_aload_n dX7_linkHeights_83 rfl ?_
               refine E_iload dX7_linkHeights_84 rfl ?_
               refine E_callV1 (fr' := 1) (k1 := 0) (n1 := 0) (k2 := 0) (n2 := 0) dX7_linkHeights_86 kO_X4_firstOf kL_X7_118 (hk.lt0) (hk.kd) ⟨by decide, rfl⟩ rfl (by decide) (by decide) (by exact Nat.le_of_ble_eq_true rfl) rfl ?_
               refine sp_X4_firstOf hB hk ?_
               refine gKv ?_
               exact go _ _ _)
        · have ef : fdV c f l L k = -100 := cI_f (fun z => hh z.1)
          rw [ef] at go
          first
            | contradiction
            | (refine E_istore dX7_linkHeights_81 (Nat.le_of_ble_eq_true rfl) (by decide) rfl ?_
               refine E_aload_n dX7_linkHeights_83 rfl ?_
               refine E_iload dX7_linkHeights_84 rfl ?_
               refine E_callV1 (fr' := 1) (k1 := 0) (n1 := 0) (k2 := 0) (n2 := 0) dX7_linkHeights_86 kO_X4_firstOf kL_X7_118 (hk.lt0) (hk.kd) ⟨by decide, rfl⟩ rfl (by decide) (by decide) (by exact Nat.le_of_ble_eq_true rfl) rfl ?_
               refine sp_X4_firstOf0 hB hk ?_
               refine gKv ?_
               exact go _ _ _)
    · have e2 : lhR c f l L π (k + 1) = lhR c f l L π k := by unfold lhR; rw [ahs.1 (by assumption)]
      have e3 : lhV c f l L (k + 1) = lhV c f l L k := by unfold lhV; rw [ahs.1 (by assumption)]
      rw [e2, e3, ahs.1 (by assumption)] at ih
      refine E_goto (tgt := 170) dX7_linkHeights_48 (by decide) ?_
      refine E_iinc_n (d := 1) dX7_linkHeights_170 rfl rfl rfl (by decide) rfl ?_
      refine E_goto (tgt := 8) dX7_linkHeights_173 (by decide) ?_
      exact ih (by omega) _ _ _ _ _ hq
set_option maxRecDepth 100000 in
set_option maxHeartbeats 4000000 in
theorem sp_X7_linkHeights {g : gG} {M : gM} {Q : Option Value ⊕ String → gM → Prop} {c : Cf} {P : Nat → Nat} {M0 : gM} {L : List Gl} {π : Nat → Nat} {A : Pl} (hq : cP c P M0 L π A M) {f tb l p : Nat} (hf : f < 2) (hF0 : mR M0 75 1 = fb f + 1) (hT0 : mI M0 75 2 = nI tb) (htb : tb ≤ 1) (hk0 : kLk c M0 l p) (hfl : l / 12 = f) (hkd : cN c 130 l = 7) (K : ∀ M, cP c P M0 L π (crv c f l L L.length A) M → Q (.inl none) M) : E g 3 0 0 mX7_linkHeights 0 [.ref 76, .ref (p + 1), .null, .null, .null, .null, .null, .null, .null] [] M Q := by
  have hc := hq.1
  have hB := hc.B
  have hL := hB.lay
  have hn := hc.len
  have hk := hc.lk hk0
  have hl := hB.wf.lk l
  refine E_null dX7_linkHeights_0 ?_
  refine E_astore_n dX7_linkHeights_1 (Nat.le_of_ble_eq_true rfl) (by decide) rfl ?_
  refine E_bipush (v := -100) dX7_linkHeights_2 (by decide) ?_
  refine E_istore_n dX7_linkHeights_4 (Nat.le_of_ble_eq_true rfl) (by decide) rfl ?_
  refine E_iconst (v := nI 0) dX7_linkHeights_5 (by decide) ?_
  refine E_istore dX7_linkHeights_6 (Nat.le_of_ble_eq_true rfl) (by decide) rfl ?_
  have e0 : ahd c f l L 0 = 0 := rfl
  have z := lp_X7_linkHeights (g := g) (Q := Q) hf hF0 hT0 htb hk0 hfl hkd K 0 (Nat.zero_le _) M .null .null .null .null (by rw [e0]; exact hq)
  rw [show lhR c f l L π 0 = 0 by unfold lhR; rw [if_pos e0], show lhV c f l L 0 = -100 by unfold lhV; rw [if_pos e0]] at z
  exact z
set_option maxRecDepth 100000 in
set_option maxHeartbeats 4000000 in
theorem sp_X11_isGlyphN {g : gG} {M : gM} {Q : Option Value ⊕ String → gM → Prop} {v : Nat} (hv : v < 256) (K : Q (.inl (some (.int (nI 1)))) M) : E g 1 0 0 mX11_isGlyph 0 [.int (nI v)] [] M Q := by
  refine E_iload_n dX11_isGlyph_0 rfl ?_
  refine E_if_lt_n (tgt := 15) dX11_isGlyph_1 (by decide) (by omega) ?_
  refine E_iload_n dX11_isGlyph_4 rfl ?_
  refine E_sipush (v := nI 256) dX11_isGlyph_5 (by decide) ?_
  refine E_icmp_ge_n (tgt := 15) dX11_isGlyph_8 (by decide) (by omega) (by omega) (fun c_8 => ?_) (fun c_8 => ?_)
  · refine E_iconst (v := nI 0) dX11_isGlyph_15 (by decide) ?_
    refine E_iret dX11_isGlyph_16 (Or.inr ⟨rfl, by decide⟩) ?_
    first
      | exact K
      | (exfalso; omega)
  · refine E_iconst (v := nI 1) dX11_isGlyph_11 (by decide) ?_
    refine E_goto (tgt := 16) dX11_isGlyph_12 (by decide) ?_
    refine E_iret dX11_isGlyph_16 (Or.inr ⟨rfl, by decide⟩) ?_
    first
      | exact K
      | (exfalso; omega)
theorem cI_congr2 {α : Type} {P R : Prop} {a b : α} (h : P ↔ R) : cI P a b = cI R a b := cI_congr h
theorem mkD_k {w : Nat} (h : 0 < w) : mkD w = dI w := cI_f (by omega)
set_option maxRecDepth 100000 in
set_option maxHeartbeats 4000000 in
theorem lp2_X7_setOnBase {g : gG} {M : gM} {Q : Option Value ⊕ String → gM → Prop} {c : Cf} {P : Nat → Nat} {M0 : gM} {L : List Gl} {π : Nat → Nat} {A : Pl} (hq : cP c P M0 L π A M) {f tb l p : Nat} (hf : f < 2) (hF0 : mR M0 75 1 = fb f + 1) (hT0 : mI M0 75 2 = nI tb) (htb : tb ≤ 1) (hk0 : kLk c M0 l p) (hfl : l / 12 = f) (hkd : cN c 130 l = 8) {i : Nat} (hi : i < L.length) (hm0 : 0 < mkc c f (gat L i)) {b : Nat} (hb : b < i) (K : ∀ M, cP c P M0 L π (bsU c f l L i b A) M → Q (.inl none) M) : ∀ k, k ≤ cN c 135 l → fnd (bsP c f l L i b) (cN c 135 l) k = bsA c f l L i b → ∀ v8 v9, E g 3 0 0 mX7_setOnBase 118 [.ref 76, .ref (p + 1), .ref (8 + π i + 1), .int (nI i), .int (nI b), .int (bsT L i b), .int (nI (bgB c f l (yN (gat L b)))), .int (nI k), v8, v9] [] M Q := by
  have hc := hq.1
  have hB := hc.B
  have hL := hB.lay
  have hn := hc.len
  have hk := hc.lk hk0
  have hl := hB.wf.lk l
  have hb0 : ∀ q k, begP c f l q k ↔ isAt c f (rul c l k 0) q := fun q k => by unfold begP; rw [show leadOf (cN c 130 l) = 0 by unfold leadOf; rw [if_neg (by omega)]]
  have n1 := hc.n256 i
  refine lpUp (cN c 135 l) (fun k hk8 ih => ?_)
  intro he v8 v9
  have hbn : k < cN c 135 l → ((nI (bgB c f l (yN (gat L b))) >>> (nI k &&& 31)) &&& nI 1 = 0 ↔ ¬ begP c f l (yN (gat L b)) k) := fun z => bit_no hl.2.2.2.2.2 z
  have hbP : k < cN c 135 l → ¬ ((nI (bgB c f l (yN (gat L b))) >>> (nI k &&& 31)) &&& nI 1 = 0) → isAt c f (rul c l k 0) (yN (gat L b)) := fun z w => (hb0 _ _).mp (Classical.byContradiction (fun y => w ((hbn z).mpr y)))
  have skip : k < cN c 135 l → ¬ bsP c f l L i b k → fnd (bsP c f l L i b) (cN c 135 l) (k + 1) = bsA c f l L i b := fun z w => by rw [← he]; exact (fnd_skip (P := (bsP c f l L i b)) z w).symm
  have emk : mkD (mkc c f (gat L i)) = dI (mkc c f (gat L i)) := mkD_k hm0
  refine E_iload dX7_setOnBase_118 rfl ?_
  refine E_aload_n dX7_setOnBase_120 rfl ?_
  refine E_getIL (v := nI (cN _ 135 _)) dX7_setOnBase_121 kF_X7_103 kY_4 (Or.inl rfl) (hk.lt0) (hk.kd) hk.f8 ?_
  refine E_icmp_ge_n (tgt := 216) dX7_setOnBase_124 (by decide) (by omega) (by omega) (fun c_124 => ?_) (fun c_124 => ?_)
  · refine E_vret dX7_setOnBase_216 rfl ?_
    unfold bsU at K
    rw [cI_f (by rw [← he, fnd_end (by omega)]; omega)] at K
    exact K _ hq
  · refine E_aload_n dX7_setOnBase_127 rfl ?_
    refine E_getRL dX7_setOnBase_128 kF_X7_95 kY_4 (Or.inr ⟨_, rfl⟩) (hk.lt0) (hk.kd) hk.r6 ?_
    refine E_iload dX7_setOnBase_131 rfl ?_
    refine E_aaldL (v := _) dX7_setOnBase_133 (hk.lt (i := 1) (by decide)) (hk.kd1) (by decide) (by decide) rfl (by omega) (by decide) (hk.ru (by omega)) ?_
    refine E_astore dX7_setOnBase_134 (Nat.le_of_ble_eq_true rfl) (by decide) rfl ?_
    refine E_aload dX7_setOnBase_136 rfl ?_
    refine E_iconst (v := nI 1) dX7_setOnBase_138 (by decide) ?_
    refine E_ialdL (v := _) dX7_setOnBase_139 (hk.ltu (by omega)) (hk.kdu (by omega)) rfl (by omega) (by decide) (hk.rn (by omega) (by omega)) ?_
    refine E_bipush (v := -100) dX7_setOnBase_140 (by decide) ?_
    refine E_icmp_eq (tgt := 154) dX7_setOnBase_142 (by decide) (fun c_142 => ?_) (fun c_142 => ?_)
    · refine E_iconst (v := nI 1) dX7_setOnBase_154 (by decide) ?_
      refine E_goto (tgt := 159) dX7_setOnBase_155 (by decide) ?_
      refine E_istore dX7_setOnBase_159 (Nat.le_of_ble_eq_true rfl) (by decide) rfl ?_
      refine E_iload dX7_setOnBase_161 rfl ?_
      refine E_iload dX7_setOnBase_163 rfl ?_
      refine E_ishr dX7_setOnBase_165 ?_
      refine E_iconst (v := nI 1) dX7_setOnBase_166 (by decide) ?_
      refine E_iand dX7_setOnBase_167 ?_
      refine E_if_eq (tgt := 210) dX7_setOnBase_168 (by decide) (fun c_168 => ?_) (fun c_168 => ?_)
      · refine E_iinc_n (d := 1) dX7_setOnBase_210 rfl rfl rfl (by decide) rfl ?_
        refine E_goto (tgt := 118) dX7_setOnBase_213 (by decide) ?_
        refine ih (by omega) (skip (by omega) (fun z => ?_)) _ _
        have z1 := z.1
        have z2 := z.2.1
        have z3 := z.2.2
        first
          | exact (hbn (by omega)).mp c_168 ((hb0 _ _).mpr z1)
          | exact c_192 z3
          | (rcases z2 with z2 | z2 <;> contradiction)
      · refine E_iload dX7_setOnBase_171 rfl ?_
        refine E_if_eq (tgt := 210) dX7_setOnBase_173 (by decide) (fun c0 => absurd c0 (by decide)) (fun _ => ?_)
        refine E_aload dX7_setOnBase_176 rfl ?_
        refine E_iconst (v := nI 2) dX7_setOnBase_178 (by decide) ?_
        refine E_ialdL (v := _) dX7_setOnBase_179 (hk.ltu (by omega)) (hk.kdu (by omega)) rfl (by omega) (by decide) (hk.rn (by omega) (by omega)) ?_
        refine E_aload_n dX7_setOnBase_180 rfl ?_
        refine E_getRL dX7_setOnBase_181 kF_X7_9 kY_7 (Or.inl ⟨_, rfl⟩) (l_75 hL) (k_75 hL) (hc.fac7 hF0) ?_
        refine E_getRL dX7_setOnBase_184 kF_X7_138 kY_1 (Or.inr ⟨_, rfl⟩) (hB.flt0 hf) (hB.fk0 hf) (hB.fr1 hf) ?_
        refine E_aload_n dX7_setOnBase_187 rfl ?_
        refine E_getIL (v := nI (yN (gat _ _))) dX7_setOnBase_188 kF_X7_33 kY_2 (Or.inl rfl) (hc.glt (by omega)) (hc.gkd (by omega)) (hc.g0 (by omega)) ?_
        refine E_ialdL (v := dI (mkc c f (gat L i))) dX7_setOnBase_191 (hB.flt hf (i := 2) (by decide)) (hB.fk2 hf) rfl (by omega) (by decide) ((hB.fmk hf n1).trans emk) ?_
        refine E_icmp_ne_r (tgt := 210) dX7_setOnBase_192 (by decide) (fun c_192 => ?_) (fun c_192 => ?_)
        · refine E_iinc_n (d := 1) dX7_setOnBase_210 rfl rfl rfl (by decide) rfl ?_
          refine E_goto (tgt := 118) dX7_setOnBase_213 (by decide) ?_
          refine ih (by omega) (skip (by omega) (fun z => ?_)) _ _
          have z1 := z.1
          have z2 := z.2.1
          have z3 := z.2.2
          first
            | exact (hbn (by omega)).mp c_168 ((hb0 _ _).mpr z1)
            | exact c_192 z3
            | (rcases z2 with z2 | z2 <;> contradiction)
        · refine E_aload_n dX7_setOnBase_195 rfl ?_
          refine E_iload dX7_setOnBase_196 rfl ?_
          refine E_aload dX7_setOnBase_198 rfl ?_
          refine E_iconst (v := nI 3) dX7_setOnBase_200 (by decide) ?_
          refine E_ialdL (v := _) dX7_setOnBase_201 (hk.ltu (by omega)) (hk.kdu (by omega)) rfl (by omega) (by decide) (hk.rn (by omega) (by omega)) ?_
          refine E_aload dX7_setOnBase_202 rfl ?_
          refine E_iconst (v := nI 4) dX7_setOnBase_204 (by decide) ?_
          refine E_ialdL (v := _) dX7_setOnBase_205 (hk.ltu (by omega)) (hk.kdu (by omega)) rfl (by omega) (by decide) (hk.rn (by omega) (by omega)) ?_
          refine E_callV3 (fr' := 1) (k1 := 0) (n1 := 0) (k2 := 0) (n2 := 0) dX7_setOnBase_206 kO_X2_setOn kL_X7_54 (hc.glt (by omega)) (hc.gkd (by omega)) ⟨by decide, rfl⟩ rfl rfl rfl (by decide) (by decide) (by exact Nat.le_of_ble_eq_true rfl) rfl ?_
          refine sp_X2_setOn (hc.glt (by omega)) (hc.gkd (by omega)) ?_
          have hL := (hq.s3 (i := i) (nI b) (rul c l k 3) (rul c l k 4) hi).1.B.lay
          refine gKn ?_
          refine E_vret dX7_setOnBase_209 rfl ?_
          have hp : bsP c f l L i b k := ⟨hbP (by omega) c_168, by first | exact Or.inl c_142 | exact Or.inr (Classical.not_not.mp c_151) | exact Or.inr c_151, by first | exact c_192 | exact Classical.not_not.mp c_192⟩
          have e : bsA c f l L i b = k := by rw [← he]; exact fnd_hit (P := (bsP c f l L i b)) (by omega) hp
          unfold bsU at K
          rw [e, cI_t (by omega)] at K
          exact K _ (hq.s3 _ _ _ hi)
    · refine E_aload dX7_setOnBase_145 rfl ?_
      refine E_iconst (v := nI 1) dX7_setOnBase_147 (by decide) ?_
      refine E_ialdL (v := _) dX7_setOnBase_148 (hk.ltu (by omega)) (hk.kdu (by omega)) rfl (by omega) (by decide) (hk.rn (by omega) (by omega)) ?_
      refine E_iload dX7_setOnBase_149 rfl ?_
      refine E_icmp_ne_r (tgt := 158) dX7_setOnBase_151 (by decide) (fun c_151 => ?_) (fun c_151 => ?_)
      · refine E_iconst (v := nI 0) dX7_setOnBase_158 (by decide) ?_
        refine E_istore dX7_setOnBase_159 (Nat.le_of_ble_eq_true rfl) (by decide) rfl ?_
        refine E_iload dX7_setOnBase_161 rfl ?_
        refine E_iload dX7_setOnBase_163 rfl ?_
        refine E_ishr dX7_setOnBase_165 ?_
        refine E_iconst (v := nI 1) dX7_setOnBase_166 (by decide) ?_
        refine E_iand dX7_setOnBase_167 ?_
        refine E_if_eq (tgt := 210) dX7_setOnBase_168 (by decide) (fun c_168 => ?_) (fun c_168 => ?_)
        · refine E_iinc_n (d := 1) dX7_setOnBase_210 rfl rfl rfl (by decide) rfl ?_
          refine E_goto (tgt := 118) dX7_setOnBase_213 (by decide) ?_
          refine ih (by omega) (skip (by omega) (fun z => ?_)) _ _
          have z1 := z.1
          have z2 := z.2.1
          have z3 := z.2.2
          first
            | exact (hbn (by omega)).mp c_168 ((hb0 _ _).mpr z1)
            | exact c_192 z3
            | (rcases z2 with z2 | z2 <;> contradiction)
        · refine E_iload dX7_setOnBase_171 rfl ?_
          refine E_if_eq (tgt := 210) dX7_setOnBase_173 (by decide) (fun _ => ?_) (fun c0 => absurd (by decide) c0)
          refine E_iinc_n (d := 1) dX7_setOnBase_210 rfl rfl rfl (by decide) rfl ?_
          refine E_goto (tgt := 118) dX7_setOnBase_213 (by decide) ?_
          refine ih (by omega) (skip (by omega) (fun z => ?_)) _ _
          have z1 := z.1
          have z2 := z.2.1
          have z3 := z.2.2
          first
            | exact (hbn (by omega)).mp c_168 ((hb0 _ _).mpr z1)
            | exact c_192 z3
            | (rcases z2 with z2 | z2 <;> contradiction)
      · refine E_iconst (v := nI 1) dX7_setOnBase_154 (by decide) ?_
        refine E_goto (tgt := 159) dX7_setOnBase_155 (by decide) ?_
        refine E_istore dX7_setOnBase_159 (Nat.le_of_ble_eq_true rfl) (by decide) rfl ?_
        refine E_iload dX7_setOnBase_161 rfl ?_
        refine E_iload dX7_setOnBase_163 rfl ?_
        refine E_ishr dX7_setOnBase_165 ?_
        refine E_iconst (v := nI 1) dX7_setOnBase_166 (by decide) ?_
        refine E_iand dX7_setOnBase_167 ?_
        refine E_if_eq (tgt := 210) dX7_setOnBase_168 (by decide) (fun c_168 => ?_) (fun c_168 => ?_)
        · refine E_iinc_n (d := 1) dX7_setOnBase_210 rfl rfl rfl (by decide) rfl ?_
          refine E_goto (tgt := 118) dX7_setOnBase_213 (by decide) ?_
          refine ih (by omega) (skip (by omega) (fun z => ?_)) _ _
          have z1 := z.1
          have z2 := z.2.1
          have z3 := z.2.2
          first
            | exact (hbn (by omega)).mp c_168 ((hb0 _ _).mpr z1)
            | exact c_192 z3
            | (rcases z2 with z2 | z2 <;> contradiction)
        · refine E_iload dX7_setOnBase_171 rfl ?_
          refine E_if_eq (tgt := 210) dX7_setOnBase_173 (by decide) (fun c0 => absurd c0 (by decide)) (fun _ => ?_)
          refine E_aload dX7_setOnBase_176 rfl ?_
          refine E_iconst (v := nI 2) dX7_setOnBase_178 (by decide) ?_
          refine E_ialdL (v := _) dX7_setOnBase_179 (hk.ltu (by omega)) (hk.kdu (by omega)) rfl (by omega) (by decide) (hk.rn (by omega) (by omega)) ?_
          refine E_aload_n dX7_setOnBase_180 rfl ?_
          refine E_getRL dX7_setOnBase_181 kF_X7_9 kY_7 (Or.inl ⟨_, rfl⟩) (l_75 hL) (k_75 hL) (hc.fac7 hF0) ?_
          refine E_getRL dX7_setOnBase_184 kF_X7_138 kY_1 (Or.inr ⟨_, rfl⟩) (hB.flt0 hf) (hB.fk0 hf) (hB.fr1 hf) ?_
          refine E_aload_n dX7_setOnBase_187 rfl ?_
          refine E_getIL (v := nI (yN (gat _ _))) dX7_setOnBase_188 kF_X7_33 kY_2 (Or.inl rfl) (hc.glt (by omega)) (hc.gkd (by omega)) (hc.g0 (by omega)) ?_
          refine E_ialdL (v := dI (mkc c f (gat L i))) dX7_setOnBase_191 (hB.flt hf (i := 2) (by decide)) (hB.fk2 hf) rfl (by omega) (by decide) ((hB.fmk hf n1).trans emk) ?_
          refine E_icmp_ne_r (tgt := 210) dX7_setOnBase_192 (by decide) (fun c_192 => ?_) (fun c_192 => ?_)
          · refine E_iinc_n (d := 1) dX7_setOnBase_210 rfl rfl rfl (by decide) rfl ?_
            refine E_goto (tgt := 118) dX7_setOnBase_213 (by decide) ?_
            refine ih (by omega) (skip (by omega) (fun z => ?_)) _ _
            have z1 := z.1
            have z2 := z.2.1
            have z3 := z.2.2
            first
              | exact (hbn (by omega)).mp c_168 ((hb0 _ _).mpr z1)
              | exact c_192 z3
              | (rcases z2 with z2 | z2 <;> contradiction)
          · refine E_aload_n dX7_setOnBase_195 rfl ?_
            refine E_iload dX7_setOnBase_196 rfl ?_
            refine E_aload dX7_setOnBase_198 rfl ?_
            refine E_iconst (v := nI 3) dX7_setOnBase_200 (by decide) ?_
            refine E_ialdL (v := _) dX7_setOnBase_201 (hk.ltu (by omega)) (hk.kdu (by omega)) rfl (by omega) (by decide) (hk.rn (by omega) (by omega)) ?_
            refine E_aload dX7_setOnBase_202 rfl ?_
            refine E_iconst (v := nI 4) dX7_setOnBase_204 (by decide) ?_
            refine E_ialdL (v := _) dX7_setOnBase_205 (hk.ltu (by omega)) (hk.kdu (by omega)) rfl (by omega) (by decide) (hk.rn (by omega) (by omega)) ?_
            refine E_callV3 (fr' := 1) (k1 := 0) (n1 := 0) (k2 := 0) (n2 := 0) dX7_setOnBase_206 kO_X2_setOn kL_X7_54 (hc.glt (by omega)) (hc.gkd (by omega)) ⟨by decide, rfl⟩ rfl rfl rfl (by decide) (by decide) (by exact Nat.le_of_ble_eq_true rfl) rfl ?_
            refine sp_X2_setOn (hc.glt (by omega)) (hc.gkd (by omega)) ?_
            have hL := (hq.s3 (i := i) (nI b) (rul c l k 3) (rul c l k 4) hi).1.B.lay
            refine gKn ?_
            refine E_vret dX7_setOnBase_209 rfl ?_
            have hp : bsP c f l L i b k := ⟨hbP (by omega) c_168, by first | exact Or.inl c_142 | exact Or.inr (Classical.not_not.mp c_151) | exact Or.inr c_151, by first | exact c_192 | exact Classical.not_not.mp c_192⟩
            have e : bsA c f l L i b = k := by rw [← he]; exact fnd_hit (P := (bsP c f l L i b)) (by omega) hp
            unfold bsU at K
            rw [e, cI_t (by omega)] at K
            exact K _ (hq.s3 _ _ _ hi)
set_option maxRecDepth 100000 in
set_option maxHeartbeats 4000000 in
theorem lp1_X7_setOnBase {g : gG} {M : gM} {Q : Option Value ⊕ String → gM → Prop} {c : Cf} {P : Nat → Nat} {M0 : gM} {L : List Gl} {π : Nat → Nat} {A : Pl} (hq : cP c P M0 L π A M) {f tb l p : Nat} (hf : f < 2) (hF0 : mR M0 75 1 = fb f + 1) (hT0 : mI M0 75 2 = nI tb) (htb : tb ≤ 1) (hk0 : kLk c M0 l p) (hfl : l / 12 = f) (hkd : cN c 130 l = 8) {i : Nat} (hi : i < L.length) (hm0 : 0 < mkc c f (gat L i)) (K : ∀ M, cP c P M0 L π (cI (0 < bsE c f L i) (bsU c f l L i (bsE c f L i - 1) A) A) M → Q (.inl none) M) : ∀ k, 0 ≤ k → k ≤ i → rfd (fun k => ¬ 0 < mkc c f (gat L k)) k = bsE c f L i → ∀ v5 v6 v7 v8 v9, E g 3 0 0 mX7_setOnBase 5 [.ref 76, .ref (p + 1), .ref (8 + π i + 1), .int (nI i), .int (dI k), v5, v6, v7, v8, v9] [] M Q := by
  have hc := hq.1
  have hB := hc.B
  have hL := hB.lay
  have hn := hc.len
  have hk := hc.lk hk0
  have hl := hB.wf.lk l
  have n1 := hc.n256 i
  refine lpDn 0 (fun k _ ih => ?_)
  intro hki he v5 v6 v7 v8 v9
  refine E_iload dX7_setOnBase_5 rfl ?_
  refine E_if_lt_d (tgt := 39) dX7_setOnBase_7 (by decide) (by omega) (fun c_7 => ?_) (fun c_7 => ?_)
  · refine E_iload dX7_setOnBase_39 rfl ?_
    refine E_if_lt_d (tgt := 54) dX7_setOnBase_41 (by decide) (by omega) (fun e_41 => ?_) (fun e_41 => ?_)
    · refine E_vret dX7_setOnBase_54 rfl ?_
      subst c_7
      have he : 0 = bsE c f L i := he
      rw [cI_f (by omega)] at K
      exact K _ hq
    · exfalso; omega
  · obtain ⟨b, rfl⟩ : ∃ z, k = z + 1 := ⟨k - 1, by omega⟩
    simp only [Nat.add_sub_cancel] at ih
    rw [dI_succ]
    have n2 := hc.n256 b
    refine E_aload_n dX7_setOnBase_10 rfl ?_
    refine E_getRL dX7_setOnBase_11 kF_X7_9 kY_7 (Or.inl ⟨_, rfl⟩) (l_75 hL) (k_75 hL) (hc.fac7 hF0) ?_
    refine E_aload_n dX7_setOnBase_14 rfl ?_
    refine E_getRL dX7_setOnBase_15 kF_X7_19 kY_7 (Or.inl ⟨_, rfl⟩) (l_75 hL) (k_75 hL) (r_75_0 hL) ?_
    refine E_getRL dX7_setOnBase_18 kF_X7_29 kY_8 (Or.inr ⟨_, rfl⟩) (l_6 hL) (k_6 hL) (r_6_0 hL) ?_
    refine E_iload dX7_setOnBase_21 rfl ?_
    refine E_aaldL (v := _) dX7_setOnBase_23 (l_7 hL) (k_7 hL) (by decide) (by decide) rfl (by omega) (by decide) (hc.cell (by omega)) ?_
    refine E_getIL (v := nI (yN (gat _ _))) dX7_setOnBase_24 kF_X7_33 kY_2 (Or.inl rfl) (hc.glt (by omega)) (hc.gkd (by omega)) (hc.g0 (by omega)) ?_
    refine E_callV1 (fr' := 1) (k1 := 0) (n1 := 0) (k2 := 0) (n2 := 0) dX7_setOnBase_27 kO_X1_isMark kL_X7_122 (hB.flt0 hf) (hB.fk0 hf) ⟨by decide, rfl⟩ rfl (by decide) (by decide) (by exact Nat.le_of_ble_eq_true rfl) rfl ?_
    refine sp_X1_isMark hB hf (by omega) ?_
    refine gKv ?_
    refine E_if_eq_b (tgt := 39) dX7_setOnBase_30 (by decide) (fun c_30 => ?_) (fun c_30 => ?_)
    · have eb : bsE c f L i = b + 1 := by rw [← he]; exact rfd_t (by assumption)
      rw [eb, cI_t (by omega), Nat.add_sub_cancel] at K
      have go := lp2_X7_setOnBase (g := g) (Q := Q) hq hf hF0 hT0 htb hk0 hfl hkd hi hm0 (b := b) (by omega) K 0 (Nat.zero_le _) rfl
      refine E_iload dX7_setOnBase_39 rfl ?_
      refine E_if_lt_n (tgt := 54) dX7_setOnBase_41 (by decide) (by omega) ?_
      refine E_aload_n dX7_setOnBase_44 rfl ?_
      refine E_getIL (v := nI (yN (gat _ _))) dX7_setOnBase_45 kF_X7_33 kY_2 (Or.inl rfl) (hc.glt (by omega)) (hc.gkd (by omega)) (hc.g0 (by omega)) ?_
      refine E_callS1 (fr' := 1) (k1 := 0) (n1 := 0) (k2 := 0) (n2 := 0) dX7_setOnBase_48 kO_X11_isGlyph kL_X7_38 rfl (by decide) (by decide) (by exact Nat.le_of_ble_eq_true rfl) (Or.inl rfl) rfl ?_
      refine sp_X11_isGlyphN (by omega) ?_
      refine gKv ?_
      refine E_if_ne (tgt := 55) dX7_setOnBase_51 (by decide) (fun _ => ?_) (fun c0 => absurd (by decide) c0)
      refine E_aload_n dX7_setOnBase_55 rfl ?_
      refine E_getIL (v := _) dX7_setOnBase_56 kF_X7_132 kY_2 (Or.inl rfl) (hc.glt (by omega)) (hc.gkd (by omega)) (hc.g5 (by omega)) ?_
      refine E_bipush (v := -100) dX7_setOnBase_59 (by decide) ?_
      refine E_icmp_ne_r (tgt := 82) dX7_setOnBase_61 (by decide) (fun c_61 => ?_) (fun c_61 => ?_)
      · refine E_aload_n dX7_setOnBase_82 rfl ?_
        refine E_getIL (v := _) dX7_setOnBase_83 kF_X7_132 kY_2 (Or.inl rfl) (hc.glt (by omega)) (hc.gkd (by omega)) (hc.g5 (by omega)) ?_
        by_cases hp : yP (gat L i) = -100
        · have e5 : bsT L i b = yT (gat L b) - nI 1 := cI_t hp
          rw [e5] at go
          first
            | contradiction
            | (refine E_istore dX7_setOnBase_86 (Nat.le_of_ble_eq_true rfl) (by decide) rfl ?_
               refine E_aload_n dX7_setOnBase_88 rfl ?_
               refine E_getRL dX7_setOnBase_89 kF_X7_9 kY_7 (Or.inl ⟨_, rfl⟩) (l_75 hL) (k_75 hL) (hc.fac7 hF0) ?_
               refine E_aload_n dX7_setOnBase_92 rfl ?_
               refine E_aload_n dX7_setOnBase_93 rfl ?_
               refine E_getRL dX7_setOnBase_94 kF_X7_19 kY_7 (Or.inl ⟨_, rfl⟩) (l_75 hL) (k_75 hL) (r_75_0 hL) ?_
               refine E_getRL dX7_setOnBase_97 kF_X7_29 kY_8 (Or.inr ⟨_, rfl⟩) (l_6 hL) (k_6 hL) (r_6_0 hL) ?_
               refine E_iload dX7_setOnBase_100 rfl ?_
               refine E_aaldL (v := _) dX7_setOnBase_102 (l_7 hL) (k_7 hL) (by decide) (by decide) rfl (by omega) (by decide) (hc.cell (by omega)) ?_
               refine E_getIL (v := nI (yN (gat _ _))) dX7_setOnBase_103 kF_X7_33 kY_2 (Or.inl rfl) (hc.glt (by omega)) (hc.gkd (by omega)) (hc.g0 (by omega)) ?_
               refine E_aload_n dX7_setOnBase_106 rfl ?_
               refine E_getIL (v := nI tb) dX7_setOnBase_107 kF_X7_15 kY_7 (Or.inr rfl) (l_75 hL) (k_75 hL) (hc.tab7 hT0) ?_
               refine E_callV3 (fr' := 2) (k1 := 0) (n1 := 0) (k2 := 0) (n2 := 0) dX7_setOnBase_110 kO_X1_beginning kL_X7_99 (hB.flt0 hf) (hB.fk0 hf) ⟨by decide, rfl⟩ rfl rfl rfl (by decide) (by decide) (by exact Nat.le_of_ble_eq_true rfl) rfl ?_
               refine sp_X1_beginning hB hf hk hfl n2 htb ?_
               refine gKv ?_
               refine E_istore dX7_setOnBase_113 (Nat.le_of_ble_eq_true rfl) (by decide) rfl ?_
               refine E_iconst (v := nI 0) dX7_setOnBase_115 (by decide) ?_
               refine E_istore dX7_setOnBase_116 (Nat.le_of_ble_eq_true rfl) (by decide) rfl ?_
               exact go _ _)
        · have e5 : bsT L i b = yP (gat L i) := cI_f hp
          rw [e5] at go
          first
            | contradiction
            | (refine E_istore dX7_setOnBase_86 (Nat.le_of_ble_eq_true rfl) (by decide) rfl ?_
               refine E_aload_n dX7_setOnBase_88 rfl ?_
               refine E_getRL dX7_setOnBase_89 kF_X7_9 kY_7 (Or.inl ⟨_, rfl⟩) (l_75 hL) (k_75 hL) (hc.fac7 hF0) ?_
               refine E_aload_n dX7_setOnBase_92 rfl ?_
               refine E_aload_n dX7_setOnBase_93 rfl ?_
               refine E_getRL dX7_setOnBase_94 kF_X7_19 kY_7 (Or.inl ⟨_, rfl⟩) (l_75 hL) (k_75 hL) (r_75_0 hL) ?_
               refine E_getRL dX7_setOnBase_97 kF_X7_29 kY_8 (Or.inr ⟨_, rfl⟩) (l_6 hL) (k_6 hL) (r_6_0 hL) ?_
               refine E_iload dX7_setOnBase_100 rfl ?_
               refine E_aaldL (v := _) dX7_setOnBase_102 (l_7 hL) (k_7 hL) (by decide) (by decide) rfl (by omega) (by decide) (hc.cell (by omega)) ?_
               refine E_getIL (v := nI (yN (gat _ _))) dX7_setOnBase_103 kF_X7_33 kY_2 (Or.inl rfl) (hc.glt (by omega)) (hc.gkd (by omega)) (hc.g0 (by omega)) ?_
               refine E_aload_n dX7_setOnBase_106 rfl ?_
               refine E_getIL (v := nI tb) dX7_setOnBase_107 kF_X7_15 kY_7 (Or.inr rfl) (l_75 hL) (k_75 hL) (hc.tab7 hT0) ?_
               refine E_callV3 (fr' := 2) (k1 := 0) (n1 := 0) (k2 := 0) (n2 := 0) dX7_setOnBase_110 kO_X1_beginning kL_X7_99 (hB.flt0 hf) (hB.fk0 hf) ⟨by decide, rfl⟩ rfl rfl rfl (by decide) (by decide) (by exact Nat.le_of_ble_eq_true rfl) rfl ?_
               refine sp_X1_beginning hB hf hk hfl n2 htb ?_
               refine gKv ?_
               refine E_istore dX7_setOnBase_113 (Nat.le_of_ble_eq_true rfl) (by decide) rfl ?_
               refine E_iconst (v := nI 0) dX7_setOnBase_115 (by decide) ?_
               refine E_istore dX7_setOnBase_116 (Nat.le_of_ble_eq_true rfl) (by decide) rfl ?_
               exact go _ _)
      · refine E_aload_n dX7_setOnBase_64 rfl ?_
        refine E_getRL dX7_setOnBase_65 kF_X7_19 kY_7 (Or.inl ⟨_, rfl⟩) (l_75 hL) (k_75 hL) (r_75_0 hL) ?_
        refine E_getRL dX7_setOnBase_68 kF_X7_29 kY_8 (Or.inr ⟨_, rfl⟩) (l_6 hL) (k_6 hL) (r_6_0 hL) ?_
        refine E_iload dX7_setOnBase_71 rfl ?_
        refine E_aaldL (v := _) dX7_setOnBase_73 (l_7 hL) (k_7 hL) (by decide) (by decide) rfl (by omega) (by decide) (hc.cell (by omega)) ?_
        refine E_getIL (v := _) dX7_setOnBase_74 kF_X7_135 kY_2 (Or.inl rfl) (hc.glt (by omega)) (hc.gkd (by omega)) (hc.g6 (by omega)) ?_
        refine E_iconst (v := nI 1) dX7_setOnBase_77 (by decide) ?_
        refine E_isub dX7_setOnBase_78 ?_
        refine E_goto (tgt := 86) dX7_setOnBase_79 (by decide) ?_
        by_cases hp : yP (gat L i) = -100
        · have e5 : bsT L i b = yT (gat L b) - nI 1 := cI_t hp
          rw [e5] at go
          first
            | contradiction
            | (refine E_istore dX7_setOnBase_86 (Nat.le_of_ble_eq_true rfl) (by decide) rfl ?_
               refine E_aload_n dX7_setOnBase_88 rfl ?_
               refine E_getRL dX7_setOnBase_89 kF_X7_9 kY_7 (Or.inl ⟨_, rfl⟩) (l_75 hL) (k_75 hL) (hc.fac7 hF0) ?_
               refine E_aload_n dX7_setOnBase_92 rfl ?_
               refine E_aload_n dX7_setOnBase_93 rfl ?_
               refine E_getRL dX7_setOnBase_94 kF_X7_19 kY_7 (Or.inl ⟨_, rfl⟩) (l_75 hL) (k_75 hL) (r_75_0 hL) ?_
               refine E_getRL dX7_setOnBase_97 kF_X7_29 kY_8 (Or.inr ⟨_, rfl⟩) (l_6 hL) (k_6 hL) (r_6_0 hL) ?_
               refine E_iload dX7_setOnBase_100 rfl ?_
               refine E_aaldL (v := _) dX7_setOnBase_102 (l_7 hL) (k_7 hL) (by decide) (by decide) rfl (by omega) (by decide) (hc.cell (by omega)) ?_
               refine E_getIL (v := nI (yN (gat _ _))) dX7_setOnBase_103 kF_X7_33 kY_2 (Or.inl rfl) (hc.glt (by omega)) (hc.gkd (by omega)) (hc.g0 (by omega)) ?_
               refine E_aload_n dX7_setOnBase_106 rfl ?_
               refine E_getIL (v := nI tb) dX7_setOnBase_107 kF_X7_15 kY_7 (Or.inr rfl) (l_75 hL) (k_75 hL) (hc.tab7 hT0) ?_
               refine E_callV3 (fr' := 2) (k1 := 0) (n1 := 0) (k2 := 0) (n2 := 0) dX7_setOnBase_110 kO_X1_beginning kL_X7_99 (hB.flt0 hf) (hB.fk0 hf) ⟨by decide, rfl⟩ rfl rfl rfl (by decide) (by decide) (by exact Nat.le_of_ble_eq_true rfl) rfl ?_
               refine sp_X1_beginning hB hf hk hfl n2 htb ?_
               refine gKv ?_
               refine E_istore dX7_setOnBase_113 (Nat.le_of_ble_eq_true rfl) (by decide) rfl ?_
               refine E_iconst (v := nI 0) dX7_setOnBase_115 (by decide) ?_
               refine E_istore dX7_setOnBase_116 (Nat.le_of_ble_eq_true rfl) (by decide) rfl ?_
               exact go _ _)
        · have e5 : bsT L i b = yP (gat L i) := cI_f hp
          rw [e5] at go
          first
            | contradiction
            | (refine E_istore dX7_setOnBase_86 (Nat.le_of_ble_eq_true rfl) (by decide) rfl ?_
               refine E_aload_n dX7_setOnBase_88 rfl ?_
               refine E_getRL dX7_setOnBase_89 kF_X7_9 kY_7 (Or.inl ⟨_, rfl⟩) (l_75 hL) (k_75 hL) (hc.fac7 hF0) ?_
               refine E_aload_n dX7_setOnBase_92 rfl ?_
               refine E_aload_n dX7_setOnBase_93 rfl ?_
               refine E_getRL dX7_setOnBase_94 kF_X7_19 kY_7 (Or.inl ⟨_, rfl⟩) (l_75 hL) (k_75 hL) (r_75_0 hL) ?_
               refine E_getRL dX7_setOnBase_97 kF_X7_29 kY_8 (Or.inr ⟨_, rfl⟩) (l_6 hL) (k_6 hL) (r_6_0 hL) ?_
               refine E_iload dX7_setOnBase_100 rfl ?_
               refine E_aaldL (v := _) dX7_setOnBase_102 (l_7 hL) (k_7 hL) (by decide) (by decide) rfl (by omega) (by decide) (hc.cell (by omega)) ?_
               refine E_getIL (v := nI (yN (gat _ _))) dX7_setOnBase_103 kF_X7_33 kY_2 (Or.inl rfl) (hc.glt (by omega)) (hc.gkd (by omega)) (hc.g0 (by omega)) ?_
               refine E_aload_n dX7_setOnBase_106 rfl ?_
               refine E_getIL (v := nI tb) dX7_setOnBase_107 kF_X7_15 kY_7 (Or.inr rfl) (l_75 hL) (k_75 hL) (hc.tab7 hT0) ?_
               refine E_callV3 (fr' := 2) (k1 := 0) (n1 := 0) (k2 := 0) (n2 := 0) dX7_setOnBase_110 kO_X1_beginning kL_X7_99 (hB.flt0 hf) (hB.fk0 hf) ⟨by decide, rfl⟩ rfl rfl rfl (by decide) (by decide) (by exact Nat.le_of_ble_eq_true rfl) rfl ?_
               refine sp_X1_beginning hB hf hk hfl n2 htb ?_
               refine gKv ?_
               refine E_istore dX7_setOnBase_113 (Nat.le_of_ble_eq_true rfl) (by decide) rfl ?_
               refine E_iconst (v := nI 0) dX7_setOnBase_115 (by decide) ?_
               refine E_istore dX7_setOnBase_116 (Nat.le_of_ble_eq_true rfl) (by decide) rfl ?_
               exact go _ _)
    · refine E_iinc_d dX7_setOnBase_33 rfl rfl (by decide) rfl ?_
      refine E_goto (tgt := 5) dX7_setOnBase_36 (by decide) ?_
      exact ih (by omega) (by omega) (by rw [← he]; exact (rfd_f (P := fun k => ¬ 0 < mkc c f (gat L k)) (k := b) (not_not_intro (by assumption))).symm) _ _ _ _ _
set_option maxRecDepth 100000 in
set_option maxHeartbeats 4000000 in
theorem sp_X7_setOnBase {g : gG} {M : gM} {Q : Option Value ⊕ String → gM → Prop} {c : Cf} {P : Nat → Nat} {M0 : gM} {L : List Gl} {π : Nat → Nat} {A : Pl} (hq : cP c P M0 L π A M) {f tb l p : Nat} (hf : f < 2) (hF0 : mR M0 75 1 = fb f + 1) (hT0 : mI M0 75 2 = nI tb) (htb : tb ≤ 1) (hk0 : kLk c M0 l p) (hfl : l / 12 = f) (hkd : cN c 130 l = 8) {i : Nat} (hi : i < L.length) (hm0 : 0 < mkc c f (gat L i)) (K : ∀ M, cP c P M0 L π (cI (0 < bsE c f L i) (bsU c f l L i (bsE c f L i - 1) A) A) M → Q (.inl none) M) : E g 3 0 0 mX7_setOnBase 0 [.ref 76, .ref (p + 1), .ref (8 + π i + 1), .int (nI i), .null, .null, .null, .null, .null, .null] [] M Q := by
  have hc := hq.1
  have hB := hc.B
  have hL := hB.lay
  have hn := hc.len
  have hk := hc.lk hk0
  have hl := hB.wf.lk l
  refine E_iload_n dX7_setOnBase_0 rfl ?_
  refine E_iconst (v := nI 1) dX7_setOnBase_1 (by decide) ?_
  refine E_isub_d dX7_setOnBase_2 ?_
  refine E_istore dX7_setOnBase_3 (Nat.le_of_ble_eq_true rfl) (by decide) rfl ?_
  exact lp1_X7_setOnBase hq hf hF0 hT0 htb hk0 hfl hkd hi hm0 K i (Nat.zero_le _) (Nat.le_refl _) rfl _ _ _ _ _
set_option maxRecDepth 100000 in
set_option maxHeartbeats 4000000 in
theorem lp_X7_setOnMark {g : gG} {M : gM} {Q : Option Value ⊕ String → gM → Prop} {c : Cf} {P : Nat → Nat} {M0 : gM} {L : List Gl} {π : Nat → Nat} {A : Pl} (hq : cP c P M0 L π A M) {f tb l p : Nat} (hf : f < 2) (hF0 : mR M0 75 1 = fb f + 1) (hT0 : mI M0 75 2 = nI tb) (htb : tb ≤ 1) (hk0 : kLk c M0 l p) (hfl : l / 12 = f) (hkd : cN c 130 l = 9) {i : Nat} (hi : i < L.length) (hm0 : 0 < mkc c f (gat L i)) {b : Nat} (hb : b < i) (K : ∀ M, cP c P M0 L π (mkU c f l L i b A) M → Q (.inl none) M) : ∀ k, k ≤ cN c 135 l → fnd (mkP c f l L i b) (cN c 135 l) k = mkA c f l L i b → ∀ v7, E g 3 0 0 mX7_setOnMark 86 [.ref 76, .ref (p + 1), .ref (8 + π i + 1), .int (nI i), .int (nI b), .int (nI (bgB c f l (yN (gat L b)))), .int (nI k), v7] [] M Q := by
  have hc := hq.1
  have hB := hc.B
  have hL := hB.lay
  have hn := hc.len
  have hk := hc.lk hk0
  have hl := hB.wf.lk l
  have hb0 : ∀ q k, begP c f l q k ↔ isAt c f (rul c l k 0) q := fun q k => by unfold begP; rw [show leadOf (cN c 130 l) = 0 by unfold leadOf; rw [if_neg (by omega)]]
  have n1 := hc.n256 i
  refine lpUp (cN c 135 l) (fun k hk8 ih => ?_)
  intro he v7
  have hbn : k < cN c 135 l → ((nI (bgB c f l (yN (gat L b))) >>> (nI k &&& 31)) &&& nI 1 = 0 ↔ ¬ begP c f l (yN (gat L b)) k) := fun z => bit_no hl.2.2.2.2.2 z
  have hbP : k < cN c 135 l → ¬ ((nI (bgB c f l (yN (gat L b))) >>> (nI k &&& 31)) &&& nI 1 = 0) → isAt c f (rul c l k 0) (yN (gat L b)) := fun z w => (hb0 _ _).mp (Classical.byContradiction (fun y => w ((hbn z).mpr y)))
  have skip : k < cN c 135 l → ¬ mkP c f l L i b k → fnd (mkP c f l L i b) (cN c 135 l) (k + 1) = mkA c f l L i b := fun z w => by rw [← he]; exact (fnd_skip (P := (mkP c f l L i b)) z w).symm
  have emk : mkD (mkc c f (gat L i)) = dI (mkc c f (gat L i)) := mkD_k hm0
  refine E_iload dX7_setOnMark_86 rfl ?_
  refine E_aload_n dX7_setOnMark_88 rfl ?_
  refine E_getIL (v := nI (cN _ 135 _)) dX7_setOnMark_89 kF_X7_103 kY_4 (Or.inl rfl) (hk.lt0) (hk.kd) hk.f8 ?_
  refine E_icmp_ge_n (tgt := 154) dX7_setOnMark_92 (by decide) (by omega) (by omega) (fun c_92 => ?_) (fun c_92 => ?_)
  · refine E_vret dX7_setOnMark_154 rfl ?_
    unfold mkU at K
    rw [cI_f (by rw [← he, fnd_end (by omega)]; omega)] at K
    exact K _ hq
  · refine E_aload_n dX7_setOnMark_95 rfl ?_
    refine E_getRL dX7_setOnMark_96 kF_X7_95 kY_4 (Or.inr ⟨_, rfl⟩) (hk.lt0) (hk.kd) hk.r6 ?_
    refine E_iload dX7_setOnMark_99 rfl ?_
    refine E_aaldL (v := _) dX7_setOnMark_101 (hk.lt (i := 1) (by decide)) (hk.kd1) (by decide) (by decide) rfl (by omega) (by decide) (hk.ru (by omega)) ?_
    refine E_astore dX7_setOnMark_102 (Nat.le_of_ble_eq_true rfl) (by decide) rfl ?_
    refine E_iload dX7_setOnMark_104 rfl ?_
    refine E_iload dX7_setOnMark_106 rfl ?_
    refine E_ishr dX7_setOnMark_108 ?_
    refine E_iconst (v := nI 1) dX7_setOnMark_109 (by decide) ?_
    refine E_iand dX7_setOnMark_110 ?_
    refine E_if_eq (tgt := 148) dX7_setOnMark_111 (by decide) (fun c_111 => ?_) (fun c_111 => ?_)
    · refine E_iinc_n (d := 1) dX7_setOnMark_148 rfl rfl rfl (by decide) rfl ?_
      refine E_goto (tgt := 86) dX7_setOnMark_151 (by decide) ?_
      refine ih (by omega) (skip (by omega) (fun z => ?_)) _
      first
        | exact (hbn (by omega)).mp c_111 ((hb0 _ _).mpr z.1)
        | exact c_130 z.2
    · refine E_aload dX7_setOnMark_114 rfl ?_
      refine E_iconst (v := nI 1) dX7_setOnMark_116 (by decide) ?_
      refine E_ialdL (v := _) dX7_setOnMark_117 (hk.ltu (by omega)) (hk.kdu (by omega)) rfl (by omega) (by decide) (hk.rn (by omega) (by omega)) ?_
      refine E_aload_n dX7_setOnMark_118 rfl ?_
      refine E_getRL dX7_setOnMark_119 kF_X7_9 kY_7 (Or.inl ⟨_, rfl⟩) (l_75 hL) (k_75 hL) (hc.fac7 hF0) ?_
      refine E_getRL dX7_setOnMark_122 kF_X7_138 kY_1 (Or.inr ⟨_, rfl⟩) (hB.flt0 hf) (hB.fk0 hf) (hB.fr1 hf) ?_
      refine E_aload_n dX7_setOnMark_125 rfl ?_
      refine E_getIL (v := nI (yN (gat _ _))) dX7_setOnMark_126 kF_X7_33 kY_2 (Or.inl rfl) (hc.glt (by omega)) (hc.gkd (by omega)) (hc.g0 (by omega)) ?_
      refine E_ialdL (v := dI (mkc c f (gat L i))) dX7_setOnMark_129 (hB.flt hf (i := 2) (by decide)) (hB.fk2 hf) rfl (by omega) (by decide) ((hB.fmk hf n1).trans emk) ?_
      refine E_icmp_ne_r (tgt := 148) dX7_setOnMark_130 (by decide) (fun c_130 => ?_) (fun c_130 => ?_)
      · refine E_iinc_n (d := 1) dX7_setOnMark_148 rfl rfl rfl (by decide) rfl ?_
        refine E_goto (tgt := 86) dX7_setOnMark_151 (by decide) ?_
        refine ih (by omega) (skip (by omega) (fun z => ?_)) _
        first
          | exact (hbn (by omega)).mp c_111 ((hb0 _ _).mpr z.1)
          | exact c_130 z.2
      · refine E_aload_n dX7_setOnMark_133 rfl ?_
        refine E_iload dX7_setOnMark_134 rfl ?_
        refine E_aload dX7_setOnMark_136 rfl ?_
        refine E_iconst (v := nI 2) dX7_setOnMark_138 (by decide) ?_
        refine E_ialdL (v := _) dX7_setOnMark_139 (hk.ltu (by omega)) (hk.kdu (by omega)) rfl (by omega) (by decide) (hk.rn (by omega) (by omega)) ?_
        refine E_aload dX7_setOnMark_140 rfl ?_
        refine E_iconst (v := nI 3) dX7_setOnMark_142 (by decide) ?_
        refine E_ialdL (v := _) dX7_setOnMark_143 (hk.ltu (by omega)) (hk.kdu (by omega)) rfl (by omega) (by decide) (hk.rn (by omega) (by omega)) ?_
        refine E_callV3 (fr' := 1) (k1 := 0) (n1 := 0) (k2 := 0) (n2 := 0) dX7_setOnMark_144 kO_X2_setOn kL_X7_54 (hc.glt (by omega)) (hc.gkd (by omega)) ⟨by decide, rfl⟩ rfl rfl rfl (by decide) (by decide) (by exact Nat.le_of_ble_eq_true rfl) rfl ?_
        refine sp_X2_setOn (hc.glt (by omega)) (hc.gkd (by omega)) ?_
        have hL := (hq.s3 (i := i) (nI b) (rul c l k 2) (rul c l k 3) hi).1.B.lay
        refine gKn ?_
        refine E_vret dX7_setOnMark_147 rfl ?_
        have hp : mkP c f l L i b k := ⟨hbP (by omega) c_111, by first | exact c_130 | exact Classical.not_not.mp c_130⟩
        have e : mkA c f l L i b = k := by rw [← he]; exact fnd_hit (P := (mkP c f l L i b)) (by omega) hp
        unfold mkU at K
        rw [e, cI_t (by omega)] at K
        exact K _ (hq.s3 _ _ _ hi)
set_option maxRecDepth 100000 in
set_option maxHeartbeats 4000000 in
theorem sp_X7_setOnMark {g : gG} {M : gM} {Q : Option Value ⊕ String → gM → Prop} {c : Cf} {P : Nat → Nat} {M0 : gM} {L : List Gl} {π : Nat → Nat} {A : Pl} (hq : cP c P M0 L π A M) {f tb l p : Nat} (hf : f < 2) (hF0 : mR M0 75 1 = fb f + 1) (hT0 : mI M0 75 2 = nI tb) (htb : tb ≤ 1) (hk0 : kLk c M0 l p) (hfl : l / 12 = f) (hkd : cN c 130 l = 9) {i : Nat} (hi : i < L.length) (hm0 : 0 < mkc c f (gat L i)) (K : ∀ M, cP c P M0 L π (cI (0 < ahd c f l L i ∧ 0 < mkc c f (gat L (ahd c f l L i - 1))) (mkU c f l L i (ahd c f l L i - 1) A) A) M → Q (.inl none) M) : E g 3 0 0 mX7_setOnMark 0 [.ref 76, .ref (p + 1), .ref (8 + π i + 1), .int (nI i), .null, .null, .null, .null] [] M Q := by
  have hc := hq.1
  have hB := hc.B
  have hL := hB.lay
  have hn := hc.len
  have hk := hc.lk hk0
  have hl := hB.wf.lk l
  have n1 := hc.n256 i
  have hle : ahd c f l L i ≤ i := rfd_le i
  have n2 := hc.n256 (ahd c f l L i - 1)
  refine E_aload_n dX7_setOnMark_0 rfl ?_
  refine E_getRL dX7_setOnMark_1 kF_X7_19 kY_7 (Or.inl ⟨_, rfl⟩) (l_75 hL) (k_75 hL) (r_75_0 hL) ?_
  refine E_aload_n dX7_setOnMark_4 rfl ?_
  refine E_getRL dX7_setOnMark_5 kF_X7_9 kY_7 (Or.inl ⟨_, rfl⟩) (l_75 hL) (k_75 hL) (hc.fac7 hF0) ?_
  refine E_aload_n dX7_setOnMark_8 rfl ?_
  refine E_iload_n dX7_setOnMark_9 rfl ?_
  refine E_callV3 (fr' := 2) (k1 := 0) (n1 := 0) (k2 := 0) (n2 := 0) dX7_setOnMark_10 kO_X8_ahead kL_X7_141 (l_6 hL) (k_6 hL) ⟨by decide, rfl⟩ rfl rfl rfl (by decide) (by decide) (by exact Nat.le_of_ble_eq_true rfl) rfl ?_
  refine sp_X8_ahead hc hf hk (by omega) ?_
  refine gKv ?_
  unfold clV
  by_cases e0 : ahd c f l L i = 0
  · rw [cI_t e0]
    rw [cI_f (by omega)] at K
    refine E_istore dX7_setOnMark_13 (Nat.le_of_ble_eq_true rfl) (by decide) rfl ?_
    refine E_iload dX7_setOnMark_15 rfl ?_
    refine E_bipush (v := -100) dX7_setOnMark_17 (by decide) ?_
    refine E_icmp_eq (tgt := 55) dX7_setOnMark_19 (by decide) (fun _ => ?_) (fun c0 => absurd (by decide) c0)
    refine E_vret dX7_setOnMark_55 rfl ?_
    exact K _ hq
  · rw [cI_f e0]
    refine E_istore dX7_setOnMark_13 (Nat.le_of_ble_eq_true rfl) (by decide) rfl ?_
    refine E_iload dX7_setOnMark_15 rfl ?_
    refine E_bipush (v := -100) dX7_setOnMark_17 (by decide) ?_
    refine E_icmp_eq (tgt := 55) dX7_setOnMark_19 (by decide) (fun c0 => absurd c0 (nI_ne100 (by omega))) (fun _ => ?_)
    refine E_aload_n dX7_setOnMark_22 rfl ?_
    refine E_getRL dX7_setOnMark_23 kF_X7_9 kY_7 (Or.inl ⟨_, rfl⟩) (l_75 hL) (k_75 hL) (hc.fac7 hF0) ?_
    refine E_aload_n dX7_setOnMark_26 rfl ?_
    refine E_getRL dX7_setOnMark_27 kF_X7_19 kY_7 (Or.inl ⟨_, rfl⟩) (l_75 hL) (k_75 hL) (r_75_0 hL) ?_
    refine E_getRL dX7_setOnMark_30 kF_X7_29 kY_8 (Or.inr ⟨_, rfl⟩) (l_6 hL) (k_6 hL) (r_6_0 hL) ?_
    refine E_iload dX7_setOnMark_33 rfl ?_
    refine E_aaldL (v := _) dX7_setOnMark_35 (l_7 hL) (k_7 hL) (by decide) (by decide) rfl (by omega) (by decide) (hc.cell (by omega)) ?_
    refine E_getIL (v := nI (yN (gat _ _))) dX7_setOnMark_36 kF_X7_33 kY_2 (Or.inl rfl) (hc.glt (by omega)) (hc.gkd (by omega)) (hc.g0 (by omega)) ?_
    refine E_callV1 (fr' := 1) (k1 := 0) (n1 := 0) (k2 := 0) (n2 := 0) dX7_setOnMark_39 kO_X1_isMark kL_X7_122 (hB.flt0 hf) (hB.fk0 hf) ⟨by decide, rfl⟩ rfl (by decide) (by decide) (by exact Nat.le_of_ble_eq_true rfl) rfl ?_
    refine sp_X1_isMark hB hf (by omega) ?_
    refine gKv ?_
    refine E_if_eq_b (tgt := 55) dX7_setOnMark_42 (by decide) (fun c_42 => ?_) (fun c_42 => ?_)
    · refine E_vret dX7_setOnMark_55 rfl ?_
      first
        | (exfalso; omega)
        | (rw [cI_f (fun z => absurd z.2 (by assumption))] at K
           exact K _ hq)
    · refine E_aload_n dX7_setOnMark_45 rfl ?_
      refine E_getIL (v := nI (yN (gat _ _))) dX7_setOnMark_46 kF_X7_33 kY_2 (Or.inl rfl) (hc.glt (by omega)) (hc.gkd (by omega)) (hc.g0 (by omega)) ?_
      refine E_callS1 (fr' := 1) (k1 := 0) (n1 := 0) (k2 := 0) (n2 := 0) dX7_setOnMark_49 kO_X11_isGlyph kL_X7_38 rfl (by decide) (by decide) (by exact Nat.le_of_ble_eq_true rfl) (Or.inl rfl) rfl ?_
      refine sp_X11_isGlyphN (by omega) ?_
      refine gKv ?_
      refine E_if_ne (tgt := 56) dX7_setOnMark_52 (by decide) (fun _ => ?_) (fun c0 => absurd (by decide) c0)
      refine E_aload_n dX7_setOnMark_56 rfl ?_
      refine E_getRL dX7_setOnMark_57 kF_X7_9 kY_7 (Or.inl ⟨_, rfl⟩) (l_75 hL) (k_75 hL) (hc.fac7 hF0) ?_
      refine E_aload_n dX7_setOnMark_60 rfl ?_
      refine E_aload_n dX7_setOnMark_61 rfl ?_
      refine E_getRL dX7_setOnMark_62 kF_X7_19 kY_7 (Or.inl ⟨_, rfl⟩) (l_75 hL) (k_75 hL) (r_75_0 hL) ?_
      refine E_getRL dX7_setOnMark_65 kF_X7_29 kY_8 (Or.inr ⟨_, rfl⟩) (l_6 hL) (k_6 hL) (r_6_0 hL) ?_
      refine E_iload dX7_setOnMark_68 rfl ?_
      refine E_aaldL (v := _) dX7_setOnMark_70 (l_7 hL) (k_7 hL) (by decide) (by decide) rfl (by omega) (by decide) (hc.cell (by omega)) ?_
      refine E_getIL (v := nI (yN (gat _ _))) dX7_setOnMark_71 kF_X7_33 kY_2 (Or.inl rfl) (hc.glt (by omega)) (hc.gkd (by omega)) (hc.g0 (by omega)) ?_
      refine E_aload_n dX7_setOnMark_74 rfl ?_
      refine E_getIL (v := nI tb) dX7_setOnMark_75 kF_X7_15 kY_7 (Or.inr rfl) (l_75 hL) (k_75 hL) (hc.tab7 hT0) ?_
      refine E_callV3 (fr' := 2) (k1 := 0) (n1 := 0) (k2 := 0) (n2 := 0) dX7_setOnMark_78 kO_X1_beginning kL_X7_99 (hB.flt0 hf) (hB.fk0 hf) ⟨by decide, rfl⟩ rfl rfl rfl (by decide) (by decide) (by exact Nat.le_of_ble_eq_true rfl) rfl ?_
      refine sp_X1_beginning hB hf hk hfl n2 htb ?_
      refine gKv ?_
      refine E_istore dX7_setOnMark_81 (Nat.le_of_ble_eq_true rfl) (by decide) rfl ?_
      refine E_iconst (v := nI 0) dX7_setOnMark_83 (by decide) ?_
      refine E_istore dX7_setOnMark_84 (Nat.le_of_ble_eq_true rfl) (by decide) rfl ?_
      rw [cI_t ⟨by omega, by assumption⟩] at K
      exact lp_X7_setOnMark hq hf hF0 hT0 htb hk0 hfl hkd hi hm0 (by omega) K 0 (Nat.zero_le _) rfl _
noncomputable def sms (c : Cf) (f l : Nat) (L : List Gl) (k : Nat) (A : Pl) : Pl := cI (cN c 130 l = 8) (bss c f l L k A) (mks c f l L k A)
theorem sms_s {c : Cf} {f l : Nat} {L : List Gl} {k : Nat} {A : Pl} : sms c f l L (k + 1) A = cI (cN c 130 l = 8) (bsS c f l L k (sms c f l L k A)) (mkS c f l L k (sms c f l L k A)) := by
  unfold sms
  by_cases e : cN c 130 l = 8
  · rw [cI_t e, cI_t e, cI_t e]; rfl
  · rw [cI_f e, cI_f e, cI_f e]; rfl
set_option maxRecDepth 100000 in
set_option maxHeartbeats 4000000 in
theorem lp_X7_setMarks {g : gG} {Q : Option Value ⊕ String → gM → Prop} {c : Cf} {P : Nat → Nat} {M0 : gM} {L : List Gl} {π : Nat → Nat} {A : Pl} {f tb l p : Nat} (hf : f < 2) (hF0 : mR M0 75 1 = fb f + 1) (hT0 : mI M0 75 2 = nI tb) (htb : tb ≤ 1) (hk0 : kLk c M0 l p) (hfl : l / 12 = f) (hkd : cN c 130 l = 8 ∨ cN c 130 l = 9) (K : ∀ M, cP c P M0 L π (sms c f l L L.length A) M → Q (.inl none) M) : ∀ k, k ≤ L.length → ∀ M v3, cP c P M0 L π (sms c f l L k A) M → E g 4 0 0 mX7_setMarks 2 [.ref 76, .ref (p + 1), .int (nI k), v3] [] M Q := by
  refine lpUp L.length (fun k hkn ih => ?_)
  intro M v3 hq
  have hc := hq.1
  have hB := hc.B
  have hL := hB.lay
  have hn := hc.len
  have hk := hc.lk hk0
  have hl := hB.wf.lk l
  have n1 := hc.n256 k
  rw [sms_s] at ih
  have no8 : ¬ (0 < mkc c f (gat L k) ∧ goP c f L l k) → cI (cN c 130 l = 8) (bsS c f l L k (sms c f l L k A)) (mkS c f l L k (sms c f l L k A)) = sms c f l L k A := fun z => by
    have e1 : bsS c f l L k (sms c f l L k A) = sms c f l L k A := cI_f (fun w => z ⟨w.1, w.2.1⟩)
    have e2 : mkS c f l L k (sms c f l L k A) = sms c f l L k A := cI_f (fun w => z ⟨w.1, w.2.1⟩)
    rw [e1, e2]
    by_cases e : cN c 130 l = 8
    · rw [cI_t e]
    · rw [cI_f e]
  refine E_iload_n dX7_setMarks_2 rfl ?_
  refine E_aload_n dX7_setMarks_3 rfl ?_
  refine E_getRL dX7_setMarks_4 kF_X7_19 kY_7 (Or.inl ⟨_, rfl⟩) (l_75 hL) (k_75 hL) (r_75_0 hL) ?_
  refine E_getIL (v := nI (List.length _)) dX7_setMarks_7 kF_X7_23 kY_8 (Or.inl rfl) (l_6 hL) (k_6 hL) hc.n ?_
  refine E_icmp_ge_n (tgt := 84) dX7_setMarks_10 (by decide) (by omega) (by omega) (fun c_10 => ?_) (fun c_10 => ?_)
  · refine E_vret dX7_setMarks_84 rfl ?_
    obtain rfl : k = L.length := by omega
    exact K _ hq
  · refine E_aload_n dX7_setMarks_13 rfl ?_
    refine E_getRL dX7_setMarks_14 kF_X7_19 kY_7 (Or.inl ⟨_, rfl⟩) (l_75 hL) (k_75 hL) (r_75_0 hL) ?_
    refine E_getRL dX7_setMarks_17 kF_X7_29 kY_8 (Or.inr ⟨_, rfl⟩) (l_6 hL) (k_6 hL) (r_6_0 hL) ?_
    refine E_iload_n dX7_setMarks_20 rfl ?_
    refine E_aaldL (v := _) dX7_setMarks_21 (l_7 hL) (k_7 hL) (by decide) (by decide) rfl (by omega) (by decide) (hc.cell (by omega)) ?_
    refine E_astore_n dX7_setMarks_22 (Nat.le_of_ble_eq_true rfl) (by decide) rfl ?_
    refine E_aload_n dX7_setMarks_23 rfl ?_
    refine E_getRL dX7_setMarks_24 kF_X7_9 kY_7 (Or.inl ⟨_, rfl⟩) (l_75 hL) (k_75 hL) (hc.fac7 hF0) ?_
    refine E_aload_n dX7_setMarks_27 rfl ?_
    refine E_getIL (v := nI (yN (gat _ _))) dX7_setMarks_28 kF_X7_33 kY_2 (Or.inl rfl) (hc.glt (by omega)) (hc.gkd (by omega)) (hc.g0 (by omega)) ?_
    refine E_callV1 (fr' := 1) (k1 := 0) (n1 := 0) (k2 := 0) (n2 := 0) dX7_setMarks_31 kO_X1_isMark kL_X7_122 (hB.flt0 hf) (hB.fk0 hf) ⟨by decide, rfl⟩ rfl (by decide) (by decide) (by exact Nat.le_of_ble_eq_true rfl) rfl ?_
    refine sp_X1_isMark hB hf (by omega) ?_
    refine gKv ?_
    refine E_if_eq_b (tgt := 78) dX7_setMarks_34 (by decide) (fun c_34 => ?_) (fun c_34 => ?_)
    · refine E_iinc_n (d := 1) dX7_setMarks_78 rfl rfl rfl (by decide) rfl ?_
      refine E_goto (tgt := 2) dX7_setMarks_81 (by decide) ?_
      first
        | exact ih (by omega) _ _ hq
        | (rw [no8 (fun z => absurd z.1 (by assumption))] at ih
           exact ih (by omega) _ _ hq)
        | (rw [no8 (fun z => absurd z.2 (by assumption))] at ih
           exact ih (by omega) _ _ hq)
    · refine E_aload_n dX7_setMarks_37 rfl ?_
      refine E_getRL dX7_setMarks_38 kF_X7_9 kY_7 (Or.inl ⟨_, rfl⟩) (l_75 hL) (k_75 hL) (hc.fac7 hF0) ?_
      refine E_aload_n dX7_setMarks_41 rfl ?_
      refine E_aload_n dX7_setMarks_42 rfl ?_
      refine E_callV2 (fr' := 2) (k1 := 0) (n1 := 0) (k2 := 0) (n2 := 0) dX7_setMarks_43 kO_X1_hasTurn kL_X7_83 (hB.flt0 hf) (hB.fk0 hf) ⟨by decide, rfl⟩ rfl rfl (by decide) (by decide) (by exact Nat.le_of_ble_eq_true rfl) rfl ?_
      refine sp_X1_hasTurn hc hf hk (by omega) ?_
      refine gKv ?_
      refine E_if_ne_b (tgt := 52) dX7_setMarks_46 (by decide) (fun c_46 => ?_) (fun c_46 => ?_)
      · refine E_aload_n dX7_setMarks_52 rfl ?_
        refine E_getIL (v := nI (cN _ 130 _)) dX7_setMarks_53 kF_X7_70 kY_4 (Or.inl rfl) (hk.lt0) (hk.kd) hk.f0 ?_
        refine E_bipush (v := nI 8) dX7_setMarks_56 (by decide) ?_
        refine E_icmp_ne_n (tgt := 71) dX7_setMarks_58 (by decide) (by omega) (by omega) (fun c_58 => ?_) (fun c_58 => ?_)
        · refine E_aload_n dX7_setMarks_71 rfl ?_
          refine E_aload_n dX7_setMarks_72 rfl ?_
          refine E_aload_n dX7_setMarks_73 rfl ?_
          refine E_iload_n dX7_setMarks_74 rfl ?_
          refine E_callV3 (fr' := 3) (k1 := 0) (n1 := 0) (k2 := 0) (n2 := 0) dX7_setMarks_75 kO_X7_setOnMark kL_X7_129 (l_75 hL) (k_75 hL) ⟨by decide, rfl⟩ rfl rfl rfl (by decide) (by decide) (by exact Nat.le_of_ble_eq_true rfl) rfl ?_
          have e9 : cN c 130 l = 9 := by omega
          refine sp_X7_setOnMark hq hf hF0 hT0 htb hk0 hfl e9 (by omega) (by assumption) (fun M hq => ?_)
          have hL := hq.1.B.lay
          have ems : cI (0 < ahd c f l L k ∧ 0 < mkc c f (gat L (ahd c f l L k - 1))) (mkU c f l L k (ahd c f l L k - 1) (sms c f l L k A)) (sms c f l L k A) = mkS c f l L k (sms c f l L k A) := cI_congr2 ⟨fun w => ⟨by assumption, by assumption, w⟩, fun w => w.2.2⟩
          rw [ems] at hq
          rw [cI_f (by omega)] at ih
          refine gKn ?_
          refine E_iinc_n (d := 1) dX7_setMarks_78 rfl rfl rfl (by decide) rfl ?_
          refine E_goto (tgt := 2) dX7_setMarks_81 (by decide) ?_
          first
            | exact ih (by omega) _ _ hq
            | (rw [no8 (fun z => absurd z.1 (by assumption))] at ih
               exact ih (by omega) _ _ hq)
            | (rw [no8 (fun z => absurd z.2 (by assumption))] at ih
               exact ih (by omega) _ _ hq)
        · refine E_aload_n dX7_setMarks_61 rfl ?_
          refine E_aload_n dX7_setMarks_62 rfl ?_
          refine E_aload_n dX7_setMarks_63 rfl ?_
          refine E_iload_n dX7_setMarks_64 rfl ?_
          refine E_callV3 (fr' := 3) (k1 := 0) (n1 := 0) (k2 := 0) (n2 := 0) dX7_setMarks_65 kO_X7_setOnBase kL_X7_125 (l_75 hL) (k_75 hL) ⟨by decide, rfl⟩ rfl rfl rfl (by decide) (by decide) (by exact Nat.le_of_ble_eq_true rfl) rfl ?_
          have e8 : cN c 130 l = 8 := by omega
          refine sp_X7_setOnBase hq hf hF0 hT0 htb hk0 hfl e8 (by omega) (by assumption) (fun M hq => ?_)
          have hL := hq.1.B.lay
          have ebs : cI (0 < bsE c f L k) (bsU c f l L k (bsE c f L k - 1) (sms c f l L k A)) (sms c f l L k A) = bsS c f l L k (sms c f l L k A) := cI_congr2 ⟨fun w => ⟨by assumption, by assumption, w⟩, fun w => w.2.2⟩
          rw [ebs] at hq
          rw [cI_t e8] at ih
          refine gKn ?_
          refine E_goto (tgt := 78) dX7_setMarks_68 (by decide) ?_
          refine E_iinc_n (d := 1) dX7_setMarks_78 rfl rfl rfl (by decide) rfl ?_
          refine E_goto (tgt := 2) dX7_setMarks_81 (by decide) ?_
          first
            | exact ih (by omega) _ _ hq
            | (rw [no8 (fun z => absurd z.1 (by assumption))] at ih
               exact ih (by omega) _ _ hq)
            | (rw [no8 (fun z => absurd z.2 (by assumption))] at ih
               exact ih (by omega) _ _ hq)
      · refine E_goto (tgt := 78) dX7_setMarks_49 (by decide) ?_
        refine E_iinc_n (d := 1) dX7_setMarks_78 rfl rfl rfl (by decide) rfl ?_
        refine E_goto (tgt := 2) dX7_setMarks_81 (by decide) ?_
        first
          | exact ih (by omega) _ _ hq
          | (rw [no8 (fun z => absurd z.1 (by assumption))] at ih
             exact ih (by omega) _ _ hq)
          | (rw [no8 (fun z => absurd z.2 (by assumption))] at ih
             exact ih (by omega) _ _ hq)
set_option maxRecDepth 100000 in
set_option maxHeartbeats 4000000 in
theorem sp_X7_setMarks {g : gG} {M : gM} {Q : Option Value ⊕ String → gM → Prop} {c : Cf} {P : Nat → Nat} {M0 : gM} {L : List Gl} {π : Nat → Nat} {A : Pl} (hq : cP c P M0 L π A M) {f tb l p : Nat} (hf : f < 2) (hF0 : mR M0 75 1 = fb f + 1) (hT0 : mI M0 75 2 = nI tb) (htb : tb ≤ 1) (hk0 : kLk c M0 l p) (hfl : l / 12 = f) (hkd : cN c 130 l = 8 ∨ cN c 130 l = 9) (K : ∀ M, cP c P M0 L π (sms c f l L L.length A) M → Q (.inl none) M) : E g 4 0 0 mX7_setMarks 0 [.ref 76, .ref (p + 1), .null, .null] [] M Q := by
  have hc := hq.1
  have hB := hc.B
  have hL := hB.lay
  have hn := hc.len
  have hk := hc.lk hk0
  have hl := hB.wf.lk l
  refine E_iconst (v := nI 0) dX7_setMarks_0 (by decide) ?_
  refine E_istore_n dX7_setMarks_1 (Nat.le_of_ble_eq_true rfl) (by decide) rfl ?_
  refine lp_X7_setMarks hf hF0 hT0 htb hk0 hfl hkd K 0 (Nat.zero_le _) M _ ?_
  have e : sms c f l L 0 A = A := by
    unfold sms
    by_cases e : cN c 130 l = 8
    · rw [cI_t e]; rfl
    · rw [cI_f e]; rfl
  rw [e]; exact hq
def plR (a j : Nat) : Prop := a = 75 ∧ j = 2
def plT (a j : Nat) : Prop := a = 75 ∧ j = 1
theorem cX.base {c : Cf} {P : Nat → Nat} {M0 M M' : gM} {L : List Gl} {π : Nat → Nat} (h : cX c P M0 L π M) (hf : kf plR plT M M') : cX c P M' L π M' := by
  have hn := h.len
  refine ⟨h.B.mv hf (fun a j q => by unfold plR at q; unfold told; omega) (fun a j q => by unfold plT at q; unfold kT; omega), kf.refl, (hf.bk (by unfold plR; omega)).trans h.n, fun i hi => ⟨h.p64 hi, (hf.bkR (by unfold plT; omega)).trans (h.cell hi)⟩, h.2.2.2.2.1, fun i hi => ?_, h.ok⟩
  have := h.gl hi
  have hp := h.p64 (show i < 64 by omega)
  unfold glC at *
  rw [hf.bk (by unfold plR; omega), hf.bk (by unfold plR; omega), hf.bk (by unfold plR; omega), hf.bk (by unfold plR; omega), hf.bk (by unfold plR; omega), hf.bk (by unfold plR; omega), hf.bk (by unfold plR; omega)]
  exact this
/-- the places of the glyphs before k are as nothing was done -/
def cPk (c : Cf) (P : Nat → Nat) (M0 : gM) (L : List Gl) (π : Nat → Nat) (A : Pl) (k : Nat) (M : gM) : Prop := cX c P M0 L π M ∧ ∀ q i, q < 5 → i < k → mI M (8 + π i) (fdq q) = A q i
theorem cPk.up {c : Cf} {P : Nat → Nat} {M0 M : gM} {L : List Gl} {π : Nat → Nat} {A : Pl} {k : Nat} (h : cPk c P M0 L π A k M) (hk : k < L.length) : cPk c P M0 L π A (k + 1) (sI (sI (sI (sI (sI M (8 + π k) 7 (A 0 k)) (8 + π k) 8 (A 1 k)) (8 + π k) 10 (A 2 k)) (8 + π k) 11 (A 3 k)) (8 + π k) 12 (A 4 k)) := by
  have hn := h.1.len
  refine ⟨((((h.1.gp hk (by decide)).gp hk (by decide)).gp hk (by decide)).gp hk (by decide)).gp hk (by decide), fun q i hq hi => ?_⟩
  by_cases e : i = k
  · subst e
    rcases (show q = 0 ∨ q = 1 ∨ q = 2 ∨ q = 3 ∨ q = 4 by omega) with rfl | rfl | rfl | rfl | rfl
    · rw [show fdq 0 = 7 from rfl, mI_nj (by decide), mI_nj (by decide), mI_nj (by decide), mI_nj (by decide)]; exact mI_eq
    · rw [show fdq 1 = 8 from rfl, mI_nj (by decide), mI_nj (by decide), mI_nj (by decide)]; exact mI_eq
    · rw [show fdq 2 = 10 from rfl, mI_nj (by decide), mI_nj (by decide)]; exact mI_eq
    · rw [show fdq 3 = 11 from rfl, mI_nj (by decide)]; exact mI_eq
    · exact mI_eq
  · have hne : ¬ 8 + π i = 8 + π k := fun z => e (h.1.inj (by omega) (by omega) (by omega))
    rw [mI_ne hne, mI_ne hne, mI_ne hne, mI_ne hne, mI_ne hne]
    exact h.2 q i hq (by omega)
set_option maxRecDepth 100000 in
set_option maxHeartbeats 4000000 in
theorem lp2_X7_set {g : gG} {Q : Option Value ⊕ String → gM → Prop} {c : Cf} {P : Nat → Nat} {M1 : gM} {L : List Gl} {π : Nat → Nat} {f tb : Nat} (hf : f < 2) (hF0 : mR M1 75 1 = fb f + 1) (hT0 : mI M1 75 2 = nI tb) (htb : tb ≤ 1) (K : ∀ M, cP c P M1 L π (plc c f L) M → Q (.inl none) M) : ∀ k, k ≤ cN c 129 f → ∀ (A : Pl) M v5, cP c P M1 L π A M → pla c f L (cN c 129 f - k) (12 * f + k) A = plc c f L → E g 5 0 0 mX7_set 91 [.ref 76, .ref (fb f + 1), .int (nI (cN c 128 17)), .int (nI tb), .int (nI k), v5] [] M Q := by
  refine lpUp (cN c 129 f) (fun k hk ih => ?_)
  intro A M v5 hq hpl
  have hc := hq.1
  have hB := hc.B
  have hL := hB.lay
  have hn := hc.len
  have hB1 : kB c P M1 := hc.1
  have hctb := hB.wf.ct f
  have htg := hB.wf.1.2.2
  have stp : k < cN c 129 f → ∀ M v5, cP c P M1 L π (plS c f (12 * f + k) L A) M → E g 5 0 0 mX7_set 91 [.ref 76, .ref (fb f + 1), .int (nI (cN c 128 17)), .int (nI tb), .int (nI (k + 1)), v5] [] M Q := fun hkc M v5 hq => by
    refine ih hkc _ M v5 hq ?_
    rw [← hpl, show cN c 129 f - k = (cN c 129 f - (k + 1)) + 1 by omega]
    rfl
  refine E_iload dX7_set_91 rfl ?_
  refine E_aload_n dX7_set_93 rfl ?_
  refine E_getIL (v := nI (cN _ 129 _)) dX7_set_94 kF_X7_58 kY_1 (Or.inl rfl) (hB.flt0 hf) (hB.fk0 hf) (hB.fcnt hf) ?_
  refine E_icmp_ge_n (tgt := 195) dX7_set_97 (by decide) (by omega) (by omega) (fun c_97 => ?_) (fun c_97 => ?_)
  · refine E_vret dX7_set_195 rfl ?_
    obtain rfl : k = cN c 129 f := by omega
    rw [Nat.sub_self] at hpl
    have hpl : A = plc c f L := hpl
    rw [hpl] at hq
    exact K _ hq
  · refine E_aload_n dX7_set_100 rfl ?_
    refine E_iload dX7_set_101 rfl ?_
    refine E_callV1 (fr' := 1) (k1 := 0) (n1 := 0) (k2 := 0) (n2 := 0) dX7_set_103 kO_X1_lookupAt kL_X7_61 (hB.flt0 hf) (hB.fk0 hf) ⟨by decide, rfl⟩ rfl (by decide) (by decide) (by exact Nat.le_of_ble_eq_true rfl) rfl ?_
    refine sp_X1_lookupAt hB hf (fun j hj he => ?_) (fun hno => ?_)
    · have hjk : j = k := ((nI_eq (by omega) (by omega)).mp he).symm
      subst hjk
      have hk0 := hB1.kl hf hj
      have hk2 := hc.lk hk0
      have hfl : (12 * f + j) / 12 = f := by omega
      have hl2 := hB.wf.lk (12 * f + j)
      refine gKv ?_
      refine E_astore dX7_set_106 (Nat.le_of_ble_eq_true rfl) (by decide) rfl ?_
      refine E_aload dX7_set_108 rfl ?_
      refine E_ifnull (tgt := 189) dX7_set_110 (by decide) (fun c_110 => ?_) (fun c_110 => ?_)
      · first
          | (exfalso; omega)
          | (have e : plS c f (12 * f + j) L A = A := cI_f (by assumption)
             refine E_iinc_n (d := 1) dX7_set_189 rfl rfl rfl (by decide) rfl ?_
             refine E_goto (tgt := 91) dX7_set_192 (by decide) ?_
             exact stp hj _ _ (by rw [e]; exact hq))
          | (have e : plS c f (12 * f + j) L A = A := (cI_t (by assumption)).trans ((cI_f (by omega)).trans ((cI_f (by omega)).trans ((cI_f (by omega)).trans (cI_f (by omega)))))
             refine E_iinc_n (d := 1) dX7_set_189 rfl rfl rfl (by decide) rfl ?_
             refine E_goto (tgt := 91) dX7_set_192 (by decide) ?_
             exact stp hj _ _ (by rw [e]; exact hq))
      · refine E_aload dX7_set_113 rfl ?_
        refine E_iload_n dX7_set_115 rfl ?_
        refine E_callV1 (fr' := 1) (k1 := 0) (n1 := 0) (k2 := 0) (n2 := 0) dX7_set_116 kO_X4_isOf kL_X7_65 (hk2.lt0) (hk2.kd) ⟨by decide, rfl⟩ rfl (by decide) (by decide) (by exact Nat.le_of_ble_eq_true rfl) rfl ?_
        refine sp_X4_isOf hB hk2 (by omega) ?_
        refine gKv ?_
        refine E_if_ne_b (tgt := 125) dX7_set_119 (by decide) (fun c_119 => ?_) (fun c_119 => ?_)
        · refine E_aload dX7_set_125 rfl ?_
          refine E_getIL (v := nI (cN _ 130 _)) dX7_set_127 kF_X7_70 kY_4 (Or.inl rfl) (hk2.lt0) (hk2.kd) hk2.f0 ?_
          refine E_bipush (v := nI 6) dX7_set_130 (by decide) ?_
          refine E_icmp_ne_n (tgt := 144) dX7_set_132 (by decide) (by omega) (by omega) (fun c_132 => ?_) (fun c_132 => ?_)
          · refine E_aload dX7_set_144 rfl ?_
            refine E_getIL (v := nI (cN _ 130 _)) dX7_set_146 kF_X7_70 kY_4 (Or.inl rfl) (hk2.lt0) (hk2.kd) hk2.f0 ?_
            refine E_bipush (v := nI 7) dX7_set_149 (by decide) ?_
            refine E_icmp_ne_n (tgt := 163) dX7_set_151 (by decide) (by omega) (by omega) (fun c_151 => ?_) (fun c_151 => ?_)
            · refine E_aload dX7_set_163 rfl ?_
              refine E_getIL (v := nI (cN _ 130 _)) dX7_set_165 kF_X7_70 kY_4 (Or.inl rfl) (hk2.lt0) (hk2.kd) hk2.f0 ?_
              refine E_bipush (v := nI 8) dX7_set_168 (by decide) ?_
              refine E_icmp_eq_n (tgt := 183) dX7_set_170 (by decide) (by omega) (by omega) (fun c_170 => ?_) (fun c_170 => ?_)
              · refine E_aload_n dX7_set_183 rfl ?_
                refine E_aload dX7_set_184 rfl ?_
                refine E_callV1 (fr' := 4) (k1 := 0) (n1 := 0) (k2 := 0) (n2 := 0) dX7_set_186 kO_X7_setMarks kL_X7_80 (l_75 hL) (k_75 hL) ⟨by decide, rfl⟩ rfl (by decide) (by decide) (by exact Nat.le_of_ble_eq_true rfl) rfl ?_
                refine sp_X7_setMarks hq hf hF0 hT0 htb hk0 hfl (by omega) (fun M hq => ?_)
                have hL := hq.1.B.lay
                have e : plS c f (12 * f + j) L A = sms c f (12 * f + j) L L.length A := (cI_t (by assumption)).trans ((cI_f (by omega)).trans ((cI_f (by omega)).trans (by
                  unfold sms
                  by_cases e8 : cN c 130 (12 * f + j) = 8
                  · rw [cI_t e8, cI_t e8]
                  · rw [cI_f e8, cI_f e8, cI_t (by omega)])))
                rw [← e] at hq
                refine gKn ?_
                first
                  | (have e : plS c f (12 * f + j) L A = A := cI_f (by assumption)
                     refine E_iinc_n (d := 1) dX7_set_189 rfl rfl rfl (by decide) rfl ?_
                     refine E_goto (tgt := 91) dX7_set_192 (by decide) ?_
                     exact stp hj _ _ (by rw [e]; exact hq))
                  | (have e : plS c f (12 * f + j) L A = A := (cI_t (by assumption)).trans ((cI_f (by omega)).trans ((cI_f (by omega)).trans ((cI_f (by omega)).trans (cI_f (by omega)))))
                     refine E_iinc_n (d := 1) dX7_set_189 rfl rfl rfl (by decide) rfl ?_
                     refine E_goto (tgt := 91) dX7_set_192 (by decide) ?_
                     exact stp hj _ _ (by rw [e]; exact hq))
                  | (refine E_iinc_n (d := 1) dX7_set_189 rfl rfl rfl (by decide) rfl ?_
                     refine E_goto (tgt := 91) dX7_set_192 (by decide) ?_
                     exact stp hj _ _ hq)
              · refine E_aload dX7_set_173 rfl ?_
                refine E_getIL (v := nI (cN _ 130 _)) dX7_set_175 kF_X7_70 kY_4 (Or.inl rfl) (hk2.lt0) (hk2.kd) hk2.f0 ?_
                refine E_bipush (v := nI 9) dX7_set_178 (by decide) ?_
                refine E_icmp_ne_n (tgt := 189) dX7_set_180 (by decide) (by omega) (by omega) (fun c_180 => ?_) (fun c_180 => ?_)
                · first
                    | (have e : plS c f (12 * f + j) L A = A := cI_f (by assumption)
                       refine E_iinc_n (d := 1) dX7_set_189 rfl rfl rfl (by decide) rfl ?_
                       refine E_goto (tgt := 91) dX7_set_192 (by decide) ?_
                       exact stp hj _ _ (by rw [e]; exact hq))
                    | (have e : plS c f (12 * f + j) L A = A := (cI_t (by assumption)).trans ((cI_f (by omega)).trans ((cI_f (by omega)).trans ((cI_f (by omega)).trans (cI_f (by omega)))))
                       refine E_iinc_n (d := 1) dX7_set_189 rfl rfl rfl (by decide) rfl ?_
                       refine E_goto (tgt := 91) dX7_set_192 (by decide) ?_
                       exact stp hj _ _ (by rw [e]; exact hq))
                    | (refine E_iinc_n (d := 1) dX7_set_189 rfl rfl rfl (by decide) rfl ?_
                       refine E_goto (tgt := 91) dX7_set_192 (by decide) ?_
                       exact stp hj _ _ hq)
                · refine E_aload_n dX7_set_183 rfl ?_
                  refine E_aload dX7_set_184 rfl ?_
                  refine E_callV1 (fr' := 4) (k1 := 0) (n1 := 0) (k2 := 0) (n2 := 0) dX7_set_186 kO_X7_setMarks kL_X7_80 (l_75 hL) (k_75 hL) ⟨by decide, rfl⟩ rfl (by decide) (by decide) (by exact Nat.le_of_ble_eq_true rfl) rfl ?_
                  refine sp_X7_setMarks hq hf hF0 hT0 htb hk0 hfl (by omega) (fun M hq => ?_)
                  have hL := hq.1.B.lay
                  have e : plS c f (12 * f + j) L A = sms c f (12 * f + j) L L.length A := (cI_t (by assumption)).trans ((cI_f (by omega)).trans ((cI_f (by omega)).trans (by
                    unfold sms
                    by_cases e8 : cN c 130 (12 * f + j) = 8
                    · rw [cI_t e8, cI_t e8]
                    · rw [cI_f e8, cI_f e8, cI_t (by omega)])))
                  rw [← e] at hq
                  refine gKn ?_
                  first
                    | (have e : plS c f (12 * f + j) L A = A := cI_f (by assumption)
                       refine E_iinc_n (d := 1) dX7_set_189 rfl rfl rfl (by decide) rfl ?_
                       refine E_goto (tgt := 91) dX7_set_192 (by decide) ?_
                       exact stp hj _ _ (by rw [e]; exact hq))
                    | (have e : plS c f (12 * f + j) L A = A := (cI_t (by assumption)).trans ((cI_f (by omega)).trans ((cI_f (by omega)).trans ((cI_f (by omega)).trans (cI_f (by omega)))))
                       refine E_iinc_n (d := 1) dX7_set_189 rfl rfl rfl (by decide) rfl ?_
                       refine E_goto (tgt := 91) dX7_set_192 (by decide) ?_
                       exact stp hj _ _ (by rw [e]; exact hq))
                    | (refine E_iinc_n (d := 1) dX7_set_189 rfl rfl rfl (by decide) rfl ?_
                       refine E_goto (tgt := 91) dX7_set_192 (by decide) ?_
                       exact stp hj _ _ hq)
            · refine E_aload_n dX7_set_154 rfl ?_
              refine E_aload dX7_set_155 rfl ?_
              refine E_callV1 (fr' := 3) (k1 := 0) (n1 := 0) (k2 := 0) (n2 := 0) dX7_set_157 kO_X7_linkHeights kL_X7_77 (l_75 hL) (k_75 hL) ⟨by decide, rfl⟩ rfl (by decide) (by decide) (by exact Nat.le_of_ble_eq_true rfl) rfl ?_
              refine sp_X7_linkHeights hq hf hF0 hT0 htb hk0 hfl (by omega) (fun M hq => ?_)
              have hL := hq.1.B.lay
              have e : plS c f (12 * f + j) L A = crv c f (12 * f + j) L L.length A := (cI_t (by assumption)).trans ((cI_f (by omega)).trans (cI_t (by omega)))
              rw [← e] at hq
              refine gKn ?_
              refine E_goto (tgt := 189) dX7_set_160 (by decide) ?_
              first
                | (have e : plS c f (12 * f + j) L A = A := cI_f (by assumption)
                   refine E_iinc_n (d := 1) dX7_set_189 rfl rfl rfl (by decide) rfl ?_
                   refine E_goto (tgt := 91) dX7_set_192 (by decide) ?_
                   exact stp hj _ _ (by rw [e]; exact hq))
                | (have e : plS c f (12 * f + j) L A = A := (cI_t (by assumption)).trans ((cI_f (by omega)).trans ((cI_f (by omega)).trans ((cI_f (by omega)).trans (cI_f (by omega)))))
                   refine E_iinc_n (d := 1) dX7_set_189 rfl rfl rfl (by decide) rfl ?_
                   refine E_goto (tgt := 91) dX7_set_192 (by decide) ?_
                   exact stp hj _ _ (by rw [e]; exact hq))
                | (refine E_iinc_n (d := 1) dX7_set_189 rfl rfl rfl (by decide) rfl ?_
                   refine E_goto (tgt := 91) dX7_set_192 (by decide) ?_
                   exact stp hj _ _ hq)
          · refine E_aload_n dX7_set_135 rfl ?_
            refine E_aload dX7_set_136 rfl ?_
            refine E_callV1 (fr' := 4) (k1 := 0) (n1 := 0) (k2 := 0) (n2 := 0) dX7_set_138 kO_X7_addToPairs kL_X7_73 (l_75 hL) (k_75 hL) ⟨by decide, rfl⟩ rfl (by decide) (by decide) (by exact Nat.le_of_ble_eq_true rfl) rfl ?_
            refine sp_X7_addToPairs hq hf hF0 hT0 htb hk0 hfl (by omega) (fun M hq => ?_)
            have hL := hq.1.B.lay
            have e : plS c f (12 * f + j) L A = prs c f (12 * f + j) L L.length 0 A := (cI_t (by assumption)).trans (cI_t (by omega))
            rw [← e] at hq
            refine gKn ?_
            refine E_goto (tgt := 189) dX7_set_141 (by decide) ?_
            first
              | (have e : plS c f (12 * f + j) L A = A := cI_f (by assumption)
                 refine E_iinc_n (d := 1) dX7_set_189 rfl rfl rfl (by decide) rfl ?_
                 refine E_goto (tgt := 91) dX7_set_192 (by decide) ?_
                 exact stp hj _ _ (by rw [e]; exact hq))
              | (have e : plS c f (12 * f + j) L A = A := (cI_t (by assumption)).trans ((cI_f (by omega)).trans ((cI_f (by omega)).trans ((cI_f (by omega)).trans (cI_f (by omega)))))
                 refine E_iinc_n (d := 1) dX7_set_189 rfl rfl rfl (by decide) rfl ?_
                 refine E_goto (tgt := 91) dX7_set_192 (by decide) ?_
                 exact stp hj _ _ (by rw [e]; exact hq))
              | (refine E_iinc_n (d := 1) dX7_set_189 rfl rfl rfl (by decide) rfl ?_
                 refine E_goto (tgt := 91) dX7_set_192 (by decide) ?_
                 exact stp hj _ _ hq)
        · refine E_goto (tgt := 189) dX7_set_122 (by decide) ?_
          first
            | (have e : plS c f (12 * f + j) L A = A := cI_f (by assumption)
               refine E_iinc_n (d := 1) dX7_set_189 rfl rfl rfl (by decide) rfl ?_
               refine E_goto (tgt := 91) dX7_set_192 (by decide) ?_
               exact stp hj _ _ (by rw [e]; exact hq))
            | (have e : plS c f (12 * f + j) L A = A := (cI_t (by assumption)).trans ((cI_f (by omega)).trans ((cI_f (by omega)).trans ((cI_f (by omega)).trans (cI_f (by omega)))))
               refine E_iinc_n (d := 1) dX7_set_189 rfl rfl rfl (by decide) rfl ?_
               refine E_goto (tgt := 91) dX7_set_192 (by decide) ?_
               exact stp hj _ _ (by rw [e]; exact hq))
            | (refine E_iinc_n (d := 1) dX7_set_189 rfl rfl rfl (by decide) rfl ?_
               refine E_goto (tgt := 91) dX7_set_192 (by decide) ?_
               exact stp hj _ _ hq)
    · have hxx : k < cN c 129 f := by omega
      refine gKv ?_
      refine E_astore dX7_set_106 (Nat.le_of_ble_eq_true rfl) (by decide) rfl ?_
      refine E_aload dX7_set_108 rfl ?_
      refine E_ifnull (tgt := 189) dX7_set_110 (by decide) (fun c_110 => ?_) (fun c_110 => ?_)
      · exact absurd ((iBel_iff (by omega)).mpr ⟨k, hxx, rfl⟩) hno
      · exact absurd ((iBel_iff (by omega)).mpr ⟨k, hxx, rfl⟩) hno
set_option maxRecDepth 100000 in
set_option maxHeartbeats 4000000 in
theorem lp1_X7_set {g : gG} {Q : Option Value ⊕ String → gM → Prop} {c : Cf} {P : Nat → Nat} {M1 : gM} {L : List Gl} {π : Nat → Nat} {f tb : Nat} (hf : f < 2) (hF0 : mR M1 75 1 = fb f + 1) (hT0 : mI M1 75 2 = nI tb) (htb : tb ≤ 1) (K : ∀ M, cP c P M1 L π (plc c f L) M → Q (.inl none) M) : ∀ k, k ≤ L.length → ∀ M v5, cPk c P M1 L π (pl0 c f L) k M → E g 5 0 0 mX7_set 13 [.ref 76, .ref (fb f + 1), .int (nI (cN c 128 17)), .int (nI tb), .int (nI k), v5] [] M Q := by
  refine lpUp L.length (fun k hk ih => ?_)
  intro M v5 hpk
  have hc := hpk.1
  have hB := hc.B
  have hL := hB.lay
  have hn := hc.len
  have n1 := hc.n256 k
  refine E_iload dX7_set_13 rfl ?_
  refine E_aload_n dX7_set_15 rfl ?_
  refine E_getRL dX7_set_16 kF_X7_19 kY_7 (Or.inl ⟨_, rfl⟩) (l_75 hL) (k_75 hL) (r_75_0 hL) ?_
  refine E_getIL (v := nI (List.length _)) dX7_set_19 kF_X7_23 kY_8 (Or.inl rfl) (l_6 hL) (k_6 hL) hc.n ?_
  refine E_icmp_ge_n (tgt := 88) dX7_set_22 (by decide) (by omega) (by omega) (fun c_22 => ?_) (fun c_22 => ?_)
  · refine E_iconst (v := nI 0) dX7_set_88 (by decide) ?_
    refine E_istore dX7_set_89 (Nat.le_of_ble_eq_true rfl) (by decide) rfl ?_
    obtain rfl : k = L.length := by omega
    exact lp2_X7_set hf hF0 hT0 htb K 0 (Nat.zero_le _) (pl0 c f L) M _ ⟨hc, fun q i hq hi => hpk.2 q i hq hi⟩ rfl
  · refine E_aload_n dX7_set_25 rfl ?_
    refine E_getRL dX7_set_26 kF_X7_19 kY_7 (Or.inl ⟨_, rfl⟩) (l_75 hL) (k_75 hL) (r_75_0 hL) ?_
    refine E_getRL dX7_set_29 kF_X7_29 kY_8 (Or.inr ⟨_, rfl⟩) (l_6 hL) (k_6 hL) (r_6_0 hL) ?_
    refine E_iload dX7_set_32 rfl ?_
    refine E_aaldL (v := _) dX7_set_34 (l_7 hL) (k_7 hL) (by decide) (by decide) rfl (by omega) (by decide) (hc.cell (by omega)) ?_
    refine E_astore dX7_set_35 (Nat.le_of_ble_eq_true rfl) (by decide) rfl ?_
    refine E_aload dX7_set_37 rfl ?_
    refine E_aload dX7_set_39 rfl ?_
    refine E_getIL (v := nI (yN (gat _ _))) dX7_set_41 kF_X7_33 kY_2 (Or.inl rfl) (hc.glt (by omega)) (hc.gkd (by omega)) (hc.g0 (by omega)) ?_
    refine E_callS1 (fr' := 1) (k1 := 0) (n1 := 0) (k2 := 0) (n2 := 0) dX7_set_44 kO_X11_isGlyph kL_X7_38 rfl (by decide) (by decide) (by exact Nat.le_of_ble_eq_true rfl) (Or.inl rfl) rfl ?_
    refine sp_X11_isGlyphN (by omega) ?_
    refine gKv ?_
    refine E_if_eq (tgt := 63) dX7_set_47 (by decide) (fun c0 => absurd c0 (by decide)) (fun _ => ?_)
    refine E_aload_n dX7_set_50 rfl ?_
    refine E_getRL dX7_set_51 kF_X7_42 kY_1 (Or.inr ⟨_, rfl⟩) (hB.flt0 hf) (hB.fk0 hf) (hB.fr3 hf) ?_
    refine E_aload dX7_set_54 rfl ?_
    refine E_getIL (v := nI (yN (gat _ _))) dX7_set_56 kF_X7_33 kY_2 (Or.inl rfl) (hc.glt (by omega)) (hc.gkd (by omega)) (hc.g0 (by omega)) ?_
    refine E_ialdL (v := nI (cN _ 139 _)) dX7_set_59 (hB.flt hf (i := 4) (by decide)) (hB.fk4 hf) rfl (by omega) (by decide) (hB.fwd hf (by omega)) ?_
    refine E_goto (tgt := 64) dX7_set_60 (by decide) ?_
    refine E_putI dX7_set_64 kF_X7_48 kY_2 (Or.inl rfl) (hc.glt (by omega)) (hc.gkd (by omega)) (Or.inl rfl) ?_
    refine E_aload dX7_set_67 rfl ?_
    refine E_iconst (v := nI 0) dX7_set_69 (by decide) ?_
    refine E_putI dX7_set_70 kF_X7_51 kY_2 (Or.inl rfl) (hc.glt (by omega)) (hc.gkd (by omega)) (Or.inl rfl) ?_
    refine E_aload dX7_set_73 rfl ?_
    refine E_bipush (v := -100) dX7_set_75 (by decide) ?_
    refine E_iconst (v := nI 0) dX7_set_77 (by decide) ?_
    refine E_iconst (v := nI 0) dX7_set_78 (by decide) ?_
    refine E_callV3 (fr' := 1) (k1 := 0) (n1 := 0) (k2 := 0) (n2 := 0) dX7_set_79 kO_X2_setOn kL_X7_54 (hc.glt (by omega)) (hc.gkd (by omega)) ⟨by decide, rfl⟩ rfl rfl rfl (by decide) (by decide) (by exact Nat.le_of_ble_eq_true rfl) rfl ?_
    have hc2 := (hc.gp (i := k) (k := 7) (v := nI (cN c 139 (256 * f + yN (gat L k)))) (by omega) (by decide)).gp (i := k) (k := 8) (v := nI 0) (by omega) (by decide)
    refine sp_X2_setOn (hc2.glt (i := k) (by omega)) (hc2.gkd (i := k) (by omega)) ?_
    have hu := hpk.up (show k < L.length by omega)
    have hL := hu.1.B.lay
    refine gKn ?_
    refine E_iinc_n (d := 1) dX7_set_82 rfl rfl rfl (by decide) rfl ?_
    refine E_goto (tgt := 13) dX7_set_85 (by decide) ?_
    exact ih (by omega) _ _ hu
set_option maxRecDepth 100000 in
set_option maxHeartbeats 4000000 in
theorem sp_X7_set {g : gG} {M : gM} {Q : Option Value ⊕ String → gM → Prop} {c : Cf} {P : Nat → Nat} {M0 : gM} {L : List Gl} {π : Nat → Nat} (hc : cX c P M0 L π M) {f tb : Nat} (hf : f < 2) (htb : tb ≤ 1) (K : ∀ M1 M', kf plR plT M M1 → cP c P M1 L π (plc c f L) M' → Q (.inl none) M') : E g 5 0 0 mX7_set 0 [.ref 76, .ref (fb f + 1), .int (nI (cN c 128 17)), .int (nI tb), .null, .null] [] M Q := by
  have hB := hc.B
  have hL := hB.lay
  have hn := hc.len
  refine E_aload_n dX7_set_0 rfl ?_
  refine E_aload_n dX7_set_1 rfl ?_
  refine E_putR dX7_set_2 kF_X7_9 kY_7 (Or.inl ⟨_, rfl⟩) (l_75 hL) (k_75 hL) (Or.inl rfl) ?_
  have hkf0 : kf plR plT M (sR M 75 1 (fb f + 1)) := kf.refl.wrR ⟨rfl, rfl⟩
  have hL := hkf0.lay (fun a j q => by unfold plT at q; unfold kT; omega) hL
  have ht01 : nI tb = 0 ∨ nI tb = 1 := by
    rcases (show tb = 0 ∨ tb = 1 by omega) with rfl | rfl
    · exact Or.inl rfl
    · exact Or.inr rfl
  refine E_aload_n dX7_set_5 rfl ?_
  refine E_iload_n dX7_set_6 rfl ?_
  refine E_putI dX7_set_7 kF_X7_15 kY_7 (Or.inr ⟨rfl, ht01⟩) (l_75 hL) (k_75 hL) (Or.inl rfl) ?_
  refine E_iconst (v := nI 0) dX7_set_10 (by decide) ?_
  refine E_istore dX7_set_11 (Nat.le_of_ble_eq_true rfl) (by decide) rfl ?_
  have hkf : kf plR plT M (sI (sR M 75 1 (fb f + 1)) 75 2 (nI tb)) := hkf0.wr ⟨rfl, rfl⟩
  have hc1 := hc.base hkf
  have hF1 : mR (sI (sR M 75 1 (fb f + 1)) 75 2 (nI tb)) 75 1 = fb f + 1 := by
    show mR (sR M 75 1 (fb f + 1)) 75 1 = fb f + 1
    rw [mR_sR, if_pos ⟨rfl, rfl⟩]
  exact lp1_X7_set hf hF1 mI_eq htb (fun M' hq => K _ M' hkf hq) 0 (Nat.zero_le _) _ _ ⟨hc1, fun q i hq hi => absurd hi (Nat.not_lt_zero i)⟩
theorem cP.sx {c : Cf} {P : Nat → Nat} {M0 M : gM} {L : List Gl} {π : Nat → Nat} {A : Pl} (h : cP c P M0 L π A M) {i : Nat} {v v' : Int32} (hi : i < L.length) : cP c P M0 L π (u2 A 5 i v') (sI M (8 + π i) 9 v) :=
  ⟨h.1.gp hi (by decide), fun q j hq hj => by
    unfold u2
    rw [mI_nj (fdq_b hq).2.2, if_neg (by omega)]; exact h.2 q j hq hj⟩
/-- where the glyphs before k stand -/
def c5 (π : Nat → Nat) (A : Pl) (k : Nat) (M : gM) : Prop := ∀ j, j < k → mI M (8 + π j) 9 = A 5 j
theorem st_right (a b s x : Int32) : a + b - s - x = a + (b - (s + x)) := by grind
theorem st_sum (a b x : Int32) : a + b + x = a + (b + x) := by grind
set_option maxRecDepth 100000 in
set_option maxHeartbeats 4000000 in
theorem st_X7_settle {g : gG} {M : gM} {Q : Option Value ⊕ String → gM → Prop} {c : Cf} {P : Nat → Nat} {M0 : gM} {L : List Gl} {π : Nat → Nat} {A : Pl} (hq : cP c P M0 L π A M) {jn k : Nat} {left all : Int32} (hj : jn ≤ 1) (hk : k < L.length) (ho : onK A L.length) (hx : c5 π A k M) (K : ∀ M v6, cP c P M0 L π (stS1 jn left all k A) M → c5 π (stS1 jn left all k A) (k + 1) M → E g 1 0 0 mX7_settle 45 [.ref 76, .int left, .int (nI jn), .int (left + all), .int (smA A (k + 1)), .int (nI (k + 1)), v6] [] M Q) : ∀ v6, E g 1 0 0 mX7_settle 57 [.ref 76, .int left, .int (nI jn), .int (left + all), .int (smA A k), .int (nI k), v6] [] M Q := by
  intro v6
  have hc := hq.1
  have hB := hc.B
  have hL := hB.lay
  have hn := hc.len
  unfold stS1 at K
  have pk := hc.p64 (show k < 64 by omega)
  have fin : ∀ v, v = left + cI (jn = 0) (smA A k) (all - smA A (k + 1)) → E g 1 0 0 mX7_settle 95 [.ref 76, .int left, .int (nI jn), .int (left + all), .int (smA A k), .int (nI k), .ref (8 + π k + 1)] [] (sI M (8 + π k) 9 v) Q := by
    intro v hv
    have hq2 : cP c P M0 L π (stX jn left all k A) (sI M (8 + π k) 9 v) := hq.sx hk
    have hx2 : c5 π (stX jn left all k A) (k + 1) (sI M (8 + π k) 9 v) := fun j hj => by
      unfold stX u2
      by_cases e : j = k
      · subst e; rw [mI_eq, if_pos ⟨rfl, rfl⟩, hv]
      · rw [mI_ne (fun z => e (hc.inj (by omega) (by omega) (by omega))), if_neg (fun q => e q.2)]; exact hx j (by omega)
    have eo : stX jn left all k A 2 k = A 2 k := by unfold stX u2; rw [if_neg (by omega)]
    have ea : ∀ i, stX jn left all k A 0 i = A 0 i := fun i => by unfold stX u2; rw [if_neg (by omega)]
    have es : smA A k + stX jn left all k A 0 k = smA A (k + 1) := by rw [ea]; rfl
    generalize sI M (8 + π k) 9 v = M at *
    have hc := hq2.1
    have hq := hq2
    have hB := hc.B
    have hL := hB.lay
    rcases ho k hk with q | ⟨b, q1, q2⟩
    · rw [cI_t q] at K
      refine E_iload dX7_settle_95 rfl ?_
      refine E_aload dX7_settle_97 rfl ?_
      refine E_getIL (v := _) dX7_settle_99 kF_X7_48 kY_2 (Or.inl rfl) (hc.glt (by omega)) (hc.gkd (by omega)) (hq.a7 (by omega)) ?_
      refine E_iadd dX7_settle_102 ?_
      refine E_istore dX7_settle_103 (Nat.le_of_ble_eq_true rfl) (by decide) rfl ?_
      refine E_aload dX7_settle_105 rfl ?_
      refine E_getIL (v := -100) dX7_settle_107 kF_X7_147 kY_2 (Or.inl rfl) (hc.glt (by omega)) (hc.gkd (by omega)) ((hq.a10 hk).trans (eo.trans q)) ?_
      refine E_if_lt (tgt := 177) dX7_settle_110 (by decide) (fun _ => ?_) (fun c0 => absurd (by decide) c0)
      refine E_iinc_n (d := 1) dX7_settle_177 rfl rfl rfl (by decide) rfl ?_
      refine E_goto (tgt := 45) dX7_settle_180 (by decide) ?_
      rw [es]
      exact K _ _ hq hx2
    · rw [cI_f (by rw [q2]; exact nI_ne100 (by omega)), q2, gN_nI (by omega)] at K
      have hb : b < L.length := by omega
      have ho1 : mI M (8 + π k) 10 = nI b := (hq.a10 hk).trans (eo.trans q2)
      refine E_iload dX7_settle_95 rfl ?_
      refine E_aload dX7_settle_97 rfl ?_
      refine E_getIL (v := _) dX7_settle_99 kF_X7_48 kY_2 (Or.inl rfl) (hc.glt (by omega)) (hc.gkd (by omega)) (hq.a7 (by omega)) ?_
      refine E_iadd dX7_settle_102 ?_
      refine E_istore dX7_settle_103 (Nat.le_of_ble_eq_true rfl) (by decide) rfl ?_
      refine E_aload dX7_settle_105 rfl ?_
      refine E_getIL (v := nI b) dX7_settle_107 kF_X7_147 kY_2 (Or.inl rfl) (hc.glt (by omega)) (hc.gkd (by omega)) ho1 ?_
      refine E_if_lt_n (tgt := 177) dX7_settle_110 (by decide) (by omega) ?_
      refine E_aload dX7_settle_113 rfl ?_
      refine E_getIL (v := nI b) dX7_settle_115 kF_X7_147 kY_2 (Or.inl rfl) (hc.glt (by omega)) (hc.gkd (by omega)) ho1 ?_
      refine E_iload dX7_settle_118 rfl ?_
      refine E_icmp_ge_n (tgt := 177) dX7_settle_120 (by decide) (by omega) (by omega) (fun c_120 => ?_) (fun c_120 => ?_)
      · refine E_iinc_n (d := 1) dX7_settle_177 rfl rfl rfl (by decide) rfl ?_
        refine E_goto (tgt := 45) dX7_settle_180 (by decide) ?_
        exfalso; omega
      · refine E_aload dX7_settle_123 rfl ?_
        refine E_aload_n dX7_settle_125 rfl ?_
        refine E_getRL dX7_settle_126 kF_X7_19 kY_7 (Or.inl ⟨_, rfl⟩) (l_75 hL) (k_75 hL) (r_75_0 hL) ?_
        refine E_getRL dX7_settle_129 kF_X7_29 kY_8 (Or.inr ⟨_, rfl⟩) (l_6 hL) (k_6 hL) (r_6_0 hL) ?_
        refine E_aload dX7_settle_132 rfl ?_
        refine E_getIL (v := nI b) dX7_settle_134 kF_X7_147 kY_2 (Or.inl rfl) (hc.glt (by omega)) (hc.gkd (by omega)) ho1 ?_
        refine E_aaldL (v := _) dX7_settle_137 (l_7 hL) (k_7 hL) (by decide) (by decide) rfl (by omega) (by decide) (hc.cell (by omega)) ?_
        refine E_getIL (v := _) dX7_settle_138 kF_X7_144 kY_2 (Or.inl rfl) (hc.glt (by omega)) (hc.gkd (by omega)) (hx2 _ (by omega)) ?_
        refine E_aload dX7_settle_141 rfl ?_
        refine E_getIL (v := _) dX7_settle_143 kF_X7_150 kY_2 (Or.inl rfl) (hc.glt (by omega)) (hc.gkd (by omega)) (hq.a11 (by omega)) ?_
        refine E_iadd dX7_settle_146 ?_
        refine E_putI dX7_settle_147 kF_X7_144 kY_2 (Or.inl rfl) (hc.glt (by omega)) (hc.gkd (by omega)) (Or.inl rfl) ?_
        have hq3 : cP c P M0 L π (u2 (stX jn left all k A) 5 k (stX jn left all k A 5 b + stX jn left all k A 3 k)) (sI M (8 + π k) 9 (stX jn left all k A 5 b + stX jn left all k A 3 k)) := hq.sx hk
        have hx3 : c5 π (u2 (stX jn left all k A) 5 k (stX jn left all k A 5 b + stX jn left all k A 3 k)) (k + 1) (sI M (8 + π k) 9 (stX jn left all k A 5 b + stX jn left all k A 3 k)) := fun j hj => by
          unfold u2
          by_cases e : j = k
          · subst e; rw [mI_eq, if_pos ⟨rfl, rfl⟩]
          · rw [mI_ne (fun z => e (hc.inj (by omega) (by omega) (by omega))), if_neg (fun q => e q.2)]; exact hx2 j (by omega)
        have ho3 : mI (sI M (8 + π k) 9 (stX jn left all k A 5 b + stX jn left all k A 3 k)) (8 + π k) 10 = nI b := by rw [mI_nj (by decide)]; exact ho1
        have e1 : ∀ i, u2 (stX jn left all k A) 5 k (stX jn left all k A 5 b + stX jn left all k A 3 k) 1 i = stX jn left all k A 1 i := fun i => by unfold u2; rw [if_neg (by omega)]
        have e4 : ∀ i, u2 (stX jn left all k A) 5 k (stX jn left all k A 5 b + stX jn left all k A 3 k) 4 i = stX jn left all k A 4 i := fun i => by unfold u2; rw [if_neg (by omega)]
        have h1b := (hq3.a8 hb).trans (e1 b)
        have h4k := (hq3.a12 hk).trans (e4 k)
        generalize sI M (8 + π k) 9 (stX jn left all k A 5 b + stX jn left all k A 3 k) = M at *
        have hc := hq3.1
        have hB := hc.B
        have hL := hB.lay
        refine E_aload dX7_settle_150 rfl ?_
        refine E_aload_n dX7_settle_152 rfl ?_
        refine E_getRL dX7_settle_153 kF_X7_19 kY_7 (Or.inl ⟨_, rfl⟩) (l_75 hL) (k_75 hL) (r_75_0 hL) ?_
        refine E_getRL dX7_settle_156 kF_X7_29 kY_8 (Or.inr ⟨_, rfl⟩) (l_6 hL) (k_6 hL) (r_6_0 hL) ?_
        refine E_aload dX7_settle_159 rfl ?_
        refine E_getIL (v := nI b) dX7_settle_161 kF_X7_147 kY_2 (Or.inl rfl) (hc.glt (by omega)) (hc.gkd (by omega)) ho3 ?_
        refine E_aaldL (v := _) dX7_settle_164 (l_7 hL) (k_7 hL) (by decide) (by decide) rfl (by omega) (by decide) (hc.cell (by omega)) ?_
        refine E_getIL (v := _) dX7_settle_165 kF_X7_51 kY_2 (Or.inl rfl) (hc.glt (by omega)) (hc.gkd (by omega)) h1b ?_
        refine E_aload dX7_settle_168 rfl ?_
        refine E_getIL (v := _) dX7_settle_170 kF_X7_153 kY_2 (Or.inl rfl) (hc.glt (by omega)) (hc.gkd (by omega)) h4k ?_
        refine E_iadd dX7_settle_173 ?_
        refine E_putI dX7_settle_174 kF_X7_51 kY_2 (Or.inl rfl) (hc.glt (by omega)) (hc.gkd (by omega)) (Or.inl rfl) ?_
        have hq4 := hq3.set (q := 1) (i := k) (v := stX jn left all k A 1 b + stX jn left all k A 4 k) (by decide) hk
        have hx4 : c5 π (stH k b (stX jn left all k A)) (k + 1) (sI M (8 + π k) 8 (stX jn left all k A 1 b + stX jn left all k A 4 k)) := fun j hj => by
          rw [mI_nj (by decide)]
          refine (hx3 j hj).trans ?_
          unfold stH
          generalize u2 (stX jn left all k A) 5 k (stX jn left all k A 5 b + stX jn left all k A 3 k) = Z
          unfold u2
          rw [if_neg (show ¬ (5 = 1 ∧ j = k) by omega)]
        refine E_iinc_n (d := 1) dX7_settle_177 rfl rfl rfl (by decide) rfl ?_
        refine E_goto (tgt := 45) dX7_settle_180 (by decide) ?_
        rw [es]
        exact K _ _ hq4 hx4
  refine E_aload_n dX7_settle_57 rfl ?_
  refine E_getRL dX7_settle_58 kF_X7_19 kY_7 (Or.inl ⟨_, rfl⟩) (l_75 hL) (k_75 hL) (r_75_0 hL) ?_
  refine E_getRL dX7_settle_61 kF_X7_29 kY_8 (Or.inr ⟨_, rfl⟩) (l_6 hL) (k_6 hL) (r_6_0 hL) ?_
  refine E_iload dX7_settle_64 rfl ?_
  refine E_aaldL (v := _) dX7_settle_66 (l_7 hL) (k_7 hL) (by decide) (by decide) rfl (by omega) (by decide) (hc.cell (by omega)) ?_
  refine E_astore dX7_settle_67 (Nat.le_of_ble_eq_true rfl) (by decide) rfl ?_
  refine E_aload dX7_settle_69 rfl ?_
  refine E_iload_n dX7_settle_71 rfl ?_
  refine E_if_eq_n (tgt := 88) dX7_settle_72 (by decide) (by omega) (fun c_72 => ?_) (fun c_72 => ?_)
  · refine E_iload_n dX7_settle_88 rfl ?_
    refine E_iload dX7_settle_89 rfl ?_
    refine E_iadd dX7_settle_91 ?_
    refine E_putI dX7_settle_92 kF_X7_144 kY_2 (Or.inl rfl) (hc.glt (by omega)) (hc.gkd (by omega)) (Or.inl rfl) ?_
    first
      | exact fin _ (by rw [cI_t (by omega)])
      | exact fin _ (by rw [cI_f (by omega)]; exact st_right _ _ _ _)
  · refine E_iload_n dX7_settle_75 rfl ?_
    refine E_iload dX7_settle_76 rfl ?_
    refine E_isub dX7_settle_78 ?_
    refine E_aload dX7_settle_79 rfl ?_
    refine E_getIL (v := _) dX7_settle_81 kF_X7_48 kY_2 (Or.inl rfl) (hc.glt (by omega)) (hc.gkd (by omega)) (hq.a7 (by omega)) ?_
    refine E_isub dX7_settle_84 ?_
    refine E_goto (tgt := 92) dX7_settle_85 (by decide) ?_
    refine E_putI dX7_settle_92 kF_X7_144 kY_2 (Or.inl rfl) (hc.glt (by omega)) (hc.gkd (by omega)) (Or.inl rfl) ?_
    first
      | exact fin _ (by rw [cI_t (by omega)])
      | exact fin _ (by rw [cI_f (by omega)]; exact st_right _ _ _ _)
set_option maxRecDepth 100000 in
set_option maxHeartbeats 4000000 in
theorem lp2_X7_settle {g : gG} {Q : Option Value ⊕ String → gM → Prop} {c : Cf} {P : Nat → Nat} {M0 : gM} {L : List Gl} {π : Nat → Nat} {A : Pl} {jn : Nat} {left all : Int32} (hj : jn ≤ 1) (ho : onK A L.length) (K : ∀ M, cP c P M0 L π (std jn left all L.length A) M → c5 π (std jn left all L.length A) L.length M → Q (.inl none) M) : ∀ k, k ≤ L.length → ∀ M v, cP c P M0 L π (std jn left all k A) M → c5 π (std jn left all k A) k M → v = smA A k → ∀ v6, E g 1 0 0 mX7_settle 45 [.ref 76, .int left, .int (nI jn), .int (left + all), .int v, .int (nI k), v6] [] M Q := by
  refine lpUp L.length (fun k hk ih => ?_)
  intro M v hq hx hv v6
  have hc := hq.1
  have hB := hc.B
  have hL := hB.lay
  have hn := hc.len
  refine E_iload dX7_settle_45 rfl ?_
  refine E_aload_n dX7_settle_47 rfl ?_
  refine E_getRL dX7_settle_48 kF_X7_19 kY_7 (Or.inl ⟨_, rfl⟩) (l_75 hL) (k_75 hL) (r_75_0 hL) ?_
  refine E_getIL (v := nI (List.length _)) dX7_settle_51 kF_X7_23 kY_8 (Or.inl rfl) (l_6 hL) (k_6 hL) hc.n ?_
  refine E_icmp_ge_n (tgt := 183) dX7_settle_54 (by decide) (by omega) (by omega) (fun c_54 => ?_) (fun c_54 => ?_)
  · refine E_vret dX7_settle_183 rfl ?_
    obtain rfl : k = L.length := by omega
    exact K _ hq hx
  · rw [hv, ← smA_std (jn := jn) (left := left) (all := all) k k]
    exact st_X7_settle hq hj (by omega) (onK_std ho k) hx (fun M v6 hq hx => ih (by omega) _ _ hq hx (smA_std k (k + 1)) _) _
set_option maxRecDepth 100000 in
set_option maxHeartbeats 4000000 in
theorem lp1_X7_settle {g : gG} {M : gM} {Q : Option Value ⊕ String → gM → Prop} {c : Cf} {P : Nat → Nat} {M0 : gM} {L : List Gl} {π : Nat → Nat} {A : Pl} (hq : cP c P M0 L π A M) {jn : Nat} {left : Int32} (K : ∀ v4 v5 v6, E g 1 0 0 mX7_settle 39 [.ref 76, .int left, .int (nI jn), .int (left + smA A L.length), v4, v5, v6] [] M Q) : ∀ k, k ≤ L.length → ∀ v, v = left + smA A k → ∀ v5 v6, E g 1 0 0 mX7_settle 5 [.ref 76, .int left, .int (nI jn), .int v, .int (nI k), v5, v6] [] M Q := by
  have hc := hq.1
  have hB := hc.B
  have hL := hB.lay
  have hn := hc.len
  refine lpUp L.length (fun k hk ih => ?_)
  intro v hv v5 v6
  refine E_iload dX7_settle_5 rfl ?_
  refine E_aload_n dX7_settle_7 rfl ?_
  refine E_getRL dX7_settle_8 kF_X7_19 kY_7 (Or.inl ⟨_, rfl⟩) (l_75 hL) (k_75 hL) (r_75_0 hL) ?_
  refine E_getIL (v := nI (List.length _)) dX7_settle_11 kF_X7_23 kY_8 (Or.inl rfl) (l_6 hL) (k_6 hL) hc.n ?_
  refine E_icmp_ge_n (tgt := 39) dX7_settle_14 (by decide) (by omega) (by omega) (fun c_14 => ?_) (fun c_14 => ?_)
  · obtain rfl : k = L.length := by omega
    rw [hv]
    exact K _ _ _
  · refine E_iload_n dX7_settle_17 rfl ?_
    refine E_aload_n dX7_settle_18 rfl ?_
    refine E_getRL dX7_settle_19 kF_X7_19 kY_7 (Or.inl ⟨_, rfl⟩) (l_75 hL) (k_75 hL) (r_75_0 hL) ?_
    refine E_getRL dX7_settle_22 kF_X7_29 kY_8 (Or.inr ⟨_, rfl⟩) (l_6 hL) (k_6 hL) (r_6_0 hL) ?_
    refine E_iload dX7_settle_25 rfl ?_
    refine E_aaldL (v := _) dX7_settle_27 (l_7 hL) (k_7 hL) (by decide) (by decide) rfl (by omega) (by decide) (hc.cell (by omega)) ?_
    refine E_getIL (v := A 0 k) dX7_settle_28 kF_X7_48 kY_2 (Or.inl rfl) (hc.glt (by omega)) (hc.gkd (by omega)) (hq.a7 (by omega)) ?_
    refine E_iadd dX7_settle_31 ?_
    refine E_istore_n dX7_settle_32 (Nat.le_of_ble_eq_true rfl) (by decide) rfl ?_
    refine E_iinc_n (d := 1) dX7_settle_33 rfl rfl rfl (by decide) rfl ?_
    refine E_goto (tgt := 5) dX7_settle_36 (by decide) ?_
    exact ih (by omega) _ (by rw [hv]; exact st_sum _ _ _) _ _
set_option maxRecDepth 100000 in
set_option maxHeartbeats 4000000 in
theorem sp_X7_settle {g : gG} {M : gM} {Q : Option Value ⊕ String → gM → Prop} {c : Cf} {P : Nat → Nat} {M0 : gM} {L : List Gl} {π : Nat → Nat} {A : Pl} (hq : cP c P M0 L π A M) {jn : Nat} {left : Int32} (hj : jn ≤ 1) (ho : onK A L.length) (K : ∀ M, cP c P M0 L π (std jn left (smA A L.length) L.length A) M → c5 π (std jn left (smA A L.length) L.length A) L.length M → Q (.inl none) M) : E g 1 0 0 mX7_settle 0 [.ref 76, .int left, .int (nI jn), .null, .null, .null, .null] [] M Q := by
  have hc := hq.1
  have hB := hc.B
  have hL := hB.lay
  have hn := hc.len
  refine E_iload_n dX7_settle_0 rfl ?_
  refine E_istore_n dX7_settle_1 (Nat.le_of_ble_eq_true rfl) (by decide) rfl ?_
  refine E_iconst (v := nI 0) dX7_settle_2 (by decide) ?_
  refine E_istore dX7_settle_3 (Nat.le_of_ble_eq_true rfl) (by decide) rfl ?_
  refine lp1_X7_settle hq (fun v4 v5 v6 => ?_) 0 (Nat.zero_le _) _ (by show left = left + nI 0; rw [add_n0]) _ _
  refine E_iconst (v := nI 0) dX7_settle_39 (by decide) ?_
  refine E_istore dX7_settle_40 (Nat.le_of_ble_eq_true rfl) (by decide) rfl ?_
  refine E_iconst (v := nI 0) dX7_settle_42 (by decide) ?_
  refine E_istore dX7_settle_43 (Nat.le_of_ble_eq_true rfl) (by decide) rfl ?_
  exact lp2_X7_settle hj ho K 0 (Nat.zero_le _) M _ hq (fun j hj => absurd hj (Nat.not_lt_zero j)) rfl _
