/-! the class: places -/
/-- which field of a glyph each row of places is: advance, height, on, right, up -/
def fdq (q : Nat) : Nat := if q = 0 then 7 else if q = 1 then 8 else q + 8
theorem fdq_inj {p q : Nat} (hp : p < 5) (hq : q < 5) (h : fdq p = fdq q) : p = q := by
  unfold fdq at h
  repeat' split at h
  all_goals omega
theorem fdq_b {q : Nat} (hq : q < 5) : 7 ≤ fdq q ∧ fdq q ≤ 12 ∧ ¬ fdq q = 9 := by
  unfold fdq
  repeat' split
  all_goals omega
def cP (c : Cf) (P : Nat → Nat) (M0 : gM) (L : List Gl) (π : Nat → Nat) (A : Pl) (M : gM) : Prop := cX c P M0 L π M ∧ ∀ q i, q < 5 → i < L.length → mI M (8 + π i) (fdq q) = A q i
section CP
variable {c : Cf} {P : Nat → Nat} {M0 M : gM} {L : List Gl} {π : Nat → Nat} {A : Pl} {f tb : Nat}
theorem cX.gp (h : cX c P M0 L π M) {i k : Nat} {v : Int32} (hi : i < L.length) (hk : 7 ≤ k) : cX c P M0 L π (sI M (8 + π i) k v) := by
  have hn := h.len
  have hp := h.p64 (show i < 64 by omega)
  refine ⟨h.1, h.2.1.wr (by unfold rwR; omega), (mI_ne (by omega)).trans h.n, h.2.2.2.1, h.2.2.2.2.1, fun j hj => ?_, h.ok⟩
  have := h.gl hj
  unfold glC at *
  rw [mI_nj (by omega), mI_nj (by omega), mI_nj (by omega), mI_nj (by omega), mI_nj (by omega), mI_nj (by omega), mI_nj (by omega)]
  exact this
theorem cP.set (h : cP c P M0 L π A M) {q i : Nat} {v : Int32} (hq : q < 5) (hi : i < L.length) : cP c P M0 L π (u2 A q i v) (sI M (8 + π i) (fdq q) v) := by
  have hn := h.1.len
  refine ⟨h.1.gp hi (fdq_b hq).1, fun p j hp hj => ?_⟩
  unfold u2
  rw [mI_sI]
  by_cases e : p = q ∧ j = i
  · rw [if_pos e, if_pos ⟨by rw [e.2], by rw [e.1]⟩]
  · rw [if_neg e, if_neg (fun z => e ⟨fdq_inj hp hq z.2, h.1.inj (by omega) (by omega) (by omega)⟩)]
    exact h.2 p j hp hj
theorem cP.s3 (h : cP c P M0 L π A M) {i : Nat} (b x y : Int32) (hi : i < L.length) : cP c P M0 L π (set3 A i b x y) (sI (sI (sI M (8 + π i) 10 b) (8 + π i) 11 x) (8 + π i) 12 y) :=
  ((h.set (q := 2) (by decide) hi).set (q := 3) (by decide) hi).set (q := 4) (by decide) hi
theorem cP.a7 (h : cP c P M0 L π A M) {i : Nat} (hi : i < L.length) : mI M (8 + π i) 7 = A 0 i := h.2 0 i (by decide) hi
theorem cP.a8 (h : cP c P M0 L π A M) {i : Nat} (hi : i < L.length) : mI M (8 + π i) 8 = A 1 i := h.2 1 i (by decide) hi
theorem cP.a10 (h : cP c P M0 L π A M) {i : Nat} (hi : i < L.length) : mI M (8 + π i) 10 = A 2 i := h.2 2 i (by decide) hi
theorem cP.a11 (h : cP c P M0 L π A M) {i : Nat} (hi : i < L.length) : mI M (8 + π i) 11 = A 3 i := h.2 3 i (by decide) hi
theorem cP.a12 (h : cP c P M0 L π A M) {i : Nat} (hi : i < L.length) : mI M (8 + π i) 12 = A 4 i := h.2 4 i (by decide) hi
theorem cX.fac7 (h : cX c P M0 L π M) (hF : mR M0 75 1 = fb f + 1) : mR M 75 1 = fb f + 1 := (h.fr.bkR (by unfold rwT; decide)).trans hF
theorem cX.tab7 (h : cX c P M0 L π M) (hT : mI M0 75 2 = nI tb) : mI M 75 2 = nI tb := (h.fr.bk (by unfold rwR; omega)).trans hT
end CP
set_option maxRecDepth 100000 in
set_option maxHeartbeats 4000000 in
theorem lp_X7_pairRule {g : gG} {M : gM} {Q : Option Value ⊕ String → gM → Prop} {c : Cf} {P : Nat → Nat} {M0 : gM} {L : List Gl} {π : Nat → Nat} (hc : cX c P M0 L π M) {f tb l p : Nat} (hf : f < 2) (hF0 : mR M0 75 1 = fb f + 1) (hT0 : mI M0 75 2 = nI tb) (htb : tb ≤ 1) (hk0 : kLk c M0 l p) (hfl : l / 12 = f) {i nx : Nat} (hkd : cN c 130 l = 6) (hi : i < L.length) (hnx : nx < L.length) (K : Q (.inl (some (.int (afV (cN c 135 l) (fnd (prP c f l L i nx) (cN c 135 l) 0))))) M) : ∀ k, k ≤ cN c 135 l → fnd (prP c f l L i nx) (cN c 135 l) k = fnd (prP c f l L i nx) (cN c 135 l) 0 → E g 3 0 0 mX7_pairRule 29 [.ref 76, .ref (p + 1), .int (nI i), .int (nI nx), .int (nI (bgB c f l (yN (gat L i)))), .int (nI k)] [] M Q := by
  have hB := hc.B
  have hL := hB.lay
  have hn := hc.len
  have hk := hc.lk hk0
  have hl := hB.wf.lk l
  have hb0 : ∀ q k, begP c f l q k ↔ isAt c f (rul c l k 0) q := fun q k => by unfold begP; rw [show leadOf (cN c 130 l) = 0 by unfold leadOf; rw [if_neg (by omega)]]
  refine lpUp (cN c 135 l) (fun k hk8 ih => ?_)
  intro he
  have n1 := hc.n256 nx
  have hbn : k < cN c 135 l → ((nI (bgB c f l (yN (gat L i))) >>> (nI k &&& 31)) &&& nI 1 = 0 ↔ ¬ begP c f l (yN (gat L i)) k) := fun z => bit_no hl.2.2.2.2.2 z
  have hbP : k < cN c 135 l → ¬ ((nI (bgB c f l (yN (gat L i))) >>> (nI k &&& 31)) &&& nI 1 = 0) → isAt c f (rul c l k 0) (yN (gat L i)) := fun z w => (hb0 _ _).mp (Classical.byContradiction (fun y => w ((hbn z).mpr y)))
  have skip : k < cN c 135 l → ¬ prP c f l L i nx k → fnd (prP c f l L i nx) (cN c 135 l) (k + 1) = fnd (prP c f l L i nx) (cN c 135 l) 0 := fun z w => by rw [← he]; exact (fnd_skip (P := (prP c f l L i nx)) z w).symm
  have hne : k < cN c 135 l → ¬ rul c l k 1 = -100 := fun z => by
    have hwr := hB.wf.ru z
    rw [hkd] at hwr
    exact iItem_n (iF6 hwr.1).2.1
  refine E_iload dX7_pairRule_29 rfl ?_
  refine E_aload_n dX7_pairRule_31 rfl ?_
  refine E_getIL (v := nI (cN _ 135 _)) dX7_pairRule_32 kF_X7_103 kY_4 (Or.inl rfl) (hk.lt0) (hk.kd) hk.f8 ?_
  refine E_icmp_ge_n (tgt := 88) dX7_pairRule_35 (by decide) (by omega) (by omega) (fun c_35 => ?_) (fun c_35 => ?_)
  · refine E_bipush (v := -100) dX7_pairRule_88 (by decide) ?_
    refine E_iret dX7_pairRule_90 (Or.inl rfl) ?_
    rw [← he, fnd_end (by omega), afV_0 (by omega)] at K; exact K
  · refine E_iload dX7_pairRule_38 rfl ?_
    refine E_iload dX7_pairRule_40 rfl ?_
    refine E_ishr dX7_pairRule_42 ?_
    refine E_iconst (v := nI 1) dX7_pairRule_43 (by decide) ?_
    refine E_iand dX7_pairRule_44 ?_
    refine E_if_eq (tgt := 82) dX7_pairRule_45 (by decide) (fun c_45 => ?_) (fun c_45 => ?_)
    · refine E_iinc_n (d := 1) dX7_pairRule_82 rfl rfl rfl (by decide) rfl ?_
      refine E_goto (tgt := 29) dX7_pairRule_85 (by decide) ?_
      refine ih (by omega) (skip (by omega) ?_)
      first
        | exact fun z => (hbn (by omega)).mp c_45 ((hb0 _ _).mpr z.1)
        | exact fun z => c_76 (Or.inr z.2)
    · refine E_aload_n dX7_pairRule_48 rfl ?_
      refine E_getRL dX7_pairRule_49 kF_X7_9 kY_7 (Or.inl ⟨_, rfl⟩) (l_75 hL) (k_75 hL) (hc.fac7 hF0) ?_
      refine E_aload_n dX7_pairRule_52 rfl ?_
      refine E_getRL dX7_pairRule_53 kF_X7_95 kY_4 (Or.inr ⟨_, rfl⟩) (hk.lt0) (hk.kd) hk.r6 ?_
      refine E_iload dX7_pairRule_56 rfl ?_
      refine E_aaldL (v := _) dX7_pairRule_58 (hk.lt (i := 1) (by decide)) (hk.kd1) (by decide) (by decide) rfl (by omega) (by decide) (hk.ru (by omega)) ?_
      refine E_iconst (v := nI 1) dX7_pairRule_59 (by decide) ?_
      refine E_ialdL (v := _) dX7_pairRule_60 (hk.ltu (by omega)) (hk.kdu (by omega)) rfl (by omega) (by decide) (hk.rn (by omega) (by omega)) ?_
      refine E_aload_n dX7_pairRule_61 rfl ?_
      refine E_getRL dX7_pairRule_62 kF_X7_19 kY_7 (Or.inl ⟨_, rfl⟩) (l_75 hL) (k_75 hL) (r_75_0 hL) ?_
      refine E_getRL dX7_pairRule_65 kF_X7_29 kY_8 (Or.inr ⟨_, rfl⟩) (l_6 hL) (k_6 hL) (r_6_0 hL) ?_
      refine E_iload_n dX7_pairRule_68 rfl ?_
      refine E_aaldL (v := _) dX7_pairRule_69 (l_7 hL) (k_7 hL) (by decide) (by decide) rfl (by omega) (by decide) (hc.cell (by omega)) ?_
      refine E_getIL (v := nI (yN (gat _ _))) dX7_pairRule_70 kF_X7_33 kY_2 (Or.inl rfl) (hc.glt (by omega)) (hc.gkd (by omega)) (hc.g0 (by omega)) ?_
      refine E_callV2 (fr' := 1) (k1 := 0) (n1 := 0) (k2 := 0) (n2 := 0) dX7_pairRule_73 kO_X1_suits kL_X7_106 (hB.flt0 hf) (hB.fk0 hf) ⟨by decide, rfl⟩ rfl rfl (by decide) (by decide) (by exact Nat.le_of_ble_eq_true rfl) rfl ?_
      refine sp_X1_suits hB hf n1 ?_
      refine gKv ?_
      refine E_if_eq_b (tgt := 82) dX7_pairRule_76 (by decide) (fun c_76 => ?_) (fun c_76 => ?_)
      · refine E_iinc_n (d := 1) dX7_pairRule_82 rfl rfl rfl (by decide) rfl ?_
        refine E_goto (tgt := 29) dX7_pairRule_85 (by decide) ?_
        refine ih (by omega) (skip (by omega) ?_)
        first
          | exact fun z => (hbn (by omega)).mp c_45 ((hb0 _ _).mpr z.1)
          | exact fun z => c_76 (Or.inr z.2)
      · refine E_iload dX7_pairRule_79 rfl ?_
        refine E_iret dX7_pairRule_81 (Or.inl rfl) ?_
        have hp : prP c f l L i nx k := ⟨hbP (by omega) c_45, c_76.resolve_left (hne (by omega))⟩
        have e : fnd (prP c f l L i nx) (cN c 135 l) 0 = k := by rw [← he]; exact fnd_hit (P := (prP c f l L i nx)) (by omega) hp
        rw [e, afV_n (by omega)] at K; exact K
set_option maxRecDepth 100000 in
set_option maxHeartbeats 4000000 in
theorem sp_X7_pairRule {g : gG} {M : gM} {Q : Option Value ⊕ String → gM → Prop} {c : Cf} {P : Nat → Nat} {M0 : gM} {L : List Gl} {π : Nat → Nat} (hc : cX c P M0 L π M) {f tb l p : Nat} (hf : f < 2) (hF0 : mR M0 75 1 = fb f + 1) (hT0 : mI M0 75 2 = nI tb) (htb : tb ≤ 1) (hk0 : kLk c M0 l p) (hfl : l / 12 = f) {i nx : Nat} (hkd : cN c 130 l = 6) (hi : i < L.length) (hnx : nx < L.length) (K : Q (.inl (some (.int (afV (cN c 135 l) (fnd (prP c f l L i nx) (cN c 135 l) 0))))) M) : E g 3 0 0 mX7_pairRule 0 [.ref 76, .ref (p + 1), .int (nI i), .int (nI nx), .null, .null] [] M Q := by
  have hB := hc.B
  have hL := hB.lay
  have hn := hc.len
  have hk := hc.lk hk0
  have hl := hB.wf.lk l
  refine E_aload_n dX7_pairRule_0 rfl ?_
  refine E_getRL dX7_pairRule_1 kF_X7_9 kY_7 (Or.inl ⟨_, rfl⟩) (l_75 hL) (k_75 hL) (hc.fac7 hF0) ?_
  refine E_aload_n dX7_pairRule_4 rfl ?_
  refine E_aload_n dX7_pairRule_5 rfl ?_
  refine E_getRL dX7_pairRule_6 kF_X7_19 kY_7 (Or.inl ⟨_, rfl⟩) (l_75 hL) (k_75 hL) (r_75_0 hL) ?_
  refine E_getRL dX7_pairRule_9 kF_X7_29 kY_8 (Or.inr ⟨_, rfl⟩) (l_6 hL) (k_6 hL) (r_6_0 hL) ?_
  refine E_iload_n dX7_pairRule_12 rfl ?_
  refine E_aaldL (v := _) dX7_pairRule_13 (l_7 hL) (k_7 hL) (by decide) (by decide) rfl (by omega) (by decide) (hc.cell (by omega)) ?_
  refine E_getIL (v := nI (yN (gat _ _))) dX7_pairRule_14 kF_X7_33 kY_2 (Or.inl rfl) (hc.glt (by omega)) (hc.gkd (by omega)) (hc.g0 (by omega)) ?_
  refine E_aload_n dX7_pairRule_17 rfl ?_
  refine E_getIL (v := nI tb) dX7_pairRule_18 kF_X7_15 kY_7 (Or.inr rfl) (l_75 hL) (k_75 hL) (hc.tab7 hT0) ?_
  refine E_callV3 (fr' := 2) (k1 := 0) (n1 := 0) (k2 := 0) (n2 := 0) dX7_pairRule_21 kO_X1_beginning kL_X7_99 (hB.flt0 hf) (hB.fk0 hf) ⟨by decide, rfl⟩ rfl rfl rfl (by decide) (by decide) (by exact Nat.le_of_ble_eq_true rfl) rfl ?_
  refine sp_X1_beginning hB hf hk hfl (hc.n256 i) htb ?_
  refine gKv ?_
  refine E_istore dX7_pairRule_24 (Nat.le_of_ble_eq_true rfl) (by decide) rfl ?_
  refine E_iconst (v := nI 0) dX7_pairRule_26 (by decide) ?_
  refine E_istore dX7_pairRule_27 (Nat.le_of_ble_eq_true rfl) (by decide) rfl ?_
  exact lp_X7_pairRule hc hf hF0 hT0 htb hk0 hfl hkd hi hnx K 0 (Nat.zero_le _) rfl
set_option maxRecDepth 100000 in
set_option maxHeartbeats 4000000 in
theorem lp_X7_addToPairs {g : gG} {Q : Option Value ⊕ String → gM → Prop} {c : Cf} {P : Nat → Nat} {M0 : gM} {L : List Gl} {π : Nat → Nat} {f tb l p : Nat} (hf : f < 2) (hF0 : mR M0 75 1 = fb f + 1) (hT0 : mI M0 75 2 = nI tb) (htb : tb ≤ 1) (hk0 : kLk c M0 l p) (hfl : l / 12 = f) (hkd : cN c 130 l = 6) : ∀ t i s (A : Pl) M, cP c P M0 L π A M → L.length - i ≤ t → i ≤ L.length → s ≤ i → (K : ∀ M, cP c P M0 L π (prs c f l L t i A) M → Q (.inl none) M) → ∀ v4 v5, E g 4 0 0 mX7_addToPairs 4 [.ref 76, .ref (p + 1), .int (nI i), .int (nI s), v4, v5] [] M Q := by
  intro t
  induction t with
  | zero =>
    intro i s A M hq ht hi hs K v4 v5
    have hc := hq.1
    have hB := hc.B
    have hL := hB.lay
    have hn := hc.len
    have hk := hc.lk hk0
    have hl := hB.wf.lk l
    refine E_iload_n dX7_addToPairs_4 rfl ?_
    refine E_aload_n dX7_addToPairs_5 rfl ?_
    refine E_getRL dX7_addToPairs_6 kF_X7_19 kY_7 (Or.inl ⟨_, rfl⟩) (l_75 hL) (k_75 hL) (r_75_0 hL) ?_
    refine E_getIL (v := nI (List.length _)) dX7_addToPairs_9 kF_X7_23 kY_8 (Or.inl rfl) (l_6 hL) (k_6 hL) hc.n ?_
    refine E_icmp_ge_n (tgt := 131) dX7_addToPairs_12 (by decide) (by omega) (by omega) (fun c_12 => ?_) (fun c_12 => ?_)
    · refine E_vret dX7_addToPairs_131 rfl ?_
      exact K _ hq
    · refine E_iload_n dX7_addToPairs_15 rfl ?_
      refine E_bipush (v := nI 64) dX7_addToPairs_16 (by decide) ?_
      refine E_icmp_ge_n (tgt := 131) dX7_addToPairs_18 (by decide) (by omega) (by omega) (fun c_18 => ?_) (fun c_18 => ?_)
      · refine E_vret dX7_addToPairs_131 rfl ?_
        exact K _ hq
      · exfalso; omega
  | succ t ih =>
    intro i s A M hq ht hi hs K v4 v5
    have K : ∀ M, cP c P M0 L π (cI (i < L.length) (prs c f l L t (prI c f l L i) (prS c f l L i A)) A) M → Q (.inl none) M := K
    have hc := hq.1
    have hB := hc.B
    have hL := hB.lay
    have hn := hc.len
    have hk := hc.lk hk0
    have hl := hB.wf.lk l
    have no : i < L.length → ¬ prD c f l L i → ∀ v4 v5, E g 4 0 0 mX7_addToPairs 4 [.ref 76, .ref (p + 1), .int (nI (i + 1)), .int (nI (s + 1)), v4, v5] [] M Q := fun hil hnd v4 v5 => by
      rw [cI_t hil] at K
      unfold prS prI at K
      rw [cI_f hnd, cI_f hnd] at K
      exact ih _ _ _ _ hq (by omega) (by omega) (by omega) K _ _
    refine E_iload_n dX7_addToPairs_4 rfl ?_
    refine E_aload_n dX7_addToPairs_5 rfl ?_
    refine E_getRL dX7_addToPairs_6 kF_X7_19 kY_7 (Or.inl ⟨_, rfl⟩) (l_75 hL) (k_75 hL) (r_75_0 hL) ?_
    refine E_getIL (v := nI (List.length _)) dX7_addToPairs_9 kF_X7_23 kY_8 (Or.inl rfl) (l_6 hL) (k_6 hL) hc.n ?_
    refine E_icmp_ge_n (tgt := 131) dX7_addToPairs_12 (by decide) (by omega) (by omega) (fun c_12 => ?_) (fun c_12 => ?_)
    · refine E_vret dX7_addToPairs_131 rfl ?_
      first
        | (exfalso; omega)
        | (rw [cI_f (by omega)] at K
           exact K _ hq)
    · refine E_iload_n dX7_addToPairs_15 rfl ?_
      refine E_bipush (v := nI 64) dX7_addToPairs_16 (by decide) ?_
      refine E_icmp_ge_n (tgt := 131) dX7_addToPairs_18 (by decide) (by omega) (by omega) (fun c_18 => ?_) (fun c_18 => ?_)
      · refine E_vret dX7_addToPairs_131 rfl ?_
        first
          | (exfalso; omega)
          | (rw [cI_f (by omega)] at K
             exact K _ hq)
      · have hil : i < L.length := by omega
        have hab := aft_b c f l hil
        refine E_aload_n dX7_addToPairs_21 rfl ?_
        refine E_getRL dX7_addToPairs_22 kF_X7_9 kY_7 (Or.inl ⟨_, rfl⟩) (l_75 hL) (k_75 hL) (hc.fac7 hF0) ?_
        refine E_aload_n dX7_addToPairs_25 rfl ?_
        refine E_aload_n dX7_addToPairs_26 rfl ?_
        refine E_getRL dX7_addToPairs_27 kF_X7_19 kY_7 (Or.inl ⟨_, rfl⟩) (l_75 hL) (k_75 hL) (r_75_0 hL) ?_
        refine E_getRL dX7_addToPairs_30 kF_X7_29 kY_8 (Or.inr ⟨_, rfl⟩) (l_6 hL) (k_6 hL) (r_6_0 hL) ?_
        refine E_iload_n dX7_addToPairs_33 rfl ?_
        refine E_aaldL (v := _) dX7_addToPairs_34 (l_7 hL) (k_7 hL) (by decide) (by decide) rfl (by omega) (by decide) (hc.cell (by omega)) ?_
        refine E_callV2 (fr' := 2) (k1 := 0) (n1 := 0) (k2 := 0) (n2 := 0) dX7_addToPairs_35 kO_X1_hasTurn kL_X7_83 (hB.flt0 hf) (hB.fk0 hf) ⟨by decide, rfl⟩ rfl rfl (by decide) (by decide) (by exact Nat.le_of_ble_eq_true rfl) rfl ?_
        refine sp_X1_hasTurn hc hf hk (by omega) ?_
        refine gKv ?_
        refine E_if_eq_b (tgt := 57) dX7_addToPairs_38 (by decide) (fun c_38 => ?_) (fun c_38 => ?_)
        · refine E_bipush (v := -100) dX7_addToPairs_57 (by decide) ?_
          refine E_istore dX7_addToPairs_59 (Nat.le_of_ble_eq_true rfl) (by decide) rfl ?_
          refine E_iload dX7_addToPairs_61 rfl ?_
          refine E_bipush (v := -100) dX7_addToPairs_63 (by decide) ?_
          refine E_icmp_ne_r (tgt := 73) dX7_addToPairs_65 (by decide) (fun c0 => absurd c0 (by decide)) (fun _ => ?_)
          refine E_bipush (v := -100) dX7_addToPairs_68 (by decide) ?_
          refine E_goto (tgt := 81) dX7_addToPairs_70 (by decide) ?_
          refine E_istore dX7_addToPairs_81 (Nat.le_of_ble_eq_true rfl) (by decide) rfl ?_
          refine E_iload dX7_addToPairs_83 rfl ?_
          refine E_bipush (v := -100) dX7_addToPairs_85 (by decide) ?_
          refine E_icmp_ne_r (tgt := 96) dX7_addToPairs_87 (by decide) (fun c0 => absurd c0 (by decide)) (fun _ => ?_)
          refine E_iinc_n (d := 1) dX7_addToPairs_90 rfl rfl rfl (by decide) rfl ?_
          refine E_goto (tgt := 125) dX7_addToPairs_93 (by decide) ?_
          refine E_iinc_n (d := 1) dX7_addToPairs_125 rfl rfl rfl (by decide) rfl ?_
          refine E_goto (tgt := 4) dX7_addToPairs_128 (by decide) ?_
          exact no hil (fun z => by have := z.1; contradiction) _ _
        · refine E_aload_n dX7_addToPairs_41 rfl ?_
          refine E_getRL dX7_addToPairs_42 kF_X7_19 kY_7 (Or.inl ⟨_, rfl⟩) (l_75 hL) (k_75 hL) (r_75_0 hL) ?_
          refine E_aload_n dX7_addToPairs_45 rfl ?_
          refine E_getRL dX7_addToPairs_46 kF_X7_9 kY_7 (Or.inl ⟨_, rfl⟩) (l_75 hL) (k_75 hL) (hc.fac7 hF0) ?_
          refine E_aload_n dX7_addToPairs_49 rfl ?_
          refine E_iload_n dX7_addToPairs_50 rfl ?_
          refine E_callV3 (fr' := 2) (k1 := 0) (n1 := 0) (k2 := 0) (n2 := 0) dX7_addToPairs_51 kO_X8_behind kL_X7_87 (l_6 hL) (k_6 hL) ⟨by decide, rfl⟩ rfl rfl rfl (by decide) (by decide) (by exact Nat.le_of_ble_eq_true rfl) rfl ?_
          refine sp_X8_behind hc hf hk hil ?_
          refine gKv ?_
          refine E_goto (tgt := 59) dX7_addToPairs_54 (by decide) ?_
          have hgo : goP c f L l i := by assumption
          by_cases hx : aft c f l L i < L.length
          · rw [afV_n hx]
            refine E_istore dX7_addToPairs_59 (Nat.le_of_ble_eq_true rfl) (by decide) rfl ?_
            refine E_iload dX7_addToPairs_61 rfl ?_
            refine E_bipush (v := -100) dX7_addToPairs_63 (by decide) ?_
            refine E_icmp_ne (tgt := 73) dX7_addToPairs_65 (by decide) (fun _ => ?_) (fun c0 => absurd (nI_ne100 (by omega)) c0)
            refine E_aload_n dX7_addToPairs_73 rfl ?_
            refine E_aload_n dX7_addToPairs_74 rfl ?_
            refine E_iload_n dX7_addToPairs_75 rfl ?_
            refine E_iload dX7_addToPairs_76 rfl ?_
            refine E_callV3 (fr' := 3) (k1 := 0) (n1 := 0) (k2 := 0) (n2 := 0) dX7_addToPairs_78 kO_X7_pairRule kL_X7_91 (l_75 hL) (k_75 hL) ⟨by decide, rfl⟩ rfl rfl rfl (by decide) (by decide) (by exact Nat.le_of_ble_eq_true rfl) rfl ?_
            refine sp_X7_pairRule hc hf hF0 hT0 htb hk0 hfl hkd hil hx ?_
            refine gKv ?_
            by_cases hr : prA c f l L i < cN c 135 l
            · rw [show fnd (prP c f l L i (aft c f l L i)) (cN c 135 l) 0 = prA c f l L i from rfl, afV_n hr]
              have hd : prD c f l L i := ⟨hgo, hx, hr⟩
              refine E_istore dX7_addToPairs_81 (Nat.le_of_ble_eq_true rfl) (by decide) rfl ?_
              refine E_iload dX7_addToPairs_83 rfl ?_
              refine E_bipush (v := -100) dX7_addToPairs_85 (by decide) ?_
              refine E_icmp_ne (tgt := 96) dX7_addToPairs_87 (by decide) (fun _ => ?_) (fun c0 => absurd (nI_ne100 (by omega)) c0)
              refine E_aload_n dX7_addToPairs_96 rfl ?_
              refine E_getRL dX7_addToPairs_97 kF_X7_19 kY_7 (Or.inl ⟨_, rfl⟩) (l_75 hL) (k_75 hL) (r_75_0 hL) ?_
              refine E_getRL dX7_addToPairs_100 kF_X7_29 kY_8 (Or.inr ⟨_, rfl⟩) (l_6 hL) (k_6 hL) (r_6_0 hL) ?_
              refine E_iload_n dX7_addToPairs_103 rfl ?_
              refine E_aaldL (v := _) dX7_addToPairs_104 (l_7 hL) (k_7 hL) (by decide) (by decide) rfl (by omega) (by decide) (hc.cell (by omega)) ?_
              refine E_dup dX7_addToPairs_105 rfl ?_
              refine E_getIL (v := _) dX7_addToPairs_106 kF_X7_48 kY_2 (Or.inl rfl) (hc.glt (by omega)) (hc.gkd (by omega)) (hq.a7 (by omega)) ?_
              refine E_aload_n dX7_addToPairs_109 rfl ?_
              refine E_getRL dX7_addToPairs_110 kF_X7_95 kY_4 (Or.inr ⟨_, rfl⟩) (hk.lt0) (hk.kd) hk.r6 ?_
              refine E_iload dX7_addToPairs_113 rfl ?_
              refine E_aaldL (v := _) dX7_addToPairs_115 (hk.lt (i := 1) (by decide)) (hk.kd1) (by decide) (by decide) rfl (by omega) (by decide) (hk.ru (by omega)) ?_
              refine E_iconst (v := nI 2) dX7_addToPairs_116 (by decide) ?_
              refine E_ialdL (v := _) dX7_addToPairs_117 (hk.ltu (by omega)) (hk.kdu (by omega)) rfl (by omega) (by decide) (hk.rn (by omega) (by omega)) ?_
              refine E_iadd dX7_addToPairs_118 ?_
              refine E_putI dX7_addToPairs_119 kF_X7_48 kY_2 (Or.inl rfl) (hc.glt (by omega)) (hc.gkd (by omega)) (Or.inl rfl) ?_
              have hq2 := hq.set (q := 0) (i := i) (v := A 0 i + rul c l (prA c f l L i) 2) (by decide) hil
              rw [cI_t hil] at K
              unfold prS prI at K
              rw [cI_t hd, cI_t hd] at K
              refine E_iload dX7_addToPairs_122 rfl ?_
              refine E_istore_n dX7_addToPairs_124 (Nat.le_of_ble_eq_true rfl) (by decide) rfl ?_
              refine E_iinc_n (d := 1) dX7_addToPairs_125 rfl rfl rfl (by decide) rfl ?_
              refine E_goto (tgt := 4) dX7_addToPairs_128 (by decide) ?_
              exact ih _ _ _ _ hq2 (by omega) (by omega) (by omega) K _ _
            · rw [show fnd (prP c f l L i (aft c f l L i)) (cN c 135 l) 0 = prA c f l L i from rfl, afV_0 hr]
              refine E_istore dX7_addToPairs_81 (Nat.le_of_ble_eq_true rfl) (by decide) rfl ?_
              refine E_iload dX7_addToPairs_83 rfl ?_
              refine E_bipush (v := -100) dX7_addToPairs_85 (by decide) ?_
              refine E_icmp_ne_r (tgt := 96) dX7_addToPairs_87 (by decide) (fun c0 => absurd c0 (by decide)) (fun _ => ?_)
              refine E_iinc_n (d := 1) dX7_addToPairs_90 rfl rfl rfl (by decide) rfl ?_
              refine E_goto (tgt := 125) dX7_addToPairs_93 (by decide) ?_
              refine E_iinc_n (d := 1) dX7_addToPairs_125 rfl rfl rfl (by decide) rfl ?_
              refine E_goto (tgt := 4) dX7_addToPairs_128 (by decide) ?_
              exact no hil (fun z => hr z.2.2) _ _
          · rw [afV_0 hx]
            refine E_istore dX7_addToPairs_59 (Nat.le_of_ble_eq_true rfl) (by decide) rfl ?_
            refine E_iload dX7_addToPairs_61 rfl ?_
            refine E_bipush (v := -100) dX7_addToPairs_63 (by decide) ?_
            refine E_icmp_ne_r (tgt := 73) dX7_addToPairs_65 (by decide) (fun c0 => absurd c0 (by decide)) (fun _ => ?_)
            refine E_bipush (v := -100) dX7_addToPairs_68 (by decide) ?_
            refine E_goto (tgt := 81) dX7_addToPairs_70 (by decide) ?_
            refine E_istore dX7_addToPairs_81 (Nat.le_of_ble_eq_true rfl) (by decide) rfl ?_
            refine E_iload dX7_addToPairs_83 rfl ?_
            refine E_bipush (v := -100) dX7_addToPairs_85 (by decide) ?_
            refine E_icmp_ne_r (tgt := 96) dX7_addToPairs_87 (by decide) (fun c0 => absurd c0 (by decide)) (fun _ => ?_)
            refine E_iinc_n (d := 1) dX7_addToPairs_90 rfl rfl rfl (by decide) rfl ?_
            refine E_goto (tgt := 125) dX7_addToPairs_93 (by decide) ?_
            refine E_iinc_n (d := 1) dX7_addToPairs_125 rfl rfl rfl (by decide) rfl ?_
            refine E_goto (tgt := 4) dX7_addToPairs_128 (by decide) ?_
            exact no hil (fun z => hx z.2.1) _ _
set_option maxRecDepth 100000 in
set_option maxHeartbeats 4000000 in
theorem sp_X7_addToPairs {g : gG} {M : gM} {Q : Option Value ⊕ String → gM → Prop} {c : Cf} {P : Nat → Nat} {M0 : gM} {L : List Gl} {π : Nat → Nat} {A : Pl} (hq : cP c P M0 L π A M) {f tb l p : Nat} (hf : f < 2) (hF0 : mR M0 75 1 = fb f + 1) (hT0 : mI M0 75 2 = nI tb) (htb : tb ≤ 1) (hk0 : kLk c M0 l p) (hfl : l / 12 = f) (hkd : cN c 130 l = 6) (K : ∀ M, cP c P M0 L π (prs c f l L L.length 0 A) M → Q (.inl none) M) : E g 4 0 0 mX7_addToPairs 0 [.ref 76, .ref (p + 1), .null, .null, .null, .null] [] M Q := by
  have hc := hq.1
  have hB := hc.B
  have hL := hB.lay
  have hn := hc.len
  have hk := hc.lk hk0
  have hl := hB.wf.lk l
  refine E_iconst (v := nI 0) dX7_addToPairs_0 (by decide) ?_
  refine E_istore_n dX7_addToPairs_1 (Nat.le_of_ble_eq_true rfl) (by decide) rfl ?_
  refine E_iconst (v := nI 0) dX7_addToPairs_2 (by decide) ?_
  refine E_istore_n dX7_addToPairs_3 (Nat.le_of_ble_eq_true rfl) (by decide) rfl ?_
  exact lp_X7_addToPairs hf hF0 hT0 htb hk0 hfl hkd L.length 0 0 A M hq (by omega) (Nat.zero_le _) (Nat.le_refl _) K _ _
