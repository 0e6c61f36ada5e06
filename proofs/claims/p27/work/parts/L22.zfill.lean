/-! the law: what fills a line -/
def lG0 : Nat → Nat → Prop := fun _ _ => False
def mF (pm : Nat) (V : Nat → Int32) (M0 M : gM) : Prop := lR lG0 M0 M ∧ mN M0 = pm ∧ pm < mN M ∧ mK M pm = (13, 16) ∧ ∀ j, j < 16 → mI M pm j = V j
theorem mF.set {pm : Nat} {V : Nat → Int32} {M0 M : gM} (h : mF pm V M0 M) {j : Nat} {v : Int32} : mF pm (fun i => if i = j then v else V i) M0 (sI M pm j v) :=
  ⟨h.1.wr (fun q => by have := h.2.1; omega), h.2.1, h.2.2.1, h.2.2.2.1, fun i hi => by
    rw [mI_sI]
    by_cases e : i = j
    · rw [if_pos ⟨rfl, e⟩]; exact (if_pos e).symm
    · rw [if_neg (fun z => e z.2)]; exact (h.2.2.2.2 i hi).trans (if_neg e).symm⟩
theorem mF.congr {pm : Nat} {V W : Nat → Int32} {M0 M : gM} (h : mF pm V M0 M) (e : ∀ j, j < 16 → W j = V j) : mF pm W M0 M := ⟨h.1, h.2.1, h.2.2.1, h.2.2.2.1, fun j hj => (h.2.2.2.2 j hj).trans (e j hj).symm⟩
theorem mF.plt {pm : Nat} {V : Nat → Int32} {M0 M : gM} (h : mF pm V M0 M) : pm < mN M := h.2.2.1
theorem mF.pkd {pm : Nat} {V : Nat → Int32} {M0 M : gM} (h : mF pm V M0 M) : mK M pm = (13, 16) := h.2.2.2.1
theorem mF.at {pm : Nat} {V : Nat → Int32} {M0 M : gM} (h : mF pm V M0 M) {j : Nat} (hj : j < 16) : mI M pm j = V j := h.2.2.2.2 j hj
theorem lR.T {c : Cf} {M M' : gM} (h : lR lG0 M M') (hT : lT c M) : lT c M' := by
  have h139 : 139 ≤ mN M := hT.lay.1
  exact hT.mv (h.lay hT.lay) (fun a j q q2 => h.2.2.1 a j (by omega) (fun z => z)) (fun j => h.2.2.2.2 130 j (by omega))
theorem lR.kS {c : Cf} {P π : Nat → Nat} {M M' : gM} (h : lR lG0 M M') (hS : kS c P π M) : kS c P π M' := hS.grow h.1 h.2.1 (fun a j q => h.2.2.1 a j q (fun z => z)) (fun a j q => h.2.2.2.1 a j q)
theorem lR.kq {M M' : gM} (h : lR lG0 M M') : kq M M' := ⟨h.1, h.2.1, fun a j _ q => ⟨h.2.2.1 a j q (fun z => z), h.2.2.2.2 a j q, h.2.2.2.1 a j q⟩⟩
/-- which letters may hold strokes -/
def myS (c : Cf) (ps : Nat) (M : gM) : Prop := ps < mN M ∧ 139 ≤ ps ∧ mK M ps = (13, 16) ∧ ∀ j, j < tl c → mI M ps j = cI (msP c j) (nI 1) (nI 0)
theorem myS.R {c : Cf} {ps : Nat} {M M' : gM} (h : myS c ps M) (hl : lR lG0 M M') : myS c ps M' := ⟨Nat.lt_of_lt_of_le h.1 hl.1, h.2.1, (hl.2.1 _ h.1).trans h.2.2.1, fun j hj => (hl.2.2.1 _ _ h.1 (fun z => z)).trans (h.2.2.2 j hj)⟩
theorem myS.kq {c : Cf} {ps : Nat} {M M' : gM} (h : myS c ps M) (hl : kq M M') : myS c ps M' := ⟨Nat.lt_of_lt_of_le h.1 hl.1, h.2.1, (hl.2.1 _ h.1).trans h.2.2.1, fun j hj => (hl.2.2 _ _ (by have := h.2.1; omega) h.1).1.trans (h.2.2.2 j hj)⟩
theorem msC_p {c : Cf} : ∀ n, 0 < msC c n ↔ ∃ j, j < n ∧ msP c j
  | 0 => ⟨fun h => absurd h (Nat.lt_irrefl 0), fun ⟨j, h, _⟩ => absurd h (Nat.not_lt_zero j)⟩
  | n + 1 => by
    by_cases e : msP c n
    · rw [msC_t e]; exact ⟨fun _ => ⟨n, by omega, e⟩, fun _ => by omega⟩
    · rw [msC_f e, msC_p n]
      exact ⟨fun ⟨j, h1, h2⟩ => ⟨j, by omega, h2⟩, fun ⟨j, h1, h2⟩ => ⟨j, by by_cases q : j = n; (rw [q] at h2; exact absurd h2 e); omega, h2⟩⟩
theorem blk_p {c : Cf} : ∀ n, 0 < blk c n ↔ ∃ j, j < n ∧ cN c 141 j = 0
  | 0 => ⟨fun h => absurd h (Nat.lt_irrefl 0), fun ⟨j, h, _⟩ => absurd h (Nat.not_lt_zero j)⟩
  | n + 1 => by
    by_cases e : cN c 141 n = 0
    · rw [blk_t e]; exact ⟨fun _ => ⟨n, by omega, e⟩, fun _ => by omega⟩
    · rw [blk_f e, blk_p n]
      exact ⟨fun ⟨j, h1, h2⟩ => ⟨j, by omega, h2⟩, fun ⟨j, h1, h2⟩ => ⟨j, by by_cases q : j = n; (rw [q] at h2; exact absurd h2 e); omega, h2⟩⟩
theorem dm_lt {a b r d : Nat} (h : a = r * b + d) (hd : d < b) : a / b = r ∧ a % b = d := by
  rw [h, Nat.mul_comm]
  exact ⟨by rw [Nat.mul_add_div (by omega), Nat.div_eq_of_lt hd, Nat.add_zero], by rw [Nat.mul_add_mod, Nat.mod_eq_of_lt hd]⟩
theorem dm_eq {a b r : Nat} (h : a = r * b + b) (hb : 0 < b) : a / b = r + 1 ∧ a % b = 0 := dm_lt (d := 0) (by rw [Nat.succ_mul]; omega) hb
theorem stN_e {c : Cf} {q r k j : Nat} (hB : 0 < stM c) (h : stA c q = r * stM c + (stM c - msC c (k + 1))) (hk : k < tl c) (hj : j < tl c) (hm : msP c j) : stN c q j = r + (if k < j then 1 else 0) := by
  have h1 : msC c (k + 1) ≤ stM c := msC_m _ (by omega)
  have h2 : msC c (j + 1) ≤ stM c := msC_m _ (by omega)
  have h3 := msC_t hm
  have h4 : k < j → msC c (k + 1) ≤ msC c j := fun q => msC_m _ (by omega)
  have h5 : j ≤ k → msC c (j + 1) ≤ msC c (k + 1) := fun q => msC_m _ (by omega)
  unfold stN
  by_cases e : msC c (k + 1) = 0
  · obtain ⟨d1, d2⟩ := dm_eq (a := stA c q) (b := stM c) (r := r) (by rw [h]; omega) hB
    rw [d1, d2, cI_f (by omega), if_pos (by omega)]
  · obtain ⟨d1, d2⟩ := dm_lt h (by omega)
    rw [d1, d2]
    by_cases q : k < j
    · rw [cI_t (by omega), if_pos q]
    · rw [cI_f (by omega), if_neg q]
theorem blN_e {c : Cf} {L r k j : Nat} (hB : 0 < blk c (tl c)) (h : L = r * blk c (tl c) + blk c k) (hk : k ≤ tl c) (hj : j < tl c) (hm : cN c 141 j = 0) : L / blk c (tl c) + cI (blk c j < L % blk c (tl c)) 1 0 = r + (if j < k then 1 else 0) := by
  have h1 : blk c k ≤ blk c (tl c) := blk_m _ hk
  have h2 : blk c (j + 1) ≤ blk c (tl c) := blk_m _ (by omega)
  have h3 := blk_t hm
  have h4 : k ≤ j → blk c k ≤ blk c j := fun q => blk_m _ q
  have h5 : j < k → blk c (j + 1) ≤ blk c k := fun q => blk_m _ (by omega)
  by_cases e : blk c k = blk c (tl c)
  · obtain ⟨d1, d2⟩ := dm_eq (a := L) (b := blk c (tl c)) (r := r) (by rw [h]; omega) hB
    rw [d1, d2, cI_f (by omega), if_pos (by omega)]
  · obtain ⟨d1, d2⟩ := dm_lt h (by omega)
    rw [d1, d2]
    by_cases q : j < k
    · rw [cI_t (by omega), if_pos q]
    · rw [cI_f (by omega), if_neg q]
section EMF
variable {g : gG} {fr k n : Nat} {μ : gMu} {pc : Nat} {ls st : List Value} {M : gM} {Q : Option Value ⊕ String → gM → Prop}
theorem E_setM {pm j : Nat} {V : Nat → Int32} {M0 : gM} {v idx : Int32} (hd : decode (gcc μ) pc = .ok (.iastore, 1)) (h : mF pm V M0 M) (hx : idx = nI j) (hj : j < 16)
    (k0 : ∀ M', mF pm (fun i => if i = j then v else V i) M0 M' → E g fr k n μ (pc + 1) ls st M' Q) : E g fr k n μ pc ls (.int v :: .int idx :: .ref (pm + 1) :: st) M Q :=
  E_iast hd h.plt h.pkd hx hj (by decide) (k0 _ h.set)
end EMF
noncomputable def v1 (c : Cf) (r k : Nat) : Nat → Int32 := fun j => nI (cI (j < tl c ∧ msP c j) (r + cI (k < j) 1 0) 0)
noncomputable def v1E (c : Cf) (q : Nat) : Nat → Int32 := fun j => nI (cI (j < tl c ∧ msP c j) (stN c q j) 0)
theorem v1_in {c : Cf} {r k j : Nat} (h : j < tl c ∧ msP c j) : v1 c r k j = nI (r + cI (k < j) 1 0) := by unfold v1; rw [cI_t h]
theorem v1_out {c : Cf} {r k j : Nat} (h : ¬ (j < tl c ∧ msP c j)) : v1 c r k j = nI 0 := by unfold v1; rw [cI_f h]
/-- what stands while a line is filled -/
def fI (c : Cf) (ps pm : Nat) (V : Nat → Int32) (M0 M : gM) : Prop := lT c M ∧ myS c ps M ∧ mF pm V M0 M
theorem fI.mv {c : Cf} {ps pm : Nat} {V W : Nat → Int32} {M0 M M' : gM} (h0 : lT c M0) (hy : myS c ps M0) (h : mF pm W M0 M') : fI c ps pm W M0 M' := ⟨h.1.T h0, hy.R h.1, h⟩
set_option maxRecDepth 100000 in
set_option maxHeartbeats 4000000 in
theorem st1_L_filled {g : gG} {M : gM} {Q : Option Value ⊕ String → gM → Prop} {c : Cf} {ps pm kk nn : Nat} {w ms : Int32} {M0 : gM} (h0 : lT c M0) (hy0 : myS c ps M0) {q : Nat} (hq : q < 2 ^ 30) (hB : 0 < stM c) (hs : 0 < wSt c) {r k : Nat} (hk : k < tl c) (hp : (r * stM c + (stM c - msC c (k + 1))) ≤ stA c q) (hm : mF pm (v1 c r k) M0 M) (K : ∀ M x11, mF pm (v1E c q) M0 M → ∀ v12 v13, E g 10 kk nn mL_filled 132 [.ref 1, .ref 129, .ref 132, .ref 133, .ref (ps + 1), .int w, .int ms, .ref (pm + 1), .int (nI (q - stA c q * wSt c)), .int (nI (wSt c)), .int (b2i (∃ j, j < tl c ∧ msP c j)), .int x11, v12, v13] [] M Q) (hnx : ∀ r' k' M, (k' + 1 = k ∧ r' = r ∨ k = 0 ∧ k' + 1 = tl c ∧ r' = r + 1) → (r' * stM c + (stM c - msC c (k' + 1))) ≤ stA c q → mF pm (v1 c r' k') M0 M → ∀ v12 v13, E g 10 kk nn mL_filled 68 [.ref 1, .ref 129, .ref 132, .ref 133, .ref (ps + 1), .int w, .int ms, .ref (pm + 1), .int (nI (q - (r' * stM c + (stM c - msC c (k' + 1))) * wSt c)), .int (nI (wSt c)), .int (b2i (∃ j, j < tl c ∧ msP c j)), .int (nI k'), v12, v13] [] M Q) : ∀ v12 v13, E g 10 kk nn mL_filled 68 [.ref 1, .ref 129, .ref 132, .ref 133, .ref (ps + 1), .int w, .int ms, .ref (pm + 1), .int (nI (q - (r * stM c + (stM c - msC c (k + 1))) * wSt c)), .int (nI (wSt c)), .int (b2i (∃ j, j < tl c ∧ msP c j)), .int (nI k), v12, v13] [] M Q := by
  intro v12 v13
  have h := h0
  have hy := hy0
  have hl := hm.1
  have h := hl.T h0
  have hy := hy0.R hl
  have hL := h.lay
  have h10 := h.t10
  have ht10 := h.S.t10
  have hA : stA c q = q / wSt c := cI_f (by omega)
  have hAb := stA_b c q
  have hw100 : wSt c ≤ 100 := (pEf_b h.wf 0 20).2.2
  have hmk : msC c (k + 1) ≤ stM c := msC_m _ (by omega)
  have hany : ∃ j, j < tl c ∧ msP c j := (msC_p (tl c)).mp hB
  have hds : (r * stM c + (stM c - msC c (k + 1))) * wSt c ≤ stA c q * wSt c := Nat.mul_le_mul_right _ hp
  have hup : (r * stM c + (stM c - msC c (k + 1))) + 1 ≤ stA c q ↔ (r * stM c + (stM c - msC c (k + 1))) * wSt c + wSt c ≤ q := by rw [hA, Nat.le_div_iff_mul_le hs, Nat.succ_mul]
  have hex : (r * stM c + (stM c - msC c (k + 1))) = stA c q → ∀ x11, ∀ v12 v13, E g 10 kk nn mL_filled 132 [.ref 1, .ref 129, .ref 132, .ref 133, .ref (ps + 1), .int w, .int ms, .ref (pm + 1), .int (nI (q - stA c q * wSt c)), .int (nI (wSt c)), .int (b2i (∃ j, j < tl c ∧ msP c j)), .int x11, v12, v13] [] M Q := fun e x11 v12 v13 => by
    refine K M x11 (hm.congr (fun j hj => ?_)) v12 v13
    by_cases hj2 : j < tl c ∧ msP c j
    · rw [v1_in hj2]
      unfold v1E
      rw [cI_t hj2, stN_e hB e.symm hk hj2.1 hj2.2]
      congr 2
      by_cases z : k < j
      · rw [if_pos z, cI_t z]
      · rw [if_neg z, cI_f z]
    · rw [v1_out hj2]
      unfold v1E
      rw [cI_f hj2]
  have eQ : (r * stM c + (stM c - msC c (k + 1))) = stA c q → q - (r * stM c + (stM c - msC c (k + 1))) * wSt c = q - stA c q * wSt c := fun e => by rw [e]
  have wrap : k = 0 → msC c (k + 1) = msC c 1 := fun e => by rw [e]
  have hsm : (r + 1) * stM c = r * stM c + stM c := Nat.succ_mul _ _
  refine E_iload dL_filled_68 rfl ?_
  refine E_if_eq_b (tgt := 132) dL_filled_70 (by decide) (fun c_70 => ?_) (fun c_70 => ?_)
  · first
      | exact absurd hany c_70
      | (exfalso; omega)
      | (have e : (r * stM c + (stM c - msC c (k + 1))) = stA c q := by
           rcases Nat.lt_or_ge (r * stM c + (stM c - msC c (k + 1))) (stA c q) with z | z
           · have := hup.mp z
             omega
           · omega
         rw [eQ e]
         exact hex e _ _ _)
  · refine E_iload dL_filled_73 rfl ?_
    refine E_if_le_n (tgt := 132) dL_filled_75 (by decide) (by omega) (fun c_75 => ?_) (fun c_75 => ?_)
    · first
        | exact absurd hany c_70
        | (exfalso; omega)
        | (have e : (r * stM c + (stM c - msC c (k + 1))) = stA c q := by
             rcases Nat.lt_or_ge (r * stM c + (stM c - msC c (k + 1))) (stA c q) with z | z
             · have := hup.mp z
               omega
             · omega
           rw [eQ e]
           exact hex e _ _ _)
    · refine E_iload dL_filled_78 rfl ?_
      refine E_iload dL_filled_80 rfl ?_
      refine E_icmp_lt_n (tgt := 132) dL_filled_82 (by decide) (by omega) (by omega) (fun c_82 => ?_) (fun c_82 => ?_)
      · first
          | exact absurd hany c_70
          | (exfalso; omega)
          | (have e : (r * stM c + (stM c - msC c (k + 1))) = stA c q := by
               rcases Nat.lt_or_ge (r * stM c + (stM c - msC c (k + 1))) (stA c q) with z | z
               · have := hup.mp z
                 omega
               · omega
             rw [eQ e]
             exact hex e _ _ _)
      · have hlt : (r * stM c + (stM c - msC c (k + 1))) + 1 ≤ stA c q := hup.mpr (by omega)
        by_cases hm2 : msP c k
        · have e1 := msC_t hm2
          have hVk : v1 c r k k = nI r := by rw [v1_in ⟨hk, hm2⟩, cI_f (Nat.lt_irrefl k)]; rfl
          refine E_aload dL_filled_85 rfl ?_
          refine E_iload dL_filled_87 rfl ?_
          refine E_ialdL (v := nI 1) dL_filled_89 (hy.1) (hy.2.2.1) rfl (by omega) (by decide) ((hy.2.2.2 k hk).trans (cI_t hm2)) ?_
          refine E_iconst (v := nI 1) dL_filled_90 (by decide) ?_
          refine E_icmp_ne_r (tgt := 110) dL_filled_91 (by decide) (fun c0 => absurd c0 (by decide)) (fun _ => ?_)
          refine E_aload dL_filled_94 rfl ?_
          refine E_iload dL_filled_96 rfl ?_
          refine E_dup2 dL_filled_98 rfl rfl ?_
          refine E_ialdL (v := nI r) dL_filled_99 hm.plt hm.pkd rfl (by omega) (by decide) ((hm.at (by omega)).trans hVk) ?_
          refine E_iconst (v := nI 1) dL_filled_100 (by decide) ?_
          refine E_iadd_n dL_filled_101 ?_
          refine E_setM dL_filled_102 hm rfl (by omega) (fun M hm => ?_)
          have hl := hm.1
          have h := hl.T h0
          have hy := hy0.R hl
          have hL := h.lay
          refine E_iload dL_filled_103 rfl ?_
          refine E_iload dL_filled_105 rfl ?_
          refine E_isub_n dL_filled_107 (by omega) ?_
          refine E_istore dL_filled_108 (Nat.le_of_ble_eq_true rfl) (by decide) rfl ?_
          refine E_iload dL_filled_110 rfl ?_
          refine E_if_ne_n (tgt := 123) dL_filled_112 (by decide) (by omega) (fun c_112 => ?_) (fun c_112 => ?_)
          · refine E_iload dL_filled_123 rfl ?_
            refine E_iconst (v := nI 1) dL_filled_125 (by decide) ?_
            refine E_isub_n dL_filled_126 (by omega) ?_
            refine E_istore dL_filled_127 (Nat.le_of_ble_eq_true rfl) (by decide) rfl ?_
            refine E_goto (tgt := 68) dL_filled_129 (by decide) ?_
            first
              | (obtain rfl : k = 0 := by omega
                 have e3 : msC c (tl c - 1 + 1) = stM c := by rw [Nat.sub_add_cancel (by omega)]; rfl
                 have e4 : msC c 0 = 0 := rfl
                 have e5 : ((r + 1) * stM c + (stM c - msC c ((tl c - 1) + 1))) = (r * stM c + (stM c - msC c (0 + 1))) + 1 := by rw [e3, hsm]; omega
                 have hn := hnx (r + 1) (tl c - 1) M (Or.inr ⟨rfl, by omega, rfl⟩) (by omega) (hm.congr (fun j hj => ?_)) v12 v13
                 · rw [e5, Nat.succ_mul, ← Nat.sub_sub] at hn
                   exact hn
                 · by_cases hj2 : j < tl c ∧ msP c j
                   · rw [v1_in hj2, cI_f (by omega)]
                     by_cases z : j = 0
                     · rw [if_pos z]; try rfl
                     · rw [if_neg z, v1_in hj2, cI_t (by omega)]; try rfl
                   · rw [v1_out hj2]
                     by_cases z : j = 0
                     · exact absurd ⟨by omega, by rw [z]; exact hm2⟩ hj2
                     · rw [if_neg z, v1_out hj2])
              | (obtain ⟨k, rfl⟩ : ∃ z, k = z + 1 := ⟨k - 1, by omega⟩
                 rw [Nat.add_sub_cancel]
                 have e5 : (r * stM c + (stM c - msC c (k + 1))) = (r * stM c + (stM c - msC c (k + 1 + 1))) + 1 := by omega
                 have hn := hnx r k M (Or.inl ⟨rfl, rfl⟩) (by omega) (hm.congr (fun j hj => ?_)) v12 v13
                 · rw [e5, Nat.succ_mul, ← Nat.sub_sub] at hn
                   exact hn
                 · by_cases hj2 : j < tl c ∧ msP c j
                   · rw [v1_in hj2]
                     by_cases z : j = k + 1
                     · rw [if_pos z, cI_t (by omega)]
                     · rw [if_neg z, v1_in hj2]
                       by_cases z2 : k < j
                       · rw [cI_t z2, cI_t (by omega)]
                       · rw [cI_f z2, cI_f (by omega)]
                   · rw [v1_out hj2]
                     by_cases z : j = k + 1
                     · exact absurd ⟨by omega, by rw [z]; exact hm2⟩ hj2
                     · rw [if_neg z, v1_out hj2])
          · refine E_aload_n dL_filled_115 rfl ?_
            refine E_iconst (v := nI 1) dL_filled_116 (by decide) ?_
            refine E_ialdL (v := nI (tl c)) dL_filled_117 (l_132 hL) (k_132 hL) rfl (by omega) (by decide) h.S.b1 ?_
            refine E_iconst (v := nI 1) dL_filled_118 (by decide) ?_
            refine E_isub_n dL_filled_119 (by omega) ?_
            refine E_goto (tgt := 127) dL_filled_120 (by decide) ?_
            refine E_istore dL_filled_127 (Nat.le_of_ble_eq_true rfl) (by decide) rfl ?_
            refine E_goto (tgt := 68) dL_filled_129 (by decide) ?_
            first
              | (obtain rfl : k = 0 := by omega
                 have e3 : msC c (tl c - 1 + 1) = stM c := by rw [Nat.sub_add_cancel (by omega)]; rfl
                 have e4 : msC c 0 = 0 := rfl
                 have e5 : ((r + 1) * stM c + (stM c - msC c ((tl c - 1) + 1))) = (r * stM c + (stM c - msC c (0 + 1))) + 1 := by rw [e3, hsm]; omega
                 have hn := hnx (r + 1) (tl c - 1) M (Or.inr ⟨rfl, by omega, rfl⟩) (by omega) (hm.congr (fun j hj => ?_)) v12 v13
                 · rw [e5, Nat.succ_mul, ← Nat.sub_sub] at hn
                   exact hn
                 · by_cases hj2 : j < tl c ∧ msP c j
                   · rw [v1_in hj2, cI_f (by omega)]
                     by_cases z : j = 0
                     · rw [if_pos z]; try rfl
                     · rw [if_neg z, v1_in hj2, cI_t (by omega)]; try rfl
                   · rw [v1_out hj2]
                     by_cases z : j = 0
                     · exact absurd ⟨by omega, by rw [z]; exact hm2⟩ hj2
                     · rw [if_neg z, v1_out hj2])
              | (obtain ⟨k, rfl⟩ : ∃ z, k = z + 1 := ⟨k - 1, by omega⟩
                 rw [Nat.add_sub_cancel]
                 have e5 : (r * stM c + (stM c - msC c (k + 1))) = (r * stM c + (stM c - msC c (k + 1 + 1))) + 1 := by omega
                 have hn := hnx r k M (Or.inl ⟨rfl, rfl⟩) (by omega) (hm.congr (fun j hj => ?_)) v12 v13
                 · rw [e5, Nat.succ_mul, ← Nat.sub_sub] at hn
                   exact hn
                 · by_cases hj2 : j < tl c ∧ msP c j
                   · rw [v1_in hj2]
                     by_cases z : j = k + 1
                     · rw [if_pos z, cI_t (by omega)]
                     · rw [if_neg z, v1_in hj2]
                       by_cases z2 : k < j
                       · rw [cI_t z2, cI_t (by omega)]
                       · rw [cI_f z2, cI_f (by omega)]
                   · rw [v1_out hj2]
                     by_cases z : j = k + 1
                     · exact absurd ⟨by omega, by rw [z]; exact hm2⟩ hj2
                     · rw [if_neg z, v1_out hj2])
        · have e1 := msC_f hm2
          refine E_aload dL_filled_85 rfl ?_
          refine E_iload dL_filled_87 rfl ?_
          refine E_ialdL (v := nI 0) dL_filled_89 (hy.1) (hy.2.2.1) rfl (by omega) (by decide) ((hy.2.2.2 k hk).trans (cI_f hm2)) ?_
          refine E_iconst (v := nI 1) dL_filled_90 (by decide) ?_
          refine E_icmp_ne (tgt := 110) dL_filled_91 (by decide) (fun _ => ?_) (fun c0 => absurd (by decide) c0)
          refine E_iload dL_filled_110 rfl ?_
          refine E_if_ne_n (tgt := 123) dL_filled_112 (by decide) (by omega) (fun c_112 => ?_) (fun c_112 => ?_)
          · refine E_iload dL_filled_123 rfl ?_
            refine E_iconst (v := nI 1) dL_filled_125 (by decide) ?_
            refine E_isub_n dL_filled_126 (by omega) ?_
            refine E_istore dL_filled_127 (Nat.le_of_ble_eq_true rfl) (by decide) rfl ?_
            refine E_goto (tgt := 68) dL_filled_129 (by decide) ?_
            first
              | (obtain rfl : k = 0 := by omega
                 have e3 : msC c (tl c - 1 + 1) = stM c := by rw [Nat.sub_add_cancel (by omega)]; rfl
                 have e4 : msC c 0 = 0 := rfl
                 have e5 : ((r + 1) * stM c + (stM c - msC c ((tl c - 1) + 1))) = r * stM c + (stM c - msC c (0 + 1)) := by rw [e3, hsm]; omega
                 have hn := hnx (r + 1) (tl c - 1) M (Or.inr ⟨rfl, by omega, rfl⟩) (by omega) (hm.congr (fun j hj => ?_)) v12 v13
                 · rw [e5] at hn
                   exact hn
                 · by_cases hj2 : j < tl c ∧ msP c j
                   · have z : ¬ j = 0 := fun z => hm2 (by rw [← z]; exact hj2.2)
                     rw [v1_in hj2, v1_in hj2, cI_f (by omega), cI_t (by omega)]; try rfl
                   · rw [v1_out hj2, v1_out hj2])
              | (obtain ⟨k, rfl⟩ : ∃ z, k = z + 1 := ⟨k - 1, by omega⟩
                 rw [Nat.add_sub_cancel]
                 have e5 : (r * stM c + (stM c - msC c (k + 1))) = r * stM c + (stM c - msC c (k + 1 + 1)) := by omega
                 have hn := hnx r k M (Or.inl ⟨rfl, rfl⟩) (by omega) (hm.congr (fun j hj => ?_)) v12 v13
                 · rw [e5] at hn
                   exact hn
                 · by_cases hj2 : j < tl c ∧ msP c j
                   · have z : ¬ j = k + 1 := fun z => hm2 (by rw [← z]; exact hj2.2)
                     rw [v1_in hj2, v1_in hj2]
                     by_cases z2 : k < j
                     · rw [cI_t z2, cI_t (by omega)]
                     · rw [cI_f z2, cI_f (by omega)]
                   · rw [v1_out hj2, v1_out hj2])
          · refine E_aload_n dL_filled_115 rfl ?_
            refine E_iconst (v := nI 1) dL_filled_116 (by decide) ?_
            refine E_ialdL (v := nI (tl c)) dL_filled_117 (l_132 hL) (k_132 hL) rfl (by omega) (by decide) h.S.b1 ?_
            refine E_iconst (v := nI 1) dL_filled_118 (by decide) ?_
            refine E_isub_n dL_filled_119 (by omega) ?_
            refine E_goto (tgt := 127) dL_filled_120 (by decide) ?_
            refine E_istore dL_filled_127 (Nat.le_of_ble_eq_true rfl) (by decide) rfl ?_
            refine E_goto (tgt := 68) dL_filled_129 (by decide) ?_
            first
              | (obtain rfl : k = 0 := by omega
                 have e3 : msC c (tl c - 1 + 1) = stM c := by rw [Nat.sub_add_cancel (by omega)]; rfl
                 have e4 : msC c 0 = 0 := rfl
                 have e5 : ((r + 1) * stM c + (stM c - msC c ((tl c - 1) + 1))) = r * stM c + (stM c - msC c (0 + 1)) := by rw [e3, hsm]; omega
                 have hn := hnx (r + 1) (tl c - 1) M (Or.inr ⟨rfl, by omega, rfl⟩) (by omega) (hm.congr (fun j hj => ?_)) v12 v13
                 · rw [e5] at hn
                   exact hn
                 · by_cases hj2 : j < tl c ∧ msP c j
                   · have z : ¬ j = 0 := fun z => hm2 (by rw [← z]; exact hj2.2)
                     rw [v1_in hj2, v1_in hj2, cI_f (by omega), cI_t (by omega)]; try rfl
                   · rw [v1_out hj2, v1_out hj2])
              | (obtain ⟨k, rfl⟩ : ∃ z, k = z + 1 := ⟨k - 1, by omega⟩
                 rw [Nat.add_sub_cancel]
                 have e5 : (r * stM c + (stM c - msC c (k + 1))) = r * stM c + (stM c - msC c (k + 1 + 1)) := by omega
                 have hn := hnx r k M (Or.inl ⟨rfl, rfl⟩) (by omega) (hm.congr (fun j hj => ?_)) v12 v13
                 · rw [e5] at hn
                   exact hn
                 · by_cases hj2 : j < tl c ∧ msP c j
                   · have z : ¬ j = k + 1 := fun z => hm2 (by rw [← z]; exact hj2.2)
                     rw [v1_in hj2, v1_in hj2]
                     by_cases z2 : k < j
                     · rw [cI_t z2, cI_t (by omega)]
                     · rw [cI_f z2, cI_f (by omega)]
                   · rw [v1_out hj2, v1_out hj2])
set_option maxRecDepth 100000 in
set_option maxHeartbeats 4000000 in
theorem lp1_L_filled {g : gG} {Q : Option Value ⊕ String → gM → Prop} {c : Cf} {ps pm kk nn : Nat} {w ms : Int32} {M0 : gM} (h0 : lT c M0) (hy0 : myS c ps M0) {q : Nat} (hq : q < 2 ^ 30) (hB : 0 < stM c) (hs : 0 < wSt c) (K : ∀ M x11, mF pm (v1E c q) M0 M → ∀ v12 v13, E g 10 kk nn mL_filled 132 [.ref 1, .ref 129, .ref 132, .ref 133, .ref (ps + 1), .int w, .int ms, .ref (pm + 1), .int (nI (q - stA c q * wSt c)), .int (nI (wSt c)), .int (b2i (∃ j, j < tl c ∧ msP c j)), .int x11, v12, v13] [] M Q) : ∀ t r, stA c q ≤ r + t → ∀ k, k < tl c → (r * stM c + (stM c - msC c (k + 1))) ≤ stA c q → ∀ M, mF pm (v1 c r k) M0 M → ∀ v12 v13, E g 10 kk nn mL_filled 68 [.ref 1, .ref 129, .ref 132, .ref 133, .ref (ps + 1), .int w, .int ms, .ref (pm + 1), .int (nI (q - (r * stM c + (stM c - msC c (k + 1))) * wSt c)), .int (nI (wSt c)), .int (b2i (∃ j, j < tl c ∧ msP c j)), .int (nI k), v12, v13] [] M Q := by
  intro t
  induction t with
  | zero =>
    intro r ht k
    induction k with
    | zero =>
      intro hk hp M hm
      refine st1_L_filled h0 hy0 hq hB hs hk hp hm K (fun r' k' M' hc hp' hm2 => ?_)
      rcases hc with ⟨z, -⟩ | ⟨-, z1, z2⟩
      · omega
      · exfalso
        subst z2
        have h1 : r + 1 ≤ (r + 1) * stM c := Nat.le_mul_of_pos_right _ hB
        omega
    | succ k ihk =>
      intro hk hp M hm
      refine st1_L_filled h0 hy0 hq hB hs hk hp hm K (fun r' k' M' hc hp' hm2 => ?_)
      rcases hc with ⟨z, z2⟩ | ⟨z, -⟩
      · obtain rfl : k' = k := by omega
        subst z2
        exact ihk (by omega) hp' M' hm2
      · omega
  | succ t iht =>
    intro r ht k
    induction k with
    | zero =>
      intro hk hp M hm
      refine st1_L_filled h0 hy0 hq hB hs hk hp hm K (fun r' k' M' hc hp' hm2 => ?_)
      rcases hc with ⟨z, -⟩ | ⟨-, z1, z2⟩
      · omega
      · subst z2
        exact iht (r + 1) (by omega) k' (by omega) hp' M' hm2
    | succ k ihk =>
      intro hk hp M hm
      refine st1_L_filled h0 hy0 hq hB hs hk hp hm K (fun r' k' M' hc hp' hm2 => ?_)
      rcases hc with ⟨z, z2⟩ | ⟨z, -⟩
      · obtain rfl : k' = k := by omega
        subst z2
        exact ihk (by omega) hp' M' hm2
      · omega
set_option maxRecDepth 100000 in
set_option maxHeartbeats 4000000 in
theorem p1A_L_filled {g : gG} {M : gM} {Q : Option Value ⊕ String → gM → Prop} {c : Cf} {ps pm kk nn : Nat} {w ms : Int32} {M0 : gM} (h0 : lT c M0) (hy0 : myS c ps M0) (hn : ms < 0) (hm : mF pm (fun _ => nI 0) M0 M) (K : ∀ M x11, mF pm (fun _ => nI 0) M0 M → ∀ v12 v13, E g 10 kk nn mL_filled 132 [.ref 1, .ref 129, .ref 132, .ref 133, .ref (ps + 1), .int w, .int ms, .ref (pm + 1), .int (ms), .int (nI (wSt c)), .int (b2i (∃ j, j < tl c ∧ msP c j)), .int x11, v12, v13] [] M Q) : ∀ x11 v12 v13, E g 10 kk nn mL_filled 61 [.ref 1, .ref 129, .ref 132, .ref 133, .ref (ps + 1), .int w, .int ms, .ref (pm + 1), .int ms, .int (nI (wSt c)), .int (b2i (∃ j, j < tl c ∧ msP c j)), .int x11, v12, v13] [] M Q := by
  intro x11 v12 v13
  have h := h0
  have hy := hy0
  have hl := hm.1
  have h := hl.T h0
  have hy := hy0.R hl
  have hL := h.lay
  have h10 := h.t10
  have ht10 := h.S.t10
  have hw100 : wSt c ≤ 100 := (pEf_b h.wf 0 20).2.2
  have hlt : ms < nI (wSt c) := by
    rw [Int32.lt_iff_toInt_lt] at hn ⊢
    rw [nI_toInt (by omega)]
    rw [show (0 : Int32).toInt = 0 by decide] at hn
    omega
  refine E_aload_n dL_filled_61 rfl ?_
  refine E_iconst (v := nI 1) dL_filled_62 (by decide) ?_
  refine E_ialdL (v := nI (tl c)) dL_filled_63 (l_132 hL) (k_132 hL) rfl (by omega) (by decide) h.S.b1 ?_
  refine E_iconst (v := nI 1) dL_filled_64 (by decide) ?_
  refine E_isub_d dL_filled_65 ?_
  refine E_istore dL_filled_66 (Nat.le_of_ble_eq_true rfl) (by decide) rfl ?_
  refine E_iload dL_filled_68 rfl ?_
  refine E_if_eq_b (tgt := 132) dL_filled_70 (by decide) (fun c_70 => ?_) (fun c_70 => ?_)
  · exact K M _ hm _ _
  · refine E_iload dL_filled_73 rfl ?_
    refine E_if_le_n (tgt := 132) dL_filled_75 (by decide) (by omega) (fun c_75 => ?_) (fun c_75 => ?_)
    · exact K M _ hm _ _
    · refine E_iload dL_filled_78 rfl ?_
      refine E_iload dL_filled_80 rfl ?_
      refine E_icmp_lt (tgt := 132) dL_filled_82 (by decide) (fun c_82 => ?_) (fun c_82 => ?_)
      · exact K M _ hm _ _
      · exact absurd hlt c_82
set_option maxRecDepth 100000 in
set_option maxHeartbeats 4000000 in
theorem p1B_L_filled {g : gG} {M : gM} {Q : Option Value ⊕ String → gM → Prop} {c : Cf} {ps pm kk nn : Nat} {w ms : Int32} {M0 : gM} (h0 : lT c M0) (hy0 : myS c ps M0) {q : Nat} (hq : q < 2 ^ 30) (hm : mF pm (fun _ => nI 0) M0 M) (K : ∀ M x11, mF pm (v1E c q) M0 M → ∀ v12 v13, E g 10 kk nn mL_filled 132 [.ref 1, .ref 129, .ref 132, .ref 133, .ref (ps + 1), .int w, .int ms, .ref (pm + 1), .int (nI (stL c q)), .int (nI (wSt c)), .int (b2i (∃ j, j < tl c ∧ msP c j)), .int x11, v12, v13] [] M Q) : ∀ x11 v12 v13, E g 10 kk nn mL_filled 61 [.ref 1, .ref 129, .ref 132, .ref 133, .ref (ps + 1), .int w, .int ms, .ref (pm + 1), .int (nI q), .int (nI (wSt c)), .int (b2i (∃ j, j < tl c ∧ msP c j)), .int x11, v12, v13] [] M Q := by
  intro x11 v12 v13
  have h := h0
  have hy := hy0
  have hl := hm.1
  have h := hl.T h0
  have hy := hy0.R hl
  have hL := h.lay
  have h10 := h.t10
  have ht10 := h.S.t10
  have hw100 : wSt c ≤ 100 := (pEf_b h.wf 0 20).2.2
  by_cases hB : 0 < stM c
  · have hL2 : stL c q = q - stA c q * wSt c := cI_f (by omega)
    have ht0 : 0 < tl c := by obtain ⟨j, h1, -⟩ := (msC_p (tl c)).mp hB; omega
    rw [hL2] at K
    by_cases hs : 0 < wSt c
    · have e1 : msC c (tl c - 1 + 1) = stM c := by rw [Nat.sub_add_cancel ht0]; rfl
      have z := lp1_L_filled (w := w) (ms := ms) (g := g) (Q := Q) (kk := kk) (nn := nn) h0 hy0 hq hB hs K (stA c q) 0 (by omega) (tl c - 1) (by omega) (by rw [e1]; omega) M (hm.congr (fun j _ => by
        unfold v1
        by_cases z : j < tl c ∧ msP c j
        · rw [cI_t z, cI_f (by omega)]
        · rw [cI_f z]))
      rw [e1, Nat.zero_mul, Nat.sub_self, Nat.zero_add, Nat.zero_mul, Nat.sub_zero] at z
      refine E_aload_n dL_filled_61 rfl ?_
      refine E_iconst (v := nI 1) dL_filled_62 (by decide) ?_
      refine E_ialdL (v := nI (tl c)) dL_filled_63 (l_132 hL) (k_132 hL) rfl (by omega) (by decide) h.S.b1 ?_
      refine E_iconst (v := nI 1) dL_filled_64 (by decide) ?_
      refine E_isub_n dL_filled_65 (by omega) ?_
      refine E_istore dL_filled_66 (Nat.le_of_ble_eq_true rfl) (by decide) rfl ?_
      exact z _ _
    · have e1 : wSt c = 0 := by omega
      have e2 : stA c q = 0 := cI_t e1
      have hm2 : mF pm (v1E c q) M0 M := hm.congr (fun j _ => by
        unfold v1E stN
        rw [e2]
        by_cases z : j < tl c ∧ msP c j
        · rw [cI_t z, Nat.zero_div, Nat.zero_mod, cI_f (by omega)]
        · rw [cI_f z])
      rw [e2, Nat.zero_mul, Nat.sub_zero] at K
      refine E_aload_n dL_filled_61 rfl ?_
      refine E_iconst (v := nI 1) dL_filled_62 (by decide) ?_
      refine E_ialdL (v := nI (tl c)) dL_filled_63 (l_132 hL) (k_132 hL) rfl (by omega) (by decide) h.S.b1 ?_
      refine E_iconst (v := nI 1) dL_filled_64 (by decide) ?_
      refine E_isub_n dL_filled_65 (by omega) ?_
      refine E_istore dL_filled_66 (Nat.le_of_ble_eq_true rfl) (by decide) rfl ?_
      refine E_iload dL_filled_68 rfl ?_
      refine E_if_eq_b (tgt := 132) dL_filled_70 (by decide) (fun c_70 => ?_) (fun c_70 => ?_)
      · exact K M _ hm2 _ _
      · refine E_iload dL_filled_73 rfl ?_
        refine E_if_le_n (tgt := 132) dL_filled_75 (by decide) (by omega) (fun c_75 => ?_) (fun c_75 => ?_)
        · exact K M _ hm2 _ _
        · refine E_iload dL_filled_78 rfl ?_
          refine E_iload dL_filled_80 rfl ?_
          refine E_icmp_lt_n (tgt := 132) dL_filled_82 (by decide) (by omega) (by omega) (fun c_82 => ?_) (fun c_82 => ?_)
          · exact K M _ hm2 _ _
          · exfalso; omega
  · have hL2 : stL c q = q := cI_t (by omega)
    have hno : ¬ ∃ j, j < tl c ∧ msP c j := fun z => hB ((msC_p (tl c)).mpr z)
    have hm2 : mF pm (v1E c q) M0 M := hm.congr (fun j _ => by
      unfold v1E
      rw [cI_f (fun z => hno ⟨j, z⟩)])
    rw [hL2] at K
    refine E_aload_n dL_filled_61 rfl ?_
    refine E_iconst (v := nI 1) dL_filled_62 (by decide) ?_
    refine E_ialdL (v := nI (tl c)) dL_filled_63 (l_132 hL) (k_132 hL) rfl (by omega) (by decide) h.S.b1 ?_
    refine E_iconst (v := nI 1) dL_filled_64 (by decide) ?_
    refine E_isub_d dL_filled_65 ?_
    refine E_istore dL_filled_66 (Nat.le_of_ble_eq_true rfl) (by decide) rfl ?_
    refine E_iload dL_filled_68 rfl ?_
    refine E_if_eq_b (tgt := 132) dL_filled_70 (by decide) (fun c_70 => ?_) (fun c_70 => ?_)
    · exact K M _ hm2 _ _
    · refine E_iload dL_filled_73 rfl ?_
      refine E_if_le_n (tgt := 132) dL_filled_75 (by decide) (by omega) (fun c_75 => ?_) (fun c_75 => ?_)
      · exact K M _ hm2 _ _
      · refine E_iload dL_filled_78 rfl ?_
        refine E_iload dL_filled_80 rfl ?_
        refine E_icmp_lt_n (tgt := 132) dL_filled_82 (by decide) (by omega) (by omega) (fun c_82 => ?_) (fun c_82 => ?_)
        · exact K M _ hm2 _ _
        · exact absurd c_70 hno
