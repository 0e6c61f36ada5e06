/-! the law: breaks that are safe -/
theorem gz_part {c : Cf} {a b p G0 P : Nat} {M : gM} (h : shG c a b p G0 (nr c a b) M) (h64 : G0 + gS c a b (nr c a b) ≤ 64) (hP : P < gS c a b (nr c a b)) : gzP M p (G0 + P) (fun q => pgx c a b G0 q P) := by
  obtain ⟨h1, h2, h3⟩ := jx_b hP
  have e : gS c a b (jx c a b P + 1) = gS c a b (jx c a b P) + (rL c a b (jx c a b P)).length := rfl
  obtain ⟨⟨g1, g2⟩, g3⟩ := h (jx c a b P) h1
  have hm := gS_m (c := c) (a := a) (b := b) (nr c a b) h1
  have := gzP_of g3 g1 g2 (j := P - gS c a b (jx c a b P)) (by omega) (by omega)
  rw [show G0 + gS c a b (jx c a b P) + (P - gS c a b (jx c a b P)) = G0 + P by omega] at this
  exact this
def nW6 (M : gM) : gM := mNew (mNew (mNew (mNew (mNew (mNew M (13, 64)) (13, 64)) (13, 64)) (13, 64)) (13, 64)) (13, 62)
theorem nW6_R {S : Nat → Nat → Prop} {M : gM} : lR S M (nW6 M) := lR.refl.new.new.new.new.new.new
theorem nW6_P {M : gM} (h : 139 ≤ mN M) : oP (mN M) (nW6 M) := by
  have hN : mN (nW6 M) = mN M + 6 := rfl
  refine ⟨by omega, by omega, fun q hq => ?_, ?_⟩
  · rcases (show q = 0 ∨ q = 1 ∨ q = 2 ∨ q = 3 ∨ q = 4 by omega) with rfl | rfl | rfl | rfl | rfl
    · unfold nW6; rw [mK_new, if_neg (by rw [mN_new, mN_new, mN_new, mN_new, mN_new]; omega), mK_new, if_neg (by rw [mN_new, mN_new, mN_new, mN_new]; omega), mK_new, if_neg (by rw [mN_new, mN_new, mN_new]; omega), mK_new, if_neg (by rw [mN_new, mN_new]; omega), mK_new, if_neg (by rw [mN_new]; omega), mK_new, if_pos (by rw [Nat.add_zero])]
    · unfold nW6; rw [mK_new, if_neg (by rw [mN_new, mN_new, mN_new, mN_new, mN_new]; omega), mK_new, if_neg (by rw [mN_new, mN_new, mN_new, mN_new]; omega), mK_new, if_neg (by rw [mN_new, mN_new, mN_new]; omega), mK_new, if_neg (by rw [mN_new, mN_new]; omega), mK_new, if_pos (by rw [mN_new])]
    · unfold nW6; rw [mK_new, if_neg (by rw [mN_new, mN_new, mN_new, mN_new, mN_new]; omega), mK_new, if_neg (by rw [mN_new, mN_new, mN_new, mN_new]; omega), mK_new, if_neg (by rw [mN_new, mN_new, mN_new]; omega), mK_new, if_pos (by rw [mN_new, mN_new])]
    · unfold nW6; rw [mK_new, if_neg (by rw [mN_new, mN_new, mN_new, mN_new, mN_new]; omega), mK_new, if_neg (by rw [mN_new, mN_new, mN_new, mN_new]; omega), mK_new, if_pos (by rw [mN_new, mN_new, mN_new])]
    · unfold nW6; rw [mK_new, if_neg (by rw [mN_new, mN_new, mN_new, mN_new, mN_new]; omega), mK_new, if_pos (by rw [mN_new, mN_new, mN_new, mN_new])]
  · unfold nW6; rw [mK_new, if_pos (by rw [mN_new, mN_new, mN_new, mN_new, mN_new])]
theorem oP_133 {M : gM} (h : gLay M) : oP 133 M := ⟨Nat.le_refl _, h.lt (by decide), fun q hq => by
  rcases (show q = 0 ∨ q = 1 ∨ q = 2 ∨ q = 3 ∨ q = 4 by omega) with rfl | rfl | rfl | rfl | rfl
  · exact k_133 h
  · exact k_134 h
  · exact k_135 h
  · exact k_136 h
  · exact k_137 h, k_138 h⟩
theorem zS.w132 {c : Cf} {M : gM} (h : zS c M) {j : Nat} {v : Int32} (hj : 5 ≤ j) : zS c (sI M 132 j v) := h.mvG (h.lay.of (Nat.le_refl _) (fun _ _ => rfl) (fun _ _ => rfl)) (fun a i q1 q2 q3 => by rw [mI_sI, if_neg (by omega)]) (fun _ => rfl)
def eqs (c : Cf) (cut k : Nat) : Prop := ng c = sfN c cut ∧ ∀ P, P < k → sfP c cut P
theorem eqs_e {c : Cf} {cut : Nat} : eqs c cut (ng c) ↔ sfe c cut := ⟨fun h => ⟨h.1.symm, h.2⟩, fun h => ⟨h.1.symm, h.2⟩⟩
set_option maxRecDepth 100000 in
set_option maxHeartbeats 4000000 in
theorem sa_L_isTold {g : gG} {M : gM} {Q : Option Value ⊕ String → gM → Prop} (hst : (gl1 g).stackTraces = false) {c : Cf} {P : Nat → Nat} {lk : Int64} {cc : Int32} {p cut : Nat} {π : Nat → Nat} (hS : kS c P π M) (h : zS c M) (h10 : mI M 132 10 = nI 0) (hc1 : 1 ≤ cut) (hc2 : cut < tl c) (K : ∀ M1 π1, kS c P π1 M1 → zS c M1 → (mI M1 132 10 = nI 0 ∨ mI M1 132 10 = nI 1) → Q (.inl (some (.int (nI 1)))) M1) : ∀ v24, E g 12 2 12 mL_isTold 605 [.ref 1, .int cc, .ref 129, .ref 130, .ref 131, .ref 132, .ref 133, .long lk, .null, .ref 134, .ref 135, .ref 136, .ref 137, .ref 138, .ref 139, .int (nI cut), .ref (p + 0 + 1), .ref (p + 1 + 1), .ref (p + 2 + 1), .ref (p + 3 + 1), .ref (p + 4 + 1), .ref (p + 5 + 1), .int (nI (ng c)), .int (b2i (sfe c cut)), v24] [] M Q := by
  intro v24
  have hL := h.lay
  have ht10 := h.t10
  have h139 : 139 ≤ mN M := hL.1
  refine E_aload_n dL_isTold_605 rfl ?_
  refine E_iload dL_isTold_606 rfl ?_
  refine E_callT2 (fr' := 9) (k1 := 1) (n1 := 6) (k2 := 1) (n2 := 6) dL_isTold_608 kO_L_isSafe kL_L_274 (by exact Nat.le_of_ble_eq_true rfl) (by decide) (by exact Nat.le_of_ble_eq_true rfl) (Or.inr (gW_at 1210 (by decide +kernel) (by decide +kernel))) rfl ?_
  refine w_isSafe hst hS (fun j hj hj2 e M1 π1 hS1 hkd => ?_) (fun z1 _ _ _ _ => absurd ((iIn1 (by omega)).mpr ⟨cut, hc1, hc2, rfl⟩) z1)
  obtain rfl : cut = j := (nI_eq (by omega) (by omega)).mp e
  have hS := hS1
  have hL := hS1.1.lay
  have h := h.mvG hL (fun a j q q2 _ => (hkd.2.2 a j q (by omega)).1) (fun j => (hkd.2.2 130 j (by decide) (by omega)).2.1)
  have h10 := ((hkd.2.2 132 10 (by decide) (by omega)).1).trans h10
  have h139 : 139 ≤ mN M1 := hL.1
  refine gKv ?_
  refine E_iload dL_isTold_611 rfl ?_
  refine E_if_eq_b (tgt := 620) dL_isTold_613 (by decide) (fun c_613 => ?_) (fun c_613 => ?_)
  · refine E_iconst (v := nI 0) dL_isTold_620 (by decide) ?_
    refine E_icmp_ne_r (tgt := 642) dL_isTold_621 (by decide) (fun c_621 => ?_) (fun c_621 => ?_)
    · exfalso
      first
        | exact c_621 (b2i_t c_613)
        | exact c_621 (b2i_f c_613)
    · refine E_aload_n dL_isTold_624 rfl ?_
      refine E_aload dL_isTold_625 rfl ?_
      refine E_iconst (v := nI 1) dL_isTold_627 (by decide) ?_
      refine E_ialdL (v := nI (tl c)) dL_isTold_628 (l_132 hL) (k_132 hL) rfl (by omega) (by decide) h.b1 ?_
      refine E_callT2 (fr' := 9) (k1 := 1) (n1 := 6) (k2 := 0) (n2 := 0) dL_isTold_629 kO_L_isSafe kL_L_274 (by exact Nat.le_of_ble_eq_true rfl) (by decide) (by exact Nat.le_of_ble_eq_true rfl) (Or.inr (gW_at 1210 (by decide +kernel) (by decide +kernel))) rfl ?_
      refine w_isSafe hst hS (fun j hj hj2 e _ _ _ _ => absurd ((nI_eq (by omega) (by omega)).mp e) (by omega)) (fun z1 M1 π1 hS1 hkd => ?_)
      have hS := hS1
      have hL := hS1.1.lay
      have h := h.mvG hL (fun a j q q2 _ => (hkd.2.2 a j q (by omega)).1) (fun j => (hkd.2.2 130 j (by decide) (by omega)).2.1)
      have h10 := ((hkd.2.2 132 10 (by decide) (by omega)).1).trans h10
      refine gKv ?_
      refine E_sipush (v := -7100) dL_isTold_632 (by decide) ?_
      refine E_icmp_ne_r (tgt := 642) dL_isTold_635 (by decide) (fun c0 => absurd c0 (by decide)) (fun _ => ?_)
      refine E_iconst (v := nI 1) dL_isTold_638 (by decide) ?_
      refine E_goto (tgt := 643) dL_isTold_639 (by decide) ?_
      refine E_iret dL_isTold_643 (Or.inr ⟨rfl, by decide⟩) ?_
      exact K _ _ hS h (Or.inl h10)
  · refine E_iconst (v := nI 1) dL_isTold_616 (by decide) ?_
    refine E_goto (tgt := 621) dL_isTold_617 (by decide) ?_
    refine E_icmp_ne_r (tgt := 642) dL_isTold_621 (by decide) (fun c_621 => ?_) (fun c_621 => ?_)
    · exfalso
      first
        | exact c_621 (b2i_t c_613)
        | exact c_621 (b2i_f c_613)
    · refine E_aload_n dL_isTold_624 rfl ?_
      refine E_aload dL_isTold_625 rfl ?_
      refine E_iconst (v := nI 1) dL_isTold_627 (by decide) ?_
      refine E_ialdL (v := nI (tl c)) dL_isTold_628 (l_132 hL) (k_132 hL) rfl (by omega) (by decide) h.b1 ?_
      refine E_callT2 (fr' := 9) (k1 := 1) (n1 := 6) (k2 := 0) (n2 := 0) dL_isTold_629 kO_L_isSafe kL_L_274 (by exact Nat.le_of_ble_eq_true rfl) (by decide) (by exact Nat.le_of_ble_eq_true rfl) (Or.inr (gW_at 1210 (by decide +kernel) (by decide +kernel))) rfl ?_
      refine w_isSafe hst hS (fun j hj hj2 e _ _ _ _ => absurd ((nI_eq (by omega) (by omega)).mp e) (by omega)) (fun z1 M1 π1 hS1 hkd => ?_)
      have hS := hS1
      have hL := hS1.1.lay
      have h := h.mvG hL (fun a j q q2 _ => (hkd.2.2 a j q (by omega)).1) (fun j => (hkd.2.2 130 j (by decide) (by omega)).2.1)
      have h10 := ((hkd.2.2 132 10 (by decide) (by omega)).1).trans h10
      refine gKv ?_
      refine E_sipush (v := -7100) dL_isTold_632 (by decide) ?_
      refine E_icmp_ne_r (tgt := 642) dL_isTold_635 (by decide) (fun c0 => absurd c0 (by decide)) (fun _ => ?_)
      refine E_iconst (v := nI 1) dL_isTold_638 (by decide) ?_
      refine E_goto (tgt := 643) dL_isTold_639 (by decide) ?_
      refine E_iret dL_isTold_643 (Or.inr ⟨rfl, by decide⟩) ?_
      exact K _ _ hS h (Or.inl h10)
set_option maxRecDepth 100000 in
set_option maxHeartbeats 4000000 in
theorem lq_L_isTold {g : gG} {M : gM} {Q : Option Value ⊕ String → gM → Prop} (hst : (gl1 g).stackTraces = false) {c : Cf} {P : Nat → Nat} {lk : Int64} {cc : Int32} {p cut : Nat} {π : Nat → Nat} (hS : kS c P π M) (h : zS c M) (h10 : mI M 132 10 = nI 0) (hc1 : 1 ≤ cut) (hc2 : cut < tl c) (h64 : ng c ≤ 64) (hP : oP p M) (c1 : ∀ P, P < ng c → gzP M 133 P (fun q => pgv c q P)) (c2 : ng c = sfN c cut → ∀ P, P < ng c → gzP M p P (fun q => sfV c cut q P)) (K : ∀ M1 π1, kS c P π1 M1 → zS c M1 → (mI M1 132 10 = nI 0 ∨ mI M1 132 10 = nI 1) → Q (.inl (some (.int (nI 1)))) M1) : ∀ k, k ≤ ng c → 0 ≤ k → E g 12 2 12 mL_isTold 528 [.ref 1, .int cc, .ref 129, .ref 130, .ref 131, .ref 132, .ref 133, .long lk, .null, .ref 134, .ref 135, .ref 136, .ref 137, .ref 138, .ref 139, .int (nI cut), .ref (p + 0 + 1), .ref (p + 1 + 1), .ref (p + 2 + 1), .ref (p + 3 + 1), .ref (p + 4 + 1), .ref (p + 5 + 1), .int (nI (ng c)), .int (b2i (eqs c cut k)), .int (nI k)] [] M Q := by
  refine lpUp (ng c) (fun k hk ih => ?_)
  intro _
  have hL := h.lay
  have hPl : ∀ {q}, q < 6 → p + q < mN M := fun hq => by have := hP.2.1; omega
  have hPl0 : p < mN M := by have := hP.2.1; omega
  have hPk0 : mK M p = (13, 64) := hP.2.2.1 0 (by decide)
  have hPk : ∀ {q}, q < 5 → mK M (p + q) = (13, 64) := fun hq => hP.2.2.1 _ hq
  have fin : (eqs c cut k ↔ sfe c cut) → E g 12 2 12 mL_isTold 605 [.ref 1, .int cc, .ref 129, .ref 130, .ref 131, .ref 132, .ref 133, .long lk, .null, .ref 134, .ref 135, .ref 136, .ref 137, .ref 138, .ref 139, .int (nI cut), .ref (p + 0 + 1), .ref (p + 1 + 1), .ref (p + 2 + 1), .ref (p + 3 + 1), .ref (p + 4 + 1), .ref (p + 5 + 1), .int (nI (ng c)), .int (b2i (eqs c cut k)), .int (nI k)] [] M Q := fun q => by
    rw [b2i_congr q]
    exact sa_L_isTold hst hS h h10 hc1 hc2 K _
  refine E_iload dL_isTold_528 rfl ?_
  refine E_iload dL_isTold_530 rfl ?_
  refine E_icmp_ge_n (tgt := 605) dL_isTold_532 (by decide) (by omega) (by omega) (fun c_532 => ?_) (fun c_532 => ?_)
  · first
      | (refine fin ⟨fun q => absurd q c_537, fun q => absurd ⟨q.1.symm, fun P hP => q.2 P (by omega)⟩ c_537⟩)
      | (obtain rfl : k = ng c := by omega
         exact fin eqs_e)
  · refine E_iload dL_isTold_535 rfl ?_
    refine E_if_eq_b (tgt := 605) dL_isTold_537 (by decide) (fun c_537 => ?_) (fun c_537 => ?_)
    · first
        | (refine fin ⟨fun q => absurd q c_537, fun q => absurd ⟨q.1.symm, fun P hP => q.2 P (by omega)⟩ c_537⟩)
        | (obtain rfl : k = ng c := by omega
           exact fin eqs_e)
    · have hk2 : k < ng c := by omega
      have he := c_537
      have cc1 := c1 k hk2
      have cc2 := c2 he.1 k hk2
      have hcq := gzP_eq cc1 cc2
      have ih := ih hk2 (Nat.zero_le _)
      have no : ¬ sfP c cut k → E g 12 2 12 mL_isTold 597 [.ref 1, .int cc, .ref 129, .ref 130, .ref 131, .ref 132, .ref 133, .long lk, .null, .ref 134, .ref 135, .ref 136, .ref 137, .ref 138, .ref 139, .int (nI cut), .ref (p + 0 + 1), .ref (p + 1 + 1), .ref (p + 2 + 1), .ref (p + 3 + 1), .ref (p + 4 + 1), .ref (p + 5 + 1), .int (nI (ng c)), .int (b2i (eqs c cut k)), .int (nI k)] [.int (nI 0)] M Q := fun q => by
        rw [b2i_f (fun z => q (z.2 k (by omega)))] at ih
        refine E_istore dL_isTold_597 (Nat.le_of_ble_eq_true rfl) (by decide) rfl ?_
        refine E_iinc_n (d := 1) dL_isTold_599 rfl rfl rfl (by decide) rfl ?_
        refine E_goto (tgt := 528) dL_isTold_602 (by decide) ?_
        exact ih
      have yes : sfP c cut k → E g 12 2 12 mL_isTold 597 [.ref 1, .int cc, .ref 129, .ref 130, .ref 131, .ref 132, .ref 133, .long lk, .null, .ref 134, .ref 135, .ref 136, .ref 137, .ref 138, .ref 139, .int (nI cut), .ref (p + 0 + 1), .ref (p + 1 + 1), .ref (p + 2 + 1), .ref (p + 3 + 1), .ref (p + 4 + 1), .ref (p + 5 + 1), .int (nI (ng c)), .int (b2i (eqs c cut k)), .int (nI k)] [.int (nI 1)] M Q := fun q => by
        rw [b2i_t (P := eqs c cut (k + 1)) ⟨he.1, fun P hP => by by_cases z : P = k; (rw [z]; exact q); exact he.2 P (by omega)⟩] at ih
        refine E_istore dL_isTold_597 (Nat.le_of_ble_eq_true rfl) (by decide) rfl ?_
        refine E_iinc_n (d := 1) dL_isTold_599 rfl rfl rfl (by decide) rfl ?_
        refine E_goto (tgt := 528) dL_isTold_602 (by decide) ?_
        exact ih
      refine E_aload dL_isTold_540 rfl ?_
      refine E_iload dL_isTold_542 rfl ?_
      refine E_ialdL (v := _) dL_isTold_544 (l_133 hL) (k_133 hL) rfl (by omega) (by decide) rfl ?_
      refine E_aload dL_isTold_545 rfl ?_
      refine E_iload dL_isTold_547 rfl ?_
      refine E_ialdL (v := _) dL_isTold_549 hPl0 hPk0 rfl (by omega) (by decide) rfl ?_
      refine E_icmp_ne_r (tgt := 596) dL_isTold_550 (by decide) (fun c_550 => ?_) (fun c_550 => ?_)
      · refine E_iconst (v := nI 0) dL_isTold_596 (by decide) ?_
        first
          | exact yes (hcq.mp ⟨c_550, c_563, c_576, c_589⟩)
          | (refine no (fun q => ?_)
             have z := hcq.mpr q
             first
               | exact c_550 z.1
               | exact c_563 z.2.1
               | exact c_576 z.2.2.1
               | exact c_589 z.2.2.2)
      · refine E_aload dL_isTold_553 rfl ?_
        refine E_iload dL_isTold_555 rfl ?_
        refine E_ialdL (v := _) dL_isTold_557 (l_134 hL) (k_134 hL) rfl (by omega) (by decide) rfl ?_
        refine E_aload dL_isTold_558 rfl ?_
        refine E_iload dL_isTold_560 rfl ?_
        refine E_ialdL (v := _) dL_isTold_562 (hPl (by decide)) (hPk (by decide)) rfl (by omega) (by decide) rfl ?_
        refine E_icmp_ne_r (tgt := 596) dL_isTold_563 (by decide) (fun c_563 => ?_) (fun c_563 => ?_)
        · refine E_iconst (v := nI 0) dL_isTold_596 (by decide) ?_
          first
            | exact yes (hcq.mp ⟨c_550, c_563, c_576, c_589⟩)
            | (refine no (fun q => ?_)
               have z := hcq.mpr q
               first
                 | exact c_550 z.1
                 | exact c_563 z.2.1
                 | exact c_576 z.2.2.1
                 | exact c_589 z.2.2.2)
        · refine E_aload dL_isTold_566 rfl ?_
          refine E_iload dL_isTold_568 rfl ?_
          refine E_ialdL (v := _) dL_isTold_570 (l_135 hL) (k_135 hL) rfl (by omega) (by decide) rfl ?_
          refine E_aload dL_isTold_571 rfl ?_
          refine E_iload dL_isTold_573 rfl ?_
          refine E_ialdL (v := _) dL_isTold_575 (hPl (by decide)) (hPk (by decide)) rfl (by omega) (by decide) rfl ?_
          refine E_icmp_ne_r (tgt := 596) dL_isTold_576 (by decide) (fun c_576 => ?_) (fun c_576 => ?_)
          · refine E_iconst (v := nI 0) dL_isTold_596 (by decide) ?_
            first
              | exact yes (hcq.mp ⟨c_550, c_563, c_576, c_589⟩)
              | (refine no (fun q => ?_)
                 have z := hcq.mpr q
                 first
                   | exact c_550 z.1
                   | exact c_563 z.2.1
                   | exact c_576 z.2.2.1
                   | exact c_589 z.2.2.2)
          · refine E_aload dL_isTold_579 rfl ?_
            refine E_iload dL_isTold_581 rfl ?_
            refine E_ialdL (v := _) dL_isTold_583 (l_137 hL) (k_137 hL) rfl (by omega) (by decide) rfl ?_
            refine E_aload dL_isTold_584 rfl ?_
            refine E_iload dL_isTold_586 rfl ?_
            refine E_ialdL (v := _) dL_isTold_588 (hPl (by decide)) (hPk (by decide)) rfl (by omega) (by decide) rfl ?_
            refine E_icmp_ne_r (tgt := 596) dL_isTold_589 (by decide) (fun c_589 => ?_) (fun c_589 => ?_)
            · refine E_iconst (v := nI 0) dL_isTold_596 (by decide) ?_
              first
                | exact yes (hcq.mp ⟨c_550, c_563, c_576, c_589⟩)
                | (refine no (fun q => ?_)
                   have z := hcq.mpr q
                   first
                     | exact c_550 z.1
                     | exact c_563 z.2.1
                     | exact c_576 z.2.2.1
                     | exact c_589 z.2.2.2)
            · refine E_iconst (v := nI 1) dL_isTold_592 (by decide) ?_
              refine E_goto (tgt := 597) dL_isTold_593 (by decide) ?_
              first
                | exact yes (hcq.mp ⟨c_550, c_563, c_576, c_589⟩)
                | (refine no (fun q => ?_)
                   have z := hcq.mpr q
                   first
                     | exact c_550 z.1
                     | exact c_563 z.2.1
                     | exact c_576 z.2.2.1
                     | exact c_589 z.2.2.2)
set_option maxRecDepth 100000 in
set_option maxHeartbeats 4000000 in
theorem s2_L_isTold {g : gG} {M : gM} {Q : Option Value ⊕ String → gM → Prop} (hst : (gl1 g).stackTraces = false) {c : Cf} {P : Nat → Nat} {lk : Int64} {cc : Int32} {p cut n : Nat} {π : Nat → Nat} (hlk : lkS c lk) (hS : kS c P π M) (h : lT c M) (hC : kC c P n) (hnp : n ≤ p) (h9p : 139 ≤ p) (hP : oP p M) (hc1 : 1 ≤ cut) (hc2 : cut < tl c) (K : ∀ M1 π1, kS c P π1 M1 → zS c M1 → (mI M1 132 10 = nI 0 ∨ mI M1 132 10 = nI 1) → Q (.inl (some (.int (nI 1)))) M1) : E g 12 82 5132 mL_isTold 419 [.ref 1, .int cc, .ref 129, .ref 130, .ref 131, .ref 132, .ref 133, .long lk, .null, .ref 134, .ref 135, .ref 136, .ref 137, .ref 138, .ref 139, .int (nI cut), .ref (p + 0 + 1), .ref (p + 1 + 1), .ref (p + 2 + 1), .ref (p + 3 + 1), .ref (p + 4 + 1), .ref (p + 5 + 1), .null, .null, .null] [] M Q := by
  have hL := h.lay
  have h10 := h.t10
  have h64 := h.n64
  have h139 : 139 ≤ mN M := hL.1
  have hz1 : zS c (sI (sI M 132 8 (nI 0)) 132 9 (nI 0)) := (h.S.w132 (by decide)).w132 (by decide)
  have hP1 : oP p (sI (sI M 132 8 (nI 0)) 132 9 (nI 0)) := hP
  have h81 : mI (sI (sI M 132 8 (nI 0)) 132 9 (nI 0)) 132 8 = nI 0 := (mI_nj (by decide)).trans mI_eq
  have h91 : mI (sI (sI M 132 8 (nI 0)) 132 9 (nI 0)) 132 9 = nI 0 := mI_eq
  have h101 : mI (sI (sI M 132 8 (nI 0)) 132 9 (nI 0)) 132 10 = nI 0 := (mI_nj (by decide)).trans ((mI_nj (by decide)).trans h.a10)
  have hnr1 := nr_b (c := c) (a := 0) (b := cut) (Nat.zero_le _) (by omega)
  have hI1 : ∀ a j, ¬ a = 132 → mI (sI (sI M 132 8 (nI 0)) 132 9 (nI 0)) a j = mI M a j := fun a j q => (mI_ne q).trans (mI_ne q)
  refine E_aload dL_isTold_419 rfl ?_
  refine E_bipush (v := nI 8) dL_isTold_421 (by decide) ?_
  refine E_ialdL (v := nI (ng c)) dL_isTold_423 (l_132 hL) (k_132 hL) rfl (by omega) (by decide) h.a8 ?_
  refine E_istore dL_isTold_424 (Nat.le_of_ble_eq_true rfl) (by decide) rfl ?_
  refine E_aload dL_isTold_426 rfl ?_
  refine E_bipush (v := nI 8) dL_isTold_428 (by decide) ?_
  refine E_iconst (v := nI 0) dL_isTold_430 (by decide) ?_
  refine E_iast dL_isTold_431 (l_132 hL) (k_132 hL) rfl (by omega) (by decide) ?_
  refine E_aload dL_isTold_432 rfl ?_
  refine E_bipush (v := nI 9) dL_isTold_434 (by decide) ?_
  refine E_iconst (v := nI 0) dL_isTold_436 (by decide) ?_
  refine E_iast dL_isTold_437 (l_132 hL) (k_132 hL) rfl (by omega) (by decide) ?_
  have key : ∀ MM, MM = (sI (sI M 132 8 (nI 0)) 132 9 (nI 0)) → E g 12 82 5132 mL_isTold 438 [.ref 1, .int cc, .ref 129, .ref 130, .ref 131, .ref 132, .ref 133, .long lk, .null, .ref 134, .ref 135, .ref 136, .ref 137, .ref 138, .ref 139, .int (nI cut), .ref (p + 0 + 1), .ref (p + 1 + 1), .ref (p + 2 + 1), .ref (p + 3 + 1), .ref (p + 4 + 1), .ref (p + 5 + 1), .int (nI (ng c)), .null, .null] [] MM Q := by
    intro MM eM
    rw [← eM] at hz1 hP1 h81 h91 h101 hI1
    have hL := hz1.lay
    have hN1 : mN MM = mN M := by rw [eM]; rfl
    have hK1 : mK MM = mK M := by rw [eM]; rfl
    have hR1 : mR MM = mR M := by rw [eM]; rfl
    refine E_aload_n dL_isTold_438 rfl ?_
    refine E_aload_n dL_isTold_439 rfl ?_
    refine E_aload dL_isTold_440 rfl ?_
    refine E_aload dL_isTold_442 rfl ?_
    refine E_aload dL_isTold_444 rfl ?_
    refine E_lload dL_isTold_446 rfl ?_
    refine E_iconst (v := nI 0) dL_isTold_448 (by decide) ?_
    refine E_iload dL_isTold_449 rfl ?_
    refine E_aload dL_isTold_451 rfl ?_
    refine E_aload dL_isTold_453 rfl ?_
    refine E_aload dL_isTold_455 rfl ?_
    refine E_aload dL_isTold_457 rfl ?_
    refine E_aload dL_isTold_459 rfl ?_
    refine E_aload dL_isTold_461 rfl ?_
    refine E_callT14 (fr' := 10) (k1 := 40) (n1 := 2560) (k2 := 42) (n2 := 2572) dL_isTold_463 kO_L_shape kL_L_254 (by exact Nat.le_of_ble_eq_true rfl) (by decide) (by exact Nat.le_of_ble_eq_true rfl) (Or.inl rfl) rfl ?_
    refine sp_L_shape hz1 hlk (Nat.zero_le cut) (by omega) hP1 (by omega) h81 (by decide) h91 h101 (fun M2 z1 G1 f1 f2 f3 f4 f5 f6 f7 => ?_)
    have hL := f2.lay
    have hP2 := hP1.mv f1
    refine gKn ?_
    refine E_aload_n dL_isTold_466 rfl ?_
    refine E_aload_n dL_isTold_467 rfl ?_
    refine E_aload dL_isTold_468 rfl ?_
    refine E_aload dL_isTold_470 rfl ?_
    refine E_aload dL_isTold_472 rfl ?_
    refine E_lload dL_isTold_474 rfl ?_
    refine E_iload dL_isTold_476 rfl ?_
    refine E_aload dL_isTold_478 rfl ?_
    refine E_iconst (v := nI 1) dL_isTold_480 (by decide) ?_
    refine E_ialdL (v := nI (tl c)) dL_isTold_481 (l_132 hL) (k_132 hL) rfl (by omega) (by decide) f2.b1 ?_
    refine E_aload dL_isTold_482 rfl ?_
    refine E_aload dL_isTold_484 rfl ?_
    refine E_aload dL_isTold_486 rfl ?_
    refine E_aload dL_isTold_488 rfl ?_
    refine E_aload dL_isTold_490 rfl ?_
    refine E_aload dL_isTold_492 rfl ?_
    refine E_callT14 (fr' := 10) (k1 := 40) (n1 := 2560) (k2 := 2) (n2 := 12) dL_isTold_494 kO_L_shape kL_L_254 (by exact Nat.le_of_ble_eq_true rfl) (by decide) (by exact Nat.le_of_ble_eq_true rfl) (Or.inl rfl) rfl ?_
    refine sp_L_shape f2 hlk (by omega) (Nat.le_refl _) hP2 (by omega) f3 f4 f5 f6 (fun M3 z2 G2 e1 e2 e3 e4 e5 e6 e7 => ?_)
    have hL := e2.lay
    have hP3 := hP2.mv e1
    have hpn := hP.2.1
    have f11 := f1.1
    have e11 := e1.1
    have hin : ∀ a j, a < mN M → ¬ a = 132 → (a < p ∨ p + 5 < a) → mI M3 a j = mI M a j := fun a j q q2 q3 => (e1.2.2.1 a j (by omega) (fun z => by unfold shO at z; omega)).trans ((f1.2.2.1 a j (by omega) (fun z => by unfold shO at z; omega)).trans (hI1 a j q2))
    have hS3 : kS c P π M3 := hS.law hC (by omega) (fun a q => (e1.2.1 a (by omega)).trans ((f1.2.1 a (by omega)).trans (congrFun hK1 a))) (fun a j q q2 => hin a j (by omega) (by omega) (by omega)) (fun a j q => (e1.2.2.2.1 a j (by omega)).trans ((f1.2.2.2.1 a j (by omega)).trans (congrFun (congrFun hR1 a) j)))
    have cc1 : ∀ P, P < ng c → gzP M3 133 P (fun q => pgv c q P) := fun P hP => by
      have z := gz_part (P := P) h.2.2.2.1 (by show 0 + ng c ≤ 64; omega) hP
      rw [Nat.zero_add] at z
      have e : (fun q => pgx c 0 (tl c) 0 q P) = fun q => pgv c q P := funext fun q => pgx_0 c q P
      rw [e] at z
      exact z.mv (fun q hq => hin _ _ (by omega) (by omega) (by omega))
    have ex : ¬ z2 = nI 1 → (z2 = nI 0 ∧ shL c 0 cut p 0 0 G1 M2 ∧ shL c cut (tl c) p G1 (0 + nr c 0 cut) G2 M3) := fun q => by
      rcases e7 with y | ⟨y1, y2⟩
      · exact absurd y q
      · rcases f7 with y | ⟨y3, y4⟩
        · exact absurd (y1.trans y) q
        · exact ⟨y1.trans y3, y4, y2⟩
    have xG : ¬ z2 = nI 1 → G2 = sfN c cut := fun q => by
      obtain ⟨-, y1, y2⟩ := ex q
      rw [y2.1, y1.1, Nat.zero_add]
      rfl
    have cc2 : ¬ z2 = nI 1 → ng c = sfN c cut → ∀ P, P < ng c → gzP M3 p P (fun q => sfV c cut q P) := fun q hn P hPn => by
      obtain ⟨-, y1, y2⟩ := ex q
      have g1 : G1 = gEn c 0 cut := by rw [y1.1, Nat.zero_add]; rfl
      have g2 : G2 = gEn c 0 cut + gEn c cut (tl c) := (xG q).trans rfl
      by_cases z : P < gEn c 0 cut
      · have w := gz_part (P := P) y1.2.2.1 (by have := y1.1; omega) z
        rw [Nat.zero_add] at w
        have e : (fun q => sfV c cut q P) = fun q => pgx c 0 cut 0 q P := funext fun q => cI_t z
        rw [e]
        exact w.mv (fun q hq => e1.2.2.1 _ _ (by have := hP2.2.1; omega) (fun z => by unfold shO at z; omega))
      · have hlt : P - gEn c 0 cut < gS c cut (tl c) (nr c cut (tl c)) := by
          have : sfN c cut = gEn c 0 cut + gS c cut (tl c) (nr c cut (tl c)) := rfl
          omega
        have w := gz_part (P := P - gEn c 0 cut) y2.2.2.1 (by have := y2.1; omega) hlt
        rw [g1, show gEn c 0 cut + (P - gEn c 0 cut) = P by omega] at w
        have e : (fun q => sfV c cut q P) = fun q => pgx c cut (tl c) (gEn c 0 cut) q (P - gEn c 0 cut) := funext fun q => cI_f z
        rw [e]
        exact w
    refine gKn ?_
    refine E_aload dL_isTold_497 rfl ?_
    refine E_bipush (v := nI 10) dL_isTold_499 (by decide) ?_
    refine E_ialdL (v := z2) dL_isTold_501 (l_132 hL) (k_132 hL) rfl (by omega) (by decide) e6 ?_
    refine E_iconst (v := nI 1) dL_isTold_502 (by decide) ?_
    refine E_icmp_ne_r (tgt := 508) dL_isTold_503 (by decide) (fun c_503 => ?_) (fun c_503 => ?_)
    · refine E_iload dL_isTold_508 rfl ?_
      refine E_aload dL_isTold_510 rfl ?_
      refine E_bipush (v := nI 8) dL_isTold_512 (by decide) ?_
      refine E_ialdL (v := nI G2) dL_isTold_514 (l_132 hL) (k_132 hL) rfl (by omega) (by decide) e3 ?_
      refine E_icmp_ne_n (tgt := 522) dL_isTold_515 (by decide) (by omega) (by omega) (fun c_515 => ?_) (fun c_515 => ?_)
      · refine E_iconst (v := nI 0) dL_isTold_522 (by decide) ?_
        refine E_istore dL_isTold_523 (Nat.le_of_ble_eq_true rfl) (by decide) rfl ?_
        refine E_iconst (v := nI 0) dL_isTold_525 (by decide) ?_
        refine E_istore dL_isTold_526 (Nat.le_of_ble_eq_true rfl) (by decide) rfl ?_
        have z := lq_L_isTold (lk := lk) (cc := cc) hst hS3 e2 (e6.trans (ex c_503).1) hc1 hc2 h64 hP3 cc1 (cc2 c_503) K 0 (Nat.zero_le _) (Nat.le_refl _)
        have hxg := xG c_503
        first
          | (rw [b2i_t (P := eqs c cut 0) ⟨by omega, fun P hP => absurd hP (Nat.not_lt_zero P)⟩] at z
             exact z)
          | (rw [b2i_f (P := eqs c cut 0) (fun q => by have := q.1; omega)] at z
             exact z)
      · refine E_iconst (v := nI 1) dL_isTold_518 (by decide) ?_
        refine E_goto (tgt := 523) dL_isTold_519 (by decide) ?_
        refine E_istore dL_isTold_523 (Nat.le_of_ble_eq_true rfl) (by decide) rfl ?_
        refine E_iconst (v := nI 0) dL_isTold_525 (by decide) ?_
        refine E_istore dL_isTold_526 (Nat.le_of_ble_eq_true rfl) (by decide) rfl ?_
        have z := lq_L_isTold (lk := lk) (cc := cc) hst hS3 e2 (e6.trans (ex c_503).1) hc1 hc2 h64 hP3 cc1 (cc2 c_503) K 0 (Nat.zero_le _) (Nat.le_refl _)
        have hxg := xG c_503
        first
          | (rw [b2i_t (P := eqs c cut 0) ⟨by omega, fun P hP => absurd hP (Nat.not_lt_zero P)⟩] at z
             exact z)
          | (rw [b2i_f (P := eqs c cut 0) (fun q => by have := q.1; omega)] at z
             exact z)
    · refine E_iconst (v := nI 1) dL_isTold_506 (by decide) ?_
      refine E_iret dL_isTold_507 (Or.inr ⟨rfl, by decide⟩) ?_
      exact K M3 π hS3 e2 (Or.inr (e6.trans c_503))
  exact key _ rfl
set_option maxRecDepth 100000 in
set_option maxHeartbeats 4000000 in
theorem s3_L_isTold {g : gG} {M : gM} {Q : Option Value ⊕ String → gM → Prop} (hst : (gl1 g).stackTraces = false) {c : Cf} {P : Nat → Nat} {lk : Int64} {cc : Int32} {π : Nat → Nat} (hlk : lkS c lk) (hS : kS c P π M) (h : lT c M) (K : ∀ M1 π1, kS c P π1 M1 → zS c M1 → (mI M1 132 10 = nI 0 ∨ mI M1 132 10 = nI 1) → Q (.inl (some (.int (nI 1)))) M1) : ∀ v15, E g 12 100 5890 mL_isTold 330 [.ref 1, .int cc, .ref 129, .ref 130, .ref 131, .ref 132, .ref 133, .long lk, .null, .ref 134, .ref 135, .ref 136, .ref 137, .ref 138, .ref 139, v15, .null, .null, .null, .null, .null, .null, .null, .null, .null] [] M Q := by
  intro v15
  have hL := h.lay
  have h10 := h.t10
  have h139 : 139 ≤ mN M := hL.1
  have hR := nW6_R (S := lG0) (M := M)
  refine E_aload dL_isTold_330 rfl ?_
  refine E_iconst (v := nI 1) dL_isTold_332 (by decide) ?_
  refine E_ialdL (v := nI (tl c)) dL_isTold_333 (l_132 hL) (k_132 hL) rfl (by omega) (by decide) h.S.b1 ?_
  refine E_iconst (v := nI 2) dL_isTold_334 (by decide) ?_
  refine E_icmp_ge_n (tgt := 366) dL_isTold_335 (by decide) (by omega) (by omega) (fun c_335 => ?_) (fun c_335 => ?_)
  · refine E_iconst (v := nI 1) dL_isTold_366 (by decide) ?_
    refine E_iload_n dL_isTold_367 rfl ?_
    refine E_bipush (v := nI 16) dL_isTold_368 (by decide) ?_
    refine E_ishr dL_isTold_370 ?_
    refine E_aload dL_isTold_371 rfl ?_
    refine E_iconst (v := nI 1) dL_isTold_373 (by decide) ?_
    refine E_ialdL (v := nI (tl c)) dL_isTold_374 (l_132 hL) (k_132 hL) rfl (by omega) (by decide) h.S.b1 ?_
    refine E_iconst (v := nI 1) dL_isTold_375 (by decide) ?_
    refine E_isub_n dL_isTold_376 (by omega) ?_
    refine E_callT2 (fr' := 1) (k1 := 0) (n1 := 0) (k2 := 100) (n2 := 5890) dL_isTold_377 kO_L_low kL_L_229 (by exact Nat.le_of_ble_eq_true rfl) (by decide) (by exact Nat.le_of_ble_eq_true rfl) (Or.inl rfl) rfl ?_
    refine sp_L_low (by omega) (by omega) ?_
    have hlow := lowN_lt (cc >>> (nI 16 &&& 31)) (n := tl c - 1) (by omega)
    generalize lowN (cc >>> (nI 16 &&& 31)) (tl c - 1) = lw at hlow ⊢
    refine gKv ?_
    refine E_iadd_n dL_isTold_380 ?_
    refine E_istore dL_isTold_381 (Nat.le_of_ble_eq_true rfl) (by decide) rfl ?_
    refine E_bipush (v := nI 64) dL_isTold_383 (by decide) ?_
    refine E_newI (len := 64) (k := 99) (n := 5826) dL_isTold_385 (gW_at 92 (by decide +kernel) (by decide +kernel)) rfl (by decide) ?_
    refine E_astore dL_isTold_387 (Nat.le_of_ble_eq_true rfl) (by decide) rfl ?_
    refine E_bipush (v := nI 64) dL_isTold_389 (by decide) ?_
    refine E_newI (len := 64) (k := 98) (n := 5762) dL_isTold_391 (gW_at 92 (by decide +kernel) (by decide +kernel)) rfl (by decide) ?_
    refine E_astore dL_isTold_393 (Nat.le_of_ble_eq_true rfl) (by decide) rfl ?_
    refine E_bipush (v := nI 64) dL_isTold_395 (by decide) ?_
    refine E_newI (len := 64) (k := 97) (n := 5698) dL_isTold_397 (gW_at 92 (by decide +kernel) (by decide +kernel)) rfl (by decide) ?_
    refine E_astore dL_isTold_399 (Nat.le_of_ble_eq_true rfl) (by decide) rfl ?_
    refine E_bipush (v := nI 64) dL_isTold_401 (by decide) ?_
    refine E_newI (len := 64) (k := 96) (n := 5634) dL_isTold_403 (gW_at 92 (by decide +kernel) (by decide +kernel)) rfl (by decide) ?_
    refine E_astore dL_isTold_405 (Nat.le_of_ble_eq_true rfl) (by decide) rfl ?_
    refine E_bipush (v := nI 64) dL_isTold_407 (by decide) ?_
    refine E_newI (len := 64) (k := 95) (n := 5570) dL_isTold_409 (gW_at 92 (by decide +kernel) (by decide +kernel)) rfl (by decide) ?_
    refine E_astore dL_isTold_411 (Nat.le_of_ble_eq_true rfl) (by decide) rfl ?_
    refine E_bipush (v := nI 62) dL_isTold_413 (by decide) ?_
    refine E_newI (len := 62) (k := 94) (n := 5508) dL_isTold_415 (gW_at 92 (by decide +kernel) (by decide +kernel)) rfl (by decide) ?_
    refine E_astore dL_isTold_417 (Nat.le_of_ble_eq_true rfl) (by decide) rfl ?_
    exact E_room (Nat.le_refl _) (by omega) (by omega) (s2_L_isTold (M := nW6 M) (p := mN M) hst hlk (hR.kS hS) (hR.T h) hS.C (Nat.le_refl _) h139 (nW6_P h139) (by omega) (by omega) K)
  · refine E_aload_n dL_isTold_338 rfl ?_
    refine E_iconst (v := nI 1) dL_isTold_339 (by decide) ?_
    refine E_callT2 (fr' := 9) (k1 := 1) (n1 := 6) (k2 := 99) (n2 := 5884) dL_isTold_340 kO_L_isSafe kL_L_274 (by exact Nat.le_of_ble_eq_true rfl) (by decide) (by exact Nat.le_of_ble_eq_true rfl) (Or.inr (gW_at 1210 (by decide +kernel) (by decide +kernel))) rfl ?_
    refine w_isSafe hst hS (fun j hj hj2 e _ _ _ _ => absurd hj2 (by omega)) (fun z1 M1 π1 hS1 hkd => ?_)
    have hS := hS1
    have hL := hS1.1.lay
    have h := h.kq hL hkd
    refine gKv ?_
    refine E_sipush (v := -7100) dL_isTold_343 (by decide) ?_
    refine E_icmp_ne_r (tgt := 364) dL_isTold_346 (by decide) (fun c0 => absurd c0 (by decide)) (fun _ => ?_)
    refine E_aload_n dL_isTold_349 rfl ?_
    refine E_iconst (v := nI 0) dL_isTold_350 (by decide) ?_
    refine E_callT2 (fr' := 9) (k1 := 1) (n1 := 6) (k2 := 98) (n2 := 5878) dL_isTold_351 kO_L_isSafe kL_L_274 (by exact Nat.le_of_ble_eq_true rfl) (by decide) (by exact Nat.le_of_ble_eq_true rfl) (Or.inr (gW_at 1210 (by decide +kernel) (by decide +kernel))) rfl ?_
    refine w_isSafe hst hS (fun j hj hj2 e _ _ _ _ => absurd hj2 (by omega)) (fun z1 M1 π1 hS1 hkd => ?_)
    have hS := hS1
    have hL := hS1.1.lay
    have h := h.kq hL hkd
    refine gKv ?_
    refine E_sipush (v := -7100) dL_isTold_354 (by decide) ?_
    refine E_icmp_ne_r (tgt := 364) dL_isTold_357 (by decide) (fun c0 => absurd c0 (by decide)) (fun _ => ?_)
    refine E_iconst (v := nI 1) dL_isTold_360 (by decide) ?_
    refine E_goto (tgt := 365) dL_isTold_361 (by decide) ?_
    refine E_iret dL_isTold_365 (Or.inr ⟨rfl, by decide⟩) ?_
    exact K _ _ hS h.S (Or.inl h.a10)
set_option maxRecDepth 100000 in
set_option maxHeartbeats 4000000 in
theorem s4_L_isTold {g : gG} {M : gM} {Q : Option Value ⊕ String → gM → Prop} (hst : (gl1 g).stackTraces = false) {c : Cf} {P : Nat → Nat} {lk : Int64} {cc : Int32} {π : Nat → Nat} (hlk : lkS c lk) (hS : kS c P π M) (h : lT c M) (hW : wfW c) (K : ∀ M1 π1, kS c P π1 M1 → zS c M1 → (mI M1 132 10 = nI 0 ∨ mI M1 132 10 = nI 1) → Q (.inl (some (.int (nI 1)))) M1) : ∀ v15, E g 12 173 6358 mL_isTold 265 [.ref 1, .int cc, .ref 129, .ref 130, .ref 131, .ref 132, .ref 133, .long lk, .null, .ref 134, .ref 135, .ref 136, .ref 137, .ref 138, .ref 139, v15, .null, .null, .null, .null, .null, .null, .null, .null, .null] [] M Q := by
  intro v15
  have hL := h.lay
  have h10 := h.t10
  refine E_aload_n dL_isTold_265 rfl ?_
  refine E_iload_n dL_isTold_266 rfl ?_
  refine E_aload_n dL_isTold_267 rfl ?_
  refine E_aload_n dL_isTold_268 rfl ?_
  refine E_aload dL_isTold_269 rfl ?_
  refine E_aload dL_isTold_271 rfl ?_
  refine E_aload dL_isTold_273 rfl ?_
  refine E_lload dL_isTold_275 rfl ?_
  refine E_aload dL_isTold_277 rfl ?_
  refine E_aload dL_isTold_279 rfl ?_
  refine E_aload dL_isTold_281 rfl ?_
  refine E_callT11 (fr' := 11) (k1 := 70) (n1 := 450) (k2 := 103) (n2 := 5908) dL_isTold_283 kO_L_textTold kL_L_270 (by exact Nat.le_of_ble_eq_true rfl) (by decide) (by exact Nat.le_of_ble_eq_true rfl) (Or.inl rfl) rfl ?_
  refine sp_L_textTold hst hW hlk hS h (fun M1 π1 hS1 h1 hkd => ?_)
  have hS := hS1
  have h := h1
  have hL := h.lay
  refine gKv ?_
  refine E_if_eq (tgt := 328) dL_isTold_286 (by decide) (fun c0 => absurd c0 (by decide)) (fun _ => ?_)
  refine E_aload_n dL_isTold_289 rfl ?_
  refine E_aload dL_isTold_290 rfl ?_
  refine E_iconst (v := nI 1) dL_isTold_292 (by decide) ?_
  refine E_ialdL (v := nI (tl c)) dL_isTold_293 (l_132 hL) (k_132 hL) rfl (by omega) (by decide) h.S.b1 ?_
  refine E_callT2 (fr' := 9) (k1 := 1) (n1 := 6) (k2 := 102) (n2 := 5902) dL_isTold_294 kO_L_run kL_L_236 (by exact Nat.le_of_ble_eq_true rfl) (by decide) (by exact Nat.le_of_ble_eq_true rfl) (Or.inr (gW_at 1119 (by decide +kernel) (by decide +kernel))) rfl ?_
  refine w_run hst hS (fun j hj e _ _ _ _ => absurd ((nI_eq (by omega) (by omega)).mp e) (by omega)) (fun z1 M1 π1 hS1 hkd => ?_)
  have hS := hS1
  have hL := hS1.1.lay
  have h := h.kq hL hkd
  refine gKv ?_
  refine E_sipush (v := -7100) dL_isTold_297 (by decide) ?_
  refine E_icmp_ne_r (tgt := 328) dL_isTold_300 (by decide) (fun c0 => absurd c0 (by decide)) (fun _ => ?_)
  refine E_aload_n dL_isTold_303 rfl ?_
  refine E_iconst (v := -1) dL_isTold_304 (by decide) ?_
  refine E_callT2 (fr' := 9) (k1 := 1) (n1 := 6) (k2 := 101) (n2 := 5896) dL_isTold_305 kO_L_form kL_L_239 (by exact Nat.le_of_ble_eq_true rfl) (by decide) (by exact Nat.le_of_ble_eq_true rfl) (Or.inr (gW_at 1130 (by decide +kernel) (by decide +kernel))) rfl ?_
  refine w_form hst hS (fun j hj e _ _ _ _ => absurd e.symm (m1_ne (by omega))) (fun z1 M1 π1 hS1 hkd => ?_)
  have hS := hS1
  have hL := hS1.1.lay
  have h := h.kq hL hkd
  refine gKv ?_
  refine E_sipush (v := -7100) dL_isTold_308 (by decide) ?_
  refine E_icmp_ne_r (tgt := 328) dL_isTold_311 (by decide) (fun c0 => absurd c0 (by decide)) (fun _ => ?_)
  refine E_aload_n dL_isTold_314 rfl ?_
  refine E_aload dL_isTold_315 rfl ?_
  refine E_iconst (v := nI 1) dL_isTold_317 (by decide) ?_
  refine E_ialdL (v := nI (tl c)) dL_isTold_318 (l_132 hL) (k_132 hL) rfl (by omega) (by decide) h.S.b1 ?_
  refine E_callT2 (fr' := 9) (k1 := 1) (n1 := 6) (k2 := 100) (n2 := 5890) dL_isTold_319 kO_L_caret kL_L_241 (by exact Nat.le_of_ble_eq_true rfl) (by decide) (by exact Nat.le_of_ble_eq_true rfl) (Or.inr (gW_at 1137 (by decide +kernel) (by decide +kernel))) rfl ?_
  refine w_caret hst hS (fun j hj e _ _ _ _ => absurd ((nI_eq (by omega) (by omega)).mp e) (by omega)) (fun z1 M1 π1 hS1 hkd => ?_)
  have hS := hS1
  have hL := hS1.1.lay
  have h := h.kq hL hkd
  refine gKv ?_
  refine E_sipush (v := -7100) dL_isTold_322 (by decide) ?_
  refine E_icmp_eq (tgt := 330) dL_isTold_325 (by decide) (fun _ => ?_) (fun c0 => absurd (by decide) c0)
  exact s3_L_isTold hst hlk hS h K _
set_option maxRecDepth 100000 in
set_option maxHeartbeats 4000000 in
theorem s5_L_isTold {g : gG} {M : gM} {Q : Option Value ⊕ String → gM → Prop} (hst : (gl1 g).stackTraces = false) {c : Cf} {P : Nat → Nat} {lk : Int64} {cc : Int32} {π : Nat → Nat} (hlk : lkS c lk) (hS : kS c P π M) (h : lT c M) (hW : wfW c) (K : ∀ M1 π1, kS c P π1 M1 → zS c M1 → (mI M1 132 10 = nI 0 ∨ mI M1 132 10 = nI 1) → Q (.inl (some (.int (nI 1)))) M1) : ∀ v15, E g 12 180 6400 mL_isTold 186 [.ref 1, .int cc, .ref 129, .ref 130, .ref 131, .ref 132, .ref 133, .long lk, .null, .ref 134, .ref 135, .ref 136, .ref 137, .ref 138, .ref 139, v15, .null, .null, .null, .null, .null, .null, .null, .null, .null] [] M Q := by
  intro v15
  have hL := h.lay
  have h10 := h.t10
  have h64 := h.n64
  refine E_aload_n dL_isTold_186 rfl ?_
  refine E_aload dL_isTold_187 rfl ?_
  refine E_bipush (v := nI 8) dL_isTold_189 (by decide) ?_
  refine E_ialdL (v := nI (ng c)) dL_isTold_191 (l_132 hL) (k_132 hL) rfl (by omega) (by decide) h.a8 ?_
  refine E_callT2 (fr' := 9) (k1 := 1) (n1 := 6) (k2 := 179) (n2 := 6394) dL_isTold_192 kO_L_glyph kL_L_262 (by exact Nat.le_of_ble_eq_true rfl) (by decide) (by exact Nat.le_of_ble_eq_true rfl) (Or.inr (gW_at 1074 (by decide +kernel) (by decide +kernel))) rfl ?_
  refine w_glyph hst hS (fun j hj e _ _ _ _ => absurd ((nI_eq (by omega) (by omega)).mp e) (by omega)) (fun z1 M1 π1 hS1 hkd => ?_)
  have hS := hS1
  have hL := hS1.1.lay
  have h := h.kq hL hkd
  refine gKv ?_
  refine E_sipush (v := -7100) dL_isTold_195 (by decide) ?_
  refine E_icmp_ne_r (tgt := 263) dL_isTold_198 (by decide) (fun c0 => absurd c0 (by decide)) (fun _ => ?_)
  refine E_aload_n dL_isTold_201 rfl ?_
  refine E_iconst (v := -1) dL_isTold_202 (by decide) ?_
  refine E_callT2 (fr' := 9) (k1 := 1) (n1 := 6) (k2 := 178) (n2 := 6388) dL_isTold_203 kO_L_glyphAnew kL_L_264 (by exact Nat.le_of_ble_eq_true rfl) (by decide) (by exact Nat.le_of_ble_eq_true rfl) (Or.inr (gW_at 1085 (by decide +kernel) (by decide +kernel))) rfl ?_
  refine w_glyphAnew hst hS (fun j hj e _ _ _ _ => absurd e.symm (m1_ne (by omega))) (fun z1 M1 π1 hS1 hkd => ?_)
  have hS := hS1
  have hL := hS1.1.lay
  have h := h.kq hL hkd
  refine gKv ?_
  refine E_sipush (v := -7100) dL_isTold_206 (by decide) ?_
  refine E_icmp_ne_r (tgt := 263) dL_isTold_209 (by decide) (fun c0 => absurd c0 (by decide)) (fun _ => ?_)
  refine E_aload_n dL_isTold_212 rfl ?_
  refine E_aload dL_isTold_213 rfl ?_
  refine E_bipush (v := nI 8) dL_isTold_215 (by decide) ?_
  refine E_ialdL (v := nI (ng c)) dL_isTold_217 (l_132 hL) (k_132 hL) rfl (by omega) (by decide) h.a8 ?_
  refine E_callT2 (fr' := 9) (k1 := 1) (n1 := 6) (k2 := 177) (n2 := 6382) dL_isTold_218 kO_L_cluster kL_L_266 (by exact Nat.le_of_ble_eq_true rfl) (by decide) (by exact Nat.le_of_ble_eq_true rfl) (Or.inr (gW_at 1092 (by decide +kernel) (by decide +kernel))) rfl ?_
  refine w_cluster hst hS (fun j hj e _ _ _ _ => absurd ((nI_eq (by omega) (by omega)).mp e) (by omega)) (fun z1 M1 π1 hS1 hkd => ?_)
  have hS := hS1
  have hL := hS1.1.lay
  have h := h.kq hL hkd
  refine gKv ?_
  refine E_sipush (v := -7100) dL_isTold_221 (by decide) ?_
  refine E_icmp_ne_r (tgt := 263) dL_isTold_224 (by decide) (fun c0 => absurd c0 (by decide)) (fun _ => ?_)
  refine E_aload_n dL_isTold_227 rfl ?_
  refine E_aload dL_isTold_228 rfl ?_
  refine E_bipush (v := nI 8) dL_isTold_230 (by decide) ?_
  refine E_ialdL (v := nI (ng c)) dL_isTold_232 (l_132 hL) (k_132 hL) rfl (by omega) (by decide) h.a8 ?_
  refine E_iconst (v := nI 3) dL_isTold_233 (by decide) ?_
  refine E_callT3 (fr' := 9) (k1 := 2) (n1 := 12) (k2 := 175) (n2 := 6370) dL_isTold_234 kO_L_place kL_L_268 (by exact Nat.le_of_ble_eq_true rfl) (by decide) (by exact Nat.le_of_ble_eq_true rfl) (Or.inr (gW_at 1099 (by decide +kernel) (by decide +kernel))) rfl ?_
  refine w_place hst hS (fun j hj e _ _ _ _ _ => absurd ((nI_eq (by omega) (by omega)).mp e) (by omega)) (fun z1 M1 π1 hS1 hkd => ?_) (fun j hj e _ _ _ _ _ => absurd ((nI_eq (by omega) (by omega)).mp e) (by omega))
  have hS := hS1
  have hL := hS1.1.lay
  have h := h.kq hL hkd
  refine gKv ?_
  refine E_sipush (v := -7100) dL_isTold_237 (by decide) ?_
  refine E_icmp_ne_r (tgt := 263) dL_isTold_240 (by decide) (fun c0 => absurd c0 (by decide)) (fun _ => ?_)
  refine E_aload dL_isTold_243 rfl ?_
  refine E_bipush (v := nI 8) dL_isTold_245 (by decide) ?_
  refine E_ialdL (v := nI (ng c)) dL_isTold_247 (l_132 hL) (k_132 hL) rfl (by omega) (by decide) h.a8 ?_
  refine E_if_le_n (tgt := 265) dL_isTold_248 (by decide) (by omega) (fun c_248 => ?_) (fun c_248 => ?_)
  · exact E_room (Nat.le_refl _) (by decide) (by decide) (s4_L_isTold hst hlk hS h hW K _)
  · refine E_aload_n dL_isTold_251 rfl ?_
    refine E_iconst (v := nI 0) dL_isTold_252 (by decide) ?_
    refine E_iconst (v := nI 3) dL_isTold_253 (by decide) ?_
    refine E_callT3 (fr' := 9) (k1 := 2) (n1 := 12) (k2 := 173) (n2 := 6358) dL_isTold_254 kO_L_place kL_L_268 (by exact Nat.le_of_ble_eq_true rfl) (by decide) (by exact Nat.le_of_ble_eq_true rfl) (Or.inr (gW_at 1099 (by decide +kernel) (by decide +kernel))) rfl ?_
    refine w_place hst hS (fun j hj e z1 _ _ _ _ => absurd z1 (by decide)) (fun z1 _ _ _ _ => absurd ((iBel_iff (by omega)).mpr ⟨0, by omega, rfl⟩) z1) (fun j hj e z1 M1 π1 hS1 hkd => ?_)
    have hS := hS1
    have hL := hS1.1.lay
    have h := h.kq hL hkd
    refine gKv ?_
    refine E_sipush (v := -7200) dL_isTold_257 (by decide) ?_
    refine E_icmp_eq (tgt := 265) dL_isTold_260 (by decide) (fun _ => ?_) (fun c0 => absurd (by decide) c0)
    exact E_room (Nat.le_refl _) (by decide) (by decide) (s4_L_isTold hst hlk hS h hW K _)
set_option maxRecDepth 100000 in
set_option maxHeartbeats 4000000 in
theorem sp_L_isTold {g : gG} {M : gM} {Q : Option Value ⊕ String → gM → Prop} (hst : (gl1 g).stackTraces = false) {c : Cf} {P : Nat → Nat} {lk : Int64} {cc : Int32} {π : Nat → Nat} (hlk : lkS c lk) (hS : kS c P π M) (h : zS c M) (h10 : mI M 132 10 = nI 0) (hW : wfW c) (K : ∀ M1 π1, kS c P π1 M1 → zS c M1 → (mI M1 132 10 = nI 0 ∨ mI M1 132 10 = nI 1) → Q (.inl (some (.int (nI 1)))) M1) : E g 12 800 12500 mL_isTold 0 [.ref 1, .int cc, .ref 129, .ref 130, .ref 131, .ref 132, .ref 133, .long lk, .null, .ref 134, .ref 135, .ref 136, .ref 137, .ref 138, .ref 139, .null, .null, .null, .null, .null, .null, .null, .null, .null, .null] [] M Q := by
  have hL := h.lay
  have ht10 := h.t10
  have h139 : 139 ≤ mN M := hL.1
  have hz1 : zS c (sI (sI M 132 8 (nI 0)) 132 9 (nI 0)) := (h.w132 (by decide)).w132 (by decide)
  have h81 : mI (sI (sI M 132 8 (nI 0)) 132 9 (nI 0)) 132 8 = nI 0 := (mI_nj (by decide)).trans mI_eq
  have h91 : mI (sI (sI M 132 8 (nI 0)) 132 9 (nI 0)) 132 9 = nI 0 := mI_eq
  have h101 : mI (sI (sI M 132 8 (nI 0)) 132 9 (nI 0)) 132 10 = nI 0 := (mI_nj (by decide)).trans ((mI_nj (by decide)).trans h10)
  refine E_aload dL_isTold_0 rfl ?_
  refine E_bipush (v := nI 8) dL_isTold_2 (by decide) ?_
  refine E_iconst (v := nI 0) dL_isTold_4 (by decide) ?_
  refine E_iast dL_isTold_5 (l_132 hL) (k_132 hL) rfl (by omega) (by decide) ?_
  refine E_aload dL_isTold_6 rfl ?_
  refine E_bipush (v := nI 9) dL_isTold_8 (by decide) ?_
  refine E_iconst (v := nI 0) dL_isTold_10 (by decide) ?_
  refine E_iast dL_isTold_11 (l_132 hL) (k_132 hL) rfl (by omega) (by decide) ?_
  have key : ∀ MM, MM = (sI (sI M 132 8 (nI 0)) 132 9 (nI 0)) → E g 12 800 12500 mL_isTold 12 [.ref 1, .int cc, .ref 129, .ref 130, .ref 131, .ref 132, .ref 133, .long lk, .null, .ref 134, .ref 135, .ref 136, .ref 137, .ref 138, .ref 139, .null, .null, .null, .null, .null, .null, .null, .null, .null, .null] [] MM Q := by
    intro MM eM
    rw [← eM] at hz1 h81 h91 h101
    have hL := hz1.lay
    have hN1 : mN MM = mN M := by rw [eM]; rfl
    have hS1 : kS c P π MM := hS.law hS.C (by omega) (fun a q => by rw [eM]; rfl) (fun a j q q2 => by rw [eM, mI_ne (by omega), mI_ne (by omega)]) (fun a j q => by rw [eM]; rfl)
    refine E_aload_n dL_isTold_12 rfl ?_
    refine E_aload_n dL_isTold_13 rfl ?_
    refine E_aload dL_isTold_14 rfl ?_
    refine E_aload dL_isTold_16 rfl ?_
    refine E_aload dL_isTold_18 rfl ?_
    refine E_lload dL_isTold_20 rfl ?_
    refine E_iconst (v := nI 0) dL_isTold_22 (by decide) ?_
    refine E_aload dL_isTold_23 rfl ?_
    refine E_iconst (v := nI 1) dL_isTold_25 (by decide) ?_
    refine E_ialdL (v := nI (tl c)) dL_isTold_26 (l_132 hL) (k_132 hL) rfl (by omega) (by decide) hz1.b1 ?_
    refine E_aload dL_isTold_27 rfl ?_
    refine E_aload dL_isTold_29 rfl ?_
    refine E_aload dL_isTold_31 rfl ?_
    refine E_aload dL_isTold_33 rfl ?_
    refine E_aload dL_isTold_35 rfl ?_
    refine E_aload dL_isTold_37 rfl ?_
    refine E_callT14 (fr' := 10) (k1 := 40) (n1 := 2560) (k2 := 760) (n2 := 9940) dL_isTold_39 kO_L_shape kL_L_254 (by exact Nat.le_of_ble_eq_true rfl) (by decide) (by exact Nat.le_of_ble_eq_true rfl) (Or.inl rfl) rfl ?_
    refine sp_L_shape (p := 133) hz1 hlk (Nat.zero_le _) (Nat.le_refl _) (oP_133 hL) (by omega) h81 (by decide) h91 h101 (fun M2 z1 G1 f1 f2 f3 f4 f5 f6 f7 => ?_)
    have hL := f2.lay
    have hS2 : kS c P π M2 := hS1.law hS1.C f1.1 f1.2.1 (fun a j q q2 => f1.2.2.1 a j q (fun z => by unfold shO at z; omega)) (fun a j q => f1.2.2.2.1 a j q)
    refine gKn ?_
    refine E_aload dL_isTold_42 rfl ?_
    refine E_bipush (v := nI 10) dL_isTold_44 (by decide) ?_
    refine E_ialdL (v := z1) dL_isTold_46 (l_132 hL) (k_132 hL) rfl (by omega) (by decide) f6 ?_
    refine E_iconst (v := nI 1) dL_isTold_47 (by decide) ?_
    refine E_icmp_ne_r (tgt := 53) dL_isTold_48 (by decide) (fun c_48 => ?_) (fun c_48 => ?_)
    · obtain ⟨y1, y2⟩ := f7.resolve_left c_48
      have yG : G1 = ng c := by rw [y2.1, Nat.zero_add]
      subst yG
      have h : lT c M2 := ⟨⟨f2, f3, by rw [f5, Nat.zero_add], f6.trans y1, f4⟩, y2⟩
      have hS := hS2
      refine E_aload_n dL_isTold_53 rfl ?_
      refine E_callV0 (fr' := 8) (k1 := 1) (n1 := 6) (k2 := 759) (n2 := 9934) dL_isTold_54 kO_X11_glyphs kL_L_258 (l_0 hL) (k_0 hL) ⟨by decide, rfl⟩  (by decide) (by decide) (by exact Nat.le_of_ble_eq_true rfl) rfl ?_
      refine sp_X11_glyphs hst hS (fun M1 π1 hS1 hkd => ?_)
      have hS := hS1
      have hL := hS1.1.lay
      have h := h.kq hL hkd
      have h64 := h.n64
      refine gKv ?_
      refine E_aload dL_isTold_57 rfl ?_
      refine E_bipush (v := nI 8) dL_isTold_59 (by decide) ?_
      refine E_ialdL (v := nI (ng c)) dL_isTold_61 (l_132 hL) (k_132 hL) rfl (by omega) (by decide) h.a8 ?_
      refine E_icmp_eq_n (tgt := 67) dL_isTold_62 (by decide) (by omega) (by omega) (fun c_62 => ?_) (fun c_62 => ?_)
      · refine E_iconst (v := nI 0) dL_isTold_67 (by decide) ?_
        refine E_istore dL_isTold_68 (Nat.le_of_ble_eq_true rfl) (by decide) rfl ?_
        exact E_room (Nat.le_refl _) (by decide) (by decide) (lg_L_isTold hst (fun M π x15 hS h => s5_L_isTold hst hlk hS h hW K _) 0 (Nat.zero_le _) (Nat.le_refl _) _ _ hS h)
      · refine E_iconst (v := nI 0) dL_isTold_65 (by decide) ?_
        refine E_iret dL_isTold_66 (Or.inr ⟨rfl, by decide⟩) ?_
        exact absurd rfl c_62
    · refine E_iconst (v := nI 1) dL_isTold_51 (by decide) ?_
      refine E_iret dL_isTold_52 (Or.inr ⟨rfl, by decide⟩) ?_
      exact K M2 π hS2 f2 (Or.inr (f6.trans c_48))
  exact key _ rfl
