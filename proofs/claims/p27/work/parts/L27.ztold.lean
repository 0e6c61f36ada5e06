/-! the law: what is told, glyph by glyph -/
noncomputable def xP (c : Cf) (P : Nat) : Gl := gat (tL c (tj c P)) (P - tg c (tj c P))
section LTC
variable {c : Cf} {M : gM}
theorem lT.jp (h : lT c M) {P : Nat} (hP : P < ng c) : tj c P < tr c ∧ P - tg c (tj c P) < (tL c (tj c P)).length ∧ tg c (tj c P) + (P - tg c (tj c P)) = P := by
  obtain ⟨h1, h2, h3⟩ := tj_b hP
  rw [tg_s] at h3
  exact ⟨h1, by omega, by omega⟩
theorem lT.cx (h : lT c M) {P : Nat} (hP : P < ng c) : okZ (xP c P) := h.ok (h.jp hP).1 (h.jp hP).2.1
theorem lT.c0 (h : lT c M) {P : Nat} (hP : P < ng c) : mI M 133 P = nI (yN (xP c P) + 256 * yC (xP c P)) := by
  obtain ⟨h1, h2, h3⟩ := h.jp hP
  have := (h.lg h1 _ h2).1
  rw [h3] at this
  exact this
theorem lT.c1 (h : lT c M) {P : Nat} (hP : P < ng c) : mI M 134 P = pgv c 2 P := by
  obtain ⟨h1, h2, h3⟩ := h.jp hP
  have := (h.lg h1 _ h2).2.1
  rw [h3] at this
  exact this
theorem lT.c2 (h : lT c M) {P : Nat} (hP : P < ng c) : mI M 135 P = pgv c 3 P := by
  obtain ⟨h1, h2, h3⟩ := h.jp hP
  have := (h.lg h1 _ h2).2.2.1
  rw [h3] at this
  exact this
theorem lT.c3 (h : lT c M) {P : Nat} (hP : P < ng c) : mI M 136 P = pgv c 4 P := by
  obtain ⟨h1, h2, h3⟩ := h.jp hP
  have := (h.lg h1 _ h2).2.2.2.1
  rw [h3] at this
  exact this
end LTC
theorem pgv_0 (c : Cf) (P : Nat) : pgv c 0 P = nI (yN (xP c P)) := rfl
theorem pgv_1 (c : Cf) (P : Nat) : pgv c 1 P = nI (yC (xP c P)) := rfl
theorem plc_0 (c : Cf) (P : Nat) : cI (nI 0 = nI 0) (pgv c 4 P) (cI (nI 0 = nI 1) (pgv c 3 P) (pgv c 2 P)) = pgv c 4 P := cI_t rfl
theorem plc_1 (c : Cf) (P : Nat) : cI (nI 1 = nI 0) (pgv c 4 P) (cI (nI 1 = nI 1) (pgv c 3 P) (pgv c 2 P)) = pgv c 3 P := (cI_f (by decide)).trans (cI_t rfl)
theorem plc_2 (c : Cf) (P : Nat) : cI (nI 2 = nI 0) (pgv c 4 P) (cI (nI 2 = nI 1) (pgv c 3 P) (pgv c 2 P)) = pgv c 2 P := (cI_f (by decide)).trans (cI_f (by decide))
/-- a glyph of those that the law has laid -/
def gzP (M : gM) (p P : Nat) (o : Nat → Int32) : Prop := ∃ N C, N < 256 ∧ C < 16 ∧ o 0 = nI N ∧ o 1 = nI C ∧ mI M p P = nI (N + 256 * C) ∧ mI M (p + 1) P = o 2 ∧ mI M (p + 2) P = o 3 ∧
  ((o 5 = -100 ∧ o 6 = nI 0 ∧ o 7 = nI 0 ∧ mI M (p + 4) P = nI 0) ∨ ∃ b x y, b < 64 ∧ x < 300 ∧ y < 300 ∧ o 5 = nI b ∧ o 6 + nI 100 = nI x ∧ o 7 + nI 100 = nI y ∧ mI M (p + 4) P = nI (100000 * (b + 1) + 300 * x + y))
theorem gzP_of {c : Cf} {f s p G j : Nat} {left : Int32} {L : List Gl} {M : gM} (h : lG p G L (stB c f s left L) L.length M) (hk : okZL L) (ho : onZ (plc c f L) L.length) (hj : j < L.length) (hG : G + L.length ≤ 64) : gzP M p (G + j) (fun q => og G L (stB c f s left L) q j) := by
  obtain ⟨h1, h2, h3, h4, h5⟩ := h j hj
  have hx := (hk.at hj).b
  have hx2 := (hk.at hj).2.1
  have r : ∀ q, ¬ q = 5 → ¬ q = 1 → stB c f s left L q j = plc c f L q j := fun q z z2 => by unfold stB; rw [std_r z z2]
  refine ⟨yN (gat L j), yC (gat L j), hx.1, hx2, rfl, rfl, h1, h2, h3, ?_⟩
  show (cI (stB c f s left L 2 j = -100) (-100) (nI G + stB c f s left L 2 j) = -100 ∧ stB c f s left L 3 j = nI 0 ∧ stB c f s left L 4 j = nI 0 ∧ _) ∨ ∃ b x y, b < 64 ∧ x < 300 ∧ y < 300 ∧ cI (stB c f s left L 2 j = -100) (-100) (nI G + stB c f s left L 2 j) = nI b ∧ stB c f s left L 3 j + nI 100 = nI x ∧ stB c f s left L 4 j + nI 100 = nI y ∧ _
  rw [h5]
  unfold onG
  rw [r 2 (by decide) (by decide), r 3 (by decide) (by decide), r 4 (by decide) (by decide)]
  rcases ho j hj with ⟨q2, q3, q4⟩ | ⟨b, x, y, hb, hx, hy, q2, q3, q4⟩
  · exact Or.inl ⟨cI_t q2, q3, q4, cI_t q2⟩
  · have hn : ¬ plc c f L 2 j = -100 := by rw [q2]; exact nI_ne100 (by omega)
    refine Or.inr ⟨G + b, x, y, by omega, hx, hy, by rw [cI_f hn, q2, nI_add], q3, q4, ?_⟩
    rw [cI_f hn, q2, q3, q4, gN_nI (by omega), gN_nI (by omega), gN_nI (by omega)]
theorem gzP.mv {M M' : gM} {p P : Nat} {o : Nat → Int32} (h : gzP M p P o) (e : ∀ q, q < 5 → mI M' (p + q) P = mI M (p + q) P) : gzP M' p P o := by
  obtain ⟨N, C, h1, h2, h3, h4, h5, h6, h7, h8⟩ := h
  have e0 : mI M' p P = mI M p P := e 0 (by decide)
  refine ⟨N, C, h1, h2, h3, h4, e0.trans h5, (e 1 (by decide)).trans h6, (e 2 (by decide)).trans h7, ?_⟩
  rw [e 4 (by decide)]
  exact h8
theorem add_rc {a b x : Int32} (h : a + x = b + x) : a = b := by
  have t := congrArg (fun v => v - x) h
  simp only [Int32.add_sub_cancel] at t
  exact t
theorem gzP_eq {M M' : gM} {p p' P P' : Nat} {o o' : Nat → Int32} (h : gzP M p P o) (h' : gzP M' p' P' o') : (mI M p P = mI M' p' P' ∧ mI M (p + 1) P = mI M' (p' + 1) P' ∧ mI M (p + 2) P = mI M' (p' + 2) P' ∧ mI M (p + 4) P = mI M' (p' + 4) P') ↔ ∀ q, q < 8 → ¬ q = 4 → o' q = o q := by
  obtain ⟨N, C, h1, h2, h3, h4, h5, h6, h7, h8⟩ := h
  obtain ⟨N', C', g1, g2, g3, g4, g5, g6, g7, g8⟩ := h'
  rw [h5, h6, h7, g5, g6, g7, nI_eq (by omega) (by omega)]
  have h100 : ∀ b, b < 64 → ¬ nI b = -100 := fun b hb => nI_ne100 (by omega)
  constructor
  · intro ⟨z0, z1, z2, z3⟩
    have eb : o' 5 = o 5 ∧ o' 6 = o 6 ∧ o' 7 = o 7 := by
      rcases h8 with ⟨a1, a2, a3, a4⟩ | ⟨b, x, y, hb, hx, hy, a1, a2, a3, a4⟩
      · rcases g8 with ⟨d1, d2, d3, d4⟩ | ⟨b', x', y', hb', hx', hy', d1, d2, d3, d4⟩
        · exact ⟨d1.trans a1.symm, d2.trans a2.symm, d3.trans a3.symm⟩
        · rw [a4, d4] at z3
          have := (nI_eq (by decide) (by omega)).mp z3
          omega
      · rcases g8 with ⟨d1, d2, d3, d4⟩ | ⟨b', x', y', hb', hx', hy', d1, d2, d3, d4⟩
        · rw [a4, d4] at z3
          have := (nI_eq (by omega) (by decide)).mp z3
          omega
        · rw [a4, d4] at z3
          have z := (nI_eq (by omega) (by omega)).mp z3
          have y1 : b = b' := by omega
          have y2 : x = x' := by omega
          have y3 : y = y' := by omega
          subst y1 y2 y3
          refine ⟨d1.trans a1.symm, ?_, ?_⟩
          · have := d2.trans a2.symm
            exact add_rc this
          · have := d3.trans a3.symm
            exact add_rc this
    intro q hq hq4
    have y1 : N = N' := by omega
    have y2 : C = C' := by omega
    rcases (show q = 0 ∨ q = 1 ∨ q = 2 ∨ q = 3 ∨ q = 5 ∨ q = 6 ∨ q = 7 by omega) with rfl | rfl | rfl | rfl | rfl | rfl | rfl
    · rw [h3, g3, y1]
    · rw [h4, g4, y2]
    · exact z1.symm
    · exact z2.symm
    · exact eb.1
    · exact eb.2.1
    · exact eb.2.2
  · intro e
    have e0 := e 0 (by decide) (by decide)
    have e1 := e 1 (by decide) (by decide)
    rw [h3, g3] at e0
    rw [h4, g4] at e1
    have y1 := (nI_eq (by omega) (by omega)).mp e0
    have y2 := (nI_eq (by omega) (by omega)).mp e1
    refine ⟨by omega, (e 2 (by decide) (by decide)).symm, (e 3 (by decide) (by decide)).symm, ?_⟩
    have e5 := e 5 (by decide) (by decide)
    have e6 := e 6 (by decide) (by decide)
    have e7 := e 7 (by decide) (by decide)
    rcases h8 with ⟨a1, a2, a3, a4⟩ | ⟨b, x, y, hb, hx, hy, a1, a2, a3, a4⟩
    · rcases g8 with ⟨d1, d2, d3, d4⟩ | ⟨b', x', y', hb', hx', hy', d1, d2, d3, d4⟩
      · rw [a4, d4]
      · rw [a1, d1] at e5
        exact absurd e5 (h100 _ hb')
    · rcases g8 with ⟨d1, d2, d3, d4⟩ | ⟨b', x', y', hb', hx', hy', d1, d2, d3, d4⟩
      · rw [a1, d1] at e5
        exact absurd e5.symm (h100 _ hb)
      · rw [a1, d1] at e5
        rw [e6, a2] at d2
        rw [e7, a3] at d3
        have y3 := (nI_eq (by omega) (by omega)).mp e5
        have y4 := (nI_eq (by omega) (by omega)).mp d2
        have y5 := (nI_eq (by omega) (by omega)).mp d3
        rw [a4, d4, y3, y4, y5]
set_option maxRecDepth 100000 in
set_option maxHeartbeats 4000000 in
theorem lg_L_isTold {g : gG} {Q : Option Value ⊕ String → gM → Prop} (hst : (gl1 g).stackTraces = false) {c : Cf} {P : Nat → Nat} {lk : Int64} {cc : Int32} (K : ∀ M π x15, kS c P π M → lT c M → E g 12 180 6400 mL_isTold 186 [.ref 1, .int cc, .ref 129, .ref 130, .ref 131, .ref 132, .ref 133, .long lk, .null, .ref 134, .ref 135, .ref 136, .ref 137, .ref 138, .ref 139, .int x15, .null, .null, .null, .null, .null, .null, .null, .null, .null] [] M Q) : ∀ k, k ≤ ng c → 0 ≤ k → ∀ M π, kS c P π M → lT c M → E g 12 (9 * (64 - k) + 180) (54 * (64 - k) + 6400) mL_isTold 70 [.ref 1, .int cc, .ref 129, .ref 130, .ref 131, .ref 132, .ref 133, .long lk, .null, .ref 134, .ref 135, .ref 136, .ref 137, .ref 138, .ref 139, .int (nI k), .null, .null, .null, .null, .null, .null, .null, .null, .null] [] M Q := by
  refine lpUp (ng c) (fun k hk ih => ?_)
  intro _ M π hS h
  have hL := h.lay
  have h64 := h.n64
  refine E_iload dL_isTold_70 rfl ?_
  refine E_aload dL_isTold_72 rfl ?_
  refine E_bipush (v := nI 8) dL_isTold_74 (by decide) ?_
  refine E_ialdL (v := nI (ng c)) dL_isTold_76 (l_132 hL) (k_132 hL) rfl (by omega) (by decide) h.a8 ?_
  refine E_icmp_ge_n (tgt := 186) dL_isTold_77 (by decide) (by omega) (by omega) (fun c_77 => ?_) (fun c_77 => ?_)
  · obtain rfl : k = ng c := by omega
    exact E_room (Nat.le_refl _) (by omega) (by omega) (K M π _ hS h)
  · have hk2 : k < ng c := by omega
    have hcx := h.cx hk2
    have hcb := hcx.b
    refine E_aload_n dL_isTold_80 rfl ?_
    refine E_iload dL_isTold_81 rfl ?_
    refine E_room (Nat.le_refl _) (k' := 1 + (8 + (9 * (64 - (k + 1)) + 180))) (n' := 6 + (48 + (54 * (64 - (k + 1)) + 6400))) (by omega) (by omega) ?_
    refine E_callT2 (fr' := 9) (k1 := 1) (n1 := 6) (k2 := (8 + (9 * (64 - (k + 1)) + 180))) (n2 := (48 + (54 * (64 - (k + 1)) + 6400))) dL_isTold_83 kO_L_glyph kL_L_262 (by exact Nat.le_of_ble_eq_true rfl) (by decide) (by exact Nat.le_of_ble_eq_true rfl) (Or.inr (gW_at 1074 (by decide +kernel) (by decide +kernel))) rfl ?_
    refine w_glyph hst hS (fun j hj e M1 π1 hS1 hkd => ?_) (fun z1 _ _ _ _ => absurd ((iBel_iff (by omega)).mpr ⟨k, hk2, rfl⟩) z1)
    obtain rfl : k = j := (nI_eq (by omega) (by omega)).mp e
    have hS := hS1
    have hL := hS1.1.lay
    have h := h.kq hL hkd
    rw [pgv_0]
    refine gKv ?_
    refine E_aload dL_isTold_86 rfl ?_
    refine E_iload dL_isTold_88 rfl ?_
    refine E_ialdL (v := nI (yN (xP c k) + 256 * yC (xP c k))) dL_isTold_90 (l_133 hL) (k_133 hL) rfl (by omega) (by decide) (h.c0 hk2) ?_
    refine E_sipush (v := nI 255) dL_isTold_91 (by decide) ?_
    refine E_iand dL_isTold_94 ?_
    rw [gE_255 hcx]
    refine E_icmp_ne_n (tgt := 178) dL_isTold_95 (by decide) (by omega) (by omega) (fun c_95 => ?_) (fun c_95 => ?_)
    · refine E_iconst (v := nI 0) dL_isTold_178 (by decide) ?_
      refine E_iret dL_isTold_179 (Or.inr ⟨rfl, by decide⟩) ?_
      exfalso
      first
        | exact c_95 rfl
        | exact c_113 rfl
        | exact c_130 rfl
        | exact c_145 rfl
        | exact c_160 rfl
        | exact c_175 rfl
    · refine E_aload_n dL_isTold_98 rfl ?_
      refine E_iload dL_isTold_99 rfl ?_
      refine E_room (Nat.le_refl _) (k' := 1 + (7 + (9 * (64 - (k + 1)) + 180))) (n' := 6 + (42 + (54 * (64 - (k + 1)) + 6400))) (by omega) (by omega) ?_
      refine E_callT2 (fr' := 9) (k1 := 1) (n1 := 6) (k2 := (7 + (9 * (64 - (k + 1)) + 180))) (n2 := (42 + (54 * (64 - (k + 1)) + 6400))) dL_isTold_101 kO_L_glyphAnew kL_L_264 (by exact Nat.le_of_ble_eq_true rfl) (by decide) (by exact Nat.le_of_ble_eq_true rfl) (Or.inr (gW_at 1085 (by decide +kernel) (by decide +kernel))) rfl ?_
      refine w_glyphAnew hst hS (fun j hj e M1 π1 hS1 hkd => ?_) (fun z1 _ _ _ _ => absurd ((iBel_iff (by omega)).mpr ⟨k, hk2, rfl⟩) z1)
      obtain rfl : k = j := (nI_eq (by omega) (by omega)).mp e
      have hS := hS1
      have hL := hS1.1.lay
      have h := h.kq hL hkd
      rw [pgv_0]
      refine gKv ?_
      refine E_aload dL_isTold_104 rfl ?_
      refine E_iload dL_isTold_106 rfl ?_
      refine E_ialdL (v := nI (yN (xP c k) + 256 * yC (xP c k))) dL_isTold_108 (l_133 hL) (k_133 hL) rfl (by omega) (by decide) (h.c0 hk2) ?_
      refine E_sipush (v := nI 255) dL_isTold_109 (by decide) ?_
      refine E_iand dL_isTold_112 ?_
      rw [gE_255 hcx]
      refine E_icmp_ne_n (tgt := 178) dL_isTold_113 (by decide) (by omega) (by omega) (fun c_113 => ?_) (fun c_113 => ?_)
      · refine E_iconst (v := nI 0) dL_isTold_178 (by decide) ?_
        refine E_iret dL_isTold_179 (Or.inr ⟨rfl, by decide⟩) ?_
        exfalso
        first
          | exact c_95 rfl
          | exact c_113 rfl
          | exact c_130 rfl
          | exact c_145 rfl
          | exact c_160 rfl
          | exact c_175 rfl
      · refine E_aload_n dL_isTold_116 rfl ?_
        refine E_iload dL_isTold_117 rfl ?_
        refine E_room (Nat.le_refl _) (k' := 1 + (6 + (9 * (64 - (k + 1)) + 180))) (n' := 6 + (36 + (54 * (64 - (k + 1)) + 6400))) (by omega) (by omega) ?_
        refine E_callT2 (fr' := 9) (k1 := 1) (n1 := 6) (k2 := (6 + (9 * (64 - (k + 1)) + 180))) (n2 := (36 + (54 * (64 - (k + 1)) + 6400))) dL_isTold_119 kO_L_cluster kL_L_266 (by exact Nat.le_of_ble_eq_true rfl) (by decide) (by exact Nat.le_of_ble_eq_true rfl) (Or.inr (gW_at 1092 (by decide +kernel) (by decide +kernel))) rfl ?_
        refine w_cluster hst hS (fun j hj e M1 π1 hS1 hkd => ?_) (fun z1 _ _ _ _ => absurd ((iBel_iff (by omega)).mpr ⟨k, hk2, rfl⟩) z1)
        obtain rfl : k = j := (nI_eq (by omega) (by omega)).mp e
        have hS := hS1
        have hL := hS1.1.lay
        have h := h.kq hL hkd
        rw [pgv_1]
        refine gKv ?_
        refine E_aload dL_isTold_122 rfl ?_
        refine E_iload dL_isTold_124 rfl ?_
        refine E_ialdL (v := nI (yN (xP c k) + 256 * yC (xP c k))) dL_isTold_126 (l_133 hL) (k_133 hL) rfl (by omega) (by decide) (h.c0 hk2) ?_
        refine E_bipush (v := nI 8) dL_isTold_127 (by decide) ?_
        refine E_ishr dL_isTold_129 ?_
        rw [gE_8 hcx]
        refine E_icmp_ne_n (tgt := 178) dL_isTold_130 (by decide) (by omega) (by omega) (fun c_130 => ?_) (fun c_130 => ?_)
        · refine E_iconst (v := nI 0) dL_isTold_178 (by decide) ?_
          refine E_iret dL_isTold_179 (Or.inr ⟨rfl, by decide⟩) ?_
          exfalso
          first
            | exact c_95 rfl
            | exact c_113 rfl
            | exact c_130 rfl
            | exact c_145 rfl
            | exact c_160 rfl
            | exact c_175 rfl
        · refine E_aload_n dL_isTold_133 rfl ?_
          refine E_iload dL_isTold_134 rfl ?_
          refine E_iconst (v := nI 0) dL_isTold_136 (by decide) ?_
          refine E_room (Nat.le_refl _) (k' := 2 + (4 + (9 * (64 - (k + 1)) + 180))) (n' := 12 + (24 + (54 * (64 - (k + 1)) + 6400))) (by omega) (by omega) ?_
          refine E_callT3 (fr' := 9) (k1 := 2) (n1 := 12) (k2 := (4 + (9 * (64 - (k + 1)) + 180))) (n2 := (24 + (54 * (64 - (k + 1)) + 6400))) dL_isTold_137 kO_L_place kL_L_268 (by exact Nat.le_of_ble_eq_true rfl) (by decide) (by exact Nat.le_of_ble_eq_true rfl) (Or.inr (gW_at 1099 (by decide +kernel) (by decide +kernel))) rfl ?_
          refine w_place hst hS (fun j hj e z1 M1 π1 hS1 hkd => ?_) (fun z1 _ _ _ _ => absurd ((iBel_iff (by omega)).mpr ⟨k, hk2, rfl⟩) z1) (fun j hj e z1 _ _ _ _ => absurd (by decide) z1)
          obtain rfl : k = j := (nI_eq (by omega) (by omega)).mp e
          have hS := hS1
          have hL := hS1.1.lay
          have h := h.kq hL hkd
          rw [plc_0]
          refine gKv ?_
          refine E_aload dL_isTold_140 rfl ?_
          refine E_iload dL_isTold_142 rfl ?_
          refine E_ialdL (v := pgv c 4 k) dL_isTold_144 (l_136 hL) (k_136 hL) rfl (by omega) (by decide) (h.c3 hk2) ?_
          refine E_icmp_ne_r (tgt := 178) dL_isTold_145 (by decide) (fun c_145 => ?_) (fun c_145 => ?_)
          · refine E_iconst (v := nI 0) dL_isTold_178 (by decide) ?_
            refine E_iret dL_isTold_179 (Or.inr ⟨rfl, by decide⟩) ?_
            exfalso
            first
              | exact c_95 rfl
              | exact c_113 rfl
              | exact c_130 rfl
              | exact c_145 rfl
              | exact c_160 rfl
              | exact c_175 rfl
          · refine E_aload_n dL_isTold_148 rfl ?_
            refine E_iload dL_isTold_149 rfl ?_
            refine E_iconst (v := nI 1) dL_isTold_151 (by decide) ?_
            refine E_room (Nat.le_refl _) (k' := 2 + (2 + (9 * (64 - (k + 1)) + 180))) (n' := 12 + (12 + (54 * (64 - (k + 1)) + 6400))) (by omega) (by omega) ?_
            refine E_callT3 (fr' := 9) (k1 := 2) (n1 := 12) (k2 := (2 + (9 * (64 - (k + 1)) + 180))) (n2 := (12 + (54 * (64 - (k + 1)) + 6400))) dL_isTold_152 kO_L_place kL_L_268 (by exact Nat.le_of_ble_eq_true rfl) (by decide) (by exact Nat.le_of_ble_eq_true rfl) (Or.inr (gW_at 1099 (by decide +kernel) (by decide +kernel))) rfl ?_
            refine w_place hst hS (fun j hj e z1 M1 π1 hS1 hkd => ?_) (fun z1 _ _ _ _ => absurd ((iBel_iff (by omega)).mpr ⟨k, hk2, rfl⟩) z1) (fun j hj e z1 _ _ _ _ => absurd (by decide) z1)
            obtain rfl : k = j := (nI_eq (by omega) (by omega)).mp e
            have hS := hS1
            have hL := hS1.1.lay
            have h := h.kq hL hkd
            rw [plc_1]
            refine gKv ?_
            refine E_aload dL_isTold_155 rfl ?_
            refine E_iload dL_isTold_157 rfl ?_
            refine E_ialdL (v := pgv c 3 k) dL_isTold_159 (l_135 hL) (k_135 hL) rfl (by omega) (by decide) (h.c2 hk2) ?_
            refine E_icmp_ne_r (tgt := 178) dL_isTold_160 (by decide) (fun c_160 => ?_) (fun c_160 => ?_)
            · refine E_iconst (v := nI 0) dL_isTold_178 (by decide) ?_
              refine E_iret dL_isTold_179 (Or.inr ⟨rfl, by decide⟩) ?_
              exfalso
              first
                | exact c_95 rfl
                | exact c_113 rfl
                | exact c_130 rfl
                | exact c_145 rfl
                | exact c_160 rfl
                | exact c_175 rfl
            · refine E_aload_n dL_isTold_163 rfl ?_
              refine E_iload dL_isTold_164 rfl ?_
              refine E_iconst (v := nI 2) dL_isTold_166 (by decide) ?_
              refine E_room (Nat.le_refl _) (k' := 2 + (9 * (64 - (k + 1)) + 180)) (n' := 12 + (54 * (64 - (k + 1)) + 6400)) (by omega) (by omega) ?_
              refine E_callT3 (fr' := 9) (k1 := 2) (n1 := 12) (k2 := (9 * (64 - (k + 1)) + 180)) (n2 := (54 * (64 - (k + 1)) + 6400)) dL_isTold_167 kO_L_place kL_L_268 (by exact Nat.le_of_ble_eq_true rfl) (by decide) (by exact Nat.le_of_ble_eq_true rfl) (Or.inr (gW_at 1099 (by decide +kernel) (by decide +kernel))) rfl ?_
              refine w_place hst hS (fun j hj e z1 M1 π1 hS1 hkd => ?_) (fun z1 _ _ _ _ => absurd ((iBel_iff (by omega)).mpr ⟨k, hk2, rfl⟩) z1) (fun j hj e z1 _ _ _ _ => absurd (by decide) z1)
              obtain rfl : k = j := (nI_eq (by omega) (by omega)).mp e
              have hS := hS1
              have hL := hS1.1.lay
              have h := h.kq hL hkd
              rw [plc_2]
              refine gKv ?_
              refine E_aload dL_isTold_170 rfl ?_
              refine E_iload dL_isTold_172 rfl ?_
              refine E_ialdL (v := pgv c 2 k) dL_isTold_174 (l_134 hL) (k_134 hL) rfl (by omega) (by decide) (h.c1 hk2) ?_
              refine E_icmp_eq (tgt := 180) dL_isTold_175 (by decide) (fun c_175 => ?_) (fun c_175 => ?_)
              · refine E_iinc_n (d := 1) dL_isTold_180 rfl rfl rfl (by decide) rfl ?_
                refine E_goto (tgt := 70) dL_isTold_183 (by decide) ?_
                exact ih (by omega) (Nat.zero_le _) _ _ hS h
              · refine E_iconst (v := nI 0) dL_isTold_178 (by decide) ?_
                refine E_iret dL_isTold_179 (Or.inr ⟨rfl, by decide⟩) ?_
                exfalso
                first
                  | exact c_95 rfl
                  | exact c_113 rfl
                  | exact c_130 rfl
                  | exact c_145 rfl
                  | exact c_160 rfl
                  | exact c_175 rfl
