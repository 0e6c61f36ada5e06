/-! the law: a rule drawn -/
def xwZ (x0 x1 x2 x3 x4 x5 : Int32) (w : Nat) : Int32 := if w = 0 then x0 else if w = 1 then x1 else if w = 2 then x2 else if w = 3 then x3 else if w = 4 then x4 else x5
def n10 (x : Int32) : Prop := ∃ j, j < 1024 ∧ x + nI 100 = nI j
def drZ (kd : Nat) (x0 x1 x2 x3 x4 x5 : Int32) : Prop := iRl kd x0 x1 x2 x3 x4 x5 ∧ n10 x0 ∧ n10 x1 ∧ n10 x2 ∧ n10 x3 ∧ n10 x4 ∧ n10 x5 ∧ rgZ kd x1 x2 x3 ∧ (∃ j, (if leadOf kd = 0 then x0 else x1) = nI j ∧ (j < 45 ∨ (300 ≤ j ∧ j ≤ 302))) ∧ (kd = 6 → bd x2 10)
def fa4 (x : Int32) : Prop := ∃ l, l < 9 ∧ x = nI l - nI 4
def fa10 (x : Int32) : Prop := ∃ l, l < 21 ∧ x = nI l - nI 10
def lead1 (kd : Nat) : Nat := if kd = 4 ∨ kd = 5 then 1 else 0
def d2 (kd : Nat) (x : Int32) : Prop := (kd < 3 → gZ x) ∧ (3 ≤ kd → kd < 7 → itV 0 x) ∧ (kd = 7 → x = -100 ∨ fa4 x) ∧ (kd = 8 → x = -100 ∨ ∃ l, l < 3 ∧ x = nI l) ∧ (kd = 9 → ∃ l, l < 2 ∧ x = nI l)
def d3 (kd : Nat) (x : Int32) : Prop := (kd = 0 → x = nI 0) ∧ (kd = 1 ∨ kd = 2 → gZ x) ∧ (3 ≤ kd → kd < 6 → itV 1 x) ∧ (kd = 6 ∨ kd = 9 → fa10 x) ∧ (kd = 7 → x = -100 ∨ fa10 x) ∧ (kd = 8 → ∃ l, l < 2 ∧ x = nI l)
def d4 (kd : Nat) (x : Int32) : Prop := (kd = 0 ∨ kd = 6 ∨ kd = 7 → x = nI 0) ∧ (kd = 1 → x = -100 ∨ gZ x) ∧ (kd = 2 ∨ kd = 3 ∨ kd = 5 → gZ x) ∧ (kd = 4 → itV 1 x) ∧ (kd = 8 ∨ kd = 9 → fa4 x)
def d5 (kd : Nat) (x2 x : Int32) : Prop := (¬ kd = 4 → ¬ kd = 8 → x = nI 0) ∧ (kd = 4 → x = nI 0 ∨ (x = nI 1 ∧ ¬ x2 = -100)) ∧ (kd = 8 → fa4 x)
def d6 (kd : Nat) (x : Int32) : Prop := (¬ kd = 4 → x = nI 0) ∧ (kd = 4 → ∃ l, l < 6 ∧ x = nI l)
theorem n10_n {j : Nat} (h : j < 900) : n10 (nI j) := ⟨j + 100, by omega, nI_add _ _⟩
theorem n10_m : n10 (-100) := ⟨0, by decide, by decide⟩
theorem n10_g {x : Int32} (h : gZ x) : n10 x := by
  obtain ⟨j, h1, rfl⟩ := h
  have := glZ_256 h1
  exact n10_n (by omega)
theorem n10_i {n : Nat} {x : Int32} (h : itV n x) : n10 x := by
  rcases h with ⟨-, rfl⟩ | ⟨j, h1, rfl⟩
  · exact n10_m
  · exact n10_n (by unfold sgZ at h1; omega)
theorem n10_s {l s : Nat} (h : l < 900) (hs : s ≤ 100) : n10 (nI l - nI s) := ⟨l + (100 - s), by omega, by
  rw [show nI 100 = nI s + nI (100 - s) by rw [nI_add]; congr 1; omega, ← Int32.add_assoc, Int32.sub_add_cancel, nI_add]⟩
theorem n10_4 {x : Int32} (h : fa4 x) : n10 x := by obtain ⟨l, h1, rfl⟩ := h; exact n10_s (by omega) (by decide)
theorem n10_10 {x : Int32} (h : fa10 x) : n10 x := by obtain ⟨l, h1, rfl⟩ := h; exact n10_s (by omega) (by decide)
theorem far_s {l s : Nat} (h : l ≤ 50) (hs : s ≤ 50) : iFar (nI l - nI s) := by
  have h1 := bd_sub (bd_n (a := l) (by omega)) (bd_n (a := s) (by omega)) (by omega)
  have e1 : (nI l - nI s).toInt = (l : Int) - s := by rw [Int32.toInt_sub, nI_toInt (by omega), nI_toInt (by omega), bm (by omega) (by omega)]
  refine ⟨?_, ?_⟩
  · rw [Int32.le_iff_toInt_le, e1, show (-50 : Int32).toInt = -50 by decide]; omega
  · rw [Int32.le_iff_toInt_le, e1, nI_toInt (by decide)]; omega
theorem fa4_f {x : Int32} (h : fa4 x) : iFar x := by obtain ⟨l, h1, rfl⟩ := h; exact far_s (by omega) (by decide)
theorem fa10_f {x : Int32} (h : fa10 x) : iFar x := by obtain ⟨l, h1, rfl⟩ := h; exact far_s (by omega) (by decide)
theorem fa10_b {x : Int32} (h : fa10 x) : bd x 10 := by
  obtain ⟨l, h1, rfl⟩ := h
  unfold bd
  rw [Int32.toInt_sub, nI_toInt (by omega), nI_toInt (by omega), bm (by omega) (by omega)]
  omega
theorem gly_n {j : Nat} (h : j < 256) : iGlyph (nI j) := (iIn_n (by omega) (by decide) (by decide)).mpr ⟨Nat.zero_le _, by omega⟩
theorem gZ_y {x : Int32} (h : gZ x) : iGlyph x := by obtain ⟨j, h1, rfl⟩ := h; exact gly_n (glZ_256 h1)
theorem itm_n {j : Nat} (h : j < 256 ∨ (300 ≤ j ∧ j ≤ 305)) : iItem (nI j) := by
  rcases h with h | h
  · exact Or.inl (gly_n h)
  · exact Or.inr ((iIn_n (by omega) (by decide) (by decide)).mpr h)
theorem itV_0 {x : Int32} (h : itV 0 x) : iItem x ∧ ∃ j, x = nI j ∧ (j < 45 ∨ (300 ≤ j ∧ j ≤ 302)) := by
  rcases h with ⟨h1, -⟩ | ⟨j, h1, rfl⟩
  · omega
  · unfold sgZ at h1
    exact ⟨itm_n (by omega), j, rfl, by omega⟩
theorem itV_1 {n : Nat} {x : Int32} (h : itV n x) : iItemN x := by
  rcases h with ⟨h1, rfl⟩ | ⟨j, h1, rfl⟩
  · exact Or.inl rfl
  · unfold sgZ at h1
    exact Or.inr (itm_n (by omega))
theorem in_n {j b : Nat} (h : j ≤ b) (hb : b < 2 ^ 30) : iIn (nI j) (nI 0) (nI b) := (iIn_n (by omega) (by decide) (by omega)).mpr ⟨Nat.zero_le _, h⟩
theorem drZ_of {kd : Nat} {x0 x1 x2 x3 x4 x5 : Int32} (hk : kd < 10) (h0 : itV (lead1 kd) x0) (h1 : d2 kd x1) (h2 : d3 kd x2) (h3 : d4 kd x3) (h4 : d5 kd x2 x4) (h5 : d6 kd x5) : drZ kd x0 x1 x2 x3 x4 x5 := by
  rcases (show kd = 0 ∨ kd = 1 ∨ kd = 2 ∨ kd = 3 ∨ kd = 4 ∨ kd = 5 ∨ kd = 6 ∨ kd = 7 ∨ kd = 8 ∨ kd = 9 by omega) with rfl | rfl | rfl | rfl | rfl | rfl | rfl | rfl | rfl | rfl
  · have i0 : itV 0 x0 := h0
    have g1 := h1.1 (by decide)
    obtain rfl := h2.1 rfl
    obtain rfl := h3.1 (Or.inl rfl)
    obtain rfl := h4.1 (by decide) (by decide)
    obtain rfl := h5.1 (by decide)
    exact ⟨⟨⟨(itV_0 i0).1, gZ_y g1, rfl, rfl⟩, rfl, rfl⟩, n10_i i0, n10_g g1, n10_n (by decide), n10_n (by decide), n10_n (by decide), n10_n (by decide), ⟨fun _ => g1, fun q => by omega, fun q => by omega, fun q => by omega⟩, (itV_0 i0).2, fun q => by omega⟩
  · have i0 : itV 0 x0 := h0
    have g1 := h1.1 (by decide)
    have g2 := h2.2.1 (Or.inl rfl)
    have g3 := h3.2.1 rfl
    obtain rfl := h4.1 (by decide) (by decide)
    obtain rfl := h5.1 (by decide)
    exact ⟨⟨⟨(itV_0 i0).1, gZ_y g1, gZ_y g2, g3.imp id gZ_y⟩, rfl, rfl⟩, n10_i i0, n10_g g1, n10_g g2, g3.elim (fun q => by rw [q]; exact n10_m) n10_g, n10_n (by decide), n10_n (by decide), ⟨fun q => by omega, fun _ => ⟨g1, g2, g3⟩, fun q => by omega, fun q => by omega⟩, (itV_0 i0).2, fun q => by omega⟩
  · have i0 : itV 0 x0 := h0
    have g1 := h1.1 (by decide)
    have g2 := h2.2.1 (Or.inr rfl)
    have g3 := h3.2.2.1 (Or.inl rfl)
    obtain rfl := h4.1 (by decide) (by decide)
    obtain rfl := h5.1 (by decide)
    exact ⟨⟨⟨(itV_0 i0).1, gZ_y g1, gZ_y g2, gZ_y g3⟩, rfl, rfl⟩, n10_i i0, n10_g g1, n10_g g2, n10_g g3, n10_n (by decide), n10_n (by decide), ⟨fun q => by omega, fun q => by omega, fun _ => ⟨g1, g2, g3⟩, fun q => by omega⟩, (itV_0 i0).2, fun q => by omega⟩
  · have i0 : itV 0 x0 := h0
    have g1 := h1.2.1 (by decide) (by decide)
    have g2 := h2.2.2.1 (by decide) (by decide)
    have g3 := h3.2.2.1 (Or.inr (Or.inl rfl))
    obtain rfl := h4.1 (by decide) (by decide)
    obtain rfl := h5.1 (by decide)
    exact ⟨⟨⟨(itV_0 i0).1, (itV_0 g1).1, itV_1 g2, gZ_y g3⟩, rfl, rfl⟩, n10_i i0, n10_i g1, n10_i g2, n10_g g3, n10_n (by decide), n10_n (by decide), ⟨fun q => by omega, fun q => by omega, fun q => by omega, fun _ => g3⟩, (itV_0 i0).2, fun q => by omega⟩
  · have i0 : itV 1 x0 := h0
    have g1 := h1.2.1 (by decide) (by decide)
    have g2 := h2.2.2.1 (by decide) (by decide)
    have g3 := h3.2.2.2.1 rfl
    have g4 := h4.2.1 rfl
    obtain ⟨l5, h5a, rfl⟩ := h5.2 rfl
    exact ⟨⟨⟨itV_1 i0, (itV_0 g1).1, itV_1 g2, itV_1 g3⟩, g4, in_n (by omega) (by decide)⟩, n10_i i0, n10_i g1, n10_i g2, n10_i g3, g4.elim (fun q => by rw [q]; exact n10_n (by decide)) (fun q => by rw [q.1]; exact n10_n (by decide)), n10_n (by omega), ⟨fun q => by omega, fun q => by omega, fun q => by omega, fun q => by omega⟩, (itV_0 g1).2, fun q => by omega⟩
  · have i0 : itV 1 x0 := h0
    have g1 := h1.2.1 (by decide) (by decide)
    have g2 := h2.2.2.1 (by decide) (by decide)
    have g3 := h3.2.2.1 (Or.inr (Or.inr rfl))
    obtain rfl := h4.1 (by decide) (by decide)
    obtain rfl := h5.1 (by decide)
    exact ⟨⟨⟨itV_1 i0, (itV_0 g1).1, itV_1 g2, gZ_y g3⟩, rfl, rfl⟩, n10_i i0, n10_i g1, n10_i g2, n10_g g3, n10_n (by decide), n10_n (by decide), ⟨fun q => by omega, fun q => by omega, fun q => by omega, fun _ => g3⟩, (itV_0 g1).2, fun q => by omega⟩
  · have i0 : itV 0 x0 := h0
    have g1 := h1.2.1 (by decide) (by decide)
    have g2 := h2.2.2.2.1 (Or.inl rfl)
    obtain rfl := h3.1 (Or.inr (Or.inl rfl))
    obtain rfl := h4.1 (by decide) (by decide)
    obtain rfl := h5.1 (by decide)
    exact ⟨⟨⟨(itV_0 i0).1, (itV_0 g1).1, fa10_f g2, rfl⟩, rfl, rfl⟩, n10_i i0, n10_i g1, n10_10 g2, n10_n (by decide), n10_n (by decide), n10_n (by decide), ⟨fun q => by omega, fun q => by omega, fun q => by omega, fun q => by omega⟩, (itV_0 i0).2, fun _ => fa10_b g2⟩
  · have i0 : itV 0 x0 := h0
    have g1 := h1.2.2.1 rfl
    have g2 := h2.2.2.2.2.1 rfl
    obtain rfl := h3.1 (Or.inr (Or.inr rfl))
    obtain rfl := h4.1 (by decide) (by decide)
    obtain rfl := h5.1 (by decide)
    exact ⟨⟨⟨(itV_0 i0).1, g1.imp id fa4_f, g2.imp id fa10_f, rfl⟩, rfl, rfl⟩, n10_i i0, g1.elim (fun q => by rw [q]; exact n10_m) n10_4, g2.elim (fun q => by rw [q]; exact n10_m) n10_10, n10_n (by decide), n10_n (by decide), n10_n (by decide), ⟨fun q => by omega, fun q => by omega, fun q => by omega, fun q => by omega⟩, (itV_0 i0).2, fun q => by omega⟩
  · have i0 : itV 0 x0 := h0
    have g1 := h1.2.2.2.1 rfl
    obtain ⟨l2, h2a, rfl⟩ := h2.2.2.2.2.2 rfl
    have g3 := h3.2.2.2.2 (Or.inl rfl)
    have g4 := h4.2.2 rfl
    obtain rfl := h5.1 (by decide)
    exact ⟨⟨⟨(itV_0 i0).1, g1.imp id (fun ⟨l, q, e⟩ => by rw [e]; exact in_n (by omega) (by decide)), in_n (by omega) (by decide), fa4_f g3⟩, fa4_f g4, rfl⟩, n10_i i0, g1.elim (fun q => by rw [q]; exact n10_m) (fun ⟨l, q, e⟩ => by rw [e]; exact n10_n (by omega)), n10_n (by omega), n10_4 g3, n10_4 g4, n10_n (by decide), ⟨fun q => by omega, fun q => by omega, fun q => by omega, fun q => by omega⟩, (itV_0 i0).2, fun q => by omega⟩
  · have i0 : itV 0 x0 := h0
    obtain ⟨l1, h1a, rfl⟩ := h1.2.2.2.2 rfl
    have g2 := h2.2.2.2.1 (Or.inr rfl)
    have g3 := h3.2.2.2.2 (Or.inr rfl)
    obtain rfl := h4.1 (by decide) (by decide)
    obtain rfl := h5.1 (by decide)
    exact ⟨⟨⟨(itV_0 i0).1, in_n (by omega) (by decide), fa10_f g2, fa4_f g3⟩, rfl, rfl⟩, n10_i i0, n10_n (by omega), n10_10 g2, n10_4 g3, n10_n (by decide), n10_n (by decide), ⟨fun q => by omega, fun q => by omega, fun q => by omega, fun q => by omega⟩, (itV_0 i0).2, fun q => by omega⟩
/-- what no rule is -/
theorem iRl_0 {kd : Nat} {a b x d e f : Int32} (hk : kd < 10) (h : iRl kd a b x d e f) : iItemN a ∧ ¬ b = nI 999 ∧ ¬ e = nI 51 ∧ ¬ f = nI 12 := by
  have n1 : ¬ iItem (nI 999) := by decide
  have n2 : ¬ iGlyph (nI 999) := by decide
  have n3 : ¬ iFarN (nI 999) := by decide
  have n4 : ¬ (nI 999 = -100 ∨ iIn (nI 999) (nI 0) (nI 2)) := by decide
  have n5 : ¬ iClass (nI 999) := by decide
  have n6 : ¬ iFar (nI 51) := by decide
  rcases (show kd = 0 ∨ kd = 1 ∨ kd = 2 ∨ kd = 3 ∨ kd = 4 ∨ kd = 5 ∨ kd = 6 ∨ kd = 7 ∨ kd = 8 ∨ kd = 9 by omega) with rfl | rfl | rfl | rfl | rfl | rfl | rfl | rfl | rfl | rfl
  · obtain ⟨h1, h2, h3⟩ := h
    have h4 := iF0 h1
    have h2 : e = 0 := h2
    have h3 : f = 0 := h3
    exact ⟨Or.inr h4.1, fun q => n2 (q ▸ h4.2.1), fun q => by rw [q] at h2; exact absurd h2 (by decide), fun q => by rw [q] at h3; exact absurd h3 (by decide)⟩
  · obtain ⟨h1, h2, h3⟩ := h
    have h4 := iF1 h1
    have h2 : e = 0 := h2
    have h3 : f = 0 := h3
    exact ⟨Or.inr h4.1, fun q => n2 (q ▸ h4.2.1), fun q => by rw [q] at h2; exact absurd h2 (by decide), fun q => by rw [q] at h3; exact absurd h3 (by decide)⟩
  · obtain ⟨h1, h2, h3⟩ := h
    have h4 := iF2 h1
    have h2 : e = 0 := h2
    have h3 : f = 0 := h3
    exact ⟨Or.inr h4.1, fun q => n2 (q ▸ h4.2.1), fun q => by rw [q] at h2; exact absurd h2 (by decide), fun q => by rw [q] at h3; exact absurd h3 (by decide)⟩
  · obtain ⟨h1, h2, h3⟩ := h
    have h4 := iF3 h1
    have h2 : e = 0 := h2
    have h3 : f = 0 := h3
    exact ⟨Or.inr h4.1, fun q => n1 (q ▸ h4.2.1), fun q => by rw [q] at h2; exact absurd h2 (by decide), fun q => by rw [q] at h3; exact absurd h3 (by decide)⟩
  · obtain ⟨h1, h2, h3⟩ := h
    have h4 := iF4 h1
    have h2 : e = 0 ∨ (e = nI 1 ∧ ¬ x = -100) := h2
    have h3 : iIn f (nI 0) (nI 11) := h3
    exact ⟨h4.1, fun q => n1 (q ▸ h4.2.1), fun q => by rw [q] at h2; exact h2.elim (fun z => absurd z (by decide)) (fun z => absurd z.1 (by decide)), fun q => by rw [q] at h3; exact absurd h3 (by decide)⟩
  · obtain ⟨h1, h2, h3⟩ := h
    have h4 := iF5 h1
    have h2 : e = 0 := h2
    have h3 : f = 0 := h3
    exact ⟨h4.1, fun q => n1 (q ▸ h4.2.1), fun q => by rw [q] at h2; exact absurd h2 (by decide), fun q => by rw [q] at h3; exact absurd h3 (by decide)⟩
  · obtain ⟨h1, h2, h3⟩ := h
    have h4 := iF6 h1
    have h2 : e = 0 := h2
    have h3 : f = 0 := h3
    exact ⟨Or.inr h4.1, fun q => n1 (q ▸ h4.2.1), fun q => by rw [q] at h2; exact absurd h2 (by decide), fun q => by rw [q] at h3; exact absurd h3 (by decide)⟩
  · obtain ⟨h1, h2, h3⟩ := h
    have h4 := iF7 h1
    have h2 : e = 0 := h2
    have h3 : f = 0 := h3
    exact ⟨Or.inr h4.1, fun q => n3 (q ▸ h4.2.1), fun q => by rw [q] at h2; exact absurd h2 (by decide), fun q => by rw [q] at h3; exact absurd h3 (by decide)⟩
  · obtain ⟨h1, h2, h3⟩ := h
    have h4 := iF8 h1
    have h2 : iFar e := h2
    have h3 : f = 0 := h3
    exact ⟨Or.inr h4.1, fun q => n4 (q ▸ h4.2.1), fun q => n6 (q ▸ h2), fun q => by rw [q] at h3; exact absurd h3 (by decide)⟩
  · obtain ⟨h1, h2, h3⟩ := h
    have h4 := iF9 h1
    have h2 : e = 0 := h2
    have h3 : f = 0 := h3
    exact ⟨Or.inr h4.1, fun q => n5 (q ▸ h4.2.1), fun q => by rw [q] at h2; exact absurd h2 (by decide), fun q => by rw [q] at h3; exact absurd h3 (by decide)⟩
