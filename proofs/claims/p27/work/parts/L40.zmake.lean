/-! constructors: what has been made, laid, written -/
def frL : List (Nat × (Nat × Nat)) := [(0, (0, 1)), (2, (0, 3)), (2, (1, 4)), (2, (2, 5)), (0, (1, 2)), (6, (0, 7)), (7, (0, 8)), (7, (1, 9)), (7, (2, 10)), (7, (3, 11)), (7, (4, 12)), (7, (5, 13)), (7, (6, 14)), (7, (7, 15)), (7, (8, 16)), (7, (9, 17)), (7, (10, 18)), (7, (11, 19)), (7, (12, 20)), (7, (13, 21)), (7, (14, 22)), (7, (15, 23)), (7, (16, 24)), (7, (17, 25)), (7, (18, 26)), (7, (19, 27)), (7, (20, 28)), (7, (21, 29)), (7, (22, 30)), (7, (23, 31)), (7, (24, 32)), (7, (25, 33)), (7, (26, 34)), (7, (27, 35)), (7, (28, 36)), (7, (29, 37)), (7, (30, 38)), (7, (31, 39)), (7, (32, 40)), (7, (33, 41)), (7, (34, 42)), (7, (35, 43)), (7, (36, 44)), (7, (37, 45)), (7, (38, 46)), (7, (39, 47)), (7, (40, 48)), (7, (41, 49)), (7, (42, 50)), (7, (43, 51)), (7, (44, 52)), (7, (45, 53)), (7, (46, 54)), (7, (47, 55)), (7, (48, 56)), (7, (49, 57)), (7, (50, 58)), (7, (51, 59)), (7, (52, 60)), (7, (53, 61)), (7, (54, 62)), (7, (55, 63)), (7, (56, 64)), (7, (57, 65)), (7, (58, 66)), (7, (59, 67)), (7, (60, 68)), (7, (61, 69)), (7, (62, 70)), (7, (63, 71)), (0, (2, 6)), (72, (0, 6)), (0, (3, 72)), (73, (1, 74)), (73, (0, 6)), (0, (4, 73)), (75, (0, 6)), (0, (5, 75)), (76, (0, 77)), (0, (6, 76)), (79, (0, 80)), (79, (1, 81)), (79, (2, 82)), (79, (3, 83)), (79, (4, 84)), (79, (5, 85)), (79, (6, 86)), (79, (7, 87)), (79, (8, 88)), (79, (9, 89)), (78, (0, 79)), (78, (1, 90)), (78, (2, 91)), (78, (3, 92)), (78, (4, 93)), (78, (5, 94)), (78, (6, 95)), (78, (7, 96)), (78, (8, 97)), (0, (7, 78)), (99, (0, 100)), (99, (1, 101)), (99, (2, 102)), (99, (3, 103)), (99, (4, 104)), (99, (5, 105)), (99, (6, 106)), (99, (7, 107)), (99, (8, 108)), (99, (9, 109)), (98, (0, 99)), (98, (1, 110)), (98, (2, 111)), (98, (3, 112)), (98, (4, 113)), (98, (5, 114)), (98, (6, 115)), (98, (7, 116)), (98, (8, 117)), (0, (8, 98)), (118, (0, 119)), (118, (1, 120)), (118, (2, 121)), (118, (3, 122)), (1, (0, 118)), (123, (0, 124)), (123, (1, 125)), (123, (2, 126)), (123, (3, 127)), (1, (1, 123))]
def wkL : List (Nat × (Nat × Nat)) := [(2, (4, 5)), (0, (10, 11)), (120, (0, 256)), (122, (0, 256)), (125, (0, 256)), (127, (0, 256))]
def iMk (v : Nat) : Prop := cMk v ∨ v = 44 ∨ v = 65
noncomputable def F1 (v : Nat) : Int32 := cI (iMk v) (nI 0) (-100)
noncomputable def F2 (v : Nat) : Int32 := cI (iMk v ∨ v = 2 ∨ v = 3) (nI 0) (nI 10)
noncomputable def wFn : Nat → Nat → Int32
  | 2, j => F1 j
  | 3, j => F2 j
  | 4, j => F1 j
  | 5, j => F2 j
  | _, _ => nI 1
def S0 (a j : Nat) : Prop := (a = 0 ∧ j = 10) ∨ (a = 2 ∧ j = 4) ∨ a = 73 ∨ a = 75 ∨ a = 120 ∨ a = 122 ∨ a = 125 ∨ a = 127
theorem frL_nd : frL.Pairwise (fun t u => ¬ (t.1 = u.1 ∧ t.2.1 = u.2.1)) := by decide +kernel
theorem fr_nd {i j : Nat} {t u : Nat × (Nat × Nat)} (h : i < j) (h1 : frL[i]? = some t) (h2 : frL[j]? = some u) : ¬ (t.1 = u.1 ∧ t.2.1 = u.2.1) := by
  obtain ⟨a1, rfl⟩ := List.getElem?_eq_some_iff.mp h1
  obtain ⟨a2, rfl⟩ := List.getElem?_eq_some_iff.mp h2
  exact List.pairwise_iff_getElem.mp frL_nd i j a1 a2 h
/-- n places are made, m references laid, w facts of ints hold -/
def gG0 (n m w : Nat) (M : gM) : Prop := mN M = n ∧ (∀ a, a < n → mK M a = glayL.getD a (0, 0)) ∧ (∀ i t, i < m → frL[i]? = some t → t.1 < n ∧ mR M t.1 t.2.1 = t.2.2 + 1) ∧ (∀ i t, i < w → wkL[i]? = some t → t.1 < n ∧ ∀ j, t.2.1 ≤ j → j < t.2.2 → mI M t.1 j = wFn i j) ∧ ∀ a j, ¬ S0 a j → mI M a j = 0
section G0
variable {n m w : Nat} {M : gM}
theorem gG0.nn (h : gG0 n m w M) : mN M = n := h.1
theorem gG0.lt (h : gG0 n m w M) {a : Nat} (ha : a < n) : a < mN M := by rw [h.1]; exact ha
theorem gG0.kd (h : gG0 n m w M) {a : Nat} {κ : Nat × Nat} (ha : a < n) (hk : glayL.getD a (0, 0) = κ) : mK M a = κ := (h.2.1 a ha).trans hk
theorem gG0.rf (h : gG0 n m w M) {i a f b : Nat} (hi : i < m) (hk : frL[i]? = some (a, (f, b))) : mR M a f = b + 1 := (h.2.2.1 i _ hi hk).2
theorem gG0.new (h : gG0 n m w M) {κ : Nat × Nat} (hk : glayL.getD n (0, 0) = κ) : gG0 (n + 1) m w (mNew M κ) := by
  obtain ⟨h1, h2, h3, h4, h5⟩ := h
  refine ⟨by rw [mN_new, h1], fun a ha => ?_, fun i t q1 q2 => ⟨?_, ?_⟩, fun i t q1 q2 => ⟨?_, fun j q3 q4 => ?_⟩, fun a j q => ?_⟩
  · rw [mK_new]
    by_cases e : a = mN M
    · rw [if_pos e, e, h1, hk]
    · rw [if_neg e]; exact h2 a (by omega)
  · have := (h3 i t q1 q2).1; omega
  · have := (h3 i t q1 q2).1
    rw [mR_new, if_neg (by omega)]; exact (h3 i t q1 q2).2
  · have := (h4 i t q1 q2).1; omega
  · have := (h4 i t q1 q2).1
    rw [mI_new, if_neg (by omega)]; exact (h4 i t q1 q2).2 j q3 q4
  · rw [mI_new]
    split
    · rfl
    · exact h5 a j q
theorem gG0.ref (h : gG0 n m w M) {a f b : Nat} (ha : a < n) (hm : frL[m]? = some (a, (f, b))) : gG0 n (m + 1) w (sR M a f (b + 1)) := by
  obtain ⟨h1, h2, h3, h4, h5⟩ := h
  refine ⟨h1, h2, fun i t q1 q2 => ?_, h4, h5⟩
  by_cases e : i = m
  · subst e
    rw [hm] at q2
    cases q2
    exact ⟨ha, mR_eq⟩
  · have hne := fr_nd (show i < m by omega) q2 hm
    exact ⟨(h3 i t (by omega) q2).1, (mR_sR _ _ _ _ _ _).trans ((if_neg hne).trans (h3 i t (by omega) q2).2)⟩
theorem gG0.nul (h : gG0 n m w M) {a f : Nat} (h0 : ∀ t ∈ frL, ¬ (t.1 = a ∧ t.2.1 = f)) : gG0 n m w (sR M a f 0) := by
  obtain ⟨h1, h2, h3, h4, h5⟩ := h
  exact ⟨h1, h2, fun i t q1 q2 => ⟨(h3 i t q1 q2).1, (mR_sR _ _ _ _ _ _).trans ((if_neg (h0 t (List.mem_of_getElem? q2))).trans (h3 i t q1 q2).2)⟩, h4, h5⟩
theorem gG0.wr (h : gG0 n m w M) {a f : Nat} {v : Int32} (hw : ∀ t ∈ wkL.take w, ¬ (t.1 = a ∧ t.2.1 ≤ f ∧ f < t.2.2)) (hs : S0 a f ∨ v = 0) : gG0 n m w (sI M a f v) := by
  obtain ⟨h1, h2, h3, h4, h5⟩ := h
  refine ⟨h1, h2, h3, fun i t q1 q2 => ⟨(h4 i t q1 q2).1, fun j q3 q4 => ?_⟩, fun b j q => ?_⟩
  · refine (mI_sI _ _ _ _ _ _).trans ((if_neg (fun z => ?_)).trans ((h4 i t q1 q2).2 j q3 q4))
    refine hw t (List.mem_of_getElem? (i := i) ?_) ⟨z.1, by rw [← z.2]; exact q3, by rw [← z.2]; exact q4⟩
    rw [List.getElem?_take, if_pos q1]; exact q2
  · rw [mI_sI]
    by_cases e : b = a ∧ j = f
    · rw [if_pos e]
      rcases hs with hs | hs
      · rw [e.1, e.2] at q; exact absurd hs q
      · exact hs
    · rw [if_neg e]; exact h5 b j q
theorem gG0.is (h : gG0 n m w M) {a f : Nat} {v : Int32} (hw : ∀ t ∈ wkL.take w, ¬ (t.1 = a ∧ t.2.1 ≤ f ∧ f < t.2.2)) (hs : S0 a f) : gG0 n m w (sI M a f v) := h.wr hw (Or.inl hs)
theorem gG0.z (h : gG0 n m w M) {a f : Nat} (hw : ∀ t ∈ wkL.take w, ¬ (t.1 = a ∧ t.2.1 ≤ f ∧ f < t.2.2)) : gG0 n m w (sI M a f (nI 0)) := h.wr hw (Or.inr (by decide))
theorem gG0.ad (h : gG0 n m w M) {a lo hi : Nat} (hk : wkL[w]? = some (a, (lo, hi))) (ha : a < n) (hf : ∀ j, lo ≤ j → j < hi → mI M a j = wFn w j) : gG0 n m (w + 1) M := by
  obtain ⟨h1, h2, h3, h4, h5⟩ := h
  refine ⟨h1, h2, h3, fun i t q1 q2 => ?_, h5⟩
  by_cases e : i = w
  · subst e
    rw [hk] at q2
    cases q2
    exact ⟨ha, hf⟩
  · exact h4 i t (by omega) q2
theorem gG0.iw (h : gG0 n m w M) {a f : Nat} {v : Int32} (hw : ∀ t ∈ wkL.take w, ¬ (t.1 = a ∧ t.2.1 ≤ f ∧ f < t.2.2)) (hk : wkL[w]? = some (a, (f, f + 1)) ∧ a < n) (hs : S0 a f) (hv : wFn w f = v) : gG0 n m (w + 1) (sI M a f v) :=
  (h.is hw hs).ad hk.1 hk.2 (fun j q1 q2 => by
    obtain rfl : j = f := by omega
    rw [mI_eq, hv])
theorem wk_no {a k : Nat} (h : ∀ t ∈ wkL.take w, ¬ t.1 = a) {t : Nat × (Nat × Nat)} (ht : t ∈ wkL.take w) : ¬ (t.1 = a ∧ t.2.1 ≤ k ∧ k < t.2.2) := fun z => h t ht z.1
theorem cE {g : gG} {fr k nn : Nat} {μ : gMu} {pc : Nat} {ls st : List Value} {Q : Option Value ⊕ String → gM → Prop} {M' : gM} (h : gG0 n m w M') (k0 : ∀ M, gG0 n m w M → E g fr k nn μ pc ls st M Q) : E g fr k nn μ pc ls st M' Q := k0 M' h
end G0
set_option maxRecDepth 100000 in
set_option maxHeartbeats 4000000 in
theorem sp_X2_init {g : gG} {M : gM} {Q : Option Value ⊕ String → gM → Prop} {p : Nat} (K : Q (.inl none) M) : E g 1 0 0 mX2_init 0 [.ref (p + 1)] [] M Q := by
  refine E_aload_n dX2_init_0 rfl ?_
  refine E_objInit dX2_init_1 (gW_at 106 (by decide +kernel) (by decide +kernel)) (gW_at 57 (by decide +kernel) (by decide +kernel)) (gW_at 58 (by decide +kernel) (by decide +kernel)) (by decide) (by exact Nat.le_of_ble_eq_true rfl) ?_
  refine E_vret dX2_init_4 rfl ?_
  exact K
