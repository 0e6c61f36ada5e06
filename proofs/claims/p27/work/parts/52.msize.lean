/-! the reference: the size of a table -/
noncomputable def bgN (P : Nat → Prop) : Nat → Nat
  | 0 => 0
  | k + 1 => bgN P k + cI (P k) (2 ^ k) 0
theorem bgN_b (P : Nat → Prop) : ∀ k, bgN P k < 2 ^ k
  | 0 => Nat.one_pos
  | k + 1 => by
    have ih := bgN_b P k
    have e2 : 2 ^ (k + 1) = 2 ^ k + 2 ^ k := by rw [Nat.pow_succ]; omega
    show bgN P k + cI _ _ _ < _
    by_cases e : P k
    · rw [cI_t e]; omega
    · rw [cI_f e]; omega
theorem or_bit : ∀ x : Fin 256, ∀ k : Fin 8, x.val < 2 ^ k.val → nI x.val ||| (nI 1 <<< (nI k.val &&& 31)) = nI (x.val + 2 ^ k.val) := by decide +kernel
theorem begB_n (P : Nat → Prop) : ∀ k, k ≤ 8 → begB P k = nI (bgN P k)
  | 0, _ => rfl
  | k + 1, h => by
    have ih := begB_n P k (by omega)
    have hb := bgN_b P k
    have h2 : 2 ^ k ≤ 128 := by
      have : 2 ^ k ≤ 2 ^ 7 := Nat.pow_le_pow_right (by decide) (by omega)
      omega
    by_cases e : P k
    · rw [begB_t e, ih, or_bit ⟨bgN P k, by omega⟩ ⟨k, by omega⟩ hb]
      show nI (bgN P k + 2 ^ k) = nI (bgN P k + cI (P k) (2 ^ k) 0)
      rw [cI_t e]
    · rw [begB_f e, ih]
      show nI (bgN P k) = nI (bgN P k + cI (P k) (2 ^ k) 0)
      rw [cI_f e]; rfl
def begP (c : Cf) (f l g k : Nat) : Prop := isAt c f (rul c l k (leadOf (cN c 130 l))) g
noncomputable def bgB (c : Cf) (f l g : Nat) : Nat := bgN (begP c f l g) (cN c 135 l)
theorem bgB_b {c : Cf} (h : WFc c) (f l g : Nat) : bgB c f l g < 256 := by
  have h8 := (h.lk l).2.2.2.2.2
  have h1 := bgN_b (begP c f l g) (cN c 135 l)
  have : 2 ^ cN c 135 l ≤ 2 ^ 8 := Nat.pow_le_pow_right (by decide) h8
  unfold bgB; omega
def pcN : Nat → Nat → Nat
  | 0, _ => 0
  | t + 1, x => x % 2 + pcN t (x / 2)
theorem pcN_0 : ∀ t, pcN t 0 = 0
  | 0 => rfl
  | t + 1 => by show 0 % 2 + pcN t (0 / 2) = 0; rw [pcN_0 t]
theorem pcN_b : ∀ t x, pcN t x ≤ t
  | 0, _ => Nat.le_refl _
  | t + 1, x => by
    have := pcN_b t (x / 2)
    show x % 2 + pcN t (x / 2) ≤ t + 1
    omega
def seen (b : Nat → Nat) (k x : Nat) : Prop := x = 0 ∨ ∃ j, j < k ∧ b j = x
noncomputable def szS (b : Nat → Nat) : Nat → Nat
  | 0 => 0
  | k + 1 => szS b k + cI (b k = 0) 0 1 + cI (seen b k (b k)) 0 (pcN 8 (b k))
theorem szS_b (b : Nat → Nat) : ∀ k, szS b k ≤ 9 * k
  | 0 => Nat.le_refl _
  | k + 1 => by
    have ih := szS_b b k
    have := pcN_b 8 (b k)
    show szS b k + cI _ _ _ + cI _ _ _ ≤ _
    have h1 : cI (b k = 0) 0 1 ≤ 1 := by
      by_cases e : b k = 0
      · rw [cI_t e]; omega
      · rw [cI_f e]; omega
    have h2 : cI (seen b k (b k)) 0 (pcN 8 (b k)) ≤ 8 := by
      by_cases e : seen b k (b k)
      · rw [cI_t e]; omega
      · rw [cI_f e]; omega
    omega
theorem seen_s {b : Nat → Nat} {k x : Nat} : seen b (k + 1) x ↔ seen b k x ∨ b k = x := by
  unfold seen
  constructor
  · rintro (q | ⟨j, q1, q2⟩)
    · exact Or.inl (Or.inl q)
    · by_cases e : j = k
      · subst e; exact Or.inr q2
      · exact Or.inl (Or.inr ⟨j, by omega, q2⟩)
  · rintro ((q | ⟨j, q1, q2⟩) | q)
    · exact Or.inl q
    · exact Or.inr ⟨j, by omega, q2⟩
    · exact Or.inr ⟨k, by omega, q⟩
def seR (a j : Nat) : Prop := a = 176 ∨ (a = 128 ∧ j = 0)
theorem seR_q (a j : Nat) (h : seR a j) : qR a j := by unfold seR at h; unfold qR; omega
def seS (b : Nat → Nat) (k : Nat) (M : gM) : Prop := ∀ x, x < 256 → mI M 176 x = nI (cI (seen b k x) 1 0)
noncomputable def szV (c : Cf) (j : Nat) : Nat := szS (bgB c (fc0 c) (at0 c j)) 256
