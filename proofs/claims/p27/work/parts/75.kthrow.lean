/-! the class: throws -/
def okWd (w : Cond) : Bool := lw_tbl.any (fun z => decide (z = w)) && (goodWord w || (match w with | .methodLinkNest .. => true | .castable .. => true | .declares .. => true | _ => false))
theorem okWd_m {w : Cond} (h : okWd w = true) : w ∈ gW ∨ w ∈ gNW ∨ w ∈ gCW := by
  unfold okWd at h
  rw [Bool.and_eq_true] at h
  obtain ⟨h1, h2⟩ := h
  obtain ⟨z, hz, he⟩ := List.any_eq_true.mp h1
  have he := of_decide_eq_true he
  subst he
  rcases Bool.or_eq_true _ _ ▸ h2 with h3 | h3
  · exact Or.inl (List.mem_filter.mpr ⟨hz, h3⟩)
  · cases z <;> first | exact Or.inr (Or.inl (List.mem_filter.mpr ⟨hz, rfl⟩)) | exact Or.inr (Or.inr (List.mem_filter.mpr ⟨hz, rfl⟩)) | (simp at h3)
def thN : List String := ["java/lang/RuntimeException", "java/lang/Exception"]
theorem thN_fit : ∀ n ∈ thN, Bundle.fit n = true := by decide +kernel
theorem thI_at : ∀ w ∈ vx_atS RX11 82 "java/lang/IndexOutOfBoundsException" thN, w ∈ gW ∨ w ∈ gNW ∨ w ∈ gCW := by
  have h : (vx_atS RX11 82 "java/lang/IndexOutOfBoundsException" thN).all okWd = true := by decide +kernel
  exact fun w hw => okWd_m (List.all_eq_true.mp h w hw)
theorem thI_ok : ∀ w ∈ Cond.classLink RX11 78 "java/lang/IndexOutOfBoundsException" :: Cond.initialized "java/lang/IndexOutOfBoundsException" :: vx_atS RX11 82 "java/lang/IndexOutOfBoundsException" thN, vx_ot w = true := by
  have h : (Cond.classLink RX11 78 "java/lang/IndexOutOfBoundsException" :: Cond.initialized "java/lang/IndexOutOfBoundsException" :: vx_atS RX11 82 "java/lang/IndexOutOfBoundsException" thN).all vx_ot = true := by decide +kernel
  exact fun w hw => List.all_eq_true.mp h w hw
theorem E_thI {g : gG} {fr k n : Nat} {μ : gMu} {pc : Nat} {ls : List Value} {M : gM} {Q : Option Value ⊕ String → gM → Prop} {is : Nat} {text : String} (hl : (gl1 g).stackTraces = false) (hy : (gy μ).cls = RX11) (hh : ghh μ = []) (hstr : (RX11, (is, text)) ∈ gTW)
    (d0 : decode (gcc μ) pc = .ok (.new 78, 3)) (d3 : decode (gcc μ) (pc + 3) = .ok (.dup, 1)) (d4 : decode (gcc μ) (pc + 4) = .ok (.ldc is, 2)) (d6 : decode (gcc μ) (pc + 6) = .ok (.invokespecial 82, 3)) (d9 : decode (gcc μ) (pc + 9) = .ok (.athrow, 1))
    (hfr : 7 ≤ fr) (hk1 : 1 ≤ k) (hn1 : 6 ≤ n) (hQ : Q (.inr "java/lang/IndexOutOfBoundsException") M) : E g fr k n μ pc ls [] M Q :=
  E_throw (sa := 0) (ik := 78) (is := is) (ic := 82) (cls0 := "java/lang/IndexOutOfBoundsException") (text := text) (names := thN) hl hh (by decide +kernel) thN_fit (by rw [hy]; exact gW_at 462 (by decide +kernel) (by decide +kernel)) (gW_at 45 (by decide +kernel) (by decide +kernel)) (by rw [hy]; exact hstr) (by rw [hy]; exact thI_at) (by rw [hy]; exact thI_ok) d0 d3 d4 d6 d9 (by show 2 + 4 ≤ fr; omega) (by show 0 + (13 * (2 + 1) + 43) ≤ 55 * fr; omega) hk1 hn1 hQ
theorem thA_at : ∀ w ∈ vx_atS RX11 93 "java/lang/IllegalArgumentException" thN, w ∈ gW ∨ w ∈ gNW ∨ w ∈ gCW := by
  have h : (vx_atS RX11 93 "java/lang/IllegalArgumentException" thN).all okWd = true := by decide +kernel
  exact fun w hw => okWd_m (List.all_eq_true.mp h w hw)
theorem thA_ok : ∀ w ∈ Cond.classLink RX11 89 "java/lang/IllegalArgumentException" :: Cond.initialized "java/lang/IllegalArgumentException" :: vx_atS RX11 93 "java/lang/IllegalArgumentException" thN, vx_ot w = true := by
  have h : (Cond.classLink RX11 89 "java/lang/IllegalArgumentException" :: Cond.initialized "java/lang/IllegalArgumentException" :: vx_atS RX11 93 "java/lang/IllegalArgumentException" thN).all vx_ot = true := by decide +kernel
  exact fun w hw => List.all_eq_true.mp h w hw
theorem E_thA {g : gG} {fr k n : Nat} {μ : gMu} {pc : Nat} {ls : List Value} {M : gM} {Q : Option Value ⊕ String → gM → Prop} {is : Nat} {text : String} (hl : (gl1 g).stackTraces = false) (hy : (gy μ).cls = RX11) (hh : ghh μ = []) (hstr : (RX11, (is, text)) ∈ gTW)
    (d0 : decode (gcc μ) pc = .ok (.new 89, 3)) (d3 : decode (gcc μ) (pc + 3) = .ok (.dup, 1)) (d4 : decode (gcc μ) (pc + 4) = .ok (.ldc is, 2)) (d6 : decode (gcc μ) (pc + 6) = .ok (.invokespecial 93, 3)) (d9 : decode (gcc μ) (pc + 9) = .ok (.athrow, 1))
    (hfr : 7 ≤ fr) (hk1 : 1 ≤ k) (hn1 : 6 ≤ n) (hQ : Q (.inr "java/lang/IllegalArgumentException") M) : E g fr k n μ pc ls [] M Q :=
  E_throw (sa := 0) (ik := 89) (is := is) (ic := 93) (cls0 := "java/lang/IllegalArgumentException") (text := text) (names := thN) hl hh (by decide +kernel) thN_fit (by rw [hy]; exact gW_at 531 (by decide +kernel) (by decide +kernel)) (gW_at 46 (by decide +kernel) (by decide +kernel)) (by rw [hy]; exact hstr) (by rw [hy]; exact thA_at) (by rw [hy]; exact thA_ok) d0 d3 d4 d6 d9 (by show 2 + 4 ≤ fr; omega) (by show 0 + (13 * (2 + 1) + 43) ≤ 55 * fr; omega) hk1 hn1 hQ
theorem thS_at : ∀ w ∈ vx_atS RX11 105 "java/lang/IllegalStateException" thN, w ∈ gW ∨ w ∈ gNW ∨ w ∈ gCW := by
  have h : (vx_atS RX11 105 "java/lang/IllegalStateException" thN).all okWd = true := by decide +kernel
  exact fun w hw => okWd_m (List.all_eq_true.mp h w hw)
theorem thS_ok : ∀ w ∈ Cond.classLink RX11 101 "java/lang/IllegalStateException" :: Cond.initialized "java/lang/IllegalStateException" :: vx_atS RX11 105 "java/lang/IllegalStateException" thN, vx_ot w = true := by
  have h : (Cond.classLink RX11 101 "java/lang/IllegalStateException" :: Cond.initialized "java/lang/IllegalStateException" :: vx_atS RX11 105 "java/lang/IllegalStateException" thN).all vx_ot = true := by decide +kernel
  exact fun w hw => List.all_eq_true.mp h w hw
theorem E_thS {g : gG} {fr k n : Nat} {μ : gMu} {pc : Nat} {ls : List Value} {M : gM} {Q : Option Value ⊕ String → gM → Prop} {is : Nat} {text : String} (hl : (gl1 g).stackTraces = false) (hy : (gy μ).cls = RX11) (hh : ghh μ = []) (hstr : (RX11, (is, text)) ∈ gTW)
    (d0 : decode (gcc μ) pc = .ok (.new 101, 3)) (d3 : decode (gcc μ) (pc + 3) = .ok (.dup, 1)) (d4 : decode (gcc μ) (pc + 4) = .ok (.ldc is, 2)) (d6 : decode (gcc μ) (pc + 6) = .ok (.invokespecial 105, 3)) (d9 : decode (gcc μ) (pc + 9) = .ok (.athrow, 1))
    (hfr : 7 ≤ fr) (hk1 : 1 ≤ k) (hn1 : 6 ≤ n) (hQ : Q (.inr "java/lang/IllegalStateException") M) : E g fr k n μ pc ls [] M Q :=
  E_throw (sa := 0) (ik := 101) (is := is) (ic := 105) (cls0 := "java/lang/IllegalStateException") (text := text) (names := thN) hl hh (by decide +kernel) thN_fit (by rw [hy]; exact gW_at 549 (by decide +kernel) (by decide +kernel)) (gW_at 47 (by decide +kernel) (by decide +kernel)) (by rw [hy]; exact hstr) (by rw [hy]; exact thS_at) (by rw [hy]; exact thS_ok) d0 d3 d4 d6 d9 (by show 2 + 4 ≤ fr; omega) (by show 0 + (13 * (2 + 1) + 43) ≤ 55 * fr; omega) hk1 hn1 hQ
theorem gTW_at {own text : String} {is : Nat} (i : Nat) (h : lw_tbl[i]? = some (.stringRef own is text)) : (own, (is, text)) ∈ gTW := List.mem_filterMap.mpr ⟨_, List.mem_of_getElem? h, rfl⟩
