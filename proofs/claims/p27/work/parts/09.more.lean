/-! handlers; Math; a grid -/
section GM
variable {g : gG} {fr k n : Nat} {μ : gMu} {pc : Nat} {ls st : List Value} {M : gM} {Q : Option Value ⊕ String → gM → Prop}
theorem gL.drop {ρ : Nat → Nat} {cls : Array Slot} {nL : Nat} {i : Nat} {w : Value} (hk : gnl ls i = true)
    (h : lv_has cls nL ((i, w) :: (gpl g ρ 0 ls).filter (fun q => !(q.1 == i) && !(q.1 + 1 == i && q.2.category == 2)))) : gL g ρ cls nL (ls.set i .null) := by
  refine ⟨h.1, h.2.1, fun q hq => ?_⟩
  obtain ⟨t, x, h1, h2, rfl⟩ := gpl_mem.mp hq
  have e : t ≠ i := fun e => by
    subst e
    by_cases hl : t < ls.length
    · rw [List.getElem?_set_self hl] at h1
      cases h1; exact h2 rfl
    · rw [List.getElem?_eq_none (by rw [List.length_set]; omega)] at h1
      cases h1
  rw [List.getElem?_set_ne (fun q => e q.symm)] at h1
  refine h.2.2 _ (List.mem_cons_of_mem _ (List.mem_filter.mpr ⟨gpl_mem.mpr ⟨t, x, h1, h2, rfl⟩, ?_⟩))
  have e1 : ((0 + t == i) = false) := by rw [Nat.zero_add]; exact beq_false_of_ne e
  simp only [e1, Bool.not_false, Bool.true_and, Bool.not_eq_true', Bool.and_eq_false_iff]
  by_cases e2 : t + 1 = i
  · right
    subst e2
    have : (x.category != 2) = true := by simpa [gnl, h1] using hk
    rw [gv_cat]
    exact beq_false_of_ne (by simpa using this)
  · left
    rw [Nat.zero_add]
    exact beq_false_of_ne e2
/-- caught, and laid by: the handler begins with an astore -/
theorem Ex_catch {x : String} (pre suf : List (Nat × Nat × Nat × Nat)) (s0 e0 hp ct i len : Nat) (hh : ghh μ = pre ++ (s0, e0, hp, ct) :: suf) (hcov : ∀ z : ExceptionTableEntry, z = ⟨s0, e0, hp, ct⟩ → covers z pc = true) (hz0 : ct ≠ 0) (hlink : Cond.classLink (gy μ).cls ct x ∈ gW) (hcast : Cond.castable x x ∈ gCW)
    (hpre : ∀ w ∈ pre, w.2.2.2 ≠ 0 ∧ ∃ nm, Cond.classLink (gy μ).cls w.2.2.2 nm ∈ gW ∧ (x, nm) ∈ gPairs) (hd : (∃ i4 : Fin 4, i4.val = i ∧ len = 1 ∧ decode (gcc μ) hp = .ok (.astore_n i4, 1)) ∨ (len = 2 ∧ decode (gcc μ) hp = .ok (.astore i, 2))) (hi : i < gnL μ) (hk : gnl ls i = true)
    (k0 : E g fr k n μ (hp + len) (ls.set i .null) [] M Q) : Ex g fr k n μ pc ls x M Q := by
  intro p e R s m args below meth c H locs cells slots ρ0 ρ N0 cls rest q ce C hls hl hq hv hc
  have C0 := C
  obtain ⟨⟨hx, hb, hml, hown, hts⟩, c2, c3, c4, hT, c6, hS, c8, hF, c10, c11, c12, c13, c14, c15⟩ := C
  have hT' : c.exceptionTable.toList = tableOf (pre ++ (s0, e0, hp, ct) :: suf) := by
    unfold gT at hT
    rw [hh] at hT
    cases pre with
    | nil => exact hT
    | cons a b => exact hT
  refine vx_catch (E := x) (name := x) hown (tableOf pre) ⟨s0, e0, hp, ct⟩ (tableOf suf) (by rw [hT']; simp [tableOf]) (fun z hz => ?_) (hcov _ rfl) hz0 (hts _ hlink) (va_Nw.use rfl (hF.2.1 _ hcast)) hq hv hc ?_
  · obtain ⟨w, hw, rfl⟩ := List.mem_map.mp hz
    obtain ⟨h1, nm, h2, h3⟩ := hpre w hw
    exact Or.inr ⟨h1, nm, hts _ h2, hF.2.2.2.1 _ h3⟩
  · have hls' : gok (mN M) (ls.set i .null) := gok_set hls (fun r hr => by cases List.mem_singleton.mp hr)
    rcases hd with ⟨i4, rfl, rfl, hd⟩ | ⟨rfl, hd⟩
    · exact lv_astore_n hx hb hd rfl hl hi rfl (fun cls' h' => k0 p e R s m args below meth c H locs cells slots ρ0 ρ N0 cls' C0 hls' (fun r hr => by cases hr) (gL.drop hk h'))
    · exact lv_astore hx hb hd hl hi rfl (fun cls' h' => k0 p e R s m args below meth c H locs cells slots ρ0 ρ N0 cls' C0 hls' (fun r hr => by cases hr) (gL.drop hk h'))
/-! Math -/
theorem E_mmax {idx : Nat} {x y : Int32} (hd : decode (gcc μ) pc = .ok (.invokestatic idx, 3)) (hl : Cond.methodLink (gy μ).cls idx Lib.Math.max.name ∈ gW) (hs : Cond.static Lib.Math.max.name ∈ gW) (hi : Cond.initialized "java/lang/Math" ∈ gW) (hc : Cond.code Lib.Math.max.name Lib.Math.max.code 2 (some .int) ∈ gW) (hfr : 1 ≤ fr) (hrest : (st.map fun v => v.category).sum ≤ 8)
    (k0 : E g fr k n μ (pc + 3) ls (.int (if x < y then y else x) :: st) M Q) : E g fr k n μ pc ls (.int y :: .int x :: st) M Q := by
  intro p e R s m args below meth c H locs cells slots ρ0 ρ N0 cls C hls hst hlv
  have C0 := C
  obtain ⟨⟨hx, hb, hml, hown, hts⟩, c2, c3, c4, c5, c6, hS, c8, c9, c10, c11, c12, c13, c14, c15⟩ := C
  have h8 := gcat (g := g) (As := []) (rest := st) (ρ := ρ) hrest (m := m) (pc := pc) (cls := cls) (st0 := [])
  have h9 : ((st.map (gv g ρ)).map fun v => v.category).sum ≤ 8 := by
    have : 2 * 0 + ((st.map (gv g ρ)).map fun v => v.category).sum ≤ 8 := h8
    omega
  exact va_mmax hx hb (hml.trans hlv.1.symm) hown (hts _ hl) (hts _ hs) (hts _ hi) (hts _ hc) (Nat.le_trans hfr c10) (by omega) (by omega) (by omega) hd (k0 p e R s m args below meth c H locs cells slots ρ0 ρ N0 cls C0 hls (gok_int (gok_cons (gok_cons hst))) hlv)
theorem E_mmin {idx : Nat} {x y : Int32} (hd : decode (gcc μ) pc = .ok (.invokestatic idx, 3)) (hl : Cond.methodLink (gy μ).cls idx Lib.Math.min.name ∈ gW) (hs : Cond.static Lib.Math.min.name ∈ gW) (hi : Cond.initialized "java/lang/Math" ∈ gW) (hc : Cond.code Lib.Math.min.name Lib.Math.min.code 2 (some .int) ∈ gW) (hfr : 1 ≤ fr) (hrest : (st.map fun v => v.category).sum ≤ 8)
    (k0 : E g fr k n μ (pc + 3) ls (.int (if y < x then y else x) :: st) M Q) : E g fr k n μ pc ls (.int y :: .int x :: st) M Q := by
  intro p e R s m args below meth c H locs cells slots ρ0 ρ N0 cls C hls hst hlv
  have C0 := C
  obtain ⟨⟨hx, hb, hml, hown, hts⟩, c2, c3, c4, c5, c6, hS, c8, c9, c10, c11, c12, c13, c14, c15⟩ := C
  have h8 := gcat (g := g) (As := []) (rest := st) (ρ := ρ) hrest (m := m) (pc := pc) (cls := cls) (st0 := [])
  have h9 : ((st.map (gv g ρ)).map fun v => v.category).sum ≤ 8 := by
    have : 2 * 0 + ((st.map (gv g ρ)).map fun v => v.category).sum ≤ 8 := h8
    omega
  exact va_mmin hx hb (hml.trans hlv.1.symm) hown (hts _ hl) (hts _ hs) (hts _ hi) (hts _ hc) (Nat.le_trans hfr c10) (by omega) (by omega) (by omega) hd (k0 p e R s m args below meth c H locs cells slots ρ0 ρ N0 cls C0 hls (gok_int (gok_cons (gok_cons hst))) hlv)
theorem E_mabs {idx : Nat} {x : Int32} (hd : decode (gcc μ) pc = .ok (.invokestatic idx, 3)) (hl : Cond.methodLink (gy μ).cls idx Lib.Math.abs.name ∈ gW) (hs : Cond.static Lib.Math.abs.name ∈ gW) (hi : Cond.initialized "java/lang/Math" ∈ gW) (hc : Cond.code Lib.Math.abs.name Lib.Math.abs.code 1 (some .int) ∈ gW) (hfr : 1 ≤ fr) (hrest : (st.map fun v => v.category).sum ≤ 8)
    (k0 : E g fr k n μ (pc + 3) ls (.int (if 0 ≤ x then x else 0 - x) :: st) M Q) : E g fr k n μ pc ls (.int x :: st) M Q := by
  intro p e R s m args below meth c H locs cells slots ρ0 ρ N0 cls C hls hst hlv
  have C0 := C
  obtain ⟨⟨hx, hb, hml, hown, hts⟩, c2, c3, c4, c5, c6, hS, c8, c9, c10, c11, c12, c13, c14, c15⟩ := C
  have h8 := gcat (g := g) (As := []) (rest := st) (ρ := ρ) hrest (m := m) (pc := pc) (cls := cls) (st0 := [])
  have h9 : ((st.map (gv g ρ)).map fun v => v.category).sum ≤ 8 := by
    have : 2 * 0 + ((st.map (gv g ρ)).map fun v => v.category).sum ≤ 8 := h8
    omega
  exact va_mabs hx hb (hml.trans hlv.1.symm) hown (hts _ hl) (hts _ hs) (hts _ hi) (hts _ hc) (Nat.le_trans hfr c10) (by omega) (by omega) (by omega) hd (k0 p e R s m args below meth c H locs cells slots ρ0 ρ N0 cls C0 hls (gok_int (gok_cons hst)) hlv)
def gFD (a b : Int32) : Int32 := if (a ^^^ b) < 0 then if ((a / b) * b) = a then a / b else (a / b) - 1 else a / b
theorem E_mfd {idx : Nat} {x y : Int32} (hd : decode (gcc μ) pc = .ok (.invokestatic idx, 3)) (hl : Cond.methodLink (gy μ).cls idx Jvm.Free.JP.Math_floorDiv_II.yN ∈ gW) (hs : Cond.static Jvm.Free.JP.Math_floorDiv_II.yN ∈ gW) (hi : Cond.initialized "java/lang/Math" ∈ gW) (hc : Cond.code Jvm.Free.JP.Math_floorDiv_II.yN Jvm.Free.JP.Math_floorDiv_II.yB 3 (some .int) ∈ gW) (hfr : 1 ≤ fr) (hrest : (st.map fun v => v.category).sum ≤ 8) (hy : y ≠ 0)
    (k0 : E g fr k n μ (pc + 3) ls (.int (gFD x y) :: st) M Q) : E g fr k n μ pc ls (.int y :: .int x :: st) M Q := by
  intro p e R s m args below meth c H locs cells slots ρ0 ρ N0 cls C hls hst hlv
  have C0 := C
  obtain ⟨⟨hx, hb, hml, hown, hts⟩, c2, c3, c4, c5, c6, hS, c8, c9, c10, c11, c12, c13, c14, c15⟩ := C
  have h8 := gcat (g := g) (As := []) (rest := st) (ρ := ρ) hrest (m := m) (pc := pc) (cls := cls) (st0 := [])
  have k1 := k0 p e R s m args below meth c H locs cells slots ρ0 ρ N0 cls C0 hls (gok_int (gok_cons (gok_cons hst))) hlv
  intro T hT X
  have htab : Jvm.Free.JP.Math_floorDiv_II.tab.before args s = true := by
    show (Cond.and (Cond.code Jvm.Free.JP.Math_floorDiv_II.yN Jvm.Free.JP.Math_floorDiv_II.yB 3 (some .int)) (Cond.initialized "java/lang/Math")).before args s = true
    rw [Cond.before_and, hts _ hc, hts _ hi]; rfl
  have hback := Jvm.Free.JP.Math_floorDiv_II.pays (l := gl1 g) (R := R) (p := p) (e := e) (below := below) (s := s) (sargs := args) (len := 3) (W := 8) x y htab (Nat.le_trans hfr c10) (by omega)
  obtain ⟨v, vm₁, ⟨U', l2, c2', s2'⟩, hW₁, X', ⟨⟨e1, e2⟩, e3, e4, e5⟩, st1⟩ := callS X hx hown (hts _ hl) (hts _ hs) (hts _ hi) (hts _ hc) (by decide) hback (g := F0 m pc cls (.int y :: .int x :: st.map (gv g ρ))) rfl (hlv.1.trans hml.symm) (argsL := [.int x, .int y]) (rest := st.map (gv g ρ)) (fun sig h => by
    have : (parseMethodDescriptor Jvm.Free.JP.Math_floorDiv_II.yN.desc).map (fun d => d.parameters.length) = some 2 := by decide +kernel
    rw [h] at this
    exact (Option.some.inj this).symm) rfl h8 (by rw [hb]; exact hd) (fun vm₁ _ => ⟨by show cells + 0 ≤ _; omega, by show slots + 0 ≤ _; omega, rfl, hy⟩)
  dsimp only [Pt.U, Pt.locs, Pt.cells, Pt.slots] at X' e1 e2 e3 e4 e5 st1
  subst e1; subst e3; subst e4; subst e5
  rw [List.append_nil] at X'
  obtain ⟨t2, a1, b1⟩ := k1 U' (by rw [e2]; exact hT) X'
  exact ⟨t2, st1 t2 a1, b1⟩
/-! a grid -/
theorem gws_get {ρ : Nat → Nat} {dA : Nat → ClassId} {M : gM} {i : Nat} {p : Nat × va_E} (h : (gws ρ dA M)[i]? = some p) : i < mN M ∧ p = (ρ i, gE ρ dA M i) := by
  have hl : i < (gws ρ dA M).length := (List.getElem?_eq_some_iff.mp h).1
  have hi : i < mN M := by simpa [gws] using hl
  rw [gws_at hi] at h
  exact ⟨hi, (Option.some.inj h).symm⟩
def mGrid (M : gM) (a b : Nat) : gM := ((M.1.1 + (1 + a), fun x => if x < M.1.1 then M.1.2 x else if x = M.1.1 then (16, a) else (13, b)), ((fun x j => if x < M.1.1 then M.2.1 x j else 0), ((fun x j => if x < M.1.1 then M.2.2.1 x j else 0), (fun x j => if x < M.1.1 then M.2.2.2 x j else if x = M.1.1 ∧ j < a then M.1.1 + 1 + j + 1 else 0))))
theorem gr_outer (c : ClassId) (N h0 : Nat) : ∀ i : Nat, Jvm.Free.Multi.outerC c N h0 i = arrV c N (fun j => va_rf (if j < i then some (h0 + 1 + j) else none))
  | 0 => by
    show ({ cls := c, slots := Array.replicate N .null, vm := .none } : Cell) = _
    rw [arrV_new]
    refine congrArg (arrV c N) (funext fun j => ?_)
    simp [va_rf]
  | i + 1 => by
    show (Jvm.Free.Multi.outerC c N h0 i).setSlot i (.ref (h0 + 1 + i)) = _
    rw [gr_outer c N h0 i, arrV_store]
    refine congrArg (arrV c N) (funext fun j => ?_)
    by_cases e : j = i
    · subst e
      simp [updV, va_rf]
    · by_cases h : j < i
      · simp [updV, e, h, Nat.lt_succ_of_lt h]
      · simp [updV, e, h, show ¬ j < i + 1 by omega]
theorem E_grid {idx a b : Nat} {x y : Int32} (hd : decode (gcc μ) pc = .ok (.multianewarray idx 2, 4)) (h1 : Cond.classLink (gy μ).cls idx "[[I" ∈ gW) (h2 : Cond.arrayClass .int ∈ gW) (hx0 : x = nI a) (hy0 : y = nI b) (ha : a ≤ 10000) (hb0 : b ≤ 10000)
    (k0 : E g fr k n μ (pc + 4) ls (.ref (mN M + 1) :: st) (mGrid M a b) Q) : E g fr (k + (1 + a)) (n + (a + a * b)) μ pc ls (.int y :: .int x :: st) M Q := by
  intro p e R s m args below meth c H locs cells slots ρ0 ρ N0 cls C hls hst hlv
  obtain ⟨⟨hx, hb, hml, hown, hts⟩, c2, c3, c4, c5, ⟨hP, hD, hK, hR⟩, ⟨s1, s2, s3⟩, c8, hF, c10, c11, c12, c13, c14, c15⟩ := C
  subst hx0; subst hy0
  have ea : (nI a).toNatClampNeg = a := nI_clamp (by omega)
  have eb : (nI b).toNatClampNeg = b := nI_clamp (by omega)
  intro T hT X
  obtain ⟨vm₁, cA, comp, -, fA, fC, hO, -, X', step⟩ := X.multianewarray2F hx (ty := .int) hown (hts _ h1) (show (Cond.arrayOver (.array .int)).before args s = true from hF.2.2.2.2.2.2.1.2.2.2) (hts _ h2) (g := F0 m pc cls (.int (nI b) :: .int (nI a) :: st.map (gv g ρ))) rfl (by rw [hb]; exact hd) rfl (nI_pos (by omega)) (nI_pos (by omega)) (by rw [ea]; omega) (by rw [eb]; show b * 4 ≤ _; omega) (by rw [eb]; omega) rfl rfl (by rw [ea]; omega) (by rw [ea, eb]; omega)
  have ec : gdA g 0 = comp := Option.some.inj ((show s.vm.findClass ("[" ++ FieldType.int.toString) = some (gdA g 0) from (hK.2 0 _ (gtys_at 0 (by decide))).2).symm.trans fC)
  have eA : gdA g 3 = cA := Option.some.inj ((show s.vm.findClass ("[" ++ (FieldType.array .int).toString) = some (gdA g 3) from (hK.2 3 _ (gtys_at 3 (by decide))).2).symm.trans fA)
  subst ec; subst eA
  rw [ea, eb] at X' step
  generalize hFl : Jvm.Free.Multi.fill (T.setVm vm₁) (gdA g 3) (gdA g 0) a b (defaultValue .int) a = F at X' step
  have hTh : (T.setVm vm₁).heap = H := hT
  obtain ⟨f1, f2, -, -⟩ := Jvm.Free.Multi.fill_facts (T.setVm vm₁) (gdA g 3) (gdA g 0) a b (defaultValue .int) a
  rw [hFl, hTh] at f1 f2
  have hold : ∀ x : Nat, x < H.size → F.heap[x]? = H[x]? := fun x hx => by
    have := Jvm.Free.Multi.fill_old (T.setVm vm₁) (gdA g 3) (gdA g 0) a b (defaultValue .int) (a := x) (by rw [hTh]; exact hx) a
    rw [hFl, hTh] at this
    exact this
  have hrow : ∀ j : Nat, j < a → F.heap[H.size + 1 + j]? = some (vp_cell (gdA g 0) (b, .inl fun _ => 0)) := fun j hj => by
    have := Jvm.Free.Multi.fill_inner (T.setVm vm₁) (gdA g 3) (gdA g 0) a b (defaultValue .int) a j hj
    rw [hFl, hTh] at this
    rw [show vp_cell (gdA g 0) (b, .inl fun _ => 0) = arrV (gdA g 0) b (fun _ => .int 0) from rfl, ← arrV_new]
    exact this
  rw [gr_outer] at f2
  have hN : mN (mGrid M a b) = mN M + (1 + a) := rfl
  generalize hρ : (fun z => if z < mN M then ρ z else H.size + (z - mN M)) = ρ'
  have hext : ∀ z, z < mN M → ρ' z = ρ z := fun z hz => by rw [← hρ]; exact if_pos hz
  have hnew : ∀ j, ρ' (mN M + j) = H.size + j := fun j => by
    rw [← hρ]
    show (if mN M + j < mN M then _ else _) = _
    rw [if_neg (by omega)]; omega
  have hlt : ∀ i, i < mN M → ρ i < H.size := fun i hi => (hP i _ (gws_at hi)).lt
  have hin : ∀ i, i < mN M → F.heap[ρ i]? = H[ρ i]? := fun i hi => hold _ (hlt i hi)
  have gOld : ∀ i, i < mN M → gE ρ' (gdA g) (mGrid M a b) i = gE ρ (gdA g) M i := fun i hi => by
    have hi' : i < M.1.1 := hi
    exact gE_congr (show (if i < M.1.1 then M.1.2 i else _) = _ by rw [if_pos hi']; rfl) (fun q => show (if i < M.1.1 then _ else _) = _ by rw [if_pos hi']; rfl) (fun q => show (if i < M.1.1 then _ else _) = _ by rw [if_pos hi']; rfl) (fun q => by
      have e : mR (mGrid M a b) i q = mR M i q := show (if i < M.1.1 then _ else _) = _ by rw [if_pos hi']; rfl
      rw [e]
      exact gOpt_ext (N := mN M) hext (hR i q))
  have hPn : va_P (gD g) vwCl (gws ρ' (gdA g) (mGrid M a b)) F.heap := fun i q hq => by
    obtain ⟨hi, rfl⟩ := gws_get hq
    rw [hN] at hi
    by_cases h1 : i < mN M
    · rw [gOld i h1, hext i h1]
      exact (hP i _ (gws_at h1)).kept (hin i h1)
    · obtain ⟨j, rfl⟩ : ∃ j, i = mN M + j := ⟨i - mN M, by omega⟩
      have n1 : ¬ mN M + j < M.1.1 := h1
      rw [hnew j]
      by_cases h2 : j = 0
      · subst h2
        have e1 : mK (mGrid M a b) (mN M + 0) = (16, a) := show (if mN M + 0 < M.1.1 then _ else if mN M + 0 = M.1.1 then _ else _) = _ by rw [if_neg n1, if_pos (show mN M + 0 = M.1.1 from rfl)]
        rw [gE_ref e1 (by omega)]
        show F.heap[H.size + 0]? = some (vp_cell _ _)
        rw [vp_cell_q, Nat.add_zero, f2]
        refine congrArg some (congrArg (arrV _ _) (funext fun q => congrArg va_rf ?_))
        have e2 : mR (mGrid M a b) (mN M + 0) q = if q < a then mN M + 1 + q + 1 else 0 := show (if mN M + 0 < M.1.1 then _ else if mN M + 0 = M.1.1 ∧ q < a then _ else _) = _ by
          rw [if_neg n1]
          by_cases h : q < a <;> simp [h, mN]
        rw [e2]
        by_cases h : q < a
        · rw [if_pos h, if_pos h]
          show _ = some (ρ' (mN M + 1 + q))
          rw [Nat.add_assoc (mN M) 1 q, hnew]
          congr 1; omega
        · rw [if_neg h, if_neg h]; rfl
      · obtain ⟨j', rfl⟩ : ∃ j', j = j' + 1 := ⟨j - 1, by omega⟩
        have e1 : mK (mGrid M a b) (mN M + (j' + 1)) = (13, b) := show (if mN M + (j' + 1) < M.1.1 then _ else if mN M + (j' + 1) = M.1.1 then _ else _) = _ by rw [if_neg n1, if_neg (by show ¬ M.1.1 + (j' + 1) = M.1.1; omega)]
        rw [gE_int e1]
        have e2 : mI (mGrid M a b) (mN M + (j' + 1)) = fun _ => 0 := funext fun q => show (if mN M + (j' + 1) < M.1.1 then _ else _) = _ by rw [if_neg n1]
        rw [e2]
        show F.heap[H.size + (j' + 1)]? = _
        rw [show H.size + (j' + 1) = H.size + 1 + j' by omega]
        exact hrow j' (by omega)
  have hbs : ∀ q, H.size ≤ q → gA g q := fun q hq => Nat.le_trans c8 (Nat.le_trans s1 hq)
  have hDn : va_D (gA g) (gws ρ' (gdA g) (mGrid M a b)) := by
    refine ⟨fun i j p' q' hi hj hpq => ?_, fun i q hq => ?_⟩
    · obtain ⟨hi1, rfl⟩ := gws_get hi
      obtain ⟨hj1, rfl⟩ := gws_get hj
      have hpq' : ρ' i = ρ' j := hpq
      by_cases h1 : i < mN M <;> by_cases h2 : j < mN M
      · rw [hext i h1, hext j h2] at hpq'
        exact hD.1 i j _ _ (gws_at h1) (gws_at h2) hpq'
      · obtain ⟨j', rfl⟩ : ∃ j', j = mN M + j' := ⟨j - mN M, by omega⟩
        rw [hext i h1, hnew] at hpq'
        have := hlt i h1
        omega
      · obtain ⟨i', rfl⟩ : ∃ i', i = mN M + i' := ⟨i - mN M, by omega⟩
        rw [hext j h2, hnew] at hpq'
        have := hlt j h2
        omega
      · obtain ⟨i', rfl⟩ : ∃ i', i = mN M + i' := ⟨i - mN M, by omega⟩
        obtain ⟨j', rfl⟩ : ∃ j', j = mN M + j' := ⟨j - mN M, by omega⟩
        rw [hnew, hnew] at hpq'
        omega
    · obtain ⟨hi1, rfl⟩ := gws_get hq
      show gA g (ρ' i)
      by_cases h1 : i < mN M
      · rw [hext i h1]
        exact hD.2 i _ (gws_at h1)
      · obtain ⟨i', rfl⟩ : ∃ i', i = mN M + i' := ⟨i - mN M, by omega⟩
        rw [hnew]
        exact hbs _ (Nat.le_add_right _ _)
  have hNle : mN M ≤ mN (mGrid M a b) := by rw [hN]; omega
  have hst' : gok (mN M) st := gok_cons (gok_cons hst)
  have C' : gC g fr k n μ p R s m args meth c F.heap locs (cells + (1 + a)) (slots + (a + a * b)) ρ0 ρ' N0 (mGrid M a b) := ⟨⟨hx, hb, hml, hown, hts⟩, c2, c3, c4, c5, ⟨hPn, hDn, hK, fun z q => ?_⟩, ⟨by rw [f1]; omega, fun q h1 h2 => (hold q (Nat.lt_of_lt_of_le h1 s1)).trans (s2 q h1 h2), s3⟩, c8, hF, c10, c11, by omega, by omega, Nat.le_trans c14 hNle, fun z hz => (hext z (Nat.lt_of_lt_of_le hz c14)).trans (c15 z hz)⟩
  · have hk1 := k0 p e R s m args below meth c F.heap locs (cells + (1 + a)) (slots + (a + a * b)) ρ0 ρ' N0 cls C' (gok_le hNle hls) (gok_ref (by rw [hN]; omega) (gok_le hNle hst')) (hlv.ext hls hext)
    have e1 : ((Value.ref (mN M + 1) :: st).map (gv g ρ')) = .ref H.size :: st.map (gv g ρ) := by
      rw [List.map_cons, gv_ext hext hst']
      show Value.ref (ρ' (mN M)) :: _ = _
      have := hnew 0
      rw [Nat.add_zero, Nat.add_zero] at this
      rw [this]
    rw [e1, show cells + (1 + a) + k = cells + (k + (1 + a)) by omega, show slots + (a + a * b) + n = slots + (n + (a + a * b)) by omega] at hk1
    obtain ⟨t, a1, b1⟩ := hk1 F rfl (by rw [show cells + (1 + a) = cells + 1 + a by omega, show slots + (a + a * b) = slots + a + a * b by omega]; exact X')
    refine ⟨t, step t ?_, b1⟩
    have e : T.heap.size = H.size := by rw [hT]
    rw [e]
    exact a1
  · show (if z < M.1.1 then mR M z q else if z = M.1.1 ∧ q < a then M.1.1 + 1 + q + 1 else 0) ≤ M.1.1 + (1 + a)
    by_cases h1 : z < M.1.1
    · rw [if_pos h1]
      have := hR z q
      have e : mN M = M.1.1 := rfl
      omega
    · rw [if_neg h1]
      by_cases h2 : z = M.1.1 ∧ q < a
      · rw [if_pos h2]; omega
      · rw [if_neg h2]; omega
end GM
