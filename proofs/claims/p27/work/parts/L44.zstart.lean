/-! the claim out of the law's body: the tail began as the skeleton's (kit/laws/SKELETON.whole.lean.txt) -/
/-- the empty memory -/
def M00 : gM := ((0, fun _ => (0, 0)), (fun _ _ => 0, (fun _ _ => 0, fun _ _ => 0)))
theorem M00_G : gG0 0 0 0 M00 := ⟨rfl, fun a ha => absurd ha (Nat.not_lt_zero a), fun i t hi => absurd hi (Nat.not_lt_zero i), fun i t hi => absurd hi (Nat.not_lt_zero i), fun _ _ _ => rfl⟩
theorem vwCl_12 {k : Nat} {q : vw_C} (h : vwCl[k]? = some q) : k < 12 ∧ q = ((gcl k).1, (gcl k).2.1, gNf k) := by
  have hk : k < 12 := (List.getElem?_eq_some_iff.mp h).1
  have h2 := gcl_at k hk
  rw [h2] at h
  exact ⟨hk, (Option.some.inj h).symm⟩
theorem arr_of {s : State} {c : ClassId} {k : Class} {comp : ClassId} {ty : FieldType} (h2 : s.vm.classes[c]? = some k) (h3 : k.kind = .array comp ty) : ArrOfT s c ty := fun n z => ⟨fun k h => (by cases h), k, h2, comp, h3⟩
theorem same_forget {s s' : State} {L : List Loc} {k n : Nat} (h : s.sameButNew s' L k n) (hL : ∀ q ∈ L, s.heap.size ≤ q.base) : s.sameButNew s' [] k n := by
  obtain ⟨h1, h2, h3, h4, h5, h6⟩ := h
  refine ⟨h1, h2, h3, h4, h5, fun a c hc => ?_⟩
  obtain ⟨c', g1, g2, g3, g4⟩ := h6 a c hc
  refine ⟨c', g1, g2, g3, fun i _ => g4 i (fun q => ?_)⟩
  have q1 := hL _ q
  have q2 := (Array.getElem?_eq_some_iff.mp hc).1
  exact absurd q2 (Nat.not_lt.mpr q1)
theorem cl_words : ∀ c, c < 12 → gLy c ∧ Cond.instantiable (gcl c).1 (gNf c) ∈ gW := by
  intro c hc
  exact match c, hc with
    | 0, _ => ⟨kY_0, gW_at 199 (by decide +kernel) (by decide +kernel)⟩
    | 1, _ => ⟨kY_1, gW_at 374 (by decide +kernel) (by decide +kernel)⟩
    | 2, _ => ⟨kY_2, gW_at 102 (by decide +kernel) (by decide +kernel)⟩
    | 3, _ => ⟨kY_3, gW_at 249 (by decide +kernel) (by decide +kernel)⟩
    | 4, _ => ⟨kY_4, gW_at 566 (by decide +kernel) (by decide +kernel)⟩
    | 5, _ => ⟨kY_5, gW_at 189 (by decide +kernel) (by decide +kernel)⟩
    | 6, _ => ⟨kY_6, gW_at 268 (by decide +kernel) (by decide +kernel)⟩
    | 7, _ => ⟨kY_7, gW_at 233 (by decide +kernel) (by decide +kernel)⟩
    | 8, _ => ⟨kY_8, gW_at 95 (by decide +kernel) (by decide +kernel)⟩
    | 9, _ => ⟨kY_9, gW_at 274 (by decide +kernel) (by decide +kernel)⟩
    | 10, _ => ⟨kY_10, gW_at 62 (by decide +kernel) (by decide +kernel)⟩
    | 11, _ => ⟨kY_11, gW_at 52 (by decide +kernel) (by decide +kernel)⟩
    | c + 12, hc => absurd hc (by omega)
def gTX (t : String × (Nat × String)) : Cond := .exactly (.string t.1 t.2.1) "java/lang/String"
theorem tx_words : ∀ t ∈ gTW, gTX t ∈ flatC (Jvm.Cond.and given_1 narrow_1) := by
  have h : gTW.all (fun t => (flatC (Jvm.Cond.and given_1 narrow_1)).any (fun w => decide (w = gTX t))) = true := by decide +kernel
  intro t ht
  obtain ⟨w, h1, h2⟩ := List.any_eq_true.mp (List.all_eq_true.mp h t ht)
  rw [← of_decide_eq_true h2]; exact h1
theorem pr_words : ∀ q ∈ gPairs, Cond.not (.castable q.1 q.2) ∈ flatC (Jvm.Cond.and given_1 narrow_1) := by
  have h : gPairs.all (fun q => (flatC (Jvm.Cond.and given_1 narrow_1)).any (fun w => decide (w = Cond.not (.castable q.1 q.2)))) = true := by decide +kernel
  intro q hq
  obtain ⟨w, h1, h2⟩ := List.any_eq_true.mp (List.all_eq_true.mp h q hq)
  rw [← of_decide_eq_true h2]; exact h1
def R_law : String := "JoinhandLaw"
def lw_P (b : Addr) (xs : List Int32) (args : Array Value) (s : State) : Prop := args = #[.ref b] ∧ s.IntsAt b xs ∧ xs.length ≤ 260 ∧ (Jvm.Cond.and given_1 narrow_1).before args s = true
def lw_Q (_ : Array Value) (s : State) (o : Outcome) (t : State) : Prop := o = .returned (some (.int 1)) ∧ Framed s o t [] 600064 7301640
def lw_Z (below : List Frame) (a : Array Value) (s : State) : State → Prop := fun t => ∃ o, t.status = .running ∧ Ended t below o ∧ lw_Q a s o t
theorem whole_start {p : Program} {e : Env} {s : State} {m : MethodId} {below : List Frame} {meth : Method} {c : Code} (l : Launch) (hflags : l.flags = flags0) {b L : Nat} {xs : Nat → Int32} (hL : L ≤ 260) (hx : p.tables.exec = Jvm.exec) (hb : c.code = code) (hr : meth.sig.returnType = ret) (hml : c.maxLocals = 25) (hown : s.vm.findClass R_law = some m.cls) (hts : ∀ w ∈ lw_tbl, w.before #[Value.ref b] s = true) (hX : va_X b L xs s s.heap) (hbl : b < s.heap.size) (hlocks : meth.locks = false) (hgv : (Jvm.Cond.and given_1 narrow_1).before #[Value.ref b] s = true) (hT : ∀ z ∈ c.exceptionTable.toList, False) (hnm : meth.name = "law") :
    W p l e room_1 s m #[Value.ref b] below meth c s.heap [] 0 0 (lw_Z below #[Value.ref b] s) (entryFrame m ([Value.ref b] : List Value).toArray 25) := by
  have hfl := flat_of_before _ hgv
  have hst : l.stackTraces = false := by unfold Launch.stackTraces; rw [hflags]; decide
  have htw : ∀ w ∈ gW, w.before #[Value.ref b] s = true := fun w hw => hts w (List.mem_filter.mp hw).1
  have hcl : ∀ c : Nat, ∃ D : ClassId × (Nat → Nat), c < 12 → u_Kn s (gcl c).1 (gcl c).2.1 (gNf c) D.1 D.2 := fun c => by
    by_cases hc : c < 12
    · obtain ⟨h1, h2⟩ := cl_words c hc
      obtain ⟨cC, iS, h3⟩ := u_known (ws := gW) htw h1 (htw _ h2)
      exact ⟨(cC, iS), fun _ => h3⟩
    · obtain ⟨h1, h2⟩ := cl_words 0 (by decide)
      obtain ⟨cC, iS, h3⟩ := u_known (ws := gW) htw h1 (htw _ h2)
      exact ⟨(cC, iS), fun q => absurd q hc⟩
  obtain ⟨fD, hfD⟩ := Classical.axiomOfChoice hcl
  have a0 : ∃ cA, ArrOfT s cA .int ∧ va_RA s cA .int := by
    obtain ⟨c0, k0, comp, h1, h2, h3⟩ := Cond.arrayClass_spec (htw (.arrayClass .int) (gW_at 92 (by decide +kernel) (by decide +kernel)))
    exact ⟨c0, arr_of h2 h3, h1⟩
  have a1 : ∃ cA, ArrOfT s cA .boolean ∧ va_RA s cA .boolean := by
    obtain ⟨c0, k0, comp, h1, h2, h3⟩ := Cond.arrayClass_spec (htw (.arrayClass .boolean) (gW_at 93 (by decide +kernel) (by decide +kernel)))
    exact ⟨c0, arr_of h2 h3, h1⟩
  have a2 : ∃ cA, ArrOfT s cA .long ∧ va_RA s cA .long := by
    obtain ⟨c0, k0, comp, h1, h2, h3⟩ := Cond.arrayClass_spec (htw (.arrayClass .long) (gW_at 1221 (by decide +kernel) (by decide +kernel)))
    exact ⟨c0, arr_of h2 h3, h1⟩
  have a3 : ∃ cA, ArrOfT s cA (.array .int) ∧ va_RA s cA (.array .int) := by
    obtain ⟨comp, c0, k0, h1, h2, h3, h4, h5⟩ := arrayOver_specB (hts (.arrayOver (.array .int)) (List.mem_of_getElem? (i := 572) (by decide +kernel)))
    exact ⟨c0, arr_of h3 h4, h5⟩
  have a4 : ∃ cA, ArrOfT s cA (.object RX1) ∧ va_RA s cA (.object RX1) := by
    obtain ⟨comp, c0, k0, h1, h2, h3, h4, h5⟩ := Cond.arrayOver_spec (hts (.arrayOver (.object RX1)) (List.mem_of_getElem? (i := 60) (by decide +kernel)))
    exact ⟨c0, arr_of h3 h4, k0, comp, h3, h4, h1, h5⟩
  have a5 : ∃ cA, ArrOfT s cA (.object RX4) ∧ va_RA s cA (.object RX4) := by
    obtain ⟨comp, c0, k0, h1, h2, h3, h4, h5⟩ := Cond.arrayOver_spec (hts (.arrayOver (.object RX4)) (List.mem_of_getElem? (i := 380) (by decide +kernel)))
    exact ⟨c0, arr_of h3 h4, k0, comp, h3, h4, h1, h5⟩
  have a6 : ∃ cA, ArrOfT s cA (.object RX2) ∧ va_RA s cA (.object RX2) := by
    obtain ⟨comp, c0, k0, h1, h2, h3, h4, h5⟩ := Cond.arrayOver_spec (hts (.arrayOver (.object RX2)) (List.mem_of_getElem? (i := 101) (by decide +kernel)))
    exact ⟨c0, arr_of h3 h4, k0, comp, h3, h4, h1, h5⟩
  have har : ∀ t : Nat, ∃ cA, t < 7 → ArrOfT s cA (gAty t) ∧ va_RA s cA (gAty t) := fun t => by
    obtain ⟨c0, h0⟩ := a0
    obtain ⟨c1, h1⟩ := a1
    obtain ⟨c2, h2⟩ := a2
    obtain ⟨c3, h3⟩ := a3
    obtain ⟨c4, h4⟩ := a4
    obtain ⟨c5, h5⟩ := a5
    obtain ⟨c6, h6⟩ := a6
    exact match t with
      | 0 => ⟨c0, fun _ => h0⟩
      | 1 => ⟨c1, fun _ => h1⟩
      | 2 => ⟨c2, fun _ => h2⟩
      | 3 => ⟨c3, fun _ => h3⟩
      | 4 => ⟨c4, fun _ => h4⟩
      | 5 => ⟨c5, fun _ => h5⟩
      | 6 => ⟨c6, fun _ => h6⟩
      | t + 7 => ⟨c0, fun q => absurd q (by omega)⟩
  obtain ⟨dA, hdA⟩ := Classical.axiomOfChoice har
  have hGd : ∃ g : gG, gl1 g = l ∧ gD g = (fun k => (fD k).1, fun k => (fD k).2) ∧ gdA g = dA ∧ gbs g = s.heap.size ∧ gsc g = b ∧ gsL g = L ∧ gsx g = xs :=
    ⟨(l, (((fun k => (fD k).1, fun k => (fD k).2), dA), (s.heap.size, (b, (L, xs))))), rfl, rfl, rfl, rfl, rfl, rfl, rfl⟩
  obtain ⟨g, g1, g2, g3, g4, g5, g6, g7⟩ := hGd
  have hA : ∀ q : Nat, gA g q ↔ s.heap.size ≤ q := fun q => by unfold gA; rw [g4]
  have hAn : ∀ a : Nat, a < s.heap.size → ¬ gA g a := fun a ha q => absurd ((hA a).mp q) (Nat.not_le.mpr ha)
  have hws : gws (fun _ => 0) (gdA g) M00 = [] := rfl
  have hMod : gMod g (fun _ => 0) M00 s s.heap := by
    refine ⟨?_, ?_, ⟨fun k q hq => ?_, fun k q hq => ?_⟩, fun a k => Nat.le_refl _⟩
    · rw [hws]; intro k q h; simp at h
    · rw [hws]; exact ⟨fun i j p q h => by simp at h, fun k q h => by simp at h⟩
    · obtain ⟨h1, h2⟩ := vwCl_12 hq
      subst h2
      rw [g2]
      exact hfD k h1
    · rw [g3] at hq
      have hk : k < 7 := by
        have := (List.getElem?_eq_some_iff.mp hq).1
        simpa [gtys] using this
      rw [gtys_at k hk] at hq
      have := Option.some.inj hq
      subst this
      exact hdA k hk
  have hFx : gFx g s s.heap := by
    refine ⟨fun w hw => ?_, fun w hw => ?_, fun t ht => ?_, fun q hq => va_Nc.of (hfl _ (pr_words q hq)), ?_, ?_, ⟨va_AO.of (hts (.arrayOver (.object RX1)) (List.mem_of_getElem? (i := 60) (by decide +kernel))), va_AO.of (hts (.arrayOver (.object RX4)) (List.mem_of_getElem? (i := 380) (by decide +kernel))), va_AO.of (hts (.arrayOver (.object RX2)) (List.mem_of_getElem? (i := 101) (by decide +kernel))), hts (.arrayOver (.array .int)) (List.mem_of_getElem? (i := 572) (by decide +kernel))⟩, ?_, ?_⟩
    · have h1 := hts w (List.mem_filter.mp hw).1
      obtain ⟨a, i, x, h, rfl⟩ := gNW_eq hw
      exact va_Nw.of rfl h1
    · have h1 := hts w (List.mem_filter.mp hw).1
      rcases gCW_eq hw with ⟨a, b, rfl⟩ | ⟨y, rfl⟩
      · exact va_Nw.of rfl h1
      · exact va_Nw.of rfl h1
    · obtain ⟨a, cc, cell, k, h1, -⟩ := Cond.exactly_spec (hfl _ (tx_words t ht))
      obtain ⟨w, hw, hw2⟩ := List.mem_filterMap.mp ht
      have hw1 := hts w hw
      refine ⟨a, ?_⟩
      cases w <;> simp at hw2
      subst hw2
      exact vk_R.of hw1 h1
    · exact vx_Zqof (hts _ (List.mem_of_getElem? (i := 489) (by decide +kernel))) (htw _ (gW_at 42 (by decide +kernel) (by decide +kernel))) (hfl _ (by decide +kernel)) hAn
    · exact vx_Zqof (hts _ (List.mem_of_getElem? (i := 491) (by decide +kernel))) (htw _ (gW_at 42 (by decide +kernel) (by decide +kernel))) (hfl _ (by decide +kernel)) hAn
    · rw [g5, g6, g7]; exact hX
    · rw [g5, g4]; exact hbl
  have hl := lv_entry ([.ref b]) (n := 25) (Nat.le_of_ble_eq_true rfl)
  rw [lg_entry_eq]
  generalize (lg_sl ([.ref b]) ++ List.replicate (25 - (lg_sl ([.ref b])).length) Slot.unset).toArray = cls at hl ⊢
  have hl : lv_has cls 25 [(0, .ref b)] := hl
  have hE := law_body (g := g) (Q := fun r _ => r = .inl (some (.int (nI 1)))) (by rw [g1]; exact hst) (by rw [g6]; omega) (fun _ => rfl) M00_G
  have hC : gC g 13 99139 1669900 mL_law p room_1 s m #[Value.ref b] meth c s.heap [] 0 0 (fun _ => 0) (fun _ => 0) 0 M00 :=
    ⟨⟨hx, hb, hml, hown, htw⟩, hr, hlocks, hnm, hT, hMod, va_S.rf, by rw [g4]; exact Nat.le_refl _, hFx, by decide, by decide, by decide, by decide, Nat.le_refl _, fun _ _ => rfl⟩
  have hlv : gL g (fun _ => 0) cls 25 [.float 0, .null, .null, .null, .null, .null, .null, .null, .null, .null, .null, .null, .null, .null, .null, .null, .null, .null, .null, .null, .null, .null, .null, .null, .null] := by
    show lv_has cls 25 [(0, Value.ref (gsc g))]
    rw [g5]; exact hl
  have hW := hE p e room_1 s m #[Value.ref b] below meth c s.heap [] 0 0 (fun _ => 0) (fun _ => 0) 0 cls hC (fun r hr => by simp at hr) (fun r hr => by cases hr) hlv
  rw [g1] at hW
  intro T hTh X
  obtain ⟨t, k1, o, k2, k3, k4⟩ := hW T hTh X
  refine ⟨t, k1, o, k2, k3, ?_⟩
  rcases vx_Q_mono (mc' := 600064) (ms' := 7301640) (by decide) (by decide) k4 with ⟨⟨v, M', ρ', h1, h2, -⟩, Lc, ⟨f1, f2, f3⟩, f4⟩ | ⟨q, h0, E', ce, Lc, ⟨M', ρ', h2, -⟩, -⟩
  · have hv : v = some (.int (nI 1)) := Sum.inl.inj h2
    subst hv
    exact ⟨h1, f1, f2, same_forget f3 (fun q hq => (hA _).mp (f4 q hq))⟩
  · cases h2
set_option maxHeartbeats 4000000 in
theorem lw_walk (l : Launch) (hflags : l.flags = flags0) (b : Addr) (xs : List Int32) : MetFree l x (headSpec (Jvm.Cond.code x code maxLocals ret :: tables_1) room_1) (lw_P b xs) (fun _ _ _ _ _ => True) lw_Q := by
  refine MetFree.of_bodyS (code := code) (maxLocals := maxLocals) (ret := ret) (by decide) ?_ ?_
  · intro args s m h hn
    obtain ⟨meth, c, h1, h2, h3, h4, h5, h6, -, -⟩ := Cond.code_spec hn (atoms_spec (ws := Jvm.Cond.code x code maxLocals ret :: tables_1) h _ List.mem_cons_self)
    exact ⟨meth, c, h1, h2, h3, h4, h5, h6⟩
  · intro p e s m args below meth c s₁ B hml0 hP _
    obtain ⟨rfl, hx, hbd, hgv⟩ := hP
    obtain ⟨scr, harrAt, hlist, hof, hsmall⟩ := hx
    obtain ⟨hcb, hkn, -, -⟩ := State.arrayAt?_spec harrAt
    have hown : s.vm.findClass R_law = some m.cls := findClass_of_methodNamed B.named
    have hts0 : ∀ c ∈ (Jvm.Cond.code x code maxLocals ret :: tables_1), c.before #[Value.ref b] s = true := atoms_spec (ws := Jvm.Cond.code x code maxLocals ret :: tables_1) B.pre
    have hts : ∀ w ∈ lw_tbl, w.before #[Value.ref b] s = true := k2_hts_sels lw_privs (fun w hw => hts0 w (List.mem_cons_of_mem _ hw)) lw_privs_ok
    have hml : c.maxLocals = 25 := B.maxLocals_eq (hts0 _ List.mem_cons_self)
    have X₀ : Stand p l e room_1 s m #[Value.ref b] below meth c s₁ [] 0 0 := Stand.of_body B
    have hh0 : s₁.heap = s.heap := by rw [B.state]; rfl
    have hsz : scr.slots.size = xs.length := by rw [← Array.length_toList, hlist, List.length_map]
    have hval : ∀ j : Nat, j < xs.length → scr.slots[j]? = some (.int (xs.getD j 0)) := fun j hj => by
      rw [← Array.getElem?_toList, hlist]
      simp [hj]
    have hbl : b < s.heap.size := (Array.getElem?_eq_some_iff.mp hcb).1
    have hX : va_X b xs.length (fun j => xs.getD j 0) s s.heap := ⟨scr, hcb, hof, hkn, hsz, hval⟩
    have K : W p l e room_1 s m #[Value.ref b] below meth c s₁.heap [] 0 0 (lw_Z below #[Value.ref b] s) (entryFrame m ([Value.ref b] : List Value).toArray 25) := by
      rw [hh0]
      have hnt : ∀ z ∈ c.exceptionTable.toList, False := by
        obtain ⟨meth9, c9, h1, h2, -, -, -, -, h7, -⟩ := Cond.code_spec B.named (hts0 _ List.mem_cons_self)
        cases Option.some.inj (h1.symm.trans B.method)
        cases Option.some.inj (h2.symm.trans (Stand.of_body B).code)
        intro z hz
        rw [Array.isEmpty_iff.mp h7] at hz
        cases hz
      exact whole_start l hflags hbd B.exec B.bytes B.returns hml hown hts hX hbl B.notSynchronized hgv hnt (name_of_methodNamed B.named B.method).1
    obtain ⟨t, a1, o, b1, b2, b3⟩ := K s₁ rfl X₀
    exact ⟨t, o, a1, b1, b2, b3⟩
theorem lw_pre_spec {args : Array Value} {s : State} (h : (Jvm.Cond.and given_1 narrow_1).before args s = true) (hr : rest_1_c.before args s = true) : ∃ (b : Addr) (xs : List Int32), lw_P b xs args s := by
  have hs := flat_of_before _ h
  have hq := flat_of_before _ hr
  have hc : (Cond.count 1).before args s = true := hs _ (by decide +kernel)
  have harr : (Cond.arrayOf (.arg 0) .int).before args s = true := hs _ (by decide +kernel)
  have hle : (Cond.le (.length (.arg 0)) (.int 260)).before args s = true := hs _ (by decide +kernel)
  have hlen : (Cond.isInt (.length (.arg 0))).before args s = true := hq _ (by decide +kernel)
  have hall : (Cond.all (.arg 0) (.isInt (.elem (.arg 0) (.index 0)))).before args s = true := hq _ (by decide +kernel)
  obtain ⟨b, xs, hb, hx⟩ := State.ints_of_pre rfl harr hlen hall
  have hsm : xs.length < 2 ^ 31 := hx.choose_spec.2.2.2
  have hev : (Term.length (.arg 0)).eval args s none [] s = some (.int xs.length.toInt32) := hx.length_eval hb
  have hv := Cond.le_ints hev (show (Term.int 260).eval args s none [] s = some (.int 260) from rfl)
  have hd : xs.length.toInt32 ≤ 260 := by
    simpa [Cond.before, Cond.holds, hv] using hle
  have hN : xs.length ≤ 260 := (Int32.ofNat_le_ofNat hsm (by decide)).mp (show Int32.ofNat xs.length ≤ Int32.ofNat 260 from hd)
  exact ⟨b, xs, Cond.one_arg hc (show args[0]? = some (.ref b) from hb), hx, hN, h⟩
theorem lw_comes (l : Launch) (hflags : l.flags = flags0) : Comes l x (Jvm.Cond.code x code maxLocals ret :: tables_1) room_1 (fun tb e args s => Calls_1 tb e args s ∧ rest_1 tb e args s ∧ Pre_1 tb e args s)
    (fun _ _ args s o t => lw_Q args s o t) := by
  intro p e ha hc hk s m args below hf hfit hheap happ hpre
  obtain ⟨b, xs, hP⟩ := lw_pre_spec hpre.2.2 hpre.2.1
  obtain ⟨k, o, h1, h2, h3, hQ⟩ := lw_walk l hflags b xs p e ha hc hk s m args below hf ((Spec.applies_iff_loose hf).mp happ).1 hP trivial
  exact ⟨k, o, h1, h2, h3, hQ⟩
theorem lw_frame {s t : State} {o : Outcome} {args : Array Value} (h : Framed s o t [] 600064 7301640) :
    Framed s o t (fieldLocs frame_1_writes args s ++ arrayLocs frame_1_arrays args s ++ staticLocs frame_1_statics s) 600064 7301640 := h
theorem lw_limb (L : Cond) (hL : ∀ (args : Array Value) (s t : State), L.after args s (.returned (some (.int 1))) t = true) :
    ArmFor flags0 classFile x code maxLocals ret World_1 tables_1 room_1 Calls_1 rest_1 Pre_1
      (fun tb e a s o t => postC L tb e a s o t ∧ Framed s o t (fieldLocs frame_1_writes a s ++ arrayLocs frame_1_arrays a s ++ staticLocs frame_1_statics s) 600064 7301640) := by
  intro l hflags _ _ p e ha hc hk s m args below hf hfit hheap happ hpre
  obtain ⟨k, o, h1, h2, h3, rfl, hF⟩ := lw_comes l hflags p e ha hc hk s m args below hf hfit hheap happ hpre
  exact ⟨k, _, h1, h2, h3, hL args s _, lw_frame hF⟩
theorem i_vc : Claimed_1_1 ∧ Claimed_1_2 := ⟨lw_limb limb_1_1 (fun args s t => by simp [limb_1_1, Cond.after, Cond.holds, Cond.value]), lw_limb limb_1_2 (fun args s t => Cond.after_iff.mpr (by
  first | (rw [show limb_1_2 = Cond.eq .result (.int 1) from rfl, Cond.eq_ints (x := 1) (y := 1) rfl rfl]; simp; done) | (simp [limb_1_2, Cond.value, Term.eval]; done)))⟩
