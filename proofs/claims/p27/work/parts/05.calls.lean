/-! returns, throws, calls -/
section GC
variable {g : gG} {fr k n : Nat} {μ : gMu} {pc : Nat} {ls st : List Value} {M : gM} {Q : Option Value ⊕ String → gM → Prop}
theorem gMod.to {g : gG} {ρ : Nat → Nat} {M : gM} {s t : State} {H : Heap} (h : gMod g ρ M s H) (ht : t.heap = H) (hA : s.vm.Alike t.vm) : gMod g ρ M t t.heap := by
  obtain ⟨h1, h2, h3, h4⟩ := h
  exact ⟨by rw [ht]; exact h1, h2, h3.moved hA, h4⟩
theorem gQc.of {ρ0 ρ : Nat → Nat} {N0 : Nat} {p : Program} {R : Room} {s : State} {m : MethodId} {args : Array Value} {meth : Method} {c : Code} {H : Heap} {locs : List Loc} {cells slots : Nat} (C : gC g fr k n μ p R s m args meth c H locs cells slots ρ0 ρ N0 M) {v : Option Value} (hQ : Q (.inl v) M) (hv : gok (mN M) v.toList) {t : State} (ht : t.heap = H) (hW : s.WarmedH t.vm) :
    gQc g ρ0 N0 Q args s (.returned (v.map (gv g ρ))) t := by
  obtain ⟨c1, c2, c3, c4, c5, hM, ⟨s1, s2, s3⟩, c8, c9, c10, c11, c12, c13, c14, c15⟩ := C
  exact ⟨v, M, ρ, rfl, hQ, hM.to ht hW.alike, hv, c14, c15, by rw [ht]; exact s1, fun q hq hn => by rw [ht]; exact s2 q hq hn⟩
theorem E_iret {x : Int32} (hd : decode (gcc μ) pc = .ok (.ireturn, 1)) (hr : gret μ = some .int ∨ gret μ = some .boolean ∧ (x = 0 ∨ x = 1)) (hQ : Q (.inl (some (.int x))) M) : E g fr k n μ pc ls [.int x] M Q := by
  intro p e R s m args below meth c H locs cells slots ρ0 ρ N0 cls C hls hst hl
  obtain ⟨hx, hb, -, hown, hts⟩ := C.1
  have hret := C.2.1
  have hlocks := C.2.2.1
  refine vx_ret (W.widen (Nat.le_add_right cells k) (Nat.le_add_right slots n) ?_)
  have key : ∀ t : State, t.heap = H → s.WarmedH t.vm → gQc g ρ0 N0 Q args s (.returned (some (.int x))) t := fun t ht hW => gQc.of C hQ hst ht hW
  rcases hr with h | ⟨h, hx1⟩
  · exact W.iret hx hb (hret.trans h) key C.2.2.2.2.2.2.1.2.2 hd hlocks
  · exact W.zret hx hb (hret.trans h) (by rcases hx1 with rfl | rfl <;> decide) key C.2.2.2.2.2.2.1.2.2 hd hlocks
theorem E_vret (hd : decode (gcc μ) pc = .ok (.return_, 1)) (hr : gret μ = none) (hQ : Q (.inl none) M) : E g fr k n μ pc ls [] M Q := by
  intro p e R s m args below meth c H locs cells slots ρ0 ρ N0 cls C hls hst hl
  obtain ⟨hx, hb, -, hown, hts⟩ := C.1
  refine vx_ret (W.widen (Nat.le_add_right cells k) (Nat.le_add_right slots n) ?_)
  exact W.vret hx hb (C.2.1.trans hr) (fun t ht hW => gQc.of C hQ hst ht hW) C.2.2.2.2.2.2.1.2.2 hd C.2.2.1
theorem E_aret {r : Nat} {rt : FieldType} (hd : decode (gcc μ) pc = .ok (.areturn, 1)) (hr : gret μ = some rt) (hrt : gIsR rt) (hQ : Q (.inl (some (.ref r))) M) : E g fr k n μ pc ls [.ref r] M Q := by
  intro p e R s m args below meth c H locs cells slots ρ0 ρ N0 cls C hls hst hl
  obtain ⟨hx, hb, -, hown, hts⟩ := C.1
  refine vx_ret (W.widen (Nat.le_add_right cells k) (Nat.le_add_right slots n) ?_)
  exact W.aret (v := gv g ρ (.ref r)) hx hb (C.2.1.trans hr) hrt (by cases r with
    | zero => exact Or.inl rfl
    | succ r => exact Or.inr ⟨_, rfl⟩) (fun t ht hW => gQc.of C hQ hst ht hW) C.2.2.2.2.2.2.1.2.2 hd C.2.2.1
/-- at an exception of the class x that this method's frame is to deal with, at pc -/
def Ex (g : gG) (fr k n : Nat) (μ : gMu) (pc : Nat) (ls : List Value) (x : String) (M : gM) (Q : Option Value ⊕ String → gM → Prop) : Prop :=
  ∀ (p : Program) (e : Env) (R : Room) (s : State) (m : MethodId) (args : Array Value) (below : List Frame) (meth : Method) (c : Code) (H : Heap) (locs : List Loc) (cells slots : Nat) (ρ0 ρ : Nat → Nat) (N0 : Nat) (cls : Array Slot) (rest : List Value) (q : Addr) (ce : Cell),
    gC g fr k n μ p R s m args meth c H locs cells slots ρ0 ρ N0 M → gok (mN M) ls → gL g ρ cls (gnL μ) ls → H[q]? = some ce → ce.vm = .none → s.vm.findClass x = some ce.cls →
    vx_W p (gl1 g) e R s m args below meth c H locs cells slots (vx_MQ below (gQc g ρ0 N0 Q) (gXC g ρ0 N0 Q) args s (cells + k) (slots + n) (gA g)) (F0 m pc cls rest) q
theorem gXC.of {ρ0 ρ : Nat → Nat} {N0 : Nat} {p : Program} {R : Room} {s : State} {m : MethodId} {args : Array Value} {meth : Method} {c : Code} {H : Heap} {locs : List Loc} {cells slots : Nat} (C : gC g fr k n μ p R s m args meth c H locs cells slots ρ0 ρ N0 M) {x : String} (hQ : Q (.inr x) M) {t : State} (hs : H.size ≤ t.heap.size) (ht : ∀ q : Nat, q < H.size → t.heap[q]? = H[q]?) (hA : s.vm.Alike t.vm) :
    gXC g ρ0 N0 Q x s t := by
  obtain ⟨c1, c2, c3, c4, c5, ⟨hP, hD, hK, hR⟩, ⟨s1, s2, s3⟩, c8, c9, c10, c11, c12, c13, c14, c15⟩ := C
  refine ⟨M, ρ, hQ, ⟨hP.kept (fun j q hq => ht q.1 (hP j q hq).lt), hD, hK.moved hA, hR⟩, c14, c15, Nat.le_trans s1 hs, fun q hq hn => ?_⟩
  rw [ht q (Nat.lt_of_lt_of_le hq s1)]
  exact s2 q hq hn
theorem Ex_out {x : String} (hh : ghh μ = []) (hQ : Q (.inr x) M) : Ex g fr k n μ pc ls x M Q := by
  intro p e R s m args below meth c H locs cells slots ρ0 ρ N0 cls rest q ce C hls hl hq hv hc
  have hT : gT μ c := C.2.2.2.2.1
  unfold gT at hT
  rw [hh] at hT
  exact vx_out (fun z hz => (hT z hz).elim) C.2.2.1 hq hv hc (fun t ht hA => gXC.of C hQ (by rw [ht]; exact Nat.le_refl _) (fun q _ => by rw [ht]) hA) C.2.2.2.2.2.2.1.2.2 (Nat.le_add_right _ _) (Nat.le_add_right _ _)
/-- throw new X(text) in a method without a table -/
theorem E_throw {ik is ic sa : Nat} {cls0 text : String} {names : List String} (hl : (gl1 g).stackTraces = false) (hh : ghh μ = []) (hcls : Bundle.fit cls0 = true) (hnames : ∀ n ∈ names, Bundle.fit n = true) (hk : Cond.classLink (gy μ).cls ik cls0 ∈ gW) (hini : Cond.initialized cls0 ∈ gW) (hstr : ((gy μ).cls, (is, text)) ∈ gTW)
    (hat : ∀ w ∈ vx_atS (gy μ).cls ic cls0 names, w ∈ gW ∨ w ∈ gNW ∨ w ∈ gCW) (hgood : ∀ w ∈ Cond.classLink (gy μ).cls ik cls0 :: Cond.initialized cls0 :: vx_atS (gy μ).cls ic cls0 names, vx_ot w = true)
    (d0 : decode (gcc μ) pc = .ok (.new ik, 3)) (d3 : decode (gcc μ) (pc + 3) = .ok (.dup, 1)) (d4 : decode (gcc μ) (pc + 4) = .ok (.ldc is, 2)) (d6 : decode (gcc μ) (pc + 6) = .ok (.invokespecial ic, 3)) (d9 : decode (gcc μ) (pc + 9) = .ok (.athrow, 1))
    (hfr : names.length + 4 ≤ fr) (hlo : (st.map fun v => v.category).sum + (13 * (names.length + 1) + 43) ≤ 55 * fr) (hk1 : 1 ≤ k) (hn1 : 6 ≤ n) (hQ : Q (.inr cls0) M) : E g fr k n μ pc ls st M Q := by
  intro p e R s m args below meth c H locs cells slots ρ0 ρ N0 cls C hls hst hlv
  have C0 := C
  obtain ⟨⟨hx, hb, hml, hown, hts⟩, c2, c3, c4, hT, hM, hS, c8, hF, c10, c11, c12, c13, c14, c15⟩ := C
  unfold gT at hT
  rw [hh] at hT
  obtain ⟨sa, hsa⟩ := hF.2.2.1 _ hstr
  have e1 : ((st.map (gv g ρ)).map fun v => v.category) = st.map fun v => v.category := by
    rw [List.map_map]
    exact List.map_congr_left fun v _ => gv_cat g ρ v
  refine vx_throwS (names := names) (text := text) (sa := sa) hx hb hl hown hcls hnames (hts _ hk) (hts _ hini) hsa (fun w hw => ?_) hgood hF.2.2.2.2.1 hF.2.2.2.2.2.1 hS (hlv.1.trans hml.symm) d0 d3 d4 d6 d9 (fun z hz => (hT z hz).elim) (by omega) (by rw [e1]; omega) (by omega) (by omega) c3 (fun t hA h1 h2 => gXC.of C0 hQ h1 h2 hA) hS.2.2 (by omega) (by omega)
  rcases hat w hw with h | h | h
  · exact hts w h
  · obtain ⟨a, i, x, h', rfl⟩ := gNW_eq h
    exact va_Nw.use rfl (hF.1 _ h)
  · rcases gCW_eq h with ⟨a, b, rfl⟩ | ⟨y, rfl⟩
    · exact va_Nw.use rfl (hF.2.1 _ h)
    · exact va_Nw.use rfl (hF.2.1 _ h)
/-! calls -/
theorem gpay {s : State} {args : Array Value} (hts : ∀ w ∈ gW, w.before args s = true) {μ' : gMu} (hc : gcode μ' ∈ gW) : ∀ w ∈ gWs μ', ∀ (a' : Array Value) (U : State), s.WarmedH U.vm → w.before a' U = true := by
  have key : ∀ w ∈ gW, ∀ (a' : Array Value) (U : State), s.WarmedH U.vm → w.before a' U = true := fun w hw a' U hW => word_at hW (good_of_word (List.mem_filter.mp hw).2) (hts w hw)
  intro w hw
  rcases List.mem_cons.mp hw with rfl | hw
  · exact key _ hc
  · exact key w hw
def gpad (nL : Nat) (vs : List Value) : List Value := vs ++ List.replicate (nL - vs.length) .null
def gRm (fr k n : Nat) : Room := { frames := fr, cells := k, slots := n, locals := 55 * fr }
def gPc (g : gG) (ρ : Nat → Nat) (As : List Value) (M : gM) : Array Value → State → Prop := fun a U =>
  a = (As.map (gv g ρ)).toArray ∧ gMod g ρ M U U.heap ∧ gok (mN M) As ∧ gFx g U U.heap ∧ gbs g ≤ U.heap.size
theorem gPc.blind {g : gG} {ρ : Nat → Nat} {As : List Value} {M : gM} : FrameBlind (gPc g ρ As M) := by
  rintro a U gg mk ⟨h1, ⟨m1, m2, m3, m4⟩, h3, ⟨f1, f2, f3, f4, f5, f6, ⟨f7, f8, f9, f10⟩, f11, f12⟩, h5⟩
  have hA : U.vm.Alike (U.calling gg mk a).vm := Vm.Alike.refl U.vm
  refine ⟨h1, ⟨m1, m2, va_K.moved (u := U) hA m3, m4⟩, h3, ⟨fun w hw => ?_, fun w hw => ?_, fun t ht => ?_, fun q hq => va_Nc.moved (u := U) hA (f4 q hq), vx_Zq.moved (u := U) hA f5, vx_Zq.moved (u := U) hA f6, ⟨va_AO.moved (u := U) hA f7, va_AO.moved (u := U) hA f8, va_AO.moved (u := U) hA f9, ?_⟩, va_X.moved (u := U) hA f11, f12⟩, h5⟩
  · obtain ⟨a', i, x, h, rfl⟩ := gNW_eq hw
    exact va_Nw.same rfl (u := U) rfl (f1 _ hw)
  · rcases gCW_eq hw with ⟨a', b, rfl⟩ | ⟨y, rfl⟩
    · exact va_Nw.same rfl (u := U) rfl (f2 _ hw)
    · exact va_Nw.same rfl (u := U) rfl (f2 _ hw)
  · obtain ⟨sa, hsa⟩ := f3 t ht
    exact ⟨sa, vk_R.same (u := U) rfl hsa⟩
  · exact arrayOver_alikeB hA f10
theorem lv_args_mem {q : Nat × Value} : ∀ {vs : List Value} {i : Nat}, (∀ v ∈ vs, v.category = 1) → (q ∈ lv_args i vs ↔ ∃ t v, vs[t]? = some v ∧ q = (i + t, v))
  | [], i, _ => by simp [lv_args]
  | v :: vs, i, h => by
    have hv : v.category = 1 := h v List.mem_cons_self
    have e : lv_args i (v :: vs) = (i, v) :: lv_args (i + 1) vs := by simp [lv_args, hv]
    rw [e, List.mem_cons, lv_args_mem (i := i + 1) (fun w hw => h w (List.mem_cons_of_mem _ hw))]
    constructor
    · rintro (rfl | ⟨t, w, h1, h2⟩)
      · exact ⟨0, v, rfl, by rw [Nat.add_zero]⟩
      · exact ⟨t + 1, w, h1, by rw [h2, show i + 1 + t = i + (t + 1) by omega]⟩
    · rintro ⟨t, w, h1, h2⟩
      cases t with
      | zero => cases h1; exact Or.inl (by rw [h2, Nat.add_zero])
      | succ t => exact Or.inr ⟨t, w, h1, by rw [h2, show i + 1 + t = i + (t + 1) by omega]⟩
/-- a contract out of a walk -/
theorem gMet {μ : gMu} {As : List Value} {ρ : Nat → Nat} (hpl : plainName (gy μ).cls = true) (hcat : ∀ v ∈ As, v.category = 1) (hlen : As.length ≤ gnL μ) (hcode : gcode μ ∈ gW) (hE : E g fr k n μ 0 (gpad (gnL μ) As) [] M Q) :
    vx_Met (gl1 g) (gy μ) (gWs μ) (gRm fr k n) (gPc g ρ As M) (gQc g ρ (mN M) Q) (gXC g ρ (mN M) Q) k n (gA g) := by
  have hcat' : ∀ v ∈ As.map (gv g ρ), v.category = 1 := fun v hv => by
    obtain ⟨w, hw, rfl⟩ := List.mem_map.mp hv
    rw [gv_cat]; exact hcat w hw
  have hsl : (lg_sl (As.map (gv g ρ))).length = As.length := by
    have : ∀ vs : List Value, (∀ v ∈ vs, v.category = 1) → (lg_sl vs).length = vs.length := by
      intro vs
      induction vs with
      | nil => intro _; rfl
      | cons v vs ih =>
        intro h
        have hv : v.category = 1 := h v List.mem_cons_self
        have := ih (fun w hw => h w (List.mem_cons_of_mem _ hw))
        unfold lg_sl at this ⊢
        rw [List.flatMap_cons, List.length_append, this]
        simp [hv]; omega
    rw [this _ hcat', List.length_map]
  have main : ∀ (p : Program) (e : Env) (s : State) (m : MethodId) (args : Array Value) (below : List Frame) (meth : Method) (c : Code) (s₁ : State), BodyLoose p (gl1 g) (gy μ) (headSpec (gWs μ) (gRm fr k n)) (gcc μ) (gnL μ) (gret μ) e s m args below meth c s₁ → c.maxLocals = gnL μ → gT μ c → gPc g ρ As M args s →
      W p (gl1 g) e (headSpec (gWs μ) (gRm fr k n)).room s m args below meth c s.heap [] 0 0 (vx_MQ below (gQc g ρ (mN M) Q) (gXC g ρ (mN M) Q) args s k n (gA g)) (entryFrame m args (gnL μ)) := by
    intro p e s m args below meth c s₁ B hml hT hPc
    obtain ⟨rfl, hM, hok, hF, hbs⟩ := hPc
    have hts := atoms_spec (ws := gWs μ) B.pre
    have hl := lv_entry (As.map (gv g ρ)) (n := gnL μ) (by rw [hsl]; exact hlen)
    rw [lg_entry_eq]
    generalize (lg_sl (As.map (gv g ρ)) ++ List.replicate (gnL μ - (lg_sl (As.map (gv g ρ))).length) Slot.unset).toArray = cls at hl ⊢
    have hlv : gL g ρ cls (gnL μ) (gpad (gnL μ) As) := by
      refine ⟨hl.1, hl.2.1, fun q hq => ?_⟩
      obtain ⟨t, v, h1, h2, rfl⟩ := gpl_mem.mp hq
      refine hl.2.2 _ ((lv_args_mem hcat').mpr ⟨t, gv g ρ v, ?_, rfl⟩)
      unfold gpad at h1
      by_cases ht : t < As.length
      · rw [List.getElem?_append_left ht] at h1
        rw [List.getElem?_map, h1]; rfl
      · rw [List.getElem?_append_right (by omega)] at h1
        have := List.mem_replicate.mp (List.mem_of_getElem? h1)
        exact absurd this.2 h2
    have hls : gok (mN M) (gpad (gnL μ) As) := fun r hr => by
      rcases List.mem_append.mp hr with h | h
      · exact hok r h
      · cases (List.mem_replicate.mp h).2
    have hE1 := hE p e (gRm fr k n) s m _ below meth c s.heap [] 0 0 ρ ρ (mN M) cls ⟨⟨B.exec, B.bytes, hml, findClass_of_methodNamed B.named, fun w hw => hts w (List.mem_cons_of_mem _ hw)⟩, B.returns, B.notSynchronized, (name_of_methodNamed B.named B.method).1, hT, hM, va_S.rf, hbs, hF, Nat.le_refl _, Nat.le_refl _, by show 0 + k ≤ k; omega, by show 0 + n ≤ n; omega, Nat.le_refl _, fun _ _ => rfl⟩ hls (fun r hr => by cases hr) hlv
    rw [Nat.zero_add, Nat.zero_add] at hE1
    exact hE1
  cases hh : ghh μ with
  | nil =>
    have hc : gcode μ = .code (gy μ) (gcc μ) (gnL μ) (gret μ) := by unfold gcode; rw [hh]
    refine vx_ofW (cc := gcc μ) (maxL := gnL μ) (ret := gret μ) (ws' := gW) hpl (by rw [← hc]; rfl) ?_
    intro p e s m args below meth c s₁ B hml hT hPc
    exact main p e s m args below meth c s₁ B hml (by unfold gT; rw [hh]; exact hT) hPc
  | cons h0 hs =>
    have hc : gcode μ = .codeWith (gy μ) (gcc μ) (gnL μ) (gret μ) (ghh μ) := by unfold gcode; rw [hh]
    refine vx_ofWH (cc := gcc μ) (maxL := gnL μ) (ret := gret μ) (hh := ghh μ) (ws' := gW) hpl (by rw [← hc]; rfl) ?_
    intro p e s m args below meth c s₁ B hml hPc
    refine main p e s m args below meth c s₁ B hml ?_ hPc
    have := vx_table (x := gy μ) B (y := gy μ) (bytes := gcc μ) (maxL' := gnL μ) (ret' := gret μ) (hh := ghh μ) (by rw [← hc]; exact atoms_spec (ws := gWs μ) B.pre _ List.mem_cons_self)
    unfold gT; rw [hh] at this ⊢; exact this
end GC
