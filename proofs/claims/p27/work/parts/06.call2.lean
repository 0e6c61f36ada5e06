section GC2
variable {g : gG} {fr k n : Nat} {μ : gMu} {pc : Nat} {ls st : List Value} {M : gM} {Q : Option Value ⊕ String → gM → Prop}
/-- what comes behind a call -/
def gK (g : gG) (fr k n : Nat) (μ : gMu) (pc : Nat) (ls rest : List Value) (Q : Option Value ⊕ String → gM → Prop) : Option Value ⊕ String → gM → Prop := fun r M' => match r with
  | .inl v => E g fr k n μ (pc + 3) ls (v.toList ++ rest) M' Q
  | .inr x => Ex g fr k n μ pc ls x M' Q
theorem gCall {k1 n1 k2 n2 : Nat} {rest : List Value} {a : Array Value} {st0 : List Value}
    {p : Program} {e : Env} {R : Room} {s : State} {m : MethodId} {args : Array Value} {below : List Frame} {meth : Method} {c : Code} {H : Heap} {locs : List Loc} {cells slots : Nat} {ρ0 ρ : Nat → Nat} {N0 : Nat} {cls : Array Slot}
    (C : gC g fr (k1 + k2) (n1 + n2) μ p R s m args meth c H locs cells slots ρ0 ρ N0 M) (hls : gok (mN M) ls) (hrest : gok (mN M) rest) (hlv : gL g ρ cls (gnL μ) ls)
    (hr : vx_Run p (gl1 g) e R s m args below meth c H locs cells slots k1 n1 (F0 m pc cls st0) (rest.map (gv g ρ)) (gQc g ρ (mN M) (gK g fr k2 n2 μ pc ls rest Q) a) (gXC g ρ (mN M) (gK g fr k2 n2 μ pc ls rest Q)) (gA g)) :
    W p (gl1 g) e R s m args below meth c H locs cells slots (vx_MQ below (gQc g ρ0 N0 Q) (gXC g ρ0 N0 Q) args s (cells + (k1 + k2)) (slots + (n1 + n2)) (gA g)) (F0 m pc cls st0) := by
  obtain ⟨c1, c2, c3, c4, c5, ⟨hP, hD, hK, hR⟩, hS, c8, c9, c10, c11, c12, c13, c14, c15⟩ := C
  intro T hT X
  rcases hr T hT X with ⟨v0, st₀, t, T', L, h0, X', hL, e1, e2, ⟨v, M', ρ', ho, hQ, hM', hv, hN, hρ, hF⟩, go⟩ | ⟨q, st₀, t, T', L, E', ce, h0, X', hL, e1, e2, ⟨M', ρ', hQ, hM', hN, hρ, hF⟩, hce, hcv, hcl, go⟩
  · have hA : t.vm.Alike s.vm := by rw [← e2]; exact X'.warmed.alike.symm
    obtain ⟨k1', k2', k3'⟩ := vx_keep h0 e1 hS (fun q _ h => h) (fun q h => h) hL hF
    obtain ⟨m1, m2, m3, m4⟩ := hM'
    have hv0 : v0 = v.map (gv g ρ') := by cases ho; rfl
    have C' : gC g fr k2 n2 μ p R s m args meth c T'.heap (locs ++ L) (cells + k1) (slots + n1) ρ0 ρ' N0 M' := ⟨c1, c2, c3, c4, c5, ⟨by rw [e1]; exact m1, m2, m3.moved hA, m4⟩, k3', c8, c9, c10, c11, by omega, by omega, Nat.le_trans c14 hN, fun a ha => (hρ a (Nat.lt_of_lt_of_le ha c14)).trans (c15 a ha)⟩
    have hQ' : E g fr k2 n2 μ (pc + 3) ls (v.toList ++ rest) M' Q := hQ
    have hst : gok (mN M') (v.toList ++ rest) := fun r hr => (List.mem_append.mp hr).elim (fun h => hv r h) (fun h => Nat.le_trans (hrest r h) hN)
    obtain ⟨t2, a1, b1⟩ := hQ' p e R s m args below meth c T'.heap (locs ++ L) (cells + k1) (slots + n1) ρ0 ρ' N0 cls C' (gok_le hN hls) hst (hlv.ext hls hρ) T' rfl X'
    refine ⟨t2, go t2 ?_, ?_⟩
    · have e3 : (v.toList ++ rest).map (gv g ρ') = v0.toList ++ rest.map (gv g ρ) := by
        rw [List.map_append, gv_ext hρ hrest, hv0]
        cases v <;> rfl
      rw [e3] at a1
      exact a1
    · rw [show cells + (k1 + k2) = cells + k1 + k2 by omega, show slots + (n1 + n2) = slots + n1 + n2 by omega]
      exact b1
  · have hA : t.vm.Alike s.vm := by rw [← e2]; exact X'.warmed.alike.symm
    obtain ⟨k1', k2', k3'⟩ := vx_keep h0 e1 hS (fun q _ h => h) (fun q h => h) hL hF
    obtain ⟨m1, m2, m3, m4⟩ := hM'
    have C' : gC g fr k2 n2 μ p R s m args meth c T'.heap (locs ++ L) (cells + k1) (slots + n1) ρ0 ρ' N0 M' := ⟨c1, c2, c3, c4, c5, ⟨by rw [e1]; exact m1, m2, m3.moved hA, m4⟩, k3', c8, c9, c10, c11, by omega, by omega, Nat.le_trans c14 hN, fun a ha => (hρ a (Nat.lt_of_lt_of_le ha c14)).trans (c15 a ha)⟩
    have hQ' : Ex g fr k2 n2 μ pc ls E' M' Q := hQ
    obtain ⟨t2, a1, b1⟩ := hQ' p e R s m args below meth c T'.heap (locs ++ L) (cells + k1) (slots + n1) ρ0 ρ' N0 cls (rest.map (gv g ρ)) q ce C' (gok_le hN hls) (hlv.ext hls hρ) (by rw [e1]; exact hce) hcv hcl T' rfl X'
    refine ⟨t2, go.trans a1, ?_⟩
    rw [show cells + (k1 + k2) = cells + k1 + k2 by omega, show slots + (n1 + n2) = slots + n1 + n2 by omega]
    exact b1
/-- what a callee's statics say -/
def gOk (μ' : gMu) (np : Nat) : Prop := plainName (gy μ').cls = true ∧ gcode μ' ∈ gW ∧ gnL μ' ≤ 36 ∧ ((gy μ').cls ≠ "java/lang/invoke/MethodHandle" ∧ (gy μ').cls ≠ "java/lang/invoke/VarHandle") ∧ (parseMethodDescriptor (gy μ').desc).map (fun d => d.parameters.length) = some np ∧ Cond.initialized (gy μ').cls ∈ gW
def gOkV (μ' : gMu) (np : Nat) : Prop := gOk μ' np ∧ ghh μ' = [] ∧ Cond.instanceMethod (gy μ') ∈ gW ∧ Cond.selects (gy μ').cls (gy μ') (gy μ') ∈ gW
def gOkS (μ' : gMu) (np : Nat) : Prop := gOk μ' np ∧ Cond.static (gy μ') ∈ gW
def gOkI (μ' : gMu) (np : Nat) : Prop := gOk μ' np ∧ ghh μ' = [] ∧ (gy μ').name = "<init>" ∧ gret μ' = none ∧ Cond.instanceMethod (gy μ') ∈ gW
def gLk (own : String) (idx : Nat) (y : MethodName) : Prop := Cond.methodLink own idx y ∈ gW ∨ ∃ h, Cond.methodLinkNest own idx y h ∈ gNW
theorem gcat {As : List Value} {rest : List Value} {ρ : Nat → Nat} (h : (rest.map fun v => v.category).sum ≤ 8) {m : MethodId} {pc : Nat} {cls : Array Slot} {st0 : List Value} : 2 * (F0 m pc cls st0).monitorRoom + ((rest.map (gv g ρ)).map fun v => v.category).sum ≤ 8 := by
  have e1 : ((rest.map (gv g ρ)).map fun v => v.category) = rest.map fun v => v.category := by
    rw [List.map_map]
    exact List.map_congr_left fun v _ => gv_cat g ρ v
  rw [e1]
  show 2 * 0 + _ ≤ 8
  omega
theorem gPcOf {p : Program} {R : Room} {s : State} {m : MethodId} {args : Array Value} {meth : Method} {c : Code} {H : Heap} {locs : List Loc} {cells slots : Nat} {ρ0 ρ : Nat → Nat} {N0 : Nat} {As : List Value} (C : gC g fr k n μ p R s m args meth c H locs cells slots ρ0 ρ N0 M) (hAs : gok (mN M) As) {U : State} (hU : U.heap = H) (hW : s.WarmedH U.vm) : gPc g ρ As M ((As.map (gv g ρ)).toArray) U := by
  obtain ⟨c1, c2, c3, c4, c5, hM, ⟨s1, s2, s3⟩, c8, c9, c10, c11, c12, c13, c14, c15⟩ := C
  refine ⟨rfl, hM.to hU hW.alike, hAs, ?_, by rw [hU]; omega⟩
  rw [hU]
  exact c9.moved hW (fun q hq => s2 q (by omega) (Nat.not_le.mpr hq))
theorem E_callV {fr' k1 n1 k2 n2 idx r np cb z : Nat} {As rest : List Value} {μ' : gMu} (hd : decode (gcc μ) pc = .ok (.invokevirtual idx, 3)) (ho : gOkV μ' np) (hl : gLk (gy μ).cls idx (gy μ')) (hnp : As.length = np) (hr : r < mN M) (hk : mK M r = (cb, z)) (hcb : cb < 12) (hcl : (gcl cb).1 = (gy μ').cls) (hcat : ∀ v ∈ As, v.category = 1) (hlen : As.length + 1 ≤ gnL μ') (hfr : fr' + 1 ≤ fr) (hrest : (rest.map fun v => v.category).sum ≤ 8)
    (hE : E g fr' k1 n1 μ' 0 (gpad (gnL μ') (.ref (r + 1) :: As)) [] M (gK g fr k2 n2 μ pc ls rest Q)) : E g fr (k1 + k2) (n1 + n2) μ pc ls (As.reverse ++ .ref (r + 1) :: rest) M Q := by
  intro p e R s m args below meth c H locs cells slots ρ0 ρ N0 cls C hls hst hlv
  obtain ⟨⟨o1, o2, o3, o4, o5, o6⟩, ohh, o7, o8⟩ := ho
  have C0 := C
  obtain ⟨⟨hx, hb, hml, hown, hts⟩, c2, c3, c4, c5, ⟨hP, hD, hK, hR⟩, hS, c8, c9, c10, c11, c12, c13, c14, c15⟩ := C
  have hMet := gMet (As := .ref (r + 1) :: As) (ρ := ρ) o1 (fun v hv => by
    rcases List.mem_cons.mp hv with h | h
    · rw [h]; rfl
    · exact hcat v h) (by rw [List.length_cons]; exact hlen) o2 hE
  have hAs : gok (mN M) (.ref (r + 1) :: As) := fun q hq => by
    rcases List.mem_cons.mp hq with h | h
    · cases h; exact hr
    · exact hst q (List.mem_append_left _ (List.mem_reverse.mpr h))
  have hre : gok (mN M) rest := fun q hq => hst q (List.mem_append_right _ (List.mem_cons_of_mem _ hq))
  have hcode : gcode μ' = .code (gy μ') (gcc μ') (gnL μ') (gret μ') := by unfold gcode; rw [ohh]
  have hPV : PreV s H (gy μ').cls (ρ r) (gPc g ρ (.ref (r + 1) :: As) M) (As.map (gv g ρ)) := ⟨gPc.blind, by
    rw [← hcl]
    exact va_recv hK hP (q := ((gcl cb).1, (gcl cb).2.1, gNf cb)) (gcl_at cb hcb) ((gws_at hr).trans (by rw [gE_obj hk hcb])), fun U hU hW => gPcOf C0 hAs hU hW⟩
  have hbase : (gRm fr' k1 n1).cells = k1 ∧ (gRm fr' k1 n1).slots = n1 ∧ (gRm fr' k1 n1).frames + 1 ≤ R.frames ∧ 8 + (gnL μ' + 11) + (gRm fr' k1 n1).locals ≤ R.locals ∧ (∀ w ∈ gWs μ', ∀ (a' : Array Value) (U : State), s.WarmedH U.vm → w.before a' U = true) ∧ Cond.code (gy μ') (gcc μ') (gnL μ') (gret μ') ∈ gWs μ' :=
    ⟨rfl, rfl, Nat.le_trans hfr c10, by show 8 + (gnL μ' + 11) + 55 * fr' ≤ _; omega, gpay hts o2, by rw [← hcode]; exact List.mem_cons_self⟩
  have hcd : (Cond.code (gy μ') (gcc μ') (gnL μ') (gret μ')).before args s = true := by rw [← hcode]; exact hts _ o2
  have hnps : ∀ sig, parseMethodDescriptor (gy μ').desc = some sig → np = sig.parameters.length := fun sig h => by rw [h] at o5; exact (Option.some.inj o5).symm
  refine gCall C0 hls hre hlv (a := (Value.ref (ρ r) :: As.map (gv g ρ)).toArray) ?_
  have hstk : ((As.reverse ++ .ref (r + 1) :: rest).map (gv g ρ)) = (As.map (gv g ρ)).reverse ++ .ref (ρ r) :: rest.map (gv g ρ) := by
    rw [List.map_append, List.map_reverse]; rfl
  rw [hstk]
  rcases hl with hl | ⟨h, hl⟩
  · exact vx_runV (As := As.map (gv g ρ)) (rest := rest.map (gv g ρ)) ⟨hx, hb, hml, hown, hts⟩ hMet ⟨⟨hbase.1, hbase.2.1, hbase.2.2.1, hbase.2.2.2.1, hbase.2.2.2.2.1, hbase.2.2.2.2.2, hcd, hts _ o6, o4, hnps, hts _ hl⟩, hts _ o7, hts _ o8⟩ hPV rfl (by rw [List.length_map]; exact hnp) hlv.1 rfl (gcat (As := As) hrest) hd ⟨by omega, by omega⟩
  · have hnw := va_Nw.use (A := args) rfl (c9.1 _ hl)
    exact vx_runVN (As := As.map (gv g ρ)) (rest := rest.map (gv g ρ)) ⟨hx, hb, hml, hown, hts⟩ hMet ⟨⟨hbase, hcd, hts _ o6, o4, hnps, hnw⟩, hts _ o7, hts _ o8⟩ hPV rfl (by rw [List.length_map]; exact hnp) hlv.1 rfl (gcat (As := As) hrest) hd ⟨by omega, by omega⟩
theorem E_callI {fr' k1 n1 k2 n2 idx r np : Nat} {As rest : List Value} {μ' : gMu} (hd : decode (gcc μ) pc = .ok (.invokespecial idx, 3)) (ho : gOkI μ' np) (hl : gLk (gy μ).cls idx (gy μ')) (hnp : As.length = np) (hr : r < mN M) (hcat : ∀ v ∈ As, v.category = 1) (hlen : As.length + 1 ≤ gnL μ') (hfr : fr' + 1 ≤ fr) (hrest : (rest.map fun v => v.category).sum ≤ 8)
    (hE : E g fr' k1 n1 μ' 0 (gpad (gnL μ') (.ref (r + 1) :: As)) [] M (gK g fr k2 n2 μ pc ls rest Q)) : E g fr (k1 + k2) (n1 + n2) μ pc ls (As.reverse ++ .ref (r + 1) :: rest) M Q := by
  intro p e R s m args below meth c H locs cells slots ρ0 ρ N0 cls C hls hst hlv
  obtain ⟨⟨o1, o2, o3, o4, o5, o6⟩, ohh, o7, o8, o9⟩ := ho
  have C0 := C
  obtain ⟨⟨hx, hb, hml, hown, hts⟩, c2, c3, c4, c5, ⟨hP, hD, hK, hR⟩, hS, c8, c9, c10, c11, c12, c13, c14, c15⟩ := C
  have hMet := gMet (As := .ref (r + 1) :: As) (ρ := ρ) o1 (fun v hv => by
    rcases List.mem_cons.mp hv with h | h
    · rw [h]; rfl
    · exact hcat v h) (by rw [List.length_cons]; exact hlen) o2 hE
  have hAs : gok (mN M) (.ref (r + 1) :: As) := fun q hq => by
    rcases List.mem_cons.mp hq with h | h
    · cases h; exact hr
    · exact hst q (List.mem_append_left _ (List.mem_reverse.mpr h))
  have hre : gok (mN M) rest := fun q hq => hst q (List.mem_append_right _ (List.mem_cons_of_mem _ hq))
  have hcode : gcode μ' = .code (gy μ') (gcc μ') (gnL μ') none := by unfold gcode; rw [ohh, o8]
  have hPS : PreS s H (gPc g ρ (.ref (r + 1) :: As) M) (.ref (ρ r) :: As.map (gv g ρ)) := ⟨gPc.blind, fun U hU hW => gPcOf C0 hAs hU hW⟩
  have hbase : (gRm fr' k1 n1).cells = k1 ∧ (gRm fr' k1 n1).slots = n1 ∧ (gRm fr' k1 n1).frames + 1 ≤ R.frames ∧ 8 + (gnL μ' + 11) + (gRm fr' k1 n1).locals ≤ R.locals ∧ (∀ w ∈ gWs μ', ∀ (a' : Array Value) (U : State), s.WarmedH U.vm → w.before a' U = true) ∧ Cond.code (gy μ') (gcc μ') (gnL μ') none ∈ gWs μ' :=
    ⟨rfl, rfl, Nat.le_trans hfr c10, by show 8 + (gnL μ' + 11) + 55 * fr' ≤ _; omega, gpay hts o2, by rw [← hcode]; exact List.mem_cons_self⟩
  have hcd : (Cond.code (gy μ') (gcc μ') (gnL μ') none).before args s = true := by rw [← hcode]; exact hts _ o2
  have hnps : ∀ sig, parseMethodDescriptor (gy μ').desc = some sig → np = sig.parameters.length := fun sig h => by rw [h] at o5; exact (Option.some.inj o5).symm
  refine gCall C0 hls hre hlv (a := (Value.ref (ρ r) :: As.map (gv g ρ)).toArray) ?_
  have hstk : ((As.reverse ++ .ref (r + 1) :: rest).map (gv g ρ)) = (As.map (gv g ρ)).reverse ++ .ref (ρ r) :: rest.map (gv g ρ) := by
    rw [List.map_append, List.map_reverse]; rfl
  rw [hstk]
  rcases hl with hl | ⟨h, hl⟩
  · exact vx_runI (As := As.map (gv g ρ)) (rest := rest.map (gv g ρ)) ⟨hx, hb, hml, hown, hts⟩ hMet ⟨⟨hbase.1, hbase.2.1, hbase.2.2.1, hbase.2.2.2.1, hbase.2.2.2.2.1, hbase.2.2.2.2.2, hcd, hts _ o6, o4, hnps, hts _ hl⟩, o7, hts _ o9⟩ hPS rfl (by rw [List.length_map]; exact hnp) hlv.1 rfl (gcat (As := As) hrest) hd ⟨by omega, by omega⟩
  · have hnw := va_Nw.use (A := args) rfl (c9.1 _ hl)
    exact vx_runIN (As := As.map (gv g ρ)) (rest := rest.map (gv g ρ)) ⟨hx, hb, hml, hown, hts⟩ hMet ⟨⟨hbase, hcd, hts _ o6, o4, hnps, hnw⟩, o7, hts _ o9⟩ hPS rfl (by rw [List.length_map]; exact hnp) hlv.1 rfl (gcat (As := As) hrest) hd ⟨by omega, by omega⟩
theorem E_callS {fr' k1 n1 k2 n2 idx np : Nat} {As rest : List Value} {μ' : gMu} (hd : decode (gcc μ) pc = .ok (.invokestatic idx, 3)) (ho : gOkS μ' np) (hl : gLk (gy μ).cls idx (gy μ')) (hnp : As.length = np) (hcat : ∀ v ∈ As, v.category = 1) (hlen : As.length ≤ gnL μ') (hfr : fr' + 1 ≤ fr) (hrest : (rest.map fun v => v.category).sum ≤ 8)
    (hx0 : ghh μ' = [] ∨ Cond.methodLink (gy μ).cls idx (gy μ') ∈ gW)
    (hE : E g fr' k1 n1 μ' 0 (gpad (gnL μ') As) [] M (gK g fr k2 n2 μ pc ls rest Q)) : E g fr (k1 + k2) (n1 + n2) μ pc ls (As.reverse ++ rest) M Q := by
  intro p e R s m args below meth c H locs cells slots ρ0 ρ N0 cls C hls hst hlv
  obtain ⟨⟨o1, o2, o3, o4, o5, o6⟩, o7⟩ := ho
  have C0 := C
  obtain ⟨⟨hx, hb, hml, hown, hts⟩, c2, c3, c4, c5, ⟨hP, hD, hK, hR⟩, hS, c8, c9, c10, c11, c12, c13, c14, c15⟩ := C
  have hMet := gMet (ρ := ρ) o1 hcat hlen o2 hE
  have hAs : gok (mN M) As := fun q hq => hst q (List.mem_append_left _ (List.mem_reverse.mpr hq))
  have hre : gok (mN M) rest := fun q hq => hst q (List.mem_append_right _ hq)
  have hPS : PreS s H (gPc g ρ As M) (As.map (gv g ρ)) := ⟨gPc.blind, fun U hU hW => gPcOf C0 hAs hU hW⟩
  have hnps : ∀ sig, parseMethodDescriptor (gy μ').desc = some sig → np = sig.parameters.length := fun sig h => by rw [h] at o5; exact (Option.some.inj o5).symm
  have hlo : 8 + (gnL μ' + 11) + (gRm fr' k1 n1).locals ≤ R.locals := by show 8 + (gnL μ' + 11) + 55 * fr' ≤ _; omega
  refine gCall C0 hls hre hlv (a := (As.map (gv g ρ)).toArray) ?_
  have hstk : ((As.reverse ++ rest).map (gv g ρ)) = (As.map (gv g ρ)).reverse ++ rest.map (gv g ρ) := by
    rw [List.map_append, List.map_reverse]
  rw [hstk]
  cases hh : ghh μ' with
  | nil =>
    have hcode : gcode μ' = .code (gy μ') (gcc μ') (gnL μ') (gret μ') := by unfold gcode; rw [hh]
    have hcd : (Cond.code (gy μ') (gcc μ') (gnL μ') (gret μ')).before args s = true := by rw [← hcode]; exact hts _ o2
    have hbase : (gRm fr' k1 n1).cells = k1 ∧ (gRm fr' k1 n1).slots = n1 ∧ (gRm fr' k1 n1).frames + 1 ≤ R.frames ∧ 8 + (gnL μ' + 11) + (gRm fr' k1 n1).locals ≤ R.locals ∧ (∀ w ∈ gWs μ', ∀ (a' : Array Value) (U : State), s.WarmedH U.vm → w.before a' U = true) ∧ Cond.code (gy μ') (gcc μ') (gnL μ') (gret μ') ∈ gWs μ' :=
      ⟨rfl, rfl, Nat.le_trans hfr c10, hlo, gpay hts o2, by rw [← hcode]; exact List.mem_cons_self⟩
    rcases hl with hl | ⟨h, hl⟩
    · exact vx_runS (As := As.map (gv g ρ)) (rest := rest.map (gv g ρ)) ⟨hx, hb, hml, hown, hts⟩ hMet ⟨⟨hbase.1, hbase.2.1, hbase.2.2.1, hbase.2.2.2.1, hbase.2.2.2.2.1, hbase.2.2.2.2.2, hcd, hts _ o6, o4, hnps, hts _ hl⟩, hts _ o7⟩ hPS rfl (by rw [List.length_map]; exact hnp) hlv.1 rfl (gcat (As := As) hrest) hd ⟨by omega, by omega⟩
    · have hnw := va_Nw.use (A := args) rfl (c9.1 _ hl)
      exact vx_runSN (As := As.map (gv g ρ)) (rest := rest.map (gv g ρ)) ⟨hx, hb, hml, hown, hts⟩ hMet ⟨⟨hbase, hcd, hts _ o6, o4, hnps, hnw⟩, hts _ o7, trivial⟩ hPS rfl (by rw [List.length_map]; exact hnp) hlv.1 rfl (gcat (As := As) hrest) hd ⟨by omega, by omega⟩
  | cons h0 hs0 =>
    have hcode : gcode μ' = .codeWith (gy μ') (gcc μ') (gnL μ') (gret μ') (ghh μ') := by unfold gcode; rw [hh]
    have hl' : Cond.methodLink (gy μ).cls idx (gy μ') ∈ gW := by
      rcases hx0 with h | h
      · rw [hh] at h; cases h
      · exact h
    exact vx_runSX (hh := ghh μ') (As := As.map (gv g ρ)) (rest := rest.map (gv g ρ)) ⟨hx, hb, hml, hown, hts⟩ hMet ⟨⟨rfl, rfl, Nat.le_trans hfr c10, hlo, gpay hts o2, by rw [← hcode]; exact List.mem_cons_self⟩, by rw [← hcode]; exact hts _ o2, hts _ o6, o4, hnps, hts _ hl', hts _ o7⟩ hPS rfl (by rw [List.length_map]; exact hnp) hlv.1 rfl (gcat (As := As) hrest) hd ⟨by omega, by omega⟩
/-- Object.<init> -/
theorem E_objInit {idx r : Nat} (hd : decode (gcc μ) pc = .ok (.invokespecial idx, 3)) (hl : Cond.methodLink (gy μ).cls idx Lib.objectInit ∈ gW) (hi : Cond.instanceMethod Lib.objectInit ∈ gW) (hc : Cond.code Lib.objectInit ⟨#[0xb1]⟩ 1 none ∈ gW) (hfr : 1 ≤ fr) (hrest : (st.map fun v => v.category).sum ≤ 8)
    (k0 : E g fr k n μ (pc + 3) ls st M Q) : E g fr k n μ pc ls (.ref (r + 1) :: st) M Q := by
  intro p e R s m args below meth c H locs cells slots ρ0 ρ N0 cls C hls hst hlv
  have C0 := C
  obtain ⟨⟨hx, hb, hml, hown, hts⟩, c2, c3, c4, c5, c6, hS, c8, c9, c10, c11, c12, c13, c14, c15⟩ := C
  have h8 := gcat (g := g) (As := []) (rest := st) (ρ := ρ) hrest (m := m) (pc := pc) (cls := cls) (st0 := [])
  refine W.objInit hx hb hown (hts _ hl) (hts _ hi) (hts _ hc) rfl (hlv.1.trans hml.symm) rfl hd (Nat.le_trans hfr c10) ?_ ?_
  · have : 2 * (F0 m pc cls []).monitorRoom + ((st.map (gv g ρ)).map fun v => v.category).sum + 12 ≤ R.locals := by omega
    exact this
  · exact k0 p e R s m args below meth c H locs cells slots ρ0 ρ N0 cls C0 hls (gok_cons hst) hlv
end GC2
