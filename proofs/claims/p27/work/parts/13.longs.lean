/-! longs: instructions, arguments, answers -/
section GL
variable {g : gG} {fr k n : Nat} {μ : gMu} {pc : Nat} {ls st : List Value} {M : gM} {Q : Option Value ⊕ String → gM → Prop}
theorem gL.st2 {g : gG} {ρ : Nat → Nat} {cls : Array Slot} {nL : Nat} {ls : List Value} {i : Nat} {x : Int64} (hk : gnl ls i = true) (hi : i + 1 < ls.length)
    (h : lv_has cls nL ((i, Value.long x) :: (gpl g ρ 0 ls).filter (fun q => !(q.1 == i) && (!(q.1 == i + 1) && !(q.1 + 1 == i && q.2.category == 2))))) : gL g ρ cls nL ((ls.set i (.long x)).set (i + 1) .null) := by
  refine ⟨h.1, h.2.1, fun q hq => ?_⟩
  obtain ⟨t, v, h1, h2, rfl⟩ := gpl_mem.mp hq
  by_cases e2 : t = i + 1
  · subst e2
    rw [List.getElem?_set_self (by rw [List.length_set]; exact hi)] at h1
    cases h1
    exact absurd rfl h2
  · rw [List.getElem?_set_ne (fun q => e2 q.symm)] at h1
    by_cases e : t = i
    · subst e
      rw [List.getElem?_set_self (by omega)] at h1
      cases h1
      exact h.2.2 (0 + t, gv g ρ (.long x)) (by rw [Nat.zero_add]; exact List.mem_cons_self)
    · rw [List.getElem?_set_ne (fun q => e q.symm)] at h1
      refine h.2.2 _ (List.mem_cons_of_mem _ (List.mem_filter.mpr ⟨gpl_mem.mpr ⟨t, v, h1, h2, rfl⟩, ?_⟩))
      have e1 : ((0 + t == i) = false) := by rw [Nat.zero_add]; exact beq_false_of_ne e
      have e3 : ((0 + t == i + 1) = false) := by rw [Nat.zero_add]; exact beq_false_of_ne e2
      simp only [e1, e3, Bool.not_false, Bool.true_and, Bool.not_eq_true', Bool.and_eq_false_iff]
      by_cases e4 : t + 1 = i
      · right
        subst e4
        have : (v.category != 2) = true := by simpa [gnl, h1] using hk
        rw [gv_cat]
        exact beq_false_of_ne (by simpa using this)
      · left
        rw [Nat.zero_add]
        exact beq_false_of_ne e4
theorem E_lstore {i : Nat} {x : Int64} (hd : decode (gcc μ) pc = .ok (.lstore i, 2)) (hi : i + 1 < ls.length) (hn : i + 1 < gnL μ) (hk : gnl ls i = true) (k0 : E g fr k n μ (pc + 2) ((ls.set i (.long x)).set (i + 1) .null) st M Q) : E g fr k n μ pc ls (.long x :: st) M Q := by
  intro p e R s m args below meth c H locs cells slots ρ0 ρ N0 cls C hls hst hl
  obtain ⟨hx, hb, -, hown, hts⟩ := C.1
  exact lv_lstore hx hb hd hl hn rfl (fun cls' h' => k0 p e R s m args below meth c H locs cells slots ρ0 ρ N0 cls' C (gok_set (gok_set hls (fun r hr => by cases List.mem_singleton.mp hr)) (fun r hr => by cases List.mem_singleton.mp hr)) (gok_cons hst) (gL.st2 hk hi h'))
theorem E_lstore_n {i : Fin 4} {x : Int64} (hd : decode (gcc μ) pc = .ok (.lstore_n i, 1)) (hi : i.val + 1 < ls.length) (hn : i.val + 1 < gnL μ) (hk : gnl ls i.val = true) (k0 : E g fr k n μ (pc + 1) ((ls.set i.val (.long x)).set (i.val + 1) .null) st M Q) : E g fr k n μ pc ls (.long x :: st) M Q := by
  intro p e R s m args below meth c H locs cells slots ρ0 ρ N0 cls C hls hst hl
  obtain ⟨hx, hb, -, hown, hts⟩ := C.1
  exact lv_lstore_n hx hb hd rfl hl hn rfl (fun cls' h' => k0 p e R s m args below meth c H locs cells slots ρ0 ρ N0 cls' C (gok_set (gok_set hls (fun r hr => by cases List.mem_singleton.mp hr)) (fun r hr => by cases List.mem_singleton.mp hr)) (gok_cons hst) (gL.st2 hk hi h'))
theorem E_lload_n {i : Fin 4} {x : Int64} (hd : decode (gcc μ) pc = .ok (.lload_n i, 1)) (hi : ls[i.val]? = some (.long x)) (k0 : E g fr k n μ (pc + 1) ls (.long x :: st) M Q) : E g fr k n μ pc ls st M Q :=
  E_load hi (by simp) (fun _ _ _ _ _ _ _ _ _ _ _ _ _ _ _ _ _ hx hb h kk => lv_lload_n hx hb hd rfl h kk) k0
theorem E_ladd {x y : Int64} (hd : decode (gcc μ) pc = .ok (.ladd, 1)) (k0 : E g fr k n μ (pc + 1) ls (.long (x + y) :: st) M Q) : E g fr k n μ pc ls (.long y :: .long x :: st) M Q :=
  E_stk (fun _ h => gok_long (gok_cons (gok_cons h))) (fun _ _ _ _ _ _ _ _ _ _ _ _ _ _ _ _ hx hb _ _ kk => lv_ladd hx hb hd kk) k0
theorem E_lmul {x y : Int64} (hd : decode (gcc μ) pc = .ok (.lmul, 1)) (k0 : E g fr k n μ (pc + 1) ls (.long (x * y) :: st) M Q) : E g fr k n μ pc ls (.long y :: .long x :: st) M Q :=
  E_stk (fun _ h => gok_long (gok_cons (gok_cons h))) (fun _ _ _ _ _ _ _ _ _ _ _ _ _ _ _ _ hx hb _ _ kk => lv_lmul hx hb hd kk) k0
theorem E_lxor {x y : Int64} (hd : decode (gcc μ) pc = .ok (.lxor, 1)) (k0 : E g fr k n μ (pc + 1) ls (.long (x ^^^ y) :: st) M Q) : E g fr k n μ pc ls (.long y :: .long x :: st) M Q :=
  E_stk (fun _ h => gok_long (gok_cons (gok_cons h))) (fun _ _ _ _ _ _ _ _ _ _ _ _ _ _ _ _ hx hb _ _ kk => lv_lxor hx hb hd kk) k0
theorem E_lshr {x : Int64} {y : Int32} (hd : decode (gcc μ) pc = .ok (.lshr, 1)) (k0 : E g fr k n μ (pc + 1) ls (.long (x >>> (y.toInt64 &&& 63)) :: st) M Q) : E g fr k n μ pc ls (.int y :: .long x :: st) M Q :=
  E_stk (fun _ h => gok_long (gok_cons (gok_cons h))) (fun _ _ _ _ _ _ _ _ _ _ _ _ _ _ _ _ hx hb _ _ kk => lv_lshr hx hb hd rfl kk) k0
theorem E_l2i {x : Int64} (hd : decode (gcc μ) pc = .ok (.l2i, 1)) (k0 : E g fr k n μ (pc + 1) ls (.int x.toInt32 :: st) M Q) : E g fr k n μ pc ls (.long x :: st) M Q :=
  E_stk (fun _ h => gok_int (gok_cons h)) (fun _ _ _ _ _ _ _ _ _ _ _ _ _ _ _ _ hx hb _ _ kk => lv_l2i hx hb hd rfl kk) k0
theorem E_ldc2 {i : Nat} {v : Int64} (hd : decode (gcc μ) pc = .ok (.ldc2_w i, 3)) (hc : Cond.constantLong (gy μ).cls i v ∈ gW) (k0 : E g fr k n μ (pc + 3) ls (.long v :: st) M Q) : E g fr k n μ pc ls st M Q :=
  E_stk (fun _ h => gok_long h) (fun _ _ _ _ _ _ _ _ _ _ _ _ _ _ _ _ hx hb ho ht kk => lv_ldc2 hx hb ho (ht _ hc) hd kk) k0
theorem E_pop2L {v : Int64} (hd : decode (gcc μ) pc = .ok (.pop2, 1)) (k0 : E g fr k n μ (pc + 1) ls st M Q) : E g fr k n μ pc ls (.long v :: st) M Q :=
  E_stk (fun _ h => gok_cons h) (fun _ _ _ _ _ _ _ _ _ _ _ _ _ _ _ _ hx hb _ _ kk => lv_pop2_2 hx hb hd rfl kk) k0
theorem E_ltop {x : Int64} (h : ∀ y : Int64, y = x → E g fr k n μ pc ls (.long y :: st) M Q) : E g fr k n μ pc ls (.long x :: st) M Q := h x rfl
theorem E_lret {x : Int64} (hd : decode (gcc μ) pc = .ok (.lreturn, 1)) (hr : gret μ = some .long) (hQ : Q (.inl (some (.long x))) M) : E g fr k n μ pc ls [.long x] M Q := by
  intro p e R s m args below meth c H locs cells slots ρ0 ρ N0 cls C hls hst hl
  obtain ⟨hx, hb, -, hown, hts⟩ := C.1
  refine vx_ret (W.widen (Nat.le_add_right cells k) (Nat.le_add_right slots n) ?_)
  exact W.lret hx hb (C.2.1.trans hr) (fun t ht hW => gQc.of C hQ hst ht hW) C.2.2.2.2.2.2.1.2.2 hd C.2.2.1
end GL
/-- arguments as locals: a long takes two -/
def gfl (vs : List Value) : List Value := vs.flatMap fun v => if v.category = 2 then [v, .null] else [v]
theorem gfl_c2 {v : Value} {vs : List Value} (h : v.category = 2) : gfl (v :: vs) = v :: .null :: gfl vs := by
  unfold gfl
  rw [List.flatMap_cons, if_pos h]; rfl
theorem gfl_c1 {v : Value} {vs : List Value} (h : ¬ v.category = 2) : gfl (v :: vs) = v :: gfl vs := by
  unfold gfl
  rw [List.flatMap_cons, if_neg h]; rfl
theorem gfl_sl (g : gG) (ρ : Nat → Nat) : ∀ vs : List Value, (lg_sl (vs.map (gv g ρ))).length = (gfl vs).length
  | [] => rfl
  | v :: vs => by
    have ih := gfl_sl g ρ vs
    unfold lg_sl at ih ⊢
    rw [List.map_cons, List.flatMap_cons, List.length_append, ih, gv_cat]
    by_cases h : v.category = 2
    · rw [gfl_c2 h, if_pos h]; simp; omega
    · rw [gfl_c1 h, if_neg h]; simp; omega
theorem gfl_mem (g : gG) (ρ : Nat → Nat) : ∀ (vs : List Value) (i t : Nat) (v : Value), (gfl vs)[t]? = some v → v ≠ .null → (i + t, gv g ρ v) ∈ lv_args i (vs.map (gv g ρ))
  | [], i, t, v, h, _ => by simp [gfl] at h
  | w :: vs, i, t, v, h, hv => by
    have e : lv_args i ((w :: vs).map (gv g ρ)) = (i, gv g ρ w) :: lv_args (if w.category = 2 then i + 2 else i + 1) (vs.map (gv g ρ)) := by
      rw [List.map_cons, lv_args, gv_cat]
    rw [e]
    by_cases hc : w.category = 2
    · rw [gfl_c2 hc] at h
      rw [if_pos hc]
      match t, h with
      | 0, h => cases h; exact List.mem_cons_self
      | 1, h => cases h; exact absurd rfl hv
      | t + 2, h =>
        have := gfl_mem g ρ vs (i + 2) t v h hv
        rw [show i + 2 + t = i + (t + 2) by omega] at this
        exact List.mem_cons_of_mem _ this
    · rw [gfl_c1 hc] at h
      rw [if_neg hc]
      match t, h with
      | 0, h => cases h; exact List.mem_cons_self
      | t + 1, h =>
        have := gfl_mem g ρ vs (i + 1) t v h hv
        rw [show i + 1 + t = i + (t + 1) by omega] at this
        exact List.mem_cons_of_mem _ this
theorem gfl_ref : ∀ {vs : List Value} {r : Nat}, Value.ref r ∈ gfl vs → Value.ref r ∈ vs
  | [], r, h => by simp [gfl] at h
  | w :: vs, r, h => by
    by_cases hc : w.category = 2
    · rw [gfl_c2 hc] at h
      rcases List.mem_cons.mp h with q | q
      · rw [q]; exact List.mem_cons_self
      · rcases List.mem_cons.mp q with q | q
        · cases q
        · exact List.mem_cons_of_mem _ (gfl_ref q)
    · rw [gfl_c1 hc] at h
      rcases List.mem_cons.mp h with q | q
      · rw [q]; exact List.mem_cons_self
      · exact List.mem_cons_of_mem _ (gfl_ref q)
section GLC
variable {g : gG} {fr k n : Nat} {μ : gMu} {pc : Nat} {ls st : List Value} {M : gM} {Q : Option Value ⊕ String → gM → Prop}
/-- a contract out of a walk -/
theorem gMetL {μ : gMu} {As : List Value} {ρ : Nat → Nat} (hpl : plainName (gy μ).cls = true) (hlen : (gfl As).length ≤ gnL μ) (hcode : gcode μ ∈ gW) (hE : E g fr k n μ 0 (gpad (gnL μ) (gfl As)) [] M Q) :
    vx_Met (gl1 g) (gy μ) (gWs μ) (gRm fr k n) (gPc g ρ As M) (gQc g ρ (mN M) Q) (gXC g ρ (mN M) Q) k n (gA g) := by
  have hsl := gfl_sl g ρ As
  have main : ∀ (p : Program) (e : Env) (s : State) (m : MethodId) (args : Array Value) (below : List Frame) (meth : Method) (c : Code) (s₁ : State), BodyLoose p (gl1 g) (gy μ) (headSpec (gWs μ) (gRm fr k n)) (gcc μ) (gnL μ) (gret μ) e s m args below meth c s₁ → c.maxLocals = gnL μ → gT μ c → gPc g ρ As M args s →
      W p (gl1 g) e (headSpec (gWs μ) (gRm fr k n)).room s m args below meth c s.heap [] 0 0 (vx_MQ below (gQc g ρ (mN M) Q) (gXC g ρ (mN M) Q) args s k n (gA g)) (entryFrame m args (gnL μ)) := by
    intro p e s m args below meth c s₁ B hml hT hPc
    obtain ⟨rfl, hM, hok, hF, hbs⟩ := hPc
    have hts := atoms_spec (ws := gWs μ) B.pre
    have hl := lv_entry (As.map (gv g ρ)) (n := gnL μ) (by rw [hsl]; exact hlen)
    rw [lg_entry_eq]
    generalize (lg_sl (As.map (gv g ρ)) ++ List.replicate (gnL μ - (lg_sl (As.map (gv g ρ))).length) Slot.unset).toArray = cls at hl ⊢
    have hlv : gL g ρ cls (gnL μ) (gpad (gnL μ) (gfl As)) := by
      refine ⟨hl.1, hl.2.1, fun q hq => ?_⟩
      obtain ⟨t, v, h1, h2, rfl⟩ := gpl_mem.mp hq
      refine hl.2.2 _ ?_
      unfold gpad at h1
      by_cases ht : t < (gfl As).length
      · rw [List.getElem?_append_left ht] at h1
        exact gfl_mem g ρ As 0 t v h1 h2
      · rw [List.getElem?_append_right (by omega)] at h1
        have := List.mem_replicate.mp (List.mem_of_getElem? h1)
        exact absurd this.2 h2
    have hls : gok (mN M) (gpad (gnL μ) (gfl As)) := fun r hr => by
      rcases List.mem_append.mp hr with h | h
      · exact hok r (gfl_ref h)
      · cases (List.mem_replicate.mp h).2
    have hE1 := hE p e (gRm fr k n) s m _ below meth c s.heap [] 0 0 ρ ρ (mN M) cls ⟨⟨B.exec, B.bytes, hml, findClass_of_methodNamed B.named, fun w hw => hts w (List.mem_cons_of_mem _ hw)⟩, B.returns, B.notSynchronized, (name_of_methodNamed B.named B.method).1, hT, hM, va_S.rf, hbs, hF, Nat.le_refl _, Nat.le_refl _, by show 0 + k ≤ k; omega, by show 0 + n ≤ n; omega, Nat.le_refl _, fun _ _ => rfl⟩ hls (fun r hr => by cases hr) hlv
    rw [Nat.zero_add, Nat.zero_add] at hE1
    exact hE1
  cases hh : ghh μ with
  | nil =>
    have hc : gcode μ = .code (gy μ) (gcc μ) (gnL μ) (gret μ) := by unfold gcode; rw [hh]
    refine vx_ofW (cc := gcc μ) (maxL := gnL μ) (ret := gret μ) (ws' := gW) hpl (by rw [← hc]; rfl) ?_
    intro p e s m args below meth c s₁ B hml hT hPc
    exact main p e s m args below meth c s₁ B hml (by unfold gT; rw [hh]; exact hT) hPc
  | cons h0 hs =>
    have hc : gcode μ = .codeWith (gy μ) (gcc μ) (gnL μ) (gret μ) (ghh μ) := by unfold gcode; rw [hh]
    refine vx_ofWH (cc := gcc μ) (maxL := gnL μ) (ret := gret μ) (hh := ghh μ) (ws' := gW) hpl (by rw [← hc]; rfl) ?_
    intro p e s m args below meth c s₁ B hml hPc
    refine main p e s m args below meth c s₁ B hml ?_ hPc
    have := vx_table (x := gy μ) B (y := gy μ) (bytes := gcc μ) (maxL' := gnL μ) (ret' := gret μ) (hh := ghh μ) (by rw [← hc]; exact atoms_spec (ws := gWs μ) B.pre _ List.mem_cons_self)
    unfold gT; rw [hh] at this ⊢; exact this
theorem E_callT {fr' k1 n1 k2 n2 idx np : Nat} {As rest : List Value} {μ' : gMu} (hd : decode (gcc μ) pc = .ok (.invokestatic idx, 3)) (ho : gOkS μ' np) (hl : gLk (gy μ).cls idx (gy μ')) (hnp : As.length = np) (hlen : (gfl As).length ≤ gnL μ') (hfr : fr' + 1 ≤ fr) (hrest : (rest.map fun v => v.category).sum ≤ 8)
    (hx0 : ghh μ' = [] ∨ Cond.methodLink (gy μ).cls idx (gy μ') ∈ gW)
    (hE : E g fr' k1 n1 μ' 0 (gpad (gnL μ') (gfl As)) [] M (gK g fr k2 n2 μ pc ls rest Q)) : E g fr (k1 + k2) (n1 + n2) μ pc ls (As.reverse ++ rest) M Q := by
  intro p e R s m args below meth c H locs cells slots ρ0 ρ N0 cls C hls hst hlv
  obtain ⟨⟨o1, o2, o3, o4, o5, o6⟩, o7⟩ := ho
  have C0 := C
  obtain ⟨⟨hx, hb, hml, hown, hts⟩, c2, c3, c4, c5, ⟨hP, hD, hK, hR⟩, hS, c8, c9, c10, c11, c12, c13, c14, c15⟩ := C
  have hMet := gMetL (ρ := ρ) o1 hlen o2 hE
  have hAs : gok (mN M) As := fun q hq => hst q (List.mem_append_left _ (List.mem_reverse.mpr hq))
  have hre : gok (mN M) rest := fun q hq => hst q (List.mem_append_right _ hq)
  have hPS : PreS s H (gPc g ρ As M) (As.map (gv g ρ)) := ⟨gPc.blind, fun U hU hW => gPcOf C0 hAs hU hW⟩
  have hnps : ∀ sig, parseMethodDescriptor (gy μ').desc = some sig → np = sig.parameters.length := fun sig h => by rw [h] at o5; exact (Option.some.inj o5).symm
  have hlo : 8 + (gnL μ' + 11) + (gRm fr' k1 n1).locals ≤ R.locals := by show 8 + (gnL μ' + 11) + 55 * fr' ≤ _; omega
  refine gCall C0 hls hre hlv (a := (As.map (gv g ρ)).toArray) ?_
  have hstk : ((As.reverse ++ rest).map (gv g ρ)) = (As.map (gv g ρ)).reverse ++ rest.map (gv g ρ) := by
    rw [List.map_append, List.map_reverse]
  rw [hstk]
  cases hh : ghh μ' with
  | nil =>
    have hcode : gcode μ' = .code (gy μ') (gcc μ') (gnL μ') (gret μ') := by unfold gcode; rw [hh]
    have hcd : (Cond.code (gy μ') (gcc μ') (gnL μ') (gret μ')).before args s = true := by rw [← hcode]; exact hts _ o2
    have hbase : (gRm fr' k1 n1).cells = k1 ∧ (gRm fr' k1 n1).slots = n1 ∧ (gRm fr' k1 n1).frames + 1 ≤ R.frames ∧ 8 + (gnL μ' + 11) + (gRm fr' k1 n1).locals ≤ R.locals ∧ (∀ w ∈ gWs μ', ∀ (a' : Array Value) (U : State), s.WarmedH U.vm → w.before a' U = true) ∧ Cond.code (gy μ') (gcc μ') (gnL μ') (gret μ') ∈ gWs μ' :=
      ⟨rfl, rfl, Nat.le_trans hfr c10, hlo, gpay hts o2, by rw [← hcode]; exact List.mem_cons_self⟩
    rcases hl with hl | ⟨h, hl⟩
    · exact vx_runS (As := As.map (gv g ρ)) (rest := rest.map (gv g ρ)) ⟨hx, hb, hml, hown, hts⟩ hMet ⟨⟨hbase.1, hbase.2.1, hbase.2.2.1, hbase.2.2.2.1, hbase.2.2.2.2.1, hbase.2.2.2.2.2, hcd, hts _ o6, o4, hnps, hts _ hl⟩, hts _ o7⟩ hPS rfl (by rw [List.length_map]; exact hnp) hlv.1 rfl (gcat (As := As) hrest) hd ⟨by omega, by omega⟩
    · have hnw := va_Nw.use (A := args) rfl (c9.1 _ hl)
      exact vx_runSN (As := As.map (gv g ρ)) (rest := rest.map (gv g ρ)) ⟨hx, hb, hml, hown, hts⟩ hMet ⟨⟨hbase, hcd, hts _ o6, o4, hnps, hnw⟩, hts _ o7, trivial⟩ hPS rfl (by rw [List.length_map]; exact hnp) hlv.1 rfl (gcat (As := As) hrest) hd ⟨by omega, by omega⟩
  | cons h0 hs0 =>
    have hcode : gcode μ' = .codeWith (gy μ') (gcc μ') (gnL μ') (gret μ') (ghh μ') := by unfold gcode; rw [hh]
    have hl' : Cond.methodLink (gy μ).cls idx (gy μ') ∈ gW := by
      rcases hx0 with h | h
      · rw [hh] at h; cases h
      · exact h
    exact vx_runSX (hh := ghh μ') (As := As.map (gv g ρ)) (rest := rest.map (gv g ρ)) ⟨hx, hb, hml, hown, hts⟩ hMet ⟨⟨rfl, rfl, Nat.le_trans hfr c10, hlo, gpay hts o2, by rw [← hcode]; exact List.mem_cons_self⟩, by rw [← hcode]; exact hts _ o2, hts _ o6, o4, hnps, hts _ hl', hts _ o7⟩ hPS rfl (by rw [List.length_map]; exact hnp) hlv.1 rfl (gcat (As := As) hrest) hd ⟨by omega, by omega⟩
theorem E_callT1 {fr' k1 n1 k2 n2 idx : Nat} {v1 : Value} {rest ls0 : List Value} {μ' : gMu} (hd : decode (gcc μ) pc = .ok (.invokestatic idx, 3)) (ho : gOkS μ' 1) (hl : gLk (gy μ).cls idx (gy μ')) (hlen : (gfl [v1]).length ≤ gnL μ') (hfr : fr' + 1 ≤ fr) (hrest : (rest.map fun v => v.category).sum ≤ 8) (hx0 : ghh μ' = [] ∨ Cond.methodLink (gy μ).cls idx (gy μ') ∈ gW) (hp : gpad (gnL μ') (gfl [v1]) = ls0)
    (hE : E g fr' k1 n1 μ' 0 ls0 [] M (gK g fr k2 n2 μ pc ls rest Q)) : E g fr (k1 + k2) (n1 + n2) μ pc ls (v1 :: rest) M Q := by
  subst hp
  exact E_callT (As := [v1]) hd ho hl rfl hlen hfr hrest hx0 hE
theorem E_callT2 {fr' k1 n1 k2 n2 idx : Nat} {v1 v2 : Value} {rest ls0 : List Value} {μ' : gMu} (hd : decode (gcc μ) pc = .ok (.invokestatic idx, 3)) (ho : gOkS μ' 2) (hl : gLk (gy μ).cls idx (gy μ')) (hlen : (gfl [v1, v2]).length ≤ gnL μ') (hfr : fr' + 1 ≤ fr) (hrest : (rest.map fun v => v.category).sum ≤ 8) (hx0 : ghh μ' = [] ∨ Cond.methodLink (gy μ).cls idx (gy μ') ∈ gW) (hp : gpad (gnL μ') (gfl [v1, v2]) = ls0)
    (hE : E g fr' k1 n1 μ' 0 ls0 [] M (gK g fr k2 n2 μ pc ls rest Q)) : E g fr (k1 + k2) (n1 + n2) μ pc ls (v2 :: v1 :: rest) M Q := by
  subst hp
  exact E_callT (As := [v1, v2]) hd ho hl rfl hlen hfr hrest hx0 hE
theorem E_callT3 {fr' k1 n1 k2 n2 idx : Nat} {v1 v2 v3 : Value} {rest ls0 : List Value} {μ' : gMu} (hd : decode (gcc μ) pc = .ok (.invokestatic idx, 3)) (ho : gOkS μ' 3) (hl : gLk (gy μ).cls idx (gy μ')) (hlen : (gfl [v1, v2, v3]).length ≤ gnL μ') (hfr : fr' + 1 ≤ fr) (hrest : (rest.map fun v => v.category).sum ≤ 8) (hx0 : ghh μ' = [] ∨ Cond.methodLink (gy μ).cls idx (gy μ') ∈ gW) (hp : gpad (gnL μ') (gfl [v1, v2, v3]) = ls0)
    (hE : E g fr' k1 n1 μ' 0 ls0 [] M (gK g fr k2 n2 μ pc ls rest Q)) : E g fr (k1 + k2) (n1 + n2) μ pc ls (v3 :: v2 :: v1 :: rest) M Q := by
  subst hp
  exact E_callT (As := [v1, v2, v3]) hd ho hl rfl hlen hfr hrest hx0 hE
theorem E_callT4 {fr' k1 n1 k2 n2 idx : Nat} {v1 v2 v3 v4 : Value} {rest ls0 : List Value} {μ' : gMu} (hd : decode (gcc μ) pc = .ok (.invokestatic idx, 3)) (ho : gOkS μ' 4) (hl : gLk (gy μ).cls idx (gy μ')) (hlen : (gfl [v1, v2, v3, v4]).length ≤ gnL μ') (hfr : fr' + 1 ≤ fr) (hrest : (rest.map fun v => v.category).sum ≤ 8) (hx0 : ghh μ' = [] ∨ Cond.methodLink (gy μ).cls idx (gy μ') ∈ gW) (hp : gpad (gnL μ') (gfl [v1, v2, v3, v4]) = ls0)
    (hE : E g fr' k1 n1 μ' 0 ls0 [] M (gK g fr k2 n2 μ pc ls rest Q)) : E g fr (k1 + k2) (n1 + n2) μ pc ls (v4 :: v3 :: v2 :: v1 :: rest) M Q := by
  subst hp
  exact E_callT (As := [v1, v2, v3, v4]) hd ho hl rfl hlen hfr hrest hx0 hE
theorem E_callT5 {fr' k1 n1 k2 n2 idx : Nat} {v1 v2 v3 v4 v5 : Value} {rest ls0 : List Value} {μ' : gMu} (hd : decode (gcc μ) pc = .ok (.invokestatic idx, 3)) (ho : gOkS μ' 5) (hl : gLk (gy μ).cls idx (gy μ')) (hlen : (gfl [v1, v2, v3, v4, v5]).length ≤ gnL μ') (hfr : fr' + 1 ≤ fr) (hrest : (rest.map fun v => v.category).sum ≤ 8) (hx0 : ghh μ' = [] ∨ Cond.methodLink (gy μ).cls idx (gy μ') ∈ gW) (hp : gpad (gnL μ') (gfl [v1, v2, v3, v4, v5]) = ls0)
    (hE : E g fr' k1 n1 μ' 0 ls0 [] M (gK g fr k2 n2 μ pc ls rest Q)) : E g fr (k1 + k2) (n1 + n2) μ pc ls (v5 :: v4 :: v3 :: v2 :: v1 :: rest) M Q := by
  subst hp
  exact E_callT (As := [v1, v2, v3, v4, v5]) hd ho hl rfl hlen hfr hrest hx0 hE
theorem E_callT6 {fr' k1 n1 k2 n2 idx : Nat} {v1 v2 v3 v4 v5 v6 : Value} {rest ls0 : List Value} {μ' : gMu} (hd : decode (gcc μ) pc = .ok (.invokestatic idx, 3)) (ho : gOkS μ' 6) (hl : gLk (gy μ).cls idx (gy μ')) (hlen : (gfl [v1, v2, v3, v4, v5, v6]).length ≤ gnL μ') (hfr : fr' + 1 ≤ fr) (hrest : (rest.map fun v => v.category).sum ≤ 8) (hx0 : ghh μ' = [] ∨ Cond.methodLink (gy μ).cls idx (gy μ') ∈ gW) (hp : gpad (gnL μ') (gfl [v1, v2, v3, v4, v5, v6]) = ls0)
    (hE : E g fr' k1 n1 μ' 0 ls0 [] M (gK g fr k2 n2 μ pc ls rest Q)) : E g fr (k1 + k2) (n1 + n2) μ pc ls (v6 :: v5 :: v4 :: v3 :: v2 :: v1 :: rest) M Q := by
  subst hp
  exact E_callT (As := [v1, v2, v3, v4, v5, v6]) hd ho hl rfl hlen hfr hrest hx0 hE
theorem E_callT7 {fr' k1 n1 k2 n2 idx : Nat} {v1 v2 v3 v4 v5 v6 v7 : Value} {rest ls0 : List Value} {μ' : gMu} (hd : decode (gcc μ) pc = .ok (.invokestatic idx, 3)) (ho : gOkS μ' 7) (hl : gLk (gy μ).cls idx (gy μ')) (hlen : (gfl [v1, v2, v3, v4, v5, v6, v7]).length ≤ gnL μ') (hfr : fr' + 1 ≤ fr) (hrest : (rest.map fun v => v.category).sum ≤ 8) (hx0 : ghh μ' = [] ∨ Cond.methodLink (gy μ).cls idx (gy μ') ∈ gW) (hp : gpad (gnL μ') (gfl [v1, v2, v3, v4, v5, v6, v7]) = ls0)
    (hE : E g fr' k1 n1 μ' 0 ls0 [] M (gK g fr k2 n2 μ pc ls rest Q)) : E g fr (k1 + k2) (n1 + n2) μ pc ls (v7 :: v6 :: v5 :: v4 :: v3 :: v2 :: v1 :: rest) M Q := by
  subst hp
  exact E_callT (As := [v1, v2, v3, v4, v5, v6, v7]) hd ho hl rfl hlen hfr hrest hx0 hE
theorem E_callT8 {fr' k1 n1 k2 n2 idx : Nat} {v1 v2 v3 v4 v5 v6 v7 v8 : Value} {rest ls0 : List Value} {μ' : gMu} (hd : decode (gcc μ) pc = .ok (.invokestatic idx, 3)) (ho : gOkS μ' 8) (hl : gLk (gy μ).cls idx (gy μ')) (hlen : (gfl [v1, v2, v3, v4, v5, v6, v7, v8]).length ≤ gnL μ') (hfr : fr' + 1 ≤ fr) (hrest : (rest.map fun v => v.category).sum ≤ 8) (hx0 : ghh μ' = [] ∨ Cond.methodLink (gy μ).cls idx (gy μ') ∈ gW) (hp : gpad (gnL μ') (gfl [v1, v2, v3, v4, v5, v6, v7, v8]) = ls0)
    (hE : E g fr' k1 n1 μ' 0 ls0 [] M (gK g fr k2 n2 μ pc ls rest Q)) : E g fr (k1 + k2) (n1 + n2) μ pc ls (v8 :: v7 :: v6 :: v5 :: v4 :: v3 :: v2 :: v1 :: rest) M Q := by
  subst hp
  exact E_callT (As := [v1, v2, v3, v4, v5, v6, v7, v8]) hd ho hl rfl hlen hfr hrest hx0 hE
theorem E_callT9 {fr' k1 n1 k2 n2 idx : Nat} {v1 v2 v3 v4 v5 v6 v7 v8 v9 : Value} {rest ls0 : List Value} {μ' : gMu} (hd : decode (gcc μ) pc = .ok (.invokestatic idx, 3)) (ho : gOkS μ' 9) (hl : gLk (gy μ).cls idx (gy μ')) (hlen : (gfl [v1, v2, v3, v4, v5, v6, v7, v8, v9]).length ≤ gnL μ') (hfr : fr' + 1 ≤ fr) (hrest : (rest.map fun v => v.category).sum ≤ 8) (hx0 : ghh μ' = [] ∨ Cond.methodLink (gy μ).cls idx (gy μ') ∈ gW) (hp : gpad (gnL μ') (gfl [v1, v2, v3, v4, v5, v6, v7, v8, v9]) = ls0)
    (hE : E g fr' k1 n1 μ' 0 ls0 [] M (gK g fr k2 n2 μ pc ls rest Q)) : E g fr (k1 + k2) (n1 + n2) μ pc ls (v9 :: v8 :: v7 :: v6 :: v5 :: v4 :: v3 :: v2 :: v1 :: rest) M Q := by
  subst hp
  exact E_callT (As := [v1, v2, v3, v4, v5, v6, v7, v8, v9]) hd ho hl rfl hlen hfr hrest hx0 hE
theorem E_callT10 {fr' k1 n1 k2 n2 idx : Nat} {v1 v2 v3 v4 v5 v6 v7 v8 v9 v10 : Value} {rest ls0 : List Value} {μ' : gMu} (hd : decode (gcc μ) pc = .ok (.invokestatic idx, 3)) (ho : gOkS μ' 10) (hl : gLk (gy μ).cls idx (gy μ')) (hlen : (gfl [v1, v2, v3, v4, v5, v6, v7, v8, v9, v10]).length ≤ gnL μ') (hfr : fr' + 1 ≤ fr) (hrest : (rest.map fun v => v.category).sum ≤ 8) (hx0 : ghh μ' = [] ∨ Cond.methodLink (gy μ).cls idx (gy μ') ∈ gW) (hp : gpad (gnL μ') (gfl [v1, v2, v3, v4, v5, v6, v7, v8, v9, v10]) = ls0)
    (hE : E g fr' k1 n1 μ' 0 ls0 [] M (gK g fr k2 n2 μ pc ls rest Q)) : E g fr (k1 + k2) (n1 + n2) μ pc ls (v10 :: v9 :: v8 :: v7 :: v6 :: v5 :: v4 :: v3 :: v2 :: v1 :: rest) M Q := by
  subst hp
  exact E_callT (As := [v1, v2, v3, v4, v5, v6, v7, v8, v9, v10]) hd ho hl rfl hlen hfr hrest hx0 hE
theorem E_callT11 {fr' k1 n1 k2 n2 idx : Nat} {v1 v2 v3 v4 v5 v6 v7 v8 v9 v10 v11 : Value} {rest ls0 : List Value} {μ' : gMu} (hd : decode (gcc μ) pc = .ok (.invokestatic idx, 3)) (ho : gOkS μ' 11) (hl : gLk (gy μ).cls idx (gy μ')) (hlen : (gfl [v1, v2, v3, v4, v5, v6, v7, v8, v9, v10, v11]).length ≤ gnL μ') (hfr : fr' + 1 ≤ fr) (hrest : (rest.map fun v => v.category).sum ≤ 8) (hx0 : ghh μ' = [] ∨ Cond.methodLink (gy μ).cls idx (gy μ') ∈ gW) (hp : gpad (gnL μ') (gfl [v1, v2, v3, v4, v5, v6, v7, v8, v9, v10, v11]) = ls0)
    (hE : E g fr' k1 n1 μ' 0 ls0 [] M (gK g fr k2 n2 μ pc ls rest Q)) : E g fr (k1 + k2) (n1 + n2) μ pc ls (v11 :: v10 :: v9 :: v8 :: v7 :: v6 :: v5 :: v4 :: v3 :: v2 :: v1 :: rest) M Q := by
  subst hp
  exact E_callT (As := [v1, v2, v3, v4, v5, v6, v7, v8, v9, v10, v11]) hd ho hl rfl hlen hfr hrest hx0 hE
theorem E_callT12 {fr' k1 n1 k2 n2 idx : Nat} {v1 v2 v3 v4 v5 v6 v7 v8 v9 v10 v11 v12 : Value} {rest ls0 : List Value} {μ' : gMu} (hd : decode (gcc μ) pc = .ok (.invokestatic idx, 3)) (ho : gOkS μ' 12) (hl : gLk (gy μ).cls idx (gy μ')) (hlen : (gfl [v1, v2, v3, v4, v5, v6, v7, v8, v9, v10, v11, v12]).length ≤ gnL μ') (hfr : fr' + 1 ≤ fr) (hrest : (rest.map fun v => v.category).sum ≤ 8) (hx0 : ghh μ' = [] ∨ Cond.methodLink (gy μ).cls idx (gy μ') ∈ gW) (hp : gpad (gnL μ') (gfl [v1, v2, v3, v4, v5, v6, v7, v8, v9, v10, v11, v12]) = ls0)
    (hE : E g fr' k1 n1 μ' 0 ls0 [] M (gK g fr k2 n2 μ pc ls rest Q)) : E g fr (k1 + k2) (n1 + n2) μ pc ls (v12 :: v11 :: v10 :: v9 :: v8 :: v7 :: v6 :: v5 :: v4 :: v3 :: v2 :: v1 :: rest) M Q := by
  subst hp
  exact E_callT (As := [v1, v2, v3, v4, v5, v6, v7, v8, v9, v10, v11, v12]) hd ho hl rfl hlen hfr hrest hx0 hE
theorem E_callT13 {fr' k1 n1 k2 n2 idx : Nat} {v1 v2 v3 v4 v5 v6 v7 v8 v9 v10 v11 v12 v13 : Value} {rest ls0 : List Value} {μ' : gMu} (hd : decode (gcc μ) pc = .ok (.invokestatic idx, 3)) (ho : gOkS μ' 13) (hl : gLk (gy μ).cls idx (gy μ')) (hlen : (gfl [v1, v2, v3, v4, v5, v6, v7, v8, v9, v10, v11, v12, v13]).length ≤ gnL μ') (hfr : fr' + 1 ≤ fr) (hrest : (rest.map fun v => v.category).sum ≤ 8) (hx0 : ghh μ' = [] ∨ Cond.methodLink (gy μ).cls idx (gy μ') ∈ gW) (hp : gpad (gnL μ') (gfl [v1, v2, v3, v4, v5, v6, v7, v8, v9, v10, v11, v12, v13]) = ls0)
    (hE : E g fr' k1 n1 μ' 0 ls0 [] M (gK g fr k2 n2 μ pc ls rest Q)) : E g fr (k1 + k2) (n1 + n2) μ pc ls (v13 :: v12 :: v11 :: v10 :: v9 :: v8 :: v7 :: v6 :: v5 :: v4 :: v3 :: v2 :: v1 :: rest) M Q := by
  subst hp
  exact E_callT (As := [v1, v2, v3, v4, v5, v6, v7, v8, v9, v10, v11, v12, v13]) hd ho hl rfl hlen hfr hrest hx0 hE
theorem E_callT14 {fr' k1 n1 k2 n2 idx : Nat} {v1 v2 v3 v4 v5 v6 v7 v8 v9 v10 v11 v12 v13 v14 : Value} {rest ls0 : List Value} {μ' : gMu} (hd : decode (gcc μ) pc = .ok (.invokestatic idx, 3)) (ho : gOkS μ' 14) (hl : gLk (gy μ).cls idx (gy μ')) (hlen : (gfl [v1, v2, v3, v4, v5, v6, v7, v8, v9, v10, v11, v12, v13, v14]).length ≤ gnL μ') (hfr : fr' + 1 ≤ fr) (hrest : (rest.map fun v => v.category).sum ≤ 8) (hx0 : ghh μ' = [] ∨ Cond.methodLink (gy μ).cls idx (gy μ') ∈ gW) (hp : gpad (gnL μ') (gfl [v1, v2, v3, v4, v5, v6, v7, v8, v9, v10, v11, v12, v13, v14]) = ls0)
    (hE : E g fr' k1 n1 μ' 0 ls0 [] M (gK g fr k2 n2 μ pc ls rest Q)) : E g fr (k1 + k2) (n1 + n2) μ pc ls (v14 :: v13 :: v12 :: v11 :: v10 :: v9 :: v8 :: v7 :: v6 :: v5 :: v4 :: v3 :: v2 :: v1 :: rest) M Q := by
  subst hp
  exact E_callT (As := [v1, v2, v3, v4, v5, v6, v7, v8, v9, v10, v11, v12, v13, v14]) hd ho hl rfl hlen hfr hrest hx0 hE
theorem E_callT15 {fr' k1 n1 k2 n2 idx : Nat} {v1 v2 v3 v4 v5 v6 v7 v8 v9 v10 v11 v12 v13 v14 v15 : Value} {rest ls0 : List Value} {μ' : gMu} (hd : decode (gcc μ) pc = .ok (.invokestatic idx, 3)) (ho : gOkS μ' 15) (hl : gLk (gy μ).cls idx (gy μ')) (hlen : (gfl [v1, v2, v3, v4, v5, v6, v7, v8, v9, v10, v11, v12, v13, v14, v15]).length ≤ gnL μ') (hfr : fr' + 1 ≤ fr) (hrest : (rest.map fun v => v.category).sum ≤ 8) (hx0 : ghh μ' = [] ∨ Cond.methodLink (gy μ).cls idx (gy μ') ∈ gW) (hp : gpad (gnL μ') (gfl [v1, v2, v3, v4, v5, v6, v7, v8, v9, v10, v11, v12, v13, v14, v15]) = ls0)
    (hE : E g fr' k1 n1 μ' 0 ls0 [] M (gK g fr k2 n2 μ pc ls rest Q)) : E g fr (k1 + k2) (n1 + n2) μ pc ls (v15 :: v14 :: v13 :: v12 :: v11 :: v10 :: v9 :: v8 :: v7 :: v6 :: v5 :: v4 :: v3 :: v2 :: v1 :: rest) M Q := by
  subst hp
  exact E_callT (As := [v1, v2, v3, v4, v5, v6, v7, v8, v9, v10, v11, v12, v13, v14, v15]) hd ho hl rfl hlen hfr hrest hx0 hE
end GLC
