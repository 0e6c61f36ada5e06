/-! MY RULES: an instruction, a rule -/
section GR
variable {g : gG} {fr k n : Nat} {μ : gMu} {pc : Nat} {ls st : List Value} {M : gM} {Q : Option Value ⊕ String → gM → Prop}
theorem gC.sub {g : gG} {fr k n fr' k' n' : Nat} {μ : gMu} {p : Program} {R : Room} {s : State} {m : MethodId} {args : Array Value} {meth : Method} {c : Code} {H : Heap} {locs : List Loc} {cells slots : Nat} {ρ0 ρ : Nat → Nat} {N0 : Nat} {M : gM} (C : gC g fr k n μ p R s m args meth c H locs cells slots ρ0 ρ N0 M) (h1 : fr' ≤ fr) (h2 : k' ≤ k) (h3 : n' ≤ n) : gC g fr' k' n' μ p R s m args meth c H locs cells slots ρ0 ρ N0 M := by
  obtain ⟨c1, c2, c3, c4, c5, c6, c7, c8, c9, c10, c11, c12, c13, c14, c15⟩ := C
  exact ⟨c1, c2, c3, c4, c5, c6, c7, c8, c9, Nat.le_trans h1 c10, Nat.le_trans (Nat.mul_le_mul_left 55 h1) c11, by omega, by omega, c14, c15⟩
theorem E_mono {Q' : Option Value ⊕ String → gM → Prop} (h : ∀ r M', Q' r M' → Q r M') (k0 : E g fr k n μ pc ls st M Q') : E g fr k n μ pc ls st M Q := by
  intro p e R s m args below meth c H locs cells slots ρ0 ρ N0 cls C hls hst hl T hT X
  obtain ⟨t, h1, o, h2, h3, h4⟩ := k0 p e R s m args below meth c H locs cells slots ρ0 ρ N0 cls C hls hst hl T hT X
  refine ⟨t, h1, o, h2, h3, ?_⟩
  rcases h4 with ⟨⟨v, M', ρ', a1, a2, a3⟩, b⟩ | ⟨q, a0, E', ce, L, ⟨M', ρ', a2, a3⟩, b⟩
  · exact Or.inl ⟨⟨v, M', ρ', a1, h _ _ a2, a3⟩, b⟩
  · exact Or.inr ⟨q, a0, E', ce, L, ⟨M', ρ', h _ _ a2, a3⟩, b⟩
theorem vx_Q_mono {Qc : Array Value → State → Outcome → State → Prop} {XC : String → State → State → Prop} {mc ms mc' ms' : Nat} {free : Addr → Prop} (h1 : mc ≤ mc') (h2 : ms ≤ ms') {a : Array Value} {s0 : State} {o : Outcome} {t : State} (h : vx_Q Qc XC mc ms free a s0 o t) : vx_Q Qc XC mc' ms' free a s0 o t := by
  have key : ∀ {t : State} {L : List Loc}, s0.sameButNew t L mc ms → s0.sameButNew t L mc' ms' := fun {t L} q => ⟨q.1, q.2.1, Nat.le_trans q.2.2.1 (Nat.add_le_add_left h1 _), q.2.2.2.1, Nat.le_trans q.2.2.2.2.1 h2, q.2.2.2.2.2⟩
  rcases h with ⟨a1, L, ⟨f1, f2, f3⟩, a3⟩ | ⟨q, a0, E', ce, L, b1, b2, b3, b4, b5, b6, b7⟩
  · exact Or.inl ⟨a1, L, ⟨f1, f2, key f3⟩, a3⟩
  · exact Or.inr ⟨q, a0, E', ce, L, b1, b2, b3, b4, b5, key b6, b7⟩
/-- more room than is needed -/
theorem E_room {fr' k' n' : Nat} (h1 : fr' ≤ fr) (h2 : k' ≤ k) (h3 : n' ≤ n) (k0 : E g fr' k' n' μ pc ls st M Q) : E g fr k n μ pc ls st M Q := by
  intro p e R s m args below meth c H locs cells slots ρ0 ρ N0 cls C hls hst hl T hT X
  obtain ⟨t, a1, o, a2, a3, a4⟩ := k0 p e R s m args below meth c H locs cells slots ρ0 ρ N0 cls (C.sub h1 h2 h3) hls hst hl T hT X
  exact ⟨t, a1, o, a2, a3, vx_Q_mono (by omega) (by omega) a4⟩
/-- fewer locals known -/
theorem E_ls {ls' : List Value} (hl' : ls'.length = ls.length) (h : ∀ (i : Nat) (v : Value), ls'[i]? = some v → v ≠ Value.null → ls[i]? = some v) (k0 : E g fr k n μ pc ls' st M Q) : E g fr k n μ pc ls st M Q := by
  intro p e R s m args below meth c H locs cells slots ρ0 ρ N0 cls C hls hst hl
  refine k0 p e R s m args below meth c H locs cells slots ρ0 ρ N0 cls C (fun r hr => ?_) hst ⟨hl.1, hl.2.1, fun q hq => ?_⟩
  · obtain ⟨i, hi⟩ := List.getElem?_of_mem hr
    exact hls r (List.mem_of_getElem? (h i _ hi (by intro q; cases q)))
  · obtain ⟨t, v, h1, h2, rfl⟩ := gpl_mem.mp hq
    exact hl.2.2 _ (gpl_mem.mpr ⟨t, v, h t v h1 h2, h2, rfl⟩)
/-- a rule that changes the stack alone -/
theorem E_stk {pc' : Nat} {st' : List Value} (hok : ∀ N, gok N st → gok N st')
    (hW : ∀ (ρ : Nat → Nat) (p : Program) (e : Env) (R : Room) (s : State) (m : MethodId) (args : Array Value) (below : List Frame) (meth : Method) (c : Code) (H : Heap) (locs : List Loc) (cells slots : Nat) (Q' : State → Prop) (cls : Array Slot), p.tables.exec = Jvm.exec → c.code = gcc μ → s.vm.findClass (gy μ).cls = some m.cls → (∀ w ∈ gW, w.before args s = true) →
      W p (gl1 g) e R s m args below meth c H locs cells slots Q' (F0 m pc' cls (st'.map (gv g ρ))) → W p (gl1 g) e R s m args below meth c H locs cells slots Q' (F0 m pc cls (st.map (gv g ρ))))
    (k0 : E g fr k n μ pc' ls st' M Q) : E g fr k n μ pc ls st M Q := by
  intro p e R s m args below meth c H locs cells slots ρ0 ρ N0 cls C hls hst hl
  obtain ⟨hx, hb, -, hown, hts⟩ := C.1
  exact hW ρ p e R s m args below meth c H locs cells slots _ cls hx hb hown hts (k0 p e R s m args below meth c H locs cells slots ρ0 ρ N0 cls C hls (hok _ hst) hl)
theorem E_iconst {i : Int} {v : Int32} (hd : decode (gcc μ) pc = .ok (.iconst i, 1)) (hv : Int32.ofInt i = v) (k0 : E g fr k n μ (pc + 1) ls (.int v :: st) M Q) : E g fr k n μ pc ls st M Q :=
  E_stk (fun _ h => gok_int h) (fun _ _ _ _ _ _ _ _ _ _ _ _ _ _ _ _ hx hb _ _ kk => lv_iconst hx hb hd hv kk) k0
theorem E_bipush {i : Int} {v : Int32} (hd : decode (gcc μ) pc = .ok (.bipush i, 2)) (hv : (Int8.ofInt i).toInt32 = v) (k0 : E g fr k n μ (pc + 2) ls (.int v :: st) M Q) : E g fr k n μ pc ls st M Q :=
  E_stk (fun _ h => gok_int h) (fun _ _ _ _ _ _ _ _ _ _ _ _ _ _ _ _ hx hb _ _ kk => lv_bipush hx hb hd hv kk) k0
theorem E_sipush {i : Int} {v : Int32} (hd : decode (gcc μ) pc = .ok (.sipush i, 3)) (hv : (Int16.ofInt i).toInt32 = v) (k0 : E g fr k n μ (pc + 3) ls (.int v :: st) M Q) : E g fr k n μ pc ls st M Q :=
  E_stk (fun _ h => gok_int h) (fun _ _ _ _ _ _ _ _ _ _ _ _ _ _ _ _ hx hb _ _ kk => lv_sipush hx hb hd hv kk) k0
theorem E_lconst {i : Fin 2} {v : Int64} (hd : decode (gcc μ) pc = .ok (.lconst i, 1)) (hv : Int64.ofNat i.val = v) (k0 : E g fr k n μ (pc + 1) ls (.long v :: st) M Q) : E g fr k n μ pc ls st M Q :=
  E_stk (fun _ h => gok_long h) (fun _ _ _ _ _ _ _ _ _ _ _ _ _ _ _ _ hx hb _ _ kk => lv_lconst hx hb hd hv kk) k0
theorem E_ldc {i : Nat} {v : Int32} (hd : decode (gcc μ) pc = .ok (.ldc i, 2)) (hc : Cond.constant (gy μ).cls i v ∈ gW) (k0 : E g fr k n μ (pc + 2) ls (.int v :: st) M Q) : E g fr k n μ pc ls st M Q :=
  E_stk (fun _ h => gok_int h) (fun _ _ _ _ _ _ _ _ _ _ _ _ _ _ _ _ hx hb ho ht kk => lv_ldc hx hb ho (ht _ hc) hd kk) k0
theorem E_ldcw {i : Nat} {v : Int32} (hd : decode (gcc μ) pc = .ok (.ldc_w i, 3)) (hc : Cond.constant (gy μ).cls i v ∈ gW) (k0 : E g fr k n μ (pc + 3) ls (.int v :: st) M Q) : E g fr k n μ pc ls st M Q :=
  E_stk (fun _ h => gok_int h) (fun _ _ _ _ _ _ _ _ _ _ _ _ _ _ _ _ hx hb ho ht kk => lv_ldcw hx hb ho (ht _ hc) hd kk) k0
theorem E_null (hd : decode (gcc μ) pc = .ok (.aconst_null, 1)) (k0 : E g fr k n μ (pc + 1) ls (.ref 0 :: st) M Q) : E g fr k n μ pc ls st M Q :=
  E_stk (fun _ h => gok_ref (Nat.zero_le _) h) (fun _ _ _ _ _ _ _ _ _ _ _ _ _ _ _ _ hx hb _ _ kk => lv_null hx hb hd kk) k0
theorem E_iadd {x y : Int32} (hd : decode (gcc μ) pc = .ok (.iadd, 1)) (k0 : E g fr k n μ (pc + 1) ls (.int (x + y) :: st) M Q) : E g fr k n μ pc ls (.int y :: .int x :: st) M Q :=
  E_stk (fun _ h => gok_int (gok_cons (gok_cons h))) (fun _ _ _ _ _ _ _ _ _ _ _ _ _ _ _ _ hx hb _ _ kk => lv_iadd hx hb hd kk) k0
theorem E_isub {x y : Int32} (hd : decode (gcc μ) pc = .ok (.isub, 1)) (k0 : E g fr k n μ (pc + 1) ls (.int (x - y) :: st) M Q) : E g fr k n μ pc ls (.int y :: .int x :: st) M Q :=
  E_stk (fun _ h => gok_int (gok_cons (gok_cons h))) (fun _ _ _ _ _ _ _ _ _ _ _ _ _ _ _ _ hx hb _ _ kk => lv_isub hx hb hd kk) k0
theorem E_imul {x y : Int32} (hd : decode (gcc μ) pc = .ok (.imul, 1)) (k0 : E g fr k n μ (pc + 1) ls (.int (x * y) :: st) M Q) : E g fr k n μ pc ls (.int y :: .int x :: st) M Q :=
  E_stk (fun _ h => gok_int (gok_cons (gok_cons h))) (fun _ _ _ _ _ _ _ _ _ _ _ _ _ _ _ _ hx hb _ _ kk => lv_imul hx hb hd kk) k0
theorem E_iand {x y : Int32} (hd : decode (gcc μ) pc = .ok (.iand, 1)) (k0 : E g fr k n μ (pc + 1) ls (.int (x &&& y) :: st) M Q) : E g fr k n μ pc ls (.int y :: .int x :: st) M Q :=
  E_stk (fun _ h => gok_int (gok_cons (gok_cons h))) (fun _ _ _ _ _ _ _ _ _ _ _ _ _ _ _ _ hx hb _ _ kk => lv_iand hx hb hd kk) k0
theorem E_ior {x y : Int32} (hd : decode (gcc μ) pc = .ok (.ior, 1)) (k0 : E g fr k n μ (pc + 1) ls (.int (x ||| y) :: st) M Q) : E g fr k n μ pc ls (.int y :: .int x :: st) M Q :=
  E_stk (fun _ h => gok_int (gok_cons (gok_cons h))) (fun _ _ _ _ _ _ _ _ _ _ _ _ _ _ _ _ hx hb _ _ kk => lv_ior hx hb hd kk) k0
theorem E_ixor {x y : Int32} (hd : decode (gcc μ) pc = .ok (.ixor, 1)) (k0 : E g fr k n μ (pc + 1) ls (.int (x ^^^ y) :: st) M Q) : E g fr k n μ pc ls (.int y :: .int x :: st) M Q :=
  E_stk (fun _ h => gok_int (gok_cons (gok_cons h))) (fun _ _ _ _ _ _ _ _ _ _ _ _ _ _ _ _ hx hb _ _ kk => lv_ixor hx hb hd kk) k0
theorem E_idiv {x y : Int32} (hd : decode (gcc μ) pc = .ok (.idiv, 1)) (hy : ¬ y = 0) (k0 : E g fr k n μ (pc + 1) ls (.int (x / y) :: st) M Q) : E g fr k n μ pc ls (.int y :: .int x :: st) M Q :=
  E_stk (fun _ h => gok_int (gok_cons (gok_cons h))) (fun _ _ _ _ _ _ _ _ _ _ _ _ _ _ _ _ hx hb _ _ kk => lv_idiv hx hb hd hy kk) k0
theorem E_ineg {x : Int32} (hd : decode (gcc μ) pc = .ok (.ineg, 1)) (k0 : E g fr k n μ (pc + 1) ls (.int (-x) :: st) M Q) : E g fr k n μ pc ls (.int x :: st) M Q :=
  E_stk (fun _ h => gok_int (gok_cons h)) (fun _ _ _ _ _ _ _ _ _ _ _ _ _ _ _ _ hx hb _ _ kk => lv_ineg hx hb hd kk) k0
theorem E_i2l {x : Int32} (hd : decode (gcc μ) pc = .ok (.i2l, 1)) (k0 : E g fr k n μ (pc + 1) ls (.long x.toInt64 :: st) M Q) : E g fr k n μ pc ls (.int x :: st) M Q :=
  E_stk (fun _ h => gok_long (gok_cons h)) (fun _ _ _ _ _ _ _ _ _ _ _ _ _ _ _ _ hx hb _ _ kk => lv_i2l hx hb hd rfl kk) k0
theorem E_land {x y : Int64} (hd : decode (gcc μ) pc = .ok (.land, 1)) (k0 : E g fr k n μ (pc + 1) ls (.long (x &&& y) :: st) M Q) : E g fr k n μ pc ls (.long y :: .long x :: st) M Q :=
  E_stk (fun _ h => gok_long (gok_cons (gok_cons h))) (fun _ _ _ _ _ _ _ _ _ _ _ _ _ _ _ _ hx hb _ _ kk => lv_land hx hb hd kk) k0
theorem E_lor {x y : Int64} (hd : decode (gcc μ) pc = .ok (.lor, 1)) (k0 : E g fr k n μ (pc + 1) ls (.long (x ||| y) :: st) M Q) : E g fr k n μ pc ls (.long y :: .long x :: st) M Q :=
  E_stk (fun _ h => gok_long (gok_cons (gok_cons h))) (fun _ _ _ _ _ _ _ _ _ _ _ _ _ _ _ _ hx hb _ _ kk => lv_lor hx hb hd kk) k0
theorem E_pop {v : Value} (hd : decode (gcc μ) pc = .ok (.pop, 1)) (hv : v.category = 1) (k0 : E g fr k n μ (pc + 1) ls st M Q) : E g fr k n μ pc ls (v :: st) M Q :=
  E_stk (fun _ h => gok_cons h) (fun _ _ _ _ _ _ _ _ _ _ _ _ _ _ _ _ hx hb _ _ kk => lv_pop hx hb hd (by rw [gv_cat]; exact hv) kk) k0
theorem E_dup {v : Value} (hd : decode (gcc μ) pc = .ok (.dup, 1)) (hv : v.category = 1) (k0 : E g fr k n μ (pc + 1) ls (v :: v :: st) M Q) : E g fr k n μ pc ls (v :: st) M Q :=
  E_stk (fun _ h r hr => by
    rcases List.mem_cons.mp hr with q | q
    · exact h r (by rw [q]; exact List.mem_cons_self)
    · exact h r q) (fun _ _ _ _ _ _ _ _ _ _ _ _ _ _ _ _ hx hb _ _ kk => lv_dup hx hb hd (by rw [gv_cat]; exact hv) kk) k0
theorem E_dup2 {v w : Value} (hd : decode (gcc μ) pc = .ok (.dup2, 1)) (hv : v.category = 1) (hw : w.category = 1) (k0 : E g fr k n μ (pc + 1) ls (v :: w :: v :: w :: st) M Q) : E g fr k n μ pc ls (v :: w :: st) M Q :=
  E_stk (fun _ h r hr => by
    rcases List.mem_cons.mp hr with q | q
    · exact h r (by rw [q]; exact List.mem_cons_self)
    · rcases List.mem_cons.mp q with q | q
      · exact h r (by rw [q]; exact List.mem_cons_of_mem _ List.mem_cons_self)
      · exact h r q) (fun _ _ _ _ _ _ _ _ _ _ _ _ _ _ _ _ hx hb _ _ kk => lv_dup2_11 hx hb hd (by rw [gv_cat]; exact hv) (by rw [gv_cat]; exact hw) kk) k0
theorem E_goto {off : Int} {tgt : Nat} (hd : decode (gcc μ) pc = .ok (.goto off, 3)) (ht : (pc : Int) + off = (tgt : Int)) (k0 : E g fr k n μ tgt ls st M Q) : E g fr k n μ pc ls st M Q :=
  E_stk (fun _ h => h) (fun _ _ _ _ _ _ _ _ _ _ _ _ _ _ _ _ hx hb _ _ kk => lv_goto hx hb hd ht kk) k0
/-- a name for a number on the stack -/
theorem E_top {x : Int32} (h : ∀ y : Int32, y = x → E g fr k n μ pc ls (.int y :: st) M Q) : E g fr k n μ pc ls (.int x :: st) M Q := h x rfl
theorem E_ishl {x y : Int32} (hd : decode (gcc μ) pc = .ok (.ishl, 1)) (k0 : E g fr k n μ (pc + 1) ls (.int (x <<< (y &&& 31)) :: st) M Q) : E g fr k n μ pc ls (.int y :: .int x :: st) M Q :=
  E_stk (fun _ h => gok_int (gok_cons (gok_cons h))) (fun _ _ _ _ _ _ _ _ _ _ _ _ _ _ _ _ hx hb _ _ kk => lv_ishl hx hb hd kk) k0
theorem E_ishr {x y : Int32} (hd : decode (gcc μ) pc = .ok (.ishr, 1)) (k0 : E g fr k n μ (pc + 1) ls (.int (x >>> (y &&& 31)) :: st) M Q) : E g fr k n μ pc ls (.int y :: .int x :: st) M Q :=
  E_stk (fun _ h => gok_int (gok_cons (gok_cons h))) (fun _ _ _ _ _ _ _ _ _ _ _ _ _ _ _ _ hx hb _ _ kk => lv_ishr hx hb hd kk) k0
theorem E_iushr {x y : Int32} (hd : decode (gcc μ) pc = .ok (.iushr, 1)) (k0 : E g fr k n μ (pc + 1) ls (.int (x.toUInt32 >>> (y.toUInt32 &&& Int32.toUInt32 31)).toInt32 :: st) M Q) : E g fr k n μ pc ls (.int y :: .int x :: st) M Q :=
  E_stk (fun _ h => gok_int (gok_cons (gok_cons h))) (fun _ _ _ _ _ _ _ _ _ _ _ _ _ _ _ _ hx hb _ _ kk => lv_iushr hx hb hd rfl kk) k0
theorem E_lshl {x : Int64} {y : Int32} (hd : decode (gcc μ) pc = .ok (.lshl, 1)) (k0 : E g fr k n μ (pc + 1) ls (.long (x <<< (y.toInt64 &&& 63)) :: st) M Q) : E g fr k n μ pc ls (.int y :: .long x :: st) M Q :=
  E_stk (fun _ h => gok_long (gok_cons (gok_cons h))) (fun _ _ _ _ _ _ _ _ _ _ _ _ _ _ _ _ hx hb _ _ kk => lv_lshl hx hb hd rfl kk) k0
theorem E_irem {x y : Int32} (hd : decode (gcc μ) pc = .ok (.irem, 1)) (hy : ¬ y = 0) (k0 : E g fr k n μ (pc + 1) ls (.int (x - x / y * y) :: st) M Q) : E g fr k n μ pc ls (.int y :: .int x :: st) M Q :=
  E_stk (fun _ h => gok_int (gok_cons (gok_cons h))) (fun _ _ _ _ _ _ _ _ _ _ _ _ _ _ _ _ hx hb _ _ kk => lv_irem hx hb hd hy kk) k0
theorem E_lcmp {x y : Int64} (hd : decode (gcc μ) pc = .ok (.lcmp, 1)) (k0 : E g fr k n μ (pc + 1) ls (.int (lg_cmp x y) :: st) M Q) : E g fr k n μ pc ls (.long y :: .long x :: st) M Q :=
  E_stk (fun _ h => gok_int (gok_cons (gok_cons h))) (fun _ _ _ _ _ _ _ _ _ _ _ _ _ _ _ _ hx hb _ _ kk => W.lcmp hx hb hd kk) k0
/-- a rule that branches -/
theorem E_br {c0 : Prop} {pt pf : Nat} {st' : List Value} (hok : ∀ N, gok N st → gok N st')
    (hW : ∀ (ρ : Nat → Nat) (p : Program) (e : Env) (R : Room) (s : State) (m : MethodId) (args : Array Value) (below : List Frame) (meth : Method) (c : Code) (H : Heap) (locs : List Loc) (cells slots : Nat) (Q' : State → Prop) (cls : Array Slot), p.tables.exec = Jvm.exec → c.code = gcc μ →
      (c0 → W p (gl1 g) e R s m args below meth c H locs cells slots Q' (F0 m pt cls (st'.map (gv g ρ)))) → (¬ c0 → W p (gl1 g) e R s m args below meth c H locs cells slots Q' (F0 m pf cls (st'.map (gv g ρ)))) → W p (gl1 g) e R s m args below meth c H locs cells slots Q' (F0 m pc cls (st.map (gv g ρ))))
    (kt : c0 → E g fr k n μ pt ls st' M Q) (kf : ¬ c0 → E g fr k n μ pf ls st' M Q) : E g fr k n μ pc ls st M Q := by
  intro p e R s m args below meth c H locs cells slots ρ0 ρ N0 cls C hls hst hl
  obtain ⟨hx, hb, -, hown, hts⟩ := C.1
  exact hW ρ p e R s m args below meth c H locs cells slots _ cls hx hb (fun h => kt h p e R s m args below meth c H locs cells slots ρ0 ρ N0 cls C hls (hok _ hst) hl) (fun h => kf h p e R s m args below meth c H locs cells slots ρ0 ρ N0 cls C hls (hok _ hst) hl)
theorem E_icmp_eq {x y : Int32} {off : Int} {tgt : Nat} (hd : decode (gcc μ) pc = .ok (.if_icmp .eq off, 3)) (ht : (pc : Int) + off = (tgt : Int)) (kt : x = y → E g fr k n μ tgt ls st M Q) (kf : ¬ x = y → E g fr k n μ (pc + 3) ls st M Q) : E g fr k n μ pc ls (.int y :: .int x :: st) M Q :=
  E_br (c0 := x = y) (fun _ h => gok_cons (gok_cons h)) (fun _ _ _ _ _ _ _ _ _ _ _ _ _ _ _ _ hx hb k1 k2 => lv_icmp_eq hx hb hd ht (by simpa using k1) (by simpa using k2)) kt kf
theorem E_icmp_ne {x y : Int32} {off : Int} {tgt : Nat} (hd : decode (gcc μ) pc = .ok (.if_icmp .ne off, 3)) (ht : (pc : Int) + off = (tgt : Int)) (kt : ¬ x = y → E g fr k n μ tgt ls st M Q) (kf : ¬ (¬ x = y) → E g fr k n μ (pc + 3) ls st M Q) : E g fr k n μ pc ls (.int y :: .int x :: st) M Q :=
  E_br (c0 := ¬ x = y) (fun _ h => gok_cons (gok_cons h)) (fun _ _ _ _ _ _ _ _ _ _ _ _ _ _ _ _ hx hb k1 k2 => lv_icmp_ne hx hb hd ht (by simpa using k1) (by simpa using k2)) kt kf
theorem E_icmp_lt {x y : Int32} {off : Int} {tgt : Nat} (hd : decode (gcc μ) pc = .ok (.if_icmp .lt off, 3)) (ht : (pc : Int) + off = (tgt : Int)) (kt : x < y → E g fr k n μ tgt ls st M Q) (kf : ¬ x < y → E g fr k n μ (pc + 3) ls st M Q) : E g fr k n μ pc ls (.int y :: .int x :: st) M Q :=
  E_br (c0 := x < y) (fun _ h => gok_cons (gok_cons h)) (fun _ _ _ _ _ _ _ _ _ _ _ _ _ _ _ _ hx hb k1 k2 => lv_icmp_lt hx hb hd ht (by simpa using k1) (by simpa using k2)) kt kf
theorem E_icmp_ge {x y : Int32} {off : Int} {tgt : Nat} (hd : decode (gcc μ) pc = .ok (.if_icmp .ge off, 3)) (ht : (pc : Int) + off = (tgt : Int)) (kt : y ≤ x → E g fr k n μ tgt ls st M Q) (kf : ¬ y ≤ x → E g fr k n μ (pc + 3) ls st M Q) : E g fr k n μ pc ls (.int y :: .int x :: st) M Q :=
  E_br (c0 := y ≤ x) (fun _ h => gok_cons (gok_cons h)) (fun _ _ _ _ _ _ _ _ _ _ _ _ _ _ _ _ hx hb k1 k2 => lv_icmp_ge hx hb hd ht (by simpa using k1) (by simpa using k2)) kt kf
theorem E_icmp_gt {x y : Int32} {off : Int} {tgt : Nat} (hd : decode (gcc μ) pc = .ok (.if_icmp .gt off, 3)) (ht : (pc : Int) + off = (tgt : Int)) (kt : y < x → E g fr k n μ tgt ls st M Q) (kf : ¬ y < x → E g fr k n μ (pc + 3) ls st M Q) : E g fr k n μ pc ls (.int y :: .int x :: st) M Q :=
  E_br (c0 := y < x) (fun _ h => gok_cons (gok_cons h)) (fun _ _ _ _ _ _ _ _ _ _ _ _ _ _ _ _ hx hb k1 k2 => lv_icmp_gt hx hb hd ht (by simpa using k1) (by simpa using k2)) kt kf
theorem E_icmp_le {x y : Int32} {off : Int} {tgt : Nat} (hd : decode (gcc μ) pc = .ok (.if_icmp .le off, 3)) (ht : (pc : Int) + off = (tgt : Int)) (kt : x ≤ y → E g fr k n μ tgt ls st M Q) (kf : ¬ x ≤ y → E g fr k n μ (pc + 3) ls st M Q) : E g fr k n μ pc ls (.int y :: .int x :: st) M Q :=
  E_br (c0 := x ≤ y) (fun _ h => gok_cons (gok_cons h)) (fun _ _ _ _ _ _ _ _ _ _ _ _ _ _ _ _ hx hb k1 k2 => lv_icmp_le hx hb hd ht (by simpa using k1) (by simpa using k2)) kt kf
theorem E_if_eq {x : Int32} {off : Int} {tgt : Nat} (hd : decode (gcc μ) pc = .ok (.ifCond .eq off, 3)) (ht : (pc : Int) + off = (tgt : Int)) (kt : x = 0 → E g fr k n μ tgt ls st M Q) (kf : ¬ x = 0 → E g fr k n μ (pc + 3) ls st M Q) : E g fr k n μ pc ls (.int x :: st) M Q :=
  E_br (c0 := x = 0) (fun _ h => gok_cons h) (fun _ _ _ _ _ _ _ _ _ _ _ _ _ _ _ _ hx hb k1 k2 => lv_if_eq hx hb hd ht (by simpa using k1) (by simpa using k2)) kt kf
theorem E_if_ne {x : Int32} {off : Int} {tgt : Nat} (hd : decode (gcc μ) pc = .ok (.ifCond .ne off, 3)) (ht : (pc : Int) + off = (tgt : Int)) (kt : ¬ x = 0 → E g fr k n μ tgt ls st M Q) (kf : ¬ (¬ x = 0) → E g fr k n μ (pc + 3) ls st M Q) : E g fr k n μ pc ls (.int x :: st) M Q :=
  E_br (c0 := ¬ x = 0) (fun _ h => gok_cons h) (fun _ _ _ _ _ _ _ _ _ _ _ _ _ _ _ _ hx hb k1 k2 => lv_if_ne hx hb hd ht (by simpa using k1) (by simpa using k2)) kt kf
theorem E_if_lt {x : Int32} {off : Int} {tgt : Nat} (hd : decode (gcc μ) pc = .ok (.ifCond .lt off, 3)) (ht : (pc : Int) + off = (tgt : Int)) (kt : x < 0 → E g fr k n μ tgt ls st M Q) (kf : ¬ x < 0 → E g fr k n μ (pc + 3) ls st M Q) : E g fr k n μ pc ls (.int x :: st) M Q :=
  E_br (c0 := x < 0) (fun _ h => gok_cons h) (fun _ _ _ _ _ _ _ _ _ _ _ _ _ _ _ _ hx hb k1 k2 => lv_if_lt hx hb hd ht (by simpa using k1) (by simpa using k2)) kt kf
theorem E_if_ge {x : Int32} {off : Int} {tgt : Nat} (hd : decode (gcc μ) pc = .ok (.ifCond .ge off, 3)) (ht : (pc : Int) + off = (tgt : Int)) (kt : 0 ≤ x → E g fr k n μ tgt ls st M Q) (kf : ¬ 0 ≤ x → E g fr k n μ (pc + 3) ls st M Q) : E g fr k n μ pc ls (.int x :: st) M Q :=
  E_br (c0 := 0 ≤ x) (fun _ h => gok_cons h) (fun _ _ _ _ _ _ _ _ _ _ _ _ _ _ _ _ hx hb k1 k2 => lv_if_ge hx hb hd ht (by simpa using k1) (by simpa using k2)) kt kf
theorem E_if_gt {x : Int32} {off : Int} {tgt : Nat} (hd : decode (gcc μ) pc = .ok (.ifCond .gt off, 3)) (ht : (pc : Int) + off = (tgt : Int)) (kt : 0 < x → E g fr k n μ tgt ls st M Q) (kf : ¬ 0 < x → E g fr k n μ (pc + 3) ls st M Q) : E g fr k n μ pc ls (.int x :: st) M Q :=
  E_br (c0 := 0 < x) (fun _ h => gok_cons h) (fun _ _ _ _ _ _ _ _ _ _ _ _ _ _ _ _ hx hb k1 k2 => lv_if_gt hx hb hd ht (by simpa using k1) (by simpa using k2)) kt kf
theorem E_if_le {x : Int32} {off : Int} {tgt : Nat} (hd : decode (gcc μ) pc = .ok (.ifCond .le off, 3)) (ht : (pc : Int) + off = (tgt : Int)) (kt : x ≤ 0 → E g fr k n μ tgt ls st M Q) (kf : ¬ x ≤ 0 → E g fr k n μ (pc + 3) ls st M Q) : E g fr k n μ pc ls (.int x :: st) M Q :=
  E_br (c0 := x ≤ 0) (fun _ h => gok_cons h) (fun _ _ _ _ _ _ _ _ _ _ _ _ _ _ _ _ hx hb k1 k2 => lv_if_le hx hb hd ht (by simpa using k1) (by simpa using k2)) kt kf
theorem E_ifnull {r : Nat} {off : Int} {tgt : Nat} (hd : decode (gcc μ) pc = .ok (.ifnull off, 3)) (ht : (pc : Int) + off = (tgt : Int)) (kt : r = 0 → E g fr k n μ tgt ls st M Q) (kf : ¬ r = 0 → E g fr k n μ (pc + 3) ls st M Q) : E g fr k n μ pc ls (.ref r :: st) M Q :=
  E_br (c0 := r = 0) (fun _ h => gok_cons h) (fun _ _ _ _ _ _ _ _ _ _ _ _ _ _ _ _ hx hb k1 k2 => by
    cases r with
    | zero => exact lv_ifnullN hx hb hd ht (k1 rfl)
    | succ r => exact lv_ifnull hx hb hd (k2 (by omega))) kt kf
theorem E_ifnonnull {r : Nat} {off : Int} {tgt : Nat} (hd : decode (gcc μ) pc = .ok (.ifnonnull off, 3)) (ht : (pc : Int) + off = (tgt : Int)) (kt : ¬ r = 0 → E g fr k n μ tgt ls st M Q) (kf : ¬ ¬ r = 0 → E g fr k n μ (pc + 3) ls st M Q) : E g fr k n μ pc ls (.ref r :: st) M Q :=
  E_br (c0 := ¬ r = 0) (fun _ h => gok_cons h) (fun _ _ _ _ _ _ _ _ _ _ _ _ _ _ _ _ hx hb k1 k2 => by
    cases r with
    | zero => exact lv_ifnonnullN hx hb hd (k2 (by omega))
    | succ r => exact lv_ifnonnull hx hb hd ht (k1 (by omega))) kt kf
theorem gOpt_inj {D : va_G} {dA : Nat → ClassId} {A : Nat → Prop} {ρ : Nat → Nat} {M : gM} (hD : va_D A (gws ρ dA M)) {a b : Nat} (ha : a ≤ mN M) (hb : b ≤ mN M) (h : gOpt ρ a = gOpt ρ b) : a = b := by
  cases a with
  | zero => cases b with
    | zero => rfl
    | succ b => cases h
  | succ a => cases b with
    | zero => cases h
    | succ b =>
      have e : ρ a = ρ b := Option.some.inj h
      rw [hD.1 a b _ _ (gws_at ha) (gws_at hb) e]
theorem E_acmp_ne {x y : Nat} {off : Int} {tgt : Nat} (hd : decode (gcc μ) pc = .ok (.if_acmp .ne off, 3)) (ht : (pc : Int) + off = (tgt : Int)) (kt : ¬ x = y → E g fr k n μ tgt ls st M Q) (kf : x = y → E g fr k n μ (pc + 3) ls st M Q) : E g fr k n μ pc ls (.ref y :: .ref x :: st) M Q := by
  intro p e R s m args below meth c H locs cells slots ρ0 ρ N0 cls C hls hst hl
  obtain ⟨hx, hb, -, hown, hts⟩ := C.1
  have hD := C.2.2.2.2.2.1.2.1
  have h1 : y ≤ mN M := hst y List.mem_cons_self
  have h2 : x ≤ mN M := hst x (List.mem_cons_of_mem _ List.mem_cons_self)
  have h0 := gok_cons (gok_cons hst)
  show W _ _ _ _ _ _ _ _ _ _ _ _ _ _ _ (F0 m pc cls (gv g ρ (.ref y) :: gv g ρ (.ref x) :: st.map (gv g ρ)))
  rw [gv_rf, gv_rf]
  refine lv_acmp_ne hx hb hd ht (fun h => ?_) (fun h => ?_)
  · exact kt (fun q => h (by rw [q])) p e R s m args below meth c H locs cells slots ρ0 ρ N0 cls C hls h0 hl
  · exact kf (gOpt_inj (D := gD g) hD h2 h1 h) p e R s m args below meth c H locs cells slots ρ0 ρ N0 cls C hls h0 hl
/-! locals -/
theorem E_load {i : Nat} {v : Value} {len : Nat} (hi : ls[i]? = some v) (hv : v ≠ .null)
    (hW : ∀ (ρ : Nat → Nat) (p : Program) (e : Env) (R : Room) (s : State) (m : MethodId) (args : Array Value) (below : List Frame) (meth : Method) (c : Code) (H : Heap) (locs : List Loc) (cells slots : Nat) (Q' : State → Prop) (cls : Array Slot) (rest : List Value), p.tables.exec = Jvm.exec → c.code = gcc μ → cls[i]? = some (.val (gv g ρ v)) →
      W p (gl1 g) e R s m args below meth c H locs cells slots Q' (F0 m (pc + len) cls (gv g ρ v :: rest)) → W p (gl1 g) e R s m args below meth c H locs cells slots Q' (F0 m pc cls rest))
    (k0 : E g fr k n μ (pc + len) ls (v :: st) M Q) : E g fr k n μ pc ls st M Q := by
  intro p e R s m args below meth c H locs cells slots ρ0 ρ N0 cls C hls hst hl
  obtain ⟨hx, hb, -, hown, hts⟩ := C.1
  exact hW ρ p e R s m args below meth c H locs cells slots _ cls _ hx hb (hl.at hi hv) (k0 p e R s m args below meth c H locs cells slots ρ0 ρ N0 cls C hls (gok_at hls hi hst) hl)
theorem E_iload_n {i : Fin 4} {x : Int32} (hd : decode (gcc μ) pc = .ok (.iload_n i, 1)) (hi : ls[i.val]? = some (.int x)) (k0 : E g fr k n μ (pc + 1) ls (.int x :: st) M Q) : E g fr k n μ pc ls st M Q :=
  E_load hi (by simp) (fun _ _ _ _ _ _ _ _ _ _ _ _ _ _ _ _ _ hx hb h kk => lv_iload_n hx hb hd rfl h kk) k0
theorem E_iload {i : Nat} {x : Int32} (hd : decode (gcc μ) pc = .ok (.iload i, 2)) (hi : ls[i]? = some (.int x)) (k0 : E g fr k n μ (pc + 2) ls (.int x :: st) M Q) : E g fr k n μ pc ls st M Q :=
  E_load hi (by simp) (fun _ _ _ _ _ _ _ _ _ _ _ _ _ _ _ _ _ hx hb h kk => lv_iload hx hb hd h kk) k0
theorem E_lload {i : Nat} {x : Int64} (hd : decode (gcc μ) pc = .ok (.lload i, 2)) (hi : ls[i]? = some (.long x)) (k0 : E g fr k n μ (pc + 2) ls (.long x :: st) M Q) : E g fr k n μ pc ls st M Q :=
  E_load hi (by simp) (fun _ _ _ _ _ _ _ _ _ _ _ _ _ _ _ _ _ hx hb h kk => lv_lload hx hb hd h kk) k0
theorem E_aload_n {i : Fin 4} {r : Nat} (hd : decode (gcc μ) pc = .ok (.aload_n i, 1)) (hi : ls[i.val]? = some (.ref r)) (k0 : E g fr k n μ (pc + 1) ls (.ref r :: st) M Q) : E g fr k n μ pc ls st M Q :=
  E_load hi (by simp) (fun _ _ _ _ _ _ _ _ _ _ _ _ _ _ _ _ _ hx hb h kk => by
    cases r with
    | zero => exact lv_aload_nN hx hb hd rfl h kk
    | succ r => exact lv_aload_n hx hb hd rfl h kk) k0
theorem E_aload {i : Nat} {r : Nat} (hd : decode (gcc μ) pc = .ok (.aload i, 2)) (hi : ls[i]? = some (.ref r)) (k0 : E g fr k n μ (pc + 2) ls (.ref r :: st) M Q) : E g fr k n μ pc ls st M Q :=
  E_load hi (by simp) (fun _ _ _ _ _ _ _ _ _ _ _ _ _ _ _ _ _ hx hb h kk => by
    cases r with
    | zero => exact lv_aloadN hx hb hd h kk
    | succ r => exact lv_aload hx hb hd h kk) k0
theorem E_aload_s {i : Fin 4} {z : UInt32} (hd : decode (gcc μ) pc = .ok (.aload_n i, 1)) (hi : ls[i.val]? = some (.float z)) (k0 : E g fr k n μ (pc + 1) ls (.float z :: st) M Q) : E g fr k n μ pc ls st M Q :=
  E_load hi (by simp) (fun _ _ _ _ _ _ _ _ _ _ _ _ _ _ _ _ _ hx hb h kk => lv_aload_n hx hb hd rfl h kk) k0
theorem E_store {i : Nat} {v : Value} {len : Nat} (hi : i < ls.length) (hk : gnl ls i = true)
    (hW : ∀ (ρ : Nat → Nat) (p : Program) (e : Env) (R : Room) (s : State) (m : MethodId) (args : Array Value) (below : List Frame) (meth : Method) (c : Code) (H : Heap) (locs : List Loc) (cells slots : Nat) (Q' : State → Prop) (cls : Array Slot) (rest : List Value), p.tables.exec = Jvm.exec → c.code = gcc μ → gL g ρ cls (gnL μ) ls →
      (∀ cls', gL g ρ cls' (gnL μ) (ls.set i v) → W p (gl1 g) e R s m args below meth c H locs cells slots Q' (F0 m (pc + len) cls' rest)) → W p (gl1 g) e R s m args below meth c H locs cells slots Q' (F0 m pc cls (gv g ρ v :: rest)))
    (k0 : E g fr k n μ (pc + len) (ls.set i v) st M Q) : E g fr k n μ pc ls (v :: st) M Q := by
  intro p e R s m args below meth c H locs cells slots ρ0 ρ N0 cls C hls hst hl
  obtain ⟨hx, hb, -, hown, hts⟩ := C.1
  exact hW ρ p e R s m args below meth c H locs cells slots _ cls _ hx hb hl (fun cls' hl' => k0 p e R s m args below meth c H locs cells slots ρ0 ρ N0 cls' C (gok_set hls (fun r hr => hst r (by rw [List.mem_singleton.mp hr]; exact List.mem_cons_self))) (gok_cons hst) hl')
theorem E_istore_n {i : Fin 4} {x : Int32} (hd : decode (gcc μ) pc = .ok (.istore_n i, 1)) (hi : i.val < ls.length) (hn : i.val < gnL μ) (hk : gnl ls i.val = true) (k0 : E g fr k n μ (pc + 1) (ls.set i.val (.int x)) st M Q) : E g fr k n μ pc ls (.int x :: st) M Q :=
  E_store hi hk (fun _ _ _ _ _ _ _ _ _ _ _ _ _ _ _ _ _ hx hb h kk => lv_istore_n hx hb hd rfl h hn rfl (fun cls' h' => kk cls' (gL.st1 rfl hk hi h'))) k0
theorem E_istore {i : Nat} {x : Int32} (hd : decode (gcc μ) pc = .ok (.istore i, 2)) (hi : i < ls.length) (hn : i < gnL μ) (hk : gnl ls i = true) (k0 : E g fr k n μ (pc + 2) (ls.set i (.int x)) st M Q) : E g fr k n μ pc ls (.int x :: st) M Q :=
  E_store hi hk (fun _ _ _ _ _ _ _ _ _ _ _ _ _ _ _ _ _ hx hb h kk => lv_istore hx hb hd h hn rfl (fun cls' h' => kk cls' (gL.st1 rfl hk hi h'))) k0
theorem E_astore_n {i : Fin 4} {r : Nat} (hd : decode (gcc μ) pc = .ok (.astore_n i, 1)) (hi : i.val < ls.length) (hn : i.val < gnL μ) (hk : gnl ls i.val = true) (k0 : E g fr k n μ (pc + 1) (ls.set i.val (.ref r)) st M Q) : E g fr k n μ pc ls (.ref r :: st) M Q :=
  E_store hi hk (fun _ _ _ _ _ _ _ _ _ _ _ _ _ _ _ _ _ hx hb h kk => by
    cases r with
    | zero => exact lv_astore_nN hx hb hd rfl h hn rfl (fun cls' h' => kk cls' (gL.st1 rfl hk hi h'))
    | succ r => exact lv_astore_n hx hb hd rfl h hn rfl (fun cls' h' => kk cls' (gL.st1 rfl hk hi h'))) k0
theorem E_astore {i : Nat} {r : Nat} (hd : decode (gcc μ) pc = .ok (.astore i, 2)) (hi : i < ls.length) (hn : i < gnL μ) (hk : gnl ls i = true) (k0 : E g fr k n μ (pc + 2) (ls.set i (.ref r)) st M Q) : E g fr k n μ pc ls (.ref r :: st) M Q :=
  E_store hi hk (fun _ _ _ _ _ _ _ _ _ _ _ _ _ _ _ _ _ hx hb h kk => by
    cases r with
    | zero => exact lv_astoreN hx hb hd h hn rfl (fun cls' h' => kk cls' (gL.st1 rfl hk hi h'))
    | succ r => exact lv_astore hx hb hd h hn rfl (fun cls' h' => kk cls' (gL.st1 rfl hk hi h'))) k0
theorem E_iinc {i : Nat} {d : Int} {x v : Int32} (hd : decode (gcc μ) pc = .ok (.iinc i d, 3)) (hx0 : ls[i]? = some (.int x)) (hv : x + Int32.ofInt d = v) (hn : i < gnL μ) (hk : gnl ls i = true) (k0 : E g fr k n μ (pc + 3) (ls.set i (.int v)) st M Q) : E g fr k n μ pc ls st M Q := by
  intro p e R s m args below meth c H locs cells slots ρ0 ρ N0 cls C hls hst hl
  obtain ⟨hx, hb, -, hown, hts⟩ := C.1
  have hm : (i, gv g ρ (.int x)) ∈ gpl g ρ 0 ls := gpl_mem.mpr ⟨i, .int x, hx0, (by intro q; cases q), by rw [Nat.zero_add]⟩
  obtain ⟨j, hj⟩ := List.getElem?_of_mem hm
  exact lv_iinc hx hb hd hl hj hv hn rfl (fun cls' h' => k0 p e R s m args below meth c H locs cells slots ρ0 ρ N0 cls' C (gok_set hls (fun r hr => by cases List.mem_singleton.mp hr)) hst (gL.st1 (v := .int v) rfl hk (List.getElem?_eq_some_iff.mp hx0).1 h'))
end GR
