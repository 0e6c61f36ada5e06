/-! MY FRAME: a memory of whole numbers and references by places; a judgement 'E' over it (a walk of a method goes on to Q), built on the kit's W -/
/-- how many places; a place's kind and length; ints, longs, references (0: null, r + 1: the place r) -/
abbrev gM : Type := (Nat × (Nat → Nat × Nat)) × ((Nat → Nat → Int32) × ((Nat → Nat → Int64) × (Nat → Nat → Nat)))
def mN (M : gM) : Nat := M.1.1
def mK (M : gM) : Nat → Nat × Nat := M.1.2
def mI (M : gM) : Nat → Nat → Int32 := M.2.1
def mL (M : gM) : Nat → Nat → Int64 := M.2.2.1
def mR (M : gM) : Nat → Nat → Nat := M.2.2.2
def u2 {α : Type} (f : Nat → Nat → α) (a k : Nat) (v : α) : Nat → Nat → α := fun b j => if b = a ∧ j = k then v else f b j
def sI (M : gM) (a k : Nat) (v : Int32) : gM := (M.1, (u2 M.2.1 a k v, (M.2.2.1, M.2.2.2)))
def sL (M : gM) (a k : Nat) (v : Int64) : gM := (M.1, (M.2.1, (u2 M.2.2.1 a k v, M.2.2.2)))
def sR (M : gM) (a k : Nat) (v : Nat) : gM := (M.1, (M.2.1, (M.2.2.1, u2 M.2.2.2 a k v)))
def clr {α : Type} (f : Nat → Nat → α) (a : Nat) (z : α) : Nat → Nat → α := fun b j => if b = a then z else f b j
def mNew (M : gM) (κ : Nat × Nat) : gM := ((M.1.1 + 1, fun a => if a = M.1.1 then κ else M.1.2 a), (clr M.2.1 M.1.1 0, (clr M.2.2.1 M.1.1 0, clr M.2.2.2 M.1.1 0)))
theorem mN_sI (M : gM) (a k : Nat) (v : Int32) : mN (sI M a k v) = mN M := rfl
theorem mN_sL (M : gM) (a k : Nat) (v : Int64) : mN (sL M a k v) = mN M := rfl
theorem mN_sR (M : gM) (a k : Nat) (v : Nat) : mN (sR M a k v) = mN M := rfl
theorem mK_sI (M : gM) (a k : Nat) (v : Int32) : mK (sI M a k v) = mK M := rfl
theorem mK_sL (M : gM) (a k : Nat) (v : Int64) : mK (sL M a k v) = mK M := rfl
theorem mK_sR (M : gM) (a k : Nat) (v : Nat) : mK (sR M a k v) = mK M := rfl
theorem mI_sL (M : gM) (a k : Nat) (v : Int64) : mI (sL M a k v) = mI M := rfl
theorem mI_sR (M : gM) (a k : Nat) (v : Nat) : mI (sR M a k v) = mI M := rfl
theorem mL_sI (M : gM) (a k : Nat) (v : Int32) : mL (sI M a k v) = mL M := rfl
theorem mL_sR (M : gM) (a k : Nat) (v : Nat) : mL (sR M a k v) = mL M := rfl
theorem mR_sI (M : gM) (a k : Nat) (v : Int32) : mR (sI M a k v) = mR M := rfl
theorem mR_sL (M : gM) (a k : Nat) (v : Int64) : mR (sL M a k v) = mR M := rfl
theorem mI_sI (M : gM) (a k : Nat) (v : Int32) (b j : Nat) : mI (sI M a k v) b j = if b = a ∧ j = k then v else mI M b j := rfl
theorem mL_sL (M : gM) (a k : Nat) (v : Int64) (b j : Nat) : mL (sL M a k v) b j = if b = a ∧ j = k then v else mL M b j := rfl
theorem mR_sR (M : gM) (a k : Nat) (v : Nat) (b j : Nat) : mR (sR M a k v) b j = if b = a ∧ j = k then v else mR M b j := rfl
/-- the fields' types of a class, by its number in vwCl; how many -/
def gTys : Nat → Nat → FieldType
  | 0 => tyX0 | 1 => tyX1 | 2 => tyX2 | 3 => tyX3 | 4 => tyX4 | 5 => tyX5 | 6 => tyX6 | 7 => tyX7 | 8 => tyX8 | 9 => tyX9 | 10 => tyX10 | 11 => tyX11 | _ => tyX12
def gNf : Nat → Nat
  | 0 => 9 | 1 => 5 | 2 => 13 | 3 => 3 | 4 => 9 | 5 => 1 | 6 => 11 | 7 => 3 | 8 => 2 | 9 => 11 | 10 => 5 | 11 => 11 | _ => 0
/-- the arrays' kinds: 13 int[], 14 boolean[], 15 long[], 16 int[][], 17 Face[], 18 Lookup[], 19 Glyph[] -/
def gAty : Nat → FieldType
  | 0 => .int | 1 => .boolean | 2 => .long | 3 => .array .int | 4 => .object RX1 | 5 => .object RX4 | _ => .object RX2
def gOpt (ρ : Nat → Nat) : Nat → Option Nat
  | 0 => none
  | r + 1 => some (ρ r)
def gFv (ρ : Nat → Nat) (M : gM) (a : Nat) (ty : FieldType) (k : Nat) : Value := match ty with
  | .int => .int (mI M a k)
  | .boolean => .int (mI M a k)
  | _ => va_rf (gOpt ρ (mR M a k))
def gFs (ρ : Nat → Nat) (M : gM) (a c : Nat) : List Value := (List.range (gNf c)).map fun k => gFv ρ M a (gTys c k) k
def gE (ρ : Nat → Nat) (dA : Nat → ClassId) (M : gM) (a : Nat) : va_E :=
  if (mK M a).1 < 12 then .inr ((mK M a).1, gFs ρ M a (mK M a).1)
  else if (mK M a).1 < 15 then .inl (dA ((mK M a).1 - 13), (mK M a).2, .inl (mI M a))
  else if (mK M a).1 = 15 then .inl (dA 2, (mK M a).2, .inr (.inl (mL M a)))
  else .inl (dA ((mK M a).1 - 13), (mK M a).2, .inr (.inr (.inr (.inr (fun j => gOpt ρ (mR M a j))))))
def gws (ρ : Nat → Nat) (dA : Nat → ClassId) (M : gM) : va_W := (List.range (mN M)).map fun a => (ρ a, gE ρ dA M a)
def gtys (dA : Nat → ClassId) : List (ClassId × FieldType) := (List.range 7).map fun t => (dA t, gAty t)
theorem gws_at {ρ : Nat → Nat} {dA : Nat → ClassId} {M : gM} {a : Nat} (h : a < mN M) : (gws ρ dA M)[a]? = some (ρ a, gE ρ dA M a) := by
  simp [gws, h]
theorem gws_set {ρ : Nat → Nat} {dA : Nat → ClassId} {M M' : gM} {a : Nat} {e : va_E} (hN : mN M' = mN M) (he : gE ρ dA M' a = e) (ho : ∀ b, b ≠ a → gE ρ dA M' b = gE ρ dA M b) : (gws ρ dA M).set a (ρ a, e) = gws ρ dA M' := by
  apply List.ext_getElem?
  intro i
  subst he
  simp only [gws, hN]
  by_cases h : i = a
  · subst h
    by_cases hl : i < mN M
    · rw [List.getElem?_set_self (by simpa using hl)]
      simp [hl]
    · have : mN M ≤ i := Nat.le_of_not_lt hl
      simp [this]
  · rw [List.getElem?_set_ne (fun q => h q.symm)]
    by_cases hl : i < mN M
    · simp [hl, ho i h]
    · simp [hl]
theorem gFs_at {ρ : Nat → Nat} {M : gM} {a c k : Nat} (h : k < gNf c) : (gFs ρ M a c)[k]? = some (gFv ρ M a (gTys c k) k) := by
  simp [gFs, h]
theorem gFs_len {ρ : Nat → Nat} {M : gM} {a c : Nat} : (gFs ρ M a c).length = gNf c := by simp [gFs]
theorem gFs_set {ρ : Nat → Nat} {M M' : gM} {a c k : Nat} {v : Value} (hv : k < gNf c → gFv ρ M' a (gTys c k) k = v) (ho : ∀ j, j ≠ k → gFv ρ M' a (gTys c j) j = gFv ρ M a (gTys c j) j) : (gFs ρ M a c).set k v = gFs ρ M' a c := by
  apply List.ext_getElem?
  intro i
  by_cases h : i = k
  · subst h
    by_cases hl : i < gNf c
    · rw [List.getElem?_set_self (by rw [gFs_len]; exact hl), gFs_at hl, hv hl]
    · have h1 : gNf c ≤ i := Nat.le_of_not_lt hl
      simp [gFs, h1]
  · rw [List.getElem?_set_ne (fun q => h q.symm)]
    by_cases hl : i < gNf c
    · rw [gFs_at hl, gFs_at hl, ho i h]
    · have h1 : gNf c ≤ i := Nat.le_of_not_lt hl
      simp [gFs, h1]
theorem gE_obj {ρ : Nat → Nat} {dA : Nat → ClassId} {M : gM} {a c z : Nat} (h : mK M a = (c, z)) (hc : c < 12) : gE ρ dA M a = .inr (c, gFs ρ M a c) := by
  simp [gE, h, hc]
theorem gE_int {ρ : Nat → Nat} {dA : Nat → ClassId} {M : gM} {a z : Nat} (h : mK M a = (13, z)) : gE ρ dA M a = .inl (dA 0, z, .inl (mI M a)) := by simp [gE, h]
theorem gE_bool {ρ : Nat → Nat} {dA : Nat → ClassId} {M : gM} {a z : Nat} (h : mK M a = (14, z)) : gE ρ dA M a = .inl (dA 1, z, .inl (mI M a)) := by simp [gE, h]
theorem gE_long {ρ : Nat → Nat} {dA : Nat → ClassId} {M : gM} {a z : Nat} (h : mK M a = (15, z)) : gE ρ dA M a = .inl (dA 2, z, .inr (.inl (mL M a))) := by simp [gE, h]
theorem gE_ref {ρ : Nat → Nat} {dA : Nat → ClassId} {M : gM} {a t z : Nat} (h : mK M a = (t, z)) (ht : 16 ≤ t) : gE ρ dA M a = .inl (dA (t - 13), z, .inr (.inr (.inr (.inr (fun j => gOpt ρ (mR M a j)))))) := by
  have h1 : ¬ t < 12 := by omega
  have h2 : ¬ t < 15 := by omega
  have h3 : ¬ t = 15 := by omega
  simp [gE, h, h1, h2, h3]
theorem gFv_congr {ρ ρ' : Nat → Nat} {M M' : gM} {a : Nat} {ty : FieldType} {k : Nat} (h1 : mI M' a k = mI M a k) (h2 : gOpt ρ' (mR M' a k) = gOpt ρ (mR M a k)) : gFv ρ' M' a ty k = gFv ρ M a ty k := by
  cases ty <;> simp [gFv, h1, h2]
theorem gE_congr {ρ ρ' : Nat → Nat} {dA : Nat → ClassId} {M M' : gM} {a : Nat} (hK : mK M' a = mK M a) (h1 : ∀ k, mI M' a k = mI M a k) (h3 : ∀ k, mL M' a k = mL M a k) (h2 : ∀ k, gOpt ρ' (mR M' a k) = gOpt ρ (mR M a k)) : gE ρ' dA M' a = gE ρ dA M a := by
  have e1 : mI M' a = mI M a := funext h1
  have e3 : mL M' a = mL M a := funext h3
  have e2 : (fun j => gOpt ρ' (mR M' a j)) = fun j => gOpt ρ (mR M a j) := funext h2
  have e4 : gFs ρ' M' a (mK M a).1 = gFs ρ M a (mK M a).1 := by
    unfold gFs
    exact List.map_congr_left fun k _ => gFv_congr (h1 k) (h2 k)
  simp only [gE, hK, e1, e2, e3, e4]
theorem gE_sI_ne {ρ : Nat → Nat} {dA : Nat → ClassId} {M : gM} {a k b : Nat} {v : Int32} (h : b ≠ a) : gE ρ dA (sI M a k v) b = gE ρ dA M b :=
  gE_congr rfl (fun j => by rw [mI_sI, if_neg (fun q => h q.1)]) (fun _ => rfl) (fun _ => rfl)
theorem gE_sL_ne {ρ : Nat → Nat} {dA : Nat → ClassId} {M : gM} {a k b : Nat} {v : Int64} (h : b ≠ a) : gE ρ dA (sL M a k v) b = gE ρ dA M b :=
  gE_congr rfl (fun _ => rfl) (fun j => by rw [mL_sL, if_neg (fun q => h q.1)]) (fun _ => rfl)
theorem gE_sR_ne {ρ : Nat → Nat} {dA : Nat → ClassId} {M : gM} {a k b : Nat} {v : Nat} (h : b ≠ a) : gE ρ dA (sR M a k v) b = gE ρ dA M b :=
  gE_congr rfl (fun _ => rfl) (fun _ => rfl) (fun j => by rw [mR_sR, if_neg (fun q => h q.1)])
theorem gOpt_ext {ρ ρ' : Nat → Nat} {N r : Nat} (h : ∀ a, a < N → ρ' a = ρ a) (hr : r ≤ N) : gOpt ρ' r = gOpt ρ r := by
  cases r with
  | zero => rfl
  | succ r => simp [gOpt, h r hr]
theorem gws_new {ρ : Nat → Nat} {dA : Nat → ClassId} {M : gM} {κ : Nat × Nat} {q : Nat} (hr : ∀ a k, mR M a k ≤ mN M) : gws (fun a => if a = mN M then q else ρ a) dA (mNew M κ) = gws ρ dA M ++ [(q, gE ρ dA (mNew M κ) (mN M))] := by
  have hN : mN (mNew M κ) = mN M + 1 := rfl
  have key : ∀ b, b ≤ mN M → gE (fun a => if a = mN M then q else ρ a) dA (mNew M κ) b = gE ρ dA (mNew M κ) b := fun b hb =>
    gE_congr rfl (fun _ => rfl) (fun _ => rfl) (fun k => gOpt_ext (N := mN M) (fun a ha => if_neg (Nat.ne_of_lt ha)) (by
      show (if b = M.1.1 then 0 else mR M b k) ≤ mN M
      by_cases h : b = M.1.1
      · rw [if_pos h]; exact Nat.zero_le _
      · rw [if_neg h]; exact hr b k))
  have old : ∀ b, b < mN M → gE ρ dA (mNew M κ) b = gE ρ dA M b := fun b hb => by
    have hne : ¬ b = M.1.1 := Nat.ne_of_lt hb
    exact gE_congr (show (if b = M.1.1 then κ else M.1.2 b) = _ by rw [if_neg hne]; rfl) (fun k => show clr M.2.1 M.1.1 0 b k = _ by unfold clr; rw [if_neg hne]; rfl) (fun k => show clr M.2.2.1 M.1.1 0 b k = _ by unfold clr; rw [if_neg hne]; rfl) (fun k => by
      show gOpt ρ (clr M.2.2.2 M.1.1 0 b k) = _
      unfold clr; rw [if_neg hne]; rfl)
  unfold gws
  rw [hN, List.range_succ, List.map_append]
  congr 1
  · apply List.map_congr_left
    intro b hb
    have hb := List.mem_range.mp hb
    rw [key b (Nat.le_of_lt hb), old b hb]
    exact Prod.ext (if_neg (Nat.ne_of_lt hb)) rfl
  · simp [key]
/-! ## the judgement -/
/-- the launch; the classes' numbers and slots, the arrays' classes; the base address; the script's address, length, ints -/
abbrev gG : Type := Launch × ((va_G × (Nat → ClassId)) × (Nat × (Nat × (Nat × (Nat → Int32)))))
/-- a method: name, code, locals, answer's type, handlers -/
abbrev gMu : Type := MethodName × (ByteArray × (Nat × (Option FieldType × List (Nat × Nat × Nat × Nat))))
def gl1 (g : gG) : Launch := g.1
def gD (g : gG) : va_G := g.2.1.1
def gdA (g : gG) : Nat → ClassId := g.2.1.2
def gbs (g : gG) : Nat := g.2.2.1
def gsc (g : gG) : Nat := g.2.2.2.1
def gsL (g : gG) : Nat := g.2.2.2.2.1
def gsx (g : gG) : Nat → Int32 := g.2.2.2.2.2
abbrev gy (μ : gMu) : MethodName := μ.1
abbrev gcc (μ : gMu) : ByteArray := μ.2.1
abbrev gnL (μ : gMu) : Nat := μ.2.2.1
abbrev gret (μ : gMu) : Option FieldType := μ.2.2.2.1
abbrev ghh (μ : gMu) : List (Nat × Nat × Nat × Nat) := μ.2.2.2.2
def gA (g : gG) : Nat → Prop := fun q => gbs g ≤ q
/-- a value of mine as the machine's: a reference by its place; .float stands for the script -/
def gv (g : gG) (ρ : Nat → Nat) : Value → Value
  | .ref 0 => .null
  | .ref (r + 1) => .ref (ρ r)
  | .float _ => .ref (gsc g)
  | v => v
theorem gv_cat (g : gG) (ρ : Nat → Nat) (v : Value) : (gv g ρ v).category = v.category := by
  cases v with
  | ref r => cases r <;> rfl
  | _ => rfl
theorem gv_rf (g : gG) (ρ : Nat → Nat) (r : Nat) : gv g ρ (.ref r) = va_rf (gOpt ρ r) := by cases r <;> rfl
/-- the words that hold at every state -/
def gW : List Cond := lw_tbl.filter goodWord
def gcode (μ : gMu) : Cond := match ghh μ with
  | [] => .code (gy μ) (gcc μ) (gnL μ) (gret μ)
  | hh => .codeWith (gy μ) (gcc μ) (gnL μ) (gret μ) hh
def gWs (μ : gMu) : List Cond := gcode μ :: gW
/-- words that don't hold at every state by themselves: links across a nest; casts; texts; pairs not castable -/
def gNW : List Cond := lw_tbl.filter fun w => match w with | .methodLinkNest .. => true | _ => false
def gCW : List Cond := lw_tbl.filter fun w => match w with | .castable .. => true | .declares .. => true | _ => false
def gTW : List (String × (Nat × String)) := lw_tbl.filterMap fun w => match w with | .stringRef a b d => some (a, (b, d)) | _ => none
def gPairs : List (String × String) := [("java/lang/IndexOutOfBoundsException", "java/lang/IllegalArgumentException"), ("java/lang/IndexOutOfBoundsException", "java/lang/IllegalStateException"), ("java/lang/IllegalArgumentException", "java/lang/IndexOutOfBoundsException"), ("java/lang/IllegalArgumentException", "java/lang/IllegalStateException"), ("java/lang/IllegalStateException", "java/lang/IndexOutOfBoundsException"), ("java/lang/IllegalStateException", "java/lang/IllegalArgumentException")]
/-- what the Statement gives of the tables and of what lies below the base -/
def gFx (g : gG) (U : State) (H : Heap) : Prop :=
  (∀ w ∈ gNW, va_Nw w U) ∧ (∀ w ∈ gCW, va_Nw w U) ∧ (∀ t ∈ gTW, ∃ sa, vk_R t.1 t.2.1 t.2.2 sa U) ∧ (∀ q ∈ gPairs, va_Nc q.1 q.2 U) ∧
  vx_Zq Bundle.tN "UNASSIGNED_STACK" Bundle.steD (gA g) U H ∧ vx_Zq Bundle.tN "SUPPRESSED_SENTINEL" Bundle.listD (gA g) U H ∧
  (va_AO RX1 U ∧ va_AO RX4 U ∧ va_AO RX2 U ∧ va_Nw (.arrayOver (.array .int)) U) ∧ va_X (gsc g) (gsL g) (gsx g) U H ∧ gsc g < gbs g
theorem gNW_eq {w : Cond} (h : w ∈ gNW) : ∃ a i x h, w = .methodLinkNest a i x h := by
  have h1 := (List.mem_filter.mp h).2
  cases w <;> first | exact ⟨_, _, _, _, rfl⟩ | (simp at h1)
theorem gCW_eq {w : Cond} (h : w ∈ gCW) : (∃ a b, w = .castable a b) ∨ ∃ y, w = .declares y := by
  have h1 := (List.mem_filter.mp h).2
  cases w <;> first | exact Or.inl ⟨_, _, rfl⟩ | exact Or.inr ⟨_, rfl⟩ | (simp at h1)
theorem gFx.moved {g : gG} {s U : State} {H H1 : Heap} (hW : s.WarmedH U.vm) (hq : ∀ q : Nat, q < gbs g → H1[q]? = H[q]?) (h : gFx g s H) : gFx g U H1 := by
  obtain ⟨h1, h2, h3, h4, h5, h6, ⟨h7, h8, h9, h10⟩, h11, h12⟩ := h
  have hk : ∀ a : Nat, a < H.size → ¬ gA g a → H1[a]? = H[a]? := fun a _ ha => hq a (Nat.not_le.mp ha)
  refine ⟨fun w hw => ?_, fun w hw => ?_, fun t ht => ?_, fun q hq' => va_Nc.moved hW.alike (h4 q hq'), (h5.kept hk).moved hW.alike, (h6.kept hk).moved hW.alike, ⟨h7.moved hW.alike, h8.moved hW.alike, h9.moved hW.alike, ?_⟩, (h11.kept (hq _ h12)).moved hW.alike, h12⟩
  · obtain ⟨a, i, x, h, rfl⟩ := gNW_eq hw
    exact va_Nw.warmM hW (h1 _ hw)
  · rcases gCW_eq hw with ⟨a, b, rfl⟩ | ⟨y, rfl⟩
    · have h0 : (Cond.castable a b).before #[] (s.setVm U.vm) = true := Cond.before_shiftedFace (State.Shifted.of_warmed hW) _ rfl (h2 _ hw)
      exact h0
    · have h0 : (Cond.declares y).before #[] (s.setVm U.vm) = true := Cond.before_shiftedFace (State.Shifted.of_warmed hW) _ rfl (h2 _ hw)
      exact h0
  · obtain ⟨sa, hsa⟩ := h3 t ht
    exact ⟨sa, hsa.warm hW⟩
  · exact arrayOver_alikeB hW.alike h10
/-- the heap holds the memory -/
def gMod (g : gG) (ρ : Nat → Nat) (M : gM) (U : State) (H : Heap) : Prop :=
  va_P (gD g) vwCl (gws ρ (gdA g) M) H ∧ va_D (gA g) (gws ρ (gdA g) M) ∧ va_K (gD g) vwCl (gtys (gdA g)) U ∧ ∀ a k, mR M a k ≤ mN M
/-- references of a list of values lie in the memory -/
def gok (N : Nat) (vs : List Value) : Prop := ∀ r, Value.ref r ∈ vs → r ≤ N
theorem gok_cons {N : Nat} {v : Value} {vs : List Value} (h : gok N (v :: vs)) : gok N vs := fun r hr => h r (List.mem_cons_of_mem _ hr)
theorem gok_int {N : Nat} {x : Int32} {vs : List Value} (h : gok N vs) : gok N (.int x :: vs) := fun r hr => by
  rcases List.mem_cons.mp hr with q | q
  · cases q
  · exact h r q
theorem gok_long {N : Nat} {x : Int64} {vs : List Value} (h : gok N vs) : gok N (.long x :: vs) := fun r hr => by
  rcases List.mem_cons.mp hr with q | q
  · cases q
  · exact h r q
theorem gok_ref {N x : Nat} {vs : List Value} (hx : x ≤ N) (h : gok N vs) : gok N (.ref x :: vs) := fun r hr => by
  rcases List.mem_cons.mp hr with q | q
  · cases q; exact hx
  · exact h r q
theorem gok_le {N N' : Nat} {vs : List Value} (hN : N ≤ N') (h : gok N vs) : gok N' vs := fun r hr => Nat.le_trans (h r hr) hN
theorem gok_set {N : Nat} {v : Value} {vs : List Value} {i : Nat} (h : gok N vs) (hv : gok N [v]) : gok N (vs.set i v) := fun r hr => by
  rcases List.mem_or_eq_of_mem_set hr with q | q
  · exact h r q
  · exact hv r (by rw [q]; exact List.mem_singleton.mpr rfl)
theorem gok_at {N : Nat} {ls : List Value} {i : Nat} {v : Value} {vs : List Value} (h : gok N ls) (hi : ls[i]? = some v) (h2 : gok N vs) : gok N (v :: vs) := fun r hr => by
  rcases List.mem_cons.mp hr with q | q
  · exact h r (by rw [q]; exact List.mem_of_getElem? hi)
  · exact h2 r q
/-- the machine's locals hold mine; .null: nothing is said -/
def gpl (g : gG) (ρ : Nat → Nat) : Nat → List Value → List (Nat × Value)
  | _, [] => []
  | i, .null :: vs => gpl g ρ (i + 1) vs
  | i, v :: vs => (i, gv g ρ v) :: gpl g ρ (i + 1) vs
theorem gpl_mem {g : gG} {ρ : Nat → Nat} {q : Nat × Value} : ∀ {ls : List Value} {i : Nat}, q ∈ gpl g ρ i ls ↔ ∃ t v, ls[t]? = some v ∧ v ≠ .null ∧ q = (i + t, gv g ρ v)
  | [], i => by simp [gpl]
  | v :: vs, i => by
    have key : (∃ t w, (v :: vs)[t]? = some w ∧ w ≠ .null ∧ q = (i + t, gv g ρ w)) ↔ (v ≠ .null ∧ q = (i, gv g ρ v)) ∨ ∃ t w, vs[t]? = some w ∧ w ≠ .null ∧ q = (i + 1 + t, gv g ρ w) := by
      constructor
      · rintro ⟨t, w, h1, h2, h3⟩
        cases t with
        | zero => cases h1; exact Or.inl ⟨h2, by rw [h3, Nat.add_zero]⟩
        | succ t => exact Or.inr ⟨t, w, h1, h2, by rw [h3, show i + (t + 1) = i + 1 + t by omega]⟩
      · rintro (⟨h1, h2⟩ | ⟨t, w, h1, h2, h3⟩)
        · exact ⟨0, v, rfl, h1, by rw [h2, Nat.add_zero]⟩
        · exact ⟨t + 1, w, h1, h2, by rw [h3, show i + (t + 1) = i + 1 + t by omega]⟩
    rw [key, ← gpl_mem (ls := vs) (i := i + 1)]
    cases v <;> simp [gpl]
def gL (g : gG) (ρ : Nat → Nat) (cls : Array Slot) (nL : Nat) (ls : List Value) : Prop := lv_has cls nL (gpl g ρ 0 ls)
theorem gL.at {g : gG} {ρ : Nat → Nat} {cls : Array Slot} {nL : Nat} {ls : List Value} (h : gL g ρ cls nL ls) {i : Nat} {v : Value} (hi : ls[i]? = some v) (hv : v ≠ .null) : cls[i]? = some (.val (gv g ρ v)) :=
  h.2.2 (i, gv g ρ v) (gpl_mem.mpr ⟨i, v, hi, hv, by rw [Nat.zero_add]⟩)
/-- a place behind no long -/
def gnl (ls : List Value) : Nat → Bool
  | 0 => true
  | i + 1 => match ls[i]? with
    | some v => v.category != 2
    | none => true
theorem gL.st1 {g : gG} {ρ : Nat → Nat} {cls : Array Slot} {nL : Nat} {ls : List Value} {i : Nat} {v : Value} {w : Value} (hw : w = gv g ρ v) (hk : gnl ls i = true) (hi : i < ls.length)
    (h : lv_has cls nL ((i, w) :: (gpl g ρ 0 ls).filter (fun q => !(q.1 == i) && !(q.1 + 1 == i && q.2.category == 2)))) : gL g ρ cls nL (ls.set i v) := by
  refine ⟨h.1, h.2.1, fun q hq => ?_⟩
  obtain ⟨t, x, h1, h2, rfl⟩ := gpl_mem.mp hq
  by_cases e : t = i
  · subst e
    rw [List.getElem?_set_self hi] at h1
    cases h1
    exact h.2.2 (0 + t, gv g ρ v) (by rw [Nat.zero_add, ← hw]; exact List.mem_cons_self)
  · rw [List.getElem?_set_ne (fun q => e q.symm)] at h1
    refine h.2.2 _ (List.mem_cons_of_mem _ (List.mem_filter.mpr ⟨gpl_mem.mpr ⟨t, x, h1, h2, rfl⟩, ?_⟩))
    have e1 : ((0 + t == i) = false) := by rw [Nat.zero_add]; exact beq_false_of_ne e
    simp only [e1, Bool.not_false, Bool.true_and, Bool.not_eq_true', Bool.and_eq_false_iff]
    by_cases e2 : t + 1 = i
    · right
      subst e2
      have : (x.category != 2) = true := by simpa [gnl, h1] using hk
      rw [gv_cat]
      exact beq_false_of_ne (by simpa using this)
    · left
      rw [Nat.zero_add]
      exact beq_false_of_ne e2
theorem gL.ext {g : gG} {ρ ρ' : Nat → Nat} {cls : Array Slot} {nL N : Nat} {ls : List Value} (h : gL g ρ cls nL ls) (hok : gok N ls) (hr : ∀ a, a < N → ρ' a = ρ a) : gL g ρ' cls nL ls := by
  refine ⟨h.1, h.2.1, fun q hq => ?_⟩
  obtain ⟨t, v, h1, h2, rfl⟩ := gpl_mem.mp hq
  have e : gv g ρ' v = gv g ρ v := by
    cases v with
    | ref r => rw [gv_rf, gv_rf, gOpt_ext hr (hok r (List.mem_of_getElem? h1))]
    | _ => rfl
  show cls[0 + t]? = some (.val (gv g ρ' v))
  rw [e, Nat.zero_add]
  exact h.at h1 h2
theorem gv_ext {g : gG} {ρ ρ' : Nat → Nat} {N : Nat} (hr : ∀ a, a < N → ρ' a = ρ a) : ∀ {st : List Value}, gok N st → st.map (gv g ρ') = st.map (gv g ρ)
  | [], _ => rfl
  | v :: vs, hok => by
    rw [List.map_cons, List.map_cons, gv_ext hr (gok_cons hok)]
    congr 1
    cases v with
    | ref r => rw [gv_rf, gv_rf, gOpt_ext hr (hok r List.mem_cons_self)]
    | _ => rfl
def gT (μ : gMu) (c : Code) : Prop := match ghh μ with
  | [] => ∀ x ∈ c.exceptionTable.toList, False
  | hh => c.exceptionTable.toList = tableOf hh
def gQc (g : gG) (ρ0 : Nat → Nat) (N0 : Nat) (Q : Option Value ⊕ String → gM → Prop) : Array Value → State → Outcome → State → Prop := fun _ st o t =>
  ∃ (v : Option Value) (M' : gM) (ρ' : Nat → Nat), o = .returned (v.map (gv g ρ')) ∧ Q (.inl v) M' ∧ gMod g ρ' M' t t.heap ∧ gok (mN M') v.toList ∧ N0 ≤ mN M' ∧ (∀ a, a < N0 → ρ' a = ρ0 a) ∧ va_F (gA g) st t
def gXC (g : gG) (ρ0 : Nat → Nat) (N0 : Nat) (Q : Option Value ⊕ String → gM → Prop) : String → State → State → Prop := fun E st t =>
  ∃ (M' : gM) (ρ' : Nat → Nat), Q (.inr E) M' ∧ gMod g ρ' M' t t.heap ∧ N0 ≤ mN M' ∧ (∀ a, a < N0 → ρ' a = ρ0 a) ∧ va_F (gA g) st t
/-- what holds in the middle of a method -/
def gC (g : gG) (fr k n : Nat) (μ : gMu) (p : Program) (R : Room) (s : State) (m : MethodId) (args : Array Value) (meth : Method) (c : Code) (H : Heap) (locs : List Loc) (cells slots : Nat) (ρ0 ρ : Nat → Nat) (N0 : Nat) (M : gM) : Prop :=
  CallFix p m c (gcc μ) (gnL μ) s args gW (gy μ).cls ∧ meth.sig.returnType = gret μ ∧ meth.locks = false ∧ meth.name = (gy μ).name ∧ gT μ c ∧ gMod g ρ M s H ∧ va_S (gA g) s.heap H locs ∧
  gbs g ≤ s.heap.size ∧ gFx g s s.heap ∧ fr ≤ R.frames ∧ 55 * fr ≤ R.locals ∧ cells + k ≤ R.cells ∧ slots + n ≤ R.slots ∧ N0 ≤ mN M ∧ ∀ a, a < N0 → ρ a = ρ0 a
def E (g : gG) (fr k n : Nat) (μ : gMu) (pc : Nat) (ls st : List Value) (M : gM) (Q : Option Value ⊕ String → gM → Prop) : Prop :=
  ∀ (p : Program) (e : Env) (R : Room) (s : State) (m : MethodId) (args : Array Value) (below : List Frame) (meth : Method) (c : Code) (H : Heap) (locs : List Loc) (cells slots : Nat) (ρ0 ρ : Nat → Nat) (N0 : Nat) (cls : Array Slot),
    gC g fr k n μ p R s m args meth c H locs cells slots ρ0 ρ N0 M → gok (mN M) ls → gok (mN M) st → gL g ρ cls (gnL μ) ls →
    W p (gl1 g) e R s m args below meth c H locs cells slots (vx_MQ below (gQc g ρ0 N0 Q) (gXC g ρ0 N0 Q) args s (cells + k) (slots + n) (gA g)) (F0 m pc cls (st.map (gv g ρ)))
