/-! the reference: the rules of the kinds that change glyphs -/
theorem sI_same {M : gM} {a k : Nat} {v : Int32} (h : mI M a k = v) : sI M a k v = M := gm_ext (fun b j => by
  rw [mI_sI]; split
  · rename_i e; rw [e.1, e.2, h]
  · rfl) rfl rfl
def lgF (c : Cf) (f l : Nat) (L : List Gl) (i : Nat) (b cc : Int32) : Prop := aft c f l L i < L.length ∧ isAt c f b (yN (gat L (aft c f l L i))) ∧ (cc = -100 ∨ (aft c f l L (aft c f l L i) < L.length ∧ isAt c f cc (yN (gat L (aft c f l L (aft c f l L i))))))
noncomputable def lgL (c : Cf) (f l : Nat) (L : List Gl) (i : Nat) (cc : Int32) (d : Nat) : List Gl := cI (cc = -100) (jn2 c f L i (aft c f l L i) d) (jn3 c f L i (aft c f l L i) (aft c f l L (aft c f l L i)) d)
noncomputable def lgW (c : Cf) (f l : Nat) (L : List Gl) (w : Int32) (i : Nat) (cc : Int32) : Int32 := cI (cc = -100) (wTk w (aft c f l L i) i) (wTk (wTk w (aft c f l L (aft c f l L i)) i) (aft c f l L i) i)
noncomputable def mrN (d : Int32) : Nat := cI (d = -100) 1 2
theorem mrN_b (d : Int32) : 1 ≤ mrN d ∧ mrN d ≤ 2 := by
  unfold mrN
  by_cases h : d = -100
  · rw [cI_t h]; decide
  · rw [cI_f h]; decide
noncomputable def ptL (L : List Gl) (i : Nat) (b cc d : Int32) : List Gl := putsL L i (mrN d) (gN b) (gN cc) (gN (cI (d = -100) cc d))
def fit (c : Cf) (f : Nat) (L : List Gl) (l k i : Nat) : Prop := isAt c f (rul c l k 0) (yN (gat L i)) ∧ (cN c 130 l = 0 ∨ (cN c 130 l = 1 ∧ L.length + mrN (rul c l k 3) ≤ 64) ∨ (cN c 130 l = 2 ∧ 0 < yE (gat L i)) ∨ (cN c 130 l = 3 ∧ lgF c f l L i (rul c l k 1) (rul c l k 2)))
noncomputable def chgL (c : Cf) (f : Nat) (L : List Gl) (l k i : Nat) : List Gl := cI (cN c 130 l = 0) (numL L i (gN (rul c l k 1))) (cI (cN c 130 l = 1) (ptL L i (rul c l k 1) (rul c l k 2) (rul c l k 3)) (cI (cN c 130 l = 2) (numL L i (gN (rul c l k (yE (gat L i))))) (lgL c f l L i (rul c l k 2) (gN (rul c l k 3)))))
noncomputable def chgW (c : Cf) (f : Nat) (L : List Gl) (w : Int32) (l k i : Nat) : Int32 := cI (cN c 130 l = 0) w (cI (cN c 130 l = 1) (wPu w i (mrN (rul c l k 3))) (cI (cN c 130 l = 2) w (lgW c f l L w i (rul c l k 2))))
noncomputable def chgI (c : Cf) (l k i : Nat) : Nat := cI (cN c 130 l = 1) (i + mrN (rul c l k 3) + 1) (i + 1)
theorem chgI_b (c : Cf) (l k i : Nat) : i + 1 ≤ chgI c l k i ∧ chgI c l k i ≤ i + 3 := by
  unfold chgI
  have := mrN_b (rul c l k 3)
  by_cases h : cN c 130 l = 1
  · rw [cI_t h]; omega
  · rw [cI_f h]; omega
theorem iF0 {a b c d : Int32} (h : iFour 0 a b c d) : iItem a ∧ iGlyph b ∧ c = 0 ∧ d = 0 := h
theorem iF1 {a b c d : Int32} (h : iFour 1 a b c d) : iItem a ∧ iGlyph b ∧ iGlyph c ∧ iGlyphN d := h
theorem iF2 {a b c d : Int32} (h : iFour 2 a b c d) : iItem a ∧ iGlyph b ∧ iGlyph c ∧ iGlyph d := h
theorem iF3 {a b c d : Int32} (h : iFour 3 a b c d) : iItem a ∧ iItem b ∧ iItemN c ∧ iGlyph d := h
theorem iF4 {a b c d : Int32} (h : iFour 4 a b c d) : iItemN a ∧ iItem b ∧ iItemN c ∧ iItemN d := h
theorem iF5 {a b c d : Int32} (h : iFour 5 a b c d) : iItemN a ∧ iItem b ∧ iItemN c ∧ iGlyph d := h
theorem iF6 {a b c d : Int32} (h : iFour 6 a b c d) : iItem a ∧ iItem b ∧ iFar c ∧ d = 0 := h
theorem iF7 {a b c d : Int32} (h : iFour 7 a b c d) : iItem a ∧ iFarN b ∧ iFarN c ∧ d = 0 := h
theorem iF8 {a b c d : Int32} (h : iFour 8 a b c d) : iItem a ∧ (b = -100 ∨ iIn b (nI 0) (nI 2)) ∧ iClass c ∧ iFar d := h
theorem iF9 {a b c d : Int32} (h : iFour 9 a b c d) : iItem a ∧ iClass b ∧ iFar c ∧ iFar d := h
noncomputable def ffA (c : Cf) (f : Nat) (L : List Gl) (l i : Nat) : Nat := fnd (fun k => fit c f L l k i) (cN c 135 l) 0
