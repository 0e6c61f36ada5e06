/-! fields, arrays, new objects -/
def gcl : Nat → vw_C
  | 0 => (RX0, TX0, 9) | 1 => (RX1, TX1, 5) | 2 => (RX2, TX2, 13) | 3 => (RX3, TX3, 3) | 4 => (RX4, TX4, 9) | 5 => (RX5, TX5, 1) | 6 => (RX6, TX6, 11) | 7 => (RX7, TX7, 3) | 8 => (RX8, TX8, 2) | 9 => (RX9, TX9, 11) | 10 => (RX10, TX10, 5) | 11 => (RX11, TX11, 11) | _ => (RX12, TX12, 0)
theorem g13 {P : Nat → Prop} (h0 : P 0) (h1 : P 1) (h2 : P 2) (h3 : P 3) (h4 : P 4) (h5 : P 5) (h6 : P 6) (h7 : P 7) (h8 : P 8) (h9 : P 9) (h10 : P 10) (h11 : P 11) : ∀ c, c < 12 → P c
  | 0, _ => h0 | 1, _ => h1 | 2, _ => h2 | 3, _ => h3 | 4, _ => h4 | 5, _ => h5 | 6, _ => h6 | 7, _ => h7 | 8, _ => h8 | 9, _ => h9 | 10, _ => h10 | 11, _ => h11
  | c + 12, h => absurd h (by omega)
theorem gcl_at : ∀ c, c < 12 → vwCl[c]? = some ((gcl c).1, (gcl c).2.1, gNf c) := g13 rfl rfl rfl rfl rfl rfl rfl rfl rfl rfl rfl rfl
theorem gcl_ty : ∀ c, c < 12 → ∀ k, k < gNf c → parseFieldDescriptor ((gcl c).2.1 k).2.2.1 = some (gTys c k) := g13 tyX0_ok tyX1_ok tyX2_ok tyX3_ok tyX4_ok tyX5_ok tyX6_ok tyX7_ok tyX8_ok tyX9_ok tyX10_ok tyX11_ok
theorem gcl_nm : ∀ c, c < 12 → ∀ a, a < gNf c → ∀ b, b < gNf c → a ≠ b → ((gcl c).2.1 a).2.1 ≠ ((gcl c).2.1 b).2.1 := g13 nmX0 nmX1 nmX2 nmX3 nmX4 nmX5 nmX6 nmX7 nmX8 nmX9 nmX10 nmX11
theorem gcl_own : ∀ c, c < 12 → ∀ a, a < gNf c → ((gcl c).2.1 a).1 = (gcl c).1 := g13 (by decide +kernel) (by decide +kernel) (by decide +kernel) (by decide +kernel) (by decide +kernel) (by decide +kernel) (by decide +kernel) (by decide +kernel) (by decide +kernel) (by decide +kernel) (by decide +kernel) (by decide +kernel)
theorem gW_at {w : Cond} (i : Nat) (h : lw_tbl[i]? = some w) (hg : goodWord w = true) : w ∈ gW := List.mem_filter.mpr ⟨List.mem_of_getElem? h, hg⟩
/-- the field f of the class c, as the entry idx of own's pool names it -/
def gLF (own : String) (idx c f : Nat) : Prop := c < 12 ∧ f < gNf c ∧ Cond.fieldLink own idx (gcl c).1 ((gcl c).2.1 f).2.1 ((gcl c).2.1 f).2.2.1 ∈ gW
/-- the words that lay out a class's fields -/
def gLy (c : Nat) : Prop := ∀ w ∈ u_ws (gcl c).1 (gcl c).2.1 (gNf c), w ∈ gW
section GH
variable {g : gG} {fr k n : Nat} {μ : gMu} {pc : Nat} {ls st : List Value} {M : gM} {Q : Option Value ⊕ String → gM → Prop}
theorem E_get {a c f idx : Nat} {z : Nat} {v : Value} (hd : decode (gcc μ) pc = .ok (.getfield idx, 3)) (hl : gLF (gy μ).cls idx c f) (hy : gLy c) (ha : a < mN M) (hk : mK M a = (c, z)) (hv : ∀ ρ, gFv ρ M a (gTys c f) f = gv g ρ v) (hok : ∀ r, v = .ref r → r = mR M a f)
    (k0 : E g fr k n μ (pc + 3) ls (v :: st) M Q) : E g fr k n μ pc ls (.ref (a + 1) :: st) M Q := by
  intro p e R s m args below meth c0 H locs cells slots ρ0 ρ N0 cls C hls hst hlv
  obtain ⟨hx, hb, -, hown, hts⟩ := C.1
  obtain ⟨hP, hD, hK, hR⟩ := C.2.2.2.2.2.1
  obtain ⟨hc, hf, hw⟩ := hl
  refine va_get hx hb hts hy hown hK hP a ((gws_at ha).trans (by rw [gE_obj hk hc])) (gcl_at c hc) f hf (hts _ hw) (fun x h => by rw [gcl_own c hc f hf] at h; exact h) ((gFs_at hf).trans (by rw [hv ρ])) hd ?_
  refine k0 p e R s m args below meth c0 H locs cells slots ρ0 ρ N0 cls C hls (fun r hr => ?_) hlv
  rcases List.mem_cons.mp hr with q | q
  · rw [hok r q.symm]; exact hR a f
  · exact hst r (List.mem_cons_of_mem _ q)
theorem E_getI {a c f idx : Nat} {z : Nat} (hd : decode (gcc μ) pc = .ok (.getfield idx, 3)) (hl : gLF (gy μ).cls idx c f) (hy : gLy c) (ht : gTys c f = .int ∨ gTys c f = .boolean) (ha : a < mN M) (hk : mK M a = (c, z))
    (k0 : E g fr k n μ (pc + 3) ls (.int (mI M a f) :: st) M Q) : E g fr k n μ pc ls (.ref (a + 1) :: st) M Q :=
  E_get hd hl hy ha hk (fun ρ => by rcases ht with h | h <;> rw [h] <;> rfl) (fun r h => by cases h) k0
def gIsR (ty : FieldType) : Prop := (∃ C, ty = .object C) ∨ ∃ t, ty = .array t
theorem E_getR {a c f idx : Nat} {z : Nat} (hd : decode (gcc μ) pc = .ok (.getfield idx, 3)) (hl : gLF (gy μ).cls idx c f) (hy : gLy c) (ht : gIsR (gTys c f)) (ha : a < mN M) (hk : mK M a = (c, z))
    (k0 : E g fr k n μ (pc + 3) ls (.ref (mR M a f) :: st) M Q) : E g fr k n μ pc ls (.ref (a + 1) :: st) M Q :=
  E_get hd hl hy ha hk (fun ρ => by rw [gv_rf]; rcases ht with ⟨C, h⟩ | ⟨t, h⟩ <;> rw [h] <;> rfl) (fun r h => by cases h; rfl) k0
/-- after a write: the context -/
theorem gC.wr {p : Program} {R : Room} {s : State} {m : MethodId} {args : Array Value} {meth : Method} {c : Code} {H H1 : Heap} {locs locs1 : List Loc} {cells slots : Nat} {ρ0 ρ : Nat → Nat} {N0 : Nat} {M' : gM} (C : gC g fr k n μ p R s m args meth c H locs cells slots ρ0 ρ N0 M)
    (hN : mN M' = mN M) (hR : ∀ a k, mR M' a k ≤ mN M') (hP : va_P (gD g) vwCl (gws ρ (gdA g) M') H1) (hD : va_D (gA g) (gws ρ (gdA g) M')) (hS : va_S (gA g) s.heap H1 locs1) : gC g fr k n μ p R s m args meth c H1 locs1 cells slots ρ0 ρ N0 M' := by
  obtain ⟨c1, c2, c3, c4, c5, ⟨m1, m2, m3, m4⟩, c7, c8, c9, c10, c11, c12, c13, c14, c15⟩ := C
  exact ⟨c1, c2, c3, c4, c5, ⟨hP, hD, m3, hR⟩, hS, c8, c9, c10, c11, c12, c13, by rw [hN]; exact c14, c15⟩
theorem E_put {a c f idx : Nat} {z : Nat} {v : Value} {M' : gM} {ty : FieldType} (hd : decode (gcc μ) pc = .ok (.putfield idx, 3)) (hl : gLF (gy μ).cls idx c f) (hy : gLy c) (hty : gTys c f = ty) (ha : a < mN M) (hk : mK M a = (c, z))
    (hfin : ((gcl c).2.1 f).2.2.2 = false ∨ ((gcl c).2.1 f).2.2.2 = true ∧ (gy μ).name = "<init>" ∧ (gcl c).1 = (gy μ).cls)
    (hN : mN M' = mN M) (hR : v.category = 1 → (∀ a k, mR M a k ≤ mN M) → gok (mN M) [v] → ∀ a k, mR M' a k ≤ mN M') (hn : ∀ ρ, narrow ty (gv g ρ v) = gv g ρ v ∧ fits ty (gv g ρ v) = true) (hv1 : v.category = 1)
    (hE : ∀ ρ, gFv ρ M' a ty f = gv g ρ v) (hE2 : ∀ ρ j, j ≠ f → gFv ρ M' a (gTys c j) j = gFv ρ M a (gTys c j) j) (hK' : mK M' a = (c, z)) (hO : ∀ ρ b, b ≠ a → gE ρ (gdA g) M' b = gE ρ (gdA g) M b)
    (k0 : E g fr k n μ (pc + 3) ls st M' Q) : E g fr k n μ pc ls (v :: .ref (a + 1) :: st) M Q := by
  intro p e R s m args below meth c0 H locs cells slots ρ0 ρ N0 cls C hls hst hlv
  obtain ⟨hx, hb, -, hown, hts⟩ := C.1
  have hnm := C.2.2.2.1
  obtain ⟨hP, hD, hK, hR0⟩ := C.2.2.2.2.2.1
  have hS := C.2.2.2.2.2.2.1
  obtain ⟨hc, hf, hw⟩ := hl
  have hp := gcl_ty c hc f hf
  rw [hty] at hp
  have e1 : (gws ρ (gdA g) M).set a (ρ a, .inr (c, (gFs ρ M a c).set f (gv g ρ v))) = gws ρ (gdA g) M' := gws_set hN (by
    rw [gE_obj hK' hc]
    congr 1
    congr 1
    refine (gFs_set (fun _ => ?_) (fun j hj => hE2 ρ j hj)).symm
    rw [hty]; exact hE ρ) (hO ρ)
  have kk : ∀ (H1 : Heap) (locs1 : List Loc), va_P (gD g) vwCl ((gws ρ (gdA g) M).set a (ρ a, .inr (c, (gFs ρ M a c).set f (gv g ρ v)))) H1 → va_D (gA g) ((gws ρ (gdA g) M).set a (ρ a, .inr (c, (gFs ρ M a c).set f (gv g ρ v)))) → va_S (gA g) s.heap H1 locs1 →
      W p (gl1 g) e R s m args below meth c0 H1 locs1 cells slots (vx_MQ below (gQc g ρ0 N0 Q) (gXC g ρ0 N0 Q) args s (cells + k) (slots + n) (gA g)) (F0 m (pc + 3) cls (st.map (gv g ρ))) := by
    intro H1 locs1 hP1 hD1 hS1
    rw [e1] at hP1 hD1
    exact k0 p e R s m args below meth c0 H1 locs1 cells slots ρ0 ρ N0 cls (C.wr hN (hR hv1 hR0 (fun r hr => hst r (by rw [List.mem_singleton.mp hr]; exact List.mem_cons_self))) hP1 hD1 hS1) (by rw [hN]; exact hls) (by rw [hN]; exact gok_cons (gok_cons hst)) hlv
  rcases hfin with h | ⟨h, hi, ho⟩
  · exact va_put hx hb hts hy (gTys c) (gcl_ty c hc) (gcl_nm c hc) hown hK hP hD hS a ((gws_at ha).trans (by rw [gE_obj hk hc])) (gcl_at c hc) f hf (hts _ hw) (fun x h => by rw [gcl_own c hc f hf] at h; exact h) h hp (hn ρ).1 (hn ρ).2 (by rw [gFs_len]; exact hf) hd kk
  · exact va_putF hx hb hts hy (gTys c) (gcl_ty c hc) (gcl_nm c hc) hown hK hP hD hS a ((gws_at ha).trans (by rw [gE_obj hk hc])) (gcl_at c hc) f hf (hts _ hw) (fun x h => by rw [gcl_own c hc f hf] at h; exact h) h (hnm.trans hi) ((gcl_own c hc f hf).trans ho) hp (hn ρ).1 (hn ρ).2 (by rw [gFs_len]; exact hf) hd kk
theorem gFv_sI {ρ : Nat → Nat} {a f j : Nat} {x : Int32} {ty : FieldType} (h : j ≠ f) : gFv ρ (sI M a f x) a ty j = gFv ρ M a ty j := gFv_congr (by rw [mI_sI, if_neg (fun q => h q.2)]) rfl
theorem gFv_sR {ρ : Nat → Nat} {a f j : Nat} {x : Nat} {ty : FieldType} (h : j ≠ f) : gFv ρ (sR M a f x) a ty j = gFv ρ M a ty j := gFv_congr rfl (by rw [mR_sR, if_neg (fun q => h q.2)])
theorem E_putI {a c f idx : Nat} {z : Nat} {x : Int32} (hd : decode (gcc μ) pc = .ok (.putfield idx, 3)) (hl : gLF (gy μ).cls idx c f) (hy : gLy c) (hty : gTys c f = .int ∨ gTys c f = .boolean ∧ (x = 0 ∨ x = 1)) (ha : a < mN M) (hk : mK M a = (c, z))
    (hfin : ((gcl c).2.1 f).2.2.2 = false ∨ ((gcl c).2.1 f).2.2.2 = true ∧ (gy μ).name = "<init>" ∧ (gcl c).1 = (gy μ).cls)
    (k0 : E g fr k n μ (pc + 3) ls st (sI M a f x) Q) : E g fr k n μ pc ls (.int x :: .ref (a + 1) :: st) M Q := by
  refine E_put (v := .int x) (M' := sI M a f x) hd hl hy rfl ha hk hfin rfl (fun _ h _ => h) (fun ρ => ?_) rfl (fun ρ => ?_) (fun ρ j hj => gFv_sI hj) hk (fun ρ b hb => gE_sI_ne hb) k0
  · show narrow (gTys c f) (.int x) = .int x ∧ fits (gTys c f) (.int x) = true
    rcases hty with h | ⟨h, hx⟩
    · rw [h]; exact ⟨rfl, rfl⟩
    · rw [h]; rcases hx with rfl | rfl <;> decide
  · have e : mI (sI M a f x) a f = x := by rw [mI_sI, if_pos ⟨rfl, rfl⟩]
    rcases hty with h | ⟨h, hx⟩ <;> rw [h] <;> simp [gFv, gv, e]
theorem E_putR {a c f idx r : Nat} {z : Nat} (hd : decode (gcc μ) pc = .ok (.putfield idx, 3)) (hl : gLF (gy μ).cls idx c f) (hy : gLy c) (hty : gIsR (gTys c f)) (ha : a < mN M) (hk : mK M a = (c, z))
    (hfin : ((gcl c).2.1 f).2.2.2 = false ∨ ((gcl c).2.1 f).2.2.2 = true ∧ (gy μ).name = "<init>" ∧ (gcl c).1 = (gy μ).cls)
    (k0 : E g fr k n μ (pc + 3) ls st (sR M a f r) Q) : E g fr k n μ pc ls (.ref r :: .ref (a + 1) :: st) M Q := by
  refine E_put (v := .ref r) (M' := sR M a f r) hd hl hy rfl ha hk hfin rfl (fun _ h h2 b j => ?_) (fun ρ => ?_) rfl (fun ρ => ?_) (fun ρ j hj => gFv_sR hj) hk (fun ρ b hb => gE_sR_ne hb) k0
  · rw [mR_sR, mN_sR]
    by_cases q : b = a ∧ j = f
    · rw [if_pos q]; exact h2 r (List.mem_singleton.mpr rfl)
    · rw [if_neg q]; exact h b j
  · rw [gv_rf]
    rcases hty with ⟨C, h⟩ | ⟨t, h⟩ <;> rw [h] <;> cases gOpt ρ r <;> exact ⟨rfl, rfl⟩
  · have e : mR (sR M a f r) a f = r := by rw [mR_sR, if_pos ⟨rfl, rfl⟩]
    rw [gv_rf]
    rcases hty with ⟨C, h⟩ | ⟨t, h⟩ <;> rw [h] <;> simp [gFv, e]
/-! arrays -/
theorem gtys_at {dA : Nat → ClassId} : ∀ t, t < 7 → (gtys dA)[t]? = some (dA t, gAty t)
  | 0, _ => rfl | 1, _ => rfl | 2, _ => rfl | 3, _ => rfl | 4, _ => rfl | 5, _ => rfl | 6, _ => rfl
  | t + 7, h => absurd h (by omega)
theorem gIn {x : Int32} {j len : Nat} (hi : x = nI j) (hj : j < len) (hl : len < 2 ^ 31) : vp_in x len ∧ x.toNatClampNeg = j := by
  subst hi
  exact ⟨vp_in_nI hj hl, nI_clamp (by omega)⟩
theorem E_iald {a j len : Nat} {i : Int32} (hd : decode (gcc μ) pc = .ok (.iaload, 1)) (ha : a < mN M) (hk : mK M a = (13, len)) (hi : i = nI j) (hj : j < len) (hl : len < 2 ^ 31)
    (k0 : E g fr k n μ (pc + 1) ls (.int (mI M a j) :: st) M Q) : E g fr k n μ pc ls (.int i :: .ref (a + 1) :: st) M Q := by
  intro p e R s m args below meth c0 H locs cells slots ρ0 ρ N0 cls C hls hst hlv
  obtain ⟨hx, hb, -, hown, hts⟩ := C.1
  obtain ⟨hP, hD, hK, hR⟩ := C.2.2.2.2.2.1
  obtain ⟨h1, h2⟩ := gIn hi hj hl
  refine va_iald hx hb hK hP a 0 ((gws_at ha).trans (by rw [gE_int hk])) (gtys_at 0 (by decide)) h1 hd ?_
  rw [h2]
  exact k0 p e R s m args below meth c0 H locs cells slots ρ0 ρ N0 cls C hls (gok_int (gok_cons (gok_cons hst))) hlv
theorem E_zald {a j len : Nat} {i : Int32} (hd : decode (gcc μ) pc = .ok (.baload, 1)) (ha : a < mN M) (hk : mK M a = (14, len)) (hi : i = nI j) (hj : j < len) (hl : len < 2 ^ 31)
    (k0 : E g fr k n μ (pc + 1) ls (.int (mI M a j) :: st) M Q) : E g fr k n μ pc ls (.int i :: .ref (a + 1) :: st) M Q := by
  intro p e R s m args below meth c0 H locs cells slots ρ0 ρ N0 cls C hls hst hlv
  obtain ⟨hx, hb, -, hown, hts⟩ := C.1
  obtain ⟨hP, hD, hK, hR⟩ := C.2.2.2.2.2.1
  obtain ⟨h1, h2⟩ := gIn hi hj hl
  refine va_zald hx hb hK hP a 1 ((gws_at ha).trans (by rw [gE_bool hk])) (gtys_at 1 (by decide)) h1 hd ?_
  rw [h2]
  exact k0 p e R s m args below meth c0 H locs cells slots ρ0 ρ N0 cls C hls (gok_int (gok_cons (gok_cons hst))) hlv
theorem E_lald {a j len : Nat} {i : Int32} (hd : decode (gcc μ) pc = .ok (.laload, 1)) (ha : a < mN M) (hk : mK M a = (15, len)) (hi : i = nI j) (hj : j < len) (hl : len < 2 ^ 31)
    (k0 : E g fr k n μ (pc + 1) ls (.long (mL M a j) :: st) M Q) : E g fr k n μ pc ls (.int i :: .ref (a + 1) :: st) M Q := by
  intro p e R s m args below meth c0 H locs cells slots ρ0 ρ N0 cls C hls hst hlv
  obtain ⟨hx, hb, -, hown, hts⟩ := C.1
  obtain ⟨hP, hD, hK, hR⟩ := C.2.2.2.2.2.1
  obtain ⟨h1, h2⟩ := gIn hi hj hl
  refine va_lald hx hb hK hP a 2 ((gws_at ha).trans (by rw [gE_long hk])) (gtys_at 2 (by decide)) h1 hd ?_
  rw [h2]
  exact k0 p e R s m args below meth c0 H locs cells slots ρ0 ρ N0 cls C hls (gok_long (gok_cons (gok_cons hst))) hlv
theorem E_aald {a j len t : Nat} {i : Int32} (hd : decode (gcc μ) pc = .ok (.aaload, 1)) (ha : a < mN M) (hk : mK M a = (t, len)) (ht : 16 ≤ t) (ht2 : t < 20) (hi : i = nI j) (hj : j < len) (hl : len < 2 ^ 31)
    (k0 : E g fr k n μ (pc + 1) ls (.ref (mR M a j) :: st) M Q) : E g fr k n μ pc ls (.int i :: .ref (a + 1) :: st) M Q := by
  intro p e R s m args below meth c0 H locs cells slots ρ0 ρ N0 cls C hls hst hlv
  obtain ⟨hx, hb, -, hown, hts⟩ := C.1
  obtain ⟨hP, hD, hK, hR⟩ := C.2.2.2.2.2.1
  obtain ⟨h1, h2⟩ := gIn hi hj hl
  have hw := gws_at (ρ := ρ) (dA := gdA g) ha
  rw [gE_ref hk ht] at hw
  have hc : H[ρ a]? = some (vp_cell (gdA g (t - 13)) (len, .inr (.inr (.inr (.inr (fun j => gOpt ρ (mR M a j))))))) := hP a _ hw
  rw [vp_cell_q] at hc
  have hlt : i.toNatClampNeg < len := by rw [h2]; exact hj
  have hT := (hK.2 (t - 13) _ (gtys_at (t - 13) (by omega))).1 len (fun j => va_rf (gOpt ρ (mR M a j)))
  have hty : (gAty (t - 13)).isReference = true := by
    have : t = 16 ∨ t = 17 ∨ t = 18 ∨ t = 19 := by omega
    rcases this with rfl | rfl | rfl | rfl <;> rfl
  refine W.aald (v := va_rf (gOpt ρ (mR M a i.toNatClampNeg))) (ty := gAty (t - 13)) hx hb hc hT hty (fun q => by cases q) (by show ¬ (i < 0 ∨ (arrV _ _ _).slots.size ≤ _); rw [arrV_size]; exact h1) (by show (arrV _ _ _).slots[_]? = _; rw [arrV_read _ _ hlt]) rfl rfl hd ?_
  rw [h2, ← gv_rf g]
  exact k0 p e R s m args below meth c0 H locs cells slots ρ0 ρ N0 cls C hls (gok_ref (hR a j) (gok_cons (gok_cons hst))) hlv
theorem upd_sI (a j : Nat) (x : Int32) : mI (sI M a j x) a = upd (mI M a) j x := by
  funext q
  rw [mI_sI]
  unfold upd
  by_cases h : q = j <;> simp [h]
theorem E_iast {a j len : Nat} {i x : Int32} (hd : decode (gcc μ) pc = .ok (.iastore, 1)) (ha : a < mN M) (hk : mK M a = (13, len)) (hi : i = nI j) (hj : j < len) (hl : len < 2 ^ 31)
    (k0 : E g fr k n μ (pc + 1) ls st (sI M a j x) Q) : E g fr k n μ pc ls (.int x :: .int i :: .ref (a + 1) :: st) M Q := by
  intro p e R s m args below meth c0 H locs cells slots ρ0 ρ N0 cls C hls hst hlv
  obtain ⟨hx, hb, -, hown, hts⟩ := C.1
  obtain ⟨hP, hD, hK, hR⟩ := C.2.2.2.2.2.1
  obtain ⟨h1, h2⟩ := gIn hi hj hl
  refine va_iast hx hb hK hP hD C.2.2.2.2.2.2.1 a 0 ((gws_at ha).trans (by rw [gE_int hk])) (gtys_at 0 (by decide)) h1 hd (fun H1 locs1 hP1 hD1 hS1 => ?_)
  rw [h2, gws_set (M := M) (M' := sI M a j x) rfl (by rw [gE_int (show mK (sI M a j x) a = (13, len) from hk), upd_sI]) (fun b hb => gE_sI_ne hb)] at hP1 hD1
  exact k0 p e R s m args below meth c0 H1 locs1 cells slots ρ0 ρ N0 cls (C.wr rfl hR hP1 hD1 hS1) hls (gok_cons (gok_cons (gok_cons hst))) hlv
theorem E_zast {a j len : Nat} {i x : Int32} (hd : decode (gcc μ) pc = .ok (.bastore, 1)) (ha : a < mN M) (hk : mK M a = (14, len)) (hi : i = nI j) (hj : j < len) (hl : len < 2 ^ 31) (hx1 : x = 0 ∨ x = 1)
    (k0 : E g fr k n μ (pc + 1) ls st (sI M a j x) Q) : E g fr k n μ pc ls (.int x :: .int i :: .ref (a + 1) :: st) M Q := by
  intro p e R s m args below meth c0 H locs cells slots ρ0 ρ N0 cls C hls hst hlv
  obtain ⟨hx, hb, -, hown, hts⟩ := C.1
  obtain ⟨hP, hD, hK, hR⟩ := C.2.2.2.2.2.1
  obtain ⟨h1, h2⟩ := gIn hi hj hl
  have h3 : vp_nar .boolean x = x := by rcases hx1 with rfl | rfl <;> decide
  refine va_zast hx hb hK hP hD C.2.2.2.2.2.2.1 a 1 ((gws_at ha).trans (by rw [gE_bool hk])) (gtys_at 1 (by decide)) h1 hd (fun H1 locs1 hP1 hD1 hS1 => ?_)
  rw [h2, h3, gws_set (M := M) (M' := sI M a j x) rfl (by rw [gE_bool (show mK (sI M a j x) a = (14, len) from hk), upd_sI]) (fun b hb => gE_sI_ne hb)] at hP1 hD1
  exact k0 p e R s m args below meth c0 H1 locs1 cells slots ρ0 ρ N0 cls (C.wr rfl hR hP1 hD1 hS1) hls (gok_cons (gok_cons (gok_cons hst))) hlv
theorem E_last {a j len : Nat} {i : Int32} {x : Int64} (hd : decode (gcc μ) pc = .ok (.lastore, 1)) (ha : a < mN M) (hk : mK M a = (15, len)) (hi : i = nI j) (hj : j < len) (hl : len < 2 ^ 31)
    (k0 : E g fr k n μ (pc + 1) ls st (sL M a j x) Q) : E g fr k n μ pc ls (.long x :: .int i :: .ref (a + 1) :: st) M Q := by
  intro p e R s m args below meth c0 H locs cells slots ρ0 ρ N0 cls C hls hst hlv
  obtain ⟨hx, hb, -, hown, hts⟩ := C.1
  obtain ⟨hP, hD, hK, hR⟩ := C.2.2.2.2.2.1
  obtain ⟨h1, h2⟩ := gIn hi hj hl
  have h3 : mL (sL M a j x) a = vp_updL (mL M a) j x := by
    funext q
    rw [mL_sL]
    unfold vp_updL
    by_cases h : q = j <;> simp [h]
  refine va_last hx hb hK hP hD C.2.2.2.2.2.2.1 a 2 ((gws_at ha).trans (by rw [gE_long hk])) (gtys_at 2 (by decide)) h1 hd (fun H1 locs1 hP1 hD1 hS1 => ?_)
  rw [h2, gws_set (M := M) (M' := sL M a j x) rfl (by rw [gE_long (show mK (sL M a j x) a = (15, len) from hk), h3]) (fun b hb => gE_sL_ne hb)] at hP1 hD1
  exact k0 p e R s m args below meth c0 H1 locs1 cells slots ρ0 ρ N0 cls (C.wr rfl hR hP1 hD1 hS1) hls (gok_cons (gok_cons (gok_cons hst))) hlv
theorem E_aast {a b j len t cb zb : Nat} {i : Int32} (hd : decode (gcc μ) pc = .ok (.aastore, 1)) (ha : a < mN M) (hk : mK M a = (t, len)) (ht : 17 ≤ t) (ht2 : t < 20) (hb0 : b < mN M) (hkb : mK M b = (cb, zb)) (hcb : cb < 12) (hty : gAty (t - 13) = .object (gcl cb).1) (hi : i = nI j) (hj : j < len) (hl : len < 2 ^ 31)
    (k0 : E g fr k n μ (pc + 1) ls st (sR M a j (b + 1)) Q) : E g fr k n μ pc ls (.ref (b + 1) :: .int i :: .ref (a + 1) :: st) M Q := by
  intro p e R s m args below meth c0 H locs cells slots ρ0 ρ N0 cls C hls hst hlv
  obtain ⟨hx, hb, -, hown, hts⟩ := C.1
  obtain ⟨hP, hD, hK, hR⟩ := C.2.2.2.2.2.1
  obtain ⟨h1, h2⟩ := gIn hi hj hl
  have h3 : (fun q => gOpt ρ (mR (sR M a j (b + 1)) a q)) = va_up (fun q => gOpt ρ (mR M a q)) j (some (ρ b)) := by
    funext q
    rw [mR_sR]
    unfold va_up
    by_cases h : q = j <;> simp [h, gOpt]
  refine va_astq (r := ((gcl cb).1, (gcl cb).2.1, gNf cb)) hx hb hK hP hD C.2.2.2.2.2.2.1 a (t - 13) b cb ((gws_at ha).trans (by rw [gE_ref hk (by omega)])) ((gtys_at (t - 13) (by omega)).trans (by rw [hty])) ((gws_at hb0).trans (by rw [gE_obj hkb hcb])) (gcl_at cb hcb) h1 hd (fun H1 locs1 hP1 hD1 hS1 => ?_)
  rw [h2, gws_set (M := M) (M' := sR M a j (b + 1)) rfl (by rw [gE_ref (show mK (sR M a j (b + 1)) a = (t, len) from hk) (by omega), h3]) (fun b hb => gE_sR_ne hb)] at hP1 hD1
  refine k0 p e R s m args below meth c0 H1 locs1 cells slots ρ0 ρ N0 cls (C.wr rfl (fun a' j' => ?_) hP1 hD1 hS1) hls (gok_cons (gok_cons (gok_cons hst))) hlv
  rw [mR_sR, mN_sR]
  by_cases q : a' = a ∧ j' = j
  · rw [if_pos q]; exact hb0
  · rw [if_neg q]; exact hR a' j'
theorem E_alen {a len t : Nat} (hd : decode (gcc μ) pc = .ok (.arraylength, 1)) (ha : a < mN M) (hk : mK M a = (13, len))
    (k0 : E g fr k n μ (pc + 1) ls (.int (nI len) :: st) M Q) : E g fr k n μ pc ls (.ref (a + 1) :: st) M Q := by
  intro p e R s m args below meth c0 H locs cells slots ρ0 ρ N0 cls C hls hst hlv
  obtain ⟨hx, hb, -, hown, hts⟩ := C.1
  obtain ⟨hP, hD, hK, hR⟩ := C.2.2.2.2.2.1
  exact va_alen (x := (len, .inl (mI M a))) hx hb hK hP a 0 ((gws_at ha).trans (by rw [gE_int hk])) (gtys_at 0 (by decide)) rfl hd (k0 p e R s m args below meth c0 H locs cells slots ρ0 ρ N0 cls C hls (gok_int (gok_cons hst)) hlv)
/-- the script's length and ints (the law's own array) -/
theorem E_slen {z : UInt32} (hd : decode (gcc μ) pc = .ok (.arraylength, 1)) (k0 : E g fr k n μ (pc + 1) ls (.int (nI (gsL g)) :: st) M Q) : E g fr k n μ pc ls (.float z :: st) M Q := by
  intro p e R s m args below meth c0 H locs cells slots ρ0 ρ N0 cls C hls hst hlv
  obtain ⟨hx, hb, -, hown, hts⟩ := C.1
  have hF := C.2.2.2.2.2.2.2.2.1
  have hX := hF.2.2.2.2.2.2.2.1
  have hlt := hF.2.2.2.2.2.2.2.2
  have hbs := C.2.2.2.2.2.2.2.1
  exact va_slen hx hb hX (Nat.lt_of_lt_of_le hlt hbs) (Nat.not_le.mpr hlt) C.2.2.2.2.2.2.1 hd (k0 p e R s m args below meth c0 H locs cells slots ρ0 ρ N0 cls C hls (gok_int (gok_cons hst)) hlv)
theorem E_sld {z : UInt32} {i : Int32} {j : Nat} (hd : decode (gcc μ) pc = .ok (.iaload, 1)) (hi : i = nI j) (hj : j < gsL g) (hl : gsL g < 2 ^ 31) (k0 : E g fr k n μ (pc + 1) ls (.int (gsx g j) :: st) M Q) : E g fr k n μ pc ls (.int i :: .float z :: st) M Q := by
  intro p e R s m args below meth c0 H locs cells slots ρ0 ρ N0 cls C hls hst hlv
  obtain ⟨hx, hb, -, hown, hts⟩ := C.1
  have hF := C.2.2.2.2.2.2.2.2.1
  have hX := hF.2.2.2.2.2.2.2.1
  have hlt := hF.2.2.2.2.2.2.2.2
  have hbs := C.2.2.2.2.2.2.2.1
  obtain ⟨h1, h2⟩ := gIn hi hj hl
  refine va_sld hx hb hX (Nat.lt_of_lt_of_le hlt hbs) (Nat.not_le.mpr hlt) C.2.2.2.2.2.2.1 h1 hd ?_
  rw [h2]
  exact k0 p e R s m args below meth c0 H locs cells slots ρ0 ρ N0 cls C hls (gok_int (gok_cons (gok_cons hst))) hlv
/-! new objects -/
theorem E_newx {κ : Nat × Nat} {mc ms pc' : Nat} {st' : List Value} (hst' : ∀ N, gok N st → gok N st')
    (hW : ∀ (ρ : Nat → Nat) (p : Program) (e : Env) (R : Room) (s : State) (m : MethodId) (args : Array Value) (below : List Frame) (meth : Method) (c : Code) (H : Heap) (locs : List Loc) (cells slots : Nat) (Q' : State → Prop) (cls : Array Slot), CallFix p m c (gcc μ) (gnL μ) s args gW (gy μ).cls → gFx g s s.heap → gMod g ρ M s H → va_S (gA g) s.heap H locs → (∀ q, s.heap.size ≤ q → gA g q) → cells + mc ≤ R.cells → slots + ms ≤ R.slots →
      (∀ (q : Nat) (H1 : Heap), va_P (gD g) vwCl (gws ρ (gdA g) M ++ [(q, gE ρ (gdA g) (mNew M κ) (mN M))]) H1 → va_D (gA g) (gws ρ (gdA g) M ++ [(q, gE ρ (gdA g) (mNew M κ) (mN M))]) → va_S (gA g) s.heap H1 locs → W p (gl1 g) e R s m args below meth c H1 locs (cells + mc) (slots + ms) Q' (F0 m pc' cls (.ref q :: st'.map (gv g ρ)))) →
      W p (gl1 g) e R s m args below meth c H locs cells slots Q' (F0 m pc cls (st.map (gv g ρ))))
    (k0 : E g fr k n μ pc' ls (.ref (mN M + 1) :: st') (mNew M κ) Q) : E g fr (k + mc) (n + ms) μ pc ls st M Q := by
  intro p e R s m args below meth c0 H locs cells slots ρ0 ρ N0 cls C hls hst hlv
  obtain ⟨c1, c2, c3, c4, c5, ⟨hP, hD, hK, hR⟩, c7, c8, c9, c10, c11, c12, c13, c14, c15⟩ := id C
  refine hW ρ p e R s m args below meth c0 H locs cells slots _ cls c1 c9 ⟨hP, hD, hK, hR⟩ c7 (fun q hq => Nat.le_trans c8 hq) (by omega) (by omega) (fun q H1 hP1 hD1 hS1 => ?_)
  have hext : ∀ a, a < mN M → (fun a => if a = mN M then q else ρ a) a = ρ a := fun a ha => if_neg (Nat.ne_of_lt ha)
  rw [← gws_new hR] at hP1 hD1
  have hN : mN M ≤ mN (mNew M κ) := Nat.le_succ _
  have e1 : (.ref q :: st'.map (gv g ρ)) = (.ref (mN M + 1) :: st').map (gv g (fun a => if a = mN M then q else ρ a)) := by
    rw [List.map_cons, gv_ext hext (hst' _ hst)]
    show _ = Value.ref (if mN M = mN M then q else ρ (mN M)) :: _
    rw [if_pos rfl]
  rw [e1, show cells + (k + mc) = cells + mc + k by omega, show slots + (n + ms) = slots + ms + n by omega]
  refine k0 p e R s m args below meth c0 H1 locs (cells + mc) (slots + ms) ρ0 (fun a => if a = mN M then q else ρ a) N0 cls ⟨c1, c2, c3, c4, c5, ⟨hP1, hD1, hK, fun a j => ?_⟩, hS1, c8, c9, c10, c11, by omega, by omega, Nat.le_trans c14 hN, fun a ha => ?_⟩ (gok_le hN hls) (gok_ref (Nat.le_refl _) (gok_le hN (hst' _ hst))) (hlv.ext hls hext)
  · show (if a = M.1.1 then 0 else mR M a j) ≤ mN M + 1
    by_cases h : a = M.1.1
    · rw [if_pos h]; exact Nat.zero_le _
    · rw [if_neg h]; exact Nat.le_succ_of_le (hR a j)
  · rw [hext a (Nat.lt_of_lt_of_le ha c14)]; exact c15 a ha
theorem mNew_z {κ : Nat × Nat} : mK (mNew M κ) (mN M) = κ ∧ (∀ j, mI (mNew M κ) (mN M) j = 0) ∧ (∀ j, mL (mNew M κ) (mN M) j = 0) ∧ ∀ j, mR (mNew M κ) (mN M) j = 0 :=
  ⟨if_pos rfl, fun _ => if_pos rfl, fun _ => if_pos rfl, fun _ => if_pos rfl⟩
theorem E_new {c idx : Nat} (hd : decode (gcc μ) pc = .ok (.new idx, 3)) (hc : c < 12) (hy : gLy c) (h1 : Cond.classLink (gy μ).cls idx (gcl c).1 ∈ gW) (h2 : Cond.instantiable (gcl c).1 (gNf c) ∈ gW) (h3 : Cond.initialized (gcl c).1 ∈ gW)
    (k0 : E g fr k n μ (pc + 3) ls (.ref (mN M + 1) :: st) (mNew M (c, 0)) Q) : E g fr (k + 1) (n + gNf c) μ pc ls st M Q := by
  refine E_newx (κ := (c, 0)) (fun _ h => h) (fun ρ p e R s m args below meth c0 H locs cells slots Q' cls S hF hM hS hA hc1 hs1 kk => ?_) k0
  obtain ⟨hx, hb, -, hown, hts⟩ := S
  obtain ⟨hP, hD, hK, hR⟩ := hM
  obtain ⟨z1, z2, z3, z4⟩ := mNew_z (M := M) (κ := (c, 0))
  refine va_new (fs := gFs ρ (mNew M (c, 0)) (mN M) c) hx hb hts hy (gTys c) (gcl_ty c hc) hown (hts _ h1) (hts _ h2) (hts _ h3) hK hP hD hS hA (gcl_at c hc) (fun j hj => ?_) hc1 hs1 hd (fun q H1 hP1 hD1 hS1 => kk q H1 (by rw [gE_obj z1 hc]; exact hP1) (by rw [gE_obj z1 hc]; exact hD1) hS1)
  unfold vp_V
  rw [List.getD_eq_getElem?_getD, gFs_at hj, Option.getD_some]
  have : gTys c j = .int ∨ gTys c j = .boolean ∨ gIsR (gTys c j) := by
    have := (show ∀ c, c < 12 → ∀ j, j < gNf c → gTys c j = .int ∨ gTys c j = .boolean ∨ (match gTys c j with | .object _ => true | .array _ => true | _ => false) = true from g13 (by decide +kernel) (by decide +kernel) (by decide +kernel) (by decide +kernel) (by decide +kernel) (by decide +kernel) (by decide +kernel) (by decide +kernel) (by decide +kernel) (by decide +kernel) (by decide +kernel) (by decide +kernel)) c hc j hj
    rcases this with h | h | h
    · exact Or.inl h
    · exact Or.inr (Or.inl h)
    · refine Or.inr (Or.inr ?_)
      generalize gTys c j = ty at h ⊢
      cases ty <;> first | exact Or.inl ⟨_, rfl⟩ | exact Or.inr ⟨_, rfl⟩ | cases h
  rcases this with h | h | ⟨C, h⟩ | ⟨t, h⟩ <;> rw [h] <;> simp [gFv, z2, z4, gOpt, va_rf] <;> rfl
theorem gK_new {D : va_G} {tys : List (ClassId × FieldType)} {s : State} {cA cB : ClassId} {ty : FieldType} {t : Nat} (h : va_K D vwCl (tys ++ [(cA, ty)]) s) (h2 : va_K D vwCl tys s) (ht : tys[t]? = some (cB, ty)) : cA = cB := by
  have a1 := (h.2 tys.length (cA, ty) (by rw [List.getElem?_append_right (Nat.le_refl _), Nat.sub_self]; rfl)).2
  have a2 := (h2.2 t (cB, ty) ht).2
  cases ty with
  | object C =>
    obtain ⟨_, _, _, _, _, b1⟩ := a1
    obtain ⟨_, _, _, _, _, b2⟩ := a2
    exact Option.some.inj (b1.symm.trans b2)
  | _ => exact Option.some.inj (Eq.trans (Eq.symm a1) a2)
theorem E_newI {len : Nat} {i : Int32} (hd : decode (gcc μ) pc = .ok (.newarray .int, 2)) (h1 : Cond.arrayClass .int ∈ gW) (hi : i = nI len) (hl : len ≤ 100000)
    (k0 : E g fr k n μ (pc + 2) ls (.ref (mN M + 1) :: st) (mNew M (13, len)) Q) : E g fr (k + 1) (n + len) μ pc ls (.int i :: st) M Q := by
  refine E_newx (κ := (13, len)) (fun _ h => gok_cons h) (fun ρ p e R s m args below meth c0 H locs cells slots Q' cls S hF hM hS hA hc1 hs1 kk => ?_) k0
  obtain ⟨hx, hb, -, hown, hts⟩ := S
  obtain ⟨hP, hD, hK, hR⟩ := hM
  obtain ⟨z1, z2, z3, z4⟩ := mNew_z (M := M) (κ := (13, len))
  have z : mI (mNew M (13, len)) (mN M) = fun _ => 0 := funext z2
  subst hi
  refine va_newa (atype := .int) (ty := .int) (N' := len) (a0 := (len, .inl fun _ => 0)) hx hb (hts _ h1) rfl hK hP hD hS hA (fun cA => rfl) (nI_pos (by omega)) (nI_clamp (by omega)) (by show len * 4 ≤ _; omega) hc1 hs1 hd (fun q cA H1 hK1 hP1 hD1 hS1 => ?_)
  have e : cA = gdA g 0 := gK_new hK1 hK (gtys_at 0 (by decide))
  subst e
  exact kk q H1 (by rw [gE_int z1, z]; exact hP1) (by rw [gE_int z1, z]; exact hD1) hS1
theorem E_newZ {len : Nat} {i : Int32} (hd : decode (gcc μ) pc = .ok (.newarray .boolean, 2)) (h1 : Cond.arrayClass .boolean ∈ gW) (hi : i = nI len) (hl : len ≤ 100000)
    (k0 : E g fr k n μ (pc + 2) ls (.ref (mN M + 1) :: st) (mNew M (14, len)) Q) : E g fr (k + 1) (n + len) μ pc ls (.int i :: st) M Q := by
  refine E_newx (κ := (14, len)) (fun _ h => gok_cons h) (fun ρ p e R s m args below meth c0 H locs cells slots Q' cls S hF hM hS hA hc1 hs1 kk => ?_) k0
  obtain ⟨hx, hb, -, hown, hts⟩ := S
  obtain ⟨hP, hD, hK, hR⟩ := hM
  obtain ⟨z1, z2, z3, z4⟩ := mNew_z (M := M) (κ := (14, len))
  have z : mI (mNew M (14, len)) (mN M) = fun _ => 0 := funext z2
  subst hi
  refine va_newa (atype := .boolean) (ty := .boolean) (N' := len) (a0 := (len, .inl fun _ => 0)) hx hb (hts _ h1) rfl hK hP hD hS hA (fun cA => rfl) (nI_pos (by omega)) (nI_clamp (by omega)) (by show len * 1 ≤ _; omega) hc1 hs1 hd (fun q cA H1 hK1 hP1 hD1 hS1 => ?_)
  have e : cA = gdA g 1 := gK_new hK1 hK (gtys_at 1 (by decide))
  subst e
  exact kk q H1 (by rw [gE_bool z1, z]; exact hP1) (by rw [gE_bool z1, z]; exact hD1) hS1
theorem E_newL {len : Nat} {i : Int32} (hd : decode (gcc μ) pc = .ok (.newarray .long, 2)) (h1 : Cond.arrayClass .long ∈ gW) (hi : i = nI len) (hl : len ≤ 100000)
    (k0 : E g fr k n μ (pc + 2) ls (.ref (mN M + 1) :: st) (mNew M (15, len)) Q) : E g fr (k + 1) (n + len) μ pc ls (.int i :: st) M Q := by
  refine E_newx (κ := (15, len)) (fun _ h => gok_cons h) (fun ρ p e R s m args below meth c0 H locs cells slots Q' cls S hF hM hS hA hc1 hs1 kk => ?_) k0
  obtain ⟨hx, hb, -, hown, hts⟩ := S
  obtain ⟨hP, hD, hK, hR⟩ := hM
  obtain ⟨z1, z2, z3, z4⟩ := mNew_z (M := M) (κ := (15, len))
  have z : mL (mNew M (15, len)) (mN M) = fun _ => 0 := funext z3
  subst hi
  refine va_newa (atype := .long) (ty := .long) (N' := len) (a0 := (len, .inr (.inl fun _ => 0))) hx hb (hts _ h1) rfl hK hP hD hS hA (fun cA => rfl) (nI_pos (by omega)) (nI_clamp (by omega)) (by show len * 8 ≤ _; omega) hc1 hs1 hd (fun q cA H1 hK1 hP1 hD1 hS1 => ?_)
  have e : cA = gdA g 2 := gK_new hK1 hK (gtys_at 2 (by decide))
  subst e
  exact kk q H1 (by rw [gE_long z1, z]; exact hP1) (by rw [gE_long z1, z]; exact hD1) hS1
theorem E_newA {len t idx : Nat} {C : String} {i : Int32} (hd : decode (gcc μ) pc = .ok (.anewarray idx, 3)) (ht : (t = 17 ∧ C = RX1) ∨ (t = 18 ∧ C = RX4) ∨ (t = 19 ∧ C = RX2)) (h1 : Cond.classLink (gy μ).cls idx C ∈ gW) (hi : i = nI len) (hl : len ≤ 100000)
    (k0 : E g fr k n μ (pc + 3) ls (.ref (mN M + 1) :: st) (mNew M (t, len)) Q) : E g fr (k + 1) (n + len) μ pc ls (.int i :: st) M Q := by
  refine E_newx (κ := (t, len)) (fun _ h => gok_cons h) (fun ρ p e R s m args below meth c0 H locs cells slots Q' cls S hF hM hS hA hc1 hs1 kk => ?_) k0
  obtain ⟨hx, hb, -, hown, hts⟩ := S
  obtain ⟨hP, hD, hK, hR⟩ := hM
  obtain ⟨z1, z2, z3, z4⟩ := mNew_z (M := M) (κ := (t, len))
  have z : (fun j => gOpt ρ (mR (mNew M (t, len)) (mN M) j)) = fun _ => none := funext fun j => by rw [z4]; rfl
  have hAO : va_AO C s := by
    obtain ⟨a1, a2, a3, -⟩ := hF.2.2.2.2.2.2.1
    rcases ht with ⟨-, rfl⟩ | ⟨-, rfl⟩ | ⟨-, rfl⟩
    · exact a1
    · exact a2
    · exact a3
  have hT : (gtys (gdA g))[t - 13]? = some (gdA g (t - 13), .object C) := by
    rcases ht with ⟨rfl, rfl⟩ | ⟨rfl, rfl⟩ | ⟨rfl, rfl⟩ <;> rfl
  subst hi
  refine va_newq (N' := len) hx hb hown (hts _ h1) hAO hK hP hD hS hA (nI_pos (by omega)) (nI_clamp (by omega)) (by omega) hc1 hs1 hd (fun q cA H1 hK1 hP1 hD1 hS1 => ?_)
  have e : cA = gdA g (t - 13) := gK_new hK1 hK hT
  subst e
  exact kk q H1 (by rw [gE_ref z1 (by omega), z]; exact hP1) (by rw [gE_ref z1 (by omega), z]; exact hD1) hS1
end GH
