/-! the law: what it holds -/
def mEn (c : Cf) (l : Nat) : Nat := cN c 130 l + 16 * cN c 131 l + 128 * cN c 132 l + 256 * cN c 133 l + 1024 * cN c 134 l + 8192 * cN c 135 l
def tEn (c : Cf) (k : Nat) : Nat := cN c 141 k + 64 * cN c 142 k
def pEf (c : Cf) (f v : Nat) : Nat := cN c 137 (256 * f + v) + 8 * cN c 138 (256 * f + v) + 64 * cN c 139 (256 * f + v)
def pEn (c : Cf) (v : Nat) : Nat := pEf c 0 v + 8192 * pEf c 1 v
def ofN (v : Nat) : Nat := if v < 45 then v else v - 19
def rEm (c : Cf) (l k w : Nat) : Nat := gN (rul c l k w + nI 100)
def rEn (c : Cf) (l k : Nat) : Nat := rEm c l k 0 + 1024 * rEm c l k 1 + 1048576 * rEm c l k 2 + 1073741824 * rEm c l k 3 + 1099511627776 * rEm c l k 4 + 1125899906842624 * rEm c l k 5
def sgZ (s : Nat) : Prop := s < 24 ∨ (30 ≤ s ∧ s < 45)
def gZ (v : Int32) : Prop := ∃ j, glZ j ∧ v = nI j
def rgZ (kd : Nat) (b c d : Int32) : Prop := (kd = 0 → gZ b) ∧ (kd = 1 → gZ b ∧ gZ c ∧ (d = -100 ∨ gZ d)) ∧ (kd = 2 → gZ b ∧ gZ c ∧ gZ d) ∧ (kd = 3 ∨ kd = 5 → gZ d)
def wfZ (c : Cf) : Prop := (∀ f, f < 2 → cN c 129 f ≤ 8) ∧ (∀ l, cN c 135 l ≤ 4) ∧ tl c ≤ 10 ∧ (∀ k, k < tl c → sgZ (cN c 141 k)) ∧
  (∀ l k, k < cN c 135 l → (∀ w, w < 6 → ∃ j, j < 1024 ∧ rul c l k w + nI 100 = nI j) ∧ rgZ (cN c 130 l) (rul c l k 1) (rul c l k 2) (rul c l k 3)) ∧ ∀ f v, f < 2 → v < 256 → ¬ glZ v → cN c 138 (256 * f + v) = 0
def zS (c : Cf) (M : gM) : Prop := gLay M ∧ WFc c ∧ wfZ c ∧ (∀ k, k < tl c → mI M 128 k = nI (tEn c k)) ∧ (∀ f l, f < 2 → l < cN c 129 f → mI M 129 (8 * f + l) = nI (mEn c (12 * f + l))) ∧
  (∀ f l k, f < 2 → l < cN c 129 f → k < cN c 135 (12 * f + l) → mL M 130 (4 * (8 * f + l) + k) = lN (rEn c (12 * f + l) k)) ∧ (∀ v, glZ v → mI M 131 (ofN v) = nI (pEn c v)) ∧
  mI M 132 0 = nI (fc0 c) ∧ mI M 132 1 = nI (tl c) ∧ mI M 132 2 = nI (cN c 128 17) ∧ ∀ f, f < 2 → mI M 132 (3 + f) = nI (cN c 129 f)
section ZS
variable {c : Cf} {M : gM}
theorem zS.lay (h : zS c M) : gLay M := h.1
theorem zS.wf (h : zS c M) : WFc c := h.2.1
theorem zS.wz (h : zS c M) : wfZ c := h.2.2.1
theorem zS.tx (h : zS c M) {k : Nat} (hk : k < tl c) : mI M 128 k = nI (tEn c k) := h.2.2.2.1 k hk
theorem zS.me (h : zS c M) {f l : Nat} (hf : f < 2) (hl : l < cN c 129 f) : mI M 129 (8 * f + l) = nI (mEn c (12 * f + l)) := h.2.2.2.2.1 f l hf hl
theorem zS.re (h : zS c M) {f l k : Nat} (hf : f < 2) (hl : l < cN c 129 f) (hk : k < cN c 135 (12 * f + l)) : mL M 130 (4 * (8 * f + l) + k) = lN (rEn c (12 * f + l) k) := h.2.2.2.2.2.1 f l k hf hl hk
theorem zS.pe (h : zS c M) {v : Nat} (hv : glZ v) : mI M 131 (ofN v) = nI (pEn c v) := h.2.2.2.2.2.2.1 v hv
theorem zS.b0 (h : zS c M) : mI M 132 0 = nI (fc0 c) := h.2.2.2.2.2.2.2.1
theorem zS.b1 (h : zS c M) : mI M 132 1 = nI (tl c) := h.2.2.2.2.2.2.2.2.1
theorem zS.b2 (h : zS c M) : mI M 132 2 = nI (cN c 128 17) := h.2.2.2.2.2.2.2.2.2.1
theorem zS.b3 (h : zS c M) {f : Nat} (hf : f < 2) : mI M 132 (3 + f) = nI (cN c 129 f) := h.2.2.2.2.2.2.2.2.2.2 f hf
theorem zS.ct (h : zS c M) {f : Nat} (hf : f < 2) : cN c 129 f ≤ 8 := h.wz.1 f hf
theorem zS.r4 (h : zS c M) (l : Nat) : cN c 135 l ≤ 4 := h.wz.2.1 l
theorem zS.t10 (h : zS c M) : tl c ≤ 10 := h.wz.2.2.1
theorem zS.sg (h : zS c M) {k : Nat} (hk : k < tl c) : sgZ (cN c 141 k) := h.wz.2.2.2.1 k hk
end ZS
theorem ofN_lt {v : Nat} (h : glZ v) : ofN v < 64 := by unfold ofN glZ at *; split <;> omega
theorem glZ_256 {v : Nat} (h : glZ v) : v < 256 := by unfold glZ at h; omega
theorem sgZ_gl {s : Nat} (h : sgZ s) : glZ s := by unfold sgZ glZ at *; omega
/-! fields of what it holds -/
theorem mEn_b {c : Cf} (h : WFc c) (l : Nat) : cN c 130 l < 10 ∧ cN c 131 l ≤ 6 ∧ cN c 132 l ≤ 1 ∧ cN c 133 l ≤ 2 ∧ cN c 134 l ≤ 5 ∧ cN c 135 l ≤ 8 := h.2.2.1 l
theorem mE_0_15 {c : Cf} (h : WFc c) {l : Nat} : nI (mEn c l) &&& nI 15 = nI (cN c 130 l) := by
  have := mEn_b h l
  exact zf0 (k := 4) (by decide) (by unfold mEn; omega)
theorem mE_13 {c : Cf} (h : WFc c) {l : Nat} : nI (mEn c l) >>> (nI 13 &&& 31) = nI (cN c 135 l) := by
  have := mEn_b h l
  exact zfs (by unfold mEn; omega) (by decide) (by unfold mEn; omega)
theorem mE_4_7 {c : Cf} (h : WFc c) {l : Nat} : (nI (mEn c l) >>> (nI 4 &&& 31)) &&& nI 7 = nI (cN c 131 l) := by
  have := mEn_b h l
  exact zf (k := 3) (by unfold mEn; omega) (by decide) (by decide) (by unfold mEn; omega)
theorem mE_7_1 {c : Cf} (h : WFc c) {l : Nat} : (nI (mEn c l) >>> (nI 7 &&& 31)) &&& nI 1 = nI (cN c 132 l) := by
  have := mEn_b h l
  exact zf (k := 1) (by unfold mEn; omega) (by decide) (by decide) (by unfold mEn; omega)
theorem mE_8_3 {c : Cf} (h : WFc c) {l : Nat} : (nI (mEn c l) >>> (nI 8 &&& 31)) &&& nI 3 = nI (cN c 133 l) := by
  have := mEn_b h l
  exact zf (k := 2) (by unfold mEn; omega) (by decide) (by decide) (by unfold mEn; omega)
theorem mE_10_7 {c : Cf} (h : WFc c) {l : Nat} : (nI (mEn c l) >>> (nI 10 &&& 31)) &&& nI 7 = nI (cN c 134 l) := by
  have := mEn_b h l
  exact zf (k := 3) (by unfold mEn; omega) (by decide) (by decide) (by unfold mEn; omega)
theorem tEn_b {c : Cf} (h : WFc c) (k : Nat) : cN c 141 k < 45 ∧ cN c 142 k ≤ 3 := h.2.2.2.2.1 k
theorem tE_63 {c : Cf} (h : WFc c) {k : Nat} : nI (tEn c k) &&& nI 63 = nI (cN c 141 k) := by
  have := tEn_b h k
  exact zf0 (k := 6) (by decide) (by unfold tEn; omega)
theorem tE_6 {c : Cf} (h : WFc c) {k : Nat} : nI (tEn c k) >>> (nI 6 &&& 31) = nI (cN c 142 k) := by
  have := tEn_b h k
  exact zfs (by unfold tEn; omega) (by decide) (by unfold tEn; omega)
theorem pEf_b {c : Cf} (h : WFc c) (f v : Nat) : cN c 137 (256 * f + v) ≤ 4 ∧ cN c 138 (256 * f + v) ≤ 5 ∧ cN c 139 (256 * f + v) ≤ 100 := by
  have := h.2.2.2.1 (256 * f + v)
  omega
theorem pE_0 {c : Cf} (h : WFc c) {f v : Nat} (hf : f < 2) : (nI (pEn c v) >>> (nI (13 * f) &&& 31)) &&& nI 7 = nI (cN c 137 (256 * f + v)) := by
  have h0 := pEf_b h 0 v
  have h1 := pEf_b h 1 v
  rcases (show f = 0 ∨ f = 1 by omega) with rfl | rfl
  · exact zf (k := 3) (by unfold pEn pEf; omega) (by decide) (by decide) (by unfold pEn pEf; omega)
  · exact zf (k := 3) (by unfold pEn pEf; omega) (by decide) (by decide) (by unfold pEn pEf; omega)
theorem pE_3 {c : Cf} (h : WFc c) {f v : Nat} (hf : f < 2) : (nI (pEn c v) >>> (nI (13 * f + 3) &&& 31)) &&& nI 7 = nI (cN c 138 (256 * f + v)) := by
  have h0 := pEf_b h 0 v
  have h1 := pEf_b h 1 v
  rcases (show f = 0 ∨ f = 1 by omega) with rfl | rfl
  · exact zf (k := 3) (by unfold pEn pEf; omega) (by decide) (by decide) (by unfold pEn pEf; omega)
  · exact zf (k := 3) (by unfold pEn pEf; omega) (by decide) (by decide) (by unfold pEn pEf; omega)
theorem pE_6 {c : Cf} (h : WFc c) {f v : Nat} (hf : f < 2) : (nI (pEn c v) >>> (nI (13 * f + 6) &&& 31)) &&& nI 127 = nI (cN c 139 (256 * f + v)) := by
  have h0 := pEf_b h 0 v
  have h1 := pEf_b h 1 v
  rcases (show f = 0 ∨ f = 1 by omega) with rfl | rfl
  · exact zf (k := 7) (by unfold pEn pEf; omega) (by decide) (by decide) (by unfold pEn pEf; omega)
  · exact zf (k := 7) (by unfold pEn pEf; omega) (by decide) (by decide) (by unfold pEn pEf; omega)
theorem rEm_ok {c : Cf} (h : wfZ c) {l k w : Nat} (hk : k < cN c 135 l) (hw : w < 6) : rul c l k w + nI 100 = nI (rEm c l k w) ∧ rEm c l k w < 1024 := by
  obtain ⟨j, h1, h2⟩ := (h.2.2.2.2.1 l k hk).1 w hw
  have e : rEm c l k w = j := by unfold rEm; rw [h2, gN_nI (by omega)]
  rw [e]
  exact ⟨h2, h1⟩
theorem rE_w {c : Cf} (h : wfZ c) {l k w : Nat} (hk : k < cN c 135 l) (hw : w < 6) : (lN (rEn c l k) >>> ((nI (10 * w)).toInt64 &&& 63) &&& lN 1023).toInt32 - nI 100 = rul c l k w := by
  have a0 := (rEm_ok h hk (w := 0) (by decide)).2
  have a1 := (rEm_ok h hk (w := 1) (by decide)).2
  have a2 := (rEm_ok h hk (w := 2) (by decide)).2
  have a3 := (rEm_ok h hk (w := 3) (by decide)).2
  have a4 := (rEm_ok h hk (w := 4) (by decide)).2
  have a5 := (rEm_ok h hk (w := 5) (by decide)).2
  have hb : rEn c l k < 2 ^ 62 := by unfold rEn; omega
  have key : rEn c l k / 2 ^ (10 * w) % 2 ^ 10 = rEm c l k w := by
    unfold rEn
    rcases (show w = 0 ∨ w = 1 ∨ w = 2 ∨ w = 3 ∨ w = 4 ∨ w = 5 by omega) with rfl | rfl | rfl | rfl | rfl | rfl
    all_goals omega
  rw [zl_shr hb (by omega), zl_low (k := 10) (by decide) key, ← (rEm_ok h hk hw).1, Int32.add_sub_cancel]
/-! the law's row in a memory -/
def zR (a j : Nat) : Prop := a = 132 ∧ (j = 5 ∨ j = 6 ∨ j = 7 ∨ j = 10)
def zf_ (pw : Nat) (M M' : gM) : Prop := M'.1 = M.1 ∧ mR M' = mR M ∧ (∀ a j, ¬ zR a j → mI M' a j = mI M a j) ∧ ∀ a j, ¬ a = pw → mL M' a j = mL M a j
def lP (M : gM) (pw : Nat) : Prop := 139 ≤ pw ∧ pw < mN M ∧ mK M pw = (15, 64)
def lY (c : Cf) (f : Nat) (M0 : gM) (pw n : Nat) (r : Nat → Option Gl) (w z : Int32) (M : gM) : Prop :=
  (zS c M0 ∧ f < 2 ∧ lP M0 pw) ∧ zf_ pw M0 M ∧ mI M 132 5 = nI n ∧ mI M 132 6 = nI f ∧ mI M 132 7 = w ∧ mI M 132 10 = z ∧ ∀ i x, r i = some x → mL M pw i = pk x
def okZL (L : List Gl) : Prop := L.length ≤ 64 ∧ ∀ x ∈ L, okZ x
def lX (c : Cf) (f : Nat) (M0 : gM) (pw : Nat) (L : List Gl) (w z : Int32) (M : gM) : Prop := lY c f M0 pw L.length (fun i => L[i]?) w z M ∧ okZL L
theorem zf_.refl {pw : Nat} {M : gM} : zf_ pw M M := ⟨rfl, rfl, fun _ _ _ => rfl, fun _ _ _ => rfl⟩
theorem zf_.wr {pw : Nat} {M M' : gM} (h : zf_ pw M M') {a k : Nat} {v : Int32} (hs : zR a k) : zf_ pw M (sI M' a k v) :=
  ⟨h.1, h.2.1, fun b j q => by rw [mI_sI, if_neg (fun z => q (by rw [z.1, z.2]; exact hs))]; exact h.2.2.1 b j q, h.2.2.2⟩
theorem zf_.wrL {pw : Nat} {M M' : gM} (h : zf_ pw M M') {k : Nat} {v : Int64} : zf_ pw M (sL M' pw k v) :=
  ⟨h.1, h.2.1, h.2.2.1, fun b j q => by rw [mL_sL, if_neg (fun z => q z.1)]; exact h.2.2.2 b j q⟩
theorem zf_.lay {pw : Nat} {M M' : gM} (h : zf_ pw M M') (hL : gLay M) : gLay M' :=
  hL.of (Nat.le_of_eq (by unfold mN; rw [h.1])) (fun a _ => by unfold mK; rw [h.1]) (fun t _ => by rw [h.2.1])
theorem zS.mvZ {c : Cf} {pw : Nat} {M M' : gM} (h : zS c M) (hp : 139 ≤ pw) (hf : zf_ pw M M') : zS c M' := by
  have e : ∀ a j, ¬ zR a j → mI M' a j = mI M a j := hf.2.2.1
  have el : ∀ j, mL M' 130 j = mL M 130 j := fun j => hf.2.2.2 130 j (by omega)
  refine ⟨hf.lay h.lay, h.wf, h.wz, fun k hk => ?_, fun f l hf2 hl => ?_, fun f l k hf2 hl hk => ?_, fun v hv => ?_, ?_, ?_, ?_, fun f hf2 => ?_⟩
  · rw [e _ _ (by unfold zR; omega)]; exact h.tx hk
  · rw [e _ _ (by unfold zR; omega)]; exact h.me hf2 hl
  · rw [el]; exact h.re hf2 hl hk
  · rw [e _ _ (by unfold zR; omega)]; exact h.pe hv
  · rw [e _ _ (by unfold zR; omega)]; exact h.b0
  · rw [e _ _ (by unfold zR; omega)]; exact h.b1
  · rw [e _ _ (by unfold zR; omega)]; exact h.b2
  · rw [e _ _ (by unfold zR; omega)]; exact h.b3 hf2
section LY
variable {c : Cf} {f : Nat} {M0 M : gM} {pw n : Nat} {r : Nat → Option Gl} {L : List Gl} {w z : Int32}
theorem lY.S (h : lY c f M0 pw n r w z M) : zS c M := h.1.1.mvZ h.1.2.2.1 h.2.1
theorem lY.f2 (h : lY c f M0 pw n r w z M) : f < 2 := h.1.2.1
theorem lY.p9 (h : lY c f M0 pw n r w z M) : 139 ≤ pw := h.1.2.2.1
theorem lY.plt (h : lY c f M0 pw n r w z M) : pw < mN M := by
  have e : mN M = mN M0 := by unfold mN; rw [h.2.1.1]
  rw [e]; exact h.1.2.2.2.1
theorem lY.pkd (h : lY c f M0 pw n r w z M) : mK M pw = (15, 64) := by
  have e : mK M = mK M0 := by unfold mK; rw [h.2.1.1]
  rw [e]; exact h.1.2.2.2.2
theorem lY.a5 (h : lY c f M0 pw n r w z M) : mI M 132 5 = nI n := h.2.2.1
theorem lY.a6 (h : lY c f M0 pw n r w z M) : mI M 132 6 = nI f := h.2.2.2.1
theorem lY.a7 (h : lY c f M0 pw n r w z M) : mI M 132 7 = w := h.2.2.2.2.1
theorem lY.a10 (h : lY c f M0 pw n r w z M) : mI M 132 10 = z := h.2.2.2.2.2.1
theorem lY.at (h : lY c f M0 pw n r w z M) {i : Nat} {x : Gl} (hi : r i = some x) : mL M pw i = pk x := h.2.2.2.2.2.2 i x hi
theorem lY.lay (h : lY c f M0 pw n r w z M) : gLay M := h.S.lay
theorem lX.Y (h : lX c f M0 pw L w z M) : lY c f M0 pw L.length (fun i => L[i]?) w z M := h.1
theorem lX.S (h : lX c f M0 pw L w z M) : zS c M := h.1.S
theorem lX.lay (h : lX c f M0 pw L w z M) : gLay M := h.S.lay
theorem lX.wf (h : lX c f M0 pw L w z M) : WFc c := h.S.wf
theorem lX.f2 (h : lX c f M0 pw L w z M) : f < 2 := h.1.f2
theorem lX.plt (h : lX c f M0 pw L w z M) : pw < mN M := h.1.plt
theorem lX.pkd (h : lX c f M0 pw L w z M) : mK M pw = (15, 64) := h.1.pkd
theorem lX.a5 (h : lX c f M0 pw L w z M) : mI M 132 5 = nI L.length := h.1.a5
theorem lX.a6 (h : lX c f M0 pw L w z M) : mI M 132 6 = nI f := h.1.a6
theorem lX.a7 (h : lX c f M0 pw L w z M) : mI M 132 7 = w := h.1.a7
theorem lX.a10 (h : lX c f M0 pw L w z M) : mI M 132 10 = z := h.1.a10
theorem lX.len (h : lX c f M0 pw L w z M) : L.length ≤ 64 := h.2.1
theorem okZL.at (h : okZL L) {i : Nat} (hi : i < L.length) : okZ (gat L i) := h.2 _ (List.mem_of_getElem? (gat_some hi))
theorem lX.ok (h : lX c f M0 pw L w z M) {i : Nat} (hi : i < L.length) : okZ (gat L i) := h.2.at hi
theorem lX.gl (h : lX c f M0 pw L w z M) {i : Nat} (hi : i < L.length) : glZ (yN (gat L i)) := (h.ok hi).1
theorem lX.wk (h : lX c f M0 pw L w z M) {i : Nat} (hi : i < L.length) : mL M pw i = pk (gat L i) := h.1.at (gat_some hi)
theorem lX.ct (h : lX c f M0 pw L w z M) : cN c 129 f ≤ 8 := h.S.ct h.f2
theorem lX.me (h : lX c f M0 pw L w z M) {l : Nat} (hl : l < cN c 129 f) : mI M 129 (8 * f + l) = nI (mEn c (12 * f + l)) := h.S.me h.f2 hl
theorem lX.tx (h : lX c f M0 pw L w z M) {k : Nat} (hk : k < tl c) : mI M 128 k = nI (tEn c k) := h.S.tx hk
theorem lX.fr (h : lX c f M0 pw L w z M) : zf_ pw M0 M := h.1.2.1
theorem okZL_mk {n : Nat} {h : Nat → Gl} (hn : n ≤ 64) (hh : ∀ i, i < n → okZ (h i)) : okZL (mkL n h) := by
  refine ⟨by rw [mkL_len]; exact hn, fun x hx => ?_⟩
  obtain ⟨i, hi, rfl⟩ := List.mem_map.mp hx
  exact hh i (List.mem_range.mp hi)
/-- a whole row again -/
theorem lY.x (h : lY c f M0 pw n r w z M) (hn : n = L.length) (hr : ∀ i, i < L.length → r i = some (gat L i)) (ho : okZL L) : lX c f M0 pw L w z M := by
  subst hn
  refine ⟨⟨h.1, h.2.1, h.a5, h.a6, h.a7, h.a10, fun i x hx => ?_⟩, ho⟩
  have hi := (List.getElem?_eq_some_iff.mp hx).1
  have e : gat L i = x := gat_of hx
  rw [← e]; exact h.at (hr i hi)
theorem lY.mono (h : lY c f M0 pw n r w z M) {r' : Nat → Option Gl} (hr : ∀ i x, r' i = some x → r i = some x) : lY c f M0 pw n r' w z M :=
  ⟨h.1, h.2.1, h.a5, h.a6, h.a7, h.a10, fun i x hx => h.at (hr i x hx)⟩
theorem lY.cell (h : lY c f M0 pw n r w z M) {b : Nat} {x : Gl} : lY c f M0 pw n (rup r b (some x)) w z (sL M pw b (pk x)) :=
  ⟨h.1, h.2.1.wrL, h.a5, h.a6, h.a7, h.a10, fun i y hy => by
    rw [mL_sL]
    unfold rup at hy
    by_cases e : i = b
    · rw [if_pos e] at hy; cases hy; rw [if_pos ⟨rfl, e⟩]
    · rw [if_neg e] at hy; rw [if_neg (fun q => e q.2)]; exact h.at hy⟩
theorem lY.setN (h : lY c f M0 pw n r w z M) {m : Nat} : lY c f M0 pw m r w z (sI M 132 5 (nI m)) :=
  ⟨h.1, h.2.1.wr (by unfold zR; omega), mI_eq, (mI_nj (by decide)).trans h.a6, (mI_nj (by decide)).trans h.a7, (mI_nj (by decide)).trans h.a10, h.2.2.2.2.2.2⟩
theorem lY.setW (h : lY c f M0 pw n r w z M) {v : Int32} : lY c f M0 pw n r v z (sI M 132 7 v) :=
  ⟨h.1, h.2.1.wr (by unfold zR; omega), (mI_nj (by decide)).trans h.a5, (mI_nj (by decide)).trans h.a6, mI_eq, (mI_nj (by decide)).trans h.a10, h.2.2.2.2.2.2⟩
theorem lY.setZ (h : lY c f M0 pw n r w z M) {v : Int32} : lY c f M0 pw n r w v (sI M 132 10 v) :=
  ⟨h.1, h.2.1.wr (by unfold zR; omega), (mI_nj (by decide)).trans h.a5, (mI_nj (by decide)).trans h.a6, (mI_nj (by decide)).trans h.a7, mI_eq, h.2.2.2.2.2.2⟩
theorem lX.setW (h : lX c f M0 pw L w z M) {v : Int32} : lX c f M0 pw L v z (sI M 132 7 v) := ⟨h.1.setW, h.2⟩
theorem lX.setZ (h : lX c f M0 pw L w z M) {v : Int32} : lX c f M0 pw L w v (sI M 132 10 v) := ⟨h.1.setZ, h.2⟩
theorem okZL_put (h : okZL L) {x : Gl} (hx : okZ x) (i : Nat) : okZL (putL L i x) := okZL_mk h.1 (fun j hj => by
  by_cases e : j = i
  · rw [if_pos e]; exact hx
  · rw [if_neg e]; exact h.at hj)
theorem lX.put (h : lX c f M0 pw L w z M) {i : Nat} {x : Gl} (hx : okZ x) : lX c f M0 pw (putL L i x) w z (sL M pw i (pk x)) := by
  refine (h.1.cell (b := i) (x := x)).x (put_len _ _ _).symm (fun j hj => ?_) (okZL_put h.2 hx i)
  rw [put_len] at hj
  rw [gat_put hj]
  unfold rup
  by_cases e : j = i
  · rw [if_pos e, if_pos e]
  · rw [if_neg e, if_neg e]; exact gat_some hj
end LY
section ELY
variable {g : gG} {fr k n : Nat} {μ : gMu} {pc : Nat} {ls st : List Value} {M : gM} {Q : Option Value ⊕ String → gM → Prop}
theorem E_laldL {a j len : Nat} {i : Int32} {v : Int64} (hd : decode (gcc μ) pc = .ok (.laload, 1)) (ha : a < mN M) (hk : mK M a = (15, len)) (hi : i = nI j) (hj : j < len) (hl : len < 2 ^ 31) (hv : mL M a j = v)
    (k0 : E g fr k n μ (pc + 1) ls (.long v :: st) M Q) : E g fr k n μ pc ls (.int i :: .ref (a + 1) :: st) M Q := E_lald hd ha hk hi hj hl (by rw [hv]; exact k0)
/-- a glyph of the law's row written -/
theorem E_putK {c : Cf} {f : Nat} {M0 : gM} {pw i : Nat} {L : List Gl} {w z : Int32} {idx : Int32} {v : Int64} {x : Gl} (hd : decode (gcc μ) pc = .ok (.lastore, 1)) (h : lX c f M0 pw L w z M) (hi : idx = nI i) (hil : i < L.length) (hv : v = pk x) (hx : okZ x)
    (k0 : ∀ M', lX c f M0 pw (putL L i x) w z M' → E g fr k n μ (pc + 1) ls st M' Q) : E g fr k n μ pc ls (.long v :: .int idx :: .ref (pw + 1) :: st) M Q :=
  E_last hd h.plt h.pkd hi (by have := h.len; omega) (by decide) (by rw [hv]; exact k0 _ (h.put hx))
theorem E_setW {c : Cf} {f : Nat} {M0 : gM} {pw : Nat} {L : List Gl} {w z v : Int32} (hd : decode (gcc μ) pc = .ok (.iastore, 1)) (h : lX c f M0 pw L w z M)
    (k0 : ∀ M', lX c f M0 pw L v z M' → E g fr k n μ (pc + 1) ls st M' Q) : E g fr k n μ pc ls (.int v :: .int (nI 7) :: .ref 133 :: st) M Q :=
  E_iast hd (l_132 h.lay) (k_132 h.lay) rfl (by decide) (by decide) (k0 _ h.setW)
theorem E_setZ {c : Cf} {f : Nat} {M0 : gM} {pw : Nat} {L : List Gl} {w z v : Int32} (hd : decode (gcc μ) pc = .ok (.iastore, 1)) (h : lX c f M0 pw L w z M)
    (k0 : ∀ M', lX c f M0 pw L w v M' → E g fr k n μ (pc + 1) ls st M' Q) : E g fr k n μ pc ls (.int v :: .int (nI 10) :: .ref 133 :: st) M Q :=
  E_iast hd (l_132 h.lay) (k_132 h.lay) rfl (by decide) (by decide) (k0 _ h.setZ)
end ELY
