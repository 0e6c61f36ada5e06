/-! the reference: one glyph changed; parts, clusters -/
theorem ok_put {L : List Gl} (h : okL L) {x : Gl} (hx : okG x) (i : Nat) : okL (putL L i x) := okL_mk h.1 (fun j _ => by
  by_cases e : j = i
  · rw [if_pos e]; exact hx
  · rw [if_neg e]; exact h.at j)
theorem put_len (L : List Gl) (i : Nat) (x : Gl) : (putL L i x).length = L.length := mkL_len _ _
theorem gat_put {L : List Gl} {i : Nat} {x : Gl} {j : Nat} (h : j < L.length) : gat (putL L i x) j = if j = i then x else gat L j := gat_mkL h
theorem put_self (L : List Gl) (i : Nat) : putL L i (gat L i) = L := row_ext (put_len _ _ _) (fun j hj => by
  rw [put_len] at hj
  rw [gat_put hj]; split
  · rename_i e; rw [e]
  · rfl)
theorem mX.put {c : Cf} {f : Nat} {M0 M : gM} {L : List Gl} {w : Int32} (h : mX c f M0 L w M) {a i : Nat} {v : Int32} {x : Gl} (ha : 145 ≤ a ∧ a ≤ 151) (hg : gM7 (sI M a i v) i x) (hx : okG x) : mX c f M0 (putL L i x) w (sI M a i v) := by
  have h1 := h.1.cell (b := i) (v := some x) (F := mI (sI M a i v)) (fun p j q => by rw [mI_sI, if_neg (by omega)]) (fun y hy => by cases hy; exact hg)
  rw [show wF M (mI (sI M a i v)) = sI M a i v from rfl] at h1
  refine h1.x rfl (put_len _ _ _) (fun j hj => ?_) (ok_put h.2 hx i)
  rw [gat_put hj]
  unfold rup
  by_cases e : j = i
  · rw [if_pos e, if_pos e]
  · rw [if_neg e, if_neg e]; exact gat_some hj
theorem mX.putN {c : Cf} {f : Nat} {M0 M : gM} {L : List Gl} {w : Int32} (h : mX c f M0 L w M) {i v : Nat} (hi : i < L.length) (hv : v < 256) : mX c f M0 (putL L i (sN (gat L i) v)) w (sI M 145 i (nI v)) :=
  h.put (by decide) (by
    have := h.at hi
    unfold gM7 at *
    simp only [mI_sI]
    simpa [sN, yN, yC, yF, yE, yP, yT, yO] using this.2) (by have := h.ok.at i; exact ⟨hv, this.2⟩)
theorem mX.putC {c : Cf} {f : Nat} {M0 M : gM} {L : List Gl} {w : Int32} (h : mX c f M0 L w M) {i v : Nat} (hi : i < L.length) (hv : v < 16) : mX c f M0 (putL L i (sC (gat L i) v)) w (sI M 146 i (nI v)) :=
  h.put (by decide) (by
    have := h.at hi
    unfold gM7 at *
    simp only [mI_sI]
    simpa [sC, yN, yC, yF, yE, yP, yT, yO] using And.intro this.1 this.2.2) (by have := h.ok.at i; exact ⟨this.1, hv, this.2.2⟩)
theorem mX.putP {c : Cf} {f : Nat} {M0 M : gM} {L : List Gl} {w : Int32} (h : mX c f M0 L w M) {i : Nat} {v : Int32} (hi : i < L.length) : mX c f M0 (putL L i (sP (gat L i) v)) w (sI M 149 i v) :=
  h.put (by decide) (by
    have := h.at hi
    unfold gM7 at *
    simp only [mI_sI]
    obtain ⟨a1, a2, a3, a4, a5, a6, a7⟩ := this
    simpa [sP, yN, yC, yF, yE, yP, yT, yO] using And.intro a1 (And.intro a2 (And.intro a3 (And.intro a4 (And.intro a6 a7))))) (by have := h.ok.at i; exact this)
theorem mX.putT {c : Cf} {f : Nat} {M0 M : gM} {L : List Gl} {w : Int32} (h : mX c f M0 L w M) {i : Nat} {v : Int32} (hi : i < L.length) : mX c f M0 (putL L i (sT (gat L i) v)) w (sI M 150 i v) :=
  h.put (by decide) (by
    have := h.at hi
    unfold gM7 at *
    simp only [mI_sI]
    obtain ⟨a1, a2, a3, a4, a5, a6, a7⟩ := this
    simpa [sT, yN, yC, yF, yE, yP, yT, yO] using And.intro a1 (And.intro a2 (And.intro a3 (And.intro a4 (And.intro a5 a7))))) (by have := h.ok.at i; exact this)
/-- all glyphs below a place changed -/
noncomputable def upK (L : List Gl) (F : Nat → Gl → Gl) (k : Nat) : List Gl := mkL L.length (fun j => if j < k then F j (gat L j) else gat L j)
noncomputable def updL (L : List Gl) (F : Nat → Gl → Gl) : List Gl := mkL L.length (fun j => F j (gat L j))
theorem upK_len (L : List Gl) (F : Nat → Gl → Gl) (k : Nat) : (upK L F k).length = L.length := mkL_len _ _
theorem upd_len (L : List Gl) (F : Nat → Gl → Gl) : (updL L F).length = L.length := mkL_len _ _
theorem gat_upK {L : List Gl} {F : Nat → Gl → Gl} {k j : Nat} (h : j < L.length) : gat (upK L F k) j = if j < k then F j (gat L j) else gat L j := gat_mkL h
theorem gat_upd {L : List Gl} {F : Nat → Gl → Gl} {j : Nat} (h : j < L.length) : gat (updL L F) j = F j (gat L j) := gat_mkL h
theorem upK_0 {L : List Gl} {F : Nat → Gl → Gl} {a : Nat} (h : ∀ j, j < a → F j (gat L j) = gat L j) : upK L F a = L := row_ext (upK_len _ _ _) (fun j hj => by
  rw [upK_len] at hj
  rw [gat_upK hj]; split
  · exact h j (by assumption)
  · rfl)
theorem upK_s {L : List Gl} {F : Nat → Gl → Gl} {k : Nat} (hk : k < L.length) : putL (upK L F k) k (F k (gat (upK L F k) k)) = upK L F (k + 1) := row_ext (by rw [put_len, upK_len, upK_len]) (fun j hj => by
  rw [put_len, upK_len] at hj
  rw [gat_put (by rw [upK_len]; exact hj), gat_upK hj, gat_upK hj, gat_upK hk, if_neg (Nat.lt_irrefl k)]
  by_cases e : j = k
  · subst e; rw [if_pos rfl, if_pos (by omega)]
  · rw [if_neg e]; by_cases e2 : j < k
    · rw [if_pos e2, if_pos (by omega)]
    · rw [if_neg e2, if_neg (by omega)])
theorem upK_s' {L : List Gl} {F : Nat → Gl → Gl} {k : Nat} (hk : k < L.length) (h : F k (gat (upK L F k) k) = gat (upK L F k) k) : upK L F k = upK L F (k + 1) := by
  rw [← upK_s hk, h, put_self]
theorem upK_n {L : List Gl} {F : Nat → Gl → Gl} {b : Nat} (h : ∀ j, b ≤ j → F j (gat L j) = gat L j) : upK L F b = updL L F := row_ext (by rw [upK_len, upd_len]) (fun j hj => by
  rw [upK_len] at hj
  rw [gat_upK hj, gat_upd hj]; split
  · rfl
  · exact (h j (by omega)).symm)
noncomputable def prF (c : Cf) (f a b : Nat) (s p : Int32) (j : Nat) (x : Gl) : Gl := cI (a ≤ j ∧ j < b ∧ 0 < cN c 137 (256 * f + yN x)) (sP x (s + cI (yP x = -100) (p - nI 1) (yP x))) x
theorem pr_lo {c : Cf} {f a b : Nat} {s p : Int32} {j : Nat} {x : Gl} (h : j < a) : prF c f a b s p j x = x := cI_f (fun q => by omega)
theorem pr_hi {c : Cf} {f a b : Nat} {s p : Int32} {j : Nat} {x : Gl} (h : b ≤ j) : prF c f a b s p j x = x := cI_f (fun q => by omega)
noncomputable def prtL (c : Cf) (f : Nat) (L : List Gl) (a b : Nat) (s p : Int32) : List Gl := updL L (prF c f a b s p)
theorem prt_len (c : Cf) (f : Nat) (L : List Gl) (a b : Nat) (s p : Int32) : (prtL c f L a b s p).length = L.length := upd_len _ _
noncomputable def mgF (lo hi : Nat) (_ : Nat) (x : Gl) : Gl := cI (lo ≤ yC x ∧ yC x ≤ hi) (sC x lo) x
noncomputable def mrgL (L : List Gl) (lo hi : Nat) : List Gl := updL L (mgF lo hi)
theorem mrg_len (L : List Gl) (lo hi : Nat) : (mrgL L lo hi).length = L.length := upd_len _ _
theorem sC_self (x : Gl) : sC x (yC x) = x := rfl
theorem sN_self (x : Gl) : sN x (yN x) = x := rfl
theorem mkL_congr {n : Nat} {h h' : Nat → Gl} (q : ∀ j, j < n → h j = h' j) : mkL n h = mkL n h' := row_ext (by rw [mkL_len, mkL_len]) (fun i hi => by
  rw [mkL_len] at hi
  rw [gat_mkL hi, gat_mkL hi, q i hi])
noncomputable def wTk (w : Int32) (i into : Nat) : Int32 := cI (w = nI i) (nI into) (cI (w ≤ nI i) w (w - nI 1))
