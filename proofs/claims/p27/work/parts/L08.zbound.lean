/-! the law: how parts grow -/
/-- inside a lookup's way, at i; between lookups -/
def bdI (B Q i : Nat) (L : List Gl) : Prop := (∀ k, k < L.length → zT (gat L k) ≤ if k < i then 3 * B else B) ∧ ∀ k, k < L.length → zP (gat L k) + B * (L.length - i) ≤ Q
def bdE (B : Nat) (L : List Gl) : Prop := ∀ k, k < L.length → zT (gat L k) ≤ B ∧ zP (gat L k) + 32 ≤ 32 * B
theorem bdI_J {B Q i : Nat} {L : List Gl} (h : bdI B Q i L) (h3 : 3 * B < 2 ^ 18) (hQ : Q + 2 * B < 2 ^ 18) : bdJ B i L :=
  ⟨h3, fun k z1 z2 => by have := h.1 k z2; rw [if_neg (by omega)] at this; exact this, fun k z => by have := h.2 k z; omega⟩
theorem bdI_up {B Q i i' : Nat} {L : List Gl} (h : bdI B Q i L) (hi : i ≤ i') : bdI B Q i' L := by
  refine ⟨fun k hk => ?_, fun k hk => ?_⟩
  · have := h.1 k hk
    by_cases e : k < i
    · rw [if_pos e] at this; rw [if_pos (by omega)]; exact this
    · rw [if_neg e] at this; split <;> omega
  · have h2 := h.2 k hk
    have : B * (L.length - i') ≤ B * (L.length - i) := Nat.mul_le_mul_left B (by omega)
    omega
theorem bdE_I {B : Nat} {L : List Gl} (h : bdE B L) (hn : L.length ≤ 64) : bdI B (96 * B - 32) 0 L := by
  refine ⟨fun k hk => ?_, fun k hk => ?_⟩
  · rw [if_neg (by omega)]; exact (h k hk).1
  · have h2 := (h k hk).2
    have : B * (L.length - 0) ≤ B * 64 := Nat.mul_le_mul_left B (by omega)
    omega
theorem bdI_E {B i : Nat} {L : List Gl} (h : bdI B (96 * B - 32) i L) (hB : 1 ≤ B) (hi : L.length ≤ i) : bdE (3 * B) L := fun k hk => by
  have h1 := h.1 k hk
  have h2 := h.2 k hk
  rw [if_pos (by omega)] at h1
  exact ⟨h1, by omega⟩
theorem bdE_up {B B' : Nat} {L : List Gl} (h : bdE B L) (hB : B ≤ B') : bdE B' L := fun k hk => by
  have := h k hk
  omega
theorem bdI_of {B Q i i' n : Nat} {L L' : List Gl} (h : bdI B Q i L) (hl : L'.length - i' + n ≤ L.length - i) (hs : ∀ j, j < L'.length → ∃ j0, j0 < L.length ∧ (i' ≤ j → i ≤ j0) ∧ (zT (gat L' j) = zT (gat L j0) ∨ (j < i' ∧ zT (gat L' j) ≤ 3 * B)) ∧ (zP (gat L' j) ≤ zP (gat L j0) + B * n ∨ zP (gat L' j) + B * (L.length - i - n) ≤ Q)) : bdI B Q i' L' := by
  refine ⟨fun j hj => ?_, fun j hj => ?_⟩
  · obtain ⟨j0, h1, h2, h3, -⟩ := hs j hj
    have h4 := h.1 j0 h1
    rcases h3 with h3 | ⟨h3, h5⟩
    · rw [h3]
      by_cases e : j < i'
      · rw [if_pos e]; split at h4 <;> omega
      · rw [if_neg e]; rw [if_neg (by have := h2 (by omega); omega)] at h4; exact h4
    · rw [if_pos h3]; exact h5
  · obtain ⟨j0, h1, -, -, h3⟩ := hs j hj
    have h4 := h.2 j0 h1
    have h5 : B * (L'.length - i') ≤ B * (L.length - i - n) := Nat.mul_le_mul_left B (by omega)
    have h6 : B * (L.length - i) = B * (L.length - i - n) + B * n := by rw [← Nat.mul_add]; congr 1; omega
    rcases h3 with h3 | h3 <;> omega
theorem zT_s (x : Gl) (v : Nat) : zT (sN x v) = zT x ∧ zP (sN x v) = zP x ∧ zT (sC x v) = zT x ∧ zP (sC x v) = zP x := ⟨rfl, rfl, rfl, rfl⟩
theorem num_bd {B Q i v : Nat} {L : List Gl} (h : bdI B Q i L) (hi : i < L.length) : bdI B Q (i + 1) (numL L i v) := by
  refine bdI_of (n := 0) h (by rw [num_len]; omega) (fun j hj => ?_)
  rw [num_len] at hj
  refine ⟨j, hj, fun z => by omega, ?_, ?_⟩
  · left; rw [gat_numz hj]; split
    · rename_i e; rw [e]; rfl
    · rfl
  · left; rw [gat_numz hj]; split
    · rename_i e; rw [e]; exact Nat.le_add_right _ _
    · exact Nat.le_add_right _ _
theorem puts_at {L : List Gl} {i m b cc e j : Nat} (hi : i < L.length) (hm : 1 ≤ m) (hj : j < L.length + m) : ∃ j0, j0 < L.length ∧ (i + m + 1 ≤ j → j0 + m = j) ∧ zT (gat (putsL L i m b cc e) j) = zT (gat L j0) ∧ zP (gat (putsL L i m b cc e) j) = zP (gat L j0) := by
  have l0 := op_len L i m
  have l1 := num_len (openL L i m) i b
  have l2 := num_len (numL (openL L i m) i b) (i + 1) cc
  have key : ∀ (L' : List Gl) (a v j : Nat), j < L'.length → zT (gat (numL L' a v) j) = zT (gat L' j) ∧ zP (gat (numL L' a v) j) = zP (gat L' j) := fun L' a v j hj => by
    rw [gat_numz hj]; split
    · rename_i e; rw [e]; exact ⟨rfl, rfl⟩
    · exact ⟨rfl, rfl⟩
  unfold putsL
  have k1 := key (numL (numL (openL L i m) i b) (i + 1) cc) (i + m) e j (by omega)
  have k2 := key (numL (openL L i m) i b) (i + 1) cc j (by omega)
  have k3 := key (openL L i m) i b j (by omega)
  rw [k1.1, k1.2, k2.1, k2.2, k3.1, k3.2, gat_opz hj]
  by_cases e1 : j ≤ i
  · rw [if_pos e1]; exact ⟨j, by omega, fun z => by omega, rfl, rfl⟩
  · rw [if_neg e1]; by_cases e2 : j ≤ i + m
    · rw [if_pos e2]; exact ⟨i, hi, fun z => by omega, rfl, rfl⟩
    · rw [if_neg e2]; exact ⟨j - m, by omega, fun z => by omega, rfl, rfl⟩
theorem puts_bd {B Q i m b cc e : Nat} {L : List Gl} (h : bdI B Q i L) (hi : i < L.length) (hm : 1 ≤ m) : bdI B Q (i + m + 1) (putsL L i m b cc e) := by
  refine bdI_of (n := 0) h (by rw [puts_len]; omega) (fun j hj => ?_)
  rw [puts_len] at hj
  obtain ⟨j0, h1, h2, h3, h4⟩ := puts_at (b := b) (cc := cc) (e := e) hi hm hj
  exact ⟨j0, h1, fun z => by have := h2 z; omega, Or.inl h3, Or.inl (by rw [h4]; exact Nat.le_add_right _ _)⟩
theorem mrg_tp {L : List Gl} {lo mo j : Nat} (hj : j < L.length) : zT (gat (mrgL L lo mo) j) = zT (gat L j) ∧ zP (gat (mrgL L lo mo) j) = zP (gat L j) := by
  have e : gat (mrgL L lo mo) j = mgF lo mo j (gat L j) := gat_upd hj
  rw [e]
  unfold mgF
  by_cases q : lo ≤ yC (gat L j) ∧ yC (gat L j) ≤ mo
  · rw [cI_t q]; exact ⟨rfl, rfl⟩
  · rw [cI_f q]; exact ⟨rfl, rfl⟩
theorem sT_tp {x : Gl} {v d : Nat} (hv : v < 2 ^ 31) : zT (sT (sN x d) (nI v)) = v ∧ zP (sT (sN x d) (nI v)) = zP x := ⟨zT_j (x := sT (sN x d) (nI v)) hv rfl, rfl⟩
theorem prt_t {c : Cf} {f : Nat} {L : List Gl} {a b j : Nat} {s p : Int32} (hj : j < L.length) : zT (gat (prtL c f L a b s p) j) = zT (gat L j) := zT_eq (prt_N hj).2.2
theorem prt_p {c : Cf} {f : Nat} {L : List Gl} {a b j s p : Nat} (hj : j < L.length) (ho : okZ (gat L j)) (hp : 1 ≤ p) (hb : s + p < 2 ^ 18) (hb2 : s + zP (gat L j) < 2 ^ 18) : zP (gat (prtL c f L a b (nI s) (nI p)) j) ≤ s + (if zP (gat L j) = 0 then p else zP (gat L j)) := by
  rw [gat_prt hj]; exact zP_le ho hp hb hb2
theorem jn2_bd {c : Cf} {f B Q i two d0 : Nat} {L : List Gl} (ho : okZL L) (h : bdI B Q i L) (bd : bdJ B i L) (h1 : i < two) (h2 : two < L.length) : bdI B Q (i + 1) (jn2 c f L i two d0) := by
  rw [jn2_z ho h1 h2 rfl rfl rfl rfl]
  generalize hL1 : prtL c f L (i + 1) two (nI 0) (nI (zT (gat L i))) = L1
  have l1 : L1.length = L.length := by rw [← hL1, prt_len]
  generalize hL2 : prtL c f L1 (two + 1) (bhm c f L1 (two + 1)) (nI (zT (gat L i))) (nI (zT (gat L two))) = L2
  have l2 : L2.length = L.length := by rw [← hL2, prt_len, l1]
  have o1 := ho.at (i := i) (by omega)
  have o2 := ho.at h2
  have b1 := o1.b
  have b2 := o2.b
  have p1 := zT_pos o1
  have p2 := zT_pos o2
  obtain ⟨bB, bT, bP⟩ := bd
  have t1 := bT i (Nat.le_refl _) (by omega)
  have t2 := bT two (by omega) h2
  have hT : ∀ j, j < L.length → zT (gat L2 j) = zT (gat L j) := fun j hj => by rw [← hL2, prt_t (by omega), ← hL1, prt_t hj]
  have hP : ∀ j, j < L.length → zP (gat L2 j) ≤ zP (gat L j) + B ∨ zP (gat L2 j) ≤ 2 * B := fun j hj => by
    have oj := ho.at hj
    have pj := bP j hj
    by_cases e : j < two + 1
    · have e1 : gat L2 j = gat L1 j := by rw [← hL2]; exact prt_out (by omega) (Or.inl e)
      have e2 := prt_p (c := c) (f := f) (a := i + 1) (b := two) (s := 0) hj oj p1 (by omega) (by omega)
      rw [hL1] at e2
      rw [e1]
      split at e2 <;> omega
    · have e1 : gat L1 j = gat L j := by rw [← hL1]; exact prt_out hj (Or.inr (by omega))
      have e2 := prt_p (c := c) (f := f) (L := L1) (j := j) (a := two + 1) (b := bhm c f L1 (two + 1)) (s := zT (gat L i)) (p := zT (gat L two)) (by omega) (by rw [e1]; exact oj) p2 (by omega) (by rw [e1]; omega)
      rw [hL2, e1] at e2
      split at e2 <;> omega
  have hq := h.2 i (by omega)
  have hm := mrg_len L2 (min (yC (gat L i)) (yC (gat L two))) (max (yC (gat L i)) (yC (gat L two)))
  refine bdI_of (n := 2) h (by rw [clo_len, put_len, hm]; omega) (fun j hj => ?_)
  rw [clo_len, put_len, hm] at hj
  have hB : B * (L.length - i) = B * (L.length - i - 2) + B * 2 := by
    have : L.length - i = L.length - i - 2 + 2 := by omega
    rw [← Nat.mul_add, ← this]
  refine ⟨if j < two then j else j + 1, by split <;> omega, fun z => by split <;> omega, ?_⟩
  rw [gat_close (by rw [put_len, hm]; omega)]
  generalize hj0 : (if j < two then j else j + 1) = j0
  have hj1 : j0 < L.length := by rw [← hj0]; split <;> omega
  rw [gat_put (by rw [hm]; omega)]
  by_cases e : j0 = i
  · rw [if_pos e]
    have hji : j = i := by rw [← hj0] at e; split at e <;> omega
    have q := sT_tp (x := gat (mrgL L2 (min (yC (gat L i)) (yC (gat L two))) (max (yC (gat L i)) (yC (gat L two)))) i) (v := zT (gat L i) + zT (gat L two)) (d := d0) (by omega)
    have q2 := mrg_tp (L := L2) (lo := min (yC (gat L i)) (yC (gat L two))) (mo := max (yC (gat L i)) (yC (gat L two))) (j := i) (by omega)
    have q3 := hP i (by omega)
    rw [q.1, q.2, q2.2, e]
    exact ⟨Or.inr ⟨by omega, by omega⟩, q3.elim (fun q3 => Or.inl (by omega)) (fun q3 => Or.inr (by omega))⟩
  · rw [if_neg e]
    have q2 := mrg_tp (L := L2) (lo := min (yC (gat L i)) (yC (gat L two))) (mo := max (yC (gat L i)) (yC (gat L two))) (j := j0) (by omega)
    have q3 := hP j0 hj1
    rw [q2.1, q2.2, hT j0 hj1]
    exact ⟨Or.inl rfl, q3.elim (fun q3 => Or.inl (by omega)) (fun q3 => Or.inr (by omega))⟩
theorem jn3_bd {c : Cf} {f B Q i two three d0 : Nat} {L : List Gl} (ho : okZL L) (h : bdI B Q i L) (bd : bdJ B i L) (h1 : i < two) (h2 : two < three) (h3 : three < L.length) : bdI B Q (i + 1) (jn3 c f L i two three d0) := by
  rw [jn3_z ho h1 h2 h3 rfl rfl rfl rfl rfl]
  generalize hlo : min (min (yC (gat L i)) (yC (gat L two))) (yC (gat L three)) = lo
  generalize hmo : max (max (yC (gat L i)) (yC (gat L two))) (yC (gat L three)) = mo
  generalize hL1 : prtL c f L (i + 1) two (nI 0) (nI (zT (gat L i))) = L1
  have l1 : L1.length = L.length := by rw [← hL1, prt_len]
  generalize hL2 : prtL c f L1 (two + 1) three (nI (zT (gat L i))) (nI (zT (gat L two))) = L2
  have l2 : L2.length = L.length := by rw [← hL2, prt_len, l1]
  generalize hL3 : prtL c f L2 (three + 1) (bhm c f L2 (three + 1)) (nI (zT (gat L i) + zT (gat L two))) (nI (zT (gat L three))) = L3
  have l3 : L3.length = L.length := by rw [← hL3, prt_len, l2]
  have o1 := ho.at (i := i) (by omega)
  have o2 := ho.at (i := two) (by omega)
  have o3 := ho.at h3
  have b1 := o1.b
  have b2 := o2.b
  have b3 := o3.b
  have p1 := zT_pos o1
  have p2 := zT_pos o2
  have p3 := zT_pos o3
  obtain ⟨bB, bT, bP⟩ := bd
  have t1 := bT i (Nat.le_refl _) (by omega)
  have t2 := bT two (by omega) (by omega)
  have t3 := bT three (by omega) h3
  have hT : ∀ j, j < L.length → zT (gat L3 j) = zT (gat L j) := fun j hj => by rw [← hL3, prt_t (by omega), ← hL2, prt_t (by omega), ← hL1, prt_t hj]
  have hP : ∀ j, j < L.length → zP (gat L3 j) ≤ zP (gat L j) + 2 * B ∨ zP (gat L3 j) ≤ 3 * B := fun j hj => by
    have oj := ho.at hj
    have pj := bP j hj
    by_cases e : j < two + 1
    · have e1 : gat L3 j = gat L1 j := by rw [← hL3, prt_out (by omega) (Or.inl (by omega)), ← hL2]; exact prt_out (by omega) (Or.inl e)
      have e2 := prt_p (c := c) (f := f) (a := i + 1) (b := two) (s := 0) hj oj p1 (by omega) (by omega)
      rw [hL1] at e2
      rw [e1]
      split at e2 <;> omega
    · have e1 : gat L1 j = gat L j := by rw [← hL1]; exact prt_out hj (Or.inr (by omega))
      by_cases e0 : j < three + 1
      · have e3 : gat L3 j = gat L2 j := by rw [← hL3]; exact prt_out (by omega) (Or.inl e0)
        have e2 := prt_p (c := c) (f := f) (L := L1) (j := j) (a := two + 1) (b := three) (s := zT (gat L i)) (p := zT (gat L two)) (by omega) (by rw [e1]; exact oj) p2 (by omega) (by rw [e1]; omega)
        rw [hL2, e1] at e2
        rw [e3]
        split at e2 <;> omega
      · have e3 : gat L2 j = gat L j := by rw [← hL2, prt_out (by omega) (Or.inr (by omega)), e1]
        have e2 := prt_p (c := c) (f := f) (L := L2) (j := j) (a := three + 1) (b := bhm c f L2 (three + 1)) (s := zT (gat L i) + zT (gat L two)) (p := zT (gat L three)) (by omega) (by rw [e3]; exact oj) p3 (by omega) (by rw [e3]; omega)
        rw [hL3, e3] at e2
        split at e2 <;> omega
  have hq := h.2 i (by omega)
  have hm := mrg_len L3 lo mo
  refine bdI_of (n := 3) h (by rw [clo_len, clo_len, put_len, hm]; omega) (fun j hj => ?_)
  rw [clo_len, clo_len, put_len, hm] at hj
  have hB : B * (L.length - i) = B * (L.length - i - 3) + B * 3 := by
    have : L.length - i = L.length - i - 3 + 3 := by omega
    rw [← Nat.mul_add, ← this]
  generalize hj9 : (if (if j < two then j else j + 1) < three then (if j < two then j else j + 1) else (if j < two then j else j + 1) + 1) = j0
  have hj1 : j0 < L.length := by rw [← hj9]; split <;> split <;> omega
  have hj2 : i + 1 ≤ j → i ≤ j0 := fun z => by rw [← hj9]; split <;> split <;> omega
  have hj3 : j0 = i → j = i := fun z => by rw [← hj9] at z; split at z <;> split at z <;> omega
  refine ⟨j0, hj1, hj2, ?_⟩
  rw [gat_close (by rw [clo_len, put_len, hm]; omega), gat_close (by rw [put_len, hm]; split <;> omega), hj9, gat_put (by rw [hm]; omega)]
  by_cases e : j0 = i
  · rw [if_pos e]
    have q := sT_tp (x := gat (mrgL L3 lo mo) i) (v := zT (gat L i) + zT (gat L two) + zT (gat L three)) (d := d0) (by omega)
    have q2 := mrg_tp (L := L3) (lo := lo) (mo := mo) (j := i) (by omega)
    have q3 := hP i (by omega)
    rw [q.1, q.2, q2.2, e]
    exact ⟨Or.inr ⟨by have := hj3 e; omega, by omega⟩, q3.elim (fun q3 => Or.inl (by omega)) (fun q3 => Or.inr (by omega))⟩
  · rw [if_neg e]
    have q2 := mrg_tp (L := L3) (lo := lo) (mo := mo) (j := j0) (by omega)
    have q3 := hP j0 hj1
    rw [q2.1, q2.2, hT j0 hj1]
    exact ⟨Or.inl rfl, q3.elim (fun q3 => Or.inl (by omega)) (fun q3 => Or.inr (by omega))⟩
theorem chg_bd {c : Cf} {f B Q i l k : Nat} {L : List Gl} (ho : okZL L) (h : bdI B Q i L) (bd : bdJ B i L) (hi : i < L.length) (hf : fit c f L l k i) : bdI B Q (chgI c l k i) (chgL c f L l k i) := by
  unfold chgI chgL
  by_cases e0 : cN c 130 l = 0
  · rw [cI_f (by omega), cI_t e0]; exact num_bd h hi
  · rw [cI_f e0]
    by_cases e1 : cN c 130 l = 1
    · rw [cI_t e1, cI_t e1]
      have := mrN_b (rul c l k 3)
      exact puts_bd h hi this.1
    · rw [cI_f e1, cI_f e1]
      by_cases e2 : cN c 130 l = 2
      · rw [cI_t e2]; exact num_bd h hi
      · rw [cI_f e2]
        rcases hf.2 with q | q | q | ⟨q, q2, -, q3⟩
        · omega
        · omega
        · omega
        have h2 := aft_b c f l hi
        unfold lgL
        by_cases e3 : rul c l k 2 = -100
        · rw [cI_t e3]; exact jn2_bd ho h bd (by omega) q2
        · rw [cI_f e3]
          have q4 := (q3.resolve_left e3).1
          have h3 := aft_b c f l q2
          exact jn3_bd ho h bd (by omega) (by omega) q4
/-- where one goes on behind what was watched -/
theorem chg_wI {c : Cf} {f : Nat} {L : List Gl} {l k s t : Nat} (hn : L.length ≤ 64) (hs : s ≤ t) (ht : t < L.length) (hf : fit c f L l k s) : ∃ t', chgW c f L (nI t) l k s = nI t' ∧ s ≤ t' ∧ t' ≤ t + 2 ∧ (chgL c f L l k s).length - (t' + 1) < L.length - s ∧ chgI c l k s ≤ t' + 1 := by
  obtain ⟨t', h1, h2, h3, h4⟩ := chg_w hn hs ht hf
  refine ⟨t', h1, h2, h3, h4, ?_⟩
  unfold chgI
  by_cases e1 : cN c 130 l = 1
  · rw [cI_t e1]
    have e0 : chgW c f L (nI t) l k s = wPu (nI t) s (mrN (rul c l k 3)) := (cI_f (by omega)).trans (cI_t e1)
    have := mrN_b (rul c l k 3)
    rw [e0, wPu_n (by omega) (by omega), if_neg (by omega), nI_eq (by omega) (by omega)] at h1
    omega
  · rw [cI_f e1]; omega
/-- a step on a lookup's way -/
def stpB (L : List Gl) (i : Nat) (L' : List Gl) (i' : Nat) : Prop := i + 1 ≤ i' ∧ i' ≤ 100 ∧ L'.length - i' < L.length - i ∧ ∀ B Q, bdI B Q i L → bdJ B i L → bdI B Q i' L'
theorem bdJ_up {B i i' : Nat} {L : List Gl} (h : bdJ B i L) (hi : i ≤ i') : bdJ B i' L := ⟨h.1, fun k z => h.2.1 k (by omega), h.2.2⟩
theorem stpB_1 {L : List Gl} {i i' : Nat} (h : i + 1 ≤ i') (h2 : i' ≤ 100) (h3 : i < L.length) : stpB L i L i' := ⟨h, h2, by omega, fun B Q hb _ => bdI_up hb (by omega)⟩
theorem stpB_c {c : Cf} {f : Nat} {L : List Gl} {l k i : Nat} (ho : okZL L) (hi : i < L.length) (hf : fit c f L l k i) : stpB L i (chgL c f L l k i) (chgI c l k i) := by
  have h0 := ho.1
  have h4 := chg_d h0 hi hf
  have h5 := chgI_b c l k i
  exact ⟨by omega, by omega, by omega, fun B Q hb bd => chg_bd ho hb bd hi hf⟩
theorem stpB_w {c : Cf} {f : Nat} {L : List Gl} {l k i s t t' : Nat} (ho : okZL L) (his : i ≤ s) (hs : s ≤ t) (ht : t < L.length) (hf : fit c f L l k s) (hw : chgW c f L (nI t) l k s = nI t') (h2 : t' < 2 ^ 20) : stpB L i (chgL c f L l k s) (t' + 1) := by
  have h0 := ho.1
  obtain ⟨t'', a1, a2, a3, a4, a5⟩ := chg_wI h0 hs ht hf
  rw [a1, nI_eq (by omega) (by omega)] at hw
  subst hw
  exact ⟨by omega, by omega, by omega, fun B Q hb bd => bdI_up (chg_bd ho (bdI_up hb his) (bdJ_up bd his) (by omega) hf) a5⟩
