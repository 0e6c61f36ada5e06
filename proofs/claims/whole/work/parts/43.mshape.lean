/-! the reference: a run, a part of the text -/
theorem onK_of {A B : Pl} {n : Nat} (h : onK A n) (e : ∀ i, i < n → B 2 i = A 2 i) : onK B n := fun i hi => by rw [e i hi]; exact h i hi
theorem onK_set3 {A : Pl} {n i b : Nat} {x y : Int32} (h : onK A n) (hb : b < i) : onK (set3 A i (nI b) x y) n := fun j hj => by
  unfold set3 u2
  rw [if_neg (by omega), if_neg (by omega)]
  by_cases e : j = i
  · rw [if_pos ⟨rfl, e⟩]; exact Or.inr ⟨b, by omega, rfl⟩
  · rw [if_neg (fun q => e q.2)]; exact h j hj
theorem onK_pl0 (c : Cf) (f : Nat) (L : List Gl) (n : Nat) : onK (pl0 c f L) n := fun i _ => Or.inl rfl
theorem onK_prs {c : Cf} {f l : Nat} {L : List Gl} {n : Nat} : ∀ t i (A : Pl), onK A n → onK (prs c f l L t i A) n := by
  intro t
  induction t with
  | zero => exact fun i A h => h
  | succ t ih =>
    intro i A h
    show onK (cI _ _ _) n
    by_cases e : i < L.length
    · rw [cI_t e]
      refine ih _ _ ?_
      unfold prS
      by_cases e2 : prD c f l L i
      · rw [cI_t e2]; exact onK_of h (fun j _ => by unfold u2; rw [if_neg (by omega)])
      · rw [cI_f e2]; exact h
    · rw [cI_f e]; exact h
theorem onK_crv {c : Cf} {f l : Nat} {L : List Gl} {n : Nat} {A : Pl} (h : onK A n) : ∀ k, onK (crv c f l L k A) n
  | 0 => h
  | k + 1 => by
    show onK (crS c f l L k (crv c f l L k A)) n
    have ih := onK_crv h k (c := c) (f := f) (l := l) (L := L)
    unfold crS
    by_cases e : crG c f l L k
    · rw [cI_t e]; unfold crU
      by_cases e2 : crD c f l L k (aft c f l L k)
      · rw [cI_t e2]; exact onK_of ih (fun j _ => by unfold u2; rw [if_neg (by omega)])
      · rw [cI_f e2]; exact ih
    · rw [cI_f e]; exact ih
theorem onK_bss {c : Cf} {f l : Nat} {L : List Gl} {n : Nat} {A : Pl} (h : onK A n) : ∀ k, onK (bss c f l L k A) n
  | 0 => h
  | k + 1 => by
    show onK (bsS c f l L k (bss c f l L k A)) n
    have ih := onK_bss h k (c := c) (f := f) (l := l) (L := L)
    unfold bsS
    by_cases e : bsG c f l L k
    · rw [cI_t e]; unfold bsU
      have hb : bsE c f L k ≤ k := rfd_le (P := fun j => ¬ 0 < mkc c f (gat L j)) k
      have hb0 := e.2.2
      by_cases e2 : bsA c f l L k (bsE c f L k - 1) < cN c 135 l
      · rw [cI_t e2]; exact onK_set3 ih (by omega)
      · rw [cI_f e2]; exact ih
    · rw [cI_f e]; exact ih
theorem onK_mks {c : Cf} {f l : Nat} {L : List Gl} {n : Nat} {A : Pl} (h : onK A n) : ∀ k, onK (mks c f l L k A) n
  | 0 => h
  | k + 1 => by
    show onK (mkS c f l L k (mks c f l L k A)) n
    have ih := onK_mks h k (c := c) (f := f) (l := l) (L := L)
    unfold mkS
    by_cases e : mkG c f l L k
    · rw [cI_t e]; unfold mkU
      have hb : ahd c f l L k ≤ k := rfd_le (P := fun j => ¬ skp c f l (yN (gat L j))) k
      have hb0 := e.2.2.1
      by_cases e2 : mkA c f l L k (ahd c f l L k - 1) < cN c 135 l
      · rw [cI_t e2]; exact onK_set3 ih (by omega)
      · rw [cI_f e2]; exact ih
    · rw [cI_f e]; exact ih
theorem onK_plS {c : Cf} {f l : Nat} {L : List Gl} {n : Nat} {A : Pl} (h : onK A n) : onK (plS c f l L A) n := by
  unfold plS plK
  by_cases e : pDue c l
  · rw [cI_t e]
    by_cases e6 : cN c 130 l = 6
    · rw [cI_t e6]; exact onK_prs _ _ _ h
    · rw [cI_f e6]
      by_cases e7 : cN c 130 l = 7
      · rw [cI_t e7]; exact onK_crv h _
      · rw [cI_f e7]
        by_cases e8 : cN c 130 l = 8
        · rw [cI_t e8]; exact onK_bss h _
        · rw [cI_f e8]
          by_cases e9 : cN c 130 l = 9
          · rw [cI_t e9]; exact onK_mks h _
          · rw [cI_f e9]; exact h
  · rw [cI_f e]; exact h
theorem onK_pla {c : Cf} {f : Nat} {L : List Gl} {n : Nat} : ∀ m l (A : Pl), onK A n → onK (pla c f L m l A) n
  | 0, _, _, h => h
  | m + 1, l, A, h => onK_pla m (l + 1) _ (onK_plS h)
theorem onK_plc (c : Cf) (f : Nat) (L : List Gl) (n : Nat) : onK (plc c f L) n := onK_pla _ _ _ (onK_pl0 _ _ _ _)
/-! a run -/
noncomputable def r0 (c : Cf) (s k e : Nat) : List Gl := cI (s = 0) (jnd c k e (e - k)) (sys c e (e - k) k [])
noncomputable def r1 (c : Cf) (f s k e : Nat) : List Gl := stg c f 0 (cN c 129 f) (12 * f) (r0 c s k e)
noncomputable def r2 (c : Cf) (f s k e : Nat) : List Gl := cI (s = 0) (r1 c f s k e) (mvs 64 0 (r1 c f s k e))
noncomputable def r3 (c : Cf) (f s k e : Nat) : List Gl := stg c f 1 (cN c 129 f) (12 * f) (r2 c f s k e)
noncomputable def r4 (c : Cf) (f s k e : Nat) : List Gl := tko (r3 c f s k e).length (r3 c f s k e)
noncomputable def jnO (s : Nat) : Nat := cI (s = 0) 1 0
noncomputable def stB (c : Cf) (f s : Nat) (left : Int32) (L : List Gl) : Pl := std (jnO s) left (smA (plc c f L) L.length) L.length (plc c f L)
noncomputable def og (G : Nat) (L : List Gl) (B : Pl) (q j : Nat) : Int32 := if q = 0 then nI (yN (gat L j)) else if q = 1 then nI (yC (gat L j)) else if q = 2 then B 0 j else if q = 3 then B 1 j else if q = 4 then B 5 j else if q = 5 then cI (B 2 j = -100) (-100) (nI G + B 2 j) else if q = 6 then B 3 j else B 4 j
theorem mI_ne {M : gM} {a k b j : Nat} {v : Int32} (h : ¬ b = a) : mI (sI M a k v) b j = mI M b j := by rw [mI_sI, if_neg (fun q => h q.1)]
theorem mI_nj {M : gM} {a k b j : Nat} {v : Int32} (h : ¬ j = k) : mI (sI M a k v) b j = mI M b j := by rw [mI_sI, if_neg (fun q => h q.2)]
theorem mI_eq {M : gM} {a k : Nat} {v : Int32} : mI (sI M a k v) a k = v := by rw [mI_sI, if_pos ⟨rfl, rfl⟩]
def oR (lo hi a j : Nat) : Prop := 158 ≤ a ∧ a ≤ 165 ∧ lo ≤ j ∧ j < hi
def oS (G : Nat) (L : List Gl) (B : Pl) (k : Nat) (M : gM) : Prop := ∀ q j, q < 8 → j < k → mI M (158 + q) (G + j) = og G L B q j
set_option maxRecDepth 100000 in
set_option maxHeartbeats 4000000 in
theorem lp_X12_shapesRun {g : gG} {Q : Option Value ⊕ String → gM → Prop} {c : Cf} {f : Nat} {M0 M2 : gM} {L : List Gl} {w : Int32} {B : Pl} {G : Nat} {v1 v2 v3 : Value} {v4 : Int32} (hp : mP c f M0 L w B M2) (hx : mx5 B L.length M2) (hGb : G + L.length ≤ 1024) (hG0 : mI M2 128 36 = nI G) (K : ∀ M v6, fr (oR G (G + L.length)) M2 M → oS G L B L.length M → E g 13 0 0 mX12_shapesRun 246 [.ref 129, v1, v2, v3, .int v4, .int (nI L.length), v6] [] M Q) : ∀ i, i ≤ L.length → ∀ M v6, fr (oR G (G + i)) M2 M → oS G L B i M → E g 13 0 0 mX12_shapesRun 88 [.ref 129, v1, v2, v3, .int v4, .int (nI i), v6] [] M Q := by
  refine lpUp L.length (fun i hil ih => ?_)
  intro M v6 hF hS
  have h := hp.1
  have hL := hF.lay h.lay
  have hn := h.len
  have hR : ∀ a j, a < 158 → mI M a j = mI M2 a j := fun a j ha => hF.bk (by unfold oR; omega)
  have hG : mI M 128 36 = nI G := (hR _ _ (by decide)).trans hG0
  have hgn : mI M 128 21 = nI L.length := (hR _ _ (by decide)).trans h.gn
  refine E_iload dX12_shapesRun_88 rfl ?_
  refine E_aload_n dX12_shapesRun_90 rfl ?_
  refine E_getIL (v := nI L.length) dX12_shapesRun_91 kF_X12_235 kY_12 (Or.inl rfl) (l_128 hL) (k_128 hL) hgn ?_
  refine E_icmp_ge_n (tgt := 246) dX12_shapesRun_94 (by decide) (by omega) (by omega) (fun c_94 => ?_) (fun c_94 => ?_)
  · obtain rfl : i = L.length := by omega
    exact K _ _ hF hS
  · have hi : i < L.length := by omega
    have fin : ∀ v, v = cI (B 2 i = -100) (-100) (nI G + B 2 i) → E g 13 0 0 mX12_shapesRun 240 [.ref 129, v1, v2, v3, .int v4, .int (nI i), .int (nI (G + i))] [] (sI (sI (sI (sI (sI (sI (sI (sI M 158 (G + i) (nI (yN (gat L i)))) 159 (G + i) (nI (yC (gat L i)))) 160 (G + i) (B 0 i)) 161 (G + i) (B 1 i)) 162 (G + i) (B 5 i)) 163 (G + i) v) 164 (G + i) (B 3 i)) 165 (G + i) (B 4 i)) Q := by
      intro v hv
      have hF2 : fr (oR G (G + (i + 1))) M2 (sI (sI (sI (sI (sI (sI (sI (sI M 158 (G + i) (nI (yN (gat L i)))) 159 (G + i) (nI (yC (gat L i)))) 160 (G + i) (B 0 i)) 161 (G + i) (B 1 i)) 162 (G + i) (B 5 i)) 163 (G + i) v) 164 (G + i) (B 3 i)) 165 (G + i) (B 4 i)) :=
        ((((((((hF.mono (fun a j q => by unfold oR at *; omega)).wr (by unfold oR; omega)).wr (by unfold oR; omega)).wr (by unfold oR; omega)).wr (by unfold oR; omega)).wr (by unfold oR; omega)).wr (by unfold oR; omega)).wr (by unfold oR; omega)).wr (by unfold oR; omega)
      have hS2 : oS G L B (i + 1) (sI (sI (sI (sI (sI (sI (sI (sI M 158 (G + i) (nI (yN (gat L i)))) 159 (G + i) (nI (yC (gat L i)))) 160 (G + i) (B 0 i)) 161 (G + i) (B 1 i)) 162 (G + i) (B 5 i)) 163 (G + i) v) 164 (G + i) (B 3 i)) 165 (G + i) (B 4 i)) := fun q j hq hj => by
        by_cases e : j = i
        · subst e
          simp only [mI_sI]
          unfold og
          rcases (show q = 0 ∨ q = 1 ∨ q = 2 ∨ q = 3 ∨ q = 4 ∨ q = 5 ∨ q = 6 ∨ q = 7 by omega) with rfl | rfl | rfl | rfl | rfl | rfl | rfl | rfl <;> simp [hv]
        · rw [mI_nj (by omega), mI_nj (by omega), mI_nj (by omega), mI_nj (by omega), mI_nj (by omega), mI_nj (by omega), mI_nj (by omega), mI_nj (by omega)]
          exact hS q j hq (by omega)
      have hL := hF2.lay h.lay
      refine E_iinc_n (d := 1) dX12_shapesRun_240 rfl rfl rfl (by decide) rfl ?_
      refine E_goto (tgt := 88) dX12_shapesRun_243 (by decide) ?_
      exact ih hi _ _ hF2 hS2
    refine E_aload_n dX12_shapesRun_97 rfl ?_
    refine E_getIL (v := nI G) dX12_shapesRun_98 kF_X12_406 kY_12 (Or.inl rfl) (l_128 hL) (k_128 hL) hG ?_
    refine E_iload dX12_shapesRun_101 rfl ?_
    refine E_iadd_n dX12_shapesRun_103 ?_
    refine E_istore dX12_shapesRun_104 (Nat.le_of_ble_eq_true rfl) (by decide) rfl ?_
    refine E_aload_n dX12_shapesRun_106 rfl ?_
    refine E_getRL dX12_shapesRun_107 kF_X12_102 kY_12 (Or.inr ⟨_, rfl⟩) (l_128 hL) (k_128 hL) (r_128_37 hL) ?_
    refine E_iload dX12_shapesRun_110 rfl ?_
    refine E_aload_n dX12_shapesRun_112 rfl ?_
    refine E_getRL dX12_shapesRun_113 kF_X12_63 kY_12 (Or.inr ⟨_, rfl⟩) (l_128 hL) (k_128 hL) (r_128_22 hL) ?_
    refine E_iload dX12_shapesRun_116 rfl ?_
    refine E_ialdL (v := _) dX12_shapesRun_118 (l_145 hL) (k_145 hL) rfl (by omega) (by decide) ((hR _ _ (by decide)).trans (h.at hi).1) ?_
    refine E_iast dX12_shapesRun_119 (l_158 hL) (k_158 hL) rfl (by omega) (by decide) ?_
    refine E_aload_n dX12_shapesRun_120 rfl ?_
    refine E_getRL dX12_shapesRun_121 kF_X12_105 kY_12 (Or.inr ⟨_, rfl⟩) (l_128 hL) (k_128 hL) (r_128_38 hL) ?_
    refine E_iload dX12_shapesRun_124 rfl ?_
    refine E_aload_n dX12_shapesRun_126 rfl ?_
    refine E_getRL dX12_shapesRun_127 kF_X12_66 kY_12 (Or.inr ⟨_, rfl⟩) (l_128 hL) (k_128 hL) (r_128_23 hL) ?_
    refine E_iload dX12_shapesRun_130 rfl ?_
    refine E_ialdL (v := _) dX12_shapesRun_132 (l_146 hL) (k_146 hL) rfl (by omega) (by decide) ((mI_ne (by decide)).trans ((hR _ _ (by decide)).trans (h.at hi).2.1)) ?_
    refine E_iast dX12_shapesRun_133 (l_159 hL) (k_159 hL) rfl (by omega) (by decide) ?_
    refine E_aload_n dX12_shapesRun_134 rfl ?_
    refine E_getRL dX12_shapesRun_135 kF_X12_108 kY_12 (Or.inr ⟨_, rfl⟩) (l_128 hL) (k_128 hL) (r_128_39 hL) ?_
    refine E_iload dX12_shapesRun_138 rfl ?_
    refine E_aload_n dX12_shapesRun_140 rfl ?_
    refine E_getRL dX12_shapesRun_141 kF_X12_84 kY_12 (Or.inr ⟨_, rfl⟩) (l_128 hL) (k_128 hL) (r_128_29 hL) ?_
    refine E_iload dX12_shapesRun_144 rfl ?_
    refine E_ialdL (v := _) dX12_shapesRun_146 (l_152 hL) (k_152 hL) rfl (by omega) (by decide) ((mI_ne (by decide)).trans ((mI_ne (by decide)).trans ((hR _ _ (by decide)).trans (hp.at (q := 0) (by decide) hi)))) ?_
    refine E_iast dX12_shapesRun_147 (l_160 hL) (k_160 hL) rfl (by omega) (by decide) ?_
    refine E_aload_n dX12_shapesRun_148 rfl ?_
    refine E_getRL dX12_shapesRun_149 kF_X12_111 kY_12 (Or.inr ⟨_, rfl⟩) (l_128 hL) (k_128 hL) (r_128_40 hL) ?_
    refine E_iload dX12_shapesRun_152 rfl ?_
    refine E_aload_n dX12_shapesRun_154 rfl ?_
    refine E_getRL dX12_shapesRun_155 kF_X12_87 kY_12 (Or.inr ⟨_, rfl⟩) (l_128 hL) (k_128 hL) (r_128_30 hL) ?_
    refine E_iload dX12_shapesRun_158 rfl ?_
    refine E_ialdL (v := _) dX12_shapesRun_160 (l_153 hL) (k_153 hL) rfl (by omega) (by decide) ((mI_ne (by decide)).trans ((mI_ne (by decide)).trans ((mI_ne (by decide)).trans ((hR _ _ (by decide)).trans (hp.at (q := 1) (by decide) hi))))) ?_
    refine E_iast dX12_shapesRun_161 (l_161 hL) (k_161 hL) rfl (by omega) (by decide) ?_
    refine E_aload_n dX12_shapesRun_162 rfl ?_
    refine E_getRL dX12_shapesRun_163 kF_X12_114 kY_12 (Or.inr ⟨_, rfl⟩) (l_128 hL) (k_128 hL) (r_128_41 hL) ?_
    refine E_iload dX12_shapesRun_166 rfl ?_
    refine E_aload_n dX12_shapesRun_168 rfl ?_
    refine E_getRL dX12_shapesRun_169 kF_X12_99 kY_12 (Or.inr ⟨_, rfl⟩) (l_128 hL) (k_128 hL) (r_128_34 hL) ?_
    refine E_iload dX12_shapesRun_172 rfl ?_
    refine E_ialdL (v := _) dX12_shapesRun_174 (l_157 hL) (k_157 hL) rfl (by omega) (by decide) ((mI_ne (by decide)).trans ((mI_ne (by decide)).trans ((mI_ne (by decide)).trans ((mI_ne (by decide)).trans ((hR _ _ (by decide)).trans (hx _ hi)))))) ?_
    refine E_iast dX12_shapesRun_175 (l_162 hL) (k_162 hL) rfl (by omega) (by decide) ?_
    refine E_aload_n dX12_shapesRun_176 rfl ?_
    refine E_getRL dX12_shapesRun_177 kF_X12_117 kY_12 (Or.inr ⟨_, rfl⟩) (l_128 hL) (k_128 hL) (r_128_42 hL) ?_
    refine E_iload dX12_shapesRun_180 rfl ?_
    refine E_aload_n dX12_shapesRun_182 rfl ?_
    refine E_getRL dX12_shapesRun_183 kF_X12_90 kY_12 (Or.inr ⟨_, rfl⟩) (l_128 hL) (k_128 hL) (r_128_31 hL) ?_
    refine E_iload dX12_shapesRun_186 rfl ?_
    refine E_ialdL (v := _) dX12_shapesRun_188 (l_154 hL) (k_154 hL) rfl (by omega) (by decide) ((mI_ne (by decide)).trans ((mI_ne (by decide)).trans ((mI_ne (by decide)).trans ((mI_ne (by decide)).trans ((mI_ne (by decide)).trans ((hR _ _ (by decide)).trans (hp.at (q := 2) (by decide) hi))))))) ?_
    refine E_bipush (v := -100) dX12_shapesRun_189 (by decide) ?_
    refine E_icmp_ne (tgt := 199) dX12_shapesRun_191 (by decide) (fun e_191 => ?_) (fun e_191 => ?_)
    · refine E_aload_n dX12_shapesRun_199 rfl ?_
      refine E_getIL (v := nI G) dX12_shapesRun_200 kF_X12_406 kY_12 (Or.inl rfl) (l_128 hL) (k_128 hL) ((mI_ne (by decide)).trans ((mI_ne (by decide)).trans ((mI_ne (by decide)).trans ((mI_ne (by decide)).trans ((mI_ne (by decide)).trans hG))))) ?_
      refine E_aload_n dX12_shapesRun_203 rfl ?_
      refine E_getRL dX12_shapesRun_204 kF_X12_90 kY_12 (Or.inr ⟨_, rfl⟩) (l_128 hL) (k_128 hL) (r_128_31 hL) ?_
      refine E_iload dX12_shapesRun_207 rfl ?_
      refine E_ialdL (v := _) dX12_shapesRun_209 (l_154 hL) (k_154 hL) rfl (by omega) (by decide) ((mI_ne (by decide)).trans ((mI_ne (by decide)).trans ((mI_ne (by decide)).trans ((mI_ne (by decide)).trans ((mI_ne (by decide)).trans ((hR _ _ (by decide)).trans (hp.at (q := 2) (by decide) hi))))))) ?_
      refine E_iadd dX12_shapesRun_210 ?_
      refine E_iast dX12_shapesRun_211 (l_163 hL) (k_163 hL) rfl (by omega) (by decide) ?_
      refine E_aload_n dX12_shapesRun_212 rfl ?_
      refine E_getRL dX12_shapesRun_213 kF_X12_120 kY_12 (Or.inr ⟨_, rfl⟩) (l_128 hL) (k_128 hL) (r_128_43 hL) ?_
      refine E_iload dX12_shapesRun_216 rfl ?_
      refine E_aload_n dX12_shapesRun_218 rfl ?_
      refine E_getRL dX12_shapesRun_219 kF_X12_93 kY_12 (Or.inr ⟨_, rfl⟩) (l_128 hL) (k_128 hL) (r_128_32 hL) ?_
      refine E_iload dX12_shapesRun_222 rfl ?_
      refine E_ialdL (v := _) dX12_shapesRun_224 (l_155 hL) (k_155 hL) rfl (by omega) (by decide) ((mI_ne (by decide)).trans ((mI_ne (by decide)).trans ((mI_ne (by decide)).trans ((mI_ne (by decide)).trans ((mI_ne (by decide)).trans ((mI_ne (by decide)).trans ((hR _ _ (by decide)).trans (hp.at (q := 3) (by decide) hi)))))))) ?_
      refine E_iast dX12_shapesRun_225 (l_164 hL) (k_164 hL) rfl (by omega) (by decide) ?_
      refine E_aload_n dX12_shapesRun_226 rfl ?_
      refine E_getRL dX12_shapesRun_227 kF_X12_123 kY_12 (Or.inr ⟨_, rfl⟩) (l_128 hL) (k_128 hL) (r_128_44 hL) ?_
      refine E_iload dX12_shapesRun_230 rfl ?_
      refine E_aload_n dX12_shapesRun_232 rfl ?_
      refine E_getRL dX12_shapesRun_233 kF_X12_96 kY_12 (Or.inr ⟨_, rfl⟩) (l_128 hL) (k_128 hL) (r_128_33 hL) ?_
      refine E_iload dX12_shapesRun_236 rfl ?_
      refine E_ialdL (v := _) dX12_shapesRun_238 (l_156 hL) (k_156 hL) rfl (by omega) (by decide) ((mI_ne (by decide)).trans ((mI_ne (by decide)).trans ((mI_ne (by decide)).trans ((mI_ne (by decide)).trans ((mI_ne (by decide)).trans ((mI_ne (by decide)).trans ((mI_ne (by decide)).trans ((hR _ _ (by decide)).trans (hp.at (q := 4) (by decide) hi))))))))) ?_
      refine E_iast dX12_shapesRun_239 (l_165 hL) (k_165 hL) rfl (by omega) (by decide) ?_
      first
        | exact fin _ (cI_f e_191).symm
        | exact fin _ (cI_t (Classical.not_not.mp e_191)).symm
    · refine E_bipush (v := -100) dX12_shapesRun_194 (by decide) ?_
      refine E_goto (tgt := 211) dX12_shapesRun_196 (by decide) ?_
      refine E_iast dX12_shapesRun_211 (l_163 hL) (k_163 hL) rfl (by omega) (by decide) ?_
      refine E_aload_n dX12_shapesRun_212 rfl ?_
      refine E_getRL dX12_shapesRun_213 kF_X12_120 kY_12 (Or.inr ⟨_, rfl⟩) (l_128 hL) (k_128 hL) (r_128_43 hL) ?_
      refine E_iload dX12_shapesRun_216 rfl ?_
      refine E_aload_n dX12_shapesRun_218 rfl ?_
      refine E_getRL dX12_shapesRun_219 kF_X12_93 kY_12 (Or.inr ⟨_, rfl⟩) (l_128 hL) (k_128 hL) (r_128_32 hL) ?_
      refine E_iload dX12_shapesRun_222 rfl ?_
      refine E_ialdL (v := _) dX12_shapesRun_224 (l_155 hL) (k_155 hL) rfl (by omega) (by decide) ((mI_ne (by decide)).trans ((mI_ne (by decide)).trans ((mI_ne (by decide)).trans ((mI_ne (by decide)).trans ((mI_ne (by decide)).trans ((mI_ne (by decide)).trans ((hR _ _ (by decide)).trans (hp.at (q := 3) (by decide) hi)))))))) ?_
      refine E_iast dX12_shapesRun_225 (l_164 hL) (k_164 hL) rfl (by omega) (by decide) ?_
      refine E_aload_n dX12_shapesRun_226 rfl ?_
      refine E_getRL dX12_shapesRun_227 kF_X12_123 kY_12 (Or.inr ⟨_, rfl⟩) (l_128 hL) (k_128 hL) (r_128_44 hL) ?_
      refine E_iload dX12_shapesRun_230 rfl ?_
      refine E_aload_n dX12_shapesRun_232 rfl ?_
      refine E_getRL dX12_shapesRun_233 kF_X12_96 kY_12 (Or.inr ⟨_, rfl⟩) (l_128 hL) (k_128 hL) (r_128_33 hL) ?_
      refine E_iload dX12_shapesRun_236 rfl ?_
      refine E_ialdL (v := _) dX12_shapesRun_238 (l_156 hL) (k_156 hL) rfl (by omega) (by decide) ((mI_ne (by decide)).trans ((mI_ne (by decide)).trans ((mI_ne (by decide)).trans ((mI_ne (by decide)).trans ((mI_ne (by decide)).trans ((mI_ne (by decide)).trans ((mI_ne (by decide)).trans ((hR _ _ (by decide)).trans (hp.at (q := 4) (by decide) hi))))))))) ?_
      refine E_iast dX12_shapesRun_239 (l_165 hL) (k_165 hL) rfl (by omega) (by decide) ?_
      first
        | exact fin _ (cI_f e_191).symm
        | exact fin _ (cI_t (Classical.not_not.mp e_191)).symm
theorem jnO_b (s : Nat) : jnO s ≤ 1 := by
  unfold jnO
  by_cases e : s = 0
  · rw [cI_t e]; exact Nat.le_refl _
  · rw [cI_f e]; exact Nat.zero_le _
def rnR (G n a j : Nat) : Prop := rowR a j ∨ (a = 128 ∧ (j = 20 ∨ j = 36)) ∨ oR G (G + n) a j
/-- what stands when a run is shaped: its row, its places, what was laid -/
def rnS (c : Cf) (f s : Nat) (left : Int32) (G : Nat) (L : List Gl) (M : gM) : Prop := okL L ∧ mI M 128 21 = nI L.length ∧ mI M 128 36 = nI (G + L.length) ∧ (∀ i, i < L.length → mI M 152 i = plc c f L 0 i) ∧ oS G L (stB c f s left L) L.length M
set_option maxRecDepth 100000 in
set_option maxHeartbeats 4000000 in
theorem t_X12_shapesRunJ {g : gG} {Q : Option Value ⊕ String → gM → Prop} {M : gM} {c : Cf} {f : Nat} {M0 : gM} {w : Int32} {k e : Nat} {left : Int32} (h : mX c f M0 [] w M) (hk : k ≤ e) (he : e ≤ 16) (K : ∀ Mz w, mX c f M0 (r3 c f 0 k e) w Mz → E g 13 0 0 mX12_shapesRun 70 [.ref 129, .int (nI k), .int (nI e), .int left, .int (nI (jnO 0)), .null, .null] [] Mz Q) : E g 13 0 0 mX12_shapesRun 31 [.ref 129, .int (nI k), .int (nI e), .int left, .int (nI 1), .null, .null] [] M Q := by
  have hL := h.lay
  have e0 : r0 c 0 k e = _ := cI_t rfl
  have ej : jnO 0 = 1 := cI_t rfl
  rw [ej] at K
  refine E_iload dX12_shapesRun_31 rfl ?_
  refine E_if_eq (tgt := 45) dX12_shapesRun_33 (by decide) (fun c0 => absurd c0 (by decide)) (fun _ => ?_)
  refine E_aload_n dX12_shapesRun_36 rfl ?_
  refine E_iload_n dX12_shapesRun_37 rfl ?_
  refine E_iload_n dX12_shapesRun_38 rfl ?_
  refine E_callV2 (fr' := 5) (k1 := 0) (n1 := 0) (k2 := 0) (n2 := 0) dX12_shapesRun_39 kO_X12_laysJoined kL_X12_384 (l_128 hL) (k_128 hL) ⟨by decide, rfl⟩ rfl rfl (by decide) (by decide) (by exact Nat.le_of_ble_eq_true rfl) rfl ?_
  refine sp_X12_laysJoined h hk he (fun M h => ?_)
  rw [← e0] at h
  have hL := h.lay
  refine gKn ?_
  refine E_goto (tgt := 51) dX12_shapesRun_42 (by decide) ?_
  refine E_aload_n dX12_shapesRun_51 rfl ?_
  refine E_iconst (v := nI 0) dX12_shapesRun_52 (by decide) ?_
  refine E_callV1 (fr' := 12) (k1 := 0) (n1 := 0) (k2 := 0) (n2 := 0) dX12_shapesRun_53 kO_X12_doesStage kL_X12_390 (l_128 hL) (k_128 hL) ⟨by decide, rfl⟩ rfl (by decide) (by decide) (by exact Nat.le_of_ble_eq_true rfl) rfl ?_
  refine sp_X12_doesStage h (by decide) (fun M w h => ?_)
  have hL := h.lay
  have h : mX c f M0 (r1 c f 0 k e) w M := h
  refine gKn ?_
  refine E_iload dX12_shapesRun_56 rfl ?_
  refine E_if_ne (tgt := 65) dX12_shapesRun_58 (by decide) (fun _ => ?_) (fun c0 => absurd (by decide) c0)
  refine E_aload_n dX12_shapesRun_65 rfl ?_
  refine E_iconst (v := nI 1) dX12_shapesRun_66 (by decide) ?_
  refine E_callV1 (fr' := 12) (k1 := 0) (n1 := 0) (k2 := 0) (n2 := 0) dX12_shapesRun_67 kO_X12_doesStage kL_X12_390 (l_128 hL) (k_128 hL) ⟨by decide, rfl⟩ rfl (by decide) (by decide) (by exact Nat.le_of_ble_eq_true rfl) rfl ?_
  have e2 : r2 c f 0 k e = _ := cI_t rfl
  rw [← e2] at h
  refine sp_X12_doesStage h (by decide) (fun M w h => ?_)
  have hL := h.lay
  have h : mX c f M0 (r3 c f 0 k e) w M := h
  refine gKn ?_
  exact K _ _ h
set_option maxRecDepth 100000 in
set_option maxHeartbeats 4000000 in
theorem t_X12_shapesRunS {g : gG} {Q : Option Value ⊕ String → gM → Prop} {M : gM} {c : Cf} {f : Nat} {M0 : gM} {w : Int32} {k e : Nat} {left : Int32} (h : mX c f M0 [] w M) (hk : k ≤ e) (he : e ≤ 16) (K : ∀ Mz w, mX c f M0 (r3 c f 1 k e) w Mz → E g 13 0 0 mX12_shapesRun 70 [.ref 129, .int (nI k), .int (nI e), .int left, .int (nI (jnO 1)), .null, .null] [] Mz Q) : E g 13 0 0 mX12_shapesRun 31 [.ref 129, .int (nI k), .int (nI e), .int left, .int (nI 0), .null, .null] [] M Q := by
  have hL := h.lay
  have e0 : r0 c 1 k e = _ := cI_f (by decide)
  have ej : jnO 1 = 0 := cI_f (by decide)
  rw [ej] at K
  refine E_iload dX12_shapesRun_31 rfl ?_
  refine E_if_eq (tgt := 45) dX12_shapesRun_33 (by decide) (fun _ => ?_) (fun c0 => absurd (by decide) c0)
  refine E_aload_n dX12_shapesRun_45 rfl ?_
  refine E_iload_n dX12_shapesRun_46 rfl ?_
  refine E_iload_n dX12_shapesRun_47 rfl ?_
  refine E_callV2 (fr' := 5) (k1 := 0) (n1 := 0) (k2 := 0) (n2 := 0) dX12_shapesRun_48 kO_X12_laysSyllables kL_X12_387 (l_128 hL) (k_128 hL) ⟨by decide, rfl⟩ rfl rfl (by decide) (by decide) (by exact Nat.le_of_ble_eq_true rfl) rfl ?_
  refine sp_X12_laysSyllables h hk he (fun M h => ?_)
  rw [← e0] at h
  have hL := h.lay
  refine gKn ?_
  refine E_aload_n dX12_shapesRun_51 rfl ?_
  refine E_iconst (v := nI 0) dX12_shapesRun_52 (by decide) ?_
  refine E_callV1 (fr' := 12) (k1 := 0) (n1 := 0) (k2 := 0) (n2 := 0) dX12_shapesRun_53 kO_X12_doesStage kL_X12_390 (l_128 hL) (k_128 hL) ⟨by decide, rfl⟩ rfl (by decide) (by decide) (by exact Nat.le_of_ble_eq_true rfl) rfl ?_
  refine sp_X12_doesStage h (by decide) (fun M w h => ?_)
  have hL := h.lay
  have h : mX c f M0 (r1 c f 1 k e) w M := h
  refine gKn ?_
  refine E_iload dX12_shapesRun_56 rfl ?_
  refine E_if_ne (tgt := 65) dX12_shapesRun_58 (by decide) (fun c0 => absurd c0 (by decide)) (fun _ => ?_)
  refine E_aload_n dX12_shapesRun_61 rfl ?_
  refine E_callV0 (fr' := 3) (k1 := 0) (n1 := 0) (k2 := 0) (n2 := 0) dX12_shapesRun_62 kO_X12_movesBack kL_X12_393 (l_128 hL) (k_128 hL) ⟨by decide, rfl⟩  (by decide) (by decide) (by exact Nat.le_of_ble_eq_true rfl) rfl ?_
  refine sp_X12_movesBack h (fun M h => ?_)
  have hL := h.lay
  refine gKn ?_
  refine E_aload_n dX12_shapesRun_65 rfl ?_
  refine E_iconst (v := nI 1) dX12_shapesRun_66 (by decide) ?_
  refine E_callV1 (fr' := 12) (k1 := 0) (n1 := 0) (k2 := 0) (n2 := 0) dX12_shapesRun_67 kO_X12_doesStage kL_X12_390 (l_128 hL) (k_128 hL) ⟨by decide, rfl⟩ rfl (by decide) (by decide) (by exact Nat.le_of_ble_eq_true rfl) rfl ?_
  have e2 : r2 c f 1 k e = _ := cI_f (by decide)
  rw [← e2] at h
  refine sp_X12_doesStage h (by decide) (fun M w h => ?_)
  have hL := h.lay
  have h : mX c f M0 (r3 c f 1 k e) w M := h
  refine gKn ?_
  exact K _ _ h
set_option maxRecDepth 100000 in
set_option maxHeartbeats 4000000 in
theorem sp_X12_shapesRun {g : gG} {M : gM} {Q : Option Value ⊕ String → gM → Prop} {c : Cf} (h : bS c M) {a b k e s G : Nat} {left : Int32} (hS : scS c a b b M) (hs : s = scr c a b k) (ha : a ≤ k) (hke : k < e) (heb : e ≤ b) (hb : b ≤ 16) (hG : mI M 128 36 = nI G) (hGb : G + 64 ≤ 1024) (K : ∀ M', fr (rnR G (r4 c (fcO c k) s k e).length) M M' → rnS c (fcO c k) s left G (r4 c (fcO c k) s k e) M' → Q (.inl none) M') : E g 13 0 0 mX12_shapesRun 0 [.ref 129, .int (nI k), .int (nI e), .int left, .null, .null, .null] [] M Q := by
  have hL := h.lay
  have hfb := fcO_b h.wf k
  have hsb := scr_b c a b k
  have f20 : mI (sI M 128 21 (nI 0)) 144 k = nI (fcO c k) := (mI_ne (by decide)).trans (hS k ha (by omega)).2
  have f18 : mI (sI (sI M 128 21 (nI 0)) 128 20 (nI (fcO c k))) 143 k = nI s := (mI_ne (by decide)).trans ((mI_ne (by decide)).trans (by rw [hs]; exact (hS k ha (by omega)).1))
  have hR1 : fr (rnR G (r4 c (fcO c k) s k e).length) M (sI (sI M 128 21 (nI 0)) 128 20 (nI (fcO c k))) := (fr.refl.wr (Or.inl (Or.inr ⟨rfl, Or.inl rfl⟩))).wr (Or.inr (Or.inl ⟨rfl, Or.inl rfl⟩))
  have hb1 : bS c (sI (sI M 128 21 (nI 0)) 128 20 (nI (fcO c k))) := h.fr hR1 (fun a j q => by unfold rnR rowR oR at q; unfold cfA; omega)
  have hx1 : mX c (fcO c k) (sI (sI M 128 21 (nI 0)) 128 20 (nI (fcO c k))) [] (mI (sI (sI M 128 21 (nI 0)) 128 20 (nI (fcO c k))) 128 35) (sI (sI M 128 21 (nI 0)) 128 20 (nI (fcO c k))) :=
    ⟨⟨⟨hb1.lay, hb1.2.1, hb1.wf, by omega, mI_eq⟩, fr.refl, (mI_nj (by decide)).trans mI_eq, rfl, fun i x q => by cases q⟩, ⟨Nat.zero_le _, fun x hx => by cases hx⟩⟩
  have tail : ∀ Mz w, mX c (fcO c k) (sI (sI M 128 21 (nI 0)) 128 20 (nI (fcO c k))) (r3 c (fcO c k) s k e) w Mz → E g 13 0 0 mX12_shapesRun 70 [.ref 129, .int (nI k), .int (nI e), .int left, .int (nI (jnO s)), .null, .null] [] Mz Q := by
    intro Mz w h
    have hL := h.lay
    have hG2 := hG
    clear hb1 hx1
    refine E_aload_n dX12_shapesRun_70 rfl ?_
    refine E_callV0 (fr' := 3) (k1 := 0) (n1 := 0) (k2 := 0) (n2 := 0) dX12_shapesRun_71 kO_X12_takesOut kL_X12_396 (l_128 hL) (k_128 hL) ⟨by decide, rfl⟩  (by decide) (by decide) (by exact Nat.le_of_ble_eq_true rfl) rfl ?_
    refine sp_X12_takesOut h (fun M h => ?_)
    have hL := h.lay
    have h : mX c (fcO c k) _ (r4 c (fcO c k) s k e) _ M := h
    refine gKn ?_
    refine E_aload_n dX12_shapesRun_74 rfl ?_
    refine E_callV0 (fr' := 5) (k1 := 0) (n1 := 0) (k2 := 0) (n2 := 0) dX12_shapesRun_75 kO_X12_laysPlaces kL_X12_399 (l_128 hL) (k_128 hL) ⟨by decide, rfl⟩  (by decide) (by decide) (by exact Nat.le_of_ble_eq_true rfl) rfl ?_
    refine sp_X12_laysPlaces h (fun M hp => ?_)
    have h := hp.1
    have hL := h.lay
    refine gKn ?_
    refine E_aload_n dX12_shapesRun_78 rfl ?_
    refine E_iload dX12_shapesRun_79 rfl ?_
    refine E_iload_n dX12_shapesRun_81 rfl ?_
    refine E_callV2 (fr' := 2) (k1 := 0) (n1 := 0) (k2 := 0) (n2 := 0) dX12_shapesRun_82 kO_X12_stands kL_X12_402 (l_128 hL) (k_128 hL) ⟨by decide, rfl⟩ rfl rfl (by decide) (by decide) (by exact Nat.le_of_ble_eq_true rfl) rfl ?_
    refine sp_X12_stands hp (jnO_b s) (onK_plc _ _ _ _) (fun M hp hx => ?_)
    have h := hp.1
    have hL := h.lay
    have hn := h.len
    have hF := h.1.2.1
    refine gKn ?_
    refine E_iconst (v := nI 0) dX12_shapesRun_85 (by decide) ?_
    refine E_istore dX12_shapesRun_86 (Nat.le_of_ble_eq_true rfl) (by decide) rfl ?_
    have hp : mP c (fcO c k) _ (r4 c (fcO c k) s k e) _ (stB c (fcO c k) s left (r4 c (fcO c k) s k e)) _ := hp
    have hG3 := (hF.bk (a := 128) (j := 36) (by unfold rowR; omega)).trans ((mI_nj (by decide)).trans ((mI_nj (by decide)).trans hG))
    refine lp_X12_shapesRun (G := G) hp hx (by omega) hG3 (fun M v6 hF2 hO => ?_) 0 (Nat.zero_le _) _ _ fr.refl (fun q j _ hj => by omega)
    have hL := hF2.lay h.lay
    have q36 := (hF2.bk (a := 128) (j := 36) (by unfold oR; omega)).trans hG3
    have q21 := (hF2.bk (a := 128) (j := 21) (by unfold oR; omega)).trans h.gn
    refine E_aload_n dX12_shapesRun_246 rfl ?_
    refine E_dup dX12_shapesRun_247 rfl ?_
    refine E_getIL (v := nI G) dX12_shapesRun_248 kF_X12_406 kY_12 (Or.inl rfl) (l_128 hL) (k_128 hL) q36 ?_
    refine E_aload_n dX12_shapesRun_251 rfl ?_
    refine E_getIL (v := nI (r4 c (fcO c k) s k e).length) dX12_shapesRun_252 kF_X12_235 kY_12 (Or.inl rfl) (l_128 hL) (k_128 hL) q21 ?_
    refine E_iadd_n dX12_shapesRun_255 ?_
    refine E_putI dX12_shapesRun_256 kF_X12_406 kY_12 (Or.inl rfl) (l_128 hL) (k_128 hL) (Or.inl rfl) ?_
    refine E_vret dX12_shapesRun_259 rfl ?_
    have hF3 := (hF.mono (S' := rnR G (r4 c (fcO c k) s k e).length) (fun a j q => Or.inl q)).trans (hF2.mono (fun a j q => Or.inr (Or.inr q)))
    refine K _ ((hR1.trans hF3).wr (Or.inr (Or.inl ⟨rfl, Or.inr rfl⟩))) ⟨h.ok, (mI_nj (by decide)).trans q21, mI_eq, fun i hi => ?_, fun q j hq hj => (mI_ne (by omega)).trans (hO q j hq hj)⟩
    refine (mI_ne (by decide)).trans ((hF2.bk (by unfold oR; omega)).trans ((hp.at (q := 0) (by decide) hi).trans ?_))
    unfold stB
    rw [std_r (by decide) (by decide)]
  refine E_aload_n dX12_shapesRun_0 rfl ?_
  refine E_iconst (v := nI 0) dX12_shapesRun_1 (by decide) ?_
  refine E_putI dX12_shapesRun_2 kF_X12_235 kY_12 (Or.inl rfl) (l_128 hL) (k_128 hL) (Or.inl rfl) ?_
  refine E_aload_n dX12_shapesRun_5 rfl ?_
  refine E_aload_n dX12_shapesRun_6 rfl ?_
  refine E_getRL dX12_shapesRun_7 kF_X12_60 kY_12 (Or.inr ⟨_, rfl⟩) (l_128 hL) (k_128 hL) (r_128_19 hL) ?_
  refine E_iload_n dX12_shapesRun_10 rfl ?_
  refine E_ialdL (v := nI (fcO c k)) dX12_shapesRun_11 (l_144 hL) (k_144 hL) rfl (by first | omega | exact h.n256 _) (by decide) f20 ?_
  refine E_putI dX12_shapesRun_12 kF_X12_279 kY_12 (Or.inl rfl) (l_128 hL) (k_128 hL) (Or.inl rfl) ?_
  refine E_aload_n dX12_shapesRun_15 rfl ?_
  refine E_getRL dX12_shapesRun_16 kF_X12_57 kY_12 (Or.inr ⟨_, rfl⟩) (l_128 hL) (k_128 hL) (r_128_18 hL) ?_
  refine E_iload_n dX12_shapesRun_19 rfl ?_
  refine E_ialdL (v := nI s) dX12_shapesRun_20 (l_143 hL) (k_143 hL) rfl (by first | omega | exact h.n256 _) (by decide) f18 ?_
  refine E_if_ne_n (tgt := 28) dX12_shapesRun_21 (by decide) (by omega) (fun c_21 => ?_) (fun c_21 => ?_)
  · refine E_iconst (v := nI 0) dX12_shapesRun_28 (by decide) ?_
    refine E_istore dX12_shapesRun_29 (Nat.le_of_ble_eq_true rfl) (by decide) rfl ?_
    first
      | (have es : s = 0 := by omega
         rw [es] at tail
         exact t_X12_shapesRunJ hx1 (Nat.le_of_lt hke) (by omega) tail)
      | (have es : s = 1 := by omega
         rw [es] at tail
         exact t_X12_shapesRunS hx1 (Nat.le_of_lt hke) (by omega) tail)
  · refine E_iconst (v := nI 1) dX12_shapesRun_24 (by decide) ?_
    refine E_goto (tgt := 29) dX12_shapesRun_25 (by decide) ?_
    refine E_istore dX12_shapesRun_29 (Nat.le_of_ble_eq_true rfl) (by decide) rfl ?_
    first
      | (have es : s = 0 := by omega
         rw [es] at tail
         exact t_X12_shapesRunJ hx1 (Nat.le_of_lt hke) (by omega) tail)
      | (have es : s = 1 := by omega
         rw [es] at tail
         exact t_X12_shapesRunS hx1 (Nat.le_of_lt hke) (by omega) tail)
