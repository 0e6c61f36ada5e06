/-! the law: extras told -/
def exK (c : Cf) (a k v : Nat) : Cf := (fun q i => if q = 142 then exF (cN c 142) a k v i else cN c q i, c.2)
theorem exK_a (c : Cf) (a v : Nat) : exK c a a v = c := by
  have : (fun q i => if q = 142 then exF (cN c 142) a a v i else cN c q i) = c.1 := by
    funext q i
    by_cases e : q = 142
    · subst e
      rw [if_pos rfl]
      unfold exF
      rw [if_neg (by omega)]
      rfl
    · rw [if_neg e]; rfl
  unfold exK
  rw [this]
theorem exK_s {c : Cf} {a k v : Nat} (h : a ≤ k) : uN (exK c a k v) 142 k v = exK c a (k + 1) v := by
  have : u2 (exK c a k v).1 142 k v = (exK c a (k + 1) v).1 := by
    funext q i
    show (if q = 142 ∧ i = k then v else if q = 142 then exF (cN c 142) a k v i else cN c q i) = if q = 142 then exF (cN c 142) a (k + 1) v i else cN c q i
    by_cases e : q = 142
    · unfold exF
      by_cases e2 : i = k
      · rw [if_pos ⟨e, e2⟩, if_pos e, if_pos (by omega)]
      · rw [if_neg (fun z => e2 z.2), if_pos e, if_pos e]
        by_cases e3 : a ≤ i ∧ i < k
        · rw [if_pos e3, if_pos (by omega)]
        · rw [if_neg e3, if_neg (by omega)]
    · rw [if_neg (fun z => e z.1), if_neg e, if_neg e]
  unfold uN
  rw [this]
  rfl
theorem exK_k {c : Cf} {a k v : Nat} : cN (exK c a k v) 142 k = cN c 142 k := by
  show exF (cN c 142) a k v k = _
  unfold exF
  rw [if_neg (by omega)]
theorem zS_ex {c : Cf} {M : gM} (h : zS c M) {k v : Nat} (hk : k < tl c) (hv : v ≤ 3) : zS (uN c 142 k v) (sI M 128 k (nI (cN c 141 k + v * 2 ^ 6))) := by
  refine h.tx' (h.lay.of (Nat.le_refl _) (fun _ _ => rfl) (fun _ _ => rfl)) (h.wf.set (by decide) (by omega)) (fun a j _ _ _ q => by rw [cN_u, if_neg (fun y => q y.1)]) rfl (fun a j q q2 q3 _ => mI_ne (by omega)) (fun _ => rfl) h.t10 (fun k hk => h.sg hk) (fun j hj => ?_) ((mI_ne (by decide)).trans h.b1) ((mI_ne (by decide)).trans h.b2)
  by_cases e : j = k
  · subst e
    rw [mI_eq]
    unfold tEn
    rw [cN_u, if_neg (by omega), cN_u, if_pos ⟨rfl, rfl⟩]
    exact congrArg nI (by omega)
  · rw [mI_nj e]
    refine (h.tx hj).trans ?_
    unfold tEn
    rw [cN_u, if_neg (by omega), cN_u, if_neg (by omega)]
set_option maxRecDepth 100000 in
set_option maxHeartbeats 4000000 in
theorem x1_L_law {g : gG} {Q : Option Value ⊕ String → gM → Prop} (hst : (gl1 g).stackTraces = false) {i kk nn : Nat} (hi : i < 110) (K : ∀ M, Q (.inl (some (.int (nI 1)))) M) (IH : ∀ c P π M lk v16 v17 v18 v19 v20 v21 v22 v23 v24, lwS c P π M → lkS c lk → E g 13 kk nn mL_law 205 [.float 0, .ref 1, .ref 129, .ref 130, .ref 131, .ref 132, .ref 133, .ref 134, .ref 135, .ref 136, .ref 137, .ref 138, .ref 139, .long lk, .null, .int (nI (i + 1)), v16, v17, v18, v19, v20, v21, v22, v23, v24] [] M Q) {M : gM} {c : Cf} {P π : Nat → Nat} {lk : Int64} (hs : lwS c P π M) (hlk : lkS c lk) {act : Nat} {u cc : Int32} {a b v : Nat} (hab : a ≤ b) (hb : b < tl c) (hv : v ≤ 3) {k : Nat} (hk : k = b + 1) {v24 : Value} : ∀ M, kS c P π M → zS (nxE c a b v) M → mI M 132 10 = nI 0 → E g 13 (kk + 900) (nn + 15000) mL_law 906 [.float 0, .ref 1, .ref 129, .ref 130, .ref 131, .ref 132, .ref 133, .ref 134, .ref 135, .ref 136, .ref 137, .ref 138, .ref 139, .long lk, .null, .int (nI i), .int (nI act), .int u, .int cc, .int (nI 1), .int (nI a), .int (nI b), .int (nI v), .int (nI (exC (cN c 142) a v k)), v24] [] M Q := by
  have hS := hs.1
  have h := hs.2.1
  have hI := hs.2.2.1
  have hW := hs.2.2.2.1
  have h10 := hs.2.2.2.2
  have hL := h.lay
  have hf : fc0 c < 2 := h.wf.1.1
  have hct := h.ct hf
  have ht10 := h.t10
  have hex : iBel (nI a) (tl c) ∧ iBel (nI b) (tl c) ∧ nI a ≤ nI b := ⟨(iBel_iff (by omega)).mpr ⟨a, by omega, rfl⟩, (iBel_iff (by omega)).mpr ⟨b, hb, rfl⟩, (nI_leI (by omega) (by omega)).mpr hab⟩
  have hnb : ¬ iBel (nI (tl c)) (tl c) := fun q => by
    obtain ⟨j, h1, h2⟩ := (iBel_iff (c := tl c) (by omega)).mp q
    have := (nI_eq (by omega) (by omega)).mp h2
    omega
  have hI0 := hI
  have hW0 := hW
  clear h hS h10 hL
  intro M hS1 hz1 h101
  have hL := hz1.lay
  have hb1 : mI M 132 1 = nI (tl c) := hz1.b1
  have hex2 := exC_b (cN c 142) a v k
  have hx := wf_tx hI hW (c' := nxE c a b v) (fun q i z => by show (if q = 142 then _ else _) = _; rw [if_neg (by omega)]) rfl
  refine E_aload_n dL_law_906 rfl ?_
  refine E_iload dL_law_907 rfl ?_
  refine E_iload dL_law_909 rfl ?_
  refine E_iconst (v := nI 4) dL_law_911 (by decide) ?_
  refine E_room (Nat.le_refl _) (k' := 3 + (kk + 897)) (n' := 18 + (nn + 14982)) (by omega) (by omega) ?_
  refine E_callT4 (fr' := 9) (k1 := 3) (n1 := 18) (k2 := (kk + 897)) (n2 := (nn + 14982)) dL_law_912 kO_L_setExtra kL_L_325 (by exact Nat.le_of_ble_eq_true rfl) (by decide) (by exact Nat.le_of_ble_eq_true rfl) (Or.inr (gW_at 656 (by decide +kernel) (by decide +kernel))) rfl ?_
  refine w_setExtra hst hS1 (fun i j v2 _ _ _ _ z e _ _ _ => absurd ((nI_eq (by omega) (by omega)).mp e) (by omega)) (fun z => absurd hex z) (fun z z2 => ?_)
  refine gKv ?_
  refine E_sipush (v := -7200) dL_law_915 (by decide) ?_
  refine E_icmp_ne_r (tgt := 979) dL_law_918 (by decide) (fun c0 => absurd c0 (by decide)) (fun _ => ?_)
  refine E_aload_n dL_law_921 rfl ?_
  refine E_iload dL_law_922 rfl ?_
  refine E_aload dL_law_924 rfl ?_
  refine E_iconst (v := nI 1) dL_law_926 (by decide) ?_
  refine E_ialdL (v := nI (tl c)) dL_law_927 (l_132 hL) (k_132 hL) rfl (by omega) (by decide) hb1 ?_
  refine E_iconst (v := nI 0) dL_law_928 (by decide) ?_
  refine E_room (Nat.le_refl _) (k' := 3 + (kk + 894)) (n' := 18 + (nn + 14964)) (by omega) (by omega) ?_
  refine E_callT4 (fr' := 9) (k1 := 3) (n1 := 18) (k2 := (kk + 894)) (n2 := (nn + 14964)) dL_law_929 kO_L_setExtra kL_L_325 (by exact Nat.le_of_ble_eq_true rfl) (by decide) (by exact Nat.le_of_ble_eq_true rfl) (Or.inr (gW_at 656 (by decide +kernel) (by decide +kernel))) rfl ?_
  refine w_setExtra hst hS1 (fun i j v2 _ z _ e _ _ _ _ _ => absurd ((nI_eq (by omega) (by omega)).mp e) (by omega)) (fun z => ?_) (fun z _ => absurd z.2.1 hnb)
  refine gKv ?_
  refine E_sipush (v := -7100) dL_law_932 (by decide) ?_
  refine E_icmp_ne_r (tgt := 979) dL_law_935 (by decide) (fun c0 => absurd c0 (by decide)) (fun _ => ?_)
  refine E_iload dL_law_938 rfl ?_
  refine E_if_eq_n (tgt := 960) dL_law_940 (by decide) (by omega) (fun c_940 => ?_) (fun c_940 => ?_)
  · refine E_aload_n dL_law_960 rfl ?_
    refine E_iload dL_law_961 rfl ?_
    refine E_iload dL_law_963 rfl ?_
    refine E_iload dL_law_965 rfl ?_
    refine E_room (Nat.le_refl _) (k' := 3 + (kk + 891)) (n' := 18 + (nn + 14946)) (by omega) (by omega) ?_
    refine E_callT4 (fr' := 9) (k1 := 3) (n1 := 18) (k2 := (kk + 891)) (n2 := (nn + 14946)) dL_law_967 kO_L_setExtra kL_L_325 (by exact Nat.le_of_ble_eq_true rfl) (by decide) (by exact Nat.le_of_ble_eq_true rfl) (Or.inr (gW_at 656 (by decide +kernel) (by decide +kernel))) rfl ?_
    refine w_setExtra hst hS1 (fun i j v2 z z2 e e2 z3 e3 M2 hS2 hkd => ?_) (fun z => absurd hex z) (fun z z2 => absurd (in_n (by omega) (by decide)) z2)
    obtain rfl : a = i := (nI_eq (by omega) (by omega)).mp e
    obtain rfl : b = j := (nI_eq (by omega) (by omega)).mp e2
    obtain rfl : v = v2 := (nI_eq (by omega) (by omega)).mp e3
    have hL2 := hS2.1.lay
    have hz2 := hz1.kd hkd hL2
    have h102 := ((hkd.2.2 132 10 (by decide) (by decide)).1).trans h101
    have hex3 := exC_b (cN c 142) a v (b + 1)
    refine gKv ?_
    refine E_iload dL_law_970 rfl ?_
    refine E_icmp_ne_n (tgt := 979) dL_law_972 (by decide) (by omega) (by omega) (fun c_972 => ?_) (fun c_972 => ?_)
    · exact absurd (by rw [hk]) c_972
    · refine E_iconst (v := nI 1) dL_law_975 (by decide) ?_
      refine E_goto (tgt := 980) dL_law_976 (by decide) ?_
      refine E_istore dL_law_980 (Nat.le_of_ble_eq_true rfl) (by decide) rfl ?_
      refine E_goto (tgt := 1260) dL_law_982 (by decide) ?_
      exact E_room (Nat.le_refl _) (by omega) (by omega) (te_L_law (act := 0) hst hi K IH ⟨hS2, hz2, hx.1, hx.2, h102⟩ (hlk.cg (fun j => rfl)))
  · refine E_aload_n dL_law_943 rfl ?_
    refine E_iload dL_law_944 rfl ?_
    refine E_iload dL_law_946 rfl ?_
    refine E_iconst (v := nI 1) dL_law_948 (by decide) ?_
    refine E_isub_n dL_law_949 (by omega) ?_
    refine E_iconst (v := nI 4) dL_law_950 (by decide) ?_
    refine E_room (Nat.le_refl _) (k' := 3 + (kk + 891)) (n' := 18 + (nn + 14946)) (by omega) (by omega) ?_
    refine E_callT4 (fr' := 9) (k1 := 3) (n1 := 18) (k2 := (kk + 891)) (n2 := (nn + 14946)) dL_law_951 kO_L_setExtra kL_L_325 (by exact Nat.le_of_ble_eq_true rfl) (by decide) (by exact Nat.le_of_ble_eq_true rfl) (Or.inr (gW_at 656 (by decide +kernel) (by decide +kernel))) rfl ?_
    refine w_setExtra hst hS1 (fun i j v2 z z2 e e2 _ _ _ _ _ => ?_) (fun z => ?_) (fun z _ => absurd ((nI_leI (by omega) (by omega)).mp z.2.2) (by omega))
    · exfalso
      have := (nI_eq (by omega) (by omega)).mp e
      have := (nI_eq (by omega) (by omega)).mp e2
      omega
    refine gKv ?_
    refine E_sipush (v := -7100) dL_law_954 (by decide) ?_
    refine E_icmp_ne_r (tgt := 979) dL_law_957 (by decide) (fun c0 => absurd c0 (by decide)) (fun _ => ?_)
    refine E_aload_n dL_law_960 rfl ?_
    refine E_iload dL_law_961 rfl ?_
    refine E_iload dL_law_963 rfl ?_
    refine E_iload dL_law_965 rfl ?_
    refine E_room (Nat.le_refl _) (k' := 3 + (kk + 888)) (n' := 18 + (nn + 14928)) (by omega) (by omega) ?_
    refine E_callT4 (fr' := 9) (k1 := 3) (n1 := 18) (k2 := (kk + 888)) (n2 := (nn + 14928)) dL_law_967 kO_L_setExtra kL_L_325 (by exact Nat.le_of_ble_eq_true rfl) (by decide) (by exact Nat.le_of_ble_eq_true rfl) (Or.inr (gW_at 656 (by decide +kernel) (by decide +kernel))) rfl ?_
    refine w_setExtra hst hS1 (fun i j v2 z z2 e e2 z3 e3 M2 hS2 hkd => ?_) (fun z => absurd hex z) (fun z z2 => absurd (in_n (by omega) (by decide)) z2)
    obtain rfl : a = i := (nI_eq (by omega) (by omega)).mp e
    obtain rfl : b = j := (nI_eq (by omega) (by omega)).mp e2
    obtain rfl : v = v2 := (nI_eq (by omega) (by omega)).mp e3
    have hL2 := hS2.1.lay
    have hz2 := hz1.kd hkd hL2
    have h102 := ((hkd.2.2 132 10 (by decide) (by decide)).1).trans h101
    have hex3 := exC_b (cN c 142) a v (b + 1)
    refine gKv ?_
    refine E_iload dL_law_970 rfl ?_
    refine E_icmp_ne_n (tgt := 979) dL_law_972 (by decide) (by omega) (by omega) (fun c_972 => ?_) (fun c_972 => ?_)
    · exact absurd (by rw [hk]) c_972
    · refine E_iconst (v := nI 1) dL_law_975 (by decide) ?_
      refine E_goto (tgt := 980) dL_law_976 (by decide) ?_
      refine E_istore dL_law_980 (Nat.le_of_ble_eq_true rfl) (by decide) rfl ?_
      refine E_goto (tgt := 1260) dL_law_982 (by decide) ?_
      exact E_room (Nat.le_refl _) (by omega) (by omega) (te_L_law (act := 0) hst hi K IH ⟨hS2, hz2, hx.1, hx.2, h102⟩ (hlk.cg (fun j => rfl)))
set_option maxRecDepth 100000 in
set_option maxHeartbeats 4000000 in
theorem x0_L_law {g : gG} {Q : Option Value ⊕ String → gM → Prop} (hst : (gl1 g).stackTraces = false) {i kk nn : Nat} (hi : i < 110) (K : ∀ M, Q (.inl (some (.int (nI 1)))) M) (IH : ∀ c P π M lk v16 v17 v18 v19 v20 v21 v22 v23 v24, lwS c P π M → lkS c lk → E g 13 kk nn mL_law 205 [.float 0, .ref 1, .ref 129, .ref 130, .ref 131, .ref 132, .ref 133, .ref 134, .ref 135, .ref 136, .ref 137, .ref 138, .ref 139, .long lk, .null, .int (nI (i + 1)), v16, v17, v18, v19, v20, v21, v22, v23, v24] [] M Q) {M : gM} {c : Cf} {P π : Nat → Nat} {lk : Int64} (hs : lwS c P π M) (hlk : lkS c lk) {act : Nat} {u cc : Int32} {a b v : Nat} (hab : a ≤ b) (hb : b < tl c) (hv : v ≤ 3) : ∀ k, k ≤ b + 1 → a ≤ k → ∀ M, kS c P π M → zS (exK c a k v) M → mI M 132 10 = nI 0 → E g 13 (kk + 900) (nn + 15000) mL_law 854 [.float 0, .ref 1, .ref 129, .ref 130, .ref 131, .ref 132, .ref 133, .ref 134, .ref 135, .ref 136, .ref 137, .ref 138, .ref 139, .long lk, .null, .int (nI i), .int (nI act), .int u, .int cc, .int (nI 1), .int (nI a), .int (nI b), .int (nI v), .int (nI (exC (cN c 142) a v k)), .int (nI k)] [] M Q := by
  refine lpUp (b + 1) (fun k hk ih => ?_)
  intro hak
  have hS := hs.1
  have h := hs.2.1
  have hI := hs.2.2.1
  have hW := hs.2.2.2.1
  have h10 := hs.2.2.2.2
  have hL := h.lay
  have hf : fc0 c < 2 := h.wf.1.1
  have hct := h.ct hf
  have ht10 := h.t10
  clear h hS h10 hL
  intro M hS1 hz h101
  have hL := hz.lay
  have hex2 := exC_b (cN c 142) a v k
  refine E_iload dL_law_854 rfl ?_
  refine E_iload dL_law_856 rfl ?_
  refine E_icmp_gt_n (tgt := 906) dL_law_858 (by decide) (by omega) (by omega) (fun c_858 => ?_) (fun c_858 => ?_)
  · obtain rfl : k = b + 1 := by omega
    exact x1_L_law hst hi K IH hs hlk hab hb hv rfl M hS1 hz h101
  · have hkt : k < tl (exK c a k v) := by show k < tl c; omega
    have h141 := (tEn_b hz.wf k).1
    have e141 : cN (exK c a k v) 141 k = cN c 141 k := rfl
    have h142 := (tEn_b hz.wf k).2
    have e142 : cN (exK c a k v) 142 k = cN c 142 k := exK_k
    rw [e142] at h142
    rw [e141] at h141
    have eor : nI (cN c 141 k) ||| (nI v <<< (nI 6 &&& 31)) = nI (cN c 141 k + v * 2 ^ 6) := by rw [zs_shl _ (by decide), nx_or, or_pw (by omega)]
    have hz2 : zS (exK c a (k + 1) v) (sI M 128 k (nI (cN c 141 k + v * 2 ^ 6))) := by
      rw [← exK_s hak]; exact zS_ex hz hkt hv
    have hS2 : kS c P π (sI M 128 k (nI (cN c 141 k + v * 2 ^ 6))) := hS1.law hS1.C (Nat.le_refl _) (fun _ _ => rfl) (fun a j q q2 => mI_ne (by omega)) (fun _ _ _ => rfl)
    have ih := ih (by omega) (by omega) _ hS2 hz2 ((mI_ne (by decide)).trans h101)
    refine E_iload dL_law_861 rfl ?_
    refine E_aload_n dL_law_863 rfl ?_
    refine E_iload dL_law_864 rfl ?_
    refine E_ialdL (v := nI (tEn (exK c a k v) k)) dL_law_866 (l_128 hL) (k_128 hL) rfl (by omega) (by decide) (hz.tx hkt) ?_
    refine E_bipush (v := nI 6) dL_law_867 (by decide) ?_
    refine E_ishr dL_law_869 ?_
    rw [tE_6 hz.wf, e142]
    refine E_iload dL_law_870 rfl ?_
    refine E_icmp_ne_n (tgt := 879) dL_law_872 (by decide) (by omega) (by omega) (fun c_872 => ?_) (fun c_872 => ?_)
    · refine E_iconst (v := nI 1) dL_law_879 (by decide) ?_
      refine E_iadd_n dL_law_880 ?_
      refine E_istore dL_law_881 (Nat.le_of_ble_eq_true rfl) (by decide) rfl ?_
      refine E_aload_n dL_law_883 rfl ?_
      refine E_iload dL_law_884 rfl ?_
      refine E_aload_n dL_law_886 rfl ?_
      refine E_iload dL_law_887 rfl ?_
      refine E_ialdL (v := nI (tEn (exK c a k v) k)) dL_law_889 (l_128 hL) (k_128 hL) rfl (by omega) (by decide) (hz.tx hkt) ?_
      refine E_bipush (v := nI 63) dL_law_890 (by decide) ?_
      refine E_iand dL_law_892 ?_
      rw [tE_63 hz.wf, e141]
      refine E_iload dL_law_893 rfl ?_
      refine E_bipush (v := nI 6) dL_law_895 (by decide) ?_
      refine E_ishl dL_law_897 ?_
      refine E_ior dL_law_898 ?_
      rw [eor]
      refine E_iast dL_law_899 (l_128 hL) (k_128 hL) rfl (by omega) (by decide) ?_
      refine E_iinc_n (d := 1) dL_law_900 rfl rfl rfl (by decide) rfl ?_
      refine E_goto (tgt := 854) dL_law_903 (by decide) ?_
      first
        | (rw [show exC (cN c 142) a v (k + 1) = exC (cN c 142) a v k + 1 from by show _ + cI _ _ _ = _; rw [cI_t ⟨hak, c_872⟩]] at ih
           exact ih)
        | (rw [show exC (cN c 142) a v (k + 1) = exC (cN c 142) a v k + 0 from by show _ + cI _ _ _ = _; rw [cI_f (fun z => z.2 c_872)]] at ih
           exact ih)
    · refine E_iconst (v := nI 0) dL_law_875 (by decide) ?_
      refine E_goto (tgt := 880) dL_law_876 (by decide) ?_
      refine E_iadd_n dL_law_880 ?_
      refine E_istore dL_law_881 (Nat.le_of_ble_eq_true rfl) (by decide) rfl ?_
      refine E_aload_n dL_law_883 rfl ?_
      refine E_iload dL_law_884 rfl ?_
      refine E_aload_n dL_law_886 rfl ?_
      refine E_iload dL_law_887 rfl ?_
      refine E_ialdL (v := nI (tEn (exK c a k v) k)) dL_law_889 (l_128 hL) (k_128 hL) rfl (by omega) (by decide) (hz.tx hkt) ?_
      refine E_bipush (v := nI 63) dL_law_890 (by decide) ?_
      refine E_iand dL_law_892 ?_
      rw [tE_63 hz.wf, e141]
      refine E_iload dL_law_893 rfl ?_
      refine E_bipush (v := nI 6) dL_law_895 (by decide) ?_
      refine E_ishl dL_law_897 ?_
      refine E_ior dL_law_898 ?_
      rw [eor]
      refine E_iast dL_law_899 (l_128 hL) (k_128 hL) rfl (by omega) (by decide) ?_
      refine E_iinc_n (d := 1) dL_law_900 rfl rfl rfl (by decide) rfl ?_
      refine E_goto (tgt := 854) dL_law_903 (by decide) ?_
      first
        | (rw [show exC (cN c 142) a v (k + 1) = exC (cN c 142) a v k + 1 from by show _ + cI _ _ _ = _; rw [cI_t ⟨hak, c_872⟩]] at ih
           exact ih)
        | (rw [show exC (cN c 142) a v (k + 1) = exC (cN c 142) a v k + 0 from by show _ + cI _ _ _ = _; rw [cI_f (fun z => z.2 c_872)]] at ih
           exact ih)
set_option maxRecDepth 100000 in
set_option maxHeartbeats 4000000 in
theorem tx_L_law {g : gG} {Q : Option Value ⊕ String → gM → Prop} (hst : (gl1 g).stackTraces = false) {i kk nn : Nat} (hi : i < 110) (K : ∀ M, Q (.inl (some (.int (nI 1)))) M) (IH : ∀ c P π M lk v16 v17 v18 v19 v20 v21 v22 v23 v24, lwS c P π M → lkS c lk → E g 13 kk nn mL_law 205 [.float 0, .ref 1, .ref 129, .ref 130, .ref 131, .ref 132, .ref 133, .ref 134, .ref 135, .ref 136, .ref 137, .ref 138, .ref 139, .long lk, .null, .int (nI (i + 1)), v16, v17, v18, v19, v20, v21, v22, v23, v24] [] M Q) {M : gM} {c : Cf} {P π : Nat → Nat} {lk : Int64} (hs : lwS c P π M) (hlk : lkS c lk) {act : Nat} {u cc : Int32} {v20 v21 v22 v23 v24 : Value} (h0 : 0 < tl c) : E g 13 (kk + 900) (nn + 15000) mL_law 809 [.float 0, .ref 1, .ref 129, .ref 130, .ref 131, .ref 132, .ref 133, .ref 134, .ref 135, .ref 136, .ref 137, .ref 138, .ref 139, .long lk, .null, .int (nI i), .int (nI act), .int u, .int cc, .int (nI 1), v20, v21, v22, v23, v24] [] M Q := by
  have hS := hs.1
  have h := hs.2.1
  have hI := hs.2.2.1
  have hW := hs.2.2.2.1
  have h10 := hs.2.2.2.2
  have hL := h.lay
  have hf : fc0 c < 2 := h.wf.1.1
  have hct := h.ct hf
  have ht10 := h.t10
  refine E_iload dL_law_809 rfl ?_
  refine E_aload dL_law_811 rfl ?_
  refine E_iconst (v := nI 1) dL_law_813 (by decide) ?_
  refine E_ialdL (v := nI (tl c)) dL_law_814 (l_132 hL) (k_132 hL) rfl (by omega) (by decide) h.b1 ?_
  refine E_room (Nat.le_refl _) (k' := 0 + (kk + 900)) (n' := 0 + (nn + 15000)) (by omega) (by omega) ?_
  refine E_callT2 (fr' := 1) (k1 := 0) (n1 := 0) (k2 := (kk + 900)) (n2 := (nn + 15000)) dL_law_815 kO_L_low kL_L_229 (by exact Nat.le_of_ble_eq_true rfl) (by decide) (by exact Nat.le_of_ble_eq_true rfl) (Or.inl rfl) rfl ?_
  refine sp_L_low (by omega) (by omega) ?_
  have hla := lowN_lt u h0
  generalize lowN u (tl c) = la at hla ⊢
  refine gKv ?_
  refine E_istore dL_law_818 (Nat.le_of_ble_eq_true rfl) (by decide) rfl ?_
  refine E_iload dL_law_820 rfl ?_
  refine E_iload dL_law_822 rfl ?_
  refine E_iconst (v := nI 5) dL_law_824 (by decide) ?_
  refine E_ishr dL_law_825 ?_
  refine E_aload dL_law_826 rfl ?_
  refine E_iconst (v := nI 1) dL_law_828 (by decide) ?_
  refine E_ialdL (v := nI (tl c)) dL_law_829 (l_132 hL) (k_132 hL) rfl (by omega) (by decide) h.b1 ?_
  refine E_iload dL_law_830 rfl ?_
  refine E_isub_n dL_law_832 (by omega) ?_
  refine E_room (Nat.le_refl _) (k' := 0 + (kk + 900)) (n' := 0 + (nn + 15000)) (by omega) (by omega) ?_
  refine E_callT2 (fr' := 1) (k1 := 0) (n1 := 0) (k2 := (kk + 900)) (n2 := (nn + 15000)) dL_law_833 kO_L_low kL_L_229 (by exact Nat.le_of_ble_eq_true rfl) (by decide) (by exact Nat.le_of_ble_eq_true rfl) (Or.inl rfl) rfl ?_
  refine sp_L_low (by omega) (by omega) ?_
  have hlb := lowN_lt (u >>> (nI 5 &&& 31)) (n := tl c - la) (by omega)
  generalize lowN (u >>> (nI 5 &&& 31)) (tl c - la) = lb at hlb ⊢
  refine gKv ?_
  refine E_iadd_n dL_law_836 ?_
  refine E_istore dL_law_837 (Nat.le_of_ble_eq_true rfl) (by decide) rfl ?_
  refine E_iload dL_law_839 rfl ?_
  refine E_iconst (v := nI 4) dL_law_841 (by decide) ?_
  refine E_room (Nat.le_refl _) (k' := 0 + (kk + 900)) (n' := 0 + (nn + 15000)) (by omega) (by omega) ?_
  refine E_callT2 (fr' := 1) (k1 := 0) (n1 := 0) (k2 := (kk + 900)) (n2 := (nn + 15000)) dL_law_842 kO_L_low kL_L_229 (by exact Nat.le_of_ble_eq_true rfl) (by decide) (by exact Nat.le_of_ble_eq_true rfl) (Or.inl rfl) rfl ?_
  refine sp_L_low (by decide) (by decide) ?_
  have hlv := lowN_lt cc (n := 4) (by decide)
  generalize lowN cc 4 = lv at hlv ⊢
  refine gKv ?_
  refine E_istore dL_law_845 (Nat.le_of_ble_eq_true rfl) (by decide) rfl ?_
  refine E_iconst (v := nI 0) dL_law_847 (by decide) ?_
  refine E_istore dL_law_848 (Nat.le_of_ble_eq_true rfl) (by decide) rfl ?_
  refine E_iload dL_law_850 rfl ?_
  refine E_istore dL_law_852 (Nat.le_of_ble_eq_true rfl) (by decide) rfl ?_
  have z := x0_L_law hst hi K IH hs hlk (act := act) (u := u) (cc := cc) (a := la) (b := la + lb) (v := lv) (by omega) (by omega) (by omega) la (by omega) (Nat.le_refl _) M hS (by rw [exK_a]; exact h) h10
  rw [show exC (cN c 142) la lv la = 0 from exC_0 _ _ _ _ (Nat.le_refl _)] at z
  exact z
