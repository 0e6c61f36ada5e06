/-! rules over numbers that are told, further -/
theorem dI_eq2 {m s : Nat} (hm : m < 2 ^ 30) (hs : s < 2 ^ 30) : nI m - nI 1 = nI s - nI 2 ↔ m + 1 = s := by
  rw [← Int32.toInt_inj, pk_sub_toInt hm (by decide), pk_sub_toInt hs (by decide)]; omega
theorem dI_lt {a b : Nat} (ha : a < 2 ^ 30) (hb : b < 2 ^ 30) : dI a < nI b ↔ a ≤ b := by
  rw [Int32.lt_iff_toInt_lt, dI_toInt ha, nI_toInt (by omega)]; omega
theorem dI_le {a b : Nat} (ha : a < 2 ^ 30) (hb : b < 2 ^ 30) : nI b ≤ dI a ↔ b < a := by
  rw [Int32.le_iff_toInt_le, dI_toInt ha, nI_toInt (by omega)]; omega
theorem dI_le' {a b : Nat} (ha : a < 2 ^ 30) (hb : b < 2 ^ 30) : dI a ≤ nI b ↔ a ≤ b + 1 := by
  rw [Int32.le_iff_toInt_le, dI_toInt ha, nI_toInt (by omega)]; omega
theorem dI_gt {a b : Nat} (ha : a < 2 ^ 30) (hb : b < 2 ^ 30) : nI b < dI a ↔ b + 1 < a := by
  rw [Int32.lt_iff_toInt_lt, dI_toInt ha, nI_toInt (by omega)]; omega
theorem dI_eqn {a b : Nat} (ha : a < 2 ^ 30) (hb : b < 2 ^ 30) : dI a = nI b ↔ a = b + 1 := by
  rw [← Int32.toInt_inj, dI_toInt ha, nI_toInt (by omega)]; omega
theorem dI_inj {a b : Nat} (ha : a < 2 ^ 30) (hb : b < 2 ^ 30) : dI a = dI b ↔ a = b := by
  rw [← Int32.toInt_inj, dI_toInt ha, dI_toInt hb]; omega
section GN2
variable {g : gG} {fr k n : Nat} {μ : gMu} {pc : Nat} {ls st : List Value} {M : gM} {Q : Option Value ⊕ String → gM → Prop}
theorem E_if_eq_n {a : Nat} {off : Int} {tgt : Nat} (hd : decode (gcc μ) pc = .ok (.ifCond .eq off, 3)) (ht : (pc : Int) + off = (tgt : Int)) (ha : a < 2 ^ 31) (kt : a = 0 → E g fr k n μ tgt ls st M Q) (kf : 0 < a → E g fr k n μ (pc + 3) ls st M Q) : E g fr k n μ pc ls (.int (nI a) :: st) M Q :=
  E_if_eq hd ht (fun h => kt ((nI_eq ha (by decide : 0 < 2 ^ 31)).mp h)) (fun h => kf (Nat.pos_of_ne_zero fun q => h (by rw [q]; rfl)))
theorem E_if_ne_n {a : Nat} {off : Int} {tgt : Nat} (hd : decode (gcc μ) pc = .ok (.ifCond .ne off, 3)) (ht : (pc : Int) + off = (tgt : Int)) (ha : a < 2 ^ 31) (kt : 0 < a → E g fr k n μ tgt ls st M Q) (kf : a = 0 → E g fr k n μ (pc + 3) ls st M Q) : E g fr k n μ pc ls (.int (nI a) :: st) M Q :=
  E_if_ne hd ht (fun h => kt (Nat.pos_of_ne_zero fun q => h (by rw [q]; rfl))) (fun h => kf (Classical.byContradiction fun q => h (fun z => q ((nI_eq ha (by decide : 0 < 2 ^ 31)).mp z))))
theorem E_if_lt_n {a : Nat} {off : Int} {tgt : Nat} (hd : decode (gcc μ) pc = .ok (.ifCond .lt off, 3)) (ht : (pc : Int) + off = (tgt : Int)) (ha : a < 2 ^ 31) (kf : E g fr k n μ (pc + 3) ls st M Q) : E g fr k n μ pc ls (.int (nI a) :: st) M Q :=
  E_if_lt hd ht (fun h => absurd h (nI_pos ha)) (fun _ => kf)
theorem E_if_ge_n {a : Nat} {off : Int} {tgt : Nat} (hd : decode (gcc μ) pc = .ok (.ifCond .ge off, 3)) (ht : (pc : Int) + off = (tgt : Int)) (ha : a < 2 ^ 31) (kt : E g fr k n μ tgt ls st M Q) : E g fr k n μ pc ls (.int (nI a) :: st) M Q :=
  E_if_ge hd ht (fun _ => kt) (fun h => absurd (nI_pos' ha) h)
theorem E_if_gt_n {a : Nat} {off : Int} {tgt : Nat} (hd : decode (gcc μ) pc = .ok (.ifCond .gt off, 3)) (ht : (pc : Int) + off = (tgt : Int)) (ha : a < 2 ^ 31) (kt : 0 < a → E g fr k n μ tgt ls st M Q) (kf : a = 0 → E g fr k n μ (pc + 3) ls st M Q) : E g fr k n μ pc ls (.int (nI a) :: st) M Q :=
  E_if_gt hd ht (fun h => kt ((nI_ltI (by decide : 0 < 2 ^ 31) ha).mp h)) (fun h => kf (Classical.byContradiction fun q => h ((nI_ltI (by decide : 0 < 2 ^ 31) ha).mpr (Nat.pos_of_ne_zero q))))
theorem E_if_le_n {a : Nat} {off : Int} {tgt : Nat} (hd : decode (gcc μ) pc = .ok (.ifCond .le off, 3)) (ht : (pc : Int) + off = (tgt : Int)) (ha : a < 2 ^ 31) (kt : a = 0 → E g fr k n μ tgt ls st M Q) (kf : 0 < a → E g fr k n μ (pc + 3) ls st M Q) : E g fr k n μ pc ls (.int (nI a) :: st) M Q :=
  E_if_le hd ht (fun h => kt (Nat.le_zero.mp ((nI_leI ha (by decide : 0 < 2 ^ 31)).mp h))) (fun h => kf (Nat.pos_of_ne_zero fun q => h (by rw [q]; exact (nI_leI (by decide : 0 < 2 ^ 31) (by decide : 0 < 2 ^ 31)).mpr (Nat.le_refl 0))))
theorem E_if_lt_d {a : Nat} {off : Int} {tgt : Nat} (hd : decode (gcc μ) pc = .ok (.ifCond .lt off, 3)) (ht : (pc : Int) + off = (tgt : Int)) (ha : a < 2 ^ 30) (kt : a = 0 → E g fr k n μ tgt ls st M Q) (kf : 0 < a → E g fr k n μ (pc + 3) ls st M Q) : E g fr k n μ pc ls (.int (dI a) :: st) M Q :=
  E_if_lt hd ht (fun h => kt (Nat.le_zero.mp ((dI_lt ha (by decide : 0 < 2 ^ 30)).mp h))) (fun h => kf (Nat.pos_of_ne_zero fun q => h ((dI_lt ha (by decide : 0 < 2 ^ 30)).mpr (Nat.le_of_eq q))))
theorem E_if_ge_d {a : Nat} {off : Int} {tgt : Nat} (hd : decode (gcc μ) pc = .ok (.ifCond .ge off, 3)) (ht : (pc : Int) + off = (tgt : Int)) (ha : a < 2 ^ 30) (kt : 0 < a → E g fr k n μ tgt ls st M Q) (kf : a = 0 → E g fr k n μ (pc + 3) ls st M Q) : E g fr k n μ pc ls (.int (dI a) :: st) M Q :=
  E_if_ge hd ht (fun h => kt ((dI_le ha (by decide : 0 < 2 ^ 30)).mp h)) (fun h => kf (Classical.byContradiction fun q => h ((dI_le ha (by decide : 0 < 2 ^ 30)).mpr (Nat.pos_of_ne_zero q))))
theorem E_icmp_lt_d {a b : Nat} {off : Int} {tgt : Nat} (hd : decode (gcc μ) pc = .ok (.if_icmp .lt off, 3)) (ht : (pc : Int) + off = (tgt : Int)) (ha : a < 2 ^ 30) (hb : b < 2 ^ 30) (kt : a ≤ b → E g fr k n μ tgt ls st M Q) (kf : b < a → E g fr k n μ (pc + 3) ls st M Q) : E g fr k n μ pc ls (.int (nI b) :: .int (dI a) :: st) M Q :=
  E_icmp_lt hd ht (fun h => kt ((dI_lt ha hb).mp h)) (fun h => kf (Nat.not_le.mp fun q => h ((dI_lt ha hb).mpr q)))
theorem E_icmp_ge_d {a b : Nat} {off : Int} {tgt : Nat} (hd : decode (gcc μ) pc = .ok (.if_icmp .ge off, 3)) (ht : (pc : Int) + off = (tgt : Int)) (ha : a < 2 ^ 30) (hb : b < 2 ^ 30) (kt : b < a → E g fr k n μ tgt ls st M Q) (kf : a ≤ b → E g fr k n μ (pc + 3) ls st M Q) : E g fr k n μ pc ls (.int (nI b) :: .int (dI a) :: st) M Q :=
  E_icmp_ge hd ht (fun h => kt ((dI_le ha hb).mp h)) (fun h => kf (Nat.not_lt.mp fun q => h ((dI_le ha hb).mpr q)))
theorem E_icmp_le_d {a b : Nat} {off : Int} {tgt : Nat} (hd : decode (gcc μ) pc = .ok (.if_icmp .le off, 3)) (ht : (pc : Int) + off = (tgt : Int)) (ha : a < 2 ^ 30) (hb : b < 2 ^ 30) (kt : a ≤ b + 1 → E g fr k n μ tgt ls st M Q) (kf : b + 1 < a → E g fr k n μ (pc + 3) ls st M Q) : E g fr k n μ pc ls (.int (nI b) :: .int (dI a) :: st) M Q :=
  E_icmp_le hd ht (fun h => kt ((dI_le' ha hb).mp h)) (fun h => kf (Nat.not_le.mp fun q => h ((dI_le' ha hb).mpr q)))
theorem E_icmp_gt_d {a b : Nat} {off : Int} {tgt : Nat} (hd : decode (gcc μ) pc = .ok (.if_icmp .gt off, 3)) (ht : (pc : Int) + off = (tgt : Int)) (ha : a < 2 ^ 30) (hb : b < 2 ^ 30) (kt : b + 1 < a → E g fr k n μ tgt ls st M Q) (kf : a ≤ b + 1 → E g fr k n μ (pc + 3) ls st M Q) : E g fr k n μ pc ls (.int (nI b) :: .int (dI a) :: st) M Q :=
  E_icmp_gt hd ht (fun h => kt ((dI_gt ha hb).mp h)) (fun h => kf (Nat.not_lt.mp fun q => h ((dI_gt ha hb).mpr q)))
theorem E_icmp_eq_d {a b : Nat} {off : Int} {tgt : Nat} (hd : decode (gcc μ) pc = .ok (.if_icmp .eq off, 3)) (ht : (pc : Int) + off = (tgt : Int)) (ha : a < 2 ^ 30) (hb : b < 2 ^ 30) (kt : a = b + 1 → E g fr k n μ tgt ls st M Q) (kf : ¬ a = b + 1 → E g fr k n μ (pc + 3) ls st M Q) : E g fr k n μ pc ls (.int (nI b) :: .int (dI a) :: st) M Q :=
  E_icmp_eq hd ht (fun h => kt ((dI_eqn ha hb).mp h)) (fun h => kf (fun q => h ((dI_eqn ha hb).mpr q)))
theorem E_icmp_ne_d {a b : Nat} {off : Int} {tgt : Nat} (hd : decode (gcc μ) pc = .ok (.if_icmp .ne off, 3)) (ht : (pc : Int) + off = (tgt : Int)) (ha : a < 2 ^ 30) (hb : b < 2 ^ 30) (kt : ¬ a = b + 1 → E g fr k n μ tgt ls st M Q) (kf : a = b + 1 → E g fr k n μ (pc + 3) ls st M Q) : E g fr k n μ pc ls (.int (nI b) :: .int (dI a) :: st) M Q :=
  E_icmp_ne hd ht (fun h => kt ((not_congr (dI_eqn ha hb)).mp h)) (fun h => kf (Classical.byContradiction fun q => h ((not_congr (dI_eqn ha hb)).mpr q)))
theorem E_iinc_d {i a : Nat} {dd : Int} (hd : decode (gcc μ) pc = .ok (.iinc i dd, 3)) (hx0 : ls[i]? = some (.int (nI a))) (hdd : dd = -1) (hn : i < gnL μ) (hk : gnl ls i = true) (k0 : E g fr k n μ (pc + 3) (ls.set i (.int (dI a))) st M Q) : E g fr k n μ pc ls st M Q :=
  E_iinc hd hx0 (by subst hdd; unfold dI; rw [Int32.sub_eq_add_neg]; rfl) hn hk k0
theorem E_isub_d {a : Nat} (hd : decode (gcc μ) pc = .ok (.isub, 1)) (k0 : E g fr k n μ (pc + 1) ls (.int (dI a) :: st) M Q) : E g fr k n μ pc ls (.int (nI 1) :: .int (nI a) :: st) M Q :=
  E_isub hd k0
theorem E_icmp_ne_r {x y : Int32} {off : Int} {tgt : Nat} (hd : decode (gcc μ) pc = .ok (.if_icmp .ne off, 3)) (ht : (pc : Int) + off = (tgt : Int)) (kt : ¬ x = y → E g fr k n μ tgt ls st M Q) (kf : x = y → E g fr k n μ (pc + 3) ls st M Q) : E g fr k n μ pc ls (.int y :: .int x :: st) M Q :=
  E_icmp_ne hd ht kt (fun h => kf (Classical.byContradiction h))
theorem E_if_ne_r {x : Int32} {off : Int} {tgt : Nat} (hd : decode (gcc μ) pc = .ok (.ifCond .ne off, 3)) (ht : (pc : Int) + off = (tgt : Int)) (kt : ¬ x = 0 → E g fr k n μ tgt ls st M Q) (kf : x = 0 → E g fr k n μ (pc + 3) ls st M Q) : E g fr k n μ pc ls (.int x :: st) M Q :=
  E_if_ne hd ht kt (fun h => kf (Classical.byContradiction h))
end GN2
theorem nI_ne100 {a : Nat} (h : a < 2 ^ 31) : ¬ nI a = -100 := fun q => by
  have := congrArg Int32.toInt q
  rw [nI_toInt h] at this
  have e : (-100 : Int32).toInt = -100 := by decide
  rw [e] at this
  omega
def gN (v : Int32) : Nat := v.toNatClampNeg
theorem gN_nI {a : Nat} (h : a < 2 ^ 31) : gN (nI a) = a := nI_clamp h
theorem gN_ok {v : Int32} {b : Nat} (h : iIn v (nI 0) (nI b)) (hb : b < 2 ^ 31) : v = nI (gN v) ∧ gN v ≤ b := by
  obtain ⟨q, _, h2, rfl⟩ := iIn_of h (by decide) hb
  rw [gN_nI (by omega)]
  exact ⟨rfl, h2⟩
