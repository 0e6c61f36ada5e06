/-! which face is in use says nothing of what is shaped -/
theorem u_129 (c : Cf) (v : Nat) : cN (uN c 128 1 v) 129 = cN c 129 := by
  funext i
  rw [cN_u, if_neg (fun q => absurd q.1 (by decide))]
theorem u_130 (c : Cf) (v : Nat) : cN (uN c 128 1 v) 130 = cN c 130 := by
  funext i
  rw [cN_u, if_neg (fun q => absurd q.1 (by decide))]
theorem u_131 (c : Cf) (v : Nat) : cN (uN c 128 1 v) 131 = cN c 131 := by
  funext i
  rw [cN_u, if_neg (fun q => absurd q.1 (by decide))]
theorem u_132 (c : Cf) (v : Nat) : cN (uN c 128 1 v) 132 = cN c 132 := by
  funext i
  rw [cN_u, if_neg (fun q => absurd q.1 (by decide))]
theorem u_133 (c : Cf) (v : Nat) : cN (uN c 128 1 v) 133 = cN c 133 := by
  funext i
  rw [cN_u, if_neg (fun q => absurd q.1 (by decide))]
theorem u_134 (c : Cf) (v : Nat) : cN (uN c 128 1 v) 134 = cN c 134 := by
  funext i
  rw [cN_u, if_neg (fun q => absurd q.1 (by decide))]
theorem u_135 (c : Cf) (v : Nat) : cN (uN c 128 1 v) 135 = cN c 135 := by
  funext i
  rw [cN_u, if_neg (fun q => absurd q.1 (by decide))]
theorem u_137 (c : Cf) (v : Nat) : cN (uN c 128 1 v) 137 = cN c 137 := by
  funext i
  rw [cN_u, if_neg (fun q => absurd q.1 (by decide))]
theorem u_138 (c : Cf) (v : Nat) : cN (uN c 128 1 v) 138 = cN c 138 := by
  funext i
  rw [cN_u, if_neg (fun q => absurd q.1 (by decide))]
theorem u_139 (c : Cf) (v : Nat) : cN (uN c 128 1 v) 139 = cN c 139 := by
  funext i
  rw [cN_u, if_neg (fun q => absurd q.1 (by decide))]
theorem u_140 (c : Cf) (v : Nat) : cN (uN c 128 1 v) 140 = cN c 140 := by
  funext i
  rw [cN_u, if_neg (fun q => absurd q.1 (by decide))]
theorem u_141 (c : Cf) (v : Nat) : cN (uN c 128 1 v) 141 = cN c 141 := by
  funext i
  rw [cN_u, if_neg (fun q => absurd q.1 (by decide))]
theorem u_142 (c : Cf) (v : Nat) : cN (uN c 128 1 v) 142 = cN c 142 := by
  funext i
  rw [cN_u, if_neg (fun q => absurd q.1 (by decide))]
theorem u_128_14 (c : Cf) (v : Nat) : cN (uN c 128 1 v) 128 14 = cN c 128 14 := by
  rw [cN_u, if_neg (fun q => absurd q.2 (by decide))]
theorem u_128_17 (c : Cf) (v : Nat) : cN (uN c 128 1 v) 128 17 = cN c 128 17 := by
  rw [cN_u, if_neg (fun q => absurd q.2 (by decide))]
theorem u_R (c : Cf) (v : Nat) : cR (uN c 128 1 v) = cR c := id rfl
theorem rul_U (c : Cf) (v : Nat) : rul (uN c 128 1 v) = rul c := by
  unfold rul
  simp only [u_R]
theorem skp_U (c : Cf) (v : Nat) : skp (uN c 128 1 v) = skp c := by
  unfold skp
  simp only [u_134, u_137]
theorem isAt_U (c : Cf) (v : Nat) : isAt (uN c 128 1 v) = isAt c := by
  unfold isAt
  simp only [u_138]
theorem hasF_U (c : Cf) (v : Nat) : hasF (uN c 128 1 v) = hasF c := by
  unfold hasF
  simp only [u_131]
theorem aft_U (c : Cf) (v : Nat) : aft (uN c 128 1 v) = aft c := by
  unfold aft
  simp only [skp_U]
theorem ahd_U (c : Cf) (v : Nat) : ahd (uN c 128 1 v) = ahd c := by
  unfold ahd
  simp only [skp_U]
theorem thr_U (c : Cf) (v : Nat) : thr (uN c 128 1 v) = thr c := by
  unfold thr
  simp only [isAt_U]
theorem bhm_U (c : Cf) (v : Nat) : bhm (uN c 128 1 v) = bhm c := by
  unfold bhm
  simp only [u_137]
theorem prF_U (c : Cf) (v : Nat) : prF (uN c 128 1 v) = prF c := by
  unfold prF
  simp only [u_137]
theorem prtL_U (c : Cf) (v : Nat) : prtL (uN c 128 1 v) = prtL c := by
  unfold prtL
  simp only [prF_U]
theorem jnB_U (c : Cf) (v : Nat) : jnB (uN c 128 1 v) = jnB c := by
  unfold jnB
  simp only [bhm_U, prtL_U]
theorem jnQ_U (c : Cf) (v : Nat) : jnQ (uN c 128 1 v) = jnQ c := by
  unfold jnQ
  simp only [prtL_U]
theorem jnP_U (c : Cf) (v : Nat) : jnP (uN c 128 1 v) = jnP c := by
  unfold jnP
  simp only [prtL_U]
theorem jn2_U (c : Cf) (v : Nat) : jn2 (uN c 128 1 v) = jn2 c := by
  unfold jn2
  simp only [jnB_U, jnP_U]
theorem jn3_U (c : Cf) (v : Nat) : jn3 (uN c 128 1 v) = jn3 c := by
  unfold jn3
  simp only [jnB_U, jnP_U, jnQ_U]
theorem lgF_U (c : Cf) (v : Nat) : lgF (uN c 128 1 v) = lgF c := by
  unfold lgF
  simp only [aft_U, isAt_U]
theorem lgL_U (c : Cf) (v : Nat) : lgL (uN c 128 1 v) = lgL c := by
  unfold lgL
  simp only [aft_U, jn2_U, jn3_U]
theorem lgW_U (c : Cf) (v : Nat) : lgW (uN c 128 1 v) = lgW c := by
  unfold lgW
  simp only [aft_U]
theorem fit_U (c : Cf) (v : Nat) : fit (uN c 128 1 v) = fit c := by
  unfold fit
  simp only [u_130, isAt_U, lgF_U, rul_U]
theorem chgL_U (c : Cf) (v : Nat) : chgL (uN c 128 1 v) = chgL c := by
  unfold chgL
  simp only [u_130, lgL_U, rul_U]
theorem chgW_U (c : Cf) (v : Nat) : chgW (uN c 128 1 v) = chgW c := by
  unfold chgW
  simp only [u_130, lgW_U, rul_U]
theorem chgI_U (c : Cf) (v : Nat) : chgI (uN c 128 1 v) = chgI c := by
  unfold chgI
  simp only [u_130, rul_U]
theorem ffA_U (c : Cf) (v : Nat) : ffA (uN c 128 1 v) = ffA c := by
  unfold ffA
  simp only [u_135, fit_U]
theorem caP_U (c : Cf) (v : Nat) : caP (uN c 128 1 v) = caP c := by
  unfold caP
  simp only [u_129, u_130, u_135, ffA_U, skp_U]
theorem caL_U (c : Cf) (v : Nat) : caL (uN c 128 1 v) = caL c := by
  unfold caL
  simp only [caP_U, chgL_U, ffA_U]
theorem caW_U (c : Cf) (v : Nat) : caW (uN c 128 1 v) = caW c := by
  unfold caW
  simp only [caP_U, chgW_U, ffA_U]
theorem twC_U (c : Cf) (v : Nat) : twC (uN c 128 1 v) = twC c := by
  unfold twC
  simp only [aft_U, rul_U]
theorem cfit_U (c : Cf) (v : Nat) : cfit (uN c 128 1 v) = cfit c := by
  unfold cfit
  simp only [aft_U, ahd_U, isAt_U, rul_U, thr_U, twC_U]
theorem spo_U (c : Cf) (v : Nat) : spo (uN c 128 1 v) = spo c := by
  unfold spo
  simp only [rul_U, twC_U]
theorem cxL_U (c : Cf) (v : Nat) : cxL (uN c 128 1 v) = cxL c := by
  unfold cxL
  simp only [caL_U, rul_U, spo_U]
theorem cxW_U (c : Cf) (v : Nat) : cxW (uN c 128 1 v) = cxW c := by
  unfold cxW
  simp only [caW_U, rul_U, spo_U, twC_U]
theorem cxI_U (c : Cf) (v : Nat) : cxI (uN c 128 1 v) = cxI c := by
  unfold cxI
  simp only [cxW_U]
theorem ctA_U (c : Cf) (v : Nat) : ctA (uN c 128 1 v) = ctA c := by
  unfold ctA
  simp only [u_135, cfit_U]
theorem bfit_U (c : Cf) (v : Nat) : bfit (uN c 128 1 v) = bfit c := by
  unfold bfit
  simp only [aft_U, ahd_U, isAt_U, rul_U, thr_U]
theorem bkA_U (c : Cf) (v : Nat) : bkA (uN c 128 1 v) = bkA c := by
  unfold bkA
  simp only [u_135, bfit_U]
theorem goP_U (c : Cf) (v : Nat) : goP (uN c 128 1 v) = goP c := by
  unfold goP
  simp only [hasF_U, skp_U]
theorem gbS_U (c : Cf) (v : Nat) : gbS (uN c 128 1 v) = gbS c := by
  unfold gbS
  simp only [u_135, bkA_U, goP_U, rul_U]
theorem gbk_U (c : Cf) (v : Nat) : gbk (uN c 128 1 v) = gbk c := by
  funext f l t
  induction t with
  | zero =>
    funext z0
    simp only [gbk, gbS_U]
  | succ t ih =>
    funext z0
    simp only [gbk, ih, gbS_U]
theorem goL_U (c : Cf) (v : Nat) : goL (uN c 128 1 v) = goL c := by
  unfold goL
  simp only [u_130, u_135, chgL_U, ctA_U, cxL_U, ffA_U, goP_U]
theorem goI_U (c : Cf) (v : Nat) : goI (uN c 128 1 v) = goI c := by
  unfold goI
  simp only [u_130, u_135, chgI_U, ctA_U, cxI_U, ffA_U, goP_U]
theorem gos_U (c : Cf) (v : Nat) : gos (uN c 128 1 v) = gos c := by
  funext f l t
  induction t with
  | zero =>
    funext z0 z1
    simp only [gos, goI_U, goL_U]
  | succ t ih =>
    funext z0 z1
    simp only [gos, ih, goI_U, goL_U]
theorem due_U (c : Cf) (v : Nat) : due (uN c 128 1 v) = due c := by
  unfold due
  simp only [u_130, u_132, u_133, u_128_17]
theorem stS_U (c : Cf) (v : Nat) : stS (uN c 128 1 v) = stS c := by
  unfold stS
  simp only [u_130, due_U, gbk_U, gos_U]
theorem stg_U (c : Cf) (v : Nat) : stg (uN c 128 1 v) = stg c := by
  funext f s t
  induction t with
  | zero =>
    funext z0 z1
    simp only [stg, stS_U]
  | succ t ih =>
    funext z0 z1
    simp only [stg, ih, stS_U]
theorem scF_U (c : Cf) (v : Nat) : scF (uN c 128 1 v) = scF c := by
  unfold scF
  simp only [u_141]
theorem scB_U (c : Cf) (v : Nat) : scB (uN c 128 1 v) = scB c := by
  unfold scB
  simp only [u_141, scF_U]
theorem scr_U (c : Cf) (v : Nat) : scr (uN c 128 1 v) = scr c := by
  unfold scr
  simp only [scB_U]
theorem fcO_U (c : Cf) (v : Nat) : fcO (uN c 128 1 v) = fcO c := by
  unfold fcO
  simp only [u_140, u_141]
theorem eor_U (c : Cf) (v : Nat) : eor (uN c 128 1 v) = eor c := by
  unfold eor
  simp only [fcO_U, scr_U]
theorem jfr_U (c : Cf) (v : Nat) : jfr (uN c 128 1 v) = jfr c := by
  unfold jfr
  simp only [u_141]
theorem jfP_U (c : Cf) (v : Nat) : jfP (uN c 128 1 v) = jfP c := by
  unfold jfP
  simp only [u_141, jfr_U]
theorem jon_U (c : Cf) (v : Nat) : jon (uN c 128 1 v) = jon c := by
  unfold jon
  simp only [u_141]
theorem joP_U (c : Cf) (v : Nat) : joP (uN c 128 1 v) = joP c := by
  unfold joP
  simp only [u_141, jon_U]
theorem frm_U (c : Cf) (v : Nat) : frm (uN c 128 1 v) = frm c := by
  unfold frm
  simp only [u_141, jfP_U, joP_U]
theorem clu_U (c : Cf) (v : Nat) : clu (uN c 128 1 v) = clu c := by
  unfold clu
  simp only [u_141]
theorem jnd_U (c : Cf) (v : Nat) : jnd (uN c 128 1 v) = jnd c := by
  unfold jnd
  simp only [u_141, u_142, clu_U, frm_U]
theorem bk_U (c : Cf) (v : Nat) : bk (uN c 128 1 v) = bk c := by
  unfold bk
  simp only [u_141]
theorem bv_U (c : Cf) (v : Nat) : bv (uN c 128 1 v) = bv c := by
  unfold bv
  simp only [u_141]
theorem bcn_U (c : Cf) (v : Nat) : bcn (uN c 128 1 v) = bcn c := by
  funext b t
  induction t with
  | zero =>
    funext z0
    simp only [bcn, u_141, bk_U, bv_U]
  | succ t ih =>
    funext z0
    simp only [bcn, ih, u_141, bk_U, bv_U]
theorem bcE_U (c : Cf) (v : Nat) : bcE (uN c 128 1 v) = bcE c := by
  unfold bcE
  simp only [bcn_U]
theorem syE_U (c : Cf) (v : Nat) : syE (uN c 128 1 v) = syE c := by
  unfold syE
  simp only [u_141, bcE_U, bv_U]
theorem sgG_U (c : Cf) (v : Nat) : sgG (uN c 128 1 v) = sgG c := by
  unfold sgG
  simp only [u_141, u_142]
theorem adS_U (c : Cf) (v : Nat) : adS (uN c 128 1 v) = adS c := by
  funext i t
  induction t with
  | zero =>
    funext z0 z1
    simp only [adS, sgG_U]
  | succ t ih =>
    funext z0 z1
    simp only [adS, ih, sgG_U]
theorem sy1_U (c : Cf) (v : Nat) : sy1 (uN c 128 1 v) = sy1 c := by
  unfold sy1
  simp only [u_141]
theorem syP_U (c : Cf) (v : Nat) : syP (uN c 128 1 v) = syP c := by
  unfold syP
  simp only [u_141, syE_U]
theorem sy2_U (c : Cf) (v : Nat) : sy2 (uN c 128 1 v) = sy2 c := by
  unfold sy2
  simp only [adS_U, sy1_U, syE_U]
theorem sy3_U (c : Cf) (v : Nat) : sy3 (uN c 128 1 v) = sy3 c := by
  unfold sy3
  simp only [u_142, syP_U]
theorem syL_U (c : Cf) (v : Nat) : syL (uN c 128 1 v) = syL c := by
  unfold syL
  simp only [sy2_U, sy3_U]
theorem sys_U (c : Cf) (v : Nat) : sys (uN c 128 1 v) = sys c := by
  funext b t
  induction t with
  | zero =>
    funext z0 z1
    simp only [sys, syE_U, syL_U]
  | succ t ih =>
    funext z0 z1
    simp only [sys, ih, syE_U, syL_U]
theorem prP_U (c : Cf) (v : Nat) : prP (uN c 128 1 v) = prP c := by
  unfold prP
  simp only [isAt_U, rul_U]
theorem prA_U (c : Cf) (v : Nat) : prA (uN c 128 1 v) = prA c := by
  unfold prA
  simp only [u_135, aft_U, prP_U]
theorem prD_U (c : Cf) (v : Nat) : prD (uN c 128 1 v) = prD c := by
  unfold prD
  simp only [u_135, aft_U, goP_U, prA_U]
theorem prS_U (c : Cf) (v : Nat) : prS (uN c 128 1 v) = prS c := by
  unfold prS
  simp only [prA_U, prD_U, rul_U]
theorem prI_U (c : Cf) (v : Nat) : prI (uN c 128 1 v) = prI c := by
  unfold prI
  simp only [aft_U, prD_U]
theorem prs_U (c : Cf) (v : Nat) : prs (uN c 128 1 v) = prs c := by
  funext f l L t
  induction t with
  | zero =>
    funext z0 z1
    simp only [prs, prI_U, prS_U]
  | succ t ih =>
    funext z0 z1
    simp only [prs, ih, prI_U, prS_U]
theorem rfA_U (c : Cf) (v : Nat) : rfA (uN c 128 1 v) = rfA c := by
  unfold rfA
  simp only [u_135, isAt_U, rul_U]
theorem crD_U (c : Cf) (v : Nat) : crD (uN c 128 1 v) = crD c := by
  unfold crD
  simp only [u_135, rfA_U, rul_U]
theorem crG_U (c : Cf) (v : Nat) : crG (uN c 128 1 v) = crG c := by
  unfold crG
  simp only [aft_U, hasF_U, skp_U]
theorem crU_U (c : Cf) (v : Nat) : crU (uN c 128 1 v) = crU c := by
  unfold crU
  simp only [crD_U, rfA_U, rul_U]
theorem crS_U (c : Cf) (v : Nat) : crS (uN c 128 1 v) = crS c := by
  unfold crS
  simp only [aft_U, crG_U, crU_U]
theorem crv_U (c : Cf) (v : Nat) : crv (uN c 128 1 v) = crv c := by
  funext f l L t
  induction t with
  | zero =>
    funext z0
    simp only [crv, crS_U]
  | succ t ih =>
    funext z0
    simp only [crv, ih, crS_U]
theorem bsE_U (c : Cf) (v : Nat) : bsE (uN c 128 1 v) = bsE c := by
  unfold bsE
  simp only [mkc, u_137]
theorem bsP_U (c : Cf) (v : Nat) : bsP (uN c 128 1 v) = bsP c := by
  unfold bsP
  simp only [mkc, u_137, isAt_U, rul_U]
theorem bsA_U (c : Cf) (v : Nat) : bsA (uN c 128 1 v) = bsA c := by
  unfold bsA
  simp only [u_135, bsP_U]
theorem bsG_U (c : Cf) (v : Nat) : bsG (uN c 128 1 v) = bsG c := by
  unfold bsG
  simp only [mkc, u_137, bsE_U, goP_U]
theorem bsU_U (c : Cf) (v : Nat) : bsU (uN c 128 1 v) = bsU c := by
  unfold bsU
  simp only [u_135, bsA_U, rul_U]
theorem bsS_U (c : Cf) (v : Nat) : bsS (uN c 128 1 v) = bsS c := by
  unfold bsS
  simp only [bsE_U, bsG_U, bsU_U]
theorem bss_U (c : Cf) (v : Nat) : bss (uN c 128 1 v) = bss c := by
  funext f l L t
  induction t with
  | zero =>
    funext z0
    simp only [bss, bsS_U]
  | succ t ih =>
    funext z0
    simp only [bss, ih, bsS_U]
theorem mkP_U (c : Cf) (v : Nat) : mkP (uN c 128 1 v) = mkP c := by
  unfold mkP
  simp only [mkc, u_137, isAt_U, rul_U]
theorem mkA_U (c : Cf) (v : Nat) : mkA (uN c 128 1 v) = mkA c := by
  unfold mkA
  simp only [u_135, mkP_U]
theorem mkG_U (c : Cf) (v : Nat) : mkG (uN c 128 1 v) = mkG c := by
  unfold mkG
  simp only [mkc, u_137, ahd_U, goP_U]
theorem mkU_U (c : Cf) (v : Nat) : mkU (uN c 128 1 v) = mkU c := by
  unfold mkU
  simp only [u_135, mkA_U, rul_U]
theorem mkS_U (c : Cf) (v : Nat) : mkS (uN c 128 1 v) = mkS c := by
  unfold mkS
  simp only [ahd_U, mkG_U, mkU_U]
theorem mks_U (c : Cf) (v : Nat) : mks (uN c 128 1 v) = mks c := by
  funext f l L t
  induction t with
  | zero =>
    funext z0
    simp only [mks, mkS_U]
  | succ t ih =>
    funext z0
    simp only [mks, ih, mkS_U]
theorem pl0_U (c : Cf) (v : Nat) : pl0 (uN c 128 1 v) = pl0 c := by
  unfold pl0
  simp only [u_139]
theorem pDue_U (c : Cf) (v : Nat) : pDue (uN c 128 1 v) = pDue c := by
  unfold pDue
  simp only [u_133, u_128_17]
theorem plK_U (c : Cf) (v : Nat) : plK (uN c 128 1 v) = plK c := by
  unfold plK
  simp only [u_130, bss_U, crv_U, mks_U, prs_U]
theorem plS_U (c : Cf) (v : Nat) : plS (uN c 128 1 v) = plS c := by
  unfold plS
  simp only [pDue_U, plK_U]
theorem pla_U (c : Cf) (v : Nat) : pla (uN c 128 1 v) = pla c := by
  funext f L t
  induction t with
  | zero =>
    funext z0 z1
    simp only [pla, plS_U]
  | succ t ih =>
    funext z0 z1
    simp only [pla, ih, plS_U]
theorem plc_U (c : Cf) (v : Nat) : plc (uN c 128 1 v) = plc c := by
  unfold plc
  simp only [u_129, pl0_U, pla_U]
theorem r0_U (c : Cf) (v : Nat) : r0 (uN c 128 1 v) = r0 c := by
  unfold r0
  simp only [jnd_U, sys_U]
theorem r1_U (c : Cf) (v : Nat) : r1 (uN c 128 1 v) = r1 c := by
  unfold r1
  simp only [u_129, r0_U, stg_U]
theorem r2_U (c : Cf) (v : Nat) : r2 (uN c 128 1 v) = r2 c := by
  unfold r2
  simp only [r1_U]
theorem r3_U (c : Cf) (v : Nat) : r3 (uN c 128 1 v) = r3 c := by
  unfold r3
  simp only [u_129, r2_U, stg_U]
theorem r4_U (c : Cf) (v : Nat) : r4 (uN c 128 1 v) = r4 c := by
  unfold r4
  simp only [r3_U]
theorem stB_U (c : Cf) (v : Nat) : stB (uN c 128 1 v) = stB c := by
  unfold stB
  simp only [plc_U]
theorem rn_U (c : Cf) (v : Nat) : rn (uN c 128 1 v) = rn c := by
  funext a b t
  induction t with
  | zero =>
    simp only [rn, eor_U]
  | succ t ih =>
    simp only [rn, ih, eor_U]
theorem rsc_U (c : Cf) (v : Nat) : rsc (uN c 128 1 v) = rsc c := by
  unfold rsc
  simp only [rn_U, scr_U]
theorem rfc_U (c : Cf) (v : Nat) : rfc (uN c 128 1 v) = rfc c := by
  unfold rfc
  simp only [fcO_U, rn_U]
theorem rL_U (c : Cf) (v : Nat) : rL (uN c 128 1 v) = rL c := by
  unfold rL
  simp only [r4_U, rfc_U, rn_U, rsc_U]
theorem gS_U (c : Cf) (v : Nat) : gS (uN c 128 1 v) = gS c := by
  funext a b t
  induction t with
  | zero =>
    simp only [gS, rL_U]
  | succ t ih =>
    simp only [gS, ih, rL_U]
theorem wdt_U (c : Cf) (v : Nat) : wdt (uN c 128 1 v) = wdt c := by
  unfold wdt
  simp only [plc_U, rL_U, rfc_U]
theorem nr_U (c : Cf) (v : Nat) : nr (uN c 128 1 v) = nr c := by
  unfold nr
  simp only [rn_U]
theorem pV_U (c : Cf) (v : Nat) : pV (uN c 128 1 v) = pV c := by
  unfold pV
  simp only [fcO_U, frm_U, nr_U, rn_U, scr_U]
theorem lC_U (c : Cf) (v : Nat) : lC (uN c 128 1 v) = lC c := by
  funext a b left t
  induction t with
  | zero =>
    simp only [lC, wdt_U]
  | succ t ih =>
    simp only [lC, ih, wdt_U]
theorem rBl_U (c : Cf) (v : Nat) : rBl (uN c 128 1 v) = rBl c := by
  unfold rBl
  simp only [lC_U, rL_U, rfc_U, rsc_U, stB_U]
theorem pW_U (c : Cf) (v : Nat) : pW (uN c 128 1 v) = pW c := by
  unfold pW
  simp only [gS_U, lC_U, rBl_U, rL_U, wdt_U]
theorem pgOK_U (c : Cf) (v : Nat) : pgOK (uN c 128 1 v) = pgOK c := by
  unfold pgOK
  simp only [tr, nr_U, tl, u_128_14, pV_U, pW_U]
