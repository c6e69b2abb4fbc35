-- WinterKeepModel.overhears()V
theorem dX12_overhears_0 : decode cX12_overhears 0 = .ok (.iconst 0, 1) := by decide +kernel
theorem dX12_overhears_1 : decode cX12_overhears 1 = .ok (.istore_n 1, 1) := by decide +kernel
theorem dX12_overhears_2 : decode cX12_overhears 2 = .ok (.iload_n 1, 1) := by decide +kernel
theorem dX12_overhears_3 : decode cX12_overhears 3 = .ok (.aload_n 0, 1) := by decide +kernel
theorem dX12_overhears_4 : decode cX12_overhears 4 = .ok (.getfield 39, 3) := by decide +kernel
theorem dX12_overhears_7 : decode cX12_overhears 7 = .ok (.iconst 3, 1) := by decide +kernel
theorem dX12_overhears_8 : decode cX12_overhears 8 = .ok (.iaload, 1) := by decide +kernel
theorem dX12_overhears_9 : decode cX12_overhears 9 = .ok (.if_icmp .ge 96, 3) := by decide +kernel
theorem dX12_overhears_12 : decode cX12_overhears 12 = .ok (.aload_n 0, 1) := by decide +kernel
theorem dX12_overhears_13 : decode cX12_overhears 13 = .ok (.getfield 49, 3) := by decide +kernel
theorem dX12_overhears_16 : decode cX12_overhears 16 = .ok (.iload_n 1, 1) := by decide +kernel
theorem dX12_overhears_17 : decode cX12_overhears 17 = .ok (.iconst 0, 1) := by decide +kernel
theorem dX12_overhears_18 : decode cX12_overhears 18 = .ok (.iastore, 1) := by decide +kernel
theorem dX12_overhears_19 : decode cX12_overhears 19 = .ok (.iconst 0, 1) := by decide +kernel
theorem dX12_overhears_20 : decode cX12_overhears 20 = .ok (.istore_n 2, 1) := by decide +kernel
theorem dX12_overhears_21 : decode cX12_overhears 21 = .ok (.iload_n 2, 1) := by decide +kernel
theorem dX12_overhears_22 : decode cX12_overhears 22 = .ok (.aload_n 0, 1) := by decide +kernel
theorem dX12_overhears_23 : decode cX12_overhears 23 = .ok (.getfield 39, 3) := by decide +kernel
theorem dX12_overhears_26 : decode cX12_overhears 26 = .ok (.iconst 3, 1) := by decide +kernel
theorem dX12_overhears_27 : decode cX12_overhears 27 = .ok (.iaload, 1) := by decide +kernel
theorem dX12_overhears_28 : decode cX12_overhears 28 = .ok (.if_icmp .ge 71, 3) := by decide +kernel
theorem dX12_overhears_31 : decode cX12_overhears 31 = .ok (.aload_n 0, 1) := by decide +kernel
theorem dX12_overhears_32 : decode cX12_overhears 32 = .ok (.getfield 49, 3) := by decide +kernel
theorem dX12_overhears_35 : decode cX12_overhears 35 = .ok (.iload_n 1, 1) := by decide +kernel
theorem dX12_overhears_36 : decode cX12_overhears 36 = .ok (.dup2, 1) := by decide +kernel
theorem dX12_overhears_37 : decode cX12_overhears 37 = .ok (.iaload, 1) := by decide +kernel
theorem dX12_overhears_38 : decode cX12_overhears 38 = .ok (.aload_n 0, 1) := by decide +kernel
theorem dX12_overhears_39 : decode cX12_overhears 39 = .ok (.iload_n 1, 1) := by decide +kernel
theorem dX12_overhears_40 : decode cX12_overhears 40 = .ok (.invokevirtual 345, 3) := by decide +kernel
theorem dX12_overhears_43 : decode cX12_overhears 43 = .ok (.ifCond .eq 47, 3) := by decide +kernel
theorem dX12_overhears_46 : decode cX12_overhears 46 = .ok (.aload_n 0, 1) := by decide +kernel
theorem dX12_overhears_47 : decode cX12_overhears 47 = .ok (.iload_n 2, 1) := by decide +kernel
theorem dX12_overhears_48 : decode cX12_overhears 48 = .ok (.invokevirtual 345, 3) := by decide +kernel
theorem dX12_overhears_51 : decode cX12_overhears 51 = .ok (.ifCond .eq 39, 3) := by decide +kernel
theorem dX12_overhears_54 : decode cX12_overhears 54 = .ok (.aload_n 0, 1) := by decide +kernel
theorem dX12_overhears_55 : decode cX12_overhears 55 = .ok (.iload_n 1, 1) := by decide +kernel
theorem dX12_overhears_56 : decode cX12_overhears 56 = .ok (.invokevirtual 317, 3) := by decide +kernel
theorem dX12_overhears_59 : decode cX12_overhears 59 = .ok (.iload_n 2, 1) := by decide +kernel
theorem dX12_overhears_60 : decode cX12_overhears 60 = .ok (.invokestatic 92, 3) := by decide +kernel
theorem dX12_overhears_63 : decode cX12_overhears 63 = .ok (.ifCond .eq 27, 3) := by decide +kernel
theorem dX12_overhears_66 : decode cX12_overhears 66 = .ok (.aload_n 0, 1) := by decide +kernel
theorem dX12_overhears_67 : decode cX12_overhears 67 = .ok (.iload_n 2, 1) := by decide +kernel
theorem dX12_overhears_68 : decode cX12_overhears 68 = .ok (.invokevirtual 304, 3) := by decide +kernel
theorem dX12_overhears_71 : decode cX12_overhears 71 = .ok (.aload_n 0, 1) := by decide +kernel
theorem dX12_overhears_72 : decode cX12_overhears 72 = .ok (.iload_n 1, 1) := by decide +kernel
theorem dX12_overhears_73 : decode cX12_overhears 73 = .ok (.invokevirtual 304, 3) := by decide +kernel
theorem dX12_overhears_76 : decode cX12_overhears 76 = .ok (.isub, 1) := by decide +kernel
theorem dX12_overhears_77 : decode cX12_overhears 77 = .ok (.aload_n 0, 1) := by decide +kernel
theorem dX12_overhears_78 : decode cX12_overhears 78 = .ok (.getfield 39, 3) := by decide +kernel
theorem dX12_overhears_81 : decode cX12_overhears 81 = .ok (.iconst 1, 1) := by decide +kernel
theorem dX12_overhears_82 : decode cX12_overhears 82 = .ok (.iaload, 1) := by decide +kernel
theorem dX12_overhears_83 : decode cX12_overhears 83 = .ok (.if_icmp .le 7, 3) := by decide +kernel
theorem dX12_overhears_86 : decode cX12_overhears 86 = .ok (.iconst 1, 1) := by decide +kernel
theorem dX12_overhears_87 : decode cX12_overhears 87 = .ok (.goto 4, 3) := by decide +kernel
theorem dX12_overhears_90 : decode cX12_overhears 90 = .ok (.iconst 0, 1) := by decide +kernel
theorem dX12_overhears_91 : decode cX12_overhears 91 = .ok (.iadd, 1) := by decide +kernel
theorem dX12_overhears_92 : decode cX12_overhears 92 = .ok (.iastore, 1) := by decide +kernel
theorem dX12_overhears_93 : decode cX12_overhears 93 = .ok (.iinc 2 1, 3) := by decide +kernel
theorem dX12_overhears_96 : decode cX12_overhears 96 = .ok (.goto (-75), 3) := by decide +kernel
theorem dX12_overhears_99 : decode cX12_overhears 99 = .ok (.iinc 1 1, 3) := by decide +kernel
theorem dX12_overhears_102 : decode cX12_overhears 102 = .ok (.goto (-100), 3) := by decide +kernel
theorem dX12_overhears_105 : decode cX12_overhears 105 = .ok (.iconst 0, 1) := by decide +kernel
theorem dX12_overhears_106 : decode cX12_overhears 106 = .ok (.istore_n 1, 1) := by decide +kernel
theorem dX12_overhears_107 : decode cX12_overhears 107 = .ok (.iload_n 1, 1) := by decide +kernel
theorem dX12_overhears_108 : decode cX12_overhears 108 = .ok (.aload_n 0, 1) := by decide +kernel
theorem dX12_overhears_109 : decode cX12_overhears 109 = .ok (.getfield 39, 3) := by decide +kernel
theorem dX12_overhears_112 : decode cX12_overhears 112 = .ok (.iconst 3, 1) := by decide +kernel
theorem dX12_overhears_113 : decode cX12_overhears 113 = .ok (.iaload, 1) := by decide +kernel
theorem dX12_overhears_114 : decode cX12_overhears 114 = .ok (.if_icmp .ge 27, 3) := by decide +kernel
theorem dX12_overhears_117 : decode cX12_overhears 117 = .ok (.aload_n 0, 1) := by decide +kernel
theorem dX12_overhears_118 : decode cX12_overhears 118 = .ok (.iload_n 1, 1) := by decide +kernel
theorem dX12_overhears_119 : decode cX12_overhears 119 = .ok (.aload_n 0, 1) := by decide +kernel
theorem dX12_overhears_120 : decode cX12_overhears 120 = .ok (.getfield 49, 3) := by decide +kernel
theorem dX12_overhears_123 : decode cX12_overhears 123 = .ok (.iload_n 1, 1) := by decide +kernel
theorem dX12_overhears_124 : decode cX12_overhears 124 = .ok (.iaload, 1) := by decide +kernel
theorem dX12_overhears_125 : decode cX12_overhears 125 = .ok (.aload_n 0, 1) := by decide +kernel
theorem dX12_overhears_126 : decode cX12_overhears 126 = .ok (.getfield 39, 3) := by decide +kernel
theorem dX12_overhears_129 : decode cX12_overhears 129 = .ok (.iconst 1, 1) := by decide +kernel
theorem dX12_overhears_130 : decode cX12_overhears 130 = .ok (.iaload, 1) := by decide +kernel
theorem dX12_overhears_131 : decode cX12_overhears 131 = .ok (.imul, 1) := by decide +kernel
theorem dX12_overhears_132 : decode cX12_overhears 132 = .ok (.invokevirtual 348, 3) := by decide +kernel
theorem dX12_overhears_135 : decode cX12_overhears 135 = .ok (.iinc 1 1, 3) := by decide +kernel
theorem dX12_overhears_138 : decode cX12_overhears 138 = .ok (.goto (-31), 3) := by decide +kernel
theorem dX12_overhears_141 : decode cX12_overhears 141 = .ok (.return_, 1) := by decide +kernel
theorem vc_X12_345 : XVw RX12 345 1 11 2 yX12_isHome cX12_isHome (some .boolean) := ⟨RX12, TX12, tyX12, 43, xk_11, rfl, ⟨by decide, by decide⟩, by decide +kernel, wt_1345, wt_1347, ws_85, wt_11, wt_1348⟩
theorem vc_X12_348 : XVw RX12 348 2 11 4 yX12_fills cX12_fills none := ⟨RX12, TX12, tyX12, 43, xk_11, rfl, ⟨by decide, by decide⟩, by decide +kernel, wt_1379, wt_1381, ws_92, wt_11, wt_1382⟩
noncomputable def bs_X12_overhears : List (Nat × XB) := [
  (0, (sq (xC (.int 0)) (sq (xSI 1) (tGo 2 [true, true, false])))),
  (2, (sq (xLI 1) (sq (xLA 0) (sq (xGS 11 50 1 0) (sq (xC (.int 3)) (sq (xAI 50 98) (tIf2 (fun x y => decide (y ≤ x)) 105 [true, false, false] 12 [true, true, false]))))))),
  (12, (sq (xLA 0) (sq (xGS 11 51 1 0) (sq (xLI 1) (sq (xC (.int 0)) (sq (xTI 51 6 (fun x => x)) (sq (xC (.int 0)) (sq (xSI 2) (tGo 21 [true, true, true]))))))))),
  (21, (sq (xLI 2) (sq (xLA 0) (sq (xGS 11 50 1 0) (sq (xC (.int 3)) (sq (xAI 50 98) (tIf2 (fun x y => decide (y ≤ x)) 99 [true, true, false] 31 [true, true, true]))))))),
  (31, (sq (xLA 0) (sq (xGS 11 51 1 0) (sq (xLI 1) (sq (xDup2) (sq (xAI 51 6) (sq (xLA 0) (sq (xLI 1) (sq (xCI 11 2 F_X12_isHome) (tIf1 (fun x => decide (x = 0)) 90 [true, true, true] 46 [true, true, true])))))))))),
  (46, (sq (xLA 0) (sq (xLI 2) (sq (xCI 11 2 F_X12_isHome) (tIf1 (fun x => decide (x = 0)) 90 [true, true, true] 54 [true, true, true]))))),
  (54, (sq (xLA 0) (sq (xLI 1) (sq (xCI 11 2 F_X12_besideOf) (sq (xLI 2) (sq (xCI 99 2 F_X12_isOf) (tIf1 (fun x => decide (x = 0)) 90 [true, true, true] 66 [true, true, true]))))))),
  (66, (sq (xLA 0) (sq (xLI 2) (sq (xCI 11 2 F_X12_fullOf) (sq (xLA 0) (sq (xLI 1) (sq (xCI 11 2 F_X12_fullOf) (sq (xI2 (· - ·)) (sq (xLA 0) (sq (xGS 11 50 1 0) (sq (xC (.int 1)) (sq (xAI 50 98) (tIf2 (fun x y => decide (x ≤ y)) 90 [true, true, true] 86 [true, true, true]))))))))))))),
  (86, (sq (xC (.int 1)) (tGo 91 [true, true, true]))),
  (90, (sq (xC (.int 0)) (tGo 91 [true, true, true]))),
  (91, (sq (xI2 (· + ·)) (sq (xTI 51 6 (fun x => x)) (sq (xInc 2 1) (tGo 21 [true, true, true]))))),
  (99, (sq (xInc 1 1) (tGo 2 [true, true, false]))),
  (105, (sq (xC (.int 0)) (sq (xSI 1) (tGo 107 [true, true, false])))),
  (107, (sq (xLI 1) (sq (xLA 0) (sq (xGS 11 50 1 0) (sq (xC (.int 3)) (sq (xAI 50 98) (tIf2 (fun x y => decide (y ≤ x)) 141 [false, false, false] 117 [true, true, false]))))))),
  (117, (sq (xLA 0) (sq (xLI 1) (sq (xLA 0) (sq (xGS 11 51 1 0) (sq (xLI 1) (sq (xAI 51 6) (sq (xLA 0) (sq (xGS 11 50 1 0) (sq (xC (.int 1)) (sq (xAI 50 98) (sq (xI2 (· * ·)) (sq (xCV 11 3 F_X12_fills) (sq (xInc 1 1) (tGo 107 [true, true, false]))))))))))))))),
  (141, tRV)]
set_option maxRecDepth 100000 in
set_option maxHeartbeats 4000000 in
theorem s_X12_overhears : ∀ X : XCtx, XE X → X.2.2.1.1 = cX12_overhears → X.2.2.1.2.1 = 3 → X.2.2.1.2.2.1 = yX12_overhears.cls → X.2.2.1.2.2.2.1 = none → X.1.2.2.2.1 = { frames := 2, cells := 0, slots := 0, locals := 44 } → SndBs X bs_X12_overhears := by
  rintro ⟨⟨p, l, e, R, s⟩, Y, ⟨cc, nL, own, ret, Ts⟩, Z⟩ hE h1 h2 h3 h4 h5
  dsimp only at h1 h2 h3 h4 h5
  subst h1 h2 h3 h4 h5
  exact ⟨(n_sq (n_iconst hE (by decide) dX12_overhears_0) (n_sq (n_istore_n hE (show (1 : Nat) < 3 by decide) dX12_overhears_1) n_fall)),
    (n_sq (n_iload_n hE dX12_overhears_2) (n_sq (n_aload_n hE dX12_overhears_3) (n_sq (n_getS hE xk_11 (k := 20) rfl (by decide) rfl wt_980 dX12_overhears_4) (n_sq (n_iconst hE (by decide) dX12_overhears_7) (n_sq (n_iald hE rfl (by decide) dX12_overhears_8) (n_ifcge hE (by decide) dX12_overhears_9)))))),
    (n_sq (n_aload_n hE dX12_overhears_12) (n_sq (n_getS hE xk_11 (k := 24) rfl (by decide) rfl wt_984 dX12_overhears_13) (n_sq (n_iload_n hE dX12_overhears_16) (n_sq (n_iconst hE (by decide) dX12_overhears_17) (n_sq (n_iast hE rfl (by decide) dX12_overhears_18) (n_sq (n_iconst hE (by decide) dX12_overhears_19) (n_sq (n_istore_n hE (show (2 : Nat) < 3 by decide) dX12_overhears_20) n_fall))))))),
    (n_sq (n_iload_n hE dX12_overhears_21) (n_sq (n_aload_n hE dX12_overhears_22) (n_sq (n_getS hE xk_11 (k := 20) rfl (by decide) rfl wt_980 dX12_overhears_23) (n_sq (n_iconst hE (by decide) dX12_overhears_26) (n_sq (n_iald hE rfl (by decide) dX12_overhears_27) (n_ifcge hE (by decide) dX12_overhears_28)))))),
    (n_sq (n_aload_n hE dX12_overhears_31) (n_sq (n_getS hE xk_11 (k := 24) rfl (by decide) rfl wt_984 dX12_overhears_32) (n_sq (n_iload_n hE dX12_overhears_35) (n_sq (n_dup2 hE dX12_overhears_36) (n_sq (n_iald hE rfl (by decide) dX12_overhears_37) (n_sq (n_aload_n hE dX12_overhears_38) (n_sq (n_iload_n hE dX12_overhears_39) (n_sq (n_cIv hE m_X12_isHome vc_X12_345 (show 1 + 1 ≤ 2 ∧ 8 + (2 + 11) + 21 ≤ 44 by decide) dX12_overhears_40) (n_ifeq hE (by decide) dX12_overhears_43))))))))),
    (n_sq (n_aload_n hE dX12_overhears_46) (n_sq (n_iload_n hE dX12_overhears_47) (n_sq (n_cIv hE m_X12_isHome vc_X12_345 (show 1 + 1 ≤ 2 ∧ 8 + (2 + 11) + 21 ≤ 44 by decide) dX12_overhears_48) (n_ifeq hE (by decide) dX12_overhears_51)))),
    (n_sq (n_aload_n hE dX12_overhears_54) (n_sq (n_iload_n hE dX12_overhears_55) (n_sq (n_cIv hE m_X12_besideOf vc_X12_317 (show 0 + 1 ≤ 2 ∧ 8 + (2 + 11) + 0 ≤ 44 by decide) dX12_overhears_56) (n_sq (n_iload_n hE dX12_overhears_59) (n_sq (n_cIs hE m_X12_isOf vc_X12_92 (show 0 + 1 ≤ 2 ∧ 8 + (2 + 11) + 0 ≤ 44 by decide) dX12_overhears_60) (n_ifeq hE (by decide) dX12_overhears_63)))))),
    (n_sq (n_aload_n hE dX12_overhears_66) (n_sq (n_iload_n hE dX12_overhears_67) (n_sq (n_cIv hE m_X12_fullOf vc_X12_304 (show 0 + 1 ≤ 2 ∧ 8 + (2 + 11) + 0 ≤ 44 by decide) dX12_overhears_68) (n_sq (n_aload_n hE dX12_overhears_71) (n_sq (n_iload_n hE dX12_overhears_72) (n_sq (n_cIv hE m_X12_fullOf vc_X12_304 (show 0 + 1 ≤ 2 ∧ 8 + (2 + 11) + 0 ≤ 44 by decide) dX12_overhears_73) (n_sq (n_isub hE dX12_overhears_76) (n_sq (n_aload_n hE dX12_overhears_77) (n_sq (n_getS hE xk_11 (k := 20) rfl (by decide) rfl wt_980 dX12_overhears_78) (n_sq (n_iconst hE (by decide) dX12_overhears_81) (n_sq (n_iald hE rfl (by decide) dX12_overhears_82) (n_ifcle hE (by decide) dX12_overhears_83)))))))))))),
    (n_sq (n_iconst hE (by decide) dX12_overhears_86) (n_goto hE (by decide) dX12_overhears_87)),
    (n_sq (n_iconst hE (by decide) dX12_overhears_90) n_fall),
    (n_sq (n_iadd hE dX12_overhears_91) (n_sq (n_iast hE rfl (by decide) dX12_overhears_92) (n_sq (n_iinc hE (by decide) (show (2 : Nat) < 3 by decide) dX12_overhears_93) (n_goto hE (by decide) dX12_overhears_96)))),
    (n_sq (n_iinc hE (by decide) (show (1 : Nat) < 3 by decide) dX12_overhears_99) (n_goto hE (by decide) dX12_overhears_102)),
    (n_sq (n_iconst hE (by decide) dX12_overhears_105) (n_sq (n_istore_n hE (show (1 : Nat) < 3 by decide) dX12_overhears_106) n_fall)),
    (n_sq (n_iload_n hE dX12_overhears_107) (n_sq (n_aload_n hE dX12_overhears_108) (n_sq (n_getS hE xk_11 (k := 20) rfl (by decide) rfl wt_980 dX12_overhears_109) (n_sq (n_iconst hE (by decide) dX12_overhears_112) (n_sq (n_iald hE rfl (by decide) dX12_overhears_113) (n_ifcge hE (by decide) dX12_overhears_114)))))),
    (n_sq (n_aload_n hE dX12_overhears_117) (n_sq (n_iload_n hE dX12_overhears_118) (n_sq (n_aload_n hE dX12_overhears_119) (n_sq (n_getS hE xk_11 (k := 24) rfl (by decide) rfl wt_984 dX12_overhears_120) (n_sq (n_iload_n hE dX12_overhears_123) (n_sq (n_iald hE rfl (by decide) dX12_overhears_124) (n_sq (n_aload_n hE dX12_overhears_125) (n_sq (n_getS hE xk_11 (k := 20) rfl (by decide) rfl wt_980 dX12_overhears_126) (n_sq (n_iconst hE (by decide) dX12_overhears_129) (n_sq (n_iald hE rfl (by decide) dX12_overhears_130) (n_sq (n_imul hE dX12_overhears_131) (n_sq (n_cVv hE m_X12_fills vc_X12_348 (show 1 + 1 ≤ 2 ∧ 8 + (4 + 11) + 21 ≤ 44 by decide) dX12_overhears_132) (n_sq (n_iinc hE (by decide) (show (1 : Nat) < 3 by decide) dX12_overhears_135) (n_goto hE (by decide) dX12_overhears_138)))))))))))))),
    (n_vreturn hE rfl dX12_overhears_141), trivial⟩
noncomputable def F_X12_overhears (as : List XV) (w : XW) : Option XW := (xF 3 bs_X12_overhears as w).bind pV
theorem m_X12_overhears : XM yX12_overhears cX12_overhears 3 none 2 44 (eV F_X12_overhears) := xm_V (xm_of (by decide) s_X12_overhears)
noncomputable def q_X12_overhears_0 (w : XW) : Option XR := ev bs_X12_overhears 0 ([some (.inr (11, 0)), none, none], [], w)
noncomputable def q_X12_overhears_2 (x1 : Int32) (w : XW) : Option XR := ev bs_X12_overhears 2 ([some (.inr (11, 0)), some (.inl (.int x1)), none], [], w)
noncomputable def q_X12_overhears_12 (x1 : Int32) (w : XW) : Option XR := ev bs_X12_overhears 12 ([some (.inr (11, 0)), some (.inl (.int x1)), none], [], w)
noncomputable def q_X12_overhears_21 (x1 : Int32) (x2 : Int32) (w : XW) : Option XR := ev bs_X12_overhears 21 ([some (.inr (11, 0)), some (.inl (.int x1)), some (.inl (.int x2))], [], w)
noncomputable def q_X12_overhears_31 (x1 : Int32) (x2 : Int32) (w : XW) : Option XR := ev bs_X12_overhears 31 ([some (.inr (11, 0)), some (.inl (.int x1)), some (.inl (.int x2))], [], w)
noncomputable def q_X12_overhears_46 (x1 : Int32) (x2 : Int32) (s1 : Int32) (s2 : Int32) (w : XW) : Option XR := ev bs_X12_overhears 46 ([some (.inr (11, 0)), some (.inl (.int x1)), some (.inl (.int x2))], [.inl (.int s2), .inl (.int s1), .inr (51, 0)], w)
noncomputable def q_X12_overhears_54 (x1 : Int32) (x2 : Int32) (s1 : Int32) (s2 : Int32) (w : XW) : Option XR := ev bs_X12_overhears 54 ([some (.inr (11, 0)), some (.inl (.int x1)), some (.inl (.int x2))], [.inl (.int s2), .inl (.int s1), .inr (51, 0)], w)
noncomputable def q_X12_overhears_66 (x1 : Int32) (x2 : Int32) (s1 : Int32) (s2 : Int32) (w : XW) : Option XR := ev bs_X12_overhears 66 ([some (.inr (11, 0)), some (.inl (.int x1)), some (.inl (.int x2))], [.inl (.int s2), .inl (.int s1), .inr (51, 0)], w)
noncomputable def q_X12_overhears_86 (x1 : Int32) (x2 : Int32) (s1 : Int32) (s2 : Int32) (w : XW) : Option XR := ev bs_X12_overhears 86 ([some (.inr (11, 0)), some (.inl (.int x1)), some (.inl (.int x2))], [.inl (.int s2), .inl (.int s1), .inr (51, 0)], w)
noncomputable def q_X12_overhears_90 (x1 : Int32) (x2 : Int32) (s1 : Int32) (s2 : Int32) (w : XW) : Option XR := ev bs_X12_overhears 90 ([some (.inr (11, 0)), some (.inl (.int x1)), some (.inl (.int x2))], [.inl (.int s2), .inl (.int s1), .inr (51, 0)], w)
noncomputable def q_X12_overhears_91 (x1 : Int32) (x2 : Int32) (s1 : Int32) (s2 : Int32) (s3 : Int32) (w : XW) : Option XR := ev bs_X12_overhears 91 ([some (.inr (11, 0)), some (.inl (.int x1)), some (.inl (.int x2))], [.inl (.int s3), .inl (.int s2), .inl (.int s1), .inr (51, 0)], w)
noncomputable def q_X12_overhears_99 (x1 : Int32) (w : XW) : Option XR := ev bs_X12_overhears 99 ([some (.inr (11, 0)), some (.inl (.int x1)), none], [], w)
noncomputable def q_X12_overhears_105 (w : XW) : Option XR := ev bs_X12_overhears 105 ([some (.inr (11, 0)), none, none], [], w)
noncomputable def q_X12_overhears_107 (x1 : Int32) (w : XW) : Option XR := ev bs_X12_overhears 107 ([some (.inr (11, 0)), some (.inl (.int x1)), none], [], w)
noncomputable def q_X12_overhears_117 (x1 : Int32) (w : XW) : Option XR := ev bs_X12_overhears 117 ([some (.inr (11, 0)), some (.inl (.int x1)), none], [], w)
noncomputable def q_X12_overhears_141 (w : XW) : Option XR := ev bs_X12_overhears 141 ([none, none, none], [], w)
set_option maxRecDepth 100000 in
theorem e_X12_overhears_0 (w : XW) : q_X12_overhears_0 w = (q_X12_overhears_2 0 w) := (ev_eq _ _ _).trans rfl
set_option maxRecDepth 100000 in
theorem e_X12_overhears_2 (x1 : Int32) (w : XW) : q_X12_overhears_2 x1 w = (bif decide ((gI w 50 0 3) ≤ x1) then (q_X12_overhears_105 w) else (q_X12_overhears_12 x1 w)) := (ev_eq _ _ _).trans rfl
set_option maxRecDepth 100000 in
theorem e_X12_overhears_12 (x1 : Int32) (w : XW) : q_X12_overhears_12 x1 w = (if x1 < 0 ∨ 6 ≤ x1.toNatClampNeg then none else (q_X12_overhears_21 x1 0 (sI w 51 0 x1.toNatClampNeg 0))) := (ev_eq _ _ _).trans rfl
set_option maxRecDepth 100000 in
theorem e_X12_overhears_21 (x1 : Int32) (x2 : Int32) (w : XW) : q_X12_overhears_21 x1 x2 w = (bif decide ((gI w 50 0 3) ≤ x2) then (q_X12_overhears_99 x1 w) else (q_X12_overhears_31 x1 x2 w)) := (ev_eq _ _ _).trans rfl
set_option maxRecDepth 100000 in
theorem e_X12_overhears_31 (x1 : Int32) (x2 : Int32) (w : XW) : q_X12_overhears_31 x1 x2 w = (if x1 < 0 ∨ 6 ≤ x1.toNatClampNeg then none else ((F_X12_isHome [.inr (11, 0), .inl (.int x1)] w).bind fun r0 => (bif decide (r0.1 = 0) then (q_X12_overhears_90 x1 x2 x1 (gI w 51 0 x1.toNatClampNeg) r0.2) else (q_X12_overhears_46 x1 x2 x1 (gI w 51 0 x1.toNatClampNeg) r0.2)))) := (ev_eq _ _ _).trans rfl
set_option maxRecDepth 100000 in
theorem e_X12_overhears_46 (x1 : Int32) (x2 : Int32) (s1 : Int32) (s2 : Int32) (w : XW) : q_X12_overhears_46 x1 x2 s1 s2 w = ((F_X12_isHome [.inr (11, 0), .inl (.int x2)] w).bind fun r0 => (bif decide (r0.1 = 0) then (q_X12_overhears_90 x1 x2 s1 s2 r0.2) else (q_X12_overhears_54 x1 x2 s1 s2 r0.2))) := (ev_eq _ _ _).trans rfl
set_option maxRecDepth 100000 in
theorem e_X12_overhears_54 (x1 : Int32) (x2 : Int32) (s1 : Int32) (s2 : Int32) (w : XW) : q_X12_overhears_54 x1 x2 s1 s2 w = ((F_X12_besideOf [.inr (11, 0), .inl (.int x1)] w).bind fun r0 => ((F_X12_isOf [.inl (.int r0.1), .inl (.int x2)] r0.2).bind fun r1 => (bif decide (r1.1 = 0) then (q_X12_overhears_90 x1 x2 s1 s2 r1.2) else (q_X12_overhears_66 x1 x2 s1 s2 r1.2)))) := (ev_eq _ _ _).trans rfl
set_option maxRecDepth 100000 in
theorem e_X12_overhears_66 (x1 : Int32) (x2 : Int32) (s1 : Int32) (s2 : Int32) (w : XW) : q_X12_overhears_66 x1 x2 s1 s2 w = ((F_X12_fullOf [.inr (11, 0), .inl (.int x2)] w).bind fun r0 => ((F_X12_fullOf [.inr (11, 0), .inl (.int x1)] r0.2).bind fun r1 => (bif decide ((r0.1 - r1.1) ≤ (gI r1.2 50 0 1)) then (q_X12_overhears_90 x1 x2 s1 s2 r1.2) else (q_X12_overhears_86 x1 x2 s1 s2 r1.2)))) := (ev_eq _ _ _).trans rfl
set_option maxRecDepth 100000 in
theorem e_X12_overhears_86 (x1 : Int32) (x2 : Int32) (s1 : Int32) (s2 : Int32) (w : XW) : q_X12_overhears_86 x1 x2 s1 s2 w = (q_X12_overhears_91 x1 x2 s1 s2 1 w) := (ev_eq _ _ _).trans rfl
set_option maxRecDepth 100000 in
theorem e_X12_overhears_90 (x1 : Int32) (x2 : Int32) (s1 : Int32) (s2 : Int32) (w : XW) : q_X12_overhears_90 x1 x2 s1 s2 w = (q_X12_overhears_91 x1 x2 s1 s2 0 w) := (ev_eq _ _ _).trans rfl
set_option maxRecDepth 100000 in
theorem e_X12_overhears_91 (x1 : Int32) (x2 : Int32) (s1 : Int32) (s2 : Int32) (s3 : Int32) (w : XW) : q_X12_overhears_91 x1 x2 s1 s2 s3 w = (if s1 < 0 ∨ 6 ≤ s1.toNatClampNeg then none else (q_X12_overhears_21 x1 (x2 + 1) (sI w 51 0 s1.toNatClampNeg (s2 + s3)))) := (ev_eq _ _ _).trans rfl
set_option maxRecDepth 100000 in
theorem e_X12_overhears_99 (x1 : Int32) (w : XW) : q_X12_overhears_99 x1 w = (q_X12_overhears_2 (x1 + 1) w) := (ev_eq _ _ _).trans rfl
set_option maxRecDepth 100000 in
theorem e_X12_overhears_105 (w : XW) : q_X12_overhears_105 w = (q_X12_overhears_107 0 w) := (ev_eq _ _ _).trans rfl
set_option maxRecDepth 100000 in
theorem e_X12_overhears_107 (x1 : Int32) (w : XW) : q_X12_overhears_107 x1 w = (bif decide ((gI w 50 0 3) ≤ x1) then (q_X12_overhears_141 w) else (q_X12_overhears_117 x1 w)) := (ev_eq _ _ _).trans rfl
set_option maxRecDepth 100000 in
theorem e_X12_overhears_117 (x1 : Int32) (w : XW) : q_X12_overhears_117 x1 w = (if x1 < 0 ∨ 6 ≤ x1.toNatClampNeg then none else ((F_X12_fills [.inr (11, 0), .inl (.int x1), .inl (.int ((gI w 51 0 x1.toNatClampNeg) * (gI w 50 0 1)))] w).bind fun r0 => (q_X12_overhears_107 (x1 + 1) r0))) := (ev_eq _ _ _).trans rfl
set_option maxRecDepth 100000 in
theorem e_X12_overhears_141 (w : XW) : q_X12_overhears_141 w = (some (none, w)) := (ev_eq _ _ _).trans rfl
theorem f_X12_overhears (w : XW) : F_X12_overhears [.inr (11, 0)] w = (q_X12_overhears_0 w).bind pV := rfl

-- WinterKeepModel.burns1(I)V
theorem dX12_burns1_0 : decode cX12_burns1 0 = .ok (.aload_n 0, 1) := by decide +kernel
theorem dX12_burns1_1 : decode cX12_burns1 1 = .ok (.getfield 39, 3) := by decide +kernel
theorem dX12_burns1_4 : decode cX12_burns1 4 = .ok (.bipush 11, 2) := by decide +kernel
theorem dX12_burns1_6 : decode cX12_burns1 6 = .ok (.iconst 4, 1) := by decide +kernel
theorem dX12_burns1_7 : decode cX12_burns1 7 = .ok (.iload_n 1, 1) := by decide +kernel
theorem dX12_burns1_8 : decode cX12_burns1 8 = .ok (.imul, 1) := by decide +kernel
theorem dX12_burns1_9 : decode cX12_burns1 9 = .ok (.iadd, 1) := by decide +kernel
theorem dX12_burns1_10 : decode cX12_burns1 10 = .ok (.iconst 0, 1) := by decide +kernel
theorem dX12_burns1_11 : decode cX12_burns1 11 = .ok (.iastore, 1) := by decide +kernel
theorem dX12_burns1_12 : decode cX12_burns1 12 = .ok (.aload_n 0, 1) := by decide +kernel
theorem dX12_burns1_13 : decode cX12_burns1 13 = .ok (.getfield 39, 3) := by decide +kernel
theorem dX12_burns1_16 : decode cX12_burns1 16 = .ok (.bipush 11, 2) := by decide +kernel
theorem dX12_burns1_18 : decode cX12_burns1 18 = .ok (.iconst 4, 1) := by decide +kernel
theorem dX12_burns1_19 : decode cX12_burns1 19 = .ok (.iload_n 1, 1) := by decide +kernel
theorem dX12_burns1_20 : decode cX12_burns1 20 = .ok (.imul, 1) := by decide +kernel
theorem dX12_burns1_21 : decode cX12_burns1 21 = .ok (.iadd, 1) := by decide +kernel
theorem dX12_burns1_22 : decode cX12_burns1 22 = .ok (.iconst 1, 1) := by decide +kernel
theorem dX12_burns1_23 : decode cX12_burns1 23 = .ok (.iadd, 1) := by decide +kernel
theorem dX12_burns1_24 : decode cX12_burns1 24 = .ok (.iconst 0, 1) := by decide +kernel
theorem dX12_burns1_25 : decode cX12_burns1 25 = .ok (.iastore, 1) := by decide +kernel
theorem dX12_burns1_26 : decode cX12_burns1 26 = .ok (.aload_n 0, 1) := by decide +kernel
theorem dX12_burns1_27 : decode cX12_burns1 27 = .ok (.getfield 39, 3) := by decide +kernel
theorem dX12_burns1_30 : decode cX12_burns1 30 = .ok (.bipush 11, 2) := by decide +kernel
theorem dX12_burns1_32 : decode cX12_burns1 32 = .ok (.iconst 4, 1) := by decide +kernel
theorem dX12_burns1_33 : decode cX12_burns1 33 = .ok (.iload_n 1, 1) := by decide +kernel
theorem dX12_burns1_34 : decode cX12_burns1 34 = .ok (.imul, 1) := by decide +kernel
theorem dX12_burns1_35 : decode cX12_burns1 35 = .ok (.iadd, 1) := by decide +kernel
theorem dX12_burns1_36 : decode cX12_burns1 36 = .ok (.iconst 2, 1) := by decide +kernel
theorem dX12_burns1_37 : decode cX12_burns1 37 = .ok (.iadd, 1) := by decide +kernel
theorem dX12_burns1_38 : decode cX12_burns1 38 = .ok (.bipush (-2), 2) := by decide +kernel
theorem dX12_burns1_40 : decode cX12_burns1 40 = .ok (.iastore, 1) := by decide +kernel
theorem dX12_burns1_41 : decode cX12_burns1 41 = .ok (.return_, 1) := by decide +kernel
noncomputable def bs_X12_burns1 : List (Nat × XB) := [
  (0, (sq (xLA 0) (sq (xGS 11 50 1 0) (sq (xC (.int 11)) (sq (xC (.int 4)) (sq (xLI 1) (sq (xI2 (· * ·)) (sq (xI2 (· + ·)) (sq (xC (.int 0)) (sq (xTI 50 98 (fun x => x)) (sq (xLA 0) (sq (xGS 11 50 1 0) (sq (xC (.int 11)) (sq (xC (.int 4)) (sq (xLI 1) (sq (xI2 (· * ·)) (sq (xI2 (· + ·)) (sq (xC (.int 1)) (sq (xI2 (· + ·)) (sq (xC (.int 0)) (sq (xTI 50 98 (fun x => x)) (sq (xLA 0) (sq (xGS 11 50 1 0) (sq (xC (.int 11)) (sq (xC (.int 4)) (sq (xLI 1) (sq (xI2 (· * ·)) (sq (xI2 (· + ·)) (sq (xC (.int 2)) (sq (xI2 (· + ·)) (sq (xC (.int (-2))) (sq (xTI 50 98 (fun x => x)) tRV))))))))))))))))))))))))))))))))]
set_option maxRecDepth 100000 in
set_option maxHeartbeats 4000000 in
theorem s_X12_burns1 : ∀ X : XCtx, XE X → X.2.2.1.1 = cX12_burns1 → X.2.2.1.2.1 = 2 → X.2.2.1.2.2.1 = yX12_burns1.cls → X.2.2.1.2.2.2.1 = none → X.1.2.2.2.1 = { frames := 0, cells := 0, slots := 0, locals := 0 } → SndBs X bs_X12_burns1 := by
  rintro ⟨⟨p, l, e, R, s⟩, Y, ⟨cc, nL, own, ret, Ts⟩, Z⟩ hE h1 h2 h3 h4 h5
  dsimp only at h1 h2 h3 h4 h5
  subst h1 h2 h3 h4 h5
  exact ⟨(n_sq (n_aload_n hE dX12_burns1_0) (n_sq (n_getS hE xk_11 (k := 20) rfl (by decide) rfl wt_980 dX12_burns1_1) (n_sq (n_bipush hE (by decide) dX12_burns1_4) (n_sq (n_iconst hE (by decide) dX12_burns1_6) (n_sq (n_iload_n hE dX12_burns1_7) (n_sq (n_imul hE dX12_burns1_8) (n_sq (n_iadd hE dX12_burns1_9) (n_sq (n_iconst hE (by decide) dX12_burns1_10) (n_sq (n_iast hE rfl (by decide) dX12_burns1_11) (n_sq (n_aload_n hE dX12_burns1_12) (n_sq (n_getS hE xk_11 (k := 20) rfl (by decide) rfl wt_980 dX12_burns1_13) (n_sq (n_bipush hE (by decide) dX12_burns1_16) (n_sq (n_iconst hE (by decide) dX12_burns1_18) (n_sq (n_iload_n hE dX12_burns1_19) (n_sq (n_imul hE dX12_burns1_20) (n_sq (n_iadd hE dX12_burns1_21) (n_sq (n_iconst hE (by decide) dX12_burns1_22) (n_sq (n_iadd hE dX12_burns1_23) (n_sq (n_iconst hE (by decide) dX12_burns1_24) (n_sq (n_iast hE rfl (by decide) dX12_burns1_25) (n_sq (n_aload_n hE dX12_burns1_26) (n_sq (n_getS hE xk_11 (k := 20) rfl (by decide) rfl wt_980 dX12_burns1_27) (n_sq (n_bipush hE (by decide) dX12_burns1_30) (n_sq (n_iconst hE (by decide) dX12_burns1_32) (n_sq (n_iload_n hE dX12_burns1_33) (n_sq (n_imul hE dX12_burns1_34) (n_sq (n_iadd hE dX12_burns1_35) (n_sq (n_iconst hE (by decide) dX12_burns1_36) (n_sq (n_iadd hE dX12_burns1_37) (n_sq (n_bipush hE (by decide) dX12_burns1_38) (n_sq (n_iast hE rfl (by decide) dX12_burns1_40) (n_vreturn hE rfl dX12_burns1_41)))))))))))))))))))))))))))))))), trivial⟩
noncomputable def F_X12_burns1 (as : List XV) (w : XW) : Option XW := (xF 2 bs_X12_burns1 as w).bind pV
theorem m_X12_burns1 : XM yX12_burns1 cX12_burns1 2 none 0 0 (eV F_X12_burns1) := xm_V (xm_of (by decide) s_X12_burns1)
noncomputable def q_X12_burns1_0 (x1 : Int32) (w : XW) : Option XR := ev bs_X12_burns1 0 ([some (.inr (11, 0)), some (.inl (.int x1))], [], w)
theorem e_X12_burns1_0 (x1 : Int32) (w : XW) : q_X12_burns1_0 x1 w = (if (11 + (4 * x1)) < 0 ∨ 98 ≤ (11 + (4 * x1)).toNatClampNeg then none else (if ((11 + (4 * x1)) + 1) < 0 ∨ 98 ≤ ((11 + (4 * x1)) + 1).toNatClampNeg then none else (if ((11 + (4 * x1)) + 2) < 0 ∨ 98 ≤ ((11 + (4 * x1)) + 2).toNatClampNeg then none else (some (none, sI (sI (sI w 50 0 ((11 + (4 * x1)).toNatClampNeg) 0) 50 0 (((11 + (4 * x1)) + 1).toNatClampNeg) 0) 50 0 (((11 + (4 * x1)) + 2).toNatClampNeg) (-2)))))) := (ev_eq _ _ _).trans rfl
theorem f_X12_burns1 (x1 : Int32) (w : XW) : F_X12_burns1 [.inr (11, 0), .inl (.int x1)] w = (q_X12_burns1_0 x1 w).bind pV := rfl

-- WinterKeepModel.heats(I)Z
theorem dX12_heats_0 : decode cX12_heats 0 = .ok (.aload_n 0, 1) := by decide +kernel
theorem dX12_heats_1 : decode cX12_heats 1 = .ok (.iload_n 1, 1) := by decide +kernel
theorem dX12_heats_2 : decode cX12_heats 2 = .ok (.invokevirtual 351, 3) := by decide +kernel
theorem dX12_heats_5 : decode cX12_heats 5 = .ok (.ifCond .eq 5, 3) := by decide +kernel
theorem dX12_heats_8 : decode cX12_heats 8 = .ok (.iconst 0, 1) := by decide +kernel
theorem dX12_heats_9 : decode cX12_heats 9 = .ok (.ireturn, 1) := by decide +kernel
theorem dX12_heats_10 : decode cX12_heats 10 = .ok (.aload_n 0, 1) := by decide +kernel
theorem dX12_heats_11 : decode cX12_heats 11 = .ok (.iload_n 1, 1) := by decide +kernel
theorem dX12_heats_12 : decode cX12_heats 12 = .ok (.invokevirtual 314, 3) := by decide +kernel
theorem dX12_heats_15 : decode cX12_heats 15 = .ok (.aload_n 0, 1) := by decide +kernel
theorem dX12_heats_16 : decode cX12_heats 16 = .ok (.iload_n 1, 1) := by decide +kernel
theorem dX12_heats_17 : decode cX12_heats 17 = .ok (.invokevirtual 304, 3) := by decide +kernel
theorem dX12_heats_20 : decode cX12_heats 20 = .ok (.iconst 4, 1) := by decide +kernel
theorem dX12_heats_21 : decode cX12_heats 21 = .ok (.idiv, 1) := by decide +kernel
theorem dX12_heats_22 : decode cX12_heats 22 = .ok (.iadd, 1) := by decide +kernel
theorem dX12_heats_23 : decode cX12_heats 23 = .ok (.aload_n 0, 1) := by decide +kernel
theorem dX12_heats_24 : decode cX12_heats 24 = .ok (.iload_n 1, 1) := by decide +kernel
theorem dX12_heats_25 : decode cX12_heats 25 = .ok (.invokevirtual 301, 3) := by decide +kernel
theorem dX12_heats_28 : decode cX12_heats 28 = .ok (.ifCond .lt 7, 3) := by decide +kernel
theorem dX12_heats_31 : decode cX12_heats 31 = .ok (.iconst 2, 1) := by decide +kernel
theorem dX12_heats_32 : decode cX12_heats 32 = .ok (.goto 4, 3) := by decide +kernel
theorem dX12_heats_35 : decode cX12_heats 35 = .ok (.iconst 1, 1) := by decide +kernel
theorem dX12_heats_36 : decode cX12_heats 36 = .ok (.aload_n 0, 1) := by decide +kernel
theorem dX12_heats_37 : decode cX12_heats 37 = .ok (.getfield 39, 3) := by decide +kernel
theorem dX12_heats_40 : decode cX12_heats 40 = .ok (.bipush 41, 2) := by decide +kernel
theorem dX12_heats_42 : decode cX12_heats 42 = .ok (.iload_n 1, 1) := by decide +kernel
theorem dX12_heats_43 : decode cX12_heats 43 = .ok (.iadd, 1) := by decide +kernel
theorem dX12_heats_44 : decode cX12_heats 44 = .ok (.iaload, 1) := by decide +kernel
theorem dX12_heats_45 : decode cX12_heats 45 = .ok (.imul, 1) := by decide +kernel
theorem dX12_heats_46 : decode cX12_heats 46 = .ok (.isub, 1) := by decide +kernel
theorem dX12_heats_47 : decode cX12_heats 47 = .ok (.istore_n 2, 1) := by decide +kernel
theorem dX12_heats_48 : decode cX12_heats 48 = .ok (.aload_n 0, 1) := by decide +kernel
theorem dX12_heats_49 : decode cX12_heats 49 = .ok (.getfield 39, 3) := by decide +kernel
theorem dX12_heats_52 : decode cX12_heats 52 = .ok (.bipush 11, 2) := by decide +kernel
theorem dX12_heats_54 : decode cX12_heats 54 = .ok (.iconst 4, 1) := by decide +kernel
theorem dX12_heats_55 : decode cX12_heats 55 = .ok (.iload_n 1, 1) := by decide +kernel
theorem dX12_heats_56 : decode cX12_heats 56 = .ok (.imul, 1) := by decide +kernel
theorem dX12_heats_57 : decode cX12_heats 57 = .ok (.iadd, 1) := by decide +kernel
theorem dX12_heats_58 : decode cX12_heats 58 = .ok (.iconst 1, 1) := by decide +kernel
theorem dX12_heats_59 : decode cX12_heats 59 = .ok (.iadd, 1) := by decide +kernel
theorem dX12_heats_60 : decode cX12_heats 60 = .ok (.iload_n 2, 1) := by decide +kernel
theorem dX12_heats_61 : decode cX12_heats 61 = .ok (.ifCond .ge 7, 3) := by decide +kernel
theorem dX12_heats_64 : decode cX12_heats 64 = .ok (.iconst 0, 1) := by decide +kernel
theorem dX12_heats_65 : decode cX12_heats 65 = .ok (.goto 4, 3) := by decide +kernel
theorem dX12_heats_68 : decode cX12_heats 68 = .ok (.iload_n 2, 1) := by decide +kernel
theorem dX12_heats_69 : decode cX12_heats 69 = .ok (.iastore, 1) := by decide +kernel
theorem dX12_heats_70 : decode cX12_heats 70 = .ok (.iload_n 2, 1) := by decide +kernel
theorem dX12_heats_71 : decode cX12_heats 71 = .ok (.aload_n 0, 1) := by decide +kernel
theorem dX12_heats_72 : decode cX12_heats 72 = .ok (.getfield 39, 3) := by decide +kernel
theorem dX12_heats_75 : decode cX12_heats 75 = .ok (.iconst 2, 1) := by decide +kernel
theorem dX12_heats_76 : decode cX12_heats 76 = .ok (.iaload, 1) := by decide +kernel
theorem dX12_heats_77 : decode cX12_heats 77 = .ok (.if_icmp .ge 5, 3) := by decide +kernel
theorem dX12_heats_80 : decode cX12_heats 80 = .ok (.iconst 0, 1) := by decide +kernel
theorem dX12_heats_81 : decode cX12_heats 81 = .ok (.ireturn, 1) := by decide +kernel
theorem dX12_heats_82 : decode cX12_heats 82 = .ok (.aload_n 0, 1) := by decide +kernel
theorem dX12_heats_83 : decode cX12_heats 83 = .ok (.iload_n 1, 1) := by decide +kernel
theorem dX12_heats_84 : decode cX12_heats 84 = .ok (.invokevirtual 354, 3) := by decide +kernel
theorem dX12_heats_87 : decode cX12_heats 87 = .ok (.iconst 1, 1) := by decide +kernel
theorem dX12_heats_88 : decode cX12_heats 88 = .ok (.ireturn, 1) := by decide +kernel
theorem vc_X12_351 : XVw RX12 351 1 11 2 yX12_isBurnt cX12_isBurnt (some .boolean) := ⟨RX12, TX12, tyX12, 43, xk_11, rfl, ⟨by decide, by decide⟩, by decide +kernel, wt_1394, wt_1396, ws_95, wt_11, wt_1397⟩
theorem vc_X12_354 : XVw RX12 354 1 11 2 yX12_burns1 cX12_burns1 none := ⟨RX12, TX12, tyX12, 43, xk_11, rfl, ⟨by decide, by decide⟩, by decide +kernel, wt_1398, wt_1400, ws_96, wt_11, wt_1401⟩
noncomputable def bs_X12_heats : List (Nat × XB) := [
  (0, (sq (xLA 0) (sq (xLI 1) (sq (xCI 11 2 F_X12_isBurnt) (tIf1 (fun x => decide (x = 0)) 10 [true, true, false] 8 [false, false, false]))))),
  (8, (sq (xC (.int 0)) tRZ)),
  (10, (sq (xLA 0) (sq (xLI 1) (sq (xCI 11 2 F_X12_heatOf) (sq (xLA 0) (sq (xLI 1) (sq (xCI 11 2 F_X12_fullOf) (sq (xC (.int 4)) (sq (xI2z (· / ·)) (sq (xI2 (· + ·)) (sq (xLA 0) (sq (xLI 1) (sq (xCI 11 2 F_X12_whereIs) (tIf1 (fun x => decide (x < 0)) 35 [true, true, false] 31 [true, true, false])))))))))))))),
  (31, (sq (xC (.int 2)) (tGo 36 [true, true, false]))),
  (35, (sq (xC (.int 1)) (tGo 36 [true, true, false]))),
  (36, (sq (xLA 0) (sq (xGS 11 50 1 0) (sq (xC (.int 41)) (sq (xLI 1) (sq (xI2 (· + ·)) (sq (xAI 50 98) (sq (xI2 (· * ·)) (sq (xI2 (· - ·)) (sq (xSI 2) (sq (xLA 0) (sq (xGS 11 50 1 0) (sq (xC (.int 11)) (sq (xC (.int 4)) (sq (xLI 1) (sq (xI2 (· * ·)) (sq (xI2 (· + ·)) (sq (xC (.int 1)) (sq (xI2 (· + ·)) (sq (xLI 2) (tIf1 (fun x => decide (0 ≤ x)) 68 [true, true, true] 64 [true, true, true]))))))))))))))))))))),
  (64, (sq (xC (.int 0)) (tGo 69 [true, true, true]))),
  (68, (sq (xLI 2) (tGo 69 [true, true, true]))),
  (69, (sq (xTI 50 98 (fun x => x)) (sq (xLI 2) (sq (xLA 0) (sq (xGS 11 50 1 0) (sq (xC (.int 2)) (sq (xAI 50 98) (tIf2 (fun x y => decide (y ≤ x)) 82 [true, true, false] 80 [false, false, false])))))))),
  (80, (sq (xC (.int 0)) tRZ)),
  (82, (sq (xLA 0) (sq (xLI 1) (sq (xCV 11 2 F_X12_burns1) (sq (xC (.int 1)) tRZ)))))]
set_option maxRecDepth 100000 in
set_option maxHeartbeats 4000000 in
theorem s_X12_heats : ∀ X : XCtx, XE X → X.2.2.1.1 = cX12_heats → X.2.2.1.2.1 = 3 → X.2.2.1.2.2.1 = yX12_heats.cls → X.2.2.1.2.2.2.1 = (some .boolean) → X.1.2.2.2.1 = { frames := 2, cells := 0, slots := 0, locals := 42 } → SndBs X bs_X12_heats := by
  rintro ⟨⟨p, l, e, R, s⟩, Y, ⟨cc, nL, own, ret, Ts⟩, Z⟩ hE h1 h2 h3 h4 h5
  dsimp only at h1 h2 h3 h4 h5
  subst h1 h2 h3 h4 h5
  exact ⟨(n_sq (n_aload_n hE dX12_heats_0) (n_sq (n_iload_n hE dX12_heats_1) (n_sq (n_cIv hE m_X12_isBurnt vc_X12_351 (show 1 + 1 ≤ 2 ∧ 8 + (2 + 11) + 21 ≤ 42 by decide) dX12_heats_2) (n_ifeq hE (by decide) dX12_heats_5)))),
    (n_sq (n_iconst hE (by decide) dX12_heats_8) (n_zreturn hE rfl dX12_heats_9)),
    (n_sq (n_aload_n hE dX12_heats_10) (n_sq (n_iload_n hE dX12_heats_11) (n_sq (n_cIv hE m_X12_heatOf vc_X12_314 (show 0 + 1 ≤ 2 ∧ 8 + (2 + 11) + 0 ≤ 42 by decide) dX12_heats_12) (n_sq (n_aload_n hE dX12_heats_15) (n_sq (n_iload_n hE dX12_heats_16) (n_sq (n_cIv hE m_X12_fullOf vc_X12_304 (show 0 + 1 ≤ 2 ∧ 8 + (2 + 11) + 0 ≤ 42 by decide) dX12_heats_17) (n_sq (n_iconst hE (by decide) dX12_heats_20) (n_sq (n_idiv hE dX12_heats_21) (n_sq (n_iadd hE dX12_heats_22) (n_sq (n_aload_n hE dX12_heats_23) (n_sq (n_iload_n hE dX12_heats_24) (n_sq (n_cIv hE m_X12_whereIs vc_X12_301 (show 0 + 1 ≤ 2 ∧ 8 + (2 + 11) + 0 ≤ 42 by decide) dX12_heats_25) (n_iflt hE (by decide) dX12_heats_28))))))))))))),
    (n_sq (n_iconst hE (by decide) dX12_heats_31) (n_goto hE (by decide) dX12_heats_32)),
    (n_sq (n_iconst hE (by decide) dX12_heats_35) n_fall),
    (n_sq (n_aload_n hE dX12_heats_36) (n_sq (n_getS hE xk_11 (k := 20) rfl (by decide) rfl wt_980 dX12_heats_37) (n_sq (n_bipush hE (by decide) dX12_heats_40) (n_sq (n_iload_n hE dX12_heats_42) (n_sq (n_iadd hE dX12_heats_43) (n_sq (n_iald hE rfl (by decide) dX12_heats_44) (n_sq (n_imul hE dX12_heats_45) (n_sq (n_isub hE dX12_heats_46) (n_sq (n_istore_n hE (show (2 : Nat) < 3 by decide) dX12_heats_47) (n_sq (n_aload_n hE dX12_heats_48) (n_sq (n_getS hE xk_11 (k := 20) rfl (by decide) rfl wt_980 dX12_heats_49) (n_sq (n_bipush hE (by decide) dX12_heats_52) (n_sq (n_iconst hE (by decide) dX12_heats_54) (n_sq (n_iload_n hE dX12_heats_55) (n_sq (n_imul hE dX12_heats_56) (n_sq (n_iadd hE dX12_heats_57) (n_sq (n_iconst hE (by decide) dX12_heats_58) (n_sq (n_iadd hE dX12_heats_59) (n_sq (n_iload_n hE dX12_heats_60) (n_ifge hE (by decide) dX12_heats_61)))))))))))))))))))),
    (n_sq (n_iconst hE (by decide) dX12_heats_64) (n_goto hE (by decide) dX12_heats_65)),
    (n_sq (n_iload_n hE dX12_heats_68) n_fall),
    (n_sq (n_iast hE rfl (by decide) dX12_heats_69) (n_sq (n_iload_n hE dX12_heats_70) (n_sq (n_aload_n hE dX12_heats_71) (n_sq (n_getS hE xk_11 (k := 20) rfl (by decide) rfl wt_980 dX12_heats_72) (n_sq (n_iconst hE (by decide) dX12_heats_75) (n_sq (n_iald hE rfl (by decide) dX12_heats_76) (n_ifcge hE (by decide) dX12_heats_77))))))),
    (n_sq (n_iconst hE (by decide) dX12_heats_80) (n_zreturn hE rfl dX12_heats_81)),
    (n_sq (n_aload_n hE dX12_heats_82) (n_sq (n_iload_n hE dX12_heats_83) (n_sq (n_cVv hE m_X12_burns1 vc_X12_354 (show 0 + 1 ≤ 2 ∧ 8 + (2 + 11) + 0 ≤ 42 by decide) dX12_heats_84) (n_sq (n_iconst hE (by decide) dX12_heats_87) (n_zreturn hE rfl dX12_heats_88))))), trivial⟩
noncomputable def F_X12_heats (as : List XV) (w : XW) : Option (Int32 × XW) := (xF 3 bs_X12_heats as w).bind pI
theorem m_X12_heats : XM yX12_heats cX12_heats 3 (some .boolean) 2 42 (eI F_X12_heats) := xm_I (xm_of (by decide) s_X12_heats)
noncomputable def q_X12_heats_0 (x1 : Int32) (w : XW) : Option XR := ev bs_X12_heats 0 ([some (.inr (11, 0)), some (.inl (.int x1)), none], [], w)
noncomputable def q_X12_heats_8 (w : XW) : Option XR := ev bs_X12_heats 8 ([none, none, none], [], w)
noncomputable def q_X12_heats_10 (x1 : Int32) (w : XW) : Option XR := ev bs_X12_heats 10 ([some (.inr (11, 0)), some (.inl (.int x1)), none], [], w)
noncomputable def q_X12_heats_31 (x1 : Int32) (s0 : Int32) (w : XW) : Option XR := ev bs_X12_heats 31 ([some (.inr (11, 0)), some (.inl (.int x1)), none], [.inl (.int s0)], w)
noncomputable def q_X12_heats_35 (x1 : Int32) (s0 : Int32) (w : XW) : Option XR := ev bs_X12_heats 35 ([some (.inr (11, 0)), some (.inl (.int x1)), none], [.inl (.int s0)], w)
noncomputable def q_X12_heats_36 (x1 : Int32) (s0 : Int32) (s1 : Int32) (w : XW) : Option XR := ev bs_X12_heats 36 ([some (.inr (11, 0)), some (.inl (.int x1)), none], [.inl (.int s1), .inl (.int s0)], w)
noncomputable def q_X12_heats_64 (x1 : Int32) (x2 : Int32) (s1 : Int32) (w : XW) : Option XR := ev bs_X12_heats 64 ([some (.inr (11, 0)), some (.inl (.int x1)), some (.inl (.int x2))], [.inl (.int s1), .inr (50, 0)], w)
noncomputable def q_X12_heats_68 (x1 : Int32) (x2 : Int32) (s1 : Int32) (w : XW) : Option XR := ev bs_X12_heats 68 ([some (.inr (11, 0)), some (.inl (.int x1)), some (.inl (.int x2))], [.inl (.int s1), .inr (50, 0)], w)
noncomputable def q_X12_heats_69 (x1 : Int32) (x2 : Int32) (s1 : Int32) (s2 : Int32) (w : XW) : Option XR := ev bs_X12_heats 69 ([some (.inr (11, 0)), some (.inl (.int x1)), some (.inl (.int x2))], [.inl (.int s2), .inl (.int s1), .inr (50, 0)], w)
noncomputable def q_X12_heats_80 (w : XW) : Option XR := ev bs_X12_heats 80 ([none, none, none], [], w)
noncomputable def q_X12_heats_82 (x1 : Int32) (w : XW) : Option XR := ev bs_X12_heats 82 ([some (.inr (11, 0)), some (.inl (.int x1)), none], [], w)
theorem e_X12_heats_0 (x1 : Int32) (w : XW) : q_X12_heats_0 x1 w = ((F_X12_isBurnt [.inr (11, 0), .inl (.int x1)] w).bind fun r0 => (bif decide (r0.1 = 0) then (q_X12_heats_10 x1 r0.2) else (q_X12_heats_8 r0.2))) := (ev_eq _ _ _).trans rfl
theorem e_X12_heats_8 (w : XW) : q_X12_heats_8 w = (some (some (.inl (.int 0)), w)) := (ev_eq _ _ _).trans rfl
theorem e_X12_heats_10 (x1 : Int32) (w : XW) : q_X12_heats_10 x1 w = ((F_X12_heatOf [.inr (11, 0), .inl (.int x1)] w).bind fun r0 => ((F_X12_fullOf [.inr (11, 0), .inl (.int x1)] r0.2).bind fun r1 => ((F_X12_whereIs [.inr (11, 0), .inl (.int x1)] r1.2).bind fun r2 => (bif decide (r2.1 < 0) then (q_X12_heats_35 x1 (r0.1 + (r1.1 / 4)) r2.2) else (q_X12_heats_31 x1 (r0.1 + (r1.1 / 4)) r2.2))))) := (ev_eq _ _ _).trans rfl
theorem e_X12_heats_31 (x1 : Int32) (s0 : Int32) (w : XW) : q_X12_heats_31 x1 s0 w = (q_X12_heats_36 x1 s0 2 w) := (ev_eq _ _ _).trans rfl
theorem e_X12_heats_35 (x1 : Int32) (s0 : Int32) (w : XW) : q_X12_heats_35 x1 s0 w = (q_X12_heats_36 x1 s0 1 w) := (ev_eq _ _ _).trans rfl
theorem e_X12_heats_36 (x1 : Int32) (s0 : Int32) (s1 : Int32) (w : XW) : q_X12_heats_36 x1 s0 s1 w = (if (41 + x1) < 0 ∨ 98 ≤ (41 + x1).toNatClampNeg then none else (bif decide (0 ≤ (s0 - (s1 * (gI w 50 0 (41 + x1).toNatClampNeg)))) then (q_X12_heats_68 x1 (s0 - (s1 * (gI w 50 0 (41 + x1).toNatClampNeg))) ((11 + (4 * x1)) + 1) w) else (q_X12_heats_64 x1 (s0 - (s1 * (gI w 50 0 (41 + x1).toNatClampNeg))) ((11 + (4 * x1)) + 1) w))) := (ev_eq _ _ _).trans rfl
theorem e_X12_heats_64 (x1 : Int32) (x2 : Int32) (s1 : Int32) (w : XW) : q_X12_heats_64 x1 x2 s1 w = (q_X12_heats_69 x1 x2 s1 0 w) := (ev_eq _ _ _).trans rfl
theorem e_X12_heats_68 (x1 : Int32) (x2 : Int32) (s1 : Int32) (w : XW) : q_X12_heats_68 x1 x2 s1 w = (q_X12_heats_69 x1 x2 s1 x2 w) := (ev_eq _ _ _).trans rfl
theorem e_X12_heats_69 (x1 : Int32) (x2 : Int32) (s1 : Int32) (s2 : Int32) (w : XW) : q_X12_heats_69 x1 x2 s1 s2 w = (if s1 < 0 ∨ 98 ≤ s1.toNatClampNeg then none else (bif decide ((gI (sI w 50 0 s1.toNatClampNeg s2) 50 0 2) ≤ x2) then (q_X12_heats_82 x1 (sI w 50 0 s1.toNatClampNeg s2)) else (q_X12_heats_80 (sI w 50 0 s1.toNatClampNeg s2)))) := (ev_eq _ _ _).trans rfl
theorem e_X12_heats_80 (w : XW) : q_X12_heats_80 w = (some (some (.inl (.int 0)), w)) := (ev_eq _ _ _).trans rfl
theorem e_X12_heats_82 (x1 : Int32) (w : XW) : q_X12_heats_82 x1 w = ((F_X12_burns1 [.inr (11, 0), .inl (.int x1)] w).bind fun r0 => (some (some (.inl (.int 1)), r0))) := (ev_eq _ _ _).trans rfl
theorem f_X12_heats (x1 : Int32) (w : XW) : F_X12_heats [.inr (11, 0), .inl (.int x1)] w = (q_X12_heats_0 x1 w).bind pI := rfl
