-- WinterKeepModel.ring(I)I
theorem dX12_ring_0 : decode cX12_ring 0 = .ok (.aload_n 0, 1) := by decide +kernel
theorem dX12_ring_1 : decode cX12_ring 1 = .ok (.invokevirtual 369, 3) := by decide +kernel
theorem dX12_ring_4 : decode cX12_ring 4 = .ok (.ifCond .eq 13, 3) := by decide +kernel
theorem dX12_ring_7 : decode cX12_ring 7 = .ok (.iload_n 1, 1) := by decide +kernel
theorem dX12_ring_8 : decode cX12_ring 8 = .ok (.i2l, 1) := by decide +kernel
theorem dX12_ring_9 : decode cX12_ring 9 = .ok (.lconst 0, 1) := by decide +kernel
theorem dX12_ring_10 : decode cX12_ring 10 = .ok (.lconst 1, 1) := by decide +kernel
theorem dX12_ring_11 : decode cX12_ring 11 = .ok (.invokestatic 133, 3) := by decide +kernel
theorem dX12_ring_14 : decode cX12_ring 14 = .ok (.ifCond .ne 5, 3) := by decide +kernel
theorem dX12_ring_17 : decode cX12_ring 17 = .ok (.iconst (-1), 1) := by decide +kernel
theorem dX12_ring_18 : decode cX12_ring 18 = .ok (.ireturn, 1) := by decide +kernel
theorem dX12_ring_19 : decode cX12_ring 19 = .ok (.aload_n 0, 1) := by decide +kernel
theorem dX12_ring_20 : decode cX12_ring 20 = .ok (.invokevirtual 377, 3) := by decide +kernel
theorem dX12_ring_23 : decode cX12_ring 23 = .ok (.iconst 0, 1) := by decide +kernel
theorem dX12_ring_24 : decode cX12_ring 24 = .ok (.istore_n 2, 1) := by decide +kernel
theorem dX12_ring_25 : decode cX12_ring 25 = .ok (.iload_n 2, 1) := by decide +kernel
theorem dX12_ring_26 : decode cX12_ring 26 = .ok (.bipush 60, 2) := by decide +kernel
theorem dX12_ring_28 : decode cX12_ring 28 = .ok (.if_icmp .gt 73, 3) := by decide +kernel
theorem dX12_ring_31 : decode cX12_ring 31 = .ok (.iconst 0, 1) := by decide +kernel
theorem dX12_ring_32 : decode cX12_ring 32 = .ok (.istore_n 3, 1) := by decide +kernel
theorem dX12_ring_33 : decode cX12_ring 33 = .ok (.iload_n 3, 1) := by decide +kernel
theorem dX12_ring_34 : decode cX12_ring 34 = .ok (.bipush 6, 2) := by decide +kernel
theorem dX12_ring_36 : decode cX12_ring 36 = .ok (.if_icmp .ge 54, 3) := by decide +kernel
theorem dX12_ring_39 : decode cX12_ring 39 = .ok (.iconst 0, 1) := by decide +kernel
theorem dX12_ring_40 : decode cX12_ring 40 = .ok (.istore 4, 2) := by decide +kernel
theorem dX12_ring_42 : decode cX12_ring 42 = .ok (.iload 4, 2) := by decide +kernel
theorem dX12_ring_44 : decode cX12_ring 44 = .ok (.iconst 3, 1) := by decide +kernel
theorem dX12_ring_45 : decode cX12_ring 45 = .ok (.if_icmp .ge 39, 3) := by decide +kernel
theorem dX12_ring_48 : decode cX12_ring 48 = .ok (.aload_n 0, 1) := by decide +kernel
theorem dX12_ring_49 : decode cX12_ring 49 = .ok (.getfield 70, 3) := by decide +kernel
theorem dX12_ring_52 : decode cX12_ring 52 = .ok (.bipush 18, 2) := by decide +kernel
theorem dX12_ring_54 : decode cX12_ring 54 = .ok (.iload_n 2, 1) := by decide +kernel
theorem dX12_ring_55 : decode cX12_ring 55 = .ok (.imul, 1) := by decide +kernel
theorem dX12_ring_56 : decode cX12_ring 56 = .ok (.iconst 3, 1) := by decide +kernel
theorem dX12_ring_57 : decode cX12_ring 57 = .ok (.iload_n 3, 1) := by decide +kernel
theorem dX12_ring_58 : decode cX12_ring 58 = .ok (.imul, 1) := by decide +kernel
theorem dX12_ring_59 : decode cX12_ring 59 = .ok (.iadd, 1) := by decide +kernel
theorem dX12_ring_60 : decode cX12_ring 60 = .ok (.iload 4, 2) := by decide +kernel
theorem dX12_ring_62 : decode cX12_ring 62 = .ok (.iadd, 1) := by decide +kernel
theorem dX12_ring_63 : decode cX12_ring 63 = .ok (.aload_n 0, 1) := by decide +kernel
theorem dX12_ring_64 : decode cX12_ring 64 = .ok (.getfield 39, 3) := by decide +kernel
theorem dX12_ring_67 : decode cX12_ring 67 = .ok (.bipush 11, 2) := by decide +kernel
theorem dX12_ring_69 : decode cX12_ring 69 = .ok (.iconst 4, 1) := by decide +kernel
theorem dX12_ring_70 : decode cX12_ring 70 = .ok (.iload_n 3, 1) := by decide +kernel
theorem dX12_ring_71 : decode cX12_ring 71 = .ok (.imul, 1) := by decide +kernel
theorem dX12_ring_72 : decode cX12_ring 72 = .ok (.iadd, 1) := by decide +kernel
theorem dX12_ring_73 : decode cX12_ring 73 = .ok (.iload 4, 2) := by decide +kernel
theorem dX12_ring_75 : decode cX12_ring 75 = .ok (.iadd, 1) := by decide +kernel
theorem dX12_ring_76 : decode cX12_ring 76 = .ok (.iaload, 1) := by decide +kernel
theorem dX12_ring_77 : decode cX12_ring 77 = .ok (.iastore, 1) := by decide +kernel
theorem dX12_ring_78 : decode cX12_ring 78 = .ok (.iinc 4 1, 3) := by decide +kernel
theorem dX12_ring_81 : decode cX12_ring 81 = .ok (.goto (-39), 3) := by decide +kernel
theorem dX12_ring_84 : decode cX12_ring 84 = .ok (.iinc 3 1, 3) := by decide +kernel
theorem dX12_ring_87 : decode cX12_ring 87 = .ok (.goto (-54), 3) := by decide +kernel
theorem dX12_ring_90 : decode cX12_ring 90 = .ok (.aload_n 0, 1) := by decide +kernel
theorem dX12_ring_91 : decode cX12_ring 91 = .ok (.invokevirtual 366, 3) := by decide +kernel
theorem dX12_ring_94 : decode cX12_ring 94 = .ok (.pop, 1) := by decide +kernel
theorem dX12_ring_95 : decode cX12_ring 95 = .ok (.iinc 2 1, 3) := by decide +kernel
theorem dX12_ring_98 : decode cX12_ring 98 = .ok (.goto (-73), 3) := by decide +kernel
theorem dX12_ring_101 : decode cX12_ring 101 = .ok (.aload_n 0, 1) := by decide +kernel
theorem dX12_ring_102 : decode cX12_ring 102 = .ok (.invokevirtual 383, 3) := by decide +kernel
theorem dX12_ring_105 : decode cX12_ring 105 = .ok (.iconst 0, 1) := by decide +kernel
theorem dX12_ring_106 : decode cX12_ring 106 = .ok (.istore_n 2, 1) := by decide +kernel
theorem dX12_ring_107 : decode cX12_ring 107 = .ok (.iload_n 2, 1) := by decide +kernel
theorem dX12_ring_108 : decode cX12_ring 108 = .ok (.bipush 60, 2) := by decide +kernel
theorem dX12_ring_110 : decode cX12_ring 110 = .ok (.if_icmp .ge 54, 3) := by decide +kernel
theorem dX12_ring_113 : decode cX12_ring 113 = .ok (.iload_n 2, 1) := by decide +kernel
theorem dX12_ring_114 : decode cX12_ring 114 = .ok (.iconst 1, 1) := by decide +kernel
theorem dX12_ring_115 : decode cX12_ring 115 = .ok (.iadd, 1) := by decide +kernel
theorem dX12_ring_116 : decode cX12_ring 116 = .ok (.istore_n 3, 1) := by decide +kernel
theorem dX12_ring_117 : decode cX12_ring 117 = .ok (.iload_n 3, 1) := by decide +kernel
theorem dX12_ring_118 : decode cX12_ring 118 = .ok (.bipush 60, 2) := by decide +kernel
theorem dX12_ring_120 : decode cX12_ring 120 = .ok (.if_icmp .gt 38, 3) := by decide +kernel
theorem dX12_ring_123 : decode cX12_ring 123 = .ok (.aload_n 0, 1) := by decide +kernel
theorem dX12_ring_124 : decode cX12_ring 124 = .ok (.iload_n 2, 1) := by decide +kernel
theorem dX12_ring_125 : decode cX12_ring 125 = .ok (.iload_n 3, 1) := by decide +kernel
theorem dX12_ring_126 : decode cX12_ring 126 = .ok (.invokevirtual 438, 3) := by decide +kernel
theorem dX12_ring_129 : decode cX12_ring 129 = .ok (.ifCond .eq 23, 3) := by decide +kernel
theorem dX12_ring_132 : decode cX12_ring 132 = .ok (.iload_n 1, 1) := by decide +kernel
theorem dX12_ring_133 : decode cX12_ring 133 = .ok (.ifCond .ne 15, 3) := by decide +kernel
theorem dX12_ring_136 : decode cX12_ring 136 = .ok (.aload_n 0, 1) := by decide +kernel
theorem dX12_ring_137 : decode cX12_ring 137 = .ok (.getfield 39, 3) := by decide +kernel
theorem dX12_ring_140 : decode cX12_ring 140 = .ok (.bipush 10, 2) := by decide +kernel
theorem dX12_ring_142 : decode cX12_ring 142 = .ok (.iaload, 1) := by decide +kernel
theorem dX12_ring_143 : decode cX12_ring 143 = .ok (.iload_n 2, 1) := by decide +kernel
theorem dX12_ring_144 : decode cX12_ring 144 = .ok (.iadd, 1) := by decide +kernel
theorem dX12_ring_145 : decode cX12_ring 145 = .ok (.goto 6, 3) := by decide +kernel
theorem dX12_ring_148 : decode cX12_ring 148 = .ok (.iload_n 3, 1) := by decide +kernel
theorem dX12_ring_149 : decode cX12_ring 149 = .ok (.iload_n 2, 1) := by decide +kernel
theorem dX12_ring_150 : decode cX12_ring 150 = .ok (.isub, 1) := by decide +kernel
theorem dX12_ring_151 : decode cX12_ring 151 = .ok (.ireturn, 1) := by decide +kernel
theorem dX12_ring_152 : decode cX12_ring 152 = .ok (.iinc 3 1, 3) := by decide +kernel
theorem dX12_ring_155 : decode cX12_ring 155 = .ok (.goto (-38), 3) := by decide +kernel
theorem dX12_ring_158 : decode cX12_ring 158 = .ok (.iinc 2 1, 3) := by decide +kernel
theorem dX12_ring_161 : decode cX12_ring 161 = .ok (.goto (-54), 3) := by decide +kernel
theorem dX12_ring_164 : decode cX12_ring 164 = .ok (.bipush (-2), 2) := by decide +kernel
theorem dX12_ring_166 : decode cX12_ring 166 = .ok (.ireturn, 1) := by decide +kernel
theorem vc_X12_438 : XVw RX12 438 2 11 4 yX12_areAlike cX12_areAlike (some .boolean) := ⟨RX12, TX12, tyX12, 43, xk_11, rfl, ⟨by decide, by decide⟩, by decide +kernel, wt_1527, wt_1529, ws_110, wt_11, wt_1530⟩
noncomputable def bs_X12_ring : List (Nat × XB) := [
  (0, (sq (xLA 0) (sq (xCI 11 1 F_X12_isDale) (tIf1 (fun x => decide (x = 0)) 17 [false, false, false, false, false] 7 [true, true, false, false, false])))),
  (7, (sq (xLI 1) (sq (xI2L) (sq (xC (.long 0)) (sq (xC (.long 1)) (sq (xCI 99 3 F_X12_in) (tIf1 (fun x => decide (¬ x = 0)) 19 [true, true, false, false, false] 17 [false, false, false, false, false]))))))),
  (17, (sq (xC (.int (-1))) tRI)),
  (19, (sq (xLA 0) (sq (xCV 11 1 F_X12_keeps) (sq (xC (.int 0)) (sq (xSI 2) (tGo 25 [true, true, true, false, false])))))),
  (25, (sq (xLI 2) (sq (xC (.int 60)) (tIf2 (fun x y => decide (y < x)) 101 [true, true, false, false, false] 31 [true, true, true, false, false])))),
  (31, (sq (xC (.int 0)) (sq (xSI 3) (tGo 33 [true, true, true, true, false])))),
  (33, (sq (xLI 3) (sq (xC (.int 6)) (tIf2 (fun x y => decide (y ≤ x)) 90 [true, true, true, false, false] 39 [true, true, true, true, false])))),
  (39, (sq (xC (.int 0)) (sq (xSI 4) (tGo 42 [true, true, true, true, true])))),
  (42, (sq (xLI 4) (sq (xC (.int 3)) (tIf2 (fun x y => decide (y ≤ x)) 84 [true, true, true, true, false] 48 [true, true, true, true, true])))),
  (48, (sq (xLA 0) (sq (xGS 11 58 1 0) (sq (xC (.int 18)) (sq (xLI 2) (sq (xI2 (· * ·)) (sq (xC (.int 3)) (sq (xLI 3) (sq (xI2 (· * ·)) (sq (xI2 (· + ·)) (sq (xLI 4) (sq (xI2 (· + ·)) (sq (xLA 0) (sq (xGS 11 50 1 0) (sq (xC (.int 11)) (sq (xC (.int 4)) (sq (xLI 3) (sq (xI2 (· * ·)) (sq (xI2 (· + ·)) (sq (xLI 4) (sq (xI2 (· + ·)) (sq (xAI 50 98) (sq (xTI 58 1098 (fun x => x)) (sq (xInc 4 1) (tGo 42 [true, true, true, true, true]))))))))))))))))))))))))),
  (84, (sq (xInc 3 1) (tGo 33 [true, true, true, true, false]))),
  (90, (sq (xLA 0) (sq (xCI 11 1 F_X12_passes) (sq (xPop) (sq (xInc 2 1) (tGo 25 [true, true, true, false, false])))))),
  (101, (sq (xLA 0) (sq (xCV 11 1 F_X12_laysBack) (sq (xC (.int 0)) (sq (xSI 2) (tGo 107 [true, true, true, false, false])))))),
  (107, (sq (xLI 2) (sq (xC (.int 60)) (tIf2 (fun x y => decide (y ≤ x)) 164 [false, false, false, false, false] 113 [true, true, true, false, false])))),
  (113, (sq (xLI 2) (sq (xC (.int 1)) (sq (xI2 (· + ·)) (sq (xSI 3) (tGo 117 [true, true, true, true, false])))))),
  (117, (sq (xLI 3) (sq (xC (.int 60)) (tIf2 (fun x y => decide (y < x)) 158 [true, true, true, false, false] 123 [true, true, true, true, false])))),
  (123, (sq (xLA 0) (sq (xLI 2) (sq (xLI 3) (sq (xCI 11 3 F_X12_areAlike) (tIf1 (fun x => decide (x = 0)) 152 [true, true, true, true, false] 132 [true, true, true, true, false])))))),
  (132, (sq (xLI 1) (tIf1 (fun x => decide (¬ x = 0)) 148 [false, false, true, true, false] 136 [true, false, true, false, false]))),
  (136, (sq (xLA 0) (sq (xGS 11 50 1 0) (sq (xC (.int 10)) (sq (xAI 50 98) (sq (xLI 2) (sq (xI2 (· + ·)) (tGo 151 [false, false, false, false, false])))))))),
  (148, (sq (xLI 3) (sq (xLI 2) (sq (xI2 (· - ·)) (tGo 151 [false, false, false, false, false]))))),
  (151, tRI),
  (152, (sq (xInc 3 1) (tGo 117 [true, true, true, true, false]))),
  (158, (sq (xInc 2 1) (tGo 107 [true, true, true, false, false]))),
  (164, (sq (xC (.int (-2))) tRI))]
set_option maxRecDepth 100000 in
set_option maxHeartbeats 4000000 in
theorem s_X12_ring : ∀ X : XCtx, XE X → X.2.2.1.1 = cX12_ring → X.2.2.1.2.1 = 5 → X.2.2.1.2.2.1 = yX12_ring.cls → X.2.2.1.2.2.2.1 = (some .int) → X.1.2.2.2.1 = { frames := 5, cells := 0, slots := 0, locals := 123 } → SndBs X bs_X12_ring := by
  rintro ⟨⟨p, l, e, R, s⟩, Y, ⟨cc, nL, own, ret, Ts⟩, Z⟩ hE h1 h2 h3 h4 h5
  dsimp only at h1 h2 h3 h4 h5
  subst h1 h2 h3 h4 h5
  exact ⟨(n_sq (n_aload_n hE dX12_ring_0) (n_sq (n_cIv hE m_X12_isDale vc_X12_369 (show 0 + 1 ≤ 5 ∧ 8 + (1 + 11) + 0 ≤ 123 by decide) dX12_ring_1) (n_ifeq hE (by decide) dX12_ring_4))),
    (n_sq (n_iload_n hE dX12_ring_7) (n_sq (n_i2l hE dX12_ring_8) (n_sq (n_lconst hE (by decide) dX12_ring_9) (n_sq (n_lconst hE (by decide) dX12_ring_10) (n_sq (n_cIs hE m_X12_in vc_X12_133 (show 0 + 1 ≤ 5 ∧ 8 + (6 + 11) + 0 ≤ 123 by decide) dX12_ring_11) (n_ifne hE (by decide) dX12_ring_14)))))),
    (n_sq (n_iconst hE (by decide) dX12_ring_17) (n_ireturn hE rfl dX12_ring_18)),
    (n_sq (n_aload_n hE dX12_ring_19) (n_sq (n_cVv hE m_X12_keeps vc_X12_377 (show 0 + 1 ≤ 5 ∧ 8 + (2 + 11) + 0 ≤ 123 by decide) dX12_ring_20) (n_sq (n_iconst hE (by decide) dX12_ring_23) (n_sq (n_istore_n hE (show (2 : Nat) < 5 by decide) dX12_ring_24) n_fall)))),
    (n_sq (n_iload_n hE dX12_ring_25) (n_sq (n_bipush hE (by decide) dX12_ring_26) (n_ifcgt hE (by decide) dX12_ring_28))),
    (n_sq (n_iconst hE (by decide) dX12_ring_31) (n_sq (n_istore_n hE (show (3 : Nat) < 5 by decide) dX12_ring_32) n_fall)),
    (n_sq (n_iload_n hE dX12_ring_33) (n_sq (n_bipush hE (by decide) dX12_ring_34) (n_ifcge hE (by decide) dX12_ring_36))),
    (n_sq (n_iconst hE (by decide) dX12_ring_39) (n_sq (n_istore hE (show (4 : Nat) < 5 by decide) dX12_ring_40) n_fall)),
    (n_sq (n_iload hE dX12_ring_42) (n_sq (n_iconst hE (by decide) dX12_ring_44) (n_ifcge hE (by decide) dX12_ring_45))),
    (n_sq (n_aload_n hE dX12_ring_48) (n_sq (n_getS hE xk_11 (k := 35) rfl (by decide) rfl wt_995 dX12_ring_49) (n_sq (n_bipush hE (by decide) dX12_ring_52) (n_sq (n_iload_n hE dX12_ring_54) (n_sq (n_imul hE dX12_ring_55) (n_sq (n_iconst hE (by decide) dX12_ring_56) (n_sq (n_iload_n hE dX12_ring_57) (n_sq (n_imul hE dX12_ring_58) (n_sq (n_iadd hE dX12_ring_59) (n_sq (n_iload hE dX12_ring_60) (n_sq (n_iadd hE dX12_ring_62) (n_sq (n_aload_n hE dX12_ring_63) (n_sq (n_getS hE xk_11 (k := 20) rfl (by decide) rfl wt_980 dX12_ring_64) (n_sq (n_bipush hE (by decide) dX12_ring_67) (n_sq (n_iconst hE (by decide) dX12_ring_69) (n_sq (n_iload_n hE dX12_ring_70) (n_sq (n_imul hE dX12_ring_71) (n_sq (n_iadd hE dX12_ring_72) (n_sq (n_iload hE dX12_ring_73) (n_sq (n_iadd hE dX12_ring_75) (n_sq (n_iald hE rfl (by decide) dX12_ring_76) (n_sq (n_iast hE rfl (by decide) dX12_ring_77) (n_sq (n_iinc hE (by decide) (show (4 : Nat) < 5 by decide) dX12_ring_78) (n_goto hE (by decide) dX12_ring_81)))))))))))))))))))))))),
    (n_sq (n_iinc hE (by decide) (show (3 : Nat) < 5 by decide) dX12_ring_84) (n_goto hE (by decide) dX12_ring_87)),
    (n_sq (n_aload_n hE dX12_ring_90) (n_sq (n_cIv hE m_X12_passes vc_X12_366 (show 4 + 1 ≤ 5 ∧ 8 + (3 + 11) + 101 ≤ 123 by decide) dX12_ring_91) (n_sq (n_pop hE dX12_ring_94) (n_sq (n_iinc hE (by decide) (show (2 : Nat) < 5 by decide) dX12_ring_95) (n_goto hE (by decide) dX12_ring_98))))),
    (n_sq (n_aload_n hE dX12_ring_101) (n_sq (n_cVv hE m_X12_laysBack vc_X12_383 (show 0 + 1 ≤ 5 ∧ 8 + (2 + 11) + 0 ≤ 123 by decide) dX12_ring_102) (n_sq (n_iconst hE (by decide) dX12_ring_105) (n_sq (n_istore_n hE (show (2 : Nat) < 5 by decide) dX12_ring_106) n_fall)))),
    (n_sq (n_iload_n hE dX12_ring_107) (n_sq (n_bipush hE (by decide) dX12_ring_108) (n_ifcge hE (by decide) dX12_ring_110))),
    (n_sq (n_iload_n hE dX12_ring_113) (n_sq (n_iconst hE (by decide) dX12_ring_114) (n_sq (n_iadd hE dX12_ring_115) (n_sq (n_istore_n hE (show (3 : Nat) < 5 by decide) dX12_ring_116) n_fall)))),
    (n_sq (n_iload_n hE dX12_ring_117) (n_sq (n_bipush hE (by decide) dX12_ring_118) (n_ifcgt hE (by decide) dX12_ring_120))),
    (n_sq (n_aload_n hE dX12_ring_123) (n_sq (n_iload_n hE dX12_ring_124) (n_sq (n_iload_n hE dX12_ring_125) (n_sq (n_cIv hE m_X12_areAlike vc_X12_438 (show 0 + 1 ≤ 5 ∧ 8 + (4 + 11) + 0 ≤ 123 by decide) dX12_ring_126) (n_ifeq hE (by decide) dX12_ring_129))))),
    (n_sq (n_iload_n hE dX12_ring_132) (n_ifne hE (by decide) dX12_ring_133)),
    (n_sq (n_aload_n hE dX12_ring_136) (n_sq (n_getS hE xk_11 (k := 20) rfl (by decide) rfl wt_980 dX12_ring_137) (n_sq (n_bipush hE (by decide) dX12_ring_140) (n_sq (n_iald hE rfl (by decide) dX12_ring_142) (n_sq (n_iload_n hE dX12_ring_143) (n_sq (n_iadd hE dX12_ring_144) (n_goto hE (by decide) dX12_ring_145))))))),
    (n_sq (n_iload_n hE dX12_ring_148) (n_sq (n_iload_n hE dX12_ring_149) (n_sq (n_isub hE dX12_ring_150) n_fall))),
    (n_ireturn hE rfl dX12_ring_151),
    (n_sq (n_iinc hE (by decide) (show (3 : Nat) < 5 by decide) dX12_ring_152) (n_goto hE (by decide) dX12_ring_155)),
    (n_sq (n_iinc hE (by decide) (show (2 : Nat) < 5 by decide) dX12_ring_158) (n_goto hE (by decide) dX12_ring_161)),
    (n_sq (n_bipush hE (by decide) dX12_ring_164) (n_ireturn hE rfl dX12_ring_166)), trivial⟩
noncomputable def F_X12_ring (as : List XV) (w : XW) : Option (Int32 × XW) := (xF 5 bs_X12_ring as w).bind pI
theorem m_X12_ring : XM yX12_ring cX12_ring 5 (some .int) 5 123 (eI F_X12_ring) := xm_I (xm_of (by decide) s_X12_ring)
noncomputable def q_X12_ring_0 (x1 : Int32) (w : XW) : Option XR := ev bs_X12_ring 0 ([some (.inr (11, 0)), some (.inl (.int x1)), none, none, none], [], w)
noncomputable def q_X12_ring_7 (x1 : Int32) (w : XW) : Option XR := ev bs_X12_ring 7 ([some (.inr (11, 0)), some (.inl (.int x1)), none, none, none], [], w)
noncomputable def q_X12_ring_17 (w : XW) : Option XR := ev bs_X12_ring 17 ([none, none, none, none, none], [], w)
noncomputable def q_X12_ring_19 (x1 : Int32) (w : XW) : Option XR := ev bs_X12_ring 19 ([some (.inr (11, 0)), some (.inl (.int x1)), none, none, none], [], w)
noncomputable def q_X12_ring_25 (x1 : Int32) (x2 : Int32) (w : XW) : Option XR := ev bs_X12_ring 25 ([some (.inr (11, 0)), some (.inl (.int x1)), some (.inl (.int x2)), none, none], [], w)
noncomputable def q_X12_ring_31 (x1 : Int32) (x2 : Int32) (w : XW) : Option XR := ev bs_X12_ring 31 ([some (.inr (11, 0)), some (.inl (.int x1)), some (.inl (.int x2)), none, none], [], w)
noncomputable def q_X12_ring_33 (x1 : Int32) (x2 : Int32) (x3 : Int32) (w : XW) : Option XR := ev bs_X12_ring 33 ([some (.inr (11, 0)), some (.inl (.int x1)), some (.inl (.int x2)), some (.inl (.int x3)), none], [], w)
noncomputable def q_X12_ring_39 (x1 : Int32) (x2 : Int32) (x3 : Int32) (w : XW) : Option XR := ev bs_X12_ring 39 ([some (.inr (11, 0)), some (.inl (.int x1)), some (.inl (.int x2)), some (.inl (.int x3)), none], [], w)
noncomputable def q_X12_ring_42 (x1 : Int32) (x2 : Int32) (x3 : Int32) (x4 : Int32) (w : XW) : Option XR := ev bs_X12_ring 42 ([some (.inr (11, 0)), some (.inl (.int x1)), some (.inl (.int x2)), some (.inl (.int x3)), some (.inl (.int x4))], [], w)
noncomputable def q_X12_ring_48 (x1 : Int32) (x2 : Int32) (x3 : Int32) (x4 : Int32) (w : XW) : Option XR := ev bs_X12_ring 48 ([some (.inr (11, 0)), some (.inl (.int x1)), some (.inl (.int x2)), some (.inl (.int x3)), some (.inl (.int x4))], [], w)
noncomputable def q_X12_ring_84 (x1 : Int32) (x2 : Int32) (x3 : Int32) (w : XW) : Option XR := ev bs_X12_ring 84 ([some (.inr (11, 0)), some (.inl (.int x1)), some (.inl (.int x2)), some (.inl (.int x3)), none], [], w)
noncomputable def q_X12_ring_90 (x1 : Int32) (x2 : Int32) (w : XW) : Option XR := ev bs_X12_ring 90 ([some (.inr (11, 0)), some (.inl (.int x1)), some (.inl (.int x2)), none, none], [], w)
noncomputable def q_X12_ring_101 (x1 : Int32) (w : XW) : Option XR := ev bs_X12_ring 101 ([some (.inr (11, 0)), some (.inl (.int x1)), none, none, none], [], w)
noncomputable def q_X12_ring_107 (x1 : Int32) (x2 : Int32) (w : XW) : Option XR := ev bs_X12_ring 107 ([some (.inr (11, 0)), some (.inl (.int x1)), some (.inl (.int x2)), none, none], [], w)
noncomputable def q_X12_ring_113 (x1 : Int32) (x2 : Int32) (w : XW) : Option XR := ev bs_X12_ring 113 ([some (.inr (11, 0)), some (.inl (.int x1)), some (.inl (.int x2)), none, none], [], w)
noncomputable def q_X12_ring_117 (x1 : Int32) (x2 : Int32) (x3 : Int32) (w : XW) : Option XR := ev bs_X12_ring 117 ([some (.inr (11, 0)), some (.inl (.int x1)), some (.inl (.int x2)), some (.inl (.int x3)), none], [], w)
noncomputable def q_X12_ring_123 (x1 : Int32) (x2 : Int32) (x3 : Int32) (w : XW) : Option XR := ev bs_X12_ring 123 ([some (.inr (11, 0)), some (.inl (.int x1)), some (.inl (.int x2)), some (.inl (.int x3)), none], [], w)
noncomputable def q_X12_ring_132 (x1 : Int32) (x2 : Int32) (x3 : Int32) (w : XW) : Option XR := ev bs_X12_ring 132 ([some (.inr (11, 0)), some (.inl (.int x1)), some (.inl (.int x2)), some (.inl (.int x3)), none], [], w)
noncomputable def q_X12_ring_136 (x2 : Int32) (w : XW) : Option XR := ev bs_X12_ring 136 ([some (.inr (11, 0)), none, some (.inl (.int x2)), none, none], [], w)
noncomputable def q_X12_ring_148 (x2 : Int32) (x3 : Int32) (w : XW) : Option XR := ev bs_X12_ring 148 ([none, none, some (.inl (.int x2)), some (.inl (.int x3)), none], [], w)
noncomputable def q_X12_ring_151 (s0 : Int32) (w : XW) : Option XR := ev bs_X12_ring 151 ([none, none, none, none, none], [.inl (.int s0)], w)
noncomputable def q_X12_ring_152 (x1 : Int32) (x2 : Int32) (x3 : Int32) (w : XW) : Option XR := ev bs_X12_ring 152 ([some (.inr (11, 0)), some (.inl (.int x1)), some (.inl (.int x2)), some (.inl (.int x3)), none], [], w)
noncomputable def q_X12_ring_158 (x1 : Int32) (x2 : Int32) (w : XW) : Option XR := ev bs_X12_ring 158 ([some (.inr (11, 0)), some (.inl (.int x1)), some (.inl (.int x2)), none, none], [], w)
noncomputable def q_X12_ring_164 (w : XW) : Option XR := ev bs_X12_ring 164 ([none, none, none, none, none], [], w)
set_option maxRecDepth 100000 in
theorem e_X12_ring_0 (x1 : Int32) (w : XW) : q_X12_ring_0 x1 w = ((F_X12_isDale [.inr (11, 0)] w).bind fun r0 => (bif decide (r0.1 = 0) then (q_X12_ring_17 r0.2) else (q_X12_ring_7 x1 r0.2))) := (ev_eq _ _ _).trans rfl
set_option maxRecDepth 100000 in
theorem e_X12_ring_7 (x1 : Int32) (w : XW) : q_X12_ring_7 x1 w = ((F_X12_in [.inl (.long (x1 : Int32).toInt64), .inl (.long 0), .inl (.long 1)] w).bind fun r0 => (bif decide (¬ r0.1 = 0) then (q_X12_ring_19 x1 r0.2) else (q_X12_ring_17 r0.2))) := (ev_eq _ _ _).trans rfl
set_option maxRecDepth 100000 in
theorem e_X12_ring_17 (w : XW) : q_X12_ring_17 w = (some (some (.inl (.int (-1))), w)) := (ev_eq _ _ _).trans rfl
set_option maxRecDepth 100000 in
theorem e_X12_ring_19 (x1 : Int32) (w : XW) : q_X12_ring_19 x1 w = ((F_X12_keeps [.inr (11, 0)] w).bind fun r0 => (q_X12_ring_25 x1 0 r0)) := (ev_eq _ _ _).trans rfl
set_option maxRecDepth 100000 in
theorem e_X12_ring_25 (x1 : Int32) (x2 : Int32) (w : XW) : q_X12_ring_25 x1 x2 w = (bif decide (60 < x2) then (q_X12_ring_101 x1 w) else (q_X12_ring_31 x1 x2 w)) := (ev_eq _ _ _).trans rfl
set_option maxRecDepth 100000 in
theorem e_X12_ring_31 (x1 : Int32) (x2 : Int32) (w : XW) : q_X12_ring_31 x1 x2 w = (q_X12_ring_33 x1 x2 0 w) := (ev_eq _ _ _).trans rfl
set_option maxRecDepth 100000 in
theorem e_X12_ring_33 (x1 : Int32) (x2 : Int32) (x3 : Int32) (w : XW) : q_X12_ring_33 x1 x2 x3 w = (bif decide (6 ≤ x3) then (q_X12_ring_90 x1 x2 w) else (q_X12_ring_39 x1 x2 x3 w)) := (ev_eq _ _ _).trans rfl
set_option maxRecDepth 100000 in
theorem e_X12_ring_39 (x1 : Int32) (x2 : Int32) (x3 : Int32) (w : XW) : q_X12_ring_39 x1 x2 x3 w = (q_X12_ring_42 x1 x2 x3 0 w) := (ev_eq _ _ _).trans rfl
set_option maxRecDepth 100000 in
theorem e_X12_ring_42 (x1 : Int32) (x2 : Int32) (x3 : Int32) (x4 : Int32) (w : XW) : q_X12_ring_42 x1 x2 x3 x4 w = (bif decide (3 ≤ x4) then (q_X12_ring_84 x1 x2 x3 w) else (q_X12_ring_48 x1 x2 x3 x4 w)) := (ev_eq _ _ _).trans rfl
set_option maxRecDepth 100000 in
theorem e_X12_ring_48 (x1 : Int32) (x2 : Int32) (x3 : Int32) (x4 : Int32) (w : XW) : q_X12_ring_48 x1 x2 x3 x4 w = (if ((11 + (4 * x3)) + x4) < 0 ∨ 98 ≤ ((11 + (4 * x3)) + x4).toNatClampNeg then none else (if (((18 * x2) + (3 * x3)) + x4) < 0 ∨ 1098 ≤ (((18 * x2) + (3 * x3)) + x4).toNatClampNeg then none else (q_X12_ring_42 x1 x2 x3 (x4 + 1) (sI w 58 0 ((((18 * x2) + (3 * x3)) + x4).toNatClampNeg) (gI w 50 0 ((11 + (4 * x3)) + x4).toNatClampNeg))))) := (ev_eq _ _ _).trans rfl
set_option maxRecDepth 100000 in
theorem e_X12_ring_84 (x1 : Int32) (x2 : Int32) (x3 : Int32) (w : XW) : q_X12_ring_84 x1 x2 x3 w = (q_X12_ring_33 x1 x2 (x3 + 1) w) := (ev_eq _ _ _).trans rfl
set_option maxRecDepth 100000 in
theorem e_X12_ring_90 (x1 : Int32) (x2 : Int32) (w : XW) : q_X12_ring_90 x1 x2 w = ((F_X12_passes [.inr (11, 0)] w).bind fun r0 => (q_X12_ring_25 x1 (x2 + 1) r0.2)) := (ev_eq _ _ _).trans rfl
set_option maxRecDepth 100000 in
theorem e_X12_ring_101 (x1 : Int32) (w : XW) : q_X12_ring_101 x1 w = ((F_X12_laysBack [.inr (11, 0)] w).bind fun r0 => (q_X12_ring_107 x1 0 r0)) := (ev_eq _ _ _).trans rfl
set_option maxRecDepth 100000 in
theorem e_X12_ring_107 (x1 : Int32) (x2 : Int32) (w : XW) : q_X12_ring_107 x1 x2 w = (bif decide (60 ≤ x2) then (q_X12_ring_164 w) else (q_X12_ring_113 x1 x2 w)) := (ev_eq _ _ _).trans rfl
set_option maxRecDepth 100000 in
theorem e_X12_ring_113 (x1 : Int32) (x2 : Int32) (w : XW) : q_X12_ring_113 x1 x2 w = (q_X12_ring_117 x1 x2 (x2 + 1) w) := (ev_eq _ _ _).trans rfl
set_option maxRecDepth 100000 in
theorem e_X12_ring_117 (x1 : Int32) (x2 : Int32) (x3 : Int32) (w : XW) : q_X12_ring_117 x1 x2 x3 w = (bif decide (60 < x3) then (q_X12_ring_158 x1 x2 w) else (q_X12_ring_123 x1 x2 x3 w)) := (ev_eq _ _ _).trans rfl
set_option maxRecDepth 100000 in
theorem e_X12_ring_123 (x1 : Int32) (x2 : Int32) (x3 : Int32) (w : XW) : q_X12_ring_123 x1 x2 x3 w = ((F_X12_areAlike [.inr (11, 0), .inl (.int x2), .inl (.int x3)] w).bind fun r0 => (bif decide (r0.1 = 0) then (q_X12_ring_152 x1 x2 x3 r0.2) else (q_X12_ring_132 x1 x2 x3 r0.2))) := (ev_eq _ _ _).trans rfl
set_option maxRecDepth 100000 in
theorem e_X12_ring_132 (x1 : Int32) (x2 : Int32) (x3 : Int32) (w : XW) : q_X12_ring_132 x1 x2 x3 w = (bif decide (¬ x1 = 0) then (q_X12_ring_148 x2 x3 w) else (q_X12_ring_136 x2 w)) := (ev_eq _ _ _).trans rfl
set_option maxRecDepth 100000 in
theorem e_X12_ring_136 (x2 : Int32) (w : XW) : q_X12_ring_136 x2 w = (q_X12_ring_151 ((gI w 50 0 10) + x2) w) := (ev_eq _ _ _).trans rfl
set_option maxRecDepth 100000 in
theorem e_X12_ring_148 (x2 : Int32) (x3 : Int32) (w : XW) : q_X12_ring_148 x2 x3 w = (q_X12_ring_151 (x3 - x2) w) := (ev_eq _ _ _).trans rfl
set_option maxRecDepth 100000 in
theorem e_X12_ring_151 (s0 : Int32) (w : XW) : q_X12_ring_151 s0 w = (some (some (.inl (.int s0)), w)) := (ev_eq _ _ _).trans rfl
set_option maxRecDepth 100000 in
theorem e_X12_ring_152 (x1 : Int32) (x2 : Int32) (x3 : Int32) (w : XW) : q_X12_ring_152 x1 x2 x3 w = (q_X12_ring_117 x1 x2 (x3 + 1) w) := (ev_eq _ _ _).trans rfl
set_option maxRecDepth 100000 in
theorem e_X12_ring_158 (x1 : Int32) (x2 : Int32) (w : XW) : q_X12_ring_158 x1 x2 w = (q_X12_ring_107 x1 (x2 + 1) w) := (ev_eq _ _ _).trans rfl
set_option maxRecDepth 100000 in
theorem e_X12_ring_164 (w : XW) : q_X12_ring_164 w = (some (some (.inl (.int (-2))), w)) := (ev_eq _ _ _).trans rfl
theorem f_X12_ring (x1 : Int32) (w : XW) : F_X12_ring [.inr (11, 0), .inl (.int x1)] w = (q_X12_ring_0 x1 w).bind pI := rfl

-- WinterKeepModel.pence(II)I
theorem dX12_pence_0 : decode cX12_pence 0 = .ok (.aload_n 0, 1) := by decide +kernel
theorem dX12_pence_1 : decode cX12_pence 1 = .ok (.iload_n 2, 1) := by decide +kernel
theorem dX12_pence_2 : decode cX12_pence 2 = .ok (.invokevirtual 298, 3) := by decide +kernel
theorem dX12_pence_5 : decode cX12_pence 5 = .ok (.ifCond .eq 15, 3) := by decide +kernel
theorem dX12_pence_8 : decode cX12_pence 8 = .ok (.iload_n 1, 1) := by decide +kernel
theorem dX12_pence_9 : decode cX12_pence 9 = .ok (.i2l, 1) := by decide +kernel
theorem dX12_pence_10 : decode cX12_pence 10 = .ok (.lconst 0, 1) := by decide +kernel
theorem dX12_pence_11 : decode cX12_pence 11 = .ok (.ldc2_w 441, 3) := by decide +kernel
theorem dX12_pence_14 : decode cX12_pence 14 = .ok (.invokestatic 133, 3) := by decide +kernel
theorem dX12_pence_17 : decode cX12_pence 17 = .ok (.ifCond .ne 5, 3) := by decide +kernel
theorem dX12_pence_20 : decode cX12_pence 20 = .ok (.iconst (-1), 1) := by decide +kernel
theorem dX12_pence_21 : decode cX12_pence 21 = .ok (.ireturn, 1) := by decide +kernel
theorem dX12_pence_22 : decode cX12_pence 22 = .ok (.aload_n 0, 1) := by decide +kernel
theorem dX12_pence_23 : decode cX12_pence 23 = .ok (.invokevirtual 413, 3) := by decide +kernel
theorem dX12_pence_26 : decode cX12_pence 26 = .ok (.istore_n 3, 1) := by decide +kernel
theorem dX12_pence_27 : decode cX12_pence 27 = .ok (.iload_n 3, 1) := by decide +kernel
theorem dX12_pence_28 : decode cX12_pence 28 = .ok (.ifCond .ne 5, 3) := by decide +kernel
theorem dX12_pence_31 : decode cX12_pence 31 = .ok (.iconst 0, 1) := by decide +kernel
theorem dX12_pence_32 : decode cX12_pence 32 = .ok (.ireturn, 1) := by decide +kernel
theorem dX12_pence_33 : decode cX12_pence 33 = .ok (.iload_n 1, 1) := by decide +kernel
theorem dX12_pence_34 : decode cX12_pence 34 = .ok (.aload_n 0, 1) := by decide +kernel
theorem dX12_pence_35 : decode cX12_pence 35 = .ok (.iload_n 2, 1) := by decide +kernel
theorem dX12_pence_36 : decode cX12_pence 36 = .ok (.invokevirtual 304, 3) := by decide +kernel
theorem dX12_pence_39 : decode cX12_pence 39 = .ok (.imul, 1) := by decide +kernel
theorem dX12_pence_40 : decode cX12_pence 40 = .ok (.istore 4, 2) := by decide +kernel
theorem dX12_pence_42 : decode cX12_pence 42 = .ok (.iload_n 1, 1) := by decide +kernel
theorem dX12_pence_43 : decode cX12_pence 43 = .ok (.istore 5, 2) := by decide +kernel
theorem dX12_pence_45 : decode cX12_pence 45 = .ok (.iconst 0, 1) := by decide +kernel
theorem dX12_pence_46 : decode cX12_pence 46 = .ok (.istore 6, 2) := by decide +kernel
theorem dX12_pence_48 : decode cX12_pence 48 = .ok (.iconst 0, 1) := by decide +kernel
theorem dX12_pence_49 : decode cX12_pence 49 = .ok (.istore 7, 2) := by decide +kernel
theorem dX12_pence_51 : decode cX12_pence 51 = .ok (.iload 7, 2) := by decide +kernel
theorem dX12_pence_53 : decode cX12_pence 53 = .ok (.aload_n 0, 1) := by decide +kernel
theorem dX12_pence_54 : decode cX12_pence 54 = .ok (.getfield 39, 3) := by decide +kernel
theorem dX12_pence_57 : decode cX12_pence 57 = .ok (.iconst 3, 1) := by decide +kernel
theorem dX12_pence_58 : decode cX12_pence 58 = .ok (.iaload, 1) := by decide +kernel
theorem dX12_pence_59 : decode cX12_pence 59 = .ok (.if_icmp .ge 66, 3) := by decide +kernel
theorem dX12_pence_62 : decode cX12_pence 62 = .ok (.iload_n 1, 1) := by decide +kernel
theorem dX12_pence_63 : decode cX12_pence 63 = .ok (.aload_n 0, 1) := by decide +kernel
theorem dX12_pence_64 : decode cX12_pence 64 = .ok (.iload 7, 2) := by decide +kernel
theorem dX12_pence_66 : decode cX12_pence 66 = .ok (.invokevirtual 304, 3) := by decide +kernel
theorem dX12_pence_69 : decode cX12_pence 69 = .ok (.imul, 1) := by decide +kernel
theorem dX12_pence_70 : decode cX12_pence 70 = .ok (.istore 8, 2) := by decide +kernel
theorem dX12_pence_72 : decode cX12_pence 72 = .ok (.iload 5, 2) := by decide +kernel
theorem dX12_pence_74 : decode cX12_pence 74 = .ok (.iload 8, 2) := by decide +kernel
theorem dX12_pence_76 : decode cX12_pence 76 = .ok (.iload_n 3, 1) := by decide +kernel
theorem dX12_pence_77 : decode cX12_pence 77 = .ok (.idiv, 1) := by decide +kernel
theorem dX12_pence_78 : decode cX12_pence 78 = .ok (.isub, 1) := by decide +kernel
theorem dX12_pence_79 : decode cX12_pence 79 = .ok (.istore 5, 2) := by decide +kernel
theorem dX12_pence_81 : decode cX12_pence 81 = .ok (.iload 6, 2) := by decide +kernel
theorem dX12_pence_83 : decode cX12_pence 83 = .ok (.iload 8, 2) := by decide +kernel
theorem dX12_pence_85 : decode cX12_pence 85 = .ok (.iload_n 3, 1) := by decide +kernel
theorem dX12_pence_86 : decode cX12_pence 86 = .ok (.irem, 1) := by decide +kernel
theorem dX12_pence_87 : decode cX12_pence 87 = .ok (.iload 4, 2) := by decide +kernel
theorem dX12_pence_89 : decode cX12_pence 89 = .ok (.iload_n 3, 1) := by decide +kernel
theorem dX12_pence_90 : decode cX12_pence 90 = .ok (.irem, 1) := by decide +kernel
theorem dX12_pence_91 : decode cX12_pence 91 = .ok (.if_icmp .gt 20, 3) := by decide +kernel
theorem dX12_pence_94 : decode cX12_pence 94 = .ok (.iload 8, 2) := by decide +kernel
theorem dX12_pence_96 : decode cX12_pence 96 = .ok (.iload_n 3, 1) := by decide +kernel
theorem dX12_pence_97 : decode cX12_pence 97 = .ok (.irem, 1) := by decide +kernel
theorem dX12_pence_98 : decode cX12_pence 98 = .ok (.iload 4, 2) := by decide +kernel
theorem dX12_pence_100 : decode cX12_pence 100 = .ok (.iload_n 3, 1) := by decide +kernel
theorem dX12_pence_101 : decode cX12_pence 101 = .ok (.irem, 1) := by decide +kernel
theorem dX12_pence_102 : decode cX12_pence 102 = .ok (.if_icmp .ne 13, 3) := by decide +kernel
theorem dX12_pence_105 : decode cX12_pence 105 = .ok (.iload 7, 2) := by decide +kernel
theorem dX12_pence_107 : decode cX12_pence 107 = .ok (.iload_n 2, 1) := by decide +kernel
theorem dX12_pence_108 : decode cX12_pence 108 = .ok (.if_icmp .ge 7, 3) := by decide +kernel
theorem dX12_pence_111 : decode cX12_pence 111 = .ok (.iconst 1, 1) := by decide +kernel
theorem dX12_pence_112 : decode cX12_pence 112 = .ok (.goto 4, 3) := by decide +kernel
theorem dX12_pence_115 : decode cX12_pence 115 = .ok (.iconst 0, 1) := by decide +kernel
theorem dX12_pence_116 : decode cX12_pence 116 = .ok (.iadd, 1) := by decide +kernel
theorem dX12_pence_117 : decode cX12_pence 117 = .ok (.istore 6, 2) := by decide +kernel
theorem dX12_pence_119 : decode cX12_pence 119 = .ok (.iinc 7 1, 3) := by decide +kernel
theorem dX12_pence_122 : decode cX12_pence 122 = .ok (.goto (-71), 3) := by decide +kernel
theorem dX12_pence_125 : decode cX12_pence 125 = .ok (.iload 4, 2) := by decide +kernel
theorem dX12_pence_127 : decode cX12_pence 127 = .ok (.iload_n 3, 1) := by decide +kernel
theorem dX12_pence_128 : decode cX12_pence 128 = .ok (.idiv, 1) := by decide +kernel
theorem dX12_pence_129 : decode cX12_pence 129 = .ok (.iload 6, 2) := by decide +kernel
theorem dX12_pence_131 : decode cX12_pence 131 = .ok (.iload 5, 2) := by decide +kernel
theorem dX12_pence_133 : decode cX12_pence 133 = .ok (.if_icmp .ge 7, 3) := by decide +kernel
theorem dX12_pence_136 : decode cX12_pence 136 = .ok (.iconst 1, 1) := by decide +kernel
theorem dX12_pence_137 : decode cX12_pence 137 = .ok (.goto 4, 3) := by decide +kernel
theorem dX12_pence_140 : decode cX12_pence 140 = .ok (.iconst 0, 1) := by decide +kernel
theorem dX12_pence_141 : decode cX12_pence 141 = .ok (.iadd, 1) := by decide +kernel
theorem dX12_pence_142 : decode cX12_pence 142 = .ok (.ireturn, 1) := by decide +kernel
noncomputable def bs_X12_pence : List (Nat × XB) := [
  (0, (sq (xLA 0) (sq (xLI 2) (sq (xCI 11 2 F_X12_isKeep) (tIf1 (fun x => decide (x = 0)) 20 [false, false, false, false, false, false, false, false, false] 8 [true, true, true, false, false, false, false, false, false]))))),
  (8, (sq (xLI 1) (sq (xI2L) (sq (xC (.long 0)) (sq (xC (.long 9999)) (sq (xCI 99 3 F_X12_in) (tIf1 (fun x => decide (¬ x = 0)) 22 [true, true, true, false, false, false, false, false, false] 20 [false, false, false, false, false, false, false, false, false]))))))),
  (20, (sq (xC (.int (-1))) tRI)),
  (22, (sq (xLA 0) (sq (xCI 11 1 F_X12_fullAll) (sq (xSI 3) (sq (xLI 3) (tIf1 (fun x => decide (¬ x = 0)) 33 [true, true, true, true, false, false, false, false, false] 31 [false, false, false, false, false, false, false, false, false])))))),
  (31, (sq (xC (.int 0)) tRI)),
  (33, (sq (xLI 1) (sq (xLA 0) (sq (xLI 2) (sq (xCI 11 2 F_X12_fullOf) (sq (xI2 (· * ·)) (sq (xSI 4) (sq (xLI 1) (sq (xSI 5) (sq (xC (.int 0)) (sq (xSI 6) (sq (xC (.int 0)) (sq (xSI 7) (tGo 51 [true, true, true, true, true, true, true, true, false])))))))))))))),
  (51, (sq (xLI 7) (sq (xLA 0) (sq (xGS 11 50 1 0) (sq (xC (.int 3)) (sq (xAI 50 98) (tIf2 (fun x y => decide (y ≤ x)) 125 [false, false, false, true, true, true, true, false, false] 62 [true, true, true, true, true, true, true, true, false]))))))),
  (62, (sq (xLI 1) (sq (xLA 0) (sq (xLI 7) (sq (xCI 11 2 F_X12_fullOf) (sq (xI2 (· * ·)) (sq (xSI 8) (sq (xLI 5) (sq (xLI 8) (sq (xLI 3) (sq (xI2z (· / ·)) (sq (xI2 (· - ·)) (sq (xSI 5) (sq (xLI 6) (sq (xLI 8) (sq (xLI 3) (sq (xI2z (fun x y => x - x / y * y)) (sq (xLI 4) (sq (xLI 3) (sq (xI2z (fun x y => x - x / y * y)) (tIf2 (fun x y => decide (y < x)) 111 [true, true, true, true, true, true, false, true, false] 94 [true, true, true, true, true, true, false, true, true]))))))))))))))))))))),
  (94, (sq (xLI 8) (sq (xLI 3) (sq (xI2z (fun x y => x - x / y * y)) (sq (xLI 4) (sq (xLI 3) (sq (xI2z (fun x y => x - x / y * y)) (tIf2 (fun x y => decide (¬ x = y)) 115 [true, true, true, true, true, true, false, true, false] 105 [true, true, true, true, true, true, false, true, false])))))))),
  (105, (sq (xLI 7) (sq (xLI 2) (tIf2 (fun x y => decide (y ≤ x)) 115 [true, true, true, true, true, true, false, true, false] 111 [true, true, true, true, true, true, false, true, false])))),
  (111, (sq (xC (.int 1)) (tGo 116 [true, true, true, true, true, true, false, true, false]))),
  (115, (sq (xC (.int 0)) (tGo 116 [true, true, true, true, true, true, false, true, false]))),
  (116, (sq (xI2 (· + ·)) (sq (xSI 6) (sq (xInc 7 1) (tGo 51 [true, true, true, true, true, true, true, true, false]))))),
  (125, (sq (xLI 4) (sq (xLI 3) (sq (xI2z (· / ·)) (sq (xLI 6) (sq (xLI 5) (tIf2 (fun x y => decide (y ≤ x)) 140 [false, false, false, false, false, false, false, false, false] 136 [false, false, false, false, false, false, false, false, false]))))))),
  (136, (sq (xC (.int 1)) (tGo 141 [false, false, false, false, false, false, false, false, false]))),
  (140, (sq (xC (.int 0)) (tGo 141 [false, false, false, false, false, false, false, false, false]))),
  (141, (sq (xI2 (· + ·)) tRI))]
set_option maxRecDepth 100000 in
set_option maxHeartbeats 4000000 in
theorem s_X12_pence : ∀ X : XCtx, XE X → X.2.2.1.1 = cX12_pence → X.2.2.1.2.1 = 9 → X.2.2.1.2.2.1 = yX12_pence.cls → X.2.2.1.2.2.2.1 = (some .int) → X.1.2.2.2.1 = { frames := 2, cells := 0, slots := 0, locals := 43 } → SndBs X bs_X12_pence := by
  rintro ⟨⟨p, l, e, R, s⟩, Y, ⟨cc, nL, own, ret, Ts⟩, Z⟩ hE h1 h2 h3 h4 h5
  dsimp only at h1 h2 h3 h4 h5
  subst h1 h2 h3 h4 h5
  exact ⟨(n_sq (n_aload_n hE dX12_pence_0) (n_sq (n_iload_n hE dX12_pence_1) (n_sq (n_cIv hE m_X12_isKeep vc_X12_298 (show 0 + 1 ≤ 2 ∧ 8 + (2 + 11) + 0 ≤ 43 by decide) dX12_pence_2) (n_ifeq hE (by decide) dX12_pence_5)))),
    (n_sq (n_iload_n hE dX12_pence_8) (n_sq (n_i2l hE dX12_pence_9) (n_sq (n_lconst hE (by decide) dX12_pence_10) (n_sq (n_ldc2 hE wt_1535 dX12_pence_11) (n_sq (n_cIs hE m_X12_in vc_X12_133 (show 0 + 1 ≤ 2 ∧ 8 + (6 + 11) + 0 ≤ 43 by decide) dX12_pence_14) (n_ifne hE (by decide) dX12_pence_17)))))),
    (n_sq (n_iconst hE (by decide) dX12_pence_20) (n_ireturn hE rfl dX12_pence_21)),
    (n_sq (n_aload_n hE dX12_pence_22) (n_sq (n_cIv hE m_X12_fullAll vc_X12_413 (show 1 + 1 ≤ 2 ∧ 8 + (3 + 11) + 21 ≤ 43 by decide) dX12_pence_23) (n_sq (n_istore_n hE (show (3 : Nat) < 9 by decide) dX12_pence_26) (n_sq (n_iload_n hE dX12_pence_27) (n_ifne hE (by decide) dX12_pence_28))))),
    (n_sq (n_iconst hE (by decide) dX12_pence_31) (n_ireturn hE rfl dX12_pence_32)),
    (n_sq (n_iload_n hE dX12_pence_33) (n_sq (n_aload_n hE dX12_pence_34) (n_sq (n_iload_n hE dX12_pence_35) (n_sq (n_cIv hE m_X12_fullOf vc_X12_304 (show 0 + 1 ≤ 2 ∧ 8 + (2 + 11) + 0 ≤ 43 by decide) dX12_pence_36) (n_sq (n_imul hE dX12_pence_39) (n_sq (n_istore hE (show (4 : Nat) < 9 by decide) dX12_pence_40) (n_sq (n_iload_n hE dX12_pence_42) (n_sq (n_istore hE (show (5 : Nat) < 9 by decide) dX12_pence_43) (n_sq (n_iconst hE (by decide) dX12_pence_45) (n_sq (n_istore hE (show (6 : Nat) < 9 by decide) dX12_pence_46) (n_sq (n_iconst hE (by decide) dX12_pence_48) (n_sq (n_istore hE (show (7 : Nat) < 9 by decide) dX12_pence_49) n_fall)))))))))))),
    (n_sq (n_iload hE dX12_pence_51) (n_sq (n_aload_n hE dX12_pence_53) (n_sq (n_getS hE xk_11 (k := 20) rfl (by decide) rfl wt_980 dX12_pence_54) (n_sq (n_iconst hE (by decide) dX12_pence_57) (n_sq (n_iald hE rfl (by decide) dX12_pence_58) (n_ifcge hE (by decide) dX12_pence_59)))))),
    (n_sq (n_iload_n hE dX12_pence_62) (n_sq (n_aload_n hE dX12_pence_63) (n_sq (n_iload hE dX12_pence_64) (n_sq (n_cIv hE m_X12_fullOf vc_X12_304 (show 0 + 1 ≤ 2 ∧ 8 + (2 + 11) + 0 ≤ 43 by decide) dX12_pence_66) (n_sq (n_imul hE dX12_pence_69) (n_sq (n_istore hE (show (8 : Nat) < 9 by decide) dX12_pence_70) (n_sq (n_iload hE dX12_pence_72) (n_sq (n_iload hE dX12_pence_74) (n_sq (n_iload_n hE dX12_pence_76) (n_sq (n_idiv hE dX12_pence_77) (n_sq (n_isub hE dX12_pence_78) (n_sq (n_istore hE (show (5 : Nat) < 9 by decide) dX12_pence_79) (n_sq (n_iload hE dX12_pence_81) (n_sq (n_iload hE dX12_pence_83) (n_sq (n_iload_n hE dX12_pence_85) (n_sq (n_irem hE dX12_pence_86) (n_sq (n_iload hE dX12_pence_87) (n_sq (n_iload_n hE dX12_pence_89) (n_sq (n_irem hE dX12_pence_90) (n_ifcgt hE (by decide) dX12_pence_91)))))))))))))))))))),
    (n_sq (n_iload hE dX12_pence_94) (n_sq (n_iload_n hE dX12_pence_96) (n_sq (n_irem hE dX12_pence_97) (n_sq (n_iload hE dX12_pence_98) (n_sq (n_iload_n hE dX12_pence_100) (n_sq (n_irem hE dX12_pence_101) (n_ifcne hE (by decide) dX12_pence_102))))))),
    (n_sq (n_iload hE dX12_pence_105) (n_sq (n_iload_n hE dX12_pence_107) (n_ifcge hE (by decide) dX12_pence_108))),
    (n_sq (n_iconst hE (by decide) dX12_pence_111) (n_goto hE (by decide) dX12_pence_112)),
    (n_sq (n_iconst hE (by decide) dX12_pence_115) n_fall),
    (n_sq (n_iadd hE dX12_pence_116) (n_sq (n_istore hE (show (6 : Nat) < 9 by decide) dX12_pence_117) (n_sq (n_iinc hE (by decide) (show (7 : Nat) < 9 by decide) dX12_pence_119) (n_goto hE (by decide) dX12_pence_122)))),
    (n_sq (n_iload hE dX12_pence_125) (n_sq (n_iload_n hE dX12_pence_127) (n_sq (n_idiv hE dX12_pence_128) (n_sq (n_iload hE dX12_pence_129) (n_sq (n_iload hE dX12_pence_131) (n_ifcge hE (by decide) dX12_pence_133)))))),
    (n_sq (n_iconst hE (by decide) dX12_pence_136) (n_goto hE (by decide) dX12_pence_137)),
    (n_sq (n_iconst hE (by decide) dX12_pence_140) n_fall),
    (n_sq (n_iadd hE dX12_pence_141) (n_ireturn hE rfl dX12_pence_142)), trivial⟩
noncomputable def F_X12_pence (as : List XV) (w : XW) : Option (Int32 × XW) := (xF 9 bs_X12_pence as w).bind pI
theorem m_X12_pence : XM yX12_pence cX12_pence 9 (some .int) 2 43 (eI F_X12_pence) := xm_I (xm_of (by decide) s_X12_pence)
noncomputable def q_X12_pence_0 (x1 : Int32) (x2 : Int32) (w : XW) : Option XR := ev bs_X12_pence 0 ([some (.inr (11, 0)), some (.inl (.int x1)), some (.inl (.int x2)), none, none, none, none, none, none], [], w)
noncomputable def q_X12_pence_8 (x1 : Int32) (x2 : Int32) (w : XW) : Option XR := ev bs_X12_pence 8 ([some (.inr (11, 0)), some (.inl (.int x1)), some (.inl (.int x2)), none, none, none, none, none, none], [], w)
noncomputable def q_X12_pence_20 (w : XW) : Option XR := ev bs_X12_pence 20 ([none, none, none, none, none, none, none, none, none], [], w)
noncomputable def q_X12_pence_22 (x1 : Int32) (x2 : Int32) (w : XW) : Option XR := ev bs_X12_pence 22 ([some (.inr (11, 0)), some (.inl (.int x1)), some (.inl (.int x2)), none, none, none, none, none, none], [], w)
noncomputable def q_X12_pence_31 (w : XW) : Option XR := ev bs_X12_pence 31 ([none, none, none, none, none, none, none, none, none], [], w)
noncomputable def q_X12_pence_33 (x1 : Int32) (x2 : Int32) (x3 : Int32) (w : XW) : Option XR := ev bs_X12_pence 33 ([some (.inr (11, 0)), some (.inl (.int x1)), some (.inl (.int x2)), some (.inl (.int x3)), none, none, none, none, none], [], w)
noncomputable def q_X12_pence_51 (x1 : Int32) (x2 : Int32) (x3 : Int32) (x4 : Int32) (x5 : Int32) (x6 : Int32) (x7 : Int32) (w : XW) : Option XR := ev bs_X12_pence 51 ([some (.inr (11, 0)), some (.inl (.int x1)), some (.inl (.int x2)), some (.inl (.int x3)), some (.inl (.int x4)), some (.inl (.int x5)), some (.inl (.int x6)), some (.inl (.int x7)), none], [], w)
noncomputable def q_X12_pence_62 (x1 : Int32) (x2 : Int32) (x3 : Int32) (x4 : Int32) (x5 : Int32) (x6 : Int32) (x7 : Int32) (w : XW) : Option XR := ev bs_X12_pence 62 ([some (.inr (11, 0)), some (.inl (.int x1)), some (.inl (.int x2)), some (.inl (.int x3)), some (.inl (.int x4)), some (.inl (.int x5)), some (.inl (.int x6)), some (.inl (.int x7)), none], [], w)
noncomputable def q_X12_pence_94 (x1 : Int32) (x2 : Int32) (x3 : Int32) (x4 : Int32) (x5 : Int32) (x7 : Int32) (x8 : Int32) (s0 : Int32) (w : XW) : Option XR := ev bs_X12_pence 94 ([some (.inr (11, 0)), some (.inl (.int x1)), some (.inl (.int x2)), some (.inl (.int x3)), some (.inl (.int x4)), some (.inl (.int x5)), none, some (.inl (.int x7)), some (.inl (.int x8))], [.inl (.int s0)], w)
noncomputable def q_X12_pence_105 (x1 : Int32) (x2 : Int32) (x3 : Int32) (x4 : Int32) (x5 : Int32) (x7 : Int32) (s0 : Int32) (w : XW) : Option XR := ev bs_X12_pence 105 ([some (.inr (11, 0)), some (.inl (.int x1)), some (.inl (.int x2)), some (.inl (.int x3)), some (.inl (.int x4)), some (.inl (.int x5)), none, some (.inl (.int x7)), none], [.inl (.int s0)], w)
noncomputable def q_X12_pence_111 (x1 : Int32) (x2 : Int32) (x3 : Int32) (x4 : Int32) (x5 : Int32) (x7 : Int32) (s0 : Int32) (w : XW) : Option XR := ev bs_X12_pence 111 ([some (.inr (11, 0)), some (.inl (.int x1)), some (.inl (.int x2)), some (.inl (.int x3)), some (.inl (.int x4)), some (.inl (.int x5)), none, some (.inl (.int x7)), none], [.inl (.int s0)], w)
noncomputable def q_X12_pence_115 (x1 : Int32) (x2 : Int32) (x3 : Int32) (x4 : Int32) (x5 : Int32) (x7 : Int32) (s0 : Int32) (w : XW) : Option XR := ev bs_X12_pence 115 ([some (.inr (11, 0)), some (.inl (.int x1)), some (.inl (.int x2)), some (.inl (.int x3)), some (.inl (.int x4)), some (.inl (.int x5)), none, some (.inl (.int x7)), none], [.inl (.int s0)], w)
noncomputable def q_X12_pence_116 (x1 : Int32) (x2 : Int32) (x3 : Int32) (x4 : Int32) (x5 : Int32) (x7 : Int32) (s0 : Int32) (s1 : Int32) (w : XW) : Option XR := ev bs_X12_pence 116 ([some (.inr (11, 0)), some (.inl (.int x1)), some (.inl (.int x2)), some (.inl (.int x3)), some (.inl (.int x4)), some (.inl (.int x5)), none, some (.inl (.int x7)), none], [.inl (.int s1), .inl (.int s0)], w)
noncomputable def q_X12_pence_125 (x3 : Int32) (x4 : Int32) (x5 : Int32) (x6 : Int32) (w : XW) : Option XR := ev bs_X12_pence 125 ([none, none, none, some (.inl (.int x3)), some (.inl (.int x4)), some (.inl (.int x5)), some (.inl (.int x6)), none, none], [], w)
noncomputable def q_X12_pence_136 (s0 : Int32) (w : XW) : Option XR := ev bs_X12_pence 136 ([none, none, none, none, none, none, none, none, none], [.inl (.int s0)], w)
noncomputable def q_X12_pence_140 (s0 : Int32) (w : XW) : Option XR := ev bs_X12_pence 140 ([none, none, none, none, none, none, none, none, none], [.inl (.int s0)], w)
noncomputable def q_X12_pence_141 (s0 : Int32) (s1 : Int32) (w : XW) : Option XR := ev bs_X12_pence 141 ([none, none, none, none, none, none, none, none, none], [.inl (.int s1), .inl (.int s0)], w)
set_option maxRecDepth 100000 in
theorem e_X12_pence_0 (x1 : Int32) (x2 : Int32) (w : XW) : q_X12_pence_0 x1 x2 w = ((F_X12_isKeep [.inr (11, 0), .inl (.int x2)] w).bind fun r0 => (bif decide (r0.1 = 0) then (q_X12_pence_20 r0.2) else (q_X12_pence_8 x1 x2 r0.2))) := (ev_eq _ _ _).trans rfl
set_option maxRecDepth 100000 in
theorem e_X12_pence_8 (x1 : Int32) (x2 : Int32) (w : XW) : q_X12_pence_8 x1 x2 w = ((F_X12_in [.inl (.long (x1 : Int32).toInt64), .inl (.long 0), .inl (.long 9999)] w).bind fun r0 => (bif decide (¬ r0.1 = 0) then (q_X12_pence_22 x1 x2 r0.2) else (q_X12_pence_20 r0.2))) := (ev_eq _ _ _).trans rfl
set_option maxRecDepth 100000 in
theorem e_X12_pence_20 (w : XW) : q_X12_pence_20 w = (some (some (.inl (.int (-1))), w)) := (ev_eq _ _ _).trans rfl
set_option maxRecDepth 100000 in
theorem e_X12_pence_22 (x1 : Int32) (x2 : Int32) (w : XW) : q_X12_pence_22 x1 x2 w = ((F_X12_fullAll [.inr (11, 0)] w).bind fun r0 => (bif decide (¬ r0.1 = 0) then (q_X12_pence_33 x1 x2 r0.1 r0.2) else (q_X12_pence_31 r0.2))) := (ev_eq _ _ _).trans rfl
set_option maxRecDepth 100000 in
theorem e_X12_pence_31 (w : XW) : q_X12_pence_31 w = (some (some (.inl (.int 0)), w)) := (ev_eq _ _ _).trans rfl
set_option maxRecDepth 100000 in
theorem e_X12_pence_33 (x1 : Int32) (x2 : Int32) (x3 : Int32) (w : XW) : q_X12_pence_33 x1 x2 x3 w = ((F_X12_fullOf [.inr (11, 0), .inl (.int x2)] w).bind fun r0 => (q_X12_pence_51 x1 x2 x3 (x1 * r0.1) x1 0 0 r0.2)) := (ev_eq _ _ _).trans rfl
set_option maxRecDepth 100000 in
theorem e_X12_pence_51 (x1 : Int32) (x2 : Int32) (x3 : Int32) (x4 : Int32) (x5 : Int32) (x6 : Int32) (x7 : Int32) (w : XW) : q_X12_pence_51 x1 x2 x3 x4 x5 x6 x7 w = (bif decide ((gI w 50 0 3) ≤ x7) then (q_X12_pence_125 x3 x4 x5 x6 w) else (q_X12_pence_62 x1 x2 x3 x4 x5 x6 x7 w)) := (ev_eq _ _ _).trans rfl
set_option maxRecDepth 100000 in
theorem e_X12_pence_62 (x1 : Int32) (x2 : Int32) (x3 : Int32) (x4 : Int32) (x5 : Int32) (x6 : Int32) (x7 : Int32) (w : XW) : q_X12_pence_62 x1 x2 x3 x4 x5 x6 x7 w = ((F_X12_fullOf [.inr (11, 0), .inl (.int x7)] w).bind fun r0 => (if x3 = 0 then none else (if x3 = 0 then none else (if x3 = 0 then none else (bif decide ((x4 - x4 / x3 * x3) < ((x1 * r0.1) - (x1 * r0.1) / x3 * x3)) then (q_X12_pence_111 x1 x2 x3 x4 (x5 - ((x1 * r0.1) / x3)) x7 x6 r0.2) else (q_X12_pence_94 x1 x2 x3 x4 (x5 - ((x1 * r0.1) / x3)) x7 (x1 * r0.1) x6 r0.2)))))) := (ev_eq _ _ _).trans rfl
set_option maxRecDepth 100000 in
theorem e_X12_pence_94 (x1 : Int32) (x2 : Int32) (x3 : Int32) (x4 : Int32) (x5 : Int32) (x7 : Int32) (x8 : Int32) (s0 : Int32) (w : XW) : q_X12_pence_94 x1 x2 x3 x4 x5 x7 x8 s0 w = (if x3 = 0 then none else (if x3 = 0 then none else (bif decide (¬ (x8 - x8 / x3 * x3) = (x4 - x4 / x3 * x3)) then (q_X12_pence_115 x1 x2 x3 x4 x5 x7 s0 w) else (q_X12_pence_105 x1 x2 x3 x4 x5 x7 s0 w)))) := (ev_eq _ _ _).trans rfl
set_option maxRecDepth 100000 in
theorem e_X12_pence_105 (x1 : Int32) (x2 : Int32) (x3 : Int32) (x4 : Int32) (x5 : Int32) (x7 : Int32) (s0 : Int32) (w : XW) : q_X12_pence_105 x1 x2 x3 x4 x5 x7 s0 w = (bif decide (x2 ≤ x7) then (q_X12_pence_115 x1 x2 x3 x4 x5 x7 s0 w) else (q_X12_pence_111 x1 x2 x3 x4 x5 x7 s0 w)) := (ev_eq _ _ _).trans rfl
set_option maxRecDepth 100000 in
theorem e_X12_pence_111 (x1 : Int32) (x2 : Int32) (x3 : Int32) (x4 : Int32) (x5 : Int32) (x7 : Int32) (s0 : Int32) (w : XW) : q_X12_pence_111 x1 x2 x3 x4 x5 x7 s0 w = (q_X12_pence_116 x1 x2 x3 x4 x5 x7 s0 1 w) := (ev_eq _ _ _).trans rfl
set_option maxRecDepth 100000 in
theorem e_X12_pence_115 (x1 : Int32) (x2 : Int32) (x3 : Int32) (x4 : Int32) (x5 : Int32) (x7 : Int32) (s0 : Int32) (w : XW) : q_X12_pence_115 x1 x2 x3 x4 x5 x7 s0 w = (q_X12_pence_116 x1 x2 x3 x4 x5 x7 s0 0 w) := (ev_eq _ _ _).trans rfl
set_option maxRecDepth 100000 in
theorem e_X12_pence_116 (x1 : Int32) (x2 : Int32) (x3 : Int32) (x4 : Int32) (x5 : Int32) (x7 : Int32) (s0 : Int32) (s1 : Int32) (w : XW) : q_X12_pence_116 x1 x2 x3 x4 x5 x7 s0 s1 w = (q_X12_pence_51 x1 x2 x3 x4 x5 (s0 + s1) (x7 + 1) w) := (ev_eq _ _ _).trans rfl
set_option maxRecDepth 100000 in
theorem e_X12_pence_125 (x3 : Int32) (x4 : Int32) (x5 : Int32) (x6 : Int32) (w : XW) : q_X12_pence_125 x3 x4 x5 x6 w = (if x3 = 0 then none else (bif decide (x5 ≤ x6) then (q_X12_pence_140 (x4 / x3) w) else (q_X12_pence_136 (x4 / x3) w))) := (ev_eq _ _ _).trans rfl
set_option maxRecDepth 100000 in
theorem e_X12_pence_136 (s0 : Int32) (w : XW) : q_X12_pence_136 s0 w = (q_X12_pence_141 s0 1 w) := (ev_eq _ _ _).trans rfl
set_option maxRecDepth 100000 in
theorem e_X12_pence_140 (s0 : Int32) (w : XW) : q_X12_pence_140 s0 w = (q_X12_pence_141 s0 0 w) := (ev_eq _ _ _).trans rfl
set_option maxRecDepth 100000 in
theorem e_X12_pence_141 (s0 : Int32) (s1 : Int32) (w : XW) : q_X12_pence_141 s0 s1 w = (some (some (.inl (.int (s0 + s1))), w)) := (ev_eq _ _ _).trans rfl
theorem f_X12_pence (x1 : Int32) (x2 : Int32) (w : XW) : F_X12_pence [.inr (11, 0), .inl (.int x1), .inl (.int x2)] w = (q_X12_pence_0 x1 x2 w).bind pI := rfl
