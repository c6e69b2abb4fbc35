-- WinterKeepModel.frosts(IIII)I
theorem dX12_frosts_0 : decode cX12_frosts 0 = .ok (.aload_n 0, 1) := by decide +kernel
theorem dX12_frosts_1 : decode cX12_frosts 1 = .ok (.invokevirtual 369, 3) := by decide +kernel
theorem dX12_frosts_4 : decode cX12_frosts 4 = .ok (.ifCond .eq 50, 3) := by decide +kernel
theorem dX12_frosts_7 : decode cX12_frosts 7 = .ok (.iload_n 1, 1) := by decide +kernel
theorem dX12_frosts_8 : decode cX12_frosts 8 = .ok (.i2l, 1) := by decide +kernel
theorem dX12_frosts_9 : decode cX12_frosts 9 = .ok (.lconst 1, 1) := by decide +kernel
theorem dX12_frosts_10 : decode cX12_frosts 10 = .ok (.ldc2_w 467, 3) := by decide +kernel
theorem dX12_frosts_13 : decode cX12_frosts 13 = .ok (.invokestatic 133, 3) := by decide +kernel
theorem dX12_frosts_16 : decode cX12_frosts 16 = .ok (.ifCond .eq 38, 3) := by decide +kernel
theorem dX12_frosts_19 : decode cX12_frosts 19 = .ok (.iload_n 2, 1) := by decide +kernel
theorem dX12_frosts_20 : decode cX12_frosts 20 = .ok (.i2l, 1) := by decide +kernel
theorem dX12_frosts_21 : decode cX12_frosts 21 = .ok (.lconst 1, 1) := by decide +kernel
theorem dX12_frosts_22 : decode cX12_frosts 22 = .ok (.ldc2_w 402, 3) := by decide +kernel
theorem dX12_frosts_25 : decode cX12_frosts 25 = .ok (.invokestatic 133, 3) := by decide +kernel
theorem dX12_frosts_28 : decode cX12_frosts 28 = .ok (.ifCond .eq 26, 3) := by decide +kernel
theorem dX12_frosts_31 : decode cX12_frosts 31 = .ok (.iload_n 3, 1) := by decide +kernel
theorem dX12_frosts_32 : decode cX12_frosts 32 = .ok (.i2l, 1) := by decide +kernel
theorem dX12_frosts_33 : decode cX12_frosts 33 = .ok (.lconst 0, 1) := by decide +kernel
theorem dX12_frosts_34 : decode cX12_frosts 34 = .ok (.ldc2_w 375, 3) := by decide +kernel
theorem dX12_frosts_37 : decode cX12_frosts 37 = .ok (.invokestatic 133, 3) := by decide +kernel
theorem dX12_frosts_40 : decode cX12_frosts 40 = .ok (.ifCond .eq 14, 3) := by decide +kernel
theorem dX12_frosts_43 : decode cX12_frosts 43 = .ok (.iload 4, 2) := by decide +kernel
theorem dX12_frosts_45 : decode cX12_frosts 45 = .ok (.i2l, 1) := by decide +kernel
theorem dX12_frosts_46 : decode cX12_frosts 46 = .ok (.lconst 0, 1) := by decide +kernel
theorem dX12_frosts_47 : decode cX12_frosts 47 = .ok (.lconst 1, 1) := by decide +kernel
theorem dX12_frosts_48 : decode cX12_frosts 48 = .ok (.invokestatic 133, 3) := by decide +kernel
theorem dX12_frosts_51 : decode cX12_frosts 51 = .ok (.ifCond .ne 5, 3) := by decide +kernel
theorem dX12_frosts_54 : decode cX12_frosts 54 = .ok (.iconst (-1), 1) := by decide +kernel
theorem dX12_frosts_55 : decode cX12_frosts 55 = .ok (.ireturn, 1) := by decide +kernel
theorem dX12_frosts_56 : decode cX12_frosts 56 = .ok (.aload_n 0, 1) := by decide +kernel
theorem dX12_frosts_57 : decode cX12_frosts 57 = .ok (.aload_n 0, 1) := by decide +kernel
theorem dX12_frosts_58 : decode cX12_frosts 58 = .ok (.getfield 452, 3) := by decide +kernel
theorem dX12_frosts_61 : decode cX12_frosts 61 = .ok (.i2l, 1) := by decide +kernel
theorem dX12_frosts_62 : decode cX12_frosts 62 = .ok (.putfield 455, 3) := by decide +kernel
theorem dX12_frosts_65 : decode cX12_frosts 65 = .ok (.iconst 0, 1) := by decide +kernel
theorem dX12_frosts_66 : decode cX12_frosts 66 = .ok (.istore 5, 2) := by decide +kernel
theorem dX12_frosts_68 : decode cX12_frosts 68 = .ok (.iconst 0, 1) := by decide +kernel
theorem dX12_frosts_69 : decode cX12_frosts 69 = .ok (.istore 6, 2) := by decide +kernel
theorem dX12_frosts_71 : decode cX12_frosts 71 = .ok (.aload_n 0, 1) := by decide +kernel
theorem dX12_frosts_72 : decode cX12_frosts 72 = .ok (.invokevirtual 377, 3) := by decide +kernel
theorem dX12_frosts_75 : decode cX12_frosts 75 = .ok (.iconst 0, 1) := by decide +kernel
theorem dX12_frosts_76 : decode cX12_frosts 76 = .ok (.istore 7, 2) := by decide +kernel
theorem dX12_frosts_78 : decode cX12_frosts 78 = .ok (.iload 7, 2) := by decide +kernel
theorem dX12_frosts_80 : decode cX12_frosts 80 = .ok (.iload_n 1, 1) := by decide +kernel
theorem dX12_frosts_81 : decode cX12_frosts 81 = .ok (.if_icmp .ge 98, 3) := by decide +kernel
theorem dX12_frosts_84 : decode cX12_frosts 84 = .ok (.iconst 0, 1) := by decide +kernel
theorem dX12_frosts_85 : decode cX12_frosts 85 = .ok (.istore 8, 2) := by decide +kernel
theorem dX12_frosts_87 : decode cX12_frosts 87 = .ok (.iload 8, 2) := by decide +kernel
theorem dX12_frosts_89 : decode cX12_frosts 89 = .ok (.iload_n 2, 1) := by decide +kernel
theorem dX12_frosts_90 : decode cX12_frosts 90 = .ok (.if_icmp .ge 56, 3) := by decide +kernel
theorem dX12_frosts_93 : decode cX12_frosts 93 = .ok (.aload_n 0, 1) := by decide +kernel
theorem dX12_frosts_94 : decode cX12_frosts 94 = .ok (.bipush 100, 2) := by decide +kernel
theorem dX12_frosts_96 : decode cX12_frosts 96 = .ok (.invokevirtual 469, 3) := by decide +kernel
theorem dX12_frosts_99 : decode cX12_frosts 99 = .ok (.iload_n 3, 1) := by decide +kernel
theorem dX12_frosts_100 : decode cX12_frosts 100 = .ok (.if_icmp .ge 35, 3) := by decide +kernel
theorem dX12_frosts_103 : decode cX12_frosts 103 = .ok (.aload_n 0, 1) := by decide +kernel
theorem dX12_frosts_104 : decode cX12_frosts 104 = .ok (.getfield 39, 3) := by decide +kernel
theorem dX12_frosts_107 : decode cX12_frosts 107 = .ok (.iconst 3, 1) := by decide +kernel
theorem dX12_frosts_108 : decode cX12_frosts 108 = .ok (.iaload, 1) := by decide +kernel
theorem dX12_frosts_109 : decode cX12_frosts 109 = .ok (.ifCond .le 26, 3) := by decide +kernel
theorem dX12_frosts_112 : decode cX12_frosts 112 = .ok (.aload_n 0, 1) := by decide +kernel
theorem dX12_frosts_113 : decode cX12_frosts 113 = .ok (.getfield 39, 3) := by decide +kernel
theorem dX12_frosts_116 : decode cX12_frosts 116 = .ok (.bipush 11, 2) := by decide +kernel
theorem dX12_frosts_118 : decode cX12_frosts 118 = .ok (.iconst 4, 1) := by decide +kernel
theorem dX12_frosts_119 : decode cX12_frosts 119 = .ok (.aload_n 0, 1) := by decide +kernel
theorem dX12_frosts_120 : decode cX12_frosts 120 = .ok (.aload_n 0, 1) := by decide +kernel
theorem dX12_frosts_121 : decode cX12_frosts 121 = .ok (.getfield 39, 3) := by decide +kernel
theorem dX12_frosts_124 : decode cX12_frosts 124 = .ok (.iconst 3, 1) := by decide +kernel
theorem dX12_frosts_125 : decode cX12_frosts 125 = .ok (.iaload, 1) := by decide +kernel
theorem dX12_frosts_126 : decode cX12_frosts 126 = .ok (.invokevirtual 469, 3) := by decide +kernel
theorem dX12_frosts_129 : decode cX12_frosts 129 = .ok (.imul, 1) := by decide +kernel
theorem dX12_frosts_130 : decode cX12_frosts 130 = .ok (.iadd, 1) := by decide +kernel
theorem dX12_frosts_131 : decode cX12_frosts 131 = .ok (.iconst 1, 1) := by decide +kernel
theorem dX12_frosts_132 : decode cX12_frosts 132 = .ok (.iadd, 1) := by decide +kernel
theorem dX12_frosts_133 : decode cX12_frosts 133 = .ok (.iconst 0, 1) := by decide +kernel
theorem dX12_frosts_134 : decode cX12_frosts 134 = .ok (.iastore, 1) := by decide +kernel
theorem dX12_frosts_135 : decode cX12_frosts 135 = .ok (.aload_n 0, 1) := by decide +kernel
theorem dX12_frosts_136 : decode cX12_frosts 136 = .ok (.invokevirtual 366, 3) := by decide +kernel
theorem dX12_frosts_139 : decode cX12_frosts 139 = .ok (.pop, 1) := by decide +kernel
theorem dX12_frosts_140 : decode cX12_frosts 140 = .ok (.iinc 8 1, 3) := by decide +kernel
theorem dX12_frosts_143 : decode cX12_frosts 143 = .ok (.goto (-56), 3) := by decide +kernel
theorem dX12_frosts_146 : decode cX12_frosts 146 = .ok (.iload 5, 2) := by decide +kernel
theorem dX12_frosts_148 : decode cX12_frosts 148 = .ok (.aload_n 0, 1) := by decide +kernel
theorem dX12_frosts_149 : decode cX12_frosts 149 = .ok (.bipush (-2), 2) := by decide +kernel
theorem dX12_frosts_151 : decode cX12_frosts 151 = .ok (.invokevirtual 335, 3) := by decide +kernel
theorem dX12_frosts_154 : decode cX12_frosts 154 = .ok (.invokestatic 338, 3) := by decide +kernel
theorem dX12_frosts_157 : decode cX12_frosts 157 = .ok (.iadd, 1) := by decide +kernel
theorem dX12_frosts_158 : decode cX12_frosts 158 = .ok (.istore 5, 2) := by decide +kernel
theorem dX12_frosts_160 : decode cX12_frosts 160 = .ok (.iload 6, 2) := by decide +kernel
theorem dX12_frosts_162 : decode cX12_frosts 162 = .ok (.aload_n 0, 1) := by decide +kernel
theorem dX12_frosts_163 : decode cX12_frosts 163 = .ok (.invokevirtual 413, 3) := by decide +kernel
theorem dX12_frosts_166 : decode cX12_frosts 166 = .ok (.iadd, 1) := by decide +kernel
theorem dX12_frosts_167 : decode cX12_frosts 167 = .ok (.istore 6, 2) := by decide +kernel
theorem dX12_frosts_169 : decode cX12_frosts 169 = .ok (.aload_n 0, 1) := by decide +kernel
theorem dX12_frosts_170 : decode cX12_frosts 170 = .ok (.invokevirtual 383, 3) := by decide +kernel
theorem dX12_frosts_173 : decode cX12_frosts 173 = .ok (.iinc 7 1, 3) := by decide +kernel
theorem dX12_frosts_176 : decode cX12_frosts 176 = .ok (.goto (-98), 3) := by decide +kernel
theorem dX12_frosts_179 : decode cX12_frosts 179 = .ok (.iload 4, 2) := by decide +kernel
theorem dX12_frosts_181 : decode cX12_frosts 181 = .ok (.ifCond .ne 8, 3) := by decide +kernel
theorem dX12_frosts_184 : decode cX12_frosts 184 = .ok (.iload 5, 2) := by decide +kernel
theorem dX12_frosts_186 : decode cX12_frosts 186 = .ok (.goto 5, 3) := by decide +kernel
theorem dX12_frosts_189 : decode cX12_frosts 189 = .ok (.iload 6, 2) := by decide +kernel
theorem dX12_frosts_191 : decode cX12_frosts 191 = .ok (.ireturn, 1) := by decide +kernel
theorem vc_X12_469 : XVw RX12 469 1 11 2 yX12_draw cX12_draw (some .int) := ⟨RX12, TX12, tyX12, 43, xk_11, rfl, ⟨by decide, by decide⟩, by decide +kernel, wt_1569, wt_1571, ws_114, wt_11, wt_1572⟩
noncomputable def bs_X12_frosts : List (Nat × XB) := [
  (0, (sq (xLA 0) (sq (xCI 11 1 F_X12_isDale) (tIf1 (fun x => decide (x = 0)) 54 [false, false, false, false, false, false, false, false, false] 7 [true, true, true, true, true, false, false, false, false])))),
  (7, (sq (xLI 1) (sq (xI2L) (sq (xC (.long 1)) (sq (xC (.long 10)) (sq (xCI 99 3 F_X12_in) (tIf1 (fun x => decide (x = 0)) 54 [false, false, false, false, false, false, false, false, false] 19 [true, true, true, true, true, false, false, false, false]))))))),
  (19, (sq (xLI 2) (sq (xI2L) (sq (xC (.long 1)) (sq (xC (.long 60)) (sq (xCI 99 3 F_X12_in) (tIf1 (fun x => decide (x = 0)) 54 [false, false, false, false, false, false, false, false, false] 31 [true, true, true, true, true, false, false, false, false]))))))),
  (31, (sq (xLI 3) (sq (xI2L) (sq (xC (.long 0)) (sq (xC (.long 100)) (sq (xCI 99 3 F_X12_in) (tIf1 (fun x => decide (x = 0)) 54 [false, false, false, false, false, false, false, false, false] 43 [true, true, true, true, true, false, false, false, false]))))))),
  (43, (sq (xLI 4) (sq (xI2L) (sq (xC (.long 0)) (sq (xC (.long 1)) (sq (xCI 99 3 F_X12_in) (tIf1 (fun x => decide (¬ x = 0)) 56 [true, true, true, true, true, false, false, false, false] 54 [false, false, false, false, false, false, false, false, false]))))))),
  (54, (sq (xC (.int (-1))) tRI)),
  (56, (sq (xLA 0) (sq (xLA 0) (sq (xGI 11 22) (sq (xI2L) (sq (xPJ 11 38) (sq (xC (.int 0)) (sq (xSI 5) (sq (xC (.int 0)) (sq (xSI 6) (sq (xLA 0) (sq (xCV 11 1 F_X12_keeps) (sq (xC (.int 0)) (sq (xSI 7) (tGo 78 [true, true, true, true, true, true, true, true, false]))))))))))))))),
  (78, (sq (xLI 7) (sq (xLI 1) (tIf2 (fun x y => decide (y ≤ x)) 179 [false, false, false, false, true, true, true, false, false] 84 [true, true, true, true, true, true, true, true, false])))),
  (84, (sq (xC (.int 0)) (sq (xSI 8) (tGo 87 [true, true, true, true, true, true, true, true, true])))),
  (87, (sq (xLI 8) (sq (xLI 2) (tIf2 (fun x y => decide (y ≤ x)) 146 [true, true, true, true, true, true, true, true, false] 93 [true, true, true, true, true, true, true, true, true])))),
  (93, (sq (xLA 0) (sq (xC (.int 100)) (sq (xCI 11 2 F_X12_draw) (sq (xLI 3) (tIf2 (fun x y => decide (y ≤ x)) 135 [true, true, true, true, true, true, true, true, true] 103 [true, true, true, true, true, true, true, true, true])))))),
  (103, (sq (xLA 0) (sq (xGS 11 50 1 0) (sq (xC (.int 3)) (sq (xAI 50 98) (tIf1 (fun x => decide (x ≤ 0)) 135 [true, true, true, true, true, true, true, true, true] 112 [true, true, true, true, true, true, true, true, true])))))),
  (112, (sq (xLA 0) (sq (xGS 11 50 1 0) (sq (xC (.int 11)) (sq (xC (.int 4)) (sq (xLA 0) (sq (xLA 0) (sq (xGS 11 50 1 0) (sq (xC (.int 3)) (sq (xAI 50 98) (sq (xCI 11 2 F_X12_draw) (sq (xI2 (· * ·)) (sq (xI2 (· + ·)) (sq (xC (.int 1)) (sq (xI2 (· + ·)) (sq (xC (.int 0)) (sq (xTI 50 98 (fun x => x)) (tGo 135 [true, true, true, true, true, true, true, true, true])))))))))))))))))),
  (135, (sq (xLA 0) (sq (xCI 11 1 F_X12_passes) (sq (xPop) (sq (xInc 8 1) (tGo 87 [true, true, true, true, true, true, true, true, true])))))),
  (146, (sq (xLI 5) (sq (xLA 0) (sq (xC (.int (-2))) (sq (xCI 11 2 F_X12_onesThat) (sq (xCI 99 1 F_X12_bits) (sq (xI2 (· + ·)) (sq (xSI 5) (sq (xLI 6) (sq (xLA 0) (sq (xCI 11 1 F_X12_fullAll) (sq (xI2 (· + ·)) (sq (xSI 6) (sq (xLA 0) (sq (xCV 11 1 F_X12_laysBack) (sq (xInc 7 1) (tGo 78 [true, true, true, true, true, true, true, true, false]))))))))))))))))),
  (179, (sq (xLI 4) (tIf1 (fun x => decide (¬ x = 0)) 189 [false, false, false, false, false, false, true, false, false] 184 [false, false, false, false, false, true, false, false, false]))),
  (184, (sq (xLI 5) (tGo 191 [false, false, false, false, false, false, false, false, false]))),
  (189, (sq (xLI 6) (tGo 191 [false, false, false, false, false, false, false, false, false]))),
  (191, tRI)]
set_option maxRecDepth 100000 in
set_option maxHeartbeats 4000000 in
theorem s_X12_frosts : ∀ X : XCtx, XE X → X.2.2.1.1 = cX12_frosts → X.2.2.1.2.1 = 9 → X.2.2.1.2.2.1 = yX12_frosts.cls → X.2.2.1.2.2.2.1 = (some .int) → X.1.2.2.2.1 = { frames := 5, cells := 0, slots := 0, locals := 123 } → SndBs X bs_X12_frosts := by
  rintro ⟨⟨p, l, e, R, s⟩, Y, ⟨cc, nL, own, ret, Ts⟩, Z⟩ hE h1 h2 h3 h4 h5
  dsimp only at h1 h2 h3 h4 h5
  subst h1 h2 h3 h4 h5
  exact ⟨(n_sq (n_aload_n hE dX12_frosts_0) (n_sq (n_cIv hE m_X12_isDale vc_X12_369 (show 0 + 1 ≤ 5 ∧ 8 + (1 + 11) + 0 ≤ 123 by decide) dX12_frosts_1) (n_ifeq hE (by decide) dX12_frosts_4))),
    (n_sq (n_iload_n hE dX12_frosts_7) (n_sq (n_i2l hE dX12_frosts_8) (n_sq (n_lconst hE (by decide) dX12_frosts_9) (n_sq (n_ldc2 hE wt_1568 dX12_frosts_10) (n_sq (n_cIs hE m_X12_in vc_X12_133 (show 0 + 1 ≤ 5 ∧ 8 + (6 + 11) + 0 ≤ 123 by decide) dX12_frosts_13) (n_ifeq hE (by decide) dX12_frosts_16)))))),
    (n_sq (n_iload_n hE dX12_frosts_19) (n_sq (n_i2l hE dX12_frosts_20) (n_sq (n_lconst hE (by decide) dX12_frosts_21) (n_sq (n_ldc2 hE wt_1468 dX12_frosts_22) (n_sq (n_cIs hE m_X12_in vc_X12_133 (show 0 + 1 ≤ 5 ∧ 8 + (6 + 11) + 0 ≤ 123 by decide) dX12_frosts_25) (n_ifeq hE (by decide) dX12_frosts_28)))))),
    (n_sq (n_iload_n hE dX12_frosts_31) (n_sq (n_i2l hE dX12_frosts_32) (n_sq (n_lconst hE (by decide) dX12_frosts_33) (n_sq (n_ldc2 hE wt_1422 dX12_frosts_34) (n_sq (n_cIs hE m_X12_in vc_X12_133 (show 0 + 1 ≤ 5 ∧ 8 + (6 + 11) + 0 ≤ 123 by decide) dX12_frosts_37) (n_ifeq hE (by decide) dX12_frosts_40)))))),
    (n_sq (n_iload hE dX12_frosts_43) (n_sq (n_i2l hE dX12_frosts_45) (n_sq (n_lconst hE (by decide) dX12_frosts_46) (n_sq (n_lconst hE (by decide) dX12_frosts_47) (n_sq (n_cIs hE m_X12_in vc_X12_133 (show 0 + 1 ≤ 5 ∧ 8 + (6 + 11) + 0 ≤ 123 by decide) dX12_frosts_48) (n_ifne hE (by decide) dX12_frosts_51)))))),
    (n_sq (n_iconst hE (by decide) dX12_frosts_54) (n_ireturn hE rfl dX12_frosts_55)),
    (n_sq (n_aload_n hE dX12_frosts_56) (n_sq (n_aload_n hE dX12_frosts_57) (n_sq (n_getI hE xk_11 (k := 22) rfl (by decide) rfl wt_982 dX12_frosts_58) (n_sq (n_i2l hE dX12_frosts_61) (n_sq (n_putJ hE xk_11 (k := 38) rfl (by decide) rfl rfl (tyX12_ok 38 (by decide)) wt_998 dX12_frosts_62) (n_sq (n_iconst hE (by decide) dX12_frosts_65) (n_sq (n_istore hE (show (5 : Nat) < 9 by decide) dX12_frosts_66) (n_sq (n_iconst hE (by decide) dX12_frosts_68) (n_sq (n_istore hE (show (6 : Nat) < 9 by decide) dX12_frosts_69) (n_sq (n_aload_n hE dX12_frosts_71) (n_sq (n_cVv hE m_X12_keeps vc_X12_377 (show 0 + 1 ≤ 5 ∧ 8 + (2 + 11) + 0 ≤ 123 by decide) dX12_frosts_72) (n_sq (n_iconst hE (by decide) dX12_frosts_75) (n_sq (n_istore hE (show (7 : Nat) < 9 by decide) dX12_frosts_76) n_fall))))))))))))),
    (n_sq (n_iload hE dX12_frosts_78) (n_sq (n_iload_n hE dX12_frosts_80) (n_ifcge hE (by decide) dX12_frosts_81))),
    (n_sq (n_iconst hE (by decide) dX12_frosts_84) (n_sq (n_istore hE (show (8 : Nat) < 9 by decide) dX12_frosts_85) n_fall)),
    (n_sq (n_iload hE dX12_frosts_87) (n_sq (n_iload_n hE dX12_frosts_89) (n_ifcge hE (by decide) dX12_frosts_90))),
    (n_sq (n_aload_n hE dX12_frosts_93) (n_sq (n_bipush hE (by decide) dX12_frosts_94) (n_sq (n_cIv hE m_X12_draw vc_X12_469 (show 0 + 1 ≤ 5 ∧ 8 + (2 + 11) + 0 ≤ 123 by decide) dX12_frosts_96) (n_sq (n_iload_n hE dX12_frosts_99) (n_ifcge hE (by decide) dX12_frosts_100))))),
    (n_sq (n_aload_n hE dX12_frosts_103) (n_sq (n_getS hE xk_11 (k := 20) rfl (by decide) rfl wt_980 dX12_frosts_104) (n_sq (n_iconst hE (by decide) dX12_frosts_107) (n_sq (n_iald hE rfl (by decide) dX12_frosts_108) (n_ifle hE (by decide) dX12_frosts_109))))),
    (n_sq (n_aload_n hE dX12_frosts_112) (n_sq (n_getS hE xk_11 (k := 20) rfl (by decide) rfl wt_980 dX12_frosts_113) (n_sq (n_bipush hE (by decide) dX12_frosts_116) (n_sq (n_iconst hE (by decide) dX12_frosts_118) (n_sq (n_aload_n hE dX12_frosts_119) (n_sq (n_aload_n hE dX12_frosts_120) (n_sq (n_getS hE xk_11 (k := 20) rfl (by decide) rfl wt_980 dX12_frosts_121) (n_sq (n_iconst hE (by decide) dX12_frosts_124) (n_sq (n_iald hE rfl (by decide) dX12_frosts_125) (n_sq (n_cIv hE m_X12_draw vc_X12_469 (show 0 + 1 ≤ 5 ∧ 8 + (2 + 11) + 0 ≤ 123 by decide) dX12_frosts_126) (n_sq (n_imul hE dX12_frosts_129) (n_sq (n_iadd hE dX12_frosts_130) (n_sq (n_iconst hE (by decide) dX12_frosts_131) (n_sq (n_iadd hE dX12_frosts_132) (n_sq (n_iconst hE (by decide) dX12_frosts_133) (n_sq (n_iast hE rfl (by decide) dX12_frosts_134) n_fall)))))))))))))))),
    (n_sq (n_aload_n hE dX12_frosts_135) (n_sq (n_cIv hE m_X12_passes vc_X12_366 (show 4 + 1 ≤ 5 ∧ 8 + (3 + 11) + 101 ≤ 123 by decide) dX12_frosts_136) (n_sq (n_pop hE dX12_frosts_139) (n_sq (n_iinc hE (by decide) (show (8 : Nat) < 9 by decide) dX12_frosts_140) (n_goto hE (by decide) dX12_frosts_143))))),
    (n_sq (n_iload hE dX12_frosts_146) (n_sq (n_aload_n hE dX12_frosts_148) (n_sq (n_bipush hE (by decide) dX12_frosts_149) (n_sq (n_cIv hE m_X12_onesThat vc_X12_335 (show 1 + 1 ≤ 5 ∧ 8 + (4 + 11) + 21 ≤ 123 by decide) dX12_frosts_151) (n_sq (n_cIs hE m_X12_bits vc_X12_338 (show 0 + 1 ≤ 5 ∧ 8 + (3 + 11) + 0 ≤ 123 by decide) dX12_frosts_154) (n_sq (n_iadd hE dX12_frosts_157) (n_sq (n_istore hE (show (5 : Nat) < 9 by decide) dX12_frosts_158) (n_sq (n_iload hE dX12_frosts_160) (n_sq (n_aload_n hE dX12_frosts_162) (n_sq (n_cIv hE m_X12_fullAll vc_X12_413 (show 1 + 1 ≤ 5 ∧ 8 + (3 + 11) + 21 ≤ 123 by decide) dX12_frosts_163) (n_sq (n_iadd hE dX12_frosts_166) (n_sq (n_istore hE (show (6 : Nat) < 9 by decide) dX12_frosts_167) (n_sq (n_aload_n hE dX12_frosts_169) (n_sq (n_cVv hE m_X12_laysBack vc_X12_383 (show 0 + 1 ≤ 5 ∧ 8 + (2 + 11) + 0 ≤ 123 by decide) dX12_frosts_170) (n_sq (n_iinc hE (by decide) (show (7 : Nat) < 9 by decide) dX12_frosts_173) (n_goto hE (by decide) dX12_frosts_176)))))))))))))))),
    (n_sq (n_iload hE dX12_frosts_179) (n_ifne hE (by decide) dX12_frosts_181)),
    (n_sq (n_iload hE dX12_frosts_184) (n_goto hE (by decide) dX12_frosts_186)),
    (n_sq (n_iload hE dX12_frosts_189) n_fall),
    (n_ireturn hE rfl dX12_frosts_191), trivial⟩
noncomputable def F_X12_frosts (as : List XV) (w : XW) : Option (Int32 × XW) := (xF 9 bs_X12_frosts as w).bind pI
theorem m_X12_frosts : XM yX12_frosts cX12_frosts 9 (some .int) 5 123 (eI F_X12_frosts) := xm_I (xm_of (by decide) s_X12_frosts)
noncomputable def q_X12_frosts_0 (x1 : Int32) (x2 : Int32) (x3 : Int32) (x4 : Int32) (w : XW) : Option XR := ev bs_X12_frosts 0 ([some (.inr (11, 0)), some (.inl (.int x1)), some (.inl (.int x2)), some (.inl (.int x3)), some (.inl (.int x4)), none, none, none, none], [], w)
noncomputable def q_X12_frosts_7 (x1 : Int32) (x2 : Int32) (x3 : Int32) (x4 : Int32) (w : XW) : Option XR := ev bs_X12_frosts 7 ([some (.inr (11, 0)), some (.inl (.int x1)), some (.inl (.int x2)), some (.inl (.int x3)), some (.inl (.int x4)), none, none, none, none], [], w)
noncomputable def q_X12_frosts_19 (x1 : Int32) (x2 : Int32) (x3 : Int32) (x4 : Int32) (w : XW) : Option XR := ev bs_X12_frosts 19 ([some (.inr (11, 0)), some (.inl (.int x1)), some (.inl (.int x2)), some (.inl (.int x3)), some (.inl (.int x4)), none, none, none, none], [], w)
noncomputable def q_X12_frosts_31 (x1 : Int32) (x2 : Int32) (x3 : Int32) (x4 : Int32) (w : XW) : Option XR := ev bs_X12_frosts 31 ([some (.inr (11, 0)), some (.inl (.int x1)), some (.inl (.int x2)), some (.inl (.int x3)), some (.inl (.int x4)), none, none, none, none], [], w)
noncomputable def q_X12_frosts_43 (x1 : Int32) (x2 : Int32) (x3 : Int32) (x4 : Int32) (w : XW) : Option XR := ev bs_X12_frosts 43 ([some (.inr (11, 0)), some (.inl (.int x1)), some (.inl (.int x2)), some (.inl (.int x3)), some (.inl (.int x4)), none, none, none, none], [], w)
noncomputable def q_X12_frosts_54 (w : XW) : Option XR := ev bs_X12_frosts 54 ([none, none, none, none, none, none, none, none, none], [], w)
noncomputable def q_X12_frosts_56 (x1 : Int32) (x2 : Int32) (x3 : Int32) (x4 : Int32) (w : XW) : Option XR := ev bs_X12_frosts 56 ([some (.inr (11, 0)), some (.inl (.int x1)), some (.inl (.int x2)), some (.inl (.int x3)), some (.inl (.int x4)), none, none, none, none], [], w)
noncomputable def q_X12_frosts_78 (x1 : Int32) (x2 : Int32) (x3 : Int32) (x4 : Int32) (x5 : Int32) (x6 : Int32) (x7 : Int32) (w : XW) : Option XR := ev bs_X12_frosts 78 ([some (.inr (11, 0)), some (.inl (.int x1)), some (.inl (.int x2)), some (.inl (.int x3)), some (.inl (.int x4)), some (.inl (.int x5)), some (.inl (.int x6)), some (.inl (.int x7)), none], [], w)
noncomputable def q_X12_frosts_84 (x1 : Int32) (x2 : Int32) (x3 : Int32) (x4 : Int32) (x5 : Int32) (x6 : Int32) (x7 : Int32) (w : XW) : Option XR := ev bs_X12_frosts 84 ([some (.inr (11, 0)), some (.inl (.int x1)), some (.inl (.int x2)), some (.inl (.int x3)), some (.inl (.int x4)), some (.inl (.int x5)), some (.inl (.int x6)), some (.inl (.int x7)), none], [], w)
noncomputable def q_X12_frosts_87 (x1 : Int32) (x2 : Int32) (x3 : Int32) (x4 : Int32) (x5 : Int32) (x6 : Int32) (x7 : Int32) (x8 : Int32) (w : XW) : Option XR := ev bs_X12_frosts 87 ([some (.inr (11, 0)), some (.inl (.int x1)), some (.inl (.int x2)), some (.inl (.int x3)), some (.inl (.int x4)), some (.inl (.int x5)), some (.inl (.int x6)), some (.inl (.int x7)), some (.inl (.int x8))], [], w)
noncomputable def q_X12_frosts_93 (x1 : Int32) (x2 : Int32) (x3 : Int32) (x4 : Int32) (x5 : Int32) (x6 : Int32) (x7 : Int32) (x8 : Int32) (w : XW) : Option XR := ev bs_X12_frosts 93 ([some (.inr (11, 0)), some (.inl (.int x1)), some (.inl (.int x2)), some (.inl (.int x3)), some (.inl (.int x4)), some (.inl (.int x5)), some (.inl (.int x6)), some (.inl (.int x7)), some (.inl (.int x8))], [], w)
noncomputable def q_X12_frosts_103 (x1 : Int32) (x2 : Int32) (x3 : Int32) (x4 : Int32) (x5 : Int32) (x6 : Int32) (x7 : Int32) (x8 : Int32) (w : XW) : Option XR := ev bs_X12_frosts 103 ([some (.inr (11, 0)), some (.inl (.int x1)), some (.inl (.int x2)), some (.inl (.int x3)), some (.inl (.int x4)), some (.inl (.int x5)), some (.inl (.int x6)), some (.inl (.int x7)), some (.inl (.int x8))], [], w)
noncomputable def q_X12_frosts_112 (x1 : Int32) (x2 : Int32) (x3 : Int32) (x4 : Int32) (x5 : Int32) (x6 : Int32) (x7 : Int32) (x8 : Int32) (w : XW) : Option XR := ev bs_X12_frosts 112 ([some (.inr (11, 0)), some (.inl (.int x1)), some (.inl (.int x2)), some (.inl (.int x3)), some (.inl (.int x4)), some (.inl (.int x5)), some (.inl (.int x6)), some (.inl (.int x7)), some (.inl (.int x8))], [], w)
noncomputable def q_X12_frosts_135 (x1 : Int32) (x2 : Int32) (x3 : Int32) (x4 : Int32) (x5 : Int32) (x6 : Int32) (x7 : Int32) (x8 : Int32) (w : XW) : Option XR := ev bs_X12_frosts 135 ([some (.inr (11, 0)), some (.inl (.int x1)), some (.inl (.int x2)), some (.inl (.int x3)), some (.inl (.int x4)), some (.inl (.int x5)), some (.inl (.int x6)), some (.inl (.int x7)), some (.inl (.int x8))], [], w)
noncomputable def q_X12_frosts_146 (x1 : Int32) (x2 : Int32) (x3 : Int32) (x4 : Int32) (x5 : Int32) (x6 : Int32) (x7 : Int32) (w : XW) : Option XR := ev bs_X12_frosts 146 ([some (.inr (11, 0)), some (.inl (.int x1)), some (.inl (.int x2)), some (.inl (.int x3)), some (.inl (.int x4)), some (.inl (.int x5)), some (.inl (.int x6)), some (.inl (.int x7)), none], [], w)
noncomputable def q_X12_frosts_179 (x4 : Int32) (x5 : Int32) (x6 : Int32) (w : XW) : Option XR := ev bs_X12_frosts 179 ([none, none, none, none, some (.inl (.int x4)), some (.inl (.int x5)), some (.inl (.int x6)), none, none], [], w)
noncomputable def q_X12_frosts_184 (x5 : Int32) (w : XW) : Option XR := ev bs_X12_frosts 184 ([none, none, none, none, none, some (.inl (.int x5)), none, none, none], [], w)
noncomputable def q_X12_frosts_189 (x6 : Int32) (w : XW) : Option XR := ev bs_X12_frosts 189 ([none, none, none, none, none, none, some (.inl (.int x6)), none, none], [], w)
noncomputable def q_X12_frosts_191 (s0 : Int32) (w : XW) : Option XR := ev bs_X12_frosts 191 ([none, none, none, none, none, none, none, none, none], [.inl (.int s0)], w)
set_option maxRecDepth 100000 in
theorem e_X12_frosts_0 (x1 : Int32) (x2 : Int32) (x3 : Int32) (x4 : Int32) (w : XW) : q_X12_frosts_0 x1 x2 x3 x4 w = ((F_X12_isDale [.inr (11, 0)] w).bind fun r0 => (bif decide (r0.1 = 0) then (q_X12_frosts_54 r0.2) else (q_X12_frosts_7 x1 x2 x3 x4 r0.2))) := (ev_eq _ _ _).trans rfl
set_option maxRecDepth 100000 in
theorem e_X12_frosts_7 (x1 : Int32) (x2 : Int32) (x3 : Int32) (x4 : Int32) (w : XW) : q_X12_frosts_7 x1 x2 x3 x4 w = ((F_X12_in [.inl (.long (x1 : Int32).toInt64), .inl (.long 1), .inl (.long 10)] w).bind fun r0 => (bif decide (r0.1 = 0) then (q_X12_frosts_54 r0.2) else (q_X12_frosts_19 x1 x2 x3 x4 r0.2))) := (ev_eq _ _ _).trans rfl
set_option maxRecDepth 100000 in
theorem e_X12_frosts_19 (x1 : Int32) (x2 : Int32) (x3 : Int32) (x4 : Int32) (w : XW) : q_X12_frosts_19 x1 x2 x3 x4 w = ((F_X12_in [.inl (.long (x2 : Int32).toInt64), .inl (.long 1), .inl (.long 60)] w).bind fun r0 => (bif decide (r0.1 = 0) then (q_X12_frosts_54 r0.2) else (q_X12_frosts_31 x1 x2 x3 x4 r0.2))) := (ev_eq _ _ _).trans rfl
set_option maxRecDepth 100000 in
theorem e_X12_frosts_31 (x1 : Int32) (x2 : Int32) (x3 : Int32) (x4 : Int32) (w : XW) : q_X12_frosts_31 x1 x2 x3 x4 w = ((F_X12_in [.inl (.long (x3 : Int32).toInt64), .inl (.long 0), .inl (.long 100)] w).bind fun r0 => (bif decide (r0.1 = 0) then (q_X12_frosts_54 r0.2) else (q_X12_frosts_43 x1 x2 x3 x4 r0.2))) := (ev_eq _ _ _).trans rfl
set_option maxRecDepth 100000 in
theorem e_X12_frosts_43 (x1 : Int32) (x2 : Int32) (x3 : Int32) (x4 : Int32) (w : XW) : q_X12_frosts_43 x1 x2 x3 x4 w = ((F_X12_in [.inl (.long (x4 : Int32).toInt64), .inl (.long 0), .inl (.long 1)] w).bind fun r0 => (bif decide (¬ r0.1 = 0) then (q_X12_frosts_56 x1 x2 x3 x4 r0.2) else (q_X12_frosts_54 r0.2))) := (ev_eq _ _ _).trans rfl
set_option maxRecDepth 100000 in
theorem e_X12_frosts_54 (w : XW) : q_X12_frosts_54 w = (some (some (.inl (.int (-1))), w)) := (ev_eq _ _ _).trans rfl
set_option maxRecDepth 100000 in
theorem e_X12_frosts_56 (x1 : Int32) (x2 : Int32) (x3 : Int32) (x4 : Int32) (w : XW) : q_X12_frosts_56 x1 x2 x3 x4 w = ((F_X12_keeps [.inr (11, 0)] (sJ w 11 0 38 ((gI w 11 0 22).toInt64))).bind fun r0 => (q_X12_frosts_78 x1 x2 x3 x4 0 0 0 r0)) := (ev_eq _ _ _).trans rfl
set_option maxRecDepth 100000 in
theorem e_X12_frosts_78 (x1 : Int32) (x2 : Int32) (x3 : Int32) (x4 : Int32) (x5 : Int32) (x6 : Int32) (x7 : Int32) (w : XW) : q_X12_frosts_78 x1 x2 x3 x4 x5 x6 x7 w = (bif decide (x1 ≤ x7) then (q_X12_frosts_179 x4 x5 x6 w) else (q_X12_frosts_84 x1 x2 x3 x4 x5 x6 x7 w)) := (ev_eq _ _ _).trans rfl
set_option maxRecDepth 100000 in
theorem e_X12_frosts_84 (x1 : Int32) (x2 : Int32) (x3 : Int32) (x4 : Int32) (x5 : Int32) (x6 : Int32) (x7 : Int32) (w : XW) : q_X12_frosts_84 x1 x2 x3 x4 x5 x6 x7 w = (q_X12_frosts_87 x1 x2 x3 x4 x5 x6 x7 0 w) := (ev_eq _ _ _).trans rfl
set_option maxRecDepth 100000 in
theorem e_X12_frosts_87 (x1 : Int32) (x2 : Int32) (x3 : Int32) (x4 : Int32) (x5 : Int32) (x6 : Int32) (x7 : Int32) (x8 : Int32) (w : XW) : q_X12_frosts_87 x1 x2 x3 x4 x5 x6 x7 x8 w = (bif decide (x2 ≤ x8) then (q_X12_frosts_146 x1 x2 x3 x4 x5 x6 x7 w) else (q_X12_frosts_93 x1 x2 x3 x4 x5 x6 x7 x8 w)) := (ev_eq _ _ _).trans rfl
set_option maxRecDepth 100000 in
theorem e_X12_frosts_93 (x1 : Int32) (x2 : Int32) (x3 : Int32) (x4 : Int32) (x5 : Int32) (x6 : Int32) (x7 : Int32) (x8 : Int32) (w : XW) : q_X12_frosts_93 x1 x2 x3 x4 x5 x6 x7 x8 w = ((F_X12_draw [.inr (11, 0), .inl (.int 100)] w).bind fun r0 => (bif decide (x3 ≤ r0.1) then (q_X12_frosts_135 x1 x2 x3 x4 x5 x6 x7 x8 r0.2) else (q_X12_frosts_103 x1 x2 x3 x4 x5 x6 x7 x8 r0.2))) := (ev_eq _ _ _).trans rfl
set_option maxRecDepth 100000 in
theorem e_X12_frosts_103 (x1 : Int32) (x2 : Int32) (x3 : Int32) (x4 : Int32) (x5 : Int32) (x6 : Int32) (x7 : Int32) (x8 : Int32) (w : XW) : q_X12_frosts_103 x1 x2 x3 x4 x5 x6 x7 x8 w = (bif decide ((gI w 50 0 3) ≤ 0) then (q_X12_frosts_135 x1 x2 x3 x4 x5 x6 x7 x8 w) else (q_X12_frosts_112 x1 x2 x3 x4 x5 x6 x7 x8 w)) := (ev_eq _ _ _).trans rfl
set_option maxRecDepth 100000 in
theorem e_X12_frosts_112 (x1 : Int32) (x2 : Int32) (x3 : Int32) (x4 : Int32) (x5 : Int32) (x6 : Int32) (x7 : Int32) (x8 : Int32) (w : XW) : q_X12_frosts_112 x1 x2 x3 x4 x5 x6 x7 x8 w = ((F_X12_draw [.inr (11, 0), .inl (.int (gI w 50 0 3))] w).bind fun r0 => (if ((11 + (4 * r0.1)) + 1) < 0 ∨ 98 ≤ ((11 + (4 * r0.1)) + 1).toNatClampNeg then none else (q_X12_frosts_135 x1 x2 x3 x4 x5 x6 x7 x8 (sI r0.2 50 0 (((11 + (4 * r0.1)) + 1).toNatClampNeg) 0)))) := (ev_eq _ _ _).trans rfl
set_option maxRecDepth 100000 in
theorem e_X12_frosts_135 (x1 : Int32) (x2 : Int32) (x3 : Int32) (x4 : Int32) (x5 : Int32) (x6 : Int32) (x7 : Int32) (x8 : Int32) (w : XW) : q_X12_frosts_135 x1 x2 x3 x4 x5 x6 x7 x8 w = ((F_X12_passes [.inr (11, 0)] w).bind fun r0 => (q_X12_frosts_87 x1 x2 x3 x4 x5 x6 x7 (x8 + 1) r0.2)) := (ev_eq _ _ _).trans rfl
set_option maxRecDepth 100000 in
theorem e_X12_frosts_146 (x1 : Int32) (x2 : Int32) (x3 : Int32) (x4 : Int32) (x5 : Int32) (x6 : Int32) (x7 : Int32) (w : XW) : q_X12_frosts_146 x1 x2 x3 x4 x5 x6 x7 w = ((F_X12_onesThat [.inr (11, 0), .inl (.int (-2))] w).bind fun r0 => ((F_X12_bits [.inl (.int r0.1)] r0.2).bind fun r1 => ((F_X12_fullAll [.inr (11, 0)] r1.2).bind fun r2 => ((F_X12_laysBack [.inr (11, 0)] r2.2).bind fun r3 => (q_X12_frosts_78 x1 x2 x3 x4 (x5 + r1.1) (x6 + r2.1) (x7 + 1) r3))))) := (ev_eq _ _ _).trans rfl
set_option maxRecDepth 100000 in
theorem e_X12_frosts_179 (x4 : Int32) (x5 : Int32) (x6 : Int32) (w : XW) : q_X12_frosts_179 x4 x5 x6 w = (bif decide (¬ x4 = 0) then (q_X12_frosts_189 x6 w) else (q_X12_frosts_184 x5 w)) := (ev_eq _ _ _).trans rfl
set_option maxRecDepth 100000 in
theorem e_X12_frosts_184 (x5 : Int32) (w : XW) : q_X12_frosts_184 x5 w = (q_X12_frosts_191 x5 w) := (ev_eq _ _ _).trans rfl
set_option maxRecDepth 100000 in
theorem e_X12_frosts_189 (x6 : Int32) (w : XW) : q_X12_frosts_189 x6 w = (q_X12_frosts_191 x6 w) := (ev_eq _ _ _).trans rfl
set_option maxRecDepth 100000 in
theorem e_X12_frosts_191 (s0 : Int32) (w : XW) : q_X12_frosts_191 s0 w = (some (some (.inl (.int s0)), w)) := (ev_eq _ _ _).trans rfl
theorem f_X12_frosts (x1 : Int32) (x2 : Int32) (x3 : Int32) (x4 : Int32) (w : XW) : F_X12_frosts [.inr (11, 0), .inl (.int x1), .inl (.int x2), .inl (.int x3), .inl (.int x4)] w = (q_X12_frosts_0 x1 x2 x3 x4 w).bind pI := rfl

-- WinterKeepModel.count(I)I
theorem dX12_count_0 : decode cX12_count 0 = .ok (.iload_n 1, 1) := by decide +kernel
theorem dX12_count_1 : decode cX12_count 1 = .ok (.tableswitch 152 0 15 #[79, 79, 79, 79, 79, 88, 93, 98, 106, 111, 118, 124, 129, 137, 142, 147], 79) := by decide +kernel
theorem dX12_count_80 : decode cX12_count 80 = .ok (.aload_n 0, 1) := by decide +kernel
theorem dX12_count_81 : decode cX12_count 81 = .ok (.getfield 39, 3) := by decide +kernel
theorem dX12_count_84 : decode cX12_count 84 = .ok (.iload_n 1, 1) := by decide +kernel
theorem dX12_count_85 : decode cX12_count 85 = .ok (.iconst 1, 1) := by decide +kernel
theorem dX12_count_86 : decode cX12_count 86 = .ok (.iadd, 1) := by decide +kernel
theorem dX12_count_87 : decode cX12_count 87 = .ok (.iaload, 1) := by decide +kernel
theorem dX12_count_88 : decode cX12_count 88 = .ok (.ireturn, 1) := by decide +kernel
theorem dX12_count_89 : decode cX12_count 89 = .ok (.aload_n 0, 1) := by decide +kernel
theorem dX12_count_90 : decode cX12_count 90 = .ok (.getfield 271, 3) := by decide +kernel
theorem dX12_count_93 : decode cX12_count 93 = .ok (.ireturn, 1) := by decide +kernel
theorem dX12_count_94 : decode cX12_count 94 = .ok (.aload_n 0, 1) := by decide +kernel
theorem dX12_count_95 : decode cX12_count 95 = .ok (.getfield 42, 3) := by decide +kernel
theorem dX12_count_98 : decode cX12_count 98 = .ok (.ireturn, 1) := by decide +kernel
theorem dX12_count_99 : decode cX12_count 99 = .ok (.aload_n 0, 1) := by decide +kernel
theorem dX12_count_100 : decode cX12_count 100 = .ok (.getfield 39, 3) := by decide +kernel
theorem dX12_count_103 : decode cX12_count 103 = .ok (.bipush 10, 2) := by decide +kernel
theorem dX12_count_105 : decode cX12_count 105 = .ok (.iaload, 1) := by decide +kernel
theorem dX12_count_106 : decode cX12_count 106 = .ok (.ireturn, 1) := by decide +kernel
theorem dX12_count_107 : decode cX12_count 107 = .ok (.aload_n 0, 1) := by decide +kernel
theorem dX12_count_108 : decode cX12_count 108 = .ok (.invokevirtual 413, 3) := by decide +kernel
theorem dX12_count_111 : decode cX12_count 111 = .ok (.ireturn, 1) := by decide +kernel
theorem dX12_count_112 : decode cX12_count 112 = .ok (.aload_n 0, 1) := by decide +kernel
theorem dX12_count_113 : decode cX12_count 113 = .ok (.bipush (-2), 2) := by decide +kernel
theorem dX12_count_115 : decode cX12_count 115 = .ok (.invokevirtual 335, 3) := by decide +kernel
theorem dX12_count_118 : decode cX12_count 118 = .ok (.ireturn, 1) := by decide +kernel
theorem dX12_count_119 : decode cX12_count 119 = .ok (.aload_n 0, 1) := by decide +kernel
theorem dX12_count_120 : decode cX12_count 120 = .ok (.iconst (-1), 1) := by decide +kernel
theorem dX12_count_121 : decode cX12_count 121 = .ok (.invokevirtual 335, 3) := by decide +kernel
theorem dX12_count_124 : decode cX12_count 124 = .ok (.ireturn, 1) := by decide +kernel
theorem dX12_count_125 : decode cX12_count 125 = .ok (.aload_n 0, 1) := by decide +kernel
theorem dX12_count_126 : decode cX12_count 126 = .ok (.invokevirtual 472, 3) := by decide +kernel
theorem dX12_count_129 : decode cX12_count 129 = .ok (.ireturn, 1) := by decide +kernel
theorem dX12_count_130 : decode cX12_count 130 = .ok (.aload_n 0, 1) := by decide +kernel
theorem dX12_count_131 : decode cX12_count 131 = .ok (.getfield 39, 3) := by decide +kernel
theorem dX12_count_134 : decode cX12_count 134 = .ok (.bipush 97, 2) := by decide +kernel
theorem dX12_count_136 : decode cX12_count 136 = .ok (.iaload, 1) := by decide +kernel
theorem dX12_count_137 : decode cX12_count 137 = .ok (.ireturn, 1) := by decide +kernel
theorem dX12_count_138 : decode cX12_count 138 = .ok (.aload_n 0, 1) := by decide +kernel
theorem dX12_count_139 : decode cX12_count 139 = .ok (.getfield 280, 3) := by decide +kernel
theorem dX12_count_142 : decode cX12_count 142 = .ok (.ireturn, 1) := by decide +kernel
theorem dX12_count_143 : decode cX12_count 143 = .ok (.aload_n 0, 1) := by decide +kernel
theorem dX12_count_144 : decode cX12_count 144 = .ok (.getfield 452, 3) := by decide +kernel
theorem dX12_count_147 : decode cX12_count 147 = .ok (.ireturn, 1) := by decide +kernel
theorem dX12_count_148 : decode cX12_count 148 = .ok (.aload_n 0, 1) := by decide +kernel
theorem dX12_count_149 : decode cX12_count 149 = .ok (.getfield 96, 3) := by decide +kernel
theorem dX12_count_152 : decode cX12_count 152 = .ok (.ireturn, 1) := by decide +kernel
theorem dX12_count_153 : decode cX12_count 153 = .ok (.iconst (-1), 1) := by decide +kernel
theorem dX12_count_154 : decode cX12_count 154 = .ok (.ireturn, 1) := by decide +kernel
theorem vc_X12_472 : XVw RX12 472 0 11 3 yX12_keptOffAll cX12_keptOffAll (some .int) := ⟨RX12, TX12, tyX12, 43, xk_11, rfl, ⟨by decide, by decide⟩, by decide +kernel, wt_1581, wt_1583, ws_115, wt_11, wt_1584⟩
noncomputable def bs_X12_count : List (Nat × XB) := [
  (0, (sq (xLI 1) (tSw [(0, 80), (1, 80), (2, 80), (3, 80), (4, 80), (5, 89), (6, 94), (7, 99), (8, 107), (9, 112), (10, 119), (11, 125), (12, 130), (13, 138), (14, 143), (15, 148)] 153 [true, true]))),
  (80, (sq (xLA 0) (sq (xGS 11 50 1 0) (sq (xLI 1) (sq (xC (.int 1)) (sq (xI2 (· + ·)) (sq (xAI 50 98) tRI))))))),
  (89, (sq (xLA 0) (sq (xGI 11 2) tRI))),
  (94, (sq (xLA 0) (sq (xGI 11 21) tRI))),
  (99, (sq (xLA 0) (sq (xGS 11 50 1 0) (sq (xC (.int 10)) (sq (xAI 50 98) tRI))))),
  (107, (sq (xLA 0) (sq (xCI 11 1 F_X12_fullAll) tRI))),
  (112, (sq (xLA 0) (sq (xC (.int (-2))) (sq (xCI 11 2 F_X12_onesThat) tRI)))),
  (119, (sq (xLA 0) (sq (xC (.int (-1))) (sq (xCI 11 2 F_X12_onesThat) tRI)))),
  (125, (sq (xLA 0) (sq (xCI 11 1 F_X12_keptOffAll) tRI))),
  (130, (sq (xLA 0) (sq (xGS 11 50 1 0) (sq (xC (.int 97)) (sq (xAI 50 98) tRI))))),
  (138, (sq (xLA 0) (sq (xGI 11 26) tRI))),
  (143, (sq (xLA 0) (sq (xGI 11 22) tRI))),
  (148, (sq (xLA 0) (sq (xGI 11 1) tRI))),
  (153, (sq (xC (.int (-1))) tRI))]
set_option maxRecDepth 100000 in
set_option maxHeartbeats 4000000 in
theorem s_X12_count : ∀ X : XCtx, XE X → X.2.2.1.1 = cX12_count → X.2.2.1.2.1 = 2 → X.2.2.1.2.2.1 = yX12_count.cls → X.2.2.1.2.2.2.1 = (some .int) → X.1.2.2.2.1 = { frames := 3, cells := 0, slots := 0, locals := 65 } → SndBs X bs_X12_count := by
  rintro ⟨⟨p, l, e, R, s⟩, Y, ⟨cc, nL, own, ret, Ts⟩, Z⟩ hE h1 h2 h3 h4 h5
  dsimp only at h1 h2 h3 h4 h5
  subst h1 h2 h3 h4 h5
  exact ⟨(n_sq (n_iload_n hE dX12_count_0) (n_switch hE (lo32 := 0) (ts := [80, 80, 80, 80, 80, 89, 94, 99, 107, 112, 119, 125, 130, 138, 143, 148]) (by decide) (by decide) (by decide) (by decide) (by decide) (by decide) dX12_count_1)),
    (n_sq (n_aload_n hE dX12_count_80) (n_sq (n_getS hE xk_11 (k := 20) rfl (by decide) rfl wt_980 dX12_count_81) (n_sq (n_iload_n hE dX12_count_84) (n_sq (n_iconst hE (by decide) dX12_count_85) (n_sq (n_iadd hE dX12_count_86) (n_sq (n_iald hE rfl (by decide) dX12_count_87) (n_ireturn hE rfl dX12_count_88))))))),
    (n_sq (n_aload_n hE dX12_count_89) (n_sq (n_getI hE xk_11 (k := 2) rfl (by decide) rfl wt_962 dX12_count_90) (n_ireturn hE rfl dX12_count_93))),
    (n_sq (n_aload_n hE dX12_count_94) (n_sq (n_getI hE xk_11 (k := 21) rfl (by decide) rfl wt_981 dX12_count_95) (n_ireturn hE rfl dX12_count_98))),
    (n_sq (n_aload_n hE dX12_count_99) (n_sq (n_getS hE xk_11 (k := 20) rfl (by decide) rfl wt_980 dX12_count_100) (n_sq (n_bipush hE (by decide) dX12_count_103) (n_sq (n_iald hE rfl (by decide) dX12_count_105) (n_ireturn hE rfl dX12_count_106))))),
    (n_sq (n_aload_n hE dX12_count_107) (n_sq (n_cIv hE m_X12_fullAll vc_X12_413 (show 1 + 1 ≤ 3 ∧ 8 + (3 + 11) + 21 ≤ 65 by decide) dX12_count_108) (n_ireturn hE rfl dX12_count_111))),
    (n_sq (n_aload_n hE dX12_count_112) (n_sq (n_bipush hE (by decide) dX12_count_113) (n_sq (n_cIv hE m_X12_onesThat vc_X12_335 (show 1 + 1 ≤ 3 ∧ 8 + (4 + 11) + 21 ≤ 65 by decide) dX12_count_115) (n_ireturn hE rfl dX12_count_118)))),
    (n_sq (n_aload_n hE dX12_count_119) (n_sq (n_iconst hE (by decide) dX12_count_120) (n_sq (n_cIv hE m_X12_onesThat vc_X12_335 (show 1 + 1 ≤ 3 ∧ 8 + (4 + 11) + 21 ≤ 65 by decide) dX12_count_121) (n_ireturn hE rfl dX12_count_124)))),
    (n_sq (n_aload_n hE dX12_count_125) (n_sq (n_cIv hE m_X12_keptOffAll vc_X12_472 (show 2 + 1 ≤ 3 ∧ 8 + (3 + 11) + 43 ≤ 65 by decide) dX12_count_126) (n_ireturn hE rfl dX12_count_129))),
    (n_sq (n_aload_n hE dX12_count_130) (n_sq (n_getS hE xk_11 (k := 20) rfl (by decide) rfl wt_980 dX12_count_131) (n_sq (n_bipush hE (by decide) dX12_count_134) (n_sq (n_iald hE rfl (by decide) dX12_count_136) (n_ireturn hE rfl dX12_count_137))))),
    (n_sq (n_aload_n hE dX12_count_138) (n_sq (n_getI hE xk_11 (k := 26) rfl (by decide) rfl wt_986 dX12_count_139) (n_ireturn hE rfl dX12_count_142))),
    (n_sq (n_aload_n hE dX12_count_143) (n_sq (n_getI hE xk_11 (k := 22) rfl (by decide) rfl wt_982 dX12_count_144) (n_ireturn hE rfl dX12_count_147))),
    (n_sq (n_aload_n hE dX12_count_148) (n_sq (n_getI hE xk_11 (k := 1) rfl (by decide) rfl wt_961 dX12_count_149) (n_ireturn hE rfl dX12_count_152))),
    (n_sq (n_iconst hE (by decide) dX12_count_153) (n_ireturn hE rfl dX12_count_154)), trivial⟩
noncomputable def F_X12_count (as : List XV) (w : XW) : Option (Int32 × XW) := (xF 2 bs_X12_count as w).bind pI
theorem m_X12_count : XM yX12_count cX12_count 2 (some .int) 3 65 (eI F_X12_count) := xm_I (xm_of (by decide) s_X12_count)
noncomputable def q_X12_count_0 (x1 : Int32) (w : XW) : Option XR := ev bs_X12_count 0 ([some (.inr (11, 0)), some (.inl (.int x1))], [], w)
noncomputable def q_X12_count_80 (x1 : Int32) (w : XW) : Option XR := ev bs_X12_count 80 ([some (.inr (11, 0)), some (.inl (.int x1))], [], w)
noncomputable def q_X12_count_89 (x1 : Int32) (w : XW) : Option XR := ev bs_X12_count 89 ([some (.inr (11, 0)), some (.inl (.int x1))], [], w)
noncomputable def q_X12_count_94 (x1 : Int32) (w : XW) : Option XR := ev bs_X12_count 94 ([some (.inr (11, 0)), some (.inl (.int x1))], [], w)
noncomputable def q_X12_count_99 (x1 : Int32) (w : XW) : Option XR := ev bs_X12_count 99 ([some (.inr (11, 0)), some (.inl (.int x1))], [], w)
noncomputable def q_X12_count_107 (x1 : Int32) (w : XW) : Option XR := ev bs_X12_count 107 ([some (.inr (11, 0)), some (.inl (.int x1))], [], w)
noncomputable def q_X12_count_112 (x1 : Int32) (w : XW) : Option XR := ev bs_X12_count 112 ([some (.inr (11, 0)), some (.inl (.int x1))], [], w)
noncomputable def q_X12_count_119 (x1 : Int32) (w : XW) : Option XR := ev bs_X12_count 119 ([some (.inr (11, 0)), some (.inl (.int x1))], [], w)
noncomputable def q_X12_count_125 (x1 : Int32) (w : XW) : Option XR := ev bs_X12_count 125 ([some (.inr (11, 0)), some (.inl (.int x1))], [], w)
noncomputable def q_X12_count_130 (x1 : Int32) (w : XW) : Option XR := ev bs_X12_count 130 ([some (.inr (11, 0)), some (.inl (.int x1))], [], w)
noncomputable def q_X12_count_138 (x1 : Int32) (w : XW) : Option XR := ev bs_X12_count 138 ([some (.inr (11, 0)), some (.inl (.int x1))], [], w)
noncomputable def q_X12_count_143 (x1 : Int32) (w : XW) : Option XR := ev bs_X12_count 143 ([some (.inr (11, 0)), some (.inl (.int x1))], [], w)
noncomputable def q_X12_count_148 (x1 : Int32) (w : XW) : Option XR := ev bs_X12_count 148 ([some (.inr (11, 0)), some (.inl (.int x1))], [], w)
noncomputable def q_X12_count_153 (x1 : Int32) (w : XW) : Option XR := ev bs_X12_count 153 ([some (.inr (11, 0)), some (.inl (.int x1))], [], w)
theorem e_X12_count_0 (x1 : Int32) (w : XW) : q_X12_count_0 x1 w = (bif x1 == 0 then (q_X12_count_80 x1 w) else (bif x1 == 1 then (q_X12_count_80 x1 w) else (bif x1 == 2 then (q_X12_count_80 x1 w) else (bif x1 == 3 then (q_X12_count_80 x1 w) else (bif x1 == 4 then (q_X12_count_80 x1 w) else (bif x1 == 5 then (q_X12_count_89 x1 w) else (bif x1 == 6 then (q_X12_count_94 x1 w) else (bif x1 == 7 then (q_X12_count_99 x1 w) else (bif x1 == 8 then (q_X12_count_107 x1 w) else (bif x1 == 9 then (q_X12_count_112 x1 w) else (bif x1 == 10 then (q_X12_count_119 x1 w) else (bif x1 == 11 then (q_X12_count_125 x1 w) else (bif x1 == 12 then (q_X12_count_130 x1 w) else (bif x1 == 13 then (q_X12_count_138 x1 w) else (bif x1 == 14 then (q_X12_count_143 x1 w) else (bif x1 == 15 then (q_X12_count_148 x1 w) else (q_X12_count_153 x1 w))))))))))))))))) := (ev_eq _ _ _).trans rfl
theorem e_X12_count_80 (x1 : Int32) (w : XW) : q_X12_count_80 x1 w = (if (x1 + 1) < 0 ∨ 98 ≤ (x1 + 1).toNatClampNeg then none else (some (some (.inl (.int (gI w 50 0 (x1 + 1).toNatClampNeg))), w))) := (ev_eq _ _ _).trans rfl
theorem e_X12_count_89 (x1 : Int32) (w : XW) : q_X12_count_89 x1 w = (some (some (.inl (.int (gI w 11 0 2))), w)) := (ev_eq _ _ _).trans rfl
theorem e_X12_count_94 (x1 : Int32) (w : XW) : q_X12_count_94 x1 w = (some (some (.inl (.int (gI w 11 0 21))), w)) := (ev_eq _ _ _).trans rfl
theorem e_X12_count_99 (x1 : Int32) (w : XW) : q_X12_count_99 x1 w = (some (some (.inl (.int (gI w 50 0 10))), w)) := (ev_eq _ _ _).trans rfl
theorem e_X12_count_107 (x1 : Int32) (w : XW) : q_X12_count_107 x1 w = ((F_X12_fullAll [.inr (11, 0)] w).bind fun r0 => (some (some (.inl (.int r0.1)), r0.2))) := (ev_eq _ _ _).trans rfl
theorem e_X12_count_112 (x1 : Int32) (w : XW) : q_X12_count_112 x1 w = ((F_X12_onesThat [.inr (11, 0), .inl (.int (-2))] w).bind fun r0 => (some (some (.inl (.int r0.1)), r0.2))) := (ev_eq _ _ _).trans rfl
theorem e_X12_count_119 (x1 : Int32) (w : XW) : q_X12_count_119 x1 w = ((F_X12_onesThat [.inr (11, 0), .inl (.int (-1))] w).bind fun r0 => (some (some (.inl (.int r0.1)), r0.2))) := (ev_eq _ _ _).trans rfl
theorem e_X12_count_125 (x1 : Int32) (w : XW) : q_X12_count_125 x1 w = ((F_X12_keptOffAll [.inr (11, 0)] w).bind fun r0 => (some (some (.inl (.int r0.1)), r0.2))) := (ev_eq _ _ _).trans rfl
theorem e_X12_count_130 (x1 : Int32) (w : XW) : q_X12_count_130 x1 w = (some (some (.inl (.int (gI w 50 0 97))), w)) := (ev_eq _ _ _).trans rfl
theorem e_X12_count_138 (x1 : Int32) (w : XW) : q_X12_count_138 x1 w = (some (some (.inl (.int (gI w 11 0 26))), w)) := (ev_eq _ _ _).trans rfl
theorem e_X12_count_143 (x1 : Int32) (w : XW) : q_X12_count_143 x1 w = (some (some (.inl (.int (gI w 11 0 22))), w)) := (ev_eq _ _ _).trans rfl
theorem e_X12_count_148 (x1 : Int32) (w : XW) : q_X12_count_148 x1 w = (some (some (.inl (.int (gI w 11 0 1))), w)) := (ev_eq _ _ _).trans rfl
theorem e_X12_count_153 (x1 : Int32) (w : XW) : q_X12_count_153 x1 w = (some (some (.inl (.int (-1))), w)) := (ev_eq _ _ _).trans rfl
theorem f_X12_count (x1 : Int32) (w : XW) : F_X12_count [.inr (11, 0), .inl (.int x1)] w = (q_X12_count_0 x1 w).bind pI := rfl

-- WinterKeepModel.image(I)I
theorem dX12_image_0 : decode cX12_image 0 = .ok (.iload_n 1, 1) := by decide +kernel
theorem dX12_image_1 : decode cX12_image 1 = .ok (.i2l, 1) := by decide +kernel
theorem dX12_image_2 : decode cX12_image 2 = .ok (.lconst 0, 1) := by decide +kernel
theorem dX12_image_3 : decode cX12_image 3 = .ok (.ldc2_w 475, 3) := by decide +kernel
theorem dX12_image_6 : decode cX12_image 6 = .ok (.invokestatic 133, 3) := by decide +kernel
theorem dX12_image_9 : decode cX12_image 9 = .ok (.ifCond .ne 5, 3) := by decide +kernel
theorem dX12_image_12 : decode cX12_image 12 = .ok (.iconst (-1), 1) := by decide +kernel
theorem dX12_image_13 : decode cX12_image 13 = .ok (.ireturn, 1) := by decide +kernel
theorem dX12_image_14 : decode cX12_image 14 = .ok (.aload_n 0, 1) := by decide +kernel
theorem dX12_image_15 : decode cX12_image 15 = .ok (.getfield 89, 3) := by decide +kernel
theorem dX12_image_18 : decode cX12_image 18 = .ok (.iload_n 1, 1) := by decide +kernel
theorem dX12_image_19 : decode cX12_image 19 = .ok (.iconst 1, 1) := by decide +kernel
theorem dX12_image_20 : decode cX12_image 20 = .ok (.bastore, 1) := by decide +kernel
theorem dX12_image_21 : decode cX12_image 21 = .ok (.aload_n 0, 1) := by decide +kernel
theorem dX12_image_22 : decode cX12_image 22 = .ok (.getfield 83, 3) := by decide +kernel
theorem dX12_image_25 : decode cX12_image 25 = .ok (.iload_n 1, 1) := by decide +kernel
theorem dX12_image_26 : decode cX12_image 26 = .ok (.aload_n 0, 1) := by decide +kernel
theorem dX12_image_27 : decode cX12_image 27 = .ok (.getfield 42, 3) := by decide +kernel
theorem dX12_image_30 : decode cX12_image 30 = .ok (.iastore, 1) := by decide +kernel
theorem dX12_image_31 : decode cX12_image 31 = .ok (.aload_n 0, 1) := by decide +kernel
theorem dX12_image_32 : decode cX12_image 32 = .ok (.getfield 86, 3) := by decide +kernel
theorem dX12_image_35 : decode cX12_image 35 = .ok (.iload_n 1, 1) := by decide +kernel
theorem dX12_image_36 : decode cX12_image 36 = .ok (.aload_n 0, 1) := by decide +kernel
theorem dX12_image_37 : decode cX12_image 37 = .ok (.getfield 452, 3) := by decide +kernel
theorem dX12_image_40 : decode cX12_image 40 = .ok (.iastore, 1) := by decide +kernel
theorem dX12_image_41 : decode cX12_image 41 = .ok (.iconst 0, 1) := by decide +kernel
theorem dX12_image_42 : decode cX12_image 42 = .ok (.istore_n 2, 1) := by decide +kernel
theorem dX12_image_43 : decode cX12_image 43 = .ok (.iload_n 2, 1) := by decide +kernel
theorem dX12_image_44 : decode cX12_image 44 = .ok (.bipush 98, 2) := by decide +kernel
theorem dX12_image_46 : decode cX12_image 46 = .ok (.if_icmp .ge 26, 3) := by decide +kernel
theorem dX12_image_49 : decode cX12_image 49 = .ok (.aload_n 0, 1) := by decide +kernel
theorem dX12_image_50 : decode cX12_image 50 = .ok (.getfield 80, 3) := by decide +kernel
theorem dX12_image_53 : decode cX12_image 53 = .ok (.bipush 98, 2) := by decide +kernel
theorem dX12_image_55 : decode cX12_image 55 = .ok (.iload_n 1, 1) := by decide +kernel
theorem dX12_image_56 : decode cX12_image 56 = .ok (.imul, 1) := by decide +kernel
theorem dX12_image_57 : decode cX12_image 57 = .ok (.iload_n 2, 1) := by decide +kernel
theorem dX12_image_58 : decode cX12_image 58 = .ok (.iadd, 1) := by decide +kernel
theorem dX12_image_59 : decode cX12_image 59 = .ok (.aload_n 0, 1) := by decide +kernel
theorem dX12_image_60 : decode cX12_image 60 = .ok (.getfield 39, 3) := by decide +kernel
theorem dX12_image_63 : decode cX12_image 63 = .ok (.iload_n 2, 1) := by decide +kernel
theorem dX12_image_64 : decode cX12_image 64 = .ok (.iaload, 1) := by decide +kernel
theorem dX12_image_65 : decode cX12_image 65 = .ok (.iastore, 1) := by decide +kernel
theorem dX12_image_66 : decode cX12_image 66 = .ok (.iinc 2 1, 3) := by decide +kernel
theorem dX12_image_69 : decode cX12_image 69 = .ok (.goto (-26), 3) := by decide +kernel
theorem dX12_image_72 : decode cX12_image 72 = .ok (.aload_n 0, 1) := by decide +kernel
theorem dX12_image_73 : decode cX12_image 73 = .ok (.getfield 39, 3) := by decide +kernel
theorem dX12_image_76 : decode cX12_image 76 = .ok (.bipush 10, 2) := by decide +kernel
theorem dX12_image_78 : decode cX12_image 78 = .ok (.iaload, 1) := by decide +kernel
theorem dX12_image_79 : decode cX12_image 79 = .ok (.ireturn, 1) := by decide +kernel
noncomputable def bs_X12_image : List (Nat × XB) := [
  (0, (sq (xLI 1) (sq (xI2L) (sq (xC (.long 0)) (sq (xC (.long 3)) (sq (xCI 99 3 F_X12_in) (tIf1 (fun x => decide (¬ x = 0)) 14 [true, true, false] 12 [false, false, false]))))))),
  (12, (sq (xC (.int (-1))) tRI)),
  (14, (sq (xLA 0) (sq (xGS 11 64 1 0) (sq (xLI 1) (sq (xC (.int 1)) (sq (xTI 64 4 (vp_nar .boolean)) (sq (xLA 0) (sq (xGS 11 62 1 0) (sq (xLI 1) (sq (xLA 0) (sq (xGI 11 21) (sq (xTI 62 4 (fun x => x)) (sq (xLA 0) (sq (xGS 11 63 1 0) (sq (xLI 1) (sq (xLA 0) (sq (xGI 11 22) (sq (xTI 63 4 (fun x => x)) (sq (xC (.int 0)) (sq (xSI 2) (tGo 43 [true, true, true]))))))))))))))))))))),
  (43, (sq (xLI 2) (sq (xC (.int 98)) (tIf2 (fun x y => decide (y ≤ x)) 72 [true, false, false] 49 [true, true, true])))),
  (49, (sq (xLA 0) (sq (xGS 11 61 1 0) (sq (xC (.int 98)) (sq (xLI 1) (sq (xI2 (· * ·)) (sq (xLI 2) (sq (xI2 (· + ·)) (sq (xLA 0) (sq (xGS 11 50 1 0) (sq (xLI 2) (sq (xAI 50 98) (sq (xTI 61 392 (fun x => x)) (sq (xInc 2 1) (tGo 43 [true, true, true]))))))))))))))),
  (72, (sq (xLA 0) (sq (xGS 11 50 1 0) (sq (xC (.int 10)) (sq (xAI 50 98) tRI)))))]
set_option maxRecDepth 100000 in
set_option maxHeartbeats 4000000 in
theorem s_X12_image : ∀ X : XCtx, XE X → X.2.2.1.1 = cX12_image → X.2.2.1.2.1 = 3 → X.2.2.1.2.2.1 = yX12_image.cls → X.2.2.1.2.2.2.1 = (some .int) → X.1.2.2.2.1 = { frames := 1, cells := 0, slots := 0, locals := 25 } → SndBs X bs_X12_image := by
  rintro ⟨⟨p, l, e, R, s⟩, Y, ⟨cc, nL, own, ret, Ts⟩, Z⟩ hE h1 h2 h3 h4 h5
  dsimp only at h1 h2 h3 h4 h5
  subst h1 h2 h3 h4 h5
  exact ⟨(n_sq (n_iload_n hE dX12_image_0) (n_sq (n_i2l hE dX12_image_1) (n_sq (n_lconst hE (by decide) dX12_image_2) (n_sq (n_ldc2 hE wt_1589 dX12_image_3) (n_sq (n_cIs hE m_X12_in vc_X12_133 (show 0 + 1 ≤ 1 ∧ 8 + (6 + 11) + 0 ≤ 25 by decide) dX12_image_6) (n_ifne hE (by decide) dX12_image_9)))))),
    (n_sq (n_iconst hE (by decide) dX12_image_12) (n_ireturn hE rfl dX12_image_13)),
    (n_sq (n_aload_n hE dX12_image_14) (n_sq (n_getS hE xk_11 (k := 42) rfl (by decide) rfl wt_1002 dX12_image_15) (n_sq (n_iload_n hE dX12_image_18) (n_sq (n_iconst hE (by decide) dX12_image_19) (n_sq (n_zast hE rfl (by decide) dX12_image_20) (n_sq (n_aload_n hE dX12_image_21) (n_sq (n_getS hE xk_11 (k := 40) rfl (by decide) rfl wt_1000 dX12_image_22) (n_sq (n_iload_n hE dX12_image_25) (n_sq (n_aload_n hE dX12_image_26) (n_sq (n_getI hE xk_11 (k := 21) rfl (by decide) rfl wt_981 dX12_image_27) (n_sq (n_iast hE rfl (by decide) dX12_image_30) (n_sq (n_aload_n hE dX12_image_31) (n_sq (n_getS hE xk_11 (k := 41) rfl (by decide) rfl wt_1001 dX12_image_32) (n_sq (n_iload_n hE dX12_image_35) (n_sq (n_aload_n hE dX12_image_36) (n_sq (n_getI hE xk_11 (k := 22) rfl (by decide) rfl wt_982 dX12_image_37) (n_sq (n_iast hE rfl (by decide) dX12_image_40) (n_sq (n_iconst hE (by decide) dX12_image_41) (n_sq (n_istore_n hE (show (2 : Nat) < 3 by decide) dX12_image_42) n_fall))))))))))))))))))),
    (n_sq (n_iload_n hE dX12_image_43) (n_sq (n_bipush hE (by decide) dX12_image_44) (n_ifcge hE (by decide) dX12_image_46))),
    (n_sq (n_aload_n hE dX12_image_49) (n_sq (n_getS hE xk_11 (k := 39) rfl (by decide) rfl wt_999 dX12_image_50) (n_sq (n_bipush hE (by decide) dX12_image_53) (n_sq (n_iload_n hE dX12_image_55) (n_sq (n_imul hE dX12_image_56) (n_sq (n_iload_n hE dX12_image_57) (n_sq (n_iadd hE dX12_image_58) (n_sq (n_aload_n hE dX12_image_59) (n_sq (n_getS hE xk_11 (k := 20) rfl (by decide) rfl wt_980 dX12_image_60) (n_sq (n_iload_n hE dX12_image_63) (n_sq (n_iald hE rfl (by decide) dX12_image_64) (n_sq (n_iast hE rfl (by decide) dX12_image_65) (n_sq (n_iinc hE (by decide) (show (2 : Nat) < 3 by decide) dX12_image_66) (n_goto hE (by decide) dX12_image_69)))))))))))))),
    (n_sq (n_aload_n hE dX12_image_72) (n_sq (n_getS hE xk_11 (k := 20) rfl (by decide) rfl wt_980 dX12_image_73) (n_sq (n_bipush hE (by decide) dX12_image_76) (n_sq (n_iald hE rfl (by decide) dX12_image_78) (n_ireturn hE rfl dX12_image_79))))), trivial⟩
noncomputable def F_X12_image (as : List XV) (w : XW) : Option (Int32 × XW) := (xF 3 bs_X12_image as w).bind pI
theorem m_X12_image : XM yX12_image cX12_image 3 (some .int) 1 25 (eI F_X12_image) := xm_I (xm_of (by decide) s_X12_image)
noncomputable def q_X12_image_0 (x1 : Int32) (w : XW) : Option XR := ev bs_X12_image 0 ([some (.inr (11, 0)), some (.inl (.int x1)), none], [], w)
noncomputable def q_X12_image_12 (w : XW) : Option XR := ev bs_X12_image 12 ([none, none, none], [], w)
noncomputable def q_X12_image_14 (x1 : Int32) (w : XW) : Option XR := ev bs_X12_image 14 ([some (.inr (11, 0)), some (.inl (.int x1)), none], [], w)
noncomputable def q_X12_image_43 (x1 : Int32) (x2 : Int32) (w : XW) : Option XR := ev bs_X12_image 43 ([some (.inr (11, 0)), some (.inl (.int x1)), some (.inl (.int x2))], [], w)
noncomputable def q_X12_image_49 (x1 : Int32) (x2 : Int32) (w : XW) : Option XR := ev bs_X12_image 49 ([some (.inr (11, 0)), some (.inl (.int x1)), some (.inl (.int x2))], [], w)
noncomputable def q_X12_image_72 (w : XW) : Option XR := ev bs_X12_image 72 ([some (.inr (11, 0)), none, none], [], w)
set_option maxRecDepth 100000 in
theorem e_X12_image_0 (x1 : Int32) (w : XW) : q_X12_image_0 x1 w = ((F_X12_in [.inl (.long (x1 : Int32).toInt64), .inl (.long 0), .inl (.long 3)] w).bind fun r0 => (bif decide (¬ r0.1 = 0) then (q_X12_image_14 x1 r0.2) else (q_X12_image_12 r0.2))) := (ev_eq _ _ _).trans rfl
set_option maxRecDepth 100000 in
theorem e_X12_image_12 (w : XW) : q_X12_image_12 w = (some (some (.inl (.int (-1))), w)) := (ev_eq _ _ _).trans rfl
set_option maxRecDepth 100000 in
theorem e_X12_image_14 (x1 : Int32) (w : XW) : q_X12_image_14 x1 w = (if x1 < 0 ∨ 4 ≤ x1.toNatClampNeg then none else (if x1 < 0 ∨ 4 ≤ x1.toNatClampNeg then none else (if x1 < 0 ∨ 4 ≤ x1.toNatClampNeg then none else (q_X12_image_43 x1 0 (sI (sI (sI w 64 0 x1.toNatClampNeg (vp_nar .boolean 1)) 62 0 x1.toNatClampNeg (gI (sI w 64 0 x1.toNatClampNeg (vp_nar .boolean 1)) 11 0 21)) 63 0 x1.toNatClampNeg (gI (sI (sI w 64 0 x1.toNatClampNeg (vp_nar .boolean 1)) 62 0 x1.toNatClampNeg (gI (sI w 64 0 x1.toNatClampNeg (vp_nar .boolean 1)) 11 0 21)) 11 0 22)))))) := (ev_eq _ _ _).trans rfl
set_option maxRecDepth 100000 in
theorem e_X12_image_43 (x1 : Int32) (x2 : Int32) (w : XW) : q_X12_image_43 x1 x2 w = (bif decide (98 ≤ x2) then (q_X12_image_72 w) else (q_X12_image_49 x1 x2 w)) := (ev_eq _ _ _).trans rfl
set_option maxRecDepth 100000 in
theorem e_X12_image_49 (x1 : Int32) (x2 : Int32) (w : XW) : q_X12_image_49 x1 x2 w = (if x2 < 0 ∨ 98 ≤ x2.toNatClampNeg then none else (if ((98 * x1) + x2) < 0 ∨ 392 ≤ ((98 * x1) + x2).toNatClampNeg then none else (q_X12_image_43 x1 (x2 + 1) (sI w 61 0 (((98 * x1) + x2).toNatClampNeg) (gI w 50 0 x2.toNatClampNeg))))) := (ev_eq _ _ _).trans rfl
set_option maxRecDepth 100000 in
theorem e_X12_image_72 (w : XW) : q_X12_image_72 w = (some (some (.inl (.int (gI w 50 0 10))), w)) := (ev_eq _ _ _).trans rfl
theorem f_X12_image (x1 : Int32) (w : XW) : F_X12_image [.inr (11, 0), .inl (.int x1)] w = (q_X12_image_0 x1 w).bind pI := rfl
