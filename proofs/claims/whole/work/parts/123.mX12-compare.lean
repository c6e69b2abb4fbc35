-- WinterKeepModel.compare()Z
theorem dX12_compare_0 : decode cX12_compare 0 = .ok (.aload_n 0, 1) := by decide +kernel
theorem dX12_compare_1 : decode cX12_compare 1 = .ok (.invokevirtual 196, 3) := by decide +kernel
theorem dX12_compare_4 : decode cX12_compare 4 = .ok (.ifCond .ne 5, 3) := by decide +kernel
theorem dX12_compare_7 : decode cX12_compare 7 = .ok (.iconst 0, 1) := by decide +kernel
theorem dX12_compare_8 : decode cX12_compare 8 = .ok (.ireturn, 1) := by decide +kernel
theorem dX12_compare_9 : decode cX12_compare 9 = .ok (.aload_n 0, 1) := by decide +kernel
theorem dX12_compare_10 : decode cX12_compare 10 = .ok (.invokevirtual 109, 3) := by decide +kernel
theorem dX12_compare_13 : decode cX12_compare 13 = .ok (.istore_n 1, 1) := by decide +kernel
theorem dX12_compare_14 : decode cX12_compare 14 = .ok (.aload_n 0, 1) := by decide +kernel
theorem dX12_compare_15 : decode cX12_compare 15 = .ok (.getfield 106, 3) := by decide +kernel
theorem dX12_compare_18 : decode cX12_compare 18 = .ok (.istore_n 2, 1) := by decide +kernel
theorem dX12_compare_19 : decode cX12_compare 19 = .ok (.iload_n 1, 1) := by decide +kernel
theorem dX12_compare_20 : decode cX12_compare 20 = .ok (.bipush 60, 2) := by decide +kernel
theorem dX12_compare_22 : decode cX12_compare 22 = .ok (.if_icmp .eq 22, 3) := by decide +kernel
theorem dX12_compare_25 : decode cX12_compare 25 = .ok (.iload_n 1, 1) := by decide +kernel
theorem dX12_compare_26 : decode cX12_compare 26 = .ok (.bipush 61, 2) := by decide +kernel
theorem dX12_compare_28 : decode cX12_compare 28 = .ok (.if_icmp .eq 16, 3) := by decide +kernel
theorem dX12_compare_31 : decode cX12_compare 31 = .ok (.iload_n 1, 1) := by decide +kernel
theorem dX12_compare_32 : decode cX12_compare 32 = .ok (.bipush 62, 2) := by decide +kernel
theorem dX12_compare_34 : decode cX12_compare 34 = .ok (.if_icmp .eq 10, 3) := by decide +kernel
theorem dX12_compare_37 : decode cX12_compare 37 = .ok (.aload_n 0, 1) := by decide +kernel
theorem dX12_compare_38 : decode cX12_compare 38 = .ok (.iconst 0, 1) := by decide +kernel
theorem dX12_compare_39 : decode cX12_compare 39 = .ok (.iload_n 2, 1) := by decide +kernel
theorem dX12_compare_40 : decode cX12_compare 40 = .ok (.invokevirtual 127, 3) := by decide +kernel
theorem dX12_compare_43 : decode cX12_compare 43 = .ok (.ireturn, 1) := by decide +kernel
theorem dX12_compare_44 : decode cX12_compare 44 = .ok (.aload_n 0, 1) := by decide +kernel
theorem dX12_compare_45 : decode cX12_compare 45 = .ok (.dup, 1) := by decide +kernel
theorem dX12_compare_46 : decode cX12_compare 46 = .ok (.getfield 106, 3) := by decide +kernel
theorem dX12_compare_49 : decode cX12_compare 49 = .ok (.iconst 1, 1) := by decide +kernel
theorem dX12_compare_50 : decode cX12_compare 50 = .ok (.iadd, 1) := by decide +kernel
theorem dX12_compare_51 : decode cX12_compare 51 = .ok (.putfield 106, 3) := by decide +kernel
theorem dX12_compare_54 : decode cX12_compare 54 = .ok (.iload_n 1, 1) := by decide +kernel
theorem dX12_compare_55 : decode cX12_compare 55 = .ok (.bipush 61, 2) := by decide +kernel
theorem dX12_compare_57 : decode cX12_compare 57 = .ok (.if_icmp .eq 32, 3) := by decide +kernel
theorem dX12_compare_60 : decode cX12_compare 60 = .ok (.aload_n 0, 1) := by decide +kernel
theorem dX12_compare_61 : decode cX12_compare 61 = .ok (.getfield 106, 3) := by decide +kernel
theorem dX12_compare_64 : decode cX12_compare 64 = .ok (.aload_n 0, 1) := by decide +kernel
theorem dX12_compare_65 : decode cX12_compare 65 = .ok (.getfield 96, 3) := by decide +kernel
theorem dX12_compare_68 : decode cX12_compare 68 = .ok (.if_icmp .ge 21, 3) := by decide +kernel
theorem dX12_compare_71 : decode cX12_compare 71 = .ok (.aload_n 0, 1) := by decide +kernel
theorem dX12_compare_72 : decode cX12_compare 72 = .ok (.getfield 7, 3) := by decide +kernel
theorem dX12_compare_75 : decode cX12_compare 75 = .ok (.aload_n 0, 1) := by decide +kernel
theorem dX12_compare_76 : decode cX12_compare 76 = .ok (.getfield 106, 3) := by decide +kernel
theorem dX12_compare_79 : decode cX12_compare 79 = .ok (.baload, 1) := by decide +kernel
theorem dX12_compare_80 : decode cX12_compare 80 = .ok (.bipush 61, 2) := by decide +kernel
theorem dX12_compare_82 : decode cX12_compare 82 = .ok (.if_icmp .ne 7, 3) := by decide +kernel
theorem dX12_compare_85 : decode cX12_compare 85 = .ok (.iconst 1, 1) := by decide +kernel
theorem dX12_compare_86 : decode cX12_compare 86 = .ok (.goto 4, 3) := by decide +kernel
theorem dX12_compare_89 : decode cX12_compare 89 = .ok (.iconst 0, 1) := by decide +kernel
theorem dX12_compare_90 : decode cX12_compare 90 = .ok (.istore_n 3, 1) := by decide +kernel
theorem dX12_compare_91 : decode cX12_compare 91 = .ok (.iload_n 3, 1) := by decide +kernel
theorem dX12_compare_92 : decode cX12_compare 92 = .ok (.ifCond .eq 13, 3) := by decide +kernel
theorem dX12_compare_95 : decode cX12_compare 95 = .ok (.aload_n 0, 1) := by decide +kernel
theorem dX12_compare_96 : decode cX12_compare 96 = .ok (.dup, 1) := by decide +kernel
theorem dX12_compare_97 : decode cX12_compare 97 = .ok (.getfield 106, 3) := by decide +kernel
theorem dX12_compare_100 : decode cX12_compare 100 = .ok (.iconst 1, 1) := by decide +kernel
theorem dX12_compare_101 : decode cX12_compare 101 = .ok (.iadd, 1) := by decide +kernel
theorem dX12_compare_102 : decode cX12_compare 102 = .ok (.putfield 106, 3) := by decide +kernel
theorem dX12_compare_105 : decode cX12_compare 105 = .ok (.aload_n 0, 1) := by decide +kernel
theorem dX12_compare_106 : decode cX12_compare 106 = .ok (.iload_n 2, 1) := by decide +kernel
theorem dX12_compare_107 : decode cX12_compare 107 = .ok (.invokevirtual 183, 3) := by decide +kernel
theorem dX12_compare_110 : decode cX12_compare 110 = .ok (.ifCond .ne 5, 3) := by decide +kernel
theorem dX12_compare_113 : decode cX12_compare 113 = .ok (.iconst 0, 1) := by decide +kernel
theorem dX12_compare_114 : decode cX12_compare 114 = .ok (.ireturn, 1) := by decide +kernel
theorem dX12_compare_115 : decode cX12_compare 115 = .ok (.iload_n 1, 1) := by decide +kernel
theorem dX12_compare_116 : decode cX12_compare 116 = .ok (.bipush 60, 2) := by decide +kernel
theorem dX12_compare_118 : decode cX12_compare 118 = .ok (.if_icmp .ne 15, 3) := by decide +kernel
theorem dX12_compare_121 : decode cX12_compare 121 = .ok (.iload_n 3, 1) := by decide +kernel
theorem dX12_compare_122 : decode cX12_compare 122 = .ok (.ifCond .eq 7, 3) := by decide +kernel
theorem dX12_compare_125 : decode cX12_compare 125 = .ok (.iconst 1, 1) := by decide +kernel
theorem dX12_compare_126 : decode cX12_compare 126 = .ok (.goto 26, 3) := by decide +kernel
theorem dX12_compare_129 : decode cX12_compare 129 = .ok (.iconst 0, 1) := by decide +kernel
theorem dX12_compare_130 : decode cX12_compare 130 = .ok (.goto 22, 3) := by decide +kernel
theorem dX12_compare_133 : decode cX12_compare 133 = .ok (.iload_n 1, 1) := by decide +kernel
theorem dX12_compare_134 : decode cX12_compare 134 = .ok (.bipush 61, 2) := by decide +kernel
theorem dX12_compare_136 : decode cX12_compare 136 = .ok (.if_icmp .ne 7, 3) := by decide +kernel
theorem dX12_compare_139 : decode cX12_compare 139 = .ok (.iconst 2, 1) := by decide +kernel
theorem dX12_compare_140 : decode cX12_compare 140 = .ok (.goto 12, 3) := by decide +kernel
theorem dX12_compare_143 : decode cX12_compare 143 = .ok (.iload_n 3, 1) := by decide +kernel
theorem dX12_compare_144 : decode cX12_compare 144 = .ok (.ifCond .eq 7, 3) := by decide +kernel
theorem dX12_compare_147 : decode cX12_compare 147 = .ok (.iconst 3, 1) := by decide +kernel
theorem dX12_compare_148 : decode cX12_compare 148 = .ok (.goto 4, 3) := by decide +kernel
theorem dX12_compare_151 : decode cX12_compare 151 = .ok (.iconst 4, 1) := by decide +kernel
theorem dX12_compare_152 : decode cX12_compare 152 = .ok (.istore 4, 2) := by decide +kernel
theorem dX12_compare_154 : decode cX12_compare 154 = .ok (.aload_n 0, 1) := by decide +kernel
theorem dX12_compare_155 : decode cX12_compare 155 = .ok (.invokevirtual 196, 3) := by decide +kernel
theorem dX12_compare_158 : decode cX12_compare 158 = .ok (.ifCond .ne 5, 3) := by decide +kernel
theorem dX12_compare_161 : decode cX12_compare 161 = .ok (.iconst 0, 1) := by decide +kernel
theorem dX12_compare_162 : decode cX12_compare 162 = .ok (.ireturn, 1) := by decide +kernel
theorem dX12_compare_163 : decode cX12_compare 163 = .ok (.aload_n 0, 1) := by decide +kernel
theorem dX12_compare_164 : decode cX12_compare 164 = .ok (.bipush 6, 2) := by decide +kernel
theorem dX12_compare_166 : decode cX12_compare 166 = .ok (.iload 4, 2) := by decide +kernel
theorem dX12_compare_168 : decode cX12_compare 168 = .ok (.iadd, 1) := by decide +kernel
theorem dX12_compare_169 : decode cX12_compare 169 = .ok (.iconst 0, 1) := by decide +kernel
theorem dX12_compare_170 : decode cX12_compare 170 = .ok (.invokevirtual 175, 3) := by decide +kernel
theorem dX12_compare_173 : decode cX12_compare 173 = .ok (.iconst 1, 1) := by decide +kernel
theorem dX12_compare_174 : decode cX12_compare 174 = .ok (.ireturn, 1) := by decide +kernel
theorem vc_X12_196 : XVw RX12 196 0 11 2 yX12_sum cX12_sum (some .boolean) := ⟨RX12, TX12, tyX12, 43, xk_11, rfl, ⟨by decide, by decide⟩, by decide +kernel, wt_1188, wt_1190, ws_57, wt_11, wt_1191⟩
noncomputable def bs_X12_compare : List (Nat × XB) := [
  (0, (sq (xLA 0) (sq (xCI 11 1 F_X12_sum) (tIf1 (fun x => decide (¬ x = 0)) 9 [true, false, false, false, false] 7 [false, false, false, false, false])))),
  (7, (sq (xC (.int 0)) tRZ)),
  (9, (sq (xLA 0) (sq (xCI 11 1 F_X12_see) (sq (xSI 1) (sq (xLA 0) (sq (xGI 11 8) (sq (xSI 2) (sq (xLI 1) (sq (xC (.int 60)) (tIf2 (fun x y => decide (x = y)) 44 [true, true, true, false, false] 25 [true, true, true, false, false])))))))))),
  (25, (sq (xLI 1) (sq (xC (.int 61)) (tIf2 (fun x y => decide (x = y)) 44 [true, true, true, false, false] 31 [true, true, true, false, false])))),
  (31, (sq (xLI 1) (sq (xC (.int 62)) (tIf2 (fun x y => decide (x = y)) 44 [true, true, true, false, false] 37 [true, false, true, false, false])))),
  (37, (sq (xLA 0) (sq (xC (.int 0)) (sq (xLI 2) (sq (xCI 11 3 F_X12_fails) tRZ))))),
  (44, (sq (xLA 0) (sq (xDup) (sq (xGI 11 8) (sq (xC (.int 1)) (sq (xI2 (· + ·)) (sq (xPI 11 8) (sq (xLI 1) (sq (xC (.int 61)) (tIf2 (fun x y => decide (x = y)) 89 [true, true, true, false, false] 60 [true, true, true, false, false])))))))))),
  (60, (sq (xLA 0) (sq (xGI 11 8) (sq (xLA 0) (sq (xGI 11 1) (tIf2 (fun x y => decide (y ≤ x)) 89 [true, true, true, false, false] 71 [true, true, true, false, false])))))),
  (71, (sq (xLA 0) (sq (xGS 11 41 1 0) (sq (xLA 0) (sq (xGI 11 8) (sq (xAI 41 400) (sq (xC (.int 61)) (tIf2 (fun x y => decide (¬ x = y)) 89 [true, true, true, false, false] 85 [true, true, true, false, false])))))))),
  (85, (sq (xC (.int 1)) (tGo 90 [true, true, true, false, false]))),
  (89, (sq (xC (.int 0)) (tGo 90 [true, true, true, false, false]))),
  (90, (sq (xSI 3) (sq (xLI 3) (tIf1 (fun x => decide (x = 0)) 105 [true, true, true, true, false] 95 [true, true, true, true, false])))),
  (95, (sq (xLA 0) (sq (xDup) (sq (xGI 11 8) (sq (xC (.int 1)) (sq (xI2 (· + ·)) (sq (xPI 11 8) (tGo 105 [true, true, true, true, false])))))))),
  (105, (sq (xLA 0) (sq (xLI 2) (sq (xCI 11 2 F_X12_makes) (tIf1 (fun x => decide (¬ x = 0)) 115 [true, true, false, true, false] 113 [false, false, false, false, false]))))),
  (113, (sq (xC (.int 0)) tRZ)),
  (115, (sq (xLI 1) (sq (xC (.int 60)) (tIf2 (fun x y => decide (¬ x = y)) 133 [true, true, false, true, false] 121 [true, false, false, true, false])))),
  (121, (sq (xLI 3) (tIf1 (fun x => decide (x = 0)) 129 [true, false, false, false, false] 125 [true, false, false, false, false]))),
  (125, (sq (xC (.int 1)) (tGo 152 [true, false, false, false, false]))),
  (129, (sq (xC (.int 0)) (tGo 152 [true, false, false, false, false]))),
  (133, (sq (xLI 1) (sq (xC (.int 61)) (tIf2 (fun x y => decide (¬ x = y)) 143 [true, false, false, true, false] 139 [true, false, false, false, false])))),
  (139, (sq (xC (.int 2)) (tGo 152 [true, false, false, false, false]))),
  (143, (sq (xLI 3) (tIf1 (fun x => decide (x = 0)) 151 [true, false, false, false, false] 147 [true, false, false, false, false]))),
  (147, (sq (xC (.int 3)) (tGo 152 [true, false, false, false, false]))),
  (151, (sq (xC (.int 4)) (tGo 152 [true, false, false, false, false]))),
  (152, (sq (xSI 4) (sq (xLA 0) (sq (xCI 11 1 F_X12_sum) (tIf1 (fun x => decide (¬ x = 0)) 163 [true, false, false, false, true] 161 [false, false, false, false, false]))))),
  (161, (sq (xC (.int 0)) tRZ)),
  (163, (sq (xLA 0) (sq (xC (.int 6)) (sq (xLI 4) (sq (xI2 (· + ·)) (sq (xC (.int 0)) (sq (xCV 11 3 F_X12_puts) (sq (xC (.int 1)) tRZ))))))))]
set_option maxRecDepth 100000 in
set_option maxHeartbeats 4000000 in
theorem s_X12_compare : ∀ X : XCtx, XE X → X.2.2.1.1 = cX12_compare → X.2.2.1.2.1 = 5 → X.2.2.1.2.2.1 = yX12_compare.cls → X.2.2.1.2.2.2.1 = (some .boolean) → X.1.2.2.2.1 = { frames := 6, cells := 0, slots := 0, locals := 130 } → SndBs X bs_X12_compare := by
  rintro ⟨⟨p, l, e, R, s⟩, Y, ⟨cc, nL, own, ret, Ts⟩, Z⟩ hE h1 h2 h3 h4 h5
  dsimp only at h1 h2 h3 h4 h5
  subst h1 h2 h3 h4 h5
  exact ⟨(n_sq (n_aload_n hE dX12_compare_0) (n_sq (n_cIv hE m_X12_sum vc_X12_196 (show 5 + 1 ≤ 6 ∧ 8 + (2 + 11) + 109 ≤ 130 by decide) dX12_compare_1) (n_ifne hE (by decide) dX12_compare_4))),
    (n_sq (n_iconst hE (by decide) dX12_compare_7) (n_zreturn hE rfl dX12_compare_8)),
    (n_sq (n_aload_n hE dX12_compare_9) (n_sq (n_cIv hE m_X12_see vc_X12_109 (show 0 + 1 ≤ 6 ∧ 8 + (1 + 11) + 0 ≤ 130 by decide) dX12_compare_10) (n_sq (n_istore_n hE (show (1 : Nat) < 5 by decide) dX12_compare_13) (n_sq (n_aload_n hE dX12_compare_14) (n_sq (n_getI hE xk_11 (k := 8) rfl (by decide) rfl wt_968 dX12_compare_15) (n_sq (n_istore_n hE (show (2 : Nat) < 5 by decide) dX12_compare_18) (n_sq (n_iload_n hE dX12_compare_19) (n_sq (n_bipush hE (by decide) dX12_compare_20) (n_ifceq hE (by decide) dX12_compare_22))))))))),
    (n_sq (n_iload_n hE dX12_compare_25) (n_sq (n_bipush hE (by decide) dX12_compare_26) (n_ifceq hE (by decide) dX12_compare_28))),
    (n_sq (n_iload_n hE dX12_compare_31) (n_sq (n_bipush hE (by decide) dX12_compare_32) (n_ifceq hE (by decide) dX12_compare_34))),
    (n_sq (n_aload_n hE dX12_compare_37) (n_sq (n_iconst hE (by decide) dX12_compare_38) (n_sq (n_iload_n hE dX12_compare_39) (n_sq (n_cIv hE m_X12_fails vc_X12_127 (show 0 + 1 ≤ 6 ∧ 8 + (3 + 11) + 0 ≤ 130 by decide) dX12_compare_40) (n_zreturn hE rfl dX12_compare_43))))),
    (n_sq (n_aload_n hE dX12_compare_44) (n_sq (n_dup hE dX12_compare_45) (n_sq (n_getI hE xk_11 (k := 8) rfl (by decide) rfl wt_968 dX12_compare_46) (n_sq (n_iconst hE (by decide) dX12_compare_49) (n_sq (n_iadd hE dX12_compare_50) (n_sq (n_putI hE xk_11 (k := 8) rfl (by decide) rfl rfl (tyX12_ok 8 (by decide)) wt_968 dX12_compare_51) (n_sq (n_iload_n hE dX12_compare_54) (n_sq (n_bipush hE (by decide) dX12_compare_55) (n_ifceq hE (by decide) dX12_compare_57))))))))),
    (n_sq (n_aload_n hE dX12_compare_60) (n_sq (n_getI hE xk_11 (k := 8) rfl (by decide) rfl wt_968 dX12_compare_61) (n_sq (n_aload_n hE dX12_compare_64) (n_sq (n_getI hE xk_11 (k := 1) rfl (by decide) rfl wt_961 dX12_compare_65) (n_ifcge hE (by decide) dX12_compare_68))))),
    (n_sq (n_aload_n hE dX12_compare_71) (n_sq (n_getS hE xk_11 (k := 0) rfl (by decide) rfl wt_960 dX12_compare_72) (n_sq (n_aload_n hE dX12_compare_75) (n_sq (n_getI hE xk_11 (k := 8) rfl (by decide) rfl wt_968 dX12_compare_76) (n_sq (n_bald hE rfl (by decide) dX12_compare_79) (n_sq (n_bipush hE (by decide) dX12_compare_80) (n_ifcne hE (by decide) dX12_compare_82))))))),
    (n_sq (n_iconst hE (by decide) dX12_compare_85) (n_goto hE (by decide) dX12_compare_86)),
    (n_sq (n_iconst hE (by decide) dX12_compare_89) n_fall),
    (n_sq (n_istore_n hE (show (3 : Nat) < 5 by decide) dX12_compare_90) (n_sq (n_iload_n hE dX12_compare_91) (n_ifeq hE (by decide) dX12_compare_92))),
    (n_sq (n_aload_n hE dX12_compare_95) (n_sq (n_dup hE dX12_compare_96) (n_sq (n_getI hE xk_11 (k := 8) rfl (by decide) rfl wt_968 dX12_compare_97) (n_sq (n_iconst hE (by decide) dX12_compare_100) (n_sq (n_iadd hE dX12_compare_101) (n_sq (n_putI hE xk_11 (k := 8) rfl (by decide) rfl rfl (tyX12_ok 8 (by decide)) wt_968 dX12_compare_102) n_fall)))))),
    (n_sq (n_aload_n hE dX12_compare_105) (n_sq (n_iload_n hE dX12_compare_106) (n_sq (n_cIv hE m_X12_makes vc_X12_183 (show 1 + 1 ≤ 6 ∧ 8 + (2 + 11) + 22 ≤ 130 by decide) dX12_compare_107) (n_ifne hE (by decide) dX12_compare_110)))),
    (n_sq (n_iconst hE (by decide) dX12_compare_113) (n_zreturn hE rfl dX12_compare_114)),
    (n_sq (n_iload_n hE dX12_compare_115) (n_sq (n_bipush hE (by decide) dX12_compare_116) (n_ifcne hE (by decide) dX12_compare_118))),
    (n_sq (n_iload_n hE dX12_compare_121) (n_ifeq hE (by decide) dX12_compare_122)),
    (n_sq (n_iconst hE (by decide) dX12_compare_125) (n_goto hE (by decide) dX12_compare_126)),
    (n_sq (n_iconst hE (by decide) dX12_compare_129) (n_goto hE (by decide) dX12_compare_130)),
    (n_sq (n_iload_n hE dX12_compare_133) (n_sq (n_bipush hE (by decide) dX12_compare_134) (n_ifcne hE (by decide) dX12_compare_136))),
    (n_sq (n_iconst hE (by decide) dX12_compare_139) (n_goto hE (by decide) dX12_compare_140)),
    (n_sq (n_iload_n hE dX12_compare_143) (n_ifeq hE (by decide) dX12_compare_144)),
    (n_sq (n_iconst hE (by decide) dX12_compare_147) (n_goto hE (by decide) dX12_compare_148)),
    (n_sq (n_iconst hE (by decide) dX12_compare_151) n_fall),
    (n_sq (n_istore hE (show (4 : Nat) < 5 by decide) dX12_compare_152) (n_sq (n_aload_n hE dX12_compare_154) (n_sq (n_cIv hE m_X12_sum vc_X12_196 (show 5 + 1 ≤ 6 ∧ 8 + (2 + 11) + 109 ≤ 130 by decide) dX12_compare_155) (n_ifne hE (by decide) dX12_compare_158)))),
    (n_sq (n_iconst hE (by decide) dX12_compare_161) (n_zreturn hE rfl dX12_compare_162)),
    (n_sq (n_aload_n hE dX12_compare_163) (n_sq (n_bipush hE (by decide) dX12_compare_164) (n_sq (n_iload hE dX12_compare_166) (n_sq (n_iadd hE dX12_compare_168) (n_sq (n_iconst hE (by decide) dX12_compare_169) (n_sq (n_cVv hE m_X12_puts vc_X12_175 (show 0 + 1 ≤ 6 ∧ 8 + (3 + 11) + 0 ≤ 130 by decide) dX12_compare_170) (n_sq (n_iconst hE (by decide) dX12_compare_173) (n_zreturn hE rfl dX12_compare_174)))))))), trivial⟩
noncomputable def F_X12_compare (as : List XV) (w : XW) : Option (Int32 × XW) := (xF 5 bs_X12_compare as w).bind pI
theorem m_X12_compare : XM yX12_compare cX12_compare 5 (some .boolean) 6 130 (eI F_X12_compare) := xm_I (xm_of (by decide) s_X12_compare)
noncomputable def q_X12_compare_0 (w : XW) : Option XR := ev bs_X12_compare 0 ([some (.inr (11, 0)), none, none, none, none], [], w)
noncomputable def q_X12_compare_7 (w : XW) : Option XR := ev bs_X12_compare 7 ([none, none, none, none, none], [], w)
noncomputable def q_X12_compare_9 (w : XW) : Option XR := ev bs_X12_compare 9 ([some (.inr (11, 0)), none, none, none, none], [], w)
noncomputable def q_X12_compare_25 (x1 : Int32) (x2 : Int32) (w : XW) : Option XR := ev bs_X12_compare 25 ([some (.inr (11, 0)), some (.inl (.int x1)), some (.inl (.int x2)), none, none], [], w)
noncomputable def q_X12_compare_31 (x1 : Int32) (x2 : Int32) (w : XW) : Option XR := ev bs_X12_compare 31 ([some (.inr (11, 0)), some (.inl (.int x1)), some (.inl (.int x2)), none, none], [], w)
noncomputable def q_X12_compare_37 (x2 : Int32) (w : XW) : Option XR := ev bs_X12_compare 37 ([some (.inr (11, 0)), none, some (.inl (.int x2)), none, none], [], w)
noncomputable def q_X12_compare_44 (x1 : Int32) (x2 : Int32) (w : XW) : Option XR := ev bs_X12_compare 44 ([some (.inr (11, 0)), some (.inl (.int x1)), some (.inl (.int x2)), none, none], [], w)
noncomputable def q_X12_compare_60 (x1 : Int32) (x2 : Int32) (w : XW) : Option XR := ev bs_X12_compare 60 ([some (.inr (11, 0)), some (.inl (.int x1)), some (.inl (.int x2)), none, none], [], w)
noncomputable def q_X12_compare_71 (x1 : Int32) (x2 : Int32) (w : XW) : Option XR := ev bs_X12_compare 71 ([some (.inr (11, 0)), some (.inl (.int x1)), some (.inl (.int x2)), none, none], [], w)
noncomputable def q_X12_compare_85 (x1 : Int32) (x2 : Int32) (w : XW) : Option XR := ev bs_X12_compare 85 ([some (.inr (11, 0)), some (.inl (.int x1)), some (.inl (.int x2)), none, none], [], w)
noncomputable def q_X12_compare_89 (x1 : Int32) (x2 : Int32) (w : XW) : Option XR := ev bs_X12_compare 89 ([some (.inr (11, 0)), some (.inl (.int x1)), some (.inl (.int x2)), none, none], [], w)
noncomputable def q_X12_compare_90 (x1 : Int32) (x2 : Int32) (s0 : Int32) (w : XW) : Option XR := ev bs_X12_compare 90 ([some (.inr (11, 0)), some (.inl (.int x1)), some (.inl (.int x2)), none, none], [.inl (.int s0)], w)
noncomputable def q_X12_compare_95 (x1 : Int32) (x2 : Int32) (x3 : Int32) (w : XW) : Option XR := ev bs_X12_compare 95 ([some (.inr (11, 0)), some (.inl (.int x1)), some (.inl (.int x2)), some (.inl (.int x3)), none], [], w)
noncomputable def q_X12_compare_105 (x1 : Int32) (x2 : Int32) (x3 : Int32) (w : XW) : Option XR := ev bs_X12_compare 105 ([some (.inr (11, 0)), some (.inl (.int x1)), some (.inl (.int x2)), some (.inl (.int x3)), none], [], w)
noncomputable def q_X12_compare_113 (w : XW) : Option XR := ev bs_X12_compare 113 ([none, none, none, none, none], [], w)
noncomputable def q_X12_compare_115 (x1 : Int32) (x3 : Int32) (w : XW) : Option XR := ev bs_X12_compare 115 ([some (.inr (11, 0)), some (.inl (.int x1)), none, some (.inl (.int x3)), none], [], w)
noncomputable def q_X12_compare_121 (x3 : Int32) (w : XW) : Option XR := ev bs_X12_compare 121 ([some (.inr (11, 0)), none, none, some (.inl (.int x3)), none], [], w)
noncomputable def q_X12_compare_125 (w : XW) : Option XR := ev bs_X12_compare 125 ([some (.inr (11, 0)), none, none, none, none], [], w)
noncomputable def q_X12_compare_129 (w : XW) : Option XR := ev bs_X12_compare 129 ([some (.inr (11, 0)), none, none, none, none], [], w)
noncomputable def q_X12_compare_133 (x1 : Int32) (x3 : Int32) (w : XW) : Option XR := ev bs_X12_compare 133 ([some (.inr (11, 0)), some (.inl (.int x1)), none, some (.inl (.int x3)), none], [], w)
noncomputable def q_X12_compare_139 (w : XW) : Option XR := ev bs_X12_compare 139 ([some (.inr (11, 0)), none, none, none, none], [], w)
noncomputable def q_X12_compare_143 (x3 : Int32) (w : XW) : Option XR := ev bs_X12_compare 143 ([some (.inr (11, 0)), none, none, some (.inl (.int x3)), none], [], w)
noncomputable def q_X12_compare_147 (w : XW) : Option XR := ev bs_X12_compare 147 ([some (.inr (11, 0)), none, none, none, none], [], w)
noncomputable def q_X12_compare_151 (w : XW) : Option XR := ev bs_X12_compare 151 ([some (.inr (11, 0)), none, none, none, none], [], w)
noncomputable def q_X12_compare_152 (s0 : Int32) (w : XW) : Option XR := ev bs_X12_compare 152 ([some (.inr (11, 0)), none, none, none, none], [.inl (.int s0)], w)
noncomputable def q_X12_compare_161 (w : XW) : Option XR := ev bs_X12_compare 161 ([none, none, none, none, none], [], w)
noncomputable def q_X12_compare_163 (x4 : Int32) (w : XW) : Option XR := ev bs_X12_compare 163 ([some (.inr (11, 0)), none, none, none, some (.inl (.int x4))], [], w)
theorem e_X12_compare_0 (w : XW) : q_X12_compare_0 w = ((F_X12_sum [.inr (11, 0)] w).bind fun r0 => (bif decide (¬ r0.1 = 0) then (q_X12_compare_9 r0.2) else (q_X12_compare_7 r0.2))) := (ev_eq _ _ _).trans rfl
theorem e_X12_compare_7 (w : XW) : q_X12_compare_7 w = (some (some (.inl (.int 0)), w)) := (ev_eq _ _ _).trans rfl
theorem e_X12_compare_9 (w : XW) : q_X12_compare_9 w = ((F_X12_see [.inr (11, 0)] w).bind fun r0 => (bif decide (r0.1 = 60) then (q_X12_compare_44 r0.1 (gI r0.2 11 0 8) r0.2) else (q_X12_compare_25 r0.1 (gI r0.2 11 0 8) r0.2))) := (ev_eq _ _ _).trans rfl
theorem e_X12_compare_25 (x1 : Int32) (x2 : Int32) (w : XW) : q_X12_compare_25 x1 x2 w = (bif decide (x1 = 61) then (q_X12_compare_44 x1 x2 w) else (q_X12_compare_31 x1 x2 w)) := (ev_eq _ _ _).trans rfl
theorem e_X12_compare_31 (x1 : Int32) (x2 : Int32) (w : XW) : q_X12_compare_31 x1 x2 w = (bif decide (x1 = 62) then (q_X12_compare_44 x1 x2 w) else (q_X12_compare_37 x2 w)) := (ev_eq _ _ _).trans rfl
theorem e_X12_compare_37 (x2 : Int32) (w : XW) : q_X12_compare_37 x2 w = ((F_X12_fails [.inr (11, 0), .inl (.int 0), .inl (.int x2)] w).bind fun r0 => (if r0.1 = 0 ∨ r0.1 = 1 then some (some (.inl (.int r0.1)), r0.2) else none)) := (ev_eq _ _ _).trans rfl
theorem e_X12_compare_44 (x1 : Int32) (x2 : Int32) (w : XW) : q_X12_compare_44 x1 x2 w = (bif decide (x1 = 61) then (q_X12_compare_89 x1 x2 (sI w 11 0 8 ((gI w 11 0 8) + 1))) else (q_X12_compare_60 x1 x2 (sI w 11 0 8 ((gI w 11 0 8) + 1)))) := (ev_eq _ _ _).trans rfl
theorem e_X12_compare_60 (x1 : Int32) (x2 : Int32) (w : XW) : q_X12_compare_60 x1 x2 w = (bif decide ((gI w 11 0 1) ≤ (gI w 11 0 8)) then (q_X12_compare_89 x1 x2 w) else (q_X12_compare_71 x1 x2 w)) := (ev_eq _ _ _).trans rfl
theorem e_X12_compare_71 (x1 : Int32) (x2 : Int32) (w : XW) : q_X12_compare_71 x1 x2 w = (if (gI w 11 0 8) < 0 ∨ 400 ≤ (gI w 11 0 8).toNatClampNeg then none else (bif decide (¬ (gI w 41 0 (gI w 11 0 8).toNatClampNeg) = 61) then (q_X12_compare_89 x1 x2 w) else (q_X12_compare_85 x1 x2 w))) := (ev_eq _ _ _).trans rfl
theorem e_X12_compare_85 (x1 : Int32) (x2 : Int32) (w : XW) : q_X12_compare_85 x1 x2 w = (q_X12_compare_90 x1 x2 1 w) := (ev_eq _ _ _).trans rfl
theorem e_X12_compare_89 (x1 : Int32) (x2 : Int32) (w : XW) : q_X12_compare_89 x1 x2 w = (q_X12_compare_90 x1 x2 0 w) := (ev_eq _ _ _).trans rfl
theorem e_X12_compare_90 (x1 : Int32) (x2 : Int32) (s0 : Int32) (w : XW) : q_X12_compare_90 x1 x2 s0 w = (bif decide (s0 = 0) then (q_X12_compare_105 x1 x2 s0 w) else (q_X12_compare_95 x1 x2 s0 w)) := (ev_eq _ _ _).trans rfl
theorem e_X12_compare_95 (x1 : Int32) (x2 : Int32) (x3 : Int32) (w : XW) : q_X12_compare_95 x1 x2 x3 w = (q_X12_compare_105 x1 x2 x3 (sI w 11 0 8 ((gI w 11 0 8) + 1))) := (ev_eq _ _ _).trans rfl
theorem e_X12_compare_105 (x1 : Int32) (x2 : Int32) (x3 : Int32) (w : XW) : q_X12_compare_105 x1 x2 x3 w = ((F_X12_makes [.inr (11, 0), .inl (.int x2)] w).bind fun r0 => (bif decide (¬ r0.1 = 0) then (q_X12_compare_115 x1 x3 r0.2) else (q_X12_compare_113 r0.2))) := (ev_eq _ _ _).trans rfl
theorem e_X12_compare_113 (w : XW) : q_X12_compare_113 w = (some (some (.inl (.int 0)), w)) := (ev_eq _ _ _).trans rfl
theorem e_X12_compare_115 (x1 : Int32) (x3 : Int32) (w : XW) : q_X12_compare_115 x1 x3 w = (bif decide (¬ x1 = 60) then (q_X12_compare_133 x1 x3 w) else (q_X12_compare_121 x3 w)) := (ev_eq _ _ _).trans rfl
theorem e_X12_compare_121 (x3 : Int32) (w : XW) : q_X12_compare_121 x3 w = (bif decide (x3 = 0) then (q_X12_compare_129 w) else (q_X12_compare_125 w)) := (ev_eq _ _ _).trans rfl
theorem e_X12_compare_125 (w : XW) : q_X12_compare_125 w = (q_X12_compare_152 1 w) := (ev_eq _ _ _).trans rfl
theorem e_X12_compare_129 (w : XW) : q_X12_compare_129 w = (q_X12_compare_152 0 w) := (ev_eq _ _ _).trans rfl
theorem e_X12_compare_133 (x1 : Int32) (x3 : Int32) (w : XW) : q_X12_compare_133 x1 x3 w = (bif decide (¬ x1 = 61) then (q_X12_compare_143 x3 w) else (q_X12_compare_139 w)) := (ev_eq _ _ _).trans rfl
theorem e_X12_compare_139 (w : XW) : q_X12_compare_139 w = (q_X12_compare_152 2 w) := (ev_eq _ _ _).trans rfl
theorem e_X12_compare_143 (x3 : Int32) (w : XW) : q_X12_compare_143 x3 w = (bif decide (x3 = 0) then (q_X12_compare_151 w) else (q_X12_compare_147 w)) := (ev_eq _ _ _).trans rfl
theorem e_X12_compare_147 (w : XW) : q_X12_compare_147 w = (q_X12_compare_152 3 w) := (ev_eq _ _ _).trans rfl
theorem e_X12_compare_151 (w : XW) : q_X12_compare_151 w = (q_X12_compare_152 4 w) := (ev_eq _ _ _).trans rfl
theorem e_X12_compare_152 (s0 : Int32) (w : XW) : q_X12_compare_152 s0 w = ((F_X12_sum [.inr (11, 0)] w).bind fun r0 => (bif decide (¬ r0.1 = 0) then (q_X12_compare_163 s0 r0.2) else (q_X12_compare_161 r0.2))) := (ev_eq _ _ _).trans rfl
theorem e_X12_compare_161 (w : XW) : q_X12_compare_161 w = (some (some (.inl (.int 0)), w)) := (ev_eq _ _ _).trans rfl
theorem e_X12_compare_163 (x4 : Int32) (w : XW) : q_X12_compare_163 x4 w = ((F_X12_puts [.inr (11, 0), .inl (.int (6 + x4)), .inl (.int 0)] w).bind fun r0 => (some (some (.inl (.int 1)), r0))) := (ev_eq _ _ _).trans rfl
theorem f_X12_compare (w : XW) : F_X12_compare [.inr (11, 0)] w = (q_X12_compare_0 w).bind pI := rfl

-- WinterKeepModel.fact()Z
theorem dX12_fact_0 : decode cX12_fact 0 = .ok (.iconst 1, 1) := by decide +kernel
theorem dX12_fact_1 : decode cX12_fact 1 = .ok (.istore_n 1, 1) := by decide +kernel
theorem dX12_fact_2 : decode cX12_fact 2 = .ok (.iload_n 1, 1) := by decide +kernel
theorem dX12_fact_3 : decode cX12_fact 3 = .ok (.ifCond .eq 72, 3) := by decide +kernel
theorem dX12_fact_6 : decode cX12_fact 6 = .ok (.iconst 0, 1) := by decide +kernel
theorem dX12_fact_7 : decode cX12_fact 7 = .ok (.istore_n 1, 1) := by decide +kernel
theorem dX12_fact_8 : decode cX12_fact 8 = .ok (.aload_n 0, 1) := by decide +kernel
theorem dX12_fact_9 : decode cX12_fact 9 = .ok (.invokevirtual 109, 3) := by decide +kernel
theorem dX12_fact_12 : decode cX12_fact 12 = .ok (.istore_n 2, 1) := by decide +kernel
theorem dX12_fact_13 : decode cX12_fact 13 = .ok (.aload_n 0, 1) := by decide +kernel
theorem dX12_fact_14 : decode cX12_fact 14 = .ok (.ldc2_w 199, 3) := by decide +kernel
theorem dX12_fact_17 : decode cX12_fact 17 = .ok (.invokevirtual 117, 3) := by decide +kernel
theorem dX12_fact_20 : decode cX12_fact 20 = .ok (.ifCond .eq 23, 3) := by decide +kernel
theorem dX12_fact_23 : decode cX12_fact 23 = .ok (.aload_n 0, 1) := by decide +kernel
theorem dX12_fact_24 : decode cX12_fact 24 = .ok (.bipush 11, 2) := by decide +kernel
theorem dX12_fact_26 : decode cX12_fact 26 = .ok (.invokevirtual 201, 3) := by decide +kernel
theorem dX12_fact_29 : decode cX12_fact 29 = .ok (.ifCond .ne 5, 3) := by decide +kernel
theorem dX12_fact_32 : decode cX12_fact 32 = .ok (.iconst 0, 1) := by decide +kernel
theorem dX12_fact_33 : decode cX12_fact 33 = .ok (.ireturn, 1) := by decide +kernel
theorem dX12_fact_34 : decode cX12_fact 34 = .ok (.aload_n 0, 1) := by decide +kernel
theorem dX12_fact_35 : decode cX12_fact 35 = .ok (.invokevirtual 121, 3) := by decide +kernel
theorem dX12_fact_38 : decode cX12_fact 38 = .ok (.iconst 1, 1) := by decide +kernel
theorem dX12_fact_39 : decode cX12_fact 39 = .ok (.istore_n 1, 1) := by decide +kernel
theorem dX12_fact_40 : decode cX12_fact 40 = .ok (.goto 32, 3) := by decide +kernel
theorem dX12_fact_43 : decode cX12_fact 43 = .ok (.iload_n 2, 1) := by decide +kernel
theorem dX12_fact_44 : decode cX12_fact 44 = .ok (.bipush 91, 2) := by decide +kernel
theorem dX12_fact_46 : decode cX12_fact 46 = .ok (.if_icmp .ne 26, 3) := by decide +kernel
theorem dX12_fact_49 : decode cX12_fact 49 = .ok (.aload_n 0, 1) := by decide +kernel
theorem dX12_fact_50 : decode cX12_fact 50 = .ok (.bipush 91, 2) := by decide +kernel
theorem dX12_fact_52 : decode cX12_fact 52 = .ok (.invokevirtual 201, 3) := by decide +kernel
theorem dX12_fact_55 : decode cX12_fact 55 = .ok (.ifCond .ne 5, 3) := by decide +kernel
theorem dX12_fact_58 : decode cX12_fact 58 = .ok (.iconst 0, 1) := by decide +kernel
theorem dX12_fact_59 : decode cX12_fact 59 = .ok (.ireturn, 1) := by decide +kernel
theorem dX12_fact_60 : decode cX12_fact 60 = .ok (.aload_n 0, 1) := by decide +kernel
theorem dX12_fact_61 : decode cX12_fact 61 = .ok (.dup, 1) := by decide +kernel
theorem dX12_fact_62 : decode cX12_fact 62 = .ok (.getfield 106, 3) := by decide +kernel
theorem dX12_fact_65 : decode cX12_fact 65 = .ok (.iconst 1, 1) := by decide +kernel
theorem dX12_fact_66 : decode cX12_fact 66 = .ok (.iadd, 1) := by decide +kernel
theorem dX12_fact_67 : decode cX12_fact 67 = .ok (.putfield 106, 3) := by decide +kernel
theorem dX12_fact_70 : decode cX12_fact 70 = .ok (.iconst 1, 1) := by decide +kernel
theorem dX12_fact_71 : decode cX12_fact 71 = .ok (.istore_n 1, 1) := by decide +kernel
theorem dX12_fact_72 : decode cX12_fact 72 = .ok (.goto (-70), 3) := by decide +kernel
theorem dX12_fact_75 : decode cX12_fact 75 = .ok (.aload_n 0, 1) := by decide +kernel
theorem dX12_fact_76 : decode cX12_fact 76 = .ok (.invokevirtual 204, 3) := by decide +kernel
theorem dX12_fact_79 : decode cX12_fact 79 = .ok (.ireturn, 1) := by decide +kernel
theorem vc_X12_201 : XVw RX12 201 1 11 2 yX12_opens cX12_opens (some .boolean) := ⟨RX12, TX12, tyX12, 43, xk_11, rfl, ⟨by decide, by decide⟩, by decide +kernel, wt_1235, wt_1237, ws_66, wt_11, wt_1238⟩
theorem vc_X12_204 : XVw RX12 204 0 11 5 yX12_compare cX12_compare (some .boolean) := ⟨RX12, TX12, tyX12, 43, xk_11, rfl, ⟨by decide, by decide⟩, by decide +kernel, wt_1239, wt_1241, ws_67, wt_11, wt_1242⟩
noncomputable def bs_X12_fact : List (Nat × XB) := [
  (0, (sq (xC (.int 1)) (sq (xSI 1) (tGo 2 [true, true, false])))),
  (2, (sq (xLI 1) (tIf1 (fun x => decide (x = 0)) 75 [true, false, false] 6 [true, false, false]))),
  (6, (sq (xC (.int 0)) (sq (xSI 1) (sq (xLA 0) (sq (xCI 11 1 F_X12_see) (sq (xSI 2) (sq (xLA 0) (sq (xC (.long 7237492)) (sq (xCI 11 2 F_X12_isWord) (tIf1 (fun x => decide (x = 0)) 43 [true, true, true] 23 [true, false, false])))))))))),
  (23, (sq (xLA 0) (sq (xC (.int 11)) (sq (xCI 11 2 F_X12_opens) (tIf1 (fun x => decide (¬ x = 0)) 34 [true, false, false] 32 [false, false, false]))))),
  (32, (sq (xC (.int 0)) tRZ)),
  (34, (sq (xLA 0) (sq (xCV 11 1 F_X12_passWord) (sq (xC (.int 1)) (sq (xSI 1) (tGo 72 [true, true, false])))))),
  (43, (sq (xLI 2) (sq (xC (.int 91)) (tIf2 (fun x y => decide (¬ x = y)) 72 [true, true, false] 49 [true, false, false])))),
  (49, (sq (xLA 0) (sq (xC (.int 91)) (sq (xCI 11 2 F_X12_opens) (tIf1 (fun x => decide (¬ x = 0)) 60 [true, false, false] 58 [false, false, false]))))),
  (58, (sq (xC (.int 0)) tRZ)),
  (60, (sq (xLA 0) (sq (xDup) (sq (xGI 11 8) (sq (xC (.int 1)) (sq (xI2 (· + ·)) (sq (xPI 11 8) (sq (xC (.int 1)) (sq (xSI 1) (tGo 72 [true, true, false])))))))))),
  (72, (tGo 2 [true, true, false])),
  (75, (sq (xLA 0) (sq (xCI 11 1 F_X12_compare) tRZ)))]
set_option maxRecDepth 100000 in
set_option maxHeartbeats 4000000 in
theorem s_X12_fact : ∀ X : XCtx, XE X → X.2.2.1.1 = cX12_fact → X.2.2.1.2.1 = 3 → X.2.2.1.2.2.1 = yX12_fact.cls → X.2.2.1.2.2.2.1 = (some .boolean) → X.1.2.2.2.1 = { frames := 7, cells := 0, slots := 0, locals := 154 } → SndBs X bs_X12_fact := by
  rintro ⟨⟨p, l, e, R, s⟩, Y, ⟨cc, nL, own, ret, Ts⟩, Z⟩ hE h1 h2 h3 h4 h5
  dsimp only at h1 h2 h3 h4 h5
  subst h1 h2 h3 h4 h5
  exact ⟨(n_sq (n_iconst hE (by decide) dX12_fact_0) (n_sq (n_istore_n hE (show (1 : Nat) < 3 by decide) dX12_fact_1) n_fall)),
    (n_sq (n_iload_n hE dX12_fact_2) (n_ifeq hE (by decide) dX12_fact_3)),
    (n_sq (n_iconst hE (by decide) dX12_fact_6) (n_sq (n_istore_n hE (show (1 : Nat) < 3 by decide) dX12_fact_7) (n_sq (n_aload_n hE dX12_fact_8) (n_sq (n_cIv hE m_X12_see vc_X12_109 (show 0 + 1 ≤ 7 ∧ 8 + (1 + 11) + 0 ≤ 154 by decide) dX12_fact_9) (n_sq (n_istore_n hE (show (2 : Nat) < 3 by decide) dX12_fact_12) (n_sq (n_aload_n hE dX12_fact_13) (n_sq (n_ldc2 hE wt_1234 dX12_fact_14) (n_sq (n_cIv hE m_X12_isWord vc_X12_117 (show 1 + 1 ≤ 7 ∧ 8 + (6 + 11) + 21 ≤ 154 by decide) dX12_fact_17) (n_ifeq hE (by decide) dX12_fact_20))))))))),
    (n_sq (n_aload_n hE dX12_fact_23) (n_sq (n_bipush hE (by decide) dX12_fact_24) (n_sq (n_cIv hE m_X12_opens vc_X12_201 (show 1 + 1 ≤ 7 ∧ 8 + (2 + 11) + 22 ≤ 154 by decide) dX12_fact_26) (n_ifne hE (by decide) dX12_fact_29)))),
    (n_sq (n_iconst hE (by decide) dX12_fact_32) (n_zreturn hE rfl dX12_fact_33)),
    (n_sq (n_aload_n hE dX12_fact_34) (n_sq (n_cVv hE m_X12_passWord vc_X12_121 (show 1 + 1 ≤ 7 ∧ 8 + (1 + 11) + 21 ≤ 154 by decide) dX12_fact_35) (n_sq (n_iconst hE (by decide) dX12_fact_38) (n_sq (n_istore_n hE (show (1 : Nat) < 3 by decide) dX12_fact_39) (n_goto hE (by decide) dX12_fact_40))))),
    (n_sq (n_iload_n hE dX12_fact_43) (n_sq (n_bipush hE (by decide) dX12_fact_44) (n_ifcne hE (by decide) dX12_fact_46))),
    (n_sq (n_aload_n hE dX12_fact_49) (n_sq (n_bipush hE (by decide) dX12_fact_50) (n_sq (n_cIv hE m_X12_opens vc_X12_201 (show 1 + 1 ≤ 7 ∧ 8 + (2 + 11) + 22 ≤ 154 by decide) dX12_fact_52) (n_ifne hE (by decide) dX12_fact_55)))),
    (n_sq (n_iconst hE (by decide) dX12_fact_58) (n_zreturn hE rfl dX12_fact_59)),
    (n_sq (n_aload_n hE dX12_fact_60) (n_sq (n_dup hE dX12_fact_61) (n_sq (n_getI hE xk_11 (k := 8) rfl (by decide) rfl wt_968 dX12_fact_62) (n_sq (n_iconst hE (by decide) dX12_fact_65) (n_sq (n_iadd hE dX12_fact_66) (n_sq (n_putI hE xk_11 (k := 8) rfl (by decide) rfl rfl (tyX12_ok 8 (by decide)) wt_968 dX12_fact_67) (n_sq (n_iconst hE (by decide) dX12_fact_70) (n_sq (n_istore_n hE (show (1 : Nat) < 3 by decide) dX12_fact_71) n_fall)))))))),
    (n_goto hE (by decide) dX12_fact_72),
    (n_sq (n_aload_n hE dX12_fact_75) (n_sq (n_cIv hE m_X12_compare vc_X12_204 (show 6 + 1 ≤ 7 ∧ 8 + (5 + 11) + 130 ≤ 154 by decide) dX12_fact_76) (n_zreturn hE rfl dX12_fact_79))), trivial⟩
noncomputable def F_X12_fact (as : List XV) (w : XW) : Option (Int32 × XW) := (xF 3 bs_X12_fact as w).bind pI
theorem m_X12_fact : XM yX12_fact cX12_fact 3 (some .boolean) 7 154 (eI F_X12_fact) := xm_I (xm_of (by decide) s_X12_fact)
noncomputable def q_X12_fact_0 (w : XW) : Option XR := ev bs_X12_fact 0 ([some (.inr (11, 0)), none, none], [], w)
noncomputable def q_X12_fact_2 (x1 : Int32) (w : XW) : Option XR := ev bs_X12_fact 2 ([some (.inr (11, 0)), some (.inl (.int x1)), none], [], w)
noncomputable def q_X12_fact_6 (w : XW) : Option XR := ev bs_X12_fact 6 ([some (.inr (11, 0)), none, none], [], w)
noncomputable def q_X12_fact_23 (w : XW) : Option XR := ev bs_X12_fact 23 ([some (.inr (11, 0)), none, none], [], w)
noncomputable def q_X12_fact_32 (w : XW) : Option XR := ev bs_X12_fact 32 ([none, none, none], [], w)
noncomputable def q_X12_fact_34 (w : XW) : Option XR := ev bs_X12_fact 34 ([some (.inr (11, 0)), none, none], [], w)
noncomputable def q_X12_fact_43 (x1 : Int32) (x2 : Int32) (w : XW) : Option XR := ev bs_X12_fact 43 ([some (.inr (11, 0)), some (.inl (.int x1)), some (.inl (.int x2))], [], w)
noncomputable def q_X12_fact_49 (w : XW) : Option XR := ev bs_X12_fact 49 ([some (.inr (11, 0)), none, none], [], w)
noncomputable def q_X12_fact_58 (w : XW) : Option XR := ev bs_X12_fact 58 ([none, none, none], [], w)
noncomputable def q_X12_fact_60 (w : XW) : Option XR := ev bs_X12_fact 60 ([some (.inr (11, 0)), none, none], [], w)
noncomputable def q_X12_fact_72 (x1 : Int32) (w : XW) : Option XR := ev bs_X12_fact 72 ([some (.inr (11, 0)), some (.inl (.int x1)), none], [], w)
noncomputable def q_X12_fact_75 (w : XW) : Option XR := ev bs_X12_fact 75 ([some (.inr (11, 0)), none, none], [], w)
theorem e_X12_fact_0 (w : XW) : q_X12_fact_0 w = (q_X12_fact_2 1 w) := (ev_eq _ _ _).trans rfl
theorem e_X12_fact_2 (x1 : Int32) (w : XW) : q_X12_fact_2 x1 w = (bif decide (x1 = 0) then (q_X12_fact_75 w) else (q_X12_fact_6 w)) := (ev_eq _ _ _).trans rfl
theorem e_X12_fact_6 (w : XW) : q_X12_fact_6 w = ((F_X12_see [.inr (11, 0)] w).bind fun r0 => ((F_X12_isWord [.inr (11, 0), .inl (.long 7237492)] r0.2).bind fun r1 => (bif decide (r1.1 = 0) then (q_X12_fact_43 0 r0.1 r1.2) else (q_X12_fact_23 r1.2)))) := (ev_eq _ _ _).trans rfl
theorem e_X12_fact_23 (w : XW) : q_X12_fact_23 w = ((F_X12_opens [.inr (11, 0), .inl (.int 11)] w).bind fun r0 => (bif decide (¬ r0.1 = 0) then (q_X12_fact_34 r0.2) else (q_X12_fact_32 r0.2))) := (ev_eq _ _ _).trans rfl
theorem e_X12_fact_32 (w : XW) : q_X12_fact_32 w = (some (some (.inl (.int 0)), w)) := (ev_eq _ _ _).trans rfl
theorem e_X12_fact_34 (w : XW) : q_X12_fact_34 w = ((F_X12_passWord [.inr (11, 0)] w).bind fun r0 => (q_X12_fact_72 1 r0)) := (ev_eq _ _ _).trans rfl
theorem e_X12_fact_43 (x1 : Int32) (x2 : Int32) (w : XW) : q_X12_fact_43 x1 x2 w = (bif decide (¬ x2 = 91) then (q_X12_fact_72 x1 w) else (q_X12_fact_49 w)) := (ev_eq _ _ _).trans rfl
theorem e_X12_fact_49 (w : XW) : q_X12_fact_49 w = ((F_X12_opens [.inr (11, 0), .inl (.int 91)] w).bind fun r0 => (bif decide (¬ r0.1 = 0) then (q_X12_fact_60 r0.2) else (q_X12_fact_58 r0.2))) := (ev_eq _ _ _).trans rfl
theorem e_X12_fact_58 (w : XW) : q_X12_fact_58 w = (some (some (.inl (.int 0)), w)) := (ev_eq _ _ _).trans rfl
theorem e_X12_fact_60 (w : XW) : q_X12_fact_60 w = (q_X12_fact_72 1 (sI w 11 0 8 ((gI w 11 0 8) + 1))) := (ev_eq _ _ _).trans rfl
theorem e_X12_fact_72 (x1 : Int32) (w : XW) : q_X12_fact_72 x1 w = (q_X12_fact_2 x1 w) := (ev_eq _ _ _).trans rfl
theorem e_X12_fact_75 (w : XW) : q_X12_fact_75 w = ((F_X12_compare [.inr (11, 0)] w).bind fun r0 => (if r0.1 = 0 ∨ r0.1 = 1 then some (some (.inl (.int r0.1)), r0.2) else none)) := (ev_eq _ _ _).trans rfl
theorem f_X12_fact (w : XW) : F_X12_fact [.inr (11, 0)] w = (q_X12_fact_0 w).bind pI := rfl

-- WinterKeepModel.isInside()Z
theorem dX12_isInside_0 : decode cX12_isInside 0 = .ok (.iconst 0, 1) := by decide +kernel
theorem dX12_isInside_1 : decode cX12_isInside 1 = .ok (.istore_n 1, 1) := by decide +kernel
theorem dX12_isInside_2 : decode cX12_isInside 2 = .ok (.iload_n 1, 1) := by decide +kernel
theorem dX12_isInside_3 : decode cX12_isInside 3 = .ok (.aload_n 0, 1) := by decide +kernel
theorem dX12_isInside_4 : decode cX12_isInside 4 = .ok (.getfield 168, 3) := by decide +kernel
theorem dX12_isInside_7 : decode cX12_isInside 7 = .ok (.if_icmp .ge 22, 3) := by decide +kernel
theorem dX12_isInside_10 : decode cX12_isInside 10 = .ok (.aload_n 0, 1) := by decide +kernel
theorem dX12_isInside_11 : decode cX12_isInside 11 = .ok (.getfield 29, 3) := by decide +kernel
theorem dX12_isInside_14 : decode cX12_isInside 14 = .ok (.iload_n 1, 1) := by decide +kernel
theorem dX12_isInside_15 : decode cX12_isInside 15 = .ok (.iaload, 1) := by decide +kernel
theorem dX12_isInside_16 : decode cX12_isInside 16 = .ok (.bipush 91, 2) := by decide +kernel
theorem dX12_isInside_18 : decode cX12_isInside 18 = .ok (.if_icmp .ne 5, 3) := by decide +kernel
theorem dX12_isInside_21 : decode cX12_isInside 21 = .ok (.iconst 1, 1) := by decide +kernel
theorem dX12_isInside_22 : decode cX12_isInside 22 = .ok (.ireturn, 1) := by decide +kernel
theorem dX12_isInside_23 : decode cX12_isInside 23 = .ok (.iinc 1 1, 3) := by decide +kernel
theorem dX12_isInside_26 : decode cX12_isInside 26 = .ok (.goto (-24), 3) := by decide +kernel
theorem dX12_isInside_29 : decode cX12_isInside 29 = .ok (.iconst 0, 1) := by decide +kernel
theorem dX12_isInside_30 : decode cX12_isInside 30 = .ok (.ireturn, 1) := by decide +kernel
noncomputable def bs_X12_isInside : List (Nat × XB) := [
  (0, (sq (xC (.int 0)) (sq (xSI 1) (tGo 2 [true, true])))),
  (2, (sq (xLI 1) (sq (xLA 0) (sq (xGI 11 16) (tIf2 (fun x y => decide (y ≤ x)) 29 [false, false] 10 [true, true]))))),
  (10, (sq (xLA 0) (sq (xGS 11 47 1 0) (sq (xLI 1) (sq (xAI 47 400) (sq (xC (.int 91)) (tIf2 (fun x y => decide (¬ x = y)) 23 [true, true] 21 [false, false]))))))),
  (21, (sq (xC (.int 1)) tRZ)),
  (23, (sq (xInc 1 1) (tGo 2 [true, true]))),
  (29, (sq (xC (.int 0)) tRZ))]
set_option maxRecDepth 100000 in
set_option maxHeartbeats 4000000 in
theorem s_X12_isInside : ∀ X : XCtx, XE X → X.2.2.1.1 = cX12_isInside → X.2.2.1.2.1 = 2 → X.2.2.1.2.2.1 = yX12_isInside.cls → X.2.2.1.2.2.2.1 = (some .boolean) → X.1.2.2.2.1 = { frames := 0, cells := 0, slots := 0, locals := 0 } → SndBs X bs_X12_isInside := by
  rintro ⟨⟨p, l, e, R, s⟩, Y, ⟨cc, nL, own, ret, Ts⟩, Z⟩ hE h1 h2 h3 h4 h5
  dsimp only at h1 h2 h3 h4 h5
  subst h1 h2 h3 h4 h5
  exact ⟨(n_sq (n_iconst hE (by decide) dX12_isInside_0) (n_sq (n_istore_n hE (show (1 : Nat) < 2 by decide) dX12_isInside_1) n_fall)),
    (n_sq (n_iload_n hE dX12_isInside_2) (n_sq (n_aload_n hE dX12_isInside_3) (n_sq (n_getI hE xk_11 (k := 16) rfl (by decide) rfl wt_976 dX12_isInside_4) (n_ifcge hE (by decide) dX12_isInside_7)))),
    (n_sq (n_aload_n hE dX12_isInside_10) (n_sq (n_getS hE xk_11 (k := 15) rfl (by decide) rfl wt_975 dX12_isInside_11) (n_sq (n_iload_n hE dX12_isInside_14) (n_sq (n_iald hE rfl (by decide) dX12_isInside_15) (n_sq (n_bipush hE (by decide) dX12_isInside_16) (n_ifcne hE (by decide) dX12_isInside_18)))))),
    (n_sq (n_iconst hE (by decide) dX12_isInside_21) (n_zreturn hE rfl dX12_isInside_22)),
    (n_sq (n_iinc hE (by decide) (show (1 : Nat) < 2 by decide) dX12_isInside_23) (n_goto hE (by decide) dX12_isInside_26)),
    (n_sq (n_iconst hE (by decide) dX12_isInside_29) (n_zreturn hE rfl dX12_isInside_30)), trivial⟩
noncomputable def F_X12_isInside (as : List XV) (w : XW) : Option (Int32 × XW) := (xF 2 bs_X12_isInside as w).bind pI
theorem m_X12_isInside : XM yX12_isInside cX12_isInside 2 (some .boolean) 0 0 (eI F_X12_isInside) := xm_I (xm_of (by decide) s_X12_isInside)
noncomputable def q_X12_isInside_0 (w : XW) : Option XR := ev bs_X12_isInside 0 ([some (.inr (11, 0)), none], [], w)
noncomputable def q_X12_isInside_2 (x1 : Int32) (w : XW) : Option XR := ev bs_X12_isInside 2 ([some (.inr (11, 0)), some (.inl (.int x1))], [], w)
noncomputable def q_X12_isInside_10 (x1 : Int32) (w : XW) : Option XR := ev bs_X12_isInside 10 ([some (.inr (11, 0)), some (.inl (.int x1))], [], w)
noncomputable def q_X12_isInside_21 (w : XW) : Option XR := ev bs_X12_isInside 21 ([none, none], [], w)
noncomputable def q_X12_isInside_23 (x1 : Int32) (w : XW) : Option XR := ev bs_X12_isInside 23 ([some (.inr (11, 0)), some (.inl (.int x1))], [], w)
noncomputable def q_X12_isInside_29 (w : XW) : Option XR := ev bs_X12_isInside 29 ([none, none], [], w)
theorem e_X12_isInside_0 (w : XW) : q_X12_isInside_0 w = (q_X12_isInside_2 0 w) := (ev_eq _ _ _).trans rfl
theorem e_X12_isInside_2 (x1 : Int32) (w : XW) : q_X12_isInside_2 x1 w = (bif decide ((gI w 11 0 16) ≤ x1) then (q_X12_isInside_29 w) else (q_X12_isInside_10 x1 w)) := (ev_eq _ _ _).trans rfl
theorem e_X12_isInside_10 (x1 : Int32) (w : XW) : q_X12_isInside_10 x1 w = (if x1 < 0 ∨ 400 ≤ x1.toNatClampNeg then none else (bif decide (¬ (gI w 47 0 x1.toNatClampNeg) = 91) then (q_X12_isInside_23 x1 w) else (q_X12_isInside_21 w))) := (ev_eq _ _ _).trans rfl
theorem e_X12_isInside_21 (w : XW) : q_X12_isInside_21 w = (some (some (.inl (.int 1)), w)) := (ev_eq _ _ _).trans rfl
theorem e_X12_isInside_23 (x1 : Int32) (w : XW) : q_X12_isInside_23 x1 w = (q_X12_isInside_2 (x1 + 1) w) := (ev_eq _ _ _).trans rfl
theorem e_X12_isInside_29 (w : XW) : q_X12_isInside_29 w = (some (some (.inl (.int 0)), w)) := (ev_eq _ _ _).trans rfl
theorem f_X12_isInside (w : XW) : F_X12_isInside [.inr (11, 0)] w = (q_X12_isInside_0 w).bind pI := rfl

-- WinterKeepModel.closes()V
theorem dX12_closes_0 : decode cX12_closes 0 = .ok (.aload_n 0, 1) := by decide +kernel
theorem dX12_closes_1 : decode cX12_closes 1 = .ok (.iconst 3, 1) := by decide +kernel
theorem dX12_closes_2 : decode cX12_closes 2 = .ok (.invokevirtual 207, 3) := by decide +kernel
theorem dX12_closes_5 : decode cX12_closes 5 = .ok (.aload_n 0, 1) := by decide +kernel
theorem dX12_closes_6 : decode cX12_closes 6 = .ok (.invokevirtual 109, 3) := by decide +kernel
theorem dX12_closes_9 : decode cX12_closes 9 = .ok (.bipush 93, 2) := by decide +kernel
theorem dX12_closes_11 : decode cX12_closes 11 = .ok (.if_icmp .ne 53, 3) := by decide +kernel
theorem dX12_closes_14 : decode cX12_closes 14 = .ok (.aload_n 0, 1) := by decide +kernel
theorem dX12_closes_15 : decode cX12_closes 15 = .ok (.invokevirtual 210, 3) := by decide +kernel
theorem dX12_closes_18 : decode cX12_closes 18 = .ok (.ifCond .eq 46, 3) := by decide +kernel
theorem dX12_closes_21 : decode cX12_closes 21 = .ok (.aload_n 0, 1) := by decide +kernel
theorem dX12_closes_22 : decode cX12_closes 22 = .ok (.iconst 1, 1) := by decide +kernel
theorem dX12_closes_23 : decode cX12_closes 23 = .ok (.invokevirtual 207, 3) := by decide +kernel
theorem dX12_closes_26 : decode cX12_closes 26 = .ok (.aload_n 0, 1) := by decide +kernel
theorem dX12_closes_27 : decode cX12_closes 27 = .ok (.dup, 1) := by decide +kernel
theorem dX12_closes_28 : decode cX12_closes 28 = .ok (.getfield 168, 3) := by decide +kernel
theorem dX12_closes_31 : decode cX12_closes 31 = .ok (.iconst 1, 1) := by decide +kernel
theorem dX12_closes_32 : decode cX12_closes 32 = .ok (.isub, 1) := by decide +kernel
theorem dX12_closes_33 : decode cX12_closes 33 = .ok (.putfield 168, 3) := by decide +kernel
theorem dX12_closes_36 : decode cX12_closes 36 = .ok (.aload_n 0, 1) := by decide +kernel
theorem dX12_closes_37 : decode cX12_closes 37 = .ok (.dup, 1) := by decide +kernel
theorem dX12_closes_38 : decode cX12_closes 38 = .ok (.getfield 165, 3) := by decide +kernel
theorem dX12_closes_41 : decode cX12_closes 41 = .ok (.iconst 1, 1) := by decide +kernel
theorem dX12_closes_42 : decode cX12_closes 42 = .ok (.isub, 1) := by decide +kernel
theorem dX12_closes_43 : decode cX12_closes 43 = .ok (.putfield 165, 3) := by decide +kernel
theorem dX12_closes_46 : decode cX12_closes 46 = .ok (.aload_n 0, 1) := by decide +kernel
theorem dX12_closes_47 : decode cX12_closes 47 = .ok (.dup, 1) := by decide +kernel
theorem dX12_closes_48 : decode cX12_closes 48 = .ok (.getfield 106, 3) := by decide +kernel
theorem dX12_closes_51 : decode cX12_closes 51 = .ok (.iconst 1, 1) := by decide +kernel
theorem dX12_closes_52 : decode cX12_closes 52 = .ok (.iadd, 1) := by decide +kernel
theorem dX12_closes_53 : decode cX12_closes 53 = .ok (.putfield 106, 3) := by decide +kernel
theorem dX12_closes_56 : decode cX12_closes 56 = .ok (.aload_n 0, 1) := by decide +kernel
theorem dX12_closes_57 : decode cX12_closes 57 = .ok (.iconst 3, 1) := by decide +kernel
theorem dX12_closes_58 : decode cX12_closes 58 = .ok (.invokevirtual 207, 3) := by decide +kernel
theorem dX12_closes_61 : decode cX12_closes 61 = .ok (.goto (-56), 3) := by decide +kernel
theorem dX12_closes_64 : decode cX12_closes 64 = .ok (.return_, 1) := by decide +kernel
theorem vc_X12_207 : XVw RX12 207 1 11 2 yX12_layDown cX12_layDown none := ⟨RX12, TX12, tyX12, 43, xk_11, rfl, ⟨by decide, by decide⟩, by decide +kernel, wt_1247, wt_1249, ws_69, wt_11, wt_1250⟩
theorem vc_X12_210 : XVw RX12 210 0 11 2 yX12_isInside cX12_isInside (some .boolean) := ⟨RX12, TX12, tyX12, 43, xk_11, rfl, ⟨by decide, by decide⟩, by decide +kernel, wt_1254, wt_1256, ws_70, wt_11, wt_1257⟩
noncomputable def bs_X12_closes : List (Nat × XB) := [
  (0, (sq (xLA 0) (sq (xC (.int 3)) (sq (xCV 11 2 F_X12_layDown) (tGo 5 [true]))))),
  (5, (sq (xLA 0) (sq (xCI 11 1 F_X12_see) (sq (xC (.int 93)) (tIf2 (fun x y => decide (¬ x = y)) 64 [false] 14 [true]))))),
  (14, (sq (xLA 0) (sq (xCI 11 1 F_X12_isInside) (tIf1 (fun x => decide (x = 0)) 64 [false] 21 [true])))),
  (21, (sq (xLA 0) (sq (xC (.int 1)) (sq (xCV 11 2 F_X12_layDown) (sq (xLA 0) (sq (xDup) (sq (xGI 11 16) (sq (xC (.int 1)) (sq (xI2 (· - ·)) (sq (xPI 11 16) (sq (xLA 0) (sq (xDup) (sq (xGI 11 13) (sq (xC (.int 1)) (sq (xI2 (· - ·)) (sq (xPI 11 13) (sq (xLA 0) (sq (xDup) (sq (xGI 11 8) (sq (xC (.int 1)) (sq (xI2 (· + ·)) (sq (xPI 11 8) (sq (xLA 0) (sq (xC (.int 3)) (sq (xCV 11 2 F_X12_layDown) (tGo 5 [true])))))))))))))))))))))))))),
  (64, tRV)]
set_option maxRecDepth 100000 in
set_option maxHeartbeats 4000000 in
theorem s_X12_closes : ∀ X : XCtx, XE X → X.2.2.1.1 = cX12_closes → X.2.2.1.2.1 = 1 → X.2.2.1.2.2.1 = yX12_closes.cls → X.2.2.1.2.2.2.1 = none → X.1.2.2.2.1 = { frames := 2, cells := 0, slots := 0, locals := 43 } → SndBs X bs_X12_closes := by
  rintro ⟨⟨p, l, e, R, s⟩, Y, ⟨cc, nL, own, ret, Ts⟩, Z⟩ hE h1 h2 h3 h4 h5
  dsimp only at h1 h2 h3 h4 h5
  subst h1 h2 h3 h4 h5
  exact ⟨(n_sq (n_aload_n hE dX12_closes_0) (n_sq (n_iconst hE (by decide) dX12_closes_1) (n_sq (n_cVv hE m_X12_layDown vc_X12_207 (show 1 + 1 ≤ 2 ∧ 8 + (2 + 11) + 22 ≤ 43 by decide) dX12_closes_2) n_fall))),
    (n_sq (n_aload_n hE dX12_closes_5) (n_sq (n_cIv hE m_X12_see vc_X12_109 (show 0 + 1 ≤ 2 ∧ 8 + (1 + 11) + 0 ≤ 43 by decide) dX12_closes_6) (n_sq (n_bipush hE (by decide) dX12_closes_9) (n_ifcne hE (by decide) dX12_closes_11)))),
    (n_sq (n_aload_n hE dX12_closes_14) (n_sq (n_cIv hE m_X12_isInside vc_X12_210 (show 0 + 1 ≤ 2 ∧ 8 + (2 + 11) + 0 ≤ 43 by decide) dX12_closes_15) (n_ifeq hE (by decide) dX12_closes_18))),
    (n_sq (n_aload_n hE dX12_closes_21) (n_sq (n_iconst hE (by decide) dX12_closes_22) (n_sq (n_cVv hE m_X12_layDown vc_X12_207 (show 1 + 1 ≤ 2 ∧ 8 + (2 + 11) + 22 ≤ 43 by decide) dX12_closes_23) (n_sq (n_aload_n hE dX12_closes_26) (n_sq (n_dup hE dX12_closes_27) (n_sq (n_getI hE xk_11 (k := 16) rfl (by decide) rfl wt_976 dX12_closes_28) (n_sq (n_iconst hE (by decide) dX12_closes_31) (n_sq (n_isub hE dX12_closes_32) (n_sq (n_putI hE xk_11 (k := 16) rfl (by decide) rfl rfl (tyX12_ok 16 (by decide)) wt_976 dX12_closes_33) (n_sq (n_aload_n hE dX12_closes_36) (n_sq (n_dup hE dX12_closes_37) (n_sq (n_getI hE xk_11 (k := 13) rfl (by decide) rfl wt_973 dX12_closes_38) (n_sq (n_iconst hE (by decide) dX12_closes_41) (n_sq (n_isub hE dX12_closes_42) (n_sq (n_putI hE xk_11 (k := 13) rfl (by decide) rfl rfl (tyX12_ok 13 (by decide)) wt_973 dX12_closes_43) (n_sq (n_aload_n hE dX12_closes_46) (n_sq (n_dup hE dX12_closes_47) (n_sq (n_getI hE xk_11 (k := 8) rfl (by decide) rfl wt_968 dX12_closes_48) (n_sq (n_iconst hE (by decide) dX12_closes_51) (n_sq (n_iadd hE dX12_closes_52) (n_sq (n_putI hE xk_11 (k := 8) rfl (by decide) rfl rfl (tyX12_ok 8 (by decide)) wt_968 dX12_closes_53) (n_sq (n_aload_n hE dX12_closes_56) (n_sq (n_iconst hE (by decide) dX12_closes_57) (n_sq (n_cVv hE m_X12_layDown vc_X12_207 (show 1 + 1 ≤ 2 ∧ 8 + (2 + 11) + 22 ≤ 43 by decide) dX12_closes_58) (n_goto hE (by decide) dX12_closes_61))))))))))))))))))))))))),
    (n_vreturn hE rfl dX12_closes_64), trivial⟩
noncomputable def F_X12_closes (as : List XV) (w : XW) : Option XW := (xF 1 bs_X12_closes as w).bind pV
theorem m_X12_closes : XM yX12_closes cX12_closes 1 none 2 43 (eV F_X12_closes) := xm_V (xm_of (by decide) s_X12_closes)
noncomputable def q_X12_closes_0 (w : XW) : Option XR := ev bs_X12_closes 0 ([some (.inr (11, 0))], [], w)
noncomputable def q_X12_closes_5 (w : XW) : Option XR := ev bs_X12_closes 5 ([some (.inr (11, 0))], [], w)
noncomputable def q_X12_closes_14 (w : XW) : Option XR := ev bs_X12_closes 14 ([some (.inr (11, 0))], [], w)
noncomputable def q_X12_closes_21 (w : XW) : Option XR := ev bs_X12_closes 21 ([some (.inr (11, 0))], [], w)
noncomputable def q_X12_closes_64 (w : XW) : Option XR := ev bs_X12_closes 64 ([none], [], w)
theorem e_X12_closes_0 (w : XW) : q_X12_closes_0 w = ((F_X12_layDown [.inr (11, 0), .inl (.int 3)] w).bind fun r0 => (q_X12_closes_5 r0)) := (ev_eq _ _ _).trans rfl
theorem e_X12_closes_5 (w : XW) : q_X12_closes_5 w = ((F_X12_see [.inr (11, 0)] w).bind fun r0 => (bif decide (¬ r0.1 = 93) then (q_X12_closes_64 r0.2) else (q_X12_closes_14 r0.2))) := (ev_eq _ _ _).trans rfl
theorem e_X12_closes_14 (w : XW) : q_X12_closes_14 w = ((F_X12_isInside [.inr (11, 0)] w).bind fun r0 => (bif decide (r0.1 = 0) then (q_X12_closes_64 r0.2) else (q_X12_closes_21 r0.2))) := (ev_eq _ _ _).trans rfl
theorem e_X12_closes_21 (w : XW) : q_X12_closes_21 w = ((F_X12_layDown [.inr (11, 0), .inl (.int 1)] w).bind fun r0 => ((F_X12_layDown [.inr (11, 0), .inl (.int 3)] (sI (sI (sI r0 11 0 16 ((gI r0 11 0 16) - 1)) 11 0 13 ((gI (sI r0 11 0 16 ((gI r0 11 0 16) - 1)) 11 0 13) - 1)) 11 0 8 ((gI (sI (sI r0 11 0 16 ((gI r0 11 0 16) - 1)) 11 0 13 ((gI (sI r0 11 0 16 ((gI r0 11 0 16) - 1)) 11 0 13) - 1)) 11 0 8) + 1))).bind fun r1 => (q_X12_closes_5 r1))) := (ev_eq _ _ _).trans rfl
theorem e_X12_closes_64 (w : XW) : q_X12_closes_64 w = (some (none, w)) := (ev_eq _ _ _).trans rfl
theorem f_X12_closes (w : XW) : F_X12_closes [.inr (11, 0)] w = (q_X12_closes_0 w).bind pV := rfl
