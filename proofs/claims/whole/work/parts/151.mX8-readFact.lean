-- WinterKeep$RuleReader.readFact(LWinterKeep$Tape;I)Z
theorem dX8_readFact_0 : decode cX8_readFact 0 = .ok (.aload_n 1, 1) := by decide +kernel
theorem dX8_readFact_1 : decode cX8_readFact 1 = .ok (.invokevirtual 37, 3) := by decide +kernel
theorem dX8_readFact_4 : decode cX8_readFact 4 = .ok (.bipush 91, 2) := by decide +kernel
theorem dX8_readFact_6 : decode cX8_readFact 6 = .ok (.if_icmp .ne 55, 3) := by decide +kernel
theorem dX8_readFact_9 : decode cX8_readFact 9 = .ok (.iload_n 2, 1) := by decide +kernel
theorem dX8_readFact_10 : decode cX8_readFact 10 = .ok (.bipush 10, 2) := by decide +kernel
theorem dX8_readFact_12 : decode cX8_readFact 12 = .ok (.if_icmp .lt 13, 3) := by decide +kernel
theorem dX8_readFact_15 : decode cX8_readFact 15 = .ok (.aload_n 1, 1) := by decide +kernel
theorem dX8_readFact_16 : decode cX8_readFact 16 = .ok (.aload_n 1, 1) := by decide +kernel
theorem dX8_readFact_17 : decode cX8_readFact 17 = .ok (.getfield 62, 3) := by decide +kernel
theorem dX8_readFact_20 : decode cX8_readFact 20 = .ok (.iconst 2, 1) := by decide +kernel
theorem dX8_readFact_21 : decode cX8_readFact 21 = .ok (.invokevirtual 65, 3) := by decide +kernel
theorem dX8_readFact_24 : decode cX8_readFact 24 = .ok (.ireturn, 1) := by decide +kernel
theorem dX8_readFact_25 : decode cX8_readFact 25 = .ok (.aload_n 1, 1) := by decide +kernel
theorem dX8_readFact_26 : decode cX8_readFact 26 = .ok (.dup, 1) := by decide +kernel
theorem dX8_readFact_27 : decode cX8_readFact 27 = .ok (.getfield 62, 3) := by decide +kernel
theorem dX8_readFact_30 : decode cX8_readFact 30 = .ok (.iconst 1, 1) := by decide +kernel
theorem dX8_readFact_31 : decode cX8_readFact 31 = .ok (.iadd, 1) := by decide +kernel
theorem dX8_readFact_32 : decode cX8_readFact 32 = .ok (.putfield 62, 3) := by decide +kernel
theorem dX8_readFact_35 : decode cX8_readFact 35 = .ok (.aload_n 0, 1) := by decide +kernel
theorem dX8_readFact_36 : decode cX8_readFact 36 = .ok (.aload_n 1, 1) := by decide +kernel
theorem dX8_readFact_37 : decode cX8_readFact 37 = .ok (.iload_n 2, 1) := by decide +kernel
theorem dX8_readFact_38 : decode cX8_readFact 38 = .ok (.iconst 1, 1) := by decide +kernel
theorem dX8_readFact_39 : decode cX8_readFact 39 = .ok (.iadd, 1) := by decide +kernel
theorem dX8_readFact_40 : decode cX8_readFact 40 = .ok (.invokevirtual 77, 3) := by decide +kernel
theorem dX8_readFact_43 : decode cX8_readFact 43 = .ok (.ifCond .eq 16, 3) := by decide +kernel
theorem dX8_readFact_46 : decode cX8_readFact 46 = .ok (.aload_n 1, 1) := by decide +kernel
theorem dX8_readFact_47 : decode cX8_readFact 47 = .ok (.bipush 93, 2) := by decide +kernel
theorem dX8_readFact_49 : decode cX8_readFact 49 = .ok (.invokevirtual 41, 3) := by decide +kernel
theorem dX8_readFact_52 : decode cX8_readFact 52 = .ok (.ifCond .eq 7, 3) := by decide +kernel
theorem dX8_readFact_55 : decode cX8_readFact 55 = .ok (.iconst 1, 1) := by decide +kernel
theorem dX8_readFact_56 : decode cX8_readFact 56 = .ok (.goto 4, 3) := by decide +kernel
theorem dX8_readFact_59 : decode cX8_readFact 59 = .ok (.iconst 0, 1) := by decide +kernel
theorem dX8_readFact_60 : decode cX8_readFact 60 = .ok (.ireturn, 1) := by decide +kernel
theorem dX8_readFact_61 : decode cX8_readFact 61 = .ok (.aload_n 1, 1) := by decide +kernel
theorem dX8_readFact_62 : decode cX8_readFact 62 = .ok (.ldc 90, 2) := by decide +kernel
theorem dX8_readFact_64 : decode cX8_readFact 64 = .ok (.invokevirtual 58, 3) := by decide +kernel
theorem dX8_readFact_67 : decode cX8_readFact 67 = .ok (.ifCond .ne 40, 3) := by decide +kernel
theorem dX8_readFact_70 : decode cX8_readFact 70 = .ok (.iload_n 2, 1) := by decide +kernel
theorem dX8_readFact_71 : decode cX8_readFact 71 = .ok (.bipush 10, 2) := by decide +kernel
theorem dX8_readFact_73 : decode cX8_readFact 73 = .ok (.if_icmp .lt 13, 3) := by decide +kernel
theorem dX8_readFact_76 : decode cX8_readFact 76 = .ok (.aload_n 1, 1) := by decide +kernel
theorem dX8_readFact_77 : decode cX8_readFact 77 = .ok (.aload_n 1, 1) := by decide +kernel
theorem dX8_readFact_78 : decode cX8_readFact 78 = .ok (.getfield 69, 3) := by decide +kernel
theorem dX8_readFact_81 : decode cX8_readFact 81 = .ok (.iconst 2, 1) := by decide +kernel
theorem dX8_readFact_82 : decode cX8_readFact 82 = .ok (.invokevirtual 65, 3) := by decide +kernel
theorem dX8_readFact_85 : decode cX8_readFact 85 = .ok (.ireturn, 1) := by decide +kernel
theorem dX8_readFact_86 : decode cX8_readFact 86 = .ok (.aload_n 0, 1) := by decide +kernel
theorem dX8_readFact_87 : decode cX8_readFact 87 = .ok (.aload_n 1, 1) := by decide +kernel
theorem dX8_readFact_88 : decode cX8_readFact 88 = .ok (.iload_n 2, 1) := by decide +kernel
theorem dX8_readFact_89 : decode cX8_readFact 89 = .ok (.iconst 1, 1) := by decide +kernel
theorem dX8_readFact_90 : decode cX8_readFact 90 = .ok (.iadd, 1) := by decide +kernel
theorem dX8_readFact_91 : decode cX8_readFact 91 = .ok (.invokevirtual 81, 3) := by decide +kernel
theorem dX8_readFact_94 : decode cX8_readFact 94 = .ok (.ifCond .ne 5, 3) := by decide +kernel
theorem dX8_readFact_97 : decode cX8_readFact 97 = .ok (.iconst 0, 1) := by decide +kernel
theorem dX8_readFact_98 : decode cX8_readFact 98 = .ok (.ireturn, 1) := by decide +kernel
theorem dX8_readFact_99 : decode cX8_readFact 99 = .ok (.aload_n 0, 1) := by decide +kernel
theorem dX8_readFact_100 : decode cX8_readFact 100 = .ok (.bipush (-30), 2) := by decide +kernel
theorem dX8_readFact_102 : decode cX8_readFact 102 = .ok (.invokevirtual 86, 3) := by decide +kernel
theorem dX8_readFact_105 : decode cX8_readFact 105 = .ok (.iconst 1, 1) := by decide +kernel
theorem dX8_readFact_106 : decode cX8_readFact 106 = .ok (.ireturn, 1) := by decide +kernel
theorem dX8_readFact_107 : decode cX8_readFact 107 = .ok (.aload_n 0, 1) := by decide +kernel
theorem dX8_readFact_108 : decode cX8_readFact 108 = .ok (.aload_n 1, 1) := by decide +kernel
theorem dX8_readFact_109 : decode cX8_readFact 109 = .ok (.invokevirtual 72, 3) := by decide +kernel
theorem dX8_readFact_112 : decode cX8_readFact 112 = .ok (.ifCond .ne 5, 3) := by decide +kernel
theorem dX8_readFact_115 : decode cX8_readFact 115 = .ok (.iconst 0, 1) := by decide +kernel
theorem dX8_readFact_116 : decode cX8_readFact 116 = .ok (.ireturn, 1) := by decide +kernel
theorem dX8_readFact_117 : decode cX8_readFact 117 = .ok (.aload_n 1, 1) := by decide +kernel
theorem dX8_readFact_118 : decode cX8_readFact 118 = .ok (.invokevirtual 37, 3) := by decide +kernel
theorem dX8_readFact_121 : decode cX8_readFact 121 = .ok (.pop, 1) := by decide +kernel
theorem dX8_readFact_122 : decode cX8_readFact 122 = .ok (.aload_n 1, 1) := by decide +kernel
theorem dX8_readFact_123 : decode cX8_readFact 123 = .ok (.getfield 62, 3) := by decide +kernel
theorem dX8_readFact_126 : decode cX8_readFact 126 = .ok (.istore_n 3, 1) := by decide +kernel
theorem dX8_readFact_127 : decode cX8_readFact 127 = .ok (.aload_n 1, 1) := by decide +kernel
theorem dX8_readFact_128 : decode cX8_readFact 128 = .ok (.invokestatic 92, 3) := by decide +kernel
theorem dX8_readFact_131 : decode cX8_readFact 131 = .ok (.istore 4, 2) := by decide +kernel
theorem dX8_readFact_133 : decode cX8_readFact 133 = .ok (.iload 4, 2) := by decide +kernel
theorem dX8_readFact_135 : decode cX8_readFact 135 = .ok (.ifCond .ne 10, 3) := by decide +kernel
theorem dX8_readFact_138 : decode cX8_readFact 138 = .ok (.aload_n 1, 1) := by decide +kernel
theorem dX8_readFact_139 : decode cX8_readFact 139 = .ok (.iload_n 3, 1) := by decide +kernel
theorem dX8_readFact_140 : decode cX8_readFact 140 = .ok (.iconst 0, 1) := by decide +kernel
theorem dX8_readFact_141 : decode cX8_readFact 141 = .ok (.invokevirtual 65, 3) := by decide +kernel
theorem dX8_readFact_144 : decode cX8_readFact 144 = .ok (.ireturn, 1) := by decide +kernel
theorem dX8_readFact_145 : decode cX8_readFact 145 = .ok (.aload_n 0, 1) := by decide +kernel
theorem dX8_readFact_146 : decode cX8_readFact 146 = .ok (.aload_n 1, 1) := by decide +kernel
theorem dX8_readFact_147 : decode cX8_readFact 147 = .ok (.iload_n 3, 1) := by decide +kernel
theorem dX8_readFact_148 : decode cX8_readFact 148 = .ok (.invokevirtual 96, 3) := by decide +kernel
theorem dX8_readFact_151 : decode cX8_readFact 151 = .ok (.ifCond .eq 11, 3) := by decide +kernel
theorem dX8_readFact_154 : decode cX8_readFact 154 = .ok (.aload_n 0, 1) := by decide +kernel
theorem dX8_readFact_155 : decode cX8_readFact 155 = .ok (.aload_n 1, 1) := by decide +kernel
theorem dX8_readFact_156 : decode cX8_readFact 156 = .ok (.invokevirtual 72, 3) := by decide +kernel
theorem dX8_readFact_159 : decode cX8_readFact 159 = .ok (.ifCond .ne 5, 3) := by decide +kernel
theorem dX8_readFact_162 : decode cX8_readFact 162 = .ok (.iconst 0, 1) := by decide +kernel
theorem dX8_readFact_163 : decode cX8_readFact 163 = .ok (.ireturn, 1) := by decide +kernel
theorem dX8_readFact_164 : decode cX8_readFact 164 = .ok (.aload_n 0, 1) := by decide +kernel
theorem dX8_readFact_165 : decode cX8_readFact 165 = .ok (.iload 4, 2) := by decide +kernel
theorem dX8_readFact_167 : decode cX8_readFact 167 = .ok (.invokevirtual 86, 3) := by decide +kernel
theorem dX8_readFact_170 : decode cX8_readFact 170 = .ok (.iconst 1, 1) := by decide +kernel
theorem dX8_readFact_171 : decode cX8_readFact 171 = .ok (.ireturn, 1) := by decide +kernel
theorem vc_X8_77 : XVw RX8 77 2 7 7 yX8_readTest cX8_readTest (some .boolean) := ⟨RX8, TX8, tyX8, 5, xk_7, rfl, ⟨by decide, by decide⟩, by decide +kernel, wt_545, wt_547, ws_6, wt_3, wt_548⟩
theorem vc_X8_41 : XVw RX8 41 1 9 2 yX10_passSign cX10_passSign (some .boolean) := ⟨RX10, TX10, tyX10, 6, xk_9, rfl, ⟨by decide, by decide⟩, by decide +kernel, wt_553, wt_497, wt_498, wt_2, wt_499⟩
theorem vc_X8_81 : XVw RX8 81 2 7 5 yX8_readFact cX8_readFact (some .boolean) := ⟨RX8, TX8, tyX8, 5, xk_7, rfl, ⟨by decide, by decide⟩, by decide +kernel, wt_549, wt_551, ws_7, wt_3, wt_552⟩
theorem vc_X8_72 : XVw RX8 72 1 7 6 yX8_readSum cX8_readSum (some .boolean) := ⟨RX8, TX8, tyX8, 5, xk_7, rfl, ⟨by decide, by decide⟩, by decide +kernel, wt_521, wt_523, ws_2, wt_3, wt_524⟩
theorem vc_X8_92 : XSw RX8 92 1 2 yX8_passCompare cX8_passCompare (some .int) := ⟨⟨by decide, by decide⟩, by decide +kernel, wt_555, wt_556, wt_3, wt_557⟩
noncomputable def bs_X8_readFact (G0 G1 : List XV → XW → Option (Int32 × XW)) : List (Nat × XB) := [
  (0, (sq (xLA 1) (sq (xCI 9 1 F_X10_sign) (sq (xC (.int 91)) (tIf2 (fun x y => decide (¬ x = y)) 61 [true, true, true, false, false] 9 [true, true, true, false, false]))))),
  (9, (sq (xLI 2) (sq (xC (.int 10)) (tIf2 (fun x y => decide (x < y)) 25 [true, true, true, false, false] 15 [false, true, false, false, false])))),
  (15, (sq (xLA 1) (sq (xLA 1) (sq (xGI 9 2) (sq (xC (.int 2)) (sq (xCI 9 3 F_X10_fail) tRZ)))))),
  (25, (sq (xLA 1) (sq (xDup) (sq (xGI 9 2) (sq (xC (.int 1)) (sq (xI2 (· + ·)) (sq (xPI 9 2) (sq (xLA 0) (sq (xLA 1) (sq (xLI 2) (sq (xC (.int 1)) (sq (xI2 (· + ·)) (sq (xCI 7 3 G1) (tIf1 (fun x => decide (x = 0)) 59 [false, false, false, false, false] 46 [false, true, false, false, false])))))))))))))),
  (46, (sq (xLA 1) (sq (xC (.int 93)) (sq (xCI 9 2 F_X10_passSign) (tIf1 (fun x => decide (x = 0)) 59 [false, false, false, false, false] 55 [false, false, false, false, false]))))),
  (55, (sq (xC (.int 1)) (tGo 60 [false, false, false, false, false]))),
  (59, (sq (xC (.int 0)) (tGo 60 [false, false, false, false, false]))),
  (60, tRZ),
  (61, (sq (xLA 1) (sq (xStr 5) (sq (xCI 9 2 F_X10_passWord) (tIf1 (fun x => decide (¬ x = 0)) 107 [true, true, false, false, false] 70 [true, true, true, false, false]))))),
  (70, (sq (xLI 2) (sq (xC (.int 10)) (tIf2 (fun x y => decide (x < y)) 86 [true, true, true, false, false] 76 [false, true, false, false, false])))),
  (76, (sq (xLA 1) (sq (xLA 1) (sq (xGI 9 3) (sq (xC (.int 2)) (sq (xCI 9 3 F_X10_fail) tRZ)))))),
  (86, (sq (xLA 0) (sq (xLA 1) (sq (xLI 2) (sq (xC (.int 1)) (sq (xI2 (· + ·)) (sq (xCI 7 3 G0) (tIf1 (fun x => decide (¬ x = 0)) 99 [true, false, false, false, false] 97 [false, false, false, false, false])))))))),
  (97, (sq (xC (.int 0)) tRZ)),
  (99, (sq (xLA 0) (sq (xC (.int (-30))) (sq (xCV 7 2 F_X8_add) (sq (xC (.int 1)) tRZ))))),
  (107, (sq (xLA 0) (sq (xLA 1) (sq (xCI 7 2 F_X8_readSum) (tIf1 (fun x => decide (¬ x = 0)) 117 [true, true, false, false, false] 115 [false, false, false, false, false]))))),
  (115, (sq (xC (.int 0)) tRZ)),
  (117, (sq (xLA 1) (sq (xCI 9 1 F_X10_sign) (sq (xPop) (sq (xLA 1) (sq (xGI 9 2) (sq (xSI 3) (sq (xLA 1) (sq (xCI 99 1 F_X8_passCompare) (sq (xSI 4) (sq (xLI 4) (tIf1 (fun x => decide (¬ x = 0)) 145 [true, true, false, true, true] 138 [false, true, false, true, false])))))))))))),
  (138, (sq (xLA 1) (sq (xLI 3) (sq (xC (.int 0)) (sq (xCI 9 3 F_X10_fail) tRZ))))),
  (145, (sq (xLA 0) (sq (xLA 1) (sq (xLI 3) (sq (xCI 7 3 F_X8_isCounted) (tIf1 (fun x => decide (x = 0)) 162 [false, false, false, false, false] 154 [true, true, false, false, true])))))),
  (154, (sq (xLA 0) (sq (xLA 1) (sq (xCI 7 2 F_X8_readSum) (tIf1 (fun x => decide (¬ x = 0)) 164 [true, false, false, false, true] 162 [false, false, false, false, false]))))),
  (162, (sq (xC (.int 0)) tRZ)),
  (164, (sq (xLA 0) (sq (xLI 4) (sq (xCV 7 2 F_X8_add) (sq (xC (.int 1)) tRZ)))))]
set_option maxRecDepth 100000 in
set_option maxHeartbeats 4000000 in
theorem s_X8_readFact {G0 G1 : List XV → XW → Option (Int32 × XW)} (fr lo : Nat) (hG0 : XM yX8_readFact cX8_readFact 5 (some .boolean) fr lo (eI G0)) (hG1 : XM yX8_readTest cX8_readTest 7 (some .boolean) fr lo (eI G1)) : ∀ X : XCtx, XE X → X.2.2.1.1 = cX8_readFact → X.2.2.1.2.1 = 5 → X.2.2.1.2.2.1 = yX8_readFact.cls → X.2.2.1.2.2.2.1 = (some .boolean) → X.1.2.2.2.1 = { frames := fr + 8, cells := 0, slots := 0, locals := lo + 183 } → SndBs X (bs_X8_readFact G0 G1) := by
  rintro ⟨⟨p, l, e, R, s⟩, Y, ⟨cc, nL, own, ret, Ts⟩, Z⟩ hE h1 h2 h3 h4 h5
  dsimp only at h1 h2 h3 h4 h5
  subst h1 h2 h3 h4 h5
  exact ⟨(n_sq (n_aload_n hE dX8_readFact_0) (n_sq (n_cIv hE m_X10_sign vc_X8_37 (show 1 + 1 ≤ (fr + 8) ∧ 8 + (1 + 11) + 21 ≤ (lo + 183) by omega) dX8_readFact_1) (n_sq (n_bipush hE (by decide) dX8_readFact_4) (n_ifcne hE (by decide) dX8_readFact_6)))),
    (n_sq (n_iload_n hE dX8_readFact_9) (n_sq (n_bipush hE (by decide) dX8_readFact_10) (n_ifclt hE (by decide) dX8_readFact_12))),
    (n_sq (n_aload_n hE dX8_readFact_15) (n_sq (n_aload_n hE dX8_readFact_16) (n_sq (n_getI hE xk_9 (k := 2) rfl (by decide) rfl wt_41 dX8_readFact_17) (n_sq (n_iconst hE (by decide) dX8_readFact_20) (n_sq (n_cIv hE m_X10_fail vc_X8_65 (show 0 + 1 ≤ (fr + 8) ∧ 8 + (3 + 11) + 0 ≤ (lo + 183) by omega) dX8_readFact_21) (n_zreturn hE rfl dX8_readFact_24)))))),
    (n_sq (n_aload_n hE dX8_readFact_25) (n_sq (n_dup hE dX8_readFact_26) (n_sq (n_getI hE xk_9 (k := 2) rfl (by decide) rfl wt_41 dX8_readFact_27) (n_sq (n_iconst hE (by decide) dX8_readFact_30) (n_sq (n_iadd hE dX8_readFact_31) (n_sq (n_putI hE xk_9 (k := 2) rfl (by decide) rfl rfl (tyX10_ok 2 (by decide)) wt_41 dX8_readFact_32) (n_sq (n_aload_n hE dX8_readFact_35) (n_sq (n_aload_n hE dX8_readFact_36) (n_sq (n_iload_n hE dX8_readFact_37) (n_sq (n_iconst hE (by decide) dX8_readFact_38) (n_sq (n_iadd hE dX8_readFact_39) (n_sq (n_cIv hE hG1 vc_X8_77 (show fr + 1 ≤ (fr + 8) ∧ 8 + (7 + 11) + lo ≤ (lo + 183) by omega) dX8_readFact_40) (n_ifeq hE (by decide) dX8_readFact_43))))))))))))),
    (n_sq (n_aload_n hE dX8_readFact_46) (n_sq (n_bipush hE (by decide) dX8_readFact_47) (n_sq (n_cIv hE m_X10_passSign vc_X8_41 (show 2 + 1 ≤ (fr + 8) ∧ 8 + (2 + 11) + 41 ≤ (lo + 183) by omega) dX8_readFact_49) (n_ifeq hE (by decide) dX8_readFact_52)))),
    (n_sq (n_iconst hE (by decide) dX8_readFact_55) (n_goto hE (by decide) dX8_readFact_56)),
    (n_sq (n_iconst hE (by decide) dX8_readFact_59) n_fall),
    (n_zreturn hE rfl dX8_readFact_60),
    (n_sq (n_aload_n hE dX8_readFact_61) (n_sq (n_ldcS hE rfl (by decide) dX8_readFact_62) (n_sq (n_cIv hE m_X10_passWord vc_X8_58 (show 5 + 1 ≤ (fr + 8) ∧ 8 + (6 + 11) + 110 ≤ (lo + 183) by omega) dX8_readFact_64) (n_ifne hE (by decide) dX8_readFact_67)))),
    (n_sq (n_iload_n hE dX8_readFact_70) (n_sq (n_bipush hE (by decide) dX8_readFact_71) (n_ifclt hE (by decide) dX8_readFact_73))),
    (n_sq (n_aload_n hE dX8_readFact_76) (n_sq (n_aload_n hE dX8_readFact_77) (n_sq (n_getI hE xk_9 (k := 3) rfl (by decide) rfl wt_44 dX8_readFact_78) (n_sq (n_iconst hE (by decide) dX8_readFact_81) (n_sq (n_cIv hE m_X10_fail vc_X8_65 (show 0 + 1 ≤ (fr + 8) ∧ 8 + (3 + 11) + 0 ≤ (lo + 183) by omega) dX8_readFact_82) (n_zreturn hE rfl dX8_readFact_85)))))),
    (n_sq (n_aload_n hE dX8_readFact_86) (n_sq (n_aload_n hE dX8_readFact_87) (n_sq (n_iload_n hE dX8_readFact_88) (n_sq (n_iconst hE (by decide) dX8_readFact_89) (n_sq (n_iadd hE dX8_readFact_90) (n_sq (n_cIv hE hG0 vc_X8_81 (show fr + 1 ≤ (fr + 8) ∧ 8 + (5 + 11) + lo ≤ (lo + 183) by omega) dX8_readFact_91) (n_ifne hE (by decide) dX8_readFact_94))))))),
    (n_sq (n_iconst hE (by decide) dX8_readFact_97) (n_zreturn hE rfl dX8_readFact_98)),
    (n_sq (n_aload_n hE dX8_readFact_99) (n_sq (n_bipush hE (by decide) dX8_readFact_100) (n_sq (n_cVv hE m_X8_add vc_X8_86 (show 0 + 1 ≤ (fr + 8) ∧ 8 + (2 + 11) + 0 ≤ (lo + 183) by omega) dX8_readFact_102) (n_sq (n_iconst hE (by decide) dX8_readFact_105) (n_zreturn hE rfl dX8_readFact_106))))),
    (n_sq (n_aload_n hE dX8_readFact_107) (n_sq (n_aload_n hE dX8_readFact_108) (n_sq (n_cIv hE m_X8_readSum vc_X8_72 (show 7 + 1 ≤ (fr + 8) ∧ 8 + (6 + 11) + 158 ≤ (lo + 183) by omega) dX8_readFact_109) (n_ifne hE (by decide) dX8_readFact_112)))),
    (n_sq (n_iconst hE (by decide) dX8_readFact_115) (n_zreturn hE rfl dX8_readFact_116)),
    (n_sq (n_aload_n hE dX8_readFact_117) (n_sq (n_cIv hE m_X10_sign vc_X8_37 (show 1 + 1 ≤ (fr + 8) ∧ 8 + (1 + 11) + 21 ≤ (lo + 183) by omega) dX8_readFact_118) (n_sq (n_pop hE dX8_readFact_121) (n_sq (n_aload_n hE dX8_readFact_122) (n_sq (n_getI hE xk_9 (k := 2) rfl (by decide) rfl wt_41 dX8_readFact_123) (n_sq (n_istore_n hE (show (3 : Nat) < 5 by decide) dX8_readFact_126) (n_sq (n_aload_n hE dX8_readFact_127) (n_sq (n_cIs hE m_X8_passCompare vc_X8_92 (show 1 + 1 ≤ (fr + 8) ∧ 8 + (2 + 11) + 21 ≤ (lo + 183) by omega) dX8_readFact_128) (n_sq (n_istore hE (show (4 : Nat) < 5 by decide) dX8_readFact_131) (n_sq (n_iload hE dX8_readFact_133) (n_ifne hE (by decide) dX8_readFact_135))))))))))),
    (n_sq (n_aload_n hE dX8_readFact_138) (n_sq (n_iload_n hE dX8_readFact_139) (n_sq (n_iconst hE (by decide) dX8_readFact_140) (n_sq (n_cIv hE m_X10_fail vc_X8_65 (show 0 + 1 ≤ (fr + 8) ∧ 8 + (3 + 11) + 0 ≤ (lo + 183) by omega) dX8_readFact_141) (n_zreturn hE rfl dX8_readFact_144))))),
    (n_sq (n_aload_n hE dX8_readFact_145) (n_sq (n_aload_n hE dX8_readFact_146) (n_sq (n_iload_n hE dX8_readFact_147) (n_sq (n_cIv hE m_X8_isCounted vc_X8_96 (show 1 + 1 ≤ (fr + 8) ∧ 8 + (3 + 11) + 22 ≤ (lo + 183) by omega) dX8_readFact_148) (n_ifeq hE (by decide) dX8_readFact_151))))),
    (n_sq (n_aload_n hE dX8_readFact_154) (n_sq (n_aload_n hE dX8_readFact_155) (n_sq (n_cIv hE m_X8_readSum vc_X8_72 (show 7 + 1 ≤ (fr + 8) ∧ 8 + (6 + 11) + 158 ≤ (lo + 183) by omega) dX8_readFact_156) (n_ifne hE (by decide) dX8_readFact_159)))),
    (n_sq (n_iconst hE (by decide) dX8_readFact_162) (n_zreturn hE rfl dX8_readFact_163)),
    (n_sq (n_aload_n hE dX8_readFact_164) (n_sq (n_iload hE dX8_readFact_165) (n_sq (n_cVv hE m_X8_add vc_X8_86 (show 0 + 1 ≤ (fr + 8) ∧ 8 + (2 + 11) + 0 ≤ (lo + 183) by omega) dX8_readFact_167) (n_sq (n_iconst hE (by decide) dX8_readFact_170) (n_zreturn hE rfl dX8_readFact_171))))), trivial⟩
noncomputable def q_X8_readFact_0 (G0 G1 : List XV → XW → Option (Int32 × XW)) (x2 : Int32) (w : XW) : Option XR := ev (bs_X8_readFact G0 G1) 0 ([some (.inr (7, 0)), some (.inr (9, 0)), some (.inl (.int x2)), none, none], [], w)
noncomputable def q_X8_readFact_9 (G0 G1 : List XV → XW → Option (Int32 × XW)) (x2 : Int32) (w : XW) : Option XR := ev (bs_X8_readFact G0 G1) 9 ([some (.inr (7, 0)), some (.inr (9, 0)), some (.inl (.int x2)), none, none], [], w)
noncomputable def q_X8_readFact_15 (G0 G1 : List XV → XW → Option (Int32 × XW)) (w : XW) : Option XR := ev (bs_X8_readFact G0 G1) 15 ([none, some (.inr (9, 0)), none, none, none], [], w)
noncomputable def q_X8_readFact_25 (G0 G1 : List XV → XW → Option (Int32 × XW)) (x2 : Int32) (w : XW) : Option XR := ev (bs_X8_readFact G0 G1) 25 ([some (.inr (7, 0)), some (.inr (9, 0)), some (.inl (.int x2)), none, none], [], w)
noncomputable def q_X8_readFact_46 (G0 G1 : List XV → XW → Option (Int32 × XW)) (w : XW) : Option XR := ev (bs_X8_readFact G0 G1) 46 ([none, some (.inr (9, 0)), none, none, none], [], w)
noncomputable def q_X8_readFact_55 (G0 G1 : List XV → XW → Option (Int32 × XW)) (w : XW) : Option XR := ev (bs_X8_readFact G0 G1) 55 ([none, none, none, none, none], [], w)
noncomputable def q_X8_readFact_59 (G0 G1 : List XV → XW → Option (Int32 × XW)) (w : XW) : Option XR := ev (bs_X8_readFact G0 G1) 59 ([none, none, none, none, none], [], w)
noncomputable def q_X8_readFact_60 (G0 G1 : List XV → XW → Option (Int32 × XW)) (s0 : Int32) (w : XW) : Option XR := ev (bs_X8_readFact G0 G1) 60 ([none, none, none, none, none], [.inl (.int s0)], w)
noncomputable def q_X8_readFact_61 (G0 G1 : List XV → XW → Option (Int32 × XW)) (x2 : Int32) (w : XW) : Option XR := ev (bs_X8_readFact G0 G1) 61 ([some (.inr (7, 0)), some (.inr (9, 0)), some (.inl (.int x2)), none, none], [], w)
noncomputable def q_X8_readFact_70 (G0 G1 : List XV → XW → Option (Int32 × XW)) (x2 : Int32) (w : XW) : Option XR := ev (bs_X8_readFact G0 G1) 70 ([some (.inr (7, 0)), some (.inr (9, 0)), some (.inl (.int x2)), none, none], [], w)
noncomputable def q_X8_readFact_76 (G0 G1 : List XV → XW → Option (Int32 × XW)) (w : XW) : Option XR := ev (bs_X8_readFact G0 G1) 76 ([none, some (.inr (9, 0)), none, none, none], [], w)
noncomputable def q_X8_readFact_86 (G0 G1 : List XV → XW → Option (Int32 × XW)) (x2 : Int32) (w : XW) : Option XR := ev (bs_X8_readFact G0 G1) 86 ([some (.inr (7, 0)), some (.inr (9, 0)), some (.inl (.int x2)), none, none], [], w)
noncomputable def q_X8_readFact_97 (G0 G1 : List XV → XW → Option (Int32 × XW)) (w : XW) : Option XR := ev (bs_X8_readFact G0 G1) 97 ([none, none, none, none, none], [], w)
noncomputable def q_X8_readFact_99 (G0 G1 : List XV → XW → Option (Int32 × XW)) (w : XW) : Option XR := ev (bs_X8_readFact G0 G1) 99 ([some (.inr (7, 0)), none, none, none, none], [], w)
noncomputable def q_X8_readFact_107 (G0 G1 : List XV → XW → Option (Int32 × XW)) (w : XW) : Option XR := ev (bs_X8_readFact G0 G1) 107 ([some (.inr (7, 0)), some (.inr (9, 0)), none, none, none], [], w)
noncomputable def q_X8_readFact_115 (G0 G1 : List XV → XW → Option (Int32 × XW)) (w : XW) : Option XR := ev (bs_X8_readFact G0 G1) 115 ([none, none, none, none, none], [], w)
noncomputable def q_X8_readFact_117 (G0 G1 : List XV → XW → Option (Int32 × XW)) (w : XW) : Option XR := ev (bs_X8_readFact G0 G1) 117 ([some (.inr (7, 0)), some (.inr (9, 0)), none, none, none], [], w)
noncomputable def q_X8_readFact_138 (G0 G1 : List XV → XW → Option (Int32 × XW)) (x3 : Int32) (w : XW) : Option XR := ev (bs_X8_readFact G0 G1) 138 ([none, some (.inr (9, 0)), none, some (.inl (.int x3)), none], [], w)
noncomputable def q_X8_readFact_145 (G0 G1 : List XV → XW → Option (Int32 × XW)) (x3 : Int32) (x4 : Int32) (w : XW) : Option XR := ev (bs_X8_readFact G0 G1) 145 ([some (.inr (7, 0)), some (.inr (9, 0)), none, some (.inl (.int x3)), some (.inl (.int x4))], [], w)
noncomputable def q_X8_readFact_154 (G0 G1 : List XV → XW → Option (Int32 × XW)) (x4 : Int32) (w : XW) : Option XR := ev (bs_X8_readFact G0 G1) 154 ([some (.inr (7, 0)), some (.inr (9, 0)), none, none, some (.inl (.int x4))], [], w)
noncomputable def q_X8_readFact_162 (G0 G1 : List XV → XW → Option (Int32 × XW)) (w : XW) : Option XR := ev (bs_X8_readFact G0 G1) 162 ([none, none, none, none, none], [], w)
noncomputable def q_X8_readFact_164 (G0 G1 : List XV → XW → Option (Int32 × XW)) (x4 : Int32) (w : XW) : Option XR := ev (bs_X8_readFact G0 G1) 164 ([some (.inr (7, 0)), none, none, none, some (.inl (.int x4))], [], w)
theorem e_X8_readFact_0 (G0 G1 : List XV → XW → Option (Int32 × XW)) (x2 : Int32) (w : XW) : q_X8_readFact_0 G0 G1 x2 w = ((F_X10_sign [.inr (9, 0)] w).bind fun r0 => (bif decide (¬ r0.1 = 91) then (q_X8_readFact_61 G0 G1 x2 r0.2) else (q_X8_readFact_9 G0 G1 x2 r0.2))) := (ev_eq _ _ _).trans rfl
theorem e_X8_readFact_9 (G0 G1 : List XV → XW → Option (Int32 × XW)) (x2 : Int32) (w : XW) : q_X8_readFact_9 G0 G1 x2 w = (bif decide (x2 < 10) then (q_X8_readFact_25 G0 G1 x2 w) else (q_X8_readFact_15 G0 G1 w)) := (ev_eq _ _ _).trans rfl
theorem e_X8_readFact_15 (G0 G1 : List XV → XW → Option (Int32 × XW)) (w : XW) : q_X8_readFact_15 G0 G1 w = ((F_X10_fail [.inr (9, 0), .inl (.int (gI w 9 0 2)), .inl (.int 2)] w).bind fun r0 => (if r0.1 = 0 ∨ r0.1 = 1 then some (some (.inl (.int r0.1)), r0.2) else none)) := (ev_eq _ _ _).trans rfl
theorem e_X8_readFact_25 (G0 G1 : List XV → XW → Option (Int32 × XW)) (x2 : Int32) (w : XW) : q_X8_readFact_25 G0 G1 x2 w = ((G1 [.inr (7, 0), .inr (9, 0), .inl (.int (x2 + 1))] (sI w 9 0 2 ((gI w 9 0 2) + 1))).bind fun r0 => (bif decide (r0.1 = 0) then (q_X8_readFact_59 G0 G1 r0.2) else (q_X8_readFact_46 G0 G1 r0.2))) := (ev_eq _ _ _).trans rfl
theorem e_X8_readFact_46 (G0 G1 : List XV → XW → Option (Int32 × XW)) (w : XW) : q_X8_readFact_46 G0 G1 w = ((F_X10_passSign [.inr (9, 0), .inl (.int 93)] w).bind fun r0 => (bif decide (r0.1 = 0) then (q_X8_readFact_59 G0 G1 r0.2) else (q_X8_readFact_55 G0 G1 r0.2))) := (ev_eq _ _ _).trans rfl
theorem e_X8_readFact_55 (G0 G1 : List XV → XW → Option (Int32 × XW)) (w : XW) : q_X8_readFact_55 G0 G1 w = (q_X8_readFact_60 G0 G1 1 w) := (ev_eq _ _ _).trans rfl
theorem e_X8_readFact_59 (G0 G1 : List XV → XW → Option (Int32 × XW)) (w : XW) : q_X8_readFact_59 G0 G1 w = (q_X8_readFact_60 G0 G1 0 w) := (ev_eq _ _ _).trans rfl
theorem e_X8_readFact_60 (G0 G1 : List XV → XW → Option (Int32 × XW)) (s0 : Int32) (w : XW) : q_X8_readFact_60 G0 G1 s0 w = (if s0 = 0 ∨ s0 = 1 then some (some (.inl (.int s0)), w) else none) := (ev_eq _ _ _).trans rfl
theorem e_X8_readFact_61 (G0 G1 : List XV → XW → Option (Int32 × XW)) (x2 : Int32) (w : XW) : q_X8_readFact_61 G0 G1 x2 w = ((F_X10_passWord [.inr (9, 0), .inr (65, 5)] w).bind fun r0 => (bif decide (¬ r0.1 = 0) then (q_X8_readFact_107 G0 G1 r0.2) else (q_X8_readFact_70 G0 G1 x2 r0.2))) := (ev_eq _ _ _).trans rfl
theorem e_X8_readFact_70 (G0 G1 : List XV → XW → Option (Int32 × XW)) (x2 : Int32) (w : XW) : q_X8_readFact_70 G0 G1 x2 w = (bif decide (x2 < 10) then (q_X8_readFact_86 G0 G1 x2 w) else (q_X8_readFact_76 G0 G1 w)) := (ev_eq _ _ _).trans rfl
theorem e_X8_readFact_76 (G0 G1 : List XV → XW → Option (Int32 × XW)) (w : XW) : q_X8_readFact_76 G0 G1 w = ((F_X10_fail [.inr (9, 0), .inl (.int (gI w 9 0 3)), .inl (.int 2)] w).bind fun r0 => (if r0.1 = 0 ∨ r0.1 = 1 then some (some (.inl (.int r0.1)), r0.2) else none)) := (ev_eq _ _ _).trans rfl
theorem e_X8_readFact_86 (G0 G1 : List XV → XW → Option (Int32 × XW)) (x2 : Int32) (w : XW) : q_X8_readFact_86 G0 G1 x2 w = ((G0 [.inr (7, 0), .inr (9, 0), .inl (.int (x2 + 1))] w).bind fun r0 => (bif decide (¬ r0.1 = 0) then (q_X8_readFact_99 G0 G1 r0.2) else (q_X8_readFact_97 G0 G1 r0.2))) := (ev_eq _ _ _).trans rfl
theorem e_X8_readFact_97 (G0 G1 : List XV → XW → Option (Int32 × XW)) (w : XW) : q_X8_readFact_97 G0 G1 w = (some (some (.inl (.int 0)), w)) := (ev_eq _ _ _).trans rfl
theorem e_X8_readFact_99 (G0 G1 : List XV → XW → Option (Int32 × XW)) (w : XW) : q_X8_readFact_99 G0 G1 w = ((F_X8_add [.inr (7, 0), .inl (.int (-30))] w).bind fun r0 => (some (some (.inl (.int 1)), r0))) := (ev_eq _ _ _).trans rfl
theorem e_X8_readFact_107 (G0 G1 : List XV → XW → Option (Int32 × XW)) (w : XW) : q_X8_readFact_107 G0 G1 w = ((F_X8_readSum [.inr (7, 0), .inr (9, 0)] w).bind fun r0 => (bif decide (¬ r0.1 = 0) then (q_X8_readFact_117 G0 G1 r0.2) else (q_X8_readFact_115 G0 G1 r0.2))) := (ev_eq _ _ _).trans rfl
theorem e_X8_readFact_115 (G0 G1 : List XV → XW → Option (Int32 × XW)) (w : XW) : q_X8_readFact_115 G0 G1 w = (some (some (.inl (.int 0)), w)) := (ev_eq _ _ _).trans rfl
theorem e_X8_readFact_117 (G0 G1 : List XV → XW → Option (Int32 × XW)) (w : XW) : q_X8_readFact_117 G0 G1 w = ((F_X10_sign [.inr (9, 0)] w).bind fun r0 => ((F_X8_passCompare [.inr (9, 0)] r0.2).bind fun r1 => (bif decide (¬ r1.1 = 0) then (q_X8_readFact_145 G0 G1 (gI r0.2 9 0 2) r1.1 r1.2) else (q_X8_readFact_138 G0 G1 (gI r0.2 9 0 2) r1.2)))) := (ev_eq _ _ _).trans rfl
theorem e_X8_readFact_138 (G0 G1 : List XV → XW → Option (Int32 × XW)) (x3 : Int32) (w : XW) : q_X8_readFact_138 G0 G1 x3 w = ((F_X10_fail [.inr (9, 0), .inl (.int x3), .inl (.int 0)] w).bind fun r0 => (if r0.1 = 0 ∨ r0.1 = 1 then some (some (.inl (.int r0.1)), r0.2) else none)) := (ev_eq _ _ _).trans rfl
theorem e_X8_readFact_145 (G0 G1 : List XV → XW → Option (Int32 × XW)) (x3 : Int32) (x4 : Int32) (w : XW) : q_X8_readFact_145 G0 G1 x3 x4 w = ((F_X8_isCounted [.inr (7, 0), .inr (9, 0), .inl (.int x3)] w).bind fun r0 => (bif decide (r0.1 = 0) then (q_X8_readFact_162 G0 G1 r0.2) else (q_X8_readFact_154 G0 G1 x4 r0.2))) := (ev_eq _ _ _).trans rfl
theorem e_X8_readFact_154 (G0 G1 : List XV → XW → Option (Int32 × XW)) (x4 : Int32) (w : XW) : q_X8_readFact_154 G0 G1 x4 w = ((F_X8_readSum [.inr (7, 0), .inr (9, 0)] w).bind fun r0 => (bif decide (¬ r0.1 = 0) then (q_X8_readFact_164 G0 G1 x4 r0.2) else (q_X8_readFact_162 G0 G1 r0.2))) := (ev_eq _ _ _).trans rfl
theorem e_X8_readFact_162 (G0 G1 : List XV → XW → Option (Int32 × XW)) (w : XW) : q_X8_readFact_162 G0 G1 w = (some (some (.inl (.int 0)), w)) := (ev_eq _ _ _).trans rfl
theorem e_X8_readFact_164 (G0 G1 : List XV → XW → Option (Int32 × XW)) (x4 : Int32) (w : XW) : q_X8_readFact_164 G0 G1 x4 w = ((F_X8_add [.inr (7, 0), .inl (.int x4)] w).bind fun r0 => (some (some (.inl (.int 1)), r0))) := (ev_eq _ _ _).trans rfl

-- WinterKeep$RuleReader.readTest(LWinterKeep$Tape;I)Z
theorem dX8_readTest_0 : decode cX8_readTest 0 = .ok (.aload_n 0, 1) := by decide +kernel
theorem dX8_readTest_1 : decode cX8_readTest 1 = .ok (.aload_n 1, 1) := by decide +kernel
theorem dX8_readTest_2 : decode cX8_readTest 2 = .ok (.iload_n 2, 1) := by decide +kernel
theorem dX8_readTest_3 : decode cX8_readTest 3 = .ok (.invokevirtual 81, 3) := by decide +kernel
theorem dX8_readTest_6 : decode cX8_readTest 6 = .ok (.ifCond .ne 5, 3) := by decide +kernel
theorem dX8_readTest_9 : decode cX8_readTest 9 = .ok (.iconst 0, 1) := by decide +kernel
theorem dX8_readTest_10 : decode cX8_readTest 10 = .ok (.ireturn, 1) := by decide +kernel
theorem dX8_readTest_11 : decode cX8_readTest 11 = .ok (.iconst 0, 1) := by decide +kernel
theorem dX8_readTest_12 : decode cX8_readTest 12 = .ok (.istore_n 3, 1) := by decide +kernel
theorem dX8_readTest_13 : decode cX8_readTest 13 = .ok (.iconst 0, 1) := by decide +kernel
theorem dX8_readTest_14 : decode cX8_readTest 14 = .ok (.istore 4, 2) := by decide +kernel
theorem dX8_readTest_16 : decode cX8_readTest 16 = .ok (.iload 4, 2) := by decide +kernel
theorem dX8_readTest_18 : decode cX8_readTest 18 = .ok (.sipush 400, 3) := by decide +kernel
theorem dX8_readTest_21 : decode cX8_readTest 21 = .ok (.if_icmp .ge 82, 3) := by decide +kernel
theorem dX8_readTest_24 : decode cX8_readTest 24 = .ok (.aload_n 1, 1) := by decide +kernel
theorem dX8_readTest_25 : decode cX8_readTest 25 = .ok (.ldc 84, 2) := by decide +kernel
theorem dX8_readTest_27 : decode cX8_readTest 27 = .ok (.invokevirtual 58, 3) := by decide +kernel
theorem dX8_readTest_30 : decode cX8_readTest 30 = .ok (.istore 5, 2) := by decide +kernel
theorem dX8_readTest_32 : decode cX8_readTest 32 = .ok (.iload 5, 2) := by decide +kernel
theorem dX8_readTest_34 : decode cX8_readTest 34 = .ok (.iconst 1, 1) := by decide +kernel
theorem dX8_readTest_35 : decode cX8_readTest 35 = .ok (.if_icmp .ne 7, 3) := by decide +kernel
theorem dX8_readTest_38 : decode cX8_readTest 38 = .ok (.iconst 1, 1) := by decide +kernel
theorem dX8_readTest_39 : decode cX8_readTest 39 = .ok (.goto 4, 3) := by decide +kernel
theorem dX8_readTest_42 : decode cX8_readTest 42 = .ok (.iconst 0, 1) := by decide +kernel
theorem dX8_readTest_43 : decode cX8_readTest 43 = .ok (.istore 6, 2) := by decide +kernel
theorem dX8_readTest_45 : decode cX8_readTest 45 = .ok (.iload_n 3, 1) := by decide +kernel
theorem dX8_readTest_46 : decode cX8_readTest 46 = .ok (.ifCond .eq 16, 3) := by decide +kernel
theorem dX8_readTest_49 : decode cX8_readTest 49 = .ok (.iload 6, 2) := by decide +kernel
theorem dX8_readTest_51 : decode cX8_readTest 51 = .ok (.ifCond .ne 11, 3) := by decide +kernel
theorem dX8_readTest_54 : decode cX8_readTest 54 = .ok (.aload_n 0, 1) := by decide +kernel
theorem dX8_readTest_55 : decode cX8_readTest 55 = .ok (.bipush (-32), 2) := by decide +kernel
theorem dX8_readTest_57 : decode cX8_readTest 57 = .ok (.invokevirtual 86, 3) := by decide +kernel
theorem dX8_readTest_60 : decode cX8_readTest 60 = .ok (.iconst 0, 1) := by decide +kernel
theorem dX8_readTest_61 : decode cX8_readTest 61 = .ok (.istore_n 3, 1) := by decide +kernel
theorem dX8_readTest_62 : decode cX8_readTest 62 = .ok (.iload 5, 2) := by decide +kernel
theorem dX8_readTest_64 : decode cX8_readTest 64 = .ok (.iconst (-1), 1) := by decide +kernel
theorem dX8_readTest_65 : decode cX8_readTest 65 = .ok (.if_icmp .ne 5, 3) := by decide +kernel
theorem dX8_readTest_68 : decode cX8_readTest 68 = .ok (.iconst 1, 1) := by decide +kernel
theorem dX8_readTest_69 : decode cX8_readTest 69 = .ok (.ireturn, 1) := by decide +kernel
theorem dX8_readTest_70 : decode cX8_readTest 70 = .ok (.aload_n 0, 1) := by decide +kernel
theorem dX8_readTest_71 : decode cX8_readTest 71 = .ok (.aload_n 1, 1) := by decide +kernel
theorem dX8_readTest_72 : decode cX8_readTest 72 = .ok (.iload_n 2, 1) := by decide +kernel
theorem dX8_readTest_73 : decode cX8_readTest 73 = .ok (.invokevirtual 81, 3) := by decide +kernel
theorem dX8_readTest_76 : decode cX8_readTest 76 = .ok (.ifCond .ne 5, 3) := by decide +kernel
theorem dX8_readTest_79 : decode cX8_readTest 79 = .ok (.iconst 0, 1) := by decide +kernel
theorem dX8_readTest_80 : decode cX8_readTest 80 = .ok (.ireturn, 1) := by decide +kernel
theorem dX8_readTest_81 : decode cX8_readTest 81 = .ok (.iload 6, 2) := by decide +kernel
theorem dX8_readTest_83 : decode cX8_readTest 83 = .ok (.ifCond .eq 12, 3) := by decide +kernel
theorem dX8_readTest_86 : decode cX8_readTest 86 = .ok (.aload_n 0, 1) := by decide +kernel
theorem dX8_readTest_87 : decode cX8_readTest 87 = .ok (.bipush (-31), 2) := by decide +kernel
theorem dX8_readTest_89 : decode cX8_readTest 89 = .ok (.invokevirtual 86, 3) := by decide +kernel
theorem dX8_readTest_92 : decode cX8_readTest 92 = .ok (.goto 5, 3) := by decide +kernel
theorem dX8_readTest_95 : decode cX8_readTest 95 = .ok (.iconst 1, 1) := by decide +kernel
theorem dX8_readTest_96 : decode cX8_readTest 96 = .ok (.istore_n 3, 1) := by decide +kernel
theorem dX8_readTest_97 : decode cX8_readTest 97 = .ok (.iinc 4 1, 3) := by decide +kernel
theorem dX8_readTest_100 : decode cX8_readTest 100 = .ok (.goto (-84), 3) := by decide +kernel
theorem dX8_readTest_103 : decode cX8_readTest 103 = .ok (.iconst 1, 1) := by decide +kernel
theorem dX8_readTest_104 : decode cX8_readTest 104 = .ok (.ireturn, 1) := by decide +kernel
noncomputable def bs_X8_readTest (G0 G1 : List XV → XW → Option (Int32 × XW)) : List (Nat × XB) := [
  (0, (sq (xLA 0) (sq (xLA 1) (sq (xLI 2) (sq (xCI 7 3 G0) (tIf1 (fun x => decide (¬ x = 0)) 11 [true, true, true, false, false, false, false] 9 [false, false, false, false, false, false, false])))))),
  (9, (sq (xC (.int 0)) tRZ)),
  (11, (sq (xC (.int 0)) (sq (xSI 3) (sq (xC (.int 0)) (sq (xSI 4) (tGo 16 [true, true, true, true, true, false, false])))))),
  (16, (sq (xLI 4) (sq (xC (.int 400)) (tIf2 (fun x y => decide (y ≤ x)) 103 [false, false, false, false, false, false, false] 24 [true, true, true, true, true, false, false])))),
  (24, (sq (xLA 1) (sq (xStr 4) (sq (xCI 9 2 F_X10_passWord) (sq (xSI 5) (sq (xLI 5) (sq (xC (.int 1)) (tIf2 (fun x y => decide (¬ x = y)) 42 [true, true, true, true, true, true, false] 38 [true, true, true, true, true, true, false])))))))),
  (38, (sq (xC (.int 1)) (tGo 43 [true, true, true, true, true, true, false]))),
  (42, (sq (xC (.int 0)) (tGo 43 [true, true, true, true, true, true, false]))),
  (43, (sq (xSI 6) (sq (xLI 3) (tIf1 (fun x => decide (x = 0)) 62 [true, true, true, true, true, true, true] 49 [true, true, true, true, true, true, true])))),
  (49, (sq (xLI 6) (tIf1 (fun x => decide (¬ x = 0)) 62 [true, true, true, true, true, true, true] 54 [true, true, true, false, true, true, true]))),
  (54, (sq (xLA 0) (sq (xC (.int (-32))) (sq (xCV 7 2 F_X8_add) (sq (xC (.int 0)) (sq (xSI 3) (tGo 62 [true, true, true, true, true, true, true]))))))),
  (62, (sq (xLI 5) (sq (xC (.int (-1))) (tIf2 (fun x y => decide (¬ x = y)) 70 [true, true, true, true, true, false, true] 68 [false, false, false, false, false, false, false])))),
  (68, (sq (xC (.int 1)) tRZ)),
  (70, (sq (xLA 0) (sq (xLA 1) (sq (xLI 2) (sq (xCI 7 3 G0) (tIf1 (fun x => decide (¬ x = 0)) 81 [true, true, true, true, true, false, true] 79 [false, false, false, false, false, false, false])))))),
  (79, (sq (xC (.int 0)) tRZ)),
  (81, (sq (xLI 6) (tIf1 (fun x => decide (x = 0)) 95 [true, true, true, false, true, false, false] 86 [true, true, true, true, true, false, false]))),
  (86, (sq (xLA 0) (sq (xC (.int (-31))) (sq (xCV 7 2 F_X8_add) (tGo 97 [true, true, true, true, true, false, false]))))),
  (95, (sq (xC (.int 1)) (sq (xSI 3) (tGo 97 [true, true, true, true, true, false, false])))),
  (97, (sq (xInc 4 1) (tGo 16 [true, true, true, true, true, false, false]))),
  (103, (sq (xC (.int 1)) tRZ))]
set_option maxRecDepth 100000 in
set_option maxHeartbeats 4000000 in
theorem s_X8_readTest {G0 G1 : List XV → XW → Option (Int32 × XW)} (fr lo : Nat) (hG0 : XM yX8_readFact cX8_readFact 5 (some .boolean) fr lo (eI G0)) (hG1 : XM yX8_readTest cX8_readTest 7 (some .boolean) fr lo (eI G1)) : ∀ X : XCtx, XE X → X.2.2.1.1 = cX8_readTest → X.2.2.1.2.1 = 7 → X.2.2.1.2.2.1 = yX8_readTest.cls → X.2.2.1.2.2.2.1 = (some .boolean) → X.1.2.2.2.1 = { frames := fr + 8, cells := 0, slots := 0, locals := lo + 183 } → SndBs X (bs_X8_readTest G0 G1) := by
  rintro ⟨⟨p, l, e, R, s⟩, Y, ⟨cc, nL, own, ret, Ts⟩, Z⟩ hE h1 h2 h3 h4 h5
  dsimp only at h1 h2 h3 h4 h5
  subst h1 h2 h3 h4 h5
  exact ⟨(n_sq (n_aload_n hE dX8_readTest_0) (n_sq (n_aload_n hE dX8_readTest_1) (n_sq (n_iload_n hE dX8_readTest_2) (n_sq (n_cIv hE hG0 vc_X8_81 (show fr + 1 ≤ (fr + 8) ∧ 8 + (5 + 11) + lo ≤ (lo + 183) by omega) dX8_readTest_3) (n_ifne hE (by decide) dX8_readTest_6))))),
    (n_sq (n_iconst hE (by decide) dX8_readTest_9) (n_zreturn hE rfl dX8_readTest_10)),
    (n_sq (n_iconst hE (by decide) dX8_readTest_11) (n_sq (n_istore_n hE (show (3 : Nat) < 7 by decide) dX8_readTest_12) (n_sq (n_iconst hE (by decide) dX8_readTest_13) (n_sq (n_istore hE (show (4 : Nat) < 7 by decide) dX8_readTest_14) n_fall)))),
    (n_sq (n_iload hE dX8_readTest_16) (n_sq (n_sipush hE (by decide) dX8_readTest_18) (n_ifcge hE (by decide) dX8_readTest_21))),
    (n_sq (n_aload_n hE dX8_readTest_24) (n_sq (n_ldcS hE rfl (by decide) dX8_readTest_25) (n_sq (n_cIv hE m_X10_passWord vc_X8_58 (show 5 + 1 ≤ (fr + 8) ∧ 8 + (6 + 11) + 110 ≤ (lo + 183) by omega) dX8_readTest_27) (n_sq (n_istore hE (show (5 : Nat) < 7 by decide) dX8_readTest_30) (n_sq (n_iload hE dX8_readTest_32) (n_sq (n_iconst hE (by decide) dX8_readTest_34) (n_ifcne hE (by decide) dX8_readTest_35))))))),
    (n_sq (n_iconst hE (by decide) dX8_readTest_38) (n_goto hE (by decide) dX8_readTest_39)),
    (n_sq (n_iconst hE (by decide) dX8_readTest_42) n_fall),
    (n_sq (n_istore hE (show (6 : Nat) < 7 by decide) dX8_readTest_43) (n_sq (n_iload_n hE dX8_readTest_45) (n_ifeq hE (by decide) dX8_readTest_46))),
    (n_sq (n_iload hE dX8_readTest_49) (n_ifne hE (by decide) dX8_readTest_51)),
    (n_sq (n_aload_n hE dX8_readTest_54) (n_sq (n_bipush hE (by decide) dX8_readTest_55) (n_sq (n_cVv hE m_X8_add vc_X8_86 (show 0 + 1 ≤ (fr + 8) ∧ 8 + (2 + 11) + 0 ≤ (lo + 183) by omega) dX8_readTest_57) (n_sq (n_iconst hE (by decide) dX8_readTest_60) (n_sq (n_istore_n hE (show (3 : Nat) < 7 by decide) dX8_readTest_61) n_fall))))),
    (n_sq (n_iload hE dX8_readTest_62) (n_sq (n_iconst hE (by decide) dX8_readTest_64) (n_ifcne hE (by decide) dX8_readTest_65))),
    (n_sq (n_iconst hE (by decide) dX8_readTest_68) (n_zreturn hE rfl dX8_readTest_69)),
    (n_sq (n_aload_n hE dX8_readTest_70) (n_sq (n_aload_n hE dX8_readTest_71) (n_sq (n_iload_n hE dX8_readTest_72) (n_sq (n_cIv hE hG0 vc_X8_81 (show fr + 1 ≤ (fr + 8) ∧ 8 + (5 + 11) + lo ≤ (lo + 183) by omega) dX8_readTest_73) (n_ifne hE (by decide) dX8_readTest_76))))),
    (n_sq (n_iconst hE (by decide) dX8_readTest_79) (n_zreturn hE rfl dX8_readTest_80)),
    (n_sq (n_iload hE dX8_readTest_81) (n_ifeq hE (by decide) dX8_readTest_83)),
    (n_sq (n_aload_n hE dX8_readTest_86) (n_sq (n_bipush hE (by decide) dX8_readTest_87) (n_sq (n_cVv hE m_X8_add vc_X8_86 (show 0 + 1 ≤ (fr + 8) ∧ 8 + (2 + 11) + 0 ≤ (lo + 183) by omega) dX8_readTest_89) (n_goto hE (by decide) dX8_readTest_92)))),
    (n_sq (n_iconst hE (by decide) dX8_readTest_95) (n_sq (n_istore_n hE (show (3 : Nat) < 7 by decide) dX8_readTest_96) n_fall)),
    (n_sq (n_iinc hE (by decide) (show (4 : Nat) < 7 by decide) dX8_readTest_97) (n_goto hE (by decide) dX8_readTest_100)),
    (n_sq (n_iconst hE (by decide) dX8_readTest_103) (n_zreturn hE rfl dX8_readTest_104)), trivial⟩
noncomputable def q_X8_readTest_0 (G0 G1 : List XV → XW → Option (Int32 × XW)) (x2 : Int32) (w : XW) : Option XR := ev (bs_X8_readTest G0 G1) 0 ([some (.inr (7, 0)), some (.inr (9, 0)), some (.inl (.int x2)), none, none, none, none], [], w)
noncomputable def q_X8_readTest_9 (G0 G1 : List XV → XW → Option (Int32 × XW)) (w : XW) : Option XR := ev (bs_X8_readTest G0 G1) 9 ([none, none, none, none, none, none, none], [], w)
noncomputable def q_X8_readTest_11 (G0 G1 : List XV → XW → Option (Int32 × XW)) (x2 : Int32) (w : XW) : Option XR := ev (bs_X8_readTest G0 G1) 11 ([some (.inr (7, 0)), some (.inr (9, 0)), some (.inl (.int x2)), none, none, none, none], [], w)
noncomputable def q_X8_readTest_16 (G0 G1 : List XV → XW → Option (Int32 × XW)) (x2 : Int32) (x3 : Int32) (x4 : Int32) (w : XW) : Option XR := ev (bs_X8_readTest G0 G1) 16 ([some (.inr (7, 0)), some (.inr (9, 0)), some (.inl (.int x2)), some (.inl (.int x3)), some (.inl (.int x4)), none, none], [], w)
noncomputable def q_X8_readTest_24 (G0 G1 : List XV → XW → Option (Int32 × XW)) (x2 : Int32) (x3 : Int32) (x4 : Int32) (w : XW) : Option XR := ev (bs_X8_readTest G0 G1) 24 ([some (.inr (7, 0)), some (.inr (9, 0)), some (.inl (.int x2)), some (.inl (.int x3)), some (.inl (.int x4)), none, none], [], w)
noncomputable def q_X8_readTest_38 (G0 G1 : List XV → XW → Option (Int32 × XW)) (x2 : Int32) (x3 : Int32) (x4 : Int32) (x5 : Int32) (w : XW) : Option XR := ev (bs_X8_readTest G0 G1) 38 ([some (.inr (7, 0)), some (.inr (9, 0)), some (.inl (.int x2)), some (.inl (.int x3)), some (.inl (.int x4)), some (.inl (.int x5)), none], [], w)
noncomputable def q_X8_readTest_42 (G0 G1 : List XV → XW → Option (Int32 × XW)) (x2 : Int32) (x3 : Int32) (x4 : Int32) (x5 : Int32) (w : XW) : Option XR := ev (bs_X8_readTest G0 G1) 42 ([some (.inr (7, 0)), some (.inr (9, 0)), some (.inl (.int x2)), some (.inl (.int x3)), some (.inl (.int x4)), some (.inl (.int x5)), none], [], w)
noncomputable def q_X8_readTest_43 (G0 G1 : List XV → XW → Option (Int32 × XW)) (x2 : Int32) (x3 : Int32) (x4 : Int32) (x5 : Int32) (s0 : Int32) (w : XW) : Option XR := ev (bs_X8_readTest G0 G1) 43 ([some (.inr (7, 0)), some (.inr (9, 0)), some (.inl (.int x2)), some (.inl (.int x3)), some (.inl (.int x4)), some (.inl (.int x5)), none], [.inl (.int s0)], w)
noncomputable def q_X8_readTest_49 (G0 G1 : List XV → XW → Option (Int32 × XW)) (x2 : Int32) (x3 : Int32) (x4 : Int32) (x5 : Int32) (x6 : Int32) (w : XW) : Option XR := ev (bs_X8_readTest G0 G1) 49 ([some (.inr (7, 0)), some (.inr (9, 0)), some (.inl (.int x2)), some (.inl (.int x3)), some (.inl (.int x4)), some (.inl (.int x5)), some (.inl (.int x6))], [], w)
noncomputable def q_X8_readTest_54 (G0 G1 : List XV → XW → Option (Int32 × XW)) (x2 : Int32) (x4 : Int32) (x5 : Int32) (x6 : Int32) (w : XW) : Option XR := ev (bs_X8_readTest G0 G1) 54 ([some (.inr (7, 0)), some (.inr (9, 0)), some (.inl (.int x2)), none, some (.inl (.int x4)), some (.inl (.int x5)), some (.inl (.int x6))], [], w)
noncomputable def q_X8_readTest_62 (G0 G1 : List XV → XW → Option (Int32 × XW)) (x2 : Int32) (x3 : Int32) (x4 : Int32) (x5 : Int32) (x6 : Int32) (w : XW) : Option XR := ev (bs_X8_readTest G0 G1) 62 ([some (.inr (7, 0)), some (.inr (9, 0)), some (.inl (.int x2)), some (.inl (.int x3)), some (.inl (.int x4)), some (.inl (.int x5)), some (.inl (.int x6))], [], w)
noncomputable def q_X8_readTest_68 (G0 G1 : List XV → XW → Option (Int32 × XW)) (w : XW) : Option XR := ev (bs_X8_readTest G0 G1) 68 ([none, none, none, none, none, none, none], [], w)
noncomputable def q_X8_readTest_70 (G0 G1 : List XV → XW → Option (Int32 × XW)) (x2 : Int32) (x3 : Int32) (x4 : Int32) (x6 : Int32) (w : XW) : Option XR := ev (bs_X8_readTest G0 G1) 70 ([some (.inr (7, 0)), some (.inr (9, 0)), some (.inl (.int x2)), some (.inl (.int x3)), some (.inl (.int x4)), none, some (.inl (.int x6))], [], w)
noncomputable def q_X8_readTest_79 (G0 G1 : List XV → XW → Option (Int32 × XW)) (w : XW) : Option XR := ev (bs_X8_readTest G0 G1) 79 ([none, none, none, none, none, none, none], [], w)
noncomputable def q_X8_readTest_81 (G0 G1 : List XV → XW → Option (Int32 × XW)) (x2 : Int32) (x3 : Int32) (x4 : Int32) (x6 : Int32) (w : XW) : Option XR := ev (bs_X8_readTest G0 G1) 81 ([some (.inr (7, 0)), some (.inr (9, 0)), some (.inl (.int x2)), some (.inl (.int x3)), some (.inl (.int x4)), none, some (.inl (.int x6))], [], w)
noncomputable def q_X8_readTest_86 (G0 G1 : List XV → XW → Option (Int32 × XW)) (x2 : Int32) (x3 : Int32) (x4 : Int32) (w : XW) : Option XR := ev (bs_X8_readTest G0 G1) 86 ([some (.inr (7, 0)), some (.inr (9, 0)), some (.inl (.int x2)), some (.inl (.int x3)), some (.inl (.int x4)), none, none], [], w)
noncomputable def q_X8_readTest_95 (G0 G1 : List XV → XW → Option (Int32 × XW)) (x2 : Int32) (x4 : Int32) (w : XW) : Option XR := ev (bs_X8_readTest G0 G1) 95 ([some (.inr (7, 0)), some (.inr (9, 0)), some (.inl (.int x2)), none, some (.inl (.int x4)), none, none], [], w)
noncomputable def q_X8_readTest_97 (G0 G1 : List XV → XW → Option (Int32 × XW)) (x2 : Int32) (x3 : Int32) (x4 : Int32) (w : XW) : Option XR := ev (bs_X8_readTest G0 G1) 97 ([some (.inr (7, 0)), some (.inr (9, 0)), some (.inl (.int x2)), some (.inl (.int x3)), some (.inl (.int x4)), none, none], [], w)
noncomputable def q_X8_readTest_103 (G0 G1 : List XV → XW → Option (Int32 × XW)) (w : XW) : Option XR := ev (bs_X8_readTest G0 G1) 103 ([none, none, none, none, none, none, none], [], w)
theorem e_X8_readTest_0 (G0 G1 : List XV → XW → Option (Int32 × XW)) (x2 : Int32) (w : XW) : q_X8_readTest_0 G0 G1 x2 w = ((G0 [.inr (7, 0), .inr (9, 0), .inl (.int x2)] w).bind fun r0 => (bif decide (¬ r0.1 = 0) then (q_X8_readTest_11 G0 G1 x2 r0.2) else (q_X8_readTest_9 G0 G1 r0.2))) := (ev_eq _ _ _).trans rfl
theorem e_X8_readTest_9 (G0 G1 : List XV → XW → Option (Int32 × XW)) (w : XW) : q_X8_readTest_9 G0 G1 w = (some (some (.inl (.int 0)), w)) := (ev_eq _ _ _).trans rfl
theorem e_X8_readTest_11 (G0 G1 : List XV → XW → Option (Int32 × XW)) (x2 : Int32) (w : XW) : q_X8_readTest_11 G0 G1 x2 w = (q_X8_readTest_16 G0 G1 x2 0 0 w) := (ev_eq _ _ _).trans rfl
theorem e_X8_readTest_16 (G0 G1 : List XV → XW → Option (Int32 × XW)) (x2 : Int32) (x3 : Int32) (x4 : Int32) (w : XW) : q_X8_readTest_16 G0 G1 x2 x3 x4 w = (bif decide (400 ≤ x4) then (q_X8_readTest_103 G0 G1 w) else (q_X8_readTest_24 G0 G1 x2 x3 x4 w)) := (ev_eq _ _ _).trans rfl
theorem e_X8_readTest_24 (G0 G1 : List XV → XW → Option (Int32 × XW)) (x2 : Int32) (x3 : Int32) (x4 : Int32) (w : XW) : q_X8_readTest_24 G0 G1 x2 x3 x4 w = ((F_X10_passWord [.inr (9, 0), .inr (65, 4)] w).bind fun r0 => (bif decide (¬ r0.1 = 1) then (q_X8_readTest_42 G0 G1 x2 x3 x4 r0.1 r0.2) else (q_X8_readTest_38 G0 G1 x2 x3 x4 r0.1 r0.2))) := (ev_eq _ _ _).trans rfl
theorem e_X8_readTest_38 (G0 G1 : List XV → XW → Option (Int32 × XW)) (x2 : Int32) (x3 : Int32) (x4 : Int32) (x5 : Int32) (w : XW) : q_X8_readTest_38 G0 G1 x2 x3 x4 x5 w = (q_X8_readTest_43 G0 G1 x2 x3 x4 x5 1 w) := (ev_eq _ _ _).trans rfl
theorem e_X8_readTest_42 (G0 G1 : List XV → XW → Option (Int32 × XW)) (x2 : Int32) (x3 : Int32) (x4 : Int32) (x5 : Int32) (w : XW) : q_X8_readTest_42 G0 G1 x2 x3 x4 x5 w = (q_X8_readTest_43 G0 G1 x2 x3 x4 x5 0 w) := (ev_eq _ _ _).trans rfl
theorem e_X8_readTest_43 (G0 G1 : List XV → XW → Option (Int32 × XW)) (x2 : Int32) (x3 : Int32) (x4 : Int32) (x5 : Int32) (s0 : Int32) (w : XW) : q_X8_readTest_43 G0 G1 x2 x3 x4 x5 s0 w = (bif decide (x3 = 0) then (q_X8_readTest_62 G0 G1 x2 x3 x4 x5 s0 w) else (q_X8_readTest_49 G0 G1 x2 x3 x4 x5 s0 w)) := (ev_eq _ _ _).trans rfl
theorem e_X8_readTest_49 (G0 G1 : List XV → XW → Option (Int32 × XW)) (x2 : Int32) (x3 : Int32) (x4 : Int32) (x5 : Int32) (x6 : Int32) (w : XW) : q_X8_readTest_49 G0 G1 x2 x3 x4 x5 x6 w = (bif decide (¬ x6 = 0) then (q_X8_readTest_62 G0 G1 x2 x3 x4 x5 x6 w) else (q_X8_readTest_54 G0 G1 x2 x4 x5 x6 w)) := (ev_eq _ _ _).trans rfl
theorem e_X8_readTest_54 (G0 G1 : List XV → XW → Option (Int32 × XW)) (x2 : Int32) (x4 : Int32) (x5 : Int32) (x6 : Int32) (w : XW) : q_X8_readTest_54 G0 G1 x2 x4 x5 x6 w = ((F_X8_add [.inr (7, 0), .inl (.int (-32))] w).bind fun r0 => (q_X8_readTest_62 G0 G1 x2 0 x4 x5 x6 r0)) := (ev_eq _ _ _).trans rfl
theorem e_X8_readTest_62 (G0 G1 : List XV → XW → Option (Int32 × XW)) (x2 : Int32) (x3 : Int32) (x4 : Int32) (x5 : Int32) (x6 : Int32) (w : XW) : q_X8_readTest_62 G0 G1 x2 x3 x4 x5 x6 w = (bif decide (¬ x5 = (-1)) then (q_X8_readTest_70 G0 G1 x2 x3 x4 x6 w) else (q_X8_readTest_68 G0 G1 w)) := (ev_eq _ _ _).trans rfl
theorem e_X8_readTest_68 (G0 G1 : List XV → XW → Option (Int32 × XW)) (w : XW) : q_X8_readTest_68 G0 G1 w = (some (some (.inl (.int 1)), w)) := (ev_eq _ _ _).trans rfl
theorem e_X8_readTest_70 (G0 G1 : List XV → XW → Option (Int32 × XW)) (x2 : Int32) (x3 : Int32) (x4 : Int32) (x6 : Int32) (w : XW) : q_X8_readTest_70 G0 G1 x2 x3 x4 x6 w = ((G0 [.inr (7, 0), .inr (9, 0), .inl (.int x2)] w).bind fun r0 => (bif decide (¬ r0.1 = 0) then (q_X8_readTest_81 G0 G1 x2 x3 x4 x6 r0.2) else (q_X8_readTest_79 G0 G1 r0.2))) := (ev_eq _ _ _).trans rfl
theorem e_X8_readTest_79 (G0 G1 : List XV → XW → Option (Int32 × XW)) (w : XW) : q_X8_readTest_79 G0 G1 w = (some (some (.inl (.int 0)), w)) := (ev_eq _ _ _).trans rfl
theorem e_X8_readTest_81 (G0 G1 : List XV → XW → Option (Int32 × XW)) (x2 : Int32) (x3 : Int32) (x4 : Int32) (x6 : Int32) (w : XW) : q_X8_readTest_81 G0 G1 x2 x3 x4 x6 w = (bif decide (x6 = 0) then (q_X8_readTest_95 G0 G1 x2 x4 w) else (q_X8_readTest_86 G0 G1 x2 x3 x4 w)) := (ev_eq _ _ _).trans rfl
theorem e_X8_readTest_86 (G0 G1 : List XV → XW → Option (Int32 × XW)) (x2 : Int32) (x3 : Int32) (x4 : Int32) (w : XW) : q_X8_readTest_86 G0 G1 x2 x3 x4 w = ((F_X8_add [.inr (7, 0), .inl (.int (-31))] w).bind fun r0 => (q_X8_readTest_97 G0 G1 x2 x3 x4 r0)) := (ev_eq _ _ _).trans rfl
theorem e_X8_readTest_95 (G0 G1 : List XV → XW → Option (Int32 × XW)) (x2 : Int32) (x4 : Int32) (w : XW) : q_X8_readTest_95 G0 G1 x2 x4 w = (q_X8_readTest_97 G0 G1 x2 1 x4 w) := (ev_eq _ _ _).trans rfl
theorem e_X8_readTest_97 (G0 G1 : List XV → XW → Option (Int32 × XW)) (x2 : Int32) (x3 : Int32) (x4 : Int32) (w : XW) : q_X8_readTest_97 G0 G1 x2 x3 x4 w = (q_X8_readTest_16 G0 G1 x2 x3 (x4 + 1) w) := (ev_eq _ _ _).trans rfl
theorem e_X8_readTest_103 (G0 G1 : List XV → XW → Option (Int32 × XW)) (w : XW) : q_X8_readTest_103 G0 G1 w = (some (some (.inl (.int 1)), w)) := (ev_eq _ _ _).trans rfl

noncomputable def F_rd : Nat → Nat → List XV → XW → Option (Int32 × XW)
  | 0, _ => fun _ _ => none
  | d + 1, 0 => fun as w => (xF 5 (bs_X8_readFact (F_rd d 0) (F_rd d 1)) as w).bind pI
  | d + 1, _ + 1 => fun as w => (xF 7 (bs_X8_readTest (F_rd d 0) (F_rd d 1)) as w).bind pI

noncomputable def F_X8_readFact (d : Nat) : List XV → XW → Option (Int32 × XW) := F_rd d 0

noncomputable def F_X8_readTest (d : Nat) : List XV → XW → Option (Int32 × XW) := F_rd d 1

theorem m_rd : ∀ d : Nat, XM yX8_readFact cX8_readFact 5 (some .boolean) (8 * d) (183 * d) (eI (F_rd d 0)) ∧ XM yX8_readTest cX8_readTest 7 (some .boolean) (8 * d) (183 * d) (eI (F_rd d 1)) := by
  intro d
  induction d with
  | zero => exact ⟨fun l D A ad cy cnt as w rr h => (by cases h), fun l D A ad cy cnt as w rr h => (by cases h)⟩
  | succ d ih => exact ⟨xm_I (xm_of (by decide) (s_X8_readFact (8 * d) (183 * d) ih.1 ih.2)), xm_I (xm_of (by decide) (s_X8_readTest (8 * d) (183 * d) ih.1 ih.2))⟩

theorem m_X8_readFact (d : Nat) : XM yX8_readFact cX8_readFact 5 (some .boolean) (8 * d) (183 * d) (eI (F_X8_readFact d)) := (m_rd d).1

theorem f_X8_readFact (d : Nat) (x2 : Int32) (w : XW) : F_X8_readFact (d + 1) [.inr (7, 0), .inr (9, 0), .inl (.int x2)] w = (q_X8_readFact_0 (F_X8_readFact d) (F_X8_readTest d) x2 w).bind pI := rfl

theorem m_X8_readTest (d : Nat) : XM yX8_readTest cX8_readTest 7 (some .boolean) (8 * d) (183 * d) (eI (F_X8_readTest d)) := (m_rd d).2

theorem f_X8_readTest (d : Nat) (x2 : Int32) (w : XW) : F_X8_readTest (d + 1) [.inr (7, 0), .inr (9, 0), .inl (.int x2)] w = (q_X8_readTest_0 (F_X8_readFact d) (F_X8_readTest d) x2 w).bind pI := rfl
