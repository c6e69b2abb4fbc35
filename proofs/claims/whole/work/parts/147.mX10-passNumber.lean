-- WinterKeep$Tape.passNumber(II)Z
theorem dX10_passNumber_0 : decode cX10_passNumber 0 = .ok (.aload_n 0, 1) := by decide +kernel
theorem dX10_passNumber_1 : decode cX10_passNumber 1 = .ok (.invokevirtual 35, 3) := by decide +kernel
theorem dX10_passNumber_4 : decode cX10_passNumber 4 = .ok (.pop, 1) := by decide +kernel
theorem dX10_passNumber_5 : decode cX10_passNumber 5 = .ok (.aload_n 0, 1) := by decide +kernel
theorem dX10_passNumber_6 : decode cX10_passNumber 6 = .ok (.aload_n 0, 1) := by decide +kernel
theorem dX10_passNumber_7 : decode cX10_passNumber 7 = .ok (.getfield 19, 3) := by decide +kernel
theorem dX10_passNumber_10 : decode cX10_passNumber 10 = .ok (.putfield 22, 3) := by decide +kernel
theorem dX10_passNumber_13 : decode cX10_passNumber 13 = .ok (.aload_n 0, 1) := by decide +kernel
theorem dX10_passNumber_14 : decode cX10_passNumber 14 = .ok (.iconst 0, 1) := by decide +kernel
theorem dX10_passNumber_15 : decode cX10_passNumber 15 = .ok (.putfield 25, 3) := by decide +kernel
theorem dX10_passNumber_18 : decode cX10_passNumber 18 = .ok (.aload_n 0, 1) := by decide +kernel
theorem dX10_passNumber_19 : decode cX10_passNumber 19 = .ok (.getfield 19, 3) := by decide +kernel
theorem dX10_passNumber_22 : decode cX10_passNumber 22 = .ok (.aload_n 0, 1) := by decide +kernel
theorem dX10_passNumber_23 : decode cX10_passNumber 23 = .ok (.getfield 15, 3) := by decide +kernel
theorem dX10_passNumber_26 : decode cX10_passNumber 26 = .ok (.if_icmp .ge 78, 3) := by decide +kernel
theorem dX10_passNumber_29 : decode cX10_passNumber 29 = .ok (.aload_n 0, 1) := by decide +kernel
theorem dX10_passNumber_30 : decode cX10_passNumber 30 = .ok (.aload_n 0, 1) := by decide +kernel
theorem dX10_passNumber_31 : decode cX10_passNumber 31 = .ok (.getfield 19, 3) := by decide +kernel
theorem dX10_passNumber_34 : decode cX10_passNumber 34 = .ok (.invokevirtual 31, 3) := by decide +kernel
theorem dX10_passNumber_37 : decode cX10_passNumber 37 = .ok (.bipush 48, 2) := by decide +kernel
theorem dX10_passNumber_39 : decode cX10_passNumber 39 = .ok (.if_icmp .lt 65, 3) := by decide +kernel
theorem dX10_passNumber_42 : decode cX10_passNumber 42 = .ok (.aload_n 0, 1) := by decide +kernel
theorem dX10_passNumber_43 : decode cX10_passNumber 43 = .ok (.aload_n 0, 1) := by decide +kernel
theorem dX10_passNumber_44 : decode cX10_passNumber 44 = .ok (.getfield 19, 3) := by decide +kernel
theorem dX10_passNumber_47 : decode cX10_passNumber 47 = .ok (.invokevirtual 31, 3) := by decide +kernel
theorem dX10_passNumber_50 : decode cX10_passNumber 50 = .ok (.bipush 57, 2) := by decide +kernel
theorem dX10_passNumber_52 : decode cX10_passNumber 52 = .ok (.if_icmp .gt 52, 3) := by decide +kernel
theorem dX10_passNumber_55 : decode cX10_passNumber 55 = .ok (.aload_n 0, 1) := by decide +kernel
theorem dX10_passNumber_56 : decode cX10_passNumber 56 = .ok (.getfield 19, 3) := by decide +kernel
theorem dX10_passNumber_59 : decode cX10_passNumber 59 = .ok (.aload_n 0, 1) := by decide +kernel
theorem dX10_passNumber_60 : decode cX10_passNumber 60 = .ok (.getfield 22, 3) := by decide +kernel
theorem dX10_passNumber_63 : decode cX10_passNumber 63 = .ok (.isub, 1) := by decide +kernel
theorem dX10_passNumber_64 : decode cX10_passNumber 64 = .ok (.iconst 5, 1) := by decide +kernel
theorem dX10_passNumber_65 : decode cX10_passNumber 65 = .ok (.if_icmp .ge 26, 3) := by decide +kernel
theorem dX10_passNumber_68 : decode cX10_passNumber 68 = .ok (.aload_n 0, 1) := by decide +kernel
theorem dX10_passNumber_69 : decode cX10_passNumber 69 = .ok (.aload_n 0, 1) := by decide +kernel
theorem dX10_passNumber_70 : decode cX10_passNumber 70 = .ok (.getfield 25, 3) := by decide +kernel
theorem dX10_passNumber_73 : decode cX10_passNumber 73 = .ok (.bipush 10, 2) := by decide +kernel
theorem dX10_passNumber_75 : decode cX10_passNumber 75 = .ok (.imul, 1) := by decide +kernel
theorem dX10_passNumber_76 : decode cX10_passNumber 76 = .ok (.aload_n 0, 1) := by decide +kernel
theorem dX10_passNumber_77 : decode cX10_passNumber 77 = .ok (.aload_n 0, 1) := by decide +kernel
theorem dX10_passNumber_78 : decode cX10_passNumber 78 = .ok (.getfield 19, 3) := by decide +kernel
theorem dX10_passNumber_81 : decode cX10_passNumber 81 = .ok (.invokevirtual 31, 3) := by decide +kernel
theorem dX10_passNumber_84 : decode cX10_passNumber 84 = .ok (.iadd, 1) := by decide +kernel
theorem dX10_passNumber_85 : decode cX10_passNumber 85 = .ok (.bipush 48, 2) := by decide +kernel
theorem dX10_passNumber_87 : decode cX10_passNumber 87 = .ok (.isub, 1) := by decide +kernel
theorem dX10_passNumber_88 : decode cX10_passNumber 88 = .ok (.putfield 25, 3) := by decide +kernel
theorem dX10_passNumber_91 : decode cX10_passNumber 91 = .ok (.aload_n 0, 1) := by decide +kernel
theorem dX10_passNumber_92 : decode cX10_passNumber 92 = .ok (.dup, 1) := by decide +kernel
theorem dX10_passNumber_93 : decode cX10_passNumber 93 = .ok (.getfield 19, 3) := by decide +kernel
theorem dX10_passNumber_96 : decode cX10_passNumber 96 = .ok (.iconst 1, 1) := by decide +kernel
theorem dX10_passNumber_97 : decode cX10_passNumber 97 = .ok (.iadd, 1) := by decide +kernel
theorem dX10_passNumber_98 : decode cX10_passNumber 98 = .ok (.putfield 19, 3) := by decide +kernel
theorem dX10_passNumber_101 : decode cX10_passNumber 101 = .ok (.goto (-83), 3) := by decide +kernel
theorem dX10_passNumber_104 : decode cX10_passNumber 104 = .ok (.aload_n 0, 1) := by decide +kernel
theorem dX10_passNumber_105 : decode cX10_passNumber 105 = .ok (.getfield 19, 3) := by decide +kernel
theorem dX10_passNumber_108 : decode cX10_passNumber 108 = .ok (.aload_n 0, 1) := by decide +kernel
theorem dX10_passNumber_109 : decode cX10_passNumber 109 = .ok (.getfield 22, 3) := by decide +kernel
theorem dX10_passNumber_112 : decode cX10_passNumber 112 = .ok (.if_icmp .ne 13, 3) := by decide +kernel
theorem dX10_passNumber_115 : decode cX10_passNumber 115 = .ok (.aload_n 0, 1) := by decide +kernel
theorem dX10_passNumber_116 : decode cX10_passNumber 116 = .ok (.aload_n 0, 1) := by decide +kernel
theorem dX10_passNumber_117 : decode cX10_passNumber 117 = .ok (.getfield 19, 3) := by decide +kernel
theorem dX10_passNumber_120 : decode cX10_passNumber 120 = .ok (.iconst 0, 1) := by decide +kernel
theorem dX10_passNumber_121 : decode cX10_passNumber 121 = .ok (.invokevirtual 39, 3) := by decide +kernel
theorem dX10_passNumber_124 : decode cX10_passNumber 124 = .ok (.ireturn, 1) := by decide +kernel
theorem dX10_passNumber_125 : decode cX10_passNumber 125 = .ok (.aload_n 0, 1) := by decide +kernel
theorem dX10_passNumber_126 : decode cX10_passNumber 126 = .ok (.getfield 19, 3) := by decide +kernel
theorem dX10_passNumber_129 : decode cX10_passNumber 129 = .ok (.aload_n 0, 1) := by decide +kernel
theorem dX10_passNumber_130 : decode cX10_passNumber 130 = .ok (.getfield 22, 3) := by decide +kernel
theorem dX10_passNumber_133 : decode cX10_passNumber 133 = .ok (.isub, 1) := by decide +kernel
theorem dX10_passNumber_134 : decode cX10_passNumber 134 = .ok (.iconst 5, 1) := by decide +kernel
theorem dX10_passNumber_135 : decode cX10_passNumber 135 = .ok (.if_icmp .gt 19, 3) := by decide +kernel
theorem dX10_passNumber_138 : decode cX10_passNumber 138 = .ok (.aload_n 0, 1) := by decide +kernel
theorem dX10_passNumber_139 : decode cX10_passNumber 139 = .ok (.getfield 25, 3) := by decide +kernel
theorem dX10_passNumber_142 : decode cX10_passNumber 142 = .ok (.iload_n 1, 1) := by decide +kernel
theorem dX10_passNumber_143 : decode cX10_passNumber 143 = .ok (.if_icmp .lt 11, 3) := by decide +kernel
theorem dX10_passNumber_146 : decode cX10_passNumber 146 = .ok (.aload_n 0, 1) := by decide +kernel
theorem dX10_passNumber_147 : decode cX10_passNumber 147 = .ok (.getfield 25, 3) := by decide +kernel
theorem dX10_passNumber_150 : decode cX10_passNumber 150 = .ok (.iload_n 2, 1) := by decide +kernel
theorem dX10_passNumber_151 : decode cX10_passNumber 151 = .ok (.if_icmp .le 13, 3) := by decide +kernel
theorem dX10_passNumber_154 : decode cX10_passNumber 154 = .ok (.aload_n 0, 1) := by decide +kernel
theorem dX10_passNumber_155 : decode cX10_passNumber 155 = .ok (.aload_n 0, 1) := by decide +kernel
theorem dX10_passNumber_156 : decode cX10_passNumber 156 = .ok (.getfield 22, 3) := by decide +kernel
theorem dX10_passNumber_159 : decode cX10_passNumber 159 = .ok (.iconst 1, 1) := by decide +kernel
theorem dX10_passNumber_160 : decode cX10_passNumber 160 = .ok (.invokevirtual 39, 3) := by decide +kernel
theorem dX10_passNumber_163 : decode cX10_passNumber 163 = .ok (.ireturn, 1) := by decide +kernel
theorem dX10_passNumber_164 : decode cX10_passNumber 164 = .ok (.iconst 1, 1) := by decide +kernel
theorem dX10_passNumber_165 : decode cX10_passNumber 165 = .ok (.ireturn, 1) := by decide +kernel
theorem vc_X10_39 : XVw RX10 39 2 9 3 yX10_fail cX10_fail (some .boolean) := ⟨RX10, TX10, tyX10, 6, xk_9, rfl, ⟨by decide, by decide⟩, by decide +kernel, wt_482, wt_469, wt_470, wt_2, wt_471⟩
noncomputable def bs_X10_passNumber : List (Nat × XB) := [
  (0, (sq (xLA 0) (sq (xCI 9 1 F_X10_sign) (sq (xPop) (sq (xLA 0) (sq (xLA 0) (sq (xGI 9 2) (sq (xPI 9 3) (sq (xLA 0) (sq (xC (.int 0)) (sq (xPI 9 4) (tGo 18 [true, true, true])))))))))))),
  (18, (sq (xLA 0) (sq (xGI 9 2) (sq (xLA 0) (sq (xGI 9 1) (tIf2 (fun x y => decide (y ≤ x)) 104 [true, true, true] 29 [true, true, true])))))),
  (29, (sq (xLA 0) (sq (xLA 0) (sq (xGI 9 2) (sq (xCI 9 2 F_X10_byteAt) (sq (xC (.int 48)) (tIf2 (fun x y => decide (x < y)) 104 [true, true, true] 42 [true, true, true]))))))),
  (42, (sq (xLA 0) (sq (xLA 0) (sq (xGI 9 2) (sq (xCI 9 2 F_X10_byteAt) (sq (xC (.int 57)) (tIf2 (fun x y => decide (y < x)) 104 [true, true, true] 55 [true, true, true]))))))),
  (55, (sq (xLA 0) (sq (xGI 9 2) (sq (xLA 0) (sq (xGI 9 3) (sq (xI2 (· - ·)) (sq (xC (.int 5)) (tIf2 (fun x y => decide (y ≤ x)) 91 [true, true, true] 68 [true, true, true])))))))),
  (68, (sq (xLA 0) (sq (xLA 0) (sq (xGI 9 4) (sq (xC (.int 10)) (sq (xI2 (· * ·)) (sq (xLA 0) (sq (xLA 0) (sq (xGI 9 2) (sq (xCI 9 2 F_X10_byteAt) (sq (xI2 (· + ·)) (sq (xC (.int 48)) (sq (xI2 (· - ·)) (sq (xPI 9 4) (tGo 91 [true, true, true]))))))))))))))),
  (91, (sq (xLA 0) (sq (xDup) (sq (xGI 9 2) (sq (xC (.int 1)) (sq (xI2 (· + ·)) (sq (xPI 9 2) (tGo 18 [true, true, true])))))))),
  (104, (sq (xLA 0) (sq (xGI 9 2) (sq (xLA 0) (sq (xGI 9 3) (tIf2 (fun x y => decide (¬ x = y)) 125 [true, true, true] 115 [true, false, false])))))),
  (115, (sq (xLA 0) (sq (xLA 0) (sq (xGI 9 2) (sq (xC (.int 0)) (sq (xCI 9 3 F_X10_fail) tRZ)))))),
  (125, (sq (xLA 0) (sq (xGI 9 2) (sq (xLA 0) (sq (xGI 9 3) (sq (xI2 (· - ·)) (sq (xC (.int 5)) (tIf2 (fun x y => decide (y < x)) 154 [true, false, false] 138 [true, true, true])))))))),
  (138, (sq (xLA 0) (sq (xGI 9 4) (sq (xLI 1) (tIf2 (fun x y => decide (x < y)) 154 [true, false, false] 146 [true, false, true]))))),
  (146, (sq (xLA 0) (sq (xGI 9 4) (sq (xLI 2) (tIf2 (fun x y => decide (x ≤ y)) 164 [false, false, false] 154 [true, false, false]))))),
  (154, (sq (xLA 0) (sq (xLA 0) (sq (xGI 9 3) (sq (xC (.int 1)) (sq (xCI 9 3 F_X10_fail) tRZ)))))),
  (164, (sq (xC (.int 1)) tRZ))]
set_option maxRecDepth 100000 in
set_option maxHeartbeats 4000000 in
theorem s_X10_passNumber : ∀ X : XCtx, XE X → X.2.2.1.1 = cX10_passNumber → X.2.2.1.2.1 = 3 → X.2.2.1.2.2.1 = yX10_passNumber.cls → X.2.2.1.2.2.2.1 = (some .boolean) → X.1.2.2.2.1 = { frames := 2, cells := 0, slots := 0, locals := 41 } → SndBs X bs_X10_passNumber := by
  rintro ⟨⟨p, l, e, R, s⟩, Y, ⟨cc, nL, own, ret, Ts⟩, Z⟩ hE h1 h2 h3 h4 h5
  dsimp only at h1 h2 h3 h4 h5
  subst h1 h2 h3 h4 h5
  exact ⟨(n_sq (n_aload_n hE dX10_passNumber_0) (n_sq (n_cIv hE m_X10_sign vc_X10_35 (show 1 + 1 ≤ 2 ∧ 8 + (1 + 11) + 21 ≤ 41 by decide) dX10_passNumber_1) (n_sq (n_pop hE dX10_passNumber_4) (n_sq (n_aload_n hE dX10_passNumber_5) (n_sq (n_aload_n hE dX10_passNumber_6) (n_sq (n_getI hE xk_9 (k := 2) rfl (by decide) rfl wt_39 dX10_passNumber_7) (n_sq (n_putI hE xk_9 (k := 3) rfl (by decide) rfl rfl (tyX10_ok 3 (by decide)) wt_42 dX10_passNumber_10) (n_sq (n_aload_n hE dX10_passNumber_13) (n_sq (n_iconst hE (by decide) dX10_passNumber_14) (n_sq (n_putI hE xk_9 (k := 4) rfl (by decide) rfl rfl (tyX10_ok 4 (by decide)) wt_45 dX10_passNumber_15) n_fall)))))))))),
    (n_sq (n_aload_n hE dX10_passNumber_18) (n_sq (n_getI hE xk_9 (k := 2) rfl (by decide) rfl wt_39 dX10_passNumber_19) (n_sq (n_aload_n hE dX10_passNumber_22) (n_sq (n_getI hE xk_9 (k := 1) rfl (by decide) rfl wt_37 dX10_passNumber_23) (n_ifcge hE (by decide) dX10_passNumber_26))))),
    (n_sq (n_aload_n hE dX10_passNumber_29) (n_sq (n_aload_n hE dX10_passNumber_30) (n_sq (n_getI hE xk_9 (k := 2) rfl (by decide) rfl wt_39 dX10_passNumber_31) (n_sq (n_cIv hE m_X10_byteAt vc_X10_31 (show 0 + 1 ≤ 2 ∧ 8 + (2 + 11) + 0 ≤ 41 by decide) dX10_passNumber_34) (n_sq (n_bipush hE (by decide) dX10_passNumber_37) (n_ifclt hE (by decide) dX10_passNumber_39)))))),
    (n_sq (n_aload_n hE dX10_passNumber_42) (n_sq (n_aload_n hE dX10_passNumber_43) (n_sq (n_getI hE xk_9 (k := 2) rfl (by decide) rfl wt_39 dX10_passNumber_44) (n_sq (n_cIv hE m_X10_byteAt vc_X10_31 (show 0 + 1 ≤ 2 ∧ 8 + (2 + 11) + 0 ≤ 41 by decide) dX10_passNumber_47) (n_sq (n_bipush hE (by decide) dX10_passNumber_50) (n_ifcgt hE (by decide) dX10_passNumber_52)))))),
    (n_sq (n_aload_n hE dX10_passNumber_55) (n_sq (n_getI hE xk_9 (k := 2) rfl (by decide) rfl wt_39 dX10_passNumber_56) (n_sq (n_aload_n hE dX10_passNumber_59) (n_sq (n_getI hE xk_9 (k := 3) rfl (by decide) rfl wt_42 dX10_passNumber_60) (n_sq (n_isub hE dX10_passNumber_63) (n_sq (n_iconst hE (by decide) dX10_passNumber_64) (n_ifcge hE (by decide) dX10_passNumber_65))))))),
    (n_sq (n_aload_n hE dX10_passNumber_68) (n_sq (n_aload_n hE dX10_passNumber_69) (n_sq (n_getI hE xk_9 (k := 4) rfl (by decide) rfl wt_45 dX10_passNumber_70) (n_sq (n_bipush hE (by decide) dX10_passNumber_73) (n_sq (n_imul hE dX10_passNumber_75) (n_sq (n_aload_n hE dX10_passNumber_76) (n_sq (n_aload_n hE dX10_passNumber_77) (n_sq (n_getI hE xk_9 (k := 2) rfl (by decide) rfl wt_39 dX10_passNumber_78) (n_sq (n_cIv hE m_X10_byteAt vc_X10_31 (show 0 + 1 ≤ 2 ∧ 8 + (2 + 11) + 0 ≤ 41 by decide) dX10_passNumber_81) (n_sq (n_iadd hE dX10_passNumber_84) (n_sq (n_bipush hE (by decide) dX10_passNumber_85) (n_sq (n_isub hE dX10_passNumber_87) (n_sq (n_putI hE xk_9 (k := 4) rfl (by decide) rfl rfl (tyX10_ok 4 (by decide)) wt_45 dX10_passNumber_88) n_fall))))))))))))),
    (n_sq (n_aload_n hE dX10_passNumber_91) (n_sq (n_dup hE dX10_passNumber_92) (n_sq (n_getI hE xk_9 (k := 2) rfl (by decide) rfl wt_39 dX10_passNumber_93) (n_sq (n_iconst hE (by decide) dX10_passNumber_96) (n_sq (n_iadd hE dX10_passNumber_97) (n_sq (n_putI hE xk_9 (k := 2) rfl (by decide) rfl rfl (tyX10_ok 2 (by decide)) wt_39 dX10_passNumber_98) (n_goto hE (by decide) dX10_passNumber_101))))))),
    (n_sq (n_aload_n hE dX10_passNumber_104) (n_sq (n_getI hE xk_9 (k := 2) rfl (by decide) rfl wt_39 dX10_passNumber_105) (n_sq (n_aload_n hE dX10_passNumber_108) (n_sq (n_getI hE xk_9 (k := 3) rfl (by decide) rfl wt_42 dX10_passNumber_109) (n_ifcne hE (by decide) dX10_passNumber_112))))),
    (n_sq (n_aload_n hE dX10_passNumber_115) (n_sq (n_aload_n hE dX10_passNumber_116) (n_sq (n_getI hE xk_9 (k := 2) rfl (by decide) rfl wt_39 dX10_passNumber_117) (n_sq (n_iconst hE (by decide) dX10_passNumber_120) (n_sq (n_cIv hE m_X10_fail vc_X10_39 (show 0 + 1 ≤ 2 ∧ 8 + (3 + 11) + 0 ≤ 41 by decide) dX10_passNumber_121) (n_zreturn hE rfl dX10_passNumber_124)))))),
    (n_sq (n_aload_n hE dX10_passNumber_125) (n_sq (n_getI hE xk_9 (k := 2) rfl (by decide) rfl wt_39 dX10_passNumber_126) (n_sq (n_aload_n hE dX10_passNumber_129) (n_sq (n_getI hE xk_9 (k := 3) rfl (by decide) rfl wt_42 dX10_passNumber_130) (n_sq (n_isub hE dX10_passNumber_133) (n_sq (n_iconst hE (by decide) dX10_passNumber_134) (n_ifcgt hE (by decide) dX10_passNumber_135))))))),
    (n_sq (n_aload_n hE dX10_passNumber_138) (n_sq (n_getI hE xk_9 (k := 4) rfl (by decide) rfl wt_45 dX10_passNumber_139) (n_sq (n_iload_n hE dX10_passNumber_142) (n_ifclt hE (by decide) dX10_passNumber_143)))),
    (n_sq (n_aload_n hE dX10_passNumber_146) (n_sq (n_getI hE xk_9 (k := 4) rfl (by decide) rfl wt_45 dX10_passNumber_147) (n_sq (n_iload_n hE dX10_passNumber_150) (n_ifcle hE (by decide) dX10_passNumber_151)))),
    (n_sq (n_aload_n hE dX10_passNumber_154) (n_sq (n_aload_n hE dX10_passNumber_155) (n_sq (n_getI hE xk_9 (k := 3) rfl (by decide) rfl wt_42 dX10_passNumber_156) (n_sq (n_iconst hE (by decide) dX10_passNumber_159) (n_sq (n_cIv hE m_X10_fail vc_X10_39 (show 0 + 1 ≤ 2 ∧ 8 + (3 + 11) + 0 ≤ 41 by decide) dX10_passNumber_160) (n_zreturn hE rfl dX10_passNumber_163)))))),
    (n_sq (n_iconst hE (by decide) dX10_passNumber_164) (n_zreturn hE rfl dX10_passNumber_165)), trivial⟩
noncomputable def F_X10_passNumber (as : List XV) (w : XW) : Option (Int32 × XW) := (xF 3 bs_X10_passNumber as w).bind pI
theorem m_X10_passNumber : XM yX10_passNumber cX10_passNumber 3 (some .boolean) 2 41 (eI F_X10_passNumber) := xm_I (xm_of (by decide) s_X10_passNumber)
noncomputable def q_X10_passNumber_0 (x1 : Int32) (x2 : Int32) (w : XW) : Option XR := ev bs_X10_passNumber 0 ([some (.inr (9, 0)), some (.inl (.int x1)), some (.inl (.int x2))], [], w)
noncomputable def q_X10_passNumber_18 (x1 : Int32) (x2 : Int32) (w : XW) : Option XR := ev bs_X10_passNumber 18 ([some (.inr (9, 0)), some (.inl (.int x1)), some (.inl (.int x2))], [], w)
noncomputable def q_X10_passNumber_29 (x1 : Int32) (x2 : Int32) (w : XW) : Option XR := ev bs_X10_passNumber 29 ([some (.inr (9, 0)), some (.inl (.int x1)), some (.inl (.int x2))], [], w)
noncomputable def q_X10_passNumber_42 (x1 : Int32) (x2 : Int32) (w : XW) : Option XR := ev bs_X10_passNumber 42 ([some (.inr (9, 0)), some (.inl (.int x1)), some (.inl (.int x2))], [], w)
noncomputable def q_X10_passNumber_55 (x1 : Int32) (x2 : Int32) (w : XW) : Option XR := ev bs_X10_passNumber 55 ([some (.inr (9, 0)), some (.inl (.int x1)), some (.inl (.int x2))], [], w)
noncomputable def q_X10_passNumber_68 (x1 : Int32) (x2 : Int32) (w : XW) : Option XR := ev bs_X10_passNumber 68 ([some (.inr (9, 0)), some (.inl (.int x1)), some (.inl (.int x2))], [], w)
noncomputable def q_X10_passNumber_91 (x1 : Int32) (x2 : Int32) (w : XW) : Option XR := ev bs_X10_passNumber 91 ([some (.inr (9, 0)), some (.inl (.int x1)), some (.inl (.int x2))], [], w)
noncomputable def q_X10_passNumber_104 (x1 : Int32) (x2 : Int32) (w : XW) : Option XR := ev bs_X10_passNumber 104 ([some (.inr (9, 0)), some (.inl (.int x1)), some (.inl (.int x2))], [], w)
noncomputable def q_X10_passNumber_115 (w : XW) : Option XR := ev bs_X10_passNumber 115 ([some (.inr (9, 0)), none, none], [], w)
noncomputable def q_X10_passNumber_125 (x1 : Int32) (x2 : Int32) (w : XW) : Option XR := ev bs_X10_passNumber 125 ([some (.inr (9, 0)), some (.inl (.int x1)), some (.inl (.int x2))], [], w)
noncomputable def q_X10_passNumber_138 (x1 : Int32) (x2 : Int32) (w : XW) : Option XR := ev bs_X10_passNumber 138 ([some (.inr (9, 0)), some (.inl (.int x1)), some (.inl (.int x2))], [], w)
noncomputable def q_X10_passNumber_146 (x2 : Int32) (w : XW) : Option XR := ev bs_X10_passNumber 146 ([some (.inr (9, 0)), none, some (.inl (.int x2))], [], w)
noncomputable def q_X10_passNumber_154 (w : XW) : Option XR := ev bs_X10_passNumber 154 ([some (.inr (9, 0)), none, none], [], w)
noncomputable def q_X10_passNumber_164 (w : XW) : Option XR := ev bs_X10_passNumber 164 ([none, none, none], [], w)
theorem e_X10_passNumber_0 (x1 : Int32) (x2 : Int32) (w : XW) : q_X10_passNumber_0 x1 x2 w = ((F_X10_sign [.inr (9, 0)] w).bind fun r0 => (q_X10_passNumber_18 x1 x2 (sI (sI r0.2 9 0 3 (gI r0.2 9 0 2)) 9 0 4 0))) := (ev_eq _ _ _).trans rfl
theorem e_X10_passNumber_18 (x1 : Int32) (x2 : Int32) (w : XW) : q_X10_passNumber_18 x1 x2 w = (bif decide ((gI w 9 0 1) ≤ (gI w 9 0 2)) then (q_X10_passNumber_104 x1 x2 w) else (q_X10_passNumber_29 x1 x2 w)) := (ev_eq _ _ _).trans rfl
theorem e_X10_passNumber_29 (x1 : Int32) (x2 : Int32) (w : XW) : q_X10_passNumber_29 x1 x2 w = ((F_X10_byteAt [.inr (9, 0), .inl (.int (gI w 9 0 2))] w).bind fun r0 => (bif decide (r0.1 < 48) then (q_X10_passNumber_104 x1 x2 r0.2) else (q_X10_passNumber_42 x1 x2 r0.2))) := (ev_eq _ _ _).trans rfl
theorem e_X10_passNumber_42 (x1 : Int32) (x2 : Int32) (w : XW) : q_X10_passNumber_42 x1 x2 w = ((F_X10_byteAt [.inr (9, 0), .inl (.int (gI w 9 0 2))] w).bind fun r0 => (bif decide (57 < r0.1) then (q_X10_passNumber_104 x1 x2 r0.2) else (q_X10_passNumber_55 x1 x2 r0.2))) := (ev_eq _ _ _).trans rfl
theorem e_X10_passNumber_55 (x1 : Int32) (x2 : Int32) (w : XW) : q_X10_passNumber_55 x1 x2 w = (bif decide (5 ≤ ((gI w 9 0 2) - (gI w 9 0 3))) then (q_X10_passNumber_91 x1 x2 w) else (q_X10_passNumber_68 x1 x2 w)) := (ev_eq _ _ _).trans rfl
theorem e_X10_passNumber_68 (x1 : Int32) (x2 : Int32) (w : XW) : q_X10_passNumber_68 x1 x2 w = ((F_X10_byteAt [.inr (9, 0), .inl (.int (gI w 9 0 2))] w).bind fun r0 => (q_X10_passNumber_91 x1 x2 (sI r0.2 9 0 4 ((((gI w 9 0 4) * 10) + r0.1) - 48)))) := (ev_eq _ _ _).trans rfl
theorem e_X10_passNumber_91 (x1 : Int32) (x2 : Int32) (w : XW) : q_X10_passNumber_91 x1 x2 w = (q_X10_passNumber_18 x1 x2 (sI w 9 0 2 ((gI w 9 0 2) + 1))) := (ev_eq _ _ _).trans rfl
theorem e_X10_passNumber_104 (x1 : Int32) (x2 : Int32) (w : XW) : q_X10_passNumber_104 x1 x2 w = (bif decide (¬ (gI w 9 0 2) = (gI w 9 0 3)) then (q_X10_passNumber_125 x1 x2 w) else (q_X10_passNumber_115 w)) := (ev_eq _ _ _).trans rfl
theorem e_X10_passNumber_115 (w : XW) : q_X10_passNumber_115 w = ((F_X10_fail [.inr (9, 0), .inl (.int (gI w 9 0 2)), .inl (.int 0)] w).bind fun r0 => (if r0.1 = 0 ∨ r0.1 = 1 then some (some (.inl (.int r0.1)), r0.2) else none)) := (ev_eq _ _ _).trans rfl
theorem e_X10_passNumber_125 (x1 : Int32) (x2 : Int32) (w : XW) : q_X10_passNumber_125 x1 x2 w = (bif decide (5 < ((gI w 9 0 2) - (gI w 9 0 3))) then (q_X10_passNumber_154 w) else (q_X10_passNumber_138 x1 x2 w)) := (ev_eq _ _ _).trans rfl
theorem e_X10_passNumber_138 (x1 : Int32) (x2 : Int32) (w : XW) : q_X10_passNumber_138 x1 x2 w = (bif decide ((gI w 9 0 4) < x1) then (q_X10_passNumber_154 w) else (q_X10_passNumber_146 x2 w)) := (ev_eq _ _ _).trans rfl
theorem e_X10_passNumber_146 (x2 : Int32) (w : XW) : q_X10_passNumber_146 x2 w = (bif decide ((gI w 9 0 4) ≤ x2) then (q_X10_passNumber_164 w) else (q_X10_passNumber_154 w)) := (ev_eq _ _ _).trans rfl
theorem e_X10_passNumber_154 (w : XW) : q_X10_passNumber_154 w = ((F_X10_fail [.inr (9, 0), .inl (.int (gI w 9 0 3)), .inl (.int 1)] w).bind fun r0 => (if r0.1 = 0 ∨ r0.1 = 1 then some (some (.inl (.int r0.1)), r0.2) else none)) := (ev_eq _ _ _).trans rfl
theorem e_X10_passNumber_164 (w : XW) : q_X10_passNumber_164 w = (some (some (.inl (.int 1)), w)) := (ev_eq _ _ _).trans rfl
theorem f_X10_passNumber (x1 : Int32) (x2 : Int32) (w : XW) : F_X10_passNumber [.inr (9, 0), .inl (.int x1), .inl (.int x2)] w = (q_X10_passNumber_0 x1 x2 w).bind pI := rfl

-- WinterKeep$DaleReader.readDale(LWinterKeep$Tape;LWinterKeep$Dale;)Z
theorem dX2_readDale_0 : decode cX2_readDale 0 = .ok (.aload_n 0, 1) := by decide +kernel
theorem dX2_readDale_1 : decode cX2_readDale 1 = .ok (.iconst 0, 1) := by decide +kernel
theorem dX2_readDale_2 : decode cX2_readDale 2 = .ok (.bipush 9, 2) := by decide +kernel
theorem dX2_readDale_4 : decode cX2_readDale 4 = .ok (.invokevirtual 76, 3) := by decide +kernel
theorem dX2_readDale_7 : decode cX2_readDale 7 = .ok (.ifCond .ne 5, 3) := by decide +kernel
theorem dX2_readDale_10 : decode cX2_readDale 10 = .ok (.iconst 0, 1) := by decide +kernel
theorem dX2_readDale_11 : decode cX2_readDale 11 = .ok (.ireturn, 1) := by decide +kernel
theorem dX2_readDale_12 : decode cX2_readDale 12 = .ok (.aload_n 1, 1) := by decide +kernel
theorem dX2_readDale_13 : decode cX2_readDale 13 = .ok (.aload_n 0, 1) := by decide +kernel
theorem dX2_readDale_14 : decode cX2_readDale 14 = .ok (.getfield 79, 3) := by decide +kernel
theorem dX2_readDale_17 : decode cX2_readDale 17 = .ok (.putfield 82, 3) := by decide +kernel
theorem dX2_readDale_20 : decode cX2_readDale 20 = .ok (.aload_n 0, 1) := by decide +kernel
theorem dX2_readDale_21 : decode cX2_readDale 21 = .ok (.iconst 1, 1) := by decide +kernel
theorem dX2_readDale_22 : decode cX2_readDale 22 = .ok (.bipush 99, 2) := by decide +kernel
theorem dX2_readDale_24 : decode cX2_readDale 24 = .ok (.invokevirtual 76, 3) := by decide +kernel
theorem dX2_readDale_27 : decode cX2_readDale 27 = .ok (.ifCond .ne 5, 3) := by decide +kernel
theorem dX2_readDale_30 : decode cX2_readDale 30 = .ok (.iconst 0, 1) := by decide +kernel
theorem dX2_readDale_31 : decode cX2_readDale 31 = .ok (.ireturn, 1) := by decide +kernel
theorem dX2_readDale_32 : decode cX2_readDale 32 = .ok (.aload_n 1, 1) := by decide +kernel
theorem dX2_readDale_33 : decode cX2_readDale 33 = .ok (.aload_n 0, 1) := by decide +kernel
theorem dX2_readDale_34 : decode cX2_readDale 34 = .ok (.getfield 79, 3) := by decide +kernel
theorem dX2_readDale_37 : decode cX2_readDale 37 = .ok (.putfield 85, 3) := by decide +kernel
theorem dX2_readDale_40 : decode cX2_readDale 40 = .ok (.aload_n 1, 1) := by decide +kernel
theorem dX2_readDale_41 : decode cX2_readDale 41 = .ok (.iconst 1, 1) := by decide +kernel
theorem dX2_readDale_42 : decode cX2_readDale 42 = .ok (.putfield 88, 3) := by decide +kernel
theorem dX2_readDale_45 : decode cX2_readDale 45 = .ok (.iconst 1, 1) := by decide +kernel
theorem dX2_readDale_46 : decode cX2_readDale 46 = .ok (.ireturn, 1) := by decide +kernel
theorem vc_X2_76 : XVw RX2 76 2 9 3 yX10_passNumber cX10_passNumber (some .boolean) := ⟨RX10, TX10, tyX10, 6, xk_9, rfl, ⟨by decide, by decide⟩, by decide +kernel, wt_478, wt_479, wt_480, wt_2, wt_481⟩
noncomputable def bs_X2_readDale : List (Nat × XB) := [
  (0, (sq (xLA 0) (sq (xC (.int 0)) (sq (xC (.int 9)) (sq (xCI 9 3 F_X10_passNumber) (tIf1 (fun x => decide (¬ x = 0)) 12 [true, true] 10 [false, false])))))),
  (10, (sq (xC (.int 0)) tRZ)),
  (12, (sq (xLA 1) (sq (xLA 0) (sq (xGI 9 4) (sq (xPI 1 1) (sq (xLA 0) (sq (xC (.int 1)) (sq (xC (.int 99)) (sq (xCI 9 3 F_X10_passNumber) (tIf1 (fun x => decide (¬ x = 0)) 32 [true, true] 30 [false, false])))))))))),
  (30, (sq (xC (.int 0)) tRZ)),
  (32, (sq (xLA 1) (sq (xLA 0) (sq (xGI 9 4) (sq (xPI 1 2) (sq (xLA 1) (sq (xC (.int 1)) (sq (xPZ 1 0) (sq (xC (.int 1)) tRZ)))))))))]
set_option maxRecDepth 100000 in
set_option maxHeartbeats 4000000 in
theorem s_X2_readDale : ∀ X : XCtx, XE X → X.2.2.1.1 = cX2_readDale → X.2.2.1.2.1 = 2 → X.2.2.1.2.2.1 = yX2_readDale.cls → X.2.2.1.2.2.2.1 = (some .boolean) → X.1.2.2.2.1 = { frames := 3, cells := 0, slots := 0, locals := 63 } → SndBs X bs_X2_readDale := by
  rintro ⟨⟨p, l, e, R, s⟩, Y, ⟨cc, nL, own, ret, Ts⟩, Z⟩ hE h1 h2 h3 h4 h5
  dsimp only at h1 h2 h3 h4 h5
  subst h1 h2 h3 h4 h5
  exact ⟨(n_sq (n_aload_n hE dX2_readDale_0) (n_sq (n_iconst hE (by decide) dX2_readDale_1) (n_sq (n_bipush hE (by decide) dX2_readDale_2) (n_sq (n_cIv hE m_X10_passNumber vc_X2_76 (show 2 + 1 ≤ 3 ∧ 8 + (3 + 11) + 41 ≤ 63 by decide) dX2_readDale_4) (n_ifne hE (by decide) dX2_readDale_7))))),
    (n_sq (n_iconst hE (by decide) dX2_readDale_10) (n_zreturn hE rfl dX2_readDale_11)),
    (n_sq (n_aload_n hE dX2_readDale_12) (n_sq (n_aload_n hE dX2_readDale_13) (n_sq (n_getI hE xk_9 (k := 4) rfl (by decide) rfl wt_46 dX2_readDale_14) (n_sq (n_putI hE xk_1 (k := 1) rfl (by decide) rfl rfl (tyX1_ok 1 (by decide)) wt_98 dX2_readDale_17) (n_sq (n_aload_n hE dX2_readDale_20) (n_sq (n_iconst hE (by decide) dX2_readDale_21) (n_sq (n_bipush hE (by decide) dX2_readDale_22) (n_sq (n_cIv hE m_X10_passNumber vc_X2_76 (show 2 + 1 ≤ 3 ∧ 8 + (3 + 11) + 41 ≤ 63 by decide) dX2_readDale_24) (n_ifne hE (by decide) dX2_readDale_27))))))))),
    (n_sq (n_iconst hE (by decide) dX2_readDale_30) (n_zreturn hE rfl dX2_readDale_31)),
    (n_sq (n_aload_n hE dX2_readDale_32) (n_sq (n_aload_n hE dX2_readDale_33) (n_sq (n_getI hE xk_9 (k := 4) rfl (by decide) rfl wt_46 dX2_readDale_34) (n_sq (n_putI hE xk_1 (k := 2) rfl (by decide) rfl rfl (tyX1_ok 2 (by decide)) wt_102 dX2_readDale_37) (n_sq (n_aload_n hE dX2_readDale_40) (n_sq (n_iconst hE (by decide) dX2_readDale_41) (n_sq (n_putZ hE xk_1 (k := 0) rfl (by decide) rfl rfl (tyX1_ok 0 (by decide)) wt_95 dX2_readDale_42) (n_sq (n_iconst hE (by decide) dX2_readDale_45) (n_zreturn hE rfl dX2_readDale_46))))))))), trivial⟩
noncomputable def F_X2_readDale (as : List XV) (w : XW) : Option (Int32 × XW) := (xF 2 bs_X2_readDale as w).bind pI
theorem m_X2_readDale : XM yX2_readDale cX2_readDale 2 (some .boolean) 3 63 (eI F_X2_readDale) := xm_I (xm_of (by decide) s_X2_readDale)
noncomputable def q_X2_readDale_0 (i1 : Nat) (w : XW) : Option XR := ev bs_X2_readDale 0 ([some (.inr (9, 0)), some (.inr (1, i1))], [], w)
noncomputable def q_X2_readDale_10 (w : XW) : Option XR := ev bs_X2_readDale 10 ([none, none], [], w)
noncomputable def q_X2_readDale_12 (i1 : Nat) (w : XW) : Option XR := ev bs_X2_readDale 12 ([some (.inr (9, 0)), some (.inr (1, i1))], [], w)
noncomputable def q_X2_readDale_30 (w : XW) : Option XR := ev bs_X2_readDale 30 ([none, none], [], w)
noncomputable def q_X2_readDale_32 (i1 : Nat) (w : XW) : Option XR := ev bs_X2_readDale 32 ([some (.inr (9, 0)), some (.inr (1, i1))], [], w)
theorem e_X2_readDale_0 (i1 : Nat) (w : XW) : q_X2_readDale_0 i1 w = ((F_X10_passNumber [.inr (9, 0), .inl (.int 0), .inl (.int 9)] w).bind fun r0 => (bif decide (¬ r0.1 = 0) then (q_X2_readDale_12 i1 r0.2) else (q_X2_readDale_10 r0.2))) := (ev_eq _ _ _).trans rfl
theorem e_X2_readDale_10 (w : XW) : q_X2_readDale_10 w = (some (some (.inl (.int 0)), w)) := (ev_eq _ _ _).trans rfl
theorem e_X2_readDale_12 (i1 : Nat) (w : XW) : q_X2_readDale_12 i1 w = ((F_X10_passNumber [.inr (9, 0), .inl (.int 1), .inl (.int 99)] (sI w 1 i1 1 (gI w 9 0 4))).bind fun r0 => (bif decide (¬ r0.1 = 0) then (q_X2_readDale_32 i1 r0.2) else (q_X2_readDale_30 r0.2))) := (ev_eq _ _ _).trans rfl
theorem e_X2_readDale_30 (w : XW) : q_X2_readDale_30 w = (some (some (.inl (.int 0)), w)) := (ev_eq _ _ _).trans rfl
theorem e_X2_readDale_32 (i1 : Nat) (w : XW) : q_X2_readDale_32 i1 w = (some (some (.inl (.int 1)), sI (sI w 1 i1 2 (gI w 9 0 4)) 1 i1 0 1)) := (ev_eq _ _ _).trans rfl
theorem f_X2_readDale (i1 : Nat) (w : XW) : F_X2_readDale [.inr (9, 0), .inr (1, i1)] w = (q_X2_readDale_0 i1 w).bind pI := rfl

-- WinterKeep$DaleReader.readKeep(LWinterKeep$Tape;LWinterKeep$Dale;)Z
theorem dX2_readKeep_0 : decode cX2_readKeep 0 = .ok (.aload_n 0, 1) := by decide +kernel
theorem dX2_readKeep_1 : decode cX2_readKeep 1 = .ok (.iconst 1, 1) := by decide +kernel
theorem dX2_readKeep_2 : decode cX2_readKeep 2 = .ok (.bipush 60, 2) := by decide +kernel
theorem dX2_readKeep_4 : decode cX2_readKeep 4 = .ok (.invokevirtual 76, 3) := by decide +kernel
theorem dX2_readKeep_7 : decode cX2_readKeep 7 = .ok (.ifCond .ne 5, 3) := by decide +kernel
theorem dX2_readKeep_10 : decode cX2_readKeep 10 = .ok (.iconst 0, 1) := by decide +kernel
theorem dX2_readKeep_11 : decode cX2_readKeep 11 = .ok (.ireturn, 1) := by decide +kernel
theorem dX2_readKeep_12 : decode cX2_readKeep 12 = .ok (.aload_n 1, 1) := by decide +kernel
theorem dX2_readKeep_13 : decode cX2_readKeep 13 = .ok (.getfield 92, 3) := by decide +kernel
theorem dX2_readKeep_16 : decode cX2_readKeep 16 = .ok (.aload_n 1, 1) := by decide +kernel
theorem dX2_readKeep_17 : decode cX2_readKeep 17 = .ok (.getfield 65, 3) := by decide +kernel
theorem dX2_readKeep_20 : decode cX2_readKeep 20 = .ok (.aload_n 0, 1) := by decide +kernel
theorem dX2_readKeep_21 : decode cX2_readKeep 21 = .ok (.getfield 79, 3) := by decide +kernel
theorem dX2_readKeep_24 : decode cX2_readKeep 24 = .ok (.iastore, 1) := by decide +kernel
theorem dX2_readKeep_25 : decode cX2_readKeep 25 = .ok (.aload_n 0, 1) := by decide +kernel
theorem dX2_readKeep_26 : decode cX2_readKeep 26 = .ok (.iconst 0, 1) := by decide +kernel
theorem dX2_readKeep_27 : decode cX2_readKeep 27 = .ok (.bipush 20, 2) := by decide +kernel
theorem dX2_readKeep_29 : decode cX2_readKeep 29 = .ok (.invokevirtual 76, 3) := by decide +kernel
theorem dX2_readKeep_32 : decode cX2_readKeep 32 = .ok (.ifCond .ne 5, 3) := by decide +kernel
theorem dX2_readKeep_35 : decode cX2_readKeep 35 = .ok (.iconst 0, 1) := by decide +kernel
theorem dX2_readKeep_36 : decode cX2_readKeep 36 = .ok (.ireturn, 1) := by decide +kernel
theorem dX2_readKeep_37 : decode cX2_readKeep 37 = .ok (.aload_n 1, 1) := by decide +kernel
theorem dX2_readKeep_38 : decode cX2_readKeep 38 = .ok (.getfield 96, 3) := by decide +kernel
theorem dX2_readKeep_41 : decode cX2_readKeep 41 = .ok (.aload_n 1, 1) := by decide +kernel
theorem dX2_readKeep_42 : decode cX2_readKeep 42 = .ok (.getfield 65, 3) := by decide +kernel
theorem dX2_readKeep_45 : decode cX2_readKeep 45 = .ok (.aload_n 0, 1) := by decide +kernel
theorem dX2_readKeep_46 : decode cX2_readKeep 46 = .ok (.getfield 79, 3) := by decide +kernel
theorem dX2_readKeep_49 : decode cX2_readKeep 49 = .ok (.iastore, 1) := by decide +kernel
theorem dX2_readKeep_50 : decode cX2_readKeep 50 = .ok (.aload_n 1, 1) := by decide +kernel
theorem dX2_readKeep_51 : decode cX2_readKeep 51 = .ok (.dup, 1) := by decide +kernel
theorem dX2_readKeep_52 : decode cX2_readKeep 52 = .ok (.getfield 65, 3) := by decide +kernel
theorem dX2_readKeep_55 : decode cX2_readKeep 55 = .ok (.iconst 1, 1) := by decide +kernel
theorem dX2_readKeep_56 : decode cX2_readKeep 56 = .ok (.iadd, 1) := by decide +kernel
theorem dX2_readKeep_57 : decode cX2_readKeep 57 = .ok (.putfield 65, 3) := by decide +kernel
theorem dX2_readKeep_60 : decode cX2_readKeep 60 = .ok (.iconst 1, 1) := by decide +kernel
theorem dX2_readKeep_61 : decode cX2_readKeep 61 = .ok (.ireturn, 1) := by decide +kernel
noncomputable def bs_X2_readKeep : List (Nat × XB) := [
  (0, (sq (xLA 0) (sq (xC (.int 1)) (sq (xC (.int 60)) (sq (xCI 9 3 F_X10_passNumber) (tIf1 (fun x => decide (¬ x = 0)) 12 [true, true] 10 [false, false])))))),
  (10, (sq (xC (.int 0)) tRZ)),
  (12, (sq (xLA 1) (sq (xGS 1 13 0 0) (sq (xLA 1) (sq (xGI 1 3) (sq (xLA 0) (sq (xGI 9 4) (sq (xTI 13 6 (fun x => x)) (sq (xLA 0) (sq (xC (.int 0)) (sq (xC (.int 20)) (sq (xCI 9 3 F_X10_passNumber) (tIf1 (fun x => decide (¬ x = 0)) 37 [true, true] 35 [false, false]))))))))))))),
  (35, (sq (xC (.int 0)) tRZ)),
  (37, (sq (xLA 1) (sq (xGS 1 14 0 0) (sq (xLA 1) (sq (xGI 1 3) (sq (xLA 0) (sq (xGI 9 4) (sq (xTI 14 6 (fun x => x)) (sq (xLA 1) (sq (xDup) (sq (xGI 1 3) (sq (xC (.int 1)) (sq (xI2 (· + ·)) (sq (xPI 1 3) (sq (xC (.int 1)) tRZ)))))))))))))))]
set_option maxRecDepth 100000 in
set_option maxHeartbeats 4000000 in
theorem s_X2_readKeep : ∀ X : XCtx, XE X → X.2.2.1.1 = cX2_readKeep → X.2.2.1.2.1 = 2 → X.2.2.1.2.2.1 = yX2_readKeep.cls → X.2.2.1.2.2.2.1 = (some .boolean) → X.1.2.2.2.1 = { frames := 3, cells := 0, slots := 0, locals := 63 } → SndBs X bs_X2_readKeep := by
  rintro ⟨⟨p, l, e, R, s⟩, Y, ⟨cc, nL, own, ret, Ts⟩, Z⟩ hE h1 h2 h3 h4 h5
  dsimp only at h1 h2 h3 h4 h5
  subst h1 h2 h3 h4 h5
  exact ⟨(n_sq (n_aload_n hE dX2_readKeep_0) (n_sq (n_iconst hE (by decide) dX2_readKeep_1) (n_sq (n_bipush hE (by decide) dX2_readKeep_2) (n_sq (n_cIv hE m_X10_passNumber vc_X2_76 (show 2 + 1 ≤ 3 ∧ 8 + (3 + 11) + 41 ≤ 63 by decide) dX2_readKeep_4) (n_ifne hE (by decide) dX2_readKeep_7))))),
    (n_sq (n_iconst hE (by decide) dX2_readKeep_10) (n_zreturn hE rfl dX2_readKeep_11)),
    (n_sq (n_aload_n hE dX2_readKeep_12) (n_sq (n_getS hE xk_1 (k := 6) rfl (by decide) rfl wt_121 dX2_readKeep_13) (n_sq (n_aload_n hE dX2_readKeep_16) (n_sq (n_getI hE xk_1 (k := 3) rfl (by decide) rfl wt_108 dX2_readKeep_17) (n_sq (n_aload_n hE dX2_readKeep_20) (n_sq (n_getI hE xk_9 (k := 4) rfl (by decide) rfl wt_46 dX2_readKeep_21) (n_sq (n_iast hE rfl (by decide) dX2_readKeep_24) (n_sq (n_aload_n hE dX2_readKeep_25) (n_sq (n_iconst hE (by decide) dX2_readKeep_26) (n_sq (n_bipush hE (by decide) dX2_readKeep_27) (n_sq (n_cIv hE m_X10_passNumber vc_X2_76 (show 2 + 1 ≤ 3 ∧ 8 + (3 + 11) + 41 ≤ 63 by decide) dX2_readKeep_29) (n_ifne hE (by decide) dX2_readKeep_32)))))))))))),
    (n_sq (n_iconst hE (by decide) dX2_readKeep_35) (n_zreturn hE rfl dX2_readKeep_36)),
    (n_sq (n_aload_n hE dX2_readKeep_37) (n_sq (n_getS hE xk_1 (k := 7) rfl (by decide) rfl wt_125 dX2_readKeep_38) (n_sq (n_aload_n hE dX2_readKeep_41) (n_sq (n_getI hE xk_1 (k := 3) rfl (by decide) rfl wt_108 dX2_readKeep_42) (n_sq (n_aload_n hE dX2_readKeep_45) (n_sq (n_getI hE xk_9 (k := 4) rfl (by decide) rfl wt_46 dX2_readKeep_46) (n_sq (n_iast hE rfl (by decide) dX2_readKeep_49) (n_sq (n_aload_n hE dX2_readKeep_50) (n_sq (n_dup hE dX2_readKeep_51) (n_sq (n_getI hE xk_1 (k := 3) rfl (by decide) rfl wt_108 dX2_readKeep_52) (n_sq (n_iconst hE (by decide) dX2_readKeep_55) (n_sq (n_iadd hE dX2_readKeep_56) (n_sq (n_putI hE xk_1 (k := 3) rfl (by decide) rfl rfl (tyX1_ok 3 (by decide)) wt_108 dX2_readKeep_57) (n_sq (n_iconst hE (by decide) dX2_readKeep_60) (n_zreturn hE rfl dX2_readKeep_61))))))))))))))), trivial⟩
noncomputable def F_X2_readKeep (as : List XV) (w : XW) : Option (Int32 × XW) := (xF 2 bs_X2_readKeep as w).bind pI
theorem m_X2_readKeep : XM yX2_readKeep cX2_readKeep 2 (some .boolean) 3 63 (eI F_X2_readKeep) := xm_I (xm_of (by decide) s_X2_readKeep)
noncomputable def q_X2_readKeep_0 (i1 : Nat) (w : XW) : Option XR := ev bs_X2_readKeep 0 ([some (.inr (9, 0)), some (.inr (1, i1))], [], w)
noncomputable def q_X2_readKeep_10 (w : XW) : Option XR := ev bs_X2_readKeep 10 ([none, none], [], w)
noncomputable def q_X2_readKeep_12 (i1 : Nat) (w : XW) : Option XR := ev bs_X2_readKeep 12 ([some (.inr (9, 0)), some (.inr (1, i1))], [], w)
noncomputable def q_X2_readKeep_35 (w : XW) : Option XR := ev bs_X2_readKeep 35 ([none, none], [], w)
noncomputable def q_X2_readKeep_37 (i1 : Nat) (w : XW) : Option XR := ev bs_X2_readKeep 37 ([some (.inr (9, 0)), some (.inr (1, i1))], [], w)
theorem e_X2_readKeep_0 (i1 : Nat) (w : XW) : q_X2_readKeep_0 i1 w = ((F_X10_passNumber [.inr (9, 0), .inl (.int 1), .inl (.int 60)] w).bind fun r0 => (bif decide (¬ r0.1 = 0) then (q_X2_readKeep_12 i1 r0.2) else (q_X2_readKeep_10 r0.2))) := (ev_eq _ _ _).trans rfl
theorem e_X2_readKeep_10 (w : XW) : q_X2_readKeep_10 w = (some (some (.inl (.int 0)), w)) := (ev_eq _ _ _).trans rfl
theorem e_X2_readKeep_12 (i1 : Nat) (w : XW) : q_X2_readKeep_12 i1 w = (if (gI w 1 i1 3) < 0 ∨ 6 ≤ (gI w 1 i1 3).toNatClampNeg then none else ((F_X10_passNumber [.inr (9, 0), .inl (.int 0), .inl (.int 20)] (sI w 13 i1 ((gI w 1 i1 3).toNatClampNeg) (gI w 9 0 4))).bind fun r0 => (bif decide (¬ r0.1 = 0) then (q_X2_readKeep_37 i1 r0.2) else (q_X2_readKeep_35 r0.2)))) := (ev_eq _ _ _).trans rfl
theorem e_X2_readKeep_35 (w : XW) : q_X2_readKeep_35 w = (some (some (.inl (.int 0)), w)) := (ev_eq _ _ _).trans rfl
theorem e_X2_readKeep_37 (i1 : Nat) (w : XW) : q_X2_readKeep_37 i1 w = (if (gI w 1 i1 3) < 0 ∨ 6 ≤ (gI w 1 i1 3).toNatClampNeg then none else (some (some (.inl (.int 1)), sI (sI w 14 i1 ((gI w 1 i1 3).toNatClampNeg) (gI w 9 0 4)) 1 i1 3 ((gI (sI w 14 i1 ((gI w 1 i1 3).toNatClampNeg) (gI w 9 0 4)) 1 i1 3) + 1)))) := (ev_eq _ _ _).trans rfl
theorem f_X2_readKeep (i1 : Nat) (w : XW) : F_X2_readKeep [.inr (9, 0), .inr (1, i1)] w = (q_X2_readKeep_0 i1 w).bind pI := rfl

-- WinterKeep$DaleReader.readPerson(LWinterKeep$Tape;LWinterKeep$Dale;)Z
theorem dX2_readPerson_0 : decode cX2_readPerson 0 = .ok (.aload_n 0, 1) := by decide +kernel
theorem dX2_readPerson_1 : decode cX2_readPerson 1 = .ok (.iconst 0, 1) := by decide +kernel
theorem dX2_readPerson_2 : decode cX2_readPerson 2 = .ok (.aload_n 1, 1) := by decide +kernel
theorem dX2_readPerson_3 : decode cX2_readPerson 3 = .ok (.getfield 65, 3) := by decide +kernel
theorem dX2_readPerson_6 : decode cX2_readPerson 6 = .ok (.iconst 1, 1) := by decide +kernel
theorem dX2_readPerson_7 : decode cX2_readPerson 7 = .ok (.isub, 1) := by decide +kernel
theorem dX2_readPerson_8 : decode cX2_readPerson 8 = .ok (.invokevirtual 76, 3) := by decide +kernel
theorem dX2_readPerson_11 : decode cX2_readPerson 11 = .ok (.ifCond .ne 5, 3) := by decide +kernel
theorem dX2_readPerson_14 : decode cX2_readPerson 14 = .ok (.iconst 0, 1) := by decide +kernel
theorem dX2_readPerson_15 : decode cX2_readPerson 15 = .ok (.ireturn, 1) := by decide +kernel
theorem dX2_readPerson_16 : decode cX2_readPerson 16 = .ok (.aload_n 1, 1) := by decide +kernel
theorem dX2_readPerson_17 : decode cX2_readPerson 17 = .ok (.getfield 99, 3) := by decide +kernel
theorem dX2_readPerson_20 : decode cX2_readPerson 20 = .ok (.aload_n 1, 1) := by decide +kernel
theorem dX2_readPerson_21 : decode cX2_readPerson 21 = .ok (.getfield 70, 3) := by decide +kernel
theorem dX2_readPerson_24 : decode cX2_readPerson 24 = .ok (.aload_n 0, 1) := by decide +kernel
theorem dX2_readPerson_25 : decode cX2_readPerson 25 = .ok (.getfield 79, 3) := by decide +kernel
theorem dX2_readPerson_28 : decode cX2_readPerson 28 = .ok (.iastore, 1) := by decide +kernel
theorem dX2_readPerson_29 : decode cX2_readPerson 29 = .ok (.aload_n 0, 1) := by decide +kernel
theorem dX2_readPerson_30 : decode cX2_readPerson 30 = .ok (.iconst 0, 1) := by decide +kernel
theorem dX2_readPerson_31 : decode cX2_readPerson 31 = .ok (.bipush 9, 2) := by decide +kernel
theorem dX2_readPerson_33 : decode cX2_readPerson 33 = .ok (.invokevirtual 76, 3) := by decide +kernel
theorem dX2_readPerson_36 : decode cX2_readPerson 36 = .ok (.ifCond .ne 5, 3) := by decide +kernel
theorem dX2_readPerson_39 : decode cX2_readPerson 39 = .ok (.iconst 0, 1) := by decide +kernel
theorem dX2_readPerson_40 : decode cX2_readPerson 40 = .ok (.ireturn, 1) := by decide +kernel
theorem dX2_readPerson_41 : decode cX2_readPerson 41 = .ok (.aload_n 1, 1) := by decide +kernel
theorem dX2_readPerson_42 : decode cX2_readPerson 42 = .ok (.getfield 102, 3) := by decide +kernel
theorem dX2_readPerson_45 : decode cX2_readPerson 45 = .ok (.aload_n 1, 1) := by decide +kernel
theorem dX2_readPerson_46 : decode cX2_readPerson 46 = .ok (.getfield 70, 3) := by decide +kernel
theorem dX2_readPerson_49 : decode cX2_readPerson 49 = .ok (.aload_n 0, 1) := by decide +kernel
theorem dX2_readPerson_50 : decode cX2_readPerson 50 = .ok (.getfield 79, 3) := by decide +kernel
theorem dX2_readPerson_53 : decode cX2_readPerson 53 = .ok (.iastore, 1) := by decide +kernel
theorem dX2_readPerson_54 : decode cX2_readPerson 54 = .ok (.aload_n 1, 1) := by decide +kernel
theorem dX2_readPerson_55 : decode cX2_readPerson 55 = .ok (.dup, 1) := by decide +kernel
theorem dX2_readPerson_56 : decode cX2_readPerson 56 = .ok (.getfield 70, 3) := by decide +kernel
theorem dX2_readPerson_59 : decode cX2_readPerson 59 = .ok (.iconst 1, 1) := by decide +kernel
theorem dX2_readPerson_60 : decode cX2_readPerson 60 = .ok (.iadd, 1) := by decide +kernel
theorem dX2_readPerson_61 : decode cX2_readPerson 61 = .ok (.putfield 70, 3) := by decide +kernel
theorem dX2_readPerson_64 : decode cX2_readPerson 64 = .ok (.iconst 1, 1) := by decide +kernel
theorem dX2_readPerson_65 : decode cX2_readPerson 65 = .ok (.ireturn, 1) := by decide +kernel
noncomputable def bs_X2_readPerson : List (Nat × XB) := [
  (0, (sq (xLA 0) (sq (xC (.int 0)) (sq (xLA 1) (sq (xGI 1 3) (sq (xC (.int 1)) (sq (xI2 (· - ·)) (sq (xCI 9 3 F_X10_passNumber) (tIf1 (fun x => decide (¬ x = 0)) 16 [true, true] 14 [false, false]))))))))),
  (14, (sq (xC (.int 0)) tRZ)),
  (16, (sq (xLA 1) (sq (xGS 1 16 0 0) (sq (xLA 1) (sq (xGI 1 4) (sq (xLA 0) (sq (xGI 9 4) (sq (xTI 16 5 (fun x => x)) (sq (xLA 0) (sq (xC (.int 0)) (sq (xC (.int 9)) (sq (xCI 9 3 F_X10_passNumber) (tIf1 (fun x => decide (¬ x = 0)) 41 [true, true] 39 [false, false]))))))))))))),
  (39, (sq (xC (.int 0)) tRZ)),
  (41, (sq (xLA 1) (sq (xGS 1 17 0 0) (sq (xLA 1) (sq (xGI 1 4) (sq (xLA 0) (sq (xGI 9 4) (sq (xTI 17 5 (fun x => x)) (sq (xLA 1) (sq (xDup) (sq (xGI 1 4) (sq (xC (.int 1)) (sq (xI2 (· + ·)) (sq (xPI 1 4) (sq (xC (.int 1)) tRZ)))))))))))))))]
set_option maxRecDepth 100000 in
set_option maxHeartbeats 4000000 in
theorem s_X2_readPerson : ∀ X : XCtx, XE X → X.2.2.1.1 = cX2_readPerson → X.2.2.1.2.1 = 2 → X.2.2.1.2.2.1 = yX2_readPerson.cls → X.2.2.1.2.2.2.1 = (some .boolean) → X.1.2.2.2.1 = { frames := 3, cells := 0, slots := 0, locals := 63 } → SndBs X bs_X2_readPerson := by
  rintro ⟨⟨p, l, e, R, s⟩, Y, ⟨cc, nL, own, ret, Ts⟩, Z⟩ hE h1 h2 h3 h4 h5
  dsimp only at h1 h2 h3 h4 h5
  subst h1 h2 h3 h4 h5
  exact ⟨(n_sq (n_aload_n hE dX2_readPerson_0) (n_sq (n_iconst hE (by decide) dX2_readPerson_1) (n_sq (n_aload_n hE dX2_readPerson_2) (n_sq (n_getI hE xk_1 (k := 3) rfl (by decide) rfl wt_108 dX2_readPerson_3) (n_sq (n_iconst hE (by decide) dX2_readPerson_6) (n_sq (n_isub hE dX2_readPerson_7) (n_sq (n_cIv hE m_X10_passNumber vc_X2_76 (show 2 + 1 ≤ 3 ∧ 8 + (3 + 11) + 41 ≤ 63 by decide) dX2_readPerson_8) (n_ifne hE (by decide) dX2_readPerson_11)))))))),
    (n_sq (n_iconst hE (by decide) dX2_readPerson_14) (n_zreturn hE rfl dX2_readPerson_15)),
    (n_sq (n_aload_n hE dX2_readPerson_16) (n_sq (n_getS hE xk_1 (k := 9) rfl (by decide) rfl wt_132 dX2_readPerson_17) (n_sq (n_aload_n hE dX2_readPerson_20) (n_sq (n_getI hE xk_1 (k := 4) rfl (by decide) rfl wt_113 dX2_readPerson_21) (n_sq (n_aload_n hE dX2_readPerson_24) (n_sq (n_getI hE xk_9 (k := 4) rfl (by decide) rfl wt_46 dX2_readPerson_25) (n_sq (n_iast hE rfl (by decide) dX2_readPerson_28) (n_sq (n_aload_n hE dX2_readPerson_29) (n_sq (n_iconst hE (by decide) dX2_readPerson_30) (n_sq (n_bipush hE (by decide) dX2_readPerson_31) (n_sq (n_cIv hE m_X10_passNumber vc_X2_76 (show 2 + 1 ≤ 3 ∧ 8 + (3 + 11) + 41 ≤ 63 by decide) dX2_readPerson_33) (n_ifne hE (by decide) dX2_readPerson_36)))))))))))),
    (n_sq (n_iconst hE (by decide) dX2_readPerson_39) (n_zreturn hE rfl dX2_readPerson_40)),
    (n_sq (n_aload_n hE dX2_readPerson_41) (n_sq (n_getS hE xk_1 (k := 10) rfl (by decide) rfl wt_136 dX2_readPerson_42) (n_sq (n_aload_n hE dX2_readPerson_45) (n_sq (n_getI hE xk_1 (k := 4) rfl (by decide) rfl wt_113 dX2_readPerson_46) (n_sq (n_aload_n hE dX2_readPerson_49) (n_sq (n_getI hE xk_9 (k := 4) rfl (by decide) rfl wt_46 dX2_readPerson_50) (n_sq (n_iast hE rfl (by decide) dX2_readPerson_53) (n_sq (n_aload_n hE dX2_readPerson_54) (n_sq (n_dup hE dX2_readPerson_55) (n_sq (n_getI hE xk_1 (k := 4) rfl (by decide) rfl wt_113 dX2_readPerson_56) (n_sq (n_iconst hE (by decide) dX2_readPerson_59) (n_sq (n_iadd hE dX2_readPerson_60) (n_sq (n_putI hE xk_1 (k := 4) rfl (by decide) rfl rfl (tyX1_ok 4 (by decide)) wt_113 dX2_readPerson_61) (n_sq (n_iconst hE (by decide) dX2_readPerson_64) (n_zreturn hE rfl dX2_readPerson_65))))))))))))))), trivial⟩
noncomputable def F_X2_readPerson (as : List XV) (w : XW) : Option (Int32 × XW) := (xF 2 bs_X2_readPerson as w).bind pI
theorem m_X2_readPerson : XM yX2_readPerson cX2_readPerson 2 (some .boolean) 3 63 (eI F_X2_readPerson) := xm_I (xm_of (by decide) s_X2_readPerson)
noncomputable def q_X2_readPerson_0 (i1 : Nat) (w : XW) : Option XR := ev bs_X2_readPerson 0 ([some (.inr (9, 0)), some (.inr (1, i1))], [], w)
noncomputable def q_X2_readPerson_14 (w : XW) : Option XR := ev bs_X2_readPerson 14 ([none, none], [], w)
noncomputable def q_X2_readPerson_16 (i1 : Nat) (w : XW) : Option XR := ev bs_X2_readPerson 16 ([some (.inr (9, 0)), some (.inr (1, i1))], [], w)
noncomputable def q_X2_readPerson_39 (w : XW) : Option XR := ev bs_X2_readPerson 39 ([none, none], [], w)
noncomputable def q_X2_readPerson_41 (i1 : Nat) (w : XW) : Option XR := ev bs_X2_readPerson 41 ([some (.inr (9, 0)), some (.inr (1, i1))], [], w)
theorem e_X2_readPerson_0 (i1 : Nat) (w : XW) : q_X2_readPerson_0 i1 w = ((F_X10_passNumber [.inr (9, 0), .inl (.int 0), .inl (.int ((gI w 1 i1 3) - 1))] w).bind fun r0 => (bif decide (¬ r0.1 = 0) then (q_X2_readPerson_16 i1 r0.2) else (q_X2_readPerson_14 r0.2))) := (ev_eq _ _ _).trans rfl
theorem e_X2_readPerson_14 (w : XW) : q_X2_readPerson_14 w = (some (some (.inl (.int 0)), w)) := (ev_eq _ _ _).trans rfl
theorem e_X2_readPerson_16 (i1 : Nat) (w : XW) : q_X2_readPerson_16 i1 w = (if (gI w 1 i1 4) < 0 ∨ 5 ≤ (gI w 1 i1 4).toNatClampNeg then none else ((F_X10_passNumber [.inr (9, 0), .inl (.int 0), .inl (.int 9)] (sI w 16 i1 ((gI w 1 i1 4).toNatClampNeg) (gI w 9 0 4))).bind fun r0 => (bif decide (¬ r0.1 = 0) then (q_X2_readPerson_41 i1 r0.2) else (q_X2_readPerson_39 r0.2)))) := (ev_eq _ _ _).trans rfl
theorem e_X2_readPerson_39 (w : XW) : q_X2_readPerson_39 w = (some (some (.inl (.int 0)), w)) := (ev_eq _ _ _).trans rfl
theorem e_X2_readPerson_41 (i1 : Nat) (w : XW) : q_X2_readPerson_41 i1 w = (if (gI w 1 i1 4) < 0 ∨ 5 ≤ (gI w 1 i1 4).toNatClampNeg then none else (some (some (.inl (.int 1)), sI (sI w 17 i1 ((gI w 1 i1 4).toNatClampNeg) (gI w 9 0 4)) 1 i1 4 ((gI (sI w 17 i1 ((gI w 1 i1 4).toNatClampNeg) (gI w 9 0 4)) 1 i1 4) + 1)))) := (ev_eq _ _ _).trans rfl
theorem f_X2_readPerson (i1 : Nat) (w : XW) : F_X2_readPerson [.inr (9, 0), .inr (1, i1)] w = (q_X2_readPerson_0 i1 w).bind pI := rfl

-- WinterKeep$DaleReader.readField(LWinterKeep$Tape;LWinterKeep$Dale;)Z
theorem dX2_readField_0 : decode cX2_readField 0 = .ok (.aload_n 0, 1) := by decide +kernel
theorem dX2_readField_1 : decode cX2_readField 1 = .ok (.iconst 0, 1) := by decide +kernel
theorem dX2_readField_2 : decode cX2_readField 2 = .ok (.bipush 60, 2) := by decide +kernel
theorem dX2_readField_4 : decode cX2_readField 4 = .ok (.invokevirtual 76, 3) := by decide +kernel
theorem dX2_readField_7 : decode cX2_readField 7 = .ok (.ifCond .ne 5, 3) := by decide +kernel
theorem dX2_readField_10 : decode cX2_readField 10 = .ok (.iconst 0, 1) := by decide +kernel
theorem dX2_readField_11 : decode cX2_readField 11 = .ok (.ireturn, 1) := by decide +kernel
theorem dX2_readField_12 : decode cX2_readField 12 = .ok (.aload_n 1, 1) := by decide +kernel
theorem dX2_readField_13 : decode cX2_readField 13 = .ok (.getfield 105, 3) := by decide +kernel
theorem dX2_readField_16 : decode cX2_readField 16 = .ok (.aload_n 1, 1) := by decide +kernel
theorem dX2_readField_17 : decode cX2_readField 17 = .ok (.getfield 73, 3) := by decide +kernel
theorem dX2_readField_20 : decode cX2_readField 20 = .ok (.aload_n 0, 1) := by decide +kernel
theorem dX2_readField_21 : decode cX2_readField 21 = .ok (.getfield 79, 3) := by decide +kernel
theorem dX2_readField_24 : decode cX2_readField 24 = .ok (.iastore, 1) := by decide +kernel
theorem dX2_readField_25 : decode cX2_readField 25 = .ok (.aload_n 1, 1) := by decide +kernel
theorem dX2_readField_26 : decode cX2_readField 26 = .ok (.dup, 1) := by decide +kernel
theorem dX2_readField_27 : decode cX2_readField 27 = .ok (.getfield 73, 3) := by decide +kernel
theorem dX2_readField_30 : decode cX2_readField 30 = .ok (.iconst 1, 1) := by decide +kernel
theorem dX2_readField_31 : decode cX2_readField 31 = .ok (.iadd, 1) := by decide +kernel
theorem dX2_readField_32 : decode cX2_readField 32 = .ok (.putfield 73, 3) := by decide +kernel
theorem dX2_readField_35 : decode cX2_readField 35 = .ok (.iconst 1, 1) := by decide +kernel
theorem dX2_readField_36 : decode cX2_readField 36 = .ok (.ireturn, 1) := by decide +kernel
noncomputable def bs_X2_readField : List (Nat × XB) := [
  (0, (sq (xLA 0) (sq (xC (.int 0)) (sq (xC (.int 60)) (sq (xCI 9 3 F_X10_passNumber) (tIf1 (fun x => decide (¬ x = 0)) 12 [true, true] 10 [false, false])))))),
  (10, (sq (xC (.int 0)) tRZ)),
  (12, (sq (xLA 1) (sq (xGS 1 18 0 0) (sq (xLA 1) (sq (xGI 1 5) (sq (xLA 0) (sq (xGI 9 4) (sq (xTI 18 4 (fun x => x)) (sq (xLA 1) (sq (xDup) (sq (xGI 1 5) (sq (xC (.int 1)) (sq (xI2 (· + ·)) (sq (xPI 1 5) (sq (xC (.int 1)) tRZ)))))))))))))))]
set_option maxRecDepth 100000 in
set_option maxHeartbeats 4000000 in
theorem s_X2_readField : ∀ X : XCtx, XE X → X.2.2.1.1 = cX2_readField → X.2.2.1.2.1 = 2 → X.2.2.1.2.2.1 = yX2_readField.cls → X.2.2.1.2.2.2.1 = (some .boolean) → X.1.2.2.2.1 = { frames := 3, cells := 0, slots := 0, locals := 63 } → SndBs X bs_X2_readField := by
  rintro ⟨⟨p, l, e, R, s⟩, Y, ⟨cc, nL, own, ret, Ts⟩, Z⟩ hE h1 h2 h3 h4 h5
  dsimp only at h1 h2 h3 h4 h5
  subst h1 h2 h3 h4 h5
  exact ⟨(n_sq (n_aload_n hE dX2_readField_0) (n_sq (n_iconst hE (by decide) dX2_readField_1) (n_sq (n_bipush hE (by decide) dX2_readField_2) (n_sq (n_cIv hE m_X10_passNumber vc_X2_76 (show 2 + 1 ≤ 3 ∧ 8 + (3 + 11) + 41 ≤ 63 by decide) dX2_readField_4) (n_ifne hE (by decide) dX2_readField_7))))),
    (n_sq (n_iconst hE (by decide) dX2_readField_10) (n_zreturn hE rfl dX2_readField_11)),
    (n_sq (n_aload_n hE dX2_readField_12) (n_sq (n_getS hE xk_1 (k := 11) rfl (by decide) rfl wt_140 dX2_readField_13) (n_sq (n_aload_n hE dX2_readField_16) (n_sq (n_getI hE xk_1 (k := 5) rfl (by decide) rfl wt_117 dX2_readField_17) (n_sq (n_aload_n hE dX2_readField_20) (n_sq (n_getI hE xk_9 (k := 4) rfl (by decide) rfl wt_46 dX2_readField_21) (n_sq (n_iast hE rfl (by decide) dX2_readField_24) (n_sq (n_aload_n hE dX2_readField_25) (n_sq (n_dup hE dX2_readField_26) (n_sq (n_getI hE xk_1 (k := 5) rfl (by decide) rfl wt_117 dX2_readField_27) (n_sq (n_iconst hE (by decide) dX2_readField_30) (n_sq (n_iadd hE dX2_readField_31) (n_sq (n_putI hE xk_1 (k := 5) rfl (by decide) rfl rfl (tyX1_ok 5 (by decide)) wt_117 dX2_readField_32) (n_sq (n_iconst hE (by decide) dX2_readField_35) (n_zreturn hE rfl dX2_readField_36))))))))))))))), trivial⟩
noncomputable def F_X2_readField (as : List XV) (w : XW) : Option (Int32 × XW) := (xF 2 bs_X2_readField as w).bind pI
theorem m_X2_readField : XM yX2_readField cX2_readField 2 (some .boolean) 3 63 (eI F_X2_readField) := xm_I (xm_of (by decide) s_X2_readField)
noncomputable def q_X2_readField_0 (i1 : Nat) (w : XW) : Option XR := ev bs_X2_readField 0 ([some (.inr (9, 0)), some (.inr (1, i1))], [], w)
noncomputable def q_X2_readField_10 (w : XW) : Option XR := ev bs_X2_readField 10 ([none, none], [], w)
noncomputable def q_X2_readField_12 (i1 : Nat) (w : XW) : Option XR := ev bs_X2_readField 12 ([some (.inr (9, 0)), some (.inr (1, i1))], [], w)
theorem e_X2_readField_0 (i1 : Nat) (w : XW) : q_X2_readField_0 i1 w = ((F_X10_passNumber [.inr (9, 0), .inl (.int 0), .inl (.int 60)] w).bind fun r0 => (bif decide (¬ r0.1 = 0) then (q_X2_readField_12 i1 r0.2) else (q_X2_readField_10 r0.2))) := (ev_eq _ _ _).trans rfl
theorem e_X2_readField_10 (w : XW) : q_X2_readField_10 w = (some (some (.inl (.int 0)), w)) := (ev_eq _ _ _).trans rfl
theorem e_X2_readField_12 (i1 : Nat) (w : XW) : q_X2_readField_12 i1 w = (if (gI w 1 i1 5) < 0 ∨ 4 ≤ (gI w 1 i1 5).toNatClampNeg then none else (some (some (.inl (.int 1)), sI (sI w 18 i1 ((gI w 1 i1 5).toNatClampNeg) (gI w 9 0 4)) 1 i1 5 ((gI (sI w 18 i1 ((gI w 1 i1 5).toNatClampNeg) (gI w 9 0 4)) 1 i1 5) + 1)))) := (ev_eq _ _ _).trans rfl
theorem f_X2_readField (i1 : Nat) (w : XW) : F_X2_readField [.inr (9, 0), .inr (1, i1)] w = (q_X2_readField_0 i1 w).bind pI := rfl
