-- WinterKeepModel.tested()Z
theorem dX12_tested_0 : decode cX12_tested 0 = .ok (.aload_n 0, 1) := by decide +kernel
theorem dX12_tested_1 : decode cX12_tested 1 = .ok (.iconst 0, 1) := by decide +kernel
theorem dX12_tested_2 : decode cX12_tested 2 = .ok (.putfield 168, 3) := by decide +kernel
theorem dX12_tested_5 : decode cX12_tested 5 = .ok (.aload_n 0, 1) := by decide +kernel
theorem dX12_tested_6 : decode cX12_tested 6 = .ok (.iconst 0, 1) := by decide +kernel
theorem dX12_tested_7 : decode cX12_tested 7 = .ok (.putfield 165, 3) := by decide +kernel
theorem dX12_tested_10 : decode cX12_tested 10 = .ok (.iconst 1, 1) := by decide +kernel
theorem dX12_tested_11 : decode cX12_tested 11 = .ok (.istore_n 1, 1) := by decide +kernel
theorem dX12_tested_12 : decode cX12_tested 12 = .ok (.iload_n 1, 1) := by decide +kernel
theorem dX12_tested_13 : decode cX12_tested 13 = .ok (.ifCond .eq 99, 3) := by decide +kernel
theorem dX12_tested_16 : decode cX12_tested 16 = .ok (.aload_n 0, 1) := by decide +kernel
theorem dX12_tested_17 : decode cX12_tested 17 = .ok (.invokevirtual 213, 3) := by decide +kernel
theorem dX12_tested_20 : decode cX12_tested 20 = .ok (.ifCond .ne 5, 3) := by decide +kernel
theorem dX12_tested_23 : decode cX12_tested 23 = .ok (.iconst 0, 1) := by decide +kernel
theorem dX12_tested_24 : decode cX12_tested 24 = .ok (.ireturn, 1) := by decide +kernel
theorem dX12_tested_25 : decode cX12_tested 25 = .ok (.aload_n 0, 1) := by decide +kernel
theorem dX12_tested_26 : decode cX12_tested 26 = .ok (.invokevirtual 216, 3) := by decide +kernel
theorem dX12_tested_29 : decode cX12_tested 29 = .ok (.aload_n 0, 1) := by decide +kernel
theorem dX12_tested_30 : decode cX12_tested 30 = .ok (.ldc2_w 219, 3) := by decide +kernel
theorem dX12_tested_33 : decode cX12_tested 33 = .ok (.invokevirtual 117, 3) := by decide +kernel
theorem dX12_tested_36 : decode cX12_tested 36 = .ok (.ifCond .ne 13, 3) := by decide +kernel
theorem dX12_tested_39 : decode cX12_tested 39 = .ok (.aload_n 0, 1) := by decide +kernel
theorem dX12_tested_40 : decode cX12_tested 40 = .ok (.ldc2_w 221, 3) := by decide +kernel
theorem dX12_tested_43 : decode cX12_tested 43 = .ok (.invokevirtual 117, 3) := by decide +kernel
theorem dX12_tested_46 : decode cX12_tested 46 = .ok (.ifCond .eq 7, 3) := by decide +kernel
theorem dX12_tested_49 : decode cX12_tested 49 = .ok (.iconst 1, 1) := by decide +kernel
theorem dX12_tested_50 : decode cX12_tested 50 = .ok (.goto 4, 3) := by decide +kernel
theorem dX12_tested_53 : decode cX12_tested 53 = .ok (.iconst 0, 1) := by decide +kernel
theorem dX12_tested_54 : decode cX12_tested 54 = .ok (.istore_n 1, 1) := by decide +kernel
theorem dX12_tested_55 : decode cX12_tested 55 = .ok (.iload_n 1, 1) := by decide +kernel
theorem dX12_tested_56 : decode cX12_tested 56 = .ok (.ifCond .eq (-44), 3) := by decide +kernel
theorem dX12_tested_59 : decode cX12_tested 59 = .ok (.aload_n 0, 1) := by decide +kernel
theorem dX12_tested_60 : decode cX12_tested 60 = .ok (.ldc2_w 219, 3) := by decide +kernel
theorem dX12_tested_63 : decode cX12_tested 63 = .ok (.invokevirtual 117, 3) := by decide +kernel
theorem dX12_tested_66 : decode cX12_tested 66 = .ok (.ifCond .eq 8, 3) := by decide +kernel
theorem dX12_tested_69 : decode cX12_tested 69 = .ok (.bipush 12, 2) := by decide +kernel
theorem dX12_tested_71 : decode cX12_tested 71 = .ok (.goto 5, 3) := by decide +kernel
theorem dX12_tested_74 : decode cX12_tested 74 = .ok (.bipush 13, 2) := by decide +kernel
theorem dX12_tested_76 : decode cX12_tested 76 = .ok (.istore_n 2, 1) := by decide +kernel
theorem dX12_tested_77 : decode cX12_tested 77 = .ok (.aload_n 0, 1) := by decide +kernel
theorem dX12_tested_78 : decode cX12_tested 78 = .ok (.invokevirtual 121, 3) := by decide +kernel
theorem dX12_tested_81 : decode cX12_tested 81 = .ok (.aload_n 0, 1) := by decide +kernel
theorem dX12_tested_82 : decode cX12_tested 82 = .ok (.iload_n 2, 1) := by decide +kernel
theorem dX12_tested_83 : decode cX12_tested 83 = .ok (.invokestatic 171, 3) := by decide +kernel
theorem dX12_tested_86 : decode cX12_tested 86 = .ok (.invokevirtual 207, 3) := by decide +kernel
theorem dX12_tested_89 : decode cX12_tested 89 = .ok (.aload_n 0, 1) := by decide +kernel
theorem dX12_tested_90 : decode cX12_tested 90 = .ok (.getfield 29, 3) := by decide +kernel
theorem dX12_tested_93 : decode cX12_tested 93 = .ok (.aload_n 0, 1) := by decide +kernel
theorem dX12_tested_94 : decode cX12_tested 94 = .ok (.getfield 168, 3) := by decide +kernel
theorem dX12_tested_97 : decode cX12_tested 97 = .ok (.iload_n 2, 1) := by decide +kernel
theorem dX12_tested_98 : decode cX12_tested 98 = .ok (.iastore, 1) := by decide +kernel
theorem dX12_tested_99 : decode cX12_tested 99 = .ok (.aload_n 0, 1) := by decide +kernel
theorem dX12_tested_100 : decode cX12_tested 100 = .ok (.dup, 1) := by decide +kernel
theorem dX12_tested_101 : decode cX12_tested 101 = .ok (.getfield 168, 3) := by decide +kernel
theorem dX12_tested_104 : decode cX12_tested 104 = .ok (.iconst 1, 1) := by decide +kernel
theorem dX12_tested_105 : decode cX12_tested 105 = .ok (.iadd, 1) := by decide +kernel
theorem dX12_tested_106 : decode cX12_tested 106 = .ok (.putfield 168, 3) := by decide +kernel
theorem dX12_tested_109 : decode cX12_tested 109 = .ok (.goto (-97), 3) := by decide +kernel
theorem dX12_tested_112 : decode cX12_tested 112 = .ok (.aload_n 0, 1) := by decide +kernel
theorem dX12_tested_113 : decode cX12_tested 113 = .ok (.invokevirtual 210, 3) := by decide +kernel
theorem dX12_tested_116 : decode cX12_tested 116 = .ok (.ifCond .eq 18, 3) := by decide +kernel
theorem dX12_tested_119 : decode cX12_tested 119 = .ok (.aload_n 0, 1) := by decide +kernel
theorem dX12_tested_120 : decode cX12_tested 120 = .ok (.invokevirtual 109, 3) := by decide +kernel
theorem dX12_tested_123 : decode cX12_tested 123 = .ok (.pop, 1) := by decide +kernel
theorem dX12_tested_124 : decode cX12_tested 124 = .ok (.aload_n 0, 1) := by decide +kernel
theorem dX12_tested_125 : decode cX12_tested 125 = .ok (.iconst 0, 1) := by decide +kernel
theorem dX12_tested_126 : decode cX12_tested 126 = .ok (.aload_n 0, 1) := by decide +kernel
theorem dX12_tested_127 : decode cX12_tested 127 = .ok (.getfield 106, 3) := by decide +kernel
theorem dX12_tested_130 : decode cX12_tested 130 = .ok (.invokevirtual 127, 3) := by decide +kernel
theorem dX12_tested_133 : decode cX12_tested 133 = .ok (.ireturn, 1) := by decide +kernel
theorem dX12_tested_134 : decode cX12_tested 134 = .ok (.aload_n 0, 1) := by decide +kernel
theorem dX12_tested_135 : decode cX12_tested 135 = .ok (.iconst 1, 1) := by decide +kernel
theorem dX12_tested_136 : decode cX12_tested 136 = .ok (.invokevirtual 207, 3) := by decide +kernel
theorem dX12_tested_139 : decode cX12_tested 139 = .ok (.iconst 1, 1) := by decide +kernel
theorem dX12_tested_140 : decode cX12_tested 140 = .ok (.ireturn, 1) := by decide +kernel
theorem vc_X12_213 : XVw RX12 213 0 11 3 yX12_fact cX12_fact (some .boolean) := ⟨RX12, TX12, tyX12, 43, xk_11, rfl, ⟨by decide, by decide⟩, by decide +kernel, wt_1230, wt_1232, ws_65, wt_11, wt_1233⟩
theorem vc_X12_216 : XVw RX12 216 0 11 1 yX12_closes cX12_closes none := ⟨RX12, TX12, tyX12, 43, xk_11, rfl, ⟨by decide, by decide⟩, by decide +kernel, wt_1243, wt_1245, ws_68, wt_11, wt_1246⟩
noncomputable def bs_X12_tested : List (Nat × XB) := [
  (0, (sq (xLA 0) (sq (xC (.int 0)) (sq (xPI 11 16) (sq (xLA 0) (sq (xC (.int 0)) (sq (xPI 11 13) (sq (xC (.int 1)) (sq (xSI 1) (tGo 12 [true, true, false])))))))))),
  (12, (sq (xLI 1) (tIf1 (fun x => decide (x = 0)) 112 [true, false, false] 16 [true, false, false]))),
  (16, (sq (xLA 0) (sq (xCI 11 1 F_X12_fact) (tIf1 (fun x => decide (¬ x = 0)) 25 [true, false, false] 23 [false, false, false])))),
  (23, (sq (xC (.int 0)) tRZ)),
  (25, (sq (xLA 0) (sq (xCV 11 1 F_X12_closes) (sq (xLA 0) (sq (xC (.long 6385252)) (sq (xCI 11 2 F_X12_isWord) (tIf1 (fun x => decide (¬ x = 0)) 49 [true, false, false] 39 [true, false, false]))))))),
  (39, (sq (xLA 0) (sq (xC (.long 28530)) (sq (xCI 11 2 F_X12_isWord) (tIf1 (fun x => decide (x = 0)) 53 [true, false, false] 49 [true, false, false]))))),
  (49, (sq (xC (.int 1)) (tGo 54 [true, false, false]))),
  (53, (sq (xC (.int 0)) (tGo 54 [true, false, false]))),
  (54, (sq (xSI 1) (sq (xLI 1) (tIf1 (fun x => decide (x = 0)) 12 [true, true, false] 59 [true, true, false])))),
  (59, (sq (xLA 0) (sq (xC (.long 6385252)) (sq (xCI 11 2 F_X12_isWord) (tIf1 (fun x => decide (x = 0)) 74 [true, true, false] 69 [true, true, false]))))),
  (69, (sq (xC (.int 12)) (tGo 76 [true, true, false]))),
  (74, (sq (xC (.int 13)) (tGo 76 [true, true, false]))),
  (76, (sq (xSI 2) (sq (xLA 0) (sq (xCV 11 1 F_X12_passWord) (sq (xLA 0) (sq (xLI 2) (sq (xCI 99 1 F_X12_strength) (sq (xCV 11 2 F_X12_layDown) (sq (xLA 0) (sq (xGS 11 47 1 0) (sq (xLA 0) (sq (xGI 11 16) (sq (xLI 2) (sq (xTI 47 400 (fun x => x)) (sq (xLA 0) (sq (xDup) (sq (xGI 11 16) (sq (xC (.int 1)) (sq (xI2 (· + ·)) (sq (xPI 11 16) (tGo 12 [true, true, false]))))))))))))))))))))),
  (112, (sq (xLA 0) (sq (xCI 11 1 F_X12_isInside) (tIf1 (fun x => decide (x = 0)) 134 [true, false, false] 119 [true, false, false])))),
  (119, (sq (xLA 0) (sq (xCI 11 1 F_X12_see) (sq (xPop) (sq (xLA 0) (sq (xC (.int 0)) (sq (xLA 0) (sq (xGI 11 8) (sq (xCI 11 3 F_X12_fails) tRZ))))))))),
  (134, (sq (xLA 0) (sq (xC (.int 1)) (sq (xCV 11 2 F_X12_layDown) (sq (xC (.int 1)) tRZ)))))]
set_option maxRecDepth 100000 in
set_option maxHeartbeats 4000000 in
theorem s_X12_tested : ∀ X : XCtx, XE X → X.2.2.1.1 = cX12_tested → X.2.2.1.2.1 = 3 → X.2.2.1.2.2.1 = yX12_tested.cls → X.2.2.1.2.2.2.1 = (some .boolean) → X.1.2.2.2.1 = { frames := 8, cells := 0, slots := 0, locals := 176 } → SndBs X bs_X12_tested := by
  rintro ⟨⟨p, l, e, R, s⟩, Y, ⟨cc, nL, own, ret, Ts⟩, Z⟩ hE h1 h2 h3 h4 h5
  dsimp only at h1 h2 h3 h4 h5
  subst h1 h2 h3 h4 h5
  exact ⟨(n_sq (n_aload_n hE dX12_tested_0) (n_sq (n_iconst hE (by decide) dX12_tested_1) (n_sq (n_putI hE xk_11 (k := 16) rfl (by decide) rfl rfl (tyX12_ok 16 (by decide)) wt_976 dX12_tested_2) (n_sq (n_aload_n hE dX12_tested_5) (n_sq (n_iconst hE (by decide) dX12_tested_6) (n_sq (n_putI hE xk_11 (k := 13) rfl (by decide) rfl rfl (tyX12_ok 13 (by decide)) wt_973 dX12_tested_7) (n_sq (n_iconst hE (by decide) dX12_tested_10) (n_sq (n_istore_n hE (show (1 : Nat) < 3 by decide) dX12_tested_11) n_fall)))))))),
    (n_sq (n_iload_n hE dX12_tested_12) (n_ifeq hE (by decide) dX12_tested_13)),
    (n_sq (n_aload_n hE dX12_tested_16) (n_sq (n_cIv hE m_X12_fact vc_X12_213 (show 7 + 1 ≤ 8 ∧ 8 + (3 + 11) + 154 ≤ 176 by decide) dX12_tested_17) (n_ifne hE (by decide) dX12_tested_20))),
    (n_sq (n_iconst hE (by decide) dX12_tested_23) (n_zreturn hE rfl dX12_tested_24)),
    (n_sq (n_aload_n hE dX12_tested_25) (n_sq (n_cVv hE m_X12_closes vc_X12_216 (show 2 + 1 ≤ 8 ∧ 8 + (1 + 11) + 43 ≤ 176 by decide) dX12_tested_26) (n_sq (n_aload_n hE dX12_tested_29) (n_sq (n_ldc2 hE wt_1258 dX12_tested_30) (n_sq (n_cIv hE m_X12_isWord vc_X12_117 (show 1 + 1 ≤ 8 ∧ 8 + (6 + 11) + 21 ≤ 176 by decide) dX12_tested_33) (n_ifne hE (by decide) dX12_tested_36)))))),
    (n_sq (n_aload_n hE dX12_tested_39) (n_sq (n_ldc2 hE wt_1259 dX12_tested_40) (n_sq (n_cIv hE m_X12_isWord vc_X12_117 (show 1 + 1 ≤ 8 ∧ 8 + (6 + 11) + 21 ≤ 176 by decide) dX12_tested_43) (n_ifeq hE (by decide) dX12_tested_46)))),
    (n_sq (n_iconst hE (by decide) dX12_tested_49) (n_goto hE (by decide) dX12_tested_50)),
    (n_sq (n_iconst hE (by decide) dX12_tested_53) n_fall),
    (n_sq (n_istore_n hE (show (1 : Nat) < 3 by decide) dX12_tested_54) (n_sq (n_iload_n hE dX12_tested_55) (n_ifeq hE (by decide) dX12_tested_56))),
    (n_sq (n_aload_n hE dX12_tested_59) (n_sq (n_ldc2 hE wt_1258 dX12_tested_60) (n_sq (n_cIv hE m_X12_isWord vc_X12_117 (show 1 + 1 ≤ 8 ∧ 8 + (6 + 11) + 21 ≤ 176 by decide) dX12_tested_63) (n_ifeq hE (by decide) dX12_tested_66)))),
    (n_sq (n_bipush hE (by decide) dX12_tested_69) (n_goto hE (by decide) dX12_tested_71)),
    (n_sq (n_bipush hE (by decide) dX12_tested_74) n_fall),
    (n_sq (n_istore_n hE (show (2 : Nat) < 3 by decide) dX12_tested_76) (n_sq (n_aload_n hE dX12_tested_77) (n_sq (n_cVv hE m_X12_passWord vc_X12_121 (show 1 + 1 ≤ 8 ∧ 8 + (1 + 11) + 21 ≤ 176 by decide) dX12_tested_78) (n_sq (n_aload_n hE dX12_tested_81) (n_sq (n_iload_n hE dX12_tested_82) (n_sq (n_cIs hE m_X12_strength vc_X12_171 (show 0 + 1 ≤ 8 ∧ 8 + (1 + 11) + 0 ≤ 176 by decide) dX12_tested_83) (n_sq (n_cVv hE m_X12_layDown vc_X12_207 (show 1 + 1 ≤ 8 ∧ 8 + (2 + 11) + 22 ≤ 176 by decide) dX12_tested_86) (n_sq (n_aload_n hE dX12_tested_89) (n_sq (n_getS hE xk_11 (k := 15) rfl (by decide) rfl wt_975 dX12_tested_90) (n_sq (n_aload_n hE dX12_tested_93) (n_sq (n_getI hE xk_11 (k := 16) rfl (by decide) rfl wt_976 dX12_tested_94) (n_sq (n_iload_n hE dX12_tested_97) (n_sq (n_iast hE rfl (by decide) dX12_tested_98) (n_sq (n_aload_n hE dX12_tested_99) (n_sq (n_dup hE dX12_tested_100) (n_sq (n_getI hE xk_11 (k := 16) rfl (by decide) rfl wt_976 dX12_tested_101) (n_sq (n_iconst hE (by decide) dX12_tested_104) (n_sq (n_iadd hE dX12_tested_105) (n_sq (n_putI hE xk_11 (k := 16) rfl (by decide) rfl rfl (tyX12_ok 16 (by decide)) wt_976 dX12_tested_106) (n_goto hE (by decide) dX12_tested_109)))))))))))))))))))),
    (n_sq (n_aload_n hE dX12_tested_112) (n_sq (n_cIv hE m_X12_isInside vc_X12_210 (show 0 + 1 ≤ 8 ∧ 8 + (2 + 11) + 0 ≤ 176 by decide) dX12_tested_113) (n_ifeq hE (by decide) dX12_tested_116))),
    (n_sq (n_aload_n hE dX12_tested_119) (n_sq (n_cIv hE m_X12_see vc_X12_109 (show 0 + 1 ≤ 8 ∧ 8 + (1 + 11) + 0 ≤ 176 by decide) dX12_tested_120) (n_sq (n_pop hE dX12_tested_123) (n_sq (n_aload_n hE dX12_tested_124) (n_sq (n_iconst hE (by decide) dX12_tested_125) (n_sq (n_aload_n hE dX12_tested_126) (n_sq (n_getI hE xk_11 (k := 8) rfl (by decide) rfl wt_968 dX12_tested_127) (n_sq (n_cIv hE m_X12_fails vc_X12_127 (show 0 + 1 ≤ 8 ∧ 8 + (3 + 11) + 0 ≤ 176 by decide) dX12_tested_130) (n_zreturn hE rfl dX12_tested_133))))))))),
    (n_sq (n_aload_n hE dX12_tested_134) (n_sq (n_iconst hE (by decide) dX12_tested_135) (n_sq (n_cVv hE m_X12_layDown vc_X12_207 (show 1 + 1 ≤ 8 ∧ 8 + (2 + 11) + 22 ≤ 176 by decide) dX12_tested_136) (n_sq (n_iconst hE (by decide) dX12_tested_139) (n_zreturn hE rfl dX12_tested_140))))), trivial⟩
noncomputable def F_X12_tested (as : List XV) (w : XW) : Option (Int32 × XW) := (xF 3 bs_X12_tested as w).bind pI
theorem m_X12_tested : XM yX12_tested cX12_tested 3 (some .boolean) 8 176 (eI F_X12_tested) := xm_I (xm_of (by decide) s_X12_tested)
noncomputable def q_X12_tested_0 (w : XW) : Option XR := ev bs_X12_tested 0 ([some (.inr (11, 0)), none, none], [], w)
noncomputable def q_X12_tested_12 (x1 : Int32) (w : XW) : Option XR := ev bs_X12_tested 12 ([some (.inr (11, 0)), some (.inl (.int x1)), none], [], w)
noncomputable def q_X12_tested_16 (w : XW) : Option XR := ev bs_X12_tested 16 ([some (.inr (11, 0)), none, none], [], w)
noncomputable def q_X12_tested_23 (w : XW) : Option XR := ev bs_X12_tested 23 ([none, none, none], [], w)
noncomputable def q_X12_tested_25 (w : XW) : Option XR := ev bs_X12_tested 25 ([some (.inr (11, 0)), none, none], [], w)
noncomputable def q_X12_tested_39 (w : XW) : Option XR := ev bs_X12_tested 39 ([some (.inr (11, 0)), none, none], [], w)
noncomputable def q_X12_tested_49 (w : XW) : Option XR := ev bs_X12_tested 49 ([some (.inr (11, 0)), none, none], [], w)
noncomputable def q_X12_tested_53 (w : XW) : Option XR := ev bs_X12_tested 53 ([some (.inr (11, 0)), none, none], [], w)
noncomputable def q_X12_tested_54 (s0 : Int32) (w : XW) : Option XR := ev bs_X12_tested 54 ([some (.inr (11, 0)), none, none], [.inl (.int s0)], w)
noncomputable def q_X12_tested_59 (x1 : Int32) (w : XW) : Option XR := ev bs_X12_tested 59 ([some (.inr (11, 0)), some (.inl (.int x1)), none], [], w)
noncomputable def q_X12_tested_69 (x1 : Int32) (w : XW) : Option XR := ev bs_X12_tested 69 ([some (.inr (11, 0)), some (.inl (.int x1)), none], [], w)
noncomputable def q_X12_tested_74 (x1 : Int32) (w : XW) : Option XR := ev bs_X12_tested 74 ([some (.inr (11, 0)), some (.inl (.int x1)), none], [], w)
noncomputable def q_X12_tested_76 (x1 : Int32) (s0 : Int32) (w : XW) : Option XR := ev bs_X12_tested 76 ([some (.inr (11, 0)), some (.inl (.int x1)), none], [.inl (.int s0)], w)
noncomputable def q_X12_tested_112 (w : XW) : Option XR := ev bs_X12_tested 112 ([some (.inr (11, 0)), none, none], [], w)
noncomputable def q_X12_tested_119 (w : XW) : Option XR := ev bs_X12_tested 119 ([some (.inr (11, 0)), none, none], [], w)
noncomputable def q_X12_tested_134 (w : XW) : Option XR := ev bs_X12_tested 134 ([some (.inr (11, 0)), none, none], [], w)
theorem e_X12_tested_0 (w : XW) : q_X12_tested_0 w = (q_X12_tested_12 1 (sI (sI w 11 0 16 0) 11 0 13 0)) := (ev_eq _ _ _).trans rfl
theorem e_X12_tested_12 (x1 : Int32) (w : XW) : q_X12_tested_12 x1 w = (bif decide (x1 = 0) then (q_X12_tested_112 w) else (q_X12_tested_16 w)) := (ev_eq _ _ _).trans rfl
theorem e_X12_tested_16 (w : XW) : q_X12_tested_16 w = ((F_X12_fact [.inr (11, 0)] w).bind fun r0 => (bif decide (¬ r0.1 = 0) then (q_X12_tested_25 r0.2) else (q_X12_tested_23 r0.2))) := (ev_eq _ _ _).trans rfl
theorem e_X12_tested_23 (w : XW) : q_X12_tested_23 w = (some (some (.inl (.int 0)), w)) := (ev_eq _ _ _).trans rfl
theorem e_X12_tested_25 (w : XW) : q_X12_tested_25 w = ((F_X12_closes [.inr (11, 0)] w).bind fun r0 => ((F_X12_isWord [.inr (11, 0), .inl (.long 6385252)] r0).bind fun r1 => (bif decide (¬ r1.1 = 0) then (q_X12_tested_49 r1.2) else (q_X12_tested_39 r1.2)))) := (ev_eq _ _ _).trans rfl
theorem e_X12_tested_39 (w : XW) : q_X12_tested_39 w = ((F_X12_isWord [.inr (11, 0), .inl (.long 28530)] w).bind fun r0 => (bif decide (r0.1 = 0) then (q_X12_tested_53 r0.2) else (q_X12_tested_49 r0.2))) := (ev_eq _ _ _).trans rfl
theorem e_X12_tested_49 (w : XW) : q_X12_tested_49 w = (q_X12_tested_54 1 w) := (ev_eq _ _ _).trans rfl
theorem e_X12_tested_53 (w : XW) : q_X12_tested_53 w = (q_X12_tested_54 0 w) := (ev_eq _ _ _).trans rfl
theorem e_X12_tested_54 (s0 : Int32) (w : XW) : q_X12_tested_54 s0 w = (bif decide (s0 = 0) then (q_X12_tested_12 s0 w) else (q_X12_tested_59 s0 w)) := (ev_eq _ _ _).trans rfl
theorem e_X12_tested_59 (x1 : Int32) (w : XW) : q_X12_tested_59 x1 w = ((F_X12_isWord [.inr (11, 0), .inl (.long 6385252)] w).bind fun r0 => (bif decide (r0.1 = 0) then (q_X12_tested_74 x1 r0.2) else (q_X12_tested_69 x1 r0.2))) := (ev_eq _ _ _).trans rfl
theorem e_X12_tested_69 (x1 : Int32) (w : XW) : q_X12_tested_69 x1 w = (q_X12_tested_76 x1 12 w) := (ev_eq _ _ _).trans rfl
theorem e_X12_tested_74 (x1 : Int32) (w : XW) : q_X12_tested_74 x1 w = (q_X12_tested_76 x1 13 w) := (ev_eq _ _ _).trans rfl
theorem e_X12_tested_76 (x1 : Int32) (s0 : Int32) (w : XW) : q_X12_tested_76 x1 s0 w = ((F_X12_passWord [.inr (11, 0)] w).bind fun r0 => ((F_X12_strength [.inl (.int s0)] r0).bind fun r1 => ((F_X12_layDown [.inr (11, 0), .inl (.int r1.1)] r1.2).bind fun r2 => (if (gI r2 11 0 16) < 0 ∨ 400 ≤ (gI r2 11 0 16).toNatClampNeg then none else (q_X12_tested_12 x1 (sI (sI r2 47 0 ((gI r2 11 0 16).toNatClampNeg) s0) 11 0 16 ((gI (sI r2 47 0 ((gI r2 11 0 16).toNatClampNeg) s0) 11 0 16) + 1))))))) := (ev_eq _ _ _).trans rfl
theorem e_X12_tested_112 (w : XW) : q_X12_tested_112 w = ((F_X12_isInside [.inr (11, 0)] w).bind fun r0 => (bif decide (r0.1 = 0) then (q_X12_tested_134 r0.2) else (q_X12_tested_119 r0.2))) := (ev_eq _ _ _).trans rfl
theorem e_X12_tested_119 (w : XW) : q_X12_tested_119 w = ((F_X12_see [.inr (11, 0)] w).bind fun r0 => ((F_X12_fails [.inr (11, 0), .inl (.int 0), .inl (.int (gI r0.2 11 0 8))] r0.2).bind fun r1 => (if r1.1 = 0 ∨ r1.1 = 1 then some (some (.inl (.int r1.1)), r1.2) else none))) := (ev_eq _ _ _).trans rfl
theorem e_X12_tested_134 (w : XW) : q_X12_tested_134 w = ((F_X12_layDown [.inr (11, 0), .inl (.int 1)] w).bind fun r0 => (some (some (.inl (.int 1)), r0))) := (ev_eq _ _ _).trans rfl
theorem f_X12_tested (w : XW) : F_X12_tested [.inr (11, 0)] w = (q_X12_tested_0 w).bind pI := rfl

-- WinterKeepModel.isTellHere()Z
theorem dX12_isTellHere_0 : decode cX12_isTellHere 0 = .ok (.aload_n 0, 1) := by decide +kernel
theorem dX12_isTellHere_1 : decode cX12_isTellHere 1 = .ok (.invokevirtual 121, 3) := by decide +kernel
theorem dX12_isTellHere_4 : decode cX12_isTellHere 4 = .ok (.bipush 48, 2) := by decide +kernel
theorem dX12_isTellHere_6 : decode cX12_isTellHere 6 = .ok (.aload_n 0, 1) := by decide +kernel
theorem dX12_isTellHere_7 : decode cX12_isTellHere 7 = .ok (.getfield 159, 3) := by decide +kernel
theorem dX12_isTellHere_10 : decode cX12_isTellHere 10 = .ok (.imul, 1) := by decide +kernel
theorem dX12_isTellHere_11 : decode cX12_isTellHere 11 = .ok (.iconst 4, 1) := by decide +kernel
theorem dX12_isTellHere_12 : decode cX12_isTellHere 12 = .ok (.aload_n 0, 1) := by decide +kernel
theorem dX12_isTellHere_13 : decode cX12_isTellHere 13 = .ok (.getfield 23, 3) := by decide +kernel
theorem dX12_isTellHere_16 : decode cX12_isTellHere 16 = .ok (.aload_n 0, 1) := by decide +kernel
theorem dX12_isTellHere_17 : decode cX12_isTellHere 17 = .ok (.getfield 159, 3) := by decide +kernel
theorem dX12_isTellHere_20 : decode cX12_isTellHere 20 = .ok (.iaload, 1) := by decide +kernel
theorem dX12_isTellHere_21 : decode cX12_isTellHere 21 = .ok (.imul, 1) := by decide +kernel
theorem dX12_isTellHere_22 : decode cX12_isTellHere 22 = .ok (.iadd, 1) := by decide +kernel
theorem dX12_isTellHere_23 : decode cX12_isTellHere 23 = .ok (.istore_n 1, 1) := by decide +kernel
theorem dX12_isTellHere_24 : decode cX12_isTellHere 24 = .ok (.aload_n 0, 1) := by decide +kernel
theorem dX12_isTellHere_25 : decode cX12_isTellHere 25 = .ok (.getfield 20, 3) := by decide +kernel
theorem dX12_isTellHere_28 : decode cX12_isTellHere 28 = .ok (.iload_n 1, 1) := by decide +kernel
theorem dX12_isTellHere_29 : decode cX12_isTellHere 29 = .ok (.aload_n 0, 1) := by decide +kernel
theorem dX12_isTellHere_30 : decode cX12_isTellHere 30 = .ok (.getfield 17, 3) := by decide +kernel
theorem dX12_isTellHere_33 : decode cX12_isTellHere 33 = .ok (.aload_n 0, 1) := by decide +kernel
theorem dX12_isTellHere_34 : decode cX12_isTellHere 34 = .ok (.getfield 159, 3) := by decide +kernel
theorem dX12_isTellHere_37 : decode cX12_isTellHere 37 = .ok (.iaload, 1) := by decide +kernel
theorem dX12_isTellHere_38 : decode cX12_isTellHere 38 = .ok (.iastore, 1) := by decide +kernel
theorem dX12_isTellHere_39 : decode cX12_isTellHere 39 = .ok (.aload_n 0, 1) := by decide +kernel
theorem dX12_isTellHere_40 : decode cX12_isTellHere 40 = .ok (.invokevirtual 196, 3) := by decide +kernel
theorem dX12_isTellHere_43 : decode cX12_isTellHere 43 = .ok (.ifCond .ne 5, 3) := by decide +kernel
theorem dX12_isTellHere_46 : decode cX12_isTellHere 46 = .ok (.iconst 0, 1) := by decide +kernel
theorem dX12_isTellHere_47 : decode cX12_isTellHere 47 = .ok (.ireturn, 1) := by decide +kernel
theorem dX12_isTellHere_48 : decode cX12_isTellHere 48 = .ok (.aload_n 0, 1) := by decide +kernel
theorem dX12_isTellHere_49 : decode cX12_isTellHere 49 = .ok (.getfield 20, 3) := by decide +kernel
theorem dX12_isTellHere_52 : decode cX12_isTellHere 52 = .ok (.iload_n 1, 1) := by decide +kernel
theorem dX12_isTellHere_53 : decode cX12_isTellHere 53 = .ok (.iconst 1, 1) := by decide +kernel
theorem dX12_isTellHere_54 : decode cX12_isTellHere 54 = .ok (.iadd, 1) := by decide +kernel
theorem dX12_isTellHere_55 : decode cX12_isTellHere 55 = .ok (.aload_n 0, 1) := by decide +kernel
theorem dX12_isTellHere_56 : decode cX12_isTellHere 56 = .ok (.getfield 17, 3) := by decide +kernel
theorem dX12_isTellHere_59 : decode cX12_isTellHere 59 = .ok (.aload_n 0, 1) := by decide +kernel
theorem dX12_isTellHere_60 : decode cX12_isTellHere 60 = .ok (.getfield 159, 3) := by decide +kernel
theorem dX12_isTellHere_63 : decode cX12_isTellHere 63 = .ok (.iaload, 1) := by decide +kernel
theorem dX12_isTellHere_64 : decode cX12_isTellHere 64 = .ok (.iastore, 1) := by decide +kernel
theorem dX12_isTellHere_65 : decode cX12_isTellHere 65 = .ok (.aload_n 0, 1) := by decide +kernel
theorem dX12_isTellHere_66 : decode cX12_isTellHere 66 = .ok (.getfield 20, 3) := by decide +kernel
theorem dX12_isTellHere_69 : decode cX12_isTellHere 69 = .ok (.iload_n 1, 1) := by decide +kernel
theorem dX12_isTellHere_70 : decode cX12_isTellHere 70 = .ok (.iconst 2, 1) := by decide +kernel
theorem dX12_isTellHere_71 : decode cX12_isTellHere 71 = .ok (.iadd, 1) := by decide +kernel
theorem dX12_isTellHere_72 : decode cX12_isTellHere 72 = .ok (.iconst (-1), 1) := by decide +kernel
theorem dX12_isTellHere_73 : decode cX12_isTellHere 73 = .ok (.iastore, 1) := by decide +kernel
theorem dX12_isTellHere_74 : decode cX12_isTellHere 74 = .ok (.aload_n 0, 1) := by decide +kernel
theorem dX12_isTellHere_75 : decode cX12_isTellHere 75 = .ok (.ldc2_w 223, 3) := by decide +kernel
theorem dX12_isTellHere_78 : decode cX12_isTellHere 78 = .ok (.invokevirtual 225, 3) := by decide +kernel
theorem dX12_isTellHere_81 : decode cX12_isTellHere 81 = .ok (.ifCond .eq 29, 3) := by decide +kernel
theorem dX12_isTellHere_84 : decode cX12_isTellHere 84 = .ok (.aload_n 0, 1) := by decide +kernel
theorem dX12_isTellHere_85 : decode cX12_isTellHere 85 = .ok (.getfield 20, 3) := by decide +kernel
theorem dX12_isTellHere_88 : decode cX12_isTellHere 88 = .ok (.iload_n 1, 1) := by decide +kernel
theorem dX12_isTellHere_89 : decode cX12_isTellHere 89 = .ok (.iconst 2, 1) := by decide +kernel
theorem dX12_isTellHere_90 : decode cX12_isTellHere 90 = .ok (.iadd, 1) := by decide +kernel
theorem dX12_isTellHere_91 : decode cX12_isTellHere 91 = .ok (.aload_n 0, 1) := by decide +kernel
theorem dX12_isTellHere_92 : decode cX12_isTellHere 92 = .ok (.getfield 17, 3) := by decide +kernel
theorem dX12_isTellHere_95 : decode cX12_isTellHere 95 = .ok (.aload_n 0, 1) := by decide +kernel
theorem dX12_isTellHere_96 : decode cX12_isTellHere 96 = .ok (.getfield 159, 3) := by decide +kernel
theorem dX12_isTellHere_99 : decode cX12_isTellHere 99 = .ok (.iaload, 1) := by decide +kernel
theorem dX12_isTellHere_100 : decode cX12_isTellHere 100 = .ok (.iastore, 1) := by decide +kernel
theorem dX12_isTellHere_101 : decode cX12_isTellHere 101 = .ok (.aload_n 0, 1) := by decide +kernel
theorem dX12_isTellHere_102 : decode cX12_isTellHere 102 = .ok (.invokevirtual 228, 3) := by decide +kernel
theorem dX12_isTellHere_105 : decode cX12_isTellHere 105 = .ok (.ifCond .ne 5, 3) := by decide +kernel
theorem dX12_isTellHere_108 : decode cX12_isTellHere 108 = .ok (.iconst 0, 1) := by decide +kernel
theorem dX12_isTellHere_109 : decode cX12_isTellHere 109 = .ok (.ireturn, 1) := by decide +kernel
theorem dX12_isTellHere_110 : decode cX12_isTellHere 110 = .ok (.aload_n 0, 1) := by decide +kernel
theorem dX12_isTellHere_111 : decode cX12_isTellHere 111 = .ok (.getfield 20, 3) := by decide +kernel
theorem dX12_isTellHere_114 : decode cX12_isTellHere 114 = .ok (.iload_n 1, 1) := by decide +kernel
theorem dX12_isTellHere_115 : decode cX12_isTellHere 115 = .ok (.iconst 3, 1) := by decide +kernel
theorem dX12_isTellHere_116 : decode cX12_isTellHere 116 = .ok (.iadd, 1) := by decide +kernel
theorem dX12_isTellHere_117 : decode cX12_isTellHere 117 = .ok (.aload_n 0, 1) := by decide +kernel
theorem dX12_isTellHere_118 : decode cX12_isTellHere 118 = .ok (.getfield 17, 3) := by decide +kernel
theorem dX12_isTellHere_121 : decode cX12_isTellHere 121 = .ok (.aload_n 0, 1) := by decide +kernel
theorem dX12_isTellHere_122 : decode cX12_isTellHere 122 = .ok (.getfield 159, 3) := by decide +kernel
theorem dX12_isTellHere_125 : decode cX12_isTellHere 125 = .ok (.iaload, 1) := by decide +kernel
theorem dX12_isTellHere_126 : decode cX12_isTellHere 126 = .ok (.iastore, 1) := by decide +kernel
theorem dX12_isTellHere_127 : decode cX12_isTellHere 127 = .ok (.aload_n 0, 1) := by decide +kernel
theorem dX12_isTellHere_128 : decode cX12_isTellHere 128 = .ok (.getfield 23, 3) := by decide +kernel
theorem dX12_isTellHere_131 : decode cX12_isTellHere 131 = .ok (.aload_n 0, 1) := by decide +kernel
theorem dX12_isTellHere_132 : decode cX12_isTellHere 132 = .ok (.getfield 159, 3) := by decide +kernel
theorem dX12_isTellHere_135 : decode cX12_isTellHere 135 = .ok (.dup2, 1) := by decide +kernel
theorem dX12_isTellHere_136 : decode cX12_isTellHere 136 = .ok (.iaload, 1) := by decide +kernel
theorem dX12_isTellHere_137 : decode cX12_isTellHere 137 = .ok (.iconst 1, 1) := by decide +kernel
theorem dX12_isTellHere_138 : decode cX12_isTellHere 138 = .ok (.iadd, 1) := by decide +kernel
theorem dX12_isTellHere_139 : decode cX12_isTellHere 139 = .ok (.iastore, 1) := by decide +kernel
theorem dX12_isTellHere_140 : decode cX12_isTellHere 140 = .ok (.iconst 1, 1) := by decide +kernel
theorem dX12_isTellHere_141 : decode cX12_isTellHere 141 = .ok (.ireturn, 1) := by decide +kernel
theorem vc_X12_225 : XVw RX12 225 1 11 3 yX12_takesWord cX12_takesWord (some .boolean) := ⟨RX12, TX12, tyX12, 43, xk_11, rfl, ⟨by decide, by decide⟩, by decide +kernel, wt_1222, wt_1224, ws_63, wt_11, wt_1225⟩
theorem vc_X12_228 : XVw RX12 228 0 11 3 yX12_tested cX12_tested (some .boolean) := ⟨RX12, TX12, tyX12, 43, xk_11, rfl, ⟨by decide, by decide⟩, by decide +kernel, wt_1226, wt_1228, ws_64, wt_11, wt_1229⟩
noncomputable def bs_X12_isTellHere : List (Nat × XB) := [
  (0, (sq (xLA 0) (sq (xCV 11 1 F_X12_passWord) (sq (xC (.int 48)) (sq (xLA 0) (sq (xGI 11 11) (sq (xI2 (· * ·)) (sq (xC (.int 4)) (sq (xLA 0) (sq (xGS 11 45 1 0) (sq (xLA 0) (sq (xGI 11 11) (sq (xAI 45 6) (sq (xI2 (· * ·)) (sq (xI2 (· + ·)) (sq (xSI 1) (sq (xLA 0) (sq (xGS 11 44 1 0) (sq (xLI 1) (sq (xLA 0) (sq (xGS 11 43 1 0) (sq (xLA 0) (sq (xGI 11 11) (sq (xAI 43 7) (sq (xTI 44 288 (fun x => x)) (sq (xLA 0) (sq (xCI 11 1 F_X12_sum) (tIf1 (fun x => decide (¬ x = 0)) 48 [true, true] 46 [false, false])))))))))))))))))))))))))))),
  (46, (sq (xC (.int 0)) tRZ)),
  (48, (sq (xLA 0) (sq (xGS 11 44 1 0) (sq (xLI 1) (sq (xC (.int 1)) (sq (xI2 (· + ·)) (sq (xLA 0) (sq (xGS 11 43 1 0) (sq (xLA 0) (sq (xGI 11 11) (sq (xAI 43 7) (sq (xTI 44 288 (fun x => x)) (sq (xLA 0) (sq (xGS 11 44 1 0) (sq (xLI 1) (sq (xC (.int 2)) (sq (xI2 (· + ·)) (sq (xC (.int (-1))) (sq (xTI 44 288 (fun x => x)) (sq (xLA 0) (sq (xC (.long 26982)) (sq (xCI 11 2 F_X12_takesWord) (tIf1 (fun x => decide (x = 0)) 110 [true, true] 84 [true, true]))))))))))))))))))))))),
  (84, (sq (xLA 0) (sq (xGS 11 44 1 0) (sq (xLI 1) (sq (xC (.int 2)) (sq (xI2 (· + ·)) (sq (xLA 0) (sq (xGS 11 43 1 0) (sq (xLA 0) (sq (xGI 11 11) (sq (xAI 43 7) (sq (xTI 44 288 (fun x => x)) (sq (xLA 0) (sq (xCI 11 1 F_X12_tested) (tIf1 (fun x => decide (¬ x = 0)) 110 [true, true] 108 [false, false]))))))))))))))),
  (108, (sq (xC (.int 0)) tRZ)),
  (110, (sq (xLA 0) (sq (xGS 11 44 1 0) (sq (xLI 1) (sq (xC (.int 3)) (sq (xI2 (· + ·)) (sq (xLA 0) (sq (xGS 11 43 1 0) (sq (xLA 0) (sq (xGI 11 11) (sq (xAI 43 7) (sq (xTI 44 288 (fun x => x)) (sq (xLA 0) (sq (xGS 11 45 1 0) (sq (xLA 0) (sq (xGI 11 11) (sq (xDup2) (sq (xAI 45 6) (sq (xC (.int 1)) (sq (xI2 (· + ·)) (sq (xTI 45 6 (fun x => x)) (sq (xC (.int 1)) tRZ))))))))))))))))))))))]
set_option maxRecDepth 100000 in
set_option maxHeartbeats 4000000 in
theorem s_X12_isTellHere : ∀ X : XCtx, XE X → X.2.2.1.1 = cX12_isTellHere → X.2.2.1.2.1 = 2 → X.2.2.1.2.2.1 = yX12_isTellHere.cls → X.2.2.1.2.2.2.1 = (some .boolean) → X.1.2.2.2.1 = { frames := 9, cells := 0, slots := 0, locals := 198 } → SndBs X bs_X12_isTellHere := by
  rintro ⟨⟨p, l, e, R, s⟩, Y, ⟨cc, nL, own, ret, Ts⟩, Z⟩ hE h1 h2 h3 h4 h5
  dsimp only at h1 h2 h3 h4 h5
  subst h1 h2 h3 h4 h5
  exact ⟨(n_sq (n_aload_n hE dX12_isTellHere_0) (n_sq (n_cVv hE m_X12_passWord vc_X12_121 (show 1 + 1 ≤ 9 ∧ 8 + (1 + 11) + 21 ≤ 198 by decide) dX12_isTellHere_1) (n_sq (n_bipush hE (by decide) dX12_isTellHere_4) (n_sq (n_aload_n hE dX12_isTellHere_6) (n_sq (n_getI hE xk_11 (k := 11) rfl (by decide) rfl wt_971 dX12_isTellHere_7) (n_sq (n_imul hE dX12_isTellHere_10) (n_sq (n_iconst hE (by decide) dX12_isTellHere_11) (n_sq (n_aload_n hE dX12_isTellHere_12) (n_sq (n_getS hE xk_11 (k := 6) rfl (by decide) rfl wt_966 dX12_isTellHere_13) (n_sq (n_aload_n hE dX12_isTellHere_16) (n_sq (n_getI hE xk_11 (k := 11) rfl (by decide) rfl wt_971 dX12_isTellHere_17) (n_sq (n_iald hE rfl (by decide) dX12_isTellHere_20) (n_sq (n_imul hE dX12_isTellHere_21) (n_sq (n_iadd hE dX12_isTellHere_22) (n_sq (n_istore_n hE (show (1 : Nat) < 2 by decide) dX12_isTellHere_23) (n_sq (n_aload_n hE dX12_isTellHere_24) (n_sq (n_getS hE xk_11 (k := 5) rfl (by decide) rfl wt_965 dX12_isTellHere_25) (n_sq (n_iload_n hE dX12_isTellHere_28) (n_sq (n_aload_n hE dX12_isTellHere_29) (n_sq (n_getS hE xk_11 (k := 4) rfl (by decide) rfl wt_964 dX12_isTellHere_30) (n_sq (n_aload_n hE dX12_isTellHere_33) (n_sq (n_getI hE xk_11 (k := 11) rfl (by decide) rfl wt_971 dX12_isTellHere_34) (n_sq (n_iald hE rfl (by decide) dX12_isTellHere_37) (n_sq (n_iast hE rfl (by decide) dX12_isTellHere_38) (n_sq (n_aload_n hE dX12_isTellHere_39) (n_sq (n_cIv hE m_X12_sum vc_X12_196 (show 5 + 1 ≤ 9 ∧ 8 + (2 + 11) + 109 ≤ 198 by decide) dX12_isTellHere_40) (n_ifne hE (by decide) dX12_isTellHere_43))))))))))))))))))))))))))),
    (n_sq (n_iconst hE (by decide) dX12_isTellHere_46) (n_zreturn hE rfl dX12_isTellHere_47)),
    (n_sq (n_aload_n hE dX12_isTellHere_48) (n_sq (n_getS hE xk_11 (k := 5) rfl (by decide) rfl wt_965 dX12_isTellHere_49) (n_sq (n_iload_n hE dX12_isTellHere_52) (n_sq (n_iconst hE (by decide) dX12_isTellHere_53) (n_sq (n_iadd hE dX12_isTellHere_54) (n_sq (n_aload_n hE dX12_isTellHere_55) (n_sq (n_getS hE xk_11 (k := 4) rfl (by decide) rfl wt_964 dX12_isTellHere_56) (n_sq (n_aload_n hE dX12_isTellHere_59) (n_sq (n_getI hE xk_11 (k := 11) rfl (by decide) rfl wt_971 dX12_isTellHere_60) (n_sq (n_iald hE rfl (by decide) dX12_isTellHere_63) (n_sq (n_iast hE rfl (by decide) dX12_isTellHere_64) (n_sq (n_aload_n hE dX12_isTellHere_65) (n_sq (n_getS hE xk_11 (k := 5) rfl (by decide) rfl wt_965 dX12_isTellHere_66) (n_sq (n_iload_n hE dX12_isTellHere_69) (n_sq (n_iconst hE (by decide) dX12_isTellHere_70) (n_sq (n_iadd hE dX12_isTellHere_71) (n_sq (n_iconst hE (by decide) dX12_isTellHere_72) (n_sq (n_iast hE rfl (by decide) dX12_isTellHere_73) (n_sq (n_aload_n hE dX12_isTellHere_74) (n_sq (n_ldc2 hE wt_1221 dX12_isTellHere_75) (n_sq (n_cIv hE m_X12_takesWord vc_X12_225 (show 2 + 1 ≤ 9 ∧ 8 + (3 + 11) + 46 ≤ 198 by decide) dX12_isTellHere_78) (n_ifeq hE (by decide) dX12_isTellHere_81)))))))))))))))))))))),
    (n_sq (n_aload_n hE dX12_isTellHere_84) (n_sq (n_getS hE xk_11 (k := 5) rfl (by decide) rfl wt_965 dX12_isTellHere_85) (n_sq (n_iload_n hE dX12_isTellHere_88) (n_sq (n_iconst hE (by decide) dX12_isTellHere_89) (n_sq (n_iadd hE dX12_isTellHere_90) (n_sq (n_aload_n hE dX12_isTellHere_91) (n_sq (n_getS hE xk_11 (k := 4) rfl (by decide) rfl wt_964 dX12_isTellHere_92) (n_sq (n_aload_n hE dX12_isTellHere_95) (n_sq (n_getI hE xk_11 (k := 11) rfl (by decide) rfl wt_971 dX12_isTellHere_96) (n_sq (n_iald hE rfl (by decide) dX12_isTellHere_99) (n_sq (n_iast hE rfl (by decide) dX12_isTellHere_100) (n_sq (n_aload_n hE dX12_isTellHere_101) (n_sq (n_cIv hE m_X12_tested vc_X12_228 (show 8 + 1 ≤ 9 ∧ 8 + (3 + 11) + 176 ≤ 198 by decide) dX12_isTellHere_102) (n_ifne hE (by decide) dX12_isTellHere_105)))))))))))))),
    (n_sq (n_iconst hE (by decide) dX12_isTellHere_108) (n_zreturn hE rfl dX12_isTellHere_109)),
    (n_sq (n_aload_n hE dX12_isTellHere_110) (n_sq (n_getS hE xk_11 (k := 5) rfl (by decide) rfl wt_965 dX12_isTellHere_111) (n_sq (n_iload_n hE dX12_isTellHere_114) (n_sq (n_iconst hE (by decide) dX12_isTellHere_115) (n_sq (n_iadd hE dX12_isTellHere_116) (n_sq (n_aload_n hE dX12_isTellHere_117) (n_sq (n_getS hE xk_11 (k := 4) rfl (by decide) rfl wt_964 dX12_isTellHere_118) (n_sq (n_aload_n hE dX12_isTellHere_121) (n_sq (n_getI hE xk_11 (k := 11) rfl (by decide) rfl wt_971 dX12_isTellHere_122) (n_sq (n_iald hE rfl (by decide) dX12_isTellHere_125) (n_sq (n_iast hE rfl (by decide) dX12_isTellHere_126) (n_sq (n_aload_n hE dX12_isTellHere_127) (n_sq (n_getS hE xk_11 (k := 6) rfl (by decide) rfl wt_966 dX12_isTellHere_128) (n_sq (n_aload_n hE dX12_isTellHere_131) (n_sq (n_getI hE xk_11 (k := 11) rfl (by decide) rfl wt_971 dX12_isTellHere_132) (n_sq (n_dup2 hE dX12_isTellHere_135) (n_sq (n_iald hE rfl (by decide) dX12_isTellHere_136) (n_sq (n_iconst hE (by decide) dX12_isTellHere_137) (n_sq (n_iadd hE dX12_isTellHere_138) (n_sq (n_iast hE rfl (by decide) dX12_isTellHere_139) (n_sq (n_iconst hE (by decide) dX12_isTellHere_140) (n_zreturn hE rfl dX12_isTellHere_141)))))))))))))))))))))), trivial⟩
noncomputable def F_X12_isTellHere (as : List XV) (w : XW) : Option (Int32 × XW) := (xF 2 bs_X12_isTellHere as w).bind pI
theorem m_X12_isTellHere : XM yX12_isTellHere cX12_isTellHere 2 (some .boolean) 9 198 (eI F_X12_isTellHere) := xm_I (xm_of (by decide) s_X12_isTellHere)
noncomputable def q_X12_isTellHere_0 (w : XW) : Option XR := ev bs_X12_isTellHere 0 ([some (.inr (11, 0)), none], [], w)
noncomputable def q_X12_isTellHere_46 (w : XW) : Option XR := ev bs_X12_isTellHere 46 ([none, none], [], w)
noncomputable def q_X12_isTellHere_48 (x1 : Int32) (w : XW) : Option XR := ev bs_X12_isTellHere 48 ([some (.inr (11, 0)), some (.inl (.int x1))], [], w)
noncomputable def q_X12_isTellHere_84 (x1 : Int32) (w : XW) : Option XR := ev bs_X12_isTellHere 84 ([some (.inr (11, 0)), some (.inl (.int x1))], [], w)
noncomputable def q_X12_isTellHere_108 (w : XW) : Option XR := ev bs_X12_isTellHere 108 ([none, none], [], w)
noncomputable def q_X12_isTellHere_110 (x1 : Int32) (w : XW) : Option XR := ev bs_X12_isTellHere 110 ([some (.inr (11, 0)), some (.inl (.int x1))], [], w)
theorem e_X12_isTellHere_0 (w : XW) : q_X12_isTellHere_0 w = ((F_X12_passWord [.inr (11, 0)] w).bind fun r0 => (if (gI r0 11 0 11) < 0 ∨ 6 ≤ (gI r0 11 0 11).toNatClampNeg then none else (if (gI r0 11 0 11) < 0 ∨ 7 ≤ (gI r0 11 0 11).toNatClampNeg then none else (if ((48 * (gI r0 11 0 11)) + (4 * (gI r0 45 0 (gI r0 11 0 11).toNatClampNeg))) < 0 ∨ 288 ≤ ((48 * (gI r0 11 0 11)) + (4 * (gI r0 45 0 (gI r0 11 0 11).toNatClampNeg))).toNatClampNeg then none else ((F_X12_sum [.inr (11, 0)] (sI r0 44 0 (((48 * (gI r0 11 0 11)) + (4 * (gI r0 45 0 (gI r0 11 0 11).toNatClampNeg))).toNatClampNeg) (gI r0 43 0 (gI r0 11 0 11).toNatClampNeg))).bind fun r1 => (bif decide (¬ r1.1 = 0) then (q_X12_isTellHere_48 ((48 * (gI r0 11 0 11)) + (4 * (gI r0 45 0 (gI r0 11 0 11).toNatClampNeg))) r1.2) else (q_X12_isTellHere_46 r1.2))))))) := (ev_eq _ _ _).trans rfl
theorem e_X12_isTellHere_46 (w : XW) : q_X12_isTellHere_46 w = (some (some (.inl (.int 0)), w)) := (ev_eq _ _ _).trans rfl
theorem e_X12_isTellHere_48 (x1 : Int32) (w : XW) : q_X12_isTellHere_48 x1 w = (if (gI w 11 0 11) < 0 ∨ 7 ≤ (gI w 11 0 11).toNatClampNeg then none else (if (x1 + 1) < 0 ∨ 288 ≤ (x1 + 1).toNatClampNeg then none else (if (x1 + 2) < 0 ∨ 288 ≤ (x1 + 2).toNatClampNeg then none else ((F_X12_takesWord [.inr (11, 0), .inl (.long 26982)] (sI (sI w 44 0 ((x1 + 1).toNatClampNeg) (gI w 43 0 (gI w 11 0 11).toNatClampNeg)) 44 0 ((x1 + 2).toNatClampNeg) (-1))).bind fun r0 => (bif decide (r0.1 = 0) then (q_X12_isTellHere_110 x1 r0.2) else (q_X12_isTellHere_84 x1 r0.2)))))) := (ev_eq _ _ _).trans rfl
theorem e_X12_isTellHere_84 (x1 : Int32) (w : XW) : q_X12_isTellHere_84 x1 w = (if (gI w 11 0 11) < 0 ∨ 7 ≤ (gI w 11 0 11).toNatClampNeg then none else (if (x1 + 2) < 0 ∨ 288 ≤ (x1 + 2).toNatClampNeg then none else ((F_X12_tested [.inr (11, 0)] (sI w 44 0 ((x1 + 2).toNatClampNeg) (gI w 43 0 (gI w 11 0 11).toNatClampNeg))).bind fun r0 => (bif decide (¬ r0.1 = 0) then (q_X12_isTellHere_110 x1 r0.2) else (q_X12_isTellHere_108 r0.2))))) := (ev_eq _ _ _).trans rfl
theorem e_X12_isTellHere_108 (w : XW) : q_X12_isTellHere_108 w = (some (some (.inl (.int 0)), w)) := (ev_eq _ _ _).trans rfl
theorem e_X12_isTellHere_110 (x1 : Int32) (w : XW) : q_X12_isTellHere_110 x1 w = (if (gI w 11 0 11) < 0 ∨ 7 ≤ (gI w 11 0 11).toNatClampNeg then none else (if (x1 + 3) < 0 ∨ 288 ≤ (x1 + 3).toNatClampNeg then none else (if (gI (sI w 44 0 ((x1 + 3).toNatClampNeg) (gI w 43 0 (gI w 11 0 11).toNatClampNeg)) 11 0 11) < 0 ∨ 6 ≤ (gI (sI w 44 0 ((x1 + 3).toNatClampNeg) (gI w 43 0 (gI w 11 0 11).toNatClampNeg)) 11 0 11).toNatClampNeg then none else (if (gI (sI w 44 0 ((x1 + 3).toNatClampNeg) (gI w 43 0 (gI w 11 0 11).toNatClampNeg)) 11 0 11) < 0 ∨ 6 ≤ (gI (sI w 44 0 ((x1 + 3).toNatClampNeg) (gI w 43 0 (gI w 11 0 11).toNatClampNeg)) 11 0 11).toNatClampNeg then none else (some (some (.inl (.int 1)), sI (sI w 44 0 ((x1 + 3).toNatClampNeg) (gI w 43 0 (gI w 11 0 11).toNatClampNeg)) 45 0 ((gI (sI w 44 0 ((x1 + 3).toNatClampNeg) (gI w 43 0 (gI w 11 0 11).toNatClampNeg)) 11 0 11).toNatClampNeg) ((gI (sI w 44 0 ((x1 + 3).toNatClampNeg) (gI w 43 0 (gI w 11 0 11).toNatClampNeg)) 45 0 (gI (sI w 44 0 ((x1 + 3).toNatClampNeg) (gI w 43 0 (gI w 11 0 11).toNatClampNeg)) 11 0 11).toNatClampNeg) + 1))))))) := (ev_eq _ _ _).trans rfl
theorem f_X12_isTellHere (w : XW) : F_X12_isTellHere [.inr (11, 0)] w = (q_X12_isTellHere_0 w).bind pI := rfl

-- WinterKeepModel.cellHere(III)Z
theorem dX12_cellHere_0 : decode cX12_cellHere 0 = .ok (.aload_n 0, 1) := by decide +kernel
theorem dX12_cellHere_1 : decode cX12_cellHere 1 = .ok (.iload_n 2, 1) := by decide +kernel
theorem dX12_cellHere_2 : decode cX12_cellHere 2 = .ok (.iload_n 3, 1) := by decide +kernel
theorem dX12_cellHere_3 : decode cX12_cellHere 3 = .ok (.invokevirtual 180, 3) := by decide +kernel
theorem dX12_cellHere_6 : decode cX12_cellHere 6 = .ok (.ifCond .ne 5, 3) := by decide +kernel
theorem dX12_cellHere_9 : decode cX12_cellHere 9 = .ok (.iconst 0, 1) := by decide +kernel
theorem dX12_cellHere_10 : decode cX12_cellHere 10 = .ok (.ireturn, 1) := by decide +kernel
theorem dX12_cellHere_11 : decode cX12_cellHere 11 = .ok (.aload_n 0, 1) := by decide +kernel
theorem dX12_cellHere_12 : decode cX12_cellHere 12 = .ok (.getfield 26, 3) := by decide +kernel
theorem dX12_cellHere_15 : decode cX12_cellHere 15 = .ok (.iload_n 1, 1) := by decide +kernel
theorem dX12_cellHere_16 : decode cX12_cellHere 16 = .ok (.aload_n 0, 1) := by decide +kernel
theorem dX12_cellHere_17 : decode cX12_cellHere 17 = .ok (.getfield 130, 3) := by decide +kernel
theorem dX12_cellHere_20 : decode cX12_cellHere 20 = .ok (.iastore, 1) := by decide +kernel
theorem dX12_cellHere_21 : decode cX12_cellHere 21 = .ok (.iconst 1, 1) := by decide +kernel
theorem dX12_cellHere_22 : decode cX12_cellHere 22 = .ok (.ireturn, 1) := by decide +kernel
noncomputable def bs_X12_cellHere : List (Nat × XB) := [
  (0, (sq (xLA 0) (sq (xLI 2) (sq (xLI 3) (sq (xCI 11 3 F_X12_numberHere) (tIf1 (fun x => decide (¬ x = 0)) 11 [true, true, false, false] 9 [false, false, false, false])))))),
  (9, (sq (xC (.int 0)) tRZ)),
  (11, (sq (xLA 0) (sq (xGS 11 46 1 0) (sq (xLI 1) (sq (xLA 0) (sq (xGI 11 10) (sq (xTI 46 67 (fun x => x)) (sq (xC (.int 1)) tRZ))))))))]
set_option maxRecDepth 100000 in
set_option maxHeartbeats 4000000 in
theorem s_X12_cellHere : ∀ X : XCtx, XE X → X.2.2.1.1 = cX12_cellHere → X.2.2.1.2.1 = 4 → X.2.2.1.2.2.1 = yX12_cellHere.cls → X.2.2.1.2.2.2.1 = (some .boolean) → X.1.2.2.2.1 = { frames := 2, cells := 0, slots := 0, locals := 49 } → SndBs X bs_X12_cellHere := by
  rintro ⟨⟨p, l, e, R, s⟩, Y, ⟨cc, nL, own, ret, Ts⟩, Z⟩ hE h1 h2 h3 h4 h5
  dsimp only at h1 h2 h3 h4 h5
  subst h1 h2 h3 h4 h5
  exact ⟨(n_sq (n_aload_n hE dX12_cellHere_0) (n_sq (n_iload_n hE dX12_cellHere_1) (n_sq (n_iload_n hE dX12_cellHere_2) (n_sq (n_cIv hE m_X12_numberHere vc_X12_180 (show 1 + 1 ≤ 2 ∧ 8 + (5 + 11) + 25 ≤ 49 by decide) dX12_cellHere_3) (n_ifne hE (by decide) dX12_cellHere_6))))),
    (n_sq (n_iconst hE (by decide) dX12_cellHere_9) (n_zreturn hE rfl dX12_cellHere_10)),
    (n_sq (n_aload_n hE dX12_cellHere_11) (n_sq (n_getS hE xk_11 (k := 7) rfl (by decide) rfl wt_967 dX12_cellHere_12) (n_sq (n_iload_n hE dX12_cellHere_15) (n_sq (n_aload_n hE dX12_cellHere_16) (n_sq (n_getI hE xk_11 (k := 10) rfl (by decide) rfl wt_970 dX12_cellHere_17) (n_sq (n_iast hE rfl (by decide) dX12_cellHere_20) (n_sq (n_iconst hE (by decide) dX12_cellHere_21) (n_zreturn hE rfl dX12_cellHere_22)))))))), trivial⟩
noncomputable def F_X12_cellHere (as : List XV) (w : XW) : Option (Int32 × XW) := (xF 4 bs_X12_cellHere as w).bind pI
theorem m_X12_cellHere : XM yX12_cellHere cX12_cellHere 4 (some .boolean) 2 49 (eI F_X12_cellHere) := xm_I (xm_of (by decide) s_X12_cellHere)
noncomputable def q_X12_cellHere_0 (x1 : Int32) (x2 : Int32) (x3 : Int32) (w : XW) : Option XR := ev bs_X12_cellHere 0 ([some (.inr (11, 0)), some (.inl (.int x1)), some (.inl (.int x2)), some (.inl (.int x3))], [], w)
noncomputable def q_X12_cellHere_9 (w : XW) : Option XR := ev bs_X12_cellHere 9 ([none, none, none, none], [], w)
noncomputable def q_X12_cellHere_11 (x1 : Int32) (w : XW) : Option XR := ev bs_X12_cellHere 11 ([some (.inr (11, 0)), some (.inl (.int x1)), none, none], [], w)
theorem e_X12_cellHere_0 (x1 : Int32) (x2 : Int32) (x3 : Int32) (w : XW) : q_X12_cellHere_0 x1 x2 x3 w = ((F_X12_numberHere [.inr (11, 0), .inl (.int x2), .inl (.int x3)] w).bind fun r0 => (bif decide (¬ r0.1 = 0) then (q_X12_cellHere_11 x1 r0.2) else (q_X12_cellHere_9 r0.2))) := (ev_eq _ _ _).trans rfl
theorem e_X12_cellHere_9 (w : XW) : q_X12_cellHere_9 w = (some (some (.inl (.int 0)), w)) := (ev_eq _ _ _).trans rfl
theorem e_X12_cellHere_11 (x1 : Int32) (w : XW) : q_X12_cellHere_11 x1 w = (if x1 < 0 ∨ 67 ≤ x1.toNatClampNeg then none else (some (some (.inl (.int 1)), sI w 46 0 x1.toNatClampNeg (gI w 11 0 10)))) := (ev_eq _ _ _).trans rfl
theorem f_X12_cellHere (x1 : Int32) (x2 : Int32) (x3 : Int32) (w : XW) : F_X12_cellHere [.inr (11, 0), .inl (.int x1), .inl (.int x2), .inl (.int x3)] w = (q_X12_cellHere_0 x1 x2 x3 w).bind pI := rfl

-- WinterKeepModel.isDaleHere(I)Z
theorem dX12_isDaleHere_0 : decode cX12_isDaleHere 0 = .ok (.aload_n 0, 1) := by decide +kernel
theorem dX12_isDaleHere_1 : decode cX12_isDaleHere 1 = .ok (.getfield 26, 3) := by decide +kernel
theorem dX12_isDaleHere_4 : decode cX12_isDaleHere 4 = .ok (.iconst 0, 1) := by decide +kernel
theorem dX12_isDaleHere_5 : decode cX12_isDaleHere 5 = .ok (.iaload, 1) := by decide +kernel
theorem dX12_isDaleHere_6 : decode cX12_isDaleHere 6 = .ok (.ifCond .le 10, 3) := by decide +kernel
theorem dX12_isDaleHere_9 : decode cX12_isDaleHere 9 = .ok (.aload_n 0, 1) := by decide +kernel
theorem dX12_isDaleHere_10 : decode cX12_isDaleHere 10 = .ok (.iconst 4, 1) := by decide +kernel
theorem dX12_isDaleHere_11 : decode cX12_isDaleHere 11 = .ok (.iload_n 1, 1) := by decide +kernel
theorem dX12_isDaleHere_12 : decode cX12_isDaleHere 12 = .ok (.invokevirtual 127, 3) := by decide +kernel
theorem dX12_isDaleHere_15 : decode cX12_isDaleHere 15 = .ok (.ireturn, 1) := by decide +kernel
theorem dX12_isDaleHere_16 : decode cX12_isDaleHere 16 = .ok (.aload_n 0, 1) := by decide +kernel
theorem dX12_isDaleHere_17 : decode cX12_isDaleHere 17 = .ok (.invokevirtual 121, 3) := by decide +kernel
theorem dX12_isDaleHere_20 : decode cX12_isDaleHere 20 = .ok (.aload_n 0, 1) := by decide +kernel
theorem dX12_isDaleHere_21 : decode cX12_isDaleHere 21 = .ok (.iconst 1, 1) := by decide +kernel
theorem dX12_isDaleHere_22 : decode cX12_isDaleHere 22 = .ok (.iconst 0, 1) := by decide +kernel
theorem dX12_isDaleHere_23 : decode cX12_isDaleHere 23 = .ok (.bipush 9, 2) := by decide +kernel
theorem dX12_isDaleHere_25 : decode cX12_isDaleHere 25 = .ok (.invokevirtual 231, 3) := by decide +kernel
theorem dX12_isDaleHere_28 : decode cX12_isDaleHere 28 = .ok (.ifCond .eq 14, 3) := by decide +kernel
theorem dX12_isDaleHere_31 : decode cX12_isDaleHere 31 = .ok (.aload_n 0, 1) := by decide +kernel
theorem dX12_isDaleHere_32 : decode cX12_isDaleHere 32 = .ok (.iconst 2, 1) := by decide +kernel
theorem dX12_isDaleHere_33 : decode cX12_isDaleHere 33 = .ok (.iconst 1, 1) := by decide +kernel
theorem dX12_isDaleHere_34 : decode cX12_isDaleHere 34 = .ok (.bipush 99, 2) := by decide +kernel
theorem dX12_isDaleHere_36 : decode cX12_isDaleHere 36 = .ok (.invokevirtual 231, 3) := by decide +kernel
theorem dX12_isDaleHere_39 : decode cX12_isDaleHere 39 = .ok (.ifCond .ne 5, 3) := by decide +kernel
theorem dX12_isDaleHere_42 : decode cX12_isDaleHere 42 = .ok (.iconst 0, 1) := by decide +kernel
theorem dX12_isDaleHere_43 : decode cX12_isDaleHere 43 = .ok (.ireturn, 1) := by decide +kernel
theorem dX12_isDaleHere_44 : decode cX12_isDaleHere 44 = .ok (.aload_n 0, 1) := by decide +kernel
theorem dX12_isDaleHere_45 : decode cX12_isDaleHere 45 = .ok (.getfield 26, 3) := by decide +kernel
theorem dX12_isDaleHere_48 : decode cX12_isDaleHere 48 = .ok (.iconst 0, 1) := by decide +kernel
theorem dX12_isDaleHere_49 : decode cX12_isDaleHere 49 = .ok (.iconst 1, 1) := by decide +kernel
theorem dX12_isDaleHere_50 : decode cX12_isDaleHere 50 = .ok (.iastore, 1) := by decide +kernel
theorem dX12_isDaleHere_51 : decode cX12_isDaleHere 51 = .ok (.iconst 1, 1) := by decide +kernel
theorem dX12_isDaleHere_52 : decode cX12_isDaleHere 52 = .ok (.ireturn, 1) := by decide +kernel
theorem vc_X12_231 : XVw RX12 231 3 11 4 yX12_cellHere cX12_cellHere (some .boolean) := ⟨RX12, TX12, tyX12, 43, xk_11, rfl, ⟨by decide, by decide⟩, by decide +kernel, wt_1153, wt_1155, ws_49, wt_11, wt_1156⟩
noncomputable def bs_X12_isDaleHere : List (Nat × XB) := [
  (0, (sq (xLA 0) (sq (xGS 11 46 1 0) (sq (xC (.int 0)) (sq (xAI 46 67) (tIf1 (fun x => decide (x ≤ 0)) 16 [true, false] 9 [true, true])))))),
  (9, (sq (xLA 0) (sq (xC (.int 4)) (sq (xLI 1) (sq (xCI 11 3 F_X12_fails) tRZ))))),
  (16, (sq (xLA 0) (sq (xCV 11 1 F_X12_passWord) (sq (xLA 0) (sq (xC (.int 1)) (sq (xC (.int 0)) (sq (xC (.int 9)) (sq (xCI 11 4 F_X12_cellHere) (tIf1 (fun x => decide (x = 0)) 42 [false, false] 31 [true, false]))))))))),
  (31, (sq (xLA 0) (sq (xC (.int 2)) (sq (xC (.int 1)) (sq (xC (.int 99)) (sq (xCI 11 4 F_X12_cellHere) (tIf1 (fun x => decide (¬ x = 0)) 44 [true, false] 42 [false, false]))))))),
  (42, (sq (xC (.int 0)) tRZ)),
  (44, (sq (xLA 0) (sq (xGS 11 46 1 0) (sq (xC (.int 0)) (sq (xC (.int 1)) (sq (xTI 46 67 (fun x => x)) (sq (xC (.int 1)) tRZ)))))))]
set_option maxRecDepth 100000 in
set_option maxHeartbeats 4000000 in
theorem s_X12_isDaleHere : ∀ X : XCtx, XE X → X.2.2.1.1 = cX12_isDaleHere → X.2.2.1.2.1 = 2 → X.2.2.1.2.2.1 = yX12_isDaleHere.cls → X.2.2.1.2.2.2.1 = (some .boolean) → X.1.2.2.2.1 = { frames := 3, cells := 0, slots := 0, locals := 72 } → SndBs X bs_X12_isDaleHere := by
  rintro ⟨⟨p, l, e, R, s⟩, Y, ⟨cc, nL, own, ret, Ts⟩, Z⟩ hE h1 h2 h3 h4 h5
  dsimp only at h1 h2 h3 h4 h5
  subst h1 h2 h3 h4 h5
  exact ⟨(n_sq (n_aload_n hE dX12_isDaleHere_0) (n_sq (n_getS hE xk_11 (k := 7) rfl (by decide) rfl wt_967 dX12_isDaleHere_1) (n_sq (n_iconst hE (by decide) dX12_isDaleHere_4) (n_sq (n_iald hE rfl (by decide) dX12_isDaleHere_5) (n_ifle hE (by decide) dX12_isDaleHere_6))))),
    (n_sq (n_aload_n hE dX12_isDaleHere_9) (n_sq (n_iconst hE (by decide) dX12_isDaleHere_10) (n_sq (n_iload_n hE dX12_isDaleHere_11) (n_sq (n_cIv hE m_X12_fails vc_X12_127 (show 0 + 1 ≤ 3 ∧ 8 + (3 + 11) + 0 ≤ 72 by decide) dX12_isDaleHere_12) (n_zreturn hE rfl dX12_isDaleHere_15))))),
    (n_sq (n_aload_n hE dX12_isDaleHere_16) (n_sq (n_cVv hE m_X12_passWord vc_X12_121 (show 1 + 1 ≤ 3 ∧ 8 + (1 + 11) + 21 ≤ 72 by decide) dX12_isDaleHere_17) (n_sq (n_aload_n hE dX12_isDaleHere_20) (n_sq (n_iconst hE (by decide) dX12_isDaleHere_21) (n_sq (n_iconst hE (by decide) dX12_isDaleHere_22) (n_sq (n_bipush hE (by decide) dX12_isDaleHere_23) (n_sq (n_cIv hE m_X12_cellHere vc_X12_231 (show 2 + 1 ≤ 3 ∧ 8 + (4 + 11) + 49 ≤ 72 by decide) dX12_isDaleHere_25) (n_ifeq hE (by decide) dX12_isDaleHere_28)))))))),
    (n_sq (n_aload_n hE dX12_isDaleHere_31) (n_sq (n_iconst hE (by decide) dX12_isDaleHere_32) (n_sq (n_iconst hE (by decide) dX12_isDaleHere_33) (n_sq (n_bipush hE (by decide) dX12_isDaleHere_34) (n_sq (n_cIv hE m_X12_cellHere vc_X12_231 (show 2 + 1 ≤ 3 ∧ 8 + (4 + 11) + 49 ≤ 72 by decide) dX12_isDaleHere_36) (n_ifne hE (by decide) dX12_isDaleHere_39)))))),
    (n_sq (n_iconst hE (by decide) dX12_isDaleHere_42) (n_zreturn hE rfl dX12_isDaleHere_43)),
    (n_sq (n_aload_n hE dX12_isDaleHere_44) (n_sq (n_getS hE xk_11 (k := 7) rfl (by decide) rfl wt_967 dX12_isDaleHere_45) (n_sq (n_iconst hE (by decide) dX12_isDaleHere_48) (n_sq (n_iconst hE (by decide) dX12_isDaleHere_49) (n_sq (n_iast hE rfl (by decide) dX12_isDaleHere_50) (n_sq (n_iconst hE (by decide) dX12_isDaleHere_51) (n_zreturn hE rfl dX12_isDaleHere_52))))))), trivial⟩
noncomputable def F_X12_isDaleHere (as : List XV) (w : XW) : Option (Int32 × XW) := (xF 2 bs_X12_isDaleHere as w).bind pI
theorem m_X12_isDaleHere : XM yX12_isDaleHere cX12_isDaleHere 2 (some .boolean) 3 72 (eI F_X12_isDaleHere) := xm_I (xm_of (by decide) s_X12_isDaleHere)
noncomputable def q_X12_isDaleHere_0 (x1 : Int32) (w : XW) : Option XR := ev bs_X12_isDaleHere 0 ([some (.inr (11, 0)), some (.inl (.int x1))], [], w)
noncomputable def q_X12_isDaleHere_9 (x1 : Int32) (w : XW) : Option XR := ev bs_X12_isDaleHere 9 ([some (.inr (11, 0)), some (.inl (.int x1))], [], w)
noncomputable def q_X12_isDaleHere_16 (w : XW) : Option XR := ev bs_X12_isDaleHere 16 ([some (.inr (11, 0)), none], [], w)
noncomputable def q_X12_isDaleHere_31 (w : XW) : Option XR := ev bs_X12_isDaleHere 31 ([some (.inr (11, 0)), none], [], w)
noncomputable def q_X12_isDaleHere_42 (w : XW) : Option XR := ev bs_X12_isDaleHere 42 ([none, none], [], w)
noncomputable def q_X12_isDaleHere_44 (w : XW) : Option XR := ev bs_X12_isDaleHere 44 ([some (.inr (11, 0)), none], [], w)
theorem e_X12_isDaleHere_0 (x1 : Int32) (w : XW) : q_X12_isDaleHere_0 x1 w = (bif decide ((gI w 46 0 0) ≤ 0) then (q_X12_isDaleHere_16 w) else (q_X12_isDaleHere_9 x1 w)) := (ev_eq _ _ _).trans rfl
theorem e_X12_isDaleHere_9 (x1 : Int32) (w : XW) : q_X12_isDaleHere_9 x1 w = ((F_X12_fails [.inr (11, 0), .inl (.int 4), .inl (.int x1)] w).bind fun r0 => (if r0.1 = 0 ∨ r0.1 = 1 then some (some (.inl (.int r0.1)), r0.2) else none)) := (ev_eq _ _ _).trans rfl
theorem e_X12_isDaleHere_16 (w : XW) : q_X12_isDaleHere_16 w = ((F_X12_passWord [.inr (11, 0)] w).bind fun r0 => ((F_X12_cellHere [.inr (11, 0), .inl (.int 1), .inl (.int 0), .inl (.int 9)] r0).bind fun r1 => (bif decide (r1.1 = 0) then (q_X12_isDaleHere_42 r1.2) else (q_X12_isDaleHere_31 r1.2)))) := (ev_eq _ _ _).trans rfl
theorem e_X12_isDaleHere_31 (w : XW) : q_X12_isDaleHere_31 w = ((F_X12_cellHere [.inr (11, 0), .inl (.int 2), .inl (.int 1), .inl (.int 99)] w).bind fun r0 => (bif decide (¬ r0.1 = 0) then (q_X12_isDaleHere_44 r0.2) else (q_X12_isDaleHere_42 r0.2))) := (ev_eq _ _ _).trans rfl
theorem e_X12_isDaleHere_42 (w : XW) : q_X12_isDaleHere_42 w = (some (some (.inl (.int 0)), w)) := (ev_eq _ _ _).trans rfl
theorem e_X12_isDaleHere_44 (w : XW) : q_X12_isDaleHere_44 w = (some (some (.inl (.int 1)), sI w 46 0 0 1)) := (ev_eq _ _ _).trans rfl
theorem f_X12_isDaleHere (x1 : Int32) (w : XW) : F_X12_isDaleHere [.inr (11, 0), .inl (.int x1)] w = (q_X12_isDaleHere_0 x1 w).bind pI := rfl
