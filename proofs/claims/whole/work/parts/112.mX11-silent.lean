-- WinterKeep.silent(II)I
theorem dX11_silent_0 : decode cX11_silent 0 = .ok (.aload_n 0, 1) := by decide +kernel
theorem dX11_silent_1 : decode cX11_silent 1 = .ok (.getfield 39, 3) := by decide +kernel
theorem dX11_silent_4 : decode cX11_silent 4 = .ok (.getfield 227, 3) := by decide +kernel
theorem dX11_silent_7 : decode cX11_silent 7 = .ok (.ifCond .eq 22, 3) := by decide +kernel
theorem dX11_silent_10 : decode cX11_silent 10 = .ok (.iload_n 1, 1) := by decide +kernel
theorem dX11_silent_11 : decode cX11_silent 11 = .ok (.iconst 1, 1) := by decide +kernel
theorem dX11_silent_12 : decode cX11_silent 12 = .ok (.bipush 40, 2) := by decide +kernel
theorem dX11_silent_14 : decode cX11_silent 14 = .ok (.invokestatic 170, 3) := by decide +kernel
theorem dX11_silent_17 : decode cX11_silent 17 = .ok (.ifCond .eq 12, 3) := by decide +kernel
theorem dX11_silent_20 : decode cX11_silent 20 = .ok (.iload_n 2, 1) := by decide +kernel
theorem dX11_silent_21 : decode cX11_silent 21 = .ok (.iconst 0, 1) := by decide +kernel
theorem dX11_silent_22 : decode cX11_silent 22 = .ok (.iconst 2, 1) := by decide +kernel
theorem dX11_silent_23 : decode cX11_silent 23 = .ok (.invokestatic 170, 3) := by decide +kernel
theorem dX11_silent_26 : decode cX11_silent 26 = .ok (.ifCond .ne 6, 3) := by decide +kernel
theorem dX11_silent_29 : decode cX11_silent 29 = .ok (.bipush (-2), 2) := by decide +kernel
theorem dX11_silent_31 : decode cX11_silent 31 = .ok (.ireturn, 1) := by decide +kernel
theorem dX11_silent_32 : decode cX11_silent 32 = .ok (.iconst (-1), 1) := by decide +kernel
theorem dX11_silent_33 : decode cX11_silent 33 = .ok (.istore_n 3, 1) := by decide +kernel
theorem dX11_silent_34 : decode cX11_silent 34 = .ok (.iconst 0, 1) := by decide +kernel
theorem dX11_silent_35 : decode cX11_silent 35 = .ok (.istore 4, 2) := by decide +kernel
theorem dX11_silent_37 : decode cX11_silent 37 = .ok (.iconst 0, 1) := by decide +kernel
theorem dX11_silent_38 : decode cX11_silent 38 = .ok (.istore 5, 2) := by decide +kernel
theorem dX11_silent_40 : decode cX11_silent 40 = .ok (.iconst (-1), 1) := by decide +kernel
theorem dX11_silent_41 : decode cX11_silent 41 = .ok (.istore 6, 2) := by decide +kernel
theorem dX11_silent_43 : decode cX11_silent 43 = .ok (.iload 6, 2) := by decide +kernel
theorem dX11_silent_45 : decode cX11_silent 45 = .ok (.aload_n 0, 1) := by decide +kernel
theorem dX11_silent_46 : decode cX11_silent 46 = .ok (.getfield 39, 3) := by decide +kernel
theorem dX11_silent_49 : decode cX11_silent 49 = .ok (.getfield 200, 3) := by decide +kernel
theorem dX11_silent_52 : decode cX11_silent 52 = .ok (.if_icmp .ge 87, 3) := by decide +kernel
theorem dX11_silent_55 : decode cX11_silent 55 = .ok (.aload_n 0, 1) := by decide +kernel
theorem dX11_silent_56 : decode cX11_silent 56 = .ok (.invokevirtual 250, 3) := by decide +kernel
theorem dX11_silent_59 : decode cX11_silent 59 = .ok (.aload_n 0, 1) := by decide +kernel
theorem dX11_silent_60 : decode cX11_silent 60 = .ok (.getfield 56, 3) := by decide +kernel
theorem dX11_silent_63 : decode cX11_silent 63 = .ok (.iload 6, 2) := by decide +kernel
theorem dX11_silent_65 : decode cX11_silent 65 = .ok (.iconst 0, 1) := by decide +kernel
theorem dX11_silent_66 : decode cX11_silent 66 = .ok (.invokevirtual 281, 3) := by decide +kernel
theorem dX11_silent_69 : decode cX11_silent 69 = .ok (.aload_n 0, 1) := by decide +kernel
theorem dX11_silent_70 : decode cX11_silent 70 = .ok (.iload_n 1, 1) := by decide +kernel
theorem dX11_silent_71 : decode cX11_silent 71 = .ok (.invokevirtual 253, 3) := by decide +kernel
theorem dX11_silent_74 : decode cX11_silent 74 = .ok (.aload_n 0, 1) := by decide +kernel
theorem dX11_silent_75 : decode cX11_silent 75 = .ok (.getfield 50, 3) := by decide +kernel
theorem dX11_silent_78 : decode cX11_silent 78 = .ok (.invokevirtual 213, 3) := by decide +kernel
theorem dX11_silent_81 : decode cX11_silent 81 = .ok (.invokestatic 276, 3) := by decide +kernel
theorem dX11_silent_84 : decode cX11_silent 84 = .ok (.istore 7, 2) := by decide +kernel
theorem dX11_silent_86 : decode cX11_silent 86 = .ok (.aload_n 0, 1) := by decide +kernel
theorem dX11_silent_87 : decode cX11_silent 87 = .ok (.getfield 50, 3) := by decide +kernel
theorem dX11_silent_90 : decode cX11_silent 90 = .ok (.invokevirtual 209, 3) := by decide +kernel
theorem dX11_silent_93 : decode cX11_silent 93 = .ok (.istore 8, 2) := by decide +kernel
theorem dX11_silent_95 : decode cX11_silent 95 = .ok (.iload 6, 2) := by decide +kernel
theorem dX11_silent_97 : decode cX11_silent 97 = .ok (.iconst (-1), 1) := by decide +kernel
theorem dX11_silent_98 : decode cX11_silent 98 = .ok (.if_icmp .eq 24, 3) := by decide +kernel
theorem dX11_silent_101 : decode cX11_silent 101 = .ok (.iload 7, 2) := by decide +kernel
theorem dX11_silent_103 : decode cX11_silent 103 = .ok (.iload 4, 2) := by decide +kernel
theorem dX11_silent_105 : decode cX11_silent 105 = .ok (.if_icmp .lt 17, 3) := by decide +kernel
theorem dX11_silent_108 : decode cX11_silent 108 = .ok (.iload 7, 2) := by decide +kernel
theorem dX11_silent_110 : decode cX11_silent 110 = .ok (.iload 4, 2) := by decide +kernel
theorem dX11_silent_112 : decode cX11_silent 112 = .ok (.if_icmp .ne 21, 3) := by decide +kernel
theorem dX11_silent_115 : decode cX11_silent 115 = .ok (.iload 8, 2) := by decide +kernel
theorem dX11_silent_117 : decode cX11_silent 117 = .ok (.iload 5, 2) := by decide +kernel
theorem dX11_silent_119 : decode cX11_silent 119 = .ok (.if_icmp .le 14, 3) := by decide +kernel
theorem dX11_silent_122 : decode cX11_silent 122 = .ok (.iload 6, 2) := by decide +kernel
theorem dX11_silent_124 : decode cX11_silent 124 = .ok (.istore_n 3, 1) := by decide +kernel
theorem dX11_silent_125 : decode cX11_silent 125 = .ok (.iload 7, 2) := by decide +kernel
theorem dX11_silent_127 : decode cX11_silent 127 = .ok (.istore 4, 2) := by decide +kernel
theorem dX11_silent_129 : decode cX11_silent 129 = .ok (.iload 8, 2) := by decide +kernel
theorem dX11_silent_131 : decode cX11_silent 131 = .ok (.istore 5, 2) := by decide +kernel
theorem dX11_silent_133 : decode cX11_silent 133 = .ok (.iinc 6 1, 3) := by decide +kernel
theorem dX11_silent_136 : decode cX11_silent 136 = .ok (.goto (-93), 3) := by decide +kernel
theorem dX11_silent_139 : decode cX11_silent 139 = .ok (.iload_n 2, 1) := by decide +kernel
theorem dX11_silent_140 : decode cX11_silent 140 = .ok (.ifCond .ne 5, 3) := by decide +kernel
theorem dX11_silent_143 : decode cX11_silent 143 = .ok (.iload_n 3, 1) := by decide +kernel
theorem dX11_silent_144 : decode cX11_silent 144 = .ok (.ireturn, 1) := by decide +kernel
theorem dX11_silent_145 : decode cX11_silent 145 = .ok (.iload_n 2, 1) := by decide +kernel
theorem dX11_silent_146 : decode cX11_silent 146 = .ok (.iconst 1, 1) := by decide +kernel
theorem dX11_silent_147 : decode cX11_silent 147 = .ok (.if_icmp .ne 8, 3) := by decide +kernel
theorem dX11_silent_150 : decode cX11_silent 150 = .ok (.iload 4, 2) := by decide +kernel
theorem dX11_silent_152 : decode cX11_silent 152 = .ok (.goto 5, 3) := by decide +kernel
theorem dX11_silent_155 : decode cX11_silent 155 = .ok (.iload 5, 2) := by decide +kernel
theorem dX11_silent_157 : decode cX11_silent 157 = .ok (.ireturn, 1) := by decide +kernel
theorem vc_X11_281 : XVw RX11 281 2 3 3 yX4_nowTells cX4_nowTells none := ⟨RX4, TX4, tyX4, 7, xk_3, rfl, ⟨by decide, by decide⟩, by decide +kernel, wt_836, wt_837, wt_838, wt_6, wt_839⟩
noncomputable def bs_X11_silent : List (Nat × XB) := [
  (0, (sq (xLA 0) (sq (xGD 10 5 1) (sq (xGI 1 0) (tIf1 (fun x => decide (x = 0)) 29 [false, false, false, false, false, false, false, false, false] 10 [true, true, true, false, false, false, false, false, false]))))),
  (10, (sq (xLI 1) (sq (xC (.int 1)) (sq (xC (.int 40)) (sq (xCI 99 3 F_X11_within) (tIf1 (fun x => decide (x = 0)) 29 [false, false, false, false, false, false, false, false, false] 20 [true, true, true, false, false, false, false, false, false])))))),
  (20, (sq (xLI 2) (sq (xC (.int 0)) (sq (xC (.int 2)) (sq (xCI 99 3 F_X11_within) (tIf1 (fun x => decide (¬ x = 0)) 32 [true, true, true, false, false, false, false, false, false] 29 [false, false, false, false, false, false, false, false, false])))))),
  (29, (sq (xC (.int (-2))) tRI)),
  (32, (sq (xC (.int (-1))) (sq (xSI 3) (sq (xC (.int 0)) (sq (xSI 4) (sq (xC (.int 0)) (sq (xSI 5) (sq (xC (.int (-1))) (sq (xSI 6) (tGo 43 [true, true, true, true, true, true, true, false, false])))))))))),
  (43, (sq (xLI 6) (sq (xLA 0) (sq (xGD 10 5 1) (sq (xGI 1 4) (tIf2 (fun x y => decide (y ≤ x)) 139 [false, false, true, true, true, true, false, false, false] 55 [true, true, true, true, true, true, true, false, false])))))),
  (55, (sq (xLA 0) (sq (xCV 10 1 F_X11_startFromNow) (sq (xLA 0) (sq (xGS 10 3 1 0) (sq (xLI 6) (sq (xC (.int 0)) (sq (xCV 3 3 F_X4_nowTells) (sq (xLA 0) (sq (xLI 1) (sq (xCV 10 2 F_X11_goOn) (sq (xLA 0) (sq (xGS 10 8 1 1) (sq (xCI 8 1 F_X9_burntBits) (sq (xCI 99 1 F_J6_bitCount_0f7a4) (sq (xSI 7) (sq (xLA 0) (sq (xGS 10 8 1 1) (sq (xCI 8 1 F_X9_fullAll) (sq (xSI 8) (sq (xLI 6) (sq (xC (.int (-1))) (tIf2 (fun x y => decide (x = y)) 122 [true, true, true, false, false, false, true, true, true] 101 [true, true, true, true, true, true, true, true, true]))))))))))))))))))))))),
  (101, (sq (xLI 7) (sq (xLI 4) (tIf2 (fun x y => decide (x < y)) 122 [true, true, true, false, false, false, true, true, true] 108 [true, true, true, true, true, true, true, true, true])))),
  (108, (sq (xLI 7) (sq (xLI 4) (tIf2 (fun x y => decide (¬ x = y)) 133 [true, true, true, true, true, true, true, false, false] 115 [true, true, true, true, true, true, true, true, true])))),
  (115, (sq (xLI 8) (sq (xLI 5) (tIf2 (fun x y => decide (x ≤ y)) 133 [true, true, true, true, true, true, true, false, false] 122 [true, true, true, false, false, false, true, true, true])))),
  (122, (sq (xLI 6) (sq (xSI 3) (sq (xLI 7) (sq (xSI 4) (sq (xLI 8) (sq (xSI 5) (tGo 133 [true, true, true, true, true, true, true, false, false])))))))),
  (133, (sq (xInc 6 1) (tGo 43 [true, true, true, true, true, true, true, false, false]))),
  (139, (sq (xLI 2) (tIf1 (fun x => decide (¬ x = 0)) 145 [false, false, true, false, true, true, false, false, false] 143 [false, false, false, true, false, false, false, false, false]))),
  (143, (sq (xLI 3) tRI)),
  (145, (sq (xLI 2) (sq (xC (.int 1)) (tIf2 (fun x y => decide (¬ x = y)) 155 [false, false, false, false, false, true, false, false, false] 150 [false, false, false, false, true, false, false, false, false])))),
  (150, (sq (xLI 4) (tGo 157 [false, false, false, false, false, false, false, false, false]))),
  (155, (sq (xLI 5) (tGo 157 [false, false, false, false, false, false, false, false, false]))),
  (157, tRI)]
set_option maxRecDepth 100000 in
set_option maxHeartbeats 4000000 in
theorem s_X11_silent : ∀ X : XCtx, XE X → X.2.2.1.1 = cX11_silent → X.2.2.1.2.1 = 9 → X.2.2.1.2.2.1 = yX11_silent.cls → X.2.2.1.2.2.2.1 = (some .int) → X.1.2.2.2.1 = { frames := 6, cells := 0, slots := 0, locals := 145 } → SndBs X bs_X11_silent := by
  rintro ⟨⟨p, l, e, R, s⟩, Y, ⟨cc, nL, own, ret, Ts⟩, Z⟩ hE h1 h2 h3 h4 h5
  dsimp only at h1 h2 h3 h4 h5
  subst h1 h2 h3 h4 h5
  exact ⟨(n_sq (n_aload_n hE dX11_silent_0) (n_sq (n_getD hE xk_10 (k := 5) rfl (by decide) rfl wt_321 dX11_silent_1) (n_sq (n_getI hE xk_1 (k := 0) rfl (by decide) rfl wt_96 dX11_silent_4) (n_ifeq hE (by decide) dX11_silent_7)))),
    (n_sq (n_iload_n hE dX11_silent_10) (n_sq (n_iconst hE (by decide) dX11_silent_11) (n_sq (n_bipush hE (by decide) dX11_silent_12) (n_sq (n_cIs hE m_X11_within vc_X11_170 (show 0 + 1 ≤ 6 ∧ 8 + (3 + 11) + 0 ≤ 145 by decide) dX11_silent_14) (n_ifeq hE (by decide) dX11_silent_17))))),
    (n_sq (n_iload_n hE dX11_silent_20) (n_sq (n_iconst hE (by decide) dX11_silent_21) (n_sq (n_iconst hE (by decide) dX11_silent_22) (n_sq (n_cIs hE m_X11_within vc_X11_170 (show 0 + 1 ≤ 6 ∧ 8 + (3 + 11) + 0 ≤ 145 by decide) dX11_silent_23) (n_ifne hE (by decide) dX11_silent_26))))),
    (n_sq (n_bipush hE (by decide) dX11_silent_29) (n_ireturn hE rfl dX11_silent_31)),
    (n_sq (n_iconst hE (by decide) dX11_silent_32) (n_sq (n_istore_n hE (show (3 : Nat) < 9 by decide) dX11_silent_33) (n_sq (n_iconst hE (by decide) dX11_silent_34) (n_sq (n_istore hE (show (4 : Nat) < 9 by decide) dX11_silent_35) (n_sq (n_iconst hE (by decide) dX11_silent_37) (n_sq (n_istore hE (show (5 : Nat) < 9 by decide) dX11_silent_38) (n_sq (n_iconst hE (by decide) dX11_silent_40) (n_sq (n_istore hE (show (6 : Nat) < 9 by decide) dX11_silent_41) n_fall)))))))),
    (n_sq (n_iload hE dX11_silent_43) (n_sq (n_aload_n hE dX11_silent_45) (n_sq (n_getD hE xk_10 (k := 5) rfl (by decide) rfl wt_321 dX11_silent_46) (n_sq (n_getI hE xk_1 (k := 4) rfl (by decide) rfl wt_114 dX11_silent_49) (n_ifcge hE (by decide) dX11_silent_52))))),
    (n_sq (n_aload_n hE dX11_silent_55) (n_sq (n_cVv hE m_X11_startFromNow vc_X11_250 (show 2 + 1 ≤ 6 ∧ 8 + (1 + 11) + 43 ≤ 145 by decide) dX11_silent_56) (n_sq (n_aload_n hE dX11_silent_59) (n_sq (n_getS hE xk_10 (k := 8) rfl (by decide) rfl wt_324 dX11_silent_60) (n_sq (n_iload hE dX11_silent_63) (n_sq (n_iconst hE (by decide) dX11_silent_65) (n_sq (n_cVv hE m_X4_nowTells vc_X11_281 (show 0 + 1 ≤ 6 ∧ 8 + (3 + 11) + 0 ≤ 145 by decide) dX11_silent_66) (n_sq (n_aload_n hE dX11_silent_69) (n_sq (n_iload_n hE dX11_silent_70) (n_sq (n_cVv hE m_X11_goOn vc_X11_253 (show 5 + 1 ≤ 6 ∧ 8 + (3 + 11) + 123 ≤ 145 by decide) dX11_silent_71) (n_sq (n_aload_n hE dX11_silent_74) (n_sq (n_getS hE xk_10 (k := 7) rfl (by decide) rfl wt_323 dX11_silent_75) (n_sq (n_cIv hE m_X9_burntBits vc_X11_213 (show 1 + 1 ≤ 6 ∧ 8 + (1 + 11) + 23 ≤ 145 by decide) dX11_silent_78) (n_sq (n_cIs hE m_J6_bitCount_0f7a4 vc_X11_276 (show 0 + 1 ≤ 6 ∧ 8 + (1 + 11) + 0 ≤ 145 by decide) dX11_silent_81) (n_sq (n_istore hE (show (7 : Nat) < 9 by decide) dX11_silent_84) (n_sq (n_aload_n hE dX11_silent_86) (n_sq (n_getS hE xk_10 (k := 7) rfl (by decide) rfl wt_323 dX11_silent_87) (n_sq (n_cIv hE m_X9_fullAll vc_X11_209 (show 0 + 1 ≤ 6 ∧ 8 + (3 + 11) + 0 ≤ 145 by decide) dX11_silent_90) (n_sq (n_istore hE (show (8 : Nat) < 9 by decide) dX11_silent_93) (n_sq (n_iload hE dX11_silent_95) (n_sq (n_iconst hE (by decide) dX11_silent_97) (n_ifceq hE (by decide) dX11_silent_98)))))))))))))))))))))),
    (n_sq (n_iload hE dX11_silent_101) (n_sq (n_iload hE dX11_silent_103) (n_ifclt hE (by decide) dX11_silent_105))),
    (n_sq (n_iload hE dX11_silent_108) (n_sq (n_iload hE dX11_silent_110) (n_ifcne hE (by decide) dX11_silent_112))),
    (n_sq (n_iload hE dX11_silent_115) (n_sq (n_iload hE dX11_silent_117) (n_ifcle hE (by decide) dX11_silent_119))),
    (n_sq (n_iload hE dX11_silent_122) (n_sq (n_istore_n hE (show (3 : Nat) < 9 by decide) dX11_silent_124) (n_sq (n_iload hE dX11_silent_125) (n_sq (n_istore hE (show (4 : Nat) < 9 by decide) dX11_silent_127) (n_sq (n_iload hE dX11_silent_129) (n_sq (n_istore hE (show (5 : Nat) < 9 by decide) dX11_silent_131) n_fall)))))),
    (n_sq (n_iinc hE (by decide) (show (6 : Nat) < 9 by decide) dX11_silent_133) (n_goto hE (by decide) dX11_silent_136)),
    (n_sq (n_iload_n hE dX11_silent_139) (n_ifne hE (by decide) dX11_silent_140)),
    (n_sq (n_iload_n hE dX11_silent_143) (n_ireturn hE rfl dX11_silent_144)),
    (n_sq (n_iload_n hE dX11_silent_145) (n_sq (n_iconst hE (by decide) dX11_silent_146) (n_ifcne hE (by decide) dX11_silent_147))),
    (n_sq (n_iload hE dX11_silent_150) (n_goto hE (by decide) dX11_silent_152)),
    (n_sq (n_iload hE dX11_silent_155) n_fall),
    (n_ireturn hE rfl dX11_silent_157), trivial⟩
noncomputable def F_X11_silent (as : List XV) (w : XW) : Option (Int32 × XW) := (xF 9 bs_X11_silent as w).bind pI
theorem m_X11_silent : XM yX11_silent cX11_silent 9 (some .int) 6 145 (eI F_X11_silent) := xm_I (xm_of (by decide) s_X11_silent)
noncomputable def q_X11_silent_0 (x1 : Int32) (x2 : Int32) (w : XW) : Option XR := ev bs_X11_silent 0 ([some (.inr (10, 0)), some (.inl (.int x1)), some (.inl (.int x2)), none, none, none, none, none, none], [], w)
noncomputable def q_X11_silent_10 (x1 : Int32) (x2 : Int32) (w : XW) : Option XR := ev bs_X11_silent 10 ([some (.inr (10, 0)), some (.inl (.int x1)), some (.inl (.int x2)), none, none, none, none, none, none], [], w)
noncomputable def q_X11_silent_20 (x1 : Int32) (x2 : Int32) (w : XW) : Option XR := ev bs_X11_silent 20 ([some (.inr (10, 0)), some (.inl (.int x1)), some (.inl (.int x2)), none, none, none, none, none, none], [], w)
noncomputable def q_X11_silent_29 (w : XW) : Option XR := ev bs_X11_silent 29 ([none, none, none, none, none, none, none, none, none], [], w)
noncomputable def q_X11_silent_32 (x1 : Int32) (x2 : Int32) (w : XW) : Option XR := ev bs_X11_silent 32 ([some (.inr (10, 0)), some (.inl (.int x1)), some (.inl (.int x2)), none, none, none, none, none, none], [], w)
noncomputable def q_X11_silent_43 (x1 : Int32) (x2 : Int32) (x3 : Int32) (x4 : Int32) (x5 : Int32) (x6 : Int32) (w : XW) : Option XR := ev bs_X11_silent 43 ([some (.inr (10, 0)), some (.inl (.int x1)), some (.inl (.int x2)), some (.inl (.int x3)), some (.inl (.int x4)), some (.inl (.int x5)), some (.inl (.int x6)), none, none], [], w)
noncomputable def q_X11_silent_55 (x1 : Int32) (x2 : Int32) (x3 : Int32) (x4 : Int32) (x5 : Int32) (x6 : Int32) (w : XW) : Option XR := ev bs_X11_silent 55 ([some (.inr (10, 0)), some (.inl (.int x1)), some (.inl (.int x2)), some (.inl (.int x3)), some (.inl (.int x4)), some (.inl (.int x5)), some (.inl (.int x6)), none, none], [], w)
noncomputable def q_X11_silent_101 (x1 : Int32) (x2 : Int32) (x3 : Int32) (x4 : Int32) (x5 : Int32) (x6 : Int32) (x7 : Int32) (x8 : Int32) (w : XW) : Option XR := ev bs_X11_silent 101 ([some (.inr (10, 0)), some (.inl (.int x1)), some (.inl (.int x2)), some (.inl (.int x3)), some (.inl (.int x4)), some (.inl (.int x5)), some (.inl (.int x6)), some (.inl (.int x7)), some (.inl (.int x8))], [], w)
noncomputable def q_X11_silent_108 (x1 : Int32) (x2 : Int32) (x3 : Int32) (x4 : Int32) (x5 : Int32) (x6 : Int32) (x7 : Int32) (x8 : Int32) (w : XW) : Option XR := ev bs_X11_silent 108 ([some (.inr (10, 0)), some (.inl (.int x1)), some (.inl (.int x2)), some (.inl (.int x3)), some (.inl (.int x4)), some (.inl (.int x5)), some (.inl (.int x6)), some (.inl (.int x7)), some (.inl (.int x8))], [], w)
noncomputable def q_X11_silent_115 (x1 : Int32) (x2 : Int32) (x3 : Int32) (x4 : Int32) (x5 : Int32) (x6 : Int32) (x7 : Int32) (x8 : Int32) (w : XW) : Option XR := ev bs_X11_silent 115 ([some (.inr (10, 0)), some (.inl (.int x1)), some (.inl (.int x2)), some (.inl (.int x3)), some (.inl (.int x4)), some (.inl (.int x5)), some (.inl (.int x6)), some (.inl (.int x7)), some (.inl (.int x8))], [], w)
noncomputable def q_X11_silent_122 (x1 : Int32) (x2 : Int32) (x6 : Int32) (x7 : Int32) (x8 : Int32) (w : XW) : Option XR := ev bs_X11_silent 122 ([some (.inr (10, 0)), some (.inl (.int x1)), some (.inl (.int x2)), none, none, none, some (.inl (.int x6)), some (.inl (.int x7)), some (.inl (.int x8))], [], w)
noncomputable def q_X11_silent_133 (x1 : Int32) (x2 : Int32) (x3 : Int32) (x4 : Int32) (x5 : Int32) (x6 : Int32) (w : XW) : Option XR := ev bs_X11_silent 133 ([some (.inr (10, 0)), some (.inl (.int x1)), some (.inl (.int x2)), some (.inl (.int x3)), some (.inl (.int x4)), some (.inl (.int x5)), some (.inl (.int x6)), none, none], [], w)
noncomputable def q_X11_silent_139 (x2 : Int32) (x3 : Int32) (x4 : Int32) (x5 : Int32) (w : XW) : Option XR := ev bs_X11_silent 139 ([none, none, some (.inl (.int x2)), some (.inl (.int x3)), some (.inl (.int x4)), some (.inl (.int x5)), none, none, none], [], w)
noncomputable def q_X11_silent_143 (x3 : Int32) (w : XW) : Option XR := ev bs_X11_silent 143 ([none, none, none, some (.inl (.int x3)), none, none, none, none, none], [], w)
noncomputable def q_X11_silent_145 (x2 : Int32) (x4 : Int32) (x5 : Int32) (w : XW) : Option XR := ev bs_X11_silent 145 ([none, none, some (.inl (.int x2)), none, some (.inl (.int x4)), some (.inl (.int x5)), none, none, none], [], w)
noncomputable def q_X11_silent_150 (x4 : Int32) (w : XW) : Option XR := ev bs_X11_silent 150 ([none, none, none, none, some (.inl (.int x4)), none, none, none, none], [], w)
noncomputable def q_X11_silent_155 (x5 : Int32) (w : XW) : Option XR := ev bs_X11_silent 155 ([none, none, none, none, none, some (.inl (.int x5)), none, none, none], [], w)
noncomputable def q_X11_silent_157 (s0 : Int32) (w : XW) : Option XR := ev bs_X11_silent 157 ([none, none, none, none, none, none, none, none, none], [.inl (.int s0)], w)
theorem e_X11_silent_0 (x1 : Int32) (x2 : Int32) (w : XW) : q_X11_silent_0 x1 x2 w = ((gR w 10 0 5).bind fun j0 => (bif decide ((gI w 1 j0 0) = 0) then (q_X11_silent_29 w) else (q_X11_silent_10 x1 x2 w))) := (ev_eq _ _ _).trans rfl
theorem e_X11_silent_10 (x1 : Int32) (x2 : Int32) (w : XW) : q_X11_silent_10 x1 x2 w = ((F_X11_within [.inl (.int x1), .inl (.int 1), .inl (.int 40)] w).bind fun r0 => (bif decide (r0.1 = 0) then (q_X11_silent_29 r0.2) else (q_X11_silent_20 x1 x2 r0.2))) := (ev_eq _ _ _).trans rfl
theorem e_X11_silent_20 (x1 : Int32) (x2 : Int32) (w : XW) : q_X11_silent_20 x1 x2 w = ((F_X11_within [.inl (.int x2), .inl (.int 0), .inl (.int 2)] w).bind fun r0 => (bif decide (¬ r0.1 = 0) then (q_X11_silent_32 x1 x2 r0.2) else (q_X11_silent_29 r0.2))) := (ev_eq _ _ _).trans rfl
theorem e_X11_silent_29 (w : XW) : q_X11_silent_29 w = (some (some (.inl (.int (-2))), w)) := (ev_eq _ _ _).trans rfl
theorem e_X11_silent_32 (x1 : Int32) (x2 : Int32) (w : XW) : q_X11_silent_32 x1 x2 w = (q_X11_silent_43 x1 x2 (-1) 0 0 (-1) w) := (ev_eq _ _ _).trans rfl
theorem e_X11_silent_43 (x1 : Int32) (x2 : Int32) (x3 : Int32) (x4 : Int32) (x5 : Int32) (x6 : Int32) (w : XW) : q_X11_silent_43 x1 x2 x3 x4 x5 x6 w = ((gR w 10 0 5).bind fun j0 => (bif decide ((gI w 1 j0 4) ≤ x6) then (q_X11_silent_139 x2 x3 x4 x5 w) else (q_X11_silent_55 x1 x2 x3 x4 x5 x6 w))) := (ev_eq _ _ _).trans rfl
theorem e_X11_silent_55 (x1 : Int32) (x2 : Int32) (x3 : Int32) (x4 : Int32) (x5 : Int32) (x6 : Int32) (w : XW) : q_X11_silent_55 x1 x2 x3 x4 x5 x6 w = ((F_X11_startFromNow [.inr (10, 0)] w).bind fun r0 => ((F_X4_nowTells [.inr (3, 0), .inl (.int x6), .inl (.int 0)] r0).bind fun r1 => ((F_X11_goOn [.inr (10, 0), .inl (.int x1)] r1).bind fun r2 => ((F_X9_burntBits [.inr (8, 1)] r2).bind fun r3 => ((F_J6_bitCount_0f7a4 [.inl (.int r3.1)] r3.2).bind fun r4 => ((F_X9_fullAll [.inr (8, 1)] r4.2).bind fun r5 => (bif decide (x6 = (-1)) then (q_X11_silent_122 x1 x2 x6 r4.1 r5.1 r5.2) else (q_X11_silent_101 x1 x2 x3 x4 x5 x6 r4.1 r5.1 r5.2)))))))) := (ev_eq _ _ _).trans rfl
theorem e_X11_silent_101 (x1 : Int32) (x2 : Int32) (x3 : Int32) (x4 : Int32) (x5 : Int32) (x6 : Int32) (x7 : Int32) (x8 : Int32) (w : XW) : q_X11_silent_101 x1 x2 x3 x4 x5 x6 x7 x8 w = (bif decide (x7 < x4) then (q_X11_silent_122 x1 x2 x6 x7 x8 w) else (q_X11_silent_108 x1 x2 x3 x4 x5 x6 x7 x8 w)) := (ev_eq _ _ _).trans rfl
theorem e_X11_silent_108 (x1 : Int32) (x2 : Int32) (x3 : Int32) (x4 : Int32) (x5 : Int32) (x6 : Int32) (x7 : Int32) (x8 : Int32) (w : XW) : q_X11_silent_108 x1 x2 x3 x4 x5 x6 x7 x8 w = (bif decide (¬ x7 = x4) then (q_X11_silent_133 x1 x2 x3 x4 x5 x6 w) else (q_X11_silent_115 x1 x2 x3 x4 x5 x6 x7 x8 w)) := (ev_eq _ _ _).trans rfl
theorem e_X11_silent_115 (x1 : Int32) (x2 : Int32) (x3 : Int32) (x4 : Int32) (x5 : Int32) (x6 : Int32) (x7 : Int32) (x8 : Int32) (w : XW) : q_X11_silent_115 x1 x2 x3 x4 x5 x6 x7 x8 w = (bif decide (x8 ≤ x5) then (q_X11_silent_133 x1 x2 x3 x4 x5 x6 w) else (q_X11_silent_122 x1 x2 x6 x7 x8 w)) := (ev_eq _ _ _).trans rfl
theorem e_X11_silent_122 (x1 : Int32) (x2 : Int32) (x6 : Int32) (x7 : Int32) (x8 : Int32) (w : XW) : q_X11_silent_122 x1 x2 x6 x7 x8 w = (q_X11_silent_133 x1 x2 x6 x7 x8 x6 w) := (ev_eq _ _ _).trans rfl
theorem e_X11_silent_133 (x1 : Int32) (x2 : Int32) (x3 : Int32) (x4 : Int32) (x5 : Int32) (x6 : Int32) (w : XW) : q_X11_silent_133 x1 x2 x3 x4 x5 x6 w = (q_X11_silent_43 x1 x2 x3 x4 x5 (x6 + 1) w) := (ev_eq _ _ _).trans rfl
theorem e_X11_silent_139 (x2 : Int32) (x3 : Int32) (x4 : Int32) (x5 : Int32) (w : XW) : q_X11_silent_139 x2 x3 x4 x5 w = (bif decide (¬ x2 = 0) then (q_X11_silent_145 x2 x4 x5 w) else (q_X11_silent_143 x3 w)) := (ev_eq _ _ _).trans rfl
theorem e_X11_silent_143 (x3 : Int32) (w : XW) : q_X11_silent_143 x3 w = (some (some (.inl (.int x3)), w)) := (ev_eq _ _ _).trans rfl
theorem e_X11_silent_145 (x2 : Int32) (x4 : Int32) (x5 : Int32) (w : XW) : q_X11_silent_145 x2 x4 x5 w = (bif decide (¬ x2 = 1) then (q_X11_silent_155 x5 w) else (q_X11_silent_150 x4 w)) := (ev_eq _ _ _).trans rfl
theorem e_X11_silent_150 (x4 : Int32) (w : XW) : q_X11_silent_150 x4 w = (q_X11_silent_157 x4 w) := (ev_eq _ _ _).trans rfl
theorem e_X11_silent_155 (x5 : Int32) (w : XW) : q_X11_silent_155 x5 w = (q_X11_silent_157 x5 w) := (ev_eq _ _ _).trans rfl
theorem e_X11_silent_157 (s0 : Int32) (w : XW) : q_X11_silent_157 s0 w = (some (some (.inl (.int s0)), w)) := (ev_eq _ _ _).trans rfl
theorem f_X11_silent (x1 : Int32) (x2 : Int32) (w : XW) : F_X11_silent [.inr (10, 0), .inl (.int x1), .inl (.int x2)] w = (q_X11_silent_0 x1 x2 w).bind pI := rfl

-- WinterKeep.staysUnburnt(II)Z
theorem dX11_staysUnburnt_0 : decode cX11_staysUnburnt 0 = .ok (.iconst 0, 1) := by decide +kernel
theorem dX11_staysUnburnt_1 : decode cX11_staysUnburnt 1 = .ok (.istore_n 3, 1) := by decide +kernel
theorem dX11_staysUnburnt_2 : decode cX11_staysUnburnt 2 = .ok (.iload_n 3, 1) := by decide +kernel
theorem dX11_staysUnburnt_3 : decode cX11_staysUnburnt 3 = .ok (.iload_n 2, 1) := by decide +kernel
theorem dX11_staysUnburnt_4 : decode cX11_staysUnburnt 4 = .ok (.if_icmp .ge 37, 3) := by decide +kernel
theorem dX11_staysUnburnt_7 : decode cX11_staysUnburnt 7 = .ok (.aload_n 0, 1) := by decide +kernel
theorem dX11_staysUnburnt_8 : decode cX11_staysUnburnt 8 = .ok (.getfield 56, 3) := by decide +kernel
theorem dX11_staysUnburnt_11 : decode cX11_staysUnburnt 11 = .ok (.aload_n 0, 1) := by decide +kernel
theorem dX11_staysUnburnt_12 : decode cX11_staysUnburnt 12 = .ok (.getfield 50, 3) := by decide +kernel
theorem dX11_staysUnburnt_15 : decode cX11_staysUnburnt 15 = .ok (.invokevirtual 242, 3) := by decide +kernel
theorem dX11_staysUnburnt_18 : decode cX11_staysUnburnt 18 = .ok (.pop, 1) := by decide +kernel
theorem dX11_staysUnburnt_19 : decode cX11_staysUnburnt 19 = .ok (.aload_n 0, 1) := by decide +kernel
theorem dX11_staysUnburnt_20 : decode cX11_staysUnburnt 20 = .ok (.getfield 50, 3) := by decide +kernel
theorem dX11_staysUnburnt_23 : decode cX11_staysUnburnt 23 = .ok (.getfield 161, 3) := by decide +kernel
theorem dX11_staysUnburnt_26 : decode cX11_staysUnburnt 26 = .ok (.iload_n 1, 1) := by decide +kernel
theorem dX11_staysUnburnt_27 : decode cX11_staysUnburnt 27 = .ok (.iaload, 1) := by decide +kernel
theorem dX11_staysUnburnt_28 : decode cX11_staysUnburnt 28 = .ok (.bipush (-2), 2) := by decide +kernel
theorem dX11_staysUnburnt_30 : decode cX11_staysUnburnt 30 = .ok (.if_icmp .ne 5, 3) := by decide +kernel
theorem dX11_staysUnburnt_33 : decode cX11_staysUnburnt 33 = .ok (.iconst 0, 1) := by decide +kernel
theorem dX11_staysUnburnt_34 : decode cX11_staysUnburnt 34 = .ok (.ireturn, 1) := by decide +kernel
theorem dX11_staysUnburnt_35 : decode cX11_staysUnburnt 35 = .ok (.iinc 3 1, 3) := by decide +kernel
theorem dX11_staysUnburnt_38 : decode cX11_staysUnburnt 38 = .ok (.goto (-36), 3) := by decide +kernel
theorem dX11_staysUnburnt_41 : decode cX11_staysUnburnt 41 = .ok (.iconst 1, 1) := by decide +kernel
theorem dX11_staysUnburnt_42 : decode cX11_staysUnburnt 42 = .ok (.ireturn, 1) := by decide +kernel
noncomputable def bs_X11_staysUnburnt : List (Nat × XB) := [
  (0, (sq (xC (.int 0)) (sq (xSI 3) (tGo 2 [true, true, true, true])))),
  (2, (sq (xLI 3) (sq (xLI 2) (tIf2 (fun x y => decide (y ≤ x)) 41 [false, false, false, false] 7 [true, true, true, true])))),
  (7, (sq (xLA 0) (sq (xGS 10 3 1 0) (sq (xLA 0) (sq (xGS 10 8 1 1) (sq (xCI 3 2 F_X4_pass) (sq (xPop) (sq (xLA 0) (sq (xGS 10 8 1 1) (sq (xGS 8 32 0 0) (sq (xLI 1) (sq (xAI 32 6) (sq (xC (.int (-2))) (tIf2 (fun x y => decide (¬ x = y)) 35 [true, true, true, true] 33 [false, false, false, false])))))))))))))),
  (33, (sq (xC (.int 0)) tRZ)),
  (35, (sq (xInc 3 1) (tGo 2 [true, true, true, true]))),
  (41, (sq (xC (.int 1)) tRZ))]
set_option maxRecDepth 100000 in
set_option maxHeartbeats 4000000 in
theorem s_X11_staysUnburnt : ∀ X : XCtx, XE X → X.2.2.1.1 = cX11_staysUnburnt → X.2.2.1.2.1 = 4 → X.2.2.1.2.2.1 = yX11_staysUnburnt.cls → X.2.2.1.2.2.2.1 = (some .boolean) → X.1.2.2.2.1 = { frames := 5, cells := 0, slots := 0, locals := 123 } → SndBs X bs_X11_staysUnburnt := by
  rintro ⟨⟨p, l, e, R, s⟩, Y, ⟨cc, nL, own, ret, Ts⟩, Z⟩ hE h1 h2 h3 h4 h5
  dsimp only at h1 h2 h3 h4 h5
  subst h1 h2 h3 h4 h5
  exact ⟨(n_sq (n_iconst hE (by decide) dX11_staysUnburnt_0) (n_sq (n_istore_n hE (show (3 : Nat) < 4 by decide) dX11_staysUnburnt_1) n_fall)),
    (n_sq (n_iload_n hE dX11_staysUnburnt_2) (n_sq (n_iload_n hE dX11_staysUnburnt_3) (n_ifcge hE (by decide) dX11_staysUnburnt_4))),
    (n_sq (n_aload_n hE dX11_staysUnburnt_7) (n_sq (n_getS hE xk_10 (k := 8) rfl (by decide) rfl wt_324 dX11_staysUnburnt_8) (n_sq (n_aload_n hE dX11_staysUnburnt_11) (n_sq (n_getS hE xk_10 (k := 7) rfl (by decide) rfl wt_323 dX11_staysUnburnt_12) (n_sq (n_cIv hE m_X4_pass vc_X11_242 (show 4 + 1 ≤ 5 ∧ 8 + (4 + 11) + 100 ≤ 123 by decide) dX11_staysUnburnt_15) (n_sq (n_pop hE dX11_staysUnburnt_18) (n_sq (n_aload_n hE dX11_staysUnburnt_19) (n_sq (n_getS hE xk_10 (k := 7) rfl (by decide) rfl wt_323 dX11_staysUnburnt_20) (n_sq (n_getS hE xk_8 (k := 4) rfl (by decide) rfl wt_191 dX11_staysUnburnt_23) (n_sq (n_iload_n hE dX11_staysUnburnt_26) (n_sq (n_iald hE rfl (by decide) dX11_staysUnburnt_27) (n_sq (n_bipush hE (by decide) dX11_staysUnburnt_28) (n_ifcne hE (by decide) dX11_staysUnburnt_30))))))))))))),
    (n_sq (n_iconst hE (by decide) dX11_staysUnburnt_33) (n_zreturn hE rfl dX11_staysUnburnt_34)),
    (n_sq (n_iinc hE (by decide) (show (3 : Nat) < 4 by decide) dX11_staysUnburnt_35) (n_goto hE (by decide) dX11_staysUnburnt_38)),
    (n_sq (n_iconst hE (by decide) dX11_staysUnburnt_41) (n_zreturn hE rfl dX11_staysUnburnt_42)), trivial⟩
noncomputable def F_X11_staysUnburnt (as : List XV) (w : XW) : Option (Int32 × XW) := (xF 4 bs_X11_staysUnburnt as w).bind pI
theorem m_X11_staysUnburnt : XM yX11_staysUnburnt cX11_staysUnburnt 4 (some .boolean) 5 123 (eI F_X11_staysUnburnt) := xm_I (xm_of (by decide) s_X11_staysUnburnt)
noncomputable def q_X11_staysUnburnt_0 (x1 : Int32) (x2 : Int32) (w : XW) : Option XR := ev bs_X11_staysUnburnt 0 ([some (.inr (10, 0)), some (.inl (.int x1)), some (.inl (.int x2)), none], [], w)
noncomputable def q_X11_staysUnburnt_2 (x1 : Int32) (x2 : Int32) (x3 : Int32) (w : XW) : Option XR := ev bs_X11_staysUnburnt 2 ([some (.inr (10, 0)), some (.inl (.int x1)), some (.inl (.int x2)), some (.inl (.int x3))], [], w)
noncomputable def q_X11_staysUnburnt_7 (x1 : Int32) (x2 : Int32) (x3 : Int32) (w : XW) : Option XR := ev bs_X11_staysUnburnt 7 ([some (.inr (10, 0)), some (.inl (.int x1)), some (.inl (.int x2)), some (.inl (.int x3))], [], w)
noncomputable def q_X11_staysUnburnt_33 (w : XW) : Option XR := ev bs_X11_staysUnburnt 33 ([none, none, none, none], [], w)
noncomputable def q_X11_staysUnburnt_35 (x1 : Int32) (x2 : Int32) (x3 : Int32) (w : XW) : Option XR := ev bs_X11_staysUnburnt 35 ([some (.inr (10, 0)), some (.inl (.int x1)), some (.inl (.int x2)), some (.inl (.int x3))], [], w)
noncomputable def q_X11_staysUnburnt_41 (w : XW) : Option XR := ev bs_X11_staysUnburnt 41 ([none, none, none, none], [], w)
theorem e_X11_staysUnburnt_0 (x1 : Int32) (x2 : Int32) (w : XW) : q_X11_staysUnburnt_0 x1 x2 w = (q_X11_staysUnburnt_2 x1 x2 0 w) := (ev_eq _ _ _).trans rfl
theorem e_X11_staysUnburnt_2 (x1 : Int32) (x2 : Int32) (x3 : Int32) (w : XW) : q_X11_staysUnburnt_2 x1 x2 x3 w = (bif decide (x2 ≤ x3) then (q_X11_staysUnburnt_41 w) else (q_X11_staysUnburnt_7 x1 x2 x3 w)) := (ev_eq _ _ _).trans rfl
theorem e_X11_staysUnburnt_7 (x1 : Int32) (x2 : Int32) (x3 : Int32) (w : XW) : q_X11_staysUnburnt_7 x1 x2 x3 w = ((F_X4_pass [.inr (3, 0), .inr (8, 1)] w).bind fun r0 => (if x1 < 0 ∨ 6 ≤ x1.toNatClampNeg then none else (bif decide (¬ (gI r0.2 32 1 x1.toNatClampNeg) = (-2)) then (q_X11_staysUnburnt_35 x1 x2 x3 r0.2) else (q_X11_staysUnburnt_33 r0.2)))) := (ev_eq _ _ _).trans rfl
theorem e_X11_staysUnburnt_33 (w : XW) : q_X11_staysUnburnt_33 w = (some (some (.inl (.int 0)), w)) := (ev_eq _ _ _).trans rfl
theorem e_X11_staysUnburnt_35 (x1 : Int32) (x2 : Int32) (x3 : Int32) (w : XW) : q_X11_staysUnburnt_35 x1 x2 x3 w = (q_X11_staysUnburnt_2 x1 x2 (x3 + 1) w) := (ev_eq _ _ _).trans rfl
theorem e_X11_staysUnburnt_41 (w : XW) : q_X11_staysUnburnt_41 w = (some (some (.inl (.int 1)), w)) := (ev_eq _ _ _).trans rfl
theorem f_X11_staysUnburnt (x1 : Int32) (x2 : Int32) (w : XW) : F_X11_staysUnburnt [.inr (10, 0), .inl (.int x1), .inl (.int x2)] w = (q_X11_staysUnburnt_0 x1 x2 w).bind pI := rfl

-- WinterKeep.most(II)I
theorem dX11_most_0 : decode cX11_most 0 = .ok (.aload_n 0, 1) := by decide +kernel
theorem dX11_most_1 : decode cX11_most 1 = .ok (.iload_n 1, 1) := by decide +kernel
theorem dX11_most_2 : decode cX11_most 2 = .ok (.invokevirtual 167, 3) := by decide +kernel
theorem dX11_most_5 : decode cX11_most 5 = .ok (.ifCond .eq 13, 3) := by decide +kernel
theorem dX11_most_8 : decode cX11_most 8 = .ok (.iload_n 2, 1) := by decide +kernel
theorem dX11_most_9 : decode cX11_most 9 = .ok (.iconst 1, 1) := by decide +kernel
theorem dX11_most_10 : decode cX11_most 10 = .ok (.bipush 60, 2) := by decide +kernel
theorem dX11_most_12 : decode cX11_most 12 = .ok (.invokestatic 170, 3) := by decide +kernel
theorem dX11_most_15 : decode cX11_most 15 = .ok (.ifCond .ne 5, 3) := by decide +kernel
theorem dX11_most_18 : decode cX11_most 18 = .ok (.iconst (-1), 1) := by decide +kernel
theorem dX11_most_19 : decode cX11_most 19 = .ok (.ireturn, 1) := by decide +kernel
theorem dX11_most_20 : decode cX11_most 20 = .ok (.aload_n 0, 1) := by decide +kernel
theorem dX11_most_21 : decode cX11_most 21 = .ok (.getfield 39, 3) := by decide +kernel
theorem dX11_most_24 : decode cX11_most 24 = .ok (.getfield 174, 3) := by decide +kernel
theorem dX11_most_27 : decode cX11_most 27 = .ok (.iload_n 1, 1) := by decide +kernel
theorem dX11_most_28 : decode cX11_most 28 = .ok (.iaload, 1) := by decide +kernel
theorem dX11_most_29 : decode cX11_most 29 = .ok (.istore_n 3, 1) := by decide +kernel
theorem dX11_most_30 : decode cX11_most 30 = .ok (.aload_n 0, 1) := by decide +kernel
theorem dX11_most_31 : decode cX11_most 31 = .ok (.getfield 46, 3) := by decide +kernel
theorem dX11_most_34 : decode cX11_most 34 = .ok (.getfield 161, 3) := by decide +kernel
theorem dX11_most_37 : decode cX11_most 37 = .ok (.iload_n 3, 1) := by decide +kernel
theorem dX11_most_38 : decode cX11_most 38 = .ok (.iaload, 1) := by decide +kernel
theorem dX11_most_39 : decode cX11_most 39 = .ok (.bipush (-2), 2) := by decide +kernel
theorem dX11_most_41 : decode cX11_most 41 = .ok (.if_icmp .ne 5, 3) := by decide +kernel
theorem dX11_most_44 : decode cX11_most 44 = .ok (.iconst (-1), 1) := by decide +kernel
theorem dX11_most_45 : decode cX11_most 45 = .ok (.ireturn, 1) := by decide +kernel
theorem dX11_most_46 : decode cX11_most 46 = .ok (.bipush 9, 2) := by decide +kernel
theorem dX11_most_48 : decode cX11_most 48 = .ok (.istore 4, 2) := by decide +kernel
theorem dX11_most_50 : decode cX11_most 50 = .ok (.iload 4, 2) := by decide +kernel
theorem dX11_most_52 : decode cX11_most 52 = .ok (.ifCond .lt 35, 3) := by decide +kernel
theorem dX11_most_55 : decode cX11_most 55 = .ok (.aload_n 0, 1) := by decide +kernel
theorem dX11_most_56 : decode cX11_most 56 = .ok (.invokevirtual 250, 3) := by decide +kernel
theorem dX11_most_59 : decode cX11_most 59 = .ok (.aload_n 0, 1) := by decide +kernel
theorem dX11_most_60 : decode cX11_most 60 = .ok (.getfield 56, 3) := by decide +kernel
theorem dX11_most_63 : decode cX11_most 63 = .ok (.iload_n 1, 1) := by decide +kernel
theorem dX11_most_64 : decode cX11_most 64 = .ok (.iload 4, 2) := by decide +kernel
theorem dX11_most_66 : decode cX11_most 66 = .ok (.invokevirtual 281, 3) := by decide +kernel
theorem dX11_most_69 : decode cX11_most 69 = .ok (.aload_n 0, 1) := by decide +kernel
theorem dX11_most_70 : decode cX11_most 70 = .ok (.iload_n 3, 1) := by decide +kernel
theorem dX11_most_71 : decode cX11_most 71 = .ok (.iload_n 2, 1) := by decide +kernel
theorem dX11_most_72 : decode cX11_most 72 = .ok (.invokevirtual 285, 3) := by decide +kernel
theorem dX11_most_75 : decode cX11_most 75 = .ok (.ifCond .eq 6, 3) := by decide +kernel
theorem dX11_most_78 : decode cX11_most 78 = .ok (.iload 4, 2) := by decide +kernel
theorem dX11_most_80 : decode cX11_most 80 = .ok (.ireturn, 1) := by decide +kernel
theorem dX11_most_81 : decode cX11_most 81 = .ok (.iinc 4 (-1), 3) := by decide +kernel
theorem dX11_most_84 : decode cX11_most 84 = .ok (.goto (-34), 3) := by decide +kernel
theorem dX11_most_87 : decode cX11_most 87 = .ok (.bipush (-2), 2) := by decide +kernel
theorem dX11_most_89 : decode cX11_most 89 = .ok (.ireturn, 1) := by decide +kernel
theorem vc_X11_285 : XVw RX11 285 2 10 4 yX11_staysUnburnt cX11_staysUnburnt (some .boolean) := ⟨RX11, TX11, tyX11, 20, xk_10, rfl, ⟨by decide, by decide⟩, by decide +kernel, wt_844, wt_846, ws_28, wt_1, wt_847⟩
noncomputable def bs_X11_most : List (Nat × XB) := [
  (0, (sq (xLA 0) (sq (xLI 1) (sq (xCI 10 2 F_X11_isPerson) (tIf1 (fun x => decide (x = 0)) 18 [false, false, false, false, false] 8 [true, true, true, false, false]))))),
  (8, (sq (xLI 2) (sq (xC (.int 1)) (sq (xC (.int 60)) (sq (xCI 99 3 F_X11_within) (tIf1 (fun x => decide (¬ x = 0)) 20 [true, true, true, false, false] 18 [false, false, false, false, false])))))),
  (18, (sq (xC (.int (-1))) tRI)),
  (20, (sq (xLA 0) (sq (xGD 10 5 1) (sq (xGS 1 16 0 0) (sq (xLI 1) (sq (xAI 16 5) (sq (xSI 3) (sq (xLA 0) (sq (xGS 10 8 1 0) (sq (xGS 8 32 0 0) (sq (xLI 3) (sq (xAI 32 6) (sq (xC (.int (-2))) (tIf2 (fun x y => decide (¬ x = y)) 46 [true, true, true, true, false] 44 [false, false, false, false, false])))))))))))))),
  (44, (sq (xC (.int (-1))) tRI)),
  (46, (sq (xC (.int 9)) (sq (xSI 4) (tGo 50 [true, true, true, true, true])))),
  (50, (sq (xLI 4) (tIf1 (fun x => decide (x < 0)) 87 [false, false, false, false, false] 55 [true, true, true, true, true]))),
  (55, (sq (xLA 0) (sq (xCV 10 1 F_X11_startFromNow) (sq (xLA 0) (sq (xGS 10 3 1 0) (sq (xLI 1) (sq (xLI 4) (sq (xCV 3 3 F_X4_nowTells) (sq (xLA 0) (sq (xLI 3) (sq (xLI 2) (sq (xCI 10 3 F_X11_staysUnburnt) (tIf1 (fun x => decide (x = 0)) 81 [true, true, true, true, true] 78 [false, false, false, false, true]))))))))))))),
  (78, (sq (xLI 4) tRI)),
  (81, (sq (xInc 4 (-1)) (tGo 50 [true, true, true, true, true]))),
  (87, (sq (xC (.int (-2))) tRI))]
set_option maxRecDepth 100000 in
set_option maxHeartbeats 4000000 in
theorem s_X11_most : ∀ X : XCtx, XE X → X.2.2.1.1 = cX11_most → X.2.2.1.2.1 = 5 → X.2.2.1.2.2.1 = yX11_most.cls → X.2.2.1.2.2.2.1 = (some .int) → X.1.2.2.2.1 = { frames := 6, cells := 0, slots := 0, locals := 146 } → SndBs X bs_X11_most := by
  rintro ⟨⟨p, l, e, R, s⟩, Y, ⟨cc, nL, own, ret, Ts⟩, Z⟩ hE h1 h2 h3 h4 h5
  dsimp only at h1 h2 h3 h4 h5
  subst h1 h2 h3 h4 h5
  exact ⟨(n_sq (n_aload_n hE dX11_most_0) (n_sq (n_iload_n hE dX11_most_1) (n_sq (n_cIv hE m_X11_isPerson vc_X11_167 (show 1 + 1 ≤ 6 ∧ 8 + (2 + 11) + 22 ≤ 146 by decide) dX11_most_2) (n_ifeq hE (by decide) dX11_most_5)))),
    (n_sq (n_iload_n hE dX11_most_8) (n_sq (n_iconst hE (by decide) dX11_most_9) (n_sq (n_bipush hE (by decide) dX11_most_10) (n_sq (n_cIs hE m_X11_within vc_X11_170 (show 0 + 1 ≤ 6 ∧ 8 + (3 + 11) + 0 ≤ 146 by decide) dX11_most_12) (n_ifne hE (by decide) dX11_most_15))))),
    (n_sq (n_iconst hE (by decide) dX11_most_18) (n_ireturn hE rfl dX11_most_19)),
    (n_sq (n_aload_n hE dX11_most_20) (n_sq (n_getD hE xk_10 (k := 5) rfl (by decide) rfl wt_321 dX11_most_21) (n_sq (n_getS hE xk_1 (k := 9) rfl (by decide) rfl wt_133 dX11_most_24) (n_sq (n_iload_n hE dX11_most_27) (n_sq (n_iald hE rfl (by decide) dX11_most_28) (n_sq (n_istore_n hE (show (3 : Nat) < 5 by decide) dX11_most_29) (n_sq (n_aload_n hE dX11_most_30) (n_sq (n_getS hE xk_10 (k := 6) rfl (by decide) rfl wt_322 dX11_most_31) (n_sq (n_getS hE xk_8 (k := 4) rfl (by decide) rfl wt_191 dX11_most_34) (n_sq (n_iload_n hE dX11_most_37) (n_sq (n_iald hE rfl (by decide) dX11_most_38) (n_sq (n_bipush hE (by decide) dX11_most_39) (n_ifcne hE (by decide) dX11_most_41))))))))))))),
    (n_sq (n_iconst hE (by decide) dX11_most_44) (n_ireturn hE rfl dX11_most_45)),
    (n_sq (n_bipush hE (by decide) dX11_most_46) (n_sq (n_istore hE (show (4 : Nat) < 5 by decide) dX11_most_48) n_fall)),
    (n_sq (n_iload hE dX11_most_50) (n_iflt hE (by decide) dX11_most_52)),
    (n_sq (n_aload_n hE dX11_most_55) (n_sq (n_cVv hE m_X11_startFromNow vc_X11_250 (show 2 + 1 ≤ 6 ∧ 8 + (1 + 11) + 43 ≤ 146 by decide) dX11_most_56) (n_sq (n_aload_n hE dX11_most_59) (n_sq (n_getS hE xk_10 (k := 8) rfl (by decide) rfl wt_324 dX11_most_60) (n_sq (n_iload_n hE dX11_most_63) (n_sq (n_iload hE dX11_most_64) (n_sq (n_cVv hE m_X4_nowTells vc_X11_281 (show 0 + 1 ≤ 6 ∧ 8 + (3 + 11) + 0 ≤ 146 by decide) dX11_most_66) (n_sq (n_aload_n hE dX11_most_69) (n_sq (n_iload_n hE dX11_most_70) (n_sq (n_iload_n hE dX11_most_71) (n_sq (n_cIv hE m_X11_staysUnburnt vc_X11_285 (show 5 + 1 ≤ 6 ∧ 8 + (4 + 11) + 123 ≤ 146 by decide) dX11_most_72) (n_ifeq hE (by decide) dX11_most_75)))))))))))),
    (n_sq (n_iload hE dX11_most_78) (n_ireturn hE rfl dX11_most_80)),
    (n_sq (n_iinc hE (by decide) (show (4 : Nat) < 5 by decide) dX11_most_81) (n_goto hE (by decide) dX11_most_84)),
    (n_sq (n_bipush hE (by decide) dX11_most_87) (n_ireturn hE rfl dX11_most_89)), trivial⟩
noncomputable def F_X11_most (as : List XV) (w : XW) : Option (Int32 × XW) := (xF 5 bs_X11_most as w).bind pI
theorem m_X11_most : XM yX11_most cX11_most 5 (some .int) 6 146 (eI F_X11_most) := xm_I (xm_of (by decide) s_X11_most)
noncomputable def q_X11_most_0 (x1 : Int32) (x2 : Int32) (w : XW) : Option XR := ev bs_X11_most 0 ([some (.inr (10, 0)), some (.inl (.int x1)), some (.inl (.int x2)), none, none], [], w)
noncomputable def q_X11_most_8 (x1 : Int32) (x2 : Int32) (w : XW) : Option XR := ev bs_X11_most 8 ([some (.inr (10, 0)), some (.inl (.int x1)), some (.inl (.int x2)), none, none], [], w)
noncomputable def q_X11_most_18 (w : XW) : Option XR := ev bs_X11_most 18 ([none, none, none, none, none], [], w)
noncomputable def q_X11_most_20 (x1 : Int32) (x2 : Int32) (w : XW) : Option XR := ev bs_X11_most 20 ([some (.inr (10, 0)), some (.inl (.int x1)), some (.inl (.int x2)), none, none], [], w)
noncomputable def q_X11_most_44 (w : XW) : Option XR := ev bs_X11_most 44 ([none, none, none, none, none], [], w)
noncomputable def q_X11_most_46 (x1 : Int32) (x2 : Int32) (x3 : Int32) (w : XW) : Option XR := ev bs_X11_most 46 ([some (.inr (10, 0)), some (.inl (.int x1)), some (.inl (.int x2)), some (.inl (.int x3)), none], [], w)
noncomputable def q_X11_most_50 (x1 : Int32) (x2 : Int32) (x3 : Int32) (x4 : Int32) (w : XW) : Option XR := ev bs_X11_most 50 ([some (.inr (10, 0)), some (.inl (.int x1)), some (.inl (.int x2)), some (.inl (.int x3)), some (.inl (.int x4))], [], w)
noncomputable def q_X11_most_55 (x1 : Int32) (x2 : Int32) (x3 : Int32) (x4 : Int32) (w : XW) : Option XR := ev bs_X11_most 55 ([some (.inr (10, 0)), some (.inl (.int x1)), some (.inl (.int x2)), some (.inl (.int x3)), some (.inl (.int x4))], [], w)
noncomputable def q_X11_most_78 (x4 : Int32) (w : XW) : Option XR := ev bs_X11_most 78 ([none, none, none, none, some (.inl (.int x4))], [], w)
noncomputable def q_X11_most_81 (x1 : Int32) (x2 : Int32) (x3 : Int32) (x4 : Int32) (w : XW) : Option XR := ev bs_X11_most 81 ([some (.inr (10, 0)), some (.inl (.int x1)), some (.inl (.int x2)), some (.inl (.int x3)), some (.inl (.int x4))], [], w)
noncomputable def q_X11_most_87 (w : XW) : Option XR := ev bs_X11_most 87 ([none, none, none, none, none], [], w)
theorem e_X11_most_0 (x1 : Int32) (x2 : Int32) (w : XW) : q_X11_most_0 x1 x2 w = ((F_X11_isPerson [.inr (10, 0), .inl (.int x1)] w).bind fun r0 => (bif decide (r0.1 = 0) then (q_X11_most_18 r0.2) else (q_X11_most_8 x1 x2 r0.2))) := (ev_eq _ _ _).trans rfl
theorem e_X11_most_8 (x1 : Int32) (x2 : Int32) (w : XW) : q_X11_most_8 x1 x2 w = ((F_X11_within [.inl (.int x2), .inl (.int 1), .inl (.int 60)] w).bind fun r0 => (bif decide (¬ r0.1 = 0) then (q_X11_most_20 x1 x2 r0.2) else (q_X11_most_18 r0.2))) := (ev_eq _ _ _).trans rfl
theorem e_X11_most_18 (w : XW) : q_X11_most_18 w = (some (some (.inl (.int (-1))), w)) := (ev_eq _ _ _).trans rfl
theorem e_X11_most_20 (x1 : Int32) (x2 : Int32) (w : XW) : q_X11_most_20 x1 x2 w = ((gR w 10 0 5).bind fun j0 => (if x1 < 0 ∨ 5 ≤ x1.toNatClampNeg then none else (if (gI w 16 j0 x1.toNatClampNeg) < 0 ∨ 6 ≤ (gI w 16 j0 x1.toNatClampNeg).toNatClampNeg then none else (bif decide (¬ (gI w 32 0 (gI w 16 j0 x1.toNatClampNeg).toNatClampNeg) = (-2)) then (q_X11_most_46 x1 x2 (gI w 16 j0 x1.toNatClampNeg) w) else (q_X11_most_44 w))))) := (ev_eq _ _ _).trans rfl
theorem e_X11_most_44 (w : XW) : q_X11_most_44 w = (some (some (.inl (.int (-1))), w)) := (ev_eq _ _ _).trans rfl
theorem e_X11_most_46 (x1 : Int32) (x2 : Int32) (x3 : Int32) (w : XW) : q_X11_most_46 x1 x2 x3 w = (q_X11_most_50 x1 x2 x3 9 w) := (ev_eq _ _ _).trans rfl
theorem e_X11_most_50 (x1 : Int32) (x2 : Int32) (x3 : Int32) (x4 : Int32) (w : XW) : q_X11_most_50 x1 x2 x3 x4 w = (bif decide (x4 < 0) then (q_X11_most_87 w) else (q_X11_most_55 x1 x2 x3 x4 w)) := (ev_eq _ _ _).trans rfl
theorem e_X11_most_55 (x1 : Int32) (x2 : Int32) (x3 : Int32) (x4 : Int32) (w : XW) : q_X11_most_55 x1 x2 x3 x4 w = ((F_X11_startFromNow [.inr (10, 0)] w).bind fun r0 => ((F_X4_nowTells [.inr (3, 0), .inl (.int x1), .inl (.int x4)] r0).bind fun r1 => ((F_X11_staysUnburnt [.inr (10, 0), .inl (.int x3), .inl (.int x2)] r1).bind fun r2 => (bif decide (r2.1 = 0) then (q_X11_most_81 x1 x2 x3 x4 r2.2) else (q_X11_most_78 x4 r2.2))))) := (ev_eq _ _ _).trans rfl
theorem e_X11_most_78 (x4 : Int32) (w : XW) : q_X11_most_78 x4 w = (some (some (.inl (.int x4)), w)) := (ev_eq _ _ _).trans rfl
theorem e_X11_most_81 (x1 : Int32) (x2 : Int32) (x3 : Int32) (x4 : Int32) (w : XW) : q_X11_most_81 x1 x2 x3 x4 w = (q_X11_most_50 x1 x2 x3 (x4 + (-1)) w) := (ev_eq _ _ _).trans rfl
theorem e_X11_most_87 (w : XW) : q_X11_most_87 w = (some (some (.inl (.int (-2))), w)) := (ev_eq _ _ _).trans rfl
theorem f_X11_most (x1 : Int32) (x2 : Int32) (w : XW) : F_X11_most [.inr (10, 0), .inl (.int x1), .inl (.int x2)] w = (q_X11_most_0 x1 x2 w).bind pI := rfl
