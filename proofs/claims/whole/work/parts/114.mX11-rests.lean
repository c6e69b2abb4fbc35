-- WinterKeep.rests(IIII)I
theorem dX11_rests_0 : decode cX11_rests 0 = .ok (.aload_n 0, 1) := by decide +kernel
theorem dX11_rests_1 : decode cX11_rests 1 = .ok (.iload_n 1, 1) := by decide +kernel
theorem dX11_rests_2 : decode cX11_rests 2 = .ok (.invokevirtual 167, 3) := by decide +kernel
theorem dX11_rests_5 : decode cX11_rests 5 = .ok (.ifCond .eq 16, 3) := by decide +kernel
theorem dX11_rests_8 : decode cX11_rests 8 = .ok (.aload_n 0, 1) := by decide +kernel
theorem dX11_rests_9 : decode cX11_rests 9 = .ok (.iload_n 2, 1) := by decide +kernel
theorem dX11_rests_10 : decode cX11_rests 10 = .ok (.invokevirtual 167, 3) := by decide +kernel
theorem dX11_rests_13 : decode cX11_rests 13 = .ok (.ifCond .eq 8, 3) := by decide +kernel
theorem dX11_rests_16 : decode cX11_rests 16 = .ok (.iload_n 1, 1) := by decide +kernel
theorem dX11_rests_17 : decode cX11_rests 17 = .ok (.iload_n 2, 1) := by decide +kernel
theorem dX11_rests_18 : decode cX11_rests 18 = .ok (.if_icmp .ne 5, 3) := by decide +kernel
theorem dX11_rests_21 : decode cX11_rests 21 = .ok (.iconst (-1), 1) := by decide +kernel
theorem dX11_rests_22 : decode cX11_rests 22 = .ok (.ireturn, 1) := by decide +kernel
theorem dX11_rests_23 : decode cX11_rests 23 = .ok (.iload_n 3, 1) := by decide +kernel
theorem dX11_rests_24 : decode cX11_rests 24 = .ok (.iconst 1, 1) := by decide +kernel
theorem dX11_rests_25 : decode cX11_rests 25 = .ok (.bipush 20, 2) := by decide +kernel
theorem dX11_rests_27 : decode cX11_rests 27 = .ok (.invokestatic 170, 3) := by decide +kernel
theorem dX11_rests_30 : decode cX11_rests 30 = .ok (.ifCond .eq 13, 3) := by decide +kernel
theorem dX11_rests_33 : decode cX11_rests 33 = .ok (.iload 4, 2) := by decide +kernel
theorem dX11_rests_35 : decode cX11_rests 35 = .ok (.iconst 0, 1) := by decide +kernel
theorem dX11_rests_36 : decode cX11_rests 36 = .ok (.iconst 2, 1) := by decide +kernel
theorem dX11_rests_37 : decode cX11_rests 37 = .ok (.invokestatic 170, 3) := by decide +kernel
theorem dX11_rests_40 : decode cX11_rests 40 = .ok (.ifCond .ne 5, 3) := by decide +kernel
theorem dX11_rests_43 : decode cX11_rests 43 = .ok (.iconst (-1), 1) := by decide +kernel
theorem dX11_rests_44 : decode cX11_rests 44 = .ok (.ireturn, 1) := by decide +kernel
theorem dX11_rests_45 : decode cX11_rests 45 = .ok (.aload_n 0, 1) := by decide +kernel
theorem dX11_rests_46 : decode cX11_rests 46 = .ok (.iload_n 1, 1) := by decide +kernel
theorem dX11_rests_47 : decode cX11_rests 47 = .ok (.iload_n 2, 1) := by decide +kernel
theorem dX11_rests_48 : decode cX11_rests 48 = .ok (.iload_n 3, 1) := by decide +kernel
theorem dX11_rests_49 : decode cX11_rests 49 = .ok (.invokevirtual 289, 3) := by decide +kernel
theorem dX11_rests_52 : decode cX11_rests 52 = .ok (.iconst 0, 1) := by decide +kernel
theorem dX11_rests_53 : decode cX11_rests 53 = .ok (.istore 5, 2) := by decide +kernel
theorem dX11_rests_55 : decode cX11_rests 55 = .ok (.iconst (-1), 1) := by decide +kernel
theorem dX11_rests_56 : decode cX11_rests 56 = .ok (.istore 6, 2) := by decide +kernel
theorem dX11_rests_58 : decode cX11_rests 58 = .ok (.iconst 0, 1) := by decide +kernel
theorem dX11_rests_59 : decode cX11_rests 59 = .ok (.istore 7, 2) := by decide +kernel
theorem dX11_rests_61 : decode cX11_rests 61 = .ok (.iload 7, 2) := by decide +kernel
theorem dX11_rests_63 : decode cX11_rests 63 = .ok (.bipush 16, 2) := by decide +kernel
theorem dX11_rests_65 : decode cX11_rests 65 = .ok (.if_icmp .ge 36, 3) := by decide +kernel
theorem dX11_rests_68 : decode cX11_rests 68 = .ok (.aload_n 0, 1) := by decide +kernel
theorem dX11_rests_69 : decode cX11_rests 69 = .ok (.iload 7, 2) := by decide +kernel
theorem dX11_rests_71 : decode cX11_rests 71 = .ok (.invokevirtual 293, 3) := by decide +kernel
theorem dX11_rests_74 : decode cX11_rests 74 = .ok (.ifCond .eq 21, 3) := by decide +kernel
theorem dX11_rests_77 : decode cX11_rests 77 = .ok (.iinc 5 1, 3) := by decide +kernel
theorem dX11_rests_80 : decode cX11_rests 80 = .ok (.iload 6, 2) := by decide +kernel
theorem dX11_rests_82 : decode cX11_rests 82 = .ok (.iconst (-1), 1) := by decide +kernel
theorem dX11_rests_83 : decode cX11_rests 83 = .ok (.if_icmp .ne 8, 3) := by decide +kernel
theorem dX11_rests_86 : decode cX11_rests 86 = .ok (.iload 7, 2) := by decide +kernel
theorem dX11_rests_88 : decode cX11_rests 88 = .ok (.goto 5, 3) := by decide +kernel
theorem dX11_rests_91 : decode cX11_rests 91 = .ok (.iload 6, 2) := by decide +kernel
theorem dX11_rests_93 : decode cX11_rests 93 = .ok (.istore 6, 2) := by decide +kernel
theorem dX11_rests_95 : decode cX11_rests 95 = .ok (.iinc 7 1, 3) := by decide +kernel
theorem dX11_rests_98 : decode cX11_rests 98 = .ok (.goto (-37), 3) := by decide +kernel
theorem dX11_rests_101 : decode cX11_rests 101 = .ok (.iload 4, 2) := by decide +kernel
theorem dX11_rests_103 : decode cX11_rests 103 = .ok (.ifCond .ne 6, 3) := by decide +kernel
theorem dX11_rests_106 : decode cX11_rests 106 = .ok (.iload 5, 2) := by decide +kernel
theorem dX11_rests_108 : decode cX11_rests 108 = .ok (.ireturn, 1) := by decide +kernel
theorem dX11_rests_109 : decode cX11_rests 109 = .ok (.iload 6, 2) := by decide +kernel
theorem dX11_rests_111 : decode cX11_rests 111 = .ok (.iconst (-1), 1) := by decide +kernel
theorem dX11_rests_112 : decode cX11_rests 112 = .ok (.if_icmp .ne 6, 3) := by decide +kernel
theorem dX11_rests_115 : decode cX11_rests 115 = .ok (.bipush (-2), 2) := by decide +kernel
theorem dX11_rests_117 : decode cX11_rests 117 = .ok (.ireturn, 1) := by decide +kernel
theorem dX11_rests_118 : decode cX11_rests 118 = .ok (.iload 4, 2) := by decide +kernel
theorem dX11_rests_120 : decode cX11_rests 120 = .ok (.iconst 1, 1) := by decide +kernel
theorem dX11_rests_121 : decode cX11_rests 121 = .ok (.if_icmp .ne 12, 3) := by decide +kernel
theorem dX11_rests_124 : decode cX11_rests 124 = .ok (.iload 6, 2) := by decide +kernel
theorem dX11_rests_126 : decode cX11_rests 126 = .ok (.iconst 4, 1) := by decide +kernel
theorem dX11_rests_127 : decode cX11_rests 127 = .ok (.idiv, 1) := by decide +kernel
theorem dX11_rests_128 : decode cX11_rests 128 = .ok (.iconst 3, 1) := by decide +kernel
theorem dX11_rests_129 : decode cX11_rests 129 = .ok (.imul, 1) := by decide +kernel
theorem dX11_rests_130 : decode cX11_rests 130 = .ok (.goto 9, 3) := by decide +kernel
theorem dX11_rests_133 : decode cX11_rests 133 = .ok (.iload 6, 2) := by decide +kernel
theorem dX11_rests_135 : decode cX11_rests 135 = .ok (.iconst 4, 1) := by decide +kernel
theorem dX11_rests_136 : decode cX11_rests 136 = .ok (.irem, 1) := by decide +kernel
theorem dX11_rests_137 : decode cX11_rests 137 = .ok (.iconst 3, 1) := by decide +kernel
theorem dX11_rests_138 : decode cX11_rests 138 = .ok (.imul, 1) := by decide +kernel
theorem dX11_rests_139 : decode cX11_rests 139 = .ok (.ireturn, 1) := by decide +kernel
theorem vc_X11_289 : XVw RX11 289 3 10 5 yX11_fillPays cX11_fillPays none := ⟨RX11, TX11, tyX11, 20, xk_10, rfl, ⟨by decide, by decide⟩, by decide +kernel, wt_856, wt_858, ws_29, wt_1, wt_859⟩
theorem vc_X11_293 : XVw RX11 293 1 10 5 yX11_isRest cX11_isRest (some .boolean) := ⟨RX11, TX11, tyX11, 20, xk_10, rfl, ⟨by decide, by decide⟩, by decide +kernel, wt_864, wt_866, ws_31, wt_1, wt_867⟩
noncomputable def bs_X11_rests : List (Nat × XB) := [
  (0, (sq (xLA 0) (sq (xLI 1) (sq (xCI 10 2 F_X11_isPerson) (tIf1 (fun x => decide (x = 0)) 21 [false, false, false, false, false, false, false, false] 8 [true, true, true, true, true, false, false, false]))))),
  (8, (sq (xLA 0) (sq (xLI 2) (sq (xCI 10 2 F_X11_isPerson) (tIf1 (fun x => decide (x = 0)) 21 [false, false, false, false, false, false, false, false] 16 [true, true, true, true, true, false, false, false]))))),
  (16, (sq (xLI 1) (sq (xLI 2) (tIf2 (fun x y => decide (¬ x = y)) 23 [true, true, true, true, true, false, false, false] 21 [false, false, false, false, false, false, false, false])))),
  (21, (sq (xC (.int (-1))) tRI)),
  (23, (sq (xLI 3) (sq (xC (.int 1)) (sq (xC (.int 20)) (sq (xCI 99 3 F_X11_within) (tIf1 (fun x => decide (x = 0)) 43 [false, false, false, false, false, false, false, false] 33 [true, true, true, true, true, false, false, false])))))),
  (33, (sq (xLI 4) (sq (xC (.int 0)) (sq (xC (.int 2)) (sq (xCI 99 3 F_X11_within) (tIf1 (fun x => decide (¬ x = 0)) 45 [true, true, true, true, true, false, false, false] 43 [false, false, false, false, false, false, false, false])))))),
  (43, (sq (xC (.int (-1))) tRI)),
  (45, (sq (xLA 0) (sq (xLI 1) (sq (xLI 2) (sq (xLI 3) (sq (xCV 10 4 F_X11_fillPays) (sq (xC (.int 0)) (sq (xSI 5) (sq (xC (.int (-1))) (sq (xSI 6) (sq (xC (.int 0)) (sq (xSI 7) (tGo 61 [true, false, false, false, true, true, true, true]))))))))))))),
  (61, (sq (xLI 7) (sq (xC (.int 16)) (tIf2 (fun x y => decide (y ≤ x)) 101 [false, false, false, false, true, true, true, false] 68 [true, false, false, false, true, true, true, true])))),
  (68, (sq (xLA 0) (sq (xLI 7) (sq (xCI 10 2 F_X11_isRest) (tIf1 (fun x => decide (x = 0)) 95 [true, false, false, false, true, true, true, true] 77 [true, false, false, false, true, true, true, true]))))),
  (77, (sq (xInc 5 1) (sq (xLI 6) (sq (xC (.int (-1))) (tIf2 (fun x y => decide (¬ x = y)) 91 [true, false, false, false, true, true, true, true] 86 [true, false, false, false, true, true, false, true]))))),
  (86, (sq (xLI 7) (tGo 93 [true, false, false, false, true, true, false, true]))),
  (91, (sq (xLI 6) (tGo 93 [true, false, false, false, true, true, false, true]))),
  (93, (sq (xSI 6) (tGo 95 [true, false, false, false, true, true, true, true]))),
  (95, (sq (xInc 7 1) (tGo 61 [true, false, false, false, true, true, true, true]))),
  (101, (sq (xLI 4) (tIf1 (fun x => decide (¬ x = 0)) 109 [false, false, false, false, true, false, true, false] 106 [false, false, false, false, false, true, false, false]))),
  (106, (sq (xLI 5) tRI)),
  (109, (sq (xLI 6) (sq (xC (.int (-1))) (tIf2 (fun x y => decide (¬ x = y)) 118 [false, false, false, false, true, false, true, false] 115 [false, false, false, false, false, false, false, false])))),
  (115, (sq (xC (.int (-2))) tRI)),
  (118, (sq (xLI 4) (sq (xC (.int 1)) (tIf2 (fun x y => decide (¬ x = y)) 133 [false, false, false, false, false, false, true, false] 124 [false, false, false, false, false, false, true, false])))),
  (124, (sq (xLI 6) (sq (xC (.int 4)) (sq (xI2z (· / ·)) (sq (xC (.int 3)) (sq (xI2 (· * ·)) (tGo 139 [false, false, false, false, false, false, false, false]))))))),
  (133, (sq (xLI 6) (sq (xC (.int 4)) (sq (xI2z (fun x y => x - x / y * y)) (sq (xC (.int 3)) (sq (xI2 (· * ·)) (tGo 139 [false, false, false, false, false, false, false, false]))))))),
  (139, tRI)]
set_option maxRecDepth 100000 in
set_option maxHeartbeats 4000000 in
theorem s_X11_rests : ∀ X : XCtx, XE X → X.2.2.1.1 = cX11_rests → X.2.2.1.2.1 = 8 → X.2.2.1.2.2.1 = yX11_rests.cls → X.2.2.1.2.2.2.1 = (some .int) → X.1.2.2.2.1 = { frames := 7, cells := 0, slots := 0, locals := 169 } → SndBs X bs_X11_rests := by
  rintro ⟨⟨p, l, e, R, s⟩, Y, ⟨cc, nL, own, ret, Ts⟩, Z⟩ hE h1 h2 h3 h4 h5
  dsimp only at h1 h2 h3 h4 h5
  subst h1 h2 h3 h4 h5
  exact ⟨(n_sq (n_aload_n hE dX11_rests_0) (n_sq (n_iload_n hE dX11_rests_1) (n_sq (n_cIv hE m_X11_isPerson vc_X11_167 (show 1 + 1 ≤ 7 ∧ 8 + (2 + 11) + 22 ≤ 169 by decide) dX11_rests_2) (n_ifeq hE (by decide) dX11_rests_5)))),
    (n_sq (n_aload_n hE dX11_rests_8) (n_sq (n_iload_n hE dX11_rests_9) (n_sq (n_cIv hE m_X11_isPerson vc_X11_167 (show 1 + 1 ≤ 7 ∧ 8 + (2 + 11) + 22 ≤ 169 by decide) dX11_rests_10) (n_ifeq hE (by decide) dX11_rests_13)))),
    (n_sq (n_iload_n hE dX11_rests_16) (n_sq (n_iload_n hE dX11_rests_17) (n_ifcne hE (by decide) dX11_rests_18))),
    (n_sq (n_iconst hE (by decide) dX11_rests_21) (n_ireturn hE rfl dX11_rests_22)),
    (n_sq (n_iload_n hE dX11_rests_23) (n_sq (n_iconst hE (by decide) dX11_rests_24) (n_sq (n_bipush hE (by decide) dX11_rests_25) (n_sq (n_cIs hE m_X11_within vc_X11_170 (show 0 + 1 ≤ 7 ∧ 8 + (3 + 11) + 0 ≤ 169 by decide) dX11_rests_27) (n_ifeq hE (by decide) dX11_rests_30))))),
    (n_sq (n_iload hE dX11_rests_33) (n_sq (n_iconst hE (by decide) dX11_rests_35) (n_sq (n_iconst hE (by decide) dX11_rests_36) (n_sq (n_cIs hE m_X11_within vc_X11_170 (show 0 + 1 ≤ 7 ∧ 8 + (3 + 11) + 0 ≤ 169 by decide) dX11_rests_37) (n_ifne hE (by decide) dX11_rests_40))))),
    (n_sq (n_iconst hE (by decide) dX11_rests_43) (n_ireturn hE rfl dX11_rests_44)),
    (n_sq (n_aload_n hE dX11_rests_45) (n_sq (n_iload_n hE dX11_rests_46) (n_sq (n_iload_n hE dX11_rests_47) (n_sq (n_iload_n hE dX11_rests_48) (n_sq (n_cVv hE m_X11_fillPays vc_X11_289 (show 6 + 1 ≤ 7 ∧ 8 + (5 + 11) + 145 ≤ 169 by decide) dX11_rests_49) (n_sq (n_iconst hE (by decide) dX11_rests_52) (n_sq (n_istore hE (show (5 : Nat) < 8 by decide) dX11_rests_53) (n_sq (n_iconst hE (by decide) dX11_rests_55) (n_sq (n_istore hE (show (6 : Nat) < 8 by decide) dX11_rests_56) (n_sq (n_iconst hE (by decide) dX11_rests_58) (n_sq (n_istore hE (show (7 : Nat) < 8 by decide) dX11_rests_59) n_fall))))))))))),
    (n_sq (n_iload hE dX11_rests_61) (n_sq (n_bipush hE (by decide) dX11_rests_63) (n_ifcge hE (by decide) dX11_rests_65))),
    (n_sq (n_aload_n hE dX11_rests_68) (n_sq (n_iload hE dX11_rests_69) (n_sq (n_cIv hE m_X11_isRest vc_X11_293 (show 0 + 1 ≤ 7 ∧ 8 + (5 + 11) + 0 ≤ 169 by decide) dX11_rests_71) (n_ifeq hE (by decide) dX11_rests_74)))),
    (n_sq (n_iinc hE (by decide) (show (5 : Nat) < 8 by decide) dX11_rests_77) (n_sq (n_iload hE dX11_rests_80) (n_sq (n_iconst hE (by decide) dX11_rests_82) (n_ifcne hE (by decide) dX11_rests_83)))),
    (n_sq (n_iload hE dX11_rests_86) (n_goto hE (by decide) dX11_rests_88)),
    (n_sq (n_iload hE dX11_rests_91) n_fall),
    (n_sq (n_istore hE (show (6 : Nat) < 8 by decide) dX11_rests_93) n_fall),
    (n_sq (n_iinc hE (by decide) (show (7 : Nat) < 8 by decide) dX11_rests_95) (n_goto hE (by decide) dX11_rests_98)),
    (n_sq (n_iload hE dX11_rests_101) (n_ifne hE (by decide) dX11_rests_103)),
    (n_sq (n_iload hE dX11_rests_106) (n_ireturn hE rfl dX11_rests_108)),
    (n_sq (n_iload hE dX11_rests_109) (n_sq (n_iconst hE (by decide) dX11_rests_111) (n_ifcne hE (by decide) dX11_rests_112))),
    (n_sq (n_bipush hE (by decide) dX11_rests_115) (n_ireturn hE rfl dX11_rests_117)),
    (n_sq (n_iload hE dX11_rests_118) (n_sq (n_iconst hE (by decide) dX11_rests_120) (n_ifcne hE (by decide) dX11_rests_121))),
    (n_sq (n_iload hE dX11_rests_124) (n_sq (n_iconst hE (by decide) dX11_rests_126) (n_sq (n_idiv hE dX11_rests_127) (n_sq (n_iconst hE (by decide) dX11_rests_128) (n_sq (n_imul hE dX11_rests_129) (n_goto hE (by decide) dX11_rests_130)))))),
    (n_sq (n_iload hE dX11_rests_133) (n_sq (n_iconst hE (by decide) dX11_rests_135) (n_sq (n_irem hE dX11_rests_136) (n_sq (n_iconst hE (by decide) dX11_rests_137) (n_sq (n_imul hE dX11_rests_138) n_fall))))),
    (n_ireturn hE rfl dX11_rests_139), trivial⟩
noncomputable def F_X11_rests (as : List XV) (w : XW) : Option (Int32 × XW) := (xF 8 bs_X11_rests as w).bind pI
theorem m_X11_rests : XM yX11_rests cX11_rests 8 (some .int) 7 169 (eI F_X11_rests) := xm_I (xm_of (by decide) s_X11_rests)
noncomputable def q_X11_rests_0 (x1 : Int32) (x2 : Int32) (x3 : Int32) (x4 : Int32) (w : XW) : Option XR := ev bs_X11_rests 0 ([some (.inr (10, 0)), some (.inl (.int x1)), some (.inl (.int x2)), some (.inl (.int x3)), some (.inl (.int x4)), none, none, none], [], w)
noncomputable def q_X11_rests_8 (x1 : Int32) (x2 : Int32) (x3 : Int32) (x4 : Int32) (w : XW) : Option XR := ev bs_X11_rests 8 ([some (.inr (10, 0)), some (.inl (.int x1)), some (.inl (.int x2)), some (.inl (.int x3)), some (.inl (.int x4)), none, none, none], [], w)
noncomputable def q_X11_rests_16 (x1 : Int32) (x2 : Int32) (x3 : Int32) (x4 : Int32) (w : XW) : Option XR := ev bs_X11_rests 16 ([some (.inr (10, 0)), some (.inl (.int x1)), some (.inl (.int x2)), some (.inl (.int x3)), some (.inl (.int x4)), none, none, none], [], w)
noncomputable def q_X11_rests_21 (w : XW) : Option XR := ev bs_X11_rests 21 ([none, none, none, none, none, none, none, none], [], w)
noncomputable def q_X11_rests_23 (x1 : Int32) (x2 : Int32) (x3 : Int32) (x4 : Int32) (w : XW) : Option XR := ev bs_X11_rests 23 ([some (.inr (10, 0)), some (.inl (.int x1)), some (.inl (.int x2)), some (.inl (.int x3)), some (.inl (.int x4)), none, none, none], [], w)
noncomputable def q_X11_rests_33 (x1 : Int32) (x2 : Int32) (x3 : Int32) (x4 : Int32) (w : XW) : Option XR := ev bs_X11_rests 33 ([some (.inr (10, 0)), some (.inl (.int x1)), some (.inl (.int x2)), some (.inl (.int x3)), some (.inl (.int x4)), none, none, none], [], w)
noncomputable def q_X11_rests_43 (w : XW) : Option XR := ev bs_X11_rests 43 ([none, none, none, none, none, none, none, none], [], w)
noncomputable def q_X11_rests_45 (x1 : Int32) (x2 : Int32) (x3 : Int32) (x4 : Int32) (w : XW) : Option XR := ev bs_X11_rests 45 ([some (.inr (10, 0)), some (.inl (.int x1)), some (.inl (.int x2)), some (.inl (.int x3)), some (.inl (.int x4)), none, none, none], [], w)
noncomputable def q_X11_rests_61 (x4 : Int32) (x5 : Int32) (x6 : Int32) (x7 : Int32) (w : XW) : Option XR := ev bs_X11_rests 61 ([some (.inr (10, 0)), none, none, none, some (.inl (.int x4)), some (.inl (.int x5)), some (.inl (.int x6)), some (.inl (.int x7))], [], w)
noncomputable def q_X11_rests_68 (x4 : Int32) (x5 : Int32) (x6 : Int32) (x7 : Int32) (w : XW) : Option XR := ev bs_X11_rests 68 ([some (.inr (10, 0)), none, none, none, some (.inl (.int x4)), some (.inl (.int x5)), some (.inl (.int x6)), some (.inl (.int x7))], [], w)
noncomputable def q_X11_rests_77 (x4 : Int32) (x5 : Int32) (x6 : Int32) (x7 : Int32) (w : XW) : Option XR := ev bs_X11_rests 77 ([some (.inr (10, 0)), none, none, none, some (.inl (.int x4)), some (.inl (.int x5)), some (.inl (.int x6)), some (.inl (.int x7))], [], w)
noncomputable def q_X11_rests_86 (x4 : Int32) (x5 : Int32) (x7 : Int32) (w : XW) : Option XR := ev bs_X11_rests 86 ([some (.inr (10, 0)), none, none, none, some (.inl (.int x4)), some (.inl (.int x5)), none, some (.inl (.int x7))], [], w)
noncomputable def q_X11_rests_91 (x4 : Int32) (x5 : Int32) (x6 : Int32) (x7 : Int32) (w : XW) : Option XR := ev bs_X11_rests 91 ([some (.inr (10, 0)), none, none, none, some (.inl (.int x4)), some (.inl (.int x5)), some (.inl (.int x6)), some (.inl (.int x7))], [], w)
noncomputable def q_X11_rests_93 (x4 : Int32) (x5 : Int32) (x7 : Int32) (s0 : Int32) (w : XW) : Option XR := ev bs_X11_rests 93 ([some (.inr (10, 0)), none, none, none, some (.inl (.int x4)), some (.inl (.int x5)), none, some (.inl (.int x7))], [.inl (.int s0)], w)
noncomputable def q_X11_rests_95 (x4 : Int32) (x5 : Int32) (x6 : Int32) (x7 : Int32) (w : XW) : Option XR := ev bs_X11_rests 95 ([some (.inr (10, 0)), none, none, none, some (.inl (.int x4)), some (.inl (.int x5)), some (.inl (.int x6)), some (.inl (.int x7))], [], w)
noncomputable def q_X11_rests_101 (x4 : Int32) (x5 : Int32) (x6 : Int32) (w : XW) : Option XR := ev bs_X11_rests 101 ([none, none, none, none, some (.inl (.int x4)), some (.inl (.int x5)), some (.inl (.int x6)), none], [], w)
noncomputable def q_X11_rests_106 (x5 : Int32) (w : XW) : Option XR := ev bs_X11_rests 106 ([none, none, none, none, none, some (.inl (.int x5)), none, none], [], w)
noncomputable def q_X11_rests_109 (x4 : Int32) (x6 : Int32) (w : XW) : Option XR := ev bs_X11_rests 109 ([none, none, none, none, some (.inl (.int x4)), none, some (.inl (.int x6)), none], [], w)
noncomputable def q_X11_rests_115 (w : XW) : Option XR := ev bs_X11_rests 115 ([none, none, none, none, none, none, none, none], [], w)
noncomputable def q_X11_rests_118 (x4 : Int32) (x6 : Int32) (w : XW) : Option XR := ev bs_X11_rests 118 ([none, none, none, none, some (.inl (.int x4)), none, some (.inl (.int x6)), none], [], w)
noncomputable def q_X11_rests_124 (x6 : Int32) (w : XW) : Option XR := ev bs_X11_rests 124 ([none, none, none, none, none, none, some (.inl (.int x6)), none], [], w)
noncomputable def q_X11_rests_133 (x6 : Int32) (w : XW) : Option XR := ev bs_X11_rests 133 ([none, none, none, none, none, none, some (.inl (.int x6)), none], [], w)
noncomputable def q_X11_rests_139 (s0 : Int32) (w : XW) : Option XR := ev bs_X11_rests 139 ([none, none, none, none, none, none, none, none], [.inl (.int s0)], w)
theorem e_X11_rests_0 (x1 : Int32) (x2 : Int32) (x3 : Int32) (x4 : Int32) (w : XW) : q_X11_rests_0 x1 x2 x3 x4 w = ((F_X11_isPerson [.inr (10, 0), .inl (.int x1)] w).bind fun r0 => (bif decide (r0.1 = 0) then (q_X11_rests_21 r0.2) else (q_X11_rests_8 x1 x2 x3 x4 r0.2))) := (ev_eq _ _ _).trans rfl
theorem e_X11_rests_8 (x1 : Int32) (x2 : Int32) (x3 : Int32) (x4 : Int32) (w : XW) : q_X11_rests_8 x1 x2 x3 x4 w = ((F_X11_isPerson [.inr (10, 0), .inl (.int x2)] w).bind fun r0 => (bif decide (r0.1 = 0) then (q_X11_rests_21 r0.2) else (q_X11_rests_16 x1 x2 x3 x4 r0.2))) := (ev_eq _ _ _).trans rfl
theorem e_X11_rests_16 (x1 : Int32) (x2 : Int32) (x3 : Int32) (x4 : Int32) (w : XW) : q_X11_rests_16 x1 x2 x3 x4 w = (bif decide (¬ x1 = x2) then (q_X11_rests_23 x1 x2 x3 x4 w) else (q_X11_rests_21 w)) := (ev_eq _ _ _).trans rfl
theorem e_X11_rests_21 (w : XW) : q_X11_rests_21 w = (some (some (.inl (.int (-1))), w)) := (ev_eq _ _ _).trans rfl
theorem e_X11_rests_23 (x1 : Int32) (x2 : Int32) (x3 : Int32) (x4 : Int32) (w : XW) : q_X11_rests_23 x1 x2 x3 x4 w = ((F_X11_within [.inl (.int x3), .inl (.int 1), .inl (.int 20)] w).bind fun r0 => (bif decide (r0.1 = 0) then (q_X11_rests_43 r0.2) else (q_X11_rests_33 x1 x2 x3 x4 r0.2))) := (ev_eq _ _ _).trans rfl
theorem e_X11_rests_33 (x1 : Int32) (x2 : Int32) (x3 : Int32) (x4 : Int32) (w : XW) : q_X11_rests_33 x1 x2 x3 x4 w = ((F_X11_within [.inl (.int x4), .inl (.int 0), .inl (.int 2)] w).bind fun r0 => (bif decide (¬ r0.1 = 0) then (q_X11_rests_45 x1 x2 x3 x4 r0.2) else (q_X11_rests_43 r0.2))) := (ev_eq _ _ _).trans rfl
theorem e_X11_rests_43 (w : XW) : q_X11_rests_43 w = (some (some (.inl (.int (-1))), w)) := (ev_eq _ _ _).trans rfl
theorem e_X11_rests_45 (x1 : Int32) (x2 : Int32) (x3 : Int32) (x4 : Int32) (w : XW) : q_X11_rests_45 x1 x2 x3 x4 w = ((F_X11_fillPays [.inr (10, 0), .inl (.int x1), .inl (.int x2), .inl (.int x3)] w).bind fun r0 => (q_X11_rests_61 x4 0 (-1) 0 r0)) := (ev_eq _ _ _).trans rfl
theorem e_X11_rests_61 (x4 : Int32) (x5 : Int32) (x6 : Int32) (x7 : Int32) (w : XW) : q_X11_rests_61 x4 x5 x6 x7 w = (bif decide (16 ≤ x7) then (q_X11_rests_101 x4 x5 x6 w) else (q_X11_rests_68 x4 x5 x6 x7 w)) := (ev_eq _ _ _).trans rfl
theorem e_X11_rests_68 (x4 : Int32) (x5 : Int32) (x6 : Int32) (x7 : Int32) (w : XW) : q_X11_rests_68 x4 x5 x6 x7 w = ((F_X11_isRest [.inr (10, 0), .inl (.int x7)] w).bind fun r0 => (bif decide (r0.1 = 0) then (q_X11_rests_95 x4 x5 x6 x7 r0.2) else (q_X11_rests_77 x4 x5 x6 x7 r0.2))) := (ev_eq _ _ _).trans rfl
theorem e_X11_rests_77 (x4 : Int32) (x5 : Int32) (x6 : Int32) (x7 : Int32) (w : XW) : q_X11_rests_77 x4 x5 x6 x7 w = (bif decide (¬ x6 = (-1)) then (q_X11_rests_91 x4 (x5 + 1) x6 x7 w) else (q_X11_rests_86 x4 (x5 + 1) x7 w)) := (ev_eq _ _ _).trans rfl
theorem e_X11_rests_86 (x4 : Int32) (x5 : Int32) (x7 : Int32) (w : XW) : q_X11_rests_86 x4 x5 x7 w = (q_X11_rests_93 x4 x5 x7 x7 w) := (ev_eq _ _ _).trans rfl
theorem e_X11_rests_91 (x4 : Int32) (x5 : Int32) (x6 : Int32) (x7 : Int32) (w : XW) : q_X11_rests_91 x4 x5 x6 x7 w = (q_X11_rests_93 x4 x5 x7 x6 w) := (ev_eq _ _ _).trans rfl
theorem e_X11_rests_93 (x4 : Int32) (x5 : Int32) (x7 : Int32) (s0 : Int32) (w : XW) : q_X11_rests_93 x4 x5 x7 s0 w = (q_X11_rests_95 x4 x5 s0 x7 w) := (ev_eq _ _ _).trans rfl
theorem e_X11_rests_95 (x4 : Int32) (x5 : Int32) (x6 : Int32) (x7 : Int32) (w : XW) : q_X11_rests_95 x4 x5 x6 x7 w = (q_X11_rests_61 x4 x5 x6 (x7 + 1) w) := (ev_eq _ _ _).trans rfl
theorem e_X11_rests_101 (x4 : Int32) (x5 : Int32) (x6 : Int32) (w : XW) : q_X11_rests_101 x4 x5 x6 w = (bif decide (¬ x4 = 0) then (q_X11_rests_109 x4 x6 w) else (q_X11_rests_106 x5 w)) := (ev_eq _ _ _).trans rfl
theorem e_X11_rests_106 (x5 : Int32) (w : XW) : q_X11_rests_106 x5 w = (some (some (.inl (.int x5)), w)) := (ev_eq _ _ _).trans rfl
theorem e_X11_rests_109 (x4 : Int32) (x6 : Int32) (w : XW) : q_X11_rests_109 x4 x6 w = (bif decide (¬ x6 = (-1)) then (q_X11_rests_118 x4 x6 w) else (q_X11_rests_115 w)) := (ev_eq _ _ _).trans rfl
theorem e_X11_rests_115 (w : XW) : q_X11_rests_115 w = (some (some (.inl (.int (-2))), w)) := (ev_eq _ _ _).trans rfl
theorem e_X11_rests_118 (x4 : Int32) (x6 : Int32) (w : XW) : q_X11_rests_118 x4 x6 w = (bif decide (¬ x4 = 1) then (q_X11_rests_133 x6 w) else (q_X11_rests_124 x6 w)) := (ev_eq _ _ _).trans rfl
theorem e_X11_rests_124 (x6 : Int32) (w : XW) : q_X11_rests_124 x6 w = (q_X11_rests_139 ((x6 / 4) * 3) w) := (ev_eq _ _ _).trans rfl
theorem e_X11_rests_133 (x6 : Int32) (w : XW) : q_X11_rests_133 x6 w = (q_X11_rests_139 ((x6 - x6 / 4 * 4) * 3) w) := (ev_eq _ _ _).trans rfl
theorem e_X11_rests_139 (s0 : Int32) (w : XW) : q_X11_rests_139 s0 w = (some (some (.inl (.int s0)), w)) := (ev_eq _ _ _).trans rfl
theorem f_X11_rests (x1 : Int32) (x2 : Int32) (x3 : Int32) (x4 : Int32) (w : XW) : F_X11_rests [.inr (10, 0), .inl (.int x1), .inl (.int x2), .inl (.int x3), .inl (.int x4)] w = (q_X11_rests_0 x1 x2 x3 x4 w).bind pI := rfl

-- WinterKeep$Scene.packed(I)J
theorem dX9_packed_0 : decode cX9_packed 0 = .ok (.lconst 0, 1) := by decide +kernel
theorem dX9_packed_1 : decode cX9_packed 1 = .ok (.lstore_n 2, 1) := by decide +kernel
theorem dX9_packed_2 : decode cX9_packed 2 = .ok (.iload_n 1, 1) := by decide +kernel
theorem dX9_packed_3 : decode cX9_packed 3 = .ok (.istore 4, 2) := by decide +kernel
theorem dX9_packed_5 : decode cX9_packed 5 = .ok (.iload 4, 2) := by decide +kernel
theorem dX9_packed_7 : decode cX9_packed 7 = .ok (.iload_n 1, 1) := by decide +kernel
theorem dX9_packed_8 : decode cX9_packed 8 = .ok (.iconst 3, 1) := by decide +kernel
theorem dX9_packed_9 : decode cX9_packed 9 = .ok (.iadd, 1) := by decide +kernel
theorem dX9_packed_10 : decode cX9_packed 10 = .ok (.if_icmp .ge 59, 3) := by decide +kernel
theorem dX9_packed_13 : decode cX9_packed 13 = .ok (.iload 4, 2) := by decide +kernel
theorem dX9_packed_15 : decode cX9_packed 15 = .ok (.bipush 6, 2) := by decide +kernel
theorem dX9_packed_17 : decode cX9_packed 17 = .ok (.if_icmp .ge 52, 3) := by decide +kernel
theorem dX9_packed_20 : decode cX9_packed 20 = .ok (.lload_n 2, 1) := by decide +kernel
theorem dX9_packed_21 : decode cX9_packed 21 = .ok (.bipush 8, 2) := by decide +kernel
theorem dX9_packed_23 : decode cX9_packed 23 = .ok (.lshl, 1) := by decide +kernel
theorem dX9_packed_24 : decode cX9_packed 24 = .ok (.aload_n 0, 1) := by decide +kernel
theorem dX9_packed_25 : decode cX9_packed 25 = .ok (.getfield 18, 3) := by decide +kernel
theorem dX9_packed_28 : decode cX9_packed 28 = .ok (.iload 4, 2) := by decide +kernel
theorem dX9_packed_30 : decode cX9_packed 30 = .ok (.iaload, 1) := by decide +kernel
theorem dX9_packed_31 : decode cX9_packed 31 = .ok (.i2l, 1) := by decide +kernel
theorem dX9_packed_32 : decode cX9_packed 32 = .ok (.lor, 1) := by decide +kernel
theorem dX9_packed_33 : decode cX9_packed 33 = .ok (.lstore_n 2, 1) := by decide +kernel
theorem dX9_packed_34 : decode cX9_packed 34 = .ok (.lload_n 2, 1) := by decide +kernel
theorem dX9_packed_35 : decode cX9_packed 35 = .ok (.bipush 8, 2) := by decide +kernel
theorem dX9_packed_37 : decode cX9_packed 37 = .ok (.lshl, 1) := by decide +kernel
theorem dX9_packed_38 : decode cX9_packed 38 = .ok (.aload_n 0, 1) := by decide +kernel
theorem dX9_packed_39 : decode cX9_packed 39 = .ok (.getfield 22, 3) := by decide +kernel
theorem dX9_packed_42 : decode cX9_packed 42 = .ok (.iload 4, 2) := by decide +kernel
theorem dX9_packed_44 : decode cX9_packed 44 = .ok (.iaload, 1) := by decide +kernel
theorem dX9_packed_45 : decode cX9_packed 45 = .ok (.i2l, 1) := by decide +kernel
theorem dX9_packed_46 : decode cX9_packed 46 = .ok (.lor, 1) := by decide +kernel
theorem dX9_packed_47 : decode cX9_packed 47 = .ok (.lstore_n 2, 1) := by decide +kernel
theorem dX9_packed_48 : decode cX9_packed 48 = .ok (.lload_n 2, 1) := by decide +kernel
theorem dX9_packed_49 : decode cX9_packed 49 = .ok (.iconst 4, 1) := by decide +kernel
theorem dX9_packed_50 : decode cX9_packed 50 = .ok (.lshl, 1) := by decide +kernel
theorem dX9_packed_51 : decode cX9_packed 51 = .ok (.aload_n 0, 1) := by decide +kernel
theorem dX9_packed_52 : decode cX9_packed 52 = .ok (.getfield 25, 3) := by decide +kernel
theorem dX9_packed_55 : decode cX9_packed 55 = .ok (.iload 4, 2) := by decide +kernel
theorem dX9_packed_57 : decode cX9_packed 57 = .ok (.iaload, 1) := by decide +kernel
theorem dX9_packed_58 : decode cX9_packed 58 = .ok (.iconst 2, 1) := by decide +kernel
theorem dX9_packed_59 : decode cX9_packed 59 = .ok (.iadd, 1) := by decide +kernel
theorem dX9_packed_60 : decode cX9_packed 60 = .ok (.i2l, 1) := by decide +kernel
theorem dX9_packed_61 : decode cX9_packed 61 = .ok (.lor, 1) := by decide +kernel
theorem dX9_packed_62 : decode cX9_packed 62 = .ok (.lstore_n 2, 1) := by decide +kernel
theorem dX9_packed_63 : decode cX9_packed 63 = .ok (.iinc 4 1, 3) := by decide +kernel
theorem dX9_packed_66 : decode cX9_packed 66 = .ok (.goto (-61), 3) := by decide +kernel
theorem dX9_packed_69 : decode cX9_packed 69 = .ok (.lload_n 2, 1) := by decide +kernel
theorem dX9_packed_70 : decode cX9_packed 70 = .ok (.lreturn, 1) := by decide +kernel
noncomputable def bs_X9_packed : List (Nat × XB) := [
  (0, (sq (xC (.long 0)) (sq (xSJ 2) (sq (xLI 1) (sq (xSI 4) (tGo 5 [true, true, true, false, true])))))),
  (5, (sq (xLI 4) (sq (xLI 1) (sq (xC (.int 3)) (sq (xI2 (· + ·)) (tIf2 (fun x y => decide (y ≤ x)) 69 [false, false, true, false, false] 13 [true, true, true, false, true])))))),
  (13, (sq (xLI 4) (sq (xC (.int 6)) (tIf2 (fun x y => decide (y ≤ x)) 69 [false, false, true, false, false] 20 [true, true, true, false, true])))),
  (20, (sq (xLJ 2) (sq (xC (.int 8)) (sq (xJI (fun x y => x <<< (y.toInt64 &&& 63))) (sq (xLA 0) (sq (xGS 8 30 0 0) (sq (xLI 4) (sq (xAI 30 6) (sq (xI2L) (sq (xJ2 (· ||| ·)) (sq (xSJ 2) (sq (xLJ 2) (sq (xC (.int 8)) (sq (xJI (fun x y => x <<< (y.toInt64 &&& 63))) (sq (xLA 0) (sq (xGS 8 31 0 0) (sq (xLI 4) (sq (xAI 31 6) (sq (xI2L) (sq (xJ2 (· ||| ·)) (sq (xSJ 2) (sq (xLJ 2) (sq (xC (.int 4)) (sq (xJI (fun x y => x <<< (y.toInt64 &&& 63))) (sq (xLA 0) (sq (xGS 8 32 0 0) (sq (xLI 4) (sq (xAI 32 6) (sq (xC (.int 2)) (sq (xI2 (· + ·)) (sq (xI2L) (sq (xJ2 (· ||| ·)) (sq (xSJ 2) (sq (xInc 4 1) (tGo 5 [true, true, true, false, true]))))))))))))))))))))))))))))))))))),
  (69, (sq (xLJ 2) tRJ))]
set_option maxRecDepth 100000 in
set_option maxHeartbeats 4000000 in
theorem s_X9_packed : ∀ X : XCtx, XE X → X.2.2.1.1 = cX9_packed → X.2.2.1.2.1 = 5 → X.2.2.1.2.2.1 = yX9_packed.cls → X.2.2.1.2.2.2.1 = (some .long) → X.1.2.2.2.1 = { frames := 0, cells := 0, slots := 0, locals := 0 } → SndBs X bs_X9_packed := by
  rintro ⟨⟨p, l, e, R, s⟩, Y, ⟨cc, nL, own, ret, Ts⟩, Z⟩ hE h1 h2 h3 h4 h5
  dsimp only at h1 h2 h3 h4 h5
  subst h1 h2 h3 h4 h5
  exact ⟨(n_sq (n_lconst hE (by decide) dX9_packed_0) (n_sq (n_lstore_n hE (show (2 : Nat) + 1 < 5 by decide) dX9_packed_1) (n_sq (n_iload_n hE dX9_packed_2) (n_sq (n_istore hE (show (4 : Nat) < 5 by decide) dX9_packed_3) n_fall)))),
    (n_sq (n_iload hE dX9_packed_5) (n_sq (n_iload_n hE dX9_packed_7) (n_sq (n_iconst hE (by decide) dX9_packed_8) (n_sq (n_iadd hE dX9_packed_9) (n_ifcge hE (by decide) dX9_packed_10))))),
    (n_sq (n_iload hE dX9_packed_13) (n_sq (n_bipush hE (by decide) dX9_packed_15) (n_ifcge hE (by decide) dX9_packed_17))),
    (n_sq (n_lload_n hE dX9_packed_20) (n_sq (n_bipush hE (by decide) dX9_packed_21) (n_sq (n_lshl hE dX9_packed_23) (n_sq (n_aload_n hE dX9_packed_24) (n_sq (n_getS hE xk_8 (k := 2) rfl (by decide) rfl wt_179 dX9_packed_25) (n_sq (n_iload hE dX9_packed_28) (n_sq (n_iald hE rfl (by decide) dX9_packed_30) (n_sq (n_i2l hE dX9_packed_31) (n_sq (n_lor hE dX9_packed_32) (n_sq (n_lstore_n hE (show (2 : Nat) + 1 < 5 by decide) dX9_packed_33) (n_sq (n_lload_n hE dX9_packed_34) (n_sq (n_bipush hE (by decide) dX9_packed_35) (n_sq (n_lshl hE dX9_packed_37) (n_sq (n_aload_n hE dX9_packed_38) (n_sq (n_getS hE xk_8 (k := 3) rfl (by decide) rfl wt_184 dX9_packed_39) (n_sq (n_iload hE dX9_packed_42) (n_sq (n_iald hE rfl (by decide) dX9_packed_44) (n_sq (n_i2l hE dX9_packed_45) (n_sq (n_lor hE dX9_packed_46) (n_sq (n_lstore_n hE (show (2 : Nat) + 1 < 5 by decide) dX9_packed_47) (n_sq (n_lload_n hE dX9_packed_48) (n_sq (n_iconst hE (by decide) dX9_packed_49) (n_sq (n_lshl hE dX9_packed_50) (n_sq (n_aload_n hE dX9_packed_51) (n_sq (n_getS hE xk_8 (k := 4) rfl (by decide) rfl wt_187 dX9_packed_52) (n_sq (n_iload hE dX9_packed_55) (n_sq (n_iald hE rfl (by decide) dX9_packed_57) (n_sq (n_iconst hE (by decide) dX9_packed_58) (n_sq (n_iadd hE dX9_packed_59) (n_sq (n_i2l hE dX9_packed_60) (n_sq (n_lor hE dX9_packed_61) (n_sq (n_lstore_n hE (show (2 : Nat) + 1 < 5 by decide) dX9_packed_62) (n_sq (n_iinc hE (by decide) (show (4 : Nat) < 5 by decide) dX9_packed_63) (n_goto hE (by decide) dX9_packed_66)))))))))))))))))))))))))))))))))),
    (n_sq (n_lload_n hE dX9_packed_69) (n_lreturn hE rfl dX9_packed_70)), trivial⟩
noncomputable def F_X9_packed (as : List XV) (w : XW) : Option (Int64 × XW) := (xF 5 bs_X9_packed as w).bind pJ
theorem m_X9_packed : XM yX9_packed cX9_packed 5 (some .long) 0 0 (eJ F_X9_packed) := xm_J (xm_of (by decide) s_X9_packed)
noncomputable def q_X9_packed_0 (i0 : Nat) (x1 : Int32) (w : XW) : Option XR := ev bs_X9_packed 0 ([some (.inr (8, i0)), some (.inl (.int x1)), none, none, none], [], w)
noncomputable def q_X9_packed_5 (i0 : Nat) (x1 : Int32) (y2 : Int64) (x4 : Int32) (w : XW) : Option XR := ev bs_X9_packed 5 ([some (.inr (8, i0)), some (.inl (.int x1)), some (.inl (.long y2)), none, some (.inl (.int x4))], [], w)
noncomputable def q_X9_packed_13 (i0 : Nat) (x1 : Int32) (y2 : Int64) (x4 : Int32) (w : XW) : Option XR := ev bs_X9_packed 13 ([some (.inr (8, i0)), some (.inl (.int x1)), some (.inl (.long y2)), none, some (.inl (.int x4))], [], w)
noncomputable def q_X9_packed_20 (i0 : Nat) (x1 : Int32) (y2 : Int64) (x4 : Int32) (w : XW) : Option XR := ev bs_X9_packed 20 ([some (.inr (8, i0)), some (.inl (.int x1)), some (.inl (.long y2)), none, some (.inl (.int x4))], [], w)
noncomputable def q_X9_packed_69 (y2 : Int64) (w : XW) : Option XR := ev bs_X9_packed 69 ([none, none, some (.inl (.long y2)), none, none], [], w)
theorem e_X9_packed_0 (i0 : Nat) (x1 : Int32) (w : XW) : q_X9_packed_0 i0 x1 w = (q_X9_packed_5 i0 x1 0 x1 w) := (ev_eq _ _ _).trans rfl
theorem e_X9_packed_5 (i0 : Nat) (x1 : Int32) (y2 : Int64) (x4 : Int32) (w : XW) : q_X9_packed_5 i0 x1 y2 x4 w = (bif decide ((x1 + 3) ≤ x4) then (q_X9_packed_69 y2 w) else (q_X9_packed_13 i0 x1 y2 x4 w)) := (ev_eq _ _ _).trans rfl
theorem e_X9_packed_13 (i0 : Nat) (x1 : Int32) (y2 : Int64) (x4 : Int32) (w : XW) : q_X9_packed_13 i0 x1 y2 x4 w = (bif decide (6 ≤ x4) then (q_X9_packed_69 y2 w) else (q_X9_packed_20 i0 x1 y2 x4 w)) := (ev_eq _ _ _).trans rfl
theorem e_X9_packed_20 (i0 : Nat) (x1 : Int32) (y2 : Int64) (x4 : Int32) (w : XW) : q_X9_packed_20 i0 x1 y2 x4 w = (if x4 < 0 ∨ 6 ≤ x4.toNatClampNeg then none else (if x4 < 0 ∨ 6 ≤ x4.toNatClampNeg then none else (if x4 < 0 ∨ 6 ≤ x4.toNatClampNeg then none else (q_X9_packed_5 i0 x1 (((((((((y2 : Int64) <<< ((8 : Int32).toInt64 &&& 63)) ||| (gI w 30 i0 x4.toNatClampNeg).toInt64) : Int64) <<< ((8 : Int32).toInt64 &&& 63)) ||| (gI w 31 i0 x4.toNatClampNeg).toInt64) : Int64) <<< ((4 : Int32).toInt64 &&& 63)) ||| ((gI w 32 i0 x4.toNatClampNeg) + 2).toInt64) (x4 + 1) w)))) := (ev_eq _ _ _).trans rfl
theorem e_X9_packed_69 (y2 : Int64) (w : XW) : q_X9_packed_69 y2 w = (some (some (.inl (.long y2)), w)) := (ev_eq _ _ _).trans rfl
theorem f_X9_packed (i0 : Nat) (x1 : Int32) (w : XW) : F_X9_packed [.inr (8, i0), .inl (.int x1)] w = (q_X9_packed_0 i0 x1 w).bind pJ := rfl
