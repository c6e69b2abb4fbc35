-- WinterKeep.had(IIII)I
theorem dX11_had_0 : decode cX11_had 0 = .ok (.aload_n 0, 1) := by decide +kernel
theorem dX11_had_1 : decode cX11_had 1 = .ok (.iload_n 1, 1) := by decide +kernel
theorem dX11_had_2 : decode cX11_had 2 = .ok (.invokevirtual 145, 3) := by decide +kernel
theorem dX11_had_5 : decode cX11_had 5 = .ok (.ifCond .eq 17, 3) := by decide +kernel
theorem dX11_had_8 : decode cX11_had 8 = .ok (.aload_n 0, 1) := by decide +kernel
theorem dX11_had_9 : decode cX11_had 9 = .ok (.getfield 46, 3) := by decide +kernel
theorem dX11_had_12 : decode cX11_had 12 = .ok (.getfield 161, 3) := by decide +kernel
theorem dX11_had_15 : decode cX11_had 15 = .ok (.iload_n 1, 1) := by decide +kernel
theorem dX11_had_16 : decode cX11_had 16 = .ok (.iaload, 1) := by decide +kernel
theorem dX11_had_17 : decode cX11_had 17 = .ok (.bipush (-2), 2) := by decide +kernel
theorem dX11_had_19 : decode cX11_had 19 = .ok (.if_icmp .ne 5, 3) := by decide +kernel
theorem dX11_had_22 : decode cX11_had 22 = .ok (.iconst (-1), 1) := by decide +kernel
theorem dX11_had_23 : decode cX11_had 23 = .ok (.ireturn, 1) := by decide +kernel
theorem dX11_had_24 : decode cX11_had 24 = .ok (.iload_n 2, 1) := by decide +kernel
theorem dX11_had_25 : decode cX11_had 25 = .ok (.iconst 1, 1) := by decide +kernel
theorem dX11_had_26 : decode cX11_had 26 = .ok (.bipush 40, 2) := by decide +kernel
theorem dX11_had_28 : decode cX11_had 28 = .ok (.invokestatic 170, 3) := by decide +kernel
theorem dX11_had_31 : decode cX11_had 31 = .ok (.ifCond .eq 23, 3) := by decide +kernel
theorem dX11_had_34 : decode cX11_had 34 = .ok (.iload_n 3, 1) := by decide +kernel
theorem dX11_had_35 : decode cX11_had 35 = .ok (.iconst 0, 1) := by decide +kernel
theorem dX11_had_36 : decode cX11_had 36 = .ok (.bipush 60, 2) := by decide +kernel
theorem dX11_had_38 : decode cX11_had 38 = .ok (.invokestatic 170, 3) := by decide +kernel
theorem dX11_had_41 : decode cX11_had 41 = .ok (.ifCond .eq 13, 3) := by decide +kernel
theorem dX11_had_44 : decode cX11_had 44 = .ok (.iload 4, 2) := by decide +kernel
theorem dX11_had_46 : decode cX11_had 46 = .ok (.iconst 0, 1) := by decide +kernel
theorem dX11_had_47 : decode cX11_had 47 = .ok (.iconst 1, 1) := by decide +kernel
theorem dX11_had_48 : decode cX11_had 48 = .ok (.invokestatic 170, 3) := by decide +kernel
theorem dX11_had_51 : decode cX11_had 51 = .ok (.ifCond .ne 5, 3) := by decide +kernel
theorem dX11_had_54 : decode cX11_had 54 = .ok (.iconst (-1), 1) := by decide +kernel
theorem dX11_had_55 : decode cX11_had 55 = .ok (.ireturn, 1) := by decide +kernel
theorem dX11_had_56 : decode cX11_had 56 = .ok (.iconst 0, 1) := by decide +kernel
theorem dX11_had_57 : decode cX11_had 57 = .ok (.istore 5, 2) := by decide +kernel
theorem dX11_had_59 : decode cX11_had 59 = .ok (.bipush (-2), 2) := by decide +kernel
theorem dX11_had_61 : decode cX11_had 61 = .ok (.istore 6, 2) := by decide +kernel
theorem dX11_had_63 : decode cX11_had 63 = .ok (.iconst 0, 1) := by decide +kernel
theorem dX11_had_64 : decode cX11_had 64 = .ok (.istore 7, 2) := by decide +kernel
theorem dX11_had_66 : decode cX11_had 66 = .ok (.iload 7, 2) := by decide +kernel
theorem dX11_had_68 : decode cX11_had 68 = .ok (.aload_n 0, 1) := by decide +kernel
theorem dX11_had_69 : decode cX11_had 69 = .ok (.getfield 39, 3) := by decide +kernel
theorem dX11_had_72 : decode cX11_had 72 = .ok (.getfield 149, 3) := by decide +kernel
theorem dX11_had_75 : decode cX11_had 75 = .ok (.iload_n 1, 1) := by decide +kernel
theorem dX11_had_76 : decode cX11_had 76 = .ok (.iaload, 1) := by decide +kernel
theorem dX11_had_77 : decode cX11_had 77 = .ok (.if_icmp .gt 65, 3) := by decide +kernel
theorem dX11_had_80 : decode cX11_had 80 = .ok (.aload_n 0, 1) := by decide +kernel
theorem dX11_had_81 : decode cX11_had 81 = .ok (.invokevirtual 250, 3) := by decide +kernel
theorem dX11_had_84 : decode cX11_had 84 = .ok (.aload_n 0, 1) := by decide +kernel
theorem dX11_had_85 : decode cX11_had 85 = .ok (.getfield 50, 3) := by decide +kernel
theorem dX11_had_88 : decode cX11_had 88 = .ok (.getfield 155, 3) := by decide +kernel
theorem dX11_had_91 : decode cX11_had 91 = .ok (.iload_n 1, 1) := by decide +kernel
theorem dX11_had_92 : decode cX11_had 92 = .ok (.iload 7, 2) := by decide +kernel
theorem dX11_had_94 : decode cX11_had 94 = .ok (.iastore, 1) := by decide +kernel
theorem dX11_had_95 : decode cX11_had 95 = .ok (.aload_n 0, 1) := by decide +kernel
theorem dX11_had_96 : decode cX11_had 96 = .ok (.iload_n 1, 1) := by decide +kernel
theorem dX11_had_97 : decode cX11_had 97 = .ok (.iload_n 2, 1) := by decide +kernel
theorem dX11_had_98 : decode cX11_had 98 = .ok (.invokevirtual 285, 3) := by decide +kernel
theorem dX11_had_101 : decode cX11_had 101 = .ok (.ifCond .eq 35, 3) := by decide +kernel
theorem dX11_had_104 : decode cX11_had 104 = .ok (.aload_n 0, 1) := by decide +kernel
theorem dX11_had_105 : decode cX11_had 105 = .ok (.getfield 50, 3) := by decide +kernel
theorem dX11_had_108 : decode cX11_had 108 = .ok (.getfield 155, 3) := by decide +kernel
theorem dX11_had_111 : decode cX11_had 111 = .ok (.iload_n 1, 1) := by decide +kernel
theorem dX11_had_112 : decode cX11_had 112 = .ok (.iaload, 1) := by decide +kernel
theorem dX11_had_113 : decode cX11_had 113 = .ok (.iload_n 3, 1) := by decide +kernel
theorem dX11_had_114 : decode cX11_had 114 = .ok (.if_icmp .ne 22, 3) := by decide +kernel
theorem dX11_had_117 : decode cX11_had 117 = .ok (.iinc 5 1, 3) := by decide +kernel
theorem dX11_had_120 : decode cX11_had 120 = .ok (.iload 6, 2) := by decide +kernel
theorem dX11_had_122 : decode cX11_had 122 = .ok (.bipush (-2), 2) := by decide +kernel
theorem dX11_had_124 : decode cX11_had 124 = .ok (.if_icmp .ne 8, 3) := by decide +kernel
theorem dX11_had_127 : decode cX11_had 127 = .ok (.iload 7, 2) := by decide +kernel
theorem dX11_had_129 : decode cX11_had 129 = .ok (.goto 5, 3) := by decide +kernel
theorem dX11_had_132 : decode cX11_had 132 = .ok (.iload 6, 2) := by decide +kernel
theorem dX11_had_134 : decode cX11_had 134 = .ok (.istore 6, 2) := by decide +kernel
theorem dX11_had_136 : decode cX11_had 136 = .ok (.iinc 7 1, 3) := by decide +kernel
theorem dX11_had_139 : decode cX11_had 139 = .ok (.goto (-73), 3) := by decide +kernel
theorem dX11_had_142 : decode cX11_had 142 = .ok (.iload 4, 2) := by decide +kernel
theorem dX11_had_144 : decode cX11_had 144 = .ok (.ifCond .ne 8, 3) := by decide +kernel
theorem dX11_had_147 : decode cX11_had 147 = .ok (.iload 5, 2) := by decide +kernel
theorem dX11_had_149 : decode cX11_had 149 = .ok (.goto 5, 3) := by decide +kernel
theorem dX11_had_152 : decode cX11_had 152 = .ok (.iload 6, 2) := by decide +kernel
theorem dX11_had_154 : decode cX11_had 154 = .ok (.ireturn, 1) := by decide +kernel
noncomputable def bs_X11_had : List (Nat × XB) := [
  (0, (sq (xLA 0) (sq (xLI 1) (sq (xCI 10 2 F_X11_isKeep) (tIf1 (fun x => decide (x = 0)) 22 [false, false, false, false, false, false, false, false] 8 [true, true, true, true, true, false, false, false]))))),
  (8, (sq (xLA 0) (sq (xGS 10 8 1 0) (sq (xGS 8 32 0 0) (sq (xLI 1) (sq (xAI 32 6) (sq (xC (.int (-2))) (tIf2 (fun x y => decide (¬ x = y)) 24 [true, true, true, true, true, false, false, false] 22 [false, false, false, false, false, false, false, false])))))))),
  (22, (sq (xC (.int (-1))) tRI)),
  (24, (sq (xLI 2) (sq (xC (.int 1)) (sq (xC (.int 40)) (sq (xCI 99 3 F_X11_within) (tIf1 (fun x => decide (x = 0)) 54 [false, false, false, false, false, false, false, false] 34 [true, true, true, true, true, false, false, false])))))),
  (34, (sq (xLI 3) (sq (xC (.int 0)) (sq (xC (.int 60)) (sq (xCI 99 3 F_X11_within) (tIf1 (fun x => decide (x = 0)) 54 [false, false, false, false, false, false, false, false] 44 [true, true, true, true, true, false, false, false])))))),
  (44, (sq (xLI 4) (sq (xC (.int 0)) (sq (xC (.int 1)) (sq (xCI 99 3 F_X11_within) (tIf1 (fun x => decide (¬ x = 0)) 56 [true, true, true, true, true, false, false, false] 54 [false, false, false, false, false, false, false, false])))))),
  (54, (sq (xC (.int (-1))) tRI)),
  (56, (sq (xC (.int 0)) (sq (xSI 5) (sq (xC (.int (-2))) (sq (xSI 6) (sq (xC (.int 0)) (sq (xSI 7) (tGo 66 [true, true, true, true, true, true, true, true])))))))),
  (66, (sq (xLI 7) (sq (xLA 0) (sq (xGD 10 5 1) (sq (xGS 1 13 0 0) (sq (xLI 1) (sq (xAI 13 6) (tIf2 (fun x y => decide (y < x)) 142 [false, false, false, false, true, true, true, false] 80 [true, true, true, true, true, true, true, true])))))))),
  (80, (sq (xLA 0) (sq (xCV 10 1 F_X11_startFromNow) (sq (xLA 0) (sq (xGS 10 8 1 1) (sq (xGS 8 30 0 0) (sq (xLI 1) (sq (xLI 7) (sq (xTI 30 6 (fun x => x)) (sq (xLA 0) (sq (xLI 1) (sq (xLI 2) (sq (xCI 10 3 F_X11_staysUnburnt) (tIf1 (fun x => decide (x = 0)) 136 [true, true, true, true, true, true, true, true] 104 [true, true, true, true, true, true, true, true])))))))))))))),
  (104, (sq (xLA 0) (sq (xGS 10 8 1 1) (sq (xGS 8 30 0 0) (sq (xLI 1) (sq (xAI 30 6) (sq (xLI 3) (tIf2 (fun x y => decide (¬ x = y)) 136 [true, true, true, true, true, true, true, true] 117 [true, true, true, true, true, true, true, true])))))))),
  (117, (sq (xInc 5 1) (sq (xLI 6) (sq (xC (.int (-2))) (tIf2 (fun x y => decide (¬ x = y)) 132 [true, true, true, true, true, true, true, true] 127 [true, true, true, true, true, true, false, true]))))),
  (127, (sq (xLI 7) (tGo 134 [true, true, true, true, true, true, false, true]))),
  (132, (sq (xLI 6) (tGo 134 [true, true, true, true, true, true, false, true]))),
  (134, (sq (xSI 6) (tGo 136 [true, true, true, true, true, true, true, true]))),
  (136, (sq (xInc 7 1) (tGo 66 [true, true, true, true, true, true, true, true]))),
  (142, (sq (xLI 4) (tIf1 (fun x => decide (¬ x = 0)) 152 [false, false, false, false, false, false, true, false] 147 [false, false, false, false, false, true, false, false]))),
  (147, (sq (xLI 5) (tGo 154 [false, false, false, false, false, false, false, false]))),
  (152, (sq (xLI 6) (tGo 154 [false, false, false, false, false, false, false, false]))),
  (154, tRI)]
set_option maxRecDepth 100000 in
set_option maxHeartbeats 4000000 in
theorem s_X11_had : ∀ X : XCtx, XE X → X.2.2.1.1 = cX11_had → X.2.2.1.2.1 = 8 → X.2.2.1.2.2.1 = yX11_had.cls → X.2.2.1.2.2.2.1 = (some .int) → X.1.2.2.2.1 = { frames := 6, cells := 0, slots := 0, locals := 146 } → SndBs X bs_X11_had := by
  rintro ⟨⟨p, l, e, R, s⟩, Y, ⟨cc, nL, own, ret, Ts⟩, Z⟩ hE h1 h2 h3 h4 h5
  dsimp only at h1 h2 h3 h4 h5
  subst h1 h2 h3 h4 h5
  exact ⟨(n_sq (n_aload_n hE dX11_had_0) (n_sq (n_iload_n hE dX11_had_1) (n_sq (n_cIv hE m_X11_isKeep vc_X11_145 (show 1 + 1 ≤ 6 ∧ 8 + (2 + 11) + 22 ≤ 146 by decide) dX11_had_2) (n_ifeq hE (by decide) dX11_had_5)))),
    (n_sq (n_aload_n hE dX11_had_8) (n_sq (n_getS hE xk_10 (k := 6) rfl (by decide) rfl wt_322 dX11_had_9) (n_sq (n_getS hE xk_8 (k := 4) rfl (by decide) rfl wt_191 dX11_had_12) (n_sq (n_iload_n hE dX11_had_15) (n_sq (n_iald hE rfl (by decide) dX11_had_16) (n_sq (n_bipush hE (by decide) dX11_had_17) (n_ifcne hE (by decide) dX11_had_19))))))),
    (n_sq (n_iconst hE (by decide) dX11_had_22) (n_ireturn hE rfl dX11_had_23)),
    (n_sq (n_iload_n hE dX11_had_24) (n_sq (n_iconst hE (by decide) dX11_had_25) (n_sq (n_bipush hE (by decide) dX11_had_26) (n_sq (n_cIs hE m_X11_within vc_X11_170 (show 0 + 1 ≤ 6 ∧ 8 + (3 + 11) + 0 ≤ 146 by decide) dX11_had_28) (n_ifeq hE (by decide) dX11_had_31))))),
    (n_sq (n_iload_n hE dX11_had_34) (n_sq (n_iconst hE (by decide) dX11_had_35) (n_sq (n_bipush hE (by decide) dX11_had_36) (n_sq (n_cIs hE m_X11_within vc_X11_170 (show 0 + 1 ≤ 6 ∧ 8 + (3 + 11) + 0 ≤ 146 by decide) dX11_had_38) (n_ifeq hE (by decide) dX11_had_41))))),
    (n_sq (n_iload hE dX11_had_44) (n_sq (n_iconst hE (by decide) dX11_had_46) (n_sq (n_iconst hE (by decide) dX11_had_47) (n_sq (n_cIs hE m_X11_within vc_X11_170 (show 0 + 1 ≤ 6 ∧ 8 + (3 + 11) + 0 ≤ 146 by decide) dX11_had_48) (n_ifne hE (by decide) dX11_had_51))))),
    (n_sq (n_iconst hE (by decide) dX11_had_54) (n_ireturn hE rfl dX11_had_55)),
    (n_sq (n_iconst hE (by decide) dX11_had_56) (n_sq (n_istore hE (show (5 : Nat) < 8 by decide) dX11_had_57) (n_sq (n_bipush hE (by decide) dX11_had_59) (n_sq (n_istore hE (show (6 : Nat) < 8 by decide) dX11_had_61) (n_sq (n_iconst hE (by decide) dX11_had_63) (n_sq (n_istore hE (show (7 : Nat) < 8 by decide) dX11_had_64) n_fall)))))),
    (n_sq (n_iload hE dX11_had_66) (n_sq (n_aload_n hE dX11_had_68) (n_sq (n_getD hE xk_10 (k := 5) rfl (by decide) rfl wt_321 dX11_had_69) (n_sq (n_getS hE xk_1 (k := 6) rfl (by decide) rfl wt_122 dX11_had_72) (n_sq (n_iload_n hE dX11_had_75) (n_sq (n_iald hE rfl (by decide) dX11_had_76) (n_ifcgt hE (by decide) dX11_had_77))))))),
    (n_sq (n_aload_n hE dX11_had_80) (n_sq (n_cVv hE m_X11_startFromNow vc_X11_250 (show 2 + 1 ≤ 6 ∧ 8 + (1 + 11) + 43 ≤ 146 by decide) dX11_had_81) (n_sq (n_aload_n hE dX11_had_84) (n_sq (n_getS hE xk_10 (k := 7) rfl (by decide) rfl wt_323 dX11_had_85) (n_sq (n_getS hE xk_8 (k := 2) rfl (by decide) rfl wt_183 dX11_had_88) (n_sq (n_iload_n hE dX11_had_91) (n_sq (n_iload hE dX11_had_92) (n_sq (n_iast hE rfl (by decide) dX11_had_94) (n_sq (n_aload_n hE dX11_had_95) (n_sq (n_iload_n hE dX11_had_96) (n_sq (n_iload_n hE dX11_had_97) (n_sq (n_cIv hE m_X11_staysUnburnt vc_X11_285 (show 5 + 1 ≤ 6 ∧ 8 + (4 + 11) + 123 ≤ 146 by decide) dX11_had_98) (n_ifeq hE (by decide) dX11_had_101))))))))))))),
    (n_sq (n_aload_n hE dX11_had_104) (n_sq (n_getS hE xk_10 (k := 7) rfl (by decide) rfl wt_323 dX11_had_105) (n_sq (n_getS hE xk_8 (k := 2) rfl (by decide) rfl wt_183 dX11_had_108) (n_sq (n_iload_n hE dX11_had_111) (n_sq (n_iald hE rfl (by decide) dX11_had_112) (n_sq (n_iload_n hE dX11_had_113) (n_ifcne hE (by decide) dX11_had_114))))))),
    (n_sq (n_iinc hE (by decide) (show (5 : Nat) < 8 by decide) dX11_had_117) (n_sq (n_iload hE dX11_had_120) (n_sq (n_bipush hE (by decide) dX11_had_122) (n_ifcne hE (by decide) dX11_had_124)))),
    (n_sq (n_iload hE dX11_had_127) (n_goto hE (by decide) dX11_had_129)),
    (n_sq (n_iload hE dX11_had_132) n_fall),
    (n_sq (n_istore hE (show (6 : Nat) < 8 by decide) dX11_had_134) n_fall),
    (n_sq (n_iinc hE (by decide) (show (7 : Nat) < 8 by decide) dX11_had_136) (n_goto hE (by decide) dX11_had_139)),
    (n_sq (n_iload hE dX11_had_142) (n_ifne hE (by decide) dX11_had_144)),
    (n_sq (n_iload hE dX11_had_147) (n_goto hE (by decide) dX11_had_149)),
    (n_sq (n_iload hE dX11_had_152) n_fall),
    (n_ireturn hE rfl dX11_had_154), trivial⟩
noncomputable def F_X11_had (as : List XV) (w : XW) : Option (Int32 × XW) := (xF 8 bs_X11_had as w).bind pI
theorem m_X11_had : XM yX11_had cX11_had 8 (some .int) 6 146 (eI F_X11_had) := xm_I (xm_of (by decide) s_X11_had)
noncomputable def q_X11_had_0 (x1 : Int32) (x2 : Int32) (x3 : Int32) (x4 : Int32) (w : XW) : Option XR := ev bs_X11_had 0 ([some (.inr (10, 0)), some (.inl (.int x1)), some (.inl (.int x2)), some (.inl (.int x3)), some (.inl (.int x4)), none, none, none], [], w)
noncomputable def q_X11_had_8 (x1 : Int32) (x2 : Int32) (x3 : Int32) (x4 : Int32) (w : XW) : Option XR := ev bs_X11_had 8 ([some (.inr (10, 0)), some (.inl (.int x1)), some (.inl (.int x2)), some (.inl (.int x3)), some (.inl (.int x4)), none, none, none], [], w)
noncomputable def q_X11_had_22 (w : XW) : Option XR := ev bs_X11_had 22 ([none, none, none, none, none, none, none, none], [], w)
noncomputable def q_X11_had_24 (x1 : Int32) (x2 : Int32) (x3 : Int32) (x4 : Int32) (w : XW) : Option XR := ev bs_X11_had 24 ([some (.inr (10, 0)), some (.inl (.int x1)), some (.inl (.int x2)), some (.inl (.int x3)), some (.inl (.int x4)), none, none, none], [], w)
noncomputable def q_X11_had_34 (x1 : Int32) (x2 : Int32) (x3 : Int32) (x4 : Int32) (w : XW) : Option XR := ev bs_X11_had 34 ([some (.inr (10, 0)), some (.inl (.int x1)), some (.inl (.int x2)), some (.inl (.int x3)), some (.inl (.int x4)), none, none, none], [], w)
noncomputable def q_X11_had_44 (x1 : Int32) (x2 : Int32) (x3 : Int32) (x4 : Int32) (w : XW) : Option XR := ev bs_X11_had 44 ([some (.inr (10, 0)), some (.inl (.int x1)), some (.inl (.int x2)), some (.inl (.int x3)), some (.inl (.int x4)), none, none, none], [], w)
noncomputable def q_X11_had_54 (w : XW) : Option XR := ev bs_X11_had 54 ([none, none, none, none, none, none, none, none], [], w)
noncomputable def q_X11_had_56 (x1 : Int32) (x2 : Int32) (x3 : Int32) (x4 : Int32) (w : XW) : Option XR := ev bs_X11_had 56 ([some (.inr (10, 0)), some (.inl (.int x1)), some (.inl (.int x2)), some (.inl (.int x3)), some (.inl (.int x4)), none, none, none], [], w)
noncomputable def q_X11_had_66 (x1 : Int32) (x2 : Int32) (x3 : Int32) (x4 : Int32) (x5 : Int32) (x6 : Int32) (x7 : Int32) (w : XW) : Option XR := ev bs_X11_had 66 ([some (.inr (10, 0)), some (.inl (.int x1)), some (.inl (.int x2)), some (.inl (.int x3)), some (.inl (.int x4)), some (.inl (.int x5)), some (.inl (.int x6)), some (.inl (.int x7))], [], w)
noncomputable def q_X11_had_80 (x1 : Int32) (x2 : Int32) (x3 : Int32) (x4 : Int32) (x5 : Int32) (x6 : Int32) (x7 : Int32) (w : XW) : Option XR := ev bs_X11_had 80 ([some (.inr (10, 0)), some (.inl (.int x1)), some (.inl (.int x2)), some (.inl (.int x3)), some (.inl (.int x4)), some (.inl (.int x5)), some (.inl (.int x6)), some (.inl (.int x7))], [], w)
noncomputable def q_X11_had_104 (x1 : Int32) (x2 : Int32) (x3 : Int32) (x4 : Int32) (x5 : Int32) (x6 : Int32) (x7 : Int32) (w : XW) : Option XR := ev bs_X11_had 104 ([some (.inr (10, 0)), some (.inl (.int x1)), some (.inl (.int x2)), some (.inl (.int x3)), some (.inl (.int x4)), some (.inl (.int x5)), some (.inl (.int x6)), some (.inl (.int x7))], [], w)
noncomputable def q_X11_had_117 (x1 : Int32) (x2 : Int32) (x3 : Int32) (x4 : Int32) (x5 : Int32) (x6 : Int32) (x7 : Int32) (w : XW) : Option XR := ev bs_X11_had 117 ([some (.inr (10, 0)), some (.inl (.int x1)), some (.inl (.int x2)), some (.inl (.int x3)), some (.inl (.int x4)), some (.inl (.int x5)), some (.inl (.int x6)), some (.inl (.int x7))], [], w)
noncomputable def q_X11_had_127 (x1 : Int32) (x2 : Int32) (x3 : Int32) (x4 : Int32) (x5 : Int32) (x7 : Int32) (w : XW) : Option XR := ev bs_X11_had 127 ([some (.inr (10, 0)), some (.inl (.int x1)), some (.inl (.int x2)), some (.inl (.int x3)), some (.inl (.int x4)), some (.inl (.int x5)), none, some (.inl (.int x7))], [], w)
noncomputable def q_X11_had_132 (x1 : Int32) (x2 : Int32) (x3 : Int32) (x4 : Int32) (x5 : Int32) (x6 : Int32) (x7 : Int32) (w : XW) : Option XR := ev bs_X11_had 132 ([some (.inr (10, 0)), some (.inl (.int x1)), some (.inl (.int x2)), some (.inl (.int x3)), some (.inl (.int x4)), some (.inl (.int x5)), some (.inl (.int x6)), some (.inl (.int x7))], [], w)
noncomputable def q_X11_had_134 (x1 : Int32) (x2 : Int32) (x3 : Int32) (x4 : Int32) (x5 : Int32) (x7 : Int32) (s0 : Int32) (w : XW) : Option XR := ev bs_X11_had 134 ([some (.inr (10, 0)), some (.inl (.int x1)), some (.inl (.int x2)), some (.inl (.int x3)), some (.inl (.int x4)), some (.inl (.int x5)), none, some (.inl (.int x7))], [.inl (.int s0)], w)
noncomputable def q_X11_had_136 (x1 : Int32) (x2 : Int32) (x3 : Int32) (x4 : Int32) (x5 : Int32) (x6 : Int32) (x7 : Int32) (w : XW) : Option XR := ev bs_X11_had 136 ([some (.inr (10, 0)), some (.inl (.int x1)), some (.inl (.int x2)), some (.inl (.int x3)), some (.inl (.int x4)), some (.inl (.int x5)), some (.inl (.int x6)), some (.inl (.int x7))], [], w)
noncomputable def q_X11_had_142 (x4 : Int32) (x5 : Int32) (x6 : Int32) (w : XW) : Option XR := ev bs_X11_had 142 ([none, none, none, none, some (.inl (.int x4)), some (.inl (.int x5)), some (.inl (.int x6)), none], [], w)
noncomputable def q_X11_had_147 (x5 : Int32) (w : XW) : Option XR := ev bs_X11_had 147 ([none, none, none, none, none, some (.inl (.int x5)), none, none], [], w)
noncomputable def q_X11_had_152 (x6 : Int32) (w : XW) : Option XR := ev bs_X11_had 152 ([none, none, none, none, none, none, some (.inl (.int x6)), none], [], w)
noncomputable def q_X11_had_154 (s0 : Int32) (w : XW) : Option XR := ev bs_X11_had 154 ([none, none, none, none, none, none, none, none], [.inl (.int s0)], w)
theorem e_X11_had_0 (x1 : Int32) (x2 : Int32) (x3 : Int32) (x4 : Int32) (w : XW) : q_X11_had_0 x1 x2 x3 x4 w = ((F_X11_isKeep [.inr (10, 0), .inl (.int x1)] w).bind fun r0 => (bif decide (r0.1 = 0) then (q_X11_had_22 r0.2) else (q_X11_had_8 x1 x2 x3 x4 r0.2))) := (ev_eq _ _ _).trans rfl
theorem e_X11_had_8 (x1 : Int32) (x2 : Int32) (x3 : Int32) (x4 : Int32) (w : XW) : q_X11_had_8 x1 x2 x3 x4 w = (if x1 < 0 ∨ 6 ≤ x1.toNatClampNeg then none else (bif decide (¬ (gI w 32 0 x1.toNatClampNeg) = (-2)) then (q_X11_had_24 x1 x2 x3 x4 w) else (q_X11_had_22 w))) := (ev_eq _ _ _).trans rfl
theorem e_X11_had_22 (w : XW) : q_X11_had_22 w = (some (some (.inl (.int (-1))), w)) := (ev_eq _ _ _).trans rfl
theorem e_X11_had_24 (x1 : Int32) (x2 : Int32) (x3 : Int32) (x4 : Int32) (w : XW) : q_X11_had_24 x1 x2 x3 x4 w = ((F_X11_within [.inl (.int x2), .inl (.int 1), .inl (.int 40)] w).bind fun r0 => (bif decide (r0.1 = 0) then (q_X11_had_54 r0.2) else (q_X11_had_34 x1 x2 x3 x4 r0.2))) := (ev_eq _ _ _).trans rfl
theorem e_X11_had_34 (x1 : Int32) (x2 : Int32) (x3 : Int32) (x4 : Int32) (w : XW) : q_X11_had_34 x1 x2 x3 x4 w = ((F_X11_within [.inl (.int x3), .inl (.int 0), .inl (.int 60)] w).bind fun r0 => (bif decide (r0.1 = 0) then (q_X11_had_54 r0.2) else (q_X11_had_44 x1 x2 x3 x4 r0.2))) := (ev_eq _ _ _).trans rfl
theorem e_X11_had_44 (x1 : Int32) (x2 : Int32) (x3 : Int32) (x4 : Int32) (w : XW) : q_X11_had_44 x1 x2 x3 x4 w = ((F_X11_within [.inl (.int x4), .inl (.int 0), .inl (.int 1)] w).bind fun r0 => (bif decide (¬ r0.1 = 0) then (q_X11_had_56 x1 x2 x3 x4 r0.2) else (q_X11_had_54 r0.2))) := (ev_eq _ _ _).trans rfl
theorem e_X11_had_54 (w : XW) : q_X11_had_54 w = (some (some (.inl (.int (-1))), w)) := (ev_eq _ _ _).trans rfl
theorem e_X11_had_56 (x1 : Int32) (x2 : Int32) (x3 : Int32) (x4 : Int32) (w : XW) : q_X11_had_56 x1 x2 x3 x4 w = (q_X11_had_66 x1 x2 x3 x4 0 (-2) 0 w) := (ev_eq _ _ _).trans rfl
theorem e_X11_had_66 (x1 : Int32) (x2 : Int32) (x3 : Int32) (x4 : Int32) (x5 : Int32) (x6 : Int32) (x7 : Int32) (w : XW) : q_X11_had_66 x1 x2 x3 x4 x5 x6 x7 w = ((gR w 10 0 5).bind fun j0 => (if x1 < 0 ∨ 6 ≤ x1.toNatClampNeg then none else (bif decide ((gI w 13 j0 x1.toNatClampNeg) < x7) then (q_X11_had_142 x4 x5 x6 w) else (q_X11_had_80 x1 x2 x3 x4 x5 x6 x7 w)))) := (ev_eq _ _ _).trans rfl
theorem e_X11_had_80 (x1 : Int32) (x2 : Int32) (x3 : Int32) (x4 : Int32) (x5 : Int32) (x6 : Int32) (x7 : Int32) (w : XW) : q_X11_had_80 x1 x2 x3 x4 x5 x6 x7 w = ((F_X11_startFromNow [.inr (10, 0)] w).bind fun r0 => (if x1 < 0 ∨ 6 ≤ x1.toNatClampNeg then none else ((F_X11_staysUnburnt [.inr (10, 0), .inl (.int x1), .inl (.int x2)] (sI r0 30 1 x1.toNatClampNeg x7)).bind fun r1 => (bif decide (r1.1 = 0) then (q_X11_had_136 x1 x2 x3 x4 x5 x6 x7 r1.2) else (q_X11_had_104 x1 x2 x3 x4 x5 x6 x7 r1.2))))) := (ev_eq _ _ _).trans rfl
theorem e_X11_had_104 (x1 : Int32) (x2 : Int32) (x3 : Int32) (x4 : Int32) (x5 : Int32) (x6 : Int32) (x7 : Int32) (w : XW) : q_X11_had_104 x1 x2 x3 x4 x5 x6 x7 w = (if x1 < 0 ∨ 6 ≤ x1.toNatClampNeg then none else (bif decide (¬ (gI w 30 1 x1.toNatClampNeg) = x3) then (q_X11_had_136 x1 x2 x3 x4 x5 x6 x7 w) else (q_X11_had_117 x1 x2 x3 x4 x5 x6 x7 w))) := (ev_eq _ _ _).trans rfl
theorem e_X11_had_117 (x1 : Int32) (x2 : Int32) (x3 : Int32) (x4 : Int32) (x5 : Int32) (x6 : Int32) (x7 : Int32) (w : XW) : q_X11_had_117 x1 x2 x3 x4 x5 x6 x7 w = (bif decide (¬ x6 = (-2)) then (q_X11_had_132 x1 x2 x3 x4 (x5 + 1) x6 x7 w) else (q_X11_had_127 x1 x2 x3 x4 (x5 + 1) x7 w)) := (ev_eq _ _ _).trans rfl
theorem e_X11_had_127 (x1 : Int32) (x2 : Int32) (x3 : Int32) (x4 : Int32) (x5 : Int32) (x7 : Int32) (w : XW) : q_X11_had_127 x1 x2 x3 x4 x5 x7 w = (q_X11_had_134 x1 x2 x3 x4 x5 x7 x7 w) := (ev_eq _ _ _).trans rfl
theorem e_X11_had_132 (x1 : Int32) (x2 : Int32) (x3 : Int32) (x4 : Int32) (x5 : Int32) (x6 : Int32) (x7 : Int32) (w : XW) : q_X11_had_132 x1 x2 x3 x4 x5 x6 x7 w = (q_X11_had_134 x1 x2 x3 x4 x5 x7 x6 w) := (ev_eq _ _ _).trans rfl
theorem e_X11_had_134 (x1 : Int32) (x2 : Int32) (x3 : Int32) (x4 : Int32) (x5 : Int32) (x7 : Int32) (s0 : Int32) (w : XW) : q_X11_had_134 x1 x2 x3 x4 x5 x7 s0 w = (q_X11_had_136 x1 x2 x3 x4 x5 s0 x7 w) := (ev_eq _ _ _).trans rfl
theorem e_X11_had_136 (x1 : Int32) (x2 : Int32) (x3 : Int32) (x4 : Int32) (x5 : Int32) (x6 : Int32) (x7 : Int32) (w : XW) : q_X11_had_136 x1 x2 x3 x4 x5 x6 x7 w = (q_X11_had_66 x1 x2 x3 x4 x5 x6 (x7 + 1) w) := (ev_eq _ _ _).trans rfl
theorem e_X11_had_142 (x4 : Int32) (x5 : Int32) (x6 : Int32) (w : XW) : q_X11_had_142 x4 x5 x6 w = (bif decide (¬ x4 = 0) then (q_X11_had_152 x6 w) else (q_X11_had_147 x5 w)) := (ev_eq _ _ _).trans rfl
theorem e_X11_had_147 (x5 : Int32) (w : XW) : q_X11_had_147 x5 w = (q_X11_had_154 x5 w) := (ev_eq _ _ _).trans rfl
theorem e_X11_had_152 (x6 : Int32) (w : XW) : q_X11_had_152 x6 w = (q_X11_had_154 x6 w) := (ev_eq _ _ _).trans rfl
theorem e_X11_had_154 (s0 : Int32) (w : XW) : q_X11_had_154 s0 w = (some (some (.inl (.int s0)), w)) := (ev_eq _ _ _).trans rfl
theorem f_X11_had (x1 : Int32) (x2 : Int32) (x3 : Int32) (x4 : Int32) (w : XW) : F_X11_had [.inr (10, 0), .inl (.int x1), .inl (.int x2), .inl (.int x3), .inl (.int x4)] w = (q_X11_had_0 x1 x2 x3 x4 w).bind pI := rfl

-- WinterKeep.payOf(I)I
theorem dX11_payOf_0 : decode cX11_payOf 0 = .ok (.aload_n 0, 1) := by decide +kernel
theorem dX11_payOf_1 : decode cX11_payOf 1 = .ok (.getfield 50, 3) := by decide +kernel
theorem dX11_payOf_4 : decode cX11_payOf 4 = .ok (.getfield 161, 3) := by decide +kernel
theorem dX11_payOf_7 : decode cX11_payOf 7 = .ok (.iload_n 1, 1) := by decide +kernel
theorem dX11_payOf_8 : decode cX11_payOf 8 = .ok (.iaload, 1) := by decide +kernel
theorem dX11_payOf_9 : decode cX11_payOf 9 = .ok (.bipush (-2), 2) := by decide +kernel
theorem dX11_payOf_11 : decode cX11_payOf 11 = .ok (.if_icmp .ne 18, 3) := by decide +kernel
theorem dX11_payOf_14 : decode cX11_payOf 14 = .ok (.aload_n 0, 1) := by decide +kernel
theorem dX11_payOf_15 : decode cX11_payOf 15 = .ok (.getfield 50, 3) := by decide +kernel
theorem dX11_payOf_18 : decode cX11_payOf 18 = .ok (.getfield 155, 3) := by decide +kernel
theorem dX11_payOf_21 : decode cX11_payOf 21 = .ok (.iload_n 1, 1) := by decide +kernel
theorem dX11_payOf_22 : decode cX11_payOf 22 = .ok (.iaload, 1) := by decide +kernel
theorem dX11_payOf_23 : decode cX11_payOf 23 = .ok (.bipush 20, 2) := by decide +kernel
theorem dX11_payOf_25 : decode cX11_payOf 25 = .ok (.isub, 1) := by decide +kernel
theorem dX11_payOf_26 : decode cX11_payOf 26 = .ok (.goto 12, 3) := by decide +kernel
theorem dX11_payOf_29 : decode cX11_payOf 29 = .ok (.aload_n 0, 1) := by decide +kernel
theorem dX11_payOf_30 : decode cX11_payOf 30 = .ok (.getfield 50, 3) := by decide +kernel
theorem dX11_payOf_33 : decode cX11_payOf 33 = .ok (.getfield 155, 3) := by decide +kernel
theorem dX11_payOf_36 : decode cX11_payOf 36 = .ok (.iload_n 1, 1) := by decide +kernel
theorem dX11_payOf_37 : decode cX11_payOf 37 = .ok (.iaload, 1) := by decide +kernel
theorem dX11_payOf_38 : decode cX11_payOf 38 = .ok (.ireturn, 1) := by decide +kernel
noncomputable def bs_X11_payOf : List (Nat × XB) := [
  (0, (sq (xLA 0) (sq (xGS 10 8 1 1) (sq (xGS 8 32 0 0) (sq (xLI 1) (sq (xAI 32 6) (sq (xC (.int (-2))) (tIf2 (fun x y => decide (¬ x = y)) 29 [true, true] 14 [true, true])))))))),
  (14, (sq (xLA 0) (sq (xGS 10 8 1 1) (sq (xGS 8 30 0 0) (sq (xLI 1) (sq (xAI 30 6) (sq (xC (.int 20)) (sq (xI2 (· - ·)) (tGo 38 [false, false]))))))))),
  (29, (sq (xLA 0) (sq (xGS 10 8 1 1) (sq (xGS 8 30 0 0) (sq (xLI 1) (sq (xAI 30 6) (tGo 38 [false, false]))))))),
  (38, tRI)]
set_option maxRecDepth 100000 in
set_option maxHeartbeats 4000000 in
theorem s_X11_payOf : ∀ X : XCtx, XE X → X.2.2.1.1 = cX11_payOf → X.2.2.1.2.1 = 2 → X.2.2.1.2.2.1 = yX11_payOf.cls → X.2.2.1.2.2.2.1 = (some .int) → X.1.2.2.2.1 = { frames := 0, cells := 0, slots := 0, locals := 0 } → SndBs X bs_X11_payOf := by
  rintro ⟨⟨p, l, e, R, s⟩, Y, ⟨cc, nL, own, ret, Ts⟩, Z⟩ hE h1 h2 h3 h4 h5
  dsimp only at h1 h2 h3 h4 h5
  subst h1 h2 h3 h4 h5
  exact ⟨(n_sq (n_aload_n hE dX11_payOf_0) (n_sq (n_getS hE xk_10 (k := 7) rfl (by decide) rfl wt_323 dX11_payOf_1) (n_sq (n_getS hE xk_8 (k := 4) rfl (by decide) rfl wt_191 dX11_payOf_4) (n_sq (n_iload_n hE dX11_payOf_7) (n_sq (n_iald hE rfl (by decide) dX11_payOf_8) (n_sq (n_bipush hE (by decide) dX11_payOf_9) (n_ifcne hE (by decide) dX11_payOf_11))))))),
    (n_sq (n_aload_n hE dX11_payOf_14) (n_sq (n_getS hE xk_10 (k := 7) rfl (by decide) rfl wt_323 dX11_payOf_15) (n_sq (n_getS hE xk_8 (k := 2) rfl (by decide) rfl wt_183 dX11_payOf_18) (n_sq (n_iload_n hE dX11_payOf_21) (n_sq (n_iald hE rfl (by decide) dX11_payOf_22) (n_sq (n_bipush hE (by decide) dX11_payOf_23) (n_sq (n_isub hE dX11_payOf_25) (n_goto hE (by decide) dX11_payOf_26)))))))),
    (n_sq (n_aload_n hE dX11_payOf_29) (n_sq (n_getS hE xk_10 (k := 7) rfl (by decide) rfl wt_323 dX11_payOf_30) (n_sq (n_getS hE xk_8 (k := 2) rfl (by decide) rfl wt_183 dX11_payOf_33) (n_sq (n_iload_n hE dX11_payOf_36) (n_sq (n_iald hE rfl (by decide) dX11_payOf_37) n_fall))))),
    (n_ireturn hE rfl dX11_payOf_38), trivial⟩
noncomputable def F_X11_payOf (as : List XV) (w : XW) : Option (Int32 × XW) := (xF 2 bs_X11_payOf as w).bind pI
theorem m_X11_payOf : XM yX11_payOf cX11_payOf 2 (some .int) 0 0 (eI F_X11_payOf) := xm_I (xm_of (by decide) s_X11_payOf)
noncomputable def q_X11_payOf_0 (x1 : Int32) (w : XW) : Option XR := ev bs_X11_payOf 0 ([some (.inr (10, 0)), some (.inl (.int x1))], [], w)
noncomputable def q_X11_payOf_14 (x1 : Int32) (w : XW) : Option XR := ev bs_X11_payOf 14 ([some (.inr (10, 0)), some (.inl (.int x1))], [], w)
noncomputable def q_X11_payOf_29 (x1 : Int32) (w : XW) : Option XR := ev bs_X11_payOf 29 ([some (.inr (10, 0)), some (.inl (.int x1))], [], w)
noncomputable def q_X11_payOf_38 (s0 : Int32) (w : XW) : Option XR := ev bs_X11_payOf 38 ([none, none], [.inl (.int s0)], w)
theorem e_X11_payOf_0 (x1 : Int32) (w : XW) : q_X11_payOf_0 x1 w = (if x1 < 0 ∨ 6 ≤ x1.toNatClampNeg then none else (bif decide (¬ (gI w 32 1 x1.toNatClampNeg) = (-2)) then (q_X11_payOf_29 x1 w) else (q_X11_payOf_14 x1 w))) := (ev_eq _ _ _).trans rfl
theorem e_X11_payOf_14 (x1 : Int32) (w : XW) : q_X11_payOf_14 x1 w = (if x1 < 0 ∨ 6 ≤ x1.toNatClampNeg then none else (q_X11_payOf_38 ((gI w 30 1 x1.toNatClampNeg) - 20) w)) := (ev_eq _ _ _).trans rfl
theorem e_X11_payOf_29 (x1 : Int32) (w : XW) : q_X11_payOf_29 x1 w = (if x1 < 0 ∨ 6 ≤ x1.toNatClampNeg then none else (q_X11_payOf_38 (gI w 30 1 x1.toNatClampNeg) w)) := (ev_eq _ _ _).trans rfl
theorem e_X11_payOf_38 (s0 : Int32) (w : XW) : q_X11_payOf_38 s0 w = (some (some (.inl (.int s0)), w)) := (ev_eq _ _ _).trans rfl
theorem f_X11_payOf (x1 : Int32) (w : XW) : F_X11_payOf [.inr (10, 0), .inl (.int x1)] w = (q_X11_payOf_0 x1 w).bind pI := rfl

-- WinterKeep.fillPays(III)V
theorem dX11_fillPays_0 : decode cX11_fillPays 0 = .ok (.iconst 0, 1) := by decide +kernel
theorem dX11_fillPays_1 : decode cX11_fillPays 1 = .ok (.istore 4, 2) := by decide +kernel
theorem dX11_fillPays_3 : decode cX11_fillPays 3 = .ok (.iload 4, 2) := by decide +kernel
theorem dX11_fillPays_5 : decode cX11_fillPays 5 = .ok (.bipush 16, 2) := by decide +kernel
theorem dX11_fillPays_7 : decode cX11_fillPays 7 = .ok (.if_icmp .ge 89, 3) := by decide +kernel
theorem dX11_fillPays_10 : decode cX11_fillPays 10 = .ok (.aload_n 0, 1) := by decide +kernel
theorem dX11_fillPays_11 : decode cX11_fillPays 11 = .ok (.invokevirtual 250, 3) := by decide +kernel
theorem dX11_fillPays_14 : decode cX11_fillPays 14 = .ok (.aload_n 0, 1) := by decide +kernel
theorem dX11_fillPays_15 : decode cX11_fillPays 15 = .ok (.getfield 56, 3) := by decide +kernel
theorem dX11_fillPays_18 : decode cX11_fillPays 18 = .ok (.iload_n 1, 1) := by decide +kernel
theorem dX11_fillPays_19 : decode cX11_fillPays 19 = .ok (.iload 4, 2) := by decide +kernel
theorem dX11_fillPays_21 : decode cX11_fillPays 21 = .ok (.iconst 4, 1) := by decide +kernel
theorem dX11_fillPays_22 : decode cX11_fillPays 22 = .ok (.idiv, 1) := by decide +kernel
theorem dX11_fillPays_23 : decode cX11_fillPays 23 = .ok (.iconst 3, 1) := by decide +kernel
theorem dX11_fillPays_24 : decode cX11_fillPays 24 = .ok (.imul, 1) := by decide +kernel
theorem dX11_fillPays_25 : decode cX11_fillPays 25 = .ok (.invokevirtual 281, 3) := by decide +kernel
theorem dX11_fillPays_28 : decode cX11_fillPays 28 = .ok (.aload_n 0, 1) := by decide +kernel
theorem dX11_fillPays_29 : decode cX11_fillPays 29 = .ok (.getfield 56, 3) := by decide +kernel
theorem dX11_fillPays_32 : decode cX11_fillPays 32 = .ok (.iload_n 2, 1) := by decide +kernel
theorem dX11_fillPays_33 : decode cX11_fillPays 33 = .ok (.iload 4, 2) := by decide +kernel
theorem dX11_fillPays_35 : decode cX11_fillPays 35 = .ok (.iconst 4, 1) := by decide +kernel
theorem dX11_fillPays_36 : decode cX11_fillPays 36 = .ok (.irem, 1) := by decide +kernel
theorem dX11_fillPays_37 : decode cX11_fillPays 37 = .ok (.iconst 3, 1) := by decide +kernel
theorem dX11_fillPays_38 : decode cX11_fillPays 38 = .ok (.imul, 1) := by decide +kernel
theorem dX11_fillPays_39 : decode cX11_fillPays 39 = .ok (.invokevirtual 281, 3) := by decide +kernel
theorem dX11_fillPays_42 : decode cX11_fillPays 42 = .ok (.aload_n 0, 1) := by decide +kernel
theorem dX11_fillPays_43 : decode cX11_fillPays 43 = .ok (.iload_n 3, 1) := by decide +kernel
theorem dX11_fillPays_44 : decode cX11_fillPays 44 = .ok (.invokevirtual 253, 3) := by decide +kernel
theorem dX11_fillPays_47 : decode cX11_fillPays 47 = .ok (.aload_n 0, 1) := by decide +kernel
theorem dX11_fillPays_48 : decode cX11_fillPays 48 = .ok (.getfield 104, 3) := by decide +kernel
theorem dX11_fillPays_51 : decode cX11_fillPays 51 = .ok (.iload 4, 2) := by decide +kernel
theorem dX11_fillPays_53 : decode cX11_fillPays 53 = .ok (.aload_n 0, 1) := by decide +kernel
theorem dX11_fillPays_54 : decode cX11_fillPays 54 = .ok (.aload_n 0, 1) := by decide +kernel
theorem dX11_fillPays_55 : decode cX11_fillPays 55 = .ok (.getfield 39, 3) := by decide +kernel
theorem dX11_fillPays_58 : decode cX11_fillPays 58 = .ok (.getfield 174, 3) := by decide +kernel
theorem dX11_fillPays_61 : decode cX11_fillPays 61 = .ok (.iload_n 1, 1) := by decide +kernel
theorem dX11_fillPays_62 : decode cX11_fillPays 62 = .ok (.iaload, 1) := by decide +kernel
theorem dX11_fillPays_63 : decode cX11_fillPays 63 = .ok (.invokevirtual 296, 3) := by decide +kernel
theorem dX11_fillPays_66 : decode cX11_fillPays 66 = .ok (.iastore, 1) := by decide +kernel
theorem dX11_fillPays_67 : decode cX11_fillPays 67 = .ok (.aload_n 0, 1) := by decide +kernel
theorem dX11_fillPays_68 : decode cX11_fillPays 68 = .ok (.getfield 104, 3) := by decide +kernel
theorem dX11_fillPays_71 : decode cX11_fillPays 71 = .ok (.bipush 16, 2) := by decide +kernel
theorem dX11_fillPays_73 : decode cX11_fillPays 73 = .ok (.iload 4, 2) := by decide +kernel
theorem dX11_fillPays_75 : decode cX11_fillPays 75 = .ok (.iadd, 1) := by decide +kernel
theorem dX11_fillPays_76 : decode cX11_fillPays 76 = .ok (.aload_n 0, 1) := by decide +kernel
theorem dX11_fillPays_77 : decode cX11_fillPays 77 = .ok (.aload_n 0, 1) := by decide +kernel
theorem dX11_fillPays_78 : decode cX11_fillPays 78 = .ok (.getfield 39, 3) := by decide +kernel
theorem dX11_fillPays_81 : decode cX11_fillPays 81 = .ok (.getfield 174, 3) := by decide +kernel
theorem dX11_fillPays_84 : decode cX11_fillPays 84 = .ok (.iload_n 2, 1) := by decide +kernel
theorem dX11_fillPays_85 : decode cX11_fillPays 85 = .ok (.iaload, 1) := by decide +kernel
theorem dX11_fillPays_86 : decode cX11_fillPays 86 = .ok (.invokevirtual 296, 3) := by decide +kernel
theorem dX11_fillPays_89 : decode cX11_fillPays 89 = .ok (.iastore, 1) := by decide +kernel
theorem dX11_fillPays_90 : decode cX11_fillPays 90 = .ok (.iinc 4 1, 3) := by decide +kernel
theorem dX11_fillPays_93 : decode cX11_fillPays 93 = .ok (.goto (-90), 3) := by decide +kernel
theorem dX11_fillPays_96 : decode cX11_fillPays 96 = .ok (.return_, 1) := by decide +kernel
theorem vc_X11_296 : XVw RX11 296 1 10 2 yX11_payOf cX11_payOf (some .int) := ⟨RX11, TX11, tyX11, 20, xk_10, rfl, ⟨by decide, by decide⟩, by decide +kernel, wt_860, wt_862, ws_30, wt_1, wt_863⟩
noncomputable def bs_X11_fillPays : List (Nat × XB) := [
  (0, (sq (xC (.int 0)) (sq (xSI 4) (tGo 3 [true, true, true, true, true])))),
  (3, (sq (xLI 4) (sq (xC (.int 16)) (tIf2 (fun x y => decide (y ≤ x)) 96 [false, false, false, false, false] 10 [true, true, true, true, true])))),
  (10, (sq (xLA 0) (sq (xCV 10 1 F_X11_startFromNow) (sq (xLA 0) (sq (xGS 10 3 1 0) (sq (xLI 1) (sq (xLI 4) (sq (xC (.int 4)) (sq (xI2z (· / ·)) (sq (xC (.int 3)) (sq (xI2 (· * ·)) (sq (xCV 3 3 F_X4_nowTells) (sq (xLA 0) (sq (xGS 10 3 1 0) (sq (xLI 2) (sq (xLI 4) (sq (xC (.int 4)) (sq (xI2z (fun x y => x - x / y * y)) (sq (xC (.int 3)) (sq (xI2 (· * ·)) (sq (xCV 3 3 F_X4_nowTells) (sq (xLA 0) (sq (xLI 3) (sq (xCV 10 2 F_X11_goOn) (sq (xLA 0) (sq (xGS 10 39 1 0) (sq (xLI 4) (sq (xLA 0) (sq (xLA 0) (sq (xGD 10 5 1) (sq (xGS 1 16 0 0) (sq (xLI 1) (sq (xAI 16 5) (sq (xCI 10 2 F_X11_payOf) (sq (xTI 39 32 (fun x => x)) (sq (xLA 0) (sq (xGS 10 39 1 0) (sq (xC (.int 16)) (sq (xLI 4) (sq (xI2 (· + ·)) (sq (xLA 0) (sq (xLA 0) (sq (xGD 10 5 1) (sq (xGS 1 16 0 0) (sq (xLI 2) (sq (xAI 16 5) (sq (xCI 10 2 F_X11_payOf) (sq (xTI 39 32 (fun x => x)) (sq (xInc 4 1) (tGo 3 [true, true, true, true, true])))))))))))))))))))))))))))))))))))))))))))))))))),
  (96, tRV)]
set_option maxRecDepth 100000 in
set_option maxHeartbeats 4000000 in
theorem s_X11_fillPays : ∀ X : XCtx, XE X → X.2.2.1.1 = cX11_fillPays → X.2.2.1.2.1 = 5 → X.2.2.1.2.2.1 = yX11_fillPays.cls → X.2.2.1.2.2.2.1 = none → X.1.2.2.2.1 = { frames := 6, cells := 0, slots := 0, locals := 145 } → SndBs X bs_X11_fillPays := by
  rintro ⟨⟨p, l, e, R, s⟩, Y, ⟨cc, nL, own, ret, Ts⟩, Z⟩ hE h1 h2 h3 h4 h5
  dsimp only at h1 h2 h3 h4 h5
  subst h1 h2 h3 h4 h5
  exact ⟨(n_sq (n_iconst hE (by decide) dX11_fillPays_0) (n_sq (n_istore hE (show (4 : Nat) < 5 by decide) dX11_fillPays_1) n_fall)),
    (n_sq (n_iload hE dX11_fillPays_3) (n_sq (n_bipush hE (by decide) dX11_fillPays_5) (n_ifcge hE (by decide) dX11_fillPays_7))),
    (n_sq (n_aload_n hE dX11_fillPays_10) (n_sq (n_cVv hE m_X11_startFromNow vc_X11_250 (show 2 + 1 ≤ 6 ∧ 8 + (1 + 11) + 43 ≤ 145 by decide) dX11_fillPays_11) (n_sq (n_aload_n hE dX11_fillPays_14) (n_sq (n_getS hE xk_10 (k := 8) rfl (by decide) rfl wt_324 dX11_fillPays_15) (n_sq (n_iload_n hE dX11_fillPays_18) (n_sq (n_iload hE dX11_fillPays_19) (n_sq (n_iconst hE (by decide) dX11_fillPays_21) (n_sq (n_idiv hE dX11_fillPays_22) (n_sq (n_iconst hE (by decide) dX11_fillPays_23) (n_sq (n_imul hE dX11_fillPays_24) (n_sq (n_cVv hE m_X4_nowTells vc_X11_281 (show 0 + 1 ≤ 6 ∧ 8 + (3 + 11) + 0 ≤ 145 by decide) dX11_fillPays_25) (n_sq (n_aload_n hE dX11_fillPays_28) (n_sq (n_getS hE xk_10 (k := 8) rfl (by decide) rfl wt_324 dX11_fillPays_29) (n_sq (n_iload_n hE dX11_fillPays_32) (n_sq (n_iload hE dX11_fillPays_33) (n_sq (n_iconst hE (by decide) dX11_fillPays_35) (n_sq (n_irem hE dX11_fillPays_36) (n_sq (n_iconst hE (by decide) dX11_fillPays_37) (n_sq (n_imul hE dX11_fillPays_38) (n_sq (n_cVv hE m_X4_nowTells vc_X11_281 (show 0 + 1 ≤ 6 ∧ 8 + (3 + 11) + 0 ≤ 145 by decide) dX11_fillPays_39) (n_sq (n_aload_n hE dX11_fillPays_42) (n_sq (n_iload_n hE dX11_fillPays_43) (n_sq (n_cVv hE m_X11_goOn vc_X11_253 (show 5 + 1 ≤ 6 ∧ 8 + (3 + 11) + 123 ≤ 145 by decide) dX11_fillPays_44) (n_sq (n_aload_n hE dX11_fillPays_47) (n_sq (n_getS hE xk_10 (k := 18) rfl (by decide) rfl wt_334 dX11_fillPays_48) (n_sq (n_iload hE dX11_fillPays_51) (n_sq (n_aload_n hE dX11_fillPays_53) (n_sq (n_aload_n hE dX11_fillPays_54) (n_sq (n_getD hE xk_10 (k := 5) rfl (by decide) rfl wt_321 dX11_fillPays_55) (n_sq (n_getS hE xk_1 (k := 9) rfl (by decide) rfl wt_133 dX11_fillPays_58) (n_sq (n_iload_n hE dX11_fillPays_61) (n_sq (n_iald hE rfl (by decide) dX11_fillPays_62) (n_sq (n_cIv hE m_X11_payOf vc_X11_296 (show 0 + 1 ≤ 6 ∧ 8 + (2 + 11) + 0 ≤ 145 by decide) dX11_fillPays_63) (n_sq (n_iast hE rfl (by decide) dX11_fillPays_66) (n_sq (n_aload_n hE dX11_fillPays_67) (n_sq (n_getS hE xk_10 (k := 18) rfl (by decide) rfl wt_334 dX11_fillPays_68) (n_sq (n_bipush hE (by decide) dX11_fillPays_71) (n_sq (n_iload hE dX11_fillPays_73) (n_sq (n_iadd hE dX11_fillPays_75) (n_sq (n_aload_n hE dX11_fillPays_76) (n_sq (n_aload_n hE dX11_fillPays_77) (n_sq (n_getD hE xk_10 (k := 5) rfl (by decide) rfl wt_321 dX11_fillPays_78) (n_sq (n_getS hE xk_1 (k := 9) rfl (by decide) rfl wt_133 dX11_fillPays_81) (n_sq (n_iload_n hE dX11_fillPays_84) (n_sq (n_iald hE rfl (by decide) dX11_fillPays_85) (n_sq (n_cIv hE m_X11_payOf vc_X11_296 (show 0 + 1 ≤ 6 ∧ 8 + (2 + 11) + 0 ≤ 145 by decide) dX11_fillPays_86) (n_sq (n_iast hE rfl (by decide) dX11_fillPays_89) (n_sq (n_iinc hE (by decide) (show (4 : Nat) < 5 by decide) dX11_fillPays_90) (n_goto hE (by decide) dX11_fillPays_93))))))))))))))))))))))))))))))))))))))))))))))))),
    (n_vreturn hE rfl dX11_fillPays_96), trivial⟩
noncomputable def F_X11_fillPays (as : List XV) (w : XW) : Option XW := (xF 5 bs_X11_fillPays as w).bind pV
theorem m_X11_fillPays : XM yX11_fillPays cX11_fillPays 5 none 6 145 (eV F_X11_fillPays) := xm_V (xm_of (by decide) s_X11_fillPays)
noncomputable def q_X11_fillPays_0 (x1 : Int32) (x2 : Int32) (x3 : Int32) (w : XW) : Option XR := ev bs_X11_fillPays 0 ([some (.inr (10, 0)), some (.inl (.int x1)), some (.inl (.int x2)), some (.inl (.int x3)), none], [], w)
noncomputable def q_X11_fillPays_3 (x1 : Int32) (x2 : Int32) (x3 : Int32) (x4 : Int32) (w : XW) : Option XR := ev bs_X11_fillPays 3 ([some (.inr (10, 0)), some (.inl (.int x1)), some (.inl (.int x2)), some (.inl (.int x3)), some (.inl (.int x4))], [], w)
noncomputable def q_X11_fillPays_10 (x1 : Int32) (x2 : Int32) (x3 : Int32) (x4 : Int32) (w : XW) : Option XR := ev bs_X11_fillPays 10 ([some (.inr (10, 0)), some (.inl (.int x1)), some (.inl (.int x2)), some (.inl (.int x3)), some (.inl (.int x4))], [], w)
noncomputable def q_X11_fillPays_96 (w : XW) : Option XR := ev bs_X11_fillPays 96 ([none, none, none, none, none], [], w)
theorem e_X11_fillPays_0 (x1 : Int32) (x2 : Int32) (x3 : Int32) (w : XW) : q_X11_fillPays_0 x1 x2 x3 w = (q_X11_fillPays_3 x1 x2 x3 0 w) := (ev_eq _ _ _).trans rfl
theorem e_X11_fillPays_3 (x1 : Int32) (x2 : Int32) (x3 : Int32) (x4 : Int32) (w : XW) : q_X11_fillPays_3 x1 x2 x3 x4 w = (bif decide (16 ≤ x4) then (q_X11_fillPays_96 w) else (q_X11_fillPays_10 x1 x2 x3 x4 w)) := (ev_eq _ _ _).trans rfl
theorem e_X11_fillPays_10 (x1 : Int32) (x2 : Int32) (x3 : Int32) (x4 : Int32) (w : XW) : q_X11_fillPays_10 x1 x2 x3 x4 w = ((F_X11_startFromNow [.inr (10, 0)] w).bind fun r0 => ((F_X4_nowTells [.inr (3, 0), .inl (.int x1), .inl (.int ((x4 / 4) * 3))] r0).bind fun r1 => ((F_X4_nowTells [.inr (3, 0), .inl (.int x2), .inl (.int ((x4 - x4 / 4 * 4) * 3))] r1).bind fun r2 => ((F_X11_goOn [.inr (10, 0), .inl (.int x3)] r2).bind fun r3 => ((gR r3 10 0 5).bind fun j4 => (if x1 < 0 ∨ 5 ≤ x1.toNatClampNeg then none else ((F_X11_payOf [.inr (10, 0), .inl (.int (gI r3 16 j4 x1.toNatClampNeg))] r3).bind fun r5 => (if x4 < 0 ∨ 32 ≤ x4.toNatClampNeg then none else ((gR (sI r5.2 39 0 x4.toNatClampNeg r5.1) 10 0 5).bind fun j6 => (if x2 < 0 ∨ 5 ≤ x2.toNatClampNeg then none else ((F_X11_payOf [.inr (10, 0), .inl (.int (gI (sI r5.2 39 0 x4.toNatClampNeg r5.1) 16 j6 x2.toNatClampNeg))] (sI r5.2 39 0 x4.toNatClampNeg r5.1)).bind fun r7 => (if (16 + x4) < 0 ∨ 32 ≤ (16 + x4).toNatClampNeg then none else (q_X11_fillPays_3 x1 x2 x3 (x4 + 1) (sI r7.2 39 0 ((16 + x4).toNatClampNeg) r7.1)))))))))))))) := (ev_eq _ _ _).trans rfl
theorem e_X11_fillPays_96 (w : XW) : q_X11_fillPays_96 w = (some (none, w)) := (ev_eq _ _ _).trans rfl
theorem f_X11_fillPays (x1 : Int32) (x2 : Int32) (x3 : Int32) (w : XW) : F_X11_fillPays [.inr (10, 0), .inl (.int x1), .inl (.int x2), .inl (.int x3)] w = (q_X11_fillPays_0 x1 x2 x3 w).bind pV := rfl

-- WinterKeep.isRest(I)Z
theorem dX11_isRest_0 : decode cX11_isRest 0 = .ok (.iload_n 1, 1) := by decide +kernel
theorem dX11_isRest_1 : decode cX11_isRest 1 = .ok (.iconst 4, 1) := by decide +kernel
theorem dX11_isRest_2 : decode cX11_isRest 2 = .ok (.idiv, 1) := by decide +kernel
theorem dX11_isRest_3 : decode cX11_isRest 3 = .ok (.istore_n 2, 1) := by decide +kernel
theorem dX11_isRest_4 : decode cX11_isRest 4 = .ok (.iload_n 1, 1) := by decide +kernel
theorem dX11_isRest_5 : decode cX11_isRest 5 = .ok (.iconst 4, 1) := by decide +kernel
theorem dX11_isRest_6 : decode cX11_isRest 6 = .ok (.irem, 1) := by decide +kernel
theorem dX11_isRest_7 : decode cX11_isRest 7 = .ok (.istore_n 3, 1) := by decide +kernel
theorem dX11_isRest_8 : decode cX11_isRest 8 = .ok (.iconst 0, 1) := by decide +kernel
theorem dX11_isRest_9 : decode cX11_isRest 9 = .ok (.istore 4, 2) := by decide +kernel
theorem dX11_isRest_11 : decode cX11_isRest 11 = .ok (.iload 4, 2) := by decide +kernel
theorem dX11_isRest_13 : decode cX11_isRest 13 = .ok (.iconst 4, 1) := by decide +kernel
theorem dX11_isRest_14 : decode cX11_isRest 14 = .ok (.if_icmp .ge 57, 3) := by decide +kernel
theorem dX11_isRest_17 : decode cX11_isRest 17 = .ok (.aload_n 0, 1) := by decide +kernel
theorem dX11_isRest_18 : decode cX11_isRest 18 = .ok (.getfield 104, 3) := by decide +kernel
theorem dX11_isRest_21 : decode cX11_isRest 21 = .ok (.iload 4, 2) := by decide +kernel
theorem dX11_isRest_23 : decode cX11_isRest 23 = .ok (.iconst 4, 1) := by decide +kernel
theorem dX11_isRest_24 : decode cX11_isRest 24 = .ok (.imul, 1) := by decide +kernel
theorem dX11_isRest_25 : decode cX11_isRest 25 = .ok (.iload_n 3, 1) := by decide +kernel
theorem dX11_isRest_26 : decode cX11_isRest 26 = .ok (.iadd, 1) := by decide +kernel
theorem dX11_isRest_27 : decode cX11_isRest 27 = .ok (.iaload, 1) := by decide +kernel
theorem dX11_isRest_28 : decode cX11_isRest 28 = .ok (.aload_n 0, 1) := by decide +kernel
theorem dX11_isRest_29 : decode cX11_isRest 29 = .ok (.getfield 104, 3) := by decide +kernel
theorem dX11_isRest_32 : decode cX11_isRest 32 = .ok (.iload_n 1, 1) := by decide +kernel
theorem dX11_isRest_33 : decode cX11_isRest 33 = .ok (.iaload, 1) := by decide +kernel
theorem dX11_isRest_34 : decode cX11_isRest 34 = .ok (.if_icmp .gt 29, 3) := by decide +kernel
theorem dX11_isRest_37 : decode cX11_isRest 37 = .ok (.aload_n 0, 1) := by decide +kernel
theorem dX11_isRest_38 : decode cX11_isRest 38 = .ok (.getfield 104, 3) := by decide +kernel
theorem dX11_isRest_41 : decode cX11_isRest 41 = .ok (.bipush 16, 2) := by decide +kernel
theorem dX11_isRest_43 : decode cX11_isRest 43 = .ok (.iload_n 2, 1) := by decide +kernel
theorem dX11_isRest_44 : decode cX11_isRest 44 = .ok (.iconst 4, 1) := by decide +kernel
theorem dX11_isRest_45 : decode cX11_isRest 45 = .ok (.imul, 1) := by decide +kernel
theorem dX11_isRest_46 : decode cX11_isRest 46 = .ok (.iadd, 1) := by decide +kernel
theorem dX11_isRest_47 : decode cX11_isRest 47 = .ok (.iload 4, 2) := by decide +kernel
theorem dX11_isRest_49 : decode cX11_isRest 49 = .ok (.iadd, 1) := by decide +kernel
theorem dX11_isRest_50 : decode cX11_isRest 50 = .ok (.iaload, 1) := by decide +kernel
theorem dX11_isRest_51 : decode cX11_isRest 51 = .ok (.aload_n 0, 1) := by decide +kernel
theorem dX11_isRest_52 : decode cX11_isRest 52 = .ok (.getfield 104, 3) := by decide +kernel
theorem dX11_isRest_55 : decode cX11_isRest 55 = .ok (.bipush 16, 2) := by decide +kernel
theorem dX11_isRest_57 : decode cX11_isRest 57 = .ok (.iload_n 1, 1) := by decide +kernel
theorem dX11_isRest_58 : decode cX11_isRest 58 = .ok (.iadd, 1) := by decide +kernel
theorem dX11_isRest_59 : decode cX11_isRest 59 = .ok (.iaload, 1) := by decide +kernel
theorem dX11_isRest_60 : decode cX11_isRest 60 = .ok (.if_icmp .le 5, 3) := by decide +kernel
theorem dX11_isRest_63 : decode cX11_isRest 63 = .ok (.iconst 0, 1) := by decide +kernel
theorem dX11_isRest_64 : decode cX11_isRest 64 = .ok (.ireturn, 1) := by decide +kernel
theorem dX11_isRest_65 : decode cX11_isRest 65 = .ok (.iinc 4 1, 3) := by decide +kernel
theorem dX11_isRest_68 : decode cX11_isRest 68 = .ok (.goto (-57), 3) := by decide +kernel
theorem dX11_isRest_71 : decode cX11_isRest 71 = .ok (.iconst 1, 1) := by decide +kernel
theorem dX11_isRest_72 : decode cX11_isRest 72 = .ok (.ireturn, 1) := by decide +kernel
noncomputable def bs_X11_isRest : List (Nat × XB) := [
  (0, (sq (xLI 1) (sq (xC (.int 4)) (sq (xI2z (· / ·)) (sq (xSI 2) (sq (xLI 1) (sq (xC (.int 4)) (sq (xI2z (fun x y => x - x / y * y)) (sq (xSI 3) (sq (xC (.int 0)) (sq (xSI 4) (tGo 11 [true, true, true, true, true])))))))))))),
  (11, (sq (xLI 4) (sq (xC (.int 4)) (tIf2 (fun x y => decide (y ≤ x)) 71 [false, false, false, false, false] 17 [true, true, true, true, true])))),
  (17, (sq (xLA 0) (sq (xGS 10 39 1 0) (sq (xLI 4) (sq (xC (.int 4)) (sq (xI2 (· * ·)) (sq (xLI 3) (sq (xI2 (· + ·)) (sq (xAI 39 32) (sq (xLA 0) (sq (xGS 10 39 1 0) (sq (xLI 1) (sq (xAI 39 32) (tIf2 (fun x y => decide (y < x)) 63 [false, false, false, false, false] 37 [true, true, true, true, true])))))))))))))),
  (37, (sq (xLA 0) (sq (xGS 10 39 1 0) (sq (xC (.int 16)) (sq (xLI 2) (sq (xC (.int 4)) (sq (xI2 (· * ·)) (sq (xI2 (· + ·)) (sq (xLI 4) (sq (xI2 (· + ·)) (sq (xAI 39 32) (sq (xLA 0) (sq (xGS 10 39 1 0) (sq (xC (.int 16)) (sq (xLI 1) (sq (xI2 (· + ·)) (sq (xAI 39 32) (tIf2 (fun x y => decide (x ≤ y)) 65 [true, true, true, true, true] 63 [false, false, false, false, false])))))))))))))))))),
  (63, (sq (xC (.int 0)) tRZ)),
  (65, (sq (xInc 4 1) (tGo 11 [true, true, true, true, true]))),
  (71, (sq (xC (.int 1)) tRZ))]
set_option maxRecDepth 100000 in
set_option maxHeartbeats 4000000 in
theorem s_X11_isRest : ∀ X : XCtx, XE X → X.2.2.1.1 = cX11_isRest → X.2.2.1.2.1 = 5 → X.2.2.1.2.2.1 = yX11_isRest.cls → X.2.2.1.2.2.2.1 = (some .boolean) → X.1.2.2.2.1 = { frames := 0, cells := 0, slots := 0, locals := 0 } → SndBs X bs_X11_isRest := by
  rintro ⟨⟨p, l, e, R, s⟩, Y, ⟨cc, nL, own, ret, Ts⟩, Z⟩ hE h1 h2 h3 h4 h5
  dsimp only at h1 h2 h3 h4 h5
  subst h1 h2 h3 h4 h5
  exact ⟨(n_sq (n_iload_n hE dX11_isRest_0) (n_sq (n_iconst hE (by decide) dX11_isRest_1) (n_sq (n_idiv hE dX11_isRest_2) (n_sq (n_istore_n hE (show (2 : Nat) < 5 by decide) dX11_isRest_3) (n_sq (n_iload_n hE dX11_isRest_4) (n_sq (n_iconst hE (by decide) dX11_isRest_5) (n_sq (n_irem hE dX11_isRest_6) (n_sq (n_istore_n hE (show (3 : Nat) < 5 by decide) dX11_isRest_7) (n_sq (n_iconst hE (by decide) dX11_isRest_8) (n_sq (n_istore hE (show (4 : Nat) < 5 by decide) dX11_isRest_9) n_fall)))))))))),
    (n_sq (n_iload hE dX11_isRest_11) (n_sq (n_iconst hE (by decide) dX11_isRest_13) (n_ifcge hE (by decide) dX11_isRest_14))),
    (n_sq (n_aload_n hE dX11_isRest_17) (n_sq (n_getS hE xk_10 (k := 18) rfl (by decide) rfl wt_334 dX11_isRest_18) (n_sq (n_iload hE dX11_isRest_21) (n_sq (n_iconst hE (by decide) dX11_isRest_23) (n_sq (n_imul hE dX11_isRest_24) (n_sq (n_iload_n hE dX11_isRest_25) (n_sq (n_iadd hE dX11_isRest_26) (n_sq (n_iald hE rfl (by decide) dX11_isRest_27) (n_sq (n_aload_n hE dX11_isRest_28) (n_sq (n_getS hE xk_10 (k := 18) rfl (by decide) rfl wt_334 dX11_isRest_29) (n_sq (n_iload_n hE dX11_isRest_32) (n_sq (n_iald hE rfl (by decide) dX11_isRest_33) (n_ifcgt hE (by decide) dX11_isRest_34))))))))))))),
    (n_sq (n_aload_n hE dX11_isRest_37) (n_sq (n_getS hE xk_10 (k := 18) rfl (by decide) rfl wt_334 dX11_isRest_38) (n_sq (n_bipush hE (by decide) dX11_isRest_41) (n_sq (n_iload_n hE dX11_isRest_43) (n_sq (n_iconst hE (by decide) dX11_isRest_44) (n_sq (n_imul hE dX11_isRest_45) (n_sq (n_iadd hE dX11_isRest_46) (n_sq (n_iload hE dX11_isRest_47) (n_sq (n_iadd hE dX11_isRest_49) (n_sq (n_iald hE rfl (by decide) dX11_isRest_50) (n_sq (n_aload_n hE dX11_isRest_51) (n_sq (n_getS hE xk_10 (k := 18) rfl (by decide) rfl wt_334 dX11_isRest_52) (n_sq (n_bipush hE (by decide) dX11_isRest_55) (n_sq (n_iload_n hE dX11_isRest_57) (n_sq (n_iadd hE dX11_isRest_58) (n_sq (n_iald hE rfl (by decide) dX11_isRest_59) (n_ifcle hE (by decide) dX11_isRest_60))))))))))))))))),
    (n_sq (n_iconst hE (by decide) dX11_isRest_63) (n_zreturn hE rfl dX11_isRest_64)),
    (n_sq (n_iinc hE (by decide) (show (4 : Nat) < 5 by decide) dX11_isRest_65) (n_goto hE (by decide) dX11_isRest_68)),
    (n_sq (n_iconst hE (by decide) dX11_isRest_71) (n_zreturn hE rfl dX11_isRest_72)), trivial⟩
noncomputable def F_X11_isRest (as : List XV) (w : XW) : Option (Int32 × XW) := (xF 5 bs_X11_isRest as w).bind pI
theorem m_X11_isRest : XM yX11_isRest cX11_isRest 5 (some .boolean) 0 0 (eI F_X11_isRest) := xm_I (xm_of (by decide) s_X11_isRest)
noncomputable def q_X11_isRest_0 (x1 : Int32) (w : XW) : Option XR := ev bs_X11_isRest 0 ([some (.inr (10, 0)), some (.inl (.int x1)), none, none, none], [], w)
noncomputable def q_X11_isRest_11 (x1 : Int32) (x2 : Int32) (x3 : Int32) (x4 : Int32) (w : XW) : Option XR := ev bs_X11_isRest 11 ([some (.inr (10, 0)), some (.inl (.int x1)), some (.inl (.int x2)), some (.inl (.int x3)), some (.inl (.int x4))], [], w)
noncomputable def q_X11_isRest_17 (x1 : Int32) (x2 : Int32) (x3 : Int32) (x4 : Int32) (w : XW) : Option XR := ev bs_X11_isRest 17 ([some (.inr (10, 0)), some (.inl (.int x1)), some (.inl (.int x2)), some (.inl (.int x3)), some (.inl (.int x4))], [], w)
noncomputable def q_X11_isRest_37 (x1 : Int32) (x2 : Int32) (x3 : Int32) (x4 : Int32) (w : XW) : Option XR := ev bs_X11_isRest 37 ([some (.inr (10, 0)), some (.inl (.int x1)), some (.inl (.int x2)), some (.inl (.int x3)), some (.inl (.int x4))], [], w)
noncomputable def q_X11_isRest_63 (w : XW) : Option XR := ev bs_X11_isRest 63 ([none, none, none, none, none], [], w)
noncomputable def q_X11_isRest_65 (x1 : Int32) (x2 : Int32) (x3 : Int32) (x4 : Int32) (w : XW) : Option XR := ev bs_X11_isRest 65 ([some (.inr (10, 0)), some (.inl (.int x1)), some (.inl (.int x2)), some (.inl (.int x3)), some (.inl (.int x4))], [], w)
noncomputable def q_X11_isRest_71 (w : XW) : Option XR := ev bs_X11_isRest 71 ([none, none, none, none, none], [], w)
theorem e_X11_isRest_0 (x1 : Int32) (w : XW) : q_X11_isRest_0 x1 w = (q_X11_isRest_11 x1 (x1 / 4) (x1 - x1 / 4 * 4) 0 w) := (ev_eq _ _ _).trans rfl
theorem e_X11_isRest_11 (x1 : Int32) (x2 : Int32) (x3 : Int32) (x4 : Int32) (w : XW) : q_X11_isRest_11 x1 x2 x3 x4 w = (bif decide (4 ≤ x4) then (q_X11_isRest_71 w) else (q_X11_isRest_17 x1 x2 x3 x4 w)) := (ev_eq _ _ _).trans rfl
theorem e_X11_isRest_17 (x1 : Int32) (x2 : Int32) (x3 : Int32) (x4 : Int32) (w : XW) : q_X11_isRest_17 x1 x2 x3 x4 w = (if ((x4 * 4) + x3) < 0 ∨ 32 ≤ ((x4 * 4) + x3).toNatClampNeg then none else (if x1 < 0 ∨ 32 ≤ x1.toNatClampNeg then none else (bif decide ((gI w 39 0 x1.toNatClampNeg) < (gI w 39 0 ((x4 * 4) + x3).toNatClampNeg)) then (q_X11_isRest_63 w) else (q_X11_isRest_37 x1 x2 x3 x4 w)))) := (ev_eq _ _ _).trans rfl
theorem e_X11_isRest_37 (x1 : Int32) (x2 : Int32) (x3 : Int32) (x4 : Int32) (w : XW) : q_X11_isRest_37 x1 x2 x3 x4 w = (if ((16 + (x2 * 4)) + x4) < 0 ∨ 32 ≤ ((16 + (x2 * 4)) + x4).toNatClampNeg then none else (if (16 + x1) < 0 ∨ 32 ≤ (16 + x1).toNatClampNeg then none else (bif decide ((gI w 39 0 ((16 + (x2 * 4)) + x4).toNatClampNeg) ≤ (gI w 39 0 (16 + x1).toNatClampNeg)) then (q_X11_isRest_65 x1 x2 x3 x4 w) else (q_X11_isRest_63 w)))) := (ev_eq _ _ _).trans rfl
theorem e_X11_isRest_63 (w : XW) : q_X11_isRest_63 w = (some (some (.inl (.int 0)), w)) := (ev_eq _ _ _).trans rfl
theorem e_X11_isRest_65 (x1 : Int32) (x2 : Int32) (x3 : Int32) (x4 : Int32) (w : XW) : q_X11_isRest_65 x1 x2 x3 x4 w = (q_X11_isRest_11 x1 x2 x3 (x4 + 1) w) := (ev_eq _ _ _).trans rfl
theorem e_X11_isRest_71 (w : XW) : q_X11_isRest_71 w = (some (some (.inl (.int 1)), w)) := (ev_eq _ _ _).trans rfl
theorem f_X11_isRest (x1 : Int32) (w : XW) : F_X11_isRest [.inr (10, 0), .inl (.int x1)] w = (q_X11_isRest_0 x1 w).bind pI := rfl
