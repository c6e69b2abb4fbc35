-- WinterKeepModel.one(IJJ)J
theorem dX12_one_0 : decode cX12_one 0 = .ok (.iload_n 0, 1) := by decide +kernel
theorem dX12_one_1 : decode cX12_one 1 = .ok (.tableswitch 171 2 14 #[67, 71, 75, 79, 107, 119, 131, 143, 155, 171, 167, 171, 93], 67) := by decide +kernel
theorem dX12_one_68 : decode cX12_one 68 = .ok (.lload_n 1, 1) := by decide +kernel
theorem dX12_one_69 : decode cX12_one 69 = .ok (.lload_n 3, 1) := by decide +kernel
theorem dX12_one_70 : decode cX12_one 70 = .ok (.ladd, 1) := by decide +kernel
theorem dX12_one_71 : decode cX12_one 71 = .ok (.lreturn, 1) := by decide +kernel
theorem dX12_one_72 : decode cX12_one 72 = .ok (.lload_n 1, 1) := by decide +kernel
theorem dX12_one_73 : decode cX12_one 73 = .ok (.lload_n 3, 1) := by decide +kernel
theorem dX12_one_74 : decode cX12_one 74 = .ok (.lsub, 1) := by decide +kernel
theorem dX12_one_75 : decode cX12_one 75 = .ok (.lreturn, 1) := by decide +kernel
theorem dX12_one_76 : decode cX12_one 76 = .ok (.lload_n 1, 1) := by decide +kernel
theorem dX12_one_77 : decode cX12_one 77 = .ok (.lload_n 3, 1) := by decide +kernel
theorem dX12_one_78 : decode cX12_one 78 = .ok (.lmul, 1) := by decide +kernel
theorem dX12_one_79 : decode cX12_one 79 = .ok (.lreturn, 1) := by decide +kernel
theorem dX12_one_80 : decode cX12_one 80 = .ok (.lload_n 3, 1) := by decide +kernel
theorem dX12_one_81 : decode cX12_one 81 = .ok (.lconst 0, 1) := by decide +kernel
theorem dX12_one_82 : decode cX12_one 82 = .ok (.lcmp, 1) := by decide +kernel
theorem dX12_one_83 : decode cX12_one 83 = .ok (.ifCond .ne 7, 3) := by decide +kernel
theorem dX12_one_86 : decode cX12_one 86 = .ok (.lconst 0, 1) := by decide +kernel
theorem dX12_one_87 : decode cX12_one 87 = .ok (.goto 6, 3) := by decide +kernel
theorem dX12_one_90 : decode cX12_one 90 = .ok (.lload_n 1, 1) := by decide +kernel
theorem dX12_one_91 : decode cX12_one 91 = .ok (.lload_n 3, 1) := by decide +kernel
theorem dX12_one_92 : decode cX12_one 92 = .ok (.ldiv, 1) := by decide +kernel
theorem dX12_one_93 : decode cX12_one 93 = .ok (.lreturn, 1) := by decide +kernel
theorem dX12_one_94 : decode cX12_one 94 = .ok (.lload_n 3, 1) := by decide +kernel
theorem dX12_one_95 : decode cX12_one 95 = .ok (.lconst 0, 1) := by decide +kernel
theorem dX12_one_96 : decode cX12_one 96 = .ok (.lcmp, 1) := by decide +kernel
theorem dX12_one_97 : decode cX12_one 97 = .ok (.ifCond .ne 7, 3) := by decide +kernel
theorem dX12_one_100 : decode cX12_one 100 = .ok (.lconst 0, 1) := by decide +kernel
theorem dX12_one_101 : decode cX12_one 101 = .ok (.goto 6, 3) := by decide +kernel
theorem dX12_one_104 : decode cX12_one 104 = .ok (.lload_n 1, 1) := by decide +kernel
theorem dX12_one_105 : decode cX12_one 105 = .ok (.lload_n 3, 1) := by decide +kernel
theorem dX12_one_106 : decode cX12_one 106 = .ok (.lrem, 1) := by decide +kernel
theorem dX12_one_107 : decode cX12_one 107 = .ok (.lreturn, 1) := by decide +kernel
theorem dX12_one_108 : decode cX12_one 108 = .ok (.lload_n 1, 1) := by decide +kernel
theorem dX12_one_109 : decode cX12_one 109 = .ok (.lload_n 3, 1) := by decide +kernel
theorem dX12_one_110 : decode cX12_one 110 = .ok (.lcmp, 1) := by decide +kernel
theorem dX12_one_111 : decode cX12_one 111 = .ok (.ifCond .ge 7, 3) := by decide +kernel
theorem dX12_one_114 : decode cX12_one 114 = .ok (.lconst 1, 1) := by decide +kernel
theorem dX12_one_115 : decode cX12_one 115 = .ok (.goto 4, 3) := by decide +kernel
theorem dX12_one_118 : decode cX12_one 118 = .ok (.lconst 0, 1) := by decide +kernel
theorem dX12_one_119 : decode cX12_one 119 = .ok (.lreturn, 1) := by decide +kernel
theorem dX12_one_120 : decode cX12_one 120 = .ok (.lload_n 1, 1) := by decide +kernel
theorem dX12_one_121 : decode cX12_one 121 = .ok (.lload_n 3, 1) := by decide +kernel
theorem dX12_one_122 : decode cX12_one 122 = .ok (.lcmp, 1) := by decide +kernel
theorem dX12_one_123 : decode cX12_one 123 = .ok (.ifCond .gt 7, 3) := by decide +kernel
theorem dX12_one_126 : decode cX12_one 126 = .ok (.lconst 1, 1) := by decide +kernel
theorem dX12_one_127 : decode cX12_one 127 = .ok (.goto 4, 3) := by decide +kernel
theorem dX12_one_130 : decode cX12_one 130 = .ok (.lconst 0, 1) := by decide +kernel
theorem dX12_one_131 : decode cX12_one 131 = .ok (.lreturn, 1) := by decide +kernel
theorem dX12_one_132 : decode cX12_one 132 = .ok (.lload_n 1, 1) := by decide +kernel
theorem dX12_one_133 : decode cX12_one 133 = .ok (.lload_n 3, 1) := by decide +kernel
theorem dX12_one_134 : decode cX12_one 134 = .ok (.lcmp, 1) := by decide +kernel
theorem dX12_one_135 : decode cX12_one 135 = .ok (.ifCond .ne 7, 3) := by decide +kernel
theorem dX12_one_138 : decode cX12_one 138 = .ok (.lconst 1, 1) := by decide +kernel
theorem dX12_one_139 : decode cX12_one 139 = .ok (.goto 4, 3) := by decide +kernel
theorem dX12_one_142 : decode cX12_one 142 = .ok (.lconst 0, 1) := by decide +kernel
theorem dX12_one_143 : decode cX12_one 143 = .ok (.lreturn, 1) := by decide +kernel
theorem dX12_one_144 : decode cX12_one 144 = .ok (.lload_n 1, 1) := by decide +kernel
theorem dX12_one_145 : decode cX12_one 145 = .ok (.lload_n 3, 1) := by decide +kernel
theorem dX12_one_146 : decode cX12_one 146 = .ok (.lcmp, 1) := by decide +kernel
theorem dX12_one_147 : decode cX12_one 147 = .ok (.ifCond .lt 7, 3) := by decide +kernel
theorem dX12_one_150 : decode cX12_one 150 = .ok (.lconst 1, 1) := by decide +kernel
theorem dX12_one_151 : decode cX12_one 151 = .ok (.goto 4, 3) := by decide +kernel
theorem dX12_one_154 : decode cX12_one 154 = .ok (.lconst 0, 1) := by decide +kernel
theorem dX12_one_155 : decode cX12_one 155 = .ok (.lreturn, 1) := by decide +kernel
theorem dX12_one_156 : decode cX12_one 156 = .ok (.lload_n 1, 1) := by decide +kernel
theorem dX12_one_157 : decode cX12_one 157 = .ok (.lload_n 3, 1) := by decide +kernel
theorem dX12_one_158 : decode cX12_one 158 = .ok (.lcmp, 1) := by decide +kernel
theorem dX12_one_159 : decode cX12_one 159 = .ok (.ifCond .le 7, 3) := by decide +kernel
theorem dX12_one_162 : decode cX12_one 162 = .ok (.lconst 1, 1) := by decide +kernel
theorem dX12_one_163 : decode cX12_one 163 = .ok (.goto 4, 3) := by decide +kernel
theorem dX12_one_166 : decode cX12_one 166 = .ok (.lconst 0, 1) := by decide +kernel
theorem dX12_one_167 : decode cX12_one 167 = .ok (.lreturn, 1) := by decide +kernel
theorem dX12_one_168 : decode cX12_one 168 = .ok (.lload_n 1, 1) := by decide +kernel
theorem dX12_one_169 : decode cX12_one 169 = .ok (.lload_n 3, 1) := by decide +kernel
theorem dX12_one_170 : decode cX12_one 170 = .ok (.land, 1) := by decide +kernel
theorem dX12_one_171 : decode cX12_one 171 = .ok (.lreturn, 1) := by decide +kernel
theorem dX12_one_172 : decode cX12_one 172 = .ok (.lload_n 1, 1) := by decide +kernel
theorem dX12_one_173 : decode cX12_one 173 = .ok (.lload_n 3, 1) := by decide +kernel
theorem dX12_one_174 : decode cX12_one 174 = .ok (.lor, 1) := by decide +kernel
theorem dX12_one_175 : decode cX12_one 175 = .ok (.lreturn, 1) := by decide +kernel
noncomputable def bs_X12_one : List (Nat × XB) := [
  (0, (sq (xLI 0) (tSw [(2, 68), (3, 72), (4, 76), (5, 80), (6, 108), (7, 120), (8, 132), (9, 144), (10, 156), (11, 172), (12, 168), (13, 172), (14, 94)] 172 [false, true, false, true, false]))),
  (68, (sq (xLJ 1) (sq (xLJ 3) (sq (xJ2 (· + ·)) tRJ)))),
  (72, (sq (xLJ 1) (sq (xLJ 3) (sq (xJ2 (· - ·)) tRJ)))),
  (76, (sq (xLJ 1) (sq (xLJ 3) (sq (xJ2 (· * ·)) tRJ)))),
  (80, (sq (xLJ 3) (sq (xC (.long 0)) (sq (xJcmp) (tIf1 (fun x => decide (¬ x = 0)) 90 [false, true, false, true, false] 86 [false, false, false, false, false]))))),
  (86, (sq (xC (.long 0)) (tGo 93 [false, false, false, false, false]))),
  (90, (sq (xLJ 1) (sq (xLJ 3) (sq (xJ2z (· / ·)) (tGo 93 [false, false, false, false, false]))))),
  (93, tRJ),
  (94, (sq (xLJ 3) (sq (xC (.long 0)) (sq (xJcmp) (tIf1 (fun x => decide (¬ x = 0)) 104 [false, true, false, true, false] 100 [false, false, false, false, false]))))),
  (100, (sq (xC (.long 0)) (tGo 107 [false, false, false, false, false]))),
  (104, (sq (xLJ 1) (sq (xLJ 3) (sq (xJ2z (fun x y => x - x / y * y)) (tGo 107 [false, false, false, false, false]))))),
  (107, tRJ),
  (108, (sq (xLJ 1) (sq (xLJ 3) (sq (xJcmp) (tIf1 (fun x => decide (0 ≤ x)) 118 [false, false, false, false, false] 114 [false, false, false, false, false]))))),
  (114, (sq (xC (.long 1)) (tGo 119 [false, false, false, false, false]))),
  (118, (sq (xC (.long 0)) (tGo 119 [false, false, false, false, false]))),
  (119, tRJ),
  (120, (sq (xLJ 1) (sq (xLJ 3) (sq (xJcmp) (tIf1 (fun x => decide (0 < x)) 130 [false, false, false, false, false] 126 [false, false, false, false, false]))))),
  (126, (sq (xC (.long 1)) (tGo 131 [false, false, false, false, false]))),
  (130, (sq (xC (.long 0)) (tGo 131 [false, false, false, false, false]))),
  (131, tRJ),
  (132, (sq (xLJ 1) (sq (xLJ 3) (sq (xJcmp) (tIf1 (fun x => decide (¬ x = 0)) 142 [false, false, false, false, false] 138 [false, false, false, false, false]))))),
  (138, (sq (xC (.long 1)) (tGo 143 [false, false, false, false, false]))),
  (142, (sq (xC (.long 0)) (tGo 143 [false, false, false, false, false]))),
  (143, tRJ),
  (144, (sq (xLJ 1) (sq (xLJ 3) (sq (xJcmp) (tIf1 (fun x => decide (x < 0)) 154 [false, false, false, false, false] 150 [false, false, false, false, false]))))),
  (150, (sq (xC (.long 1)) (tGo 155 [false, false, false, false, false]))),
  (154, (sq (xC (.long 0)) (tGo 155 [false, false, false, false, false]))),
  (155, tRJ),
  (156, (sq (xLJ 1) (sq (xLJ 3) (sq (xJcmp) (tIf1 (fun x => decide (x ≤ 0)) 166 [false, false, false, false, false] 162 [false, false, false, false, false]))))),
  (162, (sq (xC (.long 1)) (tGo 167 [false, false, false, false, false]))),
  (166, (sq (xC (.long 0)) (tGo 167 [false, false, false, false, false]))),
  (167, tRJ),
  (168, (sq (xLJ 1) (sq (xLJ 3) (sq (xJ2 (· &&& ·)) tRJ)))),
  (172, (sq (xLJ 1) (sq (xLJ 3) (sq (xJ2 (· ||| ·)) tRJ))))]
set_option maxRecDepth 100000 in
set_option maxHeartbeats 4000000 in
theorem s_X12_one : ∀ X : XCtx, XE X → X.2.2.1.1 = cX12_one → X.2.2.1.2.1 = 5 → X.2.2.1.2.2.1 = yX12_one.cls → X.2.2.1.2.2.2.1 = (some .long) → X.1.2.2.2.1 = { frames := 0, cells := 0, slots := 0, locals := 0 } → SndBs X bs_X12_one := by
  rintro ⟨⟨p, l, e, R, s⟩, Y, ⟨cc, nL, own, ret, Ts⟩, Z⟩ hE h1 h2 h3 h4 h5
  dsimp only at h1 h2 h3 h4 h5
  subst h1 h2 h3 h4 h5
  exact ⟨(n_sq (n_iload_n hE dX12_one_0) (n_switch hE (lo32 := 2) (ts := [68, 72, 76, 80, 108, 120, 132, 144, 156, 172, 168, 172, 94]) (by decide) (by decide) (by decide) (by decide) (by decide) (by decide) dX12_one_1)),
    (n_sq (n_lload_n hE dX12_one_68) (n_sq (n_lload_n hE dX12_one_69) (n_sq (n_ladd hE dX12_one_70) (n_lreturn hE rfl dX12_one_71)))),
    (n_sq (n_lload_n hE dX12_one_72) (n_sq (n_lload_n hE dX12_one_73) (n_sq (n_lsub hE dX12_one_74) (n_lreturn hE rfl dX12_one_75)))),
    (n_sq (n_lload_n hE dX12_one_76) (n_sq (n_lload_n hE dX12_one_77) (n_sq (n_lmul hE dX12_one_78) (n_lreturn hE rfl dX12_one_79)))),
    (n_sq (n_lload_n hE dX12_one_80) (n_sq (n_lconst hE (by decide) dX12_one_81) (n_sq (n_lcmp hE dX12_one_82) (n_ifne hE (by decide) dX12_one_83)))),
    (n_sq (n_lconst hE (by decide) dX12_one_86) (n_goto hE (by decide) dX12_one_87)),
    (n_sq (n_lload_n hE dX12_one_90) (n_sq (n_lload_n hE dX12_one_91) (n_sq (n_ldiv hE dX12_one_92) n_fall))),
    (n_lreturn hE rfl dX12_one_93),
    (n_sq (n_lload_n hE dX12_one_94) (n_sq (n_lconst hE (by decide) dX12_one_95) (n_sq (n_lcmp hE dX12_one_96) (n_ifne hE (by decide) dX12_one_97)))),
    (n_sq (n_lconst hE (by decide) dX12_one_100) (n_goto hE (by decide) dX12_one_101)),
    (n_sq (n_lload_n hE dX12_one_104) (n_sq (n_lload_n hE dX12_one_105) (n_sq (n_lrem hE dX12_one_106) n_fall))),
    (n_lreturn hE rfl dX12_one_107),
    (n_sq (n_lload_n hE dX12_one_108) (n_sq (n_lload_n hE dX12_one_109) (n_sq (n_lcmp hE dX12_one_110) (n_ifge hE (by decide) dX12_one_111)))),
    (n_sq (n_lconst hE (by decide) dX12_one_114) (n_goto hE (by decide) dX12_one_115)),
    (n_sq (n_lconst hE (by decide) dX12_one_118) n_fall),
    (n_lreturn hE rfl dX12_one_119),
    (n_sq (n_lload_n hE dX12_one_120) (n_sq (n_lload_n hE dX12_one_121) (n_sq (n_lcmp hE dX12_one_122) (n_ifgt hE (by decide) dX12_one_123)))),
    (n_sq (n_lconst hE (by decide) dX12_one_126) (n_goto hE (by decide) dX12_one_127)),
    (n_sq (n_lconst hE (by decide) dX12_one_130) n_fall),
    (n_lreturn hE rfl dX12_one_131),
    (n_sq (n_lload_n hE dX12_one_132) (n_sq (n_lload_n hE dX12_one_133) (n_sq (n_lcmp hE dX12_one_134) (n_ifne hE (by decide) dX12_one_135)))),
    (n_sq (n_lconst hE (by decide) dX12_one_138) (n_goto hE (by decide) dX12_one_139)),
    (n_sq (n_lconst hE (by decide) dX12_one_142) n_fall),
    (n_lreturn hE rfl dX12_one_143),
    (n_sq (n_lload_n hE dX12_one_144) (n_sq (n_lload_n hE dX12_one_145) (n_sq (n_lcmp hE dX12_one_146) (n_iflt hE (by decide) dX12_one_147)))),
    (n_sq (n_lconst hE (by decide) dX12_one_150) (n_goto hE (by decide) dX12_one_151)),
    (n_sq (n_lconst hE (by decide) dX12_one_154) n_fall),
    (n_lreturn hE rfl dX12_one_155),
    (n_sq (n_lload_n hE dX12_one_156) (n_sq (n_lload_n hE dX12_one_157) (n_sq (n_lcmp hE dX12_one_158) (n_ifle hE (by decide) dX12_one_159)))),
    (n_sq (n_lconst hE (by decide) dX12_one_162) (n_goto hE (by decide) dX12_one_163)),
    (n_sq (n_lconst hE (by decide) dX12_one_166) n_fall),
    (n_lreturn hE rfl dX12_one_167),
    (n_sq (n_lload_n hE dX12_one_168) (n_sq (n_lload_n hE dX12_one_169) (n_sq (n_land hE dX12_one_170) (n_lreturn hE rfl dX12_one_171)))),
    (n_sq (n_lload_n hE dX12_one_172) (n_sq (n_lload_n hE dX12_one_173) (n_sq (n_lor hE dX12_one_174) (n_lreturn hE rfl dX12_one_175)))), trivial⟩
noncomputable def F_X12_one (as : List XV) (w : XW) : Option (Int64 × XW) := (xF 5 bs_X12_one as w).bind pJ
theorem m_X12_one : XM yX12_one cX12_one 5 (some .long) 0 0 (eJ F_X12_one) := xm_J (xm_of (by decide) s_X12_one)
noncomputable def q_X12_one_0 (x0 : Int32) (y1 : Int64) (y3 : Int64) (w : XW) : Option XR := ev bs_X12_one 0 ([some (.inl (.int x0)), some (.inl (.long y1)), none, some (.inl (.long y3)), none], [], w)
noncomputable def q_X12_one_68 (y1 : Int64) (y3 : Int64) (w : XW) : Option XR := ev bs_X12_one 68 ([none, some (.inl (.long y1)), none, some (.inl (.long y3)), none], [], w)
noncomputable def q_X12_one_72 (y1 : Int64) (y3 : Int64) (w : XW) : Option XR := ev bs_X12_one 72 ([none, some (.inl (.long y1)), none, some (.inl (.long y3)), none], [], w)
noncomputable def q_X12_one_76 (y1 : Int64) (y3 : Int64) (w : XW) : Option XR := ev bs_X12_one 76 ([none, some (.inl (.long y1)), none, some (.inl (.long y3)), none], [], w)
noncomputable def q_X12_one_80 (y1 : Int64) (y3 : Int64) (w : XW) : Option XR := ev bs_X12_one 80 ([none, some (.inl (.long y1)), none, some (.inl (.long y3)), none], [], w)
noncomputable def q_X12_one_86 (w : XW) : Option XR := ev bs_X12_one 86 ([none, none, none, none, none], [], w)
noncomputable def q_X12_one_90 (y1 : Int64) (y3 : Int64) (w : XW) : Option XR := ev bs_X12_one 90 ([none, some (.inl (.long y1)), none, some (.inl (.long y3)), none], [], w)
noncomputable def q_X12_one_93 (s0 : Int64) (w : XW) : Option XR := ev bs_X12_one 93 ([none, none, none, none, none], [.inl (.long s0)], w)
noncomputable def q_X12_one_94 (y1 : Int64) (y3 : Int64) (w : XW) : Option XR := ev bs_X12_one 94 ([none, some (.inl (.long y1)), none, some (.inl (.long y3)), none], [], w)
noncomputable def q_X12_one_100 (w : XW) : Option XR := ev bs_X12_one 100 ([none, none, none, none, none], [], w)
noncomputable def q_X12_one_104 (y1 : Int64) (y3 : Int64) (w : XW) : Option XR := ev bs_X12_one 104 ([none, some (.inl (.long y1)), none, some (.inl (.long y3)), none], [], w)
noncomputable def q_X12_one_107 (s0 : Int64) (w : XW) : Option XR := ev bs_X12_one 107 ([none, none, none, none, none], [.inl (.long s0)], w)
noncomputable def q_X12_one_108 (y1 : Int64) (y3 : Int64) (w : XW) : Option XR := ev bs_X12_one 108 ([none, some (.inl (.long y1)), none, some (.inl (.long y3)), none], [], w)
noncomputable def q_X12_one_114 (w : XW) : Option XR := ev bs_X12_one 114 ([none, none, none, none, none], [], w)
noncomputable def q_X12_one_118 (w : XW) : Option XR := ev bs_X12_one 118 ([none, none, none, none, none], [], w)
noncomputable def q_X12_one_119 (s0 : Int64) (w : XW) : Option XR := ev bs_X12_one 119 ([none, none, none, none, none], [.inl (.long s0)], w)
noncomputable def q_X12_one_120 (y1 : Int64) (y3 : Int64) (w : XW) : Option XR := ev bs_X12_one 120 ([none, some (.inl (.long y1)), none, some (.inl (.long y3)), none], [], w)
noncomputable def q_X12_one_126 (w : XW) : Option XR := ev bs_X12_one 126 ([none, none, none, none, none], [], w)
noncomputable def q_X12_one_130 (w : XW) : Option XR := ev bs_X12_one 130 ([none, none, none, none, none], [], w)
noncomputable def q_X12_one_131 (s0 : Int64) (w : XW) : Option XR := ev bs_X12_one 131 ([none, none, none, none, none], [.inl (.long s0)], w)
noncomputable def q_X12_one_132 (y1 : Int64) (y3 : Int64) (w : XW) : Option XR := ev bs_X12_one 132 ([none, some (.inl (.long y1)), none, some (.inl (.long y3)), none], [], w)
noncomputable def q_X12_one_138 (w : XW) : Option XR := ev bs_X12_one 138 ([none, none, none, none, none], [], w)
noncomputable def q_X12_one_142 (w : XW) : Option XR := ev bs_X12_one 142 ([none, none, none, none, none], [], w)
noncomputable def q_X12_one_143 (s0 : Int64) (w : XW) : Option XR := ev bs_X12_one 143 ([none, none, none, none, none], [.inl (.long s0)], w)
noncomputable def q_X12_one_144 (y1 : Int64) (y3 : Int64) (w : XW) : Option XR := ev bs_X12_one 144 ([none, some (.inl (.long y1)), none, some (.inl (.long y3)), none], [], w)
noncomputable def q_X12_one_150 (w : XW) : Option XR := ev bs_X12_one 150 ([none, none, none, none, none], [], w)
noncomputable def q_X12_one_154 (w : XW) : Option XR := ev bs_X12_one 154 ([none, none, none, none, none], [], w)
noncomputable def q_X12_one_155 (s0 : Int64) (w : XW) : Option XR := ev bs_X12_one 155 ([none, none, none, none, none], [.inl (.long s0)], w)
noncomputable def q_X12_one_156 (y1 : Int64) (y3 : Int64) (w : XW) : Option XR := ev bs_X12_one 156 ([none, some (.inl (.long y1)), none, some (.inl (.long y3)), none], [], w)
noncomputable def q_X12_one_162 (w : XW) : Option XR := ev bs_X12_one 162 ([none, none, none, none, none], [], w)
noncomputable def q_X12_one_166 (w : XW) : Option XR := ev bs_X12_one 166 ([none, none, none, none, none], [], w)
noncomputable def q_X12_one_167 (s0 : Int64) (w : XW) : Option XR := ev bs_X12_one 167 ([none, none, none, none, none], [.inl (.long s0)], w)
noncomputable def q_X12_one_168 (y1 : Int64) (y3 : Int64) (w : XW) : Option XR := ev bs_X12_one 168 ([none, some (.inl (.long y1)), none, some (.inl (.long y3)), none], [], w)
noncomputable def q_X12_one_172 (y1 : Int64) (y3 : Int64) (w : XW) : Option XR := ev bs_X12_one 172 ([none, some (.inl (.long y1)), none, some (.inl (.long y3)), none], [], w)
theorem e_X12_one_0 (x0 : Int32) (y1 : Int64) (y3 : Int64) (w : XW) : q_X12_one_0 x0 y1 y3 w = (bif x0 == 2 then (q_X12_one_68 y1 y3 w) else (bif x0 == 3 then (q_X12_one_72 y1 y3 w) else (bif x0 == 4 then (q_X12_one_76 y1 y3 w) else (bif x0 == 5 then (q_X12_one_80 y1 y3 w) else (bif x0 == 6 then (q_X12_one_108 y1 y3 w) else (bif x0 == 7 then (q_X12_one_120 y1 y3 w) else (bif x0 == 8 then (q_X12_one_132 y1 y3 w) else (bif x0 == 9 then (q_X12_one_144 y1 y3 w) else (bif x0 == 10 then (q_X12_one_156 y1 y3 w) else (bif x0 == 11 then (q_X12_one_172 y1 y3 w) else (bif x0 == 12 then (q_X12_one_168 y1 y3 w) else (bif x0 == 13 then (q_X12_one_172 y1 y3 w) else (bif x0 == 14 then (q_X12_one_94 y1 y3 w) else (q_X12_one_172 y1 y3 w)))))))))))))) := (ev_eq _ _ _).trans rfl
theorem e_X12_one_68 (y1 : Int64) (y3 : Int64) (w : XW) : q_X12_one_68 y1 y3 w = (some (some (.inl (.long (y1 + y3))), w)) := (ev_eq _ _ _).trans rfl
theorem e_X12_one_72 (y1 : Int64) (y3 : Int64) (w : XW) : q_X12_one_72 y1 y3 w = (some (some (.inl (.long (y1 - y3))), w)) := (ev_eq _ _ _).trans rfl
theorem e_X12_one_76 (y1 : Int64) (y3 : Int64) (w : XW) : q_X12_one_76 y1 y3 w = (some (some (.inl (.long (y1 * y3))), w)) := (ev_eq _ _ _).trans rfl
theorem e_X12_one_80 (y1 : Int64) (y3 : Int64) (w : XW) : q_X12_one_80 y1 y3 w = (bif decide (¬ (lg_cmp y3 0) = 0) then (q_X12_one_90 y1 y3 w) else (q_X12_one_86 w)) := (ev_eq _ _ _).trans rfl
theorem e_X12_one_86 (w : XW) : q_X12_one_86 w = (q_X12_one_93 0 w) := (ev_eq _ _ _).trans rfl
theorem e_X12_one_90 (y1 : Int64) (y3 : Int64) (w : XW) : q_X12_one_90 y1 y3 w = (if y3 = 0 then none else (q_X12_one_93 (y1 / y3) w)) := (ev_eq _ _ _).trans rfl
theorem e_X12_one_93 (s0 : Int64) (w : XW) : q_X12_one_93 s0 w = (some (some (.inl (.long s0)), w)) := (ev_eq _ _ _).trans rfl
theorem e_X12_one_94 (y1 : Int64) (y3 : Int64) (w : XW) : q_X12_one_94 y1 y3 w = (bif decide (¬ (lg_cmp y3 0) = 0) then (q_X12_one_104 y1 y3 w) else (q_X12_one_100 w)) := (ev_eq _ _ _).trans rfl
theorem e_X12_one_100 (w : XW) : q_X12_one_100 w = (q_X12_one_107 0 w) := (ev_eq _ _ _).trans rfl
theorem e_X12_one_104 (y1 : Int64) (y3 : Int64) (w : XW) : q_X12_one_104 y1 y3 w = (if y3 = 0 then none else (q_X12_one_107 (y1 - y1 / y3 * y3) w)) := (ev_eq _ _ _).trans rfl
theorem e_X12_one_107 (s0 : Int64) (w : XW) : q_X12_one_107 s0 w = (some (some (.inl (.long s0)), w)) := (ev_eq _ _ _).trans rfl
theorem e_X12_one_108 (y1 : Int64) (y3 : Int64) (w : XW) : q_X12_one_108 y1 y3 w = (bif decide (0 ≤ (lg_cmp y1 y3)) then (q_X12_one_118 w) else (q_X12_one_114 w)) := (ev_eq _ _ _).trans rfl
theorem e_X12_one_114 (w : XW) : q_X12_one_114 w = (q_X12_one_119 1 w) := (ev_eq _ _ _).trans rfl
theorem e_X12_one_118 (w : XW) : q_X12_one_118 w = (q_X12_one_119 0 w) := (ev_eq _ _ _).trans rfl
theorem e_X12_one_119 (s0 : Int64) (w : XW) : q_X12_one_119 s0 w = (some (some (.inl (.long s0)), w)) := (ev_eq _ _ _).trans rfl
theorem e_X12_one_120 (y1 : Int64) (y3 : Int64) (w : XW) : q_X12_one_120 y1 y3 w = (bif decide (0 < (lg_cmp y1 y3)) then (q_X12_one_130 w) else (q_X12_one_126 w)) := (ev_eq _ _ _).trans rfl
theorem e_X12_one_126 (w : XW) : q_X12_one_126 w = (q_X12_one_131 1 w) := (ev_eq _ _ _).trans rfl
theorem e_X12_one_130 (w : XW) : q_X12_one_130 w = (q_X12_one_131 0 w) := (ev_eq _ _ _).trans rfl
theorem e_X12_one_131 (s0 : Int64) (w : XW) : q_X12_one_131 s0 w = (some (some (.inl (.long s0)), w)) := (ev_eq _ _ _).trans rfl
theorem e_X12_one_132 (y1 : Int64) (y3 : Int64) (w : XW) : q_X12_one_132 y1 y3 w = (bif decide (¬ (lg_cmp y1 y3) = 0) then (q_X12_one_142 w) else (q_X12_one_138 w)) := (ev_eq _ _ _).trans rfl
theorem e_X12_one_138 (w : XW) : q_X12_one_138 w = (q_X12_one_143 1 w) := (ev_eq _ _ _).trans rfl
theorem e_X12_one_142 (w : XW) : q_X12_one_142 w = (q_X12_one_143 0 w) := (ev_eq _ _ _).trans rfl
theorem e_X12_one_143 (s0 : Int64) (w : XW) : q_X12_one_143 s0 w = (some (some (.inl (.long s0)), w)) := (ev_eq _ _ _).trans rfl
theorem e_X12_one_144 (y1 : Int64) (y3 : Int64) (w : XW) : q_X12_one_144 y1 y3 w = (bif decide ((lg_cmp y1 y3) < 0) then (q_X12_one_154 w) else (q_X12_one_150 w)) := (ev_eq _ _ _).trans rfl
theorem e_X12_one_150 (w : XW) : q_X12_one_150 w = (q_X12_one_155 1 w) := (ev_eq _ _ _).trans rfl
theorem e_X12_one_154 (w : XW) : q_X12_one_154 w = (q_X12_one_155 0 w) := (ev_eq _ _ _).trans rfl
theorem e_X12_one_155 (s0 : Int64) (w : XW) : q_X12_one_155 s0 w = (some (some (.inl (.long s0)), w)) := (ev_eq _ _ _).trans rfl
theorem e_X12_one_156 (y1 : Int64) (y3 : Int64) (w : XW) : q_X12_one_156 y1 y3 w = (bif decide ((lg_cmp y1 y3) ≤ 0) then (q_X12_one_166 w) else (q_X12_one_162 w)) := (ev_eq _ _ _).trans rfl
theorem e_X12_one_162 (w : XW) : q_X12_one_162 w = (q_X12_one_167 1 w) := (ev_eq _ _ _).trans rfl
theorem e_X12_one_166 (w : XW) : q_X12_one_166 w = (q_X12_one_167 0 w) := (ev_eq _ _ _).trans rfl
theorem e_X12_one_167 (s0 : Int64) (w : XW) : q_X12_one_167 s0 w = (some (some (.inl (.long s0)), w)) := (ev_eq _ _ _).trans rfl
theorem e_X12_one_168 (y1 : Int64) (y3 : Int64) (w : XW) : q_X12_one_168 y1 y3 w = (some (some (.inl (.long (y1 &&& y3))), w)) := (ev_eq _ _ _).trans rfl
theorem e_X12_one_172 (y1 : Int64) (y3 : Int64) (w : XW) : q_X12_one_172 y1 y3 w = (some (some (.inl (.long (y1 ||| y3))), w)) := (ev_eq _ _ _).trans rfl
theorem f_X12_one (x0 : Int32) (y1 : Int64) (y3 : Int64) (w : XW) : F_X12_one [.inl (.int x0), .inl (.long y1), .inl (.long y3)] w = (q_X12_one_0 x0 y1 y3 w).bind pJ := rfl

-- WinterKeepModel.reckons(III)J
theorem dX12_reckons_0 : decode cX12_reckons 0 = .ok (.aload_n 0, 1) := by decide +kernel
theorem dX12_reckons_1 : decode cX12_reckons 1 = .ok (.iconst 0, 1) := by decide +kernel
theorem dX12_reckons_2 : decode cX12_reckons 2 = .ok (.putfield 283, 3) := by decide +kernel
theorem dX12_reckons_5 : decode cX12_reckons 5 = .ok (.iload_n 2, 1) := by decide +kernel
theorem dX12_reckons_6 : decode cX12_reckons 6 = .ok (.istore 4, 2) := by decide +kernel
theorem dX12_reckons_8 : decode cX12_reckons 8 = .ok (.iload 4, 2) := by decide +kernel
theorem dX12_reckons_10 : decode cX12_reckons 10 = .ok (.iload_n 3, 1) := by decide +kernel
theorem dX12_reckons_11 : decode cX12_reckons 11 = .ok (.if_icmp .ge 124, 3) := by decide +kernel
theorem dX12_reckons_14 : decode cX12_reckons 14 = .ok (.aload_n 0, 1) := by decide +kernel
theorem dX12_reckons_15 : decode cX12_reckons 15 = .ok (.getfield 13, 3) := by decide +kernel
theorem dX12_reckons_18 : decode cX12_reckons 18 = .ok (.sipush 400, 3) := by decide +kernel
theorem dX12_reckons_21 : decode cX12_reckons 21 = .ok (.iload_n 1, 1) := by decide +kernel
theorem dX12_reckons_22 : decode cX12_reckons 22 = .ok (.imul, 1) := by decide +kernel
theorem dX12_reckons_23 : decode cX12_reckons 23 = .ok (.iload 4, 2) := by decide +kernel
theorem dX12_reckons_25 : decode cX12_reckons 25 = .ok (.iadd, 1) := by decide +kernel
theorem dX12_reckons_26 : decode cX12_reckons 26 = .ok (.iaload, 1) := by decide +kernel
theorem dX12_reckons_27 : decode cX12_reckons 27 = .ok (.bipush 15, 2) := by decide +kernel
theorem dX12_reckons_29 : decode cX12_reckons 29 = .ok (.iand, 1) := by decide +kernel
theorem dX12_reckons_30 : decode cX12_reckons 30 = .ok (.istore 5, 2) := by decide +kernel
theorem dX12_reckons_32 : decode cX12_reckons 32 = .ok (.aload_n 0, 1) := by decide +kernel
theorem dX12_reckons_33 : decode cX12_reckons 33 = .ok (.getfield 13, 3) := by decide +kernel
theorem dX12_reckons_36 : decode cX12_reckons 36 = .ok (.sipush 400, 3) := by decide +kernel
theorem dX12_reckons_39 : decode cX12_reckons 39 = .ok (.iload_n 1, 1) := by decide +kernel
theorem dX12_reckons_40 : decode cX12_reckons 40 = .ok (.imul, 1) := by decide +kernel
theorem dX12_reckons_41 : decode cX12_reckons 41 = .ok (.iload 4, 2) := by decide +kernel
theorem dX12_reckons_43 : decode cX12_reckons 43 = .ok (.iadd, 1) := by decide +kernel
theorem dX12_reckons_44 : decode cX12_reckons 44 = .ok (.iaload, 1) := by decide +kernel
theorem dX12_reckons_45 : decode cX12_reckons 45 = .ok (.iconst 4, 1) := by decide +kernel
theorem dX12_reckons_46 : decode cX12_reckons 46 = .ok (.ishr, 1) := by decide +kernel
theorem dX12_reckons_47 : decode cX12_reckons 47 = .ok (.istore 6, 2) := by decide +kernel
theorem dX12_reckons_49 : decode cX12_reckons 49 = .ok (.iload 5, 2) := by decide +kernel
theorem dX12_reckons_51 : decode cX12_reckons 51 = .ok (.ifCond .ne 13, 3) := by decide +kernel
theorem dX12_reckons_54 : decode cX12_reckons 54 = .ok (.aload_n 0, 1) := by decide +kernel
theorem dX12_reckons_55 : decode cX12_reckons 55 = .ok (.iload 6, 2) := by decide +kernel
theorem dX12_reckons_57 : decode cX12_reckons 57 = .ok (.i2l, 1) := by decide +kernel
theorem dX12_reckons_58 : decode cX12_reckons 58 = .ok (.invokevirtual 286, 3) := by decide +kernel
theorem dX12_reckons_61 : decode cX12_reckons 61 = .ok (.goto 68, 3) := by decide +kernel
theorem dX12_reckons_64 : decode cX12_reckons 64 = .ok (.iload 5, 2) := by decide +kernel
theorem dX12_reckons_66 : decode cX12_reckons 66 = .ok (.iconst 1, 1) := by decide +kernel
theorem dX12_reckons_67 : decode cX12_reckons 67 = .ok (.if_icmp .ne 17, 3) := by decide +kernel
theorem dX12_reckons_70 : decode cX12_reckons 70 = .ok (.aload_n 0, 1) := by decide +kernel
theorem dX12_reckons_71 : decode cX12_reckons 71 = .ok (.aload_n 0, 1) := by decide +kernel
theorem dX12_reckons_72 : decode cX12_reckons 72 = .ok (.getfield 36, 3) := by decide +kernel
theorem dX12_reckons_75 : decode cX12_reckons 75 = .ok (.iload 6, 2) := by decide +kernel
theorem dX12_reckons_77 : decode cX12_reckons 77 = .ok (.laload, 1) := by decide +kernel
theorem dX12_reckons_78 : decode cX12_reckons 78 = .ok (.invokevirtual 286, 3) := by decide +kernel
theorem dX12_reckons_81 : decode cX12_reckons 81 = .ok (.goto 48, 3) := by decide +kernel
theorem dX12_reckons_84 : decode cX12_reckons 84 = .ok (.iload 5, 2) := by decide +kernel
theorem dX12_reckons_86 : decode cX12_reckons 86 = .ok (.bipush 11, 2) := by decide +kernel
theorem dX12_reckons_88 : decode cX12_reckons 88 = .ok (.if_icmp .ne 16, 3) := by decide +kernel
theorem dX12_reckons_91 : decode cX12_reckons 91 = .ok (.aload_n 0, 1) := by decide +kernel
theorem dX12_reckons_92 : decode cX12_reckons 92 = .ok (.lconst 1, 1) := by decide +kernel
theorem dX12_reckons_93 : decode cX12_reckons 93 = .ok (.aload_n 0, 1) := by decide +kernel
theorem dX12_reckons_94 : decode cX12_reckons 94 = .ok (.invokevirtual 290, 3) := by decide +kernel
theorem dX12_reckons_97 : decode cX12_reckons 97 = .ok (.lsub, 1) := by decide +kernel
theorem dX12_reckons_98 : decode cX12_reckons 98 = .ok (.invokevirtual 286, 3) := by decide +kernel
theorem dX12_reckons_101 : decode cX12_reckons 101 = .ok (.goto 28, 3) := by decide +kernel
theorem dX12_reckons_104 : decode cX12_reckons 104 = .ok (.aload_n 0, 1) := by decide +kernel
theorem dX12_reckons_105 : decode cX12_reckons 105 = .ok (.invokevirtual 290, 3) := by decide +kernel
theorem dX12_reckons_108 : decode cX12_reckons 108 = .ok (.lstore 7, 2) := by decide +kernel
theorem dX12_reckons_110 : decode cX12_reckons 110 = .ok (.aload_n 0, 1) := by decide +kernel
theorem dX12_reckons_111 : decode cX12_reckons 111 = .ok (.invokevirtual 290, 3) := by decide +kernel
theorem dX12_reckons_114 : decode cX12_reckons 114 = .ok (.lstore 9, 2) := by decide +kernel
theorem dX12_reckons_116 : decode cX12_reckons 116 = .ok (.aload_n 0, 1) := by decide +kernel
theorem dX12_reckons_117 : decode cX12_reckons 117 = .ok (.iload 5, 2) := by decide +kernel
theorem dX12_reckons_119 : decode cX12_reckons 119 = .ok (.lload 9, 2) := by decide +kernel
theorem dX12_reckons_121 : decode cX12_reckons 121 = .ok (.lload 7, 2) := by decide +kernel
theorem dX12_reckons_123 : decode cX12_reckons 123 = .ok (.invokestatic 294, 3) := by decide +kernel
theorem dX12_reckons_126 : decode cX12_reckons 126 = .ok (.invokevirtual 286, 3) := by decide +kernel
theorem dX12_reckons_129 : decode cX12_reckons 129 = .ok (.iinc 4 1, 3) := by decide +kernel
theorem dX12_reckons_132 : decode cX12_reckons 132 = .ok (.goto (-124), 3) := by decide +kernel
theorem dX12_reckons_135 : decode cX12_reckons 135 = .ok (.aload_n 0, 1) := by decide +kernel
theorem dX12_reckons_136 : decode cX12_reckons 136 = .ok (.invokevirtual 290, 3) := by decide +kernel
theorem dX12_reckons_139 : decode cX12_reckons 139 = .ok (.lreturn, 1) := by decide +kernel
theorem vc_X12_286 : XVw RX12 286 1 11 3 yX12_push cX12_push none := ⟨RX12, TX12, tyX12, 43, xk_11, rfl, ⟨by decide, by decide⟩, by decide +kernel, wt_1368, wt_1370, ws_90, wt_11, wt_1371⟩
theorem vc_X12_290 : XVw RX12 290 0 11 1 yX12_pop cX12_pop (some .long) := ⟨RX12, TX12, tyX12, 43, xk_11, rfl, ⟨by decide, by decide⟩, by decide +kernel, wt_1372, wt_1374, ws_91, wt_11, wt_1375⟩
theorem vc_X12_294 : XSw RX12 294 3 5 yX12_one cX12_one (some .long) := ⟨⟨by decide, by decide⟩, by decide +kernel, wt_1376, wt_1377, wt_11, wt_1378⟩
noncomputable def bs_X12_reckons : List (Nat × XB) := [
  (0, (sq (xLA 0) (sq (xC (.int 0)) (sq (xPI 11 18) (sq (xLI 2) (sq (xSI 4) (tGo 8 [true, true, false, true, true, false, false, false, false, false, false]))))))),
  (8, (sq (xLI 4) (sq (xLI 3) (tIf2 (fun x y => decide (y ≤ x)) 135 [true, false, false, false, false, false, false, false, false, false, false] 14 [true, true, false, true, true, false, false, false, false, false, false])))),
  (14, (sq (xLA 0) (sq (xGS 11 42 1 0) (sq (xC (.int 400)) (sq (xLI 1) (sq (xI2 (· * ·)) (sq (xLI 4) (sq (xI2 (· + ·)) (sq (xAI 42 2400) (sq (xC (.int 15)) (sq (xI2 (· &&& ·)) (sq (xSI 5) (sq (xLA 0) (sq (xGS 11 42 1 0) (sq (xC (.int 400)) (sq (xLI 1) (sq (xI2 (· * ·)) (sq (xLI 4) (sq (xI2 (· + ·)) (sq (xAI 42 2400) (sq (xC (.int 4)) (sq (xI2 (fun x y => x >>> (y &&& 31))) (sq (xSI 6) (sq (xLI 5) (tIf1 (fun x => decide (¬ x = 0)) 64 [true, true, false, true, true, true, true, false, false, false, false] 54 [true, true, false, true, true, false, true, false, false, false, false]))))))))))))))))))))))))),
  (54, (sq (xLA 0) (sq (xLI 6) (sq (xI2L) (sq (xCV 11 2 F_X12_push) (tGo 129 [true, true, false, true, true, false, false, false, false, false, false])))))),
  (64, (sq (xLI 5) (sq (xC (.int 1)) (tIf2 (fun x y => decide (¬ x = y)) 84 [true, true, false, true, true, true, false, false, false, false, false] 70 [true, true, false, true, true, false, true, false, false, false, false])))),
  (70, (sq (xLA 0) (sq (xLA 0) (sq (xGS 11 49 1 0) (sq (xLI 6) (sq (xAJ 49 11) (sq (xCV 11 2 F_X12_push) (tGo 129 [true, true, false, true, true, false, false, false, false, false, false])))))))),
  (84, (sq (xLI 5) (sq (xC (.int 11)) (tIf2 (fun x y => decide (¬ x = y)) 104 [true, true, false, true, true, true, false, false, false, false, false] 91 [true, true, false, true, true, false, false, false, false, false, false])))),
  (91, (sq (xLA 0) (sq (xC (.long 1)) (sq (xLA 0) (sq (xCJ 11 1 F_X12_pop) (sq (xJ2 (· - ·)) (sq (xCV 11 2 F_X12_push) (tGo 129 [true, true, false, true, true, false, false, false, false, false, false])))))))),
  (104, (sq (xLA 0) (sq (xCJ 11 1 F_X12_pop) (sq (xSJ 7) (sq (xLA 0) (sq (xCJ 11 1 F_X12_pop) (sq (xSJ 9) (sq (xLA 0) (sq (xLI 5) (sq (xLJ 9) (sq (xLJ 7) (sq (xCJ 99 3 F_X12_one) (sq (xCV 11 2 F_X12_push) (tGo 129 [true, true, false, true, true, false, false, false, false, false, false])))))))))))))),
  (129, (sq (xInc 4 1) (tGo 8 [true, true, false, true, true, false, false, false, false, false, false]))),
  (135, (sq (xLA 0) (sq (xCJ 11 1 F_X12_pop) tRJ)))]
set_option maxRecDepth 100000 in
set_option maxHeartbeats 4000000 in
theorem s_X12_reckons : ∀ X : XCtx, XE X → X.2.2.1.1 = cX12_reckons → X.2.2.1.2.1 = 11 → X.2.2.1.2.2.1 = yX12_reckons.cls → X.2.2.1.2.2.2.1 = (some .long) → X.1.2.2.2.1 = { frames := 1, cells := 0, slots := 0, locals := 24 } → SndBs X bs_X12_reckons := by
  rintro ⟨⟨p, l, e, R, s⟩, Y, ⟨cc, nL, own, ret, Ts⟩, Z⟩ hE h1 h2 h3 h4 h5
  dsimp only at h1 h2 h3 h4 h5
  subst h1 h2 h3 h4 h5
  exact ⟨(n_sq (n_aload_n hE dX12_reckons_0) (n_sq (n_iconst hE (by decide) dX12_reckons_1) (n_sq (n_putI hE xk_11 (k := 18) rfl (by decide) rfl rfl (tyX12_ok 18 (by decide)) wt_978 dX12_reckons_2) (n_sq (n_iload_n hE dX12_reckons_5) (n_sq (n_istore hE (show (4 : Nat) < 11 by decide) dX12_reckons_6) n_fall))))),
    (n_sq (n_iload hE dX12_reckons_8) (n_sq (n_iload_n hE dX12_reckons_10) (n_ifcge hE (by decide) dX12_reckons_11))),
    (n_sq (n_aload_n hE dX12_reckons_14) (n_sq (n_getS hE xk_11 (k := 3) rfl (by decide) rfl wt_963 dX12_reckons_15) (n_sq (n_sipush hE (by decide) dX12_reckons_18) (n_sq (n_iload_n hE dX12_reckons_21) (n_sq (n_imul hE dX12_reckons_22) (n_sq (n_iload hE dX12_reckons_23) (n_sq (n_iadd hE dX12_reckons_25) (n_sq (n_iald hE rfl (by decide) dX12_reckons_26) (n_sq (n_bipush hE (by decide) dX12_reckons_27) (n_sq (n_iand hE dX12_reckons_29) (n_sq (n_istore hE (show (5 : Nat) < 11 by decide) dX12_reckons_30) (n_sq (n_aload_n hE dX12_reckons_32) (n_sq (n_getS hE xk_11 (k := 3) rfl (by decide) rfl wt_963 dX12_reckons_33) (n_sq (n_sipush hE (by decide) dX12_reckons_36) (n_sq (n_iload_n hE dX12_reckons_39) (n_sq (n_imul hE dX12_reckons_40) (n_sq (n_iload hE dX12_reckons_41) (n_sq (n_iadd hE dX12_reckons_43) (n_sq (n_iald hE rfl (by decide) dX12_reckons_44) (n_sq (n_iconst hE (by decide) dX12_reckons_45) (n_sq (n_ishr hE dX12_reckons_46) (n_sq (n_istore hE (show (6 : Nat) < 11 by decide) dX12_reckons_47) (n_sq (n_iload hE dX12_reckons_49) (n_ifne hE (by decide) dX12_reckons_51)))))))))))))))))))))))),
    (n_sq (n_aload_n hE dX12_reckons_54) (n_sq (n_iload hE dX12_reckons_55) (n_sq (n_i2l hE dX12_reckons_57) (n_sq (n_cVv hE m_X12_push vc_X12_286 (show 0 + 1 ≤ 1 ∧ 8 + (3 + 11) + 0 ≤ 24 by decide) dX12_reckons_58) (n_goto hE (by decide) dX12_reckons_61))))),
    (n_sq (n_iload hE dX12_reckons_64) (n_sq (n_iconst hE (by decide) dX12_reckons_66) (n_ifcne hE (by decide) dX12_reckons_67))),
    (n_sq (n_aload_n hE dX12_reckons_70) (n_sq (n_aload_n hE dX12_reckons_71) (n_sq (n_getS hE xk_11 (k := 19) rfl (by decide) rfl wt_979 dX12_reckons_72) (n_sq (n_iload hE dX12_reckons_75) (n_sq (n_lald hE rfl (by decide) dX12_reckons_77) (n_sq (n_cVv hE m_X12_push vc_X12_286 (show 0 + 1 ≤ 1 ∧ 8 + (3 + 11) + 0 ≤ 24 by decide) dX12_reckons_78) (n_goto hE (by decide) dX12_reckons_81))))))),
    (n_sq (n_iload hE dX12_reckons_84) (n_sq (n_bipush hE (by decide) dX12_reckons_86) (n_ifcne hE (by decide) dX12_reckons_88))),
    (n_sq (n_aload_n hE dX12_reckons_91) (n_sq (n_lconst hE (by decide) dX12_reckons_92) (n_sq (n_aload_n hE dX12_reckons_93) (n_sq (n_cJv hE m_X12_pop vc_X12_290 (show 0 + 1 ≤ 1 ∧ 8 + (1 + 11) + 0 ≤ 24 by decide) dX12_reckons_94) (n_sq (n_lsub hE dX12_reckons_97) (n_sq (n_cVv hE m_X12_push vc_X12_286 (show 0 + 1 ≤ 1 ∧ 8 + (3 + 11) + 0 ≤ 24 by decide) dX12_reckons_98) (n_goto hE (by decide) dX12_reckons_101))))))),
    (n_sq (n_aload_n hE dX12_reckons_104) (n_sq (n_cJv hE m_X12_pop vc_X12_290 (show 0 + 1 ≤ 1 ∧ 8 + (1 + 11) + 0 ≤ 24 by decide) dX12_reckons_105) (n_sq (n_lstore hE (show (7 : Nat) + 1 < 11 by decide) dX12_reckons_108) (n_sq (n_aload_n hE dX12_reckons_110) (n_sq (n_cJv hE m_X12_pop vc_X12_290 (show 0 + 1 ≤ 1 ∧ 8 + (1 + 11) + 0 ≤ 24 by decide) dX12_reckons_111) (n_sq (n_lstore hE (show (9 : Nat) + 1 < 11 by decide) dX12_reckons_114) (n_sq (n_aload_n hE dX12_reckons_116) (n_sq (n_iload hE dX12_reckons_117) (n_sq (n_lload hE dX12_reckons_119) (n_sq (n_lload hE dX12_reckons_121) (n_sq (n_cJs hE m_X12_one vc_X12_294 (show 0 + 1 ≤ 1 ∧ 8 + (5 + 11) + 0 ≤ 24 by decide) dX12_reckons_123) (n_sq (n_cVv hE m_X12_push vc_X12_286 (show 0 + 1 ≤ 1 ∧ 8 + (3 + 11) + 0 ≤ 24 by decide) dX12_reckons_126) n_fall)))))))))))),
    (n_sq (n_iinc hE (by decide) (show (4 : Nat) < 11 by decide) dX12_reckons_129) (n_goto hE (by decide) dX12_reckons_132)),
    (n_sq (n_aload_n hE dX12_reckons_135) (n_sq (n_cJv hE m_X12_pop vc_X12_290 (show 0 + 1 ≤ 1 ∧ 8 + (1 + 11) + 0 ≤ 24 by decide) dX12_reckons_136) (n_lreturn hE rfl dX12_reckons_139))), trivial⟩
noncomputable def F_X12_reckons (as : List XV) (w : XW) : Option (Int64 × XW) := (xF 11 bs_X12_reckons as w).bind pJ
theorem m_X12_reckons : XM yX12_reckons cX12_reckons 11 (some .long) 1 24 (eJ F_X12_reckons) := xm_J (xm_of (by decide) s_X12_reckons)
noncomputable def q_X12_reckons_0 (x1 : Int32) (x2 : Int32) (x3 : Int32) (w : XW) : Option XR := ev bs_X12_reckons 0 ([some (.inr (11, 0)), some (.inl (.int x1)), some (.inl (.int x2)), some (.inl (.int x3)), none, none, none, none, none, none, none], [], w)
noncomputable def q_X12_reckons_8 (x1 : Int32) (x3 : Int32) (x4 : Int32) (w : XW) : Option XR := ev bs_X12_reckons 8 ([some (.inr (11, 0)), some (.inl (.int x1)), none, some (.inl (.int x3)), some (.inl (.int x4)), none, none, none, none, none, none], [], w)
noncomputable def q_X12_reckons_14 (x1 : Int32) (x3 : Int32) (x4 : Int32) (w : XW) : Option XR := ev bs_X12_reckons 14 ([some (.inr (11, 0)), some (.inl (.int x1)), none, some (.inl (.int x3)), some (.inl (.int x4)), none, none, none, none, none, none], [], w)
noncomputable def q_X12_reckons_54 (x1 : Int32) (x3 : Int32) (x4 : Int32) (x6 : Int32) (w : XW) : Option XR := ev bs_X12_reckons 54 ([some (.inr (11, 0)), some (.inl (.int x1)), none, some (.inl (.int x3)), some (.inl (.int x4)), none, some (.inl (.int x6)), none, none, none, none], [], w)
noncomputable def q_X12_reckons_64 (x1 : Int32) (x3 : Int32) (x4 : Int32) (x5 : Int32) (x6 : Int32) (w : XW) : Option XR := ev bs_X12_reckons 64 ([some (.inr (11, 0)), some (.inl (.int x1)), none, some (.inl (.int x3)), some (.inl (.int x4)), some (.inl (.int x5)), some (.inl (.int x6)), none, none, none, none], [], w)
noncomputable def q_X12_reckons_70 (x1 : Int32) (x3 : Int32) (x4 : Int32) (x6 : Int32) (w : XW) : Option XR := ev bs_X12_reckons 70 ([some (.inr (11, 0)), some (.inl (.int x1)), none, some (.inl (.int x3)), some (.inl (.int x4)), none, some (.inl (.int x6)), none, none, none, none], [], w)
noncomputable def q_X12_reckons_84 (x1 : Int32) (x3 : Int32) (x4 : Int32) (x5 : Int32) (w : XW) : Option XR := ev bs_X12_reckons 84 ([some (.inr (11, 0)), some (.inl (.int x1)), none, some (.inl (.int x3)), some (.inl (.int x4)), some (.inl (.int x5)), none, none, none, none, none], [], w)
noncomputable def q_X12_reckons_91 (x1 : Int32) (x3 : Int32) (x4 : Int32) (w : XW) : Option XR := ev bs_X12_reckons 91 ([some (.inr (11, 0)), some (.inl (.int x1)), none, some (.inl (.int x3)), some (.inl (.int x4)), none, none, none, none, none, none], [], w)
noncomputable def q_X12_reckons_104 (x1 : Int32) (x3 : Int32) (x4 : Int32) (x5 : Int32) (w : XW) : Option XR := ev bs_X12_reckons 104 ([some (.inr (11, 0)), some (.inl (.int x1)), none, some (.inl (.int x3)), some (.inl (.int x4)), some (.inl (.int x5)), none, none, none, none, none], [], w)
noncomputable def q_X12_reckons_129 (x1 : Int32) (x3 : Int32) (x4 : Int32) (w : XW) : Option XR := ev bs_X12_reckons 129 ([some (.inr (11, 0)), some (.inl (.int x1)), none, some (.inl (.int x3)), some (.inl (.int x4)), none, none, none, none, none, none], [], w)
noncomputable def q_X12_reckons_135 (w : XW) : Option XR := ev bs_X12_reckons 135 ([some (.inr (11, 0)), none, none, none, none, none, none, none, none, none, none], [], w)
theorem e_X12_reckons_0 (x1 : Int32) (x2 : Int32) (x3 : Int32) (w : XW) : q_X12_reckons_0 x1 x2 x3 w = (q_X12_reckons_8 x1 x3 x2 (sI w 11 0 18 0)) := (ev_eq _ _ _).trans rfl
theorem e_X12_reckons_8 (x1 : Int32) (x3 : Int32) (x4 : Int32) (w : XW) : q_X12_reckons_8 x1 x3 x4 w = (bif decide (x3 ≤ x4) then (q_X12_reckons_135 w) else (q_X12_reckons_14 x1 x3 x4 w)) := (ev_eq _ _ _).trans rfl
theorem e_X12_reckons_14 (x1 : Int32) (x3 : Int32) (x4 : Int32) (w : XW) : q_X12_reckons_14 x1 x3 x4 w = (if ((400 * x1) + x4) < 0 ∨ 2400 ≤ ((400 * x1) + x4).toNatClampNeg then none else (if ((400 * x1) + x4) < 0 ∨ 2400 ≤ ((400 * x1) + x4).toNatClampNeg then none else (bif decide (¬ ((gI w 42 0 ((400 * x1) + x4).toNatClampNeg) &&& 15) = 0) then (q_X12_reckons_64 x1 x3 x4 ((gI w 42 0 ((400 * x1) + x4).toNatClampNeg) &&& 15) (((gI w 42 0 ((400 * x1) + x4).toNatClampNeg) : Int32) >>> ((4 : Int32) &&& 31)) w) else (q_X12_reckons_54 x1 x3 x4 (((gI w 42 0 ((400 * x1) + x4).toNatClampNeg) : Int32) >>> ((4 : Int32) &&& 31)) w)))) := (ev_eq _ _ _).trans rfl
theorem e_X12_reckons_54 (x1 : Int32) (x3 : Int32) (x4 : Int32) (x6 : Int32) (w : XW) : q_X12_reckons_54 x1 x3 x4 x6 w = ((F_X12_push [.inr (11, 0), .inl (.long (x6 : Int32).toInt64)] w).bind fun r0 => (q_X12_reckons_129 x1 x3 x4 r0)) := (ev_eq _ _ _).trans rfl
theorem e_X12_reckons_64 (x1 : Int32) (x3 : Int32) (x4 : Int32) (x5 : Int32) (x6 : Int32) (w : XW) : q_X12_reckons_64 x1 x3 x4 x5 x6 w = (bif decide (¬ x5 = 1) then (q_X12_reckons_84 x1 x3 x4 x5 w) else (q_X12_reckons_70 x1 x3 x4 x6 w)) := (ev_eq _ _ _).trans rfl
theorem e_X12_reckons_70 (x1 : Int32) (x3 : Int32) (x4 : Int32) (x6 : Int32) (w : XW) : q_X12_reckons_70 x1 x3 x4 x6 w = (if x6 < 0 ∨ 11 ≤ x6.toNatClampNeg then none else ((F_X12_push [.inr (11, 0), .inl (.long (gJ w 49 0 x6.toNatClampNeg))] w).bind fun r0 => (q_X12_reckons_129 x1 x3 x4 r0))) := (ev_eq _ _ _).trans rfl
theorem e_X12_reckons_84 (x1 : Int32) (x3 : Int32) (x4 : Int32) (x5 : Int32) (w : XW) : q_X12_reckons_84 x1 x3 x4 x5 w = (bif decide (¬ x5 = 11) then (q_X12_reckons_104 x1 x3 x4 x5 w) else (q_X12_reckons_91 x1 x3 x4 w)) := (ev_eq _ _ _).trans rfl
theorem e_X12_reckons_91 (x1 : Int32) (x3 : Int32) (x4 : Int32) (w : XW) : q_X12_reckons_91 x1 x3 x4 w = ((F_X12_pop [.inr (11, 0)] w).bind fun r0 => ((F_X12_push [.inr (11, 0), .inl (.long (1 - r0.1))] r0.2).bind fun r1 => (q_X12_reckons_129 x1 x3 x4 r1))) := (ev_eq _ _ _).trans rfl
theorem e_X12_reckons_104 (x1 : Int32) (x3 : Int32) (x4 : Int32) (x5 : Int32) (w : XW) : q_X12_reckons_104 x1 x3 x4 x5 w = ((F_X12_pop [.inr (11, 0)] w).bind fun r0 => ((F_X12_pop [.inr (11, 0)] r0.2).bind fun r1 => ((F_X12_one [.inl (.int x5), .inl (.long r1.1), .inl (.long r0.1)] r1.2).bind fun r2 => ((F_X12_push [.inr (11, 0), .inl (.long r2.1)] r2.2).bind fun r3 => (q_X12_reckons_129 x1 x3 x4 r3))))) := (ev_eq _ _ _).trans rfl
theorem e_X12_reckons_129 (x1 : Int32) (x3 : Int32) (x4 : Int32) (w : XW) : q_X12_reckons_129 x1 x3 x4 w = (q_X12_reckons_8 x1 x3 (x4 + 1) w) := (ev_eq _ _ _).trans rfl
theorem e_X12_reckons_135 (w : XW) : q_X12_reckons_135 w = ((F_X12_pop [.inr (11, 0)] w).bind fun r0 => (some (some (.inl (.long r0.1)), r0.2))) := (ev_eq _ _ _).trans rfl
theorem f_X12_reckons (x1 : Int32) (x2 : Int32) (x3 : Int32) (w : XW) : F_X12_reckons [.inr (11, 0), .inl (.int x1), .inl (.int x2), .inl (.int x3)] w = (q_X12_reckons_0 x1 x2 x3 w).bind pJ := rfl

-- WinterKeepModel.isDale()Z
theorem dX12_isDale_0 : decode cX12_isDale 0 = .ok (.aload_n 0, 1) := by decide +kernel
theorem dX12_isDale_1 : decode cX12_isDale 1 = .ok (.getfield 39, 3) := by decide +kernel
theorem dX12_isDale_4 : decode cX12_isDale 4 = .ok (.iconst 0, 1) := by decide +kernel
theorem dX12_isDale_5 : decode cX12_isDale 5 = .ok (.iaload, 1) := by decide +kernel
theorem dX12_isDale_6 : decode cX12_isDale 6 = .ok (.iconst 1, 1) := by decide +kernel
theorem dX12_isDale_7 : decode cX12_isDale 7 = .ok (.if_icmp .ne 7, 3) := by decide +kernel
theorem dX12_isDale_10 : decode cX12_isDale 10 = .ok (.iconst 1, 1) := by decide +kernel
theorem dX12_isDale_11 : decode cX12_isDale 11 = .ok (.goto 4, 3) := by decide +kernel
theorem dX12_isDale_14 : decode cX12_isDale 14 = .ok (.iconst 0, 1) := by decide +kernel
theorem dX12_isDale_15 : decode cX12_isDale 15 = .ok (.ireturn, 1) := by decide +kernel
noncomputable def bs_X12_isDale : List (Nat × XB) := [
  (0, (sq (xLA 0) (sq (xGS 11 50 1 0) (sq (xC (.int 0)) (sq (xAI 50 98) (sq (xC (.int 1)) (tIf2 (fun x y => decide (¬ x = y)) 14 [false] 10 [false]))))))),
  (10, (sq (xC (.int 1)) (tGo 15 [false]))),
  (14, (sq (xC (.int 0)) (tGo 15 [false]))),
  (15, tRZ)]
set_option maxRecDepth 100000 in
set_option maxHeartbeats 4000000 in
theorem s_X12_isDale : ∀ X : XCtx, XE X → X.2.2.1.1 = cX12_isDale → X.2.2.1.2.1 = 1 → X.2.2.1.2.2.1 = yX12_isDale.cls → X.2.2.1.2.2.2.1 = (some .boolean) → X.1.2.2.2.1 = { frames := 0, cells := 0, slots := 0, locals := 0 } → SndBs X bs_X12_isDale := by
  rintro ⟨⟨p, l, e, R, s⟩, Y, ⟨cc, nL, own, ret, Ts⟩, Z⟩ hE h1 h2 h3 h4 h5
  dsimp only at h1 h2 h3 h4 h5
  subst h1 h2 h3 h4 h5
  exact ⟨(n_sq (n_aload_n hE dX12_isDale_0) (n_sq (n_getS hE xk_11 (k := 20) rfl (by decide) rfl wt_980 dX12_isDale_1) (n_sq (n_iconst hE (by decide) dX12_isDale_4) (n_sq (n_iald hE rfl (by decide) dX12_isDale_5) (n_sq (n_iconst hE (by decide) dX12_isDale_6) (n_ifcne hE (by decide) dX12_isDale_7)))))),
    (n_sq (n_iconst hE (by decide) dX12_isDale_10) (n_goto hE (by decide) dX12_isDale_11)),
    (n_sq (n_iconst hE (by decide) dX12_isDale_14) n_fall),
    (n_zreturn hE rfl dX12_isDale_15), trivial⟩
noncomputable def F_X12_isDale (as : List XV) (w : XW) : Option (Int32 × XW) := (xF 1 bs_X12_isDale as w).bind pI
theorem m_X12_isDale : XM yX12_isDale cX12_isDale 1 (some .boolean) 0 0 (eI F_X12_isDale) := xm_I (xm_of (by decide) s_X12_isDale)
noncomputable def q_X12_isDale_0 (w : XW) : Option XR := ev bs_X12_isDale 0 ([some (.inr (11, 0))], [], w)
noncomputable def q_X12_isDale_10 (w : XW) : Option XR := ev bs_X12_isDale 10 ([none], [], w)
noncomputable def q_X12_isDale_14 (w : XW) : Option XR := ev bs_X12_isDale 14 ([none], [], w)
noncomputable def q_X12_isDale_15 (s0 : Int32) (w : XW) : Option XR := ev bs_X12_isDale 15 ([none], [.inl (.int s0)], w)
theorem e_X12_isDale_0 (w : XW) : q_X12_isDale_0 w = (bif decide (¬ (gI w 50 0 0) = 1) then (q_X12_isDale_14 w) else (q_X12_isDale_10 w)) := (ev_eq _ _ _).trans rfl
theorem e_X12_isDale_10 (w : XW) : q_X12_isDale_10 w = (q_X12_isDale_15 1 w) := (ev_eq _ _ _).trans rfl
theorem e_X12_isDale_14 (w : XW) : q_X12_isDale_14 w = (q_X12_isDale_15 0 w) := (ev_eq _ _ _).trans rfl
theorem e_X12_isDale_15 (s0 : Int32) (w : XW) : q_X12_isDale_15 s0 w = (if s0 = 0 ∨ s0 = 1 then some (some (.inl (.int s0)), w) else none) := (ev_eq _ _ _).trans rfl
theorem f_X12_isDale (w : XW) : F_X12_isDale [.inr (11, 0)] w = (q_X12_isDale_0 w).bind pI := rfl

-- WinterKeepModel.isKeep(I)Z
theorem dX12_isKeep_0 : decode cX12_isKeep 0 = .ok (.iload_n 1, 1) := by decide +kernel
theorem dX12_isKeep_1 : decode cX12_isKeep 1 = .ok (.ifCond .lt 17, 3) := by decide +kernel
theorem dX12_isKeep_4 : decode cX12_isKeep 4 = .ok (.iload_n 1, 1) := by decide +kernel
theorem dX12_isKeep_5 : decode cX12_isKeep 5 = .ok (.aload_n 0, 1) := by decide +kernel
theorem dX12_isKeep_6 : decode cX12_isKeep 6 = .ok (.getfield 39, 3) := by decide +kernel
theorem dX12_isKeep_9 : decode cX12_isKeep 9 = .ok (.iconst 3, 1) := by decide +kernel
theorem dX12_isKeep_10 : decode cX12_isKeep 10 = .ok (.iaload, 1) := by decide +kernel
theorem dX12_isKeep_11 : decode cX12_isKeep 11 = .ok (.if_icmp .ge 7, 3) := by decide +kernel
theorem dX12_isKeep_14 : decode cX12_isKeep 14 = .ok (.iconst 1, 1) := by decide +kernel
theorem dX12_isKeep_15 : decode cX12_isKeep 15 = .ok (.goto 4, 3) := by decide +kernel
theorem dX12_isKeep_18 : decode cX12_isKeep 18 = .ok (.iconst 0, 1) := by decide +kernel
theorem dX12_isKeep_19 : decode cX12_isKeep 19 = .ok (.ireturn, 1) := by decide +kernel
noncomputable def bs_X12_isKeep : List (Nat × XB) := [
  (0, (sq (xLI 1) (tIf1 (fun x => decide (x < 0)) 18 [false, false] 4 [true, true]))),
  (4, (sq (xLI 1) (sq (xLA 0) (sq (xGS 11 50 1 0) (sq (xC (.int 3)) (sq (xAI 50 98) (tIf2 (fun x y => decide (y ≤ x)) 18 [false, false] 14 [false, false]))))))),
  (14, (sq (xC (.int 1)) (tGo 19 [false, false]))),
  (18, (sq (xC (.int 0)) (tGo 19 [false, false]))),
  (19, tRZ)]
set_option maxRecDepth 100000 in
set_option maxHeartbeats 4000000 in
theorem s_X12_isKeep : ∀ X : XCtx, XE X → X.2.2.1.1 = cX12_isKeep → X.2.2.1.2.1 = 2 → X.2.2.1.2.2.1 = yX12_isKeep.cls → X.2.2.1.2.2.2.1 = (some .boolean) → X.1.2.2.2.1 = { frames := 0, cells := 0, slots := 0, locals := 0 } → SndBs X bs_X12_isKeep := by
  rintro ⟨⟨p, l, e, R, s⟩, Y, ⟨cc, nL, own, ret, Ts⟩, Z⟩ hE h1 h2 h3 h4 h5
  dsimp only at h1 h2 h3 h4 h5
  subst h1 h2 h3 h4 h5
  exact ⟨(n_sq (n_iload_n hE dX12_isKeep_0) (n_iflt hE (by decide) dX12_isKeep_1)),
    (n_sq (n_iload_n hE dX12_isKeep_4) (n_sq (n_aload_n hE dX12_isKeep_5) (n_sq (n_getS hE xk_11 (k := 20) rfl (by decide) rfl wt_980 dX12_isKeep_6) (n_sq (n_iconst hE (by decide) dX12_isKeep_9) (n_sq (n_iald hE rfl (by decide) dX12_isKeep_10) (n_ifcge hE (by decide) dX12_isKeep_11)))))),
    (n_sq (n_iconst hE (by decide) dX12_isKeep_14) (n_goto hE (by decide) dX12_isKeep_15)),
    (n_sq (n_iconst hE (by decide) dX12_isKeep_18) n_fall),
    (n_zreturn hE rfl dX12_isKeep_19), trivial⟩
noncomputable def F_X12_isKeep (as : List XV) (w : XW) : Option (Int32 × XW) := (xF 2 bs_X12_isKeep as w).bind pI
theorem m_X12_isKeep : XM yX12_isKeep cX12_isKeep 2 (some .boolean) 0 0 (eI F_X12_isKeep) := xm_I (xm_of (by decide) s_X12_isKeep)
noncomputable def q_X12_isKeep_0 (x1 : Int32) (w : XW) : Option XR := ev bs_X12_isKeep 0 ([some (.inr (11, 0)), some (.inl (.int x1))], [], w)
noncomputable def q_X12_isKeep_4 (x1 : Int32) (w : XW) : Option XR := ev bs_X12_isKeep 4 ([some (.inr (11, 0)), some (.inl (.int x1))], [], w)
noncomputable def q_X12_isKeep_14 (w : XW) : Option XR := ev bs_X12_isKeep 14 ([none, none], [], w)
noncomputable def q_X12_isKeep_18 (w : XW) : Option XR := ev bs_X12_isKeep 18 ([none, none], [], w)
noncomputable def q_X12_isKeep_19 (s0 : Int32) (w : XW) : Option XR := ev bs_X12_isKeep 19 ([none, none], [.inl (.int s0)], w)
theorem e_X12_isKeep_0 (x1 : Int32) (w : XW) : q_X12_isKeep_0 x1 w = (bif decide (x1 < 0) then (q_X12_isKeep_18 w) else (q_X12_isKeep_4 x1 w)) := (ev_eq _ _ _).trans rfl
theorem e_X12_isKeep_4 (x1 : Int32) (w : XW) : q_X12_isKeep_4 x1 w = (bif decide ((gI w 50 0 3) ≤ x1) then (q_X12_isKeep_18 w) else (q_X12_isKeep_14 w)) := (ev_eq _ _ _).trans rfl
theorem e_X12_isKeep_14 (w : XW) : q_X12_isKeep_14 w = (q_X12_isKeep_19 1 w) := (ev_eq _ _ _).trans rfl
theorem e_X12_isKeep_18 (w : XW) : q_X12_isKeep_18 w = (q_X12_isKeep_19 0 w) := (ev_eq _ _ _).trans rfl
theorem e_X12_isKeep_19 (s0 : Int32) (w : XW) : q_X12_isKeep_19 s0 w = (if s0 = 0 ∨ s0 = 1 then some (some (.inl (.int s0)), w) else none) := (ev_eq _ _ _).trans rfl
theorem f_X12_isKeep (x1 : Int32) (w : XW) : F_X12_isKeep [.inr (11, 0), .inl (.int x1)] w = (q_X12_isKeep_0 x1 w).bind pI := rfl

-- WinterKeepModel.isPerson(I)Z
theorem dX12_isPerson_0 : decode cX12_isPerson 0 = .ok (.iload_n 1, 1) := by decide +kernel
theorem dX12_isPerson_1 : decode cX12_isPerson 1 = .ok (.ifCond .lt 17, 3) := by decide +kernel
theorem dX12_isPerson_4 : decode cX12_isPerson 4 = .ok (.iload_n 1, 1) := by decide +kernel
theorem dX12_isPerson_5 : decode cX12_isPerson 5 = .ok (.aload_n 0, 1) := by decide +kernel
theorem dX12_isPerson_6 : decode cX12_isPerson 6 = .ok (.getfield 39, 3) := by decide +kernel
theorem dX12_isPerson_9 : decode cX12_isPerson 9 = .ok (.iconst 4, 1) := by decide +kernel
theorem dX12_isPerson_10 : decode cX12_isPerson 10 = .ok (.iaload, 1) := by decide +kernel
theorem dX12_isPerson_11 : decode cX12_isPerson 11 = .ok (.if_icmp .ge 7, 3) := by decide +kernel
theorem dX12_isPerson_14 : decode cX12_isPerson 14 = .ok (.iconst 1, 1) := by decide +kernel
theorem dX12_isPerson_15 : decode cX12_isPerson 15 = .ok (.goto 4, 3) := by decide +kernel
theorem dX12_isPerson_18 : decode cX12_isPerson 18 = .ok (.iconst 0, 1) := by decide +kernel
theorem dX12_isPerson_19 : decode cX12_isPerson 19 = .ok (.ireturn, 1) := by decide +kernel
noncomputable def bs_X12_isPerson : List (Nat × XB) := [
  (0, (sq (xLI 1) (tIf1 (fun x => decide (x < 0)) 18 [false, false] 4 [true, true]))),
  (4, (sq (xLI 1) (sq (xLA 0) (sq (xGS 11 50 1 0) (sq (xC (.int 4)) (sq (xAI 50 98) (tIf2 (fun x y => decide (y ≤ x)) 18 [false, false] 14 [false, false]))))))),
  (14, (sq (xC (.int 1)) (tGo 19 [false, false]))),
  (18, (sq (xC (.int 0)) (tGo 19 [false, false]))),
  (19, tRZ)]
set_option maxRecDepth 100000 in
set_option maxHeartbeats 4000000 in
theorem s_X12_isPerson : ∀ X : XCtx, XE X → X.2.2.1.1 = cX12_isPerson → X.2.2.1.2.1 = 2 → X.2.2.1.2.2.1 = yX12_isPerson.cls → X.2.2.1.2.2.2.1 = (some .boolean) → X.1.2.2.2.1 = { frames := 0, cells := 0, slots := 0, locals := 0 } → SndBs X bs_X12_isPerson := by
  rintro ⟨⟨p, l, e, R, s⟩, Y, ⟨cc, nL, own, ret, Ts⟩, Z⟩ hE h1 h2 h3 h4 h5
  dsimp only at h1 h2 h3 h4 h5
  subst h1 h2 h3 h4 h5
  exact ⟨(n_sq (n_iload_n hE dX12_isPerson_0) (n_iflt hE (by decide) dX12_isPerson_1)),
    (n_sq (n_iload_n hE dX12_isPerson_4) (n_sq (n_aload_n hE dX12_isPerson_5) (n_sq (n_getS hE xk_11 (k := 20) rfl (by decide) rfl wt_980 dX12_isPerson_6) (n_sq (n_iconst hE (by decide) dX12_isPerson_9) (n_sq (n_iald hE rfl (by decide) dX12_isPerson_10) (n_ifcge hE (by decide) dX12_isPerson_11)))))),
    (n_sq (n_iconst hE (by decide) dX12_isPerson_14) (n_goto hE (by decide) dX12_isPerson_15)),
    (n_sq (n_iconst hE (by decide) dX12_isPerson_18) n_fall),
    (n_zreturn hE rfl dX12_isPerson_19), trivial⟩
noncomputable def F_X12_isPerson (as : List XV) (w : XW) : Option (Int32 × XW) := (xF 2 bs_X12_isPerson as w).bind pI
theorem m_X12_isPerson : XM yX12_isPerson cX12_isPerson 2 (some .boolean) 0 0 (eI F_X12_isPerson) := xm_I (xm_of (by decide) s_X12_isPerson)
noncomputable def q_X12_isPerson_0 (x1 : Int32) (w : XW) : Option XR := ev bs_X12_isPerson 0 ([some (.inr (11, 0)), some (.inl (.int x1))], [], w)
noncomputable def q_X12_isPerson_4 (x1 : Int32) (w : XW) : Option XR := ev bs_X12_isPerson 4 ([some (.inr (11, 0)), some (.inl (.int x1))], [], w)
noncomputable def q_X12_isPerson_14 (w : XW) : Option XR := ev bs_X12_isPerson 14 ([none, none], [], w)
noncomputable def q_X12_isPerson_18 (w : XW) : Option XR := ev bs_X12_isPerson 18 ([none, none], [], w)
noncomputable def q_X12_isPerson_19 (s0 : Int32) (w : XW) : Option XR := ev bs_X12_isPerson 19 ([none, none], [.inl (.int s0)], w)
theorem e_X12_isPerson_0 (x1 : Int32) (w : XW) : q_X12_isPerson_0 x1 w = (bif decide (x1 < 0) then (q_X12_isPerson_18 w) else (q_X12_isPerson_4 x1 w)) := (ev_eq _ _ _).trans rfl
theorem e_X12_isPerson_4 (x1 : Int32) (w : XW) : q_X12_isPerson_4 x1 w = (bif decide ((gI w 50 0 4) ≤ x1) then (q_X12_isPerson_18 w) else (q_X12_isPerson_14 w)) := (ev_eq _ _ _).trans rfl
theorem e_X12_isPerson_14 (w : XW) : q_X12_isPerson_14 w = (q_X12_isPerson_19 1 w) := (ev_eq _ _ _).trans rfl
theorem e_X12_isPerson_18 (w : XW) : q_X12_isPerson_18 w = (q_X12_isPerson_19 0 w) := (ev_eq _ _ _).trans rfl
theorem e_X12_isPerson_19 (s0 : Int32) (w : XW) : q_X12_isPerson_19 s0 w = (if s0 = 0 ∨ s0 = 1 then some (some (.inl (.int s0)), w) else none) := (ev_eq _ _ _).trans rfl
theorem f_X12_isPerson (x1 : Int32) (w : XW) : F_X12_isPerson [.inr (11, 0), .inl (.int x1)] w = (q_X12_isPerson_0 x1 w).bind pI := rfl
