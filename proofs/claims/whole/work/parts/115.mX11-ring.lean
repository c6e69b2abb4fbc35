-- WinterKeep.ring(I)I
theorem dX11_ring_0 : decode cX11_ring 0 = .ok (.aload_n 0, 1) := by decide +kernel
theorem dX11_ring_1 : decode cX11_ring 1 = .ok (.getfield 39, 3) := by decide +kernel
theorem dX11_ring_4 : decode cX11_ring 4 = .ok (.getfield 227, 3) := by decide +kernel
theorem dX11_ring_7 : decode cX11_ring 7 = .ok (.ifCond .eq 12, 3) := by decide +kernel
theorem dX11_ring_10 : decode cX11_ring 10 = .ok (.iload_n 1, 1) := by decide +kernel
theorem dX11_ring_11 : decode cX11_ring 11 = .ok (.iconst 0, 1) := by decide +kernel
theorem dX11_ring_12 : decode cX11_ring 12 = .ok (.iconst 1, 1) := by decide +kernel
theorem dX11_ring_13 : decode cX11_ring 13 = .ok (.invokestatic 170, 3) := by decide +kernel
theorem dX11_ring_16 : decode cX11_ring 16 = .ok (.ifCond .ne 5, 3) := by decide +kernel
theorem dX11_ring_19 : decode cX11_ring 19 = .ok (.iconst (-1), 1) := by decide +kernel
theorem dX11_ring_20 : decode cX11_ring 20 = .ok (.ireturn, 1) := by decide +kernel
theorem dX11_ring_21 : decode cX11_ring 21 = .ok (.aload_n 0, 1) := by decide +kernel
theorem dX11_ring_22 : decode cX11_ring 22 = .ok (.invokevirtual 250, 3) := by decide +kernel
theorem dX11_ring_25 : decode cX11_ring 25 = .ok (.iconst 0, 1) := by decide +kernel
theorem dX11_ring_26 : decode cX11_ring 26 = .ok (.istore_n 2, 1) := by decide +kernel
theorem dX11_ring_27 : decode cX11_ring 27 = .ok (.iload_n 2, 1) := by decide +kernel
theorem dX11_ring_28 : decode cX11_ring 28 = .ok (.bipush 60, 2) := by decide +kernel
theorem dX11_ring_30 : decode cX11_ring 30 = .ok (.if_icmp .gt 55, 3) := by decide +kernel
theorem dX11_ring_33 : decode cX11_ring 33 = .ok (.aload_n 0, 1) := by decide +kernel
theorem dX11_ring_34 : decode cX11_ring 34 = .ok (.getfield 100, 3) := by decide +kernel
theorem dX11_ring_37 : decode cX11_ring 37 = .ok (.iconst 2, 1) := by decide +kernel
theorem dX11_ring_38 : decode cX11_ring 38 = .ok (.iload_n 2, 1) := by decide +kernel
theorem dX11_ring_39 : decode cX11_ring 39 = .ok (.imul, 1) := by decide +kernel
theorem dX11_ring_40 : decode cX11_ring 40 = .ok (.aload_n 0, 1) := by decide +kernel
theorem dX11_ring_41 : decode cX11_ring 41 = .ok (.getfield 50, 3) := by decide +kernel
theorem dX11_ring_44 : decode cX11_ring 44 = .ok (.iconst 0, 1) := by decide +kernel
theorem dX11_ring_45 : decode cX11_ring 45 = .ok (.invokevirtual 299, 3) := by decide +kernel
theorem dX11_ring_48 : decode cX11_ring 48 = .ok (.lastore, 1) := by decide +kernel
theorem dX11_ring_49 : decode cX11_ring 49 = .ok (.aload_n 0, 1) := by decide +kernel
theorem dX11_ring_50 : decode cX11_ring 50 = .ok (.getfield 100, 3) := by decide +kernel
theorem dX11_ring_53 : decode cX11_ring 53 = .ok (.iconst 2, 1) := by decide +kernel
theorem dX11_ring_54 : decode cX11_ring 54 = .ok (.iload_n 2, 1) := by decide +kernel
theorem dX11_ring_55 : decode cX11_ring 55 = .ok (.imul, 1) := by decide +kernel
theorem dX11_ring_56 : decode cX11_ring 56 = .ok (.iconst 1, 1) := by decide +kernel
theorem dX11_ring_57 : decode cX11_ring 57 = .ok (.iadd, 1) := by decide +kernel
theorem dX11_ring_58 : decode cX11_ring 58 = .ok (.aload_n 0, 1) := by decide +kernel
theorem dX11_ring_59 : decode cX11_ring 59 = .ok (.getfield 50, 3) := by decide +kernel
theorem dX11_ring_62 : decode cX11_ring 62 = .ok (.iconst 3, 1) := by decide +kernel
theorem dX11_ring_63 : decode cX11_ring 63 = .ok (.invokevirtual 299, 3) := by decide +kernel
theorem dX11_ring_66 : decode cX11_ring 66 = .ok (.lastore, 1) := by decide +kernel
theorem dX11_ring_67 : decode cX11_ring 67 = .ok (.aload_n 0, 1) := by decide +kernel
theorem dX11_ring_68 : decode cX11_ring 68 = .ok (.getfield 56, 3) := by decide +kernel
theorem dX11_ring_71 : decode cX11_ring 71 = .ok (.aload_n 0, 1) := by decide +kernel
theorem dX11_ring_72 : decode cX11_ring 72 = .ok (.getfield 50, 3) := by decide +kernel
theorem dX11_ring_75 : decode cX11_ring 75 = .ok (.invokevirtual 242, 3) := by decide +kernel
theorem dX11_ring_78 : decode cX11_ring 78 = .ok (.pop, 1) := by decide +kernel
theorem dX11_ring_79 : decode cX11_ring 79 = .ok (.iinc 2 1, 3) := by decide +kernel
theorem dX11_ring_82 : decode cX11_ring 82 = .ok (.goto (-55), 3) := by decide +kernel
theorem dX11_ring_85 : decode cX11_ring 85 = .ok (.iconst 0, 1) := by decide +kernel
theorem dX11_ring_86 : decode cX11_ring 86 = .ok (.istore_n 2, 1) := by decide +kernel
theorem dX11_ring_87 : decode cX11_ring 87 = .ok (.iload_n 2, 1) := by decide +kernel
theorem dX11_ring_88 : decode cX11_ring 88 = .ok (.bipush 60, 2) := by decide +kernel
theorem dX11_ring_90 : decode cX11_ring 90 = .ok (.if_icmp .ge 89, 3) := by decide +kernel
theorem dX11_ring_93 : decode cX11_ring 93 = .ok (.iload_n 2, 1) := by decide +kernel
theorem dX11_ring_94 : decode cX11_ring 94 = .ok (.iconst 1, 1) := by decide +kernel
theorem dX11_ring_95 : decode cX11_ring 95 = .ok (.iadd, 1) := by decide +kernel
theorem dX11_ring_96 : decode cX11_ring 96 = .ok (.istore_n 3, 1) := by decide +kernel
theorem dX11_ring_97 : decode cX11_ring 97 = .ok (.iload_n 3, 1) := by decide +kernel
theorem dX11_ring_98 : decode cX11_ring 98 = .ok (.bipush 60, 2) := by decide +kernel
theorem dX11_ring_100 : decode cX11_ring 100 = .ok (.if_icmp .gt 73, 3) := by decide +kernel
theorem dX11_ring_103 : decode cX11_ring 103 = .ok (.aload_n 0, 1) := by decide +kernel
theorem dX11_ring_104 : decode cX11_ring 104 = .ok (.getfield 100, 3) := by decide +kernel
theorem dX11_ring_107 : decode cX11_ring 107 = .ok (.iconst 2, 1) := by decide +kernel
theorem dX11_ring_108 : decode cX11_ring 108 = .ok (.iload_n 2, 1) := by decide +kernel
theorem dX11_ring_109 : decode cX11_ring 109 = .ok (.imul, 1) := by decide +kernel
theorem dX11_ring_110 : decode cX11_ring 110 = .ok (.laload, 1) := by decide +kernel
theorem dX11_ring_111 : decode cX11_ring 111 = .ok (.aload_n 0, 1) := by decide +kernel
theorem dX11_ring_112 : decode cX11_ring 112 = .ok (.getfield 100, 3) := by decide +kernel
theorem dX11_ring_115 : decode cX11_ring 115 = .ok (.iconst 2, 1) := by decide +kernel
theorem dX11_ring_116 : decode cX11_ring 116 = .ok (.iload_n 3, 1) := by decide +kernel
theorem dX11_ring_117 : decode cX11_ring 117 = .ok (.imul, 1) := by decide +kernel
theorem dX11_ring_118 : decode cX11_ring 118 = .ok (.laload, 1) := by decide +kernel
theorem dX11_ring_119 : decode cX11_ring 119 = .ok (.lcmp, 1) := by decide +kernel
theorem dX11_ring_120 : decode cX11_ring 120 = .ok (.ifCond .ne 47, 3) := by decide +kernel
theorem dX11_ring_123 : decode cX11_ring 123 = .ok (.aload_n 0, 1) := by decide +kernel
theorem dX11_ring_124 : decode cX11_ring 124 = .ok (.getfield 100, 3) := by decide +kernel
theorem dX11_ring_127 : decode cX11_ring 127 = .ok (.iconst 2, 1) := by decide +kernel
theorem dX11_ring_128 : decode cX11_ring 128 = .ok (.iload_n 2, 1) := by decide +kernel
theorem dX11_ring_129 : decode cX11_ring 129 = .ok (.imul, 1) := by decide +kernel
theorem dX11_ring_130 : decode cX11_ring 130 = .ok (.iconst 1, 1) := by decide +kernel
theorem dX11_ring_131 : decode cX11_ring 131 = .ok (.iadd, 1) := by decide +kernel
theorem dX11_ring_132 : decode cX11_ring 132 = .ok (.laload, 1) := by decide +kernel
theorem dX11_ring_133 : decode cX11_ring 133 = .ok (.aload_n 0, 1) := by decide +kernel
theorem dX11_ring_134 : decode cX11_ring 134 = .ok (.getfield 100, 3) := by decide +kernel
theorem dX11_ring_137 : decode cX11_ring 137 = .ok (.iconst 2, 1) := by decide +kernel
theorem dX11_ring_138 : decode cX11_ring 138 = .ok (.iload_n 3, 1) := by decide +kernel
theorem dX11_ring_139 : decode cX11_ring 139 = .ok (.imul, 1) := by decide +kernel
theorem dX11_ring_140 : decode cX11_ring 140 = .ok (.iconst 1, 1) := by decide +kernel
theorem dX11_ring_141 : decode cX11_ring 141 = .ok (.iadd, 1) := by decide +kernel
theorem dX11_ring_142 : decode cX11_ring 142 = .ok (.laload, 1) := by decide +kernel
theorem dX11_ring_143 : decode cX11_ring 143 = .ok (.lcmp, 1) := by decide +kernel
theorem dX11_ring_144 : decode cX11_ring 144 = .ok (.ifCond .ne 23, 3) := by decide +kernel
theorem dX11_ring_147 : decode cX11_ring 147 = .ok (.iload_n 1, 1) := by decide +kernel
theorem dX11_ring_148 : decode cX11_ring 148 = .ok (.ifCond .ne 15, 3) := by decide +kernel
theorem dX11_ring_151 : decode cX11_ring 151 = .ok (.aload_n 0, 1) := by decide +kernel
theorem dX11_ring_152 : decode cX11_ring 152 = .ok (.getfield 46, 3) := by decide +kernel
theorem dX11_ring_155 : decode cX11_ring 155 = .ok (.getfield 206, 3) := by decide +kernel
theorem dX11_ring_158 : decode cX11_ring 158 = .ok (.iload_n 2, 1) := by decide +kernel
theorem dX11_ring_159 : decode cX11_ring 159 = .ok (.iadd, 1) := by decide +kernel
theorem dX11_ring_160 : decode cX11_ring 160 = .ok (.goto 6, 3) := by decide +kernel
theorem dX11_ring_163 : decode cX11_ring 163 = .ok (.iload_n 3, 1) := by decide +kernel
theorem dX11_ring_164 : decode cX11_ring 164 = .ok (.iload_n 2, 1) := by decide +kernel
theorem dX11_ring_165 : decode cX11_ring 165 = .ok (.isub, 1) := by decide +kernel
theorem dX11_ring_166 : decode cX11_ring 166 = .ok (.ireturn, 1) := by decide +kernel
theorem dX11_ring_167 : decode cX11_ring 167 = .ok (.iinc 3 1, 3) := by decide +kernel
theorem dX11_ring_170 : decode cX11_ring 170 = .ok (.goto (-73), 3) := by decide +kernel
theorem dX11_ring_173 : decode cX11_ring 173 = .ok (.iinc 2 1, 3) := by decide +kernel
theorem dX11_ring_176 : decode cX11_ring 176 = .ok (.goto (-89), 3) := by decide +kernel
theorem dX11_ring_179 : decode cX11_ring 179 = .ok (.bipush (-2), 2) := by decide +kernel
theorem dX11_ring_181 : decode cX11_ring 181 = .ok (.ireturn, 1) := by decide +kernel
theorem vc_X11_299 : XVw RX11 299 1 8 5 yX9_packed cX9_packed (some .long) := ⟨RX9, TX9, tyX9, 6, xk_8, rfl, ⟨by decide, by decide⟩, by decide +kernel, wt_872, wt_873, wt_874, wt_5, wt_875⟩
noncomputable def bs_X11_ring : List (Nat × XB) := [
  (0, (sq (xLA 0) (sq (xGD 10 5 1) (sq (xGI 1 0) (tIf1 (fun x => decide (x = 0)) 19 [false, false, false, false] 10 [true, true, false, false]))))),
  (10, (sq (xLI 1) (sq (xC (.int 0)) (sq (xC (.int 1)) (sq (xCI 99 3 F_X11_within) (tIf1 (fun x => decide (¬ x = 0)) 21 [true, true, false, false] 19 [false, false, false, false])))))),
  (19, (sq (xC (.int (-1))) tRI)),
  (21, (sq (xLA 0) (sq (xCV 10 1 F_X11_startFromNow) (sq (xC (.int 0)) (sq (xSI 2) (tGo 27 [true, true, true, false])))))),
  (27, (sq (xLI 2) (sq (xC (.int 60)) (tIf2 (fun x y => decide (y < x)) 85 [true, true, false, false] 33 [true, true, true, false])))),
  (33, (sq (xLA 0) (sq (xGS 10 38 1 0) (sq (xC (.int 2)) (sq (xLI 2) (sq (xI2 (· * ·)) (sq (xLA 0) (sq (xGS 10 8 1 1) (sq (xC (.int 0)) (sq (xCJ 8 2 F_X9_packed) (sq (xTJ 38 122) (sq (xLA 0) (sq (xGS 10 38 1 0) (sq (xC (.int 2)) (sq (xLI 2) (sq (xI2 (· * ·)) (sq (xC (.int 1)) (sq (xI2 (· + ·)) (sq (xLA 0) (sq (xGS 10 8 1 1) (sq (xC (.int 3)) (sq (xCJ 8 2 F_X9_packed) (sq (xTJ 38 122) (sq (xLA 0) (sq (xGS 10 3 1 0) (sq (xLA 0) (sq (xGS 10 8 1 1) (sq (xCI 3 2 F_X4_pass) (sq (xPop) (sq (xInc 2 1) (tGo 27 [true, true, true, false]))))))))))))))))))))))))))))))),
  (85, (sq (xC (.int 0)) (sq (xSI 2) (tGo 87 [true, true, true, false])))),
  (87, (sq (xLI 2) (sq (xC (.int 60)) (tIf2 (fun x y => decide (y ≤ x)) 179 [false, false, false, false] 93 [true, true, true, false])))),
  (93, (sq (xLI 2) (sq (xC (.int 1)) (sq (xI2 (· + ·)) (sq (xSI 3) (tGo 97 [true, true, true, true])))))),
  (97, (sq (xLI 3) (sq (xC (.int 60)) (tIf2 (fun x y => decide (y < x)) 173 [true, true, true, false] 103 [true, true, true, true])))),
  (103, (sq (xLA 0) (sq (xGS 10 38 1 0) (sq (xC (.int 2)) (sq (xLI 2) (sq (xI2 (· * ·)) (sq (xAJ 38 122) (sq (xLA 0) (sq (xGS 10 38 1 0) (sq (xC (.int 2)) (sq (xLI 3) (sq (xI2 (· * ·)) (sq (xAJ 38 122) (sq (xJcmp) (tIf1 (fun x => decide (¬ x = 0)) 167 [true, true, true, true] 123 [true, true, true, true]))))))))))))))),
  (123, (sq (xLA 0) (sq (xGS 10 38 1 0) (sq (xC (.int 2)) (sq (xLI 2) (sq (xI2 (· * ·)) (sq (xC (.int 1)) (sq (xI2 (· + ·)) (sq (xAJ 38 122) (sq (xLA 0) (sq (xGS 10 38 1 0) (sq (xC (.int 2)) (sq (xLI 3) (sq (xI2 (· * ·)) (sq (xC (.int 1)) (sq (xI2 (· + ·)) (sq (xAJ 38 122) (sq (xJcmp) (tIf1 (fun x => decide (¬ x = 0)) 167 [true, true, true, true] 147 [true, true, true, true]))))))))))))))))))),
  (147, (sq (xLI 1) (tIf1 (fun x => decide (¬ x = 0)) 163 [false, false, true, true] 151 [true, false, true, false]))),
  (151, (sq (xLA 0) (sq (xGS 10 8 1 0) (sq (xGI 8 1) (sq (xLI 2) (sq (xI2 (· + ·)) (tGo 166 [false, false, false, false]))))))),
  (163, (sq (xLI 3) (sq (xLI 2) (sq (xI2 (· - ·)) (tGo 166 [false, false, false, false]))))),
  (166, tRI),
  (167, (sq (xInc 3 1) (tGo 97 [true, true, true, true]))),
  (173, (sq (xInc 2 1) (tGo 87 [true, true, true, false]))),
  (179, (sq (xC (.int (-2))) tRI))]
set_option maxRecDepth 100000 in
set_option maxHeartbeats 4000000 in
theorem s_X11_ring : ∀ X : XCtx, XE X → X.2.2.1.1 = cX11_ring → X.2.2.1.2.1 = 4 → X.2.2.1.2.2.1 = yX11_ring.cls → X.2.2.1.2.2.2.1 = (some .int) → X.1.2.2.2.1 = { frames := 5, cells := 0, slots := 0, locals := 123 } → SndBs X bs_X11_ring := by
  rintro ⟨⟨p, l, e, R, s⟩, Y, ⟨cc, nL, own, ret, Ts⟩, Z⟩ hE h1 h2 h3 h4 h5
  dsimp only at h1 h2 h3 h4 h5
  subst h1 h2 h3 h4 h5
  exact ⟨(n_sq (n_aload_n hE dX11_ring_0) (n_sq (n_getD hE xk_10 (k := 5) rfl (by decide) rfl wt_321 dX11_ring_1) (n_sq (n_getI hE xk_1 (k := 0) rfl (by decide) rfl wt_96 dX11_ring_4) (n_ifeq hE (by decide) dX11_ring_7)))),
    (n_sq (n_iload_n hE dX11_ring_10) (n_sq (n_iconst hE (by decide) dX11_ring_11) (n_sq (n_iconst hE (by decide) dX11_ring_12) (n_sq (n_cIs hE m_X11_within vc_X11_170 (show 0 + 1 ≤ 5 ∧ 8 + (3 + 11) + 0 ≤ 123 by decide) dX11_ring_13) (n_ifne hE (by decide) dX11_ring_16))))),
    (n_sq (n_iconst hE (by decide) dX11_ring_19) (n_ireturn hE rfl dX11_ring_20)),
    (n_sq (n_aload_n hE dX11_ring_21) (n_sq (n_cVv hE m_X11_startFromNow vc_X11_250 (show 2 + 1 ≤ 5 ∧ 8 + (1 + 11) + 43 ≤ 123 by decide) dX11_ring_22) (n_sq (n_iconst hE (by decide) dX11_ring_25) (n_sq (n_istore_n hE (show (2 : Nat) < 4 by decide) dX11_ring_26) n_fall)))),
    (n_sq (n_iload_n hE dX11_ring_27) (n_sq (n_bipush hE (by decide) dX11_ring_28) (n_ifcgt hE (by decide) dX11_ring_30))),
    (n_sq (n_aload_n hE dX11_ring_33) (n_sq (n_getS hE xk_10 (k := 17) rfl (by decide) rfl wt_333 dX11_ring_34) (n_sq (n_iconst hE (by decide) dX11_ring_37) (n_sq (n_iload_n hE dX11_ring_38) (n_sq (n_imul hE dX11_ring_39) (n_sq (n_aload_n hE dX11_ring_40) (n_sq (n_getS hE xk_10 (k := 7) rfl (by decide) rfl wt_323 dX11_ring_41) (n_sq (n_iconst hE (by decide) dX11_ring_44) (n_sq (n_cJv hE m_X9_packed vc_X11_299 (show 0 + 1 ≤ 5 ∧ 8 + (5 + 11) + 0 ≤ 123 by decide) dX11_ring_45) (n_sq (n_last hE rfl (by decide) dX11_ring_48) (n_sq (n_aload_n hE dX11_ring_49) (n_sq (n_getS hE xk_10 (k := 17) rfl (by decide) rfl wt_333 dX11_ring_50) (n_sq (n_iconst hE (by decide) dX11_ring_53) (n_sq (n_iload_n hE dX11_ring_54) (n_sq (n_imul hE dX11_ring_55) (n_sq (n_iconst hE (by decide) dX11_ring_56) (n_sq (n_iadd hE dX11_ring_57) (n_sq (n_aload_n hE dX11_ring_58) (n_sq (n_getS hE xk_10 (k := 7) rfl (by decide) rfl wt_323 dX11_ring_59) (n_sq (n_iconst hE (by decide) dX11_ring_62) (n_sq (n_cJv hE m_X9_packed vc_X11_299 (show 0 + 1 ≤ 5 ∧ 8 + (5 + 11) + 0 ≤ 123 by decide) dX11_ring_63) (n_sq (n_last hE rfl (by decide) dX11_ring_66) (n_sq (n_aload_n hE dX11_ring_67) (n_sq (n_getS hE xk_10 (k := 8) rfl (by decide) rfl wt_324 dX11_ring_68) (n_sq (n_aload_n hE dX11_ring_71) (n_sq (n_getS hE xk_10 (k := 7) rfl (by decide) rfl wt_323 dX11_ring_72) (n_sq (n_cIv hE m_X4_pass vc_X11_242 (show 4 + 1 ≤ 5 ∧ 8 + (4 + 11) + 100 ≤ 123 by decide) dX11_ring_75) (n_sq (n_pop hE dX11_ring_78) (n_sq (n_iinc hE (by decide) (show (2 : Nat) < 4 by decide) dX11_ring_79) (n_goto hE (by decide) dX11_ring_82)))))))))))))))))))))))))))))),
    (n_sq (n_iconst hE (by decide) dX11_ring_85) (n_sq (n_istore_n hE (show (2 : Nat) < 4 by decide) dX11_ring_86) n_fall)),
    (n_sq (n_iload_n hE dX11_ring_87) (n_sq (n_bipush hE (by decide) dX11_ring_88) (n_ifcge hE (by decide) dX11_ring_90))),
    (n_sq (n_iload_n hE dX11_ring_93) (n_sq (n_iconst hE (by decide) dX11_ring_94) (n_sq (n_iadd hE dX11_ring_95) (n_sq (n_istore_n hE (show (3 : Nat) < 4 by decide) dX11_ring_96) n_fall)))),
    (n_sq (n_iload_n hE dX11_ring_97) (n_sq (n_bipush hE (by decide) dX11_ring_98) (n_ifcgt hE (by decide) dX11_ring_100))),
    (n_sq (n_aload_n hE dX11_ring_103) (n_sq (n_getS hE xk_10 (k := 17) rfl (by decide) rfl wt_333 dX11_ring_104) (n_sq (n_iconst hE (by decide) dX11_ring_107) (n_sq (n_iload_n hE dX11_ring_108) (n_sq (n_imul hE dX11_ring_109) (n_sq (n_lald hE rfl (by decide) dX11_ring_110) (n_sq (n_aload_n hE dX11_ring_111) (n_sq (n_getS hE xk_10 (k := 17) rfl (by decide) rfl wt_333 dX11_ring_112) (n_sq (n_iconst hE (by decide) dX11_ring_115) (n_sq (n_iload_n hE dX11_ring_116) (n_sq (n_imul hE dX11_ring_117) (n_sq (n_lald hE rfl (by decide) dX11_ring_118) (n_sq (n_lcmp hE dX11_ring_119) (n_ifne hE (by decide) dX11_ring_120)))))))))))))),
    (n_sq (n_aload_n hE dX11_ring_123) (n_sq (n_getS hE xk_10 (k := 17) rfl (by decide) rfl wt_333 dX11_ring_124) (n_sq (n_iconst hE (by decide) dX11_ring_127) (n_sq (n_iload_n hE dX11_ring_128) (n_sq (n_imul hE dX11_ring_129) (n_sq (n_iconst hE (by decide) dX11_ring_130) (n_sq (n_iadd hE dX11_ring_131) (n_sq (n_lald hE rfl (by decide) dX11_ring_132) (n_sq (n_aload_n hE dX11_ring_133) (n_sq (n_getS hE xk_10 (k := 17) rfl (by decide) rfl wt_333 dX11_ring_134) (n_sq (n_iconst hE (by decide) dX11_ring_137) (n_sq (n_iload_n hE dX11_ring_138) (n_sq (n_imul hE dX11_ring_139) (n_sq (n_iconst hE (by decide) dX11_ring_140) (n_sq (n_iadd hE dX11_ring_141) (n_sq (n_lald hE rfl (by decide) dX11_ring_142) (n_sq (n_lcmp hE dX11_ring_143) (n_ifne hE (by decide) dX11_ring_144)))))))))))))))))),
    (n_sq (n_iload_n hE dX11_ring_147) (n_ifne hE (by decide) dX11_ring_148)),
    (n_sq (n_aload_n hE dX11_ring_151) (n_sq (n_getS hE xk_10 (k := 6) rfl (by decide) rfl wt_322 dX11_ring_152) (n_sq (n_getI hE xk_8 (k := 1) rfl (by decide) rfl wt_178 dX11_ring_155) (n_sq (n_iload_n hE dX11_ring_158) (n_sq (n_iadd hE dX11_ring_159) (n_goto hE (by decide) dX11_ring_160)))))),
    (n_sq (n_iload_n hE dX11_ring_163) (n_sq (n_iload_n hE dX11_ring_164) (n_sq (n_isub hE dX11_ring_165) n_fall))),
    (n_ireturn hE rfl dX11_ring_166),
    (n_sq (n_iinc hE (by decide) (show (3 : Nat) < 4 by decide) dX11_ring_167) (n_goto hE (by decide) dX11_ring_170)),
    (n_sq (n_iinc hE (by decide) (show (2 : Nat) < 4 by decide) dX11_ring_173) (n_goto hE (by decide) dX11_ring_176)),
    (n_sq (n_bipush hE (by decide) dX11_ring_179) (n_ireturn hE rfl dX11_ring_181)), trivial⟩
noncomputable def F_X11_ring (as : List XV) (w : XW) : Option (Int32 × XW) := (xF 4 bs_X11_ring as w).bind pI
theorem m_X11_ring : XM yX11_ring cX11_ring 4 (some .int) 5 123 (eI F_X11_ring) := xm_I (xm_of (by decide) s_X11_ring)
noncomputable def q_X11_ring_0 (x1 : Int32) (w : XW) : Option XR := ev bs_X11_ring 0 ([some (.inr (10, 0)), some (.inl (.int x1)), none, none], [], w)
noncomputable def q_X11_ring_10 (x1 : Int32) (w : XW) : Option XR := ev bs_X11_ring 10 ([some (.inr (10, 0)), some (.inl (.int x1)), none, none], [], w)
noncomputable def q_X11_ring_19 (w : XW) : Option XR := ev bs_X11_ring 19 ([none, none, none, none], [], w)
noncomputable def q_X11_ring_21 (x1 : Int32) (w : XW) : Option XR := ev bs_X11_ring 21 ([some (.inr (10, 0)), some (.inl (.int x1)), none, none], [], w)
noncomputable def q_X11_ring_27 (x1 : Int32) (x2 : Int32) (w : XW) : Option XR := ev bs_X11_ring 27 ([some (.inr (10, 0)), some (.inl (.int x1)), some (.inl (.int x2)), none], [], w)
noncomputable def q_X11_ring_33 (x1 : Int32) (x2 : Int32) (w : XW) : Option XR := ev bs_X11_ring 33 ([some (.inr (10, 0)), some (.inl (.int x1)), some (.inl (.int x2)), none], [], w)
noncomputable def q_X11_ring_85 (x1 : Int32) (w : XW) : Option XR := ev bs_X11_ring 85 ([some (.inr (10, 0)), some (.inl (.int x1)), none, none], [], w)
noncomputable def q_X11_ring_87 (x1 : Int32) (x2 : Int32) (w : XW) : Option XR := ev bs_X11_ring 87 ([some (.inr (10, 0)), some (.inl (.int x1)), some (.inl (.int x2)), none], [], w)
noncomputable def q_X11_ring_93 (x1 : Int32) (x2 : Int32) (w : XW) : Option XR := ev bs_X11_ring 93 ([some (.inr (10, 0)), some (.inl (.int x1)), some (.inl (.int x2)), none], [], w)
noncomputable def q_X11_ring_97 (x1 : Int32) (x2 : Int32) (x3 : Int32) (w : XW) : Option XR := ev bs_X11_ring 97 ([some (.inr (10, 0)), some (.inl (.int x1)), some (.inl (.int x2)), some (.inl (.int x3))], [], w)
noncomputable def q_X11_ring_103 (x1 : Int32) (x2 : Int32) (x3 : Int32) (w : XW) : Option XR := ev bs_X11_ring 103 ([some (.inr (10, 0)), some (.inl (.int x1)), some (.inl (.int x2)), some (.inl (.int x3))], [], w)
noncomputable def q_X11_ring_123 (x1 : Int32) (x2 : Int32) (x3 : Int32) (w : XW) : Option XR := ev bs_X11_ring 123 ([some (.inr (10, 0)), some (.inl (.int x1)), some (.inl (.int x2)), some (.inl (.int x3))], [], w)
noncomputable def q_X11_ring_147 (x1 : Int32) (x2 : Int32) (x3 : Int32) (w : XW) : Option XR := ev bs_X11_ring 147 ([some (.inr (10, 0)), some (.inl (.int x1)), some (.inl (.int x2)), some (.inl (.int x3))], [], w)
noncomputable def q_X11_ring_151 (x2 : Int32) (w : XW) : Option XR := ev bs_X11_ring 151 ([some (.inr (10, 0)), none, some (.inl (.int x2)), none], [], w)
noncomputable def q_X11_ring_163 (x2 : Int32) (x3 : Int32) (w : XW) : Option XR := ev bs_X11_ring 163 ([none, none, some (.inl (.int x2)), some (.inl (.int x3))], [], w)
noncomputable def q_X11_ring_166 (s0 : Int32) (w : XW) : Option XR := ev bs_X11_ring 166 ([none, none, none, none], [.inl (.int s0)], w)
noncomputable def q_X11_ring_167 (x1 : Int32) (x2 : Int32) (x3 : Int32) (w : XW) : Option XR := ev bs_X11_ring 167 ([some (.inr (10, 0)), some (.inl (.int x1)), some (.inl (.int x2)), some (.inl (.int x3))], [], w)
noncomputable def q_X11_ring_173 (x1 : Int32) (x2 : Int32) (w : XW) : Option XR := ev bs_X11_ring 173 ([some (.inr (10, 0)), some (.inl (.int x1)), some (.inl (.int x2)), none], [], w)
noncomputable def q_X11_ring_179 (w : XW) : Option XR := ev bs_X11_ring 179 ([none, none, none, none], [], w)
theorem e_X11_ring_0 (x1 : Int32) (w : XW) : q_X11_ring_0 x1 w = ((gR w 10 0 5).bind fun j0 => (bif decide ((gI w 1 j0 0) = 0) then (q_X11_ring_19 w) else (q_X11_ring_10 x1 w))) := (ev_eq _ _ _).trans rfl
theorem e_X11_ring_10 (x1 : Int32) (w : XW) : q_X11_ring_10 x1 w = ((F_X11_within [.inl (.int x1), .inl (.int 0), .inl (.int 1)] w).bind fun r0 => (bif decide (¬ r0.1 = 0) then (q_X11_ring_21 x1 r0.2) else (q_X11_ring_19 r0.2))) := (ev_eq _ _ _).trans rfl
theorem e_X11_ring_19 (w : XW) : q_X11_ring_19 w = (some (some (.inl (.int (-1))), w)) := (ev_eq _ _ _).trans rfl
theorem e_X11_ring_21 (x1 : Int32) (w : XW) : q_X11_ring_21 x1 w = ((F_X11_startFromNow [.inr (10, 0)] w).bind fun r0 => (q_X11_ring_27 x1 0 r0)) := (ev_eq _ _ _).trans rfl
theorem e_X11_ring_27 (x1 : Int32) (x2 : Int32) (w : XW) : q_X11_ring_27 x1 x2 w = (bif decide (60 < x2) then (q_X11_ring_85 x1 w) else (q_X11_ring_33 x1 x2 w)) := (ev_eq _ _ _).trans rfl
theorem e_X11_ring_33 (x1 : Int32) (x2 : Int32) (w : XW) : q_X11_ring_33 x1 x2 w = ((F_X9_packed [.inr (8, 1), .inl (.int 0)] w).bind fun r0 => (if (2 * x2) < 0 ∨ 122 ≤ (2 * x2).toNatClampNeg then none else ((F_X9_packed [.inr (8, 1), .inl (.int 3)] (sJ r0.2 38 0 ((2 * x2).toNatClampNeg) r0.1)).bind fun r1 => (if ((2 * x2) + 1) < 0 ∨ 122 ≤ ((2 * x2) + 1).toNatClampNeg then none else ((F_X4_pass [.inr (3, 0), .inr (8, 1)] (sJ r1.2 38 0 (((2 * x2) + 1).toNatClampNeg) r1.1)).bind fun r2 => (q_X11_ring_27 x1 (x2 + 1) r2.2)))))) := (ev_eq _ _ _).trans rfl
theorem e_X11_ring_85 (x1 : Int32) (w : XW) : q_X11_ring_85 x1 w = (q_X11_ring_87 x1 0 w) := (ev_eq _ _ _).trans rfl
theorem e_X11_ring_87 (x1 : Int32) (x2 : Int32) (w : XW) : q_X11_ring_87 x1 x2 w = (bif decide (60 ≤ x2) then (q_X11_ring_179 w) else (q_X11_ring_93 x1 x2 w)) := (ev_eq _ _ _).trans rfl
theorem e_X11_ring_93 (x1 : Int32) (x2 : Int32) (w : XW) : q_X11_ring_93 x1 x2 w = (q_X11_ring_97 x1 x2 (x2 + 1) w) := (ev_eq _ _ _).trans rfl
theorem e_X11_ring_97 (x1 : Int32) (x2 : Int32) (x3 : Int32) (w : XW) : q_X11_ring_97 x1 x2 x3 w = (bif decide (60 < x3) then (q_X11_ring_173 x1 x2 w) else (q_X11_ring_103 x1 x2 x3 w)) := (ev_eq _ _ _).trans rfl
theorem e_X11_ring_103 (x1 : Int32) (x2 : Int32) (x3 : Int32) (w : XW) : q_X11_ring_103 x1 x2 x3 w = (if (2 * x2) < 0 ∨ 122 ≤ (2 * x2).toNatClampNeg then none else (if (2 * x3) < 0 ∨ 122 ≤ (2 * x3).toNatClampNeg then none else (bif decide (¬ (lg_cmp (gJ w 38 0 (2 * x2).toNatClampNeg) (gJ w 38 0 (2 * x3).toNatClampNeg)) = 0) then (q_X11_ring_167 x1 x2 x3 w) else (q_X11_ring_123 x1 x2 x3 w)))) := (ev_eq _ _ _).trans rfl
theorem e_X11_ring_123 (x1 : Int32) (x2 : Int32) (x3 : Int32) (w : XW) : q_X11_ring_123 x1 x2 x3 w = (if ((2 * x2) + 1) < 0 ∨ 122 ≤ ((2 * x2) + 1).toNatClampNeg then none else (if ((2 * x3) + 1) < 0 ∨ 122 ≤ ((2 * x3) + 1).toNatClampNeg then none else (bif decide (¬ (lg_cmp (gJ w 38 0 ((2 * x2) + 1).toNatClampNeg) (gJ w 38 0 ((2 * x3) + 1).toNatClampNeg)) = 0) then (q_X11_ring_167 x1 x2 x3 w) else (q_X11_ring_147 x1 x2 x3 w)))) := (ev_eq _ _ _).trans rfl
theorem e_X11_ring_147 (x1 : Int32) (x2 : Int32) (x3 : Int32) (w : XW) : q_X11_ring_147 x1 x2 x3 w = (bif decide (¬ x1 = 0) then (q_X11_ring_163 x2 x3 w) else (q_X11_ring_151 x2 w)) := (ev_eq _ _ _).trans rfl
theorem e_X11_ring_151 (x2 : Int32) (w : XW) : q_X11_ring_151 x2 w = (q_X11_ring_166 ((gI w 8 0 1) + x2) w) := (ev_eq _ _ _).trans rfl
theorem e_X11_ring_163 (x2 : Int32) (x3 : Int32) (w : XW) : q_X11_ring_163 x2 x3 w = (q_X11_ring_166 (x3 - x2) w) := (ev_eq _ _ _).trans rfl
theorem e_X11_ring_166 (s0 : Int32) (w : XW) : q_X11_ring_166 s0 w = (some (some (.inl (.int s0)), w)) := (ev_eq _ _ _).trans rfl
theorem e_X11_ring_167 (x1 : Int32) (x2 : Int32) (x3 : Int32) (w : XW) : q_X11_ring_167 x1 x2 x3 w = (q_X11_ring_97 x1 x2 (x3 + 1) w) := (ev_eq _ _ _).trans rfl
theorem e_X11_ring_173 (x1 : Int32) (x2 : Int32) (w : XW) : q_X11_ring_173 x1 x2 w = (q_X11_ring_87 x1 (x2 + 1) w) := (ev_eq _ _ _).trans rfl
theorem e_X11_ring_179 (w : XW) : q_X11_ring_179 w = (some (some (.inl (.int (-2))), w)) := (ev_eq _ _ _).trans rfl
theorem f_X11_ring (x1 : Int32) (w : XW) : F_X11_ring [.inr (10, 0), .inl (.int x1)] w = (q_X11_ring_0 x1 w).bind pI := rfl

-- WinterKeep.pence(II)I
theorem dX11_pence_0 : decode cX11_pence 0 = .ok (.aload_n 0, 1) := by decide +kernel
theorem dX11_pence_1 : decode cX11_pence 1 = .ok (.iload_n 2, 1) := by decide +kernel
theorem dX11_pence_2 : decode cX11_pence 2 = .ok (.invokevirtual 145, 3) := by decide +kernel
theorem dX11_pence_5 : decode cX11_pence 5 = .ok (.ifCond .eq 14, 3) := by decide +kernel
theorem dX11_pence_8 : decode cX11_pence 8 = .ok (.iload_n 1, 1) := by decide +kernel
theorem dX11_pence_9 : decode cX11_pence 9 = .ok (.iconst 0, 1) := by decide +kernel
theorem dX11_pence_10 : decode cX11_pence 10 = .ok (.sipush 9999, 3) := by decide +kernel
theorem dX11_pence_13 : decode cX11_pence 13 = .ok (.invokestatic 170, 3) := by decide +kernel
theorem dX11_pence_16 : decode cX11_pence 16 = .ok (.ifCond .ne 5, 3) := by decide +kernel
theorem dX11_pence_19 : decode cX11_pence 19 = .ok (.iconst (-1), 1) := by decide +kernel
theorem dX11_pence_20 : decode cX11_pence 20 = .ok (.ireturn, 1) := by decide +kernel
theorem dX11_pence_21 : decode cX11_pence 21 = .ok (.aload_n 0, 1) := by decide +kernel
theorem dX11_pence_22 : decode cX11_pence 22 = .ok (.getfield 46, 3) := by decide +kernel
theorem dX11_pence_25 : decode cX11_pence 25 = .ok (.invokevirtual 209, 3) := by decide +kernel
theorem dX11_pence_28 : decode cX11_pence 28 = .ok (.istore_n 3, 1) := by decide +kernel
theorem dX11_pence_29 : decode cX11_pence 29 = .ok (.iload_n 3, 1) := by decide +kernel
theorem dX11_pence_30 : decode cX11_pence 30 = .ok (.ifCond .gt 5, 3) := by decide +kernel
theorem dX11_pence_33 : decode cX11_pence 33 = .ok (.iconst 0, 1) := by decide +kernel
theorem dX11_pence_34 : decode cX11_pence 34 = .ok (.ireturn, 1) := by decide +kernel
theorem dX11_pence_35 : decode cX11_pence 35 = .ok (.iload_n 1, 1) := by decide +kernel
theorem dX11_pence_36 : decode cX11_pence 36 = .ok (.istore 4, 2) := by decide +kernel
theorem dX11_pence_38 : decode cX11_pence 38 = .ok (.iconst 0, 1) := by decide +kernel
theorem dX11_pence_39 : decode cX11_pence 39 = .ok (.istore 5, 2) := by decide +kernel
theorem dX11_pence_41 : decode cX11_pence 41 = .ok (.iload_n 1, 1) := by decide +kernel
theorem dX11_pence_42 : decode cX11_pence 42 = .ok (.aload_n 0, 1) := by decide +kernel
theorem dX11_pence_43 : decode cX11_pence 43 = .ok (.getfield 46, 3) := by decide +kernel
theorem dX11_pence_46 : decode cX11_pence 46 = .ok (.getfield 155, 3) := by decide +kernel
theorem dX11_pence_49 : decode cX11_pence 49 = .ok (.iload_n 2, 1) := by decide +kernel
theorem dX11_pence_50 : decode cX11_pence 50 = .ok (.iaload, 1) := by decide +kernel
theorem dX11_pence_51 : decode cX11_pence 51 = .ok (.imul, 1) := by decide +kernel
theorem dX11_pence_52 : decode cX11_pence 52 = .ok (.iload_n 3, 1) := by decide +kernel
theorem dX11_pence_53 : decode cX11_pence 53 = .ok (.irem, 1) := by decide +kernel
theorem dX11_pence_54 : decode cX11_pence 54 = .ok (.istore 6, 2) := by decide +kernel
theorem dX11_pence_56 : decode cX11_pence 56 = .ok (.iconst 0, 1) := by decide +kernel
theorem dX11_pence_57 : decode cX11_pence 57 = .ok (.istore 7, 2) := by decide +kernel
theorem dX11_pence_59 : decode cX11_pence 59 = .ok (.iload 7, 2) := by decide +kernel
theorem dX11_pence_61 : decode cX11_pence 61 = .ok (.aload_n 0, 1) := by decide +kernel
theorem dX11_pence_62 : decode cX11_pence 62 = .ok (.getfield 39, 3) := by decide +kernel
theorem dX11_pence_65 : decode cX11_pence 65 = .ok (.getfield 135, 3) := by decide +kernel
theorem dX11_pence_68 : decode cX11_pence 68 = .ok (.if_icmp .ge 67, 3) := by decide +kernel
theorem dX11_pence_71 : decode cX11_pence 71 = .ok (.iload 4, 2) := by decide +kernel
theorem dX11_pence_73 : decode cX11_pence 73 = .ok (.iload_n 1, 1) := by decide +kernel
theorem dX11_pence_74 : decode cX11_pence 74 = .ok (.aload_n 0, 1) := by decide +kernel
theorem dX11_pence_75 : decode cX11_pence 75 = .ok (.getfield 46, 3) := by decide +kernel
theorem dX11_pence_78 : decode cX11_pence 78 = .ok (.getfield 155, 3) := by decide +kernel
theorem dX11_pence_81 : decode cX11_pence 81 = .ok (.iload 7, 2) := by decide +kernel
theorem dX11_pence_83 : decode cX11_pence 83 = .ok (.iaload, 1) := by decide +kernel
theorem dX11_pence_84 : decode cX11_pence 84 = .ok (.imul, 1) := by decide +kernel
theorem dX11_pence_85 : decode cX11_pence 85 = .ok (.iload_n 3, 1) := by decide +kernel
theorem dX11_pence_86 : decode cX11_pence 86 = .ok (.idiv, 1) := by decide +kernel
theorem dX11_pence_87 : decode cX11_pence 87 = .ok (.isub, 1) := by decide +kernel
theorem dX11_pence_88 : decode cX11_pence 88 = .ok (.istore 4, 2) := by decide +kernel
theorem dX11_pence_90 : decode cX11_pence 90 = .ok (.iload_n 1, 1) := by decide +kernel
theorem dX11_pence_91 : decode cX11_pence 91 = .ok (.aload_n 0, 1) := by decide +kernel
theorem dX11_pence_92 : decode cX11_pence 92 = .ok (.getfield 46, 3) := by decide +kernel
theorem dX11_pence_95 : decode cX11_pence 95 = .ok (.getfield 155, 3) := by decide +kernel
theorem dX11_pence_98 : decode cX11_pence 98 = .ok (.iload 7, 2) := by decide +kernel
theorem dX11_pence_100 : decode cX11_pence 100 = .ok (.iaload, 1) := by decide +kernel
theorem dX11_pence_101 : decode cX11_pence 101 = .ok (.imul, 1) := by decide +kernel
theorem dX11_pence_102 : decode cX11_pence 102 = .ok (.iload_n 3, 1) := by decide +kernel
theorem dX11_pence_103 : decode cX11_pence 103 = .ok (.irem, 1) := by decide +kernel
theorem dX11_pence_104 : decode cX11_pence 104 = .ok (.istore 8, 2) := by decide +kernel
theorem dX11_pence_106 : decode cX11_pence 106 = .ok (.iload 8, 2) := by decide +kernel
theorem dX11_pence_108 : decode cX11_pence 108 = .ok (.iload 6, 2) := by decide +kernel
theorem dX11_pence_110 : decode cX11_pence 110 = .ok (.if_icmp .gt 16, 3) := by decide +kernel
theorem dX11_pence_113 : decode cX11_pence 113 = .ok (.iload 8, 2) := by decide +kernel
theorem dX11_pence_115 : decode cX11_pence 115 = .ok (.iload 6, 2) := by decide +kernel
theorem dX11_pence_117 : decode cX11_pence 117 = .ok (.if_icmp .ne 12, 3) := by decide +kernel
theorem dX11_pence_120 : decode cX11_pence 120 = .ok (.iload 7, 2) := by decide +kernel
theorem dX11_pence_122 : decode cX11_pence 122 = .ok (.iload_n 2, 1) := by decide +kernel
theorem dX11_pence_123 : decode cX11_pence 123 = .ok (.if_icmp .ge 6, 3) := by decide +kernel
theorem dX11_pence_126 : decode cX11_pence 126 = .ok (.iinc 5 1, 3) := by decide +kernel
theorem dX11_pence_129 : decode cX11_pence 129 = .ok (.iinc 7 1, 3) := by decide +kernel
theorem dX11_pence_132 : decode cX11_pence 132 = .ok (.goto (-73), 3) := by decide +kernel
theorem dX11_pence_135 : decode cX11_pence 135 = .ok (.iload_n 1, 1) := by decide +kernel
theorem dX11_pence_136 : decode cX11_pence 136 = .ok (.aload_n 0, 1) := by decide +kernel
theorem dX11_pence_137 : decode cX11_pence 137 = .ok (.getfield 46, 3) := by decide +kernel
theorem dX11_pence_140 : decode cX11_pence 140 = .ok (.getfield 155, 3) := by decide +kernel
theorem dX11_pence_143 : decode cX11_pence 143 = .ok (.iload_n 2, 1) := by decide +kernel
theorem dX11_pence_144 : decode cX11_pence 144 = .ok (.iaload, 1) := by decide +kernel
theorem dX11_pence_145 : decode cX11_pence 145 = .ok (.imul, 1) := by decide +kernel
theorem dX11_pence_146 : decode cX11_pence 146 = .ok (.iload_n 3, 1) := by decide +kernel
theorem dX11_pence_147 : decode cX11_pence 147 = .ok (.idiv, 1) := by decide +kernel
theorem dX11_pence_148 : decode cX11_pence 148 = .ok (.iload 5, 2) := by decide +kernel
theorem dX11_pence_150 : decode cX11_pence 150 = .ok (.iload 4, 2) := by decide +kernel
theorem dX11_pence_152 : decode cX11_pence 152 = .ok (.if_icmp .ge 7, 3) := by decide +kernel
theorem dX11_pence_155 : decode cX11_pence 155 = .ok (.iconst 1, 1) := by decide +kernel
theorem dX11_pence_156 : decode cX11_pence 156 = .ok (.goto 4, 3) := by decide +kernel
theorem dX11_pence_159 : decode cX11_pence 159 = .ok (.iconst 0, 1) := by decide +kernel
theorem dX11_pence_160 : decode cX11_pence 160 = .ok (.iadd, 1) := by decide +kernel
theorem dX11_pence_161 : decode cX11_pence 161 = .ok (.ireturn, 1) := by decide +kernel
noncomputable def bs_X11_pence : List (Nat × XB) := [
  (0, (sq (xLA 0) (sq (xLI 2) (sq (xCI 10 2 F_X11_isKeep) (tIf1 (fun x => decide (x = 0)) 19 [false, false, false, false, false, false, false, false, false] 8 [true, true, true, false, false, false, false, false, false]))))),
  (8, (sq (xLI 1) (sq (xC (.int 0)) (sq (xC (.int 9999)) (sq (xCI 99 3 F_X11_within) (tIf1 (fun x => decide (¬ x = 0)) 21 [true, true, true, false, false, false, false, false, false] 19 [false, false, false, false, false, false, false, false, false])))))),
  (19, (sq (xC (.int (-1))) tRI)),
  (21, (sq (xLA 0) (sq (xGS 10 8 1 0) (sq (xCI 8 1 F_X9_fullAll) (sq (xSI 3) (sq (xLI 3) (tIf1 (fun x => decide (0 < x)) 35 [true, true, true, true, false, false, false, false, false] 33 [false, false, false, false, false, false, false, false, false]))))))),
  (33, (sq (xC (.int 0)) tRI)),
  (35, (sq (xLI 1) (sq (xSI 4) (sq (xC (.int 0)) (sq (xSI 5) (sq (xLI 1) (sq (xLA 0) (sq (xGS 10 8 1 0) (sq (xGS 8 30 0 0) (sq (xLI 2) (sq (xAI 30 6) (sq (xI2 (· * ·)) (sq (xLI 3) (sq (xI2z (fun x y => x - x / y * y)) (sq (xSI 6) (sq (xC (.int 0)) (sq (xSI 7) (tGo 59 [true, true, true, true, true, true, true, true, false])))))))))))))))))),
  (59, (sq (xLI 7) (sq (xLA 0) (sq (xGD 10 5 1) (sq (xGI 1 3) (tIf2 (fun x y => decide (y ≤ x)) 135 [true, true, true, true, true, true, false, false, false] 71 [true, true, true, true, true, true, true, true, false])))))),
  (71, (sq (xLI 4) (sq (xLI 1) (sq (xLA 0) (sq (xGS 10 8 1 0) (sq (xGS 8 30 0 0) (sq (xLI 7) (sq (xAI 30 6) (sq (xI2 (· * ·)) (sq (xLI 3) (sq (xI2z (· / ·)) (sq (xI2 (· - ·)) (sq (xSI 4) (sq (xLI 1) (sq (xLA 0) (sq (xGS 10 8 1 0) (sq (xGS 8 30 0 0) (sq (xLI 7) (sq (xAI 30 6) (sq (xI2 (· * ·)) (sq (xLI 3) (sq (xI2z (fun x y => x - x / y * y)) (sq (xSI 8) (sq (xLI 8) (sq (xLI 6) (tIf2 (fun x y => decide (y < x)) 126 [true, true, true, true, true, true, true, true, false] 113 [true, true, true, true, true, true, true, true, true])))))))))))))))))))))))))),
  (113, (sq (xLI 8) (sq (xLI 6) (tIf2 (fun x y => decide (¬ x = y)) 129 [true, true, true, true, true, true, true, true, false] 120 [true, true, true, true, true, true, true, true, false])))),
  (120, (sq (xLI 7) (sq (xLI 2) (tIf2 (fun x y => decide (y ≤ x)) 129 [true, true, true, true, true, true, true, true, false] 126 [true, true, true, true, true, true, true, true, false])))),
  (126, (sq (xInc 5 1) (tGo 129 [true, true, true, true, true, true, true, true, false]))),
  (129, (sq (xInc 7 1) (tGo 59 [true, true, true, true, true, true, true, true, false]))),
  (135, (sq (xLI 1) (sq (xLA 0) (sq (xGS 10 8 1 0) (sq (xGS 8 30 0 0) (sq (xLI 2) (sq (xAI 30 6) (sq (xI2 (· * ·)) (sq (xLI 3) (sq (xI2z (· / ·)) (sq (xLI 5) (sq (xLI 4) (tIf2 (fun x y => decide (y ≤ x)) 159 [false, false, false, false, false, false, false, false, false] 155 [false, false, false, false, false, false, false, false, false]))))))))))))),
  (155, (sq (xC (.int 1)) (tGo 160 [false, false, false, false, false, false, false, false, false]))),
  (159, (sq (xC (.int 0)) (tGo 160 [false, false, false, false, false, false, false, false, false]))),
  (160, (sq (xI2 (· + ·)) tRI))]
set_option maxRecDepth 100000 in
set_option maxHeartbeats 4000000 in
theorem s_X11_pence : ∀ X : XCtx, XE X → X.2.2.1.1 = cX11_pence → X.2.2.1.2.1 = 9 → X.2.2.1.2.2.1 = yX11_pence.cls → X.2.2.1.2.2.2.1 = (some .int) → X.1.2.2.2.1 = { frames := 2, cells := 0, slots := 0, locals := 43 } → SndBs X bs_X11_pence := by
  rintro ⟨⟨p, l, e, R, s⟩, Y, ⟨cc, nL, own, ret, Ts⟩, Z⟩ hE h1 h2 h3 h4 h5
  dsimp only at h1 h2 h3 h4 h5
  subst h1 h2 h3 h4 h5
  exact ⟨(n_sq (n_aload_n hE dX11_pence_0) (n_sq (n_iload_n hE dX11_pence_1) (n_sq (n_cIv hE m_X11_isKeep vc_X11_145 (show 1 + 1 ≤ 2 ∧ 8 + (2 + 11) + 22 ≤ 43 by decide) dX11_pence_2) (n_ifeq hE (by decide) dX11_pence_5)))),
    (n_sq (n_iload_n hE dX11_pence_8) (n_sq (n_iconst hE (by decide) dX11_pence_9) (n_sq (n_sipush hE (by decide) dX11_pence_10) (n_sq (n_cIs hE m_X11_within vc_X11_170 (show 0 + 1 ≤ 2 ∧ 8 + (3 + 11) + 0 ≤ 43 by decide) dX11_pence_13) (n_ifne hE (by decide) dX11_pence_16))))),
    (n_sq (n_iconst hE (by decide) dX11_pence_19) (n_ireturn hE rfl dX11_pence_20)),
    (n_sq (n_aload_n hE dX11_pence_21) (n_sq (n_getS hE xk_10 (k := 6) rfl (by decide) rfl wt_322 dX11_pence_22) (n_sq (n_cIv hE m_X9_fullAll vc_X11_209 (show 0 + 1 ≤ 2 ∧ 8 + (3 + 11) + 0 ≤ 43 by decide) dX11_pence_25) (n_sq (n_istore_n hE (show (3 : Nat) < 9 by decide) dX11_pence_28) (n_sq (n_iload_n hE dX11_pence_29) (n_ifgt hE (by decide) dX11_pence_30)))))),
    (n_sq (n_iconst hE (by decide) dX11_pence_33) (n_ireturn hE rfl dX11_pence_34)),
    (n_sq (n_iload_n hE dX11_pence_35) (n_sq (n_istore hE (show (4 : Nat) < 9 by decide) dX11_pence_36) (n_sq (n_iconst hE (by decide) dX11_pence_38) (n_sq (n_istore hE (show (5 : Nat) < 9 by decide) dX11_pence_39) (n_sq (n_iload_n hE dX11_pence_41) (n_sq (n_aload_n hE dX11_pence_42) (n_sq (n_getS hE xk_10 (k := 6) rfl (by decide) rfl wt_322 dX11_pence_43) (n_sq (n_getS hE xk_8 (k := 2) rfl (by decide) rfl wt_183 dX11_pence_46) (n_sq (n_iload_n hE dX11_pence_49) (n_sq (n_iald hE rfl (by decide) dX11_pence_50) (n_sq (n_imul hE dX11_pence_51) (n_sq (n_iload_n hE dX11_pence_52) (n_sq (n_irem hE dX11_pence_53) (n_sq (n_istore hE (show (6 : Nat) < 9 by decide) dX11_pence_54) (n_sq (n_iconst hE (by decide) dX11_pence_56) (n_sq (n_istore hE (show (7 : Nat) < 9 by decide) dX11_pence_57) n_fall)))))))))))))))),
    (n_sq (n_iload hE dX11_pence_59) (n_sq (n_aload_n hE dX11_pence_61) (n_sq (n_getD hE xk_10 (k := 5) rfl (by decide) rfl wt_321 dX11_pence_62) (n_sq (n_getI hE xk_1 (k := 3) rfl (by decide) rfl wt_109 dX11_pence_65) (n_ifcge hE (by decide) dX11_pence_68))))),
    (n_sq (n_iload hE dX11_pence_71) (n_sq (n_iload_n hE dX11_pence_73) (n_sq (n_aload_n hE dX11_pence_74) (n_sq (n_getS hE xk_10 (k := 6) rfl (by decide) rfl wt_322 dX11_pence_75) (n_sq (n_getS hE xk_8 (k := 2) rfl (by decide) rfl wt_183 dX11_pence_78) (n_sq (n_iload hE dX11_pence_81) (n_sq (n_iald hE rfl (by decide) dX11_pence_83) (n_sq (n_imul hE dX11_pence_84) (n_sq (n_iload_n hE dX11_pence_85) (n_sq (n_idiv hE dX11_pence_86) (n_sq (n_isub hE dX11_pence_87) (n_sq (n_istore hE (show (4 : Nat) < 9 by decide) dX11_pence_88) (n_sq (n_iload_n hE dX11_pence_90) (n_sq (n_aload_n hE dX11_pence_91) (n_sq (n_getS hE xk_10 (k := 6) rfl (by decide) rfl wt_322 dX11_pence_92) (n_sq (n_getS hE xk_8 (k := 2) rfl (by decide) rfl wt_183 dX11_pence_95) (n_sq (n_iload hE dX11_pence_98) (n_sq (n_iald hE rfl (by decide) dX11_pence_100) (n_sq (n_imul hE dX11_pence_101) (n_sq (n_iload_n hE dX11_pence_102) (n_sq (n_irem hE dX11_pence_103) (n_sq (n_istore hE (show (8 : Nat) < 9 by decide) dX11_pence_104) (n_sq (n_iload hE dX11_pence_106) (n_sq (n_iload hE dX11_pence_108) (n_ifcgt hE (by decide) dX11_pence_110))))))))))))))))))))))))),
    (n_sq (n_iload hE dX11_pence_113) (n_sq (n_iload hE dX11_pence_115) (n_ifcne hE (by decide) dX11_pence_117))),
    (n_sq (n_iload hE dX11_pence_120) (n_sq (n_iload_n hE dX11_pence_122) (n_ifcge hE (by decide) dX11_pence_123))),
    (n_sq (n_iinc hE (by decide) (show (5 : Nat) < 9 by decide) dX11_pence_126) n_fall),
    (n_sq (n_iinc hE (by decide) (show (7 : Nat) < 9 by decide) dX11_pence_129) (n_goto hE (by decide) dX11_pence_132)),
    (n_sq (n_iload_n hE dX11_pence_135) (n_sq (n_aload_n hE dX11_pence_136) (n_sq (n_getS hE xk_10 (k := 6) rfl (by decide) rfl wt_322 dX11_pence_137) (n_sq (n_getS hE xk_8 (k := 2) rfl (by decide) rfl wt_183 dX11_pence_140) (n_sq (n_iload_n hE dX11_pence_143) (n_sq (n_iald hE rfl (by decide) dX11_pence_144) (n_sq (n_imul hE dX11_pence_145) (n_sq (n_iload_n hE dX11_pence_146) (n_sq (n_idiv hE dX11_pence_147) (n_sq (n_iload hE dX11_pence_148) (n_sq (n_iload hE dX11_pence_150) (n_ifcge hE (by decide) dX11_pence_152)))))))))))),
    (n_sq (n_iconst hE (by decide) dX11_pence_155) (n_goto hE (by decide) dX11_pence_156)),
    (n_sq (n_iconst hE (by decide) dX11_pence_159) n_fall),
    (n_sq (n_iadd hE dX11_pence_160) (n_ireturn hE rfl dX11_pence_161)), trivial⟩
noncomputable def F_X11_pence (as : List XV) (w : XW) : Option (Int32 × XW) := (xF 9 bs_X11_pence as w).bind pI
theorem m_X11_pence : XM yX11_pence cX11_pence 9 (some .int) 2 43 (eI F_X11_pence) := xm_I (xm_of (by decide) s_X11_pence)
noncomputable def q_X11_pence_0 (x1 : Int32) (x2 : Int32) (w : XW) : Option XR := ev bs_X11_pence 0 ([some (.inr (10, 0)), some (.inl (.int x1)), some (.inl (.int x2)), none, none, none, none, none, none], [], w)
noncomputable def q_X11_pence_8 (x1 : Int32) (x2 : Int32) (w : XW) : Option XR := ev bs_X11_pence 8 ([some (.inr (10, 0)), some (.inl (.int x1)), some (.inl (.int x2)), none, none, none, none, none, none], [], w)
noncomputable def q_X11_pence_19 (w : XW) : Option XR := ev bs_X11_pence 19 ([none, none, none, none, none, none, none, none, none], [], w)
noncomputable def q_X11_pence_21 (x1 : Int32) (x2 : Int32) (w : XW) : Option XR := ev bs_X11_pence 21 ([some (.inr (10, 0)), some (.inl (.int x1)), some (.inl (.int x2)), none, none, none, none, none, none], [], w)
noncomputable def q_X11_pence_33 (w : XW) : Option XR := ev bs_X11_pence 33 ([none, none, none, none, none, none, none, none, none], [], w)
noncomputable def q_X11_pence_35 (x1 : Int32) (x2 : Int32) (x3 : Int32) (w : XW) : Option XR := ev bs_X11_pence 35 ([some (.inr (10, 0)), some (.inl (.int x1)), some (.inl (.int x2)), some (.inl (.int x3)), none, none, none, none, none], [], w)
noncomputable def q_X11_pence_59 (x1 : Int32) (x2 : Int32) (x3 : Int32) (x4 : Int32) (x5 : Int32) (x6 : Int32) (x7 : Int32) (w : XW) : Option XR := ev bs_X11_pence 59 ([some (.inr (10, 0)), some (.inl (.int x1)), some (.inl (.int x2)), some (.inl (.int x3)), some (.inl (.int x4)), some (.inl (.int x5)), some (.inl (.int x6)), some (.inl (.int x7)), none], [], w)
noncomputable def q_X11_pence_71 (x1 : Int32) (x2 : Int32) (x3 : Int32) (x4 : Int32) (x5 : Int32) (x6 : Int32) (x7 : Int32) (w : XW) : Option XR := ev bs_X11_pence 71 ([some (.inr (10, 0)), some (.inl (.int x1)), some (.inl (.int x2)), some (.inl (.int x3)), some (.inl (.int x4)), some (.inl (.int x5)), some (.inl (.int x6)), some (.inl (.int x7)), none], [], w)
noncomputable def q_X11_pence_113 (x1 : Int32) (x2 : Int32) (x3 : Int32) (x4 : Int32) (x5 : Int32) (x6 : Int32) (x7 : Int32) (x8 : Int32) (w : XW) : Option XR := ev bs_X11_pence 113 ([some (.inr (10, 0)), some (.inl (.int x1)), some (.inl (.int x2)), some (.inl (.int x3)), some (.inl (.int x4)), some (.inl (.int x5)), some (.inl (.int x6)), some (.inl (.int x7)), some (.inl (.int x8))], [], w)
noncomputable def q_X11_pence_120 (x1 : Int32) (x2 : Int32) (x3 : Int32) (x4 : Int32) (x5 : Int32) (x6 : Int32) (x7 : Int32) (w : XW) : Option XR := ev bs_X11_pence 120 ([some (.inr (10, 0)), some (.inl (.int x1)), some (.inl (.int x2)), some (.inl (.int x3)), some (.inl (.int x4)), some (.inl (.int x5)), some (.inl (.int x6)), some (.inl (.int x7)), none], [], w)
noncomputable def q_X11_pence_126 (x1 : Int32) (x2 : Int32) (x3 : Int32) (x4 : Int32) (x5 : Int32) (x6 : Int32) (x7 : Int32) (w : XW) : Option XR := ev bs_X11_pence 126 ([some (.inr (10, 0)), some (.inl (.int x1)), some (.inl (.int x2)), some (.inl (.int x3)), some (.inl (.int x4)), some (.inl (.int x5)), some (.inl (.int x6)), some (.inl (.int x7)), none], [], w)
noncomputable def q_X11_pence_129 (x1 : Int32) (x2 : Int32) (x3 : Int32) (x4 : Int32) (x5 : Int32) (x6 : Int32) (x7 : Int32) (w : XW) : Option XR := ev bs_X11_pence 129 ([some (.inr (10, 0)), some (.inl (.int x1)), some (.inl (.int x2)), some (.inl (.int x3)), some (.inl (.int x4)), some (.inl (.int x5)), some (.inl (.int x6)), some (.inl (.int x7)), none], [], w)
noncomputable def q_X11_pence_135 (x1 : Int32) (x2 : Int32) (x3 : Int32) (x4 : Int32) (x5 : Int32) (w : XW) : Option XR := ev bs_X11_pence 135 ([some (.inr (10, 0)), some (.inl (.int x1)), some (.inl (.int x2)), some (.inl (.int x3)), some (.inl (.int x4)), some (.inl (.int x5)), none, none, none], [], w)
noncomputable def q_X11_pence_155 (s0 : Int32) (w : XW) : Option XR := ev bs_X11_pence 155 ([none, none, none, none, none, none, none, none, none], [.inl (.int s0)], w)
noncomputable def q_X11_pence_159 (s0 : Int32) (w : XW) : Option XR := ev bs_X11_pence 159 ([none, none, none, none, none, none, none, none, none], [.inl (.int s0)], w)
noncomputable def q_X11_pence_160 (s0 : Int32) (s1 : Int32) (w : XW) : Option XR := ev bs_X11_pence 160 ([none, none, none, none, none, none, none, none, none], [.inl (.int s1), .inl (.int s0)], w)
theorem e_X11_pence_0 (x1 : Int32) (x2 : Int32) (w : XW) : q_X11_pence_0 x1 x2 w = ((F_X11_isKeep [.inr (10, 0), .inl (.int x2)] w).bind fun r0 => (bif decide (r0.1 = 0) then (q_X11_pence_19 r0.2) else (q_X11_pence_8 x1 x2 r0.2))) := (ev_eq _ _ _).trans rfl
theorem e_X11_pence_8 (x1 : Int32) (x2 : Int32) (w : XW) : q_X11_pence_8 x1 x2 w = ((F_X11_within [.inl (.int x1), .inl (.int 0), .inl (.int 9999)] w).bind fun r0 => (bif decide (¬ r0.1 = 0) then (q_X11_pence_21 x1 x2 r0.2) else (q_X11_pence_19 r0.2))) := (ev_eq _ _ _).trans rfl
theorem e_X11_pence_19 (w : XW) : q_X11_pence_19 w = (some (some (.inl (.int (-1))), w)) := (ev_eq _ _ _).trans rfl
theorem e_X11_pence_21 (x1 : Int32) (x2 : Int32) (w : XW) : q_X11_pence_21 x1 x2 w = ((F_X9_fullAll [.inr (8, 0)] w).bind fun r0 => (bif decide (0 < r0.1) then (q_X11_pence_35 x1 x2 r0.1 r0.2) else (q_X11_pence_33 r0.2))) := (ev_eq _ _ _).trans rfl
theorem e_X11_pence_33 (w : XW) : q_X11_pence_33 w = (some (some (.inl (.int 0)), w)) := (ev_eq _ _ _).trans rfl
theorem e_X11_pence_35 (x1 : Int32) (x2 : Int32) (x3 : Int32) (w : XW) : q_X11_pence_35 x1 x2 x3 w = (if x2 < 0 ∨ 6 ≤ x2.toNatClampNeg then none else (if x3 = 0 then none else (q_X11_pence_59 x1 x2 x3 x1 0 ((x1 * (gI w 30 0 x2.toNatClampNeg)) - (x1 * (gI w 30 0 x2.toNatClampNeg)) / x3 * x3) 0 w))) := (ev_eq _ _ _).trans rfl
theorem e_X11_pence_59 (x1 : Int32) (x2 : Int32) (x3 : Int32) (x4 : Int32) (x5 : Int32) (x6 : Int32) (x7 : Int32) (w : XW) : q_X11_pence_59 x1 x2 x3 x4 x5 x6 x7 w = ((gR w 10 0 5).bind fun j0 => (bif decide ((gI w 1 j0 3) ≤ x7) then (q_X11_pence_135 x1 x2 x3 x4 x5 w) else (q_X11_pence_71 x1 x2 x3 x4 x5 x6 x7 w))) := (ev_eq _ _ _).trans rfl
theorem e_X11_pence_71 (x1 : Int32) (x2 : Int32) (x3 : Int32) (x4 : Int32) (x5 : Int32) (x6 : Int32) (x7 : Int32) (w : XW) : q_X11_pence_71 x1 x2 x3 x4 x5 x6 x7 w = (if x7 < 0 ∨ 6 ≤ x7.toNatClampNeg then none else (if x3 = 0 then none else (if x7 < 0 ∨ 6 ≤ x7.toNatClampNeg then none else (if x3 = 0 then none else (bif decide (x6 < ((x1 * (gI w 30 0 x7.toNatClampNeg)) - (x1 * (gI w 30 0 x7.toNatClampNeg)) / x3 * x3)) then (q_X11_pence_126 x1 x2 x3 (x4 - ((x1 * (gI w 30 0 x7.toNatClampNeg)) / x3)) x5 x6 x7 w) else (q_X11_pence_113 x1 x2 x3 (x4 - ((x1 * (gI w 30 0 x7.toNatClampNeg)) / x3)) x5 x6 x7 ((x1 * (gI w 30 0 x7.toNatClampNeg)) - (x1 * (gI w 30 0 x7.toNatClampNeg)) / x3 * x3) w)))))) := (ev_eq _ _ _).trans rfl
theorem e_X11_pence_113 (x1 : Int32) (x2 : Int32) (x3 : Int32) (x4 : Int32) (x5 : Int32) (x6 : Int32) (x7 : Int32) (x8 : Int32) (w : XW) : q_X11_pence_113 x1 x2 x3 x4 x5 x6 x7 x8 w = (bif decide (¬ x8 = x6) then (q_X11_pence_129 x1 x2 x3 x4 x5 x6 x7 w) else (q_X11_pence_120 x1 x2 x3 x4 x5 x6 x7 w)) := (ev_eq _ _ _).trans rfl
theorem e_X11_pence_120 (x1 : Int32) (x2 : Int32) (x3 : Int32) (x4 : Int32) (x5 : Int32) (x6 : Int32) (x7 : Int32) (w : XW) : q_X11_pence_120 x1 x2 x3 x4 x5 x6 x7 w = (bif decide (x2 ≤ x7) then (q_X11_pence_129 x1 x2 x3 x4 x5 x6 x7 w) else (q_X11_pence_126 x1 x2 x3 x4 x5 x6 x7 w)) := (ev_eq _ _ _).trans rfl
theorem e_X11_pence_126 (x1 : Int32) (x2 : Int32) (x3 : Int32) (x4 : Int32) (x5 : Int32) (x6 : Int32) (x7 : Int32) (w : XW) : q_X11_pence_126 x1 x2 x3 x4 x5 x6 x7 w = (q_X11_pence_129 x1 x2 x3 x4 (x5 + 1) x6 x7 w) := (ev_eq _ _ _).trans rfl
theorem e_X11_pence_129 (x1 : Int32) (x2 : Int32) (x3 : Int32) (x4 : Int32) (x5 : Int32) (x6 : Int32) (x7 : Int32) (w : XW) : q_X11_pence_129 x1 x2 x3 x4 x5 x6 x7 w = (q_X11_pence_59 x1 x2 x3 x4 x5 x6 (x7 + 1) w) := (ev_eq _ _ _).trans rfl
theorem e_X11_pence_135 (x1 : Int32) (x2 : Int32) (x3 : Int32) (x4 : Int32) (x5 : Int32) (w : XW) : q_X11_pence_135 x1 x2 x3 x4 x5 w = (if x2 < 0 ∨ 6 ≤ x2.toNatClampNeg then none else (if x3 = 0 then none else (bif decide (x4 ≤ x5) then (q_X11_pence_159 ((x1 * (gI w 30 0 x2.toNatClampNeg)) / x3) w) else (q_X11_pence_155 ((x1 * (gI w 30 0 x2.toNatClampNeg)) / x3) w)))) := (ev_eq _ _ _).trans rfl
theorem e_X11_pence_155 (s0 : Int32) (w : XW) : q_X11_pence_155 s0 w = (q_X11_pence_160 s0 1 w) := (ev_eq _ _ _).trans rfl
theorem e_X11_pence_159 (s0 : Int32) (w : XW) : q_X11_pence_159 s0 w = (q_X11_pence_160 s0 0 w) := (ev_eq _ _ _).trans rfl
theorem e_X11_pence_160 (s0 : Int32) (s1 : Int32) (w : XW) : q_X11_pence_160 s0 s1 w = (some (some (.inl (.int (s0 + s1))), w)) := (ev_eq _ _ _).trans rfl
theorem f_X11_pence (x1 : Int32) (x2 : Int32) (w : XW) : F_X11_pence [.inr (10, 0), .inl (.int x1), .inl (.int x2)] w = (q_X11_pence_0 x1 x2 w).bind pI := rfl

-- WinterKeep$Notes.add(III)V
theorem dX5_add_0 : decode cX5_add 0 = .ok (.aload_n 0, 1) := by decide +kernel
theorem dX5_add_1 : decode cX5_add 1 = .ok (.getfield 9, 3) := by decide +kernel
theorem dX5_add_4 : decode cX5_add 4 = .ok (.bipush 10, 2) := by decide +kernel
theorem dX5_add_6 : decode cX5_add 6 = .ok (.if_icmp .ge 43, 3) := by decide +kernel
theorem dX5_add_9 : decode cX5_add 9 = .ok (.aload_n 0, 1) := by decide +kernel
theorem dX5_add_10 : decode cX5_add 10 = .ok (.getfield 15, 3) := by decide +kernel
theorem dX5_add_13 : decode cX5_add 13 = .ok (.aload_n 0, 1) := by decide +kernel
theorem dX5_add_14 : decode cX5_add 14 = .ok (.getfield 9, 3) := by decide +kernel
theorem dX5_add_17 : decode cX5_add 17 = .ok (.iload_n 1, 1) := by decide +kernel
theorem dX5_add_18 : decode cX5_add 18 = .ok (.iastore, 1) := by decide +kernel
theorem dX5_add_19 : decode cX5_add 19 = .ok (.aload_n 0, 1) := by decide +kernel
theorem dX5_add_20 : decode cX5_add 20 = .ok (.getfield 19, 3) := by decide +kernel
theorem dX5_add_23 : decode cX5_add 23 = .ok (.aload_n 0, 1) := by decide +kernel
theorem dX5_add_24 : decode cX5_add 24 = .ok (.getfield 9, 3) := by decide +kernel
theorem dX5_add_27 : decode cX5_add 27 = .ok (.iload_n 2, 1) := by decide +kernel
theorem dX5_add_28 : decode cX5_add 28 = .ok (.iastore, 1) := by decide +kernel
theorem dX5_add_29 : decode cX5_add 29 = .ok (.aload_n 0, 1) := by decide +kernel
theorem dX5_add_30 : decode cX5_add 30 = .ok (.getfield 22, 3) := by decide +kernel
theorem dX5_add_33 : decode cX5_add 33 = .ok (.aload_n 0, 1) := by decide +kernel
theorem dX5_add_34 : decode cX5_add 34 = .ok (.getfield 9, 3) := by decide +kernel
theorem dX5_add_37 : decode cX5_add 37 = .ok (.iload_n 3, 1) := by decide +kernel
theorem dX5_add_38 : decode cX5_add 38 = .ok (.iastore, 1) := by decide +kernel
theorem dX5_add_39 : decode cX5_add 39 = .ok (.aload_n 0, 1) := by decide +kernel
theorem dX5_add_40 : decode cX5_add 40 = .ok (.dup, 1) := by decide +kernel
theorem dX5_add_41 : decode cX5_add 41 = .ok (.getfield 9, 3) := by decide +kernel
theorem dX5_add_44 : decode cX5_add 44 = .ok (.iconst 1, 1) := by decide +kernel
theorem dX5_add_45 : decode cX5_add 45 = .ok (.iadd, 1) := by decide +kernel
theorem dX5_add_46 : decode cX5_add 46 = .ok (.putfield 9, 3) := by decide +kernel
theorem dX5_add_49 : decode cX5_add 49 = .ok (.return_, 1) := by decide +kernel
noncomputable def bs_X5_add : List (Nat × XB) := [
  (0, (sq (xLA 0) (sq (xGI 4 0) (sq (xC (.int 10)) (tIf2 (fun x y => decide (y ≤ x)) 49 [false, false, false, false] 9 [true, true, true, true]))))),
  (9, (sq (xLA 0) (sq (xGS 4 22 0 0) (sq (xLA 0) (sq (xGI 4 0) (sq (xLI 1) (sq (xTI 22 10 (fun x => x)) (sq (xLA 0) (sq (xGS 4 23 0 0) (sq (xLA 0) (sq (xGI 4 0) (sq (xLI 2) (sq (xTI 23 10 (fun x => x)) (sq (xLA 0) (sq (xGS 4 24 0 0) (sq (xLA 0) (sq (xGI 4 0) (sq (xLI 3) (sq (xTI 24 10 (fun x => x)) (sq (xLA 0) (sq (xDup) (sq (xGI 4 0) (sq (xC (.int 1)) (sq (xI2 (· + ·)) (sq (xPI 4 0) (tGo 49 [false, false, false, false])))))))))))))))))))))))))),
  (49, tRV)]
set_option maxRecDepth 100000 in
set_option maxHeartbeats 4000000 in
theorem s_X5_add : ∀ X : XCtx, XE X → X.2.2.1.1 = cX5_add → X.2.2.1.2.1 = 4 → X.2.2.1.2.2.1 = yX5_add.cls → X.2.2.1.2.2.2.1 = none → X.1.2.2.2.1 = { frames := 0, cells := 0, slots := 0, locals := 0 } → SndBs X bs_X5_add := by
  rintro ⟨⟨p, l, e, R, s⟩, Y, ⟨cc, nL, own, ret, Ts⟩, Z⟩ hE h1 h2 h3 h4 h5
  dsimp only at h1 h2 h3 h4 h5
  subst h1 h2 h3 h4 h5
  exact ⟨(n_sq (n_aload_n hE dX5_add_0) (n_sq (n_getI hE xk_4 (k := 0) rfl (by decide) rfl wt_265 dX5_add_1) (n_sq (n_bipush hE (by decide) dX5_add_4) (n_ifcge hE (by decide) dX5_add_6)))),
    (n_sq (n_aload_n hE dX5_add_9) (n_sq (n_getS hE xk_4 (k := 1) rfl (by decide) rfl wt_267 dX5_add_10) (n_sq (n_aload_n hE dX5_add_13) (n_sq (n_getI hE xk_4 (k := 0) rfl (by decide) rfl wt_265 dX5_add_14) (n_sq (n_iload_n hE dX5_add_17) (n_sq (n_iast hE rfl (by decide) dX5_add_18) (n_sq (n_aload_n hE dX5_add_19) (n_sq (n_getS hE xk_4 (k := 2) rfl (by decide) rfl wt_268 dX5_add_20) (n_sq (n_aload_n hE dX5_add_23) (n_sq (n_getI hE xk_4 (k := 0) rfl (by decide) rfl wt_265 dX5_add_24) (n_sq (n_iload_n hE dX5_add_27) (n_sq (n_iast hE rfl (by decide) dX5_add_28) (n_sq (n_aload_n hE dX5_add_29) (n_sq (n_getS hE xk_4 (k := 3) rfl (by decide) rfl wt_269 dX5_add_30) (n_sq (n_aload_n hE dX5_add_33) (n_sq (n_getI hE xk_4 (k := 0) rfl (by decide) rfl wt_265 dX5_add_34) (n_sq (n_iload_n hE dX5_add_37) (n_sq (n_iast hE rfl (by decide) dX5_add_38) (n_sq (n_aload_n hE dX5_add_39) (n_sq (n_dup hE dX5_add_40) (n_sq (n_getI hE xk_4 (k := 0) rfl (by decide) rfl wt_265 dX5_add_41) (n_sq (n_iconst hE (by decide) dX5_add_44) (n_sq (n_iadd hE dX5_add_45) (n_sq (n_putI hE xk_4 (k := 0) rfl (by decide) rfl rfl (tyX5_ok 0 (by decide)) wt_265 dX5_add_46) n_fall)))))))))))))))))))))))),
    (n_vreturn hE rfl dX5_add_49), trivial⟩
noncomputable def F_X5_add (as : List XV) (w : XW) : Option XW := (xF 4 bs_X5_add as w).bind pV
theorem m_X5_add : XM yX5_add cX5_add 4 none 0 0 (eV F_X5_add) := xm_V (xm_of (by decide) s_X5_add)
noncomputable def q_X5_add_0 (i0 : Nat) (x1 : Int32) (x2 : Int32) (x3 : Int32) (w : XW) : Option XR := ev bs_X5_add 0 ([some (.inr (4, i0)), some (.inl (.int x1)), some (.inl (.int x2)), some (.inl (.int x3))], [], w)
noncomputable def q_X5_add_9 (i0 : Nat) (x1 : Int32) (x2 : Int32) (x3 : Int32) (w : XW) : Option XR := ev bs_X5_add 9 ([some (.inr (4, i0)), some (.inl (.int x1)), some (.inl (.int x2)), some (.inl (.int x3))], [], w)
noncomputable def q_X5_add_49 (w : XW) : Option XR := ev bs_X5_add 49 ([none, none, none, none], [], w)
theorem e_X5_add_0 (i0 : Nat) (x1 : Int32) (x2 : Int32) (x3 : Int32) (w : XW) : q_X5_add_0 i0 x1 x2 x3 w = (bif decide (10 ≤ (gI w 4 i0 0)) then (q_X5_add_49 w) else (q_X5_add_9 i0 x1 x2 x3 w)) := (ev_eq _ _ _).trans rfl
theorem e_X5_add_9 (i0 : Nat) (x1 : Int32) (x2 : Int32) (x3 : Int32) (w : XW) : q_X5_add_9 i0 x1 x2 x3 w = (if (gI w 4 i0 0) < 0 ∨ 10 ≤ (gI w 4 i0 0).toNatClampNeg then none else (if (gI (sI w 22 i0 ((gI w 4 i0 0).toNatClampNeg) x1) 4 i0 0) < 0 ∨ 10 ≤ (gI (sI w 22 i0 ((gI w 4 i0 0).toNatClampNeg) x1) 4 i0 0).toNatClampNeg then none else (if (gI (sI (sI w 22 i0 ((gI w 4 i0 0).toNatClampNeg) x1) 23 i0 ((gI (sI w 22 i0 ((gI w 4 i0 0).toNatClampNeg) x1) 4 i0 0).toNatClampNeg) x2) 4 i0 0) < 0 ∨ 10 ≤ (gI (sI (sI w 22 i0 ((gI w 4 i0 0).toNatClampNeg) x1) 23 i0 ((gI (sI w 22 i0 ((gI w 4 i0 0).toNatClampNeg) x1) 4 i0 0).toNatClampNeg) x2) 4 i0 0).toNatClampNeg then none else (q_X5_add_49 (sI (sI (sI (sI w 22 i0 ((gI w 4 i0 0).toNatClampNeg) x1) 23 i0 ((gI (sI w 22 i0 ((gI w 4 i0 0).toNatClampNeg) x1) 4 i0 0).toNatClampNeg) x2) 24 i0 ((gI (sI (sI w 22 i0 ((gI w 4 i0 0).toNatClampNeg) x1) 23 i0 ((gI (sI w 22 i0 ((gI w 4 i0 0).toNatClampNeg) x1) 4 i0 0).toNatClampNeg) x2) 4 i0 0).toNatClampNeg) x3) 4 i0 0 ((gI (sI (sI (sI w 22 i0 ((gI w 4 i0 0).toNatClampNeg) x1) 23 i0 ((gI (sI w 22 i0 ((gI w 4 i0 0).toNatClampNeg) x1) 4 i0 0).toNatClampNeg) x2) 24 i0 ((gI (sI (sI w 22 i0 ((gI w 4 i0 0).toNatClampNeg) x1) 23 i0 ((gI (sI w 22 i0 ((gI w 4 i0 0).toNatClampNeg) x1) 4 i0 0).toNatClampNeg) x2) 4 i0 0).toNatClampNeg) x3) 4 i0 0) + 1)))))) := (ev_eq _ _ _).trans rfl
theorem e_X5_add_49 (w : XW) : q_X5_add_49 w = (some (none, w)) := (ev_eq _ _ _).trans rfl
theorem f_X5_add (i0 : Nat) (x1 : Int32) (x2 : Int32) (x3 : Int32) (w : XW) : F_X5_add [.inr (4, i0), .inl (.int x1), .inl (.int x2), .inl (.int x3)] w = (q_X5_add_0 i0 x1 x2 x3 w).bind pV := rfl
