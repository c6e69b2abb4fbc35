-- WinterKeep$Nights.pass(LWinterKeep$Scene;)I
theorem dX4_pass_0 : decode cX4_pass 0 = .ok (.aload_n 0, 1) := by decide +kernel
theorem dX4_pass_1 : decode cX4_pass 1 = .ok (.getfield 9, 3) := by decide +kernel
theorem dX4_pass_4 : decode cX4_pass 4 = .ok (.ifnonnull 5, 3) := by decide +kernel
theorem dX4_pass_7 : decode cX4_pass 7 = .ok (.iconst 0, 1) := by decide +kernel
theorem dX4_pass_8 : decode cX4_pass 8 = .ok (.ireturn, 1) := by decide +kernel
theorem dX4_pass_9 : decode cX4_pass 9 = .ok (.aload_n 0, 1) := by decide +kernel
theorem dX4_pass_10 : decode cX4_pass 10 = .ok (.aload_n 1, 1) := by decide +kernel
theorem dX4_pass_11 : decode cX4_pass 11 = .ok (.invokevirtual 40, 3) := by decide +kernel
theorem dX4_pass_14 : decode cX4_pass 14 = .ok (.putfield 30, 3) := by decide +kernel
theorem dX4_pass_17 : decode cX4_pass 17 = .ok (.aload_n 0, 1) := by decide +kernel
theorem dX4_pass_18 : decode cX4_pass 18 = .ok (.aload_n 1, 1) := by decide +kernel
theorem dX4_pass_19 : decode cX4_pass 19 = .ok (.invokevirtual 46, 3) := by decide +kernel
theorem dX4_pass_22 : decode cX4_pass 22 = .ok (.invokestatic 49, 3) := by decide +kernel
theorem dX4_pass_25 : decode cX4_pass 25 = .ok (.putfield 34, 3) := by decide +kernel
theorem dX4_pass_28 : decode cX4_pass 28 = .ok (.iconst 0, 1) := by decide +kernel
theorem dX4_pass_29 : decode cX4_pass 29 = .ok (.istore_n 2, 1) := by decide +kernel
theorem dX4_pass_30 : decode cX4_pass 30 = .ok (.iload_n 2, 1) := by decide +kernel
theorem dX4_pass_31 : decode cX4_pass 31 = .ok (.aload_n 0, 1) := by decide +kernel
theorem dX4_pass_32 : decode cX4_pass 32 = .ok (.getfield 9, 3) := by decide +kernel
theorem dX4_pass_35 : decode cX4_pass 35 = .ok (.getfield 55, 3) := by decide +kernel
theorem dX4_pass_38 : decode cX4_pass 38 = .ok (.if_icmp .ge 79, 3) := by decide +kernel
theorem dX4_pass_41 : decode cX4_pass 41 = .ok (.aload_n 0, 1) := by decide +kernel
theorem dX4_pass_42 : decode cX4_pass 42 = .ok (.getfield 9, 3) := by decide +kernel
theorem dX4_pass_45 : decode cX4_pass 45 = .ok (.getfield 58, 3) := by decide +kernel
theorem dX4_pass_48 : decode cX4_pass 48 = .ok (.iload_n 2, 1) := by decide +kernel
theorem dX4_pass_49 : decode cX4_pass 49 = .ok (.iaload, 1) := by decide +kernel
theorem dX4_pass_50 : decode cX4_pass 50 = .ok (.istore_n 3, 1) := by decide +kernel
theorem dX4_pass_51 : decode cX4_pass 51 = .ok (.aload_n 0, 1) := by decide +kernel
theorem dX4_pass_52 : decode cX4_pass 52 = .ok (.getfield 30, 3) := by decide +kernel
theorem dX4_pass_55 : decode cX4_pass 55 = .ok (.iload_n 3, 1) := by decide +kernel
theorem dX4_pass_56 : decode cX4_pass 56 = .ok (.ishr, 1) := by decide +kernel
theorem dX4_pass_57 : decode cX4_pass 57 = .ok (.iconst 1, 1) := by decide +kernel
theorem dX4_pass_58 : decode cX4_pass 58 = .ok (.iand, 1) := by decide +kernel
theorem dX4_pass_59 : decode cX4_pass 59 = .ok (.ifCond .eq 52, 3) := by decide +kernel
theorem dX4_pass_62 : decode cX4_pass 62 = .ok (.aload_n 0, 1) := by decide +kernel
theorem dX4_pass_63 : decode cX4_pass 63 = .ok (.getfield 15, 3) := by decide +kernel
theorem dX4_pass_66 : decode cX4_pass 66 = .ok (.ifnull 14, 3) := by decide +kernel
theorem dX4_pass_69 : decode cX4_pass 69 = .ok (.aload_n 0, 1) := by decide +kernel
theorem dX4_pass_70 : decode cX4_pass 70 = .ok (.aload_n 1, 1) := by decide +kernel
theorem dX4_pass_71 : decode cX4_pass 71 = .ok (.iload_n 2, 1) := by decide +kernel
theorem dX4_pass_72 : decode cX4_pass 72 = .ok (.invokevirtual 61, 3) := by decide +kernel
theorem dX4_pass_75 : decode cX4_pass 75 = .ok (.lconst 0, 1) := by decide +kernel
theorem dX4_pass_76 : decode cX4_pass 76 = .ok (.lcmp, 1) := by decide +kernel
theorem dX4_pass_77 : decode cX4_pass 77 = .ok (.ifCond .le 34, 3) := by decide +kernel
theorem dX4_pass_80 : decode cX4_pass 80 = .ok (.aload_n 1, 1) := by decide +kernel
theorem dX4_pass_81 : decode cX4_pass 81 = .ok (.getfield 65, 3) := by decide +kernel
theorem dX4_pass_84 : decode cX4_pass 84 = .ok (.iload_n 3, 1) := by decide +kernel
theorem dX4_pass_85 : decode cX4_pass 85 = .ok (.aload_n 0, 1) := by decide +kernel
theorem dX4_pass_86 : decode cX4_pass 86 = .ok (.getfield 9, 3) := by decide +kernel
theorem dX4_pass_89 : decode cX4_pass 89 = .ok (.getfield 68, 3) := by decide +kernel
theorem dX4_pass_92 : decode cX4_pass 92 = .ok (.iload_n 3, 1) := by decide +kernel
theorem dX4_pass_93 : decode cX4_pass 93 = .ok (.iaload, 1) := by decide +kernel
theorem dX4_pass_94 : decode cX4_pass 94 = .ok (.aload_n 1, 1) := by decide +kernel
theorem dX4_pass_95 : decode cX4_pass 95 = .ok (.getfield 65, 3) := by decide +kernel
theorem dX4_pass_98 : decode cX4_pass 98 = .ok (.iload_n 3, 1) := by decide +kernel
theorem dX4_pass_99 : decode cX4_pass 99 = .ok (.iaload, 1) := by decide +kernel
theorem dX4_pass_100 : decode cX4_pass 100 = .ok (.aload_n 0, 1) := by decide +kernel
theorem dX4_pass_101 : decode cX4_pass 101 = .ok (.getfield 19, 3) := by decide +kernel
theorem dX4_pass_104 : decode cX4_pass 104 = .ok (.iload_n 2, 1) := by decide +kernel
theorem dX4_pass_105 : decode cX4_pass 105 = .ok (.iaload, 1) := by decide +kernel
theorem dX4_pass_106 : decode cX4_pass 106 = .ok (.iadd, 1) := by decide +kernel
theorem dX4_pass_107 : decode cX4_pass 107 = .ok (.invokestatic 71, 3) := by decide +kernel
theorem dX4_pass_110 : decode cX4_pass 110 = .ok (.iastore, 1) := by decide +kernel
theorem dX4_pass_111 : decode cX4_pass 111 = .ok (.iinc 2 1, 3) := by decide +kernel
theorem dX4_pass_114 : decode cX4_pass 114 = .ok (.goto (-84), 3) := by decide +kernel
theorem dX4_pass_117 : decode cX4_pass 117 = .ok (.aload_n 0, 1) := by decide +kernel
theorem dX4_pass_118 : decode cX4_pass 118 = .ok (.aload_n 1, 1) := by decide +kernel
theorem dX4_pass_119 : decode cX4_pass 119 = .ok (.invokevirtual 77, 3) := by decide +kernel
theorem dX4_pass_122 : decode cX4_pass 122 = .ok (.aload_n 1, 1) := by decide +kernel
theorem dX4_pass_123 : decode cX4_pass 123 = .ok (.dup, 1) := by decide +kernel
theorem dX4_pass_124 : decode cX4_pass 124 = .ok (.getfield 81, 3) := by decide +kernel
theorem dX4_pass_127 : decode cX4_pass 127 = .ok (.iconst 1, 1) := by decide +kernel
theorem dX4_pass_128 : decode cX4_pass 128 = .ok (.iadd, 1) := by decide +kernel
theorem dX4_pass_129 : decode cX4_pass 129 = .ok (.putfield 81, 3) := by decide +kernel
theorem dX4_pass_132 : decode cX4_pass 132 = .ok (.aload_n 0, 1) := by decide +kernel
theorem dX4_pass_133 : decode cX4_pass 133 = .ok (.aload_n 1, 1) := by decide +kernel
theorem dX4_pass_134 : decode cX4_pass 134 = .ok (.invokevirtual 84, 3) := by decide +kernel
theorem dX4_pass_137 : decode cX4_pass 137 = .ok (.ireturn, 1) := by decide +kernel
theorem vc_X4_40 : XVw RX4 40 0 8 1 yX9_homeBits cX9_homeBits (some .int) := ⟨RX9, TX9, tyX9, 6, xk_8, rfl, ⟨by decide, by decide⟩, by decide +kernel, wt_687, wt_656, wt_657, wt_5, wt_658⟩
theorem vc_X4_46 : XVw RX4 46 0 8 1 yX9_burntBits cX9_burntBits (some .int) := ⟨RX9, TX9, tyX9, 6, xk_8, rfl, ⟨by decide, by decide⟩, by decide +kernel, wt_688, wt_648, wt_649, wt_5, wt_650⟩
theorem vc_X4_61 : XVw RX4 61 2 3 7 yX4_sumFor cX4_sumFor (some .long) := ⟨RX4, TX4, tyX4, 7, xk_3, rfl, ⟨by decide, by decide⟩, by decide +kernel, wt_695, wt_697, ws_16, wt_6, wt_698⟩
theorem vc_X4_77 : XVw RX4 77 1 3 5 yX4_overhear cX4_overhear none := ⟨RX4, TX4, tyX4, 7, xk_3, rfl, ⟨by decide, by decide⟩, by decide +kernel, wt_715, wt_717, ws_19, wt_6, wt_718⟩
theorem vc_X4_84 : XVw RX4 84 1 3 5 yX4_warm cX4_warm (some .int) := ⟨RX4, TX4, tyX4, 7, xk_3, rfl, ⟨by decide, by decide⟩, by decide +kernel, wt_719, wt_721, ws_20, wt_6, wt_722⟩
noncomputable def bs_X4_pass : List (Nat × XB) := [
  (0, (sq (xLA 0) (tNul 3 0 7 [false, false, false, false] 9 [true, true, false, false]))),
  (7, (sq (xC (.int 0)) tRI)),
  (9, (sq (xLA 0) (sq (xLA 1) (sq (xCI 8 1 F_X9_homeBits) (sq (xPI 3 5) (sq (xLA 0) (sq (xLA 1) (sq (xCI 8 1 F_X9_burntBits) (sq (xCI 99 1 F_J6_bitCount_0f7a4) (sq (xPI 3 6) (sq (xC (.int 0)) (sq (xSI 2) (tGo 30 [true, true, true, false]))))))))))))),
  (30, (sq (xLI 2) (sq (xLA 0) (sq (xGD 3 0 1) (sq (xGI 1 4) (tIf2 (fun x y => decide (y ≤ x)) 117 [true, true, false, false] 41 [true, true, true, false])))))),
  (41, (sq (xLA 0) (sq (xGD 3 0 1) (sq (xGS 1 16 0 0) (sq (xLI 2) (sq (xAI 16 5) (sq (xSI 3) (sq (xLA 0) (sq (xGI 3 5) (sq (xLI 3) (sq (xI2 (fun x y => x >>> (y &&& 31))) (sq (xC (.int 1)) (sq (xI2 (· &&& ·)) (tIf1 (fun x => decide (x = 0)) 111 [true, true, true, false] 62 [true, true, true, true])))))))))))))),
  (62, (sq (xLA 0) (tNul 3 1 80 [true, true, true, true] 69 [true, true, true, true]))),
  (69, (sq (xLA 0) (sq (xLA 1) (sq (xLI 2) (sq (xCJ 3 3 F_X4_sumFor) (sq (xC (.long 0)) (sq (xJcmp) (tIf1 (fun x => decide (x ≤ 0)) 111 [true, true, true, false] 80 [true, true, true, true])))))))),
  (80, (sq (xLA 1) (sq (xGS 8 30 0 0) (sq (xLI 3) (sq (xLA 0) (sq (xGD 3 0 1) (sq (xGS 1 13 0 0) (sq (xLI 3) (sq (xAI 13 6) (sq (xLA 1) (sq (xGS 8 30 0 0) (sq (xLI 3) (sq (xAI 30 6) (sq (xLA 0) (sq (xGS 3 19 0 0) (sq (xLI 2) (sq (xAI 19 5) (sq (xI2 (· + ·)) (sq (xM2 (fun x y => if y < x then y else x)) (sq (xTI 30 6 (fun x => x)) (tGo 111 [true, true, true, false]))))))))))))))))))))),
  (111, (sq (xInc 2 1) (tGo 30 [true, true, true, false]))),
  (117, (sq (xLA 0) (sq (xLA 1) (sq (xCV 3 2 F_X4_overhear) (sq (xLA 1) (sq (xDup) (sq (xGI 8 1) (sq (xC (.int 1)) (sq (xI2 (· + ·)) (sq (xPI 8 1) (sq (xLA 0) (sq (xLA 1) (sq (xCI 3 2 F_X4_warm) tRI)))))))))))))]
set_option maxRecDepth 100000 in
set_option maxHeartbeats 4000000 in
theorem s_X4_pass : ∀ X : XCtx, XE X → X.2.2.1.1 = cX4_pass → X.2.2.1.2.1 = 4 → X.2.2.1.2.2.1 = yX4_pass.cls → X.2.2.1.2.2.2.1 = (some .int) → X.1.2.2.2.1 = { frames := 4, cells := 0, slots := 0, locals := 100 } → SndBs X bs_X4_pass := by
  rintro ⟨⟨p, l, e, R, s⟩, Y, ⟨cc, nL, own, ret, Ts⟩, Z⟩ hE h1 h2 h3 h4 h5
  dsimp only at h1 h2 h3 h4 h5
  subst h1 h2 h3 h4 h5
  exact ⟨(n_sq (n_aload_n hE dX4_pass_0) (n_ifnonnull hE xk_3 (k := 0) rfl (by decide) rfl wt_215 (by decide) dX4_pass_1 dX4_pass_4)),
    (n_sq (n_iconst hE (by decide) dX4_pass_7) (n_ireturn hE rfl dX4_pass_8)),
    (n_sq (n_aload_n hE dX4_pass_9) (n_sq (n_aload_n hE dX4_pass_10) (n_sq (n_cIv hE m_X9_homeBits vc_X4_40 (show 1 + 1 ≤ 4 ∧ 8 + (1 + 11) + 23 ≤ 100 by decide) dX4_pass_11) (n_sq (n_putI hE xk_3 (k := 5) rfl (by decide) rfl rfl (tyX4_ok 5 (by decide)) wt_220 dX4_pass_14) (n_sq (n_aload_n hE dX4_pass_17) (n_sq (n_aload_n hE dX4_pass_18) (n_sq (n_cIv hE m_X9_burntBits vc_X4_46 (show 1 + 1 ≤ 4 ∧ 8 + (1 + 11) + 23 ≤ 100 by decide) dX4_pass_19) (n_sq (n_cIs hE m_J6_bitCount_0f7a4 vc_X4_49 (show 0 + 1 ≤ 4 ∧ 8 + (1 + 11) + 0 ≤ 100 by decide) dX4_pass_22) (n_sq (n_putI hE xk_3 (k := 6) rfl (by decide) rfl rfl (tyX4_ok 6 (by decide)) wt_221 dX4_pass_25) (n_sq (n_iconst hE (by decide) dX4_pass_28) (n_sq (n_istore_n hE (show (2 : Nat) < 4 by decide) dX4_pass_29) n_fall))))))))))),
    (n_sq (n_iload_n hE dX4_pass_30) (n_sq (n_aload_n hE dX4_pass_31) (n_sq (n_getD hE xk_3 (k := 0) rfl (by decide) rfl wt_215 dX4_pass_32) (n_sq (n_getI hE xk_1 (k := 4) rfl (by decide) rfl wt_112 dX4_pass_35) (n_ifcge hE (by decide) dX4_pass_38))))),
    (n_sq (n_aload_n hE dX4_pass_41) (n_sq (n_getD hE xk_3 (k := 0) rfl (by decide) rfl wt_215 dX4_pass_42) (n_sq (n_getS hE xk_1 (k := 9) rfl (by decide) rfl wt_131 dX4_pass_45) (n_sq (n_iload_n hE dX4_pass_48) (n_sq (n_iald hE rfl (by decide) dX4_pass_49) (n_sq (n_istore_n hE (show (3 : Nat) < 4 by decide) dX4_pass_50) (n_sq (n_aload_n hE dX4_pass_51) (n_sq (n_getI hE xk_3 (k := 5) rfl (by decide) rfl wt_220 dX4_pass_52) (n_sq (n_iload_n hE dX4_pass_55) (n_sq (n_ishr hE dX4_pass_56) (n_sq (n_iconst hE (by decide) dX4_pass_57) (n_sq (n_iand hE dX4_pass_58) (n_ifeq hE (by decide) dX4_pass_59))))))))))))),
    (n_sq (n_aload_n hE dX4_pass_62) (n_ifnull hE xk_3 (k := 1) rfl (by decide) rfl wt_216 (by decide) dX4_pass_63 dX4_pass_66)),
    (n_sq (n_aload_n hE dX4_pass_69) (n_sq (n_aload_n hE dX4_pass_70) (n_sq (n_iload_n hE dX4_pass_71) (n_sq (n_cJv hE m_X4_sumFor vc_X4_61 (show 3 + 1 ≤ 4 ∧ 8 + (7 + 11) + 74 ≤ 100 by decide) dX4_pass_72) (n_sq (n_lconst hE (by decide) dX4_pass_75) (n_sq (n_lcmp hE dX4_pass_76) (n_ifle hE (by decide) dX4_pass_77))))))),
    (n_sq (n_aload_n hE dX4_pass_80) (n_sq (n_getS hE xk_8 (k := 2) rfl (by decide) rfl wt_180 dX4_pass_81) (n_sq (n_iload_n hE dX4_pass_84) (n_sq (n_aload_n hE dX4_pass_85) (n_sq (n_getD hE xk_3 (k := 0) rfl (by decide) rfl wt_215 dX4_pass_86) (n_sq (n_getS hE xk_1 (k := 6) rfl (by decide) rfl wt_120 dX4_pass_89) (n_sq (n_iload_n hE dX4_pass_92) (n_sq (n_iald hE rfl (by decide) dX4_pass_93) (n_sq (n_aload_n hE dX4_pass_94) (n_sq (n_getS hE xk_8 (k := 2) rfl (by decide) rfl wt_180 dX4_pass_95) (n_sq (n_iload_n hE dX4_pass_98) (n_sq (n_iald hE rfl (by decide) dX4_pass_99) (n_sq (n_aload_n hE dX4_pass_100) (n_sq (n_getS hE xk_3 (k := 2) rfl (by decide) rfl wt_217 dX4_pass_101) (n_sq (n_iload_n hE dX4_pass_104) (n_sq (n_iald hE rfl (by decide) dX4_pass_105) (n_sq (n_iadd hE dX4_pass_106) (n_sq (n_mmin hE wt_714 wt_577 wt_19 wt_578 (show 1 ≤ 4 ∧ 24 ≤ 100 by decide) dX4_pass_107) (n_sq (n_iast hE rfl (by decide) dX4_pass_110) n_fall))))))))))))))))))),
    (n_sq (n_iinc hE (by decide) (show (2 : Nat) < 4 by decide) dX4_pass_111) (n_goto hE (by decide) dX4_pass_114)),
    (n_sq (n_aload_n hE dX4_pass_117) (n_sq (n_aload_n hE dX4_pass_118) (n_sq (n_cVv hE m_X4_overhear vc_X4_77 (show 1 + 1 ≤ 4 ∧ 8 + (5 + 11) + 24 ≤ 100 by decide) dX4_pass_119) (n_sq (n_aload_n hE dX4_pass_122) (n_sq (n_dup hE dX4_pass_123) (n_sq (n_getI hE xk_8 (k := 1) rfl (by decide) rfl wt_176 dX4_pass_124) (n_sq (n_iconst hE (by decide) dX4_pass_127) (n_sq (n_iadd hE dX4_pass_128) (n_sq (n_putI hE xk_8 (k := 1) rfl (by decide) rfl rfl (tyX9_ok 1 (by decide)) wt_176 dX4_pass_129) (n_sq (n_aload_n hE dX4_pass_132) (n_sq (n_aload_n hE dX4_pass_133) (n_sq (n_cIv hE m_X4_warm vc_X4_84 (show 1 + 1 ≤ 4 ∧ 8 + (5 + 11) + 24 ≤ 100 by decide) dX4_pass_134) (n_ireturn hE rfl dX4_pass_137))))))))))))), trivial⟩
noncomputable def F_X4_pass (as : List XV) (w : XW) : Option (Int32 × XW) := (xF 4 bs_X4_pass as w).bind pI
theorem m_X4_pass : XM yX4_pass cX4_pass 4 (some .int) 4 100 (eI F_X4_pass) := xm_I (xm_of (by decide) s_X4_pass)
noncomputable def q_X4_pass_0 (i1 : Nat) (w : XW) : Option XR := ev bs_X4_pass 0 ([some (.inr (3, 0)), some (.inr (8, i1)), none, none], [], w)
noncomputable def q_X4_pass_7 (w : XW) : Option XR := ev bs_X4_pass 7 ([none, none, none, none], [], w)
noncomputable def q_X4_pass_9 (i1 : Nat) (w : XW) : Option XR := ev bs_X4_pass 9 ([some (.inr (3, 0)), some (.inr (8, i1)), none, none], [], w)
noncomputable def q_X4_pass_30 (i1 : Nat) (x2 : Int32) (w : XW) : Option XR := ev bs_X4_pass 30 ([some (.inr (3, 0)), some (.inr (8, i1)), some (.inl (.int x2)), none], [], w)
noncomputable def q_X4_pass_41 (i1 : Nat) (x2 : Int32) (w : XW) : Option XR := ev bs_X4_pass 41 ([some (.inr (3, 0)), some (.inr (8, i1)), some (.inl (.int x2)), none], [], w)
noncomputable def q_X4_pass_62 (i1 : Nat) (x2 : Int32) (x3 : Int32) (w : XW) : Option XR := ev bs_X4_pass 62 ([some (.inr (3, 0)), some (.inr (8, i1)), some (.inl (.int x2)), some (.inl (.int x3))], [], w)
noncomputable def q_X4_pass_69 (i1 : Nat) (x2 : Int32) (x3 : Int32) (w : XW) : Option XR := ev bs_X4_pass 69 ([some (.inr (3, 0)), some (.inr (8, i1)), some (.inl (.int x2)), some (.inl (.int x3))], [], w)
noncomputable def q_X4_pass_80 (i1 : Nat) (x2 : Int32) (x3 : Int32) (w : XW) : Option XR := ev bs_X4_pass 80 ([some (.inr (3, 0)), some (.inr (8, i1)), some (.inl (.int x2)), some (.inl (.int x3))], [], w)
noncomputable def q_X4_pass_111 (i1 : Nat) (x2 : Int32) (w : XW) : Option XR := ev bs_X4_pass 111 ([some (.inr (3, 0)), some (.inr (8, i1)), some (.inl (.int x2)), none], [], w)
noncomputable def q_X4_pass_117 (i1 : Nat) (w : XW) : Option XR := ev bs_X4_pass 117 ([some (.inr (3, 0)), some (.inr (8, i1)), none, none], [], w)
theorem e_X4_pass_0 (i1 : Nat) (w : XW) : q_X4_pass_0 i1 w = (bif (gR w 3 0 0).isNone then (q_X4_pass_7 w) else (q_X4_pass_9 i1 w)) := (ev_eq _ _ _).trans rfl
theorem e_X4_pass_7 (w : XW) : q_X4_pass_7 w = (some (some (.inl (.int 0)), w)) := (ev_eq _ _ _).trans rfl
theorem e_X4_pass_9 (i1 : Nat) (w : XW) : q_X4_pass_9 i1 w = ((F_X9_homeBits [.inr (8, i1)] w).bind fun r0 => ((F_X9_burntBits [.inr (8, i1)] (sI r0.2 3 0 5 r0.1)).bind fun r1 => ((F_J6_bitCount_0f7a4 [.inl (.int r1.1)] r1.2).bind fun r2 => (q_X4_pass_30 i1 0 (sI r2.2 3 0 6 r2.1))))) := (ev_eq _ _ _).trans rfl
theorem e_X4_pass_30 (i1 : Nat) (x2 : Int32) (w : XW) : q_X4_pass_30 i1 x2 w = ((gR w 3 0 0).bind fun j0 => (bif decide ((gI w 1 j0 4) ≤ x2) then (q_X4_pass_117 i1 w) else (q_X4_pass_41 i1 x2 w))) := (ev_eq _ _ _).trans rfl
theorem e_X4_pass_41 (i1 : Nat) (x2 : Int32) (w : XW) : q_X4_pass_41 i1 x2 w = ((gR w 3 0 0).bind fun j0 => (if x2 < 0 ∨ 5 ≤ x2.toNatClampNeg then none else (bif decide (((((gI w 3 0 5) : Int32) >>> (((gI w 16 j0 x2.toNatClampNeg) : Int32) &&& 31)) &&& 1) = 0) then (q_X4_pass_111 i1 x2 w) else (q_X4_pass_62 i1 x2 (gI w 16 j0 x2.toNatClampNeg) w)))) := (ev_eq _ _ _).trans rfl
theorem e_X4_pass_62 (i1 : Nat) (x2 : Int32) (x3 : Int32) (w : XW) : q_X4_pass_62 i1 x2 x3 w = (bif (gR w 3 0 1).isNone then (q_X4_pass_80 i1 x2 x3 w) else (q_X4_pass_69 i1 x2 x3 w)) := (ev_eq _ _ _).trans rfl
theorem e_X4_pass_69 (i1 : Nat) (x2 : Int32) (x3 : Int32) (w : XW) : q_X4_pass_69 i1 x2 x3 w = ((F_X4_sumFor [.inr (3, 0), .inr (8, i1), .inl (.int x2)] w).bind fun r0 => (bif decide ((lg_cmp r0.1 0) ≤ 0) then (q_X4_pass_111 i1 x2 r0.2) else (q_X4_pass_80 i1 x2 x3 r0.2))) := (ev_eq _ _ _).trans rfl
theorem e_X4_pass_80 (i1 : Nat) (x2 : Int32) (x3 : Int32) (w : XW) : q_X4_pass_80 i1 x2 x3 w = ((gR w 3 0 0).bind fun j0 => (if x3 < 0 ∨ 6 ≤ x3.toNatClampNeg then none else (if x3 < 0 ∨ 6 ≤ x3.toNatClampNeg then none else (if x2 < 0 ∨ 5 ≤ x2.toNatClampNeg then none else (if x3 < 0 ∨ 6 ≤ x3.toNatClampNeg then none else (q_X4_pass_111 i1 x2 (sI w 30 i1 x3.toNatClampNeg (if ((gI w 30 i1 x3.toNatClampNeg) + (gI w 19 0 x2.toNatClampNeg)) < (gI w 13 j0 x3.toNatClampNeg) then ((gI w 30 i1 x3.toNatClampNeg) + (gI w 19 0 x2.toNatClampNeg)) else (gI w 13 j0 x3.toNatClampNeg))))))))) := (ev_eq _ _ _).trans rfl
theorem e_X4_pass_111 (i1 : Nat) (x2 : Int32) (w : XW) : q_X4_pass_111 i1 x2 w = (q_X4_pass_30 i1 (x2 + 1) w) := (ev_eq _ _ _).trans rfl
theorem e_X4_pass_117 (i1 : Nat) (w : XW) : q_X4_pass_117 i1 w = ((F_X4_overhear [.inr (3, 0), .inr (8, i1)] w).bind fun r0 => ((F_X4_warm [.inr (3, 0), .inr (8, i1)] (sI r0 8 i1 1 ((gI r0 8 i1 1) + 1))).bind fun r1 => (some (some (.inl (.int r1.1)), r1.2)))) := (ev_eq _ _ _).trans rfl
theorem f_X4_pass (i1 : Nat) (w : XW) : F_X4_pass [.inr (3, 0), .inr (8, i1)] w = (q_X4_pass_0 i1 w).bind pI := rfl

-- WinterKeep.night()I
theorem dX11_night_0 : decode cX11_night 0 = .ok (.aload_n 0, 1) := by decide +kernel
theorem dX11_night_1 : decode cX11_night 1 = .ok (.getfield 39, 3) := by decide +kernel
theorem dX11_night_4 : decode cX11_night 4 = .ok (.getfield 227, 3) := by decide +kernel
theorem dX11_night_7 : decode cX11_night 7 = .ok (.ifCond .eq 16, 3) := by decide +kernel
theorem dX11_night_10 : decode cX11_night 10 = .ok (.aload_n 0, 1) := by decide +kernel
theorem dX11_night_11 : decode cX11_night 11 = .ok (.getfield 46, 3) := by decide +kernel
theorem dX11_night_14 : decode cX11_night 14 = .ok (.getfield 206, 3) := by decide +kernel
theorem dX11_night_17 : decode cX11_night 17 = .ok (.sipush 999, 3) := by decide +kernel
theorem dX11_night_20 : decode cX11_night 20 = .ok (.if_icmp .lt 5, 3) := by decide +kernel
theorem dX11_night_23 : decode cX11_night 23 = .ok (.iconst (-1), 1) := by decide +kernel
theorem dX11_night_24 : decode cX11_night 24 = .ok (.ireturn, 1) := by decide +kernel
theorem dX11_night_25 : decode cX11_night 25 = .ok (.aload_n 0, 1) := by decide +kernel
theorem dX11_night_26 : decode cX11_night 26 = .ok (.invokevirtual 231, 3) := by decide +kernel
theorem dX11_night_29 : decode cX11_night 29 = .ok (.aload_n 0, 1) := by decide +kernel
theorem dX11_night_30 : decode cX11_night 30 = .ok (.getfield 56, 3) := by decide +kernel
theorem dX11_night_33 : decode cX11_night 33 = .ok (.aload_n 0, 1) := by decide +kernel
theorem dX11_night_34 : decode cX11_night 34 = .ok (.getfield 39, 3) := by decide +kernel
theorem dX11_night_37 : decode cX11_night 37 = .ok (.aload_n 0, 1) := by decide +kernel
theorem dX11_night_38 : decode cX11_night 38 = .ok (.aload_n 0, 1) := by decide +kernel
theorem dX11_night_39 : decode cX11_night 39 = .ok (.getfield 33, 3) := by decide +kernel
theorem dX11_night_42 : decode cX11_night 42 = .ok (.invokevirtual 234, 3) := by decide +kernel
theorem dX11_night_45 : decode cX11_night 45 = .ok (.invokevirtual 238, 3) := by decide +kernel
theorem dX11_night_48 : decode cX11_night 48 = .ok (.aload_n 0, 1) := by decide +kernel
theorem dX11_night_49 : decode cX11_night 49 = .ok (.getfield 56, 3) := by decide +kernel
theorem dX11_night_52 : decode cX11_night 52 = .ok (.aload_n 0, 1) := by decide +kernel
theorem dX11_night_53 : decode cX11_night 53 = .ok (.getfield 46, 3) := by decide +kernel
theorem dX11_night_56 : decode cX11_night 56 = .ok (.invokevirtual 242, 3) := by decide +kernel
theorem dX11_night_59 : decode cX11_night 59 = .ok (.ireturn, 1) := by decide +kernel
theorem vc_X11_231 : XVw RX11 231 0 10 1 yX11_remember cX11_remember none := ⟨RX11, TX11, tyX11, 20, xk_10, rfl, ⟨by decide, by decide⟩, by decide +kernel, wt_667, wt_669, ws_14, wt_1, wt_670⟩
theorem vc_X11_234 : XVw RX11 234 1 10 2 yX11_ruleAt cX11_ruleAt (some (.object "WinterKeep$Rule")) := ⟨RX11, TX11, tyX11, 20, xk_10, rfl, ⟨by decide, by decide⟩, by decide +kernel, wt_675, wt_677, ws_15, wt_1, wt_678⟩
theorem vc_X11_238 : XVw RX11 238 2 3 4 yX4_take cX4_take none := ⟨RX4, TX4, tyX4, 7, xk_3, rfl, ⟨by decide, by decide⟩, by decide +kernel, wt_679, wt_680, wt_681, wt_6, wt_682⟩
theorem vc_X11_242 : XVw RX11 242 1 3 4 yX4_pass cX4_pass (some .int) := ⟨RX4, TX4, tyX4, 7, xk_3, rfl, ⟨by decide, by decide⟩, by decide +kernel, wt_683, wt_684, wt_685, wt_6, wt_686⟩
noncomputable def bs_X11_night : List (Nat × XB) := [
  (0, (sq (xLA 0) (sq (xGD 10 5 1) (sq (xGI 1 0) (tIf1 (fun x => decide (x = 0)) 23 [false] 10 [true]))))),
  (10, (sq (xLA 0) (sq (xGS 10 8 1 0) (sq (xGI 8 1) (sq (xC (.int 999)) (tIf2 (fun x y => decide (x < y)) 25 [true] 23 [false])))))),
  (23, (sq (xC (.int (-1))) tRI)),
  (25, (sq (xLA 0) (sq (xCV 10 1 F_X11_remember) (sq (xLA 0) (sq (xGS 10 3 1 0) (sq (xLA 0) (sq (xGD 10 5 1) (sq (xLA 0) (sq (xLA 0) (sq (xGI 10 4) (sq (xCR 10 2 6 F_X11_ruleAt) (sq (xCV 3 3 F_X4_take) (sq (xLA 0) (sq (xGS 10 3 1 0) (sq (xLA 0) (sq (xGS 10 8 1 0) (sq (xCI 3 2 F_X4_pass) tRI)))))))))))))))))]
set_option maxRecDepth 100000 in
set_option maxHeartbeats 4000000 in
theorem s_X11_night : ∀ X : XCtx, XE X → X.2.2.1.1 = cX11_night → X.2.2.1.2.1 = 1 → X.2.2.1.2.2.1 = yX11_night.cls → X.2.2.1.2.2.2.1 = (some .int) → X.1.2.2.2.1 = { frames := 5, cells := 0, slots := 0, locals := 123 } → SndBs X bs_X11_night := by
  rintro ⟨⟨p, l, e, R, s⟩, Y, ⟨cc, nL, own, ret, Ts⟩, Z⟩ hE h1 h2 h3 h4 h5
  dsimp only at h1 h2 h3 h4 h5
  subst h1 h2 h3 h4 h5
  exact ⟨(n_sq (n_aload_n hE dX11_night_0) (n_sq (n_getD hE xk_10 (k := 5) rfl (by decide) rfl wt_321 dX11_night_1) (n_sq (n_getI hE xk_1 (k := 0) rfl (by decide) rfl wt_96 dX11_night_4) (n_ifeq hE (by decide) dX11_night_7)))),
    (n_sq (n_aload_n hE dX11_night_10) (n_sq (n_getS hE xk_10 (k := 6) rfl (by decide) rfl wt_322 dX11_night_11) (n_sq (n_getI hE xk_8 (k := 1) rfl (by decide) rfl wt_178 dX11_night_14) (n_sq (n_sipush hE (by decide) dX11_night_17) (n_ifclt hE (by decide) dX11_night_20))))),
    (n_sq (n_iconst hE (by decide) dX11_night_23) (n_ireturn hE rfl dX11_night_24)),
    (n_sq (n_aload_n hE dX11_night_25) (n_sq (n_cVv hE m_X11_remember vc_X11_231 (show 1 + 1 ≤ 5 ∧ 8 + (1 + 11) + 24 ≤ 123 by decide) dX11_night_26) (n_sq (n_aload_n hE dX11_night_29) (n_sq (n_getS hE xk_10 (k := 8) rfl (by decide) rfl wt_324 dX11_night_30) (n_sq (n_aload_n hE dX11_night_33) (n_sq (n_getD hE xk_10 (k := 5) rfl (by decide) rfl wt_321 dX11_night_34) (n_sq (n_aload_n hE dX11_night_37) (n_sq (n_aload_n hE dX11_night_38) (n_sq (n_getI hE xk_10 (k := 4) rfl (by decide) rfl wt_320 dX11_night_39) (n_sq (n_cRv hE m_X11_ruleAt vc_X11_234 (show 1 + 1 ≤ 5 ∧ 8 + (2 + 11) + 22 ≤ 123 by decide) dX11_night_42) (n_sq (n_cVv hE m_X4_take vc_X11_238 (show 0 + 1 ≤ 5 ∧ 8 + (4 + 11) + 0 ≤ 123 by decide) dX11_night_45) (n_sq (n_aload_n hE dX11_night_48) (n_sq (n_getS hE xk_10 (k := 8) rfl (by decide) rfl wt_324 dX11_night_49) (n_sq (n_aload_n hE dX11_night_52) (n_sq (n_getS hE xk_10 (k := 6) rfl (by decide) rfl wt_322 dX11_night_53) (n_sq (n_cIv hE m_X4_pass vc_X11_242 (show 4 + 1 ≤ 5 ∧ 8 + (4 + 11) + 100 ≤ 123 by decide) dX11_night_56) (n_ireturn hE rfl dX11_night_59))))))))))))))))), trivial⟩
noncomputable def F_X11_night (as : List XV) (w : XW) : Option (Int32 × XW) := (xF 1 bs_X11_night as w).bind pI
theorem m_X11_night : XM yX11_night cX11_night 1 (some .int) 5 123 (eI F_X11_night) := xm_I (xm_of (by decide) s_X11_night)
noncomputable def q_X11_night_0 (w : XW) : Option XR := ev bs_X11_night 0 ([some (.inr (10, 0))], [], w)
noncomputable def q_X11_night_10 (w : XW) : Option XR := ev bs_X11_night 10 ([some (.inr (10, 0))], [], w)
noncomputable def q_X11_night_23 (w : XW) : Option XR := ev bs_X11_night 23 ([none], [], w)
noncomputable def q_X11_night_25 (w : XW) : Option XR := ev bs_X11_night 25 ([some (.inr (10, 0))], [], w)
theorem e_X11_night_0 (w : XW) : q_X11_night_0 w = ((gR w 10 0 5).bind fun j0 => (bif decide ((gI w 1 j0 0) = 0) then (q_X11_night_23 w) else (q_X11_night_10 w))) := (ev_eq _ _ _).trans rfl
theorem e_X11_night_10 (w : XW) : q_X11_night_10 w = (bif decide ((gI w 8 0 1) < 999) then (q_X11_night_25 w) else (q_X11_night_23 w)) := (ev_eq _ _ _).trans rfl
theorem e_X11_night_23 (w : XW) : q_X11_night_23 w = (some (some (.inl (.int (-1))), w)) := (ev_eq _ _ _).trans rfl
theorem e_X11_night_25 (w : XW) : q_X11_night_25 w = ((F_X11_remember [.inr (10, 0)] w).bind fun r0 => ((gR r0 10 0 5).bind fun j1 => ((F_X11_ruleAt [.inr (10, 0), .inl (.int (gI r0 10 0 4))] r0).bind fun r2 => (oR r2.1 ((F_X4_take [.inr (3, 0), .inr (1, j1), .inl .null] r2.2).bind fun r4 => ((F_X4_pass [.inr (3, 0), .inr (8, 0)] r4).bind fun r5 => (some (some (.inl (.int r5.1)), r5.2)))) fun j3 => ((F_X4_take [.inr (3, 0), .inr (1, j1), .inr (6, j3)] r2.2).bind fun r4 => ((F_X4_pass [.inr (3, 0), .inr (8, 0)] r4).bind fun r5 => (some (some (.inl (.int r5.1)), r5.2)))))))) := (ev_eq _ _ _).trans rfl
theorem f_X11_night (w : XW) : F_X11_night [.inr (10, 0)] w = (q_X11_night_0 w).bind pI := rfl

-- WinterKeep.air(I)I
theorem dX11_air_0 : decode cX11_air 0 = .ok (.aload_n 0, 1) := by decide +kernel
theorem dX11_air_1 : decode cX11_air 1 = .ok (.iload_n 1, 1) := by decide +kernel
theorem dX11_air_2 : decode cX11_air 2 = .ok (.invokevirtual 145, 3) := by decide +kernel
theorem dX11_air_5 : decode cX11_air 5 = .ok (.ifCond .eq 38, 3) := by decide +kernel
theorem dX11_air_8 : decode cX11_air 8 = .ok (.aload_n 0, 1) := by decide +kernel
theorem dX11_air_9 : decode cX11_air 9 = .ok (.getfield 46, 3) := by decide +kernel
theorem dX11_air_12 : decode cX11_air 12 = .ok (.getfield 161, 3) := by decide +kernel
theorem dX11_air_15 : decode cX11_air 15 = .ok (.iload_n 1, 1) := by decide +kernel
theorem dX11_air_16 : decode cX11_air 16 = .ok (.iaload, 1) := by decide +kernel
theorem dX11_air_17 : decode cX11_air 17 = .ok (.iconst (-1), 1) := by decide +kernel
theorem dX11_air_18 : decode cX11_air 18 = .ok (.if_icmp .ne 25, 3) := by decide +kernel
theorem dX11_air_21 : decode cX11_air 21 = .ok (.aload_n 0, 1) := by decide +kernel
theorem dX11_air_22 : decode cX11_air 22 = .ok (.getfield 46, 3) := by decide +kernel
theorem dX11_air_25 : decode cX11_air 25 = .ok (.getfield 155, 3) := by decide +kernel
theorem dX11_air_28 : decode cX11_air 28 = .ok (.iload_n 1, 1) := by decide +kernel
theorem dX11_air_29 : decode cX11_air 29 = .ok (.iaload, 1) := by decide +kernel
theorem dX11_air_30 : decode cX11_air 30 = .ok (.aload_n 0, 1) := by decide +kernel
theorem dX11_air_31 : decode cX11_air 31 = .ok (.getfield 46, 3) := by decide +kernel
theorem dX11_air_34 : decode cX11_air 34 = .ok (.getfield 158, 3) := by decide +kernel
theorem dX11_air_37 : decode cX11_air 37 = .ok (.iload_n 1, 1) := by decide +kernel
theorem dX11_air_38 : decode cX11_air 38 = .ok (.iaload, 1) := by decide +kernel
theorem dX11_air_39 : decode cX11_air 39 = .ok (.iadd, 1) := by decide +kernel
theorem dX11_air_40 : decode cX11_air 40 = .ok (.ifCond .ne 5, 3) := by decide +kernel
theorem dX11_air_43 : decode cX11_air 43 = .ok (.iconst (-1), 1) := by decide +kernel
theorem dX11_air_44 : decode cX11_air 44 = .ok (.ireturn, 1) := by decide +kernel
theorem dX11_air_45 : decode cX11_air 45 = .ok (.aload_n 0, 1) := by decide +kernel
theorem dX11_air_46 : decode cX11_air 46 = .ok (.invokevirtual 231, 3) := by decide +kernel
theorem dX11_air_49 : decode cX11_air 49 = .ok (.aload_n 0, 1) := by decide +kernel
theorem dX11_air_50 : decode cX11_air 50 = .ok (.getfield 46, 3) := by decide +kernel
theorem dX11_air_53 : decode cX11_air 53 = .ok (.getfield 155, 3) := by decide +kernel
theorem dX11_air_56 : decode cX11_air 56 = .ok (.iload_n 1, 1) := by decide +kernel
theorem dX11_air_57 : decode cX11_air 57 = .ok (.dup2, 1) := by decide +kernel
theorem dX11_air_58 : decode cX11_air 58 = .ok (.iaload, 1) := by decide +kernel
theorem dX11_air_59 : decode cX11_air 59 = .ok (.iconst 2, 1) := by decide +kernel
theorem dX11_air_60 : decode cX11_air 60 = .ok (.idiv, 1) := by decide +kernel
theorem dX11_air_61 : decode cX11_air 61 = .ok (.iastore, 1) := by decide +kernel
theorem dX11_air_62 : decode cX11_air 62 = .ok (.aload_n 0, 1) := by decide +kernel
theorem dX11_air_63 : decode cX11_air 63 = .ok (.getfield 46, 3) := by decide +kernel
theorem dX11_air_66 : decode cX11_air 66 = .ok (.getfield 158, 3) := by decide +kernel
theorem dX11_air_69 : decode cX11_air 69 = .ok (.iload_n 1, 1) := by decide +kernel
theorem dX11_air_70 : decode cX11_air 70 = .ok (.dup2, 1) := by decide +kernel
theorem dX11_air_71 : decode cX11_air 71 = .ok (.iaload, 1) := by decide +kernel
theorem dX11_air_72 : decode cX11_air 72 = .ok (.iconst 2, 1) := by decide +kernel
theorem dX11_air_73 : decode cX11_air 73 = .ok (.idiv, 1) := by decide +kernel
theorem dX11_air_74 : decode cX11_air 74 = .ok (.iastore, 1) := by decide +kernel
theorem dX11_air_75 : decode cX11_air 75 = .ok (.aload_n 0, 1) := by decide +kernel
theorem dX11_air_76 : decode cX11_air 76 = .ok (.getfield 46, 3) := by decide +kernel
theorem dX11_air_79 : decode cX11_air 79 = .ok (.getfield 155, 3) := by decide +kernel
theorem dX11_air_82 : decode cX11_air 82 = .ok (.iload_n 1, 1) := by decide +kernel
theorem dX11_air_83 : decode cX11_air 83 = .ok (.iaload, 1) := by decide +kernel
theorem dX11_air_84 : decode cX11_air 84 = .ok (.ireturn, 1) := by decide +kernel
noncomputable def bs_X11_air : List (Nat × XB) := [
  (0, (sq (xLA 0) (sq (xLI 1) (sq (xCI 10 2 F_X11_isKeep) (tIf1 (fun x => decide (x = 0)) 43 [false, false] 8 [true, true]))))),
  (8, (sq (xLA 0) (sq (xGS 10 8 1 0) (sq (xGS 8 32 0 0) (sq (xLI 1) (sq (xAI 32 6) (sq (xC (.int (-1))) (tIf2 (fun x y => decide (¬ x = y)) 43 [false, false] 21 [true, true])))))))),
  (21, (sq (xLA 0) (sq (xGS 10 8 1 0) (sq (xGS 8 30 0 0) (sq (xLI 1) (sq (xAI 30 6) (sq (xLA 0) (sq (xGS 10 8 1 0) (sq (xGS 8 31 0 0) (sq (xLI 1) (sq (xAI 31 6) (sq (xI2 (· + ·)) (tIf1 (fun x => decide (¬ x = 0)) 45 [true, true] 43 [false, false]))))))))))))),
  (43, (sq (xC (.int (-1))) tRI)),
  (45, (sq (xLA 0) (sq (xCV 10 1 F_X11_remember) (sq (xLA 0) (sq (xGS 10 8 1 0) (sq (xGS 8 30 0 0) (sq (xLI 1) (sq (xDup2) (sq (xAI 30 6) (sq (xC (.int 2)) (sq (xI2z (· / ·)) (sq (xTI 30 6 (fun x => x)) (sq (xLA 0) (sq (xGS 10 8 1 0) (sq (xGS 8 31 0 0) (sq (xLI 1) (sq (xDup2) (sq (xAI 31 6) (sq (xC (.int 2)) (sq (xI2z (· / ·)) (sq (xTI 31 6 (fun x => x)) (sq (xLA 0) (sq (xGS 10 8 1 0) (sq (xGS 8 30 0 0) (sq (xLI 1) (sq (xAI 30 6) tRI))))))))))))))))))))))))))]
set_option maxRecDepth 100000 in
set_option maxHeartbeats 4000000 in
theorem s_X11_air : ∀ X : XCtx, XE X → X.2.2.1.1 = cX11_air → X.2.2.1.2.1 = 2 → X.2.2.1.2.2.1 = yX11_air.cls → X.2.2.1.2.2.2.1 = (some .int) → X.1.2.2.2.1 = { frames := 2, cells := 0, slots := 0, locals := 44 } → SndBs X bs_X11_air := by
  rintro ⟨⟨p, l, e, R, s⟩, Y, ⟨cc, nL, own, ret, Ts⟩, Z⟩ hE h1 h2 h3 h4 h5
  dsimp only at h1 h2 h3 h4 h5
  subst h1 h2 h3 h4 h5
  exact ⟨(n_sq (n_aload_n hE dX11_air_0) (n_sq (n_iload_n hE dX11_air_1) (n_sq (n_cIv hE m_X11_isKeep vc_X11_145 (show 1 + 1 ≤ 2 ∧ 8 + (2 + 11) + 22 ≤ 44 by decide) dX11_air_2) (n_ifeq hE (by decide) dX11_air_5)))),
    (n_sq (n_aload_n hE dX11_air_8) (n_sq (n_getS hE xk_10 (k := 6) rfl (by decide) rfl wt_322 dX11_air_9) (n_sq (n_getS hE xk_8 (k := 4) rfl (by decide) rfl wt_191 dX11_air_12) (n_sq (n_iload_n hE dX11_air_15) (n_sq (n_iald hE rfl (by decide) dX11_air_16) (n_sq (n_iconst hE (by decide) dX11_air_17) (n_ifcne hE (by decide) dX11_air_18))))))),
    (n_sq (n_aload_n hE dX11_air_21) (n_sq (n_getS hE xk_10 (k := 6) rfl (by decide) rfl wt_322 dX11_air_22) (n_sq (n_getS hE xk_8 (k := 2) rfl (by decide) rfl wt_183 dX11_air_25) (n_sq (n_iload_n hE dX11_air_28) (n_sq (n_iald hE rfl (by decide) dX11_air_29) (n_sq (n_aload_n hE dX11_air_30) (n_sq (n_getS hE xk_10 (k := 6) rfl (by decide) rfl wt_322 dX11_air_31) (n_sq (n_getS hE xk_8 (k := 3) rfl (by decide) rfl wt_186 dX11_air_34) (n_sq (n_iload_n hE dX11_air_37) (n_sq (n_iald hE rfl (by decide) dX11_air_38) (n_sq (n_iadd hE dX11_air_39) (n_ifne hE (by decide) dX11_air_40)))))))))))),
    (n_sq (n_iconst hE (by decide) dX11_air_43) (n_ireturn hE rfl dX11_air_44)),
    (n_sq (n_aload_n hE dX11_air_45) (n_sq (n_cVv hE m_X11_remember vc_X11_231 (show 1 + 1 ≤ 2 ∧ 8 + (1 + 11) + 24 ≤ 44 by decide) dX11_air_46) (n_sq (n_aload_n hE dX11_air_49) (n_sq (n_getS hE xk_10 (k := 6) rfl (by decide) rfl wt_322 dX11_air_50) (n_sq (n_getS hE xk_8 (k := 2) rfl (by decide) rfl wt_183 dX11_air_53) (n_sq (n_iload_n hE dX11_air_56) (n_sq (n_dup2 hE dX11_air_57) (n_sq (n_iald hE rfl (by decide) dX11_air_58) (n_sq (n_iconst hE (by decide) dX11_air_59) (n_sq (n_idiv hE dX11_air_60) (n_sq (n_iast hE rfl (by decide) dX11_air_61) (n_sq (n_aload_n hE dX11_air_62) (n_sq (n_getS hE xk_10 (k := 6) rfl (by decide) rfl wt_322 dX11_air_63) (n_sq (n_getS hE xk_8 (k := 3) rfl (by decide) rfl wt_186 dX11_air_66) (n_sq (n_iload_n hE dX11_air_69) (n_sq (n_dup2 hE dX11_air_70) (n_sq (n_iald hE rfl (by decide) dX11_air_71) (n_sq (n_iconst hE (by decide) dX11_air_72) (n_sq (n_idiv hE dX11_air_73) (n_sq (n_iast hE rfl (by decide) dX11_air_74) (n_sq (n_aload_n hE dX11_air_75) (n_sq (n_getS hE xk_10 (k := 6) rfl (by decide) rfl wt_322 dX11_air_76) (n_sq (n_getS hE xk_8 (k := 2) rfl (by decide) rfl wt_183 dX11_air_79) (n_sq (n_iload_n hE dX11_air_82) (n_sq (n_iald hE rfl (by decide) dX11_air_83) (n_ireturn hE rfl dX11_air_84)))))))))))))))))))))))))), trivial⟩
noncomputable def F_X11_air (as : List XV) (w : XW) : Option (Int32 × XW) := (xF 2 bs_X11_air as w).bind pI
theorem m_X11_air : XM yX11_air cX11_air 2 (some .int) 2 44 (eI F_X11_air) := xm_I (xm_of (by decide) s_X11_air)
noncomputable def q_X11_air_0 (x1 : Int32) (w : XW) : Option XR := ev bs_X11_air 0 ([some (.inr (10, 0)), some (.inl (.int x1))], [], w)
noncomputable def q_X11_air_8 (x1 : Int32) (w : XW) : Option XR := ev bs_X11_air 8 ([some (.inr (10, 0)), some (.inl (.int x1))], [], w)
noncomputable def q_X11_air_21 (x1 : Int32) (w : XW) : Option XR := ev bs_X11_air 21 ([some (.inr (10, 0)), some (.inl (.int x1))], [], w)
noncomputable def q_X11_air_43 (w : XW) : Option XR := ev bs_X11_air 43 ([none, none], [], w)
noncomputable def q_X11_air_45 (x1 : Int32) (w : XW) : Option XR := ev bs_X11_air 45 ([some (.inr (10, 0)), some (.inl (.int x1))], [], w)
theorem e_X11_air_0 (x1 : Int32) (w : XW) : q_X11_air_0 x1 w = ((F_X11_isKeep [.inr (10, 0), .inl (.int x1)] w).bind fun r0 => (bif decide (r0.1 = 0) then (q_X11_air_43 r0.2) else (q_X11_air_8 x1 r0.2))) := (ev_eq _ _ _).trans rfl
theorem e_X11_air_8 (x1 : Int32) (w : XW) : q_X11_air_8 x1 w = (if x1 < 0 ∨ 6 ≤ x1.toNatClampNeg then none else (bif decide (¬ (gI w 32 0 x1.toNatClampNeg) = (-1)) then (q_X11_air_43 w) else (q_X11_air_21 x1 w))) := (ev_eq _ _ _).trans rfl
theorem e_X11_air_21 (x1 : Int32) (w : XW) : q_X11_air_21 x1 w = (if x1 < 0 ∨ 6 ≤ x1.toNatClampNeg then none else (if x1 < 0 ∨ 6 ≤ x1.toNatClampNeg then none else (bif decide (¬ ((gI w 30 0 x1.toNatClampNeg) + (gI w 31 0 x1.toNatClampNeg)) = 0) then (q_X11_air_45 x1 w) else (q_X11_air_43 w)))) := (ev_eq _ _ _).trans rfl
theorem e_X11_air_43 (w : XW) : q_X11_air_43 w = (some (some (.inl (.int (-1))), w)) := (ev_eq _ _ _).trans rfl
theorem e_X11_air_45 (x1 : Int32) (w : XW) : q_X11_air_45 x1 w = ((F_X11_remember [.inr (10, 0)] w).bind fun r0 => (if x1 < 0 ∨ 6 ≤ x1.toNatClampNeg then none else (if x1 < 0 ∨ 6 ≤ x1.toNatClampNeg then none else (if x1 < 0 ∨ 6 ≤ x1.toNatClampNeg then none else (if x1 < 0 ∨ 6 ≤ x1.toNatClampNeg then none else (if x1 < 0 ∨ 6 ≤ x1.toNatClampNeg then none else (some (some (.inl (.int (gI (sI (sI r0 30 0 x1.toNatClampNeg ((gI r0 30 0 x1.toNatClampNeg) / 2)) 31 0 x1.toNatClampNeg ((gI (sI r0 30 0 x1.toNatClampNeg ((gI r0 30 0 x1.toNatClampNeg) / 2)) 31 0 x1.toNatClampNeg) / 2)) 30 0 x1.toNatClampNeg))), sI (sI r0 30 0 x1.toNatClampNeg ((gI r0 30 0 x1.toNatClampNeg) / 2)) 31 0 x1.toNatClampNeg ((gI (sI r0 30 0 x1.toNatClampNeg ((gI r0 30 0 x1.toNatClampNeg) / 2)) 31 0 x1.toNatClampNeg) / 2))))))))) := (ev_eq _ _ _).trans rfl
theorem f_X11_air (x1 : Int32) (w : XW) : F_X11_air [.inr (10, 0), .inl (.int x1)] w = (q_X11_air_0 x1 w).bind pI := rfl

-- WinterKeep.carry(II)I
theorem dX11_carry_0 : decode cX11_carry 0 = .ok (.aload_n 0, 1) := by decide +kernel
theorem dX11_carry_1 : decode cX11_carry 1 = .ok (.iload_n 1, 1) := by decide +kernel
theorem dX11_carry_2 : decode cX11_carry 2 = .ok (.invokevirtual 145, 3) := by decide +kernel
theorem dX11_carry_5 : decode cX11_carry 5 = .ok (.ifCond .eq 16, 3) := by decide +kernel
theorem dX11_carry_8 : decode cX11_carry 8 = .ok (.aload_n 0, 1) := by decide +kernel
theorem dX11_carry_9 : decode cX11_carry 9 = .ok (.getfield 46, 3) := by decide +kernel
theorem dX11_carry_12 : decode cX11_carry 12 = .ok (.getfield 161, 3) := by decide +kernel
theorem dX11_carry_15 : decode cX11_carry 15 = .ok (.iload_n 1, 1) := by decide +kernel
theorem dX11_carry_16 : decode cX11_carry 16 = .ok (.iaload, 1) := by decide +kernel
theorem dX11_carry_17 : decode cX11_carry 17 = .ok (.iconst (-1), 1) := by decide +kernel
theorem dX11_carry_18 : decode cX11_carry 18 = .ok (.if_icmp .eq 5, 3) := by decide +kernel
theorem dX11_carry_21 : decode cX11_carry 21 = .ok (.iconst (-1), 1) := by decide +kernel
theorem dX11_carry_22 : decode cX11_carry 22 = .ok (.ireturn, 1) := by decide +kernel
theorem dX11_carry_23 : decode cX11_carry 23 = .ok (.aload_n 0, 1) := by decide +kernel
theorem dX11_carry_24 : decode cX11_carry 24 = .ok (.iload_n 2, 1) := by decide +kernel
theorem dX11_carry_25 : decode cX11_carry 25 = .ok (.invokevirtual 180, 3) := by decide +kernel
theorem dX11_carry_28 : decode cX11_carry 28 = .ok (.ifCond .eq 15, 3) := by decide +kernel
theorem dX11_carry_31 : decode cX11_carry 31 = .ok (.aload_n 0, 1) := by decide +kernel
theorem dX11_carry_32 : decode cX11_carry 32 = .ok (.getfield 46, 3) := by decide +kernel
theorem dX11_carry_35 : decode cX11_carry 35 = .ok (.iload_n 2, 1) := by decide +kernel
theorem dX11_carry_36 : decode cX11_carry 36 = .ok (.invokevirtual 186, 3) := by decide +kernel
theorem dX11_carry_39 : decode cX11_carry 39 = .ok (.iconst (-1), 1) := by decide +kernel
theorem dX11_carry_40 : decode cX11_carry 40 = .ok (.if_icmp .eq 5, 3) := by decide +kernel
theorem dX11_carry_43 : decode cX11_carry 43 = .ok (.iconst (-1), 1) := by decide +kernel
theorem dX11_carry_44 : decode cX11_carry 44 = .ok (.ireturn, 1) := by decide +kernel
theorem dX11_carry_45 : decode cX11_carry 45 = .ok (.aload_n 0, 1) := by decide +kernel
theorem dX11_carry_46 : decode cX11_carry 46 = .ok (.invokevirtual 231, 3) := by decide +kernel
theorem dX11_carry_49 : decode cX11_carry 49 = .ok (.aload_n 0, 1) := by decide +kernel
theorem dX11_carry_50 : decode cX11_carry 50 = .ok (.getfield 46, 3) := by decide +kernel
theorem dX11_carry_53 : decode cX11_carry 53 = .ok (.getfield 161, 3) := by decide +kernel
theorem dX11_carry_56 : decode cX11_carry 56 = .ok (.iload_n 1, 1) := by decide +kernel
theorem dX11_carry_57 : decode cX11_carry 57 = .ok (.iload_n 2, 1) := by decide +kernel
theorem dX11_carry_58 : decode cX11_carry 58 = .ok (.iastore, 1) := by decide +kernel
theorem dX11_carry_59 : decode cX11_carry 59 = .ok (.aload_n 0, 1) := by decide +kernel
theorem dX11_carry_60 : decode cX11_carry 60 = .ok (.iload_n 1, 1) := by decide +kernel
theorem dX11_carry_61 : decode cX11_carry 61 = .ok (.iload_n 2, 1) := by decide +kernel
theorem dX11_carry_62 : decode cX11_carry 62 = .ok (.invokevirtual 190, 3) := by decide +kernel
theorem dX11_carry_65 : decode cX11_carry 65 = .ok (.ireturn, 1) := by decide +kernel
noncomputable def bs_X11_carry : List (Nat × XB) := [
  (0, (sq (xLA 0) (sq (xLI 1) (sq (xCI 10 2 F_X11_isKeep) (tIf1 (fun x => decide (x = 0)) 21 [false, false, false] 8 [true, true, true]))))),
  (8, (sq (xLA 0) (sq (xGS 10 8 1 0) (sq (xGS 8 32 0 0) (sq (xLI 1) (sq (xAI 32 6) (sq (xC (.int (-1))) (tIf2 (fun x y => decide (x = y)) 23 [true, true, true] 21 [false, false, false])))))))),
  (21, (sq (xC (.int (-1))) tRI)),
  (23, (sq (xLA 0) (sq (xLI 2) (sq (xCI 10 2 F_X11_isField) (tIf1 (fun x => decide (x = 0)) 43 [false, false, false] 31 [true, true, true]))))),
  (31, (sq (xLA 0) (sq (xGS 10 8 1 0) (sq (xLI 2) (sq (xCI 8 2 F_X9_keepIn) (sq (xC (.int (-1))) (tIf2 (fun x y => decide (x = y)) 45 [true, true, true] 43 [false, false, false]))))))),
  (43, (sq (xC (.int (-1))) tRI)),
  (45, (sq (xLA 0) (sq (xCV 10 1 F_X11_remember) (sq (xLA 0) (sq (xGS 10 8 1 0) (sq (xGS 8 32 0 0) (sq (xLI 1) (sq (xLI 2) (sq (xTI 32 6 (fun x => x)) (sq (xLA 0) (sq (xLI 1) (sq (xLI 2) (sq (xCI 10 3 F_X11_keptOff) tRI)))))))))))))]
set_option maxRecDepth 100000 in
set_option maxHeartbeats 4000000 in
theorem s_X11_carry : ∀ X : XCtx, XE X → X.2.2.1.1 = cX11_carry → X.2.2.1.2.1 = 3 → X.2.2.1.2.2.1 = yX11_carry.cls → X.2.2.1.2.2.2.1 = (some .int) → X.1.2.2.2.1 = { frames := 3, cells := 0, slots := 0, locals := 65 } → SndBs X bs_X11_carry := by
  rintro ⟨⟨p, l, e, R, s⟩, Y, ⟨cc, nL, own, ret, Ts⟩, Z⟩ hE h1 h2 h3 h4 h5
  dsimp only at h1 h2 h3 h4 h5
  subst h1 h2 h3 h4 h5
  exact ⟨(n_sq (n_aload_n hE dX11_carry_0) (n_sq (n_iload_n hE dX11_carry_1) (n_sq (n_cIv hE m_X11_isKeep vc_X11_145 (show 1 + 1 ≤ 3 ∧ 8 + (2 + 11) + 22 ≤ 65 by decide) dX11_carry_2) (n_ifeq hE (by decide) dX11_carry_5)))),
    (n_sq (n_aload_n hE dX11_carry_8) (n_sq (n_getS hE xk_10 (k := 6) rfl (by decide) rfl wt_322 dX11_carry_9) (n_sq (n_getS hE xk_8 (k := 4) rfl (by decide) rfl wt_191 dX11_carry_12) (n_sq (n_iload_n hE dX11_carry_15) (n_sq (n_iald hE rfl (by decide) dX11_carry_16) (n_sq (n_iconst hE (by decide) dX11_carry_17) (n_ifceq hE (by decide) dX11_carry_18))))))),
    (n_sq (n_iconst hE (by decide) dX11_carry_21) (n_ireturn hE rfl dX11_carry_22)),
    (n_sq (n_aload_n hE dX11_carry_23) (n_sq (n_iload_n hE dX11_carry_24) (n_sq (n_cIv hE m_X11_isField vc_X11_180 (show 1 + 1 ≤ 3 ∧ 8 + (2 + 11) + 22 ≤ 65 by decide) dX11_carry_25) (n_ifeq hE (by decide) dX11_carry_28)))),
    (n_sq (n_aload_n hE dX11_carry_31) (n_sq (n_getS hE xk_10 (k := 6) rfl (by decide) rfl wt_322 dX11_carry_32) (n_sq (n_iload_n hE dX11_carry_35) (n_sq (n_cIv hE m_X9_keepIn vc_X11_186 (show 0 + 1 ≤ 3 ∧ 8 + (3 + 11) + 0 ≤ 65 by decide) dX11_carry_36) (n_sq (n_iconst hE (by decide) dX11_carry_39) (n_ifceq hE (by decide) dX11_carry_40)))))),
    (n_sq (n_iconst hE (by decide) dX11_carry_43) (n_ireturn hE rfl dX11_carry_44)),
    (n_sq (n_aload_n hE dX11_carry_45) (n_sq (n_cVv hE m_X11_remember vc_X11_231 (show 1 + 1 ≤ 3 ∧ 8 + (1 + 11) + 24 ≤ 65 by decide) dX11_carry_46) (n_sq (n_aload_n hE dX11_carry_49) (n_sq (n_getS hE xk_10 (k := 6) rfl (by decide) rfl wt_322 dX11_carry_50) (n_sq (n_getS hE xk_8 (k := 4) rfl (by decide) rfl wt_191 dX11_carry_53) (n_sq (n_iload_n hE dX11_carry_56) (n_sq (n_iload_n hE dX11_carry_57) (n_sq (n_iast hE rfl (by decide) dX11_carry_58) (n_sq (n_aload_n hE dX11_carry_59) (n_sq (n_iload_n hE dX11_carry_60) (n_sq (n_iload_n hE dX11_carry_61) (n_sq (n_cIv hE m_X11_keptOff vc_X11_190 (show 2 + 1 ≤ 3 ∧ 8 + (3 + 11) + 43 ≤ 65 by decide) dX11_carry_62) (n_ireturn hE rfl dX11_carry_65))))))))))))), trivial⟩
noncomputable def F_X11_carry (as : List XV) (w : XW) : Option (Int32 × XW) := (xF 3 bs_X11_carry as w).bind pI
theorem m_X11_carry : XM yX11_carry cX11_carry 3 (some .int) 3 65 (eI F_X11_carry) := xm_I (xm_of (by decide) s_X11_carry)
noncomputable def q_X11_carry_0 (x1 : Int32) (x2 : Int32) (w : XW) : Option XR := ev bs_X11_carry 0 ([some (.inr (10, 0)), some (.inl (.int x1)), some (.inl (.int x2))], [], w)
noncomputable def q_X11_carry_8 (x1 : Int32) (x2 : Int32) (w : XW) : Option XR := ev bs_X11_carry 8 ([some (.inr (10, 0)), some (.inl (.int x1)), some (.inl (.int x2))], [], w)
noncomputable def q_X11_carry_21 (w : XW) : Option XR := ev bs_X11_carry 21 ([none, none, none], [], w)
noncomputable def q_X11_carry_23 (x1 : Int32) (x2 : Int32) (w : XW) : Option XR := ev bs_X11_carry 23 ([some (.inr (10, 0)), some (.inl (.int x1)), some (.inl (.int x2))], [], w)
noncomputable def q_X11_carry_31 (x1 : Int32) (x2 : Int32) (w : XW) : Option XR := ev bs_X11_carry 31 ([some (.inr (10, 0)), some (.inl (.int x1)), some (.inl (.int x2))], [], w)
noncomputable def q_X11_carry_43 (w : XW) : Option XR := ev bs_X11_carry 43 ([none, none, none], [], w)
noncomputable def q_X11_carry_45 (x1 : Int32) (x2 : Int32) (w : XW) : Option XR := ev bs_X11_carry 45 ([some (.inr (10, 0)), some (.inl (.int x1)), some (.inl (.int x2))], [], w)
theorem e_X11_carry_0 (x1 : Int32) (x2 : Int32) (w : XW) : q_X11_carry_0 x1 x2 w = ((F_X11_isKeep [.inr (10, 0), .inl (.int x1)] w).bind fun r0 => (bif decide (r0.1 = 0) then (q_X11_carry_21 r0.2) else (q_X11_carry_8 x1 x2 r0.2))) := (ev_eq _ _ _).trans rfl
theorem e_X11_carry_8 (x1 : Int32) (x2 : Int32) (w : XW) : q_X11_carry_8 x1 x2 w = (if x1 < 0 ∨ 6 ≤ x1.toNatClampNeg then none else (bif decide ((gI w 32 0 x1.toNatClampNeg) = (-1)) then (q_X11_carry_23 x1 x2 w) else (q_X11_carry_21 w))) := (ev_eq _ _ _).trans rfl
theorem e_X11_carry_21 (w : XW) : q_X11_carry_21 w = (some (some (.inl (.int (-1))), w)) := (ev_eq _ _ _).trans rfl
theorem e_X11_carry_23 (x1 : Int32) (x2 : Int32) (w : XW) : q_X11_carry_23 x1 x2 w = ((F_X11_isField [.inr (10, 0), .inl (.int x2)] w).bind fun r0 => (bif decide (r0.1 = 0) then (q_X11_carry_43 r0.2) else (q_X11_carry_31 x1 x2 r0.2))) := (ev_eq _ _ _).trans rfl
theorem e_X11_carry_31 (x1 : Int32) (x2 : Int32) (w : XW) : q_X11_carry_31 x1 x2 w = ((F_X9_keepIn [.inr (8, 0), .inl (.int x2)] w).bind fun r0 => (bif decide (r0.1 = (-1)) then (q_X11_carry_45 x1 x2 r0.2) else (q_X11_carry_43 r0.2))) := (ev_eq _ _ _).trans rfl
theorem e_X11_carry_43 (w : XW) : q_X11_carry_43 w = (some (some (.inl (.int (-1))), w)) := (ev_eq _ _ _).trans rfl
theorem e_X11_carry_45 (x1 : Int32) (x2 : Int32) (w : XW) : q_X11_carry_45 x1 x2 w = ((F_X11_remember [.inr (10, 0)] w).bind fun r0 => (if x1 < 0 ∨ 6 ≤ x1.toNatClampNeg then none else ((F_X11_keptOff [.inr (10, 0), .inl (.int x1), .inl (.int x2)] (sI r0 32 0 x1.toNatClampNeg x2)).bind fun r1 => (some (some (.inl (.int r1.1)), r1.2))))) := (ev_eq _ _ _).trans rfl
theorem f_X11_carry (x1 : Int32) (x2 : Int32) (w : XW) : F_X11_carry [.inr (10, 0), .inl (.int x1), .inl (.int x2)] w = (q_X11_carry_0 x1 x2 w).bind pI := rfl

-- WinterKeep.fetch(I)I
theorem dX11_fetch_0 : decode cX11_fetch 0 = .ok (.aload_n 0, 1) := by decide +kernel
theorem dX11_fetch_1 : decode cX11_fetch 1 = .ok (.iload_n 1, 1) := by decide +kernel
theorem dX11_fetch_2 : decode cX11_fetch 2 = .ok (.invokevirtual 145, 3) := by decide +kernel
theorem dX11_fetch_5 : decode cX11_fetch 5 = .ok (.ifCond .eq 15, 3) := by decide +kernel
theorem dX11_fetch_8 : decode cX11_fetch 8 = .ok (.aload_n 0, 1) := by decide +kernel
theorem dX11_fetch_9 : decode cX11_fetch 9 = .ok (.getfield 46, 3) := by decide +kernel
theorem dX11_fetch_12 : decode cX11_fetch 12 = .ok (.getfield 161, 3) := by decide +kernel
theorem dX11_fetch_15 : decode cX11_fetch 15 = .ok (.iload_n 1, 1) := by decide +kernel
theorem dX11_fetch_16 : decode cX11_fetch 16 = .ok (.iaload, 1) := by decide +kernel
theorem dX11_fetch_17 : decode cX11_fetch 17 = .ok (.ifCond .ge 5, 3) := by decide +kernel
theorem dX11_fetch_20 : decode cX11_fetch 20 = .ok (.iconst (-1), 1) := by decide +kernel
theorem dX11_fetch_21 : decode cX11_fetch 21 = .ok (.ireturn, 1) := by decide +kernel
theorem dX11_fetch_22 : decode cX11_fetch 22 = .ok (.aload_n 0, 1) := by decide +kernel
theorem dX11_fetch_23 : decode cX11_fetch 23 = .ok (.invokevirtual 231, 3) := by decide +kernel
theorem dX11_fetch_26 : decode cX11_fetch 26 = .ok (.aload_n 0, 1) := by decide +kernel
theorem dX11_fetch_27 : decode cX11_fetch 27 = .ok (.getfield 46, 3) := by decide +kernel
theorem dX11_fetch_30 : decode cX11_fetch 30 = .ok (.getfield 161, 3) := by decide +kernel
theorem dX11_fetch_33 : decode cX11_fetch 33 = .ok (.iload_n 1, 1) := by decide +kernel
theorem dX11_fetch_34 : decode cX11_fetch 34 = .ok (.iaload, 1) := by decide +kernel
theorem dX11_fetch_35 : decode cX11_fetch 35 = .ok (.istore_n 2, 1) := by decide +kernel
theorem dX11_fetch_36 : decode cX11_fetch 36 = .ok (.aload_n 0, 1) := by decide +kernel
theorem dX11_fetch_37 : decode cX11_fetch 37 = .ok (.getfield 46, 3) := by decide +kernel
theorem dX11_fetch_40 : decode cX11_fetch 40 = .ok (.getfield 161, 3) := by decide +kernel
theorem dX11_fetch_43 : decode cX11_fetch 43 = .ok (.iload_n 1, 1) := by decide +kernel
theorem dX11_fetch_44 : decode cX11_fetch 44 = .ok (.iconst (-1), 1) := by decide +kernel
theorem dX11_fetch_45 : decode cX11_fetch 45 = .ok (.iastore, 1) := by decide +kernel
theorem dX11_fetch_46 : decode cX11_fetch 46 = .ok (.iload_n 2, 1) := by decide +kernel
theorem dX11_fetch_47 : decode cX11_fetch 47 = .ok (.ireturn, 1) := by decide +kernel
noncomputable def bs_X11_fetch : List (Nat × XB) := [
  (0, (sq (xLA 0) (sq (xLI 1) (sq (xCI 10 2 F_X11_isKeep) (tIf1 (fun x => decide (x = 0)) 20 [false, false, false] 8 [true, true, false]))))),
  (8, (sq (xLA 0) (sq (xGS 10 8 1 0) (sq (xGS 8 32 0 0) (sq (xLI 1) (sq (xAI 32 6) (tIf1 (fun x => decide (0 ≤ x)) 22 [true, true, false] 20 [false, false, false]))))))),
  (20, (sq (xC (.int (-1))) tRI)),
  (22, (sq (xLA 0) (sq (xCV 10 1 F_X11_remember) (sq (xLA 0) (sq (xGS 10 8 1 0) (sq (xGS 8 32 0 0) (sq (xLI 1) (sq (xAI 32 6) (sq (xSI 2) (sq (xLA 0) (sq (xGS 10 8 1 0) (sq (xGS 8 32 0 0) (sq (xLI 1) (sq (xC (.int (-1))) (sq (xTI 32 6 (fun x => x)) (sq (xLI 2) tRI))))))))))))))))]
set_option maxRecDepth 100000 in
set_option maxHeartbeats 4000000 in
theorem s_X11_fetch : ∀ X : XCtx, XE X → X.2.2.1.1 = cX11_fetch → X.2.2.1.2.1 = 3 → X.2.2.1.2.2.1 = yX11_fetch.cls → X.2.2.1.2.2.2.1 = (some .int) → X.1.2.2.2.1 = { frames := 2, cells := 0, slots := 0, locals := 44 } → SndBs X bs_X11_fetch := by
  rintro ⟨⟨p, l, e, R, s⟩, Y, ⟨cc, nL, own, ret, Ts⟩, Z⟩ hE h1 h2 h3 h4 h5
  dsimp only at h1 h2 h3 h4 h5
  subst h1 h2 h3 h4 h5
  exact ⟨(n_sq (n_aload_n hE dX11_fetch_0) (n_sq (n_iload_n hE dX11_fetch_1) (n_sq (n_cIv hE m_X11_isKeep vc_X11_145 (show 1 + 1 ≤ 2 ∧ 8 + (2 + 11) + 22 ≤ 44 by decide) dX11_fetch_2) (n_ifeq hE (by decide) dX11_fetch_5)))),
    (n_sq (n_aload_n hE dX11_fetch_8) (n_sq (n_getS hE xk_10 (k := 6) rfl (by decide) rfl wt_322 dX11_fetch_9) (n_sq (n_getS hE xk_8 (k := 4) rfl (by decide) rfl wt_191 dX11_fetch_12) (n_sq (n_iload_n hE dX11_fetch_15) (n_sq (n_iald hE rfl (by decide) dX11_fetch_16) (n_ifge hE (by decide) dX11_fetch_17)))))),
    (n_sq (n_iconst hE (by decide) dX11_fetch_20) (n_ireturn hE rfl dX11_fetch_21)),
    (n_sq (n_aload_n hE dX11_fetch_22) (n_sq (n_cVv hE m_X11_remember vc_X11_231 (show 1 + 1 ≤ 2 ∧ 8 + (1 + 11) + 24 ≤ 44 by decide) dX11_fetch_23) (n_sq (n_aload_n hE dX11_fetch_26) (n_sq (n_getS hE xk_10 (k := 6) rfl (by decide) rfl wt_322 dX11_fetch_27) (n_sq (n_getS hE xk_8 (k := 4) rfl (by decide) rfl wt_191 dX11_fetch_30) (n_sq (n_iload_n hE dX11_fetch_33) (n_sq (n_iald hE rfl (by decide) dX11_fetch_34) (n_sq (n_istore_n hE (show (2 : Nat) < 3 by decide) dX11_fetch_35) (n_sq (n_aload_n hE dX11_fetch_36) (n_sq (n_getS hE xk_10 (k := 6) rfl (by decide) rfl wt_322 dX11_fetch_37) (n_sq (n_getS hE xk_8 (k := 4) rfl (by decide) rfl wt_191 dX11_fetch_40) (n_sq (n_iload_n hE dX11_fetch_43) (n_sq (n_iconst hE (by decide) dX11_fetch_44) (n_sq (n_iast hE rfl (by decide) dX11_fetch_45) (n_sq (n_iload_n hE dX11_fetch_46) (n_ireturn hE rfl dX11_fetch_47)))))))))))))))), trivial⟩
noncomputable def F_X11_fetch (as : List XV) (w : XW) : Option (Int32 × XW) := (xF 3 bs_X11_fetch as w).bind pI
theorem m_X11_fetch : XM yX11_fetch cX11_fetch 3 (some .int) 2 44 (eI F_X11_fetch) := xm_I (xm_of (by decide) s_X11_fetch)
noncomputable def q_X11_fetch_0 (x1 : Int32) (w : XW) : Option XR := ev bs_X11_fetch 0 ([some (.inr (10, 0)), some (.inl (.int x1)), none], [], w)
noncomputable def q_X11_fetch_8 (x1 : Int32) (w : XW) : Option XR := ev bs_X11_fetch 8 ([some (.inr (10, 0)), some (.inl (.int x1)), none], [], w)
noncomputable def q_X11_fetch_20 (w : XW) : Option XR := ev bs_X11_fetch 20 ([none, none, none], [], w)
noncomputable def q_X11_fetch_22 (x1 : Int32) (w : XW) : Option XR := ev bs_X11_fetch 22 ([some (.inr (10, 0)), some (.inl (.int x1)), none], [], w)
theorem e_X11_fetch_0 (x1 : Int32) (w : XW) : q_X11_fetch_0 x1 w = ((F_X11_isKeep [.inr (10, 0), .inl (.int x1)] w).bind fun r0 => (bif decide (r0.1 = 0) then (q_X11_fetch_20 r0.2) else (q_X11_fetch_8 x1 r0.2))) := (ev_eq _ _ _).trans rfl
theorem e_X11_fetch_8 (x1 : Int32) (w : XW) : q_X11_fetch_8 x1 w = (if x1 < 0 ∨ 6 ≤ x1.toNatClampNeg then none else (bif decide (0 ≤ (gI w 32 0 x1.toNatClampNeg)) then (q_X11_fetch_22 x1 w) else (q_X11_fetch_20 w))) := (ev_eq _ _ _).trans rfl
theorem e_X11_fetch_20 (w : XW) : q_X11_fetch_20 w = (some (some (.inl (.int (-1))), w)) := (ev_eq _ _ _).trans rfl
theorem e_X11_fetch_22 (x1 : Int32) (w : XW) : q_X11_fetch_22 x1 w = ((F_X11_remember [.inr (10, 0)] w).bind fun r0 => (if x1 < 0 ∨ 6 ≤ x1.toNatClampNeg then none else (if x1 < 0 ∨ 6 ≤ x1.toNatClampNeg then none else (some (some (.inl (.int (gI r0 32 0 x1.toNatClampNeg))), sI r0 32 0 x1.toNatClampNeg (-1)))))) := (ev_eq _ _ _).trans rfl
theorem f_X11_fetch (x1 : Int32) (w : XW) : F_X11_fetch [.inr (10, 0), .inl (.int x1)] w = (q_X11_fetch_0 x1 w).bind pI := rfl
