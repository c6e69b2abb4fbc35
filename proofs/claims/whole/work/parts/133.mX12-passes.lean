-- WinterKeepModel.passes()I
theorem dX12_passes_0 : decode cX12_passes 0 = .ok (.iconst 0, 1) := by decide +kernel
theorem dX12_passes_1 : decode cX12_passes 1 = .ok (.istore_n 1, 1) := by decide +kernel
theorem dX12_passes_2 : decode cX12_passes 2 = .ok (.iload_n 1, 1) := by decide +kernel
theorem dX12_passes_3 : decode cX12_passes 3 = .ok (.aload_n 0, 1) := by decide +kernel
theorem dX12_passes_4 : decode cX12_passes 4 = .ok (.getfield 39, 3) := by decide +kernel
theorem dX12_passes_7 : decode cX12_passes 7 = .ok (.iconst 4, 1) := by decide +kernel
theorem dX12_passes_8 : decode cX12_passes 8 = .ok (.iaload, 1) := by decide +kernel
theorem dX12_passes_9 : decode cX12_passes 9 = .ok (.if_icmp .ge 63, 3) := by decide +kernel
theorem dX12_passes_12 : decode cX12_passes 12 = .ok (.iload_n 1, 1) := by decide +kernel
theorem dX12_passes_13 : decode cX12_passes 13 = .ok (.aload_n 0, 1) := by decide +kernel
theorem dX12_passes_14 : decode cX12_passes 14 = .ok (.getfield 46, 3) := by decide +kernel
theorem dX12_passes_17 : decode cX12_passes 17 = .ok (.if_icmp .eq 49, 3) := by decide +kernel
theorem dX12_passes_20 : decode cX12_passes 20 = .ok (.aload_n 0, 1) := by decide +kernel
theorem dX12_passes_21 : decode cX12_passes 21 = .ok (.aload_n 0, 1) := by decide +kernel
theorem dX12_passes_22 : decode cX12_passes 22 = .ok (.getfield 39, 3) := by decide +kernel
theorem dX12_passes_25 : decode cX12_passes 25 = .ok (.bipush 47, 2) := by decide +kernel
theorem dX12_passes_27 : decode cX12_passes 27 = .ok (.iload_n 1, 1) := by decide +kernel
theorem dX12_passes_28 : decode cX12_passes 28 = .ok (.iadd, 1) := by decide +kernel
theorem dX12_passes_29 : decode cX12_passes 29 = .ok (.iaload, 1) := by decide +kernel
theorem dX12_passes_30 : decode cX12_passes 30 = .ok (.invokevirtual 345, 3) := by decide +kernel
theorem dX12_passes_33 : decode cX12_passes 33 = .ok (.ifCond .eq 33, 3) := by decide +kernel
theorem dX12_passes_36 : decode cX12_passes 36 = .ok (.aload_n 0, 1) := by decide +kernel
theorem dX12_passes_37 : decode cX12_passes 37 = .ok (.iload_n 1, 1) := by decide +kernel
theorem dX12_passes_38 : decode cX12_passes 38 = .ok (.invokevirtual 357, 3) := by decide +kernel
theorem dX12_passes_41 : decode cX12_passes 41 = .ok (.ifCond .eq 25, 3) := by decide +kernel
theorem dX12_passes_44 : decode cX12_passes 44 = .ok (.aload_n 0, 1) := by decide +kernel
theorem dX12_passes_45 : decode cX12_passes 45 = .ok (.aload_n 0, 1) := by decide +kernel
theorem dX12_passes_46 : decode cX12_passes 46 = .ok (.getfield 39, 3) := by decide +kernel
theorem dX12_passes_49 : decode cX12_passes 49 = .ok (.bipush 47, 2) := by decide +kernel
theorem dX12_passes_51 : decode cX12_passes 51 = .ok (.iload_n 1, 1) := by decide +kernel
theorem dX12_passes_52 : decode cX12_passes 52 = .ok (.iadd, 1) := by decide +kernel
theorem dX12_passes_53 : decode cX12_passes 53 = .ok (.iaload, 1) := by decide +kernel
theorem dX12_passes_54 : decode cX12_passes 54 = .ok (.aload_n 0, 1) := by decide +kernel
theorem dX12_passes_55 : decode cX12_passes 55 = .ok (.getfield 39, 3) := by decide +kernel
theorem dX12_passes_58 : decode cX12_passes 58 = .ok (.bipush 52, 2) := by decide +kernel
theorem dX12_passes_60 : decode cX12_passes 60 = .ok (.iload_n 1, 1) := by decide +kernel
theorem dX12_passes_61 : decode cX12_passes 61 = .ok (.iadd, 1) := by decide +kernel
theorem dX12_passes_62 : decode cX12_passes 62 = .ok (.iaload, 1) := by decide +kernel
theorem dX12_passes_63 : decode cX12_passes 63 = .ok (.invokevirtual 348, 3) := by decide +kernel
theorem dX12_passes_66 : decode cX12_passes 66 = .ok (.iinc 1 1, 3) := by decide +kernel
theorem dX12_passes_69 : decode cX12_passes 69 = .ok (.goto (-67), 3) := by decide +kernel
theorem dX12_passes_72 : decode cX12_passes 72 = .ok (.aload_n 0, 1) := by decide +kernel
theorem dX12_passes_73 : decode cX12_passes 73 = .ok (.invokevirtual 360, 3) := by decide +kernel
theorem dX12_passes_76 : decode cX12_passes 76 = .ok (.iconst 0, 1) := by decide +kernel
theorem dX12_passes_77 : decode cX12_passes 77 = .ok (.istore_n 1, 1) := by decide +kernel
theorem dX12_passes_78 : decode cX12_passes 78 = .ok (.iconst 0, 1) := by decide +kernel
theorem dX12_passes_79 : decode cX12_passes 79 = .ok (.istore_n 2, 1) := by decide +kernel
theorem dX12_passes_80 : decode cX12_passes 80 = .ok (.iload_n 2, 1) := by decide +kernel
theorem dX12_passes_81 : decode cX12_passes 81 = .ok (.aload_n 0, 1) := by decide +kernel
theorem dX12_passes_82 : decode cX12_passes 82 = .ok (.getfield 39, 3) := by decide +kernel
theorem dX12_passes_85 : decode cX12_passes 85 = .ok (.iconst 3, 1) := by decide +kernel
theorem dX12_passes_86 : decode cX12_passes 86 = .ok (.iaload, 1) := by decide +kernel
theorem dX12_passes_87 : decode cX12_passes 87 = .ok (.if_icmp .ge 27, 3) := by decide +kernel
theorem dX12_passes_90 : decode cX12_passes 90 = .ok (.iload_n 1, 1) := by decide +kernel
theorem dX12_passes_91 : decode cX12_passes 91 = .ok (.aload_n 0, 1) := by decide +kernel
theorem dX12_passes_92 : decode cX12_passes 92 = .ok (.iload_n 2, 1) := by decide +kernel
theorem dX12_passes_93 : decode cX12_passes 93 = .ok (.invokevirtual 363, 3) := by decide +kernel
theorem dX12_passes_96 : decode cX12_passes 96 = .ok (.ifCond .eq 9, 3) := by decide +kernel
theorem dX12_passes_99 : decode cX12_passes 99 = .ok (.iconst 1, 1) := by decide +kernel
theorem dX12_passes_100 : decode cX12_passes 100 = .ok (.iload_n 2, 1) := by decide +kernel
theorem dX12_passes_101 : decode cX12_passes 101 = .ok (.ishl, 1) := by decide +kernel
theorem dX12_passes_102 : decode cX12_passes 102 = .ok (.goto 4, 3) := by decide +kernel
theorem dX12_passes_105 : decode cX12_passes 105 = .ok (.iconst 0, 1) := by decide +kernel
theorem dX12_passes_106 : decode cX12_passes 106 = .ok (.ior, 1) := by decide +kernel
theorem dX12_passes_107 : decode cX12_passes 107 = .ok (.istore_n 1, 1) := by decide +kernel
theorem dX12_passes_108 : decode cX12_passes 108 = .ok (.iinc 2 1, 3) := by decide +kernel
theorem dX12_passes_111 : decode cX12_passes 111 = .ok (.goto (-31), 3) := by decide +kernel
theorem dX12_passes_114 : decode cX12_passes 114 = .ok (.aload_n 0, 1) := by decide +kernel
theorem dX12_passes_115 : decode cX12_passes 115 = .ok (.getfield 39, 3) := by decide +kernel
theorem dX12_passes_118 : decode cX12_passes 118 = .ok (.bipush 10, 2) := by decide +kernel
theorem dX12_passes_120 : decode cX12_passes 120 = .ok (.dup2, 1) := by decide +kernel
theorem dX12_passes_121 : decode cX12_passes 121 = .ok (.iaload, 1) := by decide +kernel
theorem dX12_passes_122 : decode cX12_passes 122 = .ok (.iconst 1, 1) := by decide +kernel
theorem dX12_passes_123 : decode cX12_passes 123 = .ok (.iadd, 1) := by decide +kernel
theorem dX12_passes_124 : decode cX12_passes 124 = .ok (.iastore, 1) := by decide +kernel
theorem dX12_passes_125 : decode cX12_passes 125 = .ok (.iload_n 1, 1) := by decide +kernel
theorem dX12_passes_126 : decode cX12_passes 126 = .ok (.ireturn, 1) := by decide +kernel
theorem vc_X12_357 : XVw RX12 357 1 11 5 yX12_isTold cX12_isTold (some .boolean) := ⟨RX12, TX12, tyX12, 43, xk_11, rfl, ⟨by decide, by decide⟩, by decide +kernel, wt_1349, wt_1351, ws_86, wt_11, wt_1352⟩
theorem vc_X12_360 : XVw RX12 360 0 11 3 yX12_overhears cX12_overhears none := ⟨RX12, TX12, tyX12, 43, xk_11, rfl, ⟨by decide, by decide⟩, by decide +kernel, wt_1383, wt_1385, ws_93, wt_11, wt_1386⟩
theorem vc_X12_363 : XVw RX12 363 1 11 3 yX12_heats cX12_heats (some .boolean) := ⟨RX12, TX12, tyX12, 43, xk_11, rfl, ⟨by decide, by decide⟩, by decide +kernel, wt_1390, wt_1392, ws_94, wt_11, wt_1393⟩
noncomputable def bs_X12_passes : List (Nat × XB) := [
  (0, (sq (xC (.int 0)) (sq (xSI 1) (tGo 2 [true, true, false])))),
  (2, (sq (xLI 1) (sq (xLA 0) (sq (xGS 11 50 1 0) (sq (xC (.int 4)) (sq (xAI 50 98) (tIf2 (fun x y => decide (y ≤ x)) 72 [true, false, false] 12 [true, true, false]))))))),
  (12, (sq (xLI 1) (sq (xLA 0) (sq (xGI 11 23) (tIf2 (fun x y => decide (x = y)) 66 [true, true, false] 20 [true, true, false]))))),
  (20, (sq (xLA 0) (sq (xLA 0) (sq (xGS 11 50 1 0) (sq (xC (.int 47)) (sq (xLI 1) (sq (xI2 (· + ·)) (sq (xAI 50 98) (sq (xCI 11 2 F_X12_isHome) (tIf1 (fun x => decide (x = 0)) 66 [true, true, false] 36 [true, true, false])))))))))),
  (36, (sq (xLA 0) (sq (xLI 1) (sq (xCI 11 2 F_X12_isTold) (tIf1 (fun x => decide (x = 0)) 66 [true, true, false] 44 [true, true, false]))))),
  (44, (sq (xLA 0) (sq (xLA 0) (sq (xGS 11 50 1 0) (sq (xC (.int 47)) (sq (xLI 1) (sq (xI2 (· + ·)) (sq (xAI 50 98) (sq (xLA 0) (sq (xGS 11 50 1 0) (sq (xC (.int 52)) (sq (xLI 1) (sq (xI2 (· + ·)) (sq (xAI 50 98) (sq (xCV 11 3 F_X12_fills) (tGo 66 [true, true, false])))))))))))))))),
  (66, (sq (xInc 1 1) (tGo 2 [true, true, false]))),
  (72, (sq (xLA 0) (sq (xCV 11 1 F_X12_overhears) (sq (xC (.int 0)) (sq (xSI 1) (sq (xC (.int 0)) (sq (xSI 2) (tGo 80 [true, true, true])))))))),
  (80, (sq (xLI 2) (sq (xLA 0) (sq (xGS 11 50 1 0) (sq (xC (.int 3)) (sq (xAI 50 98) (tIf2 (fun x y => decide (y ≤ x)) 114 [true, true, false] 90 [true, true, true]))))))),
  (90, (sq (xLI 1) (sq (xLA 0) (sq (xLI 2) (sq (xCI 11 2 F_X12_heats) (tIf1 (fun x => decide (x = 0)) 105 [true, false, true] 99 [true, false, true])))))),
  (99, (sq (xC (.int 1)) (sq (xLI 2) (sq (xI2 (fun x y => x <<< (y &&& 31))) (tGo 106 [true, false, true]))))),
  (105, (sq (xC (.int 0)) (tGo 106 [true, false, true]))),
  (106, (sq (xI2 (· ||| ·)) (sq (xSI 1) (sq (xInc 2 1) (tGo 80 [true, true, true]))))),
  (114, (sq (xLA 0) (sq (xGS 11 50 1 0) (sq (xC (.int 10)) (sq (xDup2) (sq (xAI 50 98) (sq (xC (.int 1)) (sq (xI2 (· + ·)) (sq (xTI 50 98 (fun x => x)) (sq (xLI 1) tRI))))))))))]
set_option maxRecDepth 100000 in
set_option maxHeartbeats 4000000 in
theorem s_X12_passes : ∀ X : XCtx, XE X → X.2.2.1.1 = cX12_passes → X.2.2.1.2.1 = 3 → X.2.2.1.2.2.1 = yX12_passes.cls → X.2.2.1.2.2.2.1 = (some .int) → X.1.2.2.2.1 = { frames := 4, cells := 0, slots := 0, locals := 101 } → SndBs X bs_X12_passes := by
  rintro ⟨⟨p, l, e, R, s⟩, Y, ⟨cc, nL, own, ret, Ts⟩, Z⟩ hE h1 h2 h3 h4 h5
  dsimp only at h1 h2 h3 h4 h5
  subst h1 h2 h3 h4 h5
  exact ⟨(n_sq (n_iconst hE (by decide) dX12_passes_0) (n_sq (n_istore_n hE (show (1 : Nat) < 3 by decide) dX12_passes_1) n_fall)),
    (n_sq (n_iload_n hE dX12_passes_2) (n_sq (n_aload_n hE dX12_passes_3) (n_sq (n_getS hE xk_11 (k := 20) rfl (by decide) rfl wt_980 dX12_passes_4) (n_sq (n_iconst hE (by decide) dX12_passes_7) (n_sq (n_iald hE rfl (by decide) dX12_passes_8) (n_ifcge hE (by decide) dX12_passes_9)))))),
    (n_sq (n_iload_n hE dX12_passes_12) (n_sq (n_aload_n hE dX12_passes_13) (n_sq (n_getI hE xk_11 (k := 23) rfl (by decide) rfl wt_983 dX12_passes_14) (n_ifceq hE (by decide) dX12_passes_17)))),
    (n_sq (n_aload_n hE dX12_passes_20) (n_sq (n_aload_n hE dX12_passes_21) (n_sq (n_getS hE xk_11 (k := 20) rfl (by decide) rfl wt_980 dX12_passes_22) (n_sq (n_bipush hE (by decide) dX12_passes_25) (n_sq (n_iload_n hE dX12_passes_27) (n_sq (n_iadd hE dX12_passes_28) (n_sq (n_iald hE rfl (by decide) dX12_passes_29) (n_sq (n_cIv hE m_X12_isHome vc_X12_345 (show 1 + 1 ≤ 4 ∧ 8 + (2 + 11) + 21 ≤ 101 by decide) dX12_passes_30) (n_ifeq hE (by decide) dX12_passes_33))))))))),
    (n_sq (n_aload_n hE dX12_passes_36) (n_sq (n_iload_n hE dX12_passes_37) (n_sq (n_cIv hE m_X12_isTold vc_X12_357 (show 3 + 1 ≤ 4 ∧ 8 + (5 + 11) + 77 ≤ 101 by decide) dX12_passes_38) (n_ifeq hE (by decide) dX12_passes_41)))),
    (n_sq (n_aload_n hE dX12_passes_44) (n_sq (n_aload_n hE dX12_passes_45) (n_sq (n_getS hE xk_11 (k := 20) rfl (by decide) rfl wt_980 dX12_passes_46) (n_sq (n_bipush hE (by decide) dX12_passes_49) (n_sq (n_iload_n hE dX12_passes_51) (n_sq (n_iadd hE dX12_passes_52) (n_sq (n_iald hE rfl (by decide) dX12_passes_53) (n_sq (n_aload_n hE dX12_passes_54) (n_sq (n_getS hE xk_11 (k := 20) rfl (by decide) rfl wt_980 dX12_passes_55) (n_sq (n_bipush hE (by decide) dX12_passes_58) (n_sq (n_iload_n hE dX12_passes_60) (n_sq (n_iadd hE dX12_passes_61) (n_sq (n_iald hE rfl (by decide) dX12_passes_62) (n_sq (n_cVv hE m_X12_fills vc_X12_348 (show 1 + 1 ≤ 4 ∧ 8 + (4 + 11) + 21 ≤ 101 by decide) dX12_passes_63) n_fall)))))))))))))),
    (n_sq (n_iinc hE (by decide) (show (1 : Nat) < 3 by decide) dX12_passes_66) (n_goto hE (by decide) dX12_passes_69)),
    (n_sq (n_aload_n hE dX12_passes_72) (n_sq (n_cVv hE m_X12_overhears vc_X12_360 (show 2 + 1 ≤ 4 ∧ 8 + (3 + 11) + 44 ≤ 101 by decide) dX12_passes_73) (n_sq (n_iconst hE (by decide) dX12_passes_76) (n_sq (n_istore_n hE (show (1 : Nat) < 3 by decide) dX12_passes_77) (n_sq (n_iconst hE (by decide) dX12_passes_78) (n_sq (n_istore_n hE (show (2 : Nat) < 3 by decide) dX12_passes_79) n_fall)))))),
    (n_sq (n_iload_n hE dX12_passes_80) (n_sq (n_aload_n hE dX12_passes_81) (n_sq (n_getS hE xk_11 (k := 20) rfl (by decide) rfl wt_980 dX12_passes_82) (n_sq (n_iconst hE (by decide) dX12_passes_85) (n_sq (n_iald hE rfl (by decide) dX12_passes_86) (n_ifcge hE (by decide) dX12_passes_87)))))),
    (n_sq (n_iload_n hE dX12_passes_90) (n_sq (n_aload_n hE dX12_passes_91) (n_sq (n_iload_n hE dX12_passes_92) (n_sq (n_cIv hE m_X12_heats vc_X12_363 (show 2 + 1 ≤ 4 ∧ 8 + (3 + 11) + 42 ≤ 101 by decide) dX12_passes_93) (n_ifeq hE (by decide) dX12_passes_96))))),
    (n_sq (n_iconst hE (by decide) dX12_passes_99) (n_sq (n_iload_n hE dX12_passes_100) (n_sq (n_ishl hE dX12_passes_101) (n_goto hE (by decide) dX12_passes_102)))),
    (n_sq (n_iconst hE (by decide) dX12_passes_105) n_fall),
    (n_sq (n_ior hE dX12_passes_106) (n_sq (n_istore_n hE (show (1 : Nat) < 3 by decide) dX12_passes_107) (n_sq (n_iinc hE (by decide) (show (2 : Nat) < 3 by decide) dX12_passes_108) (n_goto hE (by decide) dX12_passes_111)))),
    (n_sq (n_aload_n hE dX12_passes_114) (n_sq (n_getS hE xk_11 (k := 20) rfl (by decide) rfl wt_980 dX12_passes_115) (n_sq (n_bipush hE (by decide) dX12_passes_118) (n_sq (n_dup2 hE dX12_passes_120) (n_sq (n_iald hE rfl (by decide) dX12_passes_121) (n_sq (n_iconst hE (by decide) dX12_passes_122) (n_sq (n_iadd hE dX12_passes_123) (n_sq (n_iast hE rfl (by decide) dX12_passes_124) (n_sq (n_iload_n hE dX12_passes_125) (n_ireturn hE rfl dX12_passes_126)))))))))), trivial⟩
noncomputable def F_X12_passes (as : List XV) (w : XW) : Option (Int32 × XW) := (xF 3 bs_X12_passes as w).bind pI
theorem m_X12_passes : XM yX12_passes cX12_passes 3 (some .int) 4 101 (eI F_X12_passes) := xm_I (xm_of (by decide) s_X12_passes)
noncomputable def q_X12_passes_0 (w : XW) : Option XR := ev bs_X12_passes 0 ([some (.inr (11, 0)), none, none], [], w)
noncomputable def q_X12_passes_2 (x1 : Int32) (w : XW) : Option XR := ev bs_X12_passes 2 ([some (.inr (11, 0)), some (.inl (.int x1)), none], [], w)
noncomputable def q_X12_passes_12 (x1 : Int32) (w : XW) : Option XR := ev bs_X12_passes 12 ([some (.inr (11, 0)), some (.inl (.int x1)), none], [], w)
noncomputable def q_X12_passes_20 (x1 : Int32) (w : XW) : Option XR := ev bs_X12_passes 20 ([some (.inr (11, 0)), some (.inl (.int x1)), none], [], w)
noncomputable def q_X12_passes_36 (x1 : Int32) (w : XW) : Option XR := ev bs_X12_passes 36 ([some (.inr (11, 0)), some (.inl (.int x1)), none], [], w)
noncomputable def q_X12_passes_44 (x1 : Int32) (w : XW) : Option XR := ev bs_X12_passes 44 ([some (.inr (11, 0)), some (.inl (.int x1)), none], [], w)
noncomputable def q_X12_passes_66 (x1 : Int32) (w : XW) : Option XR := ev bs_X12_passes 66 ([some (.inr (11, 0)), some (.inl (.int x1)), none], [], w)
noncomputable def q_X12_passes_72 (w : XW) : Option XR := ev bs_X12_passes 72 ([some (.inr (11, 0)), none, none], [], w)
noncomputable def q_X12_passes_80 (x1 : Int32) (x2 : Int32) (w : XW) : Option XR := ev bs_X12_passes 80 ([some (.inr (11, 0)), some (.inl (.int x1)), some (.inl (.int x2))], [], w)
noncomputable def q_X12_passes_90 (x1 : Int32) (x2 : Int32) (w : XW) : Option XR := ev bs_X12_passes 90 ([some (.inr (11, 0)), some (.inl (.int x1)), some (.inl (.int x2))], [], w)
noncomputable def q_X12_passes_99 (x2 : Int32) (s0 : Int32) (w : XW) : Option XR := ev bs_X12_passes 99 ([some (.inr (11, 0)), none, some (.inl (.int x2))], [.inl (.int s0)], w)
noncomputable def q_X12_passes_105 (x2 : Int32) (s0 : Int32) (w : XW) : Option XR := ev bs_X12_passes 105 ([some (.inr (11, 0)), none, some (.inl (.int x2))], [.inl (.int s0)], w)
noncomputable def q_X12_passes_106 (x2 : Int32) (s0 : Int32) (s1 : Int32) (w : XW) : Option XR := ev bs_X12_passes 106 ([some (.inr (11, 0)), none, some (.inl (.int x2))], [.inl (.int s1), .inl (.int s0)], w)
noncomputable def q_X12_passes_114 (x1 : Int32) (w : XW) : Option XR := ev bs_X12_passes 114 ([some (.inr (11, 0)), some (.inl (.int x1)), none], [], w)
set_option maxRecDepth 100000 in
theorem e_X12_passes_0 (w : XW) : q_X12_passes_0 w = (q_X12_passes_2 0 w) := (ev_eq _ _ _).trans rfl
set_option maxRecDepth 100000 in
theorem e_X12_passes_2 (x1 : Int32) (w : XW) : q_X12_passes_2 x1 w = (bif decide ((gI w 50 0 4) ≤ x1) then (q_X12_passes_72 w) else (q_X12_passes_12 x1 w)) := (ev_eq _ _ _).trans rfl
set_option maxRecDepth 100000 in
theorem e_X12_passes_12 (x1 : Int32) (w : XW) : q_X12_passes_12 x1 w = (bif decide (x1 = (gI w 11 0 23)) then (q_X12_passes_66 x1 w) else (q_X12_passes_20 x1 w)) := (ev_eq _ _ _).trans rfl
set_option maxRecDepth 100000 in
theorem e_X12_passes_20 (x1 : Int32) (w : XW) : q_X12_passes_20 x1 w = (if (47 + x1) < 0 ∨ 98 ≤ (47 + x1).toNatClampNeg then none else ((F_X12_isHome [.inr (11, 0), .inl (.int (gI w 50 0 (47 + x1).toNatClampNeg))] w).bind fun r0 => (bif decide (r0.1 = 0) then (q_X12_passes_66 x1 r0.2) else (q_X12_passes_36 x1 r0.2)))) := (ev_eq _ _ _).trans rfl
set_option maxRecDepth 100000 in
theorem e_X12_passes_36 (x1 : Int32) (w : XW) : q_X12_passes_36 x1 w = ((F_X12_isTold [.inr (11, 0), .inl (.int x1)] w).bind fun r0 => (bif decide (r0.1 = 0) then (q_X12_passes_66 x1 r0.2) else (q_X12_passes_44 x1 r0.2))) := (ev_eq _ _ _).trans rfl
set_option maxRecDepth 100000 in
theorem e_X12_passes_44 (x1 : Int32) (w : XW) : q_X12_passes_44 x1 w = (if (47 + x1) < 0 ∨ 98 ≤ (47 + x1).toNatClampNeg then none else (if (52 + x1) < 0 ∨ 98 ≤ (52 + x1).toNatClampNeg then none else ((F_X12_fills [.inr (11, 0), .inl (.int (gI w 50 0 (47 + x1).toNatClampNeg)), .inl (.int (gI w 50 0 (52 + x1).toNatClampNeg))] w).bind fun r0 => (q_X12_passes_66 x1 r0)))) := (ev_eq _ _ _).trans rfl
set_option maxRecDepth 100000 in
theorem e_X12_passes_66 (x1 : Int32) (w : XW) : q_X12_passes_66 x1 w = (q_X12_passes_2 (x1 + 1) w) := (ev_eq _ _ _).trans rfl
set_option maxRecDepth 100000 in
theorem e_X12_passes_72 (w : XW) : q_X12_passes_72 w = ((F_X12_overhears [.inr (11, 0)] w).bind fun r0 => (q_X12_passes_80 0 0 r0)) := (ev_eq _ _ _).trans rfl
set_option maxRecDepth 100000 in
theorem e_X12_passes_80 (x1 : Int32) (x2 : Int32) (w : XW) : q_X12_passes_80 x1 x2 w = (bif decide ((gI w 50 0 3) ≤ x2) then (q_X12_passes_114 x1 w) else (q_X12_passes_90 x1 x2 w)) := (ev_eq _ _ _).trans rfl
set_option maxRecDepth 100000 in
theorem e_X12_passes_90 (x1 : Int32) (x2 : Int32) (w : XW) : q_X12_passes_90 x1 x2 w = ((F_X12_heats [.inr (11, 0), .inl (.int x2)] w).bind fun r0 => (bif decide (r0.1 = 0) then (q_X12_passes_105 x2 x1 r0.2) else (q_X12_passes_99 x2 x1 r0.2))) := (ev_eq _ _ _).trans rfl
set_option maxRecDepth 100000 in
theorem e_X12_passes_99 (x2 : Int32) (s0 : Int32) (w : XW) : q_X12_passes_99 x2 s0 w = (q_X12_passes_106 x2 s0 ((1 : Int32) <<< ((x2 : Int32) &&& 31)) w) := (ev_eq _ _ _).trans rfl
set_option maxRecDepth 100000 in
theorem e_X12_passes_105 (x2 : Int32) (s0 : Int32) (w : XW) : q_X12_passes_105 x2 s0 w = (q_X12_passes_106 x2 s0 0 w) := (ev_eq _ _ _).trans rfl
set_option maxRecDepth 100000 in
theorem e_X12_passes_106 (x2 : Int32) (s0 : Int32) (s1 : Int32) (w : XW) : q_X12_passes_106 x2 s0 s1 w = (q_X12_passes_80 (s0 ||| s1) (x2 + 1) w) := (ev_eq _ _ _).trans rfl
set_option maxRecDepth 100000 in
theorem e_X12_passes_114 (x1 : Int32) (w : XW) : q_X12_passes_114 x1 w = (some (some (.inl (.int x1)), sI w 50 0 10 ((gI w 50 0 10) + 1))) := (ev_eq _ _ _).trans rfl
theorem f_X12_passes (w : XW) : F_X12_passes [.inr (11, 0)] w = (q_X12_passes_0 w).bind pI := rfl

-- WinterKeepModel.passesAll(I)V
theorem dX12_passesAll_0 : decode cX12_passesAll 0 = .ok (.iconst 0, 1) := by decide +kernel
theorem dX12_passesAll_1 : decode cX12_passesAll 1 = .ok (.istore_n 2, 1) := by decide +kernel
theorem dX12_passesAll_2 : decode cX12_passesAll 2 = .ok (.iload_n 2, 1) := by decide +kernel
theorem dX12_passesAll_3 : decode cX12_passesAll 3 = .ok (.iload_n 1, 1) := by decide +kernel
theorem dX12_passesAll_4 : decode cX12_passesAll 4 = .ok (.if_icmp .ge 14, 3) := by decide +kernel
theorem dX12_passesAll_7 : decode cX12_passesAll 7 = .ok (.aload_n 0, 1) := by decide +kernel
theorem dX12_passesAll_8 : decode cX12_passesAll 8 = .ok (.invokevirtual 366, 3) := by decide +kernel
theorem dX12_passesAll_11 : decode cX12_passesAll 11 = .ok (.pop, 1) := by decide +kernel
theorem dX12_passesAll_12 : decode cX12_passesAll 12 = .ok (.iinc 2 1, 3) := by decide +kernel
theorem dX12_passesAll_15 : decode cX12_passesAll 15 = .ok (.goto (-13), 3) := by decide +kernel
theorem dX12_passesAll_18 : decode cX12_passesAll 18 = .ok (.return_, 1) := by decide +kernel
theorem vc_X12_366 : XVw RX12 366 0 11 3 yX12_passes cX12_passes (some .int) := ⟨RX12, TX12, tyX12, 43, xk_11, rfl, ⟨by decide, by decide⟩, by decide +kernel, wt_1341, wt_1343, ws_84, wt_11, wt_1344⟩
noncomputable def bs_X12_passesAll : List (Nat × XB) := [
  (0, (sq (xC (.int 0)) (sq (xSI 2) (tGo 2 [true, true, true])))),
  (2, (sq (xLI 2) (sq (xLI 1) (tIf2 (fun x y => decide (y ≤ x)) 18 [false, false, false] 7 [true, true, true])))),
  (7, (sq (xLA 0) (sq (xCI 11 1 F_X12_passes) (sq (xPop) (sq (xInc 2 1) (tGo 2 [true, true, true])))))),
  (18, tRV)]
set_option maxRecDepth 100000 in
set_option maxHeartbeats 4000000 in
theorem s_X12_passesAll : ∀ X : XCtx, XE X → X.2.2.1.1 = cX12_passesAll → X.2.2.1.2.1 = 3 → X.2.2.1.2.2.1 = yX12_passesAll.cls → X.2.2.1.2.2.2.1 = none → X.1.2.2.2.1 = { frames := 5, cells := 0, slots := 0, locals := 123 } → SndBs X bs_X12_passesAll := by
  rintro ⟨⟨p, l, e, R, s⟩, Y, ⟨cc, nL, own, ret, Ts⟩, Z⟩ hE h1 h2 h3 h4 h5
  dsimp only at h1 h2 h3 h4 h5
  subst h1 h2 h3 h4 h5
  exact ⟨(n_sq (n_iconst hE (by decide) dX12_passesAll_0) (n_sq (n_istore_n hE (show (2 : Nat) < 3 by decide) dX12_passesAll_1) n_fall)),
    (n_sq (n_iload_n hE dX12_passesAll_2) (n_sq (n_iload_n hE dX12_passesAll_3) (n_ifcge hE (by decide) dX12_passesAll_4))),
    (n_sq (n_aload_n hE dX12_passesAll_7) (n_sq (n_cIv hE m_X12_passes vc_X12_366 (show 4 + 1 ≤ 5 ∧ 8 + (3 + 11) + 101 ≤ 123 by decide) dX12_passesAll_8) (n_sq (n_pop hE dX12_passesAll_11) (n_sq (n_iinc hE (by decide) (show (2 : Nat) < 3 by decide) dX12_passesAll_12) (n_goto hE (by decide) dX12_passesAll_15))))),
    (n_vreturn hE rfl dX12_passesAll_18), trivial⟩
noncomputable def F_X12_passesAll (as : List XV) (w : XW) : Option XW := (xF 3 bs_X12_passesAll as w).bind pV
theorem m_X12_passesAll : XM yX12_passesAll cX12_passesAll 3 none 5 123 (eV F_X12_passesAll) := xm_V (xm_of (by decide) s_X12_passesAll)
noncomputable def q_X12_passesAll_0 (x1 : Int32) (w : XW) : Option XR := ev bs_X12_passesAll 0 ([some (.inr (11, 0)), some (.inl (.int x1)), none], [], w)
noncomputable def q_X12_passesAll_2 (x1 : Int32) (x2 : Int32) (w : XW) : Option XR := ev bs_X12_passesAll 2 ([some (.inr (11, 0)), some (.inl (.int x1)), some (.inl (.int x2))], [], w)
noncomputable def q_X12_passesAll_7 (x1 : Int32) (x2 : Int32) (w : XW) : Option XR := ev bs_X12_passesAll 7 ([some (.inr (11, 0)), some (.inl (.int x1)), some (.inl (.int x2))], [], w)
noncomputable def q_X12_passesAll_18 (w : XW) : Option XR := ev bs_X12_passesAll 18 ([none, none, none], [], w)
theorem e_X12_passesAll_0 (x1 : Int32) (w : XW) : q_X12_passesAll_0 x1 w = (q_X12_passesAll_2 x1 0 w) := (ev_eq _ _ _).trans rfl
theorem e_X12_passesAll_2 (x1 : Int32) (x2 : Int32) (w : XW) : q_X12_passesAll_2 x1 x2 w = (bif decide (x1 ≤ x2) then (q_X12_passesAll_18 w) else (q_X12_passesAll_7 x1 x2 w)) := (ev_eq _ _ _).trans rfl
theorem e_X12_passesAll_7 (x1 : Int32) (x2 : Int32) (w : XW) : q_X12_passesAll_7 x1 x2 w = ((F_X12_passes [.inr (11, 0)] w).bind fun r0 => (q_X12_passesAll_2 x1 (x2 + 1) r0.2)) := (ev_eq _ _ _).trans rfl
theorem e_X12_passesAll_18 (w : XW) : q_X12_passesAll_18 w = (some (none, w)) := (ev_eq _ _ _).trans rfl
theorem f_X12_passesAll (x1 : Int32) (w : XW) : F_X12_passesAll [.inr (11, 0), .inl (.int x1)] w = (q_X12_passesAll_0 x1 w).bind pV := rfl

-- WinterKeepModel.keepsAct()V
theorem dX12_keepsAct_0 : decode cX12_keepsAct 0 = .ok (.aload_n 0, 1) := by decide +kernel
theorem dX12_keepsAct_1 : decode cX12_keepsAct 1 = .ok (.getfield 280, 3) := by decide +kernel
theorem dX12_keepsAct_4 : decode cX12_keepsAct 4 = .ok (.bipush 20, 2) := by decide +kernel
theorem dX12_keepsAct_6 : decode cX12_keepsAct 6 = .ok (.if_icmp .ne 44, 3) := by decide +kernel
theorem dX12_keepsAct_9 : decode cX12_keepsAct 9 = .ok (.bipush 25, 2) := by decide +kernel
theorem dX12_keepsAct_11 : decode cX12_keepsAct 11 = .ok (.istore_n 1, 1) := by decide +kernel
theorem dX12_keepsAct_12 : decode cX12_keepsAct 12 = .ok (.iload_n 1, 1) := by decide +kernel
theorem dX12_keepsAct_13 : decode cX12_keepsAct 13 = .ok (.sipush 500, 3) := by decide +kernel
theorem dX12_keepsAct_16 : decode cX12_keepsAct 16 = .ok (.if_icmp .ge 24, 3) := by decide +kernel
theorem dX12_keepsAct_19 : decode cX12_keepsAct 19 = .ok (.aload_n 0, 1) := by decide +kernel
theorem dX12_keepsAct_20 : decode cX12_keepsAct 20 = .ok (.getfield 52, 3) := by decide +kernel
theorem dX12_keepsAct_23 : decode cX12_keepsAct 23 = .ok (.iload_n 1, 1) := by decide +kernel
theorem dX12_keepsAct_24 : decode cX12_keepsAct 24 = .ok (.bipush 25, 2) := by decide +kernel
theorem dX12_keepsAct_26 : decode cX12_keepsAct 26 = .ok (.isub, 1) := by decide +kernel
theorem dX12_keepsAct_27 : decode cX12_keepsAct 27 = .ok (.aload_n 0, 1) := by decide +kernel
theorem dX12_keepsAct_28 : decode cX12_keepsAct 28 = .ok (.getfield 52, 3) := by decide +kernel
theorem dX12_keepsAct_31 : decode cX12_keepsAct 31 = .ok (.iload_n 1, 1) := by decide +kernel
theorem dX12_keepsAct_32 : decode cX12_keepsAct 32 = .ok (.iaload, 1) := by decide +kernel
theorem dX12_keepsAct_33 : decode cX12_keepsAct 33 = .ok (.iastore, 1) := by decide +kernel
theorem dX12_keepsAct_34 : decode cX12_keepsAct 34 = .ok (.iinc 1 1, 3) := by decide +kernel
theorem dX12_keepsAct_37 : decode cX12_keepsAct 37 = .ok (.goto (-25), 3) := by decide +kernel
theorem dX12_keepsAct_40 : decode cX12_keepsAct 40 = .ok (.aload_n 0, 1) := by decide +kernel
theorem dX12_keepsAct_41 : decode cX12_keepsAct 41 = .ok (.dup, 1) := by decide +kernel
theorem dX12_keepsAct_42 : decode cX12_keepsAct 42 = .ok (.getfield 280, 3) := by decide +kernel
theorem dX12_keepsAct_45 : decode cX12_keepsAct 45 = .ok (.iconst 1, 1) := by decide +kernel
theorem dX12_keepsAct_46 : decode cX12_keepsAct 46 = .ok (.isub, 1) := by decide +kernel
theorem dX12_keepsAct_47 : decode cX12_keepsAct 47 = .ok (.putfield 280, 3) := by decide +kernel
theorem dX12_keepsAct_50 : decode cX12_keepsAct 50 = .ok (.iconst 0, 1) := by decide +kernel
theorem dX12_keepsAct_51 : decode cX12_keepsAct 51 = .ok (.istore_n 1, 1) := by decide +kernel
theorem dX12_keepsAct_52 : decode cX12_keepsAct 52 = .ok (.iload_n 1, 1) := by decide +kernel
theorem dX12_keepsAct_53 : decode cX12_keepsAct 53 = .ok (.bipush 25, 2) := by decide +kernel
theorem dX12_keepsAct_55 : decode cX12_keepsAct 55 = .ok (.if_icmp .ge 32, 3) := by decide +kernel
theorem dX12_keepsAct_58 : decode cX12_keepsAct 58 = .ok (.aload_n 0, 1) := by decide +kernel
theorem dX12_keepsAct_59 : decode cX12_keepsAct 59 = .ok (.getfield 52, 3) := by decide +kernel
theorem dX12_keepsAct_62 : decode cX12_keepsAct 62 = .ok (.bipush 25, 2) := by decide +kernel
theorem dX12_keepsAct_64 : decode cX12_keepsAct 64 = .ok (.aload_n 0, 1) := by decide +kernel
theorem dX12_keepsAct_65 : decode cX12_keepsAct 65 = .ok (.getfield 280, 3) := by decide +kernel
theorem dX12_keepsAct_68 : decode cX12_keepsAct 68 = .ok (.imul, 1) := by decide +kernel
theorem dX12_keepsAct_69 : decode cX12_keepsAct 69 = .ok (.iload_n 1, 1) := by decide +kernel
theorem dX12_keepsAct_70 : decode cX12_keepsAct 70 = .ok (.iadd, 1) := by decide +kernel
theorem dX12_keepsAct_71 : decode cX12_keepsAct 71 = .ok (.aload_n 0, 1) := by decide +kernel
theorem dX12_keepsAct_72 : decode cX12_keepsAct 72 = .ok (.getfield 39, 3) := by decide +kernel
theorem dX12_keepsAct_75 : decode cX12_keepsAct 75 = .ok (.bipush 10, 2) := by decide +kernel
theorem dX12_keepsAct_77 : decode cX12_keepsAct 77 = .ok (.iload_n 1, 1) := by decide +kernel
theorem dX12_keepsAct_78 : decode cX12_keepsAct 78 = .ok (.iadd, 1) := by decide +kernel
theorem dX12_keepsAct_79 : decode cX12_keepsAct 79 = .ok (.iaload, 1) := by decide +kernel
theorem dX12_keepsAct_80 : decode cX12_keepsAct 80 = .ok (.iastore, 1) := by decide +kernel
theorem dX12_keepsAct_81 : decode cX12_keepsAct 81 = .ok (.iinc 1 1, 3) := by decide +kernel
theorem dX12_keepsAct_84 : decode cX12_keepsAct 84 = .ok (.goto (-32), 3) := by decide +kernel
theorem dX12_keepsAct_87 : decode cX12_keepsAct 87 = .ok (.aload_n 0, 1) := by decide +kernel
theorem dX12_keepsAct_88 : decode cX12_keepsAct 88 = .ok (.dup, 1) := by decide +kernel
theorem dX12_keepsAct_89 : decode cX12_keepsAct 89 = .ok (.getfield 280, 3) := by decide +kernel
theorem dX12_keepsAct_92 : decode cX12_keepsAct 92 = .ok (.iconst 1, 1) := by decide +kernel
theorem dX12_keepsAct_93 : decode cX12_keepsAct 93 = .ok (.iadd, 1) := by decide +kernel
theorem dX12_keepsAct_94 : decode cX12_keepsAct 94 = .ok (.putfield 280, 3) := by decide +kernel
theorem dX12_keepsAct_97 : decode cX12_keepsAct 97 = .ok (.return_, 1) := by decide +kernel
noncomputable def bs_X12_keepsAct : List (Nat × XB) := [
  (0, (sq (xLA 0) (sq (xGI 11 26) (sq (xC (.int 20)) (tIf2 (fun x y => decide (¬ x = y)) 50 [true, false] 9 [true, false]))))),
  (9, (sq (xC (.int 25)) (sq (xSI 1) (tGo 12 [true, true])))),
  (12, (sq (xLI 1) (sq (xC (.int 500)) (tIf2 (fun x y => decide (y ≤ x)) 40 [true, false] 19 [true, true])))),
  (19, (sq (xLA 0) (sq (xGS 11 52 1 0) (sq (xLI 1) (sq (xC (.int 25)) (sq (xI2 (· - ·)) (sq (xLA 0) (sq (xGS 11 52 1 0) (sq (xLI 1) (sq (xAI 52 500) (sq (xTI 52 500 (fun x => x)) (sq (xInc 1 1) (tGo 12 [true, true]))))))))))))),
  (40, (sq (xLA 0) (sq (xDup) (sq (xGI 11 26) (sq (xC (.int 1)) (sq (xI2 (· - ·)) (sq (xPI 11 26) (tGo 50 [true, false])))))))),
  (50, (sq (xC (.int 0)) (sq (xSI 1) (tGo 52 [true, true])))),
  (52, (sq (xLI 1) (sq (xC (.int 25)) (tIf2 (fun x y => decide (y ≤ x)) 87 [true, false] 58 [true, true])))),
  (58, (sq (xLA 0) (sq (xGS 11 52 1 0) (sq (xC (.int 25)) (sq (xLA 0) (sq (xGI 11 26) (sq (xI2 (· * ·)) (sq (xLI 1) (sq (xI2 (· + ·)) (sq (xLA 0) (sq (xGS 11 50 1 0) (sq (xC (.int 10)) (sq (xLI 1) (sq (xI2 (· + ·)) (sq (xAI 50 98) (sq (xTI 52 500 (fun x => x)) (sq (xInc 1 1) (tGo 52 [true, true])))))))))))))))))),
  (87, (sq (xLA 0) (sq (xDup) (sq (xGI 11 26) (sq (xC (.int 1)) (sq (xI2 (· + ·)) (sq (xPI 11 26) tRV)))))))]
set_option maxRecDepth 100000 in
set_option maxHeartbeats 4000000 in
theorem s_X12_keepsAct : ∀ X : XCtx, XE X → X.2.2.1.1 = cX12_keepsAct → X.2.2.1.2.1 = 2 → X.2.2.1.2.2.1 = yX12_keepsAct.cls → X.2.2.1.2.2.2.1 = none → X.1.2.2.2.1 = { frames := 0, cells := 0, slots := 0, locals := 0 } → SndBs X bs_X12_keepsAct := by
  rintro ⟨⟨p, l, e, R, s⟩, Y, ⟨cc, nL, own, ret, Ts⟩, Z⟩ hE h1 h2 h3 h4 h5
  dsimp only at h1 h2 h3 h4 h5
  subst h1 h2 h3 h4 h5
  exact ⟨(n_sq (n_aload_n hE dX12_keepsAct_0) (n_sq (n_getI hE xk_11 (k := 26) rfl (by decide) rfl wt_986 dX12_keepsAct_1) (n_sq (n_bipush hE (by decide) dX12_keepsAct_4) (n_ifcne hE (by decide) dX12_keepsAct_6)))),
    (n_sq (n_bipush hE (by decide) dX12_keepsAct_9) (n_sq (n_istore_n hE (show (1 : Nat) < 2 by decide) dX12_keepsAct_11) n_fall)),
    (n_sq (n_iload_n hE dX12_keepsAct_12) (n_sq (n_sipush hE (by decide) dX12_keepsAct_13) (n_ifcge hE (by decide) dX12_keepsAct_16))),
    (n_sq (n_aload_n hE dX12_keepsAct_19) (n_sq (n_getS hE xk_11 (k := 25) rfl (by decide) rfl wt_985 dX12_keepsAct_20) (n_sq (n_iload_n hE dX12_keepsAct_23) (n_sq (n_bipush hE (by decide) dX12_keepsAct_24) (n_sq (n_isub hE dX12_keepsAct_26) (n_sq (n_aload_n hE dX12_keepsAct_27) (n_sq (n_getS hE xk_11 (k := 25) rfl (by decide) rfl wt_985 dX12_keepsAct_28) (n_sq (n_iload_n hE dX12_keepsAct_31) (n_sq (n_iald hE rfl (by decide) dX12_keepsAct_32) (n_sq (n_iast hE rfl (by decide) dX12_keepsAct_33) (n_sq (n_iinc hE (by decide) (show (1 : Nat) < 2 by decide) dX12_keepsAct_34) (n_goto hE (by decide) dX12_keepsAct_37)))))))))))),
    (n_sq (n_aload_n hE dX12_keepsAct_40) (n_sq (n_dup hE dX12_keepsAct_41) (n_sq (n_getI hE xk_11 (k := 26) rfl (by decide) rfl wt_986 dX12_keepsAct_42) (n_sq (n_iconst hE (by decide) dX12_keepsAct_45) (n_sq (n_isub hE dX12_keepsAct_46) (n_sq (n_putI hE xk_11 (k := 26) rfl (by decide) rfl rfl (tyX12_ok 26 (by decide)) wt_986 dX12_keepsAct_47) n_fall)))))),
    (n_sq (n_iconst hE (by decide) dX12_keepsAct_50) (n_sq (n_istore_n hE (show (1 : Nat) < 2 by decide) dX12_keepsAct_51) n_fall)),
    (n_sq (n_iload_n hE dX12_keepsAct_52) (n_sq (n_bipush hE (by decide) dX12_keepsAct_53) (n_ifcge hE (by decide) dX12_keepsAct_55))),
    (n_sq (n_aload_n hE dX12_keepsAct_58) (n_sq (n_getS hE xk_11 (k := 25) rfl (by decide) rfl wt_985 dX12_keepsAct_59) (n_sq (n_bipush hE (by decide) dX12_keepsAct_62) (n_sq (n_aload_n hE dX12_keepsAct_64) (n_sq (n_getI hE xk_11 (k := 26) rfl (by decide) rfl wt_986 dX12_keepsAct_65) (n_sq (n_imul hE dX12_keepsAct_68) (n_sq (n_iload_n hE dX12_keepsAct_69) (n_sq (n_iadd hE dX12_keepsAct_70) (n_sq (n_aload_n hE dX12_keepsAct_71) (n_sq (n_getS hE xk_11 (k := 20) rfl (by decide) rfl wt_980 dX12_keepsAct_72) (n_sq (n_bipush hE (by decide) dX12_keepsAct_75) (n_sq (n_iload_n hE dX12_keepsAct_77) (n_sq (n_iadd hE dX12_keepsAct_78) (n_sq (n_iald hE rfl (by decide) dX12_keepsAct_79) (n_sq (n_iast hE rfl (by decide) dX12_keepsAct_80) (n_sq (n_iinc hE (by decide) (show (1 : Nat) < 2 by decide) dX12_keepsAct_81) (n_goto hE (by decide) dX12_keepsAct_84))))))))))))))))),
    (n_sq (n_aload_n hE dX12_keepsAct_87) (n_sq (n_dup hE dX12_keepsAct_88) (n_sq (n_getI hE xk_11 (k := 26) rfl (by decide) rfl wt_986 dX12_keepsAct_89) (n_sq (n_iconst hE (by decide) dX12_keepsAct_92) (n_sq (n_iadd hE dX12_keepsAct_93) (n_sq (n_putI hE xk_11 (k := 26) rfl (by decide) rfl rfl (tyX12_ok 26 (by decide)) wt_986 dX12_keepsAct_94) (n_vreturn hE rfl dX12_keepsAct_97))))))), trivial⟩
noncomputable def F_X12_keepsAct (as : List XV) (w : XW) : Option XW := (xF 2 bs_X12_keepsAct as w).bind pV
theorem m_X12_keepsAct : XM yX12_keepsAct cX12_keepsAct 2 none 0 0 (eV F_X12_keepsAct) := xm_V (xm_of (by decide) s_X12_keepsAct)
noncomputable def q_X12_keepsAct_0 (w : XW) : Option XR := ev bs_X12_keepsAct 0 ([some (.inr (11, 0)), none], [], w)
noncomputable def q_X12_keepsAct_9 (w : XW) : Option XR := ev bs_X12_keepsAct 9 ([some (.inr (11, 0)), none], [], w)
noncomputable def q_X12_keepsAct_12 (x1 : Int32) (w : XW) : Option XR := ev bs_X12_keepsAct 12 ([some (.inr (11, 0)), some (.inl (.int x1))], [], w)
noncomputable def q_X12_keepsAct_19 (x1 : Int32) (w : XW) : Option XR := ev bs_X12_keepsAct 19 ([some (.inr (11, 0)), some (.inl (.int x1))], [], w)
noncomputable def q_X12_keepsAct_40 (w : XW) : Option XR := ev bs_X12_keepsAct 40 ([some (.inr (11, 0)), none], [], w)
noncomputable def q_X12_keepsAct_50 (w : XW) : Option XR := ev bs_X12_keepsAct 50 ([some (.inr (11, 0)), none], [], w)
noncomputable def q_X12_keepsAct_52 (x1 : Int32) (w : XW) : Option XR := ev bs_X12_keepsAct 52 ([some (.inr (11, 0)), some (.inl (.int x1))], [], w)
noncomputable def q_X12_keepsAct_58 (x1 : Int32) (w : XW) : Option XR := ev bs_X12_keepsAct 58 ([some (.inr (11, 0)), some (.inl (.int x1))], [], w)
noncomputable def q_X12_keepsAct_87 (w : XW) : Option XR := ev bs_X12_keepsAct 87 ([some (.inr (11, 0)), none], [], w)
theorem e_X12_keepsAct_0 (w : XW) : q_X12_keepsAct_0 w = (bif decide (¬ (gI w 11 0 26) = 20) then (q_X12_keepsAct_50 w) else (q_X12_keepsAct_9 w)) := (ev_eq _ _ _).trans rfl
theorem e_X12_keepsAct_9 (w : XW) : q_X12_keepsAct_9 w = (q_X12_keepsAct_12 25 w) := (ev_eq _ _ _).trans rfl
theorem e_X12_keepsAct_12 (x1 : Int32) (w : XW) : q_X12_keepsAct_12 x1 w = (bif decide (500 ≤ x1) then (q_X12_keepsAct_40 w) else (q_X12_keepsAct_19 x1 w)) := (ev_eq _ _ _).trans rfl
theorem e_X12_keepsAct_19 (x1 : Int32) (w : XW) : q_X12_keepsAct_19 x1 w = (if x1 < 0 ∨ 500 ≤ x1.toNatClampNeg then none else (if (x1 - 25) < 0 ∨ 500 ≤ (x1 - 25).toNatClampNeg then none else (q_X12_keepsAct_12 (x1 + 1) (sI w 52 0 ((x1 - 25).toNatClampNeg) (gI w 52 0 x1.toNatClampNeg))))) := (ev_eq _ _ _).trans rfl
theorem e_X12_keepsAct_40 (w : XW) : q_X12_keepsAct_40 w = (q_X12_keepsAct_50 (sI w 11 0 26 ((gI w 11 0 26) - 1))) := (ev_eq _ _ _).trans rfl
theorem e_X12_keepsAct_50 (w : XW) : q_X12_keepsAct_50 w = (q_X12_keepsAct_52 0 w) := (ev_eq _ _ _).trans rfl
theorem e_X12_keepsAct_52 (x1 : Int32) (w : XW) : q_X12_keepsAct_52 x1 w = (bif decide (25 ≤ x1) then (q_X12_keepsAct_87 w) else (q_X12_keepsAct_58 x1 w)) := (ev_eq _ _ _).trans rfl
theorem e_X12_keepsAct_58 (x1 : Int32) (w : XW) : q_X12_keepsAct_58 x1 w = (if (10 + x1) < 0 ∨ 98 ≤ (10 + x1).toNatClampNeg then none else (if ((25 * (gI w 11 0 26)) + x1) < 0 ∨ 500 ≤ ((25 * (gI w 11 0 26)) + x1).toNatClampNeg then none else (q_X12_keepsAct_52 (x1 + 1) (sI w 52 0 (((25 * (gI w 11 0 26)) + x1).toNatClampNeg) (gI w 50 0 (10 + x1).toNatClampNeg))))) := (ev_eq _ _ _).trans rfl
theorem e_X12_keepsAct_87 (w : XW) : q_X12_keepsAct_87 w = (some (none, sI w 11 0 26 ((gI w 11 0 26) + 1))) := (ev_eq _ _ _).trans rfl
theorem f_X12_keepsAct (w : XW) : F_X12_keepsAct [.inr (11, 0)] w = (q_X12_keepsAct_0 w).bind pV := rfl

-- WinterKeepModel.undo()I
theorem dX12_undo_0 : decode cX12_undo 0 = .ok (.aload_n 0, 1) := by decide +kernel
theorem dX12_undo_1 : decode cX12_undo 1 = .ok (.getfield 280, 3) := by decide +kernel
theorem dX12_undo_4 : decode cX12_undo 4 = .ok (.ifCond .ne 5, 3) := by decide +kernel
theorem dX12_undo_7 : decode cX12_undo 7 = .ok (.iconst (-1), 1) := by decide +kernel
theorem dX12_undo_8 : decode cX12_undo 8 = .ok (.ireturn, 1) := by decide +kernel
theorem dX12_undo_9 : decode cX12_undo 9 = .ok (.aload_n 0, 1) := by decide +kernel
theorem dX12_undo_10 : decode cX12_undo 10 = .ok (.dup, 1) := by decide +kernel
theorem dX12_undo_11 : decode cX12_undo 11 = .ok (.getfield 280, 3) := by decide +kernel
theorem dX12_undo_14 : decode cX12_undo 14 = .ok (.iconst 1, 1) := by decide +kernel
theorem dX12_undo_15 : decode cX12_undo 15 = .ok (.isub, 1) := by decide +kernel
theorem dX12_undo_16 : decode cX12_undo 16 = .ok (.putfield 280, 3) := by decide +kernel
theorem dX12_undo_19 : decode cX12_undo 19 = .ok (.iconst 0, 1) := by decide +kernel
theorem dX12_undo_20 : decode cX12_undo 20 = .ok (.istore_n 1, 1) := by decide +kernel
theorem dX12_undo_21 : decode cX12_undo 21 = .ok (.iload_n 1, 1) := by decide +kernel
theorem dX12_undo_22 : decode cX12_undo 22 = .ok (.bipush 25, 2) := by decide +kernel
theorem dX12_undo_24 : decode cX12_undo 24 = .ok (.if_icmp .ge 32, 3) := by decide +kernel
theorem dX12_undo_27 : decode cX12_undo 27 = .ok (.aload_n 0, 1) := by decide +kernel
theorem dX12_undo_28 : decode cX12_undo 28 = .ok (.getfield 39, 3) := by decide +kernel
theorem dX12_undo_31 : decode cX12_undo 31 = .ok (.bipush 10, 2) := by decide +kernel
theorem dX12_undo_33 : decode cX12_undo 33 = .ok (.iload_n 1, 1) := by decide +kernel
theorem dX12_undo_34 : decode cX12_undo 34 = .ok (.iadd, 1) := by decide +kernel
theorem dX12_undo_35 : decode cX12_undo 35 = .ok (.aload_n 0, 1) := by decide +kernel
theorem dX12_undo_36 : decode cX12_undo 36 = .ok (.getfield 52, 3) := by decide +kernel
theorem dX12_undo_39 : decode cX12_undo 39 = .ok (.bipush 25, 2) := by decide +kernel
theorem dX12_undo_41 : decode cX12_undo 41 = .ok (.aload_n 0, 1) := by decide +kernel
theorem dX12_undo_42 : decode cX12_undo 42 = .ok (.getfield 280, 3) := by decide +kernel
theorem dX12_undo_45 : decode cX12_undo 45 = .ok (.imul, 1) := by decide +kernel
theorem dX12_undo_46 : decode cX12_undo 46 = .ok (.iload_n 1, 1) := by decide +kernel
theorem dX12_undo_47 : decode cX12_undo 47 = .ok (.iadd, 1) := by decide +kernel
theorem dX12_undo_48 : decode cX12_undo 48 = .ok (.iaload, 1) := by decide +kernel
theorem dX12_undo_49 : decode cX12_undo 49 = .ok (.iastore, 1) := by decide +kernel
theorem dX12_undo_50 : decode cX12_undo 50 = .ok (.iinc 1 1, 3) := by decide +kernel
theorem dX12_undo_53 : decode cX12_undo 53 = .ok (.goto (-32), 3) := by decide +kernel
theorem dX12_undo_56 : decode cX12_undo 56 = .ok (.aload_n 0, 1) := by decide +kernel
theorem dX12_undo_57 : decode cX12_undo 57 = .ok (.getfield 280, 3) := by decide +kernel
theorem dX12_undo_60 : decode cX12_undo 60 = .ok (.ireturn, 1) := by decide +kernel
noncomputable def bs_X12_undo : List (Nat × XB) := [
  (0, (sq (xLA 0) (sq (xGI 11 26) (tIf1 (fun x => decide (¬ x = 0)) 9 [true, false] 7 [false, false])))),
  (7, (sq (xC (.int (-1))) tRI)),
  (9, (sq (xLA 0) (sq (xDup) (sq (xGI 11 26) (sq (xC (.int 1)) (sq (xI2 (· - ·)) (sq (xPI 11 26) (sq (xC (.int 0)) (sq (xSI 1) (tGo 21 [true, true])))))))))),
  (21, (sq (xLI 1) (sq (xC (.int 25)) (tIf2 (fun x y => decide (y ≤ x)) 56 [true, false] 27 [true, true])))),
  (27, (sq (xLA 0) (sq (xGS 11 50 1 0) (sq (xC (.int 10)) (sq (xLI 1) (sq (xI2 (· + ·)) (sq (xLA 0) (sq (xGS 11 52 1 0) (sq (xC (.int 25)) (sq (xLA 0) (sq (xGI 11 26) (sq (xI2 (· * ·)) (sq (xLI 1) (sq (xI2 (· + ·)) (sq (xAI 52 500) (sq (xTI 50 98 (fun x => x)) (sq (xInc 1 1) (tGo 21 [true, true])))))))))))))))))),
  (56, (sq (xLA 0) (sq (xGI 11 26) tRI)))]
set_option maxRecDepth 100000 in
set_option maxHeartbeats 4000000 in
theorem s_X12_undo : ∀ X : XCtx, XE X → X.2.2.1.1 = cX12_undo → X.2.2.1.2.1 = 2 → X.2.2.1.2.2.1 = yX12_undo.cls → X.2.2.1.2.2.2.1 = (some .int) → X.1.2.2.2.1 = { frames := 0, cells := 0, slots := 0, locals := 0 } → SndBs X bs_X12_undo := by
  rintro ⟨⟨p, l, e, R, s⟩, Y, ⟨cc, nL, own, ret, Ts⟩, Z⟩ hE h1 h2 h3 h4 h5
  dsimp only at h1 h2 h3 h4 h5
  subst h1 h2 h3 h4 h5
  exact ⟨(n_sq (n_aload_n hE dX12_undo_0) (n_sq (n_getI hE xk_11 (k := 26) rfl (by decide) rfl wt_986 dX12_undo_1) (n_ifne hE (by decide) dX12_undo_4))),
    (n_sq (n_iconst hE (by decide) dX12_undo_7) (n_ireturn hE rfl dX12_undo_8)),
    (n_sq (n_aload_n hE dX12_undo_9) (n_sq (n_dup hE dX12_undo_10) (n_sq (n_getI hE xk_11 (k := 26) rfl (by decide) rfl wt_986 dX12_undo_11) (n_sq (n_iconst hE (by decide) dX12_undo_14) (n_sq (n_isub hE dX12_undo_15) (n_sq (n_putI hE xk_11 (k := 26) rfl (by decide) rfl rfl (tyX12_ok 26 (by decide)) wt_986 dX12_undo_16) (n_sq (n_iconst hE (by decide) dX12_undo_19) (n_sq (n_istore_n hE (show (1 : Nat) < 2 by decide) dX12_undo_20) n_fall)))))))),
    (n_sq (n_iload_n hE dX12_undo_21) (n_sq (n_bipush hE (by decide) dX12_undo_22) (n_ifcge hE (by decide) dX12_undo_24))),
    (n_sq (n_aload_n hE dX12_undo_27) (n_sq (n_getS hE xk_11 (k := 20) rfl (by decide) rfl wt_980 dX12_undo_28) (n_sq (n_bipush hE (by decide) dX12_undo_31) (n_sq (n_iload_n hE dX12_undo_33) (n_sq (n_iadd hE dX12_undo_34) (n_sq (n_aload_n hE dX12_undo_35) (n_sq (n_getS hE xk_11 (k := 25) rfl (by decide) rfl wt_985 dX12_undo_36) (n_sq (n_bipush hE (by decide) dX12_undo_39) (n_sq (n_aload_n hE dX12_undo_41) (n_sq (n_getI hE xk_11 (k := 26) rfl (by decide) rfl wt_986 dX12_undo_42) (n_sq (n_imul hE dX12_undo_45) (n_sq (n_iload_n hE dX12_undo_46) (n_sq (n_iadd hE dX12_undo_47) (n_sq (n_iald hE rfl (by decide) dX12_undo_48) (n_sq (n_iast hE rfl (by decide) dX12_undo_49) (n_sq (n_iinc hE (by decide) (show (1 : Nat) < 2 by decide) dX12_undo_50) (n_goto hE (by decide) dX12_undo_53))))))))))))))))),
    (n_sq (n_aload_n hE dX12_undo_56) (n_sq (n_getI hE xk_11 (k := 26) rfl (by decide) rfl wt_986 dX12_undo_57) (n_ireturn hE rfl dX12_undo_60))), trivial⟩
noncomputable def F_X12_undo (as : List XV) (w : XW) : Option (Int32 × XW) := (xF 2 bs_X12_undo as w).bind pI
theorem m_X12_undo : XM yX12_undo cX12_undo 2 (some .int) 0 0 (eI F_X12_undo) := xm_I (xm_of (by decide) s_X12_undo)
noncomputable def q_X12_undo_0 (w : XW) : Option XR := ev bs_X12_undo 0 ([some (.inr (11, 0)), none], [], w)
noncomputable def q_X12_undo_7 (w : XW) : Option XR := ev bs_X12_undo 7 ([none, none], [], w)
noncomputable def q_X12_undo_9 (w : XW) : Option XR := ev bs_X12_undo 9 ([some (.inr (11, 0)), none], [], w)
noncomputable def q_X12_undo_21 (x1 : Int32) (w : XW) : Option XR := ev bs_X12_undo 21 ([some (.inr (11, 0)), some (.inl (.int x1))], [], w)
noncomputable def q_X12_undo_27 (x1 : Int32) (w : XW) : Option XR := ev bs_X12_undo 27 ([some (.inr (11, 0)), some (.inl (.int x1))], [], w)
noncomputable def q_X12_undo_56 (w : XW) : Option XR := ev bs_X12_undo 56 ([some (.inr (11, 0)), none], [], w)
theorem e_X12_undo_0 (w : XW) : q_X12_undo_0 w = (bif decide (¬ (gI w 11 0 26) = 0) then (q_X12_undo_9 w) else (q_X12_undo_7 w)) := (ev_eq _ _ _).trans rfl
theorem e_X12_undo_7 (w : XW) : q_X12_undo_7 w = (some (some (.inl (.int (-1))), w)) := (ev_eq _ _ _).trans rfl
theorem e_X12_undo_9 (w : XW) : q_X12_undo_9 w = (q_X12_undo_21 0 (sI w 11 0 26 ((gI w 11 0 26) - 1))) := (ev_eq _ _ _).trans rfl
theorem e_X12_undo_21 (x1 : Int32) (w : XW) : q_X12_undo_21 x1 w = (bif decide (25 ≤ x1) then (q_X12_undo_56 w) else (q_X12_undo_27 x1 w)) := (ev_eq _ _ _).trans rfl
theorem e_X12_undo_27 (x1 : Int32) (w : XW) : q_X12_undo_27 x1 w = (if ((25 * (gI w 11 0 26)) + x1) < 0 ∨ 500 ≤ ((25 * (gI w 11 0 26)) + x1).toNatClampNeg then none else (if (10 + x1) < 0 ∨ 98 ≤ (10 + x1).toNatClampNeg then none else (q_X12_undo_21 (x1 + 1) (sI w 50 0 ((10 + x1).toNatClampNeg) (gI w 52 0 ((25 * (gI w 11 0 26)) + x1).toNatClampNeg))))) := (ev_eq _ _ _).trans rfl
theorem e_X12_undo_56 (w : XW) : q_X12_undo_56 w = (some (some (.inl (.int (gI w 11 0 26))), w)) := (ev_eq _ _ _).trans rfl
theorem f_X12_undo (w : XW) : F_X12_undo [.inr (11, 0)] w = (q_X12_undo_0 w).bind pI := rfl

-- WinterKeepModel.night()I
theorem dX12_night_0 : decode cX12_night 0 = .ok (.aload_n 0, 1) := by decide +kernel
theorem dX12_night_1 : decode cX12_night 1 = .ok (.invokevirtual 369, 3) := by decide +kernel
theorem dX12_night_4 : decode cX12_night 4 = .ok (.ifCond .eq 16, 3) := by decide +kernel
theorem dX12_night_7 : decode cX12_night 7 = .ok (.aload_n 0, 1) := by decide +kernel
theorem dX12_night_8 : decode cX12_night 8 = .ok (.getfield 39, 3) := by decide +kernel
theorem dX12_night_11 : decode cX12_night 11 = .ok (.bipush 10, 2) := by decide +kernel
theorem dX12_night_13 : decode cX12_night 13 = .ok (.iaload, 1) := by decide +kernel
theorem dX12_night_14 : decode cX12_night 14 = .ok (.sipush 999, 3) := by decide +kernel
theorem dX12_night_17 : decode cX12_night 17 = .ok (.if_icmp .ne 5, 3) := by decide +kernel
theorem dX12_night_20 : decode cX12_night 20 = .ok (.iconst (-1), 1) := by decide +kernel
theorem dX12_night_21 : decode cX12_night 21 = .ok (.ireturn, 1) := by decide +kernel
theorem dX12_night_22 : decode cX12_night 22 = .ok (.aload_n 0, 1) := by decide +kernel
theorem dX12_night_23 : decode cX12_night 23 = .ok (.invokevirtual 372, 3) := by decide +kernel
theorem dX12_night_26 : decode cX12_night 26 = .ok (.aload_n 0, 1) := by decide +kernel
theorem dX12_night_27 : decode cX12_night 27 = .ok (.invokevirtual 366, 3) := by decide +kernel
theorem dX12_night_30 : decode cX12_night 30 = .ok (.ireturn, 1) := by decide +kernel
theorem vc_X12_369 : XVw RX12 369 0 11 1 yX12_isDale cX12_isDale (some .boolean) := ⟨RX12, TX12, tyX12, 43, xk_11, rfl, ⟨by decide, by decide⟩, by decide +kernel, wt_1333, wt_1335, ws_82, wt_11, wt_1336⟩
theorem vc_X12_372 : XVw RX12 372 0 11 2 yX12_keepsAct cX12_keepsAct none := ⟨RX12, TX12, tyX12, 43, xk_11, rfl, ⟨by decide, by decide⟩, by decide +kernel, wt_1337, wt_1339, ws_83, wt_11, wt_1340⟩
noncomputable def bs_X12_night : List (Nat × XB) := [
  (0, (sq (xLA 0) (sq (xCI 11 1 F_X12_isDale) (tIf1 (fun x => decide (x = 0)) 20 [false] 7 [true])))),
  (7, (sq (xLA 0) (sq (xGS 11 50 1 0) (sq (xC (.int 10)) (sq (xAI 50 98) (sq (xC (.int 999)) (tIf2 (fun x y => decide (¬ x = y)) 22 [true] 20 [false]))))))),
  (20, (sq (xC (.int (-1))) tRI)),
  (22, (sq (xLA 0) (sq (xCV 11 1 F_X12_keepsAct) (sq (xLA 0) (sq (xCI 11 1 F_X12_passes) tRI)))))]
set_option maxRecDepth 100000 in
set_option maxHeartbeats 4000000 in
theorem s_X12_night : ∀ X : XCtx, XE X → X.2.2.1.1 = cX12_night → X.2.2.1.2.1 = 1 → X.2.2.1.2.2.1 = yX12_night.cls → X.2.2.1.2.2.2.1 = (some .int) → X.1.2.2.2.1 = { frames := 5, cells := 0, slots := 0, locals := 123 } → SndBs X bs_X12_night := by
  rintro ⟨⟨p, l, e, R, s⟩, Y, ⟨cc, nL, own, ret, Ts⟩, Z⟩ hE h1 h2 h3 h4 h5
  dsimp only at h1 h2 h3 h4 h5
  subst h1 h2 h3 h4 h5
  exact ⟨(n_sq (n_aload_n hE dX12_night_0) (n_sq (n_cIv hE m_X12_isDale vc_X12_369 (show 0 + 1 ≤ 5 ∧ 8 + (1 + 11) + 0 ≤ 123 by decide) dX12_night_1) (n_ifeq hE (by decide) dX12_night_4))),
    (n_sq (n_aload_n hE dX12_night_7) (n_sq (n_getS hE xk_11 (k := 20) rfl (by decide) rfl wt_980 dX12_night_8) (n_sq (n_bipush hE (by decide) dX12_night_11) (n_sq (n_iald hE rfl (by decide) dX12_night_13) (n_sq (n_sipush hE (by decide) dX12_night_14) (n_ifcne hE (by decide) dX12_night_17)))))),
    (n_sq (n_iconst hE (by decide) dX12_night_20) (n_ireturn hE rfl dX12_night_21)),
    (n_sq (n_aload_n hE dX12_night_22) (n_sq (n_cVv hE m_X12_keepsAct vc_X12_372 (show 0 + 1 ≤ 5 ∧ 8 + (2 + 11) + 0 ≤ 123 by decide) dX12_night_23) (n_sq (n_aload_n hE dX12_night_26) (n_sq (n_cIv hE m_X12_passes vc_X12_366 (show 4 + 1 ≤ 5 ∧ 8 + (3 + 11) + 101 ≤ 123 by decide) dX12_night_27) (n_ireturn hE rfl dX12_night_30))))), trivial⟩
noncomputable def F_X12_night (as : List XV) (w : XW) : Option (Int32 × XW) := (xF 1 bs_X12_night as w).bind pI
theorem m_X12_night : XM yX12_night cX12_night 1 (some .int) 5 123 (eI F_X12_night) := xm_I (xm_of (by decide) s_X12_night)
noncomputable def q_X12_night_0 (w : XW) : Option XR := ev bs_X12_night 0 ([some (.inr (11, 0))], [], w)
noncomputable def q_X12_night_7 (w : XW) : Option XR := ev bs_X12_night 7 ([some (.inr (11, 0))], [], w)
noncomputable def q_X12_night_20 (w : XW) : Option XR := ev bs_X12_night 20 ([none], [], w)
noncomputable def q_X12_night_22 (w : XW) : Option XR := ev bs_X12_night 22 ([some (.inr (11, 0))], [], w)
theorem e_X12_night_0 (w : XW) : q_X12_night_0 w = ((F_X12_isDale [.inr (11, 0)] w).bind fun r0 => (bif decide (r0.1 = 0) then (q_X12_night_20 r0.2) else (q_X12_night_7 r0.2))) := (ev_eq _ _ _).trans rfl
theorem e_X12_night_7 (w : XW) : q_X12_night_7 w = (bif decide (¬ (gI w 50 0 10) = 999) then (q_X12_night_22 w) else (q_X12_night_20 w)) := (ev_eq _ _ _).trans rfl
theorem e_X12_night_20 (w : XW) : q_X12_night_20 w = (some (some (.inl (.int (-1))), w)) := (ev_eq _ _ _).trans rfl
theorem e_X12_night_22 (w : XW) : q_X12_night_22 w = ((F_X12_keepsAct [.inr (11, 0)] w).bind fun r0 => ((F_X12_passes [.inr (11, 0)] r0).bind fun r1 => (some (some (.inl (.int r1.1)), r1.2)))) := (ev_eq _ _ _).trans rfl
theorem f_X12_night (w : XW) : F_X12_night [.inr (11, 0)] w = (q_X12_night_0 w).bind pI := rfl
