-- WinterKeepModel.most(II)I
theorem dX12_most_0 : decode cX12_most 0 = .ok (.aload_n 0, 1) := by decide +kernel
theorem dX12_most_1 : decode cX12_most 1 = .ok (.iload_n 1, 1) := by decide +kernel
theorem dX12_most_2 : decode cX12_most 2 = .ok (.invokevirtual 320, 3) := by decide +kernel
theorem dX12_most_5 : decode cX12_most 5 = .ok (.ifCond .eq 31, 3) := by decide +kernel
theorem dX12_most_8 : decode cX12_most 8 = .ok (.aload_n 0, 1) := by decide +kernel
theorem dX12_most_9 : decode cX12_most 9 = .ok (.aload_n 0, 1) := by decide +kernel
theorem dX12_most_10 : decode cX12_most 10 = .ok (.getfield 39, 3) := by decide +kernel
theorem dX12_most_13 : decode cX12_most 13 = .ok (.bipush 47, 2) := by decide +kernel
theorem dX12_most_15 : decode cX12_most 15 = .ok (.iload_n 1, 1) := by decide +kernel
theorem dX12_most_16 : decode cX12_most 16 = .ok (.iadd, 1) := by decide +kernel
theorem dX12_most_17 : decode cX12_most 17 = .ok (.iaload, 1) := by decide +kernel
theorem dX12_most_18 : decode cX12_most 18 = .ok (.invokevirtual 351, 3) := by decide +kernel
theorem dX12_most_21 : decode cX12_most 21 = .ok (.ifCond .ne 15, 3) := by decide +kernel
theorem dX12_most_24 : decode cX12_most 24 = .ok (.iload_n 2, 1) := by decide +kernel
theorem dX12_most_25 : decode cX12_most 25 = .ok (.i2l, 1) := by decide +kernel
theorem dX12_most_26 : decode cX12_most 26 = .ok (.lconst 1, 1) := by decide +kernel
theorem dX12_most_27 : decode cX12_most 27 = .ok (.ldc2_w 402, 3) := by decide +kernel
theorem dX12_most_30 : decode cX12_most 30 = .ok (.invokestatic 133, 3) := by decide +kernel
theorem dX12_most_33 : decode cX12_most 33 = .ok (.ifCond .ne 5, 3) := by decide +kernel
theorem dX12_most_36 : decode cX12_most 36 = .ok (.iconst (-1), 1) := by decide +kernel
theorem dX12_most_37 : decode cX12_most 37 = .ok (.ireturn, 1) := by decide +kernel
theorem dX12_most_38 : decode cX12_most 38 = .ok (.aload_n 0, 1) := by decide +kernel
theorem dX12_most_39 : decode cX12_most 39 = .ok (.getfield 39, 3) := by decide +kernel
theorem dX12_most_42 : decode cX12_most 42 = .ok (.bipush 52, 2) := by decide +kernel
theorem dX12_most_44 : decode cX12_most 44 = .ok (.iload_n 1, 1) := by decide +kernel
theorem dX12_most_45 : decode cX12_most 45 = .ok (.iadd, 1) := by decide +kernel
theorem dX12_most_46 : decode cX12_most 46 = .ok (.iaload, 1) := by decide +kernel
theorem dX12_most_47 : decode cX12_most 47 = .ok (.istore_n 3, 1) := by decide +kernel
theorem dX12_most_48 : decode cX12_most 48 = .ok (.bipush (-2), 2) := by decide +kernel
theorem dX12_most_50 : decode cX12_most 50 = .ok (.istore 4, 2) := by decide +kernel
theorem dX12_most_52 : decode cX12_most 52 = .ok (.aload_n 0, 1) := by decide +kernel
theorem dX12_most_53 : decode cX12_most 53 = .ok (.invokevirtual 377, 3) := by decide +kernel
theorem dX12_most_56 : decode cX12_most 56 = .ok (.bipush 9, 2) := by decide +kernel
theorem dX12_most_58 : decode cX12_most 58 = .ok (.istore 5, 2) := by decide +kernel
theorem dX12_most_60 : decode cX12_most 60 = .ok (.iload 5, 2) := by decide +kernel
theorem dX12_most_62 : decode cX12_most 62 = .ok (.ifCond .lt 54, 3) := by decide +kernel
theorem dX12_most_65 : decode cX12_most 65 = .ok (.iload 4, 2) := by decide +kernel
theorem dX12_most_67 : decode cX12_most 67 = .ok (.ifCond .ge 49, 3) := by decide +kernel
theorem dX12_most_70 : decode cX12_most 70 = .ok (.aload_n 0, 1) := by decide +kernel
theorem dX12_most_71 : decode cX12_most 71 = .ok (.getfield 39, 3) := by decide +kernel
theorem dX12_most_74 : decode cX12_most 74 = .ok (.bipush 52, 2) := by decide +kernel
theorem dX12_most_76 : decode cX12_most 76 = .ok (.iload_n 1, 1) := by decide +kernel
theorem dX12_most_77 : decode cX12_most 77 = .ok (.iadd, 1) := by decide +kernel
theorem dX12_most_78 : decode cX12_most 78 = .ok (.iload 5, 2) := by decide +kernel
theorem dX12_most_80 : decode cX12_most 80 = .ok (.iastore, 1) := by decide +kernel
theorem dX12_most_81 : decode cX12_most 81 = .ok (.aload_n 0, 1) := by decide +kernel
theorem dX12_most_82 : decode cX12_most 82 = .ok (.iload_n 2, 1) := by decide +kernel
theorem dX12_most_83 : decode cX12_most 83 = .ok (.invokevirtual 380, 3) := by decide +kernel
theorem dX12_most_86 : decode cX12_most 86 = .ok (.aload_n 0, 1) := by decide +kernel
theorem dX12_most_87 : decode cX12_most 87 = .ok (.aload_n 0, 1) := by decide +kernel
theorem dX12_most_88 : decode cX12_most 88 = .ok (.getfield 39, 3) := by decide +kernel
theorem dX12_most_91 : decode cX12_most 91 = .ok (.bipush 47, 2) := by decide +kernel
theorem dX12_most_93 : decode cX12_most 93 = .ok (.iload_n 1, 1) := by decide +kernel
theorem dX12_most_94 : decode cX12_most 94 = .ok (.iadd, 1) := by decide +kernel
theorem dX12_most_95 : decode cX12_most 95 = .ok (.iaload, 1) := by decide +kernel
theorem dX12_most_96 : decode cX12_most 96 = .ok (.invokevirtual 351, 3) := by decide +kernel
theorem dX12_most_99 : decode cX12_most 99 = .ok (.ifCond .ne 7, 3) := by decide +kernel
theorem dX12_most_102 : decode cX12_most 102 = .ok (.iload 5, 2) := by decide +kernel
theorem dX12_most_104 : decode cX12_most 104 = .ok (.istore 4, 2) := by decide +kernel
theorem dX12_most_106 : decode cX12_most 106 = .ok (.aload_n 0, 1) := by decide +kernel
theorem dX12_most_107 : decode cX12_most 107 = .ok (.invokevirtual 383, 3) := by decide +kernel
theorem dX12_most_110 : decode cX12_most 110 = .ok (.iinc 5 (-1), 3) := by decide +kernel
theorem dX12_most_113 : decode cX12_most 113 = .ok (.goto (-53), 3) := by decide +kernel
theorem dX12_most_116 : decode cX12_most 116 = .ok (.aload_n 0, 1) := by decide +kernel
theorem dX12_most_117 : decode cX12_most 117 = .ok (.getfield 39, 3) := by decide +kernel
theorem dX12_most_120 : decode cX12_most 120 = .ok (.bipush 52, 2) := by decide +kernel
theorem dX12_most_122 : decode cX12_most 122 = .ok (.iload_n 1, 1) := by decide +kernel
theorem dX12_most_123 : decode cX12_most 123 = .ok (.iadd, 1) := by decide +kernel
theorem dX12_most_124 : decode cX12_most 124 = .ok (.iload_n 3, 1) := by decide +kernel
theorem dX12_most_125 : decode cX12_most 125 = .ok (.iastore, 1) := by decide +kernel
theorem dX12_most_126 : decode cX12_most 126 = .ok (.iload 4, 2) := by decide +kernel
theorem dX12_most_128 : decode cX12_most 128 = .ok (.ireturn, 1) := by decide +kernel
noncomputable def bs_X12_most : List (Nat × XB) := [
  (0, (sq (xLA 0) (sq (xLI 1) (sq (xCI 11 2 F_X12_isPerson) (tIf1 (fun x => decide (x = 0)) 36 [false, false, false, false, false, false] 8 [true, true, true, false, false, false]))))),
  (8, (sq (xLA 0) (sq (xLA 0) (sq (xGS 11 50 1 0) (sq (xC (.int 47)) (sq (xLI 1) (sq (xI2 (· + ·)) (sq (xAI 50 98) (sq (xCI 11 2 F_X12_isBurnt) (tIf1 (fun x => decide (¬ x = 0)) 36 [false, false, false, false, false, false] 24 [true, true, true, false, false, false])))))))))),
  (24, (sq (xLI 2) (sq (xI2L) (sq (xC (.long 1)) (sq (xC (.long 60)) (sq (xCI 99 3 F_X12_in) (tIf1 (fun x => decide (¬ x = 0)) 38 [true, true, true, false, false, false] 36 [false, false, false, false, false, false]))))))),
  (36, (sq (xC (.int (-1))) tRI)),
  (38, (sq (xLA 0) (sq (xGS 11 50 1 0) (sq (xC (.int 52)) (sq (xLI 1) (sq (xI2 (· + ·)) (sq (xAI 50 98) (sq (xSI 3) (sq (xC (.int (-2))) (sq (xSI 4) (sq (xLA 0) (sq (xCV 11 1 F_X12_keeps) (sq (xC (.int 9)) (sq (xSI 5) (tGo 60 [true, true, true, true, true, true]))))))))))))))),
  (60, (sq (xLI 5) (tIf1 (fun x => decide (x < 0)) 116 [true, true, false, true, true, false] 65 [true, true, true, true, true, true]))),
  (65, (sq (xLI 4) (tIf1 (fun x => decide (0 ≤ x)) 116 [true, true, false, true, true, false] 70 [true, true, true, true, true, true]))),
  (70, (sq (xLA 0) (sq (xGS 11 50 1 0) (sq (xC (.int 52)) (sq (xLI 1) (sq (xI2 (· + ·)) (sq (xLI 5) (sq (xTI 50 98 (fun x => x)) (sq (xLA 0) (sq (xLI 2) (sq (xCV 11 2 F_X12_passesAll) (sq (xLA 0) (sq (xLA 0) (sq (xGS 11 50 1 0) (sq (xC (.int 47)) (sq (xLI 1) (sq (xI2 (· + ·)) (sq (xAI 50 98) (sq (xCI 11 2 F_X12_isBurnt) (tIf1 (fun x => decide (¬ x = 0)) 106 [true, true, true, true, true, true] 102 [true, true, true, true, false, true])))))))))))))))))))),
  (102, (sq (xLI 5) (sq (xSI 4) (tGo 106 [true, true, true, true, true, true])))),
  (106, (sq (xLA 0) (sq (xCV 11 1 F_X12_laysBack) (sq (xInc 5 (-1)) (tGo 60 [true, true, true, true, true, true]))))),
  (116, (sq (xLA 0) (sq (xGS 11 50 1 0) (sq (xC (.int 52)) (sq (xLI 1) (sq (xI2 (· + ·)) (sq (xLI 3) (sq (xTI 50 98 (fun x => x)) (sq (xLI 4) tRI)))))))))]
set_option maxRecDepth 100000 in
set_option maxHeartbeats 4000000 in
theorem s_X12_most : ∀ X : XCtx, XE X → X.2.2.1.1 = cX12_most → X.2.2.1.2.1 = 6 → X.2.2.1.2.2.1 = yX12_most.cls → X.2.2.1.2.2.2.1 = (some .int) → X.1.2.2.2.1 = { frames := 6, cells := 0, slots := 0, locals := 145 } → SndBs X bs_X12_most := by
  rintro ⟨⟨p, l, e, R, s⟩, Y, ⟨cc, nL, own, ret, Ts⟩, Z⟩ hE h1 h2 h3 h4 h5
  dsimp only at h1 h2 h3 h4 h5
  subst h1 h2 h3 h4 h5
  exact ⟨(n_sq (n_aload_n hE dX12_most_0) (n_sq (n_iload_n hE dX12_most_1) (n_sq (n_cIv hE m_X12_isPerson vc_X12_320 (show 0 + 1 ≤ 6 ∧ 8 + (2 + 11) + 0 ≤ 145 by decide) dX12_most_2) (n_ifeq hE (by decide) dX12_most_5)))),
    (n_sq (n_aload_n hE dX12_most_8) (n_sq (n_aload_n hE dX12_most_9) (n_sq (n_getS hE xk_11 (k := 20) rfl (by decide) rfl wt_980 dX12_most_10) (n_sq (n_bipush hE (by decide) dX12_most_13) (n_sq (n_iload_n hE dX12_most_15) (n_sq (n_iadd hE dX12_most_16) (n_sq (n_iald hE rfl (by decide) dX12_most_17) (n_sq (n_cIv hE m_X12_isBurnt vc_X12_351 (show 1 + 1 ≤ 6 ∧ 8 + (2 + 11) + 21 ≤ 145 by decide) dX12_most_18) (n_ifne hE (by decide) dX12_most_21))))))))),
    (n_sq (n_iload_n hE dX12_most_24) (n_sq (n_i2l hE dX12_most_25) (n_sq (n_lconst hE (by decide) dX12_most_26) (n_sq (n_ldc2 hE wt_1468 dX12_most_27) (n_sq (n_cIs hE m_X12_in vc_X12_133 (show 0 + 1 ≤ 6 ∧ 8 + (6 + 11) + 0 ≤ 145 by decide) dX12_most_30) (n_ifne hE (by decide) dX12_most_33)))))),
    (n_sq (n_iconst hE (by decide) dX12_most_36) (n_ireturn hE rfl dX12_most_37)),
    (n_sq (n_aload_n hE dX12_most_38) (n_sq (n_getS hE xk_11 (k := 20) rfl (by decide) rfl wt_980 dX12_most_39) (n_sq (n_bipush hE (by decide) dX12_most_42) (n_sq (n_iload_n hE dX12_most_44) (n_sq (n_iadd hE dX12_most_45) (n_sq (n_iald hE rfl (by decide) dX12_most_46) (n_sq (n_istore_n hE (show (3 : Nat) < 6 by decide) dX12_most_47) (n_sq (n_bipush hE (by decide) dX12_most_48) (n_sq (n_istore hE (show (4 : Nat) < 6 by decide) dX12_most_50) (n_sq (n_aload_n hE dX12_most_52) (n_sq (n_cVv hE m_X12_keeps vc_X12_377 (show 0 + 1 ≤ 6 ∧ 8 + (2 + 11) + 0 ≤ 145 by decide) dX12_most_53) (n_sq (n_bipush hE (by decide) dX12_most_56) (n_sq (n_istore hE (show (5 : Nat) < 6 by decide) dX12_most_58) n_fall))))))))))))),
    (n_sq (n_iload hE dX12_most_60) (n_iflt hE (by decide) dX12_most_62)),
    (n_sq (n_iload hE dX12_most_65) (n_ifge hE (by decide) dX12_most_67)),
    (n_sq (n_aload_n hE dX12_most_70) (n_sq (n_getS hE xk_11 (k := 20) rfl (by decide) rfl wt_980 dX12_most_71) (n_sq (n_bipush hE (by decide) dX12_most_74) (n_sq (n_iload_n hE dX12_most_76) (n_sq (n_iadd hE dX12_most_77) (n_sq (n_iload hE dX12_most_78) (n_sq (n_iast hE rfl (by decide) dX12_most_80) (n_sq (n_aload_n hE dX12_most_81) (n_sq (n_iload_n hE dX12_most_82) (n_sq (n_cVv hE m_X12_passesAll vc_X12_380 (show 5 + 1 ≤ 6 ∧ 8 + (3 + 11) + 123 ≤ 145 by decide) dX12_most_83) (n_sq (n_aload_n hE dX12_most_86) (n_sq (n_aload_n hE dX12_most_87) (n_sq (n_getS hE xk_11 (k := 20) rfl (by decide) rfl wt_980 dX12_most_88) (n_sq (n_bipush hE (by decide) dX12_most_91) (n_sq (n_iload_n hE dX12_most_93) (n_sq (n_iadd hE dX12_most_94) (n_sq (n_iald hE rfl (by decide) dX12_most_95) (n_sq (n_cIv hE m_X12_isBurnt vc_X12_351 (show 1 + 1 ≤ 6 ∧ 8 + (2 + 11) + 21 ≤ 145 by decide) dX12_most_96) (n_ifne hE (by decide) dX12_most_99))))))))))))))))))),
    (n_sq (n_iload hE dX12_most_102) (n_sq (n_istore hE (show (4 : Nat) < 6 by decide) dX12_most_104) n_fall)),
    (n_sq (n_aload_n hE dX12_most_106) (n_sq (n_cVv hE m_X12_laysBack vc_X12_383 (show 0 + 1 ≤ 6 ∧ 8 + (2 + 11) + 0 ≤ 145 by decide) dX12_most_107) (n_sq (n_iinc hE (by decide) (show (5 : Nat) < 6 by decide) dX12_most_110) (n_goto hE (by decide) dX12_most_113)))),
    (n_sq (n_aload_n hE dX12_most_116) (n_sq (n_getS hE xk_11 (k := 20) rfl (by decide) rfl wt_980 dX12_most_117) (n_sq (n_bipush hE (by decide) dX12_most_120) (n_sq (n_iload_n hE dX12_most_122) (n_sq (n_iadd hE dX12_most_123) (n_sq (n_iload_n hE dX12_most_124) (n_sq (n_iast hE rfl (by decide) dX12_most_125) (n_sq (n_iload hE dX12_most_126) (n_ireturn hE rfl dX12_most_128))))))))), trivial⟩
noncomputable def F_X12_most (as : List XV) (w : XW) : Option (Int32 × XW) := (xF 6 bs_X12_most as w).bind pI
theorem m_X12_most : XM yX12_most cX12_most 6 (some .int) 6 145 (eI F_X12_most) := xm_I (xm_of (by decide) s_X12_most)
noncomputable def q_X12_most_0 (x1 : Int32) (x2 : Int32) (w : XW) : Option XR := ev bs_X12_most 0 ([some (.inr (11, 0)), some (.inl (.int x1)), some (.inl (.int x2)), none, none, none], [], w)
noncomputable def q_X12_most_8 (x1 : Int32) (x2 : Int32) (w : XW) : Option XR := ev bs_X12_most 8 ([some (.inr (11, 0)), some (.inl (.int x1)), some (.inl (.int x2)), none, none, none], [], w)
noncomputable def q_X12_most_24 (x1 : Int32) (x2 : Int32) (w : XW) : Option XR := ev bs_X12_most 24 ([some (.inr (11, 0)), some (.inl (.int x1)), some (.inl (.int x2)), none, none, none], [], w)
noncomputable def q_X12_most_36 (w : XW) : Option XR := ev bs_X12_most 36 ([none, none, none, none, none, none], [], w)
noncomputable def q_X12_most_38 (x1 : Int32) (x2 : Int32) (w : XW) : Option XR := ev bs_X12_most 38 ([some (.inr (11, 0)), some (.inl (.int x1)), some (.inl (.int x2)), none, none, none], [], w)
noncomputable def q_X12_most_60 (x1 : Int32) (x2 : Int32) (x3 : Int32) (x4 : Int32) (x5 : Int32) (w : XW) : Option XR := ev bs_X12_most 60 ([some (.inr (11, 0)), some (.inl (.int x1)), some (.inl (.int x2)), some (.inl (.int x3)), some (.inl (.int x4)), some (.inl (.int x5))], [], w)
noncomputable def q_X12_most_65 (x1 : Int32) (x2 : Int32) (x3 : Int32) (x4 : Int32) (x5 : Int32) (w : XW) : Option XR := ev bs_X12_most 65 ([some (.inr (11, 0)), some (.inl (.int x1)), some (.inl (.int x2)), some (.inl (.int x3)), some (.inl (.int x4)), some (.inl (.int x5))], [], w)
noncomputable def q_X12_most_70 (x1 : Int32) (x2 : Int32) (x3 : Int32) (x4 : Int32) (x5 : Int32) (w : XW) : Option XR := ev bs_X12_most 70 ([some (.inr (11, 0)), some (.inl (.int x1)), some (.inl (.int x2)), some (.inl (.int x3)), some (.inl (.int x4)), some (.inl (.int x5))], [], w)
noncomputable def q_X12_most_102 (x1 : Int32) (x2 : Int32) (x3 : Int32) (x5 : Int32) (w : XW) : Option XR := ev bs_X12_most 102 ([some (.inr (11, 0)), some (.inl (.int x1)), some (.inl (.int x2)), some (.inl (.int x3)), none, some (.inl (.int x5))], [], w)
noncomputable def q_X12_most_106 (x1 : Int32) (x2 : Int32) (x3 : Int32) (x4 : Int32) (x5 : Int32) (w : XW) : Option XR := ev bs_X12_most 106 ([some (.inr (11, 0)), some (.inl (.int x1)), some (.inl (.int x2)), some (.inl (.int x3)), some (.inl (.int x4)), some (.inl (.int x5))], [], w)
noncomputable def q_X12_most_116 (x1 : Int32) (x3 : Int32) (x4 : Int32) (w : XW) : Option XR := ev bs_X12_most 116 ([some (.inr (11, 0)), some (.inl (.int x1)), none, some (.inl (.int x3)), some (.inl (.int x4)), none], [], w)
theorem e_X12_most_0 (x1 : Int32) (x2 : Int32) (w : XW) : q_X12_most_0 x1 x2 w = ((F_X12_isPerson [.inr (11, 0), .inl (.int x1)] w).bind fun r0 => (bif decide (r0.1 = 0) then (q_X12_most_36 r0.2) else (q_X12_most_8 x1 x2 r0.2))) := (ev_eq _ _ _).trans rfl
theorem e_X12_most_8 (x1 : Int32) (x2 : Int32) (w : XW) : q_X12_most_8 x1 x2 w = (if (47 + x1) < 0 ∨ 98 ≤ (47 + x1).toNatClampNeg then none else ((F_X12_isBurnt [.inr (11, 0), .inl (.int (gI w 50 0 (47 + x1).toNatClampNeg))] w).bind fun r0 => (bif decide (¬ r0.1 = 0) then (q_X12_most_36 r0.2) else (q_X12_most_24 x1 x2 r0.2)))) := (ev_eq _ _ _).trans rfl
theorem e_X12_most_24 (x1 : Int32) (x2 : Int32) (w : XW) : q_X12_most_24 x1 x2 w = ((F_X12_in [.inl (.long (x2 : Int32).toInt64), .inl (.long 1), .inl (.long 60)] w).bind fun r0 => (bif decide (¬ r0.1 = 0) then (q_X12_most_38 x1 x2 r0.2) else (q_X12_most_36 r0.2))) := (ev_eq _ _ _).trans rfl
theorem e_X12_most_36 (w : XW) : q_X12_most_36 w = (some (some (.inl (.int (-1))), w)) := (ev_eq _ _ _).trans rfl
theorem e_X12_most_38 (x1 : Int32) (x2 : Int32) (w : XW) : q_X12_most_38 x1 x2 w = (if (52 + x1) < 0 ∨ 98 ≤ (52 + x1).toNatClampNeg then none else ((F_X12_keeps [.inr (11, 0)] w).bind fun r0 => (q_X12_most_60 x1 x2 (gI w 50 0 (52 + x1).toNatClampNeg) (-2) 9 r0))) := (ev_eq _ _ _).trans rfl
theorem e_X12_most_60 (x1 : Int32) (x2 : Int32) (x3 : Int32) (x4 : Int32) (x5 : Int32) (w : XW) : q_X12_most_60 x1 x2 x3 x4 x5 w = (bif decide (x5 < 0) then (q_X12_most_116 x1 x3 x4 w) else (q_X12_most_65 x1 x2 x3 x4 x5 w)) := (ev_eq _ _ _).trans rfl
theorem e_X12_most_65 (x1 : Int32) (x2 : Int32) (x3 : Int32) (x4 : Int32) (x5 : Int32) (w : XW) : q_X12_most_65 x1 x2 x3 x4 x5 w = (bif decide (0 ≤ x4) then (q_X12_most_116 x1 x3 x4 w) else (q_X12_most_70 x1 x2 x3 x4 x5 w)) := (ev_eq _ _ _).trans rfl
theorem e_X12_most_70 (x1 : Int32) (x2 : Int32) (x3 : Int32) (x4 : Int32) (x5 : Int32) (w : XW) : q_X12_most_70 x1 x2 x3 x4 x5 w = (if (52 + x1) < 0 ∨ 98 ≤ (52 + x1).toNatClampNeg then none else ((F_X12_passesAll [.inr (11, 0), .inl (.int x2)] (sI w 50 0 ((52 + x1).toNatClampNeg) x5)).bind fun r0 => (if (47 + x1) < 0 ∨ 98 ≤ (47 + x1).toNatClampNeg then none else ((F_X12_isBurnt [.inr (11, 0), .inl (.int (gI r0 50 0 (47 + x1).toNatClampNeg))] r0).bind fun r1 => (bif decide (¬ r1.1 = 0) then (q_X12_most_106 x1 x2 x3 x4 x5 r1.2) else (q_X12_most_102 x1 x2 x3 x5 r1.2)))))) := (ev_eq _ _ _).trans rfl
theorem e_X12_most_102 (x1 : Int32) (x2 : Int32) (x3 : Int32) (x5 : Int32) (w : XW) : q_X12_most_102 x1 x2 x3 x5 w = (q_X12_most_106 x1 x2 x3 x5 x5 w) := (ev_eq _ _ _).trans rfl
theorem e_X12_most_106 (x1 : Int32) (x2 : Int32) (x3 : Int32) (x4 : Int32) (x5 : Int32) (w : XW) : q_X12_most_106 x1 x2 x3 x4 x5 w = ((F_X12_laysBack [.inr (11, 0)] w).bind fun r0 => (q_X12_most_60 x1 x2 x3 x4 (x5 + (-1)) r0)) := (ev_eq _ _ _).trans rfl
theorem e_X12_most_116 (x1 : Int32) (x3 : Int32) (x4 : Int32) (w : XW) : q_X12_most_116 x1 x3 x4 w = (if (52 + x1) < 0 ∨ 98 ≤ (52 + x1).toNatClampNeg then none else (some (some (.inl (.int x4)), sI w 50 0 ((52 + x1).toNatClampNeg) x3))) := (ev_eq _ _ _).trans rfl
theorem f_X12_most (x1 : Int32) (x2 : Int32) (w : XW) : F_X12_most [.inr (11, 0), .inl (.int x1), .inl (.int x2)] w = (q_X12_most_0 x1 x2 w).bind pI := rfl

-- WinterKeepModel.had(IIII)I
theorem dX12_had_0 : decode cX12_had 0 = .ok (.aload_n 0, 1) := by decide +kernel
theorem dX12_had_1 : decode cX12_had 1 = .ok (.iload_n 1, 1) := by decide +kernel
theorem dX12_had_2 : decode cX12_had 2 = .ok (.invokevirtual 298, 3) := by decide +kernel
theorem dX12_had_5 : decode cX12_had 5 = .ok (.ifCond .eq 46, 3) := by decide +kernel
theorem dX12_had_8 : decode cX12_had 8 = .ok (.aload_n 0, 1) := by decide +kernel
theorem dX12_had_9 : decode cX12_had 9 = .ok (.iload_n 1, 1) := by decide +kernel
theorem dX12_had_10 : decode cX12_had 10 = .ok (.invokevirtual 351, 3) := by decide +kernel
theorem dX12_had_13 : decode cX12_had 13 = .ok (.ifCond .ne 38, 3) := by decide +kernel
theorem dX12_had_16 : decode cX12_had 16 = .ok (.iload_n 2, 1) := by decide +kernel
theorem dX12_had_17 : decode cX12_had 17 = .ok (.i2l, 1) := by decide +kernel
theorem dX12_had_18 : decode cX12_had 18 = .ok (.lconst 1, 1) := by decide +kernel
theorem dX12_had_19 : decode cX12_had 19 = .ok (.ldc2_w 425, 3) := by decide +kernel
theorem dX12_had_22 : decode cX12_had 22 = .ok (.invokestatic 133, 3) := by decide +kernel
theorem dX12_had_25 : decode cX12_had 25 = .ok (.ifCond .eq 26, 3) := by decide +kernel
theorem dX12_had_28 : decode cX12_had 28 = .ok (.iload_n 3, 1) := by decide +kernel
theorem dX12_had_29 : decode cX12_had 29 = .ok (.i2l, 1) := by decide +kernel
theorem dX12_had_30 : decode cX12_had 30 = .ok (.lconst 0, 1) := by decide +kernel
theorem dX12_had_31 : decode cX12_had 31 = .ok (.ldc2_w 402, 3) := by decide +kernel
theorem dX12_had_34 : decode cX12_had 34 = .ok (.invokestatic 133, 3) := by decide +kernel
theorem dX12_had_37 : decode cX12_had 37 = .ok (.ifCond .eq 14, 3) := by decide +kernel
theorem dX12_had_40 : decode cX12_had 40 = .ok (.iload 4, 2) := by decide +kernel
theorem dX12_had_42 : decode cX12_had 42 = .ok (.i2l, 1) := by decide +kernel
theorem dX12_had_43 : decode cX12_had 43 = .ok (.lconst 0, 1) := by decide +kernel
theorem dX12_had_44 : decode cX12_had 44 = .ok (.lconst 1, 1) := by decide +kernel
theorem dX12_had_45 : decode cX12_had 45 = .ok (.invokestatic 133, 3) := by decide +kernel
theorem dX12_had_48 : decode cX12_had 48 = .ok (.ifCond .ne 5, 3) := by decide +kernel
theorem dX12_had_51 : decode cX12_had 51 = .ok (.iconst (-1), 1) := by decide +kernel
theorem dX12_had_52 : decode cX12_had 52 = .ok (.ireturn, 1) := by decide +kernel
theorem dX12_had_53 : decode cX12_had 53 = .ok (.iconst 0, 1) := by decide +kernel
theorem dX12_had_54 : decode cX12_had 54 = .ok (.istore 5, 2) := by decide +kernel
theorem dX12_had_56 : decode cX12_had 56 = .ok (.bipush (-2), 2) := by decide +kernel
theorem dX12_had_58 : decode cX12_had 58 = .ok (.istore 6, 2) := by decide +kernel
theorem dX12_had_60 : decode cX12_had 60 = .ok (.aload_n 0, 1) := by decide +kernel
theorem dX12_had_61 : decode cX12_had 61 = .ok (.invokevirtual 377, 3) := by decide +kernel
theorem dX12_had_64 : decode cX12_had 64 = .ok (.aload_n 0, 1) := by decide +kernel
theorem dX12_had_65 : decode cX12_had 65 = .ok (.getfield 39, 3) := by decide +kernel
theorem dX12_had_68 : decode cX12_had 68 = .ok (.bipush 35, 2) := by decide +kernel
theorem dX12_had_70 : decode cX12_had 70 = .ok (.iload_n 1, 1) := by decide +kernel
theorem dX12_had_71 : decode cX12_had 71 = .ok (.iadd, 1) := by decide +kernel
theorem dX12_had_72 : decode cX12_had 72 = .ok (.iaload, 1) := by decide +kernel
theorem dX12_had_73 : decode cX12_had 73 = .ok (.istore 7, 2) := by decide +kernel
theorem dX12_had_75 : decode cX12_had 75 = .ok (.iload 7, 2) := by decide +kernel
theorem dX12_had_77 : decode cX12_had 77 = .ok (.ifCond .lt 55, 3) := by decide +kernel
theorem dX12_had_80 : decode cX12_had 80 = .ok (.aload_n 0, 1) := by decide +kernel
theorem dX12_had_81 : decode cX12_had 81 = .ok (.getfield 39, 3) := by decide +kernel
theorem dX12_had_84 : decode cX12_had 84 = .ok (.bipush 11, 2) := by decide +kernel
theorem dX12_had_86 : decode cX12_had 86 = .ok (.iconst 4, 1) := by decide +kernel
theorem dX12_had_87 : decode cX12_had 87 = .ok (.iload_n 1, 1) := by decide +kernel
theorem dX12_had_88 : decode cX12_had 88 = .ok (.imul, 1) := by decide +kernel
theorem dX12_had_89 : decode cX12_had 89 = .ok (.iadd, 1) := by decide +kernel
theorem dX12_had_90 : decode cX12_had 90 = .ok (.iload 7, 2) := by decide +kernel
theorem dX12_had_92 : decode cX12_had 92 = .ok (.iastore, 1) := by decide +kernel
theorem dX12_had_93 : decode cX12_had 93 = .ok (.aload_n 0, 1) := by decide +kernel
theorem dX12_had_94 : decode cX12_had 94 = .ok (.iload_n 2, 1) := by decide +kernel
theorem dX12_had_95 : decode cX12_had 95 = .ok (.invokevirtual 380, 3) := by decide +kernel
theorem dX12_had_98 : decode cX12_had 98 = .ok (.aload_n 0, 1) := by decide +kernel
theorem dX12_had_99 : decode cX12_had 99 = .ok (.iload_n 1, 1) := by decide +kernel
theorem dX12_had_100 : decode cX12_had 100 = .ok (.invokevirtual 351, 3) := by decide +kernel
theorem dX12_had_103 : decode cX12_had 103 = .ok (.ifCond .ne 19, 3) := by decide +kernel
theorem dX12_had_106 : decode cX12_had 106 = .ok (.aload_n 0, 1) := by decide +kernel
theorem dX12_had_107 : decode cX12_had 107 = .ok (.iload_n 1, 1) := by decide +kernel
theorem dX12_had_108 : decode cX12_had 108 = .ok (.invokevirtual 304, 3) := by decide +kernel
theorem dX12_had_111 : decode cX12_had 111 = .ok (.iload_n 3, 1) := by decide +kernel
theorem dX12_had_112 : decode cX12_had 112 = .ok (.if_icmp .ne 10, 3) := by decide +kernel
theorem dX12_had_115 : decode cX12_had 115 = .ok (.iload 7, 2) := by decide +kernel
theorem dX12_had_117 : decode cX12_had 117 = .ok (.istore 6, 2) := by decide +kernel
theorem dX12_had_119 : decode cX12_had 119 = .ok (.iinc 5 1, 3) := by decide +kernel
theorem dX12_had_122 : decode cX12_had 122 = .ok (.aload_n 0, 1) := by decide +kernel
theorem dX12_had_123 : decode cX12_had 123 = .ok (.invokevirtual 383, 3) := by decide +kernel
theorem dX12_had_126 : decode cX12_had 126 = .ok (.iinc 7 (-1), 3) := by decide +kernel
theorem dX12_had_129 : decode cX12_had 129 = .ok (.goto (-54), 3) := by decide +kernel
theorem dX12_had_132 : decode cX12_had 132 = .ok (.iload 4, 2) := by decide +kernel
theorem dX12_had_134 : decode cX12_had 134 = .ok (.ifCond .ne 8, 3) := by decide +kernel
theorem dX12_had_137 : decode cX12_had 137 = .ok (.iload 5, 2) := by decide +kernel
theorem dX12_had_139 : decode cX12_had 139 = .ok (.goto 5, 3) := by decide +kernel
theorem dX12_had_142 : decode cX12_had 142 = .ok (.iload 6, 2) := by decide +kernel
theorem dX12_had_144 : decode cX12_had 144 = .ok (.ireturn, 1) := by decide +kernel
noncomputable def bs_X12_had : List (Nat × XB) := [
  (0, (sq (xLA 0) (sq (xLI 1) (sq (xCI 11 2 F_X12_isKeep) (tIf1 (fun x => decide (x = 0)) 51 [false, false, false, false, false, false, false, false] 8 [true, true, true, true, true, false, false, false]))))),
  (8, (sq (xLA 0) (sq (xLI 1) (sq (xCI 11 2 F_X12_isBurnt) (tIf1 (fun x => decide (¬ x = 0)) 51 [false, false, false, false, false, false, false, false] 16 [true, true, true, true, true, false, false, false]))))),
  (16, (sq (xLI 2) (sq (xI2L) (sq (xC (.long 1)) (sq (xC (.long 40)) (sq (xCI 99 3 F_X12_in) (tIf1 (fun x => decide (x = 0)) 51 [false, false, false, false, false, false, false, false] 28 [true, true, true, true, true, false, false, false]))))))),
  (28, (sq (xLI 3) (sq (xI2L) (sq (xC (.long 0)) (sq (xC (.long 60)) (sq (xCI 99 3 F_X12_in) (tIf1 (fun x => decide (x = 0)) 51 [false, false, false, false, false, false, false, false] 40 [true, true, true, true, true, false, false, false]))))))),
  (40, (sq (xLI 4) (sq (xI2L) (sq (xC (.long 0)) (sq (xC (.long 1)) (sq (xCI 99 3 F_X12_in) (tIf1 (fun x => decide (¬ x = 0)) 53 [true, true, true, true, true, false, false, false] 51 [false, false, false, false, false, false, false, false]))))))),
  (51, (sq (xC (.int (-1))) tRI)),
  (53, (sq (xC (.int 0)) (sq (xSI 5) (sq (xC (.int (-2))) (sq (xSI 6) (sq (xLA 0) (sq (xCV 11 1 F_X12_keeps) (sq (xLA 0) (sq (xGS 11 50 1 0) (sq (xC (.int 35)) (sq (xLI 1) (sq (xI2 (· + ·)) (sq (xAI 50 98) (sq (xSI 7) (tGo 75 [true, true, true, true, true, true, true, true]))))))))))))))),
  (75, (sq (xLI 7) (tIf1 (fun x => decide (x < 0)) 132 [false, false, false, false, true, true, true, false] 80 [true, true, true, true, true, true, true, true]))),
  (80, (sq (xLA 0) (sq (xGS 11 50 1 0) (sq (xC (.int 11)) (sq (xC (.int 4)) (sq (xLI 1) (sq (xI2 (· * ·)) (sq (xI2 (· + ·)) (sq (xLI 7) (sq (xTI 50 98 (fun x => x)) (sq (xLA 0) (sq (xLI 2) (sq (xCV 11 2 F_X12_passesAll) (sq (xLA 0) (sq (xLI 1) (sq (xCI 11 2 F_X12_isBurnt) (tIf1 (fun x => decide (¬ x = 0)) 122 [true, true, true, true, true, true, true, true] 106 [true, true, true, true, true, true, true, true]))))))))))))))))),
  (106, (sq (xLA 0) (sq (xLI 1) (sq (xCI 11 2 F_X12_fullOf) (sq (xLI 3) (tIf2 (fun x y => decide (¬ x = y)) 122 [true, true, true, true, true, true, true, true] 115 [true, true, true, true, true, true, false, true])))))),
  (115, (sq (xLI 7) (sq (xSI 6) (sq (xInc 5 1) (tGo 122 [true, true, true, true, true, true, true, true]))))),
  (122, (sq (xLA 0) (sq (xCV 11 1 F_X12_laysBack) (sq (xInc 7 (-1)) (tGo 75 [true, true, true, true, true, true, true, true]))))),
  (132, (sq (xLI 4) (tIf1 (fun x => decide (¬ x = 0)) 142 [false, false, false, false, false, false, true, false] 137 [false, false, false, false, false, true, false, false]))),
  (137, (sq (xLI 5) (tGo 144 [false, false, false, false, false, false, false, false]))),
  (142, (sq (xLI 6) (tGo 144 [false, false, false, false, false, false, false, false]))),
  (144, tRI)]
set_option maxRecDepth 100000 in
set_option maxHeartbeats 4000000 in
theorem s_X12_had : ∀ X : XCtx, XE X → X.2.2.1.1 = cX12_had → X.2.2.1.2.1 = 8 → X.2.2.1.2.2.1 = yX12_had.cls → X.2.2.1.2.2.2.1 = (some .int) → X.1.2.2.2.1 = { frames := 6, cells := 0, slots := 0, locals := 145 } → SndBs X bs_X12_had := by
  rintro ⟨⟨p, l, e, R, s⟩, Y, ⟨cc, nL, own, ret, Ts⟩, Z⟩ hE h1 h2 h3 h4 h5
  dsimp only at h1 h2 h3 h4 h5
  subst h1 h2 h3 h4 h5
  exact ⟨(n_sq (n_aload_n hE dX12_had_0) (n_sq (n_iload_n hE dX12_had_1) (n_sq (n_cIv hE m_X12_isKeep vc_X12_298 (show 0 + 1 ≤ 6 ∧ 8 + (2 + 11) + 0 ≤ 145 by decide) dX12_had_2) (n_ifeq hE (by decide) dX12_had_5)))),
    (n_sq (n_aload_n hE dX12_had_8) (n_sq (n_iload_n hE dX12_had_9) (n_sq (n_cIv hE m_X12_isBurnt vc_X12_351 (show 1 + 1 ≤ 6 ∧ 8 + (2 + 11) + 21 ≤ 145 by decide) dX12_had_10) (n_ifne hE (by decide) dX12_had_13)))),
    (n_sq (n_iload_n hE dX12_had_16) (n_sq (n_i2l hE dX12_had_17) (n_sq (n_lconst hE (by decide) dX12_had_18) (n_sq (n_ldc2 hE wt_1493 dX12_had_19) (n_sq (n_cIs hE m_X12_in vc_X12_133 (show 0 + 1 ≤ 6 ∧ 8 + (6 + 11) + 0 ≤ 145 by decide) dX12_had_22) (n_ifeq hE (by decide) dX12_had_25)))))),
    (n_sq (n_iload_n hE dX12_had_28) (n_sq (n_i2l hE dX12_had_29) (n_sq (n_lconst hE (by decide) dX12_had_30) (n_sq (n_ldc2 hE wt_1468 dX12_had_31) (n_sq (n_cIs hE m_X12_in vc_X12_133 (show 0 + 1 ≤ 6 ∧ 8 + (6 + 11) + 0 ≤ 145 by decide) dX12_had_34) (n_ifeq hE (by decide) dX12_had_37)))))),
    (n_sq (n_iload hE dX12_had_40) (n_sq (n_i2l hE dX12_had_42) (n_sq (n_lconst hE (by decide) dX12_had_43) (n_sq (n_lconst hE (by decide) dX12_had_44) (n_sq (n_cIs hE m_X12_in vc_X12_133 (show 0 + 1 ≤ 6 ∧ 8 + (6 + 11) + 0 ≤ 145 by decide) dX12_had_45) (n_ifne hE (by decide) dX12_had_48)))))),
    (n_sq (n_iconst hE (by decide) dX12_had_51) (n_ireturn hE rfl dX12_had_52)),
    (n_sq (n_iconst hE (by decide) dX12_had_53) (n_sq (n_istore hE (show (5 : Nat) < 8 by decide) dX12_had_54) (n_sq (n_bipush hE (by decide) dX12_had_56) (n_sq (n_istore hE (show (6 : Nat) < 8 by decide) dX12_had_58) (n_sq (n_aload_n hE dX12_had_60) (n_sq (n_cVv hE m_X12_keeps vc_X12_377 (show 0 + 1 ≤ 6 ∧ 8 + (2 + 11) + 0 ≤ 145 by decide) dX12_had_61) (n_sq (n_aload_n hE dX12_had_64) (n_sq (n_getS hE xk_11 (k := 20) rfl (by decide) rfl wt_980 dX12_had_65) (n_sq (n_bipush hE (by decide) dX12_had_68) (n_sq (n_iload_n hE dX12_had_70) (n_sq (n_iadd hE dX12_had_71) (n_sq (n_iald hE rfl (by decide) dX12_had_72) (n_sq (n_istore hE (show (7 : Nat) < 8 by decide) dX12_had_73) n_fall))))))))))))),
    (n_sq (n_iload hE dX12_had_75) (n_iflt hE (by decide) dX12_had_77)),
    (n_sq (n_aload_n hE dX12_had_80) (n_sq (n_getS hE xk_11 (k := 20) rfl (by decide) rfl wt_980 dX12_had_81) (n_sq (n_bipush hE (by decide) dX12_had_84) (n_sq (n_iconst hE (by decide) dX12_had_86) (n_sq (n_iload_n hE dX12_had_87) (n_sq (n_imul hE dX12_had_88) (n_sq (n_iadd hE dX12_had_89) (n_sq (n_iload hE dX12_had_90) (n_sq (n_iast hE rfl (by decide) dX12_had_92) (n_sq (n_aload_n hE dX12_had_93) (n_sq (n_iload_n hE dX12_had_94) (n_sq (n_cVv hE m_X12_passesAll vc_X12_380 (show 5 + 1 ≤ 6 ∧ 8 + (3 + 11) + 123 ≤ 145 by decide) dX12_had_95) (n_sq (n_aload_n hE dX12_had_98) (n_sq (n_iload_n hE dX12_had_99) (n_sq (n_cIv hE m_X12_isBurnt vc_X12_351 (show 1 + 1 ≤ 6 ∧ 8 + (2 + 11) + 21 ≤ 145 by decide) dX12_had_100) (n_ifne hE (by decide) dX12_had_103)))))))))))))))),
    (n_sq (n_aload_n hE dX12_had_106) (n_sq (n_iload_n hE dX12_had_107) (n_sq (n_cIv hE m_X12_fullOf vc_X12_304 (show 0 + 1 ≤ 6 ∧ 8 + (2 + 11) + 0 ≤ 145 by decide) dX12_had_108) (n_sq (n_iload_n hE dX12_had_111) (n_ifcne hE (by decide) dX12_had_112))))),
    (n_sq (n_iload hE dX12_had_115) (n_sq (n_istore hE (show (6 : Nat) < 8 by decide) dX12_had_117) (n_sq (n_iinc hE (by decide) (show (5 : Nat) < 8 by decide) dX12_had_119) n_fall))),
    (n_sq (n_aload_n hE dX12_had_122) (n_sq (n_cVv hE m_X12_laysBack vc_X12_383 (show 0 + 1 ≤ 6 ∧ 8 + (2 + 11) + 0 ≤ 145 by decide) dX12_had_123) (n_sq (n_iinc hE (by decide) (show (7 : Nat) < 8 by decide) dX12_had_126) (n_goto hE (by decide) dX12_had_129)))),
    (n_sq (n_iload hE dX12_had_132) (n_ifne hE (by decide) dX12_had_134)),
    (n_sq (n_iload hE dX12_had_137) (n_goto hE (by decide) dX12_had_139)),
    (n_sq (n_iload hE dX12_had_142) n_fall),
    (n_ireturn hE rfl dX12_had_144), trivial⟩
noncomputable def F_X12_had (as : List XV) (w : XW) : Option (Int32 × XW) := (xF 8 bs_X12_had as w).bind pI
theorem m_X12_had : XM yX12_had cX12_had 8 (some .int) 6 145 (eI F_X12_had) := xm_I (xm_of (by decide) s_X12_had)
noncomputable def q_X12_had_0 (x1 : Int32) (x2 : Int32) (x3 : Int32) (x4 : Int32) (w : XW) : Option XR := ev bs_X12_had 0 ([some (.inr (11, 0)), some (.inl (.int x1)), some (.inl (.int x2)), some (.inl (.int x3)), some (.inl (.int x4)), none, none, none], [], w)
noncomputable def q_X12_had_8 (x1 : Int32) (x2 : Int32) (x3 : Int32) (x4 : Int32) (w : XW) : Option XR := ev bs_X12_had 8 ([some (.inr (11, 0)), some (.inl (.int x1)), some (.inl (.int x2)), some (.inl (.int x3)), some (.inl (.int x4)), none, none, none], [], w)
noncomputable def q_X12_had_16 (x1 : Int32) (x2 : Int32) (x3 : Int32) (x4 : Int32) (w : XW) : Option XR := ev bs_X12_had 16 ([some (.inr (11, 0)), some (.inl (.int x1)), some (.inl (.int x2)), some (.inl (.int x3)), some (.inl (.int x4)), none, none, none], [], w)
noncomputable def q_X12_had_28 (x1 : Int32) (x2 : Int32) (x3 : Int32) (x4 : Int32) (w : XW) : Option XR := ev bs_X12_had 28 ([some (.inr (11, 0)), some (.inl (.int x1)), some (.inl (.int x2)), some (.inl (.int x3)), some (.inl (.int x4)), none, none, none], [], w)
noncomputable def q_X12_had_40 (x1 : Int32) (x2 : Int32) (x3 : Int32) (x4 : Int32) (w : XW) : Option XR := ev bs_X12_had 40 ([some (.inr (11, 0)), some (.inl (.int x1)), some (.inl (.int x2)), some (.inl (.int x3)), some (.inl (.int x4)), none, none, none], [], w)
noncomputable def q_X12_had_51 (w : XW) : Option XR := ev bs_X12_had 51 ([none, none, none, none, none, none, none, none], [], w)
noncomputable def q_X12_had_53 (x1 : Int32) (x2 : Int32) (x3 : Int32) (x4 : Int32) (w : XW) : Option XR := ev bs_X12_had 53 ([some (.inr (11, 0)), some (.inl (.int x1)), some (.inl (.int x2)), some (.inl (.int x3)), some (.inl (.int x4)), none, none, none], [], w)
noncomputable def q_X12_had_75 (x1 : Int32) (x2 : Int32) (x3 : Int32) (x4 : Int32) (x5 : Int32) (x6 : Int32) (x7 : Int32) (w : XW) : Option XR := ev bs_X12_had 75 ([some (.inr (11, 0)), some (.inl (.int x1)), some (.inl (.int x2)), some (.inl (.int x3)), some (.inl (.int x4)), some (.inl (.int x5)), some (.inl (.int x6)), some (.inl (.int x7))], [], w)
noncomputable def q_X12_had_80 (x1 : Int32) (x2 : Int32) (x3 : Int32) (x4 : Int32) (x5 : Int32) (x6 : Int32) (x7 : Int32) (w : XW) : Option XR := ev bs_X12_had 80 ([some (.inr (11, 0)), some (.inl (.int x1)), some (.inl (.int x2)), some (.inl (.int x3)), some (.inl (.int x4)), some (.inl (.int x5)), some (.inl (.int x6)), some (.inl (.int x7))], [], w)
noncomputable def q_X12_had_106 (x1 : Int32) (x2 : Int32) (x3 : Int32) (x4 : Int32) (x5 : Int32) (x6 : Int32) (x7 : Int32) (w : XW) : Option XR := ev bs_X12_had 106 ([some (.inr (11, 0)), some (.inl (.int x1)), some (.inl (.int x2)), some (.inl (.int x3)), some (.inl (.int x4)), some (.inl (.int x5)), some (.inl (.int x6)), some (.inl (.int x7))], [], w)
noncomputable def q_X12_had_115 (x1 : Int32) (x2 : Int32) (x3 : Int32) (x4 : Int32) (x5 : Int32) (x7 : Int32) (w : XW) : Option XR := ev bs_X12_had 115 ([some (.inr (11, 0)), some (.inl (.int x1)), some (.inl (.int x2)), some (.inl (.int x3)), some (.inl (.int x4)), some (.inl (.int x5)), none, some (.inl (.int x7))], [], w)
noncomputable def q_X12_had_122 (x1 : Int32) (x2 : Int32) (x3 : Int32) (x4 : Int32) (x5 : Int32) (x6 : Int32) (x7 : Int32) (w : XW) : Option XR := ev bs_X12_had 122 ([some (.inr (11, 0)), some (.inl (.int x1)), some (.inl (.int x2)), some (.inl (.int x3)), some (.inl (.int x4)), some (.inl (.int x5)), some (.inl (.int x6)), some (.inl (.int x7))], [], w)
noncomputable def q_X12_had_132 (x4 : Int32) (x5 : Int32) (x6 : Int32) (w : XW) : Option XR := ev bs_X12_had 132 ([none, none, none, none, some (.inl (.int x4)), some (.inl (.int x5)), some (.inl (.int x6)), none], [], w)
noncomputable def q_X12_had_137 (x5 : Int32) (w : XW) : Option XR := ev bs_X12_had 137 ([none, none, none, none, none, some (.inl (.int x5)), none, none], [], w)
noncomputable def q_X12_had_142 (x6 : Int32) (w : XW) : Option XR := ev bs_X12_had 142 ([none, none, none, none, none, none, some (.inl (.int x6)), none], [], w)
noncomputable def q_X12_had_144 (s0 : Int32) (w : XW) : Option XR := ev bs_X12_had 144 ([none, none, none, none, none, none, none, none], [.inl (.int s0)], w)
theorem e_X12_had_0 (x1 : Int32) (x2 : Int32) (x3 : Int32) (x4 : Int32) (w : XW) : q_X12_had_0 x1 x2 x3 x4 w = ((F_X12_isKeep [.inr (11, 0), .inl (.int x1)] w).bind fun r0 => (bif decide (r0.1 = 0) then (q_X12_had_51 r0.2) else (q_X12_had_8 x1 x2 x3 x4 r0.2))) := (ev_eq _ _ _).trans rfl
theorem e_X12_had_8 (x1 : Int32) (x2 : Int32) (x3 : Int32) (x4 : Int32) (w : XW) : q_X12_had_8 x1 x2 x3 x4 w = ((F_X12_isBurnt [.inr (11, 0), .inl (.int x1)] w).bind fun r0 => (bif decide (¬ r0.1 = 0) then (q_X12_had_51 r0.2) else (q_X12_had_16 x1 x2 x3 x4 r0.2))) := (ev_eq _ _ _).trans rfl
theorem e_X12_had_16 (x1 : Int32) (x2 : Int32) (x3 : Int32) (x4 : Int32) (w : XW) : q_X12_had_16 x1 x2 x3 x4 w = ((F_X12_in [.inl (.long (x2 : Int32).toInt64), .inl (.long 1), .inl (.long 40)] w).bind fun r0 => (bif decide (r0.1 = 0) then (q_X12_had_51 r0.2) else (q_X12_had_28 x1 x2 x3 x4 r0.2))) := (ev_eq _ _ _).trans rfl
theorem e_X12_had_28 (x1 : Int32) (x2 : Int32) (x3 : Int32) (x4 : Int32) (w : XW) : q_X12_had_28 x1 x2 x3 x4 w = ((F_X12_in [.inl (.long (x3 : Int32).toInt64), .inl (.long 0), .inl (.long 60)] w).bind fun r0 => (bif decide (r0.1 = 0) then (q_X12_had_51 r0.2) else (q_X12_had_40 x1 x2 x3 x4 r0.2))) := (ev_eq _ _ _).trans rfl
theorem e_X12_had_40 (x1 : Int32) (x2 : Int32) (x3 : Int32) (x4 : Int32) (w : XW) : q_X12_had_40 x1 x2 x3 x4 w = ((F_X12_in [.inl (.long (x4 : Int32).toInt64), .inl (.long 0), .inl (.long 1)] w).bind fun r0 => (bif decide (¬ r0.1 = 0) then (q_X12_had_53 x1 x2 x3 x4 r0.2) else (q_X12_had_51 r0.2))) := (ev_eq _ _ _).trans rfl
theorem e_X12_had_51 (w : XW) : q_X12_had_51 w = (some (some (.inl (.int (-1))), w)) := (ev_eq _ _ _).trans rfl
theorem e_X12_had_53 (x1 : Int32) (x2 : Int32) (x3 : Int32) (x4 : Int32) (w : XW) : q_X12_had_53 x1 x2 x3 x4 w = ((F_X12_keeps [.inr (11, 0)] w).bind fun r0 => (if (35 + x1) < 0 ∨ 98 ≤ (35 + x1).toNatClampNeg then none else (q_X12_had_75 x1 x2 x3 x4 0 (-2) (gI r0 50 0 (35 + x1).toNatClampNeg) r0))) := (ev_eq _ _ _).trans rfl
theorem e_X12_had_75 (x1 : Int32) (x2 : Int32) (x3 : Int32) (x4 : Int32) (x5 : Int32) (x6 : Int32) (x7 : Int32) (w : XW) : q_X12_had_75 x1 x2 x3 x4 x5 x6 x7 w = (bif decide (x7 < 0) then (q_X12_had_132 x4 x5 x6 w) else (q_X12_had_80 x1 x2 x3 x4 x5 x6 x7 w)) := (ev_eq _ _ _).trans rfl
theorem e_X12_had_80 (x1 : Int32) (x2 : Int32) (x3 : Int32) (x4 : Int32) (x5 : Int32) (x6 : Int32) (x7 : Int32) (w : XW) : q_X12_had_80 x1 x2 x3 x4 x5 x6 x7 w = (if (11 + (4 * x1)) < 0 ∨ 98 ≤ (11 + (4 * x1)).toNatClampNeg then none else ((F_X12_passesAll [.inr (11, 0), .inl (.int x2)] (sI w 50 0 ((11 + (4 * x1)).toNatClampNeg) x7)).bind fun r0 => ((F_X12_isBurnt [.inr (11, 0), .inl (.int x1)] r0).bind fun r1 => (bif decide (¬ r1.1 = 0) then (q_X12_had_122 x1 x2 x3 x4 x5 x6 x7 r1.2) else (q_X12_had_106 x1 x2 x3 x4 x5 x6 x7 r1.2))))) := (ev_eq _ _ _).trans rfl
theorem e_X12_had_106 (x1 : Int32) (x2 : Int32) (x3 : Int32) (x4 : Int32) (x5 : Int32) (x6 : Int32) (x7 : Int32) (w : XW) : q_X12_had_106 x1 x2 x3 x4 x5 x6 x7 w = ((F_X12_fullOf [.inr (11, 0), .inl (.int x1)] w).bind fun r0 => (bif decide (¬ r0.1 = x3) then (q_X12_had_122 x1 x2 x3 x4 x5 x6 x7 r0.2) else (q_X12_had_115 x1 x2 x3 x4 x5 x7 r0.2))) := (ev_eq _ _ _).trans rfl
theorem e_X12_had_115 (x1 : Int32) (x2 : Int32) (x3 : Int32) (x4 : Int32) (x5 : Int32) (x7 : Int32) (w : XW) : q_X12_had_115 x1 x2 x3 x4 x5 x7 w = (q_X12_had_122 x1 x2 x3 x4 (x5 + 1) x7 x7 w) := (ev_eq _ _ _).trans rfl
theorem e_X12_had_122 (x1 : Int32) (x2 : Int32) (x3 : Int32) (x4 : Int32) (x5 : Int32) (x6 : Int32) (x7 : Int32) (w : XW) : q_X12_had_122 x1 x2 x3 x4 x5 x6 x7 w = ((F_X12_laysBack [.inr (11, 0)] w).bind fun r0 => (q_X12_had_75 x1 x2 x3 x4 x5 x6 (x7 + (-1)) r0)) := (ev_eq _ _ _).trans rfl
theorem e_X12_had_132 (x4 : Int32) (x5 : Int32) (x6 : Int32) (w : XW) : q_X12_had_132 x4 x5 x6 w = (bif decide (¬ x4 = 0) then (q_X12_had_142 x6 w) else (q_X12_had_137 x5 w)) := (ev_eq _ _ _).trans rfl
theorem e_X12_had_137 (x5 : Int32) (w : XW) : q_X12_had_137 x5 w = (q_X12_had_144 x5 w) := (ev_eq _ _ _).trans rfl
theorem e_X12_had_142 (x6 : Int32) (w : XW) : q_X12_had_142 x6 w = (q_X12_had_144 x6 w) := (ev_eq _ _ _).trans rfl
theorem e_X12_had_144 (s0 : Int32) (w : XW) : q_X12_had_144 s0 w = (some (some (.inl (.int s0)), w)) := (ev_eq _ _ _).trans rfl
theorem f_X12_had (x1 : Int32) (x2 : Int32) (x3 : Int32) (x4 : Int32) (w : XW) : F_X12_had [.inr (11, 0), .inl (.int x1), .inl (.int x2), .inl (.int x3), .inl (.int x4)] w = (q_X12_had_0 x1 x2 x3 x4 w).bind pI := rfl

-- WinterKeepModel.isRest(II)Z
theorem dX12_isRest_0 : decode cX12_isRest 0 = .ok (.iconst 0, 1) := by decide +kernel
theorem dX12_isRest_1 : decode cX12_isRest 1 = .ok (.istore_n 3, 1) := by decide +kernel
theorem dX12_isRest_2 : decode cX12_isRest 2 = .ok (.iload_n 3, 1) := by decide +kernel
theorem dX12_isRest_3 : decode cX12_isRest 3 = .ok (.iconst 4, 1) := by decide +kernel
theorem dX12_isRest_4 : decode cX12_isRest 4 = .ok (.if_icmp .ge 69, 3) := by decide +kernel
theorem dX12_isRest_7 : decode cX12_isRest 7 = .ok (.aload_n 0, 1) := by decide +kernel
theorem dX12_isRest_8 : decode cX12_isRest 8 = .ok (.getfield 67, 3) := by decide +kernel
theorem dX12_isRest_11 : decode cX12_isRest 11 = .ok (.iconst 2, 1) := by decide +kernel
theorem dX12_isRest_12 : decode cX12_isRest 12 = .ok (.iconst 4, 1) := by decide +kernel
theorem dX12_isRest_13 : decode cX12_isRest 13 = .ok (.iload_n 3, 1) := by decide +kernel
theorem dX12_isRest_14 : decode cX12_isRest 14 = .ok (.imul, 1) := by decide +kernel
theorem dX12_isRest_15 : decode cX12_isRest 15 = .ok (.iload_n 2, 1) := by decide +kernel
theorem dX12_isRest_16 : decode cX12_isRest 16 = .ok (.iadd, 1) := by decide +kernel
theorem dX12_isRest_17 : decode cX12_isRest 17 = .ok (.imul, 1) := by decide +kernel
theorem dX12_isRest_18 : decode cX12_isRest 18 = .ok (.iaload, 1) := by decide +kernel
theorem dX12_isRest_19 : decode cX12_isRest 19 = .ok (.aload_n 0, 1) := by decide +kernel
theorem dX12_isRest_20 : decode cX12_isRest 20 = .ok (.getfield 67, 3) := by decide +kernel
theorem dX12_isRest_23 : decode cX12_isRest 23 = .ok (.iconst 2, 1) := by decide +kernel
theorem dX12_isRest_24 : decode cX12_isRest 24 = .ok (.iconst 4, 1) := by decide +kernel
theorem dX12_isRest_25 : decode cX12_isRest 25 = .ok (.iload_n 1, 1) := by decide +kernel
theorem dX12_isRest_26 : decode cX12_isRest 26 = .ok (.imul, 1) := by decide +kernel
theorem dX12_isRest_27 : decode cX12_isRest 27 = .ok (.iload_n 2, 1) := by decide +kernel
theorem dX12_isRest_28 : decode cX12_isRest 28 = .ok (.iadd, 1) := by decide +kernel
theorem dX12_isRest_29 : decode cX12_isRest 29 = .ok (.imul, 1) := by decide +kernel
theorem dX12_isRest_30 : decode cX12_isRest 30 = .ok (.iaload, 1) := by decide +kernel
theorem dX12_isRest_31 : decode cX12_isRest 31 = .ok (.if_icmp .gt 34, 3) := by decide +kernel
theorem dX12_isRest_34 : decode cX12_isRest 34 = .ok (.aload_n 0, 1) := by decide +kernel
theorem dX12_isRest_35 : decode cX12_isRest 35 = .ok (.getfield 67, 3) := by decide +kernel
theorem dX12_isRest_38 : decode cX12_isRest 38 = .ok (.iconst 2, 1) := by decide +kernel
theorem dX12_isRest_39 : decode cX12_isRest 39 = .ok (.iconst 4, 1) := by decide +kernel
theorem dX12_isRest_40 : decode cX12_isRest 40 = .ok (.iload_n 1, 1) := by decide +kernel
theorem dX12_isRest_41 : decode cX12_isRest 41 = .ok (.imul, 1) := by decide +kernel
theorem dX12_isRest_42 : decode cX12_isRest 42 = .ok (.iload_n 3, 1) := by decide +kernel
theorem dX12_isRest_43 : decode cX12_isRest 43 = .ok (.iadd, 1) := by decide +kernel
theorem dX12_isRest_44 : decode cX12_isRest 44 = .ok (.imul, 1) := by decide +kernel
theorem dX12_isRest_45 : decode cX12_isRest 45 = .ok (.iconst 1, 1) := by decide +kernel
theorem dX12_isRest_46 : decode cX12_isRest 46 = .ok (.iadd, 1) := by decide +kernel
theorem dX12_isRest_47 : decode cX12_isRest 47 = .ok (.iaload, 1) := by decide +kernel
theorem dX12_isRest_48 : decode cX12_isRest 48 = .ok (.aload_n 0, 1) := by decide +kernel
theorem dX12_isRest_49 : decode cX12_isRest 49 = .ok (.getfield 67, 3) := by decide +kernel
theorem dX12_isRest_52 : decode cX12_isRest 52 = .ok (.iconst 2, 1) := by decide +kernel
theorem dX12_isRest_53 : decode cX12_isRest 53 = .ok (.iconst 4, 1) := by decide +kernel
theorem dX12_isRest_54 : decode cX12_isRest 54 = .ok (.iload_n 1, 1) := by decide +kernel
theorem dX12_isRest_55 : decode cX12_isRest 55 = .ok (.imul, 1) := by decide +kernel
theorem dX12_isRest_56 : decode cX12_isRest 56 = .ok (.iload_n 2, 1) := by decide +kernel
theorem dX12_isRest_57 : decode cX12_isRest 57 = .ok (.iadd, 1) := by decide +kernel
theorem dX12_isRest_58 : decode cX12_isRest 58 = .ok (.imul, 1) := by decide +kernel
theorem dX12_isRest_59 : decode cX12_isRest 59 = .ok (.iconst 1, 1) := by decide +kernel
theorem dX12_isRest_60 : decode cX12_isRest 60 = .ok (.iadd, 1) := by decide +kernel
theorem dX12_isRest_61 : decode cX12_isRest 61 = .ok (.iaload, 1) := by decide +kernel
theorem dX12_isRest_62 : decode cX12_isRest 62 = .ok (.if_icmp .le 5, 3) := by decide +kernel
theorem dX12_isRest_65 : decode cX12_isRest 65 = .ok (.iconst 0, 1) := by decide +kernel
theorem dX12_isRest_66 : decode cX12_isRest 66 = .ok (.ireturn, 1) := by decide +kernel
theorem dX12_isRest_67 : decode cX12_isRest 67 = .ok (.iinc 3 1, 3) := by decide +kernel
theorem dX12_isRest_70 : decode cX12_isRest 70 = .ok (.goto (-68), 3) := by decide +kernel
theorem dX12_isRest_73 : decode cX12_isRest 73 = .ok (.iconst 1, 1) := by decide +kernel
theorem dX12_isRest_74 : decode cX12_isRest 74 = .ok (.ireturn, 1) := by decide +kernel
noncomputable def bs_X12_isRest : List (Nat × XB) := [
  (0, (sq (xC (.int 0)) (sq (xSI 3) (tGo 2 [true, true, true, true])))),
  (2, (sq (xLI 3) (sq (xC (.int 4)) (tIf2 (fun x y => decide (y ≤ x)) 73 [false, false, false, false] 7 [true, true, true, true])))),
  (7, (sq (xLA 0) (sq (xGS 11 57 1 0) (sq (xC (.int 2)) (sq (xC (.int 4)) (sq (xLI 3) (sq (xI2 (· * ·)) (sq (xLI 2) (sq (xI2 (· + ·)) (sq (xI2 (· * ·)) (sq (xAI 57 32) (sq (xLA 0) (sq (xGS 11 57 1 0) (sq (xC (.int 2)) (sq (xC (.int 4)) (sq (xLI 1) (sq (xI2 (· * ·)) (sq (xLI 2) (sq (xI2 (· + ·)) (sq (xI2 (· * ·)) (sq (xAI 57 32) (tIf2 (fun x y => decide (y < x)) 65 [false, false, false, false] 34 [true, true, true, true])))))))))))))))))))))),
  (34, (sq (xLA 0) (sq (xGS 11 57 1 0) (sq (xC (.int 2)) (sq (xC (.int 4)) (sq (xLI 1) (sq (xI2 (· * ·)) (sq (xLI 3) (sq (xI2 (· + ·)) (sq (xI2 (· * ·)) (sq (xC (.int 1)) (sq (xI2 (· + ·)) (sq (xAI 57 32) (sq (xLA 0) (sq (xGS 11 57 1 0) (sq (xC (.int 2)) (sq (xC (.int 4)) (sq (xLI 1) (sq (xI2 (· * ·)) (sq (xLI 2) (sq (xI2 (· + ·)) (sq (xI2 (· * ·)) (sq (xC (.int 1)) (sq (xI2 (· + ·)) (sq (xAI 57 32) (tIf2 (fun x y => decide (x ≤ y)) 67 [true, true, true, true] 65 [false, false, false, false])))))))))))))))))))))))))),
  (65, (sq (xC (.int 0)) tRZ)),
  (67, (sq (xInc 3 1) (tGo 2 [true, true, true, true]))),
  (73, (sq (xC (.int 1)) tRZ))]
set_option maxRecDepth 100000 in
set_option maxHeartbeats 4000000 in
theorem s_X12_isRest : ∀ X : XCtx, XE X → X.2.2.1.1 = cX12_isRest → X.2.2.1.2.1 = 4 → X.2.2.1.2.2.1 = yX12_isRest.cls → X.2.2.1.2.2.2.1 = (some .boolean) → X.1.2.2.2.1 = { frames := 0, cells := 0, slots := 0, locals := 0 } → SndBs X bs_X12_isRest := by
  rintro ⟨⟨p, l, e, R, s⟩, Y, ⟨cc, nL, own, ret, Ts⟩, Z⟩ hE h1 h2 h3 h4 h5
  dsimp only at h1 h2 h3 h4 h5
  subst h1 h2 h3 h4 h5
  exact ⟨(n_sq (n_iconst hE (by decide) dX12_isRest_0) (n_sq (n_istore_n hE (show (3 : Nat) < 4 by decide) dX12_isRest_1) n_fall)),
    (n_sq (n_iload_n hE dX12_isRest_2) (n_sq (n_iconst hE (by decide) dX12_isRest_3) (n_ifcge hE (by decide) dX12_isRest_4))),
    (n_sq (n_aload_n hE dX12_isRest_7) (n_sq (n_getS hE xk_11 (k := 34) rfl (by decide) rfl wt_994 dX12_isRest_8) (n_sq (n_iconst hE (by decide) dX12_isRest_11) (n_sq (n_iconst hE (by decide) dX12_isRest_12) (n_sq (n_iload_n hE dX12_isRest_13) (n_sq (n_imul hE dX12_isRest_14) (n_sq (n_iload_n hE dX12_isRest_15) (n_sq (n_iadd hE dX12_isRest_16) (n_sq (n_imul hE dX12_isRest_17) (n_sq (n_iald hE rfl (by decide) dX12_isRest_18) (n_sq (n_aload_n hE dX12_isRest_19) (n_sq (n_getS hE xk_11 (k := 34) rfl (by decide) rfl wt_994 dX12_isRest_20) (n_sq (n_iconst hE (by decide) dX12_isRest_23) (n_sq (n_iconst hE (by decide) dX12_isRest_24) (n_sq (n_iload_n hE dX12_isRest_25) (n_sq (n_imul hE dX12_isRest_26) (n_sq (n_iload_n hE dX12_isRest_27) (n_sq (n_iadd hE dX12_isRest_28) (n_sq (n_imul hE dX12_isRest_29) (n_sq (n_iald hE rfl (by decide) dX12_isRest_30) (n_ifcgt hE (by decide) dX12_isRest_31))))))))))))))))))))),
    (n_sq (n_aload_n hE dX12_isRest_34) (n_sq (n_getS hE xk_11 (k := 34) rfl (by decide) rfl wt_994 dX12_isRest_35) (n_sq (n_iconst hE (by decide) dX12_isRest_38) (n_sq (n_iconst hE (by decide) dX12_isRest_39) (n_sq (n_iload_n hE dX12_isRest_40) (n_sq (n_imul hE dX12_isRest_41) (n_sq (n_iload_n hE dX12_isRest_42) (n_sq (n_iadd hE dX12_isRest_43) (n_sq (n_imul hE dX12_isRest_44) (n_sq (n_iconst hE (by decide) dX12_isRest_45) (n_sq (n_iadd hE dX12_isRest_46) (n_sq (n_iald hE rfl (by decide) dX12_isRest_47) (n_sq (n_aload_n hE dX12_isRest_48) (n_sq (n_getS hE xk_11 (k := 34) rfl (by decide) rfl wt_994 dX12_isRest_49) (n_sq (n_iconst hE (by decide) dX12_isRest_52) (n_sq (n_iconst hE (by decide) dX12_isRest_53) (n_sq (n_iload_n hE dX12_isRest_54) (n_sq (n_imul hE dX12_isRest_55) (n_sq (n_iload_n hE dX12_isRest_56) (n_sq (n_iadd hE dX12_isRest_57) (n_sq (n_imul hE dX12_isRest_58) (n_sq (n_iconst hE (by decide) dX12_isRest_59) (n_sq (n_iadd hE dX12_isRest_60) (n_sq (n_iald hE rfl (by decide) dX12_isRest_61) (n_ifcle hE (by decide) dX12_isRest_62))))))))))))))))))))))))),
    (n_sq (n_iconst hE (by decide) dX12_isRest_65) (n_zreturn hE rfl dX12_isRest_66)),
    (n_sq (n_iinc hE (by decide) (show (3 : Nat) < 4 by decide) dX12_isRest_67) (n_goto hE (by decide) dX12_isRest_70)),
    (n_sq (n_iconst hE (by decide) dX12_isRest_73) (n_zreturn hE rfl dX12_isRest_74)), trivial⟩
noncomputable def F_X12_isRest (as : List XV) (w : XW) : Option (Int32 × XW) := (xF 4 bs_X12_isRest as w).bind pI
theorem m_X12_isRest : XM yX12_isRest cX12_isRest 4 (some .boolean) 0 0 (eI F_X12_isRest) := xm_I (xm_of (by decide) s_X12_isRest)
noncomputable def q_X12_isRest_0 (x1 : Int32) (x2 : Int32) (w : XW) : Option XR := ev bs_X12_isRest 0 ([some (.inr (11, 0)), some (.inl (.int x1)), some (.inl (.int x2)), none], [], w)
noncomputable def q_X12_isRest_2 (x1 : Int32) (x2 : Int32) (x3 : Int32) (w : XW) : Option XR := ev bs_X12_isRest 2 ([some (.inr (11, 0)), some (.inl (.int x1)), some (.inl (.int x2)), some (.inl (.int x3))], [], w)
noncomputable def q_X12_isRest_7 (x1 : Int32) (x2 : Int32) (x3 : Int32) (w : XW) : Option XR := ev bs_X12_isRest 7 ([some (.inr (11, 0)), some (.inl (.int x1)), some (.inl (.int x2)), some (.inl (.int x3))], [], w)
noncomputable def q_X12_isRest_34 (x1 : Int32) (x2 : Int32) (x3 : Int32) (w : XW) : Option XR := ev bs_X12_isRest 34 ([some (.inr (11, 0)), some (.inl (.int x1)), some (.inl (.int x2)), some (.inl (.int x3))], [], w)
noncomputable def q_X12_isRest_65 (w : XW) : Option XR := ev bs_X12_isRest 65 ([none, none, none, none], [], w)
noncomputable def q_X12_isRest_67 (x1 : Int32) (x2 : Int32) (x3 : Int32) (w : XW) : Option XR := ev bs_X12_isRest 67 ([some (.inr (11, 0)), some (.inl (.int x1)), some (.inl (.int x2)), some (.inl (.int x3))], [], w)
noncomputable def q_X12_isRest_73 (w : XW) : Option XR := ev bs_X12_isRest 73 ([none, none, none, none], [], w)
set_option maxRecDepth 100000 in
theorem e_X12_isRest_0 (x1 : Int32) (x2 : Int32) (w : XW) : q_X12_isRest_0 x1 x2 w = (q_X12_isRest_2 x1 x2 0 w) := (ev_eq _ _ _).trans rfl
set_option maxRecDepth 100000 in
theorem e_X12_isRest_2 (x1 : Int32) (x2 : Int32) (x3 : Int32) (w : XW) : q_X12_isRest_2 x1 x2 x3 w = (bif decide (4 ≤ x3) then (q_X12_isRest_73 w) else (q_X12_isRest_7 x1 x2 x3 w)) := (ev_eq _ _ _).trans rfl
set_option maxRecDepth 100000 in
theorem e_X12_isRest_7 (x1 : Int32) (x2 : Int32) (x3 : Int32) (w : XW) : q_X12_isRest_7 x1 x2 x3 w = (if (2 * ((4 * x3) + x2)) < 0 ∨ 32 ≤ (2 * ((4 * x3) + x2)).toNatClampNeg then none else (if (2 * ((4 * x1) + x2)) < 0 ∨ 32 ≤ (2 * ((4 * x1) + x2)).toNatClampNeg then none else (bif decide ((gI w 57 0 (2 * ((4 * x1) + x2)).toNatClampNeg) < (gI w 57 0 (2 * ((4 * x3) + x2)).toNatClampNeg)) then (q_X12_isRest_65 w) else (q_X12_isRest_34 x1 x2 x3 w)))) := (ev_eq _ _ _).trans rfl
set_option maxRecDepth 100000 in
theorem e_X12_isRest_34 (x1 : Int32) (x2 : Int32) (x3 : Int32) (w : XW) : q_X12_isRest_34 x1 x2 x3 w = (if ((2 * ((4 * x1) + x3)) + 1) < 0 ∨ 32 ≤ ((2 * ((4 * x1) + x3)) + 1).toNatClampNeg then none else (if ((2 * ((4 * x1) + x2)) + 1) < 0 ∨ 32 ≤ ((2 * ((4 * x1) + x2)) + 1).toNatClampNeg then none else (bif decide ((gI w 57 0 ((2 * ((4 * x1) + x3)) + 1).toNatClampNeg) ≤ (gI w 57 0 ((2 * ((4 * x1) + x2)) + 1).toNatClampNeg)) then (q_X12_isRest_67 x1 x2 x3 w) else (q_X12_isRest_65 w)))) := (ev_eq _ _ _).trans rfl
set_option maxRecDepth 100000 in
theorem e_X12_isRest_65 (w : XW) : q_X12_isRest_65 w = (some (some (.inl (.int 0)), w)) := (ev_eq _ _ _).trans rfl
set_option maxRecDepth 100000 in
theorem e_X12_isRest_67 (x1 : Int32) (x2 : Int32) (x3 : Int32) (w : XW) : q_X12_isRest_67 x1 x2 x3 w = (q_X12_isRest_2 x1 x2 (x3 + 1) w) := (ev_eq _ _ _).trans rfl
set_option maxRecDepth 100000 in
theorem e_X12_isRest_73 (w : XW) : q_X12_isRest_73 w = (some (some (.inl (.int 1)), w)) := (ev_eq _ _ _).trans rfl
theorem f_X12_isRest (x1 : Int32) (x2 : Int32) (w : XW) : F_X12_isRest [.inr (11, 0), .inl (.int x1), .inl (.int x2)] w = (q_X12_isRest_0 x1 x2 w).bind pI := rfl
