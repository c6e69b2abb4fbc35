-- WinterKeep$RuleReader.readClause(LWinterKeep$Tape;)Z
theorem dX8_readClause_0 : decode cX8_readClause 0 = .ok (.aload_n 1, 1) := by decide +kernel
theorem dX8_readClause_1 : decode cX8_readClause 1 = .ok (.ldc 56, 2) := by decide +kernel
theorem dX8_readClause_3 : decode cX8_readClause 3 = .ok (.invokevirtual 58, 3) := by decide +kernel
theorem dX8_readClause_6 : decode cX8_readClause 6 = .ok (.iconst (-1), 1) := by decide +kernel
theorem dX8_readClause_7 : decode cX8_readClause 7 = .ok (.if_icmp .ne 13, 3) := by decide +kernel
theorem dX8_readClause_10 : decode cX8_readClause 10 = .ok (.aload_n 1, 1) := by decide +kernel
theorem dX8_readClause_11 : decode cX8_readClause 11 = .ok (.aload_n 1, 1) := by decide +kernel
theorem dX8_readClause_12 : decode cX8_readClause 12 = .ok (.getfield 62, 3) := by decide +kernel
theorem dX8_readClause_15 : decode cX8_readClause 15 = .ok (.iconst 0, 1) := by decide +kernel
theorem dX8_readClause_16 : decode cX8_readClause 16 = .ok (.invokevirtual 65, 3) := by decide +kernel
theorem dX8_readClause_19 : decode cX8_readClause 19 = .ok (.ireturn, 1) := by decide +kernel
theorem dX8_readClause_20 : decode cX8_readClause 20 = .ok (.aload_n 0, 1) := by decide +kernel
theorem dX8_readClause_21 : decode cX8_readClause 21 = .ok (.getfield 22, 3) := by decide +kernel
theorem dX8_readClause_24 : decode cX8_readClause 24 = .ok (.bipush 12, 2) := by decide +kernel
theorem dX8_readClause_26 : decode cX8_readClause 26 = .ok (.if_icmp .lt 13, 3) := by decide +kernel
theorem dX8_readClause_29 : decode cX8_readClause 29 = .ok (.aload_n 1, 1) := by decide +kernel
theorem dX8_readClause_30 : decode cX8_readClause 30 = .ok (.aload_n 1, 1) := by decide +kernel
theorem dX8_readClause_31 : decode cX8_readClause 31 = .ok (.getfield 69, 3) := by decide +kernel
theorem dX8_readClause_34 : decode cX8_readClause 34 = .ok (.iconst 4, 1) := by decide +kernel
theorem dX8_readClause_35 : decode cX8_readClause 35 = .ok (.invokevirtual 65, 3) := by decide +kernel
theorem dX8_readClause_38 : decode cX8_readClause 38 = .ok (.ireturn, 1) := by decide +kernel
theorem dX8_readClause_39 : decode cX8_readClause 39 = .ok (.aload_n 0, 1) := by decide +kernel
theorem dX8_readClause_40 : decode cX8_readClause 40 = .ok (.getfield 15, 3) := by decide +kernel
theorem dX8_readClause_43 : decode cX8_readClause 43 = .ok (.iconst 3, 1) := by decide +kernel
theorem dX8_readClause_44 : decode cX8_readClause 44 = .ok (.aload_n 0, 1) := by decide +kernel
theorem dX8_readClause_45 : decode cX8_readClause 45 = .ok (.getfield 22, 3) := by decide +kernel
theorem dX8_readClause_48 : decode cX8_readClause 48 = .ok (.imul, 1) := by decide +kernel
theorem dX8_readClause_49 : decode cX8_readClause 49 = .ok (.aload_n 0, 1) := by decide +kernel
theorem dX8_readClause_50 : decode cX8_readClause 50 = .ok (.getfield 18, 3) := by decide +kernel
theorem dX8_readClause_53 : decode cX8_readClause 53 = .ok (.iastore, 1) := by decide +kernel
theorem dX8_readClause_54 : decode cX8_readClause 54 = .ok (.aload_n 0, 1) := by decide +kernel
theorem dX8_readClause_55 : decode cX8_readClause 55 = .ok (.aload_n 1, 1) := by decide +kernel
theorem dX8_readClause_56 : decode cX8_readClause 56 = .ok (.invokevirtual 72, 3) := by decide +kernel
theorem dX8_readClause_59 : decode cX8_readClause 59 = .ok (.ifCond .ne 5, 3) := by decide +kernel
theorem dX8_readClause_62 : decode cX8_readClause 62 = .ok (.iconst 0, 1) := by decide +kernel
theorem dX8_readClause_63 : decode cX8_readClause 63 = .ok (.ireturn, 1) := by decide +kernel
theorem dX8_readClause_64 : decode cX8_readClause 64 = .ok (.aload_n 0, 1) := by decide +kernel
theorem dX8_readClause_65 : decode cX8_readClause 65 = .ok (.getfield 15, 3) := by decide +kernel
theorem dX8_readClause_68 : decode cX8_readClause 68 = .ok (.iconst 3, 1) := by decide +kernel
theorem dX8_readClause_69 : decode cX8_readClause 69 = .ok (.aload_n 0, 1) := by decide +kernel
theorem dX8_readClause_70 : decode cX8_readClause 70 = .ok (.getfield 22, 3) := by decide +kernel
theorem dX8_readClause_73 : decode cX8_readClause 73 = .ok (.imul, 1) := by decide +kernel
theorem dX8_readClause_74 : decode cX8_readClause 74 = .ok (.iconst 1, 1) := by decide +kernel
theorem dX8_readClause_75 : decode cX8_readClause 75 = .ok (.iadd, 1) := by decide +kernel
theorem dX8_readClause_76 : decode cX8_readClause 76 = .ok (.aload_n 0, 1) := by decide +kernel
theorem dX8_readClause_77 : decode cX8_readClause 77 = .ok (.getfield 18, 3) := by decide +kernel
theorem dX8_readClause_80 : decode cX8_readClause 80 = .ok (.iastore, 1) := by decide +kernel
theorem dX8_readClause_81 : decode cX8_readClause 81 = .ok (.aload_n 1, 1) := by decide +kernel
theorem dX8_readClause_82 : decode cX8_readClause 82 = .ok (.ldc 75, 2) := by decide +kernel
theorem dX8_readClause_84 : decode cX8_readClause 84 = .ok (.invokevirtual 58, 3) := by decide +kernel
theorem dX8_readClause_87 : decode cX8_readClause 87 = .ok (.ifCond .ne 14, 3) := by decide +kernel
theorem dX8_readClause_90 : decode cX8_readClause 90 = .ok (.aload_n 0, 1) := by decide +kernel
theorem dX8_readClause_91 : decode cX8_readClause 91 = .ok (.aload_n 1, 1) := by decide +kernel
theorem dX8_readClause_92 : decode cX8_readClause 92 = .ok (.iconst 0, 1) := by decide +kernel
theorem dX8_readClause_93 : decode cX8_readClause 93 = .ok (.invokevirtual 77, 3) := by decide +kernel
theorem dX8_readClause_96 : decode cX8_readClause 96 = .ok (.ifCond .ne 5, 3) := by decide +kernel
theorem dX8_readClause_99 : decode cX8_readClause 99 = .ok (.iconst 0, 1) := by decide +kernel
theorem dX8_readClause_100 : decode cX8_readClause 100 = .ok (.ireturn, 1) := by decide +kernel
theorem dX8_readClause_101 : decode cX8_readClause 101 = .ok (.aload_n 0, 1) := by decide +kernel
theorem dX8_readClause_102 : decode cX8_readClause 102 = .ok (.getfield 15, 3) := by decide +kernel
theorem dX8_readClause_105 : decode cX8_readClause 105 = .ok (.iconst 3, 1) := by decide +kernel
theorem dX8_readClause_106 : decode cX8_readClause 106 = .ok (.aload_n 0, 1) := by decide +kernel
theorem dX8_readClause_107 : decode cX8_readClause 107 = .ok (.getfield 22, 3) := by decide +kernel
theorem dX8_readClause_110 : decode cX8_readClause 110 = .ok (.imul, 1) := by decide +kernel
theorem dX8_readClause_111 : decode cX8_readClause 111 = .ok (.iconst 2, 1) := by decide +kernel
theorem dX8_readClause_112 : decode cX8_readClause 112 = .ok (.iadd, 1) := by decide +kernel
theorem dX8_readClause_113 : decode cX8_readClause 113 = .ok (.aload_n 0, 1) := by decide +kernel
theorem dX8_readClause_114 : decode cX8_readClause 114 = .ok (.getfield 18, 3) := by decide +kernel
theorem dX8_readClause_117 : decode cX8_readClause 117 = .ok (.iastore, 1) := by decide +kernel
theorem dX8_readClause_118 : decode cX8_readClause 118 = .ok (.aload_n 0, 1) := by decide +kernel
theorem dX8_readClause_119 : decode cX8_readClause 119 = .ok (.dup, 1) := by decide +kernel
theorem dX8_readClause_120 : decode cX8_readClause 120 = .ok (.getfield 22, 3) := by decide +kernel
theorem dX8_readClause_123 : decode cX8_readClause 123 = .ok (.iconst 1, 1) := by decide +kernel
theorem dX8_readClause_124 : decode cX8_readClause 124 = .ok (.iadd, 1) := by decide +kernel
theorem dX8_readClause_125 : decode cX8_readClause 125 = .ok (.putfield 22, 3) := by decide +kernel
theorem dX8_readClause_128 : decode cX8_readClause 128 = .ok (.iconst 1, 1) := by decide +kernel
theorem dX8_readClause_129 : decode cX8_readClause 129 = .ok (.ireturn, 1) := by decide +kernel
noncomputable def bs_X8_readClause : List (Nat × XB) := [
  (0, (sq (xLA 1) (sq (xStr 2) (sq (xCI 9 2 F_X10_passWord) (sq (xC (.int (-1))) (tIf2 (fun x y => decide (¬ x = y)) 20 [true, true] 10 [false, true])))))),
  (10, (sq (xLA 1) (sq (xLA 1) (sq (xGI 9 2) (sq (xC (.int 0)) (sq (xCI 9 3 F_X10_fail) tRZ)))))),
  (20, (sq (xLA 0) (sq (xGI 7 3) (sq (xC (.int 12)) (tIf2 (fun x y => decide (x < y)) 39 [true, true] 29 [false, true]))))),
  (29, (sq (xLA 1) (sq (xLA 1) (sq (xGI 9 3) (sq (xC (.int 4)) (sq (xCI 9 3 F_X10_fail) tRZ)))))),
  (39, (sq (xLA 0) (sq (xGS 7 29 0 0) (sq (xC (.int 3)) (sq (xLA 0) (sq (xGI 7 3) (sq (xI2 (· * ·)) (sq (xLA 0) (sq (xGI 7 2) (sq (xTI 29 36 (fun x => x)) (sq (xLA 0) (sq (xLA 1) (sq (xCI 7 2 F_X8_readSum) (tIf1 (fun x => decide (¬ x = 0)) 64 [true, true] 62 [false, false])))))))))))))),
  (62, (sq (xC (.int 0)) tRZ)),
  (64, (sq (xLA 0) (sq (xGS 7 29 0 0) (sq (xC (.int 3)) (sq (xLA 0) (sq (xGI 7 3) (sq (xI2 (· * ·)) (sq (xC (.int 1)) (sq (xI2 (· + ·)) (sq (xLA 0) (sq (xGI 7 2) (sq (xTI 29 36 (fun x => x)) (sq (xLA 1) (sq (xStr 3) (sq (xCI 9 2 F_X10_passWord) (tIf1 (fun x => decide (¬ x = 0)) 101 [true, false] 90 [true, true])))))))))))))))),
  (90, (sq (xLA 0) (sq (xLA 1) (sq (xC (.int 0)) (sq (xCI 7 3 (F_X8_readTest 40)) (tIf1 (fun x => decide (¬ x = 0)) 101 [true, false] 99 [false, false])))))),
  (99, (sq (xC (.int 0)) tRZ)),
  (101, (sq (xLA 0) (sq (xGS 7 29 0 0) (sq (xC (.int 3)) (sq (xLA 0) (sq (xGI 7 3) (sq (xI2 (· * ·)) (sq (xC (.int 2)) (sq (xI2 (· + ·)) (sq (xLA 0) (sq (xGI 7 2) (sq (xTI 29 36 (fun x => x)) (sq (xLA 0) (sq (xDup) (sq (xGI 7 3) (sq (xC (.int 1)) (sq (xI2 (· + ·)) (sq (xPI 7 3) (sq (xC (.int 1)) tRZ)))))))))))))))))))]
set_option maxRecDepth 100000 in
set_option maxHeartbeats 4000000 in
theorem s_X8_readClause : ∀ X : XCtx, XE X → X.2.2.1.1 = cX8_readClause → X.2.2.1.2.1 = 2 → X.2.2.1.2.2.1 = yX8_readClause.cls → X.2.2.1.2.2.2.1 = (some .boolean) → X.1.2.2.2.1 = { frames := 321, cells := 0, slots := 0, locals := 7346 } → SndBs X bs_X8_readClause := by
  rintro ⟨⟨p, l, e, R, s⟩, Y, ⟨cc, nL, own, ret, Ts⟩, Z⟩ hE h1 h2 h3 h4 h5
  dsimp only at h1 h2 h3 h4 h5
  subst h1 h2 h3 h4 h5
  exact ⟨(n_sq (n_aload_n hE dX8_readClause_0) (n_sq (n_ldcS hE rfl (by decide) dX8_readClause_1) (n_sq (n_cIv hE m_X10_passWord vc_X8_58 (show 5 + 1 ≤ 321 ∧ 8 + (6 + 11) + 110 ≤ 7346 by decide) dX8_readClause_3) (n_sq (n_iconst hE (by decide) dX8_readClause_6) (n_ifcne hE (by decide) dX8_readClause_7))))),
    (n_sq (n_aload_n hE dX8_readClause_10) (n_sq (n_aload_n hE dX8_readClause_11) (n_sq (n_getI hE xk_9 (k := 2) rfl (by decide) rfl wt_41 dX8_readClause_12) (n_sq (n_iconst hE (by decide) dX8_readClause_15) (n_sq (n_cIv hE m_X10_fail vc_X8_65 (show 0 + 1 ≤ 321 ∧ 8 + (3 + 11) + 0 ≤ 7346 by decide) dX8_readClause_16) (n_zreturn hE rfl dX8_readClause_19)))))),
    (n_sq (n_aload_n hE dX8_readClause_20) (n_sq (n_getI hE xk_7 (k := 3) rfl (by decide) rfl wt_73 dX8_readClause_21) (n_sq (n_bipush hE (by decide) dX8_readClause_24) (n_ifclt hE (by decide) dX8_readClause_26)))),
    (n_sq (n_aload_n hE dX8_readClause_29) (n_sq (n_aload_n hE dX8_readClause_30) (n_sq (n_getI hE xk_9 (k := 3) rfl (by decide) rfl wt_44 dX8_readClause_31) (n_sq (n_iconst hE (by decide) dX8_readClause_34) (n_sq (n_cIv hE m_X10_fail vc_X8_65 (show 0 + 1 ≤ 321 ∧ 8 + (3 + 11) + 0 ≤ 7346 by decide) dX8_readClause_35) (n_zreturn hE rfl dX8_readClause_38)))))),
    (n_sq (n_aload_n hE dX8_readClause_39) (n_sq (n_getS hE xk_7 (k := 1) rfl (by decide) rfl wt_71 dX8_readClause_40) (n_sq (n_iconst hE (by decide) dX8_readClause_43) (n_sq (n_aload_n hE dX8_readClause_44) (n_sq (n_getI hE xk_7 (k := 3) rfl (by decide) rfl wt_73 dX8_readClause_45) (n_sq (n_imul hE dX8_readClause_48) (n_sq (n_aload_n hE dX8_readClause_49) (n_sq (n_getI hE xk_7 (k := 2) rfl (by decide) rfl wt_72 dX8_readClause_50) (n_sq (n_iast hE rfl (by decide) dX8_readClause_53) (n_sq (n_aload_n hE dX8_readClause_54) (n_sq (n_aload_n hE dX8_readClause_55) (n_sq (n_cIv hE m_X8_readSum vc_X8_72 (show 7 + 1 ≤ 321 ∧ 8 + (6 + 11) + 158 ≤ 7346 by decide) dX8_readClause_56) (n_ifne hE (by decide) dX8_readClause_59))))))))))))),
    (n_sq (n_iconst hE (by decide) dX8_readClause_62) (n_zreturn hE rfl dX8_readClause_63)),
    (n_sq (n_aload_n hE dX8_readClause_64) (n_sq (n_getS hE xk_7 (k := 1) rfl (by decide) rfl wt_71 dX8_readClause_65) (n_sq (n_iconst hE (by decide) dX8_readClause_68) (n_sq (n_aload_n hE dX8_readClause_69) (n_sq (n_getI hE xk_7 (k := 3) rfl (by decide) rfl wt_73 dX8_readClause_70) (n_sq (n_imul hE dX8_readClause_73) (n_sq (n_iconst hE (by decide) dX8_readClause_74) (n_sq (n_iadd hE dX8_readClause_75) (n_sq (n_aload_n hE dX8_readClause_76) (n_sq (n_getI hE xk_7 (k := 2) rfl (by decide) rfl wt_72 dX8_readClause_77) (n_sq (n_iast hE rfl (by decide) dX8_readClause_80) (n_sq (n_aload_n hE dX8_readClause_81) (n_sq (n_ldcS hE rfl (by decide) dX8_readClause_82) (n_sq (n_cIv hE m_X10_passWord vc_X8_58 (show 5 + 1 ≤ 321 ∧ 8 + (6 + 11) + 110 ≤ 7346 by decide) dX8_readClause_84) (n_ifne hE (by decide) dX8_readClause_87))))))))))))))),
    (n_sq (n_aload_n hE dX8_readClause_90) (n_sq (n_aload_n hE dX8_readClause_91) (n_sq (n_iconst hE (by decide) dX8_readClause_92) (n_sq (n_cIv hE (m_X8_readTest 40) vc_X8_77 (show (8 * 40) + 1 ≤ 321 ∧ 8 + (7 + 11) + (183 * 40) ≤ 7346 by omega) dX8_readClause_93) (n_ifne hE (by decide) dX8_readClause_96))))),
    (n_sq (n_iconst hE (by decide) dX8_readClause_99) (n_zreturn hE rfl dX8_readClause_100)),
    (n_sq (n_aload_n hE dX8_readClause_101) (n_sq (n_getS hE xk_7 (k := 1) rfl (by decide) rfl wt_71 dX8_readClause_102) (n_sq (n_iconst hE (by decide) dX8_readClause_105) (n_sq (n_aload_n hE dX8_readClause_106) (n_sq (n_getI hE xk_7 (k := 3) rfl (by decide) rfl wt_73 dX8_readClause_107) (n_sq (n_imul hE dX8_readClause_110) (n_sq (n_iconst hE (by decide) dX8_readClause_111) (n_sq (n_iadd hE dX8_readClause_112) (n_sq (n_aload_n hE dX8_readClause_113) (n_sq (n_getI hE xk_7 (k := 2) rfl (by decide) rfl wt_72 dX8_readClause_114) (n_sq (n_iast hE rfl (by decide) dX8_readClause_117) (n_sq (n_aload_n hE dX8_readClause_118) (n_sq (n_dup hE dX8_readClause_119) (n_sq (n_getI hE xk_7 (k := 3) rfl (by decide) rfl wt_73 dX8_readClause_120) (n_sq (n_iconst hE (by decide) dX8_readClause_123) (n_sq (n_iadd hE dX8_readClause_124) (n_sq (n_putI hE xk_7 (k := 3) rfl (by decide) rfl rfl (tyX8_ok 3 (by decide)) wt_73 dX8_readClause_125) (n_sq (n_iconst hE (by decide) dX8_readClause_128) (n_zreturn hE rfl dX8_readClause_129))))))))))))))))))), trivial⟩
noncomputable def F_X8_readClause (as : List XV) (w : XW) : Option (Int32 × XW) := (xF 2 bs_X8_readClause as w).bind pI
theorem m_X8_readClause : XM yX8_readClause cX8_readClause 2 (some .boolean) 321 7346 (eI F_X8_readClause) := xm_I (xm_of (by decide) s_X8_readClause)
noncomputable def q_X8_readClause_0 (w : XW) : Option XR := ev bs_X8_readClause 0 ([some (.inr (7, 0)), some (.inr (9, 0))], [], w)
noncomputable def q_X8_readClause_10 (w : XW) : Option XR := ev bs_X8_readClause 10 ([none, some (.inr (9, 0))], [], w)
noncomputable def q_X8_readClause_20 (w : XW) : Option XR := ev bs_X8_readClause 20 ([some (.inr (7, 0)), some (.inr (9, 0))], [], w)
noncomputable def q_X8_readClause_29 (w : XW) : Option XR := ev bs_X8_readClause 29 ([none, some (.inr (9, 0))], [], w)
noncomputable def q_X8_readClause_39 (w : XW) : Option XR := ev bs_X8_readClause 39 ([some (.inr (7, 0)), some (.inr (9, 0))], [], w)
noncomputable def q_X8_readClause_62 (w : XW) : Option XR := ev bs_X8_readClause 62 ([none, none], [], w)
noncomputable def q_X8_readClause_64 (w : XW) : Option XR := ev bs_X8_readClause 64 ([some (.inr (7, 0)), some (.inr (9, 0))], [], w)
noncomputable def q_X8_readClause_90 (w : XW) : Option XR := ev bs_X8_readClause 90 ([some (.inr (7, 0)), some (.inr (9, 0))], [], w)
noncomputable def q_X8_readClause_99 (w : XW) : Option XR := ev bs_X8_readClause 99 ([none, none], [], w)
noncomputable def q_X8_readClause_101 (w : XW) : Option XR := ev bs_X8_readClause 101 ([some (.inr (7, 0)), none], [], w)
theorem e_X8_readClause_0 (w : XW) : q_X8_readClause_0 w = ((F_X10_passWord [.inr (9, 0), .inr (65, 2)] w).bind fun r0 => (bif decide (¬ r0.1 = (-1)) then (q_X8_readClause_20 r0.2) else (q_X8_readClause_10 r0.2))) := (ev_eq _ _ _).trans rfl
theorem e_X8_readClause_10 (w : XW) : q_X8_readClause_10 w = ((F_X10_fail [.inr (9, 0), .inl (.int (gI w 9 0 2)), .inl (.int 0)] w).bind fun r0 => (if r0.1 = 0 ∨ r0.1 = 1 then some (some (.inl (.int r0.1)), r0.2) else none)) := (ev_eq _ _ _).trans rfl
theorem e_X8_readClause_20 (w : XW) : q_X8_readClause_20 w = (bif decide ((gI w 7 0 3) < 12) then (q_X8_readClause_39 w) else (q_X8_readClause_29 w)) := (ev_eq _ _ _).trans rfl
theorem e_X8_readClause_29 (w : XW) : q_X8_readClause_29 w = ((F_X10_fail [.inr (9, 0), .inl (.int (gI w 9 0 3)), .inl (.int 4)] w).bind fun r0 => (if r0.1 = 0 ∨ r0.1 = 1 then some (some (.inl (.int r0.1)), r0.2) else none)) := (ev_eq _ _ _).trans rfl
theorem e_X8_readClause_39 (w : XW) : q_X8_readClause_39 w = (if (3 * (gI w 7 0 3)) < 0 ∨ 36 ≤ (3 * (gI w 7 0 3)).toNatClampNeg then none else ((F_X8_readSum [.inr (7, 0), .inr (9, 0)] (sI w 29 0 ((3 * (gI w 7 0 3)).toNatClampNeg) (gI w 7 0 2))).bind fun r0 => (bif decide (¬ r0.1 = 0) then (q_X8_readClause_64 r0.2) else (q_X8_readClause_62 r0.2)))) := (ev_eq _ _ _).trans rfl
theorem e_X8_readClause_62 (w : XW) : q_X8_readClause_62 w = (some (some (.inl (.int 0)), w)) := (ev_eq _ _ _).trans rfl
theorem e_X8_readClause_64 (w : XW) : q_X8_readClause_64 w = (if ((3 * (gI w 7 0 3)) + 1) < 0 ∨ 36 ≤ ((3 * (gI w 7 0 3)) + 1).toNatClampNeg then none else ((F_X10_passWord [.inr (9, 0), .inr (65, 3)] (sI w 29 0 (((3 * (gI w 7 0 3)) + 1).toNatClampNeg) (gI w 7 0 2))).bind fun r0 => (bif decide (¬ r0.1 = 0) then (q_X8_readClause_101 r0.2) else (q_X8_readClause_90 r0.2)))) := (ev_eq _ _ _).trans rfl
theorem e_X8_readClause_90 (w : XW) : q_X8_readClause_90 w = (((F_X8_readTest 40) [.inr (7, 0), .inr (9, 0), .inl (.int 0)] w).bind fun r0 => (bif decide (¬ r0.1 = 0) then (q_X8_readClause_101 r0.2) else (q_X8_readClause_99 r0.2))) := (ev_eq _ _ _).trans rfl
theorem e_X8_readClause_99 (w : XW) : q_X8_readClause_99 w = (some (some (.inl (.int 0)), w)) := (ev_eq _ _ _).trans rfl
theorem e_X8_readClause_101 (w : XW) : q_X8_readClause_101 w = (if ((3 * (gI w 7 0 3)) + 2) < 0 ∨ 36 ≤ ((3 * (gI w 7 0 3)) + 2).toNatClampNeg then none else (some (some (.inl (.int 1)), sI (sI w 29 0 (((3 * (gI w 7 0 3)) + 2).toNatClampNeg) (gI w 7 0 2)) 7 0 3 ((gI (sI w 29 0 (((3 * (gI w 7 0 3)) + 2).toNatClampNeg) (gI w 7 0 2)) 7 0 3) + 1)))) := (ev_eq _ _ _).trans rfl
theorem f_X8_readClause (w : XW) : F_X8_readClause [.inr (7, 0), .inr (9, 0)] w = (q_X8_readClause_0 w).bind pI := rfl

-- WinterKeep$RuleReader.read(LWinterKeep$Tape;)Z
theorem dX8_read_0 : decode cX8_read 0 = .ok (.aload_n 0, 1) := by decide +kernel
theorem dX8_read_1 : decode cX8_read 1 = .ok (.iconst 0, 1) := by decide +kernel
theorem dX8_read_2 : decode cX8_read 2 = .ok (.putfield 18, 3) := by decide +kernel
theorem dX8_read_5 : decode cX8_read 5 = .ok (.aload_n 0, 1) := by decide +kernel
theorem dX8_read_6 : decode cX8_read 6 = .ok (.iconst 0, 1) := by decide +kernel
theorem dX8_read_7 : decode cX8_read 7 = .ok (.putfield 22, 3) := by decide +kernel
theorem dX8_read_10 : decode cX8_read 10 = .ok (.aload_n 0, 1) := by decide +kernel
theorem dX8_read_11 : decode cX8_read 11 = .ok (.iconst 0, 1) := by decide +kernel
theorem dX8_read_12 : decode cX8_read 12 = .ok (.putfield 25, 3) := by decide +kernel
theorem dX8_read_15 : decode cX8_read 15 = .ok (.aload_n 1, 1) := by decide +kernel
theorem dX8_read_16 : decode cX8_read 16 = .ok (.invokevirtual 28, 3) := by decide +kernel
theorem dX8_read_19 : decode cX8_read 19 = .ok (.iconst 0, 1) := by decide +kernel
theorem dX8_read_20 : decode cX8_read 20 = .ok (.istore_n 2, 1) := by decide +kernel
theorem dX8_read_21 : decode cX8_read 21 = .ok (.iload_n 2, 1) := by decide +kernel
theorem dX8_read_22 : decode cX8_read 22 = .ok (.bipush 12, 2) := by decide +kernel
theorem dX8_read_24 : decode cX8_read 24 = .ok (.if_icmp .gt 40, 3) := by decide +kernel
theorem dX8_read_27 : decode cX8_read 27 = .ok (.aload_n 0, 1) := by decide +kernel
theorem dX8_read_28 : decode cX8_read 28 = .ok (.aload_n 1, 1) := by decide +kernel
theorem dX8_read_29 : decode cX8_read 29 = .ok (.invokevirtual 33, 3) := by decide +kernel
theorem dX8_read_32 : decode cX8_read 32 = .ok (.ifCond .ne 5, 3) := by decide +kernel
theorem dX8_read_35 : decode cX8_read 35 = .ok (.iconst 0, 1) := by decide +kernel
theorem dX8_read_36 : decode cX8_read 36 = .ok (.ireturn, 1) := by decide +kernel
theorem dX8_read_37 : decode cX8_read 37 = .ok (.aload_n 1, 1) := by decide +kernel
theorem dX8_read_38 : decode cX8_read 38 = .ok (.invokevirtual 37, 3) := by decide +kernel
theorem dX8_read_41 : decode cX8_read 41 = .ok (.iconst (-1), 1) := by decide +kernel
theorem dX8_read_42 : decode cX8_read 42 = .ok (.if_icmp .ne 5, 3) := by decide +kernel
theorem dX8_read_45 : decode cX8_read 45 = .ok (.iconst 1, 1) := by decide +kernel
theorem dX8_read_46 : decode cX8_read 46 = .ok (.ireturn, 1) := by decide +kernel
theorem dX8_read_47 : decode cX8_read 47 = .ok (.aload_n 1, 1) := by decide +kernel
theorem dX8_read_48 : decode cX8_read 48 = .ok (.bipush 59, 2) := by decide +kernel
theorem dX8_read_50 : decode cX8_read 50 = .ok (.invokevirtual 41, 3) := by decide +kernel
theorem dX8_read_53 : decode cX8_read 53 = .ok (.ifCond .ne 5, 3) := by decide +kernel
theorem dX8_read_56 : decode cX8_read 56 = .ok (.iconst 0, 1) := by decide +kernel
theorem dX8_read_57 : decode cX8_read 57 = .ok (.ireturn, 1) := by decide +kernel
theorem dX8_read_58 : decode cX8_read 58 = .ok (.iinc 2 1, 3) := by decide +kernel
theorem dX8_read_61 : decode cX8_read 61 = .ok (.goto (-40), 3) := by decide +kernel
theorem dX8_read_64 : decode cX8_read 64 = .ok (.iconst 0, 1) := by decide +kernel
theorem dX8_read_65 : decode cX8_read 65 = .ok (.ireturn, 1) := by decide +kernel
theorem vc_X8_28 : XVw RX8 28 0 9 1 yX10_begin cX10_begin none := ⟨RX10, TX10, tyX10, 6, xk_9, rfl, ⟨by decide, by decide⟩, by decide +kernel, wt_513, wt_397, wt_398, wt_2, wt_399⟩
theorem vc_X8_33 : XVw RX8 33 1 7 2 yX8_readClause cX8_readClause (some .boolean) := ⟨RX8, TX8, tyX8, 5, xk_7, rfl, ⟨by decide, by decide⟩, by decide +kernel, wt_514, wt_516, ws_1, wt_3, wt_517⟩
noncomputable def bs_X8_read : List (Nat × XB) := [
  (0, (sq (xLA 0) (sq (xC (.int 0)) (sq (xPI 7 2) (sq (xLA 0) (sq (xC (.int 0)) (sq (xPI 7 3) (sq (xLA 0) (sq (xC (.int 0)) (sq (xPI 7 4) (sq (xLA 1) (sq (xCV 9 1 F_X10_begin) (sq (xC (.int 0)) (sq (xSI 2) (tGo 21 [true, true, true]))))))))))))))),
  (21, (sq (xLI 2) (sq (xC (.int 12)) (tIf2 (fun x y => decide (y < x)) 64 [false, false, false] 27 [true, true, true])))),
  (27, (sq (xLA 0) (sq (xLA 1) (sq (xCI 7 2 F_X8_readClause) (tIf1 (fun x => decide (¬ x = 0)) 37 [true, true, true] 35 [false, false, false]))))),
  (35, (sq (xC (.int 0)) tRZ)),
  (37, (sq (xLA 1) (sq (xCI 9 1 F_X10_sign) (sq (xC (.int (-1))) (tIf2 (fun x y => decide (¬ x = y)) 47 [true, true, true] 45 [false, false, false]))))),
  (45, (sq (xC (.int 1)) tRZ)),
  (47, (sq (xLA 1) (sq (xC (.int 59)) (sq (xCI 9 2 F_X10_passSign) (tIf1 (fun x => decide (¬ x = 0)) 58 [true, true, true] 56 [false, false, false]))))),
  (56, (sq (xC (.int 0)) tRZ)),
  (58, (sq (xInc 2 1) (tGo 21 [true, true, true]))),
  (64, (sq (xC (.int 0)) tRZ))]
set_option maxRecDepth 100000 in
set_option maxHeartbeats 4000000 in
theorem s_X8_read : ∀ X : XCtx, XE X → X.2.2.1.1 = cX8_read → X.2.2.1.2.1 = 3 → X.2.2.1.2.2.1 = yX8_read.cls → X.2.2.1.2.2.2.1 = (some .boolean) → X.1.2.2.2.1 = { frames := 322, cells := 0, slots := 0, locals := 7367 } → SndBs X bs_X8_read := by
  rintro ⟨⟨p, l, e, R, s⟩, Y, ⟨cc, nL, own, ret, Ts⟩, Z⟩ hE h1 h2 h3 h4 h5
  dsimp only at h1 h2 h3 h4 h5
  subst h1 h2 h3 h4 h5
  exact ⟨(n_sq (n_aload_n hE dX8_read_0) (n_sq (n_iconst hE (by decide) dX8_read_1) (n_sq (n_putI hE xk_7 (k := 2) rfl (by decide) rfl rfl (tyX8_ok 2 (by decide)) wt_72 dX8_read_2) (n_sq (n_aload_n hE dX8_read_5) (n_sq (n_iconst hE (by decide) dX8_read_6) (n_sq (n_putI hE xk_7 (k := 3) rfl (by decide) rfl rfl (tyX8_ok 3 (by decide)) wt_73 dX8_read_7) (n_sq (n_aload_n hE dX8_read_10) (n_sq (n_iconst hE (by decide) dX8_read_11) (n_sq (n_putI hE xk_7 (k := 4) rfl (by decide) rfl rfl (tyX8_ok 4 (by decide)) wt_74 dX8_read_12) (n_sq (n_aload_n hE dX8_read_15) (n_sq (n_cVv hE m_X10_begin vc_X8_28 (show 0 + 1 ≤ 322 ∧ 8 + (1 + 11) + 0 ≤ 7367 by decide) dX8_read_16) (n_sq (n_iconst hE (by decide) dX8_read_19) (n_sq (n_istore_n hE (show (2 : Nat) < 3 by decide) dX8_read_20) n_fall))))))))))))),
    (n_sq (n_iload_n hE dX8_read_21) (n_sq (n_bipush hE (by decide) dX8_read_22) (n_ifcgt hE (by decide) dX8_read_24))),
    (n_sq (n_aload_n hE dX8_read_27) (n_sq (n_aload_n hE dX8_read_28) (n_sq (n_cIv hE m_X8_readClause vc_X8_33 (show 321 + 1 ≤ 322 ∧ 8 + (2 + 11) + 7346 ≤ 7367 by decide) dX8_read_29) (n_ifne hE (by decide) dX8_read_32)))),
    (n_sq (n_iconst hE (by decide) dX8_read_35) (n_zreturn hE rfl dX8_read_36)),
    (n_sq (n_aload_n hE dX8_read_37) (n_sq (n_cIv hE m_X10_sign vc_X8_37 (show 1 + 1 ≤ 322 ∧ 8 + (1 + 11) + 21 ≤ 7367 by decide) dX8_read_38) (n_sq (n_iconst hE (by decide) dX8_read_41) (n_ifcne hE (by decide) dX8_read_42)))),
    (n_sq (n_iconst hE (by decide) dX8_read_45) (n_zreturn hE rfl dX8_read_46)),
    (n_sq (n_aload_n hE dX8_read_47) (n_sq (n_bipush hE (by decide) dX8_read_48) (n_sq (n_cIv hE m_X10_passSign vc_X8_41 (show 2 + 1 ≤ 322 ∧ 8 + (2 + 11) + 41 ≤ 7367 by decide) dX8_read_50) (n_ifne hE (by decide) dX8_read_53)))),
    (n_sq (n_iconst hE (by decide) dX8_read_56) (n_zreturn hE rfl dX8_read_57)),
    (n_sq (n_iinc hE (by decide) (show (2 : Nat) < 3 by decide) dX8_read_58) (n_goto hE (by decide) dX8_read_61)),
    (n_sq (n_iconst hE (by decide) dX8_read_64) (n_zreturn hE rfl dX8_read_65)), trivial⟩
noncomputable def F_X8_read (as : List XV) (w : XW) : Option (Int32 × XW) := (xF 3 bs_X8_read as w).bind pI
theorem m_X8_read : XM yX8_read cX8_read 3 (some .boolean) 322 7367 (eI F_X8_read) := xm_I (xm_of (by decide) s_X8_read)
noncomputable def q_X8_read_0 (w : XW) : Option XR := ev bs_X8_read 0 ([some (.inr (7, 0)), some (.inr (9, 0)), none], [], w)
noncomputable def q_X8_read_21 (x2 : Int32) (w : XW) : Option XR := ev bs_X8_read 21 ([some (.inr (7, 0)), some (.inr (9, 0)), some (.inl (.int x2))], [], w)
noncomputable def q_X8_read_27 (x2 : Int32) (w : XW) : Option XR := ev bs_X8_read 27 ([some (.inr (7, 0)), some (.inr (9, 0)), some (.inl (.int x2))], [], w)
noncomputable def q_X8_read_35 (w : XW) : Option XR := ev bs_X8_read 35 ([none, none, none], [], w)
noncomputable def q_X8_read_37 (x2 : Int32) (w : XW) : Option XR := ev bs_X8_read 37 ([some (.inr (7, 0)), some (.inr (9, 0)), some (.inl (.int x2))], [], w)
noncomputable def q_X8_read_45 (w : XW) : Option XR := ev bs_X8_read 45 ([none, none, none], [], w)
noncomputable def q_X8_read_47 (x2 : Int32) (w : XW) : Option XR := ev bs_X8_read 47 ([some (.inr (7, 0)), some (.inr (9, 0)), some (.inl (.int x2))], [], w)
noncomputable def q_X8_read_56 (w : XW) : Option XR := ev bs_X8_read 56 ([none, none, none], [], w)
noncomputable def q_X8_read_58 (x2 : Int32) (w : XW) : Option XR := ev bs_X8_read 58 ([some (.inr (7, 0)), some (.inr (9, 0)), some (.inl (.int x2))], [], w)
noncomputable def q_X8_read_64 (w : XW) : Option XR := ev bs_X8_read 64 ([none, none, none], [], w)
theorem e_X8_read_0 (w : XW) : q_X8_read_0 w = ((F_X10_begin [.inr (9, 0)] (sI (sI (sI w 7 0 2 0) 7 0 3 0) 7 0 4 0)).bind fun r0 => (q_X8_read_21 0 r0)) := (ev_eq _ _ _).trans rfl
theorem e_X8_read_21 (x2 : Int32) (w : XW) : q_X8_read_21 x2 w = (bif decide (12 < x2) then (q_X8_read_64 w) else (q_X8_read_27 x2 w)) := (ev_eq _ _ _).trans rfl
theorem e_X8_read_27 (x2 : Int32) (w : XW) : q_X8_read_27 x2 w = ((F_X8_readClause [.inr (7, 0), .inr (9, 0)] w).bind fun r0 => (bif decide (¬ r0.1 = 0) then (q_X8_read_37 x2 r0.2) else (q_X8_read_35 r0.2))) := (ev_eq _ _ _).trans rfl
theorem e_X8_read_35 (w : XW) : q_X8_read_35 w = (some (some (.inl (.int 0)), w)) := (ev_eq _ _ _).trans rfl
theorem e_X8_read_37 (x2 : Int32) (w : XW) : q_X8_read_37 x2 w = ((F_X10_sign [.inr (9, 0)] w).bind fun r0 => (bif decide (¬ r0.1 = (-1)) then (q_X8_read_47 x2 r0.2) else (q_X8_read_45 r0.2))) := (ev_eq _ _ _).trans rfl
theorem e_X8_read_45 (w : XW) : q_X8_read_45 w = (some (some (.inl (.int 1)), w)) := (ev_eq _ _ _).trans rfl
theorem e_X8_read_47 (x2 : Int32) (w : XW) : q_X8_read_47 x2 w = ((F_X10_passSign [.inr (9, 0), .inl (.int 59)] w).bind fun r0 => (bif decide (¬ r0.1 = 0) then (q_X8_read_58 x2 r0.2) else (q_X8_read_56 r0.2))) := (ev_eq _ _ _).trans rfl
theorem e_X8_read_56 (w : XW) : q_X8_read_56 w = (some (some (.inl (.int 0)), w)) := (ev_eq _ _ _).trans rfl
theorem e_X8_read_58 (x2 : Int32) (w : XW) : q_X8_read_58 x2 w = (q_X8_read_21 (x2 + 1) w) := (ev_eq _ _ _).trans rfl
theorem e_X8_read_64 (w : XW) : q_X8_read_64 w = (some (some (.inl (.int 0)), w)) := (ev_eq _ _ _).trans rfl
theorem f_X8_read (w : XW) : F_X8_read [.inr (7, 0), .inr (9, 0)] w = (q_X8_read_0 w).bind pI := rfl
