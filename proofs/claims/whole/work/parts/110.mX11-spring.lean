-- WinterKeep.spring(II)I
theorem dX11_spring_0 : decode cX11_spring 0 = .ok (.aload_n 0, 1) := by decide +kernel
theorem dX11_spring_1 : decode cX11_spring 1 = .ok (.getfield 39, 3) := by decide +kernel
theorem dX11_spring_4 : decode cX11_spring 4 = .ok (.getfield 227, 3) := by decide +kernel
theorem dX11_spring_7 : decode cX11_spring 7 = .ok (.ifCond .eq 22, 3) := by decide +kernel
theorem dX11_spring_10 : decode cX11_spring 10 = .ok (.iload_n 1, 1) := by decide +kernel
theorem dX11_spring_11 : decode cX11_spring 11 = .ok (.iconst 0, 1) := by decide +kernel
theorem dX11_spring_12 : decode cX11_spring 12 = .ok (.bipush 60, 2) := by decide +kernel
theorem dX11_spring_14 : decode cX11_spring 14 = .ok (.invokestatic 170, 3) := by decide +kernel
theorem dX11_spring_17 : decode cX11_spring 17 = .ok (.ifCond .eq 12, 3) := by decide +kernel
theorem dX11_spring_20 : decode cX11_spring 20 = .ok (.iload_n 2, 1) := by decide +kernel
theorem dX11_spring_21 : decode cX11_spring 21 = .ok (.iconst 0, 1) := by decide +kernel
theorem dX11_spring_22 : decode cX11_spring 22 = .ok (.iconst 1, 1) := by decide +kernel
theorem dX11_spring_23 : decode cX11_spring 23 = .ok (.invokestatic 170, 3) := by decide +kernel
theorem dX11_spring_26 : decode cX11_spring 26 = .ok (.ifCond .ne 5, 3) := by decide +kernel
theorem dX11_spring_29 : decode cX11_spring 29 = .ok (.iconst (-1), 1) := by decide +kernel
theorem dX11_spring_30 : decode cX11_spring 30 = .ok (.ireturn, 1) := by decide +kernel
theorem dX11_spring_31 : decode cX11_spring 31 = .ok (.aload_n 0, 1) := by decide +kernel
theorem dX11_spring_32 : decode cX11_spring 32 = .ok (.invokevirtual 250, 3) := by decide +kernel
theorem dX11_spring_35 : decode cX11_spring 35 = .ok (.aload_n 0, 1) := by decide +kernel
theorem dX11_spring_36 : decode cX11_spring 36 = .ok (.getfield 63, 3) := by decide +kernel
theorem dX11_spring_39 : decode cX11_spring 39 = .ok (.aload_n 0, 1) := by decide +kernel
theorem dX11_spring_40 : decode cX11_spring 40 = .ok (.getfield 39, 3) := by decide +kernel
theorem dX11_spring_43 : decode cX11_spring 43 = .ok (.aload_n 0, 1) := by decide +kernel
theorem dX11_spring_44 : decode cX11_spring 44 = .ok (.getfield 50, 3) := by decide +kernel
theorem dX11_spring_47 : decode cX11_spring 47 = .ok (.invokevirtual 259, 3) := by decide +kernel
theorem dX11_spring_50 : decode cX11_spring 50 = .ok (.istore_n 3, 1) := by decide +kernel
theorem dX11_spring_51 : decode cX11_spring 51 = .ok (.iconst 0, 1) := by decide +kernel
theorem dX11_spring_52 : decode cX11_spring 52 = .ok (.istore 4, 2) := by decide +kernel
theorem dX11_spring_54 : decode cX11_spring 54 = .ok (.iconst 1, 1) := by decide +kernel
theorem dX11_spring_55 : decode cX11_spring 55 = .ok (.istore 5, 2) := by decide +kernel
theorem dX11_spring_57 : decode cX11_spring 57 = .ok (.iload 5, 2) := by decide +kernel
theorem dX11_spring_59 : decode cX11_spring 59 = .ok (.iload_n 1, 1) := by decide +kernel
theorem dX11_spring_60 : decode cX11_spring 60 = .ok (.if_icmp .gt 51, 3) := by decide +kernel
theorem dX11_spring_63 : decode cX11_spring 63 = .ok (.aload_n 0, 1) := by decide +kernel
theorem dX11_spring_64 : decode cX11_spring 64 = .ok (.getfield 56, 3) := by decide +kernel
theorem dX11_spring_67 : decode cX11_spring 67 = .ok (.aload_n 0, 1) := by decide +kernel
theorem dX11_spring_68 : decode cX11_spring 68 = .ok (.getfield 50, 3) := by decide +kernel
theorem dX11_spring_71 : decode cX11_spring 71 = .ok (.invokevirtual 242, 3) := by decide +kernel
theorem dX11_spring_74 : decode cX11_spring 74 = .ok (.pop, 1) := by decide +kernel
theorem dX11_spring_75 : decode cX11_spring 75 = .ok (.aload_n 0, 1) := by decide +kernel
theorem dX11_spring_76 : decode cX11_spring 76 = .ok (.getfield 63, 3) := by decide +kernel
theorem dX11_spring_79 : decode cX11_spring 79 = .ok (.aload_n 0, 1) := by decide +kernel
theorem dX11_spring_80 : decode cX11_spring 80 = .ok (.getfield 39, 3) := by decide +kernel
theorem dX11_spring_83 : decode cX11_spring 83 = .ok (.aload_n 0, 1) := by decide +kernel
theorem dX11_spring_84 : decode cX11_spring 84 = .ok (.getfield 50, 3) := by decide +kernel
theorem dX11_spring_87 : decode cX11_spring 87 = .ok (.invokevirtual 259, 3) := by decide +kernel
theorem dX11_spring_90 : decode cX11_spring 90 = .ok (.istore 6, 2) := by decide +kernel
theorem dX11_spring_92 : decode cX11_spring 92 = .ok (.iload 6, 2) := by decide +kernel
theorem dX11_spring_94 : decode cX11_spring 94 = .ok (.iload_n 3, 1) := by decide +kernel
theorem dX11_spring_95 : decode cX11_spring 95 = .ok (.if_icmp .le 10, 3) := by decide +kernel
theorem dX11_spring_98 : decode cX11_spring 98 = .ok (.iload 6, 2) := by decide +kernel
theorem dX11_spring_100 : decode cX11_spring 100 = .ok (.istore_n 3, 1) := by decide +kernel
theorem dX11_spring_101 : decode cX11_spring 101 = .ok (.iload 5, 2) := by decide +kernel
theorem dX11_spring_103 : decode cX11_spring 103 = .ok (.istore 4, 2) := by decide +kernel
theorem dX11_spring_105 : decode cX11_spring 105 = .ok (.iinc 5 1, 3) := by decide +kernel
theorem dX11_spring_108 : decode cX11_spring 108 = .ok (.goto (-51), 3) := by decide +kernel
theorem dX11_spring_111 : decode cX11_spring 111 = .ok (.iload_n 2, 1) := by decide +kernel
theorem dX11_spring_112 : decode cX11_spring 112 = .ok (.ifCond .ne 8, 3) := by decide +kernel
theorem dX11_spring_115 : decode cX11_spring 115 = .ok (.iload 4, 2) := by decide +kernel
theorem dX11_spring_117 : decode cX11_spring 117 = .ok (.goto 4, 3) := by decide +kernel
theorem dX11_spring_120 : decode cX11_spring 120 = .ok (.iload_n 3, 1) := by decide +kernel
theorem dX11_spring_121 : decode cX11_spring 121 = .ok (.ireturn, 1) := by decide +kernel
noncomputable def bs_X11_spring : List (Nat × XB) := [
  (0, (sq (xLA 0) (sq (xGD 10 5 1) (sq (xGI 1 0) (tIf1 (fun x => decide (x = 0)) 29 [false, false, false, false, false, false, false] 10 [true, true, true, false, false, false, false]))))),
  (10, (sq (xLI 1) (sq (xC (.int 0)) (sq (xC (.int 60)) (sq (xCI 99 3 F_X11_within) (tIf1 (fun x => decide (x = 0)) 29 [false, false, false, false, false, false, false] 20 [true, true, true, false, false, false, false])))))),
  (20, (sq (xLI 2) (sq (xC (.int 0)) (sq (xC (.int 1)) (sq (xCI 99 3 F_X11_within) (tIf1 (fun x => decide (¬ x = 0)) 31 [true, true, true, false, false, false, false] 29 [false, false, false, false, false, false, false])))))),
  (29, (sq (xC (.int (-1))) tRI)),
  (31, (sq (xLA 0) (sq (xCV 10 1 F_X11_startFromNow) (sq (xLA 0) (sq (xGS 10 5 1 0) (sq (xLA 0) (sq (xGD 10 5 1) (sq (xLA 0) (sq (xGS 10 8 1 1) (sq (xCI 5 3 F_X6_find) (sq (xSI 3) (sq (xC (.int 0)) (sq (xSI 4) (sq (xC (.int 1)) (sq (xSI 5) (tGo 57 [true, true, true, true, true, true, false])))))))))))))))),
  (57, (sq (xLI 5) (sq (xLI 1) (tIf2 (fun x y => decide (y < x)) 111 [false, false, true, true, true, false, false] 63 [true, true, true, true, true, true, false])))),
  (63, (sq (xLA 0) (sq (xGS 10 3 1 0) (sq (xLA 0) (sq (xGS 10 8 1 1) (sq (xCI 3 2 F_X4_pass) (sq (xPop) (sq (xLA 0) (sq (xGS 10 5 1 0) (sq (xLA 0) (sq (xGD 10 5 1) (sq (xLA 0) (sq (xGS 10 8 1 1) (sq (xCI 5 3 F_X6_find) (sq (xSI 6) (sq (xLI 6) (sq (xLI 3) (tIf2 (fun x y => decide (x ≤ y)) 105 [true, true, true, true, true, true, false] 98 [true, true, true, false, false, true, true])))))))))))))))))),
  (98, (sq (xLI 6) (sq (xSI 3) (sq (xLI 5) (sq (xSI 4) (tGo 105 [true, true, true, true, true, true, false])))))),
  (105, (sq (xInc 5 1) (tGo 57 [true, true, true, true, true, true, false]))),
  (111, (sq (xLI 2) (tIf1 (fun x => decide (¬ x = 0)) 120 [false, false, false, true, false, false, false] 115 [false, false, false, false, true, false, false]))),
  (115, (sq (xLI 4) (tGo 121 [false, false, false, false, false, false, false]))),
  (120, (sq (xLI 3) (tGo 121 [false, false, false, false, false, false, false]))),
  (121, tRI)]
set_option maxRecDepth 100000 in
set_option maxHeartbeats 4000000 in
theorem s_X11_spring : ∀ X : XCtx, XE X → X.2.2.1.1 = cX11_spring → X.2.2.1.2.1 = 7 → X.2.2.1.2.2.1 = yX11_spring.cls → X.2.2.1.2.2.2.1 = (some .int) → X.1.2.2.2.1 = { frames := 5, cells := 0, slots := 0, locals := 123 } → SndBs X bs_X11_spring := by
  rintro ⟨⟨p, l, e, R, s⟩, Y, ⟨cc, nL, own, ret, Ts⟩, Z⟩ hE h1 h2 h3 h4 h5
  dsimp only at h1 h2 h3 h4 h5
  subst h1 h2 h3 h4 h5
  exact ⟨(n_sq (n_aload_n hE dX11_spring_0) (n_sq (n_getD hE xk_10 (k := 5) rfl (by decide) rfl wt_321 dX11_spring_1) (n_sq (n_getI hE xk_1 (k := 0) rfl (by decide) rfl wt_96 dX11_spring_4) (n_ifeq hE (by decide) dX11_spring_7)))),
    (n_sq (n_iload_n hE dX11_spring_10) (n_sq (n_iconst hE (by decide) dX11_spring_11) (n_sq (n_bipush hE (by decide) dX11_spring_12) (n_sq (n_cIs hE m_X11_within vc_X11_170 (show 0 + 1 ≤ 5 ∧ 8 + (3 + 11) + 0 ≤ 123 by decide) dX11_spring_14) (n_ifeq hE (by decide) dX11_spring_17))))),
    (n_sq (n_iload_n hE dX11_spring_20) (n_sq (n_iconst hE (by decide) dX11_spring_21) (n_sq (n_iconst hE (by decide) dX11_spring_22) (n_sq (n_cIs hE m_X11_within vc_X11_170 (show 0 + 1 ≤ 5 ∧ 8 + (3 + 11) + 0 ≤ 123 by decide) dX11_spring_23) (n_ifne hE (by decide) dX11_spring_26))))),
    (n_sq (n_iconst hE (by decide) dX11_spring_29) (n_ireturn hE rfl dX11_spring_30)),
    (n_sq (n_aload_n hE dX11_spring_31) (n_sq (n_cVv hE m_X11_startFromNow vc_X11_250 (show 2 + 1 ≤ 5 ∧ 8 + (1 + 11) + 43 ≤ 123 by decide) dX11_spring_32) (n_sq (n_aload_n hE dX11_spring_35) (n_sq (n_getS hE xk_10 (k := 9) rfl (by decide) rfl wt_325 dX11_spring_36) (n_sq (n_aload_n hE dX11_spring_39) (n_sq (n_getD hE xk_10 (k := 5) rfl (by decide) rfl wt_321 dX11_spring_40) (n_sq (n_aload_n hE dX11_spring_43) (n_sq (n_getS hE xk_10 (k := 7) rfl (by decide) rfl wt_323 dX11_spring_44) (n_sq (n_cIv hE m_X6_find vc_X11_259 (show 3 + 1 ≤ 5 ∧ 8 + (6 + 11) + 76 ≤ 123 by decide) dX11_spring_47) (n_sq (n_istore_n hE (show (3 : Nat) < 7 by decide) dX11_spring_50) (n_sq (n_iconst hE (by decide) dX11_spring_51) (n_sq (n_istore hE (show (4 : Nat) < 7 by decide) dX11_spring_52) (n_sq (n_iconst hE (by decide) dX11_spring_54) (n_sq (n_istore hE (show (5 : Nat) < 7 by decide) dX11_spring_55) n_fall)))))))))))))),
    (n_sq (n_iload hE dX11_spring_57) (n_sq (n_iload_n hE dX11_spring_59) (n_ifcgt hE (by decide) dX11_spring_60))),
    (n_sq (n_aload_n hE dX11_spring_63) (n_sq (n_getS hE xk_10 (k := 8) rfl (by decide) rfl wt_324 dX11_spring_64) (n_sq (n_aload_n hE dX11_spring_67) (n_sq (n_getS hE xk_10 (k := 7) rfl (by decide) rfl wt_323 dX11_spring_68) (n_sq (n_cIv hE m_X4_pass vc_X11_242 (show 4 + 1 ≤ 5 ∧ 8 + (4 + 11) + 100 ≤ 123 by decide) dX11_spring_71) (n_sq (n_pop hE dX11_spring_74) (n_sq (n_aload_n hE dX11_spring_75) (n_sq (n_getS hE xk_10 (k := 9) rfl (by decide) rfl wt_325 dX11_spring_76) (n_sq (n_aload_n hE dX11_spring_79) (n_sq (n_getD hE xk_10 (k := 5) rfl (by decide) rfl wt_321 dX11_spring_80) (n_sq (n_aload_n hE dX11_spring_83) (n_sq (n_getS hE xk_10 (k := 7) rfl (by decide) rfl wt_323 dX11_spring_84) (n_sq (n_cIv hE m_X6_find vc_X11_259 (show 3 + 1 ≤ 5 ∧ 8 + (6 + 11) + 76 ≤ 123 by decide) dX11_spring_87) (n_sq (n_istore hE (show (6 : Nat) < 7 by decide) dX11_spring_90) (n_sq (n_iload hE dX11_spring_92) (n_sq (n_iload_n hE dX11_spring_94) (n_ifcle hE (by decide) dX11_spring_95))))))))))))))))),
    (n_sq (n_iload hE dX11_spring_98) (n_sq (n_istore_n hE (show (3 : Nat) < 7 by decide) dX11_spring_100) (n_sq (n_iload hE dX11_spring_101) (n_sq (n_istore hE (show (4 : Nat) < 7 by decide) dX11_spring_103) n_fall)))),
    (n_sq (n_iinc hE (by decide) (show (5 : Nat) < 7 by decide) dX11_spring_105) (n_goto hE (by decide) dX11_spring_108)),
    (n_sq (n_iload_n hE dX11_spring_111) (n_ifne hE (by decide) dX11_spring_112)),
    (n_sq (n_iload hE dX11_spring_115) (n_goto hE (by decide) dX11_spring_117)),
    (n_sq (n_iload_n hE dX11_spring_120) n_fall),
    (n_ireturn hE rfl dX11_spring_121), trivial⟩
noncomputable def F_X11_spring (as : List XV) (w : XW) : Option (Int32 × XW) := (xF 7 bs_X11_spring as w).bind pI
theorem m_X11_spring : XM yX11_spring cX11_spring 7 (some .int) 5 123 (eI F_X11_spring) := xm_I (xm_of (by decide) s_X11_spring)
noncomputable def q_X11_spring_0 (x1 : Int32) (x2 : Int32) (w : XW) : Option XR := ev bs_X11_spring 0 ([some (.inr (10, 0)), some (.inl (.int x1)), some (.inl (.int x2)), none, none, none, none], [], w)
noncomputable def q_X11_spring_10 (x1 : Int32) (x2 : Int32) (w : XW) : Option XR := ev bs_X11_spring 10 ([some (.inr (10, 0)), some (.inl (.int x1)), some (.inl (.int x2)), none, none, none, none], [], w)
noncomputable def q_X11_spring_20 (x1 : Int32) (x2 : Int32) (w : XW) : Option XR := ev bs_X11_spring 20 ([some (.inr (10, 0)), some (.inl (.int x1)), some (.inl (.int x2)), none, none, none, none], [], w)
noncomputable def q_X11_spring_29 (w : XW) : Option XR := ev bs_X11_spring 29 ([none, none, none, none, none, none, none], [], w)
noncomputable def q_X11_spring_31 (x1 : Int32) (x2 : Int32) (w : XW) : Option XR := ev bs_X11_spring 31 ([some (.inr (10, 0)), some (.inl (.int x1)), some (.inl (.int x2)), none, none, none, none], [], w)
noncomputable def q_X11_spring_57 (x1 : Int32) (x2 : Int32) (x3 : Int32) (x4 : Int32) (x5 : Int32) (w : XW) : Option XR := ev bs_X11_spring 57 ([some (.inr (10, 0)), some (.inl (.int x1)), some (.inl (.int x2)), some (.inl (.int x3)), some (.inl (.int x4)), some (.inl (.int x5)), none], [], w)
noncomputable def q_X11_spring_63 (x1 : Int32) (x2 : Int32) (x3 : Int32) (x4 : Int32) (x5 : Int32) (w : XW) : Option XR := ev bs_X11_spring 63 ([some (.inr (10, 0)), some (.inl (.int x1)), some (.inl (.int x2)), some (.inl (.int x3)), some (.inl (.int x4)), some (.inl (.int x5)), none], [], w)
noncomputable def q_X11_spring_98 (x1 : Int32) (x2 : Int32) (x5 : Int32) (x6 : Int32) (w : XW) : Option XR := ev bs_X11_spring 98 ([some (.inr (10, 0)), some (.inl (.int x1)), some (.inl (.int x2)), none, none, some (.inl (.int x5)), some (.inl (.int x6))], [], w)
noncomputable def q_X11_spring_105 (x1 : Int32) (x2 : Int32) (x3 : Int32) (x4 : Int32) (x5 : Int32) (w : XW) : Option XR := ev bs_X11_spring 105 ([some (.inr (10, 0)), some (.inl (.int x1)), some (.inl (.int x2)), some (.inl (.int x3)), some (.inl (.int x4)), some (.inl (.int x5)), none], [], w)
noncomputable def q_X11_spring_111 (x2 : Int32) (x3 : Int32) (x4 : Int32) (w : XW) : Option XR := ev bs_X11_spring 111 ([none, none, some (.inl (.int x2)), some (.inl (.int x3)), some (.inl (.int x4)), none, none], [], w)
noncomputable def q_X11_spring_115 (x4 : Int32) (w : XW) : Option XR := ev bs_X11_spring 115 ([none, none, none, none, some (.inl (.int x4)), none, none], [], w)
noncomputable def q_X11_spring_120 (x3 : Int32) (w : XW) : Option XR := ev bs_X11_spring 120 ([none, none, none, some (.inl (.int x3)), none, none, none], [], w)
noncomputable def q_X11_spring_121 (s0 : Int32) (w : XW) : Option XR := ev bs_X11_spring 121 ([none, none, none, none, none, none, none], [.inl (.int s0)], w)
theorem e_X11_spring_0 (x1 : Int32) (x2 : Int32) (w : XW) : q_X11_spring_0 x1 x2 w = ((gR w 10 0 5).bind fun j0 => (bif decide ((gI w 1 j0 0) = 0) then (q_X11_spring_29 w) else (q_X11_spring_10 x1 x2 w))) := (ev_eq _ _ _).trans rfl
theorem e_X11_spring_10 (x1 : Int32) (x2 : Int32) (w : XW) : q_X11_spring_10 x1 x2 w = ((F_X11_within [.inl (.int x1), .inl (.int 0), .inl (.int 60)] w).bind fun r0 => (bif decide (r0.1 = 0) then (q_X11_spring_29 r0.2) else (q_X11_spring_20 x1 x2 r0.2))) := (ev_eq _ _ _).trans rfl
theorem e_X11_spring_20 (x1 : Int32) (x2 : Int32) (w : XW) : q_X11_spring_20 x1 x2 w = ((F_X11_within [.inl (.int x2), .inl (.int 0), .inl (.int 1)] w).bind fun r0 => (bif decide (¬ r0.1 = 0) then (q_X11_spring_31 x1 x2 r0.2) else (q_X11_spring_29 r0.2))) := (ev_eq _ _ _).trans rfl
theorem e_X11_spring_29 (w : XW) : q_X11_spring_29 w = (some (some (.inl (.int (-1))), w)) := (ev_eq _ _ _).trans rfl
theorem e_X11_spring_31 (x1 : Int32) (x2 : Int32) (w : XW) : q_X11_spring_31 x1 x2 w = ((F_X11_startFromNow [.inr (10, 0)] w).bind fun r0 => ((gR r0 10 0 5).bind fun j1 => ((F_X6_find [.inr (5, 0), .inr (1, j1), .inr (8, 1)] r0).bind fun r2 => (q_X11_spring_57 x1 x2 r2.1 0 1 r2.2)))) := (ev_eq _ _ _).trans rfl
theorem e_X11_spring_57 (x1 : Int32) (x2 : Int32) (x3 : Int32) (x4 : Int32) (x5 : Int32) (w : XW) : q_X11_spring_57 x1 x2 x3 x4 x5 w = (bif decide (x1 < x5) then (q_X11_spring_111 x2 x3 x4 w) else (q_X11_spring_63 x1 x2 x3 x4 x5 w)) := (ev_eq _ _ _).trans rfl
theorem e_X11_spring_63 (x1 : Int32) (x2 : Int32) (x3 : Int32) (x4 : Int32) (x5 : Int32) (w : XW) : q_X11_spring_63 x1 x2 x3 x4 x5 w = ((F_X4_pass [.inr (3, 0), .inr (8, 1)] w).bind fun r0 => ((gR r0.2 10 0 5).bind fun j1 => ((F_X6_find [.inr (5, 0), .inr (1, j1), .inr (8, 1)] r0.2).bind fun r2 => (bif decide (r2.1 ≤ x3) then (q_X11_spring_105 x1 x2 x3 x4 x5 r2.2) else (q_X11_spring_98 x1 x2 x5 r2.1 r2.2))))) := (ev_eq _ _ _).trans rfl
theorem e_X11_spring_98 (x1 : Int32) (x2 : Int32) (x5 : Int32) (x6 : Int32) (w : XW) : q_X11_spring_98 x1 x2 x5 x6 w = (q_X11_spring_105 x1 x2 x6 x5 x5 w) := (ev_eq _ _ _).trans rfl
theorem e_X11_spring_105 (x1 : Int32) (x2 : Int32) (x3 : Int32) (x4 : Int32) (x5 : Int32) (w : XW) : q_X11_spring_105 x1 x2 x3 x4 x5 w = (q_X11_spring_57 x1 x2 x3 x4 (x5 + 1) w) := (ev_eq _ _ _).trans rfl
theorem e_X11_spring_111 (x2 : Int32) (x3 : Int32) (x4 : Int32) (w : XW) : q_X11_spring_111 x2 x3 x4 w = (bif decide (¬ x2 = 0) then (q_X11_spring_120 x3 w) else (q_X11_spring_115 x4 w)) := (ev_eq _ _ _).trans rfl
theorem e_X11_spring_115 (x4 : Int32) (w : XW) : q_X11_spring_115 x4 w = (q_X11_spring_121 x4 w) := (ev_eq _ _ _).trans rfl
theorem e_X11_spring_120 (x3 : Int32) (w : XW) : q_X11_spring_120 x3 w = (q_X11_spring_121 x3 w) := (ev_eq _ _ _).trans rfl
theorem e_X11_spring_121 (s0 : Int32) (w : XW) : q_X11_spring_121 s0 w = (some (some (.inl (.int s0)), w)) := (ev_eq _ _ _).trans rfl
theorem f_X11_spring (x1 : Int32) (x2 : Int32) (w : XW) : F_X11_spring [.inr (10, 0), .inl (.int x1), .inl (.int x2)] w = (q_X11_spring_0 x1 x2 w).bind pI := rfl

-- WinterKeep$Benches.isFree(LWinterKeep$Scene;II)Z
theorem dX0_isFree_0 : decode cX0_isFree 0 = .ok (.iconst 0, 1) := by decide +kernel
theorem dX0_isFree_1 : decode cX0_isFree 1 = .ok (.istore 4, 2) := by decide +kernel
theorem dX0_isFree_3 : decode cX0_isFree 3 = .ok (.iload 4, 2) := by decide +kernel
theorem dX0_isFree_5 : decode cX0_isFree 5 = .ok (.iload_n 2, 1) := by decide +kernel
theorem dX0_isFree_6 : decode cX0_isFree 6 = .ok (.if_icmp .ge 36, 3) := by decide +kernel
theorem dX0_isFree_9 : decode cX0_isFree 9 = .ok (.aload_n 0, 1) := by decide +kernel
theorem dX0_isFree_10 : decode cX0_isFree 10 = .ok (.getfield 9, 3) := by decide +kernel
theorem dX0_isFree_13 : decode cX0_isFree 13 = .ok (.iload 4, 2) := by decide +kernel
theorem dX0_isFree_15 : decode cX0_isFree 15 = .ok (.iaload, 1) := by decide +kernel
theorem dX0_isFree_16 : decode cX0_isFree 16 = .ok (.iload_n 3, 1) := by decide +kernel
theorem dX0_isFree_17 : decode cX0_isFree 17 = .ok (.if_icmp .ne 19, 3) := by decide +kernel
theorem dX0_isFree_20 : decode cX0_isFree 20 = .ok (.aload_n 1, 1) := by decide +kernel
theorem dX0_isFree_21 : decode cX0_isFree 21 = .ok (.getfield 31, 3) := by decide +kernel
theorem dX0_isFree_24 : decode cX0_isFree 24 = .ok (.iload_n 2, 1) := by decide +kernel
theorem dX0_isFree_25 : decode cX0_isFree 25 = .ok (.iaload, 1) := by decide +kernel
theorem dX0_isFree_26 : decode cX0_isFree 26 = .ok (.iload 4, 2) := by decide +kernel
theorem dX0_isFree_28 : decode cX0_isFree 28 = .ok (.ishr, 1) := by decide +kernel
theorem dX0_isFree_29 : decode cX0_isFree 29 = .ok (.iconst 1, 1) := by decide +kernel
theorem dX0_isFree_30 : decode cX0_isFree 30 = .ok (.iand, 1) := by decide +kernel
theorem dX0_isFree_31 : decode cX0_isFree 31 = .ok (.ifCond .eq 5, 3) := by decide +kernel
theorem dX0_isFree_34 : decode cX0_isFree 34 = .ok (.iconst 0, 1) := by decide +kernel
theorem dX0_isFree_35 : decode cX0_isFree 35 = .ok (.ireturn, 1) := by decide +kernel
theorem dX0_isFree_36 : decode cX0_isFree 36 = .ok (.iinc 4 1, 3) := by decide +kernel
theorem dX0_isFree_39 : decode cX0_isFree 39 = .ok (.goto (-36), 3) := by decide +kernel
theorem dX0_isFree_42 : decode cX0_isFree 42 = .ok (.iconst 1, 1) := by decide +kernel
theorem dX0_isFree_43 : decode cX0_isFree 43 = .ok (.ireturn, 1) := by decide +kernel
noncomputable def bs_X0_isFree : List (Nat × XB) := [
  (0, (sq (xC (.int 0)) (sq (xSI 4) (tGo 3 [true, true, true, true, true])))),
  (3, (sq (xLI 4) (sq (xLI 2) (tIf2 (fun x y => decide (y ≤ x)) 42 [false, false, false, false, false] 9 [true, true, true, true, true])))),
  (9, (sq (xLA 0) (sq (xGS 0 12 0 0) (sq (xLI 4) (sq (xAI 12 6) (sq (xLI 3) (tIf2 (fun x y => decide (¬ x = y)) 36 [true, true, true, true, true] 20 [true, true, true, true, true]))))))),
  (20, (sq (xLA 1) (sq (xGS 8 33 0 0) (sq (xLI 2) (sq (xAI 33 6) (sq (xLI 4) (sq (xI2 (fun x y => x >>> (y &&& 31))) (sq (xC (.int 1)) (sq (xI2 (· &&& ·)) (tIf1 (fun x => decide (x = 0)) 36 [true, true, true, true, true] 34 [false, false, false, false, false])))))))))),
  (34, (sq (xC (.int 0)) tRZ)),
  (36, (sq (xInc 4 1) (tGo 3 [true, true, true, true, true]))),
  (42, (sq (xC (.int 1)) tRZ))]
set_option maxRecDepth 100000 in
set_option maxHeartbeats 4000000 in
theorem s_X0_isFree : ∀ X : XCtx, XE X → X.2.2.1.1 = cX0_isFree → X.2.2.1.2.1 = 5 → X.2.2.1.2.2.1 = yX0_isFree.cls → X.2.2.1.2.2.2.1 = (some .boolean) → X.1.2.2.2.1 = { frames := 0, cells := 0, slots := 0, locals := 0 } → SndBs X bs_X0_isFree := by
  rintro ⟨⟨p, l, e, R, s⟩, Y, ⟨cc, nL, own, ret, Ts⟩, Z⟩ hE h1 h2 h3 h4 h5
  dsimp only at h1 h2 h3 h4 h5
  subst h1 h2 h3 h4 h5
  exact ⟨(n_sq (n_iconst hE (by decide) dX0_isFree_0) (n_sq (n_istore hE (show (4 : Nat) < 5 by decide) dX0_isFree_1) n_fall)),
    (n_sq (n_iload hE dX0_isFree_3) (n_sq (n_iload_n hE dX0_isFree_5) (n_ifcge hE (by decide) dX0_isFree_6))),
    (n_sq (n_aload_n hE dX0_isFree_9) (n_sq (n_getS hE xk_0 (k := 0) rfl (by decide) rfl wt_254 dX0_isFree_10) (n_sq (n_iload hE dX0_isFree_13) (n_sq (n_iald hE rfl (by decide) dX0_isFree_15) (n_sq (n_iload_n hE dX0_isFree_16) (n_ifcne hE (by decide) dX0_isFree_17)))))),
    (n_sq (n_aload_n hE dX0_isFree_20) (n_sq (n_getS hE xk_8 (k := 5) rfl (by decide) rfl wt_193 dX0_isFree_21) (n_sq (n_iload_n hE dX0_isFree_24) (n_sq (n_iald hE rfl (by decide) dX0_isFree_25) (n_sq (n_iload hE dX0_isFree_26) (n_sq (n_ishr hE dX0_isFree_28) (n_sq (n_iconst hE (by decide) dX0_isFree_29) (n_sq (n_iand hE dX0_isFree_30) (n_ifeq hE (by decide) dX0_isFree_31))))))))),
    (n_sq (n_iconst hE (by decide) dX0_isFree_34) (n_zreturn hE rfl dX0_isFree_35)),
    (n_sq (n_iinc hE (by decide) (show (4 : Nat) < 5 by decide) dX0_isFree_36) (n_goto hE (by decide) dX0_isFree_39)),
    (n_sq (n_iconst hE (by decide) dX0_isFree_42) (n_zreturn hE rfl dX0_isFree_43)), trivial⟩
noncomputable def F_X0_isFree (as : List XV) (w : XW) : Option (Int32 × XW) := (xF 5 bs_X0_isFree as w).bind pI
theorem m_X0_isFree : XM yX0_isFree cX0_isFree 5 (some .boolean) 0 0 (eI F_X0_isFree) := xm_I (xm_of (by decide) s_X0_isFree)
noncomputable def q_X0_isFree_0 (i1 : Nat) (x2 : Int32) (x3 : Int32) (w : XW) : Option XR := ev bs_X0_isFree 0 ([some (.inr (0, 0)), some (.inr (8, i1)), some (.inl (.int x2)), some (.inl (.int x3)), none], [], w)
noncomputable def q_X0_isFree_3 (i1 : Nat) (x2 : Int32) (x3 : Int32) (x4 : Int32) (w : XW) : Option XR := ev bs_X0_isFree 3 ([some (.inr (0, 0)), some (.inr (8, i1)), some (.inl (.int x2)), some (.inl (.int x3)), some (.inl (.int x4))], [], w)
noncomputable def q_X0_isFree_9 (i1 : Nat) (x2 : Int32) (x3 : Int32) (x4 : Int32) (w : XW) : Option XR := ev bs_X0_isFree 9 ([some (.inr (0, 0)), some (.inr (8, i1)), some (.inl (.int x2)), some (.inl (.int x3)), some (.inl (.int x4))], [], w)
noncomputable def q_X0_isFree_20 (i1 : Nat) (x2 : Int32) (x3 : Int32) (x4 : Int32) (w : XW) : Option XR := ev bs_X0_isFree 20 ([some (.inr (0, 0)), some (.inr (8, i1)), some (.inl (.int x2)), some (.inl (.int x3)), some (.inl (.int x4))], [], w)
noncomputable def q_X0_isFree_34 (w : XW) : Option XR := ev bs_X0_isFree 34 ([none, none, none, none, none], [], w)
noncomputable def q_X0_isFree_36 (i1 : Nat) (x2 : Int32) (x3 : Int32) (x4 : Int32) (w : XW) : Option XR := ev bs_X0_isFree 36 ([some (.inr (0, 0)), some (.inr (8, i1)), some (.inl (.int x2)), some (.inl (.int x3)), some (.inl (.int x4))], [], w)
noncomputable def q_X0_isFree_42 (w : XW) : Option XR := ev bs_X0_isFree 42 ([none, none, none, none, none], [], w)
theorem e_X0_isFree_0 (i1 : Nat) (x2 : Int32) (x3 : Int32) (w : XW) : q_X0_isFree_0 i1 x2 x3 w = (q_X0_isFree_3 i1 x2 x3 0 w) := (ev_eq _ _ _).trans rfl
theorem e_X0_isFree_3 (i1 : Nat) (x2 : Int32) (x3 : Int32) (x4 : Int32) (w : XW) : q_X0_isFree_3 i1 x2 x3 x4 w = (bif decide (x2 ≤ x4) then (q_X0_isFree_42 w) else (q_X0_isFree_9 i1 x2 x3 x4 w)) := (ev_eq _ _ _).trans rfl
theorem e_X0_isFree_9 (i1 : Nat) (x2 : Int32) (x3 : Int32) (x4 : Int32) (w : XW) : q_X0_isFree_9 i1 x2 x3 x4 w = (if x4 < 0 ∨ 6 ≤ x4.toNatClampNeg then none else (bif decide (¬ (gI w 12 0 x4.toNatClampNeg) = x3) then (q_X0_isFree_36 i1 x2 x3 x4 w) else (q_X0_isFree_20 i1 x2 x3 x4 w))) := (ev_eq _ _ _).trans rfl
theorem e_X0_isFree_20 (i1 : Nat) (x2 : Int32) (x3 : Int32) (x4 : Int32) (w : XW) : q_X0_isFree_20 i1 x2 x3 x4 w = (if x2 < 0 ∨ 6 ≤ x2.toNatClampNeg then none else (bif decide (((((gI w 33 i1 x2.toNatClampNeg) : Int32) >>> ((x4 : Int32) &&& 31)) &&& 1) = 0) then (q_X0_isFree_36 i1 x2 x3 x4 w) else (q_X0_isFree_34 w))) := (ev_eq _ _ _).trans rfl
theorem e_X0_isFree_34 (w : XW) : q_X0_isFree_34 w = (some (some (.inl (.int 0)), w)) := (ev_eq _ _ _).trans rfl
theorem e_X0_isFree_36 (i1 : Nat) (x2 : Int32) (x3 : Int32) (x4 : Int32) (w : XW) : q_X0_isFree_36 i1 x2 x3 x4 w = (q_X0_isFree_3 i1 x2 x3 (x4 + 1) w) := (ev_eq _ _ _).trans rfl
theorem e_X0_isFree_42 (w : XW) : q_X0_isFree_42 w = (some (some (.inl (.int 1)), w)) := (ev_eq _ _ _).trans rfl
theorem f_X0_isFree (i1 : Nat) (x2 : Int32) (x3 : Int32) (w : XW) : F_X0_isFree [.inr (0, 0), .inr (8, i1), .inl (.int x2), .inl (.int x3)] w = (q_X0_isFree_0 i1 x2 x3 w).bind pI := rfl

-- WinterKeep$Benches.canSit(LWinterKeep$Scene;II)Z
theorem dX0_canSit_0 : decode cX0_canSit 0 = .ok (.iload_n 2, 1) := by decide +kernel
theorem dX0_canSit_1 : decode cX0_canSit 1 = .ok (.aload_n 1, 1) := by decide +kernel
theorem dX0_canSit_2 : decode cX0_canSit 2 = .ok (.getfield 19, 3) := by decide +kernel
theorem dX0_canSit_5 : decode cX0_canSit 5 = .ok (.if_icmp .ge 9, 3) := by decide +kernel
theorem dX0_canSit_8 : decode cX0_canSit 8 = .ok (.iload_n 2, 1) := by decide +kernel
theorem dX0_canSit_9 : decode cX0_canSit 9 = .ok (.bipush 6, 2) := by decide +kernel
theorem dX0_canSit_11 : decode cX0_canSit 11 = .ok (.if_icmp .lt 5, 3) := by decide +kernel
theorem dX0_canSit_14 : decode cX0_canSit 14 = .ok (.iconst 1, 1) := by decide +kernel
theorem dX0_canSit_15 : decode cX0_canSit 15 = .ok (.ireturn, 1) := by decide +kernel
theorem dX0_canSit_16 : decode cX0_canSit 16 = .ok (.aload_n 1, 1) := by decide +kernel
theorem dX0_canSit_17 : decode cX0_canSit 17 = .ok (.getfield 25, 3) := by decide +kernel
theorem dX0_canSit_20 : decode cX0_canSit 20 = .ok (.iload_n 2, 1) := by decide +kernel
theorem dX0_canSit_21 : decode cX0_canSit 21 = .ok (.iaload, 1) := by decide +kernel
theorem dX0_canSit_22 : decode cX0_canSit 22 = .ok (.bipush (-2), 2) := by decide +kernel
theorem dX0_canSit_24 : decode cX0_canSit 24 = .ok (.if_icmp .ne 20, 3) := by decide +kernel
theorem dX0_canSit_27 : decode cX0_canSit 27 = .ok (.aload_n 0, 1) := by decide +kernel
theorem dX0_canSit_28 : decode cX0_canSit 28 = .ok (.getfield 9, 3) := by decide +kernel
theorem dX0_canSit_31 : decode cX0_canSit 31 = .ok (.iload_n 2, 1) := by decide +kernel
theorem dX0_canSit_32 : decode cX0_canSit 32 = .ok (.iconst (-1), 1) := by decide +kernel
theorem dX0_canSit_33 : decode cX0_canSit 33 = .ok (.iastore, 1) := by decide +kernel
theorem dX0_canSit_34 : decode cX0_canSit 34 = .ok (.aload_n 0, 1) := by decide +kernel
theorem dX0_canSit_35 : decode cX0_canSit 35 = .ok (.aload_n 1, 1) := by decide +kernel
theorem dX0_canSit_36 : decode cX0_canSit 36 = .ok (.iload_n 2, 1) := by decide +kernel
theorem dX0_canSit_37 : decode cX0_canSit 37 = .ok (.iconst 1, 1) := by decide +kernel
theorem dX0_canSit_38 : decode cX0_canSit 38 = .ok (.iadd, 1) := by decide +kernel
theorem dX0_canSit_39 : decode cX0_canSit 39 = .ok (.iload_n 3, 1) := by decide +kernel
theorem dX0_canSit_40 : decode cX0_canSit 40 = .ok (.invokevirtual 15, 3) := by decide +kernel
theorem dX0_canSit_43 : decode cX0_canSit 43 = .ok (.ireturn, 1) := by decide +kernel
theorem dX0_canSit_44 : decode cX0_canSit 44 = .ok (.iconst 0, 1) := by decide +kernel
theorem dX0_canSit_45 : decode cX0_canSit 45 = .ok (.istore 4, 2) := by decide +kernel
theorem dX0_canSit_47 : decode cX0_canSit 47 = .ok (.iload 4, 2) := by decide +kernel
theorem dX0_canSit_49 : decode cX0_canSit 49 = .ok (.iload_n 3, 1) := by decide +kernel
theorem dX0_canSit_50 : decode cX0_canSit 50 = .ok (.if_icmp .ge 42, 3) := by decide +kernel
theorem dX0_canSit_53 : decode cX0_canSit 53 = .ok (.aload_n 0, 1) := by decide +kernel
theorem dX0_canSit_54 : decode cX0_canSit 54 = .ok (.aload_n 1, 1) := by decide +kernel
theorem dX0_canSit_55 : decode cX0_canSit 55 = .ok (.iload_n 2, 1) := by decide +kernel
theorem dX0_canSit_56 : decode cX0_canSit 56 = .ok (.iload 4, 2) := by decide +kernel
theorem dX0_canSit_58 : decode cX0_canSit 58 = .ok (.invokevirtual 28, 3) := by decide +kernel
theorem dX0_canSit_61 : decode cX0_canSit 61 = .ok (.ifCond .eq 25, 3) := by decide +kernel
theorem dX0_canSit_64 : decode cX0_canSit 64 = .ok (.aload_n 0, 1) := by decide +kernel
theorem dX0_canSit_65 : decode cX0_canSit 65 = .ok (.getfield 9, 3) := by decide +kernel
theorem dX0_canSit_68 : decode cX0_canSit 68 = .ok (.iload_n 2, 1) := by decide +kernel
theorem dX0_canSit_69 : decode cX0_canSit 69 = .ok (.iload 4, 2) := by decide +kernel
theorem dX0_canSit_71 : decode cX0_canSit 71 = .ok (.iastore, 1) := by decide +kernel
theorem dX0_canSit_72 : decode cX0_canSit 72 = .ok (.aload_n 0, 1) := by decide +kernel
theorem dX0_canSit_73 : decode cX0_canSit 73 = .ok (.aload_n 1, 1) := by decide +kernel
theorem dX0_canSit_74 : decode cX0_canSit 74 = .ok (.iload_n 2, 1) := by decide +kernel
theorem dX0_canSit_75 : decode cX0_canSit 75 = .ok (.iconst 1, 1) := by decide +kernel
theorem dX0_canSit_76 : decode cX0_canSit 76 = .ok (.iadd, 1) := by decide +kernel
theorem dX0_canSit_77 : decode cX0_canSit 77 = .ok (.iload_n 3, 1) := by decide +kernel
theorem dX0_canSit_78 : decode cX0_canSit 78 = .ok (.invokevirtual 15, 3) := by decide +kernel
theorem dX0_canSit_81 : decode cX0_canSit 81 = .ok (.ifCond .eq 5, 3) := by decide +kernel
theorem dX0_canSit_84 : decode cX0_canSit 84 = .ok (.iconst 1, 1) := by decide +kernel
theorem dX0_canSit_85 : decode cX0_canSit 85 = .ok (.ireturn, 1) := by decide +kernel
theorem dX0_canSit_86 : decode cX0_canSit 86 = .ok (.iinc 4 1, 3) := by decide +kernel
theorem dX0_canSit_89 : decode cX0_canSit 89 = .ok (.goto (-42), 3) := by decide +kernel
theorem dX0_canSit_92 : decode cX0_canSit 92 = .ok (.iconst 0, 1) := by decide +kernel
theorem dX0_canSit_93 : decode cX0_canSit 93 = .ok (.ireturn, 1) := by decide +kernel
theorem vc_X0_15 : XVw RX0 15 3 0 5 yX0_canSit cX0_canSit (some .boolean) := ⟨RX0, TX0, tyX0, 1, xk_0, rfl, ⟨by decide, by decide⟩, by decide +kernel, wt_811, wt_813, ws_26, wt_8, wt_814⟩
theorem vc_X0_28 : XVw RX0 28 3 0 5 yX0_isFree cX0_isFree (some .boolean) := ⟨RX0, TX0, tyX0, 1, xk_0, rfl, ⟨by decide, by decide⟩, by decide +kernel, wt_815, wt_817, ws_27, wt_8, wt_818⟩
noncomputable def bs_X0_canSit (G0 : List XV → XW → Option (Int32 × XW)) : List (Nat × XB) := [
  (0, (sq (xLI 2) (sq (xLA 1) (sq (xGI 8 0) (tIf2 (fun x y => decide (y ≤ x)) 14 [false, false, false, false, false] 8 [true, true, true, true, false]))))),
  (8, (sq (xLI 2) (sq (xC (.int 6)) (tIf2 (fun x y => decide (x < y)) 16 [true, true, true, true, false] 14 [false, false, false, false, false])))),
  (14, (sq (xC (.int 1)) tRZ)),
  (16, (sq (xLA 1) (sq (xGS 8 32 0 0) (sq (xLI 2) (sq (xAI 32 6) (sq (xC (.int (-2))) (tIf2 (fun x y => decide (¬ x = y)) 44 [true, true, true, true, false] 27 [true, true, true, true, false]))))))),
  (27, (sq (xLA 0) (sq (xGS 0 12 0 0) (sq (xLI 2) (sq (xC (.int (-1))) (sq (xTI 12 6 (fun x => x)) (sq (xLA 0) (sq (xLA 1) (sq (xLI 2) (sq (xC (.int 1)) (sq (xI2 (· + ·)) (sq (xLI 3) (sq (xCI 0 4 G0) tRZ))))))))))))),
  (44, (sq (xC (.int 0)) (sq (xSI 4) (tGo 47 [true, true, true, true, true])))),
  (47, (sq (xLI 4) (sq (xLI 3) (tIf2 (fun x y => decide (y ≤ x)) 92 [false, false, false, false, false] 53 [true, true, true, true, true])))),
  (53, (sq (xLA 0) (sq (xLA 1) (sq (xLI 2) (sq (xLI 4) (sq (xCI 0 4 F_X0_isFree) (tIf1 (fun x => decide (x = 0)) 86 [true, true, true, true, true] 64 [true, true, true, true, true]))))))),
  (64, (sq (xLA 0) (sq (xGS 0 12 0 0) (sq (xLI 2) (sq (xLI 4) (sq (xTI 12 6 (fun x => x)) (sq (xLA 0) (sq (xLA 1) (sq (xLI 2) (sq (xC (.int 1)) (sq (xI2 (· + ·)) (sq (xLI 3) (sq (xCI 0 4 G0) (tIf1 (fun x => decide (x = 0)) 86 [true, true, true, true, true] 84 [false, false, false, false, false])))))))))))))),
  (84, (sq (xC (.int 1)) tRZ)),
  (86, (sq (xInc 4 1) (tGo 47 [true, true, true, true, true]))),
  (92, (sq (xC (.int 0)) tRZ))]
set_option maxRecDepth 100000 in
set_option maxHeartbeats 4000000 in
theorem s_X0_canSit {G0 : List XV → XW → Option (Int32 × XW)} (fr lo : Nat) (hG0 : XM yX0_canSit cX0_canSit 5 (some .boolean) fr lo (eI G0)) : ∀ X : XCtx, XE X → X.2.2.1.1 = cX0_canSit → X.2.2.1.2.1 = 5 → X.2.2.1.2.2.1 = yX0_canSit.cls → X.2.2.1.2.2.2.1 = (some .boolean) → X.1.2.2.2.1 = { frames := fr + 1, cells := 0, slots := 0, locals := lo + 24 } → SndBs X (bs_X0_canSit G0) := by
  rintro ⟨⟨p, l, e, R, s⟩, Y, ⟨cc, nL, own, ret, Ts⟩, Z⟩ hE h1 h2 h3 h4 h5
  dsimp only at h1 h2 h3 h4 h5
  subst h1 h2 h3 h4 h5
  exact ⟨(n_sq (n_iload_n hE dX0_canSit_0) (n_sq (n_aload_n hE dX0_canSit_1) (n_sq (n_getI hE xk_8 (k := 0) rfl (by decide) rfl wt_174 dX0_canSit_2) (n_ifcge hE (by decide) dX0_canSit_5)))),
    (n_sq (n_iload_n hE dX0_canSit_8) (n_sq (n_bipush hE (by decide) dX0_canSit_9) (n_ifclt hE (by decide) dX0_canSit_11))),
    (n_sq (n_iconst hE (by decide) dX0_canSit_14) (n_zreturn hE rfl dX0_canSit_15)),
    (n_sq (n_aload_n hE dX0_canSit_16) (n_sq (n_getS hE xk_8 (k := 4) rfl (by decide) rfl wt_188 dX0_canSit_17) (n_sq (n_iload_n hE dX0_canSit_20) (n_sq (n_iald hE rfl (by decide) dX0_canSit_21) (n_sq (n_bipush hE (by decide) dX0_canSit_22) (n_ifcne hE (by decide) dX0_canSit_24)))))),
    (n_sq (n_aload_n hE dX0_canSit_27) (n_sq (n_getS hE xk_0 (k := 0) rfl (by decide) rfl wt_254 dX0_canSit_28) (n_sq (n_iload_n hE dX0_canSit_31) (n_sq (n_iconst hE (by decide) dX0_canSit_32) (n_sq (n_iast hE rfl (by decide) dX0_canSit_33) (n_sq (n_aload_n hE dX0_canSit_34) (n_sq (n_aload_n hE dX0_canSit_35) (n_sq (n_iload_n hE dX0_canSit_36) (n_sq (n_iconst hE (by decide) dX0_canSit_37) (n_sq (n_iadd hE dX0_canSit_38) (n_sq (n_iload_n hE dX0_canSit_39) (n_sq (n_cIv hE hG0 vc_X0_15 (show fr + 1 ≤ (fr + 1) ∧ 8 + (5 + 11) + lo ≤ (lo + 24) by omega) dX0_canSit_40) (n_zreturn hE rfl dX0_canSit_43))))))))))))),
    (n_sq (n_iconst hE (by decide) dX0_canSit_44) (n_sq (n_istore hE (show (4 : Nat) < 5 by decide) dX0_canSit_45) n_fall)),
    (n_sq (n_iload hE dX0_canSit_47) (n_sq (n_iload_n hE dX0_canSit_49) (n_ifcge hE (by decide) dX0_canSit_50))),
    (n_sq (n_aload_n hE dX0_canSit_53) (n_sq (n_aload_n hE dX0_canSit_54) (n_sq (n_iload_n hE dX0_canSit_55) (n_sq (n_iload hE dX0_canSit_56) (n_sq (n_cIv hE m_X0_isFree vc_X0_28 (show 0 + 1 ≤ (fr + 1) ∧ 8 + (5 + 11) + 0 ≤ (lo + 24) by omega) dX0_canSit_58) (n_ifeq hE (by decide) dX0_canSit_61)))))),
    (n_sq (n_aload_n hE dX0_canSit_64) (n_sq (n_getS hE xk_0 (k := 0) rfl (by decide) rfl wt_254 dX0_canSit_65) (n_sq (n_iload_n hE dX0_canSit_68) (n_sq (n_iload hE dX0_canSit_69) (n_sq (n_iast hE rfl (by decide) dX0_canSit_71) (n_sq (n_aload_n hE dX0_canSit_72) (n_sq (n_aload_n hE dX0_canSit_73) (n_sq (n_iload_n hE dX0_canSit_74) (n_sq (n_iconst hE (by decide) dX0_canSit_75) (n_sq (n_iadd hE dX0_canSit_76) (n_sq (n_iload_n hE dX0_canSit_77) (n_sq (n_cIv hE hG0 vc_X0_15 (show fr + 1 ≤ (fr + 1) ∧ 8 + (5 + 11) + lo ≤ (lo + 24) by omega) dX0_canSit_78) (n_ifeq hE (by decide) dX0_canSit_81))))))))))))),
    (n_sq (n_iconst hE (by decide) dX0_canSit_84) (n_zreturn hE rfl dX0_canSit_85)),
    (n_sq (n_iinc hE (by decide) (show (4 : Nat) < 5 by decide) dX0_canSit_86) (n_goto hE (by decide) dX0_canSit_89)),
    (n_sq (n_iconst hE (by decide) dX0_canSit_92) (n_zreturn hE rfl dX0_canSit_93)), trivial⟩
noncomputable def q_X0_canSit_0 (G0 : List XV → XW → Option (Int32 × XW)) (i1 : Nat) (x2 : Int32) (x3 : Int32) (w : XW) : Option XR := ev (bs_X0_canSit G0) 0 ([some (.inr (0, 0)), some (.inr (8, i1)), some (.inl (.int x2)), some (.inl (.int x3)), none], [], w)
noncomputable def q_X0_canSit_8 (G0 : List XV → XW → Option (Int32 × XW)) (i1 : Nat) (x2 : Int32) (x3 : Int32) (w : XW) : Option XR := ev (bs_X0_canSit G0) 8 ([some (.inr (0, 0)), some (.inr (8, i1)), some (.inl (.int x2)), some (.inl (.int x3)), none], [], w)
noncomputable def q_X0_canSit_14 (G0 : List XV → XW → Option (Int32 × XW)) (w : XW) : Option XR := ev (bs_X0_canSit G0) 14 ([none, none, none, none, none], [], w)
noncomputable def q_X0_canSit_16 (G0 : List XV → XW → Option (Int32 × XW)) (i1 : Nat) (x2 : Int32) (x3 : Int32) (w : XW) : Option XR := ev (bs_X0_canSit G0) 16 ([some (.inr (0, 0)), some (.inr (8, i1)), some (.inl (.int x2)), some (.inl (.int x3)), none], [], w)
noncomputable def q_X0_canSit_27 (G0 : List XV → XW → Option (Int32 × XW)) (i1 : Nat) (x2 : Int32) (x3 : Int32) (w : XW) : Option XR := ev (bs_X0_canSit G0) 27 ([some (.inr (0, 0)), some (.inr (8, i1)), some (.inl (.int x2)), some (.inl (.int x3)), none], [], w)
noncomputable def q_X0_canSit_44 (G0 : List XV → XW → Option (Int32 × XW)) (i1 : Nat) (x2 : Int32) (x3 : Int32) (w : XW) : Option XR := ev (bs_X0_canSit G0) 44 ([some (.inr (0, 0)), some (.inr (8, i1)), some (.inl (.int x2)), some (.inl (.int x3)), none], [], w)
noncomputable def q_X0_canSit_47 (G0 : List XV → XW → Option (Int32 × XW)) (i1 : Nat) (x2 : Int32) (x3 : Int32) (x4 : Int32) (w : XW) : Option XR := ev (bs_X0_canSit G0) 47 ([some (.inr (0, 0)), some (.inr (8, i1)), some (.inl (.int x2)), some (.inl (.int x3)), some (.inl (.int x4))], [], w)
noncomputable def q_X0_canSit_53 (G0 : List XV → XW → Option (Int32 × XW)) (i1 : Nat) (x2 : Int32) (x3 : Int32) (x4 : Int32) (w : XW) : Option XR := ev (bs_X0_canSit G0) 53 ([some (.inr (0, 0)), some (.inr (8, i1)), some (.inl (.int x2)), some (.inl (.int x3)), some (.inl (.int x4))], [], w)
noncomputable def q_X0_canSit_64 (G0 : List XV → XW → Option (Int32 × XW)) (i1 : Nat) (x2 : Int32) (x3 : Int32) (x4 : Int32) (w : XW) : Option XR := ev (bs_X0_canSit G0) 64 ([some (.inr (0, 0)), some (.inr (8, i1)), some (.inl (.int x2)), some (.inl (.int x3)), some (.inl (.int x4))], [], w)
noncomputable def q_X0_canSit_84 (G0 : List XV → XW → Option (Int32 × XW)) (w : XW) : Option XR := ev (bs_X0_canSit G0) 84 ([none, none, none, none, none], [], w)
noncomputable def q_X0_canSit_86 (G0 : List XV → XW → Option (Int32 × XW)) (i1 : Nat) (x2 : Int32) (x3 : Int32) (x4 : Int32) (w : XW) : Option XR := ev (bs_X0_canSit G0) 86 ([some (.inr (0, 0)), some (.inr (8, i1)), some (.inl (.int x2)), some (.inl (.int x3)), some (.inl (.int x4))], [], w)
noncomputable def q_X0_canSit_92 (G0 : List XV → XW → Option (Int32 × XW)) (w : XW) : Option XR := ev (bs_X0_canSit G0) 92 ([none, none, none, none, none], [], w)
theorem e_X0_canSit_0 (G0 : List XV → XW → Option (Int32 × XW)) (i1 : Nat) (x2 : Int32) (x3 : Int32) (w : XW) : q_X0_canSit_0 G0 i1 x2 x3 w = (bif decide ((gI w 8 i1 0) ≤ x2) then (q_X0_canSit_14 G0 w) else (q_X0_canSit_8 G0 i1 x2 x3 w)) := (ev_eq _ _ _).trans rfl
theorem e_X0_canSit_8 (G0 : List XV → XW → Option (Int32 × XW)) (i1 : Nat) (x2 : Int32) (x3 : Int32) (w : XW) : q_X0_canSit_8 G0 i1 x2 x3 w = (bif decide (x2 < 6) then (q_X0_canSit_16 G0 i1 x2 x3 w) else (q_X0_canSit_14 G0 w)) := (ev_eq _ _ _).trans rfl
theorem e_X0_canSit_14 (G0 : List XV → XW → Option (Int32 × XW)) (w : XW) : q_X0_canSit_14 G0 w = (some (some (.inl (.int 1)), w)) := (ev_eq _ _ _).trans rfl
theorem e_X0_canSit_16 (G0 : List XV → XW → Option (Int32 × XW)) (i1 : Nat) (x2 : Int32) (x3 : Int32) (w : XW) : q_X0_canSit_16 G0 i1 x2 x3 w = (if x2 < 0 ∨ 6 ≤ x2.toNatClampNeg then none else (bif decide (¬ (gI w 32 i1 x2.toNatClampNeg) = (-2)) then (q_X0_canSit_44 G0 i1 x2 x3 w) else (q_X0_canSit_27 G0 i1 x2 x3 w))) := (ev_eq _ _ _).trans rfl
theorem e_X0_canSit_27 (G0 : List XV → XW → Option (Int32 × XW)) (i1 : Nat) (x2 : Int32) (x3 : Int32) (w : XW) : q_X0_canSit_27 G0 i1 x2 x3 w = (if x2 < 0 ∨ 6 ≤ x2.toNatClampNeg then none else ((G0 [.inr (0, 0), .inr (8, i1), .inl (.int (x2 + 1)), .inl (.int x3)] (sI w 12 0 x2.toNatClampNeg (-1))).bind fun r0 => (if r0.1 = 0 ∨ r0.1 = 1 then some (some (.inl (.int r0.1)), r0.2) else none))) := (ev_eq _ _ _).trans rfl
theorem e_X0_canSit_44 (G0 : List XV → XW → Option (Int32 × XW)) (i1 : Nat) (x2 : Int32) (x3 : Int32) (w : XW) : q_X0_canSit_44 G0 i1 x2 x3 w = (q_X0_canSit_47 G0 i1 x2 x3 0 w) := (ev_eq _ _ _).trans rfl
theorem e_X0_canSit_47 (G0 : List XV → XW → Option (Int32 × XW)) (i1 : Nat) (x2 : Int32) (x3 : Int32) (x4 : Int32) (w : XW) : q_X0_canSit_47 G0 i1 x2 x3 x4 w = (bif decide (x3 ≤ x4) then (q_X0_canSit_92 G0 w) else (q_X0_canSit_53 G0 i1 x2 x3 x4 w)) := (ev_eq _ _ _).trans rfl
theorem e_X0_canSit_53 (G0 : List XV → XW → Option (Int32 × XW)) (i1 : Nat) (x2 : Int32) (x3 : Int32) (x4 : Int32) (w : XW) : q_X0_canSit_53 G0 i1 x2 x3 x4 w = ((F_X0_isFree [.inr (0, 0), .inr (8, i1), .inl (.int x2), .inl (.int x4)] w).bind fun r0 => (bif decide (r0.1 = 0) then (q_X0_canSit_86 G0 i1 x2 x3 x4 r0.2) else (q_X0_canSit_64 G0 i1 x2 x3 x4 r0.2))) := (ev_eq _ _ _).trans rfl
theorem e_X0_canSit_64 (G0 : List XV → XW → Option (Int32 × XW)) (i1 : Nat) (x2 : Int32) (x3 : Int32) (x4 : Int32) (w : XW) : q_X0_canSit_64 G0 i1 x2 x3 x4 w = (if x2 < 0 ∨ 6 ≤ x2.toNatClampNeg then none else ((G0 [.inr (0, 0), .inr (8, i1), .inl (.int (x2 + 1)), .inl (.int x3)] (sI w 12 0 x2.toNatClampNeg x4)).bind fun r0 => (bif decide (r0.1 = 0) then (q_X0_canSit_86 G0 i1 x2 x3 x4 r0.2) else (q_X0_canSit_84 G0 r0.2)))) := (ev_eq _ _ _).trans rfl
theorem e_X0_canSit_84 (G0 : List XV → XW → Option (Int32 × XW)) (w : XW) : q_X0_canSit_84 G0 w = (some (some (.inl (.int 1)), w)) := (ev_eq _ _ _).trans rfl
theorem e_X0_canSit_86 (G0 : List XV → XW → Option (Int32 × XW)) (i1 : Nat) (x2 : Int32) (x3 : Int32) (x4 : Int32) (w : XW) : q_X0_canSit_86 G0 i1 x2 x3 x4 w = (q_X0_canSit_47 G0 i1 x2 x3 (x4 + 1) w) := (ev_eq _ _ _).trans rfl
theorem e_X0_canSit_92 (G0 : List XV → XW → Option (Int32 × XW)) (w : XW) : q_X0_canSit_92 G0 w = (some (some (.inl (.int 0)), w)) := (ev_eq _ _ _).trans rfl

noncomputable def F_X0_canSit : Nat → List XV → XW → Option (Int32 × XW)
  | 0 => fun _ _ => none
  | d + 1 => fun as w => (xF 5 (bs_X0_canSit (F_X0_canSit d)) as w).bind pI

theorem m_X0_canSit : ∀ d : Nat, XM yX0_canSit cX0_canSit 5 (some .boolean) (1 * d) (24 * d) (eI (F_X0_canSit d)) := by
  intro d
  induction d with
  | zero => intro l D A ad cy cnt as w rr h; cases h
  | succ d ih => exact xm_I (xm_of (by decide) (s_X0_canSit (1 * d) (24 * d) ih))

theorem f_X0_canSit (d : Nat) (i1 : Nat) (x2 : Int32) (x3 : Int32) (w : XW) : F_X0_canSit (d + 1) [.inr (0, 0), .inr (8, i1), .inl (.int x2), .inl (.int x3)] w = (q_X0_canSit_0 (F_X0_canSit d) i1 x2 x3 w).bind pI := rfl

-- WinterKeep$Benches.fewest(LWinterKeep$Scene;)I
theorem dX0_fewest_0 : decode cX0_fewest 0 = .ok (.iconst 0, 1) := by decide +kernel
theorem dX0_fewest_1 : decode cX0_fewest 1 = .ok (.istore_n 2, 1) := by decide +kernel
theorem dX0_fewest_2 : decode cX0_fewest 2 = .ok (.iload_n 2, 1) := by decide +kernel
theorem dX0_fewest_3 : decode cX0_fewest 3 = .ok (.bipush 6, 2) := by decide +kernel
theorem dX0_fewest_5 : decode cX0_fewest 5 = .ok (.if_icmp .ge 21, 3) := by decide +kernel
theorem dX0_fewest_8 : decode cX0_fewest 8 = .ok (.aload_n 0, 1) := by decide +kernel
theorem dX0_fewest_9 : decode cX0_fewest 9 = .ok (.aload_n 1, 1) := by decide +kernel
theorem dX0_fewest_10 : decode cX0_fewest 10 = .ok (.iconst 0, 1) := by decide +kernel
theorem dX0_fewest_11 : decode cX0_fewest 11 = .ok (.iload_n 2, 1) := by decide +kernel
theorem dX0_fewest_12 : decode cX0_fewest 12 = .ok (.invokevirtual 15, 3) := by decide +kernel
theorem dX0_fewest_15 : decode cX0_fewest 15 = .ok (.ifCond .eq 5, 3) := by decide +kernel
theorem dX0_fewest_18 : decode cX0_fewest 18 = .ok (.iload_n 2, 1) := by decide +kernel
theorem dX0_fewest_19 : decode cX0_fewest 19 = .ok (.ireturn, 1) := by decide +kernel
theorem dX0_fewest_20 : decode cX0_fewest 20 = .ok (.iinc 2 1, 3) := by decide +kernel
theorem dX0_fewest_23 : decode cX0_fewest 23 = .ok (.goto (-21), 3) := by decide +kernel
theorem dX0_fewest_26 : decode cX0_fewest 26 = .ok (.aload_n 0, 1) := by decide +kernel
theorem dX0_fewest_27 : decode cX0_fewest 27 = .ok (.aload_n 1, 1) := by decide +kernel
theorem dX0_fewest_28 : decode cX0_fewest 28 = .ok (.iconst 0, 1) := by decide +kernel
theorem dX0_fewest_29 : decode cX0_fewest 29 = .ok (.bipush 6, 2) := by decide +kernel
theorem dX0_fewest_31 : decode cX0_fewest 31 = .ok (.invokevirtual 15, 3) := by decide +kernel
theorem dX0_fewest_34 : decode cX0_fewest 34 = .ok (.ifCond .eq 8, 3) := by decide +kernel
theorem dX0_fewest_37 : decode cX0_fewest 37 = .ok (.bipush 6, 2) := by decide +kernel
theorem dX0_fewest_39 : decode cX0_fewest 39 = .ok (.goto 4, 3) := by decide +kernel
theorem dX0_fewest_42 : decode cX0_fewest 42 = .ok (.iconst (-1), 1) := by decide +kernel
theorem dX0_fewest_43 : decode cX0_fewest 43 = .ok (.ireturn, 1) := by decide +kernel
noncomputable def bs_X0_fewest : List (Nat × XB) := [
  (0, (sq (xC (.int 0)) (sq (xSI 2) (tGo 2 [true, true, true])))),
  (2, (sq (xLI 2) (sq (xC (.int 6)) (tIf2 (fun x y => decide (y ≤ x)) 26 [true, true, false] 8 [true, true, true])))),
  (8, (sq (xLA 0) (sq (xLA 1) (sq (xC (.int 0)) (sq (xLI 2) (sq (xCI 0 4 (F_X0_canSit 8)) (tIf1 (fun x => decide (x = 0)) 20 [true, true, true] 18 [false, false, true]))))))),
  (18, (sq (xLI 2) tRI)),
  (20, (sq (xInc 2 1) (tGo 2 [true, true, true]))),
  (26, (sq (xLA 0) (sq (xLA 1) (sq (xC (.int 0)) (sq (xC (.int 6)) (sq (xCI 0 4 (F_X0_canSit 8)) (tIf1 (fun x => decide (x = 0)) 42 [false, false, false] 37 [false, false, false]))))))),
  (37, (sq (xC (.int 6)) (tGo 43 [false, false, false]))),
  (42, (sq (xC (.int (-1))) (tGo 43 [false, false, false]))),
  (43, tRI)]
set_option maxRecDepth 100000 in
set_option maxHeartbeats 4000000 in
theorem s_X0_fewest : ∀ X : XCtx, XE X → X.2.2.1.1 = cX0_fewest → X.2.2.1.2.1 = 3 → X.2.2.1.2.2.1 = yX0_fewest.cls → X.2.2.1.2.2.2.1 = (some .int) → X.1.2.2.2.1 = { frames := 9, cells := 0, slots := 0, locals := 216 } → SndBs X bs_X0_fewest := by
  rintro ⟨⟨p, l, e, R, s⟩, Y, ⟨cc, nL, own, ret, Ts⟩, Z⟩ hE h1 h2 h3 h4 h5
  dsimp only at h1 h2 h3 h4 h5
  subst h1 h2 h3 h4 h5
  exact ⟨(n_sq (n_iconst hE (by decide) dX0_fewest_0) (n_sq (n_istore_n hE (show (2 : Nat) < 3 by decide) dX0_fewest_1) n_fall)),
    (n_sq (n_iload_n hE dX0_fewest_2) (n_sq (n_bipush hE (by decide) dX0_fewest_3) (n_ifcge hE (by decide) dX0_fewest_5))),
    (n_sq (n_aload_n hE dX0_fewest_8) (n_sq (n_aload_n hE dX0_fewest_9) (n_sq (n_iconst hE (by decide) dX0_fewest_10) (n_sq (n_iload_n hE dX0_fewest_11) (n_sq (n_cIv hE (m_X0_canSit 8) vc_X0_15 (show (1 * 8) + 1 ≤ 9 ∧ 8 + (5 + 11) + (24 * 8) ≤ 216 by omega) dX0_fewest_12) (n_ifeq hE (by decide) dX0_fewest_15)))))),
    (n_sq (n_iload_n hE dX0_fewest_18) (n_ireturn hE rfl dX0_fewest_19)),
    (n_sq (n_iinc hE (by decide) (show (2 : Nat) < 3 by decide) dX0_fewest_20) (n_goto hE (by decide) dX0_fewest_23)),
    (n_sq (n_aload_n hE dX0_fewest_26) (n_sq (n_aload_n hE dX0_fewest_27) (n_sq (n_iconst hE (by decide) dX0_fewest_28) (n_sq (n_bipush hE (by decide) dX0_fewest_29) (n_sq (n_cIv hE (m_X0_canSit 8) vc_X0_15 (show (1 * 8) + 1 ≤ 9 ∧ 8 + (5 + 11) + (24 * 8) ≤ 216 by omega) dX0_fewest_31) (n_ifeq hE (by decide) dX0_fewest_34)))))),
    (n_sq (n_bipush hE (by decide) dX0_fewest_37) (n_goto hE (by decide) dX0_fewest_39)),
    (n_sq (n_iconst hE (by decide) dX0_fewest_42) n_fall),
    (n_ireturn hE rfl dX0_fewest_43), trivial⟩
noncomputable def F_X0_fewest (as : List XV) (w : XW) : Option (Int32 × XW) := (xF 3 bs_X0_fewest as w).bind pI
theorem m_X0_fewest : XM yX0_fewest cX0_fewest 3 (some .int) 9 216 (eI F_X0_fewest) := xm_I (xm_of (by decide) s_X0_fewest)
noncomputable def q_X0_fewest_0 (i1 : Nat) (w : XW) : Option XR := ev bs_X0_fewest 0 ([some (.inr (0, 0)), some (.inr (8, i1)), none], [], w)
noncomputable def q_X0_fewest_2 (i1 : Nat) (x2 : Int32) (w : XW) : Option XR := ev bs_X0_fewest 2 ([some (.inr (0, 0)), some (.inr (8, i1)), some (.inl (.int x2))], [], w)
noncomputable def q_X0_fewest_8 (i1 : Nat) (x2 : Int32) (w : XW) : Option XR := ev bs_X0_fewest 8 ([some (.inr (0, 0)), some (.inr (8, i1)), some (.inl (.int x2))], [], w)
noncomputable def q_X0_fewest_18 (x2 : Int32) (w : XW) : Option XR := ev bs_X0_fewest 18 ([none, none, some (.inl (.int x2))], [], w)
noncomputable def q_X0_fewest_20 (i1 : Nat) (x2 : Int32) (w : XW) : Option XR := ev bs_X0_fewest 20 ([some (.inr (0, 0)), some (.inr (8, i1)), some (.inl (.int x2))], [], w)
noncomputable def q_X0_fewest_26 (i1 : Nat) (w : XW) : Option XR := ev bs_X0_fewest 26 ([some (.inr (0, 0)), some (.inr (8, i1)), none], [], w)
noncomputable def q_X0_fewest_37 (w : XW) : Option XR := ev bs_X0_fewest 37 ([none, none, none], [], w)
noncomputable def q_X0_fewest_42 (w : XW) : Option XR := ev bs_X0_fewest 42 ([none, none, none], [], w)
noncomputable def q_X0_fewest_43 (s0 : Int32) (w : XW) : Option XR := ev bs_X0_fewest 43 ([none, none, none], [.inl (.int s0)], w)
theorem e_X0_fewest_0 (i1 : Nat) (w : XW) : q_X0_fewest_0 i1 w = (q_X0_fewest_2 i1 0 w) := (ev_eq _ _ _).trans rfl
theorem e_X0_fewest_2 (i1 : Nat) (x2 : Int32) (w : XW) : q_X0_fewest_2 i1 x2 w = (bif decide (6 ≤ x2) then (q_X0_fewest_26 i1 w) else (q_X0_fewest_8 i1 x2 w)) := (ev_eq _ _ _).trans rfl
theorem e_X0_fewest_8 (i1 : Nat) (x2 : Int32) (w : XW) : q_X0_fewest_8 i1 x2 w = (((F_X0_canSit 8) [.inr (0, 0), .inr (8, i1), .inl (.int 0), .inl (.int x2)] w).bind fun r0 => (bif decide (r0.1 = 0) then (q_X0_fewest_20 i1 x2 r0.2) else (q_X0_fewest_18 x2 r0.2))) := (ev_eq _ _ _).trans rfl
theorem e_X0_fewest_18 (x2 : Int32) (w : XW) : q_X0_fewest_18 x2 w = (some (some (.inl (.int x2)), w)) := (ev_eq _ _ _).trans rfl
theorem e_X0_fewest_20 (i1 : Nat) (x2 : Int32) (w : XW) : q_X0_fewest_20 i1 x2 w = (q_X0_fewest_2 i1 (x2 + 1) w) := (ev_eq _ _ _).trans rfl
theorem e_X0_fewest_26 (i1 : Nat) (w : XW) : q_X0_fewest_26 i1 w = (((F_X0_canSit 8) [.inr (0, 0), .inr (8, i1), .inl (.int 0), .inl (.int 6)] w).bind fun r0 => (bif decide (r0.1 = 0) then (q_X0_fewest_42 r0.2) else (q_X0_fewest_37 r0.2))) := (ev_eq _ _ _).trans rfl
theorem e_X0_fewest_37 (w : XW) : q_X0_fewest_37 w = (q_X0_fewest_43 6 w) := (ev_eq _ _ _).trans rfl
theorem e_X0_fewest_42 (w : XW) : q_X0_fewest_42 w = (q_X0_fewest_43 (-1) w) := (ev_eq _ _ _).trans rfl
theorem e_X0_fewest_43 (s0 : Int32) (w : XW) : q_X0_fewest_43 s0 w = (some (some (.inl (.int s0)), w)) := (ev_eq _ _ _).trans rfl
theorem f_X0_fewest (i1 : Nat) (w : XW) : F_X0_fewest [.inr (0, 0), .inr (8, i1)] w = (q_X0_fewest_0 i1 w).bind pI := rfl
