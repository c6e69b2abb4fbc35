-- WinterKeep.spring(II)I
theorem dX11_spring_0 : decode cX11_spring 0 = .ok (.aload_n 0, 1) := by decide +kernel
theorem dX11_spring_1 : decode cX11_spring 1 = .ok (.getfield 39, 3) := by decide +kernel
theorem dX11_spring_4 : decode cX11_spring 4 = .ok (.getfield 227, 3) := by decide +kernel
theorem dX11_spring_7 : decode cX11_spring 7 = .ok (.ifCond .eq 22, 3) := by decide +kernel
theorem dX11_spring_10 : decode cX11_spring 10 = .ok (.iload_n 1, 1) := by decide +kernel
theorem dX11_spring_11 : decode cX11_spring 11 = .ok (.iconst 0, 1) := by decide +kernel
theorem dX11_spring_12 : decode cX11_spring 12 = .ok (.bipush 60, 2) := by decide +kernel
theorem dX11_spring_14 : decode cX11_spring 14 = .ok (.invokestatic 170, 3) := by decide +kernel
theorem dX11_spring_17 : decode cX11_spring 17 = .ok (.ifCond .eq 12, 3) := by decide +kernel
theorem dX11_spring_20 : decode cX11_spring 20 = .ok (.iload_n 2, 1) := by decide +kernel
theorem dX11_spring_21 : decode cX11_spring 21 = .ok (.iconst 0, 1) := by decide +kernel
theorem dX11_spring_22 : decode cX11_spring 22 = .ok (.iconst 1, 1) := by decide +kernel
theorem dX11_spring_23 : decode cX11_spring 23 = .ok (.invokestatic 170, 3) := by decide +kernel
theorem dX11_spring_26 : decode cX11_spring 26 = .ok (.ifCond .ne 5, 3) := by decide +kernel
theorem dX11_spring_29 : decode cX11_spring 29 = .ok (.iconst (-1), 1) := by decide +kernel
theorem dX11_spring_30 : decode cX11_spring 30 = .ok (.ireturn, 1) := by decide +kernel
theorem dX11_spring_31 : decode cX11_spring 31 = .ok (.aload_n 0, 1) := by decide +kernel
theorem dX11_spring_32 : decode cX11_spring 32 = .ok (.invokevirtual 250, 3) := by decide +kernel
theorem dX11_spring_35 : decode cX11_spring 35 = .ok (.aload_n 0, 1) := by decide +kernel
theorem dX11_spring_36 : decode cX11_spring 36 = .ok (.getfield 63, 3) := by decide +kernel
theorem dX11_spring_39 : decode cX11_spring 39 = .ok (.aload_n 0, 1) := by decide +kernel
theorem dX11_spring_40 : decode cX11_spring 40 = .ok (.getfield 39, 3) := by decide +kernel
theorem dX11_spring_43 : decode cX11_spring 43 = .ok (.aload_n 0, 1) := by decide +kernel
theorem dX11_spring_44 : decode cX11_spring 44 = .ok (.getfield 50, 3) := by decide +kernel
theorem dX11_spring_47 : decode cX11_spring 47 = .ok (.invokevirtual 259, 3) := by decide +kernel
theorem dX11_spring_50 : decode cX11_spring 50 = .ok (.istore_n 3, 1) := by decide +kernel
theorem dX11_spring_51 : decode cX11_spring 51 = .ok (.iconst 0, 1) := by decide +kernel
theorem dX11_spring_52 : decode cX11_spring 52 = .ok (.istore 4, 2) := by decide +kernel
theorem dX11_spring_54 : decode cX11_spring 54 = .ok (.iconst 1, 1) := by decide +kernel
theorem dX11_spring_55 : decode cX11_spring 55 = .ok (.istore 5, 2) := by decide +kernel
theorem dX11_spring_57 : decode cX11_spring 57 = .ok (.iload 5, 2) := by decide +kernel
theorem dX11_spring_59 : decode cX11_spring 59 = .ok (.iload_n 1, 1) := by decide +kernel
theorem dX11_spring_60 : decode cX11_spring 60 = .ok (.if_icmp .gt 51, 3) := by decide +kernel
theorem dX11_spring_63 : decode cX11_spring 63 = .ok (.aload_n 0, 1) := by decide +kernel
theorem dX11_spring_64 : decode cX11_spring 64 = .ok (.getfield 56, 3) := by decide +kernel
theorem dX11_spring_67 : decode cX11_spring 67 = .ok (.aload_n 0, 1) := by decide +kernel
theorem dX11_spring_68 : decode cX11_spring 68 = .ok (.getfield 50, 3) := by decide +kernel
theorem dX11_spring_71 : decode cX11_spring 71 = .ok (.invokevirtual 242, 3) := by decide +kernel
theorem dX11_spring_74 : decode cX11_spring 74 = .ok (.pop, 1) := by decide +kernel
theorem dX11_spring_75 : decode cX11_spring 75 = .ok (.aload_n 0, 1) := by decide +kernel
theorem dX11_spring_76 : decode cX11_spring 76 = .ok (.getfield 63, 3) := by decide +kernel
theorem dX11_spring_79 : decode cX11_spring 79 = .ok (.aload_n 0, 1) := by decide +kernel
theorem dX11_spring_80 : decode cX11_spring 80 = .ok (.getfield 39, 3) := by decide +kernel
theorem dX11_spring_83 : decode cX11_spring 83 = .ok (.aload_n 0, 1) := by decide +kernel
theorem dX11_spring_84 : decode cX11_spring 84 = .ok (.getfield 50, 3) := by decide +kernel
theorem dX11_spring_87 : decode cX11_spring 87 = .ok (.invokevirtual 259, 3) := by decide +kernel
theorem dX11_spring_90 : decode cX11_spring 90 = .ok (.istore 6, 2) := by decide +kernel
theorem dX11_spring_92 : decode cX11_spring 92 = .ok (.iload 6, 2) := by decide +kernel
theorem dX11_spring_94 : decode cX11_spring 94 = .ok (.iload_n 3, 1) := by decide +kernel
theorem dX11_spring_95 : decode cX11_spring 95 = .ok (.if_icmp .le 10, 3) := by decide +kernel
theorem dX11_spring_98 : decode cX11_spring 98 = .ok (.iload 6, 2) := by decide +kernel
theorem dX11_spring_100 : decode cX11_spring 100 = .ok (.istore_n 3, 1) := by decide +kernel
theorem dX11_spring_101 : decode cX11_spring 101 = .ok (.iload 5, 2) := by decide +kernel
theorem dX11_spring_103 : decode cX11_spring 103 = .ok (.istore 4, 2) := by decide +kernel
theorem dX11_spring_105 : decode cX11_spring 105 = .ok (.iinc 5 1, 3) := by decide +kernel
theorem dX11_spring_108 : decode cX11_spring 108 = .ok (.goto (-51), 3) := by decide +kernel
theorem dX11_spring_111 : decode cX11_spring 111 = .ok (.iload_n 2, 1) := by decide +kernel
theorem dX11_spring_112 : decode cX11_spring 112 = .ok (.ifCond .ne 8, 3) := by decide +kernel
theorem dX11_spring_115 : decode cX11_spring 115 = .ok (.iload 4, 2) := by decide +kernel
theorem dX11_spring_117 : decode cX11_spring 117 = .ok (.goto 4, 3) := by decide +kernel
theorem dX11_spring_120 : decode cX11_spring 120 = .ok (.iload_n 3, 1) := by decide +kernel
theorem dX11_spring_121 : decode cX11_spring 121 = .ok (.ireturn, 1) := by decide +kernel
noncomputable def bs_X11_spring : List (Nat × XB) := [
  (0, (sq (xLA 0) (sq (xGD 10 5 1) (sq (xGI 1 0) (tIf1 (fun x => decide (x = 0)) 29 [false, false, false, false, false, false, false] 10 [true, true, true, false, false, false, false]))))),
  (10, (sq (xLI 1) (sq (xC (.int 0)) (sq (xC (.int 60)) (sq (xCI 99 3 F_X11_within) (tIf1 (fun x => decide (x = 0)) 29 [false, false, false, false, false, false, false] 20 [true, true, true, false, false, false, false])))))),
  (20, (sq (xLI 2) (sq (xC (.int 0)) (sq (xC (.int 1)) (sq (xCI 99 3 F_X11_within) (tIf1 (fun x => decide (¬ x = 0)) 31 [true, true, true, false, false, false, false] 29 [false, false, false, false, false, false, false])))))),
  (29, (sq (xC (.int (-1))) tRI)),
  (31, (sq (xLA 0) (sq (xCV 10 1 F_X11_startFromNow) (sq (xLA 0) (sq (xGS 10 5 1 0) (sq (xLA 0) (sq (xGD 10 5 1) (sq (xLA 0) (sq (xGS 10 8 1 1) (sq (xCI 5 3 F_X6_find) (sq (xSI 3) (sq (xC (.int 0)) (sq (xSI 4) (sq (xC (.int 1)) (sq (xSI 5) (tGo 57 [true, true, true, true, true, true, false])))))))))))))))),
  (57, (sq (xLI 5) (sq (xLI 1) (tIf2 (fun x y => decide (y < x)) 111 [false, false, true, true, true, false, false] 63 [true, true, true, true, true, true, false])))),
  (63, (sq (xLA 0) (sq (xGS 10 3 1 0) (sq (xLA 0) (sq (xGS 10 8 1 1) (sq (xCI 3 2 F_X4_pass) (sq (xPop) (sq (xLA 0) (sq (xGS 10 5 1 0) (sq (xLA 0) (sq (xGD 10 5 1) (sq (xLA 0) (sq (xGS 10 8 1 1) (sq (xCI 5 3 F_X6_find) (sq (xSI 6) (sq (xLI 6) (sq (xLI 3) (tIf2 (fun x y => decide (x ≤ y)) 105 [true, true, true, true, true, true, false] 98 [true, true, true, false, false, true, true])))))))))))))))))),
  (98, (sq (xLI 6) (sq (xSI 3) (sq (xLI 5) (sq (xSI 4) (tGo 105 [true, true, true, true, true, true, false])))))),
  (105, (sq (xInc 5 1) (tGo 57 [true, true, true, true, true, true, false]))),
  (111, (sq (xLI 2) (tIf1 (fun x => decide (¬ x = 0)) 120 [false, false, false, true, false, false, false] 115 [false, false, false, false, true, false, false]))),
  (115, (sq (xLI 4) (tGo 121 [false, false, false, false, false, false, false]))),
  (120, (sq (xLI 3) (tGo 121 [false, false, false, false, false, false, false]))),
  (121, tRI)]
set_option maxRecDepth 100000 in
set_option maxHeartbeats 4000000 in
theorem s_X11_spring : ∀ X : XCtx, XE X → X.2.2.1.1 = cX11_spring → X.2.2.1.2.1 = 7 → X.2.2.1.2.2.1 = yX11_spring.cls → X.2.2.1.2.2.2.1 = (some .int) → X.1.2.2.2.1 = { frames := 5, cells := 0, slots := 0, locals := 123 } → SndBs X bs_X11_spring := by
  rintro ⟨⟨p, l, e, R, s⟩, Y, ⟨cc, nL, own, ret, Ts⟩, Z⟩ hE h1 h2 h3 h4 h5
  dsimp only at h1 h2 h3 h4 h5
  subst h1 h2 h3 h4 h5
  exact ⟨(n_sq (n_aload_n hE dX11_spring_0) (n_sq (n_getD hE xk_10 (k := 5) rfl (by decide) rfl wt_321 dX11_spring_1) (n_sq (n_getI hE xk_1 (k := 0) rfl (by decide) rfl wt_96 dX11_spring_4) (n_ifeq hE (by decide) dX11_spring_7)))),
    (n_sq (n_iload_n hE dX11_spring_10) (n_sq (n_iconst hE (by decide) dX11_spring_11) (n_sq (n_bipush hE (by decide) dX11_spring_12) (n_sq (n_cIs hE m_X11_within vc_X11_170 (show 0 + 1 ≤ 5 ∧ 8 + (3 + 11) + 0 ≤ 123 by decide) dX11_spring_14) (n_ifeq hE (by decide) dX11_spring_17))))),
    (n_sq (n_iload_n hE dX11_spring_20) (n_sq (n_iconst hE (by decide) dX11_spring_21) (n_sq (n_iconst hE (by decide) dX11_spring_22) (n_sq (n_cIs hE m_X11_within vc_X11_170 (show 0 + 1 ≤ 5 ∧ 8 + (3 + 11) + 0 ≤ 123 by decide) dX11_spring_23) (n_ifne hE (by decide) dX11_spring_26))))),
    (n_sq (n_iconst hE (by decide) dX11_spring_29) (n_ireturn hE rfl dX11_spring_30)),
    (n_sq (n_aload_n hE dX11_spring_31) (n_sq (n_cVv hE m_X11_startFromNow vc_X11_250 (show 2 + 1 ≤ 5 ∧ 8 + (1 + 11) + 43 ≤ 123 by decide) dX11_spring_32) (n_sq (n_aload_n hE dX11_spring_35) (n_sq (n_getS hE xk_10 (k := 9) rfl (by decide) rfl wt_325 dX11_spring_36) (n_sq (n_aload_n hE dX11_spring_39) (n_sq (n_getD hE xk_10 (k := 5) rfl (by decide) rfl wt_321 dX11_spring_40) (n_sq (n_aload_n hE dX11_spring_43) (n_sq (n_getS hE xk_10 (k := 7) rfl (by decide) rfl wt_323 dX11_spring_44) (n_sq (n_cIv hE m_X6_find vc_X11_259 (show 3 + 1 ≤ 5 ∧ 8 + (6 + 11) + 76 ≤ 123 by decide) dX11_spring_47) (n_sq (n_istore_n hE (show (3 : Nat) < 7 by decide) dX11_spring_50) (n_sq (n_iconst hE (by decide) dX11_spring_51) (n_sq (n_istore hE (show (4 : Nat) < 7 by decide) dX11_spring_52) (n_sq (n_iconst hE (by decide) dX11_spring_54) (n_sq (n_istore hE (show (5 : Nat) < 7 by decide) dX11_spring_55) n_fall)))))))))))))),
    (n_sq (n_iload hE dX11_spring_57) (n_sq (n_iload_n hE dX11_spring_59) (n_ifcgt hE (by decide) dX11_spring_60))),
    (n_sq (n_aload_n hE dX11_spring_63) (n_sq (n_getS hE xk_10 (k := 8) rfl (by decide) rfl wt_324 dX11_spring_64) (n_sq (n_aload_n hE dX11_spring_67) (n_sq (n_getS hE xk_10 (k := 7) rfl (by decide) rfl wt_323 dX11_spring_68) (n_sq (n_cIv hE m_X4_pass vc_X11_242 (show 4 + 1 ≤ 5 ∧ 8 + (4 + 11) + 100 ≤ 123 by decide) dX11_spring_71) (n_sq (n_pop hE dX11_spring_74) (n_sq (n_aload_n hE dX11_spring_75) (n_sq (n_getS hE xk_10 (k := 9) rfl (by decide) rfl wt_325 dX11_spring_76) (n_sq (n_aload_n hE dX11_spring_79) (n_sq (n_getD hE xk_10 (k := 5) rfl (by decide) rfl wt_321 dX11_spring_80) (n_sq (n_aload_n hE dX11_spring_83) (n_sq (n_getS hE xk_10 (k := 7) rfl (by decide) rfl wt_323 dX11_spring_84) (n_sq (n_cIv hE m_X6_find vc_X11_259 (show 3 + 1 ≤ 5 ∧ 8 + (6 + 11) + 76 ≤ 123 by decide) dX11_spring_87) (n_sq (n_istore hE (show (6 : Nat) < 7 by decide) dX11_spring_90) (n_sq (n_iload hE dX11_spring_92) (n_sq (n_iload_n hE dX11_spring_94) (n_ifcle hE (by decide) dX11_spring_95))))))))))))))))),
    (n_sq (n_iload hE dX11_spring_98) (n_sq (n_istore_n hE (show (3 : Nat) < 7 by decide) dX11_spring_100) (n_sq (n_iload hE dX11_spring_101) (n_sq (n_istore hE (show (4 : Nat) < 7 by decide) dX11_spring_103) n_fall)))),
    (n_sq (n_iinc hE (by decide) (show (5 : Nat) < 7 by decide) dX11_spring_105) (n_goto hE (by decide) dX11_spring_108)),
    (n_sq (n_iload_n hE dX11_spring_111) (n_ifne hE (by decide) dX11_spring_112)),
    (n_sq (n_iload hE dX11_spring_115) (n_goto hE (by decide) dX11_spring_117)),
    (n_sq (n_iload_n hE dX11_spring_120) n_fall),
    (n_ireturn hE rfl dX11_spring_121), trivial⟩
noncomputable def F_X11_spring (as : List XV) (w : XW) : Option (Int32 × XW) := (xF 7 bs_X11_spring as w).bind pI
theorem m_X11_spring : XM yX11_spring cX11_spring 7 (some .int) 5 123 (eI F_X11_spring) := xm_I (xm_of (by decide) s_X11_spring)
noncomputable def q_X11_spring_0 (x1 : Int32) (x2 : Int32) (w : XW) : Option XR := ev bs_X11_spring 0 ([some (.inr (10, 0)), some (.inl (.int x1)), some (.inl (.int x2)), none, none, none, none], [], w)
noncomputable def q_X11_spring_10 (x1 : Int32) (x2 : Int32) (w : XW) : Option XR := ev bs_X11_spring 10 ([some (.inr (10, 0)), some (.inl (.int x1)), some (.inl (.int x2)), none, none, none, none], [], w)
noncomputable def q_X11_spring_20 (x1 : Int32) (x2 : Int32) (w : XW) : Option XR := ev bs_X11_spring 20 ([some (.inr (10, 0)), some (.inl (.int x1)), some (.inl (.int x2)), none, none, none, none], [], w)
noncomputable def q_X11_spring_29 (w : XW) : Option XR := ev bs_X11_spring 29 ([none, none, none, none, none, none, none], [], w)
noncomputable def q_X11_spring_31 (x1 : Int32) (x2 : Int32) (w : XW) : Option XR := ev bs_X11_spring 31 ([some (.inr (10, 0)), some (.inl (.int x1)), some (.inl (.int x2)), none, none, none, none], [], w)
noncomputable def q_X11_spring_57 (x1 : Int32) (x2 : Int32) (x3 : Int32) (x4 : Int32) (x5 : Int32) (w : XW) : Option XR := ev bs_X11_spring 57 ([some (.inr (10, 0)), some (.inl (.int x1)), some (.inl (.int x2)), some (.inl (.int x3)), some (.inl (.int x4)), some (.inl (.int x5)), none], [], w)
noncomputable def q_X11_spring_63 (x1 : Int32) (x2 : Int32) (x3 : Int32) (x4 : Int32) (x5 : Int32) (w : XW) : Option XR := ev bs_X11_spring 63 ([some (.inr (10, 0)), some (.inl (.int x1)), some (.inl (.int x2)), some (.inl (.int x3)), some (.inl (.int x4)), some (.inl (.int x5)), none], [], w)
noncomputable def q_X11_spring_98 (x1 : Int32) (x2 : Int32) (x5 : Int32) (x6 : Int32) (w : XW) : Option XR := ev bs_X11_spring 98 ([some (.inr (10, 0)), some (.inl (.int x1)), some (.inl (.int x2)), none, none, some (.inl (.int x5)), some (.inl (.int x6))], [], w)
noncomputable def q_X11_spring_105 (x1 : Int32) (x2 : Int32) (x3 : Int32) (x4 : Int32) (x5 : Int32) (w : XW) : Option XR := ev bs_X11_spring 105 ([some (.inr (10, 0)), some (.inl (.int x1)), some (.inl (.int x2)), some (.inl (.int x3)), some (.inl (.int x4)), some (.inl (.int x5)), none], [], w)
noncomputable def q_X11_spring_111 (x2 : Int32) (x3 : Int32) (x4 : Int32) (w : XW) : Option XR := ev bs_X11_spring 111 ([none, none, some (.inl (.int x2)), some (.inl (.int x3)), some (.inl (.int x4)), none, none], [], w)
noncomputable def q_X11_spring_115 (x4 : Int32) (w : XW) : Option XR := ev bs_X11_spring 115 ([none, none, none, none, some (.inl (.int x4)), none, none], [], w)
noncomputable def q_X11_spring_120 (x3 : Int32) (w : XW) : Option XR := ev bs_X11_spring 120 ([none, none, none, some (.inl (.int x3)), none, none, none], [], w)
noncomputable def q_X11_spring_121 (s0 : Int32) (w : XW) : Option XR := ev bs_X11_spring 121 ([none, none, none, none, none, none, none], [.inl (.int s0)], w)
theorem e_X11_spring_0 (x1 : Int32) (x2 : Int32) (w : XW) : q_X11_spring_0 x1 x2 w = ((gR w 10 0 5).bind fun j0 => (bif decide ((gI w 1 j0 0) = 0) then (q_X11_spring_29 w) else (q_X11_spring_10 x1 x2 w))) := (ev_eq _ _ _).trans rfl
theorem e_X11_spring_10 (x1 : Int32) (x2 : Int32) (w : XW) : q_X11_spring_10 x1 x2 w = ((F_X11_within [.inl (.int x1), .inl (.int 0), .inl (.int 60)] w).bind fun r0 => (bif decide (r0.1 = 0) then (q_X11_spring_29 r0.2) else (q_X11_spring_20 x1 x2 r0.2))) := (ev_eq _ _ _).trans rfl
theorem e_X11_spring_20 (x1 : Int32) (x2 : Int32) (w : XW) : q_X11_spring_20 x1 x2 w = ((F_X11_within [.inl (.int x2), .inl (.int 0), .inl (.int 1)] w).bind fun r0 => (bif decide (¬ r0.1 = 0) then (q_X11_spring_31 x1 x2 r0.2) else (q_X11_spring_29 r0.2))) := (ev_eq _ _ _).trans rfl
theorem e_X11_spring_29 (w : XW) : q_X11_spring_29 w = (some (some (.inl (.int (-1))), w)) := (ev_eq _ _ _).trans rfl
theorem e_X11_spring_31 (x1 : Int32) (x2 : Int32) (w : XW) : q_X11_spring_31 x1 x2 w = ((F_X11_startFromNow [.inr (10, 0)] w).bind fun r0 => ((gR r0 10 0 5).bind fun j1 => ((F_X6_find [.inr (5, 0), .inr (1, j1), .inr (8, 1)] r0).bind fun r2 => (q_X11_spring_57 x1 x2 r2.1 0 1 r2.2)))) := (ev_eq _ _ _).trans rfl
theorem e_X11_spring_57 (x1 : Int32) (x2 : Int32) (x3 : Int32) (x4 : Int32) (x5 : Int32) (w : XW) : q_X11_spring_57 x1 x2 x3 x4 x5 w = (bif decide (x1 < x5) then (q_X11_spring_111 x2 x3 x4 w) else (q_X11_spring_63 x1 x2 x3 x4 x5 w)) := (ev_eq _ _ _).trans rfl
theorem e_X11_spring_63 (x1 : Int32) (x2 : Int32) (x3 : Int32) (x4 : Int32) (x5 : Int32) (w : XW) : q_X11_spring_63 x1 x2 x3 x4 x5 w = ((F_X4_pass [.inr (3, 0), .inr (8, 1)] w).bind fun r0 => ((gR r0.2 10 0 5).bind fun j1 => ((F_X6_find [.inr (5, 0), .inr (1, j1), .inr (8, 1)] r0.2).bind fun r2 => (bif decide (r2.1 ≤ x3) then (q_X11_spring_105 x1 x2 x3 x4 x5 r2.2) else (q_X11_spring_98 x1 x2 x5 r2.1 r2.2))))) := (ev_eq _ _ _).trans rfl
theorem e_X11_spring_98 (x1 : Int32) (x2 : Int32) (x5 : Int32) (x6 : Int32) (w : XW) : q_X11_spring_98 x1 x2 x5 x6 w = (q_X11_spring_105 x1 x2 x6 x5 x5 w) := (ev_eq _ _ _).trans rfl
theorem e_X11_spring_105 (x1 : Int32) (x2 : Int32) (x3 : Int32) (x4 : Int32) (x5 : Int32) (w : XW) : q_X11_spring_105 x1 x2 x3 x4 x5 w = (q_X11_spring_57 x1 x2 x3 x4 (x5 + 1) w) := (ev_eq _ _ _).trans rfl
theorem e_X11_spring_111 (x2 : Int32) (x3 : Int32) (x4 : Int32) (w : XW) : q_X11_spring_111 x2 x3 x4 w = (bif decide (¬ x2 = 0) then (q_X11_spring_120 x3 w) else (q_X11_spring_115 x4 w)) := (ev_eq _ _ _).trans rfl
theorem e_X11_spring_115 (x4 : Int32) (w : XW) : q_X11_spring_115 x4 w = (q_X11_spring_121 x4 w) := (ev_eq _ _ _).trans rfl
theorem e_X11_spring_120 (x3 : Int32) (w : XW) : q_X11_spring_120 x3 w = (q_X11_spring_121 x3 w) := (ev_eq _ _ _).trans rfl
theorem e_X11_spring_121 (s0 : Int32) (w : XW) : q_X11_spring_121 s0 w = (some (some (.inl (.int s0)), w)) := (ev_eq _ _ _).trans rfl
theorem f_X11_spring (x1 : Int32) (x2 : Int32) (w : XW) : F_X11_spring [.inr (10, 0), .inl (.int x1), .inl (.int x2)] w = (q_X11_spring_0 x1 x2 w).bind pI := rfl

-- WinterKeep$Benches.isClash(LWinterKeep$Scene;I)Z
theorem dX0_isClash_0 : decode cX0_isClash 0 = .ok (.iconst 0, 1) := by decide +kernel
theorem dX0_isClash_1 : decode cX0_isClash 1 = .ok (.istore_n 2, 1) := by decide +kernel
theorem dX0_isClash_2 : decode cX0_isClash 2 = .ok (.iload_n 2, 1) := by decide +kernel
theorem dX0_isClash_3 : decode cX0_isClash 3 = .ok (.aload_n 0, 1) := by decide +kernel
theorem dX0_isClash_4 : decode cX0_isClash 4 = .ok (.getfield 19, 3) := by decide +kernel
theorem dX0_isClash_7 : decode cX0_isClash 7 = .ok (.if_icmp .ge 38, 3) := by decide +kernel
theorem dX0_isClash_10 : decode cX0_isClash 10 = .ok (.iload_n 1, 1) := by decide +kernel
theorem dX0_isClash_11 : decode cX0_isClash 11 = .ok (.iload_n 2, 1) := by decide +kernel
theorem dX0_isClash_12 : decode cX0_isClash 12 = .ok (.ishr, 1) := by decide +kernel
theorem dX0_isClash_13 : decode cX0_isClash 13 = .ok (.iconst 1, 1) := by decide +kernel
theorem dX0_isClash_14 : decode cX0_isClash 14 = .ok (.iand, 1) := by decide +kernel
theorem dX0_isClash_15 : decode cX0_isClash 15 = .ok (.ifCond .eq 24, 3) := by decide +kernel
theorem dX0_isClash_18 : decode cX0_isClash 18 = .ok (.iload_n 1, 1) := by decide +kernel
theorem dX0_isClash_19 : decode cX0_isClash 19 = .ok (.aload_n 0, 1) := by decide +kernel
theorem dX0_isClash_20 : decode cX0_isClash 20 = .ok (.getfield 31, 3) := by decide +kernel
theorem dX0_isClash_23 : decode cX0_isClash 23 = .ok (.iload_n 2, 1) := by decide +kernel
theorem dX0_isClash_24 : decode cX0_isClash 24 = .ok (.iaload, 1) := by decide +kernel
theorem dX0_isClash_25 : decode cX0_isClash 25 = .ok (.iconst (-1), 1) := by decide +kernel
theorem dX0_isClash_26 : decode cX0_isClash 26 = .ok (.ixor, 1) := by decide +kernel
theorem dX0_isClash_27 : decode cX0_isClash 27 = .ok (.iand, 1) := by decide +kernel
theorem dX0_isClash_28 : decode cX0_isClash 28 = .ok (.iconst 1, 1) := by decide +kernel
theorem dX0_isClash_29 : decode cX0_isClash 29 = .ok (.iload_n 2, 1) := by decide +kernel
theorem dX0_isClash_30 : decode cX0_isClash 30 = .ok (.ishl, 1) := by decide +kernel
theorem dX0_isClash_31 : decode cX0_isClash 31 = .ok (.iconst (-1), 1) := by decide +kernel
theorem dX0_isClash_32 : decode cX0_isClash 32 = .ok (.ixor, 1) := by decide +kernel
theorem dX0_isClash_33 : decode cX0_isClash 33 = .ok (.iand, 1) := by decide +kernel
theorem dX0_isClash_34 : decode cX0_isClash 34 = .ok (.ifCond .eq 5, 3) := by decide +kernel
theorem dX0_isClash_37 : decode cX0_isClash 37 = .ok (.iconst 0, 1) := by decide +kernel
theorem dX0_isClash_38 : decode cX0_isClash 38 = .ok (.ireturn, 1) := by decide +kernel
theorem dX0_isClash_39 : decode cX0_isClash 39 = .ok (.iinc 2 1, 3) := by decide +kernel
theorem dX0_isClash_42 : decode cX0_isClash 42 = .ok (.goto (-40), 3) := by decide +kernel
theorem dX0_isClash_45 : decode cX0_isClash 45 = .ok (.iconst 1, 1) := by decide +kernel
theorem dX0_isClash_46 : decode cX0_isClash 46 = .ok (.ireturn, 1) := by decide +kernel
noncomputable def bs_X0_isClash : List (Nat × XB) := [
  (0, (sq (xC (.int 0)) (sq (xSI 2) (tGo 2 [true, true, true])))),
  (2, (sq (xLI 2) (sq (xLA 0) (sq (xGI 8 0) (tIf2 (fun x y => decide (y ≤ x)) 45 [false, false, false] 10 [true, true, true]))))),
  (10, (sq (xLI 1) (sq (xLI 2) (sq (xI2 (fun x y => x >>> (y &&& 31))) (sq (xC (.int 1)) (sq (xI2 (· &&& ·)) (tIf1 (fun x => decide (x = 0)) 39 [true, true, true] 18 [true, true, true]))))))),
  (18, (sq (xLI 1) (sq (xLA 0) (sq (xGS 8 33 0 0) (sq (xLI 2) (sq (xAI 33 6) (sq (xC (.int (-1))) (sq (xI2 (· ^^^ ·)) (sq (xI2 (· &&& ·)) (sq (xC (.int 1)) (sq (xLI 2) (sq (xI2 (fun x y => x <<< (y &&& 31))) (sq (xC (.int (-1))) (sq (xI2 (· ^^^ ·)) (sq (xI2 (· &&& ·)) (tIf1 (fun x => decide (x = 0)) 39 [true, true, true] 37 [false, false, false])))))))))))))))),
  (37, (sq (xC (.int 0)) tRZ)),
  (39, (sq (xInc 2 1) (tGo 2 [true, true, true]))),
  (45, (sq (xC (.int 1)) tRZ))]
set_option maxRecDepth 100000 in
set_option maxHeartbeats 4000000 in
theorem s_X0_isClash : ∀ X : XCtx, XE X → X.2.2.1.1 = cX0_isClash → X.2.2.1.2.1 = 3 → X.2.2.1.2.2.1 = yX0_isClash.cls → X.2.2.1.2.2.2.1 = (some .boolean) → X.1.2.2.2.1 = { frames := 0, cells := 0, slots := 0, locals := 0 } → SndBs X bs_X0_isClash := by
  rintro ⟨⟨p, l, e, R, s⟩, Y, ⟨cc, nL, own, ret, Ts⟩, Z⟩ hE h1 h2 h3 h4 h5
  dsimp only at h1 h2 h3 h4 h5
  subst h1 h2 h3 h4 h5
  exact ⟨(n_sq (n_iconst hE (by decide) dX0_isClash_0) (n_sq (n_istore_n hE (show (2 : Nat) < 3 by decide) dX0_isClash_1) n_fall)),
    (n_sq (n_iload_n hE dX0_isClash_2) (n_sq (n_aload_n hE dX0_isClash_3) (n_sq (n_getI hE xk_8 (k := 0) rfl (by decide) rfl wt_174 dX0_isClash_4) (n_ifcge hE (by decide) dX0_isClash_7)))),
    (n_sq (n_iload_n hE dX0_isClash_10) (n_sq (n_iload_n hE dX0_isClash_11) (n_sq (n_ishr hE dX0_isClash_12) (n_sq (n_iconst hE (by decide) dX0_isClash_13) (n_sq (n_iand hE dX0_isClash_14) (n_ifeq hE (by decide) dX0_isClash_15)))))),
    (n_sq (n_iload_n hE dX0_isClash_18) (n_sq (n_aload_n hE dX0_isClash_19) (n_sq (n_getS hE xk_8 (k := 5) rfl (by decide) rfl wt_193 dX0_isClash_20) (n_sq (n_iload_n hE dX0_isClash_23) (n_sq (n_iald hE rfl (by decide) dX0_isClash_24) (n_sq (n_iconst hE (by decide) dX0_isClash_25) (n_sq (n_ixor hE dX0_isClash_26) (n_sq (n_iand hE dX0_isClash_27) (n_sq (n_iconst hE (by decide) dX0_isClash_28) (n_sq (n_iload_n hE dX0_isClash_29) (n_sq (n_ishl hE dX0_isClash_30) (n_sq (n_iconst hE (by decide) dX0_isClash_31) (n_sq (n_ixor hE dX0_isClash_32) (n_sq (n_iand hE dX0_isClash_33) (n_ifeq hE (by decide) dX0_isClash_34))))))))))))))),
    (n_sq (n_iconst hE (by decide) dX0_isClash_37) (n_zreturn hE rfl dX0_isClash_38)),
    (n_sq (n_iinc hE (by decide) (show (2 : Nat) < 3 by decide) dX0_isClash_39) (n_goto hE (by decide) dX0_isClash_42)),
    (n_sq (n_iconst hE (by decide) dX0_isClash_45) (n_zreturn hE rfl dX0_isClash_46)), trivial⟩
noncomputable def F_X0_isClash (as : List XV) (w : XW) : Option (Int32 × XW) := (xF 3 bs_X0_isClash as w).bind pI
theorem m_X0_isClash : XM yX0_isClash cX0_isClash 3 (some .boolean) 0 0 (eI F_X0_isClash) := xm_I (xm_of (by decide) s_X0_isClash)
noncomputable def q_X0_isClash_0 (i0 : Nat) (x1 : Int32) (w : XW) : Option XR := ev bs_X0_isClash 0 ([some (.inr (8, i0)), some (.inl (.int x1)), none], [], w)
noncomputable def q_X0_isClash_2 (i0 : Nat) (x1 : Int32) (x2 : Int32) (w : XW) : Option XR := ev bs_X0_isClash 2 ([some (.inr (8, i0)), some (.inl (.int x1)), some (.inl (.int x2))], [], w)
noncomputable def q_X0_isClash_10 (i0 : Nat) (x1 : Int32) (x2 : Int32) (w : XW) : Option XR := ev bs_X0_isClash 10 ([some (.inr (8, i0)), some (.inl (.int x1)), some (.inl (.int x2))], [], w)
noncomputable def q_X0_isClash_18 (i0 : Nat) (x1 : Int32) (x2 : Int32) (w : XW) : Option XR := ev bs_X0_isClash 18 ([some (.inr (8, i0)), some (.inl (.int x1)), some (.inl (.int x2))], [], w)
noncomputable def q_X0_isClash_37 (w : XW) : Option XR := ev bs_X0_isClash 37 ([none, none, none], [], w)
noncomputable def q_X0_isClash_39 (i0 : Nat) (x1 : Int32) (x2 : Int32) (w : XW) : Option XR := ev bs_X0_isClash 39 ([some (.inr (8, i0)), some (.inl (.int x1)), some (.inl (.int x2))], [], w)
noncomputable def q_X0_isClash_45 (w : XW) : Option XR := ev bs_X0_isClash 45 ([none, none, none], [], w)
theorem e_X0_isClash_0 (i0 : Nat) (x1 : Int32) (w : XW) : q_X0_isClash_0 i0 x1 w = (q_X0_isClash_2 i0 x1 0 w) := (ev_eq _ _ _).trans rfl
theorem e_X0_isClash_2 (i0 : Nat) (x1 : Int32) (x2 : Int32) (w : XW) : q_X0_isClash_2 i0 x1 x2 w = (bif decide ((gI w 8 i0 0) ≤ x2) then (q_X0_isClash_45 w) else (q_X0_isClash_10 i0 x1 x2 w)) := (ev_eq _ _ _).trans rfl
theorem e_X0_isClash_10 (i0 : Nat) (x1 : Int32) (x2 : Int32) (w : XW) : q_X0_isClash_10 i0 x1 x2 w = (bif decide ((((x1 : Int32) >>> ((x2 : Int32) &&& 31)) &&& 1) = 0) then (q_X0_isClash_39 i0 x1 x2 w) else (q_X0_isClash_18 i0 x1 x2 w)) := (ev_eq _ _ _).trans rfl
theorem e_X0_isClash_18 (i0 : Nat) (x1 : Int32) (x2 : Int32) (w : XW) : q_X0_isClash_18 i0 x1 x2 w = (if x2 < 0 ∨ 6 ≤ x2.toNatClampNeg then none else (bif decide (((x1 &&& ((gI w 33 i0 x2.toNatClampNeg) ^^^ (-1))) &&& (((1 : Int32) <<< ((x2 : Int32) &&& 31)) ^^^ (-1))) = 0) then (q_X0_isClash_39 i0 x1 x2 w) else (q_X0_isClash_37 w))) := (ev_eq _ _ _).trans rfl
theorem e_X0_isClash_37 (w : XW) : q_X0_isClash_37 w = (some (some (.inl (.int 0)), w)) := (ev_eq _ _ _).trans rfl
theorem e_X0_isClash_39 (i0 : Nat) (x1 : Int32) (x2 : Int32) (w : XW) : q_X0_isClash_39 i0 x1 x2 w = (q_X0_isClash_2 i0 x1 (x2 + 1) w) := (ev_eq _ _ _).trans rfl
theorem e_X0_isClash_45 (w : XW) : q_X0_isClash_45 w = (some (some (.inl (.int 1)), w)) := (ev_eq _ _ _).trans rfl
theorem f_X0_isClash (i0 : Nat) (x1 : Int32) (w : XW) : F_X0_isClash [.inr (8, i0), .inl (.int x1)] w = (q_X0_isClash_0 i0 x1 w).bind pI := rfl

-- WinterKeep$Benches.largestClash(LWinterKeep$Scene;)I
theorem dX0_largestClash_0 : decode cX0_largestClash 0 = .ok (.aload_n 0, 1) := by decide +kernel
theorem dX0_largestClash_1 : decode cX0_largestClash 1 = .ok (.invokevirtual 34, 3) := by decide +kernel
theorem dX0_largestClash_4 : decode cX0_largestClash 4 = .ok (.istore_n 1, 1) := by decide +kernel
theorem dX0_largestClash_5 : decode cX0_largestClash 5 = .ok (.iconst 0, 1) := by decide +kernel
theorem dX0_largestClash_6 : decode cX0_largestClash 6 = .ok (.istore_n 2, 1) := by decide +kernel
theorem dX0_largestClash_7 : decode cX0_largestClash 7 = .ok (.iconst 1, 1) := by decide +kernel
theorem dX0_largestClash_8 : decode cX0_largestClash 8 = .ok (.istore_n 3, 1) := by decide +kernel
theorem dX0_largestClash_9 : decode cX0_largestClash 9 = .ok (.iload_n 3, 1) := by decide +kernel
theorem dX0_largestClash_10 : decode cX0_largestClash 10 = .ok (.iconst 1, 1) := by decide +kernel
theorem dX0_largestClash_11 : decode cX0_largestClash 11 = .ok (.aload_n 0, 1) := by decide +kernel
theorem dX0_largestClash_12 : decode cX0_largestClash 12 = .ok (.getfield 19, 3) := by decide +kernel
theorem dX0_largestClash_15 : decode cX0_largestClash 15 = .ok (.ishl, 1) := by decide +kernel
theorem dX0_largestClash_16 : decode cX0_largestClash 16 = .ok (.if_icmp .ge 48, 3) := by decide +kernel
theorem dX0_largestClash_19 : decode cX0_largestClash 19 = .ok (.iload_n 3, 1) := by decide +kernel
theorem dX0_largestClash_20 : decode cX0_largestClash 20 = .ok (.invokestatic 38, 3) := by decide +kernel
theorem dX0_largestClash_23 : decode cX0_largestClash 23 = .ok (.iload_n 2, 1) := by decide +kernel
theorem dX0_largestClash_24 : decode cX0_largestClash 24 = .ok (.invokestatic 38, 3) := by decide +kernel
theorem dX0_largestClash_27 : decode cX0_largestClash 27 = .ok (.if_icmp .le 7, 3) := by decide +kernel
theorem dX0_largestClash_30 : decode cX0_largestClash 30 = .ok (.iconst 1, 1) := by decide +kernel
theorem dX0_largestClash_31 : decode cX0_largestClash 31 = .ok (.goto 4, 3) := by decide +kernel
theorem dX0_largestClash_34 : decode cX0_largestClash 34 = .ok (.iconst 0, 1) := by decide +kernel
theorem dX0_largestClash_35 : decode cX0_largestClash 35 = .ok (.istore 4, 2) := by decide +kernel
theorem dX0_largestClash_37 : decode cX0_largestClash 37 = .ok (.iload 4, 2) := by decide +kernel
theorem dX0_largestClash_39 : decode cX0_largestClash 39 = .ok (.ifCond .eq 19, 3) := by decide +kernel
theorem dX0_largestClash_42 : decode cX0_largestClash 42 = .ok (.iload_n 3, 1) := by decide +kernel
theorem dX0_largestClash_43 : decode cX0_largestClash 43 = .ok (.iload_n 1, 1) := by decide +kernel
theorem dX0_largestClash_44 : decode cX0_largestClash 44 = .ok (.iand, 1) := by decide +kernel
theorem dX0_largestClash_45 : decode cX0_largestClash 45 = .ok (.ifCond .ne 13, 3) := by decide +kernel
theorem dX0_largestClash_48 : decode cX0_largestClash 48 = .ok (.aload_n 0, 1) := by decide +kernel
theorem dX0_largestClash_49 : decode cX0_largestClash 49 = .ok (.iload_n 3, 1) := by decide +kernel
theorem dX0_largestClash_50 : decode cX0_largestClash 50 = .ok (.invokestatic 44, 3) := by decide +kernel
theorem dX0_largestClash_53 : decode cX0_largestClash 53 = .ok (.ifCond .eq 5, 3) := by decide +kernel
theorem dX0_largestClash_56 : decode cX0_largestClash 56 = .ok (.iload_n 3, 1) := by decide +kernel
theorem dX0_largestClash_57 : decode cX0_largestClash 57 = .ok (.istore_n 2, 1) := by decide +kernel
theorem dX0_largestClash_58 : decode cX0_largestClash 58 = .ok (.iinc 3 1, 3) := by decide +kernel
theorem dX0_largestClash_61 : decode cX0_largestClash 61 = .ok (.goto (-52), 3) := by decide +kernel
theorem dX0_largestClash_64 : decode cX0_largestClash 64 = .ok (.iload_n 2, 1) := by decide +kernel
theorem dX0_largestClash_65 : decode cX0_largestClash 65 = .ok (.ireturn, 1) := by decide +kernel
theorem vc_X0_34 : XVw RX0 34 0 8 1 yX9_burntBits cX9_burntBits (some .int) := ⟨RX9, TX9, tyX9, 6, xk_8, rfl, ⟨by decide, by decide⟩, by decide +kernel, wt_826, wt_648, wt_649, wt_5, wt_650⟩
theorem vc_X0_38 : XSw RX0 38 1 1 yJ6_bitCount_0f7a4 cJ6_bitCount_0f7a4 (some .int) := ⟨⟨by decide, by decide⟩, by decide +kernel, wt_827, wt_690, wt_21, wt_691⟩
theorem vc_X0_44 : XSw RX0 44 2 3 yX0_isClash cX0_isClash (some .boolean) := ⟨⟨by decide, by decide⟩, by decide +kernel, wt_828, wt_829, wt_8, wt_830⟩
noncomputable def bs_X0_largestClash : List (Nat × XB) := [
  (0, (sq (xLA 0) (sq (xCI 8 1 F_X9_burntBits) (sq (xSI 1) (sq (xC (.int 0)) (sq (xSI 2) (sq (xC (.int 1)) (sq (xSI 3) (tGo 9 [true, true, true, true, false]))))))))),
  (9, (sq (xLI 3) (sq (xC (.int 1)) (sq (xLA 0) (sq (xGI 8 0) (sq (xI2 (fun x y => x <<< (y &&& 31))) (tIf2 (fun x y => decide (y ≤ x)) 64 [false, false, true, false, false] 19 [true, true, true, true, false]))))))),
  (19, (sq (xLI 3) (sq (xCI 99 1 F_J6_bitCount_0f7a4) (sq (xLI 2) (sq (xCI 99 1 F_J6_bitCount_0f7a4) (tIf2 (fun x y => decide (x ≤ y)) 34 [true, true, true, true, false] 30 [true, true, true, true, false])))))),
  (30, (sq (xC (.int 1)) (tGo 35 [true, true, true, true, false]))),
  (34, (sq (xC (.int 0)) (tGo 35 [true, true, true, true, false]))),
  (35, (sq (xSI 4) (sq (xLI 4) (tIf1 (fun x => decide (x = 0)) 58 [true, true, true, true, false] 42 [true, true, true, true, false])))),
  (42, (sq (xLI 3) (sq (xLI 1) (sq (xI2 (· &&& ·)) (tIf1 (fun x => decide (¬ x = 0)) 58 [true, true, true, true, false] 48 [true, true, true, true, false]))))),
  (48, (sq (xLA 0) (sq (xLI 3) (sq (xCI 99 2 F_X0_isClash) (tIf1 (fun x => decide (x = 0)) 58 [true, true, true, true, false] 56 [true, true, false, true, false]))))),
  (56, (sq (xLI 3) (sq (xSI 2) (tGo 58 [true, true, true, true, false])))),
  (58, (sq (xInc 3 1) (tGo 9 [true, true, true, true, false]))),
  (64, (sq (xLI 2) tRI))]
set_option maxRecDepth 100000 in
set_option maxHeartbeats 4000000 in
theorem s_X0_largestClash : ∀ X : XCtx, XE X → X.2.2.1.1 = cX0_largestClash → X.2.2.1.2.1 = 5 → X.2.2.1.2.2.1 = yX0_largestClash.cls → X.2.2.1.2.2.2.1 = (some .int) → X.1.2.2.2.1 = { frames := 2, cells := 0, slots := 0, locals := 43 } → SndBs X bs_X0_largestClash := by
  rintro ⟨⟨p, l, e, R, s⟩, Y, ⟨cc, nL, own, ret, Ts⟩, Z⟩ hE h1 h2 h3 h4 h5
  dsimp only at h1 h2 h3 h4 h5
  subst h1 h2 h3 h4 h5
  exact ⟨(n_sq (n_aload_n hE dX0_largestClash_0) (n_sq (n_cIv hE m_X9_burntBits vc_X0_34 (show 1 + 1 ≤ 2 ∧ 8 + (1 + 11) + 23 ≤ 43 by decide) dX0_largestClash_1) (n_sq (n_istore_n hE (show (1 : Nat) < 5 by decide) dX0_largestClash_4) (n_sq (n_iconst hE (by decide) dX0_largestClash_5) (n_sq (n_istore_n hE (show (2 : Nat) < 5 by decide) dX0_largestClash_6) (n_sq (n_iconst hE (by decide) dX0_largestClash_7) (n_sq (n_istore_n hE (show (3 : Nat) < 5 by decide) dX0_largestClash_8) n_fall))))))),
    (n_sq (n_iload_n hE dX0_largestClash_9) (n_sq (n_iconst hE (by decide) dX0_largestClash_10) (n_sq (n_aload_n hE dX0_largestClash_11) (n_sq (n_getI hE xk_8 (k := 0) rfl (by decide) rfl wt_174 dX0_largestClash_12) (n_sq (n_ishl hE dX0_largestClash_15) (n_ifcge hE (by decide) dX0_largestClash_16)))))),
    (n_sq (n_iload_n hE dX0_largestClash_19) (n_sq (n_cIs hE m_J6_bitCount_0f7a4 vc_X0_38 (show 0 + 1 ≤ 2 ∧ 8 + (1 + 11) + 0 ≤ 43 by decide) dX0_largestClash_20) (n_sq (n_iload_n hE dX0_largestClash_23) (n_sq (n_cIs hE m_J6_bitCount_0f7a4 vc_X0_38 (show 0 + 1 ≤ 2 ∧ 8 + (1 + 11) + 0 ≤ 43 by decide) dX0_largestClash_24) (n_ifcle hE (by decide) dX0_largestClash_27))))),
    (n_sq (n_iconst hE (by decide) dX0_largestClash_30) (n_goto hE (by decide) dX0_largestClash_31)),
    (n_sq (n_iconst hE (by decide) dX0_largestClash_34) n_fall),
    (n_sq (n_istore hE (show (4 : Nat) < 5 by decide) dX0_largestClash_35) (n_sq (n_iload hE dX0_largestClash_37) (n_ifeq hE (by decide) dX0_largestClash_39))),
    (n_sq (n_iload_n hE dX0_largestClash_42) (n_sq (n_iload_n hE dX0_largestClash_43) (n_sq (n_iand hE dX0_largestClash_44) (n_ifne hE (by decide) dX0_largestClash_45)))),
    (n_sq (n_aload_n hE dX0_largestClash_48) (n_sq (n_iload_n hE dX0_largestClash_49) (n_sq (n_cIs hE m_X0_isClash vc_X0_44 (show 0 + 1 ≤ 2 ∧ 8 + (3 + 11) + 0 ≤ 43 by decide) dX0_largestClash_50) (n_ifeq hE (by decide) dX0_largestClash_53)))),
    (n_sq (n_iload_n hE dX0_largestClash_56) (n_sq (n_istore_n hE (show (2 : Nat) < 5 by decide) dX0_largestClash_57) n_fall)),
    (n_sq (n_iinc hE (by decide) (show (3 : Nat) < 5 by decide) dX0_largestClash_58) (n_goto hE (by decide) dX0_largestClash_61)),
    (n_sq (n_iload_n hE dX0_largestClash_64) (n_ireturn hE rfl dX0_largestClash_65)), trivial⟩
noncomputable def F_X0_largestClash (as : List XV) (w : XW) : Option (Int32 × XW) := (xF 5 bs_X0_largestClash as w).bind pI
theorem m_X0_largestClash : XM yX0_largestClash cX0_largestClash 5 (some .int) 2 43 (eI F_X0_largestClash) := xm_I (xm_of (by decide) s_X0_largestClash)
noncomputable def q_X0_largestClash_0 (i0 : Nat) (w : XW) : Option XR := ev bs_X0_largestClash 0 ([some (.inr (8, i0)), none, none, none, none], [], w)
noncomputable def q_X0_largestClash_9 (i0 : Nat) (x1 : Int32) (x2 : Int32) (x3 : Int32) (w : XW) : Option XR := ev bs_X0_largestClash 9 ([some (.inr (8, i0)), some (.inl (.int x1)), some (.inl (.int x2)), some (.inl (.int x3)), none], [], w)
noncomputable def q_X0_largestClash_19 (i0 : Nat) (x1 : Int32) (x2 : Int32) (x3 : Int32) (w : XW) : Option XR := ev bs_X0_largestClash 19 ([some (.inr (8, i0)), some (.inl (.int x1)), some (.inl (.int x2)), some (.inl (.int x3)), none], [], w)
noncomputable def q_X0_largestClash_30 (i0 : Nat) (x1 : Int32) (x2 : Int32) (x3 : Int32) (w : XW) : Option XR := ev bs_X0_largestClash 30 ([some (.inr (8, i0)), some (.inl (.int x1)), some (.inl (.int x2)), some (.inl (.int x3)), none], [], w)
noncomputable def q_X0_largestClash_34 (i0 : Nat) (x1 : Int32) (x2 : Int32) (x3 : Int32) (w : XW) : Option XR := ev bs_X0_largestClash 34 ([some (.inr (8, i0)), some (.inl (.int x1)), some (.inl (.int x2)), some (.inl (.int x3)), none], [], w)
noncomputable def q_X0_largestClash_35 (i0 : Nat) (x1 : Int32) (x2 : Int32) (x3 : Int32) (s0 : Int32) (w : XW) : Option XR := ev bs_X0_largestClash 35 ([some (.inr (8, i0)), some (.inl (.int x1)), some (.inl (.int x2)), some (.inl (.int x3)), none], [.inl (.int s0)], w)
noncomputable def q_X0_largestClash_42 (i0 : Nat) (x1 : Int32) (x2 : Int32) (x3 : Int32) (w : XW) : Option XR := ev bs_X0_largestClash 42 ([some (.inr (8, i0)), some (.inl (.int x1)), some (.inl (.int x2)), some (.inl (.int x3)), none], [], w)
noncomputable def q_X0_largestClash_48 (i0 : Nat) (x1 : Int32) (x2 : Int32) (x3 : Int32) (w : XW) : Option XR := ev bs_X0_largestClash 48 ([some (.inr (8, i0)), some (.inl (.int x1)), some (.inl (.int x2)), some (.inl (.int x3)), none], [], w)
noncomputable def q_X0_largestClash_56 (i0 : Nat) (x1 : Int32) (x3 : Int32) (w : XW) : Option XR := ev bs_X0_largestClash 56 ([some (.inr (8, i0)), some (.inl (.int x1)), none, some (.inl (.int x3)), none], [], w)
noncomputable def q_X0_largestClash_58 (i0 : Nat) (x1 : Int32) (x2 : Int32) (x3 : Int32) (w : XW) : Option XR := ev bs_X0_largestClash 58 ([some (.inr (8, i0)), some (.inl (.int x1)), some (.inl (.int x2)), some (.inl (.int x3)), none], [], w)
noncomputable def q_X0_largestClash_64 (x2 : Int32) (w : XW) : Option XR := ev bs_X0_largestClash 64 ([none, none, some (.inl (.int x2)), none, none], [], w)
theorem e_X0_largestClash_0 (i0 : Nat) (w : XW) : q_X0_largestClash_0 i0 w = ((F_X9_burntBits [.inr (8, i0)] w).bind fun r0 => (q_X0_largestClash_9 i0 r0.1 0 1 r0.2)) := (ev_eq _ _ _).trans rfl
theorem e_X0_largestClash_9 (i0 : Nat) (x1 : Int32) (x2 : Int32) (x3 : Int32) (w : XW) : q_X0_largestClash_9 i0 x1 x2 x3 w = (bif decide (((1 : Int32) <<< (((gI w 8 i0 0) : Int32) &&& 31)) ≤ x3) then (q_X0_largestClash_64 x2 w) else (q_X0_largestClash_19 i0 x1 x2 x3 w)) := (ev_eq _ _ _).trans rfl
theorem e_X0_largestClash_19 (i0 : Nat) (x1 : Int32) (x2 : Int32) (x3 : Int32) (w : XW) : q_X0_largestClash_19 i0 x1 x2 x3 w = ((F_J6_bitCount_0f7a4 [.inl (.int x3)] w).bind fun r0 => ((F_J6_bitCount_0f7a4 [.inl (.int x2)] r0.2).bind fun r1 => (bif decide (r0.1 ≤ r1.1) then (q_X0_largestClash_34 i0 x1 x2 x3 r1.2) else (q_X0_largestClash_30 i0 x1 x2 x3 r1.2)))) := (ev_eq _ _ _).trans rfl
theorem e_X0_largestClash_30 (i0 : Nat) (x1 : Int32) (x2 : Int32) (x3 : Int32) (w : XW) : q_X0_largestClash_30 i0 x1 x2 x3 w = (q_X0_largestClash_35 i0 x1 x2 x3 1 w) := (ev_eq _ _ _).trans rfl
theorem e_X0_largestClash_34 (i0 : Nat) (x1 : Int32) (x2 : Int32) (x3 : Int32) (w : XW) : q_X0_largestClash_34 i0 x1 x2 x3 w = (q_X0_largestClash_35 i0 x1 x2 x3 0 w) := (ev_eq _ _ _).trans rfl
theorem e_X0_largestClash_35 (i0 : Nat) (x1 : Int32) (x2 : Int32) (x3 : Int32) (s0 : Int32) (w : XW) : q_X0_largestClash_35 i0 x1 x2 x3 s0 w = (bif decide (s0 = 0) then (q_X0_largestClash_58 i0 x1 x2 x3 w) else (q_X0_largestClash_42 i0 x1 x2 x3 w)) := (ev_eq _ _ _).trans rfl
theorem e_X0_largestClash_42 (i0 : Nat) (x1 : Int32) (x2 : Int32) (x3 : Int32) (w : XW) : q_X0_largestClash_42 i0 x1 x2 x3 w = (bif decide (¬ (x3 &&& x1) = 0) then (q_X0_largestClash_58 i0 x1 x2 x3 w) else (q_X0_largestClash_48 i0 x1 x2 x3 w)) := (ev_eq _ _ _).trans rfl
theorem e_X0_largestClash_48 (i0 : Nat) (x1 : Int32) (x2 : Int32) (x3 : Int32) (w : XW) : q_X0_largestClash_48 i0 x1 x2 x3 w = ((F_X0_isClash [.inr (8, i0), .inl (.int x3)] w).bind fun r0 => (bif decide (r0.1 = 0) then (q_X0_largestClash_58 i0 x1 x2 x3 r0.2) else (q_X0_largestClash_56 i0 x1 x3 r0.2))) := (ev_eq _ _ _).trans rfl
theorem e_X0_largestClash_56 (i0 : Nat) (x1 : Int32) (x3 : Int32) (w : XW) : q_X0_largestClash_56 i0 x1 x3 w = (q_X0_largestClash_58 i0 x1 x3 x3 w) := (ev_eq _ _ _).trans rfl
theorem e_X0_largestClash_58 (i0 : Nat) (x1 : Int32) (x2 : Int32) (x3 : Int32) (w : XW) : q_X0_largestClash_58 i0 x1 x2 x3 w = (q_X0_largestClash_9 i0 x1 x2 (x3 + 1) w) := (ev_eq _ _ _).trans rfl
theorem e_X0_largestClash_64 (x2 : Int32) (w : XW) : q_X0_largestClash_64 x2 w = (some (some (.inl (.int x2)), w)) := (ev_eq _ _ _).trans rfl
theorem f_X0_largestClash (i0 : Nat) (w : XW) : F_X0_largestClash [.inr (8, i0)] w = (q_X0_largestClash_0 i0 w).bind pI := rfl

-- WinterKeep.clash(I)I
theorem dX11_clash_0 : decode cX11_clash 0 = .ok (.aload_n 0, 1) := by decide +kernel
theorem dX11_clash_1 : decode cX11_clash 1 = .ok (.getfield 39, 3) := by decide +kernel
theorem dX11_clash_4 : decode cX11_clash 4 = .ok (.getfield 227, 3) := by decide +kernel
theorem dX11_clash_7 : decode cX11_clash 7 = .ok (.ifCond .eq 12, 3) := by decide +kernel
theorem dX11_clash_10 : decode cX11_clash 10 = .ok (.iload_n 1, 1) := by decide +kernel
theorem dX11_clash_11 : decode cX11_clash 11 = .ok (.iconst 0, 1) := by decide +kernel
theorem dX11_clash_12 : decode cX11_clash 12 = .ok (.iconst 1, 1) := by decide +kernel
theorem dX11_clash_13 : decode cX11_clash 13 = .ok (.invokestatic 170, 3) := by decide +kernel
theorem dX11_clash_16 : decode cX11_clash 16 = .ok (.ifCond .ne 5, 3) := by decide +kernel
theorem dX11_clash_19 : decode cX11_clash 19 = .ok (.iconst (-1), 1) := by decide +kernel
theorem dX11_clash_20 : decode cX11_clash 20 = .ok (.ireturn, 1) := by decide +kernel
theorem dX11_clash_21 : decode cX11_clash 21 = .ok (.aload_n 0, 1) := by decide +kernel
theorem dX11_clash_22 : decode cX11_clash 22 = .ok (.getfield 46, 3) := by decide +kernel
theorem dX11_clash_25 : decode cX11_clash 25 = .ok (.invokestatic 273, 3) := by decide +kernel
theorem dX11_clash_28 : decode cX11_clash 28 = .ok (.istore_n 2, 1) := by decide +kernel
theorem dX11_clash_29 : decode cX11_clash 29 = .ok (.iload_n 1, 1) := by decide +kernel
theorem dX11_clash_30 : decode cX11_clash 30 = .ok (.ifCond .ne 10, 3) := by decide +kernel
theorem dX11_clash_33 : decode cX11_clash 33 = .ok (.iload_n 2, 1) := by decide +kernel
theorem dX11_clash_34 : decode cX11_clash 34 = .ok (.invokestatic 276, 3) := by decide +kernel
theorem dX11_clash_37 : decode cX11_clash 37 = .ok (.goto 4, 3) := by decide +kernel
theorem dX11_clash_40 : decode cX11_clash 40 = .ok (.iload_n 2, 1) := by decide +kernel
theorem dX11_clash_41 : decode cX11_clash 41 = .ok (.ireturn, 1) := by decide +kernel
theorem vc_X11_273 : XSw RX11 273 1 5 yX0_largestClash cX0_largestClash (some .int) := ⟨⟨by decide, by decide⟩, by decide +kernel, wt_823, wt_824, wt_8, wt_825⟩
theorem vc_X11_276 : XSw RX11 276 1 1 yJ6_bitCount_0f7a4 cJ6_bitCount_0f7a4 (some .int) := ⟨⟨by decide, by decide⟩, by decide +kernel, wt_831, wt_690, wt_21, wt_691⟩
noncomputable def bs_X11_clash : List (Nat × XB) := [
  (0, (sq (xLA 0) (sq (xGD 10 5 1) (sq (xGI 1 0) (tIf1 (fun x => decide (x = 0)) 19 [false, false, false] 10 [true, true, false]))))),
  (10, (sq (xLI 1) (sq (xC (.int 0)) (sq (xC (.int 1)) (sq (xCI 99 3 F_X11_within) (tIf1 (fun x => decide (¬ x = 0)) 21 [true, true, false] 19 [false, false, false])))))),
  (19, (sq (xC (.int (-1))) tRI)),
  (21, (sq (xLA 0) (sq (xGS 10 8 1 0) (sq (xCI 99 1 F_X0_largestClash) (sq (xSI 2) (sq (xLI 1) (tIf1 (fun x => decide (¬ x = 0)) 40 [false, false, true] 33 [false, false, true]))))))),
  (33, (sq (xLI 2) (sq (xCI 99 1 F_J6_bitCount_0f7a4) (tGo 41 [false, false, false])))),
  (40, (sq (xLI 2) (tGo 41 [false, false, false]))),
  (41, tRI)]
set_option maxRecDepth 100000 in
set_option maxHeartbeats 4000000 in
theorem s_X11_clash : ∀ X : XCtx, XE X → X.2.2.1.1 = cX11_clash → X.2.2.1.2.1 = 3 → X.2.2.1.2.2.1 = yX11_clash.cls → X.2.2.1.2.2.2.1 = (some .int) → X.1.2.2.2.1 = { frames := 3, cells := 0, slots := 0, locals := 67 } → SndBs X bs_X11_clash := by
  rintro ⟨⟨p, l, e, R, s⟩, Y, ⟨cc, nL, own, ret, Ts⟩, Z⟩ hE h1 h2 h3 h4 h5
  dsimp only at h1 h2 h3 h4 h5
  subst h1 h2 h3 h4 h5
  exact ⟨(n_sq (n_aload_n hE dX11_clash_0) (n_sq (n_getD hE xk_10 (k := 5) rfl (by decide) rfl wt_321 dX11_clash_1) (n_sq (n_getI hE xk_1 (k := 0) rfl (by decide) rfl wt_96 dX11_clash_4) (n_ifeq hE (by decide) dX11_clash_7)))),
    (n_sq (n_iload_n hE dX11_clash_10) (n_sq (n_iconst hE (by decide) dX11_clash_11) (n_sq (n_iconst hE (by decide) dX11_clash_12) (n_sq (n_cIs hE m_X11_within vc_X11_170 (show 0 + 1 ≤ 3 ∧ 8 + (3 + 11) + 0 ≤ 67 by decide) dX11_clash_13) (n_ifne hE (by decide) dX11_clash_16))))),
    (n_sq (n_iconst hE (by decide) dX11_clash_19) (n_ireturn hE rfl dX11_clash_20)),
    (n_sq (n_aload_n hE dX11_clash_21) (n_sq (n_getS hE xk_10 (k := 6) rfl (by decide) rfl wt_322 dX11_clash_22) (n_sq (n_cIs hE m_X0_largestClash vc_X11_273 (show 2 + 1 ≤ 3 ∧ 8 + (5 + 11) + 43 ≤ 67 by decide) dX11_clash_25) (n_sq (n_istore_n hE (show (2 : Nat) < 3 by decide) dX11_clash_28) (n_sq (n_iload_n hE dX11_clash_29) (n_ifne hE (by decide) dX11_clash_30)))))),
    (n_sq (n_iload_n hE dX11_clash_33) (n_sq (n_cIs hE m_J6_bitCount_0f7a4 vc_X11_276 (show 0 + 1 ≤ 3 ∧ 8 + (1 + 11) + 0 ≤ 67 by decide) dX11_clash_34) (n_goto hE (by decide) dX11_clash_37))),
    (n_sq (n_iload_n hE dX11_clash_40) n_fall),
    (n_ireturn hE rfl dX11_clash_41), trivial⟩
noncomputable def F_X11_clash (as : List XV) (w : XW) : Option (Int32 × XW) := (xF 3 bs_X11_clash as w).bind pI
theorem m_X11_clash : XM yX11_clash cX11_clash 3 (some .int) 3 67 (eI F_X11_clash) := xm_I (xm_of (by decide) s_X11_clash)
noncomputable def q_X11_clash_0 (x1 : Int32) (w : XW) : Option XR := ev bs_X11_clash 0 ([some (.inr (10, 0)), some (.inl (.int x1)), none], [], w)
noncomputable def q_X11_clash_10 (x1 : Int32) (w : XW) : Option XR := ev bs_X11_clash 10 ([some (.inr (10, 0)), some (.inl (.int x1)), none], [], w)
noncomputable def q_X11_clash_19 (w : XW) : Option XR := ev bs_X11_clash 19 ([none, none, none], [], w)
noncomputable def q_X11_clash_21 (x1 : Int32) (w : XW) : Option XR := ev bs_X11_clash 21 ([some (.inr (10, 0)), some (.inl (.int x1)), none], [], w)
noncomputable def q_X11_clash_33 (x2 : Int32) (w : XW) : Option XR := ev bs_X11_clash 33 ([none, none, some (.inl (.int x2))], [], w)
noncomputable def q_X11_clash_40 (x2 : Int32) (w : XW) : Option XR := ev bs_X11_clash 40 ([none, none, some (.inl (.int x2))], [], w)
noncomputable def q_X11_clash_41 (s0 : Int32) (w : XW) : Option XR := ev bs_X11_clash 41 ([none, none, none], [.inl (.int s0)], w)
theorem e_X11_clash_0 (x1 : Int32) (w : XW) : q_X11_clash_0 x1 w = ((gR w 10 0 5).bind fun j0 => (bif decide ((gI w 1 j0 0) = 0) then (q_X11_clash_19 w) else (q_X11_clash_10 x1 w))) := (ev_eq _ _ _).trans rfl
theorem e_X11_clash_10 (x1 : Int32) (w : XW) : q_X11_clash_10 x1 w = ((F_X11_within [.inl (.int x1), .inl (.int 0), .inl (.int 1)] w).bind fun r0 => (bif decide (¬ r0.1 = 0) then (q_X11_clash_21 x1 r0.2) else (q_X11_clash_19 r0.2))) := (ev_eq _ _ _).trans rfl
theorem e_X11_clash_19 (w : XW) : q_X11_clash_19 w = (some (some (.inl (.int (-1))), w)) := (ev_eq _ _ _).trans rfl
theorem e_X11_clash_21 (x1 : Int32) (w : XW) : q_X11_clash_21 x1 w = ((F_X0_largestClash [.inr (8, 0)] w).bind fun r0 => (bif decide (¬ x1 = 0) then (q_X11_clash_40 r0.1 r0.2) else (q_X11_clash_33 r0.1 r0.2))) := (ev_eq _ _ _).trans rfl
theorem e_X11_clash_33 (x2 : Int32) (w : XW) : q_X11_clash_33 x2 w = ((F_J6_bitCount_0f7a4 [.inl (.int x2)] w).bind fun r0 => (q_X11_clash_41 r0.1 r0.2)) := (ev_eq _ _ _).trans rfl
theorem e_X11_clash_40 (x2 : Int32) (w : XW) : q_X11_clash_40 x2 w = (q_X11_clash_41 x2 w) := (ev_eq _ _ _).trans rfl
theorem e_X11_clash_41 (s0 : Int32) (w : XW) : q_X11_clash_41 s0 w = (some (some (.inl (.int s0)), w)) := (ev_eq _ _ _).trans rfl
theorem f_X11_clash (x1 : Int32) (w : XW) : F_X11_clash [.inr (10, 0), .inl (.int x1)] w = (q_X11_clash_0 x1 w).bind pI := rfl

-- WinterKeep$Nights.nowTells(II)V
theorem dX4_nowTells_0 : decode cX4_nowTells 0 = .ok (.iload_n 1, 1) := by decide +kernel
theorem dX4_nowTells_1 : decode cX4_nowTells 1 = .ok (.ifCond .lt 15, 3) := by decide +kernel
theorem dX4_nowTells_4 : decode cX4_nowTells 4 = .ok (.iload_n 1, 1) := by decide +kernel
theorem dX4_nowTells_5 : decode cX4_nowTells 5 = .ok (.iconst 5, 1) := by decide +kernel
theorem dX4_nowTells_6 : decode cX4_nowTells 6 = .ok (.if_icmp .ge 10, 3) := by decide +kernel
theorem dX4_nowTells_9 : decode cX4_nowTells 9 = .ok (.aload_n 0, 1) := by decide +kernel
theorem dX4_nowTells_10 : decode cX4_nowTells 10 = .ok (.getfield 19, 3) := by decide +kernel
theorem dX4_nowTells_13 : decode cX4_nowTells 13 = .ok (.iload_n 1, 1) := by decide +kernel
theorem dX4_nowTells_14 : decode cX4_nowTells 14 = .ok (.iload_n 2, 1) := by decide +kernel
theorem dX4_nowTells_15 : decode cX4_nowTells 15 = .ok (.iastore, 1) := by decide +kernel
theorem dX4_nowTells_16 : decode cX4_nowTells 16 = .ok (.return_, 1) := by decide +kernel
noncomputable def bs_X4_nowTells : List (Nat × XB) := [
  (0, (sq (xLI 1) (tIf1 (fun x => decide (x < 0)) 16 [false, false, false] 4 [true, true, true]))),
  (4, (sq (xLI 1) (sq (xC (.int 5)) (tIf2 (fun x y => decide (y ≤ x)) 16 [false, false, false] 9 [true, true, true])))),
  (9, (sq (xLA 0) (sq (xGS 3 19 0 0) (sq (xLI 1) (sq (xLI 2) (sq (xTI 19 5 (fun x => x)) (tGo 16 [false, false, false]))))))),
  (16, tRV)]
set_option maxRecDepth 100000 in
set_option maxHeartbeats 4000000 in
theorem s_X4_nowTells : ∀ X : XCtx, XE X → X.2.2.1.1 = cX4_nowTells → X.2.2.1.2.1 = 3 → X.2.2.1.2.2.1 = yX4_nowTells.cls → X.2.2.1.2.2.2.1 = none → X.1.2.2.2.1 = { frames := 0, cells := 0, slots := 0, locals := 0 } → SndBs X bs_X4_nowTells := by
  rintro ⟨⟨p, l, e, R, s⟩, Y, ⟨cc, nL, own, ret, Ts⟩, Z⟩ hE h1 h2 h3 h4 h5
  dsimp only at h1 h2 h3 h4 h5
  subst h1 h2 h3 h4 h5
  exact ⟨(n_sq (n_iload_n hE dX4_nowTells_0) (n_iflt hE (by decide) dX4_nowTells_1)),
    (n_sq (n_iload_n hE dX4_nowTells_4) (n_sq (n_iconst hE (by decide) dX4_nowTells_5) (n_ifcge hE (by decide) dX4_nowTells_6))),
    (n_sq (n_aload_n hE dX4_nowTells_9) (n_sq (n_getS hE xk_3 (k := 2) rfl (by decide) rfl wt_217 dX4_nowTells_10) (n_sq (n_iload_n hE dX4_nowTells_13) (n_sq (n_iload_n hE dX4_nowTells_14) (n_sq (n_iast hE rfl (by decide) dX4_nowTells_15) n_fall))))),
    (n_vreturn hE rfl dX4_nowTells_16), trivial⟩
noncomputable def F_X4_nowTells (as : List XV) (w : XW) : Option XW := (xF 3 bs_X4_nowTells as w).bind pV
theorem m_X4_nowTells : XM yX4_nowTells cX4_nowTells 3 none 0 0 (eV F_X4_nowTells) := xm_V (xm_of (by decide) s_X4_nowTells)
noncomputable def q_X4_nowTells_0 (x1 : Int32) (x2 : Int32) (w : XW) : Option XR := ev bs_X4_nowTells 0 ([some (.inr (3, 0)), some (.inl (.int x1)), some (.inl (.int x2))], [], w)
noncomputable def q_X4_nowTells_4 (x1 : Int32) (x2 : Int32) (w : XW) : Option XR := ev bs_X4_nowTells 4 ([some (.inr (3, 0)), some (.inl (.int x1)), some (.inl (.int x2))], [], w)
noncomputable def q_X4_nowTells_9 (x1 : Int32) (x2 : Int32) (w : XW) : Option XR := ev bs_X4_nowTells 9 ([some (.inr (3, 0)), some (.inl (.int x1)), some (.inl (.int x2))], [], w)
noncomputable def q_X4_nowTells_16 (w : XW) : Option XR := ev bs_X4_nowTells 16 ([none, none, none], [], w)
theorem e_X4_nowTells_0 (x1 : Int32) (x2 : Int32) (w : XW) : q_X4_nowTells_0 x1 x2 w = (bif decide (x1 < 0) then (q_X4_nowTells_16 w) else (q_X4_nowTells_4 x1 x2 w)) := (ev_eq _ _ _).trans rfl
theorem e_X4_nowTells_4 (x1 : Int32) (x2 : Int32) (w : XW) : q_X4_nowTells_4 x1 x2 w = (bif decide (5 ≤ x1) then (q_X4_nowTells_16 w) else (q_X4_nowTells_9 x1 x2 w)) := (ev_eq _ _ _).trans rfl
theorem e_X4_nowTells_9 (x1 : Int32) (x2 : Int32) (w : XW) : q_X4_nowTells_9 x1 x2 w = (if x1 < 0 ∨ 5 ≤ x1.toNatClampNeg then none else (q_X4_nowTells_16 (sI w 19 0 x1.toNatClampNeg x2))) := (ev_eq _ _ _).trans rfl
theorem e_X4_nowTells_16 (w : XW) : q_X4_nowTells_16 w = (some (none, w)) := (ev_eq _ _ _).trans rfl
theorem f_X4_nowTells (x1 : Int32) (x2 : Int32) (w : XW) : F_X4_nowTells [.inr (3, 0), .inl (.int x1), .inl (.int x2)] w = (q_X4_nowTells_0 x1 x2 w).bind pV := rfl
