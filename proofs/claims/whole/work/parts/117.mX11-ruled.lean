-- WinterKeep.ruled(I)I
theorem dX11_ruled_0 : decode cX11_ruled 0 = .ok (.aload_n 0, 1) := by decide +kernel
theorem dX11_ruled_1 : decode cX11_ruled 1 = .ok (.getfield 39, 3) := by decide +kernel
theorem dX11_ruled_4 : decode cX11_ruled 4 = .ok (.getfield 227, 3) := by decide +kernel
theorem dX11_ruled_7 : decode cX11_ruled 7 = .ok (.ifCond .eq 12, 3) := by decide +kernel
theorem dX11_ruled_10 : decode cX11_ruled 10 = .ok (.iload_n 1, 1) := by decide +kernel
theorem dX11_ruled_11 : decode cX11_ruled 11 = .ok (.iconst 0, 1) := by decide +kernel
theorem dX11_ruled_12 : decode cX11_ruled 12 = .ok (.iconst 1, 1) := by decide +kernel
theorem dX11_ruled_13 : decode cX11_ruled 13 = .ok (.invokestatic 170, 3) := by decide +kernel
theorem dX11_ruled_16 : decode cX11_ruled 16 = .ok (.ifCond .ne 6, 3) := by decide +kernel
theorem dX11_ruled_19 : decode cX11_ruled 19 = .ok (.bipush (-3), 2) := by decide +kernel
theorem dX11_ruled_21 : decode cX11_ruled 21 = .ok (.ireturn, 1) := by decide +kernel
theorem dX11_ruled_22 : decode cX11_ruled 22 = .ok (.iconst 0, 1) := by decide +kernel
theorem dX11_ruled_23 : decode cX11_ruled 23 = .ok (.istore_n 2, 1) := by decide +kernel
theorem dX11_ruled_24 : decode cX11_ruled 24 = .ok (.bipush (-2), 2) := by decide +kernel
theorem dX11_ruled_26 : decode cX11_ruled 26 = .ok (.istore_n 3, 1) := by decide +kernel
theorem dX11_ruled_27 : decode cX11_ruled 27 = .ok (.iconst (-1), 1) := by decide +kernel
theorem dX11_ruled_28 : decode cX11_ruled 28 = .ok (.istore 4, 2) := by decide +kernel
theorem dX11_ruled_30 : decode cX11_ruled 30 = .ok (.iload 4, 2) := by decide +kernel
theorem dX11_ruled_32 : decode cX11_ruled 32 = .ok (.aload_n 0, 1) := by decide +kernel
theorem dX11_ruled_33 : decode cX11_ruled 33 = .ok (.getfield 29, 3) := by decide +kernel
theorem dX11_ruled_36 : decode cX11_ruled 36 = .ok (.if_icmp .ge 35, 3) := by decide +kernel
theorem dX11_ruled_39 : decode cX11_ruled 39 = .ok (.aload_n 0, 1) := by decide +kernel
theorem dX11_ruled_40 : decode cX11_ruled 40 = .ok (.iload 4, 2) := by decide +kernel
theorem dX11_ruled_42 : decode cX11_ruled 42 = .ok (.iconst 0, 1) := by decide +kernel
theorem dX11_ruled_43 : decode cX11_ruled 43 = .ok (.invokevirtual 305, 3) := by decide +kernel
theorem dX11_ruled_46 : decode cX11_ruled 46 = .ok (.ifCond .eq 19, 3) := by decide +kernel
theorem dX11_ruled_49 : decode cX11_ruled 49 = .ok (.iinc 2 1, 3) := by decide +kernel
theorem dX11_ruled_52 : decode cX11_ruled 52 = .ok (.iload_n 3, 1) := by decide +kernel
theorem dX11_ruled_53 : decode cX11_ruled 53 = .ok (.bipush (-2), 2) := by decide +kernel
theorem dX11_ruled_55 : decode cX11_ruled 55 = .ok (.if_icmp .ne 8, 3) := by decide +kernel
theorem dX11_ruled_58 : decode cX11_ruled 58 = .ok (.iload 4, 2) := by decide +kernel
theorem dX11_ruled_60 : decode cX11_ruled 60 = .ok (.goto 4, 3) := by decide +kernel
theorem dX11_ruled_63 : decode cX11_ruled 63 = .ok (.iload_n 3, 1) := by decide +kernel
theorem dX11_ruled_64 : decode cX11_ruled 64 = .ok (.istore_n 3, 1) := by decide +kernel
theorem dX11_ruled_65 : decode cX11_ruled 65 = .ok (.iinc 4 1, 3) := by decide +kernel
theorem dX11_ruled_68 : decode cX11_ruled 68 = .ok (.goto (-38), 3) := by decide +kernel
theorem dX11_ruled_71 : decode cX11_ruled 71 = .ok (.iload_n 1, 1) := by decide +kernel
theorem dX11_ruled_72 : decode cX11_ruled 72 = .ok (.ifCond .ne 7, 3) := by decide +kernel
theorem dX11_ruled_75 : decode cX11_ruled 75 = .ok (.iload_n 2, 1) := by decide +kernel
theorem dX11_ruled_76 : decode cX11_ruled 76 = .ok (.goto 4, 3) := by decide +kernel
theorem dX11_ruled_79 : decode cX11_ruled 79 = .ok (.iload_n 3, 1) := by decide +kernel
theorem dX11_ruled_80 : decode cX11_ruled 80 = .ok (.ireturn, 1) := by decide +kernel
theorem vc_X11_305 : XVw RX11 305 2 10 5 yX11_isSoBy cX11_isSoBy (some .boolean) := ⟨RX11, TX11, tyX11, 20, xk_10, rfl, ⟨by decide, by decide⟩, by decide +kernel, wt_892, wt_894, ws_32, wt_1, wt_895⟩
noncomputable def bs_X11_ruled : List (Nat × XB) := [
  (0, (sq (xLA 0) (sq (xGD 10 5 1) (sq (xGI 1 0) (tIf1 (fun x => decide (x = 0)) 19 [false, false, false, false, false] 10 [true, true, false, false, false]))))),
  (10, (sq (xLI 1) (sq (xC (.int 0)) (sq (xC (.int 1)) (sq (xCI 99 3 F_X11_within) (tIf1 (fun x => decide (¬ x = 0)) 22 [true, true, false, false, false] 19 [false, false, false, false, false])))))),
  (19, (sq (xC (.int (-3))) tRI)),
  (22, (sq (xC (.int 0)) (sq (xSI 2) (sq (xC (.int (-2))) (sq (xSI 3) (sq (xC (.int (-1))) (sq (xSI 4) (tGo 30 [true, true, true, true, true])))))))),
  (30, (sq (xLI 4) (sq (xLA 0) (sq (xGI 10 3) (tIf2 (fun x y => decide (y ≤ x)) 71 [false, true, true, true, false] 39 [true, true, true, true, true]))))),
  (39, (sq (xLA 0) (sq (xLI 4) (sq (xC (.int 0)) (sq (xCI 10 3 F_X11_isSoBy) (tIf1 (fun x => decide (x = 0)) 65 [true, true, true, true, true] 49 [true, true, true, true, true])))))),
  (49, (sq (xInc 2 1) (sq (xLI 3) (sq (xC (.int (-2))) (tIf2 (fun x y => decide (¬ x = y)) 63 [true, true, true, true, true] 58 [true, true, true, false, true]))))),
  (58, (sq (xLI 4) (tGo 64 [true, true, true, false, true]))),
  (63, (sq (xLI 3) (tGo 64 [true, true, true, false, true]))),
  (64, (sq (xSI 3) (tGo 65 [true, true, true, true, true]))),
  (65, (sq (xInc 4 1) (tGo 30 [true, true, true, true, true]))),
  (71, (sq (xLI 1) (tIf1 (fun x => decide (¬ x = 0)) 79 [false, false, false, true, false] 75 [false, false, true, false, false]))),
  (75, (sq (xLI 2) (tGo 80 [false, false, false, false, false]))),
  (79, (sq (xLI 3) (tGo 80 [false, false, false, false, false]))),
  (80, tRI)]
set_option maxRecDepth 100000 in
set_option maxHeartbeats 4000000 in
theorem s_X11_ruled : ∀ X : XCtx, XE X → X.2.2.1.1 = cX11_ruled → X.2.2.1.2.1 = 5 → X.2.2.1.2.2.1 = yX11_ruled.cls → X.2.2.1.2.2.2.1 = (some .int) → X.1.2.2.2.1 = { frames := 6, cells := 0, slots := 0, locals := 147 } → SndBs X bs_X11_ruled := by
  rintro ⟨⟨p, l, e, R, s⟩, Y, ⟨cc, nL, own, ret, Ts⟩, Z⟩ hE h1 h2 h3 h4 h5
  dsimp only at h1 h2 h3 h4 h5
  subst h1 h2 h3 h4 h5
  exact ⟨(n_sq (n_aload_n hE dX11_ruled_0) (n_sq (n_getD hE xk_10 (k := 5) rfl (by decide) rfl wt_321 dX11_ruled_1) (n_sq (n_getI hE xk_1 (k := 0) rfl (by decide) rfl wt_96 dX11_ruled_4) (n_ifeq hE (by decide) dX11_ruled_7)))),
    (n_sq (n_iload_n hE dX11_ruled_10) (n_sq (n_iconst hE (by decide) dX11_ruled_11) (n_sq (n_iconst hE (by decide) dX11_ruled_12) (n_sq (n_cIs hE m_X11_within vc_X11_170 (show 0 + 1 ≤ 6 ∧ 8 + (3 + 11) + 0 ≤ 147 by decide) dX11_ruled_13) (n_ifne hE (by decide) dX11_ruled_16))))),
    (n_sq (n_bipush hE (by decide) dX11_ruled_19) (n_ireturn hE rfl dX11_ruled_21)),
    (n_sq (n_iconst hE (by decide) dX11_ruled_22) (n_sq (n_istore_n hE (show (2 : Nat) < 5 by decide) dX11_ruled_23) (n_sq (n_bipush hE (by decide) dX11_ruled_24) (n_sq (n_istore_n hE (show (3 : Nat) < 5 by decide) dX11_ruled_26) (n_sq (n_iconst hE (by decide) dX11_ruled_27) (n_sq (n_istore hE (show (4 : Nat) < 5 by decide) dX11_ruled_28) n_fall)))))),
    (n_sq (n_iload hE dX11_ruled_30) (n_sq (n_aload_n hE dX11_ruled_32) (n_sq (n_getI hE xk_10 (k := 3) rfl (by decide) rfl wt_319 dX11_ruled_33) (n_ifcge hE (by decide) dX11_ruled_36)))),
    (n_sq (n_aload_n hE dX11_ruled_39) (n_sq (n_iload hE dX11_ruled_40) (n_sq (n_iconst hE (by decide) dX11_ruled_42) (n_sq (n_cIv hE m_X11_isSoBy vc_X11_305 (show 5 + 1 ≤ 6 ∧ 8 + (5 + 11) + 123 ≤ 147 by decide) dX11_ruled_43) (n_ifeq hE (by decide) dX11_ruled_46))))),
    (n_sq (n_iinc hE (by decide) (show (2 : Nat) < 5 by decide) dX11_ruled_49) (n_sq (n_iload_n hE dX11_ruled_52) (n_sq (n_bipush hE (by decide) dX11_ruled_53) (n_ifcne hE (by decide) dX11_ruled_55)))),
    (n_sq (n_iload hE dX11_ruled_58) (n_goto hE (by decide) dX11_ruled_60)),
    (n_sq (n_iload_n hE dX11_ruled_63) n_fall),
    (n_sq (n_istore_n hE (show (3 : Nat) < 5 by decide) dX11_ruled_64) n_fall),
    (n_sq (n_iinc hE (by decide) (show (4 : Nat) < 5 by decide) dX11_ruled_65) (n_goto hE (by decide) dX11_ruled_68)),
    (n_sq (n_iload_n hE dX11_ruled_71) (n_ifne hE (by decide) dX11_ruled_72)),
    (n_sq (n_iload_n hE dX11_ruled_75) (n_goto hE (by decide) dX11_ruled_76)),
    (n_sq (n_iload_n hE dX11_ruled_79) n_fall),
    (n_ireturn hE rfl dX11_ruled_80), trivial⟩
noncomputable def F_X11_ruled (as : List XV) (w : XW) : Option (Int32 × XW) := (xF 5 bs_X11_ruled as w).bind pI
theorem m_X11_ruled : XM yX11_ruled cX11_ruled 5 (some .int) 6 147 (eI F_X11_ruled) := xm_I (xm_of (by decide) s_X11_ruled)
noncomputable def q_X11_ruled_0 (x1 : Int32) (w : XW) : Option XR := ev bs_X11_ruled 0 ([some (.inr (10, 0)), some (.inl (.int x1)), none, none, none], [], w)
noncomputable def q_X11_ruled_10 (x1 : Int32) (w : XW) : Option XR := ev bs_X11_ruled 10 ([some (.inr (10, 0)), some (.inl (.int x1)), none, none, none], [], w)
noncomputable def q_X11_ruled_19 (w : XW) : Option XR := ev bs_X11_ruled 19 ([none, none, none, none, none], [], w)
noncomputable def q_X11_ruled_22 (x1 : Int32) (w : XW) : Option XR := ev bs_X11_ruled 22 ([some (.inr (10, 0)), some (.inl (.int x1)), none, none, none], [], w)
noncomputable def q_X11_ruled_30 (x1 : Int32) (x2 : Int32) (x3 : Int32) (x4 : Int32) (w : XW) : Option XR := ev bs_X11_ruled 30 ([some (.inr (10, 0)), some (.inl (.int x1)), some (.inl (.int x2)), some (.inl (.int x3)), some (.inl (.int x4))], [], w)
noncomputable def q_X11_ruled_39 (x1 : Int32) (x2 : Int32) (x3 : Int32) (x4 : Int32) (w : XW) : Option XR := ev bs_X11_ruled 39 ([some (.inr (10, 0)), some (.inl (.int x1)), some (.inl (.int x2)), some (.inl (.int x3)), some (.inl (.int x4))], [], w)
noncomputable def q_X11_ruled_49 (x1 : Int32) (x2 : Int32) (x3 : Int32) (x4 : Int32) (w : XW) : Option XR := ev bs_X11_ruled 49 ([some (.inr (10, 0)), some (.inl (.int x1)), some (.inl (.int x2)), some (.inl (.int x3)), some (.inl (.int x4))], [], w)
noncomputable def q_X11_ruled_58 (x1 : Int32) (x2 : Int32) (x4 : Int32) (w : XW) : Option XR := ev bs_X11_ruled 58 ([some (.inr (10, 0)), some (.inl (.int x1)), some (.inl (.int x2)), none, some (.inl (.int x4))], [], w)
noncomputable def q_X11_ruled_63 (x1 : Int32) (x2 : Int32) (x3 : Int32) (x4 : Int32) (w : XW) : Option XR := ev bs_X11_ruled 63 ([some (.inr (10, 0)), some (.inl (.int x1)), some (.inl (.int x2)), some (.inl (.int x3)), some (.inl (.int x4))], [], w)
noncomputable def q_X11_ruled_64 (x1 : Int32) (x2 : Int32) (x4 : Int32) (s0 : Int32) (w : XW) : Option XR := ev bs_X11_ruled 64 ([some (.inr (10, 0)), some (.inl (.int x1)), some (.inl (.int x2)), none, some (.inl (.int x4))], [.inl (.int s0)], w)
noncomputable def q_X11_ruled_65 (x1 : Int32) (x2 : Int32) (x3 : Int32) (x4 : Int32) (w : XW) : Option XR := ev bs_X11_ruled 65 ([some (.inr (10, 0)), some (.inl (.int x1)), some (.inl (.int x2)), some (.inl (.int x3)), some (.inl (.int x4))], [], w)
noncomputable def q_X11_ruled_71 (x1 : Int32) (x2 : Int32) (x3 : Int32) (w : XW) : Option XR := ev bs_X11_ruled 71 ([none, some (.inl (.int x1)), some (.inl (.int x2)), some (.inl (.int x3)), none], [], w)
noncomputable def q_X11_ruled_75 (x2 : Int32) (w : XW) : Option XR := ev bs_X11_ruled 75 ([none, none, some (.inl (.int x2)), none, none], [], w)
noncomputable def q_X11_ruled_79 (x3 : Int32) (w : XW) : Option XR := ev bs_X11_ruled 79 ([none, none, none, some (.inl (.int x3)), none], [], w)
noncomputable def q_X11_ruled_80 (s0 : Int32) (w : XW) : Option XR := ev bs_X11_ruled 80 ([none, none, none, none, none], [.inl (.int s0)], w)
theorem e_X11_ruled_0 (x1 : Int32) (w : XW) : q_X11_ruled_0 x1 w = ((gR w 10 0 5).bind fun j0 => (bif decide ((gI w 1 j0 0) = 0) then (q_X11_ruled_19 w) else (q_X11_ruled_10 x1 w))) := (ev_eq _ _ _).trans rfl
theorem e_X11_ruled_10 (x1 : Int32) (w : XW) : q_X11_ruled_10 x1 w = ((F_X11_within [.inl (.int x1), .inl (.int 0), .inl (.int 1)] w).bind fun r0 => (bif decide (¬ r0.1 = 0) then (q_X11_ruled_22 x1 r0.2) else (q_X11_ruled_19 r0.2))) := (ev_eq _ _ _).trans rfl
theorem e_X11_ruled_19 (w : XW) : q_X11_ruled_19 w = (some (some (.inl (.int (-3))), w)) := (ev_eq _ _ _).trans rfl
theorem e_X11_ruled_22 (x1 : Int32) (w : XW) : q_X11_ruled_22 x1 w = (q_X11_ruled_30 x1 0 (-2) (-1) w) := (ev_eq _ _ _).trans rfl
theorem e_X11_ruled_30 (x1 : Int32) (x2 : Int32) (x3 : Int32) (x4 : Int32) (w : XW) : q_X11_ruled_30 x1 x2 x3 x4 w = (bif decide ((gI w 10 0 3) ≤ x4) then (q_X11_ruled_71 x1 x2 x3 w) else (q_X11_ruled_39 x1 x2 x3 x4 w)) := (ev_eq _ _ _).trans rfl
theorem e_X11_ruled_39 (x1 : Int32) (x2 : Int32) (x3 : Int32) (x4 : Int32) (w : XW) : q_X11_ruled_39 x1 x2 x3 x4 w = ((F_X11_isSoBy [.inr (10, 0), .inl (.int x4), .inl (.int 0)] w).bind fun r0 => (bif decide (r0.1 = 0) then (q_X11_ruled_65 x1 x2 x3 x4 r0.2) else (q_X11_ruled_49 x1 x2 x3 x4 r0.2))) := (ev_eq _ _ _).trans rfl
theorem e_X11_ruled_49 (x1 : Int32) (x2 : Int32) (x3 : Int32) (x4 : Int32) (w : XW) : q_X11_ruled_49 x1 x2 x3 x4 w = (bif decide (¬ x3 = (-2)) then (q_X11_ruled_63 x1 (x2 + 1) x3 x4 w) else (q_X11_ruled_58 x1 (x2 + 1) x4 w)) := (ev_eq _ _ _).trans rfl
theorem e_X11_ruled_58 (x1 : Int32) (x2 : Int32) (x4 : Int32) (w : XW) : q_X11_ruled_58 x1 x2 x4 w = (q_X11_ruled_64 x1 x2 x4 x4 w) := (ev_eq _ _ _).trans rfl
theorem e_X11_ruled_63 (x1 : Int32) (x2 : Int32) (x3 : Int32) (x4 : Int32) (w : XW) : q_X11_ruled_63 x1 x2 x3 x4 w = (q_X11_ruled_64 x1 x2 x4 x3 w) := (ev_eq _ _ _).trans rfl
theorem e_X11_ruled_64 (x1 : Int32) (x2 : Int32) (x4 : Int32) (s0 : Int32) (w : XW) : q_X11_ruled_64 x1 x2 x4 s0 w = (q_X11_ruled_65 x1 x2 s0 x4 w) := (ev_eq _ _ _).trans rfl
theorem e_X11_ruled_65 (x1 : Int32) (x2 : Int32) (x3 : Int32) (x4 : Int32) (w : XW) : q_X11_ruled_65 x1 x2 x3 x4 w = (q_X11_ruled_30 x1 x2 x3 (x4 + 1) w) := (ev_eq _ _ _).trans rfl
theorem e_X11_ruled_71 (x1 : Int32) (x2 : Int32) (x3 : Int32) (w : XW) : q_X11_ruled_71 x1 x2 x3 w = (bif decide (¬ x1 = 0) then (q_X11_ruled_79 x3 w) else (q_X11_ruled_75 x2 w)) := (ev_eq _ _ _).trans rfl
theorem e_X11_ruled_75 (x2 : Int32) (w : XW) : q_X11_ruled_75 x2 w = (q_X11_ruled_80 x2 w) := (ev_eq _ _ _).trans rfl
theorem e_X11_ruled_79 (x3 : Int32) (w : XW) : q_X11_ruled_79 x3 w = (q_X11_ruled_80 x3 w) := (ev_eq _ _ _).trans rfl
theorem e_X11_ruled_80 (s0 : Int32) (w : XW) : q_X11_ruled_80 s0 w = (some (some (.inl (.int s0)), w)) := (ev_eq _ _ _).trans rfl
theorem f_X11_ruled (x1 : Int32) (w : XW) : F_X11_ruled [.inr (10, 0), .inl (.int x1)] w = (q_X11_ruled_0 x1 w).bind pI := rfl

-- WinterKeep.keepLook(I)V
theorem dX11_keepLook_0 : decode cX11_keepLook 0 = .ok (.iconst 0, 1) := by decide +kernel
theorem dX11_keepLook_1 : decode cX11_keepLook 1 = .ok (.istore_n 2, 1) := by decide +kernel
theorem dX11_keepLook_2 : decode cX11_keepLook 2 = .ok (.iload_n 2, 1) := by decide +kernel
theorem dX11_keepLook_3 : decode cX11_keepLook 3 = .ok (.bipush 6, 2) := by decide +kernel
theorem dX11_keepLook_5 : decode cX11_keepLook 5 = .ok (.if_icmp .ge 29, 3) := by decide +kernel
theorem dX11_keepLook_8 : decode cX11_keepLook 8 = .ok (.aload_n 0, 1) := by decide +kernel
theorem dX11_keepLook_9 : decode cX11_keepLook 9 = .ok (.getfield 108, 3) := by decide +kernel
theorem dX11_keepLook_12 : decode cX11_keepLook 12 = .ok (.iload_n 1, 1) := by decide +kernel
theorem dX11_keepLook_13 : decode cX11_keepLook 13 = .ok (.bipush 6, 2) := by decide +kernel
theorem dX11_keepLook_15 : decode cX11_keepLook 15 = .ok (.imul, 1) := by decide +kernel
theorem dX11_keepLook_16 : decode cX11_keepLook 16 = .ok (.iload_n 2, 1) := by decide +kernel
theorem dX11_keepLook_17 : decode cX11_keepLook 17 = .ok (.iadd, 1) := by decide +kernel
theorem dX11_keepLook_18 : decode cX11_keepLook 18 = .ok (.aload_n 0, 1) := by decide +kernel
theorem dX11_keepLook_19 : decode cX11_keepLook 19 = .ok (.getfield 108, 3) := by decide +kernel
theorem dX11_keepLook_22 : decode cX11_keepLook 22 = .ok (.bipush 36, 2) := by decide +kernel
theorem dX11_keepLook_24 : decode cX11_keepLook 24 = .ok (.iload_n 2, 1) := by decide +kernel
theorem dX11_keepLook_25 : decode cX11_keepLook 25 = .ok (.iadd, 1) := by decide +kernel
theorem dX11_keepLook_26 : decode cX11_keepLook 26 = .ok (.iaload, 1) := by decide +kernel
theorem dX11_keepLook_27 : decode cX11_keepLook 27 = .ok (.iastore, 1) := by decide +kernel
theorem dX11_keepLook_28 : decode cX11_keepLook 28 = .ok (.iinc 2 1, 3) := by decide +kernel
theorem dX11_keepLook_31 : decode cX11_keepLook 31 = .ok (.goto (-29), 3) := by decide +kernel
theorem dX11_keepLook_34 : decode cX11_keepLook 34 = .ok (.return_, 1) := by decide +kernel
noncomputable def bs_X11_keepLook : List (Nat × XB) := [
  (0, (sq (xC (.int 0)) (sq (xSI 2) (tGo 2 [true, true, true])))),
  (2, (sq (xLI 2) (sq (xC (.int 6)) (tIf2 (fun x y => decide (y ≤ x)) 34 [false, false, false] 8 [true, true, true])))),
  (8, (sq (xLA 0) (sq (xGS 10 40 1 0) (sq (xLI 1) (sq (xC (.int 6)) (sq (xI2 (· * ·)) (sq (xLI 2) (sq (xI2 (· + ·)) (sq (xLA 0) (sq (xGS 10 40 1 0) (sq (xC (.int 36)) (sq (xLI 2) (sq (xI2 (· + ·)) (sq (xAI 40 42) (sq (xTI 40 42 (fun x => x)) (sq (xInc 2 1) (tGo 2 [true, true, true]))))))))))))))))),
  (34, tRV)]
set_option maxRecDepth 100000 in
set_option maxHeartbeats 4000000 in
theorem s_X11_keepLook : ∀ X : XCtx, XE X → X.2.2.1.1 = cX11_keepLook → X.2.2.1.2.1 = 3 → X.2.2.1.2.2.1 = yX11_keepLook.cls → X.2.2.1.2.2.2.1 = none → X.1.2.2.2.1 = { frames := 0, cells := 0, slots := 0, locals := 0 } → SndBs X bs_X11_keepLook := by
  rintro ⟨⟨p, l, e, R, s⟩, Y, ⟨cc, nL, own, ret, Ts⟩, Z⟩ hE h1 h2 h3 h4 h5
  dsimp only at h1 h2 h3 h4 h5
  subst h1 h2 h3 h4 h5
  exact ⟨(n_sq (n_iconst hE (by decide) dX11_keepLook_0) (n_sq (n_istore_n hE (show (2 : Nat) < 3 by decide) dX11_keepLook_1) n_fall)),
    (n_sq (n_iload_n hE dX11_keepLook_2) (n_sq (n_bipush hE (by decide) dX11_keepLook_3) (n_ifcge hE (by decide) dX11_keepLook_5))),
    (n_sq (n_aload_n hE dX11_keepLook_8) (n_sq (n_getS hE xk_10 (k := 19) rfl (by decide) rfl wt_335 dX11_keepLook_9) (n_sq (n_iload_n hE dX11_keepLook_12) (n_sq (n_bipush hE (by decide) dX11_keepLook_13) (n_sq (n_imul hE dX11_keepLook_15) (n_sq (n_iload_n hE dX11_keepLook_16) (n_sq (n_iadd hE dX11_keepLook_17) (n_sq (n_aload_n hE dX11_keepLook_18) (n_sq (n_getS hE xk_10 (k := 19) rfl (by decide) rfl wt_335 dX11_keepLook_19) (n_sq (n_bipush hE (by decide) dX11_keepLook_22) (n_sq (n_iload_n hE dX11_keepLook_24) (n_sq (n_iadd hE dX11_keepLook_25) (n_sq (n_iald hE rfl (by decide) dX11_keepLook_26) (n_sq (n_iast hE rfl (by decide) dX11_keepLook_27) (n_sq (n_iinc hE (by decide) (show (2 : Nat) < 3 by decide) dX11_keepLook_28) (n_goto hE (by decide) dX11_keepLook_31)))))))))))))))),
    (n_vreturn hE rfl dX11_keepLook_34), trivial⟩
noncomputable def F_X11_keepLook (as : List XV) (w : XW) : Option XW := (xF 3 bs_X11_keepLook as w).bind pV
theorem m_X11_keepLook : XM yX11_keepLook cX11_keepLook 3 none 0 0 (eV F_X11_keepLook) := xm_V (xm_of (by decide) s_X11_keepLook)
noncomputable def q_X11_keepLook_0 (x1 : Int32) (w : XW) : Option XR := ev bs_X11_keepLook 0 ([some (.inr (10, 0)), some (.inl (.int x1)), none], [], w)
noncomputable def q_X11_keepLook_2 (x1 : Int32) (x2 : Int32) (w : XW) : Option XR := ev bs_X11_keepLook 2 ([some (.inr (10, 0)), some (.inl (.int x1)), some (.inl (.int x2))], [], w)
noncomputable def q_X11_keepLook_8 (x1 : Int32) (x2 : Int32) (w : XW) : Option XR := ev bs_X11_keepLook 8 ([some (.inr (10, 0)), some (.inl (.int x1)), some (.inl (.int x2))], [], w)
noncomputable def q_X11_keepLook_34 (w : XW) : Option XR := ev bs_X11_keepLook 34 ([none, none, none], [], w)
theorem e_X11_keepLook_0 (x1 : Int32) (w : XW) : q_X11_keepLook_0 x1 w = (q_X11_keepLook_2 x1 0 w) := (ev_eq _ _ _).trans rfl
theorem e_X11_keepLook_2 (x1 : Int32) (x2 : Int32) (w : XW) : q_X11_keepLook_2 x1 x2 w = (bif decide (6 ≤ x2) then (q_X11_keepLook_34 w) else (q_X11_keepLook_8 x1 x2 w)) := (ev_eq _ _ _).trans rfl
theorem e_X11_keepLook_8 (x1 : Int32) (x2 : Int32) (w : XW) : q_X11_keepLook_8 x1 x2 w = (if (36 + x2) < 0 ∨ 42 ≤ (36 + x2).toNatClampNeg then none else (if ((x1 * 6) + x2) < 0 ∨ 42 ≤ ((x1 * 6) + x2).toNatClampNeg then none else (q_X11_keepLook_2 x1 (x2 + 1) (sI w 40 0 (((x1 * 6) + x2).toNatClampNeg) (gI w 40 0 (36 + x2).toNatClampNeg))))) := (ev_eq _ _ _).trans rfl
theorem e_X11_keepLook_34 (w : XW) : q_X11_keepLook_34 w = (some (none, w)) := (ev_eq _ _ _).trans rfl
theorem f_X11_keepLook (x1 : Int32) (w : XW) : F_X11_keepLook [.inr (10, 0), .inl (.int x1)] w = (q_X11_keepLook_0 x1 w).bind pV := rfl

-- WinterKeep.mostAlike(II)I
theorem dX11_mostAlike_0 : decode cX11_mostAlike 0 = .ok (.iconst 0, 1) := by decide +kernel
theorem dX11_mostAlike_1 : decode cX11_mostAlike 1 = .ok (.istore_n 3, 1) := by decide +kernel
theorem dX11_mostAlike_2 : decode cX11_mostAlike 2 = .ok (.iconst 0, 1) := by decide +kernel
theorem dX11_mostAlike_3 : decode cX11_mostAlike 3 = .ok (.istore 4, 2) := by decide +kernel
theorem dX11_mostAlike_5 : decode cX11_mostAlike 5 = .ok (.iload 4, 2) := by decide +kernel
theorem dX11_mostAlike_7 : decode cX11_mostAlike 7 = .ok (.iload_n 2, 1) := by decide +kernel
theorem dX11_mostAlike_8 : decode cX11_mostAlike 8 = .ok (.if_icmp .ge 64, 3) := by decide +kernel
theorem dX11_mostAlike_11 : decode cX11_mostAlike 11 = .ok (.iconst 0, 1) := by decide +kernel
theorem dX11_mostAlike_12 : decode cX11_mostAlike 12 = .ok (.istore 5, 2) := by decide +kernel
theorem dX11_mostAlike_14 : decode cX11_mostAlike 14 = .ok (.iconst 0, 1) := by decide +kernel
theorem dX11_mostAlike_15 : decode cX11_mostAlike 15 = .ok (.istore 6, 2) := by decide +kernel
theorem dX11_mostAlike_17 : decode cX11_mostAlike 17 = .ok (.iload 6, 2) := by decide +kernel
theorem dX11_mostAlike_19 : decode cX11_mostAlike 19 = .ok (.iload_n 2, 1) := by decide +kernel
theorem dX11_mostAlike_20 : decode cX11_mostAlike 20 = .ok (.if_icmp .ge 39, 3) := by decide +kernel
theorem dX11_mostAlike_23 : decode cX11_mostAlike 23 = .ok (.aload_n 0, 1) := by decide +kernel
theorem dX11_mostAlike_24 : decode cX11_mostAlike 24 = .ok (.getfield 108, 3) := by decide +kernel
theorem dX11_mostAlike_27 : decode cX11_mostAlike 27 = .ok (.iload 4, 2) := by decide +kernel
theorem dX11_mostAlike_29 : decode cX11_mostAlike 29 = .ok (.bipush 6, 2) := by decide +kernel
theorem dX11_mostAlike_31 : decode cX11_mostAlike 31 = .ok (.imul, 1) := by decide +kernel
theorem dX11_mostAlike_32 : decode cX11_mostAlike 32 = .ok (.iload_n 1, 1) := by decide +kernel
theorem dX11_mostAlike_33 : decode cX11_mostAlike 33 = .ok (.iadd, 1) := by decide +kernel
theorem dX11_mostAlike_34 : decode cX11_mostAlike 34 = .ok (.iaload, 1) := by decide +kernel
theorem dX11_mostAlike_35 : decode cX11_mostAlike 35 = .ok (.aload_n 0, 1) := by decide +kernel
theorem dX11_mostAlike_36 : decode cX11_mostAlike 36 = .ok (.getfield 108, 3) := by decide +kernel
theorem dX11_mostAlike_39 : decode cX11_mostAlike 39 = .ok (.iload 6, 2) := by decide +kernel
theorem dX11_mostAlike_41 : decode cX11_mostAlike 41 = .ok (.bipush 6, 2) := by decide +kernel
theorem dX11_mostAlike_43 : decode cX11_mostAlike 43 = .ok (.imul, 1) := by decide +kernel
theorem dX11_mostAlike_44 : decode cX11_mostAlike 44 = .ok (.iload_n 1, 1) := by decide +kernel
theorem dX11_mostAlike_45 : decode cX11_mostAlike 45 = .ok (.iadd, 1) := by decide +kernel
theorem dX11_mostAlike_46 : decode cX11_mostAlike 46 = .ok (.iaload, 1) := by decide +kernel
theorem dX11_mostAlike_47 : decode cX11_mostAlike 47 = .ok (.if_icmp .ne 6, 3) := by decide +kernel
theorem dX11_mostAlike_50 : decode cX11_mostAlike 50 = .ok (.iinc 5 1, 3) := by decide +kernel
theorem dX11_mostAlike_53 : decode cX11_mostAlike 53 = .ok (.iinc 6 1, 3) := by decide +kernel
theorem dX11_mostAlike_56 : decode cX11_mostAlike 56 = .ok (.goto (-39), 3) := by decide +kernel
theorem dX11_mostAlike_59 : decode cX11_mostAlike 59 = .ok (.iload_n 3, 1) := by decide +kernel
theorem dX11_mostAlike_60 : decode cX11_mostAlike 60 = .ok (.iload 5, 2) := by decide +kernel
theorem dX11_mostAlike_62 : decode cX11_mostAlike 62 = .ok (.invokestatic 317, 3) := by decide +kernel
theorem dX11_mostAlike_65 : decode cX11_mostAlike 65 = .ok (.istore_n 3, 1) := by decide +kernel
theorem dX11_mostAlike_66 : decode cX11_mostAlike 66 = .ok (.iinc 4 1, 3) := by decide +kernel
theorem dX11_mostAlike_69 : decode cX11_mostAlike 69 = .ok (.goto (-64), 3) := by decide +kernel
theorem dX11_mostAlike_72 : decode cX11_mostAlike 72 = .ok (.iload_n 3, 1) := by decide +kernel
theorem dX11_mostAlike_73 : decode cX11_mostAlike 73 = .ok (.ireturn, 1) := by decide +kernel
noncomputable def bs_X11_mostAlike : List (Nat × XB) := [
  (0, (sq (xC (.int 0)) (sq (xSI 3) (sq (xC (.int 0)) (sq (xSI 4) (tGo 5 [true, true, true, true, true, false, false])))))),
  (5, (sq (xLI 4) (sq (xLI 2) (tIf2 (fun x y => decide (y ≤ x)) 72 [false, false, false, true, false, false, false] 11 [true, true, true, true, true, false, false])))),
  (11, (sq (xC (.int 0)) (sq (xSI 5) (sq (xC (.int 0)) (sq (xSI 6) (tGo 17 [true, true, true, true, true, true, true])))))),
  (17, (sq (xLI 6) (sq (xLI 2) (tIf2 (fun x y => decide (y ≤ x)) 59 [true, true, true, true, true, true, false] 23 [true, true, true, true, true, true, true])))),
  (23, (sq (xLA 0) (sq (xGS 10 40 1 0) (sq (xLI 4) (sq (xC (.int 6)) (sq (xI2 (· * ·)) (sq (xLI 1) (sq (xI2 (· + ·)) (sq (xAI 40 42) (sq (xLA 0) (sq (xGS 10 40 1 0) (sq (xLI 6) (sq (xC (.int 6)) (sq (xI2 (· * ·)) (sq (xLI 1) (sq (xI2 (· + ·)) (sq (xAI 40 42) (tIf2 (fun x y => decide (¬ x = y)) 53 [true, true, true, true, true, true, true] 50 [true, true, true, true, true, true, true])))))))))))))))))),
  (50, (sq (xInc 5 1) (tGo 53 [true, true, true, true, true, true, true]))),
  (53, (sq (xInc 6 1) (tGo 17 [true, true, true, true, true, true, true]))),
  (59, (sq (xLI 3) (sq (xLI 5) (sq (xM2 (fun x y => if x < y then y else x)) (sq (xSI 3) (sq (xInc 4 1) (tGo 5 [true, true, true, true, true, false, false]))))))),
  (72, (sq (xLI 3) tRI))]
set_option maxRecDepth 100000 in
set_option maxHeartbeats 4000000 in
theorem s_X11_mostAlike : ∀ X : XCtx, XE X → X.2.2.1.1 = cX11_mostAlike → X.2.2.1.2.1 = 7 → X.2.2.1.2.2.1 = yX11_mostAlike.cls → X.2.2.1.2.2.2.1 = (some .int) → X.1.2.2.2.1 = { frames := 1, cells := 0, slots := 0, locals := 24 } → SndBs X bs_X11_mostAlike := by
  rintro ⟨⟨p, l, e, R, s⟩, Y, ⟨cc, nL, own, ret, Ts⟩, Z⟩ hE h1 h2 h3 h4 h5
  dsimp only at h1 h2 h3 h4 h5
  subst h1 h2 h3 h4 h5
  exact ⟨(n_sq (n_iconst hE (by decide) dX11_mostAlike_0) (n_sq (n_istore_n hE (show (3 : Nat) < 7 by decide) dX11_mostAlike_1) (n_sq (n_iconst hE (by decide) dX11_mostAlike_2) (n_sq (n_istore hE (show (4 : Nat) < 7 by decide) dX11_mostAlike_3) n_fall)))),
    (n_sq (n_iload hE dX11_mostAlike_5) (n_sq (n_iload_n hE dX11_mostAlike_7) (n_ifcge hE (by decide) dX11_mostAlike_8))),
    (n_sq (n_iconst hE (by decide) dX11_mostAlike_11) (n_sq (n_istore hE (show (5 : Nat) < 7 by decide) dX11_mostAlike_12) (n_sq (n_iconst hE (by decide) dX11_mostAlike_14) (n_sq (n_istore hE (show (6 : Nat) < 7 by decide) dX11_mostAlike_15) n_fall)))),
    (n_sq (n_iload hE dX11_mostAlike_17) (n_sq (n_iload_n hE dX11_mostAlike_19) (n_ifcge hE (by decide) dX11_mostAlike_20))),
    (n_sq (n_aload_n hE dX11_mostAlike_23) (n_sq (n_getS hE xk_10 (k := 19) rfl (by decide) rfl wt_335 dX11_mostAlike_24) (n_sq (n_iload hE dX11_mostAlike_27) (n_sq (n_bipush hE (by decide) dX11_mostAlike_29) (n_sq (n_imul hE dX11_mostAlike_31) (n_sq (n_iload_n hE dX11_mostAlike_32) (n_sq (n_iadd hE dX11_mostAlike_33) (n_sq (n_iald hE rfl (by decide) dX11_mostAlike_34) (n_sq (n_aload_n hE dX11_mostAlike_35) (n_sq (n_getS hE xk_10 (k := 19) rfl (by decide) rfl wt_335 dX11_mostAlike_36) (n_sq (n_iload hE dX11_mostAlike_39) (n_sq (n_bipush hE (by decide) dX11_mostAlike_41) (n_sq (n_imul hE dX11_mostAlike_43) (n_sq (n_iload_n hE dX11_mostAlike_44) (n_sq (n_iadd hE dX11_mostAlike_45) (n_sq (n_iald hE rfl (by decide) dX11_mostAlike_46) (n_ifcne hE (by decide) dX11_mostAlike_47))))))))))))))))),
    (n_sq (n_iinc hE (by decide) (show (5 : Nat) < 7 by decide) dX11_mostAlike_50) n_fall),
    (n_sq (n_iinc hE (by decide) (show (6 : Nat) < 7 by decide) dX11_mostAlike_53) (n_goto hE (by decide) dX11_mostAlike_56)),
    (n_sq (n_iload_n hE dX11_mostAlike_59) (n_sq (n_iload hE dX11_mostAlike_60) (n_sq (n_mmax hE wt_901 wt_724 wt_19 wt_725 (show 1 ≤ 1 ∧ 24 ≤ 24 by decide) dX11_mostAlike_62) (n_sq (n_istore_n hE (show (3 : Nat) < 7 by decide) dX11_mostAlike_65) (n_sq (n_iinc hE (by decide) (show (4 : Nat) < 7 by decide) dX11_mostAlike_66) (n_goto hE (by decide) dX11_mostAlike_69)))))),
    (n_sq (n_iload_n hE dX11_mostAlike_72) (n_ireturn hE rfl dX11_mostAlike_73)), trivial⟩
noncomputable def F_X11_mostAlike (as : List XV) (w : XW) : Option (Int32 × XW) := (xF 7 bs_X11_mostAlike as w).bind pI
theorem m_X11_mostAlike : XM yX11_mostAlike cX11_mostAlike 7 (some .int) 1 24 (eI F_X11_mostAlike) := xm_I (xm_of (by decide) s_X11_mostAlike)
noncomputable def q_X11_mostAlike_0 (x1 : Int32) (x2 : Int32) (w : XW) : Option XR := ev bs_X11_mostAlike 0 ([some (.inr (10, 0)), some (.inl (.int x1)), some (.inl (.int x2)), none, none, none, none], [], w)
noncomputable def q_X11_mostAlike_5 (x1 : Int32) (x2 : Int32) (x3 : Int32) (x4 : Int32) (w : XW) : Option XR := ev bs_X11_mostAlike 5 ([some (.inr (10, 0)), some (.inl (.int x1)), some (.inl (.int x2)), some (.inl (.int x3)), some (.inl (.int x4)), none, none], [], w)
noncomputable def q_X11_mostAlike_11 (x1 : Int32) (x2 : Int32) (x3 : Int32) (x4 : Int32) (w : XW) : Option XR := ev bs_X11_mostAlike 11 ([some (.inr (10, 0)), some (.inl (.int x1)), some (.inl (.int x2)), some (.inl (.int x3)), some (.inl (.int x4)), none, none], [], w)
noncomputable def q_X11_mostAlike_17 (x1 : Int32) (x2 : Int32) (x3 : Int32) (x4 : Int32) (x5 : Int32) (x6 : Int32) (w : XW) : Option XR := ev bs_X11_mostAlike 17 ([some (.inr (10, 0)), some (.inl (.int x1)), some (.inl (.int x2)), some (.inl (.int x3)), some (.inl (.int x4)), some (.inl (.int x5)), some (.inl (.int x6))], [], w)
noncomputable def q_X11_mostAlike_23 (x1 : Int32) (x2 : Int32) (x3 : Int32) (x4 : Int32) (x5 : Int32) (x6 : Int32) (w : XW) : Option XR := ev bs_X11_mostAlike 23 ([some (.inr (10, 0)), some (.inl (.int x1)), some (.inl (.int x2)), some (.inl (.int x3)), some (.inl (.int x4)), some (.inl (.int x5)), some (.inl (.int x6))], [], w)
noncomputable def q_X11_mostAlike_50 (x1 : Int32) (x2 : Int32) (x3 : Int32) (x4 : Int32) (x5 : Int32) (x6 : Int32) (w : XW) : Option XR := ev bs_X11_mostAlike 50 ([some (.inr (10, 0)), some (.inl (.int x1)), some (.inl (.int x2)), some (.inl (.int x3)), some (.inl (.int x4)), some (.inl (.int x5)), some (.inl (.int x6))], [], w)
noncomputable def q_X11_mostAlike_53 (x1 : Int32) (x2 : Int32) (x3 : Int32) (x4 : Int32) (x5 : Int32) (x6 : Int32) (w : XW) : Option XR := ev bs_X11_mostAlike 53 ([some (.inr (10, 0)), some (.inl (.int x1)), some (.inl (.int x2)), some (.inl (.int x3)), some (.inl (.int x4)), some (.inl (.int x5)), some (.inl (.int x6))], [], w)
noncomputable def q_X11_mostAlike_59 (x1 : Int32) (x2 : Int32) (x3 : Int32) (x4 : Int32) (x5 : Int32) (w : XW) : Option XR := ev bs_X11_mostAlike 59 ([some (.inr (10, 0)), some (.inl (.int x1)), some (.inl (.int x2)), some (.inl (.int x3)), some (.inl (.int x4)), some (.inl (.int x5)), none], [], w)
noncomputable def q_X11_mostAlike_72 (x3 : Int32) (w : XW) : Option XR := ev bs_X11_mostAlike 72 ([none, none, none, some (.inl (.int x3)), none, none, none], [], w)
theorem e_X11_mostAlike_0 (x1 : Int32) (x2 : Int32) (w : XW) : q_X11_mostAlike_0 x1 x2 w = (q_X11_mostAlike_5 x1 x2 0 0 w) := (ev_eq _ _ _).trans rfl
theorem e_X11_mostAlike_5 (x1 : Int32) (x2 : Int32) (x3 : Int32) (x4 : Int32) (w : XW) : q_X11_mostAlike_5 x1 x2 x3 x4 w = (bif decide (x2 ≤ x4) then (q_X11_mostAlike_72 x3 w) else (q_X11_mostAlike_11 x1 x2 x3 x4 w)) := (ev_eq _ _ _).trans rfl
theorem e_X11_mostAlike_11 (x1 : Int32) (x2 : Int32) (x3 : Int32) (x4 : Int32) (w : XW) : q_X11_mostAlike_11 x1 x2 x3 x4 w = (q_X11_mostAlike_17 x1 x2 x3 x4 0 0 w) := (ev_eq _ _ _).trans rfl
theorem e_X11_mostAlike_17 (x1 : Int32) (x2 : Int32) (x3 : Int32) (x4 : Int32) (x5 : Int32) (x6 : Int32) (w : XW) : q_X11_mostAlike_17 x1 x2 x3 x4 x5 x6 w = (bif decide (x2 ≤ x6) then (q_X11_mostAlike_59 x1 x2 x3 x4 x5 w) else (q_X11_mostAlike_23 x1 x2 x3 x4 x5 x6 w)) := (ev_eq _ _ _).trans rfl
theorem e_X11_mostAlike_23 (x1 : Int32) (x2 : Int32) (x3 : Int32) (x4 : Int32) (x5 : Int32) (x6 : Int32) (w : XW) : q_X11_mostAlike_23 x1 x2 x3 x4 x5 x6 w = (if ((x4 * 6) + x1) < 0 ∨ 42 ≤ ((x4 * 6) + x1).toNatClampNeg then none else (if ((x6 * 6) + x1) < 0 ∨ 42 ≤ ((x6 * 6) + x1).toNatClampNeg then none else (bif decide (¬ (gI w 40 0 ((x4 * 6) + x1).toNatClampNeg) = (gI w 40 0 ((x6 * 6) + x1).toNatClampNeg)) then (q_X11_mostAlike_53 x1 x2 x3 x4 x5 x6 w) else (q_X11_mostAlike_50 x1 x2 x3 x4 x5 x6 w)))) := (ev_eq _ _ _).trans rfl
theorem e_X11_mostAlike_50 (x1 : Int32) (x2 : Int32) (x3 : Int32) (x4 : Int32) (x5 : Int32) (x6 : Int32) (w : XW) : q_X11_mostAlike_50 x1 x2 x3 x4 x5 x6 w = (q_X11_mostAlike_53 x1 x2 x3 x4 (x5 + 1) x6 w) := (ev_eq _ _ _).trans rfl
theorem e_X11_mostAlike_53 (x1 : Int32) (x2 : Int32) (x3 : Int32) (x4 : Int32) (x5 : Int32) (x6 : Int32) (w : XW) : q_X11_mostAlike_53 x1 x2 x3 x4 x5 x6 w = (q_X11_mostAlike_17 x1 x2 x3 x4 x5 (x6 + 1) w) := (ev_eq _ _ _).trans rfl
theorem e_X11_mostAlike_59 (x1 : Int32) (x2 : Int32) (x3 : Int32) (x4 : Int32) (x5 : Int32) (w : XW) : q_X11_mostAlike_59 x1 x2 x3 x4 x5 w = (q_X11_mostAlike_5 x1 x2 (if x3 < x5 then x5 else x3) (x4 + 1) w) := (ev_eq _ _ _).trans rfl
theorem e_X11_mostAlike_72 (x3 : Int32) (w : XW) : q_X11_mostAlike_72 x3 w = (some (some (.inl (.int x3)), w)) := (ev_eq _ _ _).trans rfl
theorem f_X11_mostAlike (x1 : Int32) (x2 : Int32) (w : XW) : F_X11_mostAlike [.inr (10, 0), .inl (.int x1), .inl (.int x2)] w = (q_X11_mostAlike_0 x1 x2 w).bind pI := rfl

-- WinterKeep.look(II)I
theorem dX11_look_0 : decode cX11_look 0 = .ok (.aload_n 0, 1) := by decide +kernel
theorem dX11_look_1 : decode cX11_look 1 = .ok (.getfield 39, 3) := by decide +kernel
theorem dX11_look_4 : decode cX11_look 4 = .ok (.getfield 227, 3) := by decide +kernel
theorem dX11_look_7 : decode cX11_look 7 = .ok (.ifCond .eq 22, 3) := by decide +kernel
theorem dX11_look_10 : decode cX11_look 10 = .ok (.iload_n 1, 1) := by decide +kernel
theorem dX11_look_11 : decode cX11_look 11 = .ok (.iconst 0, 1) := by decide +kernel
theorem dX11_look_12 : decode cX11_look 12 = .ok (.bipush 60, 2) := by decide +kernel
theorem dX11_look_14 : decode cX11_look 14 = .ok (.invokestatic 170, 3) := by decide +kernel
theorem dX11_look_17 : decode cX11_look 17 = .ok (.ifCond .eq 12, 3) := by decide +kernel
theorem dX11_look_20 : decode cX11_look 20 = .ok (.iload_n 2, 1) := by decide +kernel
theorem dX11_look_21 : decode cX11_look 21 = .ok (.iconst 0, 1) := by decide +kernel
theorem dX11_look_22 : decode cX11_look 22 = .ok (.iconst 1, 1) := by decide +kernel
theorem dX11_look_23 : decode cX11_look 23 = .ok (.invokestatic 170, 3) := by decide +kernel
theorem dX11_look_26 : decode cX11_look 26 = .ok (.ifCond .ne 5, 3) := by decide +kernel
theorem dX11_look_29 : decode cX11_look 29 = .ok (.iconst (-1), 1) := by decide +kernel
theorem dX11_look_30 : decode cX11_look 30 = .ok (.ireturn, 1) := by decide +kernel
theorem dX11_look_31 : decode cX11_look 31 = .ok (.iconst 0, 1) := by decide +kernel
theorem dX11_look_32 : decode cX11_look 32 = .ok (.istore_n 3, 1) := by decide +kernel
theorem dX11_look_33 : decode cX11_look 33 = .ok (.iconst (-1), 1) := by decide +kernel
theorem dX11_look_34 : decode cX11_look 34 = .ok (.istore 4, 2) := by decide +kernel
theorem dX11_look_36 : decode cX11_look 36 = .ok (.iload 4, 2) := by decide +kernel
theorem dX11_look_38 : decode cX11_look 38 = .ok (.aload_n 0, 1) := by decide +kernel
theorem dX11_look_39 : decode cX11_look 39 = .ok (.getfield 29, 3) := by decide +kernel
theorem dX11_look_42 : decode cX11_look 42 = .ok (.if_icmp .ge 27, 3) := by decide +kernel
theorem dX11_look_45 : decode cX11_look 45 = .ok (.aload_n 0, 1) := by decide +kernel
theorem dX11_look_46 : decode cX11_look 46 = .ok (.iload 4, 2) := by decide +kernel
theorem dX11_look_48 : decode cX11_look 48 = .ok (.iload_n 1, 1) := by decide +kernel
theorem dX11_look_49 : decode cX11_look 49 = .ok (.invokevirtual 305, 3) := by decide +kernel
theorem dX11_look_52 : decode cX11_look 52 = .ok (.ifCond .eq 11, 3) := by decide +kernel
theorem dX11_look_55 : decode cX11_look 55 = .ok (.aload_n 0, 1) := by decide +kernel
theorem dX11_look_56 : decode cX11_look 56 = .ok (.iload_n 3, 1) := by decide +kernel
theorem dX11_look_57 : decode cX11_look 57 = .ok (.invokevirtual 308, 3) := by decide +kernel
theorem dX11_look_60 : decode cX11_look 60 = .ok (.iinc 3 1, 3) := by decide +kernel
theorem dX11_look_63 : decode cX11_look 63 = .ok (.iinc 4 1, 3) := by decide +kernel
theorem dX11_look_66 : decode cX11_look 66 = .ok (.goto (-30), 3) := by decide +kernel
theorem dX11_look_69 : decode cX11_look 69 = .ok (.iload_n 3, 1) := by decide +kernel
theorem dX11_look_70 : decode cX11_look 70 = .ok (.ifCond .eq 13, 3) := by decide +kernel
theorem dX11_look_73 : decode cX11_look 73 = .ok (.aload_n 0, 1) := by decide +kernel
theorem dX11_look_74 : decode cX11_look 74 = .ok (.getfield 39, 3) := by decide +kernel
theorem dX11_look_77 : decode cX11_look 77 = .ok (.getfield 135, 3) := by decide +kernel
theorem dX11_look_80 : decode cX11_look 80 = .ok (.ifCond .ne 6, 3) := by decide +kernel
theorem dX11_look_83 : decode cX11_look 83 = .ok (.bipush (-2), 2) := by decide +kernel
theorem dX11_look_85 : decode cX11_look 85 = .ok (.ireturn, 1) := by decide +kernel
theorem dX11_look_86 : decode cX11_look 86 = .ok (.iconst 0, 1) := by decide +kernel
theorem dX11_look_87 : decode cX11_look 87 = .ok (.istore 4, 2) := by decide +kernel
theorem dX11_look_89 : decode cX11_look 89 = .ok (.aload_n 0, 1) := by decide +kernel
theorem dX11_look_90 : decode cX11_look 90 = .ok (.iconst 0, 1) := by decide +kernel
theorem dX11_look_91 : decode cX11_look 91 = .ok (.iload_n 3, 1) := by decide +kernel
theorem dX11_look_92 : decode cX11_look 92 = .ok (.invokevirtual 311, 3) := by decide +kernel
theorem dX11_look_95 : decode cX11_look 95 = .ok (.istore 5, 2) := by decide +kernel
theorem dX11_look_97 : decode cX11_look 97 = .ok (.iconst 1, 1) := by decide +kernel
theorem dX11_look_98 : decode cX11_look 98 = .ok (.istore 6, 2) := by decide +kernel
theorem dX11_look_100 : decode cX11_look 100 = .ok (.iload 6, 2) := by decide +kernel
theorem dX11_look_102 : decode cX11_look 102 = .ok (.aload_n 0, 1) := by decide +kernel
theorem dX11_look_103 : decode cX11_look 103 = .ok (.getfield 39, 3) := by decide +kernel
theorem dX11_look_106 : decode cX11_look 106 = .ok (.getfield 135, 3) := by decide +kernel
theorem dX11_look_109 : decode cX11_look 109 = .ok (.if_icmp .ge 33, 3) := by decide +kernel
theorem dX11_look_112 : decode cX11_look 112 = .ok (.aload_n 0, 1) := by decide +kernel
theorem dX11_look_113 : decode cX11_look 113 = .ok (.iload 6, 2) := by decide +kernel
theorem dX11_look_115 : decode cX11_look 115 = .ok (.iload_n 3, 1) := by decide +kernel
theorem dX11_look_116 : decode cX11_look 116 = .ok (.invokevirtual 311, 3) := by decide +kernel
theorem dX11_look_119 : decode cX11_look 119 = .ok (.istore 7, 2) := by decide +kernel
theorem dX11_look_121 : decode cX11_look 121 = .ok (.iload 7, 2) := by decide +kernel
theorem dX11_look_123 : decode cX11_look 123 = .ok (.iload 5, 2) := by decide +kernel
theorem dX11_look_125 : decode cX11_look 125 = .ok (.if_icmp .ge 11, 3) := by decide +kernel
theorem dX11_look_128 : decode cX11_look 128 = .ok (.iload 6, 2) := by decide +kernel
theorem dX11_look_130 : decode cX11_look 130 = .ok (.istore 4, 2) := by decide +kernel
theorem dX11_look_132 : decode cX11_look 132 = .ok (.iload 7, 2) := by decide +kernel
theorem dX11_look_134 : decode cX11_look 134 = .ok (.istore 5, 2) := by decide +kernel
theorem dX11_look_136 : decode cX11_look 136 = .ok (.iinc 6 1, 3) := by decide +kernel
theorem dX11_look_139 : decode cX11_look 139 = .ok (.goto (-39), 3) := by decide +kernel
theorem dX11_look_142 : decode cX11_look 142 = .ok (.iload_n 2, 1) := by decide +kernel
theorem dX11_look_143 : decode cX11_look 143 = .ok (.ifCond .ne 8, 3) := by decide +kernel
theorem dX11_look_146 : decode cX11_look 146 = .ok (.iload 4, 2) := by decide +kernel
theorem dX11_look_148 : decode cX11_look 148 = .ok (.goto 5, 3) := by decide +kernel
theorem dX11_look_151 : decode cX11_look 151 = .ok (.iload 5, 2) := by decide +kernel
theorem dX11_look_153 : decode cX11_look 153 = .ok (.ireturn, 1) := by decide +kernel
theorem vc_X11_308 : XVw RX11 308 1 10 3 yX11_keepLook cX11_keepLook none := ⟨RX11, TX11, tyX11, 20, xk_10, rfl, ⟨by decide, by decide⟩, by decide +kernel, wt_914, wt_916, ws_34, wt_1, wt_917⟩
theorem vc_X11_311 : XVw RX11 311 2 10 7 yX11_mostAlike cX11_mostAlike (some .int) := ⟨RX11, TX11, tyX11, 20, xk_10, rfl, ⟨by decide, by decide⟩, by decide +kernel, wt_918, wt_920, ws_35, wt_1, wt_921⟩
noncomputable def bs_X11_look : List (Nat × XB) := [
  (0, (sq (xLA 0) (sq (xGD 10 5 1) (sq (xGI 1 0) (tIf1 (fun x => decide (x = 0)) 29 [false, false, false, false, false, false, false, false] 10 [true, true, true, false, false, false, false, false]))))),
  (10, (sq (xLI 1) (sq (xC (.int 0)) (sq (xC (.int 60)) (sq (xCI 99 3 F_X11_within) (tIf1 (fun x => decide (x = 0)) 29 [false, false, false, false, false, false, false, false] 20 [true, true, true, false, false, false, false, false])))))),
  (20, (sq (xLI 2) (sq (xC (.int 0)) (sq (xC (.int 1)) (sq (xCI 99 3 F_X11_within) (tIf1 (fun x => decide (¬ x = 0)) 31 [true, true, true, false, false, false, false, false] 29 [false, false, false, false, false, false, false, false])))))),
  (29, (sq (xC (.int (-1))) tRI)),
  (31, (sq (xC (.int 0)) (sq (xSI 3) (sq (xC (.int (-1))) (sq (xSI 4) (tGo 36 [true, true, true, true, true, false, false, false])))))),
  (36, (sq (xLI 4) (sq (xLA 0) (sq (xGI 10 3) (tIf2 (fun x y => decide (y ≤ x)) 69 [true, false, true, true, false, false, false, false] 45 [true, true, true, true, true, false, false, false]))))),
  (45, (sq (xLA 0) (sq (xLI 4) (sq (xLI 1) (sq (xCI 10 3 F_X11_isSoBy) (tIf1 (fun x => decide (x = 0)) 63 [true, true, true, true, true, false, false, false] 55 [true, true, true, true, true, false, false, false])))))),
  (55, (sq (xLA 0) (sq (xLI 3) (sq (xCV 10 2 F_X11_keepLook) (sq (xInc 3 1) (tGo 63 [true, true, true, true, true, false, false, false])))))),
  (63, (sq (xInc 4 1) (tGo 36 [true, true, true, true, true, false, false, false]))),
  (69, (sq (xLI 3) (tIf1 (fun x => decide (x = 0)) 83 [false, false, false, false, false, false, false, false] 73 [true, false, true, true, false, false, false, false]))),
  (73, (sq (xLA 0) (sq (xGD 10 5 1) (sq (xGI 1 3) (tIf1 (fun x => decide (¬ x = 0)) 86 [true, false, true, true, false, false, false, false] 83 [false, false, false, false, false, false, false, false]))))),
  (83, (sq (xC (.int (-2))) tRI)),
  (86, (sq (xC (.int 0)) (sq (xSI 4) (sq (xLA 0) (sq (xC (.int 0)) (sq (xLI 3) (sq (xCI 10 3 F_X11_mostAlike) (sq (xSI 5) (sq (xC (.int 1)) (sq (xSI 6) (tGo 100 [true, false, true, true, true, true, true, false]))))))))))),
  (100, (sq (xLI 6) (sq (xLA 0) (sq (xGD 10 5 1) (sq (xGI 1 3) (tIf2 (fun x y => decide (y ≤ x)) 142 [false, false, true, false, true, true, false, false] 112 [true, false, true, true, true, true, true, false])))))),
  (112, (sq (xLA 0) (sq (xLI 6) (sq (xLI 3) (sq (xCI 10 3 F_X11_mostAlike) (sq (xSI 7) (sq (xLI 7) (sq (xLI 5) (tIf2 (fun x y => decide (y ≤ x)) 136 [true, false, true, true, true, true, true, false] 128 [true, false, true, true, false, false, true, true]))))))))),
  (128, (sq (xLI 6) (sq (xSI 4) (sq (xLI 7) (sq (xSI 5) (tGo 136 [true, false, true, true, true, true, true, false])))))),
  (136, (sq (xInc 6 1) (tGo 100 [true, false, true, true, true, true, true, false]))),
  (142, (sq (xLI 2) (tIf1 (fun x => decide (¬ x = 0)) 151 [false, false, false, false, false, true, false, false] 146 [false, false, false, false, true, false, false, false]))),
  (146, (sq (xLI 4) (tGo 153 [false, false, false, false, false, false, false, false]))),
  (151, (sq (xLI 5) (tGo 153 [false, false, false, false, false, false, false, false]))),
  (153, tRI)]
set_option maxRecDepth 100000 in
set_option maxHeartbeats 4000000 in
theorem s_X11_look : ∀ X : XCtx, XE X → X.2.2.1.1 = cX11_look → X.2.2.1.2.1 = 8 → X.2.2.1.2.2.1 = yX11_look.cls → X.2.2.1.2.2.2.1 = (some .int) → X.1.2.2.2.1 = { frames := 6, cells := 0, slots := 0, locals := 147 } → SndBs X bs_X11_look := by
  rintro ⟨⟨p, l, e, R, s⟩, Y, ⟨cc, nL, own, ret, Ts⟩, Z⟩ hE h1 h2 h3 h4 h5
  dsimp only at h1 h2 h3 h4 h5
  subst h1 h2 h3 h4 h5
  exact ⟨(n_sq (n_aload_n hE dX11_look_0) (n_sq (n_getD hE xk_10 (k := 5) rfl (by decide) rfl wt_321 dX11_look_1) (n_sq (n_getI hE xk_1 (k := 0) rfl (by decide) rfl wt_96 dX11_look_4) (n_ifeq hE (by decide) dX11_look_7)))),
    (n_sq (n_iload_n hE dX11_look_10) (n_sq (n_iconst hE (by decide) dX11_look_11) (n_sq (n_bipush hE (by decide) dX11_look_12) (n_sq (n_cIs hE m_X11_within vc_X11_170 (show 0 + 1 ≤ 6 ∧ 8 + (3 + 11) + 0 ≤ 147 by decide) dX11_look_14) (n_ifeq hE (by decide) dX11_look_17))))),
    (n_sq (n_iload_n hE dX11_look_20) (n_sq (n_iconst hE (by decide) dX11_look_21) (n_sq (n_iconst hE (by decide) dX11_look_22) (n_sq (n_cIs hE m_X11_within vc_X11_170 (show 0 + 1 ≤ 6 ∧ 8 + (3 + 11) + 0 ≤ 147 by decide) dX11_look_23) (n_ifne hE (by decide) dX11_look_26))))),
    (n_sq (n_iconst hE (by decide) dX11_look_29) (n_ireturn hE rfl dX11_look_30)),
    (n_sq (n_iconst hE (by decide) dX11_look_31) (n_sq (n_istore_n hE (show (3 : Nat) < 8 by decide) dX11_look_32) (n_sq (n_iconst hE (by decide) dX11_look_33) (n_sq (n_istore hE (show (4 : Nat) < 8 by decide) dX11_look_34) n_fall)))),
    (n_sq (n_iload hE dX11_look_36) (n_sq (n_aload_n hE dX11_look_38) (n_sq (n_getI hE xk_10 (k := 3) rfl (by decide) rfl wt_319 dX11_look_39) (n_ifcge hE (by decide) dX11_look_42)))),
    (n_sq (n_aload_n hE dX11_look_45) (n_sq (n_iload hE dX11_look_46) (n_sq (n_iload_n hE dX11_look_48) (n_sq (n_cIv hE m_X11_isSoBy vc_X11_305 (show 5 + 1 ≤ 6 ∧ 8 + (5 + 11) + 123 ≤ 147 by decide) dX11_look_49) (n_ifeq hE (by decide) dX11_look_52))))),
    (n_sq (n_aload_n hE dX11_look_55) (n_sq (n_iload_n hE dX11_look_56) (n_sq (n_cVv hE m_X11_keepLook vc_X11_308 (show 0 + 1 ≤ 6 ∧ 8 + (3 + 11) + 0 ≤ 147 by decide) dX11_look_57) (n_sq (n_iinc hE (by decide) (show (3 : Nat) < 8 by decide) dX11_look_60) n_fall)))),
    (n_sq (n_iinc hE (by decide) (show (4 : Nat) < 8 by decide) dX11_look_63) (n_goto hE (by decide) dX11_look_66)),
    (n_sq (n_iload_n hE dX11_look_69) (n_ifeq hE (by decide) dX11_look_70)),
    (n_sq (n_aload_n hE dX11_look_73) (n_sq (n_getD hE xk_10 (k := 5) rfl (by decide) rfl wt_321 dX11_look_74) (n_sq (n_getI hE xk_1 (k := 3) rfl (by decide) rfl wt_109 dX11_look_77) (n_ifne hE (by decide) dX11_look_80)))),
    (n_sq (n_bipush hE (by decide) dX11_look_83) (n_ireturn hE rfl dX11_look_85)),
    (n_sq (n_iconst hE (by decide) dX11_look_86) (n_sq (n_istore hE (show (4 : Nat) < 8 by decide) dX11_look_87) (n_sq (n_aload_n hE dX11_look_89) (n_sq (n_iconst hE (by decide) dX11_look_90) (n_sq (n_iload_n hE dX11_look_91) (n_sq (n_cIv hE m_X11_mostAlike vc_X11_311 (show 1 + 1 ≤ 6 ∧ 8 + (7 + 11) + 24 ≤ 147 by decide) dX11_look_92) (n_sq (n_istore hE (show (5 : Nat) < 8 by decide) dX11_look_95) (n_sq (n_iconst hE (by decide) dX11_look_97) (n_sq (n_istore hE (show (6 : Nat) < 8 by decide) dX11_look_98) n_fall))))))))),
    (n_sq (n_iload hE dX11_look_100) (n_sq (n_aload_n hE dX11_look_102) (n_sq (n_getD hE xk_10 (k := 5) rfl (by decide) rfl wt_321 dX11_look_103) (n_sq (n_getI hE xk_1 (k := 3) rfl (by decide) rfl wt_109 dX11_look_106) (n_ifcge hE (by decide) dX11_look_109))))),
    (n_sq (n_aload_n hE dX11_look_112) (n_sq (n_iload hE dX11_look_113) (n_sq (n_iload_n hE dX11_look_115) (n_sq (n_cIv hE m_X11_mostAlike vc_X11_311 (show 1 + 1 ≤ 6 ∧ 8 + (7 + 11) + 24 ≤ 147 by decide) dX11_look_116) (n_sq (n_istore hE (show (7 : Nat) < 8 by decide) dX11_look_119) (n_sq (n_iload hE dX11_look_121) (n_sq (n_iload hE dX11_look_123) (n_ifcge hE (by decide) dX11_look_125)))))))),
    (n_sq (n_iload hE dX11_look_128) (n_sq (n_istore hE (show (4 : Nat) < 8 by decide) dX11_look_130) (n_sq (n_iload hE dX11_look_132) (n_sq (n_istore hE (show (5 : Nat) < 8 by decide) dX11_look_134) n_fall)))),
    (n_sq (n_iinc hE (by decide) (show (6 : Nat) < 8 by decide) dX11_look_136) (n_goto hE (by decide) dX11_look_139)),
    (n_sq (n_iload_n hE dX11_look_142) (n_ifne hE (by decide) dX11_look_143)),
    (n_sq (n_iload hE dX11_look_146) (n_goto hE (by decide) dX11_look_148)),
    (n_sq (n_iload hE dX11_look_151) n_fall),
    (n_ireturn hE rfl dX11_look_153), trivial⟩
noncomputable def F_X11_look (as : List XV) (w : XW) : Option (Int32 × XW) := (xF 8 bs_X11_look as w).bind pI
theorem m_X11_look : XM yX11_look cX11_look 8 (some .int) 6 147 (eI F_X11_look) := xm_I (xm_of (by decide) s_X11_look)
noncomputable def q_X11_look_0 (x1 : Int32) (x2 : Int32) (w : XW) : Option XR := ev bs_X11_look 0 ([some (.inr (10, 0)), some (.inl (.int x1)), some (.inl (.int x2)), none, none, none, none, none], [], w)
noncomputable def q_X11_look_10 (x1 : Int32) (x2 : Int32) (w : XW) : Option XR := ev bs_X11_look 10 ([some (.inr (10, 0)), some (.inl (.int x1)), some (.inl (.int x2)), none, none, none, none, none], [], w)
noncomputable def q_X11_look_20 (x1 : Int32) (x2 : Int32) (w : XW) : Option XR := ev bs_X11_look 20 ([some (.inr (10, 0)), some (.inl (.int x1)), some (.inl (.int x2)), none, none, none, none, none], [], w)
noncomputable def q_X11_look_29 (w : XW) : Option XR := ev bs_X11_look 29 ([none, none, none, none, none, none, none, none], [], w)
noncomputable def q_X11_look_31 (x1 : Int32) (x2 : Int32) (w : XW) : Option XR := ev bs_X11_look 31 ([some (.inr (10, 0)), some (.inl (.int x1)), some (.inl (.int x2)), none, none, none, none, none], [], w)
noncomputable def q_X11_look_36 (x1 : Int32) (x2 : Int32) (x3 : Int32) (x4 : Int32) (w : XW) : Option XR := ev bs_X11_look 36 ([some (.inr (10, 0)), some (.inl (.int x1)), some (.inl (.int x2)), some (.inl (.int x3)), some (.inl (.int x4)), none, none, none], [], w)
noncomputable def q_X11_look_45 (x1 : Int32) (x2 : Int32) (x3 : Int32) (x4 : Int32) (w : XW) : Option XR := ev bs_X11_look 45 ([some (.inr (10, 0)), some (.inl (.int x1)), some (.inl (.int x2)), some (.inl (.int x3)), some (.inl (.int x4)), none, none, none], [], w)
noncomputable def q_X11_look_55 (x1 : Int32) (x2 : Int32) (x3 : Int32) (x4 : Int32) (w : XW) : Option XR := ev bs_X11_look 55 ([some (.inr (10, 0)), some (.inl (.int x1)), some (.inl (.int x2)), some (.inl (.int x3)), some (.inl (.int x4)), none, none, none], [], w)
noncomputable def q_X11_look_63 (x1 : Int32) (x2 : Int32) (x3 : Int32) (x4 : Int32) (w : XW) : Option XR := ev bs_X11_look 63 ([some (.inr (10, 0)), some (.inl (.int x1)), some (.inl (.int x2)), some (.inl (.int x3)), some (.inl (.int x4)), none, none, none], [], w)
noncomputable def q_X11_look_69 (x2 : Int32) (x3 : Int32) (w : XW) : Option XR := ev bs_X11_look 69 ([some (.inr (10, 0)), none, some (.inl (.int x2)), some (.inl (.int x3)), none, none, none, none], [], w)
noncomputable def q_X11_look_73 (x2 : Int32) (x3 : Int32) (w : XW) : Option XR := ev bs_X11_look 73 ([some (.inr (10, 0)), none, some (.inl (.int x2)), some (.inl (.int x3)), none, none, none, none], [], w)
noncomputable def q_X11_look_83 (w : XW) : Option XR := ev bs_X11_look 83 ([none, none, none, none, none, none, none, none], [], w)
noncomputable def q_X11_look_86 (x2 : Int32) (x3 : Int32) (w : XW) : Option XR := ev bs_X11_look 86 ([some (.inr (10, 0)), none, some (.inl (.int x2)), some (.inl (.int x3)), none, none, none, none], [], w)
noncomputable def q_X11_look_100 (x2 : Int32) (x3 : Int32) (x4 : Int32) (x5 : Int32) (x6 : Int32) (w : XW) : Option XR := ev bs_X11_look 100 ([some (.inr (10, 0)), none, some (.inl (.int x2)), some (.inl (.int x3)), some (.inl (.int x4)), some (.inl (.int x5)), some (.inl (.int x6)), none], [], w)
noncomputable def q_X11_look_112 (x2 : Int32) (x3 : Int32) (x4 : Int32) (x5 : Int32) (x6 : Int32) (w : XW) : Option XR := ev bs_X11_look 112 ([some (.inr (10, 0)), none, some (.inl (.int x2)), some (.inl (.int x3)), some (.inl (.int x4)), some (.inl (.int x5)), some (.inl (.int x6)), none], [], w)
noncomputable def q_X11_look_128 (x2 : Int32) (x3 : Int32) (x6 : Int32) (x7 : Int32) (w : XW) : Option XR := ev bs_X11_look 128 ([some (.inr (10, 0)), none, some (.inl (.int x2)), some (.inl (.int x3)), none, none, some (.inl (.int x6)), some (.inl (.int x7))], [], w)
noncomputable def q_X11_look_136 (x2 : Int32) (x3 : Int32) (x4 : Int32) (x5 : Int32) (x6 : Int32) (w : XW) : Option XR := ev bs_X11_look 136 ([some (.inr (10, 0)), none, some (.inl (.int x2)), some (.inl (.int x3)), some (.inl (.int x4)), some (.inl (.int x5)), some (.inl (.int x6)), none], [], w)
noncomputable def q_X11_look_142 (x2 : Int32) (x4 : Int32) (x5 : Int32) (w : XW) : Option XR := ev bs_X11_look 142 ([none, none, some (.inl (.int x2)), none, some (.inl (.int x4)), some (.inl (.int x5)), none, none], [], w)
noncomputable def q_X11_look_146 (x4 : Int32) (w : XW) : Option XR := ev bs_X11_look 146 ([none, none, none, none, some (.inl (.int x4)), none, none, none], [], w)
noncomputable def q_X11_look_151 (x5 : Int32) (w : XW) : Option XR := ev bs_X11_look 151 ([none, none, none, none, none, some (.inl (.int x5)), none, none], [], w)
noncomputable def q_X11_look_153 (s0 : Int32) (w : XW) : Option XR := ev bs_X11_look 153 ([none, none, none, none, none, none, none, none], [.inl (.int s0)], w)
theorem e_X11_look_0 (x1 : Int32) (x2 : Int32) (w : XW) : q_X11_look_0 x1 x2 w = ((gR w 10 0 5).bind fun j0 => (bif decide ((gI w 1 j0 0) = 0) then (q_X11_look_29 w) else (q_X11_look_10 x1 x2 w))) := (ev_eq _ _ _).trans rfl
theorem e_X11_look_10 (x1 : Int32) (x2 : Int32) (w : XW) : q_X11_look_10 x1 x2 w = ((F_X11_within [.inl (.int x1), .inl (.int 0), .inl (.int 60)] w).bind fun r0 => (bif decide (r0.1 = 0) then (q_X11_look_29 r0.2) else (q_X11_look_20 x1 x2 r0.2))) := (ev_eq _ _ _).trans rfl
theorem e_X11_look_20 (x1 : Int32) (x2 : Int32) (w : XW) : q_X11_look_20 x1 x2 w = ((F_X11_within [.inl (.int x2), .inl (.int 0), .inl (.int 1)] w).bind fun r0 => (bif decide (¬ r0.1 = 0) then (q_X11_look_31 x1 x2 r0.2) else (q_X11_look_29 r0.2))) := (ev_eq _ _ _).trans rfl
theorem e_X11_look_29 (w : XW) : q_X11_look_29 w = (some (some (.inl (.int (-1))), w)) := (ev_eq _ _ _).trans rfl
theorem e_X11_look_31 (x1 : Int32) (x2 : Int32) (w : XW) : q_X11_look_31 x1 x2 w = (q_X11_look_36 x1 x2 0 (-1) w) := (ev_eq _ _ _).trans rfl
theorem e_X11_look_36 (x1 : Int32) (x2 : Int32) (x3 : Int32) (x4 : Int32) (w : XW) : q_X11_look_36 x1 x2 x3 x4 w = (bif decide ((gI w 10 0 3) ≤ x4) then (q_X11_look_69 x2 x3 w) else (q_X11_look_45 x1 x2 x3 x4 w)) := (ev_eq _ _ _).trans rfl
theorem e_X11_look_45 (x1 : Int32) (x2 : Int32) (x3 : Int32) (x4 : Int32) (w : XW) : q_X11_look_45 x1 x2 x3 x4 w = ((F_X11_isSoBy [.inr (10, 0), .inl (.int x4), .inl (.int x1)] w).bind fun r0 => (bif decide (r0.1 = 0) then (q_X11_look_63 x1 x2 x3 x4 r0.2) else (q_X11_look_55 x1 x2 x3 x4 r0.2))) := (ev_eq _ _ _).trans rfl
theorem e_X11_look_55 (x1 : Int32) (x2 : Int32) (x3 : Int32) (x4 : Int32) (w : XW) : q_X11_look_55 x1 x2 x3 x4 w = ((F_X11_keepLook [.inr (10, 0), .inl (.int x3)] w).bind fun r0 => (q_X11_look_63 x1 x2 (x3 + 1) x4 r0)) := (ev_eq _ _ _).trans rfl
theorem e_X11_look_63 (x1 : Int32) (x2 : Int32) (x3 : Int32) (x4 : Int32) (w : XW) : q_X11_look_63 x1 x2 x3 x4 w = (q_X11_look_36 x1 x2 x3 (x4 + 1) w) := (ev_eq _ _ _).trans rfl
theorem e_X11_look_69 (x2 : Int32) (x3 : Int32) (w : XW) : q_X11_look_69 x2 x3 w = (bif decide (x3 = 0) then (q_X11_look_83 w) else (q_X11_look_73 x2 x3 w)) := (ev_eq _ _ _).trans rfl
theorem e_X11_look_73 (x2 : Int32) (x3 : Int32) (w : XW) : q_X11_look_73 x2 x3 w = ((gR w 10 0 5).bind fun j0 => (bif decide (¬ (gI w 1 j0 3) = 0) then (q_X11_look_86 x2 x3 w) else (q_X11_look_83 w))) := (ev_eq _ _ _).trans rfl
theorem e_X11_look_83 (w : XW) : q_X11_look_83 w = (some (some (.inl (.int (-2))), w)) := (ev_eq _ _ _).trans rfl
theorem e_X11_look_86 (x2 : Int32) (x3 : Int32) (w : XW) : q_X11_look_86 x2 x3 w = ((F_X11_mostAlike [.inr (10, 0), .inl (.int 0), .inl (.int x3)] w).bind fun r0 => (q_X11_look_100 x2 x3 0 r0.1 1 r0.2)) := (ev_eq _ _ _).trans rfl
theorem e_X11_look_100 (x2 : Int32) (x3 : Int32) (x4 : Int32) (x5 : Int32) (x6 : Int32) (w : XW) : q_X11_look_100 x2 x3 x4 x5 x6 w = ((gR w 10 0 5).bind fun j0 => (bif decide ((gI w 1 j0 3) ≤ x6) then (q_X11_look_142 x2 x4 x5 w) else (q_X11_look_112 x2 x3 x4 x5 x6 w))) := (ev_eq _ _ _).trans rfl
theorem e_X11_look_112 (x2 : Int32) (x3 : Int32) (x4 : Int32) (x5 : Int32) (x6 : Int32) (w : XW) : q_X11_look_112 x2 x3 x4 x5 x6 w = ((F_X11_mostAlike [.inr (10, 0), .inl (.int x6), .inl (.int x3)] w).bind fun r0 => (bif decide (x5 ≤ r0.1) then (q_X11_look_136 x2 x3 x4 x5 x6 r0.2) else (q_X11_look_128 x2 x3 x6 r0.1 r0.2))) := (ev_eq _ _ _).trans rfl
theorem e_X11_look_128 (x2 : Int32) (x3 : Int32) (x6 : Int32) (x7 : Int32) (w : XW) : q_X11_look_128 x2 x3 x6 x7 w = (q_X11_look_136 x2 x3 x6 x7 x6 w) := (ev_eq _ _ _).trans rfl
theorem e_X11_look_136 (x2 : Int32) (x3 : Int32) (x4 : Int32) (x5 : Int32) (x6 : Int32) (w : XW) : q_X11_look_136 x2 x3 x4 x5 x6 w = (q_X11_look_100 x2 x3 x4 x5 (x6 + 1) w) := (ev_eq _ _ _).trans rfl
theorem e_X11_look_142 (x2 : Int32) (x4 : Int32) (x5 : Int32) (w : XW) : q_X11_look_142 x2 x4 x5 w = (bif decide (¬ x2 = 0) then (q_X11_look_151 x5 w) else (q_X11_look_146 x4 w)) := (ev_eq _ _ _).trans rfl
theorem e_X11_look_146 (x4 : Int32) (w : XW) : q_X11_look_146 x4 w = (q_X11_look_153 x4 w) := (ev_eq _ _ _).trans rfl
theorem e_X11_look_151 (x5 : Int32) (w : XW) : q_X11_look_151 x5 w = (q_X11_look_153 x5 w) := (ev_eq _ _ _).trans rfl
theorem e_X11_look_153 (s0 : Int32) (w : XW) : q_X11_look_153 s0 w = (some (some (.inl (.int s0)), w)) := (ev_eq _ _ _).trans rfl
theorem f_X11_look (x1 : Int32) (x2 : Int32) (w : XW) : F_X11_look [.inr (10, 0), .inl (.int x1), .inl (.int x2)] w = (q_X11_look_0 x1 x2 w).bind pI := rfl
