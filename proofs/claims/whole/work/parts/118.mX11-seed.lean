-- WinterKeep.seed(I)I
theorem dX11_seed_0 : decode cX11_seed 0 = .ok (.iload_n 1, 1) := by decide +kernel
theorem dX11_seed_1 : decode cX11_seed 1 = .ok (.ifCond .ge 5, 3) := by decide +kernel
theorem dX11_seed_4 : decode cX11_seed 4 = .ok (.iconst (-1), 1) := by decide +kernel
theorem dX11_seed_5 : decode cX11_seed 5 = .ok (.ireturn, 1) := by decide +kernel
theorem dX11_seed_6 : decode cX11_seed 6 = .ok (.aload_n 0, 1) := by decide +kernel
theorem dX11_seed_7 : decode cX11_seed 7 = .ok (.getfield 81, 3) := by decide +kernel
theorem dX11_seed_10 : decode cX11_seed 10 = .ok (.istore_n 2, 1) := by decide +kernel
theorem dX11_seed_11 : decode cX11_seed 11 = .ok (.aload_n 0, 1) := by decide +kernel
theorem dX11_seed_12 : decode cX11_seed 12 = .ok (.iload_n 1, 1) := by decide +kernel
theorem dX11_seed_13 : decode cX11_seed 13 = .ok (.putfield 81, 3) := by decide +kernel
theorem dX11_seed_16 : decode cX11_seed 16 = .ok (.iload_n 2, 1) := by decide +kernel
theorem dX11_seed_17 : decode cX11_seed 17 = .ok (.ireturn, 1) := by decide +kernel
noncomputable def bs_X11_seed : List (Nat × XB) := [
  (0, (sq (xLI 1) (tIf1 (fun x => decide (0 ≤ x)) 6 [true, true, false] 4 [false, false, false]))),
  (4, (sq (xC (.int (-1))) tRI)),
  (6, (sq (xLA 0) (sq (xGI 10 12) (sq (xSI 2) (sq (xLA 0) (sq (xLI 1) (sq (xPI 10 12) (sq (xLI 2) tRI))))))))]
set_option maxRecDepth 100000 in
set_option maxHeartbeats 4000000 in
theorem s_X11_seed : ∀ X : XCtx, XE X → X.2.2.1.1 = cX11_seed → X.2.2.1.2.1 = 3 → X.2.2.1.2.2.1 = yX11_seed.cls → X.2.2.1.2.2.2.1 = (some .int) → X.1.2.2.2.1 = { frames := 0, cells := 0, slots := 0, locals := 0 } → SndBs X bs_X11_seed := by
  rintro ⟨⟨p, l, e, R, s⟩, Y, ⟨cc, nL, own, ret, Ts⟩, Z⟩ hE h1 h2 h3 h4 h5
  dsimp only at h1 h2 h3 h4 h5
  subst h1 h2 h3 h4 h5
  exact ⟨(n_sq (n_iload_n hE dX11_seed_0) (n_ifge hE (by decide) dX11_seed_1)),
    (n_sq (n_iconst hE (by decide) dX11_seed_4) (n_ireturn hE rfl dX11_seed_5)),
    (n_sq (n_aload_n hE dX11_seed_6) (n_sq (n_getI hE xk_10 (k := 12) rfl (by decide) rfl wt_328 dX11_seed_7) (n_sq (n_istore_n hE (show (2 : Nat) < 3 by decide) dX11_seed_10) (n_sq (n_aload_n hE dX11_seed_11) (n_sq (n_iload_n hE dX11_seed_12) (n_sq (n_putI hE xk_10 (k := 12) rfl (by decide) rfl rfl (tyX11_ok 12 (by decide)) wt_328 dX11_seed_13) (n_sq (n_iload_n hE dX11_seed_16) (n_ireturn hE rfl dX11_seed_17)))))))), trivial⟩
noncomputable def F_X11_seed (as : List XV) (w : XW) : Option (Int32 × XW) := (xF 3 bs_X11_seed as w).bind pI
theorem m_X11_seed : XM yX11_seed cX11_seed 3 (some .int) 0 0 (eI F_X11_seed) := xm_I (xm_of (by decide) s_X11_seed)
noncomputable def q_X11_seed_0 (x1 : Int32) (w : XW) : Option XR := ev bs_X11_seed 0 ([some (.inr (10, 0)), some (.inl (.int x1)), none], [], w)
noncomputable def q_X11_seed_4 (w : XW) : Option XR := ev bs_X11_seed 4 ([none, none, none], [], w)
noncomputable def q_X11_seed_6 (x1 : Int32) (w : XW) : Option XR := ev bs_X11_seed 6 ([some (.inr (10, 0)), some (.inl (.int x1)), none], [], w)
theorem e_X11_seed_0 (x1 : Int32) (w : XW) : q_X11_seed_0 x1 w = (bif decide (0 ≤ x1) then (q_X11_seed_6 x1 w) else (q_X11_seed_4 w)) := (ev_eq _ _ _).trans rfl
theorem e_X11_seed_4 (w : XW) : q_X11_seed_4 w = (some (some (.inl (.int (-1))), w)) := (ev_eq _ _ _).trans rfl
theorem e_X11_seed_6 (x1 : Int32) (w : XW) : q_X11_seed_6 x1 w = (some (some (.inl (.int (gI w 10 0 12))), sI w 10 0 12 x1)) := (ev_eq _ _ _).trans rfl
theorem f_X11_seed (x1 : Int32) (w : XW) : F_X11_seed [.inr (10, 0), .inl (.int x1)] w = (q_X11_seed_0 x1 w).bind pI := rfl

-- WinterKeep.draw()I
theorem dX11_draw_0 : decode cX11_draw 0 = .ok (.aload_n 0, 1) := by decide +kernel
theorem dX11_draw_1 : decode cX11_draw 1 = .ok (.aload_n 0, 1) := by decide +kernel
theorem dX11_draw_2 : decode cX11_draw 2 = .ok (.getfield 81, 3) := by decide +kernel
theorem dX11_draw_5 : decode cX11_draw 5 = .ok (.i2l, 1) := by decide +kernel
theorem dX11_draw_6 : decode cX11_draw 6 = .ok (.ldc2_w 333, 3) := by decide +kernel
theorem dX11_draw_9 : decode cX11_draw 9 = .ok (.lmul, 1) := by decide +kernel
theorem dX11_draw_10 : decode cX11_draw 10 = .ok (.ldc2_w 335, 3) := by decide +kernel
theorem dX11_draw_13 : decode cX11_draw 13 = .ok (.ladd, 1) := by decide +kernel
theorem dX11_draw_14 : decode cX11_draw 14 = .ok (.ldc2_w 337, 3) := by decide +kernel
theorem dX11_draw_17 : decode cX11_draw 17 = .ok (.lrem, 1) := by decide +kernel
theorem dX11_draw_18 : decode cX11_draw 18 = .ok (.l2i, 1) := by decide +kernel
theorem dX11_draw_19 : decode cX11_draw 19 = .ok (.putfield 81, 3) := by decide +kernel
theorem dX11_draw_22 : decode cX11_draw 22 = .ok (.aload_n 0, 1) := by decide +kernel
theorem dX11_draw_23 : decode cX11_draw 23 = .ok (.getfield 81, 3) := by decide +kernel
theorem dX11_draw_26 : decode cX11_draw 26 = .ok (.ldc_w 339, 3) := by decide +kernel
theorem dX11_draw_29 : decode cX11_draw 29 = .ok (.idiv, 1) := by decide +kernel
theorem dX11_draw_30 : decode cX11_draw 30 = .ok (.ireturn, 1) := by decide +kernel
noncomputable def bs_X11_draw : List (Nat × XB) := [
  (0, (sq (xLA 0) (sq (xLA 0) (sq (xGI 10 12) (sq (xI2L) (sq (xC (.long 1103515245)) (sq (xJ2 (· * ·)) (sq (xC (.long 12345)) (sq (xJ2 (· + ·)) (sq (xC (.long 2147483648)) (sq (xJ2z (fun x y => x - x / y * y)) (sq (xL2I) (sq (xPI 10 12) (sq (xLA 0) (sq (xGI 10 12) (sq (xC (.int 65536)) (sq (xI2z (· / ·)) tRI)))))))))))))))))]
set_option maxRecDepth 100000 in
set_option maxHeartbeats 4000000 in
theorem s_X11_draw : ∀ X : XCtx, XE X → X.2.2.1.1 = cX11_draw → X.2.2.1.2.1 = 1 → X.2.2.1.2.2.1 = yX11_draw.cls → X.2.2.1.2.2.2.1 = (some .int) → X.1.2.2.2.1 = { frames := 0, cells := 0, slots := 0, locals := 0 } → SndBs X bs_X11_draw := by
  rintro ⟨⟨p, l, e, R, s⟩, Y, ⟨cc, nL, own, ret, Ts⟩, Z⟩ hE h1 h2 h3 h4 h5
  dsimp only at h1 h2 h3 h4 h5
  subst h1 h2 h3 h4 h5
  exact ⟨(n_sq (n_aload_n hE dX11_draw_0) (n_sq (n_aload_n hE dX11_draw_1) (n_sq (n_getI hE xk_10 (k := 12) rfl (by decide) rfl wt_328 dX11_draw_2) (n_sq (n_i2l hE dX11_draw_5) (n_sq (n_ldc2 hE wt_938 dX11_draw_6) (n_sq (n_lmul hE dX11_draw_9) (n_sq (n_ldc2 hE wt_939 dX11_draw_10) (n_sq (n_ladd hE dX11_draw_13) (n_sq (n_ldc2 hE wt_940 dX11_draw_14) (n_sq (n_lrem hE dX11_draw_17) (n_sq (n_l2i hE dX11_draw_18) (n_sq (n_putI hE xk_10 (k := 12) rfl (by decide) rfl rfl (tyX11_ok 12 (by decide)) wt_328 dX11_draw_19) (n_sq (n_aload_n hE dX11_draw_22) (n_sq (n_getI hE xk_10 (k := 12) rfl (by decide) rfl wt_328 dX11_draw_23) (n_sq (n_ldcw hE wt_941 dX11_draw_26) (n_sq (n_idiv hE dX11_draw_29) (n_ireturn hE rfl dX11_draw_30))))))))))))))))), trivial⟩
noncomputable def F_X11_draw (as : List XV) (w : XW) : Option (Int32 × XW) := (xF 1 bs_X11_draw as w).bind pI
theorem m_X11_draw : XM yX11_draw cX11_draw 1 (some .int) 0 0 (eI F_X11_draw) := xm_I (xm_of (by decide) s_X11_draw)
noncomputable def q_X11_draw_0 (w : XW) : Option XR := ev bs_X11_draw 0 ([some (.inr (10, 0))], [], w)
theorem e_X11_draw_0 (w : XW) : q_X11_draw_0 w = (some (some (.inl (.int ((gI (sI w 10 0 12 (((((gI w 10 0 12).toInt64 * 1103515245) + 12345) - (((gI w 10 0 12).toInt64 * 1103515245) + 12345) / 2147483648 * 2147483648).toInt32)) 10 0 12) / 65536))), sI w 10 0 12 (((((gI w 10 0 12).toInt64 * 1103515245) + 12345) - (((gI w 10 0 12).toInt64 * 1103515245) + 12345) / 2147483648 * 2147483648).toInt32))) := (ev_eq _ _ _).trans rfl
theorem f_X11_draw (w : XW) : F_X11_draw [.inr (10, 0)] w = (q_X11_draw_0 w).bind pI := rfl

-- WinterKeep.goOnInFrost(II)V
theorem dX11_goOnInFrost_0 : decode cX11_goOnInFrost 0 = .ok (.iconst 0, 1) := by decide +kernel
theorem dX11_goOnInFrost_1 : decode cX11_goOnInFrost 1 = .ok (.istore_n 3, 1) := by decide +kernel
theorem dX11_goOnInFrost_2 : decode cX11_goOnInFrost 2 = .ok (.iload_n 3, 1) := by decide +kernel
theorem dX11_goOnInFrost_3 : decode cX11_goOnInFrost 3 = .ok (.iload_n 1, 1) := by decide +kernel
theorem dX11_goOnInFrost_4 : decode cX11_goOnInFrost 4 = .ok (.if_icmp .ge 63, 3) := by decide +kernel
theorem dX11_goOnInFrost_7 : decode cX11_goOnInFrost 7 = .ok (.aload_n 0, 1) := by decide +kernel
theorem dX11_goOnInFrost_8 : decode cX11_goOnInFrost 8 = .ok (.invokevirtual 330, 3) := by decide +kernel
theorem dX11_goOnInFrost_11 : decode cX11_goOnInFrost 11 = .ok (.bipush 100, 2) := by decide +kernel
theorem dX11_goOnInFrost_13 : decode cX11_goOnInFrost 13 = .ok (.irem, 1) := by decide +kernel
theorem dX11_goOnInFrost_14 : decode cX11_goOnInFrost 14 = .ok (.iload_n 2, 1) := by decide +kernel
theorem dX11_goOnInFrost_15 : decode cX11_goOnInFrost 15 = .ok (.if_icmp .ge 34, 3) := by decide +kernel
theorem dX11_goOnInFrost_18 : decode cX11_goOnInFrost 18 = .ok (.aload_n 0, 1) := by decide +kernel
theorem dX11_goOnInFrost_19 : decode cX11_goOnInFrost 19 = .ok (.getfield 39, 3) := by decide +kernel
theorem dX11_goOnInFrost_22 : decode cX11_goOnInFrost 22 = .ok (.getfield 135, 3) := by decide +kernel
theorem dX11_goOnInFrost_25 : decode cX11_goOnInFrost 25 = .ok (.ifCond .le 24, 3) := by decide +kernel
theorem dX11_goOnInFrost_28 : decode cX11_goOnInFrost 28 = .ok (.aload_n 0, 1) := by decide +kernel
theorem dX11_goOnInFrost_29 : decode cX11_goOnInFrost 29 = .ok (.getfield 50, 3) := by decide +kernel
theorem dX11_goOnInFrost_32 : decode cX11_goOnInFrost 32 = .ok (.getfield 158, 3) := by decide +kernel
theorem dX11_goOnInFrost_35 : decode cX11_goOnInFrost 35 = .ok (.aload_n 0, 1) := by decide +kernel
theorem dX11_goOnInFrost_36 : decode cX11_goOnInFrost 36 = .ok (.invokevirtual 330, 3) := by decide +kernel
theorem dX11_goOnInFrost_39 : decode cX11_goOnInFrost 39 = .ok (.aload_n 0, 1) := by decide +kernel
theorem dX11_goOnInFrost_40 : decode cX11_goOnInFrost 40 = .ok (.getfield 39, 3) := by decide +kernel
theorem dX11_goOnInFrost_43 : decode cX11_goOnInFrost 43 = .ok (.getfield 135, 3) := by decide +kernel
theorem dX11_goOnInFrost_46 : decode cX11_goOnInFrost 46 = .ok (.irem, 1) := by decide +kernel
theorem dX11_goOnInFrost_47 : decode cX11_goOnInFrost 47 = .ok (.iconst 0, 1) := by decide +kernel
theorem dX11_goOnInFrost_48 : decode cX11_goOnInFrost 48 = .ok (.iastore, 1) := by decide +kernel
theorem dX11_goOnInFrost_49 : decode cX11_goOnInFrost 49 = .ok (.aload_n 0, 1) := by decide +kernel
theorem dX11_goOnInFrost_50 : decode cX11_goOnInFrost 50 = .ok (.getfield 56, 3) := by decide +kernel
theorem dX11_goOnInFrost_53 : decode cX11_goOnInFrost 53 = .ok (.aload_n 0, 1) := by decide +kernel
theorem dX11_goOnInFrost_54 : decode cX11_goOnInFrost 54 = .ok (.getfield 50, 3) := by decide +kernel
theorem dX11_goOnInFrost_57 : decode cX11_goOnInFrost 57 = .ok (.invokevirtual 242, 3) := by decide +kernel
theorem dX11_goOnInFrost_60 : decode cX11_goOnInFrost 60 = .ok (.pop, 1) := by decide +kernel
theorem dX11_goOnInFrost_61 : decode cX11_goOnInFrost 61 = .ok (.iinc 3 1, 3) := by decide +kernel
theorem dX11_goOnInFrost_64 : decode cX11_goOnInFrost 64 = .ok (.goto (-62), 3) := by decide +kernel
theorem dX11_goOnInFrost_67 : decode cX11_goOnInFrost 67 = .ok (.return_, 1) := by decide +kernel
theorem vc_X11_330 : XVw RX11 330 0 10 1 yX11_draw cX11_draw (some .int) := ⟨RX11, TX11, tyX11, 20, xk_10, rfl, ⟨by decide, by decide⟩, by decide +kernel, wt_934, wt_936, ws_37, wt_1, wt_937⟩
noncomputable def bs_X11_goOnInFrost : List (Nat × XB) := [
  (0, (sq (xC (.int 0)) (sq (xSI 3) (tGo 2 [true, true, true, true])))),
  (2, (sq (xLI 3) (sq (xLI 1) (tIf2 (fun x y => decide (y ≤ x)) 67 [false, false, false, false] 7 [true, true, true, true])))),
  (7, (sq (xLA 0) (sq (xCI 10 1 F_X11_draw) (sq (xC (.int 100)) (sq (xI2z (fun x y => x - x / y * y)) (sq (xLI 2) (tIf2 (fun x y => decide (y ≤ x)) 49 [true, true, true, true] 18 [true, true, true, true]))))))),
  (18, (sq (xLA 0) (sq (xGD 10 5 1) (sq (xGI 1 3) (tIf1 (fun x => decide (x ≤ 0)) 49 [true, true, true, true] 28 [true, true, true, true]))))),
  (28, (sq (xLA 0) (sq (xGS 10 8 1 1) (sq (xGS 8 31 0 0) (sq (xLA 0) (sq (xCI 10 1 F_X11_draw) (sq (xLA 0) (sq (xGD 10 5 1) (sq (xGI 1 3) (sq (xI2z (fun x y => x - x / y * y)) (sq (xC (.int 0)) (sq (xTI 31 6 (fun x => x)) (tGo 49 [true, true, true, true]))))))))))))),
  (49, (sq (xLA 0) (sq (xGS 10 3 1 0) (sq (xLA 0) (sq (xGS 10 8 1 1) (sq (xCI 3 2 F_X4_pass) (sq (xPop) (sq (xInc 3 1) (tGo 2 [true, true, true, true]))))))))),
  (67, tRV)]
set_option maxRecDepth 100000 in
set_option maxHeartbeats 4000000 in
theorem s_X11_goOnInFrost : ∀ X : XCtx, XE X → X.2.2.1.1 = cX11_goOnInFrost → X.2.2.1.2.1 = 4 → X.2.2.1.2.2.1 = yX11_goOnInFrost.cls → X.2.2.1.2.2.2.1 = none → X.1.2.2.2.1 = { frames := 5, cells := 0, slots := 0, locals := 123 } → SndBs X bs_X11_goOnInFrost := by
  rintro ⟨⟨p, l, e, R, s⟩, Y, ⟨cc, nL, own, ret, Ts⟩, Z⟩ hE h1 h2 h3 h4 h5
  dsimp only at h1 h2 h3 h4 h5
  subst h1 h2 h3 h4 h5
  exact ⟨(n_sq (n_iconst hE (by decide) dX11_goOnInFrost_0) (n_sq (n_istore_n hE (show (3 : Nat) < 4 by decide) dX11_goOnInFrost_1) n_fall)),
    (n_sq (n_iload_n hE dX11_goOnInFrost_2) (n_sq (n_iload_n hE dX11_goOnInFrost_3) (n_ifcge hE (by decide) dX11_goOnInFrost_4))),
    (n_sq (n_aload_n hE dX11_goOnInFrost_7) (n_sq (n_cIv hE m_X11_draw vc_X11_330 (show 0 + 1 ≤ 5 ∧ 8 + (1 + 11) + 0 ≤ 123 by decide) dX11_goOnInFrost_8) (n_sq (n_bipush hE (by decide) dX11_goOnInFrost_11) (n_sq (n_irem hE dX11_goOnInFrost_13) (n_sq (n_iload_n hE dX11_goOnInFrost_14) (n_ifcge hE (by decide) dX11_goOnInFrost_15)))))),
    (n_sq (n_aload_n hE dX11_goOnInFrost_18) (n_sq (n_getD hE xk_10 (k := 5) rfl (by decide) rfl wt_321 dX11_goOnInFrost_19) (n_sq (n_getI hE xk_1 (k := 3) rfl (by decide) rfl wt_109 dX11_goOnInFrost_22) (n_ifle hE (by decide) dX11_goOnInFrost_25)))),
    (n_sq (n_aload_n hE dX11_goOnInFrost_28) (n_sq (n_getS hE xk_10 (k := 7) rfl (by decide) rfl wt_323 dX11_goOnInFrost_29) (n_sq (n_getS hE xk_8 (k := 3) rfl (by decide) rfl wt_186 dX11_goOnInFrost_32) (n_sq (n_aload_n hE dX11_goOnInFrost_35) (n_sq (n_cIv hE m_X11_draw vc_X11_330 (show 0 + 1 ≤ 5 ∧ 8 + (1 + 11) + 0 ≤ 123 by decide) dX11_goOnInFrost_36) (n_sq (n_aload_n hE dX11_goOnInFrost_39) (n_sq (n_getD hE xk_10 (k := 5) rfl (by decide) rfl wt_321 dX11_goOnInFrost_40) (n_sq (n_getI hE xk_1 (k := 3) rfl (by decide) rfl wt_109 dX11_goOnInFrost_43) (n_sq (n_irem hE dX11_goOnInFrost_46) (n_sq (n_iconst hE (by decide) dX11_goOnInFrost_47) (n_sq (n_iast hE rfl (by decide) dX11_goOnInFrost_48) n_fall))))))))))),
    (n_sq (n_aload_n hE dX11_goOnInFrost_49) (n_sq (n_getS hE xk_10 (k := 8) rfl (by decide) rfl wt_324 dX11_goOnInFrost_50) (n_sq (n_aload_n hE dX11_goOnInFrost_53) (n_sq (n_getS hE xk_10 (k := 7) rfl (by decide) rfl wt_323 dX11_goOnInFrost_54) (n_sq (n_cIv hE m_X4_pass vc_X11_242 (show 4 + 1 ≤ 5 ∧ 8 + (4 + 11) + 100 ≤ 123 by decide) dX11_goOnInFrost_57) (n_sq (n_pop hE dX11_goOnInFrost_60) (n_sq (n_iinc hE (by decide) (show (3 : Nat) < 4 by decide) dX11_goOnInFrost_61) (n_goto hE (by decide) dX11_goOnInFrost_64)))))))),
    (n_vreturn hE rfl dX11_goOnInFrost_67), trivial⟩
noncomputable def F_X11_goOnInFrost (as : List XV) (w : XW) : Option XW := (xF 4 bs_X11_goOnInFrost as w).bind pV
theorem m_X11_goOnInFrost : XM yX11_goOnInFrost cX11_goOnInFrost 4 none 5 123 (eV F_X11_goOnInFrost) := xm_V (xm_of (by decide) s_X11_goOnInFrost)
noncomputable def q_X11_goOnInFrost_0 (x1 : Int32) (x2 : Int32) (w : XW) : Option XR := ev bs_X11_goOnInFrost 0 ([some (.inr (10, 0)), some (.inl (.int x1)), some (.inl (.int x2)), none], [], w)
noncomputable def q_X11_goOnInFrost_2 (x1 : Int32) (x2 : Int32) (x3 : Int32) (w : XW) : Option XR := ev bs_X11_goOnInFrost 2 ([some (.inr (10, 0)), some (.inl (.int x1)), some (.inl (.int x2)), some (.inl (.int x3))], [], w)
noncomputable def q_X11_goOnInFrost_7 (x1 : Int32) (x2 : Int32) (x3 : Int32) (w : XW) : Option XR := ev bs_X11_goOnInFrost 7 ([some (.inr (10, 0)), some (.inl (.int x1)), some (.inl (.int x2)), some (.inl (.int x3))], [], w)
noncomputable def q_X11_goOnInFrost_18 (x1 : Int32) (x2 : Int32) (x3 : Int32) (w : XW) : Option XR := ev bs_X11_goOnInFrost 18 ([some (.inr (10, 0)), some (.inl (.int x1)), some (.inl (.int x2)), some (.inl (.int x3))], [], w)
noncomputable def q_X11_goOnInFrost_28 (x1 : Int32) (x2 : Int32) (x3 : Int32) (w : XW) : Option XR := ev bs_X11_goOnInFrost 28 ([some (.inr (10, 0)), some (.inl (.int x1)), some (.inl (.int x2)), some (.inl (.int x3))], [], w)
noncomputable def q_X11_goOnInFrost_49 (x1 : Int32) (x2 : Int32) (x3 : Int32) (w : XW) : Option XR := ev bs_X11_goOnInFrost 49 ([some (.inr (10, 0)), some (.inl (.int x1)), some (.inl (.int x2)), some (.inl (.int x3))], [], w)
noncomputable def q_X11_goOnInFrost_67 (w : XW) : Option XR := ev bs_X11_goOnInFrost 67 ([none, none, none, none], [], w)
theorem e_X11_goOnInFrost_0 (x1 : Int32) (x2 : Int32) (w : XW) : q_X11_goOnInFrost_0 x1 x2 w = (q_X11_goOnInFrost_2 x1 x2 0 w) := (ev_eq _ _ _).trans rfl
theorem e_X11_goOnInFrost_2 (x1 : Int32) (x2 : Int32) (x3 : Int32) (w : XW) : q_X11_goOnInFrost_2 x1 x2 x3 w = (bif decide (x1 ≤ x3) then (q_X11_goOnInFrost_67 w) else (q_X11_goOnInFrost_7 x1 x2 x3 w)) := (ev_eq _ _ _).trans rfl
theorem e_X11_goOnInFrost_7 (x1 : Int32) (x2 : Int32) (x3 : Int32) (w : XW) : q_X11_goOnInFrost_7 x1 x2 x3 w = ((F_X11_draw [.inr (10, 0)] w).bind fun r0 => (bif decide (x2 ≤ (r0.1 - r0.1 / 100 * 100)) then (q_X11_goOnInFrost_49 x1 x2 x3 r0.2) else (q_X11_goOnInFrost_18 x1 x2 x3 r0.2))) := (ev_eq _ _ _).trans rfl
theorem e_X11_goOnInFrost_18 (x1 : Int32) (x2 : Int32) (x3 : Int32) (w : XW) : q_X11_goOnInFrost_18 x1 x2 x3 w = ((gR w 10 0 5).bind fun j0 => (bif decide ((gI w 1 j0 3) ≤ 0) then (q_X11_goOnInFrost_49 x1 x2 x3 w) else (q_X11_goOnInFrost_28 x1 x2 x3 w))) := (ev_eq _ _ _).trans rfl
theorem e_X11_goOnInFrost_28 (x1 : Int32) (x2 : Int32) (x3 : Int32) (w : XW) : q_X11_goOnInFrost_28 x1 x2 x3 w = ((F_X11_draw [.inr (10, 0)] w).bind fun r0 => ((gR r0.2 10 0 5).bind fun j1 => (if (gI r0.2 1 j1 3) = 0 then none else (if (r0.1 - r0.1 / (gI r0.2 1 j1 3) * (gI r0.2 1 j1 3)) < 0 ∨ 6 ≤ (r0.1 - r0.1 / (gI r0.2 1 j1 3) * (gI r0.2 1 j1 3)).toNatClampNeg then none else (q_X11_goOnInFrost_49 x1 x2 x3 (sI r0.2 31 1 ((r0.1 - r0.1 / (gI r0.2 1 j1 3) * (gI r0.2 1 j1 3)).toNatClampNeg) 0)))))) := (ev_eq _ _ _).trans rfl
theorem e_X11_goOnInFrost_49 (x1 : Int32) (x2 : Int32) (x3 : Int32) (w : XW) : q_X11_goOnInFrost_49 x1 x2 x3 w = ((F_X4_pass [.inr (3, 0), .inr (8, 1)] w).bind fun r0 => (q_X11_goOnInFrost_2 x1 x2 (x3 + 1) r0.2)) := (ev_eq _ _ _).trans rfl
theorem e_X11_goOnInFrost_67 (w : XW) : q_X11_goOnInFrost_67 w = (some (none, w)) := (ev_eq _ _ _).trans rfl
theorem f_X11_goOnInFrost (x1 : Int32) (x2 : Int32) (w : XW) : F_X11_goOnInFrost [.inr (10, 0), .inl (.int x1), .inl (.int x2)] w = (q_X11_goOnInFrost_0 x1 x2 w).bind pV := rfl

-- WinterKeep.frosts(IIII)I
theorem dX11_frosts_0 : decode cX11_frosts 0 = .ok (.aload_n 0, 1) := by decide +kernel
theorem dX11_frosts_1 : decode cX11_frosts 1 = .ok (.getfield 39, 3) := by decide +kernel
theorem dX11_frosts_4 : decode cX11_frosts 4 = .ok (.getfield 227, 3) := by decide +kernel
theorem dX11_frosts_7 : decode cX11_frosts 7 = .ok (.ifCond .eq 23, 3) := by decide +kernel
theorem dX11_frosts_10 : decode cX11_frosts 10 = .ok (.iload_n 1, 1) := by decide +kernel
theorem dX11_frosts_11 : decode cX11_frosts 11 = .ok (.iconst 1, 1) := by decide +kernel
theorem dX11_frosts_12 : decode cX11_frosts 12 = .ok (.bipush 10, 2) := by decide +kernel
theorem dX11_frosts_14 : decode cX11_frosts 14 = .ok (.invokestatic 170, 3) := by decide +kernel
theorem dX11_frosts_17 : decode cX11_frosts 17 = .ok (.ifCond .eq 13, 3) := by decide +kernel
theorem dX11_frosts_20 : decode cX11_frosts 20 = .ok (.iload_n 2, 1) := by decide +kernel
theorem dX11_frosts_21 : decode cX11_frosts 21 = .ok (.iconst 1, 1) := by decide +kernel
theorem dX11_frosts_22 : decode cX11_frosts 22 = .ok (.bipush 60, 2) := by decide +kernel
theorem dX11_frosts_24 : decode cX11_frosts 24 = .ok (.invokestatic 170, 3) := by decide +kernel
theorem dX11_frosts_27 : decode cX11_frosts 27 = .ok (.ifCond .ne 5, 3) := by decide +kernel
theorem dX11_frosts_30 : decode cX11_frosts 30 = .ok (.iconst (-1), 1) := by decide +kernel
theorem dX11_frosts_31 : decode cX11_frosts 31 = .ok (.ireturn, 1) := by decide +kernel
theorem dX11_frosts_32 : decode cX11_frosts 32 = .ok (.iload_n 3, 1) := by decide +kernel
theorem dX11_frosts_33 : decode cX11_frosts 33 = .ok (.iconst 0, 1) := by decide +kernel
theorem dX11_frosts_34 : decode cX11_frosts 34 = .ok (.bipush 100, 2) := by decide +kernel
theorem dX11_frosts_36 : decode cX11_frosts 36 = .ok (.invokestatic 170, 3) := by decide +kernel
theorem dX11_frosts_39 : decode cX11_frosts 39 = .ok (.ifCond .eq 13, 3) := by decide +kernel
theorem dX11_frosts_42 : decode cX11_frosts 42 = .ok (.iload 4, 2) := by decide +kernel
theorem dX11_frosts_44 : decode cX11_frosts 44 = .ok (.iconst 0, 1) := by decide +kernel
theorem dX11_frosts_45 : decode cX11_frosts 45 = .ok (.iconst 1, 1) := by decide +kernel
theorem dX11_frosts_46 : decode cX11_frosts 46 = .ok (.invokestatic 170, 3) := by decide +kernel
theorem dX11_frosts_49 : decode cX11_frosts 49 = .ok (.ifCond .ne 5, 3) := by decide +kernel
theorem dX11_frosts_52 : decode cX11_frosts 52 = .ok (.iconst (-1), 1) := by decide +kernel
theorem dX11_frosts_53 : decode cX11_frosts 53 = .ok (.ireturn, 1) := by decide +kernel
theorem dX11_frosts_54 : decode cX11_frosts 54 = .ok (.aload_n 0, 1) := by decide +kernel
theorem dX11_frosts_55 : decode cX11_frosts 55 = .ok (.getfield 81, 3) := by decide +kernel
theorem dX11_frosts_58 : decode cX11_frosts 58 = .ok (.istore 5, 2) := by decide +kernel
theorem dX11_frosts_60 : decode cX11_frosts 60 = .ok (.iconst 0, 1) := by decide +kernel
theorem dX11_frosts_61 : decode cX11_frosts 61 = .ok (.istore 6, 2) := by decide +kernel
theorem dX11_frosts_63 : decode cX11_frosts 63 = .ok (.iconst 0, 1) := by decide +kernel
theorem dX11_frosts_64 : decode cX11_frosts 64 = .ok (.istore 7, 2) := by decide +kernel
theorem dX11_frosts_66 : decode cX11_frosts 66 = .ok (.iload 7, 2) := by decide +kernel
theorem dX11_frosts_68 : decode cX11_frosts 68 = .ok (.iload_n 1, 1) := by decide +kernel
theorem dX11_frosts_69 : decode cX11_frosts 69 = .ok (.if_icmp .ge 49, 3) := by decide +kernel
theorem dX11_frosts_72 : decode cX11_frosts 72 = .ok (.aload_n 0, 1) := by decide +kernel
theorem dX11_frosts_73 : decode cX11_frosts 73 = .ok (.invokevirtual 250, 3) := by decide +kernel
theorem dX11_frosts_76 : decode cX11_frosts 76 = .ok (.aload_n 0, 1) := by decide +kernel
theorem dX11_frosts_77 : decode cX11_frosts 77 = .ok (.iload_n 2, 1) := by decide +kernel
theorem dX11_frosts_78 : decode cX11_frosts 78 = .ok (.iload_n 3, 1) := by decide +kernel
theorem dX11_frosts_79 : decode cX11_frosts 79 = .ok (.invokevirtual 327, 3) := by decide +kernel
theorem dX11_frosts_82 : decode cX11_frosts 82 = .ok (.iload 6, 2) := by decide +kernel
theorem dX11_frosts_84 : decode cX11_frosts 84 = .ok (.iload 4, 2) := by decide +kernel
theorem dX11_frosts_86 : decode cX11_frosts 86 = .ok (.ifCond .ne 16, 3) := by decide +kernel
theorem dX11_frosts_89 : decode cX11_frosts 89 = .ok (.aload_n 0, 1) := by decide +kernel
theorem dX11_frosts_90 : decode cX11_frosts 90 = .ok (.getfield 50, 3) := by decide +kernel
theorem dX11_frosts_93 : decode cX11_frosts 93 = .ok (.invokevirtual 213, 3) := by decide +kernel
theorem dX11_frosts_96 : decode cX11_frosts 96 = .ok (.invokestatic 276, 3) := by decide +kernel
theorem dX11_frosts_99 : decode cX11_frosts 99 = .ok (.goto 10, 3) := by decide +kernel
theorem dX11_frosts_102 : decode cX11_frosts 102 = .ok (.aload_n 0, 1) := by decide +kernel
theorem dX11_frosts_103 : decode cX11_frosts 103 = .ok (.getfield 50, 3) := by decide +kernel
theorem dX11_frosts_106 : decode cX11_frosts 106 = .ok (.invokevirtual 209, 3) := by decide +kernel
theorem dX11_frosts_109 : decode cX11_frosts 109 = .ok (.iadd, 1) := by decide +kernel
theorem dX11_frosts_110 : decode cX11_frosts 110 = .ok (.istore 6, 2) := by decide +kernel
theorem dX11_frosts_112 : decode cX11_frosts 112 = .ok (.iinc 7 1, 3) := by decide +kernel
theorem dX11_frosts_115 : decode cX11_frosts 115 = .ok (.goto (-49), 3) := by decide +kernel
theorem dX11_frosts_118 : decode cX11_frosts 118 = .ok (.aload_n 0, 1) := by decide +kernel
theorem dX11_frosts_119 : decode cX11_frosts 119 = .ok (.iload 5, 2) := by decide +kernel
theorem dX11_frosts_121 : decode cX11_frosts 121 = .ok (.putfield 81, 3) := by decide +kernel
theorem dX11_frosts_124 : decode cX11_frosts 124 = .ok (.iload 6, 2) := by decide +kernel
theorem dX11_frosts_126 : decode cX11_frosts 126 = .ok (.ireturn, 1) := by decide +kernel
theorem vc_X11_327 : XVw RX11 327 2 10 4 yX11_goOnInFrost cX11_goOnInFrost none := ⟨RX11, TX11, tyX11, 20, xk_10, rfl, ⟨by decide, by decide⟩, by decide +kernel, wt_930, wt_932, ws_36, wt_1, wt_933⟩
noncomputable def bs_X11_frosts : List (Nat × XB) := [
  (0, (sq (xLA 0) (sq (xGD 10 5 1) (sq (xGI 1 0) (tIf1 (fun x => decide (x = 0)) 30 [false, false, false, false, false, false, false, false] 10 [true, true, true, true, true, false, false, false]))))),
  (10, (sq (xLI 1) (sq (xC (.int 1)) (sq (xC (.int 10)) (sq (xCI 99 3 F_X11_within) (tIf1 (fun x => decide (x = 0)) 30 [false, false, false, false, false, false, false, false] 20 [true, true, true, true, true, false, false, false])))))),
  (20, (sq (xLI 2) (sq (xC (.int 1)) (sq (xC (.int 60)) (sq (xCI 99 3 F_X11_within) (tIf1 (fun x => decide (¬ x = 0)) 32 [true, true, true, true, true, false, false, false] 30 [false, false, false, false, false, false, false, false])))))),
  (30, (sq (xC (.int (-1))) tRI)),
  (32, (sq (xLI 3) (sq (xC (.int 0)) (sq (xC (.int 100)) (sq (xCI 99 3 F_X11_within) (tIf1 (fun x => decide (x = 0)) 52 [false, false, false, false, false, false, false, false] 42 [true, true, true, true, true, false, false, false])))))),
  (42, (sq (xLI 4) (sq (xC (.int 0)) (sq (xC (.int 1)) (sq (xCI 99 3 F_X11_within) (tIf1 (fun x => decide (¬ x = 0)) 54 [true, true, true, true, true, false, false, false] 52 [false, false, false, false, false, false, false, false])))))),
  (52, (sq (xC (.int (-1))) tRI)),
  (54, (sq (xLA 0) (sq (xGI 10 12) (sq (xSI 5) (sq (xC (.int 0)) (sq (xSI 6) (sq (xC (.int 0)) (sq (xSI 7) (tGo 66 [true, true, true, true, true, true, true, true]))))))))),
  (66, (sq (xLI 7) (sq (xLI 1) (tIf2 (fun x y => decide (y ≤ x)) 118 [true, false, false, false, false, true, true, false] 72 [true, true, true, true, true, true, true, true])))),
  (72, (sq (xLA 0) (sq (xCV 10 1 F_X11_startFromNow) (sq (xLA 0) (sq (xLI 2) (sq (xLI 3) (sq (xCV 10 3 F_X11_goOnInFrost) (sq (xLI 6) (sq (xLI 4) (tIf1 (fun x => decide (¬ x = 0)) 102 [true, true, true, true, true, true, false, true] 89 [true, true, true, true, true, true, false, true])))))))))),
  (89, (sq (xLA 0) (sq (xGS 10 8 1 1) (sq (xCI 8 1 F_X9_burntBits) (sq (xCI 99 1 F_J6_bitCount_0f7a4) (tGo 109 [true, true, true, true, true, true, false, true])))))),
  (102, (sq (xLA 0) (sq (xGS 10 8 1 1) (sq (xCI 8 1 F_X9_fullAll) (tGo 109 [true, true, true, true, true, true, false, true]))))),
  (109, (sq (xI2 (· + ·)) (sq (xSI 6) (sq (xInc 7 1) (tGo 66 [true, true, true, true, true, true, true, true]))))),
  (118, (sq (xLA 0) (sq (xLI 5) (sq (xPI 10 12) (sq (xLI 6) tRI)))))]
set_option maxRecDepth 100000 in
set_option maxHeartbeats 4000000 in
theorem s_X11_frosts : ∀ X : XCtx, XE X → X.2.2.1.1 = cX11_frosts → X.2.2.1.2.1 = 8 → X.2.2.1.2.2.1 = yX11_frosts.cls → X.2.2.1.2.2.2.1 = (some .int) → X.1.2.2.2.1 = { frames := 6, cells := 0, slots := 0, locals := 146 } → SndBs X bs_X11_frosts := by
  rintro ⟨⟨p, l, e, R, s⟩, Y, ⟨cc, nL, own, ret, Ts⟩, Z⟩ hE h1 h2 h3 h4 h5
  dsimp only at h1 h2 h3 h4 h5
  subst h1 h2 h3 h4 h5
  exact ⟨(n_sq (n_aload_n hE dX11_frosts_0) (n_sq (n_getD hE xk_10 (k := 5) rfl (by decide) rfl wt_321 dX11_frosts_1) (n_sq (n_getI hE xk_1 (k := 0) rfl (by decide) rfl wt_96 dX11_frosts_4) (n_ifeq hE (by decide) dX11_frosts_7)))),
    (n_sq (n_iload_n hE dX11_frosts_10) (n_sq (n_iconst hE (by decide) dX11_frosts_11) (n_sq (n_bipush hE (by decide) dX11_frosts_12) (n_sq (n_cIs hE m_X11_within vc_X11_170 (show 0 + 1 ≤ 6 ∧ 8 + (3 + 11) + 0 ≤ 146 by decide) dX11_frosts_14) (n_ifeq hE (by decide) dX11_frosts_17))))),
    (n_sq (n_iload_n hE dX11_frosts_20) (n_sq (n_iconst hE (by decide) dX11_frosts_21) (n_sq (n_bipush hE (by decide) dX11_frosts_22) (n_sq (n_cIs hE m_X11_within vc_X11_170 (show 0 + 1 ≤ 6 ∧ 8 + (3 + 11) + 0 ≤ 146 by decide) dX11_frosts_24) (n_ifne hE (by decide) dX11_frosts_27))))),
    (n_sq (n_iconst hE (by decide) dX11_frosts_30) (n_ireturn hE rfl dX11_frosts_31)),
    (n_sq (n_iload_n hE dX11_frosts_32) (n_sq (n_iconst hE (by decide) dX11_frosts_33) (n_sq (n_bipush hE (by decide) dX11_frosts_34) (n_sq (n_cIs hE m_X11_within vc_X11_170 (show 0 + 1 ≤ 6 ∧ 8 + (3 + 11) + 0 ≤ 146 by decide) dX11_frosts_36) (n_ifeq hE (by decide) dX11_frosts_39))))),
    (n_sq (n_iload hE dX11_frosts_42) (n_sq (n_iconst hE (by decide) dX11_frosts_44) (n_sq (n_iconst hE (by decide) dX11_frosts_45) (n_sq (n_cIs hE m_X11_within vc_X11_170 (show 0 + 1 ≤ 6 ∧ 8 + (3 + 11) + 0 ≤ 146 by decide) dX11_frosts_46) (n_ifne hE (by decide) dX11_frosts_49))))),
    (n_sq (n_iconst hE (by decide) dX11_frosts_52) (n_ireturn hE rfl dX11_frosts_53)),
    (n_sq (n_aload_n hE dX11_frosts_54) (n_sq (n_getI hE xk_10 (k := 12) rfl (by decide) rfl wt_328 dX11_frosts_55) (n_sq (n_istore hE (show (5 : Nat) < 8 by decide) dX11_frosts_58) (n_sq (n_iconst hE (by decide) dX11_frosts_60) (n_sq (n_istore hE (show (6 : Nat) < 8 by decide) dX11_frosts_61) (n_sq (n_iconst hE (by decide) dX11_frosts_63) (n_sq (n_istore hE (show (7 : Nat) < 8 by decide) dX11_frosts_64) n_fall))))))),
    (n_sq (n_iload hE dX11_frosts_66) (n_sq (n_iload_n hE dX11_frosts_68) (n_ifcge hE (by decide) dX11_frosts_69))),
    (n_sq (n_aload_n hE dX11_frosts_72) (n_sq (n_cVv hE m_X11_startFromNow vc_X11_250 (show 2 + 1 ≤ 6 ∧ 8 + (1 + 11) + 43 ≤ 146 by decide) dX11_frosts_73) (n_sq (n_aload_n hE dX11_frosts_76) (n_sq (n_iload_n hE dX11_frosts_77) (n_sq (n_iload_n hE dX11_frosts_78) (n_sq (n_cVv hE m_X11_goOnInFrost vc_X11_327 (show 5 + 1 ≤ 6 ∧ 8 + (4 + 11) + 123 ≤ 146 by decide) dX11_frosts_79) (n_sq (n_iload hE dX11_frosts_82) (n_sq (n_iload hE dX11_frosts_84) (n_ifne hE (by decide) dX11_frosts_86))))))))),
    (n_sq (n_aload_n hE dX11_frosts_89) (n_sq (n_getS hE xk_10 (k := 7) rfl (by decide) rfl wt_323 dX11_frosts_90) (n_sq (n_cIv hE m_X9_burntBits vc_X11_213 (show 1 + 1 ≤ 6 ∧ 8 + (1 + 11) + 23 ≤ 146 by decide) dX11_frosts_93) (n_sq (n_cIs hE m_J6_bitCount_0f7a4 vc_X11_276 (show 0 + 1 ≤ 6 ∧ 8 + (1 + 11) + 0 ≤ 146 by decide) dX11_frosts_96) (n_goto hE (by decide) dX11_frosts_99))))),
    (n_sq (n_aload_n hE dX11_frosts_102) (n_sq (n_getS hE xk_10 (k := 7) rfl (by decide) rfl wt_323 dX11_frosts_103) (n_sq (n_cIv hE m_X9_fullAll vc_X11_209 (show 0 + 1 ≤ 6 ∧ 8 + (3 + 11) + 0 ≤ 146 by decide) dX11_frosts_106) n_fall))),
    (n_sq (n_iadd hE dX11_frosts_109) (n_sq (n_istore hE (show (6 : Nat) < 8 by decide) dX11_frosts_110) (n_sq (n_iinc hE (by decide) (show (7 : Nat) < 8 by decide) dX11_frosts_112) (n_goto hE (by decide) dX11_frosts_115)))),
    (n_sq (n_aload_n hE dX11_frosts_118) (n_sq (n_iload hE dX11_frosts_119) (n_sq (n_putI hE xk_10 (k := 12) rfl (by decide) rfl rfl (tyX11_ok 12 (by decide)) wt_328 dX11_frosts_121) (n_sq (n_iload hE dX11_frosts_124) (n_ireturn hE rfl dX11_frosts_126))))), trivial⟩
noncomputable def F_X11_frosts (as : List XV) (w : XW) : Option (Int32 × XW) := (xF 8 bs_X11_frosts as w).bind pI
theorem m_X11_frosts : XM yX11_frosts cX11_frosts 8 (some .int) 6 146 (eI F_X11_frosts) := xm_I (xm_of (by decide) s_X11_frosts)
noncomputable def q_X11_frosts_0 (x1 : Int32) (x2 : Int32) (x3 : Int32) (x4 : Int32) (w : XW) : Option XR := ev bs_X11_frosts 0 ([some (.inr (10, 0)), some (.inl (.int x1)), some (.inl (.int x2)), some (.inl (.int x3)), some (.inl (.int x4)), none, none, none], [], w)
noncomputable def q_X11_frosts_10 (x1 : Int32) (x2 : Int32) (x3 : Int32) (x4 : Int32) (w : XW) : Option XR := ev bs_X11_frosts 10 ([some (.inr (10, 0)), some (.inl (.int x1)), some (.inl (.int x2)), some (.inl (.int x3)), some (.inl (.int x4)), none, none, none], [], w)
noncomputable def q_X11_frosts_20 (x1 : Int32) (x2 : Int32) (x3 : Int32) (x4 : Int32) (w : XW) : Option XR := ev bs_X11_frosts 20 ([some (.inr (10, 0)), some (.inl (.int x1)), some (.inl (.int x2)), some (.inl (.int x3)), some (.inl (.int x4)), none, none, none], [], w)
noncomputable def q_X11_frosts_30 (w : XW) : Option XR := ev bs_X11_frosts 30 ([none, none, none, none, none, none, none, none], [], w)
noncomputable def q_X11_frosts_32 (x1 : Int32) (x2 : Int32) (x3 : Int32) (x4 : Int32) (w : XW) : Option XR := ev bs_X11_frosts 32 ([some (.inr (10, 0)), some (.inl (.int x1)), some (.inl (.int x2)), some (.inl (.int x3)), some (.inl (.int x4)), none, none, none], [], w)
noncomputable def q_X11_frosts_42 (x1 : Int32) (x2 : Int32) (x3 : Int32) (x4 : Int32) (w : XW) : Option XR := ev bs_X11_frosts 42 ([some (.inr (10, 0)), some (.inl (.int x1)), some (.inl (.int x2)), some (.inl (.int x3)), some (.inl (.int x4)), none, none, none], [], w)
noncomputable def q_X11_frosts_52 (w : XW) : Option XR := ev bs_X11_frosts 52 ([none, none, none, none, none, none, none, none], [], w)
noncomputable def q_X11_frosts_54 (x1 : Int32) (x2 : Int32) (x3 : Int32) (x4 : Int32) (w : XW) : Option XR := ev bs_X11_frosts 54 ([some (.inr (10, 0)), some (.inl (.int x1)), some (.inl (.int x2)), some (.inl (.int x3)), some (.inl (.int x4)), none, none, none], [], w)
noncomputable def q_X11_frosts_66 (x1 : Int32) (x2 : Int32) (x3 : Int32) (x4 : Int32) (x5 : Int32) (x6 : Int32) (x7 : Int32) (w : XW) : Option XR := ev bs_X11_frosts 66 ([some (.inr (10, 0)), some (.inl (.int x1)), some (.inl (.int x2)), some (.inl (.int x3)), some (.inl (.int x4)), some (.inl (.int x5)), some (.inl (.int x6)), some (.inl (.int x7))], [], w)
noncomputable def q_X11_frosts_72 (x1 : Int32) (x2 : Int32) (x3 : Int32) (x4 : Int32) (x5 : Int32) (x6 : Int32) (x7 : Int32) (w : XW) : Option XR := ev bs_X11_frosts 72 ([some (.inr (10, 0)), some (.inl (.int x1)), some (.inl (.int x2)), some (.inl (.int x3)), some (.inl (.int x4)), some (.inl (.int x5)), some (.inl (.int x6)), some (.inl (.int x7))], [], w)
noncomputable def q_X11_frosts_89 (x1 : Int32) (x2 : Int32) (x3 : Int32) (x4 : Int32) (x5 : Int32) (x7 : Int32) (s0 : Int32) (w : XW) : Option XR := ev bs_X11_frosts 89 ([some (.inr (10, 0)), some (.inl (.int x1)), some (.inl (.int x2)), some (.inl (.int x3)), some (.inl (.int x4)), some (.inl (.int x5)), none, some (.inl (.int x7))], [.inl (.int s0)], w)
noncomputable def q_X11_frosts_102 (x1 : Int32) (x2 : Int32) (x3 : Int32) (x4 : Int32) (x5 : Int32) (x7 : Int32) (s0 : Int32) (w : XW) : Option XR := ev bs_X11_frosts 102 ([some (.inr (10, 0)), some (.inl (.int x1)), some (.inl (.int x2)), some (.inl (.int x3)), some (.inl (.int x4)), some (.inl (.int x5)), none, some (.inl (.int x7))], [.inl (.int s0)], w)
noncomputable def q_X11_frosts_109 (x1 : Int32) (x2 : Int32) (x3 : Int32) (x4 : Int32) (x5 : Int32) (x7 : Int32) (s0 : Int32) (s1 : Int32) (w : XW) : Option XR := ev bs_X11_frosts 109 ([some (.inr (10, 0)), some (.inl (.int x1)), some (.inl (.int x2)), some (.inl (.int x3)), some (.inl (.int x4)), some (.inl (.int x5)), none, some (.inl (.int x7))], [.inl (.int s1), .inl (.int s0)], w)
noncomputable def q_X11_frosts_118 (x5 : Int32) (x6 : Int32) (w : XW) : Option XR := ev bs_X11_frosts 118 ([some (.inr (10, 0)), none, none, none, none, some (.inl (.int x5)), some (.inl (.int x6)), none], [], w)
theorem e_X11_frosts_0 (x1 : Int32) (x2 : Int32) (x3 : Int32) (x4 : Int32) (w : XW) : q_X11_frosts_0 x1 x2 x3 x4 w = ((gR w 10 0 5).bind fun j0 => (bif decide ((gI w 1 j0 0) = 0) then (q_X11_frosts_30 w) else (q_X11_frosts_10 x1 x2 x3 x4 w))) := (ev_eq _ _ _).trans rfl
theorem e_X11_frosts_10 (x1 : Int32) (x2 : Int32) (x3 : Int32) (x4 : Int32) (w : XW) : q_X11_frosts_10 x1 x2 x3 x4 w = ((F_X11_within [.inl (.int x1), .inl (.int 1), .inl (.int 10)] w).bind fun r0 => (bif decide (r0.1 = 0) then (q_X11_frosts_30 r0.2) else (q_X11_frosts_20 x1 x2 x3 x4 r0.2))) := (ev_eq _ _ _).trans rfl
theorem e_X11_frosts_20 (x1 : Int32) (x2 : Int32) (x3 : Int32) (x4 : Int32) (w : XW) : q_X11_frosts_20 x1 x2 x3 x4 w = ((F_X11_within [.inl (.int x2), .inl (.int 1), .inl (.int 60)] w).bind fun r0 => (bif decide (¬ r0.1 = 0) then (q_X11_frosts_32 x1 x2 x3 x4 r0.2) else (q_X11_frosts_30 r0.2))) := (ev_eq _ _ _).trans rfl
theorem e_X11_frosts_30 (w : XW) : q_X11_frosts_30 w = (some (some (.inl (.int (-1))), w)) := (ev_eq _ _ _).trans rfl
theorem e_X11_frosts_32 (x1 : Int32) (x2 : Int32) (x3 : Int32) (x4 : Int32) (w : XW) : q_X11_frosts_32 x1 x2 x3 x4 w = ((F_X11_within [.inl (.int x3), .inl (.int 0), .inl (.int 100)] w).bind fun r0 => (bif decide (r0.1 = 0) then (q_X11_frosts_52 r0.2) else (q_X11_frosts_42 x1 x2 x3 x4 r0.2))) := (ev_eq _ _ _).trans rfl
theorem e_X11_frosts_42 (x1 : Int32) (x2 : Int32) (x3 : Int32) (x4 : Int32) (w : XW) : q_X11_frosts_42 x1 x2 x3 x4 w = ((F_X11_within [.inl (.int x4), .inl (.int 0), .inl (.int 1)] w).bind fun r0 => (bif decide (¬ r0.1 = 0) then (q_X11_frosts_54 x1 x2 x3 x4 r0.2) else (q_X11_frosts_52 r0.2))) := (ev_eq _ _ _).trans rfl
theorem e_X11_frosts_52 (w : XW) : q_X11_frosts_52 w = (some (some (.inl (.int (-1))), w)) := (ev_eq _ _ _).trans rfl
theorem e_X11_frosts_54 (x1 : Int32) (x2 : Int32) (x3 : Int32) (x4 : Int32) (w : XW) : q_X11_frosts_54 x1 x2 x3 x4 w = (q_X11_frosts_66 x1 x2 x3 x4 (gI w 10 0 12) 0 0 w) := (ev_eq _ _ _).trans rfl
theorem e_X11_frosts_66 (x1 : Int32) (x2 : Int32) (x3 : Int32) (x4 : Int32) (x5 : Int32) (x6 : Int32) (x7 : Int32) (w : XW) : q_X11_frosts_66 x1 x2 x3 x4 x5 x6 x7 w = (bif decide (x1 ≤ x7) then (q_X11_frosts_118 x5 x6 w) else (q_X11_frosts_72 x1 x2 x3 x4 x5 x6 x7 w)) := (ev_eq _ _ _).trans rfl
theorem e_X11_frosts_72 (x1 : Int32) (x2 : Int32) (x3 : Int32) (x4 : Int32) (x5 : Int32) (x6 : Int32) (x7 : Int32) (w : XW) : q_X11_frosts_72 x1 x2 x3 x4 x5 x6 x7 w = ((F_X11_startFromNow [.inr (10, 0)] w).bind fun r0 => ((F_X11_goOnInFrost [.inr (10, 0), .inl (.int x2), .inl (.int x3)] r0).bind fun r1 => (bif decide (¬ x4 = 0) then (q_X11_frosts_102 x1 x2 x3 x4 x5 x7 x6 r1) else (q_X11_frosts_89 x1 x2 x3 x4 x5 x7 x6 r1)))) := (ev_eq _ _ _).trans rfl
theorem e_X11_frosts_89 (x1 : Int32) (x2 : Int32) (x3 : Int32) (x4 : Int32) (x5 : Int32) (x7 : Int32) (s0 : Int32) (w : XW) : q_X11_frosts_89 x1 x2 x3 x4 x5 x7 s0 w = ((F_X9_burntBits [.inr (8, 1)] w).bind fun r0 => ((F_J6_bitCount_0f7a4 [.inl (.int r0.1)] r0.2).bind fun r1 => (q_X11_frosts_109 x1 x2 x3 x4 x5 x7 s0 r1.1 r1.2))) := (ev_eq _ _ _).trans rfl
theorem e_X11_frosts_102 (x1 : Int32) (x2 : Int32) (x3 : Int32) (x4 : Int32) (x5 : Int32) (x7 : Int32) (s0 : Int32) (w : XW) : q_X11_frosts_102 x1 x2 x3 x4 x5 x7 s0 w = ((F_X9_fullAll [.inr (8, 1)] w).bind fun r0 => (q_X11_frosts_109 x1 x2 x3 x4 x5 x7 s0 r0.1 r0.2)) := (ev_eq _ _ _).trans rfl
theorem e_X11_frosts_109 (x1 : Int32) (x2 : Int32) (x3 : Int32) (x4 : Int32) (x5 : Int32) (x7 : Int32) (s0 : Int32) (s1 : Int32) (w : XW) : q_X11_frosts_109 x1 x2 x3 x4 x5 x7 s0 s1 w = (q_X11_frosts_66 x1 x2 x3 x4 x5 (s0 + s1) (x7 + 1) w) := (ev_eq _ _ _).trans rfl
theorem e_X11_frosts_118 (x5 : Int32) (x6 : Int32) (w : XW) : q_X11_frosts_118 x5 x6 w = (some (some (.inl (.int x6)), sI w 10 0 12 x5)) := (ev_eq _ _ _).trans rfl
theorem f_X11_frosts (x1 : Int32) (x2 : Int32) (x3 : Int32) (x4 : Int32) (w : XW) : F_X11_frosts [.inr (10, 0), .inl (.int x1), .inl (.int x2), .inl (.int x3), .inl (.int x4)] w = (q_X11_frosts_0 x1 x2 x3 x4 w).bind pI := rfl

-- WinterKeep$Notes.copy(LWinterKeep$Notes;)V
theorem dX5_copy_0 : decode cX5_copy 0 = .ok (.aload_n 0, 1) := by decide +kernel
theorem dX5_copy_1 : decode cX5_copy 1 = .ok (.aload_n 1, 1) := by decide +kernel
theorem dX5_copy_2 : decode cX5_copy 2 = .ok (.getfield 9, 3) := by decide +kernel
theorem dX5_copy_5 : decode cX5_copy 5 = .ok (.putfield 9, 3) := by decide +kernel
theorem dX5_copy_8 : decode cX5_copy 8 = .ok (.iconst 0, 1) := by decide +kernel
theorem dX5_copy_9 : decode cX5_copy 9 = .ok (.istore_n 2, 1) := by decide +kernel
theorem dX5_copy_10 : decode cX5_copy 10 = .ok (.iload_n 2, 1) := by decide +kernel
theorem dX5_copy_11 : decode cX5_copy 11 = .ok (.bipush 10, 2) := by decide +kernel
theorem dX5_copy_13 : decode cX5_copy 13 = .ok (.if_icmp .ge 45, 3) := by decide +kernel
theorem dX5_copy_16 : decode cX5_copy 16 = .ok (.aload_n 0, 1) := by decide +kernel
theorem dX5_copy_17 : decode cX5_copy 17 = .ok (.getfield 15, 3) := by decide +kernel
theorem dX5_copy_20 : decode cX5_copy 20 = .ok (.iload_n 2, 1) := by decide +kernel
theorem dX5_copy_21 : decode cX5_copy 21 = .ok (.aload_n 1, 1) := by decide +kernel
theorem dX5_copy_22 : decode cX5_copy 22 = .ok (.getfield 15, 3) := by decide +kernel
theorem dX5_copy_25 : decode cX5_copy 25 = .ok (.iload_n 2, 1) := by decide +kernel
theorem dX5_copy_26 : decode cX5_copy 26 = .ok (.iaload, 1) := by decide +kernel
theorem dX5_copy_27 : decode cX5_copy 27 = .ok (.iastore, 1) := by decide +kernel
theorem dX5_copy_28 : decode cX5_copy 28 = .ok (.aload_n 0, 1) := by decide +kernel
theorem dX5_copy_29 : decode cX5_copy 29 = .ok (.getfield 19, 3) := by decide +kernel
theorem dX5_copy_32 : decode cX5_copy 32 = .ok (.iload_n 2, 1) := by decide +kernel
theorem dX5_copy_33 : decode cX5_copy 33 = .ok (.aload_n 1, 1) := by decide +kernel
theorem dX5_copy_34 : decode cX5_copy 34 = .ok (.getfield 19, 3) := by decide +kernel
theorem dX5_copy_37 : decode cX5_copy 37 = .ok (.iload_n 2, 1) := by decide +kernel
theorem dX5_copy_38 : decode cX5_copy 38 = .ok (.iaload, 1) := by decide +kernel
theorem dX5_copy_39 : decode cX5_copy 39 = .ok (.iastore, 1) := by decide +kernel
theorem dX5_copy_40 : decode cX5_copy 40 = .ok (.aload_n 0, 1) := by decide +kernel
theorem dX5_copy_41 : decode cX5_copy 41 = .ok (.getfield 22, 3) := by decide +kernel
theorem dX5_copy_44 : decode cX5_copy 44 = .ok (.iload_n 2, 1) := by decide +kernel
theorem dX5_copy_45 : decode cX5_copy 45 = .ok (.aload_n 1, 1) := by decide +kernel
theorem dX5_copy_46 : decode cX5_copy 46 = .ok (.getfield 22, 3) := by decide +kernel
theorem dX5_copy_49 : decode cX5_copy 49 = .ok (.iload_n 2, 1) := by decide +kernel
theorem dX5_copy_50 : decode cX5_copy 50 = .ok (.iaload, 1) := by decide +kernel
theorem dX5_copy_51 : decode cX5_copy 51 = .ok (.iastore, 1) := by decide +kernel
theorem dX5_copy_52 : decode cX5_copy 52 = .ok (.iinc 2 1, 3) := by decide +kernel
theorem dX5_copy_55 : decode cX5_copy 55 = .ok (.goto (-45), 3) := by decide +kernel
theorem dX5_copy_58 : decode cX5_copy 58 = .ok (.return_, 1) := by decide +kernel
noncomputable def bs_X5_copy : List (Nat × XB) := [
  (0, (sq (xLA 0) (sq (xLA 1) (sq (xGI 4 0) (sq (xPI 4 0) (sq (xC (.int 0)) (sq (xSI 2) (tGo 10 [true, true, true])))))))),
  (10, (sq (xLI 2) (sq (xC (.int 10)) (tIf2 (fun x y => decide (y ≤ x)) 58 [false, false, false] 16 [true, true, true])))),
  (16, (sq (xLA 0) (sq (xGS 4 22 0 0) (sq (xLI 2) (sq (xLA 1) (sq (xGS 4 22 0 0) (sq (xLI 2) (sq (xAI 22 10) (sq (xTI 22 10 (fun x => x)) (sq (xLA 0) (sq (xGS 4 23 0 0) (sq (xLI 2) (sq (xLA 1) (sq (xGS 4 23 0 0) (sq (xLI 2) (sq (xAI 23 10) (sq (xTI 23 10 (fun x => x)) (sq (xLA 0) (sq (xGS 4 24 0 0) (sq (xLI 2) (sq (xLA 1) (sq (xGS 4 24 0 0) (sq (xLI 2) (sq (xAI 24 10) (sq (xTI 24 10 (fun x => x)) (sq (xInc 2 1) (tGo 10 [true, true, true]))))))))))))))))))))))))))),
  (58, tRV)]
set_option maxRecDepth 100000 in
set_option maxHeartbeats 4000000 in
theorem s_X5_copy : ∀ X : XCtx, XE X → X.2.2.1.1 = cX5_copy → X.2.2.1.2.1 = 3 → X.2.2.1.2.2.1 = yX5_copy.cls → X.2.2.1.2.2.2.1 = none → X.1.2.2.2.1 = { frames := 0, cells := 0, slots := 0, locals := 0 } → SndBs X bs_X5_copy := by
  rintro ⟨⟨p, l, e, R, s⟩, Y, ⟨cc, nL, own, ret, Ts⟩, Z⟩ hE h1 h2 h3 h4 h5
  dsimp only at h1 h2 h3 h4 h5
  subst h1 h2 h3 h4 h5
  exact ⟨(n_sq (n_aload_n hE dX5_copy_0) (n_sq (n_aload_n hE dX5_copy_1) (n_sq (n_getI hE xk_4 (k := 0) rfl (by decide) rfl wt_265 dX5_copy_2) (n_sq (n_putI hE xk_4 (k := 0) rfl (by decide) rfl rfl (tyX5_ok 0 (by decide)) wt_265 dX5_copy_5) (n_sq (n_iconst hE (by decide) dX5_copy_8) (n_sq (n_istore_n hE (show (2 : Nat) < 3 by decide) dX5_copy_9) n_fall)))))),
    (n_sq (n_iload_n hE dX5_copy_10) (n_sq (n_bipush hE (by decide) dX5_copy_11) (n_ifcge hE (by decide) dX5_copy_13))),
    (n_sq (n_aload_n hE dX5_copy_16) (n_sq (n_getS hE xk_4 (k := 1) rfl (by decide) rfl wt_267 dX5_copy_17) (n_sq (n_iload_n hE dX5_copy_20) (n_sq (n_aload_n hE dX5_copy_21) (n_sq (n_getS hE xk_4 (k := 1) rfl (by decide) rfl wt_267 dX5_copy_22) (n_sq (n_iload_n hE dX5_copy_25) (n_sq (n_iald hE rfl (by decide) dX5_copy_26) (n_sq (n_iast hE rfl (by decide) dX5_copy_27) (n_sq (n_aload_n hE dX5_copy_28) (n_sq (n_getS hE xk_4 (k := 2) rfl (by decide) rfl wt_268 dX5_copy_29) (n_sq (n_iload_n hE dX5_copy_32) (n_sq (n_aload_n hE dX5_copy_33) (n_sq (n_getS hE xk_4 (k := 2) rfl (by decide) rfl wt_268 dX5_copy_34) (n_sq (n_iload_n hE dX5_copy_37) (n_sq (n_iald hE rfl (by decide) dX5_copy_38) (n_sq (n_iast hE rfl (by decide) dX5_copy_39) (n_sq (n_aload_n hE dX5_copy_40) (n_sq (n_getS hE xk_4 (k := 3) rfl (by decide) rfl wt_269 dX5_copy_41) (n_sq (n_iload_n hE dX5_copy_44) (n_sq (n_aload_n hE dX5_copy_45) (n_sq (n_getS hE xk_4 (k := 3) rfl (by decide) rfl wt_269 dX5_copy_46) (n_sq (n_iload_n hE dX5_copy_49) (n_sq (n_iald hE rfl (by decide) dX5_copy_50) (n_sq (n_iast hE rfl (by decide) dX5_copy_51) (n_sq (n_iinc hE (by decide) (show (2 : Nat) < 3 by decide) dX5_copy_52) (n_goto hE (by decide) dX5_copy_55)))))))))))))))))))))))))),
    (n_vreturn hE rfl dX5_copy_58), trivial⟩
noncomputable def F_X5_copy (as : List XV) (w : XW) : Option XW := (xF 3 bs_X5_copy as w).bind pV
theorem m_X5_copy : XM yX5_copy cX5_copy 3 none 0 0 (eV F_X5_copy) := xm_V (xm_of (by decide) s_X5_copy)
noncomputable def q_X5_copy_0 (i0 : Nat) (i1 : Nat) (w : XW) : Option XR := ev bs_X5_copy 0 ([some (.inr (4, i0)), some (.inr (4, i1)), none], [], w)
noncomputable def q_X5_copy_10 (i0 : Nat) (i1 : Nat) (x2 : Int32) (w : XW) : Option XR := ev bs_X5_copy 10 ([some (.inr (4, i0)), some (.inr (4, i1)), some (.inl (.int x2))], [], w)
noncomputable def q_X5_copy_16 (i0 : Nat) (i1 : Nat) (x2 : Int32) (w : XW) : Option XR := ev bs_X5_copy 16 ([some (.inr (4, i0)), some (.inr (4, i1)), some (.inl (.int x2))], [], w)
noncomputable def q_X5_copy_58 (w : XW) : Option XR := ev bs_X5_copy 58 ([none, none, none], [], w)
theorem e_X5_copy_0 (i0 : Nat) (i1 : Nat) (w : XW) : q_X5_copy_0 i0 i1 w = (q_X5_copy_10 i0 i1 0 (sI w 4 i0 0 (gI w 4 i1 0))) := (ev_eq _ _ _).trans rfl
theorem e_X5_copy_10 (i0 : Nat) (i1 : Nat) (x2 : Int32) (w : XW) : q_X5_copy_10 i0 i1 x2 w = (bif decide (10 ≤ x2) then (q_X5_copy_58 w) else (q_X5_copy_16 i0 i1 x2 w)) := (ev_eq _ _ _).trans rfl
theorem e_X5_copy_16 (i0 : Nat) (i1 : Nat) (x2 : Int32) (w : XW) : q_X5_copy_16 i0 i1 x2 w = (if x2 < 0 ∨ 10 ≤ x2.toNatClampNeg then none else (if x2 < 0 ∨ 10 ≤ x2.toNatClampNeg then none else (if x2 < 0 ∨ 10 ≤ x2.toNatClampNeg then none else (if x2 < 0 ∨ 10 ≤ x2.toNatClampNeg then none else (if x2 < 0 ∨ 10 ≤ x2.toNatClampNeg then none else (if x2 < 0 ∨ 10 ≤ x2.toNatClampNeg then none else (q_X5_copy_10 i0 i1 (x2 + 1) (sI (sI (sI w 22 i0 x2.toNatClampNeg (gI w 22 i1 x2.toNatClampNeg)) 23 i0 x2.toNatClampNeg (gI (sI w 22 i0 x2.toNatClampNeg (gI w 22 i1 x2.toNatClampNeg)) 23 i1 x2.toNatClampNeg)) 24 i0 x2.toNatClampNeg (gI (sI (sI w 22 i0 x2.toNatClampNeg (gI w 22 i1 x2.toNatClampNeg)) 23 i0 x2.toNatClampNeg (gI (sI w 22 i0 x2.toNatClampNeg (gI w 22 i1 x2.toNatClampNeg)) 23 i1 x2.toNatClampNeg)) 24 i1 x2.toNatClampNeg))))))))) := (ev_eq _ _ _).trans rfl
theorem e_X5_copy_58 (w : XW) : q_X5_copy_58 w = (some (none, w)) := (ev_eq _ _ _).trans rfl
theorem f_X5_copy (i0 : Nat) (i1 : Nat) (w : XW) : F_X5_copy [.inr (4, i0), .inr (4, i1)] w = (q_X5_copy_0 i0 i1 w).bind pV := rfl

-- WinterKeep.image(I)I
theorem dX11_image_0 : decode cX11_image 0 = .ok (.iload_n 1, 1) := by decide +kernel
theorem dX11_image_1 : decode cX11_image 1 = .ok (.iconst 0, 1) := by decide +kernel
theorem dX11_image_2 : decode cX11_image 2 = .ok (.iconst 3, 1) := by decide +kernel
theorem dX11_image_3 : decode cX11_image 3 = .ok (.invokestatic 170, 3) := by decide +kernel
theorem dX11_image_6 : decode cX11_image 6 = .ok (.ifCond .ne 5, 3) := by decide +kernel
theorem dX11_image_9 : decode cX11_image 9 = .ok (.iconst (-1), 1) := by decide +kernel
theorem dX11_image_10 : decode cX11_image 10 = .ok (.ireturn, 1) := by decide +kernel
theorem dX11_image_11 : decode cX11_image 11 = .ok (.aload_n 0, 1) := by decide +kernel
theorem dX11_image_12 : decode cX11_image 12 = .ok (.getfield 86, 3) := by decide +kernel
theorem dX11_image_15 : decode cX11_image 15 = .ok (.iload_n 1, 1) := by decide +kernel
theorem dX11_image_16 : decode cX11_image 16 = .ok (.aaload, 1) := by decide +kernel
theorem dX11_image_17 : decode cX11_image 17 = .ok (.astore_n 2, 1) := by decide +kernel
theorem dX11_image_18 : decode cX11_image 18 = .ok (.aload_n 2, 1) := by decide +kernel
theorem dX11_image_19 : decode cX11_image 19 = .ok (.iconst 1, 1) := by decide +kernel
theorem dX11_image_20 : decode cX11_image 20 = .ok (.putfield 340, 3) := by decide +kernel
theorem dX11_image_23 : decode cX11_image 23 = .ok (.aload_n 2, 1) := by decide +kernel
theorem dX11_image_24 : decode cX11_image 24 = .ok (.aload_n 0, 1) := by decide +kernel
theorem dX11_image_25 : decode cX11_image 25 = .ok (.getfield 39, 3) := by decide +kernel
theorem dX11_image_28 : decode cX11_image 28 = .ok (.putfield 343, 3) := by decide +kernel
theorem dX11_image_31 : decode cX11_image 31 = .ok (.aload_n 2, 1) := by decide +kernel
theorem dX11_image_32 : decode cX11_image 32 = .ok (.getfield 344, 3) := by decide +kernel
theorem dX11_image_35 : decode cX11_image 35 = .ok (.aload_n 0, 1) := by decide +kernel
theorem dX11_image_36 : decode cX11_image 36 = .ok (.getfield 46, 3) := by decide +kernel
theorem dX11_image_39 : decode cX11_image 39 = .ok (.invokevirtual 246, 3) := by decide +kernel
theorem dX11_image_42 : decode cX11_image 42 = .ok (.aload_n 2, 1) := by decide +kernel
theorem dX11_image_43 : decode cX11_image 43 = .ok (.aload_n 0, 1) := by decide +kernel
theorem dX11_image_44 : decode cX11_image 44 = .ok (.getfield 33, 3) := by decide +kernel
theorem dX11_image_47 : decode cX11_image 47 = .ok (.putfield 347, 3) := by decide +kernel
theorem dX11_image_50 : decode cX11_image 50 = .ok (.aload_n 2, 1) := by decide +kernel
theorem dX11_image_51 : decode cX11_image 51 = .ok (.getfield 348, 3) := by decide +kernel
theorem dX11_image_54 : decode cX11_image 54 = .ok (.aload_n 0, 1) := by decide +kernel
theorem dX11_image_55 : decode cX11_image 55 = .ok (.getfield 77, 3) := by decide +kernel
theorem dX11_image_58 : decode cX11_image 58 = .ok (.invokevirtual 349, 3) := by decide +kernel
theorem dX11_image_61 : decode cX11_image 61 = .ok (.aload_n 2, 1) := by decide +kernel
theorem dX11_image_62 : decode cX11_image 62 = .ok (.aload_n 0, 1) := by decide +kernel
theorem dX11_image_63 : decode cX11_image 63 = .ok (.getfield 81, 3) := by decide +kernel
theorem dX11_image_66 : decode cX11_image 66 = .ok (.putfield 352, 3) := by decide +kernel
theorem dX11_image_69 : decode cX11_image 69 = .ok (.aload_n 0, 1) := by decide +kernel
theorem dX11_image_70 : decode cX11_image 70 = .ok (.getfield 46, 3) := by decide +kernel
theorem dX11_image_73 : decode cX11_image 73 = .ok (.getfield 206, 3) := by decide +kernel
theorem dX11_image_76 : decode cX11_image 76 = .ok (.ireturn, 1) := by decide +kernel
theorem vc_X11_349 : XVw RX11 349 1 4 3 yX5_copy cX5_copy none := ⟨RX5, TX5, tyX5, 4, xk_4, rfl, ⟨by decide, by decide⟩, by decide +kernel, wt_946, wt_947, wt_948, wt_9, wt_949⟩
noncomputable def bs_X11_image : List (Nat × XB) := [
  (0, (sq (xLI 1) (sq (xC (.int 0)) (sq (xC (.int 3)) (sq (xCI 99 3 F_X11_within) (tIf1 (fun x => decide (¬ x = 0)) 11 [true, true, false] 9 [false, false, false])))))),
  (9, (sq (xC (.int (-1))) tRI)),
  (11, (sq (xLA 0) (sq (xGS 10 36 1 0) (sq (xLI 1) (sq (xAR 36 4 2) (sq (xSA 2) (sq (xLA 2) (sq (xC (.int 1)) (sq (xPZ 2 0) (sq (xLA 2) (sq (xLA 0) (sq (xGD 10 5 1) (sq (xPD 2 1 1) (sq (xLA 2) (sq (xGS 2 8 2 22) (sq (xLA 0) (sq (xGS 10 8 1 0) (sq (xCV 8 2 F_X9_copy) (sq (xLA 2) (sq (xLA 0) (sq (xGI 10 4) (sq (xPI 2 3) (sq (xLA 2) (sq (xGS 2 4 2 1) (sq (xLA 0) (sq (xGS 10 4 1 0) (sq (xCV 4 2 F_X5_copy) (sq (xLA 2) (sq (xLA 0) (sq (xGI 10 12) (sq (xPI 2 5) (sq (xLA 0) (sq (xGS 10 8 1 0) (sq (xGI 8 1) tRI))))))))))))))))))))))))))))))))))]
set_option maxRecDepth 100000 in
set_option maxHeartbeats 4000000 in
theorem s_X11_image : ∀ X : XCtx, XE X → X.2.2.1.1 = cX11_image → X.2.2.1.2.1 = 3 → X.2.2.1.2.2.1 = yX11_image.cls → X.2.2.1.2.2.2.1 = (some .int) → X.1.2.2.2.1 = { frames := 1, cells := 0, slots := 0, locals := 22 } → SndBs X bs_X11_image := by
  rintro ⟨⟨p, l, e, R, s⟩, Y, ⟨cc, nL, own, ret, Ts⟩, Z⟩ hE h1 h2 h3 h4 h5
  dsimp only at h1 h2 h3 h4 h5
  subst h1 h2 h3 h4 h5
  exact ⟨(n_sq (n_iload_n hE dX11_image_0) (n_sq (n_iconst hE (by decide) dX11_image_1) (n_sq (n_iconst hE (by decide) dX11_image_2) (n_sq (n_cIs hE m_X11_within vc_X11_170 (show 0 + 1 ≤ 1 ∧ 8 + (3 + 11) + 0 ≤ 22 by decide) dX11_image_3) (n_ifne hE (by decide) dX11_image_6))))),
    (n_sq (n_iconst hE (by decide) dX11_image_9) (n_ireturn hE rfl dX11_image_10)),
    (n_sq (n_aload_n hE dX11_image_11) (n_sq (n_getS hE xk_10 (k := 13) rfl (by decide) rfl wt_329 dX11_image_12) (n_sq (n_iload_n hE dX11_image_15) (n_sq (n_aald4 hE rfl (by decide) dX11_image_16) (n_sq (n_astore_n hE (show (2 : Nat) < 3 by decide) dX11_image_17) (n_sq (n_aload_n hE dX11_image_18) (n_sq (n_iconst hE (by decide) dX11_image_19) (n_sq (n_putZ hE xk_2 (k := 0) rfl (by decide) rfl rfl (tyX3_ok 0 (by decide)) wt_292 dX11_image_20) (n_sq (n_aload_n hE dX11_image_23) (n_sq (n_aload_n hE dX11_image_24) (n_sq (n_getD hE xk_10 (k := 5) rfl (by decide) rfl wt_321 dX11_image_25) (n_sq (n_putD hE xk_2 (k := 1) rfl (by decide) rfl rfl (tyX3_ok 1 (by decide)) wt_294 dX11_image_28) (n_sq (n_aload_n hE dX11_image_31) (n_sq (n_getS hE xk_2 (k := 2) rfl (by decide) rfl wt_296 dX11_image_32) (n_sq (n_aload_n hE dX11_image_35) (n_sq (n_getS hE xk_10 (k := 6) rfl (by decide) rfl wt_322 dX11_image_36) (n_sq (n_cVv hE m_X9_copy vc_X11_246 (show 0 + 1 ≤ 1 ∧ 8 + (3 + 11) + 0 ≤ 22 by decide) dX11_image_39) (n_sq (n_aload_n hE dX11_image_42) (n_sq (n_aload_n hE dX11_image_43) (n_sq (n_getI hE xk_10 (k := 4) rfl (by decide) rfl wt_320 dX11_image_44) (n_sq (n_putI hE xk_2 (k := 3) rfl (by decide) rfl rfl (tyX3_ok 3 (by decide)) wt_298 dX11_image_47) (n_sq (n_aload_n hE dX11_image_50) (n_sq (n_getS hE xk_2 (k := 4) rfl (by decide) rfl wt_300 dX11_image_51) (n_sq (n_aload_n hE dX11_image_54) (n_sq (n_getS hE xk_10 (k := 11) rfl (by decide) rfl wt_327 dX11_image_55) (n_sq (n_cVv hE m_X5_copy vc_X11_349 (show 0 + 1 ≤ 1 ∧ 8 + (3 + 11) + 0 ≤ 22 by decide) dX11_image_58) (n_sq (n_aload_n hE dX11_image_61) (n_sq (n_aload_n hE dX11_image_62) (n_sq (n_getI hE xk_10 (k := 12) rfl (by decide) rfl wt_328 dX11_image_63) (n_sq (n_putI hE xk_2 (k := 5) rfl (by decide) rfl rfl (tyX3_ok 5 (by decide)) wt_302 dX11_image_66) (n_sq (n_aload_n hE dX11_image_69) (n_sq (n_getS hE xk_10 (k := 6) rfl (by decide) rfl wt_322 dX11_image_70) (n_sq (n_getI hE xk_8 (k := 1) rfl (by decide) rfl wt_178 dX11_image_73) (n_ireturn hE rfl dX11_image_76)))))))))))))))))))))))))))))))))), trivial⟩
noncomputable def F_X11_image (as : List XV) (w : XW) : Option (Int32 × XW) := (xF 3 bs_X11_image as w).bind pI
theorem m_X11_image : XM yX11_image cX11_image 3 (some .int) 1 22 (eI F_X11_image) := xm_I (xm_of (by decide) s_X11_image)
noncomputable def q_X11_image_0 (x1 : Int32) (w : XW) : Option XR := ev bs_X11_image 0 ([some (.inr (10, 0)), some (.inl (.int x1)), none], [], w)
noncomputable def q_X11_image_9 (w : XW) : Option XR := ev bs_X11_image 9 ([none, none, none], [], w)
noncomputable def q_X11_image_11 (x1 : Int32) (w : XW) : Option XR := ev bs_X11_image 11 ([some (.inr (10, 0)), some (.inl (.int x1)), none], [], w)
theorem e_X11_image_0 (x1 : Int32) (w : XW) : q_X11_image_0 x1 w = ((F_X11_within [.inl (.int x1), .inl (.int 0), .inl (.int 3)] w).bind fun r0 => (bif decide (¬ r0.1 = 0) then (q_X11_image_11 x1 r0.2) else (q_X11_image_9 r0.2))) := (ev_eq _ _ _).trans rfl
theorem e_X11_image_9 (w : XW) : q_X11_image_9 w = (some (some (.inl (.int (-1))), w)) := (ev_eq _ _ _).trans rfl
theorem e_X11_image_11 (x1 : Int32) (w : XW) : q_X11_image_11 x1 w = (if x1 < 0 ∨ 4 ≤ x1.toNatClampNeg then none else ((gR w 36 0 x1.toNatClampNeg).bind fun j0 => ((gR (sI w 2 j0 0 1) 10 0 5).bind fun j1 => ((F_X9_copy [.inr (8, (22 + j0)), .inr (8, 0)] (sR (sI w 2 j0 0 1) 2 j0 1 (some j1))).bind fun r2 => ((F_X5_copy [.inr (4, (1 + j0)), .inr (4, 0)] (sI r2 2 j0 3 (gI r2 10 0 4))).bind fun r3 => (some (some (.inl (.int (gI (sI r3 2 j0 5 (gI r3 10 0 12)) 8 0 1))), sI r3 2 j0 5 (gI r3 10 0 12)))))))) := (ev_eq _ _ _).trans rfl
theorem f_X11_image (x1 : Int32) (w : XW) : F_X11_image [.inr (10, 0), .inl (.int x1)] w = (q_X11_image_0 x1 w).bind pI := rfl
