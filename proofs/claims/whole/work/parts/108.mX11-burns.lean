-- WinterKeep.burns(I)I
theorem dX11_burns_0 : decode cX11_burns 0 = .ok (.aload_n 0, 1) := by decide +kernel
theorem dX11_burns_1 : decode cX11_burns 1 = .ok (.getfield 39, 3) := by decide +kernel
theorem dX11_burns_4 : decode cX11_burns 4 = .ok (.getfield 227, 3) := by decide +kernel
theorem dX11_burns_7 : decode cX11_burns 7 = .ok (.ifCond .eq 12, 3) := by decide +kernel
theorem dX11_burns_10 : decode cX11_burns 10 = .ok (.iload_n 1, 1) := by decide +kernel
theorem dX11_burns_11 : decode cX11_burns 11 = .ok (.iconst 0, 1) := by decide +kernel
theorem dX11_burns_12 : decode cX11_burns 12 = .ok (.iconst 1, 1) := by decide +kernel
theorem dX11_burns_13 : decode cX11_burns 13 = .ok (.invokestatic 170, 3) := by decide +kernel
theorem dX11_burns_16 : decode cX11_burns 16 = .ok (.ifCond .ne 5, 3) := by decide +kernel
theorem dX11_burns_19 : decode cX11_burns 19 = .ok (.iconst (-1), 1) := by decide +kernel
theorem dX11_burns_20 : decode cX11_burns 20 = .ok (.ireturn, 1) := by decide +kernel
theorem dX11_burns_21 : decode cX11_burns 21 = .ok (.aload_n 0, 1) := by decide +kernel
theorem dX11_burns_22 : decode cX11_burns 22 = .ok (.invokevirtual 250, 3) := by decide +kernel
theorem dX11_burns_25 : decode cX11_burns 25 = .ok (.iconst 0, 1) := by decide +kernel
theorem dX11_burns_26 : decode cX11_burns 26 = .ok (.istore_n 2, 1) := by decide +kernel
theorem dX11_burns_27 : decode cX11_burns 27 = .ok (.iload_n 2, 1) := by decide +kernel
theorem dX11_burns_28 : decode cX11_burns 28 = .ok (.sipush 200, 3) := by decide +kernel
theorem dX11_burns_31 : decode cX11_burns 31 = .ok (.if_icmp .ge 46, 3) := by decide +kernel
theorem dX11_burns_34 : decode cX11_burns 34 = .ok (.aload_n 0, 1) := by decide +kernel
theorem dX11_burns_35 : decode cX11_burns 35 = .ok (.getfield 56, 3) := by decide +kernel
theorem dX11_burns_38 : decode cX11_burns 38 = .ok (.aload_n 0, 1) := by decide +kernel
theorem dX11_burns_39 : decode cX11_burns 39 = .ok (.getfield 50, 3) := by decide +kernel
theorem dX11_burns_42 : decode cX11_burns 42 = .ok (.invokevirtual 242, 3) := by decide +kernel
theorem dX11_burns_45 : decode cX11_burns 45 = .ok (.istore_n 3, 1) := by decide +kernel
theorem dX11_burns_46 : decode cX11_burns 46 = .ok (.iload_n 3, 1) := by decide +kernel
theorem dX11_burns_47 : decode cX11_burns 47 = .ok (.ifCond .eq 24, 3) := by decide +kernel
theorem dX11_burns_50 : decode cX11_burns 50 = .ok (.iload_n 1, 1) := by decide +kernel
theorem dX11_burns_51 : decode cX11_burns 51 = .ok (.ifCond .ne 15, 3) := by decide +kernel
theorem dX11_burns_54 : decode cX11_burns 54 = .ok (.aload_n 0, 1) := by decide +kernel
theorem dX11_burns_55 : decode cX11_burns 55 = .ok (.getfield 46, 3) := by decide +kernel
theorem dX11_burns_58 : decode cX11_burns 58 = .ok (.getfield 206, 3) := by decide +kernel
theorem dX11_burns_61 : decode cX11_burns 61 = .ok (.iload_n 2, 1) := by decide +kernel
theorem dX11_burns_62 : decode cX11_burns 62 = .ok (.iadd, 1) := by decide +kernel
theorem dX11_burns_63 : decode cX11_burns 63 = .ok (.goto 7, 3) := by decide +kernel
theorem dX11_burns_66 : decode cX11_burns 66 = .ok (.iload_n 3, 1) := by decide +kernel
theorem dX11_burns_67 : decode cX11_burns 67 = .ok (.invokestatic 256, 3) := by decide +kernel
theorem dX11_burns_70 : decode cX11_burns 70 = .ok (.ireturn, 1) := by decide +kernel
theorem dX11_burns_71 : decode cX11_burns 71 = .ok (.iinc 2 1, 3) := by decide +kernel
theorem dX11_burns_74 : decode cX11_burns 74 = .ok (.goto (-47), 3) := by decide +kernel
theorem dX11_burns_77 : decode cX11_burns 77 = .ok (.bipush (-2), 2) := by decide +kernel
theorem dX11_burns_79 : decode cX11_burns 79 = .ok (.ireturn, 1) := by decide +kernel
theorem vc_X11_256 : XSw RX11 256 1 2 yX11_leastOf cX11_leastOf (some .int) := ⟨⟨by decide, by decide⟩, by decide +kernel, wt_762, wt_763, wt_1, wt_764⟩
noncomputable def bs_X11_burns : List (Nat × XB) := [
  (0, (sq (xLA 0) (sq (xGD 10 5 1) (sq (xGI 1 0) (tIf1 (fun x => decide (x = 0)) 19 [false, false, false, false] 10 [true, true, false, false]))))),
  (10, (sq (xLI 1) (sq (xC (.int 0)) (sq (xC (.int 1)) (sq (xCI 99 3 F_X11_within) (tIf1 (fun x => decide (¬ x = 0)) 21 [true, true, false, false] 19 [false, false, false, false])))))),
  (19, (sq (xC (.int (-1))) tRI)),
  (21, (sq (xLA 0) (sq (xCV 10 1 F_X11_startFromNow) (sq (xC (.int 0)) (sq (xSI 2) (tGo 27 [true, true, true, false])))))),
  (27, (sq (xLI 2) (sq (xC (.int 200)) (tIf2 (fun x y => decide (y ≤ x)) 77 [false, false, false, false] 34 [true, true, true, false])))),
  (34, (sq (xLA 0) (sq (xGS 10 3 1 0) (sq (xLA 0) (sq (xGS 10 8 1 1) (sq (xCI 3 2 F_X4_pass) (sq (xSI 3) (sq (xLI 3) (tIf1 (fun x => decide (x = 0)) 71 [true, true, true, false] 50 [true, true, true, true]))))))))),
  (50, (sq (xLI 1) (tIf1 (fun x => decide (¬ x = 0)) 66 [false, false, false, true] 54 [true, false, true, false]))),
  (54, (sq (xLA 0) (sq (xGS 10 8 1 0) (sq (xGI 8 1) (sq (xLI 2) (sq (xI2 (· + ·)) (tGo 70 [false, false, false, false]))))))),
  (66, (sq (xLI 3) (sq (xCI 99 1 F_X11_leastOf) (tGo 70 [false, false, false, false])))),
  (70, tRI),
  (71, (sq (xInc 2 1) (tGo 27 [true, true, true, false]))),
  (77, (sq (xC (.int (-2))) tRI))]
set_option maxRecDepth 100000 in
set_option maxHeartbeats 4000000 in
theorem s_X11_burns : ∀ X : XCtx, XE X → X.2.2.1.1 = cX11_burns → X.2.2.1.2.1 = 4 → X.2.2.1.2.2.1 = yX11_burns.cls → X.2.2.1.2.2.2.1 = (some .int) → X.1.2.2.2.1 = { frames := 5, cells := 0, slots := 0, locals := 123 } → SndBs X bs_X11_burns := by
  rintro ⟨⟨p, l, e, R, s⟩, Y, ⟨cc, nL, own, ret, Ts⟩, Z⟩ hE h1 h2 h3 h4 h5
  dsimp only at h1 h2 h3 h4 h5
  subst h1 h2 h3 h4 h5
  exact ⟨(n_sq (n_aload_n hE dX11_burns_0) (n_sq (n_getD hE xk_10 (k := 5) rfl (by decide) rfl wt_321 dX11_burns_1) (n_sq (n_getI hE xk_1 (k := 0) rfl (by decide) rfl wt_96 dX11_burns_4) (n_ifeq hE (by decide) dX11_burns_7)))),
    (n_sq (n_iload_n hE dX11_burns_10) (n_sq (n_iconst hE (by decide) dX11_burns_11) (n_sq (n_iconst hE (by decide) dX11_burns_12) (n_sq (n_cIs hE m_X11_within vc_X11_170 (show 0 + 1 ≤ 5 ∧ 8 + (3 + 11) + 0 ≤ 123 by decide) dX11_burns_13) (n_ifne hE (by decide) dX11_burns_16))))),
    (n_sq (n_iconst hE (by decide) dX11_burns_19) (n_ireturn hE rfl dX11_burns_20)),
    (n_sq (n_aload_n hE dX11_burns_21) (n_sq (n_cVv hE m_X11_startFromNow vc_X11_250 (show 2 + 1 ≤ 5 ∧ 8 + (1 + 11) + 43 ≤ 123 by decide) dX11_burns_22) (n_sq (n_iconst hE (by decide) dX11_burns_25) (n_sq (n_istore_n hE (show (2 : Nat) < 4 by decide) dX11_burns_26) n_fall)))),
    (n_sq (n_iload_n hE dX11_burns_27) (n_sq (n_sipush hE (by decide) dX11_burns_28) (n_ifcge hE (by decide) dX11_burns_31))),
    (n_sq (n_aload_n hE dX11_burns_34) (n_sq (n_getS hE xk_10 (k := 8) rfl (by decide) rfl wt_324 dX11_burns_35) (n_sq (n_aload_n hE dX11_burns_38) (n_sq (n_getS hE xk_10 (k := 7) rfl (by decide) rfl wt_323 dX11_burns_39) (n_sq (n_cIv hE m_X4_pass vc_X11_242 (show 4 + 1 ≤ 5 ∧ 8 + (4 + 11) + 100 ≤ 123 by decide) dX11_burns_42) (n_sq (n_istore_n hE (show (3 : Nat) < 4 by decide) dX11_burns_45) (n_sq (n_iload_n hE dX11_burns_46) (n_ifeq hE (by decide) dX11_burns_47)))))))),
    (n_sq (n_iload_n hE dX11_burns_50) (n_ifne hE (by decide) dX11_burns_51)),
    (n_sq (n_aload_n hE dX11_burns_54) (n_sq (n_getS hE xk_10 (k := 6) rfl (by decide) rfl wt_322 dX11_burns_55) (n_sq (n_getI hE xk_8 (k := 1) rfl (by decide) rfl wt_178 dX11_burns_58) (n_sq (n_iload_n hE dX11_burns_61) (n_sq (n_iadd hE dX11_burns_62) (n_goto hE (by decide) dX11_burns_63)))))),
    (n_sq (n_iload_n hE dX11_burns_66) (n_sq (n_cIs hE m_X11_leastOf vc_X11_256 (show 0 + 1 ≤ 5 ∧ 8 + (2 + 11) + 0 ≤ 123 by decide) dX11_burns_67) n_fall)),
    (n_ireturn hE rfl dX11_burns_70),
    (n_sq (n_iinc hE (by decide) (show (2 : Nat) < 4 by decide) dX11_burns_71) (n_goto hE (by decide) dX11_burns_74)),
    (n_sq (n_bipush hE (by decide) dX11_burns_77) (n_ireturn hE rfl dX11_burns_79)), trivial⟩
noncomputable def F_X11_burns (as : List XV) (w : XW) : Option (Int32 × XW) := (xF 4 bs_X11_burns as w).bind pI
theorem m_X11_burns : XM yX11_burns cX11_burns 4 (some .int) 5 123 (eI F_X11_burns) := xm_I (xm_of (by decide) s_X11_burns)
noncomputable def q_X11_burns_0 (x1 : Int32) (w : XW) : Option XR := ev bs_X11_burns 0 ([some (.inr (10, 0)), some (.inl (.int x1)), none, none], [], w)
noncomputable def q_X11_burns_10 (x1 : Int32) (w : XW) : Option XR := ev bs_X11_burns 10 ([some (.inr (10, 0)), some (.inl (.int x1)), none, none], [], w)
noncomputable def q_X11_burns_19 (w : XW) : Option XR := ev bs_X11_burns 19 ([none, none, none, none], [], w)
noncomputable def q_X11_burns_21 (x1 : Int32) (w : XW) : Option XR := ev bs_X11_burns 21 ([some (.inr (10, 0)), some (.inl (.int x1)), none, none], [], w)
noncomputable def q_X11_burns_27 (x1 : Int32) (x2 : Int32) (w : XW) : Option XR := ev bs_X11_burns 27 ([some (.inr (10, 0)), some (.inl (.int x1)), some (.inl (.int x2)), none], [], w)
noncomputable def q_X11_burns_34 (x1 : Int32) (x2 : Int32) (w : XW) : Option XR := ev bs_X11_burns 34 ([some (.inr (10, 0)), some (.inl (.int x1)), some (.inl (.int x2)), none], [], w)
noncomputable def q_X11_burns_50 (x1 : Int32) (x2 : Int32) (x3 : Int32) (w : XW) : Option XR := ev bs_X11_burns 50 ([some (.inr (10, 0)), some (.inl (.int x1)), some (.inl (.int x2)), some (.inl (.int x3))], [], w)
noncomputable def q_X11_burns_54 (x2 : Int32) (w : XW) : Option XR := ev bs_X11_burns 54 ([some (.inr (10, 0)), none, some (.inl (.int x2)), none], [], w)
noncomputable def q_X11_burns_66 (x3 : Int32) (w : XW) : Option XR := ev bs_X11_burns 66 ([none, none, none, some (.inl (.int x3))], [], w)
noncomputable def q_X11_burns_70 (s0 : Int32) (w : XW) : Option XR := ev bs_X11_burns 70 ([none, none, none, none], [.inl (.int s0)], w)
noncomputable def q_X11_burns_71 (x1 : Int32) (x2 : Int32) (w : XW) : Option XR := ev bs_X11_burns 71 ([some (.inr (10, 0)), some (.inl (.int x1)), some (.inl (.int x2)), none], [], w)
noncomputable def q_X11_burns_77 (w : XW) : Option XR := ev bs_X11_burns 77 ([none, none, none, none], [], w)
theorem e_X11_burns_0 (x1 : Int32) (w : XW) : q_X11_burns_0 x1 w = ((gR w 10 0 5).bind fun j0 => (bif decide ((gI w 1 j0 0) = 0) then (q_X11_burns_19 w) else (q_X11_burns_10 x1 w))) := (ev_eq _ _ _).trans rfl
theorem e_X11_burns_10 (x1 : Int32) (w : XW) : q_X11_burns_10 x1 w = ((F_X11_within [.inl (.int x1), .inl (.int 0), .inl (.int 1)] w).bind fun r0 => (bif decide (¬ r0.1 = 0) then (q_X11_burns_21 x1 r0.2) else (q_X11_burns_19 r0.2))) := (ev_eq _ _ _).trans rfl
theorem e_X11_burns_19 (w : XW) : q_X11_burns_19 w = (some (some (.inl (.int (-1))), w)) := (ev_eq _ _ _).trans rfl
theorem e_X11_burns_21 (x1 : Int32) (w : XW) : q_X11_burns_21 x1 w = ((F_X11_startFromNow [.inr (10, 0)] w).bind fun r0 => (q_X11_burns_27 x1 0 r0)) := (ev_eq _ _ _).trans rfl
theorem e_X11_burns_27 (x1 : Int32) (x2 : Int32) (w : XW) : q_X11_burns_27 x1 x2 w = (bif decide (200 ≤ x2) then (q_X11_burns_77 w) else (q_X11_burns_34 x1 x2 w)) := (ev_eq _ _ _).trans rfl
theorem e_X11_burns_34 (x1 : Int32) (x2 : Int32) (w : XW) : q_X11_burns_34 x1 x2 w = ((F_X4_pass [.inr (3, 0), .inr (8, 1)] w).bind fun r0 => (bif decide (r0.1 = 0) then (q_X11_burns_71 x1 x2 r0.2) else (q_X11_burns_50 x1 x2 r0.1 r0.2))) := (ev_eq _ _ _).trans rfl
theorem e_X11_burns_50 (x1 : Int32) (x2 : Int32) (x3 : Int32) (w : XW) : q_X11_burns_50 x1 x2 x3 w = (bif decide (¬ x1 = 0) then (q_X11_burns_66 x3 w) else (q_X11_burns_54 x2 w)) := (ev_eq _ _ _).trans rfl
theorem e_X11_burns_54 (x2 : Int32) (w : XW) : q_X11_burns_54 x2 w = (q_X11_burns_70 ((gI w 8 0 1) + x2) w) := (ev_eq _ _ _).trans rfl
theorem e_X11_burns_66 (x3 : Int32) (w : XW) : q_X11_burns_66 x3 w = ((F_X11_leastOf [.inl (.int x3)] w).bind fun r0 => (q_X11_burns_70 r0.1 r0.2)) := (ev_eq _ _ _).trans rfl
theorem e_X11_burns_70 (s0 : Int32) (w : XW) : q_X11_burns_70 s0 w = (some (some (.inl (.int s0)), w)) := (ev_eq _ _ _).trans rfl
theorem e_X11_burns_71 (x1 : Int32) (x2 : Int32) (w : XW) : q_X11_burns_71 x1 x2 w = (q_X11_burns_27 x1 (x2 + 1) w) := (ev_eq _ _ _).trans rfl
theorem e_X11_burns_77 (w : XW) : q_X11_burns_77 w = (some (some (.inl (.int (-2))), w)) := (ev_eq _ _ _).trans rfl
theorem f_X11_burns (x1 : Int32) (w : XW) : F_X11_burns [.inr (10, 0), .inl (.int x1)] w = (q_X11_burns_0 x1 w).bind pI := rfl

-- WinterKeep.full(I)I
theorem dX11_full_0 : decode cX11_full 0 = .ok (.aload_n 0, 1) := by decide +kernel
theorem dX11_full_1 : decode cX11_full 1 = .ok (.iload_n 1, 1) := by decide +kernel
theorem dX11_full_2 : decode cX11_full 2 = .ok (.invokevirtual 145, 3) := by decide +kernel
theorem dX11_full_5 : decode cX11_full 5 = .ok (.ifCond .ne 5, 3) := by decide +kernel
theorem dX11_full_8 : decode cX11_full 8 = .ok (.iconst (-1), 1) := by decide +kernel
theorem dX11_full_9 : decode cX11_full 9 = .ok (.ireturn, 1) := by decide +kernel
theorem dX11_full_10 : decode cX11_full 10 = .ok (.aload_n 0, 1) := by decide +kernel
theorem dX11_full_11 : decode cX11_full 11 = .ok (.invokevirtual 250, 3) := by decide +kernel
theorem dX11_full_14 : decode cX11_full 14 = .ok (.iconst 0, 1) := by decide +kernel
theorem dX11_full_15 : decode cX11_full 15 = .ok (.istore_n 2, 1) := by decide +kernel
theorem dX11_full_16 : decode cX11_full 16 = .ok (.iload_n 2, 1) := by decide +kernel
theorem dX11_full_17 : decode cX11_full 17 = .ok (.sipush 200, 3) := by decide +kernel
theorem dX11_full_20 : decode cX11_full 20 = .ok (.if_icmp .ge 52, 3) := by decide +kernel
theorem dX11_full_23 : decode cX11_full 23 = .ok (.aload_n 0, 1) := by decide +kernel
theorem dX11_full_24 : decode cX11_full 24 = .ok (.getfield 56, 3) := by decide +kernel
theorem dX11_full_27 : decode cX11_full 27 = .ok (.aload_n 0, 1) := by decide +kernel
theorem dX11_full_28 : decode cX11_full 28 = .ok (.getfield 50, 3) := by decide +kernel
theorem dX11_full_31 : decode cX11_full 31 = .ok (.invokevirtual 242, 3) := by decide +kernel
theorem dX11_full_34 : decode cX11_full 34 = .ok (.pop, 1) := by decide +kernel
theorem dX11_full_35 : decode cX11_full 35 = .ok (.aload_n 0, 1) := by decide +kernel
theorem dX11_full_36 : decode cX11_full 36 = .ok (.getfield 50, 3) := by decide +kernel
theorem dX11_full_39 : decode cX11_full 39 = .ok (.getfield 155, 3) := by decide +kernel
theorem dX11_full_42 : decode cX11_full 42 = .ok (.iload_n 1, 1) := by decide +kernel
theorem dX11_full_43 : decode cX11_full 43 = .ok (.iaload, 1) := by decide +kernel
theorem dX11_full_44 : decode cX11_full 44 = .ok (.aload_n 0, 1) := by decide +kernel
theorem dX11_full_45 : decode cX11_full 45 = .ok (.getfield 39, 3) := by decide +kernel
theorem dX11_full_48 : decode cX11_full 48 = .ok (.getfield 149, 3) := by decide +kernel
theorem dX11_full_51 : decode cX11_full 51 = .ok (.iload_n 1, 1) := by decide +kernel
theorem dX11_full_52 : decode cX11_full 52 = .ok (.iaload, 1) := by decide +kernel
theorem dX11_full_53 : decode cX11_full 53 = .ok (.if_icmp .ne 13, 3) := by decide +kernel
theorem dX11_full_56 : decode cX11_full 56 = .ok (.aload_n 0, 1) := by decide +kernel
theorem dX11_full_57 : decode cX11_full 57 = .ok (.getfield 46, 3) := by decide +kernel
theorem dX11_full_60 : decode cX11_full 60 = .ok (.getfield 206, 3) := by decide +kernel
theorem dX11_full_63 : decode cX11_full 63 = .ok (.iload_n 2, 1) := by decide +kernel
theorem dX11_full_64 : decode cX11_full 64 = .ok (.iadd, 1) := by decide +kernel
theorem dX11_full_65 : decode cX11_full 65 = .ok (.ireturn, 1) := by decide +kernel
theorem dX11_full_66 : decode cX11_full 66 = .ok (.iinc 2 1, 3) := by decide +kernel
theorem dX11_full_69 : decode cX11_full 69 = .ok (.goto (-53), 3) := by decide +kernel
theorem dX11_full_72 : decode cX11_full 72 = .ok (.bipush (-2), 2) := by decide +kernel
theorem dX11_full_74 : decode cX11_full 74 = .ok (.ireturn, 1) := by decide +kernel
noncomputable def bs_X11_full : List (Nat × XB) := [
  (0, (sq (xLA 0) (sq (xLI 1) (sq (xCI 10 2 F_X11_isKeep) (tIf1 (fun x => decide (¬ x = 0)) 10 [true, true, false] 8 [false, false, false]))))),
  (8, (sq (xC (.int (-1))) tRI)),
  (10, (sq (xLA 0) (sq (xCV 10 1 F_X11_startFromNow) (sq (xC (.int 0)) (sq (xSI 2) (tGo 16 [true, true, true])))))),
  (16, (sq (xLI 2) (sq (xC (.int 200)) (tIf2 (fun x y => decide (y ≤ x)) 72 [false, false, false] 23 [true, true, true])))),
  (23, (sq (xLA 0) (sq (xGS 10 3 1 0) (sq (xLA 0) (sq (xGS 10 8 1 1) (sq (xCI 3 2 F_X4_pass) (sq (xPop) (sq (xLA 0) (sq (xGS 10 8 1 1) (sq (xGS 8 30 0 0) (sq (xLI 1) (sq (xAI 30 6) (sq (xLA 0) (sq (xGD 10 5 1) (sq (xGS 1 13 0 0) (sq (xLI 1) (sq (xAI 13 6) (tIf2 (fun x y => decide (¬ x = y)) 66 [true, true, true] 56 [true, false, true])))))))))))))))))),
  (56, (sq (xLA 0) (sq (xGS 10 8 1 0) (sq (xGI 8 1) (sq (xLI 2) (sq (xI2 (· + ·)) tRI)))))),
  (66, (sq (xInc 2 1) (tGo 16 [true, true, true]))),
  (72, (sq (xC (.int (-2))) tRI))]
set_option maxRecDepth 100000 in
set_option maxHeartbeats 4000000 in
theorem s_X11_full : ∀ X : XCtx, XE X → X.2.2.1.1 = cX11_full → X.2.2.1.2.1 = 3 → X.2.2.1.2.2.1 = yX11_full.cls → X.2.2.1.2.2.2.1 = (some .int) → X.1.2.2.2.1 = { frames := 5, cells := 0, slots := 0, locals := 123 } → SndBs X bs_X11_full := by
  rintro ⟨⟨p, l, e, R, s⟩, Y, ⟨cc, nL, own, ret, Ts⟩, Z⟩ hE h1 h2 h3 h4 h5
  dsimp only at h1 h2 h3 h4 h5
  subst h1 h2 h3 h4 h5
  exact ⟨(n_sq (n_aload_n hE dX11_full_0) (n_sq (n_iload_n hE dX11_full_1) (n_sq (n_cIv hE m_X11_isKeep vc_X11_145 (show 1 + 1 ≤ 5 ∧ 8 + (2 + 11) + 22 ≤ 123 by decide) dX11_full_2) (n_ifne hE (by decide) dX11_full_5)))),
    (n_sq (n_iconst hE (by decide) dX11_full_8) (n_ireturn hE rfl dX11_full_9)),
    (n_sq (n_aload_n hE dX11_full_10) (n_sq (n_cVv hE m_X11_startFromNow vc_X11_250 (show 2 + 1 ≤ 5 ∧ 8 + (1 + 11) + 43 ≤ 123 by decide) dX11_full_11) (n_sq (n_iconst hE (by decide) dX11_full_14) (n_sq (n_istore_n hE (show (2 : Nat) < 3 by decide) dX11_full_15) n_fall)))),
    (n_sq (n_iload_n hE dX11_full_16) (n_sq (n_sipush hE (by decide) dX11_full_17) (n_ifcge hE (by decide) dX11_full_20))),
    (n_sq (n_aload_n hE dX11_full_23) (n_sq (n_getS hE xk_10 (k := 8) rfl (by decide) rfl wt_324 dX11_full_24) (n_sq (n_aload_n hE dX11_full_27) (n_sq (n_getS hE xk_10 (k := 7) rfl (by decide) rfl wt_323 dX11_full_28) (n_sq (n_cIv hE m_X4_pass vc_X11_242 (show 4 + 1 ≤ 5 ∧ 8 + (4 + 11) + 100 ≤ 123 by decide) dX11_full_31) (n_sq (n_pop hE dX11_full_34) (n_sq (n_aload_n hE dX11_full_35) (n_sq (n_getS hE xk_10 (k := 7) rfl (by decide) rfl wt_323 dX11_full_36) (n_sq (n_getS hE xk_8 (k := 2) rfl (by decide) rfl wt_183 dX11_full_39) (n_sq (n_iload_n hE dX11_full_42) (n_sq (n_iald hE rfl (by decide) dX11_full_43) (n_sq (n_aload_n hE dX11_full_44) (n_sq (n_getD hE xk_10 (k := 5) rfl (by decide) rfl wt_321 dX11_full_45) (n_sq (n_getS hE xk_1 (k := 6) rfl (by decide) rfl wt_122 dX11_full_48) (n_sq (n_iload_n hE dX11_full_51) (n_sq (n_iald hE rfl (by decide) dX11_full_52) (n_ifcne hE (by decide) dX11_full_53))))))))))))))))),
    (n_sq (n_aload_n hE dX11_full_56) (n_sq (n_getS hE xk_10 (k := 6) rfl (by decide) rfl wt_322 dX11_full_57) (n_sq (n_getI hE xk_8 (k := 1) rfl (by decide) rfl wt_178 dX11_full_60) (n_sq (n_iload_n hE dX11_full_63) (n_sq (n_iadd hE dX11_full_64) (n_ireturn hE rfl dX11_full_65)))))),
    (n_sq (n_iinc hE (by decide) (show (2 : Nat) < 3 by decide) dX11_full_66) (n_goto hE (by decide) dX11_full_69)),
    (n_sq (n_bipush hE (by decide) dX11_full_72) (n_ireturn hE rfl dX11_full_74)), trivial⟩
noncomputable def F_X11_full (as : List XV) (w : XW) : Option (Int32 × XW) := (xF 3 bs_X11_full as w).bind pI
theorem m_X11_full : XM yX11_full cX11_full 3 (some .int) 5 123 (eI F_X11_full) := xm_I (xm_of (by decide) s_X11_full)
noncomputable def q_X11_full_0 (x1 : Int32) (w : XW) : Option XR := ev bs_X11_full 0 ([some (.inr (10, 0)), some (.inl (.int x1)), none], [], w)
noncomputable def q_X11_full_8 (w : XW) : Option XR := ev bs_X11_full 8 ([none, none, none], [], w)
noncomputable def q_X11_full_10 (x1 : Int32) (w : XW) : Option XR := ev bs_X11_full 10 ([some (.inr (10, 0)), some (.inl (.int x1)), none], [], w)
noncomputable def q_X11_full_16 (x1 : Int32) (x2 : Int32) (w : XW) : Option XR := ev bs_X11_full 16 ([some (.inr (10, 0)), some (.inl (.int x1)), some (.inl (.int x2))], [], w)
noncomputable def q_X11_full_23 (x1 : Int32) (x2 : Int32) (w : XW) : Option XR := ev bs_X11_full 23 ([some (.inr (10, 0)), some (.inl (.int x1)), some (.inl (.int x2))], [], w)
noncomputable def q_X11_full_56 (x2 : Int32) (w : XW) : Option XR := ev bs_X11_full 56 ([some (.inr (10, 0)), none, some (.inl (.int x2))], [], w)
noncomputable def q_X11_full_66 (x1 : Int32) (x2 : Int32) (w : XW) : Option XR := ev bs_X11_full 66 ([some (.inr (10, 0)), some (.inl (.int x1)), some (.inl (.int x2))], [], w)
noncomputable def q_X11_full_72 (w : XW) : Option XR := ev bs_X11_full 72 ([none, none, none], [], w)
theorem e_X11_full_0 (x1 : Int32) (w : XW) : q_X11_full_0 x1 w = ((F_X11_isKeep [.inr (10, 0), .inl (.int x1)] w).bind fun r0 => (bif decide (¬ r0.1 = 0) then (q_X11_full_10 x1 r0.2) else (q_X11_full_8 r0.2))) := (ev_eq _ _ _).trans rfl
theorem e_X11_full_8 (w : XW) : q_X11_full_8 w = (some (some (.inl (.int (-1))), w)) := (ev_eq _ _ _).trans rfl
theorem e_X11_full_10 (x1 : Int32) (w : XW) : q_X11_full_10 x1 w = ((F_X11_startFromNow [.inr (10, 0)] w).bind fun r0 => (q_X11_full_16 x1 0 r0)) := (ev_eq _ _ _).trans rfl
theorem e_X11_full_16 (x1 : Int32) (x2 : Int32) (w : XW) : q_X11_full_16 x1 x2 w = (bif decide (200 ≤ x2) then (q_X11_full_72 w) else (q_X11_full_23 x1 x2 w)) := (ev_eq _ _ _).trans rfl
theorem e_X11_full_23 (x1 : Int32) (x2 : Int32) (w : XW) : q_X11_full_23 x1 x2 w = ((F_X4_pass [.inr (3, 0), .inr (8, 1)] w).bind fun r0 => (if x1 < 0 ∨ 6 ≤ x1.toNatClampNeg then none else ((gR r0.2 10 0 5).bind fun j1 => (if x1 < 0 ∨ 6 ≤ x1.toNatClampNeg then none else (bif decide (¬ (gI r0.2 30 1 x1.toNatClampNeg) = (gI r0.2 13 j1 x1.toNatClampNeg)) then (q_X11_full_66 x1 x2 r0.2) else (q_X11_full_56 x2 r0.2)))))) := (ev_eq _ _ _).trans rfl
theorem e_X11_full_56 (x2 : Int32) (w : XW) : q_X11_full_56 x2 w = (some (some (.inl (.int ((gI w 8 0 1) + x2))), w)) := (ev_eq _ _ _).trans rfl
theorem e_X11_full_66 (x1 : Int32) (x2 : Int32) (w : XW) : q_X11_full_66 x1 x2 w = (q_X11_full_16 x1 (x2 + 1) w) := (ev_eq _ _ _).trans rfl
theorem e_X11_full_72 (w : XW) : q_X11_full_72 w = (some (some (.inl (.int (-2))), w)) := (ev_eq _ _ _).trans rfl
theorem f_X11_full (x1 : Int32) (w : XW) : F_X11_full [.inr (10, 0), .inl (.int x1)] w = (q_X11_full_0 x1 w).bind pI := rfl

-- WinterKeep$Placings.takenIn(LWinterKeep$Dale;LWinterKeep$Scene;)I
theorem dX6_takenIn_0 : decode cX6_takenIn 0 = .ok (.iconst 0, 1) := by decide +kernel
theorem dX6_takenIn_1 : decode cX6_takenIn 1 = .ok (.istore_n 2, 1) := by decide +kernel
theorem dX6_takenIn_2 : decode cX6_takenIn 2 = .ok (.iconst 0, 1) := by decide +kernel
theorem dX6_takenIn_3 : decode cX6_takenIn 3 = .ok (.istore_n 3, 1) := by decide +kernel
theorem dX6_takenIn_4 : decode cX6_takenIn 4 = .ok (.iload_n 3, 1) := by decide +kernel
theorem dX6_takenIn_5 : decode cX6_takenIn 5 = .ok (.aload_n 0, 1) := by decide +kernel
theorem dX6_takenIn_6 : decode cX6_takenIn 6 = .ok (.getfield 32, 3) := by decide +kernel
theorem dX6_takenIn_9 : decode cX6_takenIn 9 = .ok (.if_icmp .ge 24, 3) := by decide +kernel
theorem dX6_takenIn_12 : decode cX6_takenIn 12 = .ok (.aload_n 1, 1) := by decide +kernel
theorem dX6_takenIn_13 : decode cX6_takenIn 13 = .ok (.iload_n 3, 1) := by decide +kernel
theorem dX6_takenIn_14 : decode cX6_takenIn 14 = .ok (.invokevirtual 35, 3) := by decide +kernel
theorem dX6_takenIn_17 : decode cX6_takenIn 17 = .ok (.iconst (-1), 1) := by decide +kernel
theorem dX6_takenIn_18 : decode cX6_takenIn 18 = .ok (.if_icmp .eq 9, 3) := by decide +kernel
theorem dX6_takenIn_21 : decode cX6_takenIn 21 = .ok (.iload_n 2, 1) := by decide +kernel
theorem dX6_takenIn_22 : decode cX6_takenIn 22 = .ok (.iconst 1, 1) := by decide +kernel
theorem dX6_takenIn_23 : decode cX6_takenIn 23 = .ok (.iload_n 3, 1) := by decide +kernel
theorem dX6_takenIn_24 : decode cX6_takenIn 24 = .ok (.ishl, 1) := by decide +kernel
theorem dX6_takenIn_25 : decode cX6_takenIn 25 = .ok (.ior, 1) := by decide +kernel
theorem dX6_takenIn_26 : decode cX6_takenIn 26 = .ok (.istore_n 2, 1) := by decide +kernel
theorem dX6_takenIn_27 : decode cX6_takenIn 27 = .ok (.iinc 3 1, 3) := by decide +kernel
theorem dX6_takenIn_30 : decode cX6_takenIn 30 = .ok (.goto (-26), 3) := by decide +kernel
theorem dX6_takenIn_33 : decode cX6_takenIn 33 = .ok (.iload_n 2, 1) := by decide +kernel
theorem dX6_takenIn_34 : decode cX6_takenIn 34 = .ok (.ireturn, 1) := by decide +kernel
theorem vc_X6_35 : XVw RX6 35 1 8 3 yX9_keepIn cX9_keepIn (some .int) := ⟨RX9, TX9, tyX9, 6, xk_8, rfl, ⟨by decide, by decide⟩, by decide +kernel, wt_780, wt_631, wt_632, wt_5, wt_633⟩
noncomputable def bs_X6_takenIn : List (Nat × XB) := [
  (0, (sq (xC (.int 0)) (sq (xSI 2) (sq (xC (.int 0)) (sq (xSI 3) (tGo 4 [true, true, true, true])))))),
  (4, (sq (xLI 3) (sq (xLA 0) (sq (xGI 1 5) (tIf2 (fun x y => decide (y ≤ x)) 33 [false, false, true, false] 12 [true, true, true, true]))))),
  (12, (sq (xLA 1) (sq (xLI 3) (sq (xCI 8 2 F_X9_keepIn) (sq (xC (.int (-1))) (tIf2 (fun x y => decide (x = y)) 27 [true, true, true, true] 21 [true, true, true, true])))))),
  (21, (sq (xLI 2) (sq (xC (.int 1)) (sq (xLI 3) (sq (xI2 (fun x y => x <<< (y &&& 31))) (sq (xI2 (· ||| ·)) (sq (xSI 2) (tGo 27 [true, true, true, true])))))))),
  (27, (sq (xInc 3 1) (tGo 4 [true, true, true, true]))),
  (33, (sq (xLI 2) tRI))]
set_option maxRecDepth 100000 in
set_option maxHeartbeats 4000000 in
theorem s_X6_takenIn : ∀ X : XCtx, XE X → X.2.2.1.1 = cX6_takenIn → X.2.2.1.2.1 = 4 → X.2.2.1.2.2.1 = yX6_takenIn.cls → X.2.2.1.2.2.2.1 = (some .int) → X.1.2.2.2.1 = { frames := 1, cells := 0, slots := 0, locals := 22 } → SndBs X bs_X6_takenIn := by
  rintro ⟨⟨p, l, e, R, s⟩, Y, ⟨cc, nL, own, ret, Ts⟩, Z⟩ hE h1 h2 h3 h4 h5
  dsimp only at h1 h2 h3 h4 h5
  subst h1 h2 h3 h4 h5
  exact ⟨(n_sq (n_iconst hE (by decide) dX6_takenIn_0) (n_sq (n_istore_n hE (show (2 : Nat) < 4 by decide) dX6_takenIn_1) (n_sq (n_iconst hE (by decide) dX6_takenIn_2) (n_sq (n_istore_n hE (show (3 : Nat) < 4 by decide) dX6_takenIn_3) n_fall)))),
    (n_sq (n_iload_n hE dX6_takenIn_4) (n_sq (n_aload_n hE dX6_takenIn_5) (n_sq (n_getI hE xk_1 (k := 5) rfl (by decide) rfl wt_116 dX6_takenIn_6) (n_ifcge hE (by decide) dX6_takenIn_9)))),
    (n_sq (n_aload_n hE dX6_takenIn_12) (n_sq (n_iload_n hE dX6_takenIn_13) (n_sq (n_cIv hE m_X9_keepIn vc_X6_35 (show 0 + 1 ≤ 1 ∧ 8 + (3 + 11) + 0 ≤ 22 by decide) dX6_takenIn_14) (n_sq (n_iconst hE (by decide) dX6_takenIn_17) (n_ifceq hE (by decide) dX6_takenIn_18))))),
    (n_sq (n_iload_n hE dX6_takenIn_21) (n_sq (n_iconst hE (by decide) dX6_takenIn_22) (n_sq (n_iload_n hE dX6_takenIn_23) (n_sq (n_ishl hE dX6_takenIn_24) (n_sq (n_ior hE dX6_takenIn_25) (n_sq (n_istore_n hE (show (2 : Nat) < 4 by decide) dX6_takenIn_26) n_fall)))))),
    (n_sq (n_iinc hE (by decide) (show (3 : Nat) < 4 by decide) dX6_takenIn_27) (n_goto hE (by decide) dX6_takenIn_30)),
    (n_sq (n_iload_n hE dX6_takenIn_33) (n_ireturn hE rfl dX6_takenIn_34)), trivial⟩
noncomputable def F_X6_takenIn (as : List XV) (w : XW) : Option (Int32 × XW) := (xF 4 bs_X6_takenIn as w).bind pI
theorem m_X6_takenIn : XM yX6_takenIn cX6_takenIn 4 (some .int) 1 22 (eI F_X6_takenIn) := xm_I (xm_of (by decide) s_X6_takenIn)
noncomputable def q_X6_takenIn_0 (i0 : Nat) (i1 : Nat) (w : XW) : Option XR := ev bs_X6_takenIn 0 ([some (.inr (1, i0)), some (.inr (8, i1)), none, none], [], w)
noncomputable def q_X6_takenIn_4 (i0 : Nat) (i1 : Nat) (x2 : Int32) (x3 : Int32) (w : XW) : Option XR := ev bs_X6_takenIn 4 ([some (.inr (1, i0)), some (.inr (8, i1)), some (.inl (.int x2)), some (.inl (.int x3))], [], w)
noncomputable def q_X6_takenIn_12 (i0 : Nat) (i1 : Nat) (x2 : Int32) (x3 : Int32) (w : XW) : Option XR := ev bs_X6_takenIn 12 ([some (.inr (1, i0)), some (.inr (8, i1)), some (.inl (.int x2)), some (.inl (.int x3))], [], w)
noncomputable def q_X6_takenIn_21 (i0 : Nat) (i1 : Nat) (x2 : Int32) (x3 : Int32) (w : XW) : Option XR := ev bs_X6_takenIn 21 ([some (.inr (1, i0)), some (.inr (8, i1)), some (.inl (.int x2)), some (.inl (.int x3))], [], w)
noncomputable def q_X6_takenIn_27 (i0 : Nat) (i1 : Nat) (x2 : Int32) (x3 : Int32) (w : XW) : Option XR := ev bs_X6_takenIn 27 ([some (.inr (1, i0)), some (.inr (8, i1)), some (.inl (.int x2)), some (.inl (.int x3))], [], w)
noncomputable def q_X6_takenIn_33 (x2 : Int32) (w : XW) : Option XR := ev bs_X6_takenIn 33 ([none, none, some (.inl (.int x2)), none], [], w)
theorem e_X6_takenIn_0 (i0 : Nat) (i1 : Nat) (w : XW) : q_X6_takenIn_0 i0 i1 w = (q_X6_takenIn_4 i0 i1 0 0 w) := (ev_eq _ _ _).trans rfl
theorem e_X6_takenIn_4 (i0 : Nat) (i1 : Nat) (x2 : Int32) (x3 : Int32) (w : XW) : q_X6_takenIn_4 i0 i1 x2 x3 w = (bif decide ((gI w 1 i0 5) ≤ x3) then (q_X6_takenIn_33 x2 w) else (q_X6_takenIn_12 i0 i1 x2 x3 w)) := (ev_eq _ _ _).trans rfl
theorem e_X6_takenIn_12 (i0 : Nat) (i1 : Nat) (x2 : Int32) (x3 : Int32) (w : XW) : q_X6_takenIn_12 i0 i1 x2 x3 w = ((F_X9_keepIn [.inr (8, i1), .inl (.int x3)] w).bind fun r0 => (bif decide (r0.1 = (-1)) then (q_X6_takenIn_27 i0 i1 x2 x3 r0.2) else (q_X6_takenIn_21 i0 i1 x2 x3 r0.2))) := (ev_eq _ _ _).trans rfl
theorem e_X6_takenIn_21 (i0 : Nat) (i1 : Nat) (x2 : Int32) (x3 : Int32) (w : XW) : q_X6_takenIn_21 i0 i1 x2 x3 w = (q_X6_takenIn_27 i0 i1 (x2 ||| ((1 : Int32) <<< ((x3 : Int32) &&& 31))) x3 w) := (ev_eq _ _ _).trans rfl
theorem e_X6_takenIn_27 (i0 : Nat) (i1 : Nat) (x2 : Int32) (x3 : Int32) (w : XW) : q_X6_takenIn_27 i0 i1 x2 x3 w = (q_X6_takenIn_4 i0 i1 x2 (x3 + 1) w) := (ev_eq _ _ _).trans rfl
theorem e_X6_takenIn_33 (x2 : Int32) (w : XW) : q_X6_takenIn_33 x2 w = (some (some (.inl (.int x2)), w)) := (ev_eq _ _ _).trans rfl
theorem f_X6_takenIn (i0 : Nat) (i1 : Nat) (w : XW) : F_X6_takenIn [.inr (1, i0), .inr (8, i1)] w = (q_X6_takenIn_0 i0 i1 w).bind pI := rfl

-- WinterKeep$Placings.bestWith(LWinterKeep$Dale;LWinterKeep$Scene;III)I
theorem dX6_bestWith_0 : decode cX6_bestWith 0 = .ok (.aload_n 1, 1) := by decide +kernel
theorem dX6_bestWith_1 : decode cX6_bestWith 1 = .ok (.getfield 54, 3) := by decide +kernel
theorem dX6_bestWith_4 : decode cX6_bestWith 4 = .ok (.iload 5, 2) := by decide +kernel
theorem dX6_bestWith_6 : decode cX6_bestWith 6 = .ok (.iaload, 1) := by decide +kernel
theorem dX6_bestWith_7 : decode cX6_bestWith 7 = .ok (.aload_n 2, 1) := by decide +kernel
theorem dX6_bestWith_8 : decode cX6_bestWith 8 = .ok (.getfield 57, 3) := by decide +kernel
theorem dX6_bestWith_11 : decode cX6_bestWith 11 = .ok (.iload_n 3, 1) := by decide +kernel
theorem dX6_bestWith_12 : decode cX6_bestWith 12 = .ok (.iaload, 1) := by decide +kernel
theorem dX6_bestWith_13 : decode cX6_bestWith 13 = .ok (.invokestatic 60, 3) := by decide +kernel
theorem dX6_bestWith_16 : decode cX6_bestWith 16 = .ok (.istore 6, 2) := by decide +kernel
theorem dX6_bestWith_18 : decode cX6_bestWith 18 = .ok (.aload_n 0, 1) := by decide +kernel
theorem dX6_bestWith_19 : decode cX6_bestWith 19 = .ok (.getfield 11, 3) := by decide +kernel
theorem dX6_bestWith_22 : decode cX6_bestWith 22 = .ok (.iload_n 3, 1) := by decide +kernel
theorem dX6_bestWith_23 : decode cX6_bestWith 23 = .ok (.iconst 1, 1) := by decide +kernel
theorem dX6_bestWith_24 : decode cX6_bestWith 24 = .ok (.iadd, 1) := by decide +kernel
theorem dX6_bestWith_25 : decode cX6_bestWith 25 = .ok (.bipush 16, 2) := by decide +kernel
theorem dX6_bestWith_27 : decode cX6_bestWith 27 = .ok (.imul, 1) := by decide +kernel
theorem dX6_bestWith_28 : decode cX6_bestWith 28 = .ok (.iload 4, 2) := by decide +kernel
theorem dX6_bestWith_30 : decode cX6_bestWith 30 = .ok (.iconst 1, 1) := by decide +kernel
theorem dX6_bestWith_31 : decode cX6_bestWith 31 = .ok (.iload 5, 2) := by decide +kernel
theorem dX6_bestWith_33 : decode cX6_bestWith 33 = .ok (.ishl, 1) := by decide +kernel
theorem dX6_bestWith_34 : decode cX6_bestWith 34 = .ok (.ior, 1) := by decide +kernel
theorem dX6_bestWith_35 : decode cX6_bestWith 35 = .ok (.iadd, 1) := by decide +kernel
theorem dX6_bestWith_36 : decode cX6_bestWith 36 = .ok (.iaload, 1) := by decide +kernel
theorem dX6_bestWith_37 : decode cX6_bestWith 37 = .ok (.bipush 8, 2) := by decide +kernel
theorem dX6_bestWith_39 : decode cX6_bestWith 39 = .ok (.iload 6, 2) := by decide +kernel
theorem dX6_bestWith_41 : decode cX6_bestWith 41 = .ok (.imul, 1) := by decide +kernel
theorem dX6_bestWith_42 : decode cX6_bestWith 42 = .ok (.iadd, 1) := by decide +kernel
theorem dX6_bestWith_43 : decode cX6_bestWith 43 = .ok (.iconst 1, 1) := by decide +kernel
theorem dX6_bestWith_44 : decode cX6_bestWith 44 = .ok (.isub, 1) := by decide +kernel
theorem dX6_bestWith_45 : decode cX6_bestWith 45 = .ok (.ireturn, 1) := by decide +kernel
noncomputable def bs_X6_bestWith : List (Nat × XB) := [
  (0, (sq (xLA 1) (sq (xGS 1 18 0 0) (sq (xLI 5) (sq (xAI 18 4) (sq (xLA 2) (sq (xGS 8 30 0 0) (sq (xLI 3) (sq (xAI 30 6) (sq (xM2 (fun x y => if y < x then y else x)) (sq (xSI 6) (sq (xLA 0) (sq (xGS 5 25 0 0) (sq (xLI 3) (sq (xC (.int 1)) (sq (xI2 (· + ·)) (sq (xC (.int 16)) (sq (xI2 (· * ·)) (sq (xLI 4) (sq (xC (.int 1)) (sq (xLI 5) (sq (xI2 (fun x y => x <<< (y &&& 31))) (sq (xI2 (· ||| ·)) (sq (xI2 (· + ·)) (sq (xAI 25 112) (sq (xC (.int 8)) (sq (xLI 6) (sq (xI2 (· * ·)) (sq (xI2 (· + ·)) (sq (xC (.int 1)) (sq (xI2 (· - ·)) tRI)))))))))))))))))))))))))))))))]
set_option maxRecDepth 100000 in
set_option maxHeartbeats 4000000 in
theorem s_X6_bestWith : ∀ X : XCtx, XE X → X.2.2.1.1 = cX6_bestWith → X.2.2.1.2.1 = 7 → X.2.2.1.2.2.1 = yX6_bestWith.cls → X.2.2.1.2.2.2.1 = (some .int) → X.1.2.2.2.1 = { frames := 1, cells := 0, slots := 0, locals := 24 } → SndBs X bs_X6_bestWith := by
  rintro ⟨⟨p, l, e, R, s⟩, Y, ⟨cc, nL, own, ret, Ts⟩, Z⟩ hE h1 h2 h3 h4 h5
  dsimp only at h1 h2 h3 h4 h5
  subst h1 h2 h3 h4 h5
  exact ⟨(n_sq (n_aload_n hE dX6_bestWith_0) (n_sq (n_getS hE xk_1 (k := 11) rfl (by decide) rfl wt_139 dX6_bestWith_1) (n_sq (n_iload hE dX6_bestWith_4) (n_sq (n_iald hE rfl (by decide) dX6_bestWith_6) (n_sq (n_aload_n hE dX6_bestWith_7) (n_sq (n_getS hE xk_8 (k := 2) rfl (by decide) rfl wt_182 dX6_bestWith_8) (n_sq (n_iload_n hE dX6_bestWith_11) (n_sq (n_iald hE rfl (by decide) dX6_bestWith_12) (n_sq (n_mmin hE wt_789 wt_577 wt_19 wt_578 (show 1 ≤ 1 ∧ 24 ≤ 24 by decide) dX6_bestWith_13) (n_sq (n_istore hE (show (6 : Nat) < 7 by decide) dX6_bestWith_16) (n_sq (n_aload_n hE dX6_bestWith_18) (n_sq (n_getS hE xk_5 (k := 0) rfl (by decide) rfl wt_244 dX6_bestWith_19) (n_sq (n_iload_n hE dX6_bestWith_22) (n_sq (n_iconst hE (by decide) dX6_bestWith_23) (n_sq (n_iadd hE dX6_bestWith_24) (n_sq (n_bipush hE (by decide) dX6_bestWith_25) (n_sq (n_imul hE dX6_bestWith_27) (n_sq (n_iload hE dX6_bestWith_28) (n_sq (n_iconst hE (by decide) dX6_bestWith_30) (n_sq (n_iload hE dX6_bestWith_31) (n_sq (n_ishl hE dX6_bestWith_33) (n_sq (n_ior hE dX6_bestWith_34) (n_sq (n_iadd hE dX6_bestWith_35) (n_sq (n_iald hE rfl (by decide) dX6_bestWith_36) (n_sq (n_bipush hE (by decide) dX6_bestWith_37) (n_sq (n_iload hE dX6_bestWith_39) (n_sq (n_imul hE dX6_bestWith_41) (n_sq (n_iadd hE dX6_bestWith_42) (n_sq (n_iconst hE (by decide) dX6_bestWith_43) (n_sq (n_isub hE dX6_bestWith_44) (n_ireturn hE rfl dX6_bestWith_45))))))))))))))))))))))))))))))), trivial⟩
noncomputable def F_X6_bestWith (as : List XV) (w : XW) : Option (Int32 × XW) := (xF 7 bs_X6_bestWith as w).bind pI
theorem m_X6_bestWith : XM yX6_bestWith cX6_bestWith 7 (some .int) 1 24 (eI F_X6_bestWith) := xm_I (xm_of (by decide) s_X6_bestWith)
noncomputable def q_X6_bestWith_0 (i1 : Nat) (i2 : Nat) (x3 : Int32) (x4 : Int32) (x5 : Int32) (w : XW) : Option XR := ev bs_X6_bestWith 0 ([some (.inr (5, 0)), some (.inr (1, i1)), some (.inr (8, i2)), some (.inl (.int x3)), some (.inl (.int x4)), some (.inl (.int x5)), none], [], w)
theorem e_X6_bestWith_0 (i1 : Nat) (i2 : Nat) (x3 : Int32) (x4 : Int32) (x5 : Int32) (w : XW) : q_X6_bestWith_0 i1 i2 x3 x4 x5 w = (if x5 < 0 ∨ 4 ≤ x5.toNatClampNeg then none else (if x3 < 0 ∨ 6 ≤ x3.toNatClampNeg then none else (if (((x3 + 1) * 16) + (x4 ||| ((1 : Int32) <<< ((x5 : Int32) &&& 31)))) < 0 ∨ 112 ≤ (((x3 + 1) * 16) + (x4 ||| ((1 : Int32) <<< ((x5 : Int32) &&& 31)))).toNatClampNeg then none else (some (some (.inl (.int (((gI w 25 0 (((x3 + 1) * 16) + (x4 ||| ((1 : Int32) <<< ((x5 : Int32) &&& 31)))).toNatClampNeg) + (8 * (if (gI w 30 i2 x3.toNatClampNeg) < (gI w 18 i1 x5.toNatClampNeg) then (gI w 30 i2 x3.toNatClampNeg) else (gI w 18 i1 x5.toNatClampNeg)))) - 1))), w))))) := (ev_eq _ _ _).trans rfl
theorem f_X6_bestWith (i1 : Nat) (i2 : Nat) (x3 : Int32) (x4 : Int32) (x5 : Int32) (w : XW) : F_X6_bestWith [.inr (5, 0), .inr (1, i1), .inr (8, i2), .inl (.int x3), .inl (.int x4), .inl (.int x5)] w = (q_X6_bestWith_0 i1 i2 x3 x4 x5 w).bind pI := rfl

-- WinterKeep$Placings.bestFrom(LWinterKeep$Dale;LWinterKeep$Scene;II)I
theorem dX6_bestFrom_0 : decode cX6_bestFrom 0 = .ok (.aload_n 0, 1) := by decide +kernel
theorem dX6_bestFrom_1 : decode cX6_bestFrom 1 = .ok (.getfield 11, 3) := by decide +kernel
theorem dX6_bestFrom_4 : decode cX6_bestFrom 4 = .ok (.iload_n 3, 1) := by decide +kernel
theorem dX6_bestFrom_5 : decode cX6_bestFrom 5 = .ok (.iconst 1, 1) := by decide +kernel
theorem dX6_bestFrom_6 : decode cX6_bestFrom 6 = .ok (.iadd, 1) := by decide +kernel
theorem dX6_bestFrom_7 : decode cX6_bestFrom 7 = .ok (.bipush 16, 2) := by decide +kernel
theorem dX6_bestFrom_9 : decode cX6_bestFrom 9 = .ok (.imul, 1) := by decide +kernel
theorem dX6_bestFrom_10 : decode cX6_bestFrom 10 = .ok (.iload 4, 2) := by decide +kernel
theorem dX6_bestFrom_12 : decode cX6_bestFrom 12 = .ok (.iadd, 1) := by decide +kernel
theorem dX6_bestFrom_13 : decode cX6_bestFrom 13 = .ok (.iaload, 1) := by decide +kernel
theorem dX6_bestFrom_14 : decode cX6_bestFrom 14 = .ok (.istore 5, 2) := by decide +kernel
theorem dX6_bestFrom_16 : decode cX6_bestFrom 16 = .ok (.iconst 0, 1) := by decide +kernel
theorem dX6_bestFrom_17 : decode cX6_bestFrom 17 = .ok (.istore 6, 2) := by decide +kernel
theorem dX6_bestFrom_19 : decode cX6_bestFrom 19 = .ok (.iload 6, 2) := by decide +kernel
theorem dX6_bestFrom_21 : decode cX6_bestFrom 21 = .ok (.aload_n 1, 1) := by decide +kernel
theorem dX6_bestFrom_22 : decode cX6_bestFrom 22 = .ok (.getfield 32, 3) := by decide +kernel
theorem dX6_bestFrom_25 : decode cX6_bestFrom 25 = .ok (.if_icmp .ge 47, 3) := by decide +kernel
theorem dX6_bestFrom_28 : decode cX6_bestFrom 28 = .ok (.aload_n 2, 1) := by decide +kernel
theorem dX6_bestFrom_29 : decode cX6_bestFrom 29 = .ok (.getfield 41, 3) := by decide +kernel
theorem dX6_bestFrom_32 : decode cX6_bestFrom 32 = .ok (.iload_n 3, 1) := by decide +kernel
theorem dX6_bestFrom_33 : decode cX6_bestFrom 33 = .ok (.iaload, 1) := by decide +kernel
theorem dX6_bestFrom_34 : decode cX6_bestFrom 34 = .ok (.iconst (-1), 1) := by decide +kernel
theorem dX6_bestFrom_35 : decode cX6_bestFrom 35 = .ok (.if_icmp .ne 37, 3) := by decide +kernel
theorem dX6_bestFrom_38 : decode cX6_bestFrom 38 = .ok (.iload 4, 2) := by decide +kernel
theorem dX6_bestFrom_40 : decode cX6_bestFrom 40 = .ok (.iload 6, 2) := by decide +kernel
theorem dX6_bestFrom_42 : decode cX6_bestFrom 42 = .ok (.ishr, 1) := by decide +kernel
theorem dX6_bestFrom_43 : decode cX6_bestFrom 43 = .ok (.iconst 1, 1) := by decide +kernel
theorem dX6_bestFrom_44 : decode cX6_bestFrom 44 = .ok (.iand, 1) := by decide +kernel
theorem dX6_bestFrom_45 : decode cX6_bestFrom 45 = .ok (.ifCond .ne 21, 3) := by decide +kernel
theorem dX6_bestFrom_48 : decode cX6_bestFrom 48 = .ok (.iload 5, 2) := by decide +kernel
theorem dX6_bestFrom_50 : decode cX6_bestFrom 50 = .ok (.aload_n 0, 1) := by decide +kernel
theorem dX6_bestFrom_51 : decode cX6_bestFrom 51 = .ok (.aload_n 1, 1) := by decide +kernel
theorem dX6_bestFrom_52 : decode cX6_bestFrom 52 = .ok (.aload_n 2, 1) := by decide +kernel
theorem dX6_bestFrom_53 : decode cX6_bestFrom 53 = .ok (.iload_n 3, 1) := by decide +kernel
theorem dX6_bestFrom_54 : decode cX6_bestFrom 54 = .ok (.iload 4, 2) := by decide +kernel
theorem dX6_bestFrom_56 : decode cX6_bestFrom 56 = .ok (.iload 6, 2) := by decide +kernel
theorem dX6_bestFrom_58 : decode cX6_bestFrom 58 = .ok (.invokevirtual 44, 3) := by decide +kernel
theorem dX6_bestFrom_61 : decode cX6_bestFrom 61 = .ok (.invokestatic 48, 3) := by decide +kernel
theorem dX6_bestFrom_64 : decode cX6_bestFrom 64 = .ok (.istore 5, 2) := by decide +kernel
theorem dX6_bestFrom_66 : decode cX6_bestFrom 66 = .ok (.iinc 6 1, 3) := by decide +kernel
theorem dX6_bestFrom_69 : decode cX6_bestFrom 69 = .ok (.goto (-50), 3) := by decide +kernel
theorem dX6_bestFrom_72 : decode cX6_bestFrom 72 = .ok (.iload 5, 2) := by decide +kernel
theorem dX6_bestFrom_74 : decode cX6_bestFrom 74 = .ok (.ireturn, 1) := by decide +kernel
theorem vc_X6_44 : XVw RX6 44 5 5 7 yX6_bestWith cX6_bestWith (some .int) := ⟨RX6, TX6, tyX6, 1, xk_5, rfl, ⟨by decide, by decide⟩, by decide +kernel, wt_785, wt_787, ws_24, wt_7, wt_788⟩
noncomputable def bs_X6_bestFrom : List (Nat × XB) := [
  (0, (sq (xLA 0) (sq (xGS 5 25 0 0) (sq (xLI 3) (sq (xC (.int 1)) (sq (xI2 (· + ·)) (sq (xC (.int 16)) (sq (xI2 (· * ·)) (sq (xLI 4) (sq (xI2 (· + ·)) (sq (xAI 25 112) (sq (xSI 5) (sq (xC (.int 0)) (sq (xSI 6) (tGo 19 [true, true, true, true, true, true, true]))))))))))))))),
  (19, (sq (xLI 6) (sq (xLA 1) (sq (xGI 1 5) (tIf2 (fun x y => decide (y ≤ x)) 72 [false, false, false, false, false, true, false] 28 [true, true, true, true, true, true, true]))))),
  (28, (sq (xLA 2) (sq (xGS 8 32 0 0) (sq (xLI 3) (sq (xAI 32 6) (sq (xC (.int (-1))) (tIf2 (fun x y => decide (¬ x = y)) 72 [false, false, false, false, false, true, false] 38 [true, true, true, true, true, true, true]))))))),
  (38, (sq (xLI 4) (sq (xLI 6) (sq (xI2 (fun x y => x >>> (y &&& 31))) (sq (xC (.int 1)) (sq (xI2 (· &&& ·)) (tIf1 (fun x => decide (¬ x = 0)) 66 [true, true, true, true, true, true, true] 48 [true, true, true, true, true, true, true]))))))),
  (48, (sq (xLI 5) (sq (xLA 0) (sq (xLA 1) (sq (xLA 2) (sq (xLI 3) (sq (xLI 4) (sq (xLI 6) (sq (xCI 5 6 F_X6_bestWith) (sq (xM2 (fun x y => if x < y then y else x)) (sq (xSI 5) (tGo 66 [true, true, true, true, true, true, true])))))))))))),
  (66, (sq (xInc 6 1) (tGo 19 [true, true, true, true, true, true, true]))),
  (72, (sq (xLI 5) tRI))]
set_option maxRecDepth 100000 in
set_option maxHeartbeats 4000000 in
theorem s_X6_bestFrom : ∀ X : XCtx, XE X → X.2.2.1.1 = cX6_bestFrom → X.2.2.1.2.1 = 7 → X.2.2.1.2.2.1 = yX6_bestFrom.cls → X.2.2.1.2.2.2.1 = (some .int) → X.1.2.2.2.1 = { frames := 2, cells := 0, slots := 0, locals := 50 } → SndBs X bs_X6_bestFrom := by
  rintro ⟨⟨p, l, e, R, s⟩, Y, ⟨cc, nL, own, ret, Ts⟩, Z⟩ hE h1 h2 h3 h4 h5
  dsimp only at h1 h2 h3 h4 h5
  subst h1 h2 h3 h4 h5
  exact ⟨(n_sq (n_aload_n hE dX6_bestFrom_0) (n_sq (n_getS hE xk_5 (k := 0) rfl (by decide) rfl wt_244 dX6_bestFrom_1) (n_sq (n_iload_n hE dX6_bestFrom_4) (n_sq (n_iconst hE (by decide) dX6_bestFrom_5) (n_sq (n_iadd hE dX6_bestFrom_6) (n_sq (n_bipush hE (by decide) dX6_bestFrom_7) (n_sq (n_imul hE dX6_bestFrom_9) (n_sq (n_iload hE dX6_bestFrom_10) (n_sq (n_iadd hE dX6_bestFrom_12) (n_sq (n_iald hE rfl (by decide) dX6_bestFrom_13) (n_sq (n_istore hE (show (5 : Nat) < 7 by decide) dX6_bestFrom_14) (n_sq (n_iconst hE (by decide) dX6_bestFrom_16) (n_sq (n_istore hE (show (6 : Nat) < 7 by decide) dX6_bestFrom_17) n_fall))))))))))))),
    (n_sq (n_iload hE dX6_bestFrom_19) (n_sq (n_aload_n hE dX6_bestFrom_21) (n_sq (n_getI hE xk_1 (k := 5) rfl (by decide) rfl wt_116 dX6_bestFrom_22) (n_ifcge hE (by decide) dX6_bestFrom_25)))),
    (n_sq (n_aload_n hE dX6_bestFrom_28) (n_sq (n_getS hE xk_8 (k := 4) rfl (by decide) rfl wt_189 dX6_bestFrom_29) (n_sq (n_iload_n hE dX6_bestFrom_32) (n_sq (n_iald hE rfl (by decide) dX6_bestFrom_33) (n_sq (n_iconst hE (by decide) dX6_bestFrom_34) (n_ifcne hE (by decide) dX6_bestFrom_35)))))),
    (n_sq (n_iload hE dX6_bestFrom_38) (n_sq (n_iload hE dX6_bestFrom_40) (n_sq (n_ishr hE dX6_bestFrom_42) (n_sq (n_iconst hE (by decide) dX6_bestFrom_43) (n_sq (n_iand hE dX6_bestFrom_44) (n_ifne hE (by decide) dX6_bestFrom_45)))))),
    (n_sq (n_iload hE dX6_bestFrom_48) (n_sq (n_aload_n hE dX6_bestFrom_50) (n_sq (n_aload_n hE dX6_bestFrom_51) (n_sq (n_aload_n hE dX6_bestFrom_52) (n_sq (n_iload_n hE dX6_bestFrom_53) (n_sq (n_iload hE dX6_bestFrom_54) (n_sq (n_iload hE dX6_bestFrom_56) (n_sq (n_cIv hE m_X6_bestWith vc_X6_44 (show 1 + 1 ≤ 2 ∧ 8 + (7 + 11) + 24 ≤ 50 by decide) dX6_bestFrom_58) (n_sq (n_mmax hE wt_790 wt_724 wt_19 wt_725 (show 1 ≤ 2 ∧ 24 ≤ 50 by decide) dX6_bestFrom_61) (n_sq (n_istore hE (show (5 : Nat) < 7 by decide) dX6_bestFrom_64) n_fall)))))))))),
    (n_sq (n_iinc hE (by decide) (show (6 : Nat) < 7 by decide) dX6_bestFrom_66) (n_goto hE (by decide) dX6_bestFrom_69)),
    (n_sq (n_iload hE dX6_bestFrom_72) (n_ireturn hE rfl dX6_bestFrom_74)), trivial⟩
noncomputable def F_X6_bestFrom (as : List XV) (w : XW) : Option (Int32 × XW) := (xF 7 bs_X6_bestFrom as w).bind pI
theorem m_X6_bestFrom : XM yX6_bestFrom cX6_bestFrom 7 (some .int) 2 50 (eI F_X6_bestFrom) := xm_I (xm_of (by decide) s_X6_bestFrom)
noncomputable def q_X6_bestFrom_0 (i1 : Nat) (i2 : Nat) (x3 : Int32) (x4 : Int32) (w : XW) : Option XR := ev bs_X6_bestFrom 0 ([some (.inr (5, 0)), some (.inr (1, i1)), some (.inr (8, i2)), some (.inl (.int x3)), some (.inl (.int x4)), none, none], [], w)
noncomputable def q_X6_bestFrom_19 (i1 : Nat) (i2 : Nat) (x3 : Int32) (x4 : Int32) (x5 : Int32) (x6 : Int32) (w : XW) : Option XR := ev bs_X6_bestFrom 19 ([some (.inr (5, 0)), some (.inr (1, i1)), some (.inr (8, i2)), some (.inl (.int x3)), some (.inl (.int x4)), some (.inl (.int x5)), some (.inl (.int x6))], [], w)
noncomputable def q_X6_bestFrom_28 (i1 : Nat) (i2 : Nat) (x3 : Int32) (x4 : Int32) (x5 : Int32) (x6 : Int32) (w : XW) : Option XR := ev bs_X6_bestFrom 28 ([some (.inr (5, 0)), some (.inr (1, i1)), some (.inr (8, i2)), some (.inl (.int x3)), some (.inl (.int x4)), some (.inl (.int x5)), some (.inl (.int x6))], [], w)
noncomputable def q_X6_bestFrom_38 (i1 : Nat) (i2 : Nat) (x3 : Int32) (x4 : Int32) (x5 : Int32) (x6 : Int32) (w : XW) : Option XR := ev bs_X6_bestFrom 38 ([some (.inr (5, 0)), some (.inr (1, i1)), some (.inr (8, i2)), some (.inl (.int x3)), some (.inl (.int x4)), some (.inl (.int x5)), some (.inl (.int x6))], [], w)
noncomputable def q_X6_bestFrom_48 (i1 : Nat) (i2 : Nat) (x3 : Int32) (x4 : Int32) (x5 : Int32) (x6 : Int32) (w : XW) : Option XR := ev bs_X6_bestFrom 48 ([some (.inr (5, 0)), some (.inr (1, i1)), some (.inr (8, i2)), some (.inl (.int x3)), some (.inl (.int x4)), some (.inl (.int x5)), some (.inl (.int x6))], [], w)
noncomputable def q_X6_bestFrom_66 (i1 : Nat) (i2 : Nat) (x3 : Int32) (x4 : Int32) (x5 : Int32) (x6 : Int32) (w : XW) : Option XR := ev bs_X6_bestFrom 66 ([some (.inr (5, 0)), some (.inr (1, i1)), some (.inr (8, i2)), some (.inl (.int x3)), some (.inl (.int x4)), some (.inl (.int x5)), some (.inl (.int x6))], [], w)
noncomputable def q_X6_bestFrom_72 (x5 : Int32) (w : XW) : Option XR := ev bs_X6_bestFrom 72 ([none, none, none, none, none, some (.inl (.int x5)), none], [], w)
theorem e_X6_bestFrom_0 (i1 : Nat) (i2 : Nat) (x3 : Int32) (x4 : Int32) (w : XW) : q_X6_bestFrom_0 i1 i2 x3 x4 w = (if (((x3 + 1) * 16) + x4) < 0 ∨ 112 ≤ (((x3 + 1) * 16) + x4).toNatClampNeg then none else (q_X6_bestFrom_19 i1 i2 x3 x4 (gI w 25 0 (((x3 + 1) * 16) + x4).toNatClampNeg) 0 w)) := (ev_eq _ _ _).trans rfl
theorem e_X6_bestFrom_19 (i1 : Nat) (i2 : Nat) (x3 : Int32) (x4 : Int32) (x5 : Int32) (x6 : Int32) (w : XW) : q_X6_bestFrom_19 i1 i2 x3 x4 x5 x6 w = (bif decide ((gI w 1 i1 5) ≤ x6) then (q_X6_bestFrom_72 x5 w) else (q_X6_bestFrom_28 i1 i2 x3 x4 x5 x6 w)) := (ev_eq _ _ _).trans rfl
theorem e_X6_bestFrom_28 (i1 : Nat) (i2 : Nat) (x3 : Int32) (x4 : Int32) (x5 : Int32) (x6 : Int32) (w : XW) : q_X6_bestFrom_28 i1 i2 x3 x4 x5 x6 w = (if x3 < 0 ∨ 6 ≤ x3.toNatClampNeg then none else (bif decide (¬ (gI w 32 i2 x3.toNatClampNeg) = (-1)) then (q_X6_bestFrom_72 x5 w) else (q_X6_bestFrom_38 i1 i2 x3 x4 x5 x6 w))) := (ev_eq _ _ _).trans rfl
theorem e_X6_bestFrom_38 (i1 : Nat) (i2 : Nat) (x3 : Int32) (x4 : Int32) (x5 : Int32) (x6 : Int32) (w : XW) : q_X6_bestFrom_38 i1 i2 x3 x4 x5 x6 w = (bif decide (¬ (((x4 : Int32) >>> ((x6 : Int32) &&& 31)) &&& 1) = 0) then (q_X6_bestFrom_66 i1 i2 x3 x4 x5 x6 w) else (q_X6_bestFrom_48 i1 i2 x3 x4 x5 x6 w)) := (ev_eq _ _ _).trans rfl
theorem e_X6_bestFrom_48 (i1 : Nat) (i2 : Nat) (x3 : Int32) (x4 : Int32) (x5 : Int32) (x6 : Int32) (w : XW) : q_X6_bestFrom_48 i1 i2 x3 x4 x5 x6 w = ((F_X6_bestWith [.inr (5, 0), .inr (1, i1), .inr (8, i2), .inl (.int x3), .inl (.int x4), .inl (.int x6)] w).bind fun r0 => (q_X6_bestFrom_66 i1 i2 x3 x4 (if x5 < r0.1 then r0.1 else x5) x6 r0.2)) := (ev_eq _ _ _).trans rfl
theorem e_X6_bestFrom_66 (i1 : Nat) (i2 : Nat) (x3 : Int32) (x4 : Int32) (x5 : Int32) (x6 : Int32) (w : XW) : q_X6_bestFrom_66 i1 i2 x3 x4 x5 x6 w = (q_X6_bestFrom_19 i1 i2 x3 x4 x5 (x6 + 1) w) := (ev_eq _ _ _).trans rfl
theorem e_X6_bestFrom_72 (x5 : Int32) (w : XW) : q_X6_bestFrom_72 x5 w = (some (some (.inl (.int x5)), w)) := (ev_eq _ _ _).trans rfl
theorem f_X6_bestFrom (i1 : Nat) (i2 : Nat) (x3 : Int32) (x4 : Int32) (w : XW) : F_X6_bestFrom [.inr (5, 0), .inr (1, i1), .inr (8, i2), .inl (.int x3), .inl (.int x4)] w = (q_X6_bestFrom_0 i1 i2 x3 x4 w).bind pI := rfl
