-- WinterKeep$RuleReader.passCompare(LWinterKeep$Tape;)I
theorem dX8_passCompare_0 : decode cX8_passCompare 0 = .ok (.aload_n 0, 1) := by decide +kernel
theorem dX8_passCompare_1 : decode cX8_passCompare 1 = .ok (.aload_n 0, 1) := by decide +kernel
theorem dX8_passCompare_2 : decode cX8_passCompare 2 = .ok (.getfield 62, 3) := by decide +kernel
theorem dX8_passCompare_5 : decode cX8_passCompare 5 = .ok (.invokevirtual 99, 3) := by decide +kernel
theorem dX8_passCompare_8 : decode cX8_passCompare 8 = .ok (.istore_n 1, 1) := by decide +kernel
theorem dX8_passCompare_9 : decode cX8_passCompare 9 = .ok (.iload_n 1, 1) := by decide +kernel
theorem dX8_passCompare_10 : decode cX8_passCompare 10 = .ok (.bipush 60, 2) := by decide +kernel
theorem dX8_passCompare_12 : decode cX8_passCompare 12 = .ok (.if_icmp .eq 17, 3) := by decide +kernel
theorem dX8_passCompare_15 : decode cX8_passCompare 15 = .ok (.iload_n 1, 1) := by decide +kernel
theorem dX8_passCompare_16 : decode cX8_passCompare 16 = .ok (.bipush 61, 2) := by decide +kernel
theorem dX8_passCompare_18 : decode cX8_passCompare 18 = .ok (.if_icmp .eq 11, 3) := by decide +kernel
theorem dX8_passCompare_21 : decode cX8_passCompare 21 = .ok (.iload_n 1, 1) := by decide +kernel
theorem dX8_passCompare_22 : decode cX8_passCompare 22 = .ok (.bipush 62, 2) := by decide +kernel
theorem dX8_passCompare_24 : decode cX8_passCompare 24 = .ok (.if_icmp .eq 5, 3) := by decide +kernel
theorem dX8_passCompare_27 : decode cX8_passCompare 27 = .ok (.iconst 0, 1) := by decide +kernel
theorem dX8_passCompare_28 : decode cX8_passCompare 28 = .ok (.ireturn, 1) := by decide +kernel
theorem dX8_passCompare_29 : decode cX8_passCompare 29 = .ok (.aload_n 0, 1) := by decide +kernel
theorem dX8_passCompare_30 : decode cX8_passCompare 30 = .ok (.dup, 1) := by decide +kernel
theorem dX8_passCompare_31 : decode cX8_passCompare 31 = .ok (.getfield 62, 3) := by decide +kernel
theorem dX8_passCompare_34 : decode cX8_passCompare 34 = .ok (.iconst 1, 1) := by decide +kernel
theorem dX8_passCompare_35 : decode cX8_passCompare 35 = .ok (.iadd, 1) := by decide +kernel
theorem dX8_passCompare_36 : decode cX8_passCompare 36 = .ok (.putfield 62, 3) := by decide +kernel
theorem dX8_passCompare_39 : decode cX8_passCompare 39 = .ok (.iload_n 1, 1) := by decide +kernel
theorem dX8_passCompare_40 : decode cX8_passCompare 40 = .ok (.bipush 61, 2) := by decide +kernel
theorem dX8_passCompare_42 : decode cX8_passCompare 42 = .ok (.if_icmp .ne 6, 3) := by decide +kernel
theorem dX8_passCompare_45 : decode cX8_passCompare 45 = .ok (.bipush (-27), 2) := by decide +kernel
theorem dX8_passCompare_47 : decode cX8_passCompare 47 = .ok (.ireturn, 1) := by decide +kernel
theorem dX8_passCompare_48 : decode cX8_passCompare 48 = .ok (.aload_n 0, 1) := by decide +kernel
theorem dX8_passCompare_49 : decode cX8_passCompare 49 = .ok (.aload_n 0, 1) := by decide +kernel
theorem dX8_passCompare_50 : decode cX8_passCompare 50 = .ok (.getfield 62, 3) := by decide +kernel
theorem dX8_passCompare_53 : decode cX8_passCompare 53 = .ok (.invokevirtual 99, 3) := by decide +kernel
theorem dX8_passCompare_56 : decode cX8_passCompare 56 = .ok (.bipush 61, 2) := by decide +kernel
theorem dX8_passCompare_58 : decode cX8_passCompare 58 = .ok (.if_icmp .ne 27, 3) := by decide +kernel
theorem dX8_passCompare_61 : decode cX8_passCompare 61 = .ok (.aload_n 0, 1) := by decide +kernel
theorem dX8_passCompare_62 : decode cX8_passCompare 62 = .ok (.dup, 1) := by decide +kernel
theorem dX8_passCompare_63 : decode cX8_passCompare 63 = .ok (.getfield 62, 3) := by decide +kernel
theorem dX8_passCompare_66 : decode cX8_passCompare 66 = .ok (.iconst 1, 1) := by decide +kernel
theorem dX8_passCompare_67 : decode cX8_passCompare 67 = .ok (.iadd, 1) := by decide +kernel
theorem dX8_passCompare_68 : decode cX8_passCompare 68 = .ok (.putfield 62, 3) := by decide +kernel
theorem dX8_passCompare_71 : decode cX8_passCompare 71 = .ok (.iload_n 1, 1) := by decide +kernel
theorem dX8_passCompare_72 : decode cX8_passCompare 72 = .ok (.bipush 60, 2) := by decide +kernel
theorem dX8_passCompare_74 : decode cX8_passCompare 74 = .ok (.if_icmp .ne 8, 3) := by decide +kernel
theorem dX8_passCompare_77 : decode cX8_passCompare 77 = .ok (.bipush (-26), 2) := by decide +kernel
theorem dX8_passCompare_79 : decode cX8_passCompare 79 = .ok (.goto 5, 3) := by decide +kernel
theorem dX8_passCompare_82 : decode cX8_passCompare 82 = .ok (.bipush (-28), 2) := by decide +kernel
theorem dX8_passCompare_84 : decode cX8_passCompare 84 = .ok (.ireturn, 1) := by decide +kernel
theorem dX8_passCompare_85 : decode cX8_passCompare 85 = .ok (.iload_n 1, 1) := by decide +kernel
theorem dX8_passCompare_86 : decode cX8_passCompare 86 = .ok (.bipush 60, 2) := by decide +kernel
theorem dX8_passCompare_88 : decode cX8_passCompare 88 = .ok (.if_icmp .ne 8, 3) := by decide +kernel
theorem dX8_passCompare_91 : decode cX8_passCompare 91 = .ok (.bipush (-25), 2) := by decide +kernel
theorem dX8_passCompare_93 : decode cX8_passCompare 93 = .ok (.goto 5, 3) := by decide +kernel
theorem dX8_passCompare_96 : decode cX8_passCompare 96 = .ok (.bipush (-29), 2) := by decide +kernel
theorem dX8_passCompare_98 : decode cX8_passCompare 98 = .ok (.ireturn, 1) := by decide +kernel
theorem vc_X8_99 : XVw RX8 99 1 9 2 yX10_byteAt cX10_byteAt (some .int) := ⟨RX10, TX10, tyX10, 6, xk_9, rfl, ⟨by decide, by decide⟩, by decide +kernel, wt_558, wt_413, wt_414, wt_2, wt_415⟩
noncomputable def bs_X8_passCompare : List (Nat × XB) := [
  (0, (sq (xLA 0) (sq (xLA 0) (sq (xGI 9 2) (sq (xCI 9 2 F_X10_byteAt) (sq (xSI 1) (sq (xLI 1) (sq (xC (.int 60)) (tIf2 (fun x y => decide (x = y)) 29 [true, true] 15 [true, true]))))))))),
  (15, (sq (xLI 1) (sq (xC (.int 61)) (tIf2 (fun x y => decide (x = y)) 29 [true, true] 21 [true, true])))),
  (21, (sq (xLI 1) (sq (xC (.int 62)) (tIf2 (fun x y => decide (x = y)) 29 [true, true] 27 [false, false])))),
  (27, (sq (xC (.int 0)) tRI)),
  (29, (sq (xLA 0) (sq (xDup) (sq (xGI 9 2) (sq (xC (.int 1)) (sq (xI2 (· + ·)) (sq (xPI 9 2) (sq (xLI 1) (sq (xC (.int 61)) (tIf2 (fun x y => decide (¬ x = y)) 48 [true, true] 45 [false, false])))))))))),
  (45, (sq (xC (.int (-27))) tRI)),
  (48, (sq (xLA 0) (sq (xLA 0) (sq (xGI 9 2) (sq (xCI 9 2 F_X10_byteAt) (sq (xC (.int 61)) (tIf2 (fun x y => decide (¬ x = y)) 85 [false, true] 61 [true, true]))))))),
  (61, (sq (xLA 0) (sq (xDup) (sq (xGI 9 2) (sq (xC (.int 1)) (sq (xI2 (· + ·)) (sq (xPI 9 2) (sq (xLI 1) (sq (xC (.int 60)) (tIf2 (fun x y => decide (¬ x = y)) 82 [false, false] 77 [false, false])))))))))),
  (77, (sq (xC (.int (-26))) (tGo 84 [false, false]))),
  (82, (sq (xC (.int (-28))) (tGo 84 [false, false]))),
  (84, tRI),
  (85, (sq (xLI 1) (sq (xC (.int 60)) (tIf2 (fun x y => decide (¬ x = y)) 96 [false, false] 91 [false, false])))),
  (91, (sq (xC (.int (-25))) (tGo 98 [false, false]))),
  (96, (sq (xC (.int (-29))) (tGo 98 [false, false]))),
  (98, tRI)]
set_option maxRecDepth 100000 in
set_option maxHeartbeats 4000000 in
theorem s_X8_passCompare : ∀ X : XCtx, XE X → X.2.2.1.1 = cX8_passCompare → X.2.2.1.2.1 = 2 → X.2.2.1.2.2.1 = yX8_passCompare.cls → X.2.2.1.2.2.2.1 = (some .int) → X.1.2.2.2.1 = { frames := 1, cells := 0, slots := 0, locals := 21 } → SndBs X bs_X8_passCompare := by
  rintro ⟨⟨p, l, e, R, s⟩, Y, ⟨cc, nL, own, ret, Ts⟩, Z⟩ hE h1 h2 h3 h4 h5
  dsimp only at h1 h2 h3 h4 h5
  subst h1 h2 h3 h4 h5
  exact ⟨(n_sq (n_aload_n hE dX8_passCompare_0) (n_sq (n_aload_n hE dX8_passCompare_1) (n_sq (n_getI hE xk_9 (k := 2) rfl (by decide) rfl wt_41 dX8_passCompare_2) (n_sq (n_cIv hE m_X10_byteAt vc_X8_99 (show 0 + 1 ≤ 1 ∧ 8 + (2 + 11) + 0 ≤ 21 by decide) dX8_passCompare_5) (n_sq (n_istore_n hE (show (1 : Nat) < 2 by decide) dX8_passCompare_8) (n_sq (n_iload_n hE dX8_passCompare_9) (n_sq (n_bipush hE (by decide) dX8_passCompare_10) (n_ifceq hE (by decide) dX8_passCompare_12)))))))),
    (n_sq (n_iload_n hE dX8_passCompare_15) (n_sq (n_bipush hE (by decide) dX8_passCompare_16) (n_ifceq hE (by decide) dX8_passCompare_18))),
    (n_sq (n_iload_n hE dX8_passCompare_21) (n_sq (n_bipush hE (by decide) dX8_passCompare_22) (n_ifceq hE (by decide) dX8_passCompare_24))),
    (n_sq (n_iconst hE (by decide) dX8_passCompare_27) (n_ireturn hE rfl dX8_passCompare_28)),
    (n_sq (n_aload_n hE dX8_passCompare_29) (n_sq (n_dup hE dX8_passCompare_30) (n_sq (n_getI hE xk_9 (k := 2) rfl (by decide) rfl wt_41 dX8_passCompare_31) (n_sq (n_iconst hE (by decide) dX8_passCompare_34) (n_sq (n_iadd hE dX8_passCompare_35) (n_sq (n_putI hE xk_9 (k := 2) rfl (by decide) rfl rfl (tyX10_ok 2 (by decide)) wt_41 dX8_passCompare_36) (n_sq (n_iload_n hE dX8_passCompare_39) (n_sq (n_bipush hE (by decide) dX8_passCompare_40) (n_ifcne hE (by decide) dX8_passCompare_42))))))))),
    (n_sq (n_bipush hE (by decide) dX8_passCompare_45) (n_ireturn hE rfl dX8_passCompare_47)),
    (n_sq (n_aload_n hE dX8_passCompare_48) (n_sq (n_aload_n hE dX8_passCompare_49) (n_sq (n_getI hE xk_9 (k := 2) rfl (by decide) rfl wt_41 dX8_passCompare_50) (n_sq (n_cIv hE m_X10_byteAt vc_X8_99 (show 0 + 1 ≤ 1 ∧ 8 + (2 + 11) + 0 ≤ 21 by decide) dX8_passCompare_53) (n_sq (n_bipush hE (by decide) dX8_passCompare_56) (n_ifcne hE (by decide) dX8_passCompare_58)))))),
    (n_sq (n_aload_n hE dX8_passCompare_61) (n_sq (n_dup hE dX8_passCompare_62) (n_sq (n_getI hE xk_9 (k := 2) rfl (by decide) rfl wt_41 dX8_passCompare_63) (n_sq (n_iconst hE (by decide) dX8_passCompare_66) (n_sq (n_iadd hE dX8_passCompare_67) (n_sq (n_putI hE xk_9 (k := 2) rfl (by decide) rfl rfl (tyX10_ok 2 (by decide)) wt_41 dX8_passCompare_68) (n_sq (n_iload_n hE dX8_passCompare_71) (n_sq (n_bipush hE (by decide) dX8_passCompare_72) (n_ifcne hE (by decide) dX8_passCompare_74))))))))),
    (n_sq (n_bipush hE (by decide) dX8_passCompare_77) (n_goto hE (by decide) dX8_passCompare_79)),
    (n_sq (n_bipush hE (by decide) dX8_passCompare_82) n_fall),
    (n_ireturn hE rfl dX8_passCompare_84),
    (n_sq (n_iload_n hE dX8_passCompare_85) (n_sq (n_bipush hE (by decide) dX8_passCompare_86) (n_ifcne hE (by decide) dX8_passCompare_88))),
    (n_sq (n_bipush hE (by decide) dX8_passCompare_91) (n_goto hE (by decide) dX8_passCompare_93)),
    (n_sq (n_bipush hE (by decide) dX8_passCompare_96) n_fall),
    (n_ireturn hE rfl dX8_passCompare_98), trivial⟩
noncomputable def F_X8_passCompare (as : List XV) (w : XW) : Option (Int32 × XW) := (xF 2 bs_X8_passCompare as w).bind pI
theorem m_X8_passCompare : XM yX8_passCompare cX8_passCompare 2 (some .int) 1 21 (eI F_X8_passCompare) := xm_I (xm_of (by decide) s_X8_passCompare)
noncomputable def q_X8_passCompare_0 (w : XW) : Option XR := ev bs_X8_passCompare 0 ([some (.inr (9, 0)), none], [], w)
noncomputable def q_X8_passCompare_15 (x1 : Int32) (w : XW) : Option XR := ev bs_X8_passCompare 15 ([some (.inr (9, 0)), some (.inl (.int x1))], [], w)
noncomputable def q_X8_passCompare_21 (x1 : Int32) (w : XW) : Option XR := ev bs_X8_passCompare 21 ([some (.inr (9, 0)), some (.inl (.int x1))], [], w)
noncomputable def q_X8_passCompare_27 (w : XW) : Option XR := ev bs_X8_passCompare 27 ([none, none], [], w)
noncomputable def q_X8_passCompare_29 (x1 : Int32) (w : XW) : Option XR := ev bs_X8_passCompare 29 ([some (.inr (9, 0)), some (.inl (.int x1))], [], w)
noncomputable def q_X8_passCompare_45 (w : XW) : Option XR := ev bs_X8_passCompare 45 ([none, none], [], w)
noncomputable def q_X8_passCompare_48 (x1 : Int32) (w : XW) : Option XR := ev bs_X8_passCompare 48 ([some (.inr (9, 0)), some (.inl (.int x1))], [], w)
noncomputable def q_X8_passCompare_61 (x1 : Int32) (w : XW) : Option XR := ev bs_X8_passCompare 61 ([some (.inr (9, 0)), some (.inl (.int x1))], [], w)
noncomputable def q_X8_passCompare_77 (w : XW) : Option XR := ev bs_X8_passCompare 77 ([none, none], [], w)
noncomputable def q_X8_passCompare_82 (w : XW) : Option XR := ev bs_X8_passCompare 82 ([none, none], [], w)
noncomputable def q_X8_passCompare_84 (s0 : Int32) (w : XW) : Option XR := ev bs_X8_passCompare 84 ([none, none], [.inl (.int s0)], w)
noncomputable def q_X8_passCompare_85 (x1 : Int32) (w : XW) : Option XR := ev bs_X8_passCompare 85 ([none, some (.inl (.int x1))], [], w)
noncomputable def q_X8_passCompare_91 (w : XW) : Option XR := ev bs_X8_passCompare 91 ([none, none], [], w)
noncomputable def q_X8_passCompare_96 (w : XW) : Option XR := ev bs_X8_passCompare 96 ([none, none], [], w)
noncomputable def q_X8_passCompare_98 (s0 : Int32) (w : XW) : Option XR := ev bs_X8_passCompare 98 ([none, none], [.inl (.int s0)], w)
theorem e_X8_passCompare_0 (w : XW) : q_X8_passCompare_0 w = ((F_X10_byteAt [.inr (9, 0), .inl (.int (gI w 9 0 2))] w).bind fun r0 => (bif decide (r0.1 = 60) then (q_X8_passCompare_29 r0.1 r0.2) else (q_X8_passCompare_15 r0.1 r0.2))) := (ev_eq _ _ _).trans rfl
theorem e_X8_passCompare_15 (x1 : Int32) (w : XW) : q_X8_passCompare_15 x1 w = (bif decide (x1 = 61) then (q_X8_passCompare_29 x1 w) else (q_X8_passCompare_21 x1 w)) := (ev_eq _ _ _).trans rfl
theorem e_X8_passCompare_21 (x1 : Int32) (w : XW) : q_X8_passCompare_21 x1 w = (bif decide (x1 = 62) then (q_X8_passCompare_29 x1 w) else (q_X8_passCompare_27 w)) := (ev_eq _ _ _).trans rfl
theorem e_X8_passCompare_27 (w : XW) : q_X8_passCompare_27 w = (some (some (.inl (.int 0)), w)) := (ev_eq _ _ _).trans rfl
theorem e_X8_passCompare_29 (x1 : Int32) (w : XW) : q_X8_passCompare_29 x1 w = (bif decide (¬ x1 = 61) then (q_X8_passCompare_48 x1 (sI w 9 0 2 ((gI w 9 0 2) + 1))) else (q_X8_passCompare_45 (sI w 9 0 2 ((gI w 9 0 2) + 1)))) := (ev_eq _ _ _).trans rfl
theorem e_X8_passCompare_45 (w : XW) : q_X8_passCompare_45 w = (some (some (.inl (.int (-27))), w)) := (ev_eq _ _ _).trans rfl
theorem e_X8_passCompare_48 (x1 : Int32) (w : XW) : q_X8_passCompare_48 x1 w = ((F_X10_byteAt [.inr (9, 0), .inl (.int (gI w 9 0 2))] w).bind fun r0 => (bif decide (¬ r0.1 = 61) then (q_X8_passCompare_85 x1 r0.2) else (q_X8_passCompare_61 x1 r0.2))) := (ev_eq _ _ _).trans rfl
theorem e_X8_passCompare_61 (x1 : Int32) (w : XW) : q_X8_passCompare_61 x1 w = (bif decide (¬ x1 = 60) then (q_X8_passCompare_82 (sI w 9 0 2 ((gI w 9 0 2) + 1))) else (q_X8_passCompare_77 (sI w 9 0 2 ((gI w 9 0 2) + 1)))) := (ev_eq _ _ _).trans rfl
theorem e_X8_passCompare_77 (w : XW) : q_X8_passCompare_77 w = (q_X8_passCompare_84 (-26) w) := (ev_eq _ _ _).trans rfl
theorem e_X8_passCompare_82 (w : XW) : q_X8_passCompare_82 w = (q_X8_passCompare_84 (-28) w) := (ev_eq _ _ _).trans rfl
theorem e_X8_passCompare_84 (s0 : Int32) (w : XW) : q_X8_passCompare_84 s0 w = (some (some (.inl (.int s0)), w)) := (ev_eq _ _ _).trans rfl
theorem e_X8_passCompare_85 (x1 : Int32) (w : XW) : q_X8_passCompare_85 x1 w = (bif decide (¬ x1 = 60) then (q_X8_passCompare_96 w) else (q_X8_passCompare_91 w)) := (ev_eq _ _ _).trans rfl
theorem e_X8_passCompare_91 (w : XW) : q_X8_passCompare_91 w = (q_X8_passCompare_98 (-25) w) := (ev_eq _ _ _).trans rfl
theorem e_X8_passCompare_96 (w : XW) : q_X8_passCompare_96 w = (q_X8_passCompare_98 (-29) w) := (ev_eq _ _ _).trans rfl
theorem e_X8_passCompare_98 (s0 : Int32) (w : XW) : q_X8_passCompare_98 s0 w = (some (some (.inl (.int s0)), w)) := (ev_eq _ _ _).trans rfl
theorem f_X8_passCompare (w : XW) : F_X8_passCompare [.inr (9, 0)] w = (q_X8_passCompare_0 w).bind pI := rfl
