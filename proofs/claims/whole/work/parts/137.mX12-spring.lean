-- WinterKeepModel.spring(II)I
theorem dX12_spring_0 : decode cX12_spring 0 = .ok (.aload_n 0, 1) := by decide +kernel
theorem dX12_spring_1 : decode cX12_spring 1 = .ok (.invokevirtual 369, 3) := by decide +kernel
theorem dX12_spring_4 : decode cX12_spring 4 = .ok (.ifCond .eq 25, 3) := by decide +kernel
theorem dX12_spring_7 : decode cX12_spring 7 = .ok (.iload_n 1, 1) := by decide +kernel
theorem dX12_spring_8 : decode cX12_spring 8 = .ok (.i2l, 1) := by decide +kernel
theorem dX12_spring_9 : decode cX12_spring 9 = .ok (.lconst 0, 1) := by decide +kernel
theorem dX12_spring_10 : decode cX12_spring 10 = .ok (.ldc2_w 402, 3) := by decide +kernel
theorem dX12_spring_13 : decode cX12_spring 13 = .ok (.invokestatic 133, 3) := by decide +kernel
theorem dX12_spring_16 : decode cX12_spring 16 = .ok (.ifCond .eq 13, 3) := by decide +kernel
theorem dX12_spring_19 : decode cX12_spring 19 = .ok (.iload_n 2, 1) := by decide +kernel
theorem dX12_spring_20 : decode cX12_spring 20 = .ok (.i2l, 1) := by decide +kernel
theorem dX12_spring_21 : decode cX12_spring 21 = .ok (.lconst 0, 1) := by decide +kernel
theorem dX12_spring_22 : decode cX12_spring 22 = .ok (.lconst 1, 1) := by decide +kernel
theorem dX12_spring_23 : decode cX12_spring 23 = .ok (.invokestatic 133, 3) := by decide +kernel
theorem dX12_spring_26 : decode cX12_spring 26 = .ok (.ifCond .ne 5, 3) := by decide +kernel
theorem dX12_spring_29 : decode cX12_spring 29 = .ok (.iconst (-1), 1) := by decide +kernel
theorem dX12_spring_30 : decode cX12_spring 30 = .ok (.ireturn, 1) := by decide +kernel
theorem dX12_spring_31 : decode cX12_spring 31 = .ok (.iconst 0, 1) := by decide +kernel
theorem dX12_spring_32 : decode cX12_spring 32 = .ok (.istore_n 3, 1) := by decide +kernel
theorem dX12_spring_33 : decode cX12_spring 33 = .ok (.iconst (-1), 1) := by decide +kernel
theorem dX12_spring_34 : decode cX12_spring 34 = .ok (.istore 4, 2) := by decide +kernel
theorem dX12_spring_36 : decode cX12_spring 36 = .ok (.aload_n 0, 1) := by decide +kernel
theorem dX12_spring_37 : decode cX12_spring 37 = .ok (.invokevirtual 377, 3) := by decide +kernel
theorem dX12_spring_40 : decode cX12_spring 40 = .ok (.iconst 0, 1) := by decide +kernel
theorem dX12_spring_41 : decode cX12_spring 41 = .ok (.istore 5, 2) := by decide +kernel
theorem dX12_spring_43 : decode cX12_spring 43 = .ok (.iload 5, 2) := by decide +kernel
theorem dX12_spring_45 : decode cX12_spring 45 = .ok (.iload_n 1, 1) := by decide +kernel
theorem dX12_spring_46 : decode cX12_spring 46 = .ok (.if_icmp .gt 34, 3) := by decide +kernel
theorem dX12_spring_49 : decode cX12_spring 49 = .ok (.aload_n 0, 1) := by decide +kernel
theorem dX12_spring_50 : decode cX12_spring 50 = .ok (.invokevirtual 399, 3) := by decide +kernel
theorem dX12_spring_53 : decode cX12_spring 53 = .ok (.istore 6, 2) := by decide +kernel
theorem dX12_spring_55 : decode cX12_spring 55 = .ok (.iload 6, 2) := by decide +kernel
theorem dX12_spring_57 : decode cX12_spring 57 = .ok (.iload 4, 2) := by decide +kernel
theorem dX12_spring_59 : decode cX12_spring 59 = .ok (.if_icmp .le 10, 3) := by decide +kernel
theorem dX12_spring_62 : decode cX12_spring 62 = .ok (.iload 5, 2) := by decide +kernel
theorem dX12_spring_64 : decode cX12_spring 64 = .ok (.istore_n 3, 1) := by decide +kernel
theorem dX12_spring_65 : decode cX12_spring 65 = .ok (.iload 6, 2) := by decide +kernel
theorem dX12_spring_67 : decode cX12_spring 67 = .ok (.istore 4, 2) := by decide +kernel
theorem dX12_spring_69 : decode cX12_spring 69 = .ok (.aload_n 0, 1) := by decide +kernel
theorem dX12_spring_70 : decode cX12_spring 70 = .ok (.invokevirtual 366, 3) := by decide +kernel
theorem dX12_spring_73 : decode cX12_spring 73 = .ok (.pop, 1) := by decide +kernel
theorem dX12_spring_74 : decode cX12_spring 74 = .ok (.iinc 5 1, 3) := by decide +kernel
theorem dX12_spring_77 : decode cX12_spring 77 = .ok (.goto (-34), 3) := by decide +kernel
theorem dX12_spring_80 : decode cX12_spring 80 = .ok (.aload_n 0, 1) := by decide +kernel
theorem dX12_spring_81 : decode cX12_spring 81 = .ok (.invokevirtual 383, 3) := by decide +kernel
theorem dX12_spring_84 : decode cX12_spring 84 = .ok (.iload_n 2, 1) := by decide +kernel
theorem dX12_spring_85 : decode cX12_spring 85 = .ok (.ifCond .ne 7, 3) := by decide +kernel
theorem dX12_spring_88 : decode cX12_spring 88 = .ok (.iload_n 3, 1) := by decide +kernel
theorem dX12_spring_89 : decode cX12_spring 89 = .ok (.goto 5, 3) := by decide +kernel
theorem dX12_spring_92 : decode cX12_spring 92 = .ok (.iload 4, 2) := by decide +kernel
theorem dX12_spring_94 : decode cX12_spring 94 = .ok (.ireturn, 1) := by decide +kernel
noncomputable def bs_X12_spring : List (Nat × XB) := [
  (0, (sq (xLA 0) (sq (xCI 11 1 F_X12_isDale) (tIf1 (fun x => decide (x = 0)) 29 [false, false, false, false, false, false, false] 7 [true, true, true, false, false, false, false])))),
  (7, (sq (xLI 1) (sq (xI2L) (sq (xC (.long 0)) (sq (xC (.long 60)) (sq (xCI 99 3 F_X12_in) (tIf1 (fun x => decide (x = 0)) 29 [false, false, false, false, false, false, false] 19 [true, true, true, false, false, false, false]))))))),
  (19, (sq (xLI 2) (sq (xI2L) (sq (xC (.long 0)) (sq (xC (.long 1)) (sq (xCI 99 3 F_X12_in) (tIf1 (fun x => decide (¬ x = 0)) 31 [true, true, true, false, false, false, false] 29 [false, false, false, false, false, false, false]))))))),
  (29, (sq (xC (.int (-1))) tRI)),
  (31, (sq (xC (.int 0)) (sq (xSI 3) (sq (xC (.int (-1))) (sq (xSI 4) (sq (xLA 0) (sq (xCV 11 1 F_X12_keeps) (sq (xC (.int 0)) (sq (xSI 5) (tGo 43 [true, true, true, true, true, true, false])))))))))),
  (43, (sq (xLI 5) (sq (xLI 1) (tIf2 (fun x y => decide (y < x)) 80 [true, false, true, true, true, false, false] 49 [true, true, true, true, true, true, false])))),
  (49, (sq (xLA 0) (sq (xCI 11 1 F_X12_bestPlacing) (sq (xSI 6) (sq (xLI 6) (sq (xLI 4) (tIf2 (fun x y => decide (x ≤ y)) 69 [true, true, true, true, true, true, false] 62 [true, true, true, false, false, true, true]))))))),
  (62, (sq (xLI 5) (sq (xSI 3) (sq (xLI 6) (sq (xSI 4) (tGo 69 [true, true, true, true, true, true, false])))))),
  (69, (sq (xLA 0) (sq (xCI 11 1 F_X12_passes) (sq (xPop) (sq (xInc 5 1) (tGo 43 [true, true, true, true, true, true, false])))))),
  (80, (sq (xLA 0) (sq (xCV 11 1 F_X12_laysBack) (sq (xLI 2) (tIf1 (fun x => decide (¬ x = 0)) 92 [false, false, false, false, true, false, false] 88 [false, false, false, true, false, false, false]))))),
  (88, (sq (xLI 3) (tGo 94 [false, false, false, false, false, false, false]))),
  (92, (sq (xLI 4) (tGo 94 [false, false, false, false, false, false, false]))),
  (94, tRI)]
set_option maxRecDepth 100000 in
set_option maxHeartbeats 4000000 in
theorem s_X12_spring : ∀ X : XCtx, XE X → X.2.2.1.1 = cX12_spring → X.2.2.1.2.1 = 7 → X.2.2.1.2.2.1 = yX12_spring.cls → X.2.2.1.2.2.2.1 = (some .int) → X.1.2.2.2.1 = { frames := 5, cells := 0, slots := 0, locals := 123 } → SndBs X bs_X12_spring := by
  rintro ⟨⟨p, l, e, R, s⟩, Y, ⟨cc, nL, own, ret, Ts⟩, Z⟩ hE h1 h2 h3 h4 h5
  dsimp only at h1 h2 h3 h4 h5
  subst h1 h2 h3 h4 h5
  exact ⟨(n_sq (n_aload_n hE dX12_spring_0) (n_sq (n_cIv hE m_X12_isDale vc_X12_369 (show 0 + 1 ≤ 5 ∧ 8 + (1 + 11) + 0 ≤ 123 by decide) dX12_spring_1) (n_ifeq hE (by decide) dX12_spring_4))),
    (n_sq (n_iload_n hE dX12_spring_7) (n_sq (n_i2l hE dX12_spring_8) (n_sq (n_lconst hE (by decide) dX12_spring_9) (n_sq (n_ldc2 hE wt_1468 dX12_spring_10) (n_sq (n_cIs hE m_X12_in vc_X12_133 (show 0 + 1 ≤ 5 ∧ 8 + (6 + 11) + 0 ≤ 123 by decide) dX12_spring_13) (n_ifeq hE (by decide) dX12_spring_16)))))),
    (n_sq (n_iload_n hE dX12_spring_19) (n_sq (n_i2l hE dX12_spring_20) (n_sq (n_lconst hE (by decide) dX12_spring_21) (n_sq (n_lconst hE (by decide) dX12_spring_22) (n_sq (n_cIs hE m_X12_in vc_X12_133 (show 0 + 1 ≤ 5 ∧ 8 + (6 + 11) + 0 ≤ 123 by decide) dX12_spring_23) (n_ifne hE (by decide) dX12_spring_26)))))),
    (n_sq (n_iconst hE (by decide) dX12_spring_29) (n_ireturn hE rfl dX12_spring_30)),
    (n_sq (n_iconst hE (by decide) dX12_spring_31) (n_sq (n_istore_n hE (show (3 : Nat) < 7 by decide) dX12_spring_32) (n_sq (n_iconst hE (by decide) dX12_spring_33) (n_sq (n_istore hE (show (4 : Nat) < 7 by decide) dX12_spring_34) (n_sq (n_aload_n hE dX12_spring_36) (n_sq (n_cVv hE m_X12_keeps vc_X12_377 (show 0 + 1 ≤ 5 ∧ 8 + (2 + 11) + 0 ≤ 123 by decide) dX12_spring_37) (n_sq (n_iconst hE (by decide) dX12_spring_40) (n_sq (n_istore hE (show (5 : Nat) < 7 by decide) dX12_spring_41) n_fall)))))))),
    (n_sq (n_iload hE dX12_spring_43) (n_sq (n_iload_n hE dX12_spring_45) (n_ifcgt hE (by decide) dX12_spring_46))),
    (n_sq (n_aload_n hE dX12_spring_49) (n_sq (n_cIv hE m_X12_bestPlacing vc_X12_399 (show 3 + 1 ≤ 5 ∧ 8 + (6 + 11) + 66 ≤ 123 by decide) dX12_spring_50) (n_sq (n_istore hE (show (6 : Nat) < 7 by decide) dX12_spring_53) (n_sq (n_iload hE dX12_spring_55) (n_sq (n_iload hE dX12_spring_57) (n_ifcle hE (by decide) dX12_spring_59)))))),
    (n_sq (n_iload hE dX12_spring_62) (n_sq (n_istore_n hE (show (3 : Nat) < 7 by decide) dX12_spring_64) (n_sq (n_iload hE dX12_spring_65) (n_sq (n_istore hE (show (4 : Nat) < 7 by decide) dX12_spring_67) n_fall)))),
    (n_sq (n_aload_n hE dX12_spring_69) (n_sq (n_cIv hE m_X12_passes vc_X12_366 (show 4 + 1 ≤ 5 ∧ 8 + (3 + 11) + 101 ≤ 123 by decide) dX12_spring_70) (n_sq (n_pop hE dX12_spring_73) (n_sq (n_iinc hE (by decide) (show (5 : Nat) < 7 by decide) dX12_spring_74) (n_goto hE (by decide) dX12_spring_77))))),
    (n_sq (n_aload_n hE dX12_spring_80) (n_sq (n_cVv hE m_X12_laysBack vc_X12_383 (show 0 + 1 ≤ 5 ∧ 8 + (2 + 11) + 0 ≤ 123 by decide) dX12_spring_81) (n_sq (n_iload_n hE dX12_spring_84) (n_ifne hE (by decide) dX12_spring_85)))),
    (n_sq (n_iload_n hE dX12_spring_88) (n_goto hE (by decide) dX12_spring_89)),
    (n_sq (n_iload hE dX12_spring_92) n_fall),
    (n_ireturn hE rfl dX12_spring_94), trivial⟩
noncomputable def F_X12_spring (as : List XV) (w : XW) : Option (Int32 × XW) := (xF 7 bs_X12_spring as w).bind pI
theorem m_X12_spring : XM yX12_spring cX12_spring 7 (some .int) 5 123 (eI F_X12_spring) := xm_I (xm_of (by decide) s_X12_spring)
noncomputable def q_X12_spring_0 (x1 : Int32) (x2 : Int32) (w : XW) : Option XR := ev bs_X12_spring 0 ([some (.inr (11, 0)), some (.inl (.int x1)), some (.inl (.int x2)), none, none, none, none], [], w)
noncomputable def q_X12_spring_7 (x1 : Int32) (x2 : Int32) (w : XW) : Option XR := ev bs_X12_spring 7 ([some (.inr (11, 0)), some (.inl (.int x1)), some (.inl (.int x2)), none, none, none, none], [], w)
noncomputable def q_X12_spring_19 (x1 : Int32) (x2 : Int32) (w : XW) : Option XR := ev bs_X12_spring 19 ([some (.inr (11, 0)), some (.inl (.int x1)), some (.inl (.int x2)), none, none, none, none], [], w)
noncomputable def q_X12_spring_29 (w : XW) : Option XR := ev bs_X12_spring 29 ([none, none, none, none, none, none, none], [], w)
noncomputable def q_X12_spring_31 (x1 : Int32) (x2 : Int32) (w : XW) : Option XR := ev bs_X12_spring 31 ([some (.inr (11, 0)), some (.inl (.int x1)), some (.inl (.int x2)), none, none, none, none], [], w)
noncomputable def q_X12_spring_43 (x1 : Int32) (x2 : Int32) (x3 : Int32) (x4 : Int32) (x5 : Int32) (w : XW) : Option XR := ev bs_X12_spring 43 ([some (.inr (11, 0)), some (.inl (.int x1)), some (.inl (.int x2)), some (.inl (.int x3)), some (.inl (.int x4)), some (.inl (.int x5)), none], [], w)
noncomputable def q_X12_spring_49 (x1 : Int32) (x2 : Int32) (x3 : Int32) (x4 : Int32) (x5 : Int32) (w : XW) : Option XR := ev bs_X12_spring 49 ([some (.inr (11, 0)), some (.inl (.int x1)), some (.inl (.int x2)), some (.inl (.int x3)), some (.inl (.int x4)), some (.inl (.int x5)), none], [], w)
noncomputable def q_X12_spring_62 (x1 : Int32) (x2 : Int32) (x5 : Int32) (x6 : Int32) (w : XW) : Option XR := ev bs_X12_spring 62 ([some (.inr (11, 0)), some (.inl (.int x1)), some (.inl (.int x2)), none, none, some (.inl (.int x5)), some (.inl (.int x6))], [], w)
noncomputable def q_X12_spring_69 (x1 : Int32) (x2 : Int32) (x3 : Int32) (x4 : Int32) (x5 : Int32) (w : XW) : Option XR := ev bs_X12_spring 69 ([some (.inr (11, 0)), some (.inl (.int x1)), some (.inl (.int x2)), some (.inl (.int x3)), some (.inl (.int x4)), some (.inl (.int x5)), none], [], w)
noncomputable def q_X12_spring_80 (x2 : Int32) (x3 : Int32) (x4 : Int32) (w : XW) : Option XR := ev bs_X12_spring 80 ([some (.inr (11, 0)), none, some (.inl (.int x2)), some (.inl (.int x3)), some (.inl (.int x4)), none, none], [], w)
noncomputable def q_X12_spring_88 (x3 : Int32) (w : XW) : Option XR := ev bs_X12_spring 88 ([none, none, none, some (.inl (.int x3)), none, none, none], [], w)
noncomputable def q_X12_spring_92 (x4 : Int32) (w : XW) : Option XR := ev bs_X12_spring 92 ([none, none, none, none, some (.inl (.int x4)), none, none], [], w)
noncomputable def q_X12_spring_94 (s0 : Int32) (w : XW) : Option XR := ev bs_X12_spring 94 ([none, none, none, none, none, none, none], [.inl (.int s0)], w)
theorem e_X12_spring_0 (x1 : Int32) (x2 : Int32) (w : XW) : q_X12_spring_0 x1 x2 w = ((F_X12_isDale [.inr (11, 0)] w).bind fun r0 => (bif decide (r0.1 = 0) then (q_X12_spring_29 r0.2) else (q_X12_spring_7 x1 x2 r0.2))) := (ev_eq _ _ _).trans rfl
theorem e_X12_spring_7 (x1 : Int32) (x2 : Int32) (w : XW) : q_X12_spring_7 x1 x2 w = ((F_X12_in [.inl (.long (x1 : Int32).toInt64), .inl (.long 0), .inl (.long 60)] w).bind fun r0 => (bif decide (r0.1 = 0) then (q_X12_spring_29 r0.2) else (q_X12_spring_19 x1 x2 r0.2))) := (ev_eq _ _ _).trans rfl
theorem e_X12_spring_19 (x1 : Int32) (x2 : Int32) (w : XW) : q_X12_spring_19 x1 x2 w = ((F_X12_in [.inl (.long (x2 : Int32).toInt64), .inl (.long 0), .inl (.long 1)] w).bind fun r0 => (bif decide (¬ r0.1 = 0) then (q_X12_spring_31 x1 x2 r0.2) else (q_X12_spring_29 r0.2))) := (ev_eq _ _ _).trans rfl
theorem e_X12_spring_29 (w : XW) : q_X12_spring_29 w = (some (some (.inl (.int (-1))), w)) := (ev_eq _ _ _).trans rfl
theorem e_X12_spring_31 (x1 : Int32) (x2 : Int32) (w : XW) : q_X12_spring_31 x1 x2 w = ((F_X12_keeps [.inr (11, 0)] w).bind fun r0 => (q_X12_spring_43 x1 x2 0 (-1) 0 r0)) := (ev_eq _ _ _).trans rfl
theorem e_X12_spring_43 (x1 : Int32) (x2 : Int32) (x3 : Int32) (x4 : Int32) (x5 : Int32) (w : XW) : q_X12_spring_43 x1 x2 x3 x4 x5 w = (bif decide (x1 < x5) then (q_X12_spring_80 x2 x3 x4 w) else (q_X12_spring_49 x1 x2 x3 x4 x5 w)) := (ev_eq _ _ _).trans rfl
theorem e_X12_spring_49 (x1 : Int32) (x2 : Int32) (x3 : Int32) (x4 : Int32) (x5 : Int32) (w : XW) : q_X12_spring_49 x1 x2 x3 x4 x5 w = ((F_X12_bestPlacing [.inr (11, 0)] w).bind fun r0 => (bif decide (r0.1 ≤ x4) then (q_X12_spring_69 x1 x2 x3 x4 x5 r0.2) else (q_X12_spring_62 x1 x2 x5 r0.1 r0.2))) := (ev_eq _ _ _).trans rfl
theorem e_X12_spring_62 (x1 : Int32) (x2 : Int32) (x5 : Int32) (x6 : Int32) (w : XW) : q_X12_spring_62 x1 x2 x5 x6 w = (q_X12_spring_69 x1 x2 x5 x6 x5 w) := (ev_eq _ _ _).trans rfl
theorem e_X12_spring_69 (x1 : Int32) (x2 : Int32) (x3 : Int32) (x4 : Int32) (x5 : Int32) (w : XW) : q_X12_spring_69 x1 x2 x3 x4 x5 w = ((F_X12_passes [.inr (11, 0)] w).bind fun r0 => (q_X12_spring_43 x1 x2 x3 x4 (x5 + 1) r0.2)) := (ev_eq _ _ _).trans rfl
theorem e_X12_spring_80 (x2 : Int32) (x3 : Int32) (x4 : Int32) (w : XW) : q_X12_spring_80 x2 x3 x4 w = ((F_X12_laysBack [.inr (11, 0)] w).bind fun r0 => (bif decide (¬ x2 = 0) then (q_X12_spring_92 x4 r0) else (q_X12_spring_88 x3 r0))) := (ev_eq _ _ _).trans rfl
theorem e_X12_spring_88 (x3 : Int32) (w : XW) : q_X12_spring_88 x3 w = (q_X12_spring_94 x3 w) := (ev_eq _ _ _).trans rfl
theorem e_X12_spring_92 (x4 : Int32) (w : XW) : q_X12_spring_92 x4 w = (q_X12_spring_94 x4 w) := (ev_eq _ _ _).trans rfl
theorem e_X12_spring_94 (s0 : Int32) (w : XW) : q_X12_spring_94 s0 w = (some (some (.inl (.int s0)), w)) := (ev_eq _ _ _).trans rfl
theorem f_X12_spring (x1 : Int32) (x2 : Int32) (w : XW) : F_X12_spring [.inr (11, 0), .inl (.int x1), .inl (.int x2)] w = (q_X12_spring_0 x1 x2 w).bind pI := rfl

-- WinterKeepModel.isFree(I)Z
theorem dX12_isFree_0 : decode cX12_isFree 0 = .ok (.iconst 0, 1) := by decide +kernel
theorem dX12_isFree_1 : decode cX12_isFree 1 = .ok (.istore_n 2, 1) := by decide +kernel
theorem dX12_isFree_2 : decode cX12_isFree 2 = .ok (.iload_n 2, 1) := by decide +kernel
theorem dX12_isFree_3 : decode cX12_isFree 3 = .ok (.iload_n 1, 1) := by decide +kernel
theorem dX12_isFree_4 : decode cX12_isFree 4 = .ok (.if_icmp .ge 46, 3) := by decide +kernel
theorem dX12_isFree_7 : decode cX12_isFree 7 = .ok (.aload_n 0, 1) := by decide +kernel
theorem dX12_isFree_8 : decode cX12_isFree 8 = .ok (.iload_n 2, 1) := by decide +kernel
theorem dX12_isFree_9 : decode cX12_isFree 9 = .ok (.invokevirtual 351, 3) := by decide +kernel
theorem dX12_isFree_12 : decode cX12_isFree 12 = .ok (.ifCond .ne 32, 3) := by decide +kernel
theorem dX12_isFree_15 : decode cX12_isFree 15 = .ok (.aload_n 0, 1) := by decide +kernel
theorem dX12_isFree_16 : decode cX12_isFree 16 = .ok (.getfield 64, 3) := by decide +kernel
theorem dX12_isFree_19 : decode cX12_isFree 19 = .ok (.iload_n 2, 1) := by decide +kernel
theorem dX12_isFree_20 : decode cX12_isFree 20 = .ok (.iaload, 1) := by decide +kernel
theorem dX12_isFree_21 : decode cX12_isFree 21 = .ok (.aload_n 0, 1) := by decide +kernel
theorem dX12_isFree_22 : decode cX12_isFree 22 = .ok (.getfield 64, 3) := by decide +kernel
theorem dX12_isFree_25 : decode cX12_isFree 25 = .ok (.iload_n 1, 1) := by decide +kernel
theorem dX12_isFree_26 : decode cX12_isFree 26 = .ok (.iaload, 1) := by decide +kernel
theorem dX12_isFree_27 : decode cX12_isFree 27 = .ok (.if_icmp .ne 17, 3) := by decide +kernel
theorem dX12_isFree_30 : decode cX12_isFree 30 = .ok (.aload_n 0, 1) := by decide +kernel
theorem dX12_isFree_31 : decode cX12_isFree 31 = .ok (.iload_n 1, 1) := by decide +kernel
theorem dX12_isFree_32 : decode cX12_isFree 32 = .ok (.invokevirtual 317, 3) := by decide +kernel
theorem dX12_isFree_35 : decode cX12_isFree 35 = .ok (.iload_n 2, 1) := by decide +kernel
theorem dX12_isFree_36 : decode cX12_isFree 36 = .ok (.invokestatic 92, 3) := by decide +kernel
theorem dX12_isFree_39 : decode cX12_isFree 39 = .ok (.ifCond .eq 5, 3) := by decide +kernel
theorem dX12_isFree_42 : decode cX12_isFree 42 = .ok (.iconst 0, 1) := by decide +kernel
theorem dX12_isFree_43 : decode cX12_isFree 43 = .ok (.ireturn, 1) := by decide +kernel
theorem dX12_isFree_44 : decode cX12_isFree 44 = .ok (.iinc 2 1, 3) := by decide +kernel
theorem dX12_isFree_47 : decode cX12_isFree 47 = .ok (.goto (-45), 3) := by decide +kernel
theorem dX12_isFree_50 : decode cX12_isFree 50 = .ok (.iconst 1, 1) := by decide +kernel
theorem dX12_isFree_51 : decode cX12_isFree 51 = .ok (.ireturn, 1) := by decide +kernel
noncomputable def bs_X12_isFree : List (Nat × XB) := [
  (0, (sq (xC (.int 0)) (sq (xSI 2) (tGo 2 [true, true, true])))),
  (2, (sq (xLI 2) (sq (xLI 1) (tIf2 (fun x y => decide (y ≤ x)) 50 [false, false, false] 7 [true, true, true])))),
  (7, (sq (xLA 0) (sq (xLI 2) (sq (xCI 11 2 F_X12_isBurnt) (tIf1 (fun x => decide (¬ x = 0)) 44 [true, true, true] 15 [true, true, true]))))),
  (15, (sq (xLA 0) (sq (xGS 11 56 1 0) (sq (xLI 2) (sq (xAI 56 7) (sq (xLA 0) (sq (xGS 11 56 1 0) (sq (xLI 1) (sq (xAI 56 7) (tIf2 (fun x y => decide (¬ x = y)) 44 [true, true, true] 30 [true, true, true])))))))))),
  (30, (sq (xLA 0) (sq (xLI 1) (sq (xCI 11 2 F_X12_besideOf) (sq (xLI 2) (sq (xCI 99 2 F_X12_isOf) (tIf1 (fun x => decide (x = 0)) 44 [true, true, true] 42 [false, false, false]))))))),
  (42, (sq (xC (.int 0)) tRZ)),
  (44, (sq (xInc 2 1) (tGo 2 [true, true, true]))),
  (50, (sq (xC (.int 1)) tRZ))]
set_option maxRecDepth 100000 in
set_option maxHeartbeats 4000000 in
theorem s_X12_isFree : ∀ X : XCtx, XE X → X.2.2.1.1 = cX12_isFree → X.2.2.1.2.1 = 3 → X.2.2.1.2.2.1 = yX12_isFree.cls → X.2.2.1.2.2.2.1 = (some .boolean) → X.1.2.2.2.1 = { frames := 2, cells := 0, slots := 0, locals := 42 } → SndBs X bs_X12_isFree := by
  rintro ⟨⟨p, l, e, R, s⟩, Y, ⟨cc, nL, own, ret, Ts⟩, Z⟩ hE h1 h2 h3 h4 h5
  dsimp only at h1 h2 h3 h4 h5
  subst h1 h2 h3 h4 h5
  exact ⟨(n_sq (n_iconst hE (by decide) dX12_isFree_0) (n_sq (n_istore_n hE (show (2 : Nat) < 3 by decide) dX12_isFree_1) n_fall)),
    (n_sq (n_iload_n hE dX12_isFree_2) (n_sq (n_iload_n hE dX12_isFree_3) (n_ifcge hE (by decide) dX12_isFree_4))),
    (n_sq (n_aload_n hE dX12_isFree_7) (n_sq (n_iload_n hE dX12_isFree_8) (n_sq (n_cIv hE m_X12_isBurnt vc_X12_351 (show 1 + 1 ≤ 2 ∧ 8 + (2 + 11) + 21 ≤ 42 by decide) dX12_isFree_9) (n_ifne hE (by decide) dX12_isFree_12)))),
    (n_sq (n_aload_n hE dX12_isFree_15) (n_sq (n_getS hE xk_11 (k := 30) rfl (by decide) rfl wt_990 dX12_isFree_16) (n_sq (n_iload_n hE dX12_isFree_19) (n_sq (n_iald hE rfl (by decide) dX12_isFree_20) (n_sq (n_aload_n hE dX12_isFree_21) (n_sq (n_getS hE xk_11 (k := 30) rfl (by decide) rfl wt_990 dX12_isFree_22) (n_sq (n_iload_n hE dX12_isFree_25) (n_sq (n_iald hE rfl (by decide) dX12_isFree_26) (n_ifcne hE (by decide) dX12_isFree_27))))))))),
    (n_sq (n_aload_n hE dX12_isFree_30) (n_sq (n_iload_n hE dX12_isFree_31) (n_sq (n_cIv hE m_X12_besideOf vc_X12_317 (show 0 + 1 ≤ 2 ∧ 8 + (2 + 11) + 0 ≤ 42 by decide) dX12_isFree_32) (n_sq (n_iload_n hE dX12_isFree_35) (n_sq (n_cIs hE m_X12_isOf vc_X12_92 (show 0 + 1 ≤ 2 ∧ 8 + (2 + 11) + 0 ≤ 42 by decide) dX12_isFree_36) (n_ifeq hE (by decide) dX12_isFree_39)))))),
    (n_sq (n_iconst hE (by decide) dX12_isFree_42) (n_zreturn hE rfl dX12_isFree_43)),
    (n_sq (n_iinc hE (by decide) (show (2 : Nat) < 3 by decide) dX12_isFree_44) (n_goto hE (by decide) dX12_isFree_47)),
    (n_sq (n_iconst hE (by decide) dX12_isFree_50) (n_zreturn hE rfl dX12_isFree_51)), trivial⟩
noncomputable def F_X12_isFree (as : List XV) (w : XW) : Option (Int32 × XW) := (xF 3 bs_X12_isFree as w).bind pI
theorem m_X12_isFree : XM yX12_isFree cX12_isFree 3 (some .boolean) 2 42 (eI F_X12_isFree) := xm_I (xm_of (by decide) s_X12_isFree)
noncomputable def q_X12_isFree_0 (x1 : Int32) (w : XW) : Option XR := ev bs_X12_isFree 0 ([some (.inr (11, 0)), some (.inl (.int x1)), none], [], w)
noncomputable def q_X12_isFree_2 (x1 : Int32) (x2 : Int32) (w : XW) : Option XR := ev bs_X12_isFree 2 ([some (.inr (11, 0)), some (.inl (.int x1)), some (.inl (.int x2))], [], w)
noncomputable def q_X12_isFree_7 (x1 : Int32) (x2 : Int32) (w : XW) : Option XR := ev bs_X12_isFree 7 ([some (.inr (11, 0)), some (.inl (.int x1)), some (.inl (.int x2))], [], w)
noncomputable def q_X12_isFree_15 (x1 : Int32) (x2 : Int32) (w : XW) : Option XR := ev bs_X12_isFree 15 ([some (.inr (11, 0)), some (.inl (.int x1)), some (.inl (.int x2))], [], w)
noncomputable def q_X12_isFree_30 (x1 : Int32) (x2 : Int32) (w : XW) : Option XR := ev bs_X12_isFree 30 ([some (.inr (11, 0)), some (.inl (.int x1)), some (.inl (.int x2))], [], w)
noncomputable def q_X12_isFree_42 (w : XW) : Option XR := ev bs_X12_isFree 42 ([none, none, none], [], w)
noncomputable def q_X12_isFree_44 (x1 : Int32) (x2 : Int32) (w : XW) : Option XR := ev bs_X12_isFree 44 ([some (.inr (11, 0)), some (.inl (.int x1)), some (.inl (.int x2))], [], w)
noncomputable def q_X12_isFree_50 (w : XW) : Option XR := ev bs_X12_isFree 50 ([none, none, none], [], w)
theorem e_X12_isFree_0 (x1 : Int32) (w : XW) : q_X12_isFree_0 x1 w = (q_X12_isFree_2 x1 0 w) := (ev_eq _ _ _).trans rfl
theorem e_X12_isFree_2 (x1 : Int32) (x2 : Int32) (w : XW) : q_X12_isFree_2 x1 x2 w = (bif decide (x1 ≤ x2) then (q_X12_isFree_50 w) else (q_X12_isFree_7 x1 x2 w)) := (ev_eq _ _ _).trans rfl
theorem e_X12_isFree_7 (x1 : Int32) (x2 : Int32) (w : XW) : q_X12_isFree_7 x1 x2 w = ((F_X12_isBurnt [.inr (11, 0), .inl (.int x2)] w).bind fun r0 => (bif decide (¬ r0.1 = 0) then (q_X12_isFree_44 x1 x2 r0.2) else (q_X12_isFree_15 x1 x2 r0.2))) := (ev_eq _ _ _).trans rfl
theorem e_X12_isFree_15 (x1 : Int32) (x2 : Int32) (w : XW) : q_X12_isFree_15 x1 x2 w = (if x2 < 0 ∨ 7 ≤ x2.toNatClampNeg then none else (if x1 < 0 ∨ 7 ≤ x1.toNatClampNeg then none else (bif decide (¬ (gI w 56 0 x2.toNatClampNeg) = (gI w 56 0 x1.toNatClampNeg)) then (q_X12_isFree_44 x1 x2 w) else (q_X12_isFree_30 x1 x2 w)))) := (ev_eq _ _ _).trans rfl
theorem e_X12_isFree_30 (x1 : Int32) (x2 : Int32) (w : XW) : q_X12_isFree_30 x1 x2 w = ((F_X12_besideOf [.inr (11, 0), .inl (.int x1)] w).bind fun r0 => ((F_X12_isOf [.inl (.int r0.1), .inl (.int x2)] r0.2).bind fun r1 => (bif decide (r1.1 = 0) then (q_X12_isFree_44 x1 x2 r1.2) else (q_X12_isFree_42 r1.2)))) := (ev_eq _ _ _).trans rfl
theorem e_X12_isFree_42 (w : XW) : q_X12_isFree_42 w = (some (some (.inl (.int 0)), w)) := (ev_eq _ _ _).trans rfl
theorem e_X12_isFree_44 (x1 : Int32) (x2 : Int32) (w : XW) : q_X12_isFree_44 x1 x2 w = (q_X12_isFree_2 x1 (x2 + 1) w) := (ev_eq _ _ _).trans rfl
theorem e_X12_isFree_50 (w : XW) : q_X12_isFree_50 w = (some (some (.inl (.int 1)), w)) := (ev_eq _ _ _).trans rfl
theorem f_X12_isFree (x1 : Int32) (w : XW) : F_X12_isFree [.inr (11, 0), .inl (.int x1)] w = (q_X12_isFree_0 x1 w).bind pI := rfl

-- WinterKeepModel.isDoneBy(I)Z
theorem dX12_isDoneBy_0 : decode cX12_isDoneBy 0 = .ok (.iconst 0, 1) := by decide +kernel
theorem dX12_isDoneBy_1 : decode cX12_isDoneBy 1 = .ok (.istore_n 2, 1) := by decide +kernel
theorem dX12_isDoneBy_2 : decode cX12_isDoneBy 2 = .ok (.aload_n 0, 1) := by decide +kernel
theorem dX12_isDoneBy_3 : decode cX12_isDoneBy 3 = .ok (.getfield 64, 3) := by decide +kernel
theorem dX12_isDoneBy_6 : decode cX12_isDoneBy 6 = .ok (.iconst 0, 1) := by decide +kernel
theorem dX12_isDoneBy_7 : decode cX12_isDoneBy 7 = .ok (.iconst (-1), 1) := by decide +kernel
theorem dX12_isDoneBy_8 : decode cX12_isDoneBy 8 = .ok (.iastore, 1) := by decide +kernel
theorem dX12_isDoneBy_9 : decode cX12_isDoneBy 9 = .ok (.iload_n 2, 1) := by decide +kernel
theorem dX12_isDoneBy_10 : decode cX12_isDoneBy 10 = .ok (.ifCond .lt 82, 3) := by decide +kernel
theorem dX12_isDoneBy_13 : decode cX12_isDoneBy 13 = .ok (.iload_n 2, 1) := by decide +kernel
theorem dX12_isDoneBy_14 : decode cX12_isDoneBy 14 = .ok (.aload_n 0, 1) := by decide +kernel
theorem dX12_isDoneBy_15 : decode cX12_isDoneBy 15 = .ok (.getfield 39, 3) := by decide +kernel
theorem dX12_isDoneBy_18 : decode cX12_isDoneBy 18 = .ok (.iconst 3, 1) := by decide +kernel
theorem dX12_isDoneBy_19 : decode cX12_isDoneBy 19 = .ok (.iaload, 1) := by decide +kernel
theorem dX12_isDoneBy_20 : decode cX12_isDoneBy 20 = .ok (.if_icmp .ge 72, 3) := by decide +kernel
theorem dX12_isDoneBy_23 : decode cX12_isDoneBy 23 = .ok (.aload_n 0, 1) := by decide +kernel
theorem dX12_isDoneBy_24 : decode cX12_isDoneBy 24 = .ok (.iload_n 2, 1) := by decide +kernel
theorem dX12_isDoneBy_25 : decode cX12_isDoneBy 25 = .ok (.invokevirtual 351, 3) := by decide +kernel
theorem dX12_isDoneBy_28 : decode cX12_isDoneBy 28 = .ok (.ifCond .eq 7, 3) := by decide +kernel
theorem dX12_isDoneBy_31 : decode cX12_isDoneBy 31 = .ok (.iconst 1, 1) := by decide +kernel
theorem dX12_isDoneBy_32 : decode cX12_isDoneBy 32 = .ok (.goto 4, 3) := by decide +kernel
theorem dX12_isDoneBy_35 : decode cX12_isDoneBy 35 = .ok (.iload_n 1, 1) := by decide +kernel
theorem dX12_isDoneBy_36 : decode cX12_isDoneBy 36 = .ok (.istore_n 3, 1) := by decide +kernel
theorem dX12_isDoneBy_37 : decode cX12_isDoneBy 37 = .ok (.aload_n 0, 1) := by decide +kernel
theorem dX12_isDoneBy_38 : decode cX12_isDoneBy 38 = .ok (.getfield 64, 3) := by decide +kernel
theorem dX12_isDoneBy_41 : decode cX12_isDoneBy 41 = .ok (.iload_n 2, 1) := by decide +kernel
theorem dX12_isDoneBy_42 : decode cX12_isDoneBy 42 = .ok (.dup2, 1) := by decide +kernel
theorem dX12_isDoneBy_43 : decode cX12_isDoneBy 43 = .ok (.iaload, 1) := by decide +kernel
theorem dX12_isDoneBy_44 : decode cX12_isDoneBy 44 = .ok (.iconst 1, 1) := by decide +kernel
theorem dX12_isDoneBy_45 : decode cX12_isDoneBy 45 = .ok (.iadd, 1) := by decide +kernel
theorem dX12_isDoneBy_46 : decode cX12_isDoneBy 46 = .ok (.iastore, 1) := by decide +kernel
theorem dX12_isDoneBy_47 : decode cX12_isDoneBy 47 = .ok (.aload_n 0, 1) := by decide +kernel
theorem dX12_isDoneBy_48 : decode cX12_isDoneBy 48 = .ok (.getfield 64, 3) := by decide +kernel
theorem dX12_isDoneBy_51 : decode cX12_isDoneBy 51 = .ok (.iload_n 2, 1) := by decide +kernel
theorem dX12_isDoneBy_52 : decode cX12_isDoneBy 52 = .ok (.iaload, 1) := by decide +kernel
theorem dX12_isDoneBy_53 : decode cX12_isDoneBy 53 = .ok (.iload_n 3, 1) := by decide +kernel
theorem dX12_isDoneBy_54 : decode cX12_isDoneBy 54 = .ok (.if_icmp .lt 9, 3) := by decide +kernel
theorem dX12_isDoneBy_57 : decode cX12_isDoneBy 57 = .ok (.iinc 2 (-1), 3) := by decide +kernel
theorem dX12_isDoneBy_60 : decode cX12_isDoneBy 60 = .ok (.goto 29, 3) := by decide +kernel
theorem dX12_isDoneBy_63 : decode cX12_isDoneBy 63 = .ok (.aload_n 0, 1) := by decide +kernel
theorem dX12_isDoneBy_64 : decode cX12_isDoneBy 64 = .ok (.iload_n 2, 1) := by decide +kernel
theorem dX12_isDoneBy_65 : decode cX12_isDoneBy 65 = .ok (.invokevirtual 351, 3) := by decide +kernel
theorem dX12_isDoneBy_68 : decode cX12_isDoneBy 68 = .ok (.ifCond .ne 11, 3) := by decide +kernel
theorem dX12_isDoneBy_71 : decode cX12_isDoneBy 71 = .ok (.aload_n 0, 1) := by decide +kernel
theorem dX12_isDoneBy_72 : decode cX12_isDoneBy 72 = .ok (.iload_n 2, 1) := by decide +kernel
theorem dX12_isDoneBy_73 : decode cX12_isDoneBy 73 = .ok (.invokevirtual 404, 3) := by decide +kernel
theorem dX12_isDoneBy_76 : decode cX12_isDoneBy 76 = .ok (.ifCond .eq 13, 3) := by decide +kernel
theorem dX12_isDoneBy_79 : decode cX12_isDoneBy 79 = .ok (.iinc 2 1, 3) := by decide +kernel
theorem dX12_isDoneBy_82 : decode cX12_isDoneBy 82 = .ok (.aload_n 0, 1) := by decide +kernel
theorem dX12_isDoneBy_83 : decode cX12_isDoneBy 83 = .ok (.getfield 64, 3) := by decide +kernel
theorem dX12_isDoneBy_86 : decode cX12_isDoneBy 86 = .ok (.iload_n 2, 1) := by decide +kernel
theorem dX12_isDoneBy_87 : decode cX12_isDoneBy 87 = .ok (.iconst (-1), 1) := by decide +kernel
theorem dX12_isDoneBy_88 : decode cX12_isDoneBy 88 = .ok (.iastore, 1) := by decide +kernel
theorem dX12_isDoneBy_89 : decode cX12_isDoneBy 89 = .ok (.goto (-80), 3) := by decide +kernel
theorem dX12_isDoneBy_92 : decode cX12_isDoneBy 92 = .ok (.iload_n 2, 1) := by decide +kernel
theorem dX12_isDoneBy_93 : decode cX12_isDoneBy 93 = .ok (.aload_n 0, 1) := by decide +kernel
theorem dX12_isDoneBy_94 : decode cX12_isDoneBy 94 = .ok (.getfield 39, 3) := by decide +kernel
theorem dX12_isDoneBy_97 : decode cX12_isDoneBy 97 = .ok (.iconst 3, 1) := by decide +kernel
theorem dX12_isDoneBy_98 : decode cX12_isDoneBy 98 = .ok (.iaload, 1) := by decide +kernel
theorem dX12_isDoneBy_99 : decode cX12_isDoneBy 99 = .ok (.if_icmp .ne 7, 3) := by decide +kernel
theorem dX12_isDoneBy_102 : decode cX12_isDoneBy 102 = .ok (.iconst 1, 1) := by decide +kernel
theorem dX12_isDoneBy_103 : decode cX12_isDoneBy 103 = .ok (.goto 4, 3) := by decide +kernel
theorem dX12_isDoneBy_106 : decode cX12_isDoneBy 106 = .ok (.iconst 0, 1) := by decide +kernel
theorem dX12_isDoneBy_107 : decode cX12_isDoneBy 107 = .ok (.ireturn, 1) := by decide +kernel
theorem vc_X12_404 : XVw RX12 404 1 11 3 yX12_isFree cX12_isFree (some .boolean) := ⟨RX12, TX12, tyX12, 43, xk_11, rfl, ⟨by decide, by decide⟩, by decide +kernel, wt_1477, wt_1479, ws_104, wt_11, wt_1480⟩
noncomputable def bs_X12_isDoneBy : List (Nat × XB) := [
  (0, (sq (xC (.int 0)) (sq (xSI 2) (sq (xLA 0) (sq (xGS 11 56 1 0) (sq (xC (.int 0)) (sq (xC (.int (-1))) (sq (xTI 56 7 (fun x => x)) (tGo 9 [true, true, true, false]))))))))),
  (9, (sq (xLI 2) (tIf1 (fun x => decide (x < 0)) 92 [true, false, true, false] 13 [true, true, true, false]))),
  (13, (sq (xLI 2) (sq (xLA 0) (sq (xGS 11 50 1 0) (sq (xC (.int 3)) (sq (xAI 50 98) (tIf2 (fun x y => decide (y ≤ x)) 92 [true, false, true, false] 23 [true, true, true, false]))))))),
  (23, (sq (xLA 0) (sq (xLI 2) (sq (xCI 11 2 F_X12_isBurnt) (tIf1 (fun x => decide (x = 0)) 35 [true, true, true, false] 31 [true, true, true, false]))))),
  (31, (sq (xC (.int 1)) (tGo 36 [true, true, true, false]))),
  (35, (sq (xLI 1) (tGo 36 [true, true, true, false]))),
  (36, (sq (xSI 3) (sq (xLA 0) (sq (xGS 11 56 1 0) (sq (xLI 2) (sq (xDup2) (sq (xAI 56 7) (sq (xC (.int 1)) (sq (xI2 (· + ·)) (sq (xTI 56 7 (fun x => x)) (sq (xLA 0) (sq (xGS 11 56 1 0) (sq (xLI 2) (sq (xAI 56 7) (sq (xLI 3) (tIf2 (fun x y => decide (x < y)) 63 [true, true, true, false] 57 [true, true, true, false])))))))))))))))),
  (57, (sq (xInc 2 (-1)) (tGo 89 [true, true, true, false]))),
  (63, (sq (xLA 0) (sq (xLI 2) (sq (xCI 11 2 F_X12_isBurnt) (tIf1 (fun x => decide (¬ x = 0)) 79 [true, true, true, false] 71 [true, true, true, false]))))),
  (71, (sq (xLA 0) (sq (xLI 2) (sq (xCI 11 2 F_X12_isFree) (tIf1 (fun x => decide (x = 0)) 89 [true, true, true, false] 79 [true, true, true, false]))))),
  (79, (sq (xInc 2 1) (sq (xLA 0) (sq (xGS 11 56 1 0) (sq (xLI 2) (sq (xC (.int (-1))) (sq (xTI 56 7 (fun x => x)) (tGo 89 [true, true, true, false])))))))),
  (89, (tGo 9 [true, true, true, false])),
  (92, (sq (xLI 2) (sq (xLA 0) (sq (xGS 11 50 1 0) (sq (xC (.int 3)) (sq (xAI 50 98) (tIf2 (fun x y => decide (¬ x = y)) 106 [false, false, false, false] 102 [false, false, false, false]))))))),
  (102, (sq (xC (.int 1)) (tGo 107 [false, false, false, false]))),
  (106, (sq (xC (.int 0)) (tGo 107 [false, false, false, false]))),
  (107, tRZ)]
set_option maxRecDepth 100000 in
set_option maxHeartbeats 4000000 in
theorem s_X12_isDoneBy : ∀ X : XCtx, XE X → X.2.2.1.1 = cX12_isDoneBy → X.2.2.1.2.1 = 4 → X.2.2.1.2.2.1 = yX12_isDoneBy.cls → X.2.2.1.2.2.2.1 = (some .boolean) → X.1.2.2.2.1 = { frames := 3, cells := 0, slots := 0, locals := 64 } → SndBs X bs_X12_isDoneBy := by
  rintro ⟨⟨p, l, e, R, s⟩, Y, ⟨cc, nL, own, ret, Ts⟩, Z⟩ hE h1 h2 h3 h4 h5
  dsimp only at h1 h2 h3 h4 h5
  subst h1 h2 h3 h4 h5
  exact ⟨(n_sq (n_iconst hE (by decide) dX12_isDoneBy_0) (n_sq (n_istore_n hE (show (2 : Nat) < 4 by decide) dX12_isDoneBy_1) (n_sq (n_aload_n hE dX12_isDoneBy_2) (n_sq (n_getS hE xk_11 (k := 30) rfl (by decide) rfl wt_990 dX12_isDoneBy_3) (n_sq (n_iconst hE (by decide) dX12_isDoneBy_6) (n_sq (n_iconst hE (by decide) dX12_isDoneBy_7) (n_sq (n_iast hE rfl (by decide) dX12_isDoneBy_8) n_fall))))))),
    (n_sq (n_iload_n hE dX12_isDoneBy_9) (n_iflt hE (by decide) dX12_isDoneBy_10)),
    (n_sq (n_iload_n hE dX12_isDoneBy_13) (n_sq (n_aload_n hE dX12_isDoneBy_14) (n_sq (n_getS hE xk_11 (k := 20) rfl (by decide) rfl wt_980 dX12_isDoneBy_15) (n_sq (n_iconst hE (by decide) dX12_isDoneBy_18) (n_sq (n_iald hE rfl (by decide) dX12_isDoneBy_19) (n_ifcge hE (by decide) dX12_isDoneBy_20)))))),
    (n_sq (n_aload_n hE dX12_isDoneBy_23) (n_sq (n_iload_n hE dX12_isDoneBy_24) (n_sq (n_cIv hE m_X12_isBurnt vc_X12_351 (show 1 + 1 ≤ 3 ∧ 8 + (2 + 11) + 21 ≤ 64 by decide) dX12_isDoneBy_25) (n_ifeq hE (by decide) dX12_isDoneBy_28)))),
    (n_sq (n_iconst hE (by decide) dX12_isDoneBy_31) (n_goto hE (by decide) dX12_isDoneBy_32)),
    (n_sq (n_iload_n hE dX12_isDoneBy_35) n_fall),
    (n_sq (n_istore_n hE (show (3 : Nat) < 4 by decide) dX12_isDoneBy_36) (n_sq (n_aload_n hE dX12_isDoneBy_37) (n_sq (n_getS hE xk_11 (k := 30) rfl (by decide) rfl wt_990 dX12_isDoneBy_38) (n_sq (n_iload_n hE dX12_isDoneBy_41) (n_sq (n_dup2 hE dX12_isDoneBy_42) (n_sq (n_iald hE rfl (by decide) dX12_isDoneBy_43) (n_sq (n_iconst hE (by decide) dX12_isDoneBy_44) (n_sq (n_iadd hE dX12_isDoneBy_45) (n_sq (n_iast hE rfl (by decide) dX12_isDoneBy_46) (n_sq (n_aload_n hE dX12_isDoneBy_47) (n_sq (n_getS hE xk_11 (k := 30) rfl (by decide) rfl wt_990 dX12_isDoneBy_48) (n_sq (n_iload_n hE dX12_isDoneBy_51) (n_sq (n_iald hE rfl (by decide) dX12_isDoneBy_52) (n_sq (n_iload_n hE dX12_isDoneBy_53) (n_ifclt hE (by decide) dX12_isDoneBy_54))))))))))))))),
    (n_sq (n_iinc hE (by decide) (show (2 : Nat) < 4 by decide) dX12_isDoneBy_57) (n_goto hE (by decide) dX12_isDoneBy_60)),
    (n_sq (n_aload_n hE dX12_isDoneBy_63) (n_sq (n_iload_n hE dX12_isDoneBy_64) (n_sq (n_cIv hE m_X12_isBurnt vc_X12_351 (show 1 + 1 ≤ 3 ∧ 8 + (2 + 11) + 21 ≤ 64 by decide) dX12_isDoneBy_65) (n_ifne hE (by decide) dX12_isDoneBy_68)))),
    (n_sq (n_aload_n hE dX12_isDoneBy_71) (n_sq (n_iload_n hE dX12_isDoneBy_72) (n_sq (n_cIv hE m_X12_isFree vc_X12_404 (show 2 + 1 ≤ 3 ∧ 8 + (3 + 11) + 42 ≤ 64 by decide) dX12_isDoneBy_73) (n_ifeq hE (by decide) dX12_isDoneBy_76)))),
    (n_sq (n_iinc hE (by decide) (show (2 : Nat) < 4 by decide) dX12_isDoneBy_79) (n_sq (n_aload_n hE dX12_isDoneBy_82) (n_sq (n_getS hE xk_11 (k := 30) rfl (by decide) rfl wt_990 dX12_isDoneBy_83) (n_sq (n_iload_n hE dX12_isDoneBy_86) (n_sq (n_iconst hE (by decide) dX12_isDoneBy_87) (n_sq (n_iast hE rfl (by decide) dX12_isDoneBy_88) n_fall)))))),
    (n_goto hE (by decide) dX12_isDoneBy_89),
    (n_sq (n_iload_n hE dX12_isDoneBy_92) (n_sq (n_aload_n hE dX12_isDoneBy_93) (n_sq (n_getS hE xk_11 (k := 20) rfl (by decide) rfl wt_980 dX12_isDoneBy_94) (n_sq (n_iconst hE (by decide) dX12_isDoneBy_97) (n_sq (n_iald hE rfl (by decide) dX12_isDoneBy_98) (n_ifcne hE (by decide) dX12_isDoneBy_99)))))),
    (n_sq (n_iconst hE (by decide) dX12_isDoneBy_102) (n_goto hE (by decide) dX12_isDoneBy_103)),
    (n_sq (n_iconst hE (by decide) dX12_isDoneBy_106) n_fall),
    (n_zreturn hE rfl dX12_isDoneBy_107), trivial⟩
noncomputable def F_X12_isDoneBy (as : List XV) (w : XW) : Option (Int32 × XW) := (xF 4 bs_X12_isDoneBy as w).bind pI
theorem m_X12_isDoneBy : XM yX12_isDoneBy cX12_isDoneBy 4 (some .boolean) 3 64 (eI F_X12_isDoneBy) := xm_I (xm_of (by decide) s_X12_isDoneBy)
noncomputable def q_X12_isDoneBy_0 (x1 : Int32) (w : XW) : Option XR := ev bs_X12_isDoneBy 0 ([some (.inr (11, 0)), some (.inl (.int x1)), none, none], [], w)
noncomputable def q_X12_isDoneBy_9 (x1 : Int32) (x2 : Int32) (w : XW) : Option XR := ev bs_X12_isDoneBy 9 ([some (.inr (11, 0)), some (.inl (.int x1)), some (.inl (.int x2)), none], [], w)
noncomputable def q_X12_isDoneBy_13 (x1 : Int32) (x2 : Int32) (w : XW) : Option XR := ev bs_X12_isDoneBy 13 ([some (.inr (11, 0)), some (.inl (.int x1)), some (.inl (.int x2)), none], [], w)
noncomputable def q_X12_isDoneBy_23 (x1 : Int32) (x2 : Int32) (w : XW) : Option XR := ev bs_X12_isDoneBy 23 ([some (.inr (11, 0)), some (.inl (.int x1)), some (.inl (.int x2)), none], [], w)
noncomputable def q_X12_isDoneBy_31 (x1 : Int32) (x2 : Int32) (w : XW) : Option XR := ev bs_X12_isDoneBy 31 ([some (.inr (11, 0)), some (.inl (.int x1)), some (.inl (.int x2)), none], [], w)
noncomputable def q_X12_isDoneBy_35 (x1 : Int32) (x2 : Int32) (w : XW) : Option XR := ev bs_X12_isDoneBy 35 ([some (.inr (11, 0)), some (.inl (.int x1)), some (.inl (.int x2)), none], [], w)
noncomputable def q_X12_isDoneBy_36 (x1 : Int32) (x2 : Int32) (s0 : Int32) (w : XW) : Option XR := ev bs_X12_isDoneBy 36 ([some (.inr (11, 0)), some (.inl (.int x1)), some (.inl (.int x2)), none], [.inl (.int s0)], w)
noncomputable def q_X12_isDoneBy_57 (x1 : Int32) (x2 : Int32) (w : XW) : Option XR := ev bs_X12_isDoneBy 57 ([some (.inr (11, 0)), some (.inl (.int x1)), some (.inl (.int x2)), none], [], w)
noncomputable def q_X12_isDoneBy_63 (x1 : Int32) (x2 : Int32) (w : XW) : Option XR := ev bs_X12_isDoneBy 63 ([some (.inr (11, 0)), some (.inl (.int x1)), some (.inl (.int x2)), none], [], w)
noncomputable def q_X12_isDoneBy_71 (x1 : Int32) (x2 : Int32) (w : XW) : Option XR := ev bs_X12_isDoneBy 71 ([some (.inr (11, 0)), some (.inl (.int x1)), some (.inl (.int x2)), none], [], w)
noncomputable def q_X12_isDoneBy_79 (x1 : Int32) (x2 : Int32) (w : XW) : Option XR := ev bs_X12_isDoneBy 79 ([some (.inr (11, 0)), some (.inl (.int x1)), some (.inl (.int x2)), none], [], w)
noncomputable def q_X12_isDoneBy_89 (x1 : Int32) (x2 : Int32) (w : XW) : Option XR := ev bs_X12_isDoneBy 89 ([some (.inr (11, 0)), some (.inl (.int x1)), some (.inl (.int x2)), none], [], w)
noncomputable def q_X12_isDoneBy_92 (x2 : Int32) (w : XW) : Option XR := ev bs_X12_isDoneBy 92 ([some (.inr (11, 0)), none, some (.inl (.int x2)), none], [], w)
noncomputable def q_X12_isDoneBy_102 (w : XW) : Option XR := ev bs_X12_isDoneBy 102 ([none, none, none, none], [], w)
noncomputable def q_X12_isDoneBy_106 (w : XW) : Option XR := ev bs_X12_isDoneBy 106 ([none, none, none, none], [], w)
noncomputable def q_X12_isDoneBy_107 (s0 : Int32) (w : XW) : Option XR := ev bs_X12_isDoneBy 107 ([none, none, none, none], [.inl (.int s0)], w)
theorem e_X12_isDoneBy_0 (x1 : Int32) (w : XW) : q_X12_isDoneBy_0 x1 w = (q_X12_isDoneBy_9 x1 0 (sI w 56 0 0 (-1))) := (ev_eq _ _ _).trans rfl
theorem e_X12_isDoneBy_9 (x1 : Int32) (x2 : Int32) (w : XW) : q_X12_isDoneBy_9 x1 x2 w = (bif decide (x2 < 0) then (q_X12_isDoneBy_92 x2 w) else (q_X12_isDoneBy_13 x1 x2 w)) := (ev_eq _ _ _).trans rfl
theorem e_X12_isDoneBy_13 (x1 : Int32) (x2 : Int32) (w : XW) : q_X12_isDoneBy_13 x1 x2 w = (bif decide ((gI w 50 0 3) ≤ x2) then (q_X12_isDoneBy_92 x2 w) else (q_X12_isDoneBy_23 x1 x2 w)) := (ev_eq _ _ _).trans rfl
theorem e_X12_isDoneBy_23 (x1 : Int32) (x2 : Int32) (w : XW) : q_X12_isDoneBy_23 x1 x2 w = ((F_X12_isBurnt [.inr (11, 0), .inl (.int x2)] w).bind fun r0 => (bif decide (r0.1 = 0) then (q_X12_isDoneBy_35 x1 x2 r0.2) else (q_X12_isDoneBy_31 x1 x2 r0.2))) := (ev_eq _ _ _).trans rfl
theorem e_X12_isDoneBy_31 (x1 : Int32) (x2 : Int32) (w : XW) : q_X12_isDoneBy_31 x1 x2 w = (q_X12_isDoneBy_36 x1 x2 1 w) := (ev_eq _ _ _).trans rfl
theorem e_X12_isDoneBy_35 (x1 : Int32) (x2 : Int32) (w : XW) : q_X12_isDoneBy_35 x1 x2 w = (q_X12_isDoneBy_36 x1 x2 x1 w) := (ev_eq _ _ _).trans rfl
theorem e_X12_isDoneBy_36 (x1 : Int32) (x2 : Int32) (s0 : Int32) (w : XW) : q_X12_isDoneBy_36 x1 x2 s0 w = (if x2 < 0 ∨ 7 ≤ x2.toNatClampNeg then none else (if x2 < 0 ∨ 7 ≤ x2.toNatClampNeg then none else (if x2 < 0 ∨ 7 ≤ x2.toNatClampNeg then none else (bif decide ((gI (sI w 56 0 x2.toNatClampNeg ((gI w 56 0 x2.toNatClampNeg) + 1)) 56 0 x2.toNatClampNeg) < s0) then (q_X12_isDoneBy_63 x1 x2 (sI w 56 0 x2.toNatClampNeg ((gI w 56 0 x2.toNatClampNeg) + 1))) else (q_X12_isDoneBy_57 x1 x2 (sI w 56 0 x2.toNatClampNeg ((gI w 56 0 x2.toNatClampNeg) + 1))))))) := (ev_eq _ _ _).trans rfl
theorem e_X12_isDoneBy_57 (x1 : Int32) (x2 : Int32) (w : XW) : q_X12_isDoneBy_57 x1 x2 w = (q_X12_isDoneBy_89 x1 (x2 + (-1)) w) := (ev_eq _ _ _).trans rfl
theorem e_X12_isDoneBy_63 (x1 : Int32) (x2 : Int32) (w : XW) : q_X12_isDoneBy_63 x1 x2 w = ((F_X12_isBurnt [.inr (11, 0), .inl (.int x2)] w).bind fun r0 => (bif decide (¬ r0.1 = 0) then (q_X12_isDoneBy_79 x1 x2 r0.2) else (q_X12_isDoneBy_71 x1 x2 r0.2))) := (ev_eq _ _ _).trans rfl
theorem e_X12_isDoneBy_71 (x1 : Int32) (x2 : Int32) (w : XW) : q_X12_isDoneBy_71 x1 x2 w = ((F_X12_isFree [.inr (11, 0), .inl (.int x2)] w).bind fun r0 => (bif decide (r0.1 = 0) then (q_X12_isDoneBy_89 x1 x2 r0.2) else (q_X12_isDoneBy_79 x1 x2 r0.2))) := (ev_eq _ _ _).trans rfl
theorem e_X12_isDoneBy_79 (x1 : Int32) (x2 : Int32) (w : XW) : q_X12_isDoneBy_79 x1 x2 w = (if (x2 + 1) < 0 ∨ 7 ≤ (x2 + 1).toNatClampNeg then none else (q_X12_isDoneBy_89 x1 (x2 + 1) (sI w 56 0 ((x2 + 1).toNatClampNeg) (-1)))) := (ev_eq _ _ _).trans rfl
theorem e_X12_isDoneBy_89 (x1 : Int32) (x2 : Int32) (w : XW) : q_X12_isDoneBy_89 x1 x2 w = (q_X12_isDoneBy_9 x1 x2 w) := (ev_eq _ _ _).trans rfl
theorem e_X12_isDoneBy_92 (x2 : Int32) (w : XW) : q_X12_isDoneBy_92 x2 w = (bif decide (¬ x2 = (gI w 50 0 3)) then (q_X12_isDoneBy_106 w) else (q_X12_isDoneBy_102 w)) := (ev_eq _ _ _).trans rfl
theorem e_X12_isDoneBy_102 (w : XW) : q_X12_isDoneBy_102 w = (q_X12_isDoneBy_107 1 w) := (ev_eq _ _ _).trans rfl
theorem e_X12_isDoneBy_106 (w : XW) : q_X12_isDoneBy_106 w = (q_X12_isDoneBy_107 0 w) := (ev_eq _ _ _).trans rfl
theorem e_X12_isDoneBy_107 (s0 : Int32) (w : XW) : q_X12_isDoneBy_107 s0 w = (if s0 = 0 ∨ s0 = 1 then some (some (.inl (.int s0)), w) else none) := (ev_eq _ _ _).trans rfl
theorem f_X12_isDoneBy (x1 : Int32) (w : XW) : F_X12_isDoneBy [.inr (11, 0), .inl (.int x1)] w = (q_X12_isDoneBy_0 x1 w).bind pI := rfl

-- WinterKeepModel.apart(I)I
theorem dX12_apart_0 : decode cX12_apart 0 = .ok (.aload_n 0, 1) := by decide +kernel
theorem dX12_apart_1 : decode cX12_apart 1 = .ok (.invokevirtual 369, 3) := by decide +kernel
theorem dX12_apart_4 : decode cX12_apart 4 = .ok (.ifCond .eq 17, 3) := by decide +kernel
theorem dX12_apart_7 : decode cX12_apart 7 = .ok (.iload_n 1, 1) := by decide +kernel
theorem dX12_apart_8 : decode cX12_apart 8 = .ok (.i2l, 1) := by decide +kernel
theorem dX12_apart_9 : decode cX12_apart 9 = .ok (.ldc2_w 395, 3) := by decide +kernel
theorem dX12_apart_12 : decode cX12_apart 12 = .ok (.ldc2_w 397, 3) := by decide +kernel
theorem dX12_apart_15 : decode cX12_apart 15 = .ok (.invokestatic 133, 3) := by decide +kernel
theorem dX12_apart_18 : decode cX12_apart 18 = .ok (.ifCond .ne 6, 3) := by decide +kernel
theorem dX12_apart_21 : decode cX12_apart 21 = .ok (.bipush (-3), 2) := by decide +kernel
theorem dX12_apart_23 : decode cX12_apart 23 = .ok (.ireturn, 1) := by decide +kernel
theorem dX12_apart_24 : decode cX12_apart 24 = .ok (.iconst 0, 1) := by decide +kernel
theorem dX12_apart_25 : decode cX12_apart 25 = .ok (.istore_n 2, 1) := by decide +kernel
theorem dX12_apart_26 : decode cX12_apart 26 = .ok (.aload_n 0, 1) := by decide +kernel
theorem dX12_apart_27 : decode cX12_apart 27 = .ok (.iload_n 2, 1) := by decide +kernel
theorem dX12_apart_28 : decode cX12_apart 28 = .ok (.invokevirtual 407, 3) := by decide +kernel
theorem dX12_apart_31 : decode cX12_apart 31 = .ok (.ifCond .ne 9, 3) := by decide +kernel
theorem dX12_apart_34 : decode cX12_apart 34 = .ok (.iinc 2 1, 3) := by decide +kernel
theorem dX12_apart_37 : decode cX12_apart 37 = .ok (.goto (-11), 3) := by decide +kernel
theorem dX12_apart_40 : decode cX12_apart 40 = .ok (.iload_n 1, 1) := by decide +kernel
theorem dX12_apart_41 : decode cX12_apart 41 = .ok (.iconst (-1), 1) := by decide +kernel
theorem dX12_apart_42 : decode cX12_apart 42 = .ok (.if_icmp .ne 5, 3) := by decide +kernel
theorem dX12_apart_45 : decode cX12_apart 45 = .ok (.iload_n 2, 1) := by decide +kernel
theorem dX12_apart_46 : decode cX12_apart 46 = .ok (.ireturn, 1) := by decide +kernel
theorem dX12_apart_47 : decode cX12_apart 47 = .ok (.aload_n 0, 1) := by decide +kernel
theorem dX12_apart_48 : decode cX12_apart 48 = .ok (.iload_n 1, 1) := by decide +kernel
theorem dX12_apart_49 : decode cX12_apart 49 = .ok (.invokevirtual 298, 3) := by decide +kernel
theorem dX12_apart_52 : decode cX12_apart 52 = .ok (.ifCond .ne 8, 3) := by decide +kernel
theorem dX12_apart_55 : decode cX12_apart 55 = .ok (.bipush (-2), 2) := by decide +kernel
theorem dX12_apart_57 : decode cX12_apart 57 = .ok (.goto 21, 3) := by decide +kernel
theorem dX12_apart_60 : decode cX12_apart 60 = .ok (.aload_n 0, 1) := by decide +kernel
theorem dX12_apart_61 : decode cX12_apart 61 = .ok (.iload_n 1, 1) := by decide +kernel
theorem dX12_apart_62 : decode cX12_apart 62 = .ok (.invokevirtual 351, 3) := by decide +kernel
theorem dX12_apart_65 : decode cX12_apart 65 = .ok (.ifCond .eq 7, 3) := by decide +kernel
theorem dX12_apart_68 : decode cX12_apart 68 = .ok (.iconst (-1), 1) := by decide +kernel
theorem dX12_apart_69 : decode cX12_apart 69 = .ok (.goto 9, 3) := by decide +kernel
theorem dX12_apart_72 : decode cX12_apart 72 = .ok (.aload_n 0, 1) := by decide +kernel
theorem dX12_apart_73 : decode cX12_apart 73 = .ok (.getfield 64, 3) := by decide +kernel
theorem dX12_apart_76 : decode cX12_apart 76 = .ok (.iload_n 1, 1) := by decide +kernel
theorem dX12_apart_77 : decode cX12_apart 77 = .ok (.iaload, 1) := by decide +kernel
theorem dX12_apart_78 : decode cX12_apart 78 = .ok (.ireturn, 1) := by decide +kernel
theorem vc_X12_407 : XVw RX12 407 1 11 4 yX12_isDoneBy cX12_isDoneBy (some .boolean) := ⟨RX12, TX12, tyX12, 43, xk_11, rfl, ⟨by decide, by decide⟩, by decide +kernel, wt_1473, wt_1475, ws_103, wt_11, wt_1476⟩
noncomputable def bs_X12_apart : List (Nat × XB) := [
  (0, (sq (xLA 0) (sq (xCI 11 1 F_X12_isDale) (tIf1 (fun x => decide (x = 0)) 21 [false, false, false] 7 [true, true, false])))),
  (7, (sq (xLI 1) (sq (xI2L) (sq (xC (.long (-1))) (sq (xC (.long 5)) (sq (xCI 99 3 F_X12_in) (tIf1 (fun x => decide (¬ x = 0)) 24 [true, true, false] 21 [false, false, false]))))))),
  (21, (sq (xC (.int (-3))) tRI)),
  (24, (sq (xC (.int 0)) (sq (xSI 2) (tGo 26 [true, true, true])))),
  (26, (sq (xLA 0) (sq (xLI 2) (sq (xCI 11 2 F_X12_isDoneBy) (tIf1 (fun x => decide (¬ x = 0)) 40 [true, true, true] 34 [true, true, true]))))),
  (34, (sq (xInc 2 1) (tGo 26 [true, true, true]))),
  (40, (sq (xLI 1) (sq (xC (.int (-1))) (tIf2 (fun x y => decide (¬ x = y)) 47 [true, true, false] 45 [false, false, true])))),
  (45, (sq (xLI 2) tRI)),
  (47, (sq (xLA 0) (sq (xLI 1) (sq (xCI 11 2 F_X12_isKeep) (tIf1 (fun x => decide (¬ x = 0)) 60 [true, true, false] 55 [false, false, false]))))),
  (55, (sq (xC (.int (-2))) (tGo 78 [false, false, false]))),
  (60, (sq (xLA 0) (sq (xLI 1) (sq (xCI 11 2 F_X12_isBurnt) (tIf1 (fun x => decide (x = 0)) 72 [true, true, false] 68 [false, false, false]))))),
  (68, (sq (xC (.int (-1))) (tGo 78 [false, false, false]))),
  (72, (sq (xLA 0) (sq (xGS 11 56 1 0) (sq (xLI 1) (sq (xAI 56 7) (tGo 78 [false, false, false])))))),
  (78, tRI)]
set_option maxRecDepth 100000 in
set_option maxHeartbeats 4000000 in
theorem s_X12_apart : ∀ X : XCtx, XE X → X.2.2.1.1 = cX12_apart → X.2.2.1.2.1 = 3 → X.2.2.1.2.2.1 = yX12_apart.cls → X.2.2.1.2.2.2.1 = (some .int) → X.1.2.2.2.1 = { frames := 4, cells := 0, slots := 0, locals := 87 } → SndBs X bs_X12_apart := by
  rintro ⟨⟨p, l, e, R, s⟩, Y, ⟨cc, nL, own, ret, Ts⟩, Z⟩ hE h1 h2 h3 h4 h5
  dsimp only at h1 h2 h3 h4 h5
  subst h1 h2 h3 h4 h5
  exact ⟨(n_sq (n_aload_n hE dX12_apart_0) (n_sq (n_cIv hE m_X12_isDale vc_X12_369 (show 0 + 1 ≤ 4 ∧ 8 + (1 + 11) + 0 ≤ 87 by decide) dX12_apart_1) (n_ifeq hE (by decide) dX12_apart_4))),
    (n_sq (n_iload_n hE dX12_apart_7) (n_sq (n_i2l hE dX12_apart_8) (n_sq (n_ldc2 hE wt_1450 dX12_apart_9) (n_sq (n_ldc2 hE wt_1451 dX12_apart_12) (n_sq (n_cIs hE m_X12_in vc_X12_133 (show 0 + 1 ≤ 4 ∧ 8 + (6 + 11) + 0 ≤ 87 by decide) dX12_apart_15) (n_ifne hE (by decide) dX12_apart_18)))))),
    (n_sq (n_bipush hE (by decide) dX12_apart_21) (n_ireturn hE rfl dX12_apart_23)),
    (n_sq (n_iconst hE (by decide) dX12_apart_24) (n_sq (n_istore_n hE (show (2 : Nat) < 3 by decide) dX12_apart_25) n_fall)),
    (n_sq (n_aload_n hE dX12_apart_26) (n_sq (n_iload_n hE dX12_apart_27) (n_sq (n_cIv hE m_X12_isDoneBy vc_X12_407 (show 3 + 1 ≤ 4 ∧ 8 + (4 + 11) + 64 ≤ 87 by decide) dX12_apart_28) (n_ifne hE (by decide) dX12_apart_31)))),
    (n_sq (n_iinc hE (by decide) (show (2 : Nat) < 3 by decide) dX12_apart_34) (n_goto hE (by decide) dX12_apart_37)),
    (n_sq (n_iload_n hE dX12_apart_40) (n_sq (n_iconst hE (by decide) dX12_apart_41) (n_ifcne hE (by decide) dX12_apart_42))),
    (n_sq (n_iload_n hE dX12_apart_45) (n_ireturn hE rfl dX12_apart_46)),
    (n_sq (n_aload_n hE dX12_apart_47) (n_sq (n_iload_n hE dX12_apart_48) (n_sq (n_cIv hE m_X12_isKeep vc_X12_298 (show 0 + 1 ≤ 4 ∧ 8 + (2 + 11) + 0 ≤ 87 by decide) dX12_apart_49) (n_ifne hE (by decide) dX12_apart_52)))),
    (n_sq (n_bipush hE (by decide) dX12_apart_55) (n_goto hE (by decide) dX12_apart_57)),
    (n_sq (n_aload_n hE dX12_apart_60) (n_sq (n_iload_n hE dX12_apart_61) (n_sq (n_cIv hE m_X12_isBurnt vc_X12_351 (show 1 + 1 ≤ 4 ∧ 8 + (2 + 11) + 21 ≤ 87 by decide) dX12_apart_62) (n_ifeq hE (by decide) dX12_apart_65)))),
    (n_sq (n_iconst hE (by decide) dX12_apart_68) (n_goto hE (by decide) dX12_apart_69)),
    (n_sq (n_aload_n hE dX12_apart_72) (n_sq (n_getS hE xk_11 (k := 30) rfl (by decide) rfl wt_990 dX12_apart_73) (n_sq (n_iload_n hE dX12_apart_76) (n_sq (n_iald hE rfl (by decide) dX12_apart_77) n_fall)))),
    (n_ireturn hE rfl dX12_apart_78), trivial⟩
noncomputable def F_X12_apart (as : List XV) (w : XW) : Option (Int32 × XW) := (xF 3 bs_X12_apart as w).bind pI
theorem m_X12_apart : XM yX12_apart cX12_apart 3 (some .int) 4 87 (eI F_X12_apart) := xm_I (xm_of (by decide) s_X12_apart)
noncomputable def q_X12_apart_0 (x1 : Int32) (w : XW) : Option XR := ev bs_X12_apart 0 ([some (.inr (11, 0)), some (.inl (.int x1)), none], [], w)
noncomputable def q_X12_apart_7 (x1 : Int32) (w : XW) : Option XR := ev bs_X12_apart 7 ([some (.inr (11, 0)), some (.inl (.int x1)), none], [], w)
noncomputable def q_X12_apart_21 (w : XW) : Option XR := ev bs_X12_apart 21 ([none, none, none], [], w)
noncomputable def q_X12_apart_24 (x1 : Int32) (w : XW) : Option XR := ev bs_X12_apart 24 ([some (.inr (11, 0)), some (.inl (.int x1)), none], [], w)
noncomputable def q_X12_apart_26 (x1 : Int32) (x2 : Int32) (w : XW) : Option XR := ev bs_X12_apart 26 ([some (.inr (11, 0)), some (.inl (.int x1)), some (.inl (.int x2))], [], w)
noncomputable def q_X12_apart_34 (x1 : Int32) (x2 : Int32) (w : XW) : Option XR := ev bs_X12_apart 34 ([some (.inr (11, 0)), some (.inl (.int x1)), some (.inl (.int x2))], [], w)
noncomputable def q_X12_apart_40 (x1 : Int32) (x2 : Int32) (w : XW) : Option XR := ev bs_X12_apart 40 ([some (.inr (11, 0)), some (.inl (.int x1)), some (.inl (.int x2))], [], w)
noncomputable def q_X12_apart_45 (x2 : Int32) (w : XW) : Option XR := ev bs_X12_apart 45 ([none, none, some (.inl (.int x2))], [], w)
noncomputable def q_X12_apart_47 (x1 : Int32) (w : XW) : Option XR := ev bs_X12_apart 47 ([some (.inr (11, 0)), some (.inl (.int x1)), none], [], w)
noncomputable def q_X12_apart_55 (w : XW) : Option XR := ev bs_X12_apart 55 ([none, none, none], [], w)
noncomputable def q_X12_apart_60 (x1 : Int32) (w : XW) : Option XR := ev bs_X12_apart 60 ([some (.inr (11, 0)), some (.inl (.int x1)), none], [], w)
noncomputable def q_X12_apart_68 (w : XW) : Option XR := ev bs_X12_apart 68 ([none, none, none], [], w)
noncomputable def q_X12_apart_72 (x1 : Int32) (w : XW) : Option XR := ev bs_X12_apart 72 ([some (.inr (11, 0)), some (.inl (.int x1)), none], [], w)
noncomputable def q_X12_apart_78 (s0 : Int32) (w : XW) : Option XR := ev bs_X12_apart 78 ([none, none, none], [.inl (.int s0)], w)
theorem e_X12_apart_0 (x1 : Int32) (w : XW) : q_X12_apart_0 x1 w = ((F_X12_isDale [.inr (11, 0)] w).bind fun r0 => (bif decide (r0.1 = 0) then (q_X12_apart_21 r0.2) else (q_X12_apart_7 x1 r0.2))) := (ev_eq _ _ _).trans rfl
theorem e_X12_apart_7 (x1 : Int32) (w : XW) : q_X12_apart_7 x1 w = ((F_X12_in [.inl (.long (x1 : Int32).toInt64), .inl (.long (-1)), .inl (.long 5)] w).bind fun r0 => (bif decide (¬ r0.1 = 0) then (q_X12_apart_24 x1 r0.2) else (q_X12_apart_21 r0.2))) := (ev_eq _ _ _).trans rfl
theorem e_X12_apart_21 (w : XW) : q_X12_apart_21 w = (some (some (.inl (.int (-3))), w)) := (ev_eq _ _ _).trans rfl
theorem e_X12_apart_24 (x1 : Int32) (w : XW) : q_X12_apart_24 x1 w = (q_X12_apart_26 x1 0 w) := (ev_eq _ _ _).trans rfl
theorem e_X12_apart_26 (x1 : Int32) (x2 : Int32) (w : XW) : q_X12_apart_26 x1 x2 w = ((F_X12_isDoneBy [.inr (11, 0), .inl (.int x2)] w).bind fun r0 => (bif decide (¬ r0.1 = 0) then (q_X12_apart_40 x1 x2 r0.2) else (q_X12_apart_34 x1 x2 r0.2))) := (ev_eq _ _ _).trans rfl
theorem e_X12_apart_34 (x1 : Int32) (x2 : Int32) (w : XW) : q_X12_apart_34 x1 x2 w = (q_X12_apart_26 x1 (x2 + 1) w) := (ev_eq _ _ _).trans rfl
theorem e_X12_apart_40 (x1 : Int32) (x2 : Int32) (w : XW) : q_X12_apart_40 x1 x2 w = (bif decide (¬ x1 = (-1)) then (q_X12_apart_47 x1 w) else (q_X12_apart_45 x2 w)) := (ev_eq _ _ _).trans rfl
theorem e_X12_apart_45 (x2 : Int32) (w : XW) : q_X12_apart_45 x2 w = (some (some (.inl (.int x2)), w)) := (ev_eq _ _ _).trans rfl
theorem e_X12_apart_47 (x1 : Int32) (w : XW) : q_X12_apart_47 x1 w = ((F_X12_isKeep [.inr (11, 0), .inl (.int x1)] w).bind fun r0 => (bif decide (¬ r0.1 = 0) then (q_X12_apart_60 x1 r0.2) else (q_X12_apart_55 r0.2))) := (ev_eq _ _ _).trans rfl
theorem e_X12_apart_55 (w : XW) : q_X12_apart_55 w = (q_X12_apart_78 (-2) w) := (ev_eq _ _ _).trans rfl
theorem e_X12_apart_60 (x1 : Int32) (w : XW) : q_X12_apart_60 x1 w = ((F_X12_isBurnt [.inr (11, 0), .inl (.int x1)] w).bind fun r0 => (bif decide (r0.1 = 0) then (q_X12_apart_72 x1 r0.2) else (q_X12_apart_68 r0.2))) := (ev_eq _ _ _).trans rfl
theorem e_X12_apart_68 (w : XW) : q_X12_apart_68 w = (q_X12_apart_78 (-1) w) := (ev_eq _ _ _).trans rfl
theorem e_X12_apart_72 (x1 : Int32) (w : XW) : q_X12_apart_72 x1 w = (if x1 < 0 ∨ 7 ≤ x1.toNatClampNeg then none else (q_X12_apart_78 (gI w 56 0 x1.toNatClampNeg) w)) := (ev_eq _ _ _).trans rfl
theorem e_X12_apart_78 (s0 : Int32) (w : XW) : q_X12_apart_78 s0 w = (some (some (.inl (.int s0)), w)) := (ev_eq _ _ _).trans rfl
theorem f_X12_apart (x1 : Int32) (w : XW) : F_X12_apart [.inr (11, 0), .inl (.int x1)] w = (q_X12_apart_0 x1 w).bind pI := rfl
