-- WinterKeepModel.ahead(III)I
theorem dX12_ahead_0 : decode cX12_ahead 0 = .ok (.aload_n 0, 1) := by decide +kernel
theorem dX12_ahead_1 : decode cX12_ahead 1 = .ok (.invokevirtual 369, 3) := by decide +kernel
theorem dX12_ahead_4 : decode cX12_ahead 4 = .ok (.ifCond .eq 40, 3) := by decide +kernel
theorem dX12_ahead_7 : decode cX12_ahead 7 = .ok (.iload_n 2, 1) := by decide +kernel
theorem dX12_ahead_8 : decode cX12_ahead 8 = .ok (.i2l, 1) := by decide +kernel
theorem dX12_ahead_9 : decode cX12_ahead 9 = .ok (.lconst 0, 1) := by decide +kernel
theorem dX12_ahead_10 : decode cX12_ahead 10 = .ok (.ldc2_w 375, 3) := by decide +kernel
theorem dX12_ahead_13 : decode cX12_ahead 13 = .ok (.invokestatic 133, 3) := by decide +kernel
theorem dX12_ahead_16 : decode cX12_ahead 16 = .ok (.ifCond .eq 28, 3) := by decide +kernel
theorem dX12_ahead_19 : decode cX12_ahead 19 = .ok (.iload_n 3, 1) := by decide +kernel
theorem dX12_ahead_20 : decode cX12_ahead 20 = .ok (.i2l, 1) := by decide +kernel
theorem dX12_ahead_21 : decode cX12_ahead 21 = .ok (.lconst 0, 1) := by decide +kernel
theorem dX12_ahead_22 : decode cX12_ahead 22 = .ok (.ldc2_w 326, 3) := by decide +kernel
theorem dX12_ahead_25 : decode cX12_ahead 25 = .ok (.invokestatic 133, 3) := by decide +kernel
theorem dX12_ahead_28 : decode cX12_ahead 28 = .ok (.ifCond .eq 16, 3) := by decide +kernel
theorem dX12_ahead_31 : decode cX12_ahead 31 = .ok (.iload_n 3, 1) := by decide +kernel
theorem dX12_ahead_32 : decode cX12_ahead 32 = .ok (.iconst 2, 1) := by decide +kernel
theorem dX12_ahead_33 : decode cX12_ahead 33 = .ok (.if_icmp .ge 13, 3) := by decide +kernel
theorem dX12_ahead_36 : decode cX12_ahead 36 = .ok (.aload_n 0, 1) := by decide +kernel
theorem dX12_ahead_37 : decode cX12_ahead 37 = .ok (.iload_n 1, 1) := by decide +kernel
theorem dX12_ahead_38 : decode cX12_ahead 38 = .ok (.invokevirtual 298, 3) := by decide +kernel
theorem dX12_ahead_41 : decode cX12_ahead 41 = .ok (.ifCond .ne 5, 3) := by decide +kernel
theorem dX12_ahead_44 : decode cX12_ahead 44 = .ok (.iconst (-1), 1) := by decide +kernel
theorem dX12_ahead_45 : decode cX12_ahead 45 = .ok (.ireturn, 1) := by decide +kernel
theorem dX12_ahead_46 : decode cX12_ahead 46 = .ok (.aload_n 0, 1) := by decide +kernel
theorem dX12_ahead_47 : decode cX12_ahead 47 = .ok (.invokevirtual 377, 3) := by decide +kernel
theorem dX12_ahead_50 : decode cX12_ahead 50 = .ok (.aload_n 0, 1) := by decide +kernel
theorem dX12_ahead_51 : decode cX12_ahead 51 = .ok (.iload_n 2, 1) := by decide +kernel
theorem dX12_ahead_52 : decode cX12_ahead 52 = .ok (.invokevirtual 380, 3) := by decide +kernel
theorem dX12_ahead_55 : decode cX12_ahead 55 = .ok (.iload_n 3, 1) := by decide +kernel
theorem dX12_ahead_56 : decode cX12_ahead 56 = .ok (.ifCond .ne 11, 3) := by decide +kernel
theorem dX12_ahead_59 : decode cX12_ahead 59 = .ok (.aload_n 0, 1) := by decide +kernel
theorem dX12_ahead_60 : decode cX12_ahead 60 = .ok (.iload_n 1, 1) := by decide +kernel
theorem dX12_ahead_61 : decode cX12_ahead 61 = .ok (.invokevirtual 304, 3) := by decide +kernel
theorem dX12_ahead_64 : decode cX12_ahead 64 = .ok (.goto 22, 3) := by decide +kernel
theorem dX12_ahead_67 : decode cX12_ahead 67 = .ok (.iload_n 3, 1) := by decide +kernel
theorem dX12_ahead_68 : decode cX12_ahead 68 = .ok (.iconst 1, 1) := by decide +kernel
theorem dX12_ahead_69 : decode cX12_ahead 69 = .ok (.if_icmp .ne 11, 3) := by decide +kernel
theorem dX12_ahead_72 : decode cX12_ahead 72 = .ok (.aload_n 0, 1) := by decide +kernel
theorem dX12_ahead_73 : decode cX12_ahead 73 = .ok (.iload_n 1, 1) := by decide +kernel
theorem dX12_ahead_74 : decode cX12_ahead 74 = .ok (.invokevirtual 314, 3) := by decide +kernel
theorem dX12_ahead_77 : decode cX12_ahead 77 = .ok (.goto 9, 3) := by decide +kernel
theorem dX12_ahead_80 : decode cX12_ahead 80 = .ok (.aload_n 0, 1) := by decide +kernel
theorem dX12_ahead_81 : decode cX12_ahead 81 = .ok (.bipush (-2), 2) := by decide +kernel
theorem dX12_ahead_83 : decode cX12_ahead 83 = .ok (.invokevirtual 335, 3) := by decide +kernel
theorem dX12_ahead_86 : decode cX12_ahead 86 = .ok (.istore 4, 2) := by decide +kernel
theorem dX12_ahead_88 : decode cX12_ahead 88 = .ok (.aload_n 0, 1) := by decide +kernel
theorem dX12_ahead_89 : decode cX12_ahead 89 = .ok (.invokevirtual 383, 3) := by decide +kernel
theorem dX12_ahead_92 : decode cX12_ahead 92 = .ok (.iload 4, 2) := by decide +kernel
theorem dX12_ahead_94 : decode cX12_ahead 94 = .ok (.ireturn, 1) := by decide +kernel
theorem vc_X12_377 : XVw RX12 377 0 11 2 yX12_keeps cX12_keeps none := ⟨RX12, TX12, tyX12, 43, xk_11, rfl, ⟨by decide, by decide⟩, by decide +kernel, wt_1423, wt_1425, ws_97, wt_11, wt_1426⟩
theorem vc_X12_380 : XVw RX12 380 1 11 3 yX12_passesAll cX12_passesAll none := ⟨RX12, TX12, tyX12, 43, xk_11, rfl, ⟨by decide, by decide⟩, by decide +kernel, wt_1427, wt_1429, ws_98, wt_11, wt_1430⟩
theorem vc_X12_383 : XVw RX12 383 0 11 2 yX12_laysBack cX12_laysBack none := ⟨RX12, TX12, tyX12, 43, xk_11, rfl, ⟨by decide, by decide⟩, by decide +kernel, wt_1431, wt_1433, ws_99, wt_11, wt_1434⟩
noncomputable def bs_X12_ahead : List (Nat × XB) := [
  (0, (sq (xLA 0) (sq (xCI 11 1 F_X12_isDale) (tIf1 (fun x => decide (x = 0)) 44 [false, false, false, false, false] 7 [true, true, true, true, false])))),
  (7, (sq (xLI 2) (sq (xI2L) (sq (xC (.long 0)) (sq (xC (.long 100)) (sq (xCI 99 3 F_X12_in) (tIf1 (fun x => decide (x = 0)) 44 [false, false, false, false, false] 19 [true, true, true, true, false]))))))),
  (19, (sq (xLI 3) (sq (xI2L) (sq (xC (.long 0)) (sq (xC (.long 2)) (sq (xCI 99 3 F_X12_in) (tIf1 (fun x => decide (x = 0)) 44 [false, false, false, false, false] 31 [true, true, true, true, false]))))))),
  (31, (sq (xLI 3) (sq (xC (.int 2)) (tIf2 (fun x y => decide (y ≤ x)) 46 [true, true, true, true, false] 36 [true, true, true, true, false])))),
  (36, (sq (xLA 0) (sq (xLI 1) (sq (xCI 11 2 F_X12_isKeep) (tIf1 (fun x => decide (¬ x = 0)) 46 [true, true, true, true, false] 44 [false, false, false, false, false]))))),
  (44, (sq (xC (.int (-1))) tRI)),
  (46, (sq (xLA 0) (sq (xCV 11 1 F_X12_keeps) (sq (xLA 0) (sq (xLI 2) (sq (xCV 11 2 F_X12_passesAll) (sq (xLI 3) (tIf1 (fun x => decide (¬ x = 0)) 67 [true, true, false, true, false] 59 [true, true, false, false, false])))))))),
  (59, (sq (xLA 0) (sq (xLI 1) (sq (xCI 11 2 F_X12_fullOf) (tGo 86 [true, false, false, false, false]))))),
  (67, (sq (xLI 3) (sq (xC (.int 1)) (tIf2 (fun x y => decide (¬ x = y)) 80 [true, false, false, false, false] 72 [true, true, false, false, false])))),
  (72, (sq (xLA 0) (sq (xLI 1) (sq (xCI 11 2 F_X12_heatOf) (tGo 86 [true, false, false, false, false]))))),
  (80, (sq (xLA 0) (sq (xC (.int (-2))) (sq (xCI 11 2 F_X12_onesThat) (tGo 86 [true, false, false, false, false]))))),
  (86, (sq (xSI 4) (sq (xLA 0) (sq (xCV 11 1 F_X12_laysBack) (sq (xLI 4) tRI)))))]
set_option maxRecDepth 100000 in
set_option maxHeartbeats 4000000 in
theorem s_X12_ahead : ∀ X : XCtx, XE X → X.2.2.1.1 = cX12_ahead → X.2.2.1.2.1 = 5 → X.2.2.1.2.2.1 = yX12_ahead.cls → X.2.2.1.2.2.2.1 = (some .int) → X.1.2.2.2.1 = { frames := 6, cells := 0, slots := 0, locals := 145 } → SndBs X bs_X12_ahead := by
  rintro ⟨⟨p, l, e, R, s⟩, Y, ⟨cc, nL, own, ret, Ts⟩, Z⟩ hE h1 h2 h3 h4 h5
  dsimp only at h1 h2 h3 h4 h5
  subst h1 h2 h3 h4 h5
  exact ⟨(n_sq (n_aload_n hE dX12_ahead_0) (n_sq (n_cIv hE m_X12_isDale vc_X12_369 (show 0 + 1 ≤ 6 ∧ 8 + (1 + 11) + 0 ≤ 145 by decide) dX12_ahead_1) (n_ifeq hE (by decide) dX12_ahead_4))),
    (n_sq (n_iload_n hE dX12_ahead_7) (n_sq (n_i2l hE dX12_ahead_8) (n_sq (n_lconst hE (by decide) dX12_ahead_9) (n_sq (n_ldc2 hE wt_1422 dX12_ahead_10) (n_sq (n_cIs hE m_X12_in vc_X12_133 (show 0 + 1 ≤ 6 ∧ 8 + (6 + 11) + 0 ≤ 145 by decide) dX12_ahead_13) (n_ifeq hE (by decide) dX12_ahead_16)))))),
    (n_sq (n_iload_n hE dX12_ahead_19) (n_sq (n_i2l hE dX12_ahead_20) (n_sq (n_lconst hE (by decide) dX12_ahead_21) (n_sq (n_ldc2 hE wt_1316 dX12_ahead_22) (n_sq (n_cIs hE m_X12_in vc_X12_133 (show 0 + 1 ≤ 6 ∧ 8 + (6 + 11) + 0 ≤ 145 by decide) dX12_ahead_25) (n_ifeq hE (by decide) dX12_ahead_28)))))),
    (n_sq (n_iload_n hE dX12_ahead_31) (n_sq (n_iconst hE (by decide) dX12_ahead_32) (n_ifcge hE (by decide) dX12_ahead_33))),
    (n_sq (n_aload_n hE dX12_ahead_36) (n_sq (n_iload_n hE dX12_ahead_37) (n_sq (n_cIv hE m_X12_isKeep vc_X12_298 (show 0 + 1 ≤ 6 ∧ 8 + (2 + 11) + 0 ≤ 145 by decide) dX12_ahead_38) (n_ifne hE (by decide) dX12_ahead_41)))),
    (n_sq (n_iconst hE (by decide) dX12_ahead_44) (n_ireturn hE rfl dX12_ahead_45)),
    (n_sq (n_aload_n hE dX12_ahead_46) (n_sq (n_cVv hE m_X12_keeps vc_X12_377 (show 0 + 1 ≤ 6 ∧ 8 + (2 + 11) + 0 ≤ 145 by decide) dX12_ahead_47) (n_sq (n_aload_n hE dX12_ahead_50) (n_sq (n_iload_n hE dX12_ahead_51) (n_sq (n_cVv hE m_X12_passesAll vc_X12_380 (show 5 + 1 ≤ 6 ∧ 8 + (3 + 11) + 123 ≤ 145 by decide) dX12_ahead_52) (n_sq (n_iload_n hE dX12_ahead_55) (n_ifne hE (by decide) dX12_ahead_56))))))),
    (n_sq (n_aload_n hE dX12_ahead_59) (n_sq (n_iload_n hE dX12_ahead_60) (n_sq (n_cIv hE m_X12_fullOf vc_X12_304 (show 0 + 1 ≤ 6 ∧ 8 + (2 + 11) + 0 ≤ 145 by decide) dX12_ahead_61) (n_goto hE (by decide) dX12_ahead_64)))),
    (n_sq (n_iload_n hE dX12_ahead_67) (n_sq (n_iconst hE (by decide) dX12_ahead_68) (n_ifcne hE (by decide) dX12_ahead_69))),
    (n_sq (n_aload_n hE dX12_ahead_72) (n_sq (n_iload_n hE dX12_ahead_73) (n_sq (n_cIv hE m_X12_heatOf vc_X12_314 (show 0 + 1 ≤ 6 ∧ 8 + (2 + 11) + 0 ≤ 145 by decide) dX12_ahead_74) (n_goto hE (by decide) dX12_ahead_77)))),
    (n_sq (n_aload_n hE dX12_ahead_80) (n_sq (n_bipush hE (by decide) dX12_ahead_81) (n_sq (n_cIv hE m_X12_onesThat vc_X12_335 (show 1 + 1 ≤ 6 ∧ 8 + (4 + 11) + 21 ≤ 145 by decide) dX12_ahead_83) n_fall))),
    (n_sq (n_istore hE (show (4 : Nat) < 5 by decide) dX12_ahead_86) (n_sq (n_aload_n hE dX12_ahead_88) (n_sq (n_cVv hE m_X12_laysBack vc_X12_383 (show 0 + 1 ≤ 6 ∧ 8 + (2 + 11) + 0 ≤ 145 by decide) dX12_ahead_89) (n_sq (n_iload hE dX12_ahead_92) (n_ireturn hE rfl dX12_ahead_94))))), trivial⟩
noncomputable def F_X12_ahead (as : List XV) (w : XW) : Option (Int32 × XW) := (xF 5 bs_X12_ahead as w).bind pI
theorem m_X12_ahead : XM yX12_ahead cX12_ahead 5 (some .int) 6 145 (eI F_X12_ahead) := xm_I (xm_of (by decide) s_X12_ahead)
noncomputable def q_X12_ahead_0 (x1 : Int32) (x2 : Int32) (x3 : Int32) (w : XW) : Option XR := ev bs_X12_ahead 0 ([some (.inr (11, 0)), some (.inl (.int x1)), some (.inl (.int x2)), some (.inl (.int x3)), none], [], w)
noncomputable def q_X12_ahead_7 (x1 : Int32) (x2 : Int32) (x3 : Int32) (w : XW) : Option XR := ev bs_X12_ahead 7 ([some (.inr (11, 0)), some (.inl (.int x1)), some (.inl (.int x2)), some (.inl (.int x3)), none], [], w)
noncomputable def q_X12_ahead_19 (x1 : Int32) (x2 : Int32) (x3 : Int32) (w : XW) : Option XR := ev bs_X12_ahead 19 ([some (.inr (11, 0)), some (.inl (.int x1)), some (.inl (.int x2)), some (.inl (.int x3)), none], [], w)
noncomputable def q_X12_ahead_31 (x1 : Int32) (x2 : Int32) (x3 : Int32) (w : XW) : Option XR := ev bs_X12_ahead 31 ([some (.inr (11, 0)), some (.inl (.int x1)), some (.inl (.int x2)), some (.inl (.int x3)), none], [], w)
noncomputable def q_X12_ahead_36 (x1 : Int32) (x2 : Int32) (x3 : Int32) (w : XW) : Option XR := ev bs_X12_ahead 36 ([some (.inr (11, 0)), some (.inl (.int x1)), some (.inl (.int x2)), some (.inl (.int x3)), none], [], w)
noncomputable def q_X12_ahead_44 (w : XW) : Option XR := ev bs_X12_ahead 44 ([none, none, none, none, none], [], w)
noncomputable def q_X12_ahead_46 (x1 : Int32) (x2 : Int32) (x3 : Int32) (w : XW) : Option XR := ev bs_X12_ahead 46 ([some (.inr (11, 0)), some (.inl (.int x1)), some (.inl (.int x2)), some (.inl (.int x3)), none], [], w)
noncomputable def q_X12_ahead_59 (x1 : Int32) (w : XW) : Option XR := ev bs_X12_ahead 59 ([some (.inr (11, 0)), some (.inl (.int x1)), none, none, none], [], w)
noncomputable def q_X12_ahead_67 (x1 : Int32) (x3 : Int32) (w : XW) : Option XR := ev bs_X12_ahead 67 ([some (.inr (11, 0)), some (.inl (.int x1)), none, some (.inl (.int x3)), none], [], w)
noncomputable def q_X12_ahead_72 (x1 : Int32) (w : XW) : Option XR := ev bs_X12_ahead 72 ([some (.inr (11, 0)), some (.inl (.int x1)), none, none, none], [], w)
noncomputable def q_X12_ahead_80 (w : XW) : Option XR := ev bs_X12_ahead 80 ([some (.inr (11, 0)), none, none, none, none], [], w)
noncomputable def q_X12_ahead_86 (s0 : Int32) (w : XW) : Option XR := ev bs_X12_ahead 86 ([some (.inr (11, 0)), none, none, none, none], [.inl (.int s0)], w)
theorem e_X12_ahead_0 (x1 : Int32) (x2 : Int32) (x3 : Int32) (w : XW) : q_X12_ahead_0 x1 x2 x3 w = ((F_X12_isDale [.inr (11, 0)] w).bind fun r0 => (bif decide (r0.1 = 0) then (q_X12_ahead_44 r0.2) else (q_X12_ahead_7 x1 x2 x3 r0.2))) := (ev_eq _ _ _).trans rfl
theorem e_X12_ahead_7 (x1 : Int32) (x2 : Int32) (x3 : Int32) (w : XW) : q_X12_ahead_7 x1 x2 x3 w = ((F_X12_in [.inl (.long (x2 : Int32).toInt64), .inl (.long 0), .inl (.long 100)] w).bind fun r0 => (bif decide (r0.1 = 0) then (q_X12_ahead_44 r0.2) else (q_X12_ahead_19 x1 x2 x3 r0.2))) := (ev_eq _ _ _).trans rfl
theorem e_X12_ahead_19 (x1 : Int32) (x2 : Int32) (x3 : Int32) (w : XW) : q_X12_ahead_19 x1 x2 x3 w = ((F_X12_in [.inl (.long (x3 : Int32).toInt64), .inl (.long 0), .inl (.long 2)] w).bind fun r0 => (bif decide (r0.1 = 0) then (q_X12_ahead_44 r0.2) else (q_X12_ahead_31 x1 x2 x3 r0.2))) := (ev_eq _ _ _).trans rfl
theorem e_X12_ahead_31 (x1 : Int32) (x2 : Int32) (x3 : Int32) (w : XW) : q_X12_ahead_31 x1 x2 x3 w = (bif decide (2 ≤ x3) then (q_X12_ahead_46 x1 x2 x3 w) else (q_X12_ahead_36 x1 x2 x3 w)) := (ev_eq _ _ _).trans rfl
theorem e_X12_ahead_36 (x1 : Int32) (x2 : Int32) (x3 : Int32) (w : XW) : q_X12_ahead_36 x1 x2 x3 w = ((F_X12_isKeep [.inr (11, 0), .inl (.int x1)] w).bind fun r0 => (bif decide (¬ r0.1 = 0) then (q_X12_ahead_46 x1 x2 x3 r0.2) else (q_X12_ahead_44 r0.2))) := (ev_eq _ _ _).trans rfl
theorem e_X12_ahead_44 (w : XW) : q_X12_ahead_44 w = (some (some (.inl (.int (-1))), w)) := (ev_eq _ _ _).trans rfl
theorem e_X12_ahead_46 (x1 : Int32) (x2 : Int32) (x3 : Int32) (w : XW) : q_X12_ahead_46 x1 x2 x3 w = ((F_X12_keeps [.inr (11, 0)] w).bind fun r0 => ((F_X12_passesAll [.inr (11, 0), .inl (.int x2)] r0).bind fun r1 => (bif decide (¬ x3 = 0) then (q_X12_ahead_67 x1 x3 r1) else (q_X12_ahead_59 x1 r1)))) := (ev_eq _ _ _).trans rfl
theorem e_X12_ahead_59 (x1 : Int32) (w : XW) : q_X12_ahead_59 x1 w = ((F_X12_fullOf [.inr (11, 0), .inl (.int x1)] w).bind fun r0 => (q_X12_ahead_86 r0.1 r0.2)) := (ev_eq _ _ _).trans rfl
theorem e_X12_ahead_67 (x1 : Int32) (x3 : Int32) (w : XW) : q_X12_ahead_67 x1 x3 w = (bif decide (¬ x3 = 1) then (q_X12_ahead_80 w) else (q_X12_ahead_72 x1 w)) := (ev_eq _ _ _).trans rfl
theorem e_X12_ahead_72 (x1 : Int32) (w : XW) : q_X12_ahead_72 x1 w = ((F_X12_heatOf [.inr (11, 0), .inl (.int x1)] w).bind fun r0 => (q_X12_ahead_86 r0.1 r0.2)) := (ev_eq _ _ _).trans rfl
theorem e_X12_ahead_80 (w : XW) : q_X12_ahead_80 w = ((F_X12_onesThat [.inr (11, 0), .inl (.int (-2))] w).bind fun r0 => (q_X12_ahead_86 r0.1 r0.2)) := (ev_eq _ _ _).trans rfl
theorem e_X12_ahead_86 (s0 : Int32) (w : XW) : q_X12_ahead_86 s0 w = ((F_X12_laysBack [.inr (11, 0)] w).bind fun r0 => (some (some (.inl (.int s0)), r0))) := (ev_eq _ _ _).trans rfl
theorem f_X12_ahead (x1 : Int32) (x2 : Int32) (x3 : Int32) (w : XW) : F_X12_ahead [.inr (11, 0), .inl (.int x1), .inl (.int x2), .inl (.int x3)] w = (q_X12_ahead_0 x1 x2 x3 w).bind pI := rfl

-- WinterKeepModel.burns(I)I
theorem dX12_burns_0 : decode cX12_burns 0 = .ok (.aload_n 0, 1) := by decide +kernel
theorem dX12_burns_1 : decode cX12_burns 1 = .ok (.invokevirtual 369, 3) := by decide +kernel
theorem dX12_burns_4 : decode cX12_burns 4 = .ok (.ifCond .eq 13, 3) := by decide +kernel
theorem dX12_burns_7 : decode cX12_burns 7 = .ok (.iload_n 1, 1) := by decide +kernel
theorem dX12_burns_8 : decode cX12_burns 8 = .ok (.i2l, 1) := by decide +kernel
theorem dX12_burns_9 : decode cX12_burns 9 = .ok (.lconst 0, 1) := by decide +kernel
theorem dX12_burns_10 : decode cX12_burns 10 = .ok (.lconst 1, 1) := by decide +kernel
theorem dX12_burns_11 : decode cX12_burns 11 = .ok (.invokestatic 133, 3) := by decide +kernel
theorem dX12_burns_14 : decode cX12_burns 14 = .ok (.ifCond .ne 5, 3) := by decide +kernel
theorem dX12_burns_17 : decode cX12_burns 17 = .ok (.iconst (-1), 1) := by decide +kernel
theorem dX12_burns_18 : decode cX12_burns 18 = .ok (.ireturn, 1) := by decide +kernel
theorem dX12_burns_19 : decode cX12_burns 19 = .ok (.bipush (-2), 2) := by decide +kernel
theorem dX12_burns_21 : decode cX12_burns 21 = .ok (.istore_n 2, 1) := by decide +kernel
theorem dX12_burns_22 : decode cX12_burns 22 = .ok (.aload_n 0, 1) := by decide +kernel
theorem dX12_burns_23 : decode cX12_burns 23 = .ok (.invokevirtual 377, 3) := by decide +kernel
theorem dX12_burns_26 : decode cX12_burns 26 = .ok (.iconst 0, 1) := by decide +kernel
theorem dX12_burns_27 : decode cX12_burns 27 = .ok (.istore_n 3, 1) := by decide +kernel
theorem dX12_burns_28 : decode cX12_burns 28 = .ok (.iload_n 3, 1) := by decide +kernel
theorem dX12_burns_29 : decode cX12_burns 29 = .ok (.sipush 200, 3) := by decide +kernel
theorem dX12_burns_32 : decode cX12_burns 32 = .ok (.if_icmp .ge 46, 3) := by decide +kernel
theorem dX12_burns_35 : decode cX12_burns 35 = .ok (.iload_n 2, 1) := by decide +kernel
theorem dX12_burns_36 : decode cX12_burns 36 = .ok (.ifCond .ge 42, 3) := by decide +kernel
theorem dX12_burns_39 : decode cX12_burns 39 = .ok (.aload_n 0, 1) := by decide +kernel
theorem dX12_burns_40 : decode cX12_burns 40 = .ok (.invokevirtual 366, 3) := by decide +kernel
theorem dX12_burns_43 : decode cX12_burns 43 = .ok (.istore 4, 2) := by decide +kernel
theorem dX12_burns_45 : decode cX12_burns 45 = .ok (.iload 4, 2) := by decide +kernel
theorem dX12_burns_47 : decode cX12_burns 47 = .ok (.ifCond .eq 25, 3) := by decide +kernel
theorem dX12_burns_50 : decode cX12_burns 50 = .ok (.iload_n 1, 1) := by decide +kernel
theorem dX12_burns_51 : decode cX12_burns 51 = .ok (.ifCond .ne 15, 3) := by decide +kernel
theorem dX12_burns_54 : decode cX12_burns 54 = .ok (.aload_n 0, 1) := by decide +kernel
theorem dX12_burns_55 : decode cX12_burns 55 = .ok (.getfield 39, 3) := by decide +kernel
theorem dX12_burns_58 : decode cX12_burns 58 = .ok (.bipush 10, 2) := by decide +kernel
theorem dX12_burns_60 : decode cX12_burns 60 = .ok (.iaload, 1) := by decide +kernel
theorem dX12_burns_61 : decode cX12_burns 61 = .ok (.iconst 1, 1) := by decide +kernel
theorem dX12_burns_62 : decode cX12_burns 62 = .ok (.isub, 1) := by decide +kernel
theorem dX12_burns_63 : decode cX12_burns 63 = .ok (.goto 8, 3) := by decide +kernel
theorem dX12_burns_66 : decode cX12_burns 66 = .ok (.iload 4, 2) := by decide +kernel
theorem dX12_burns_68 : decode cX12_burns 68 = .ok (.invokestatic 386, 3) := by decide +kernel
theorem dX12_burns_71 : decode cX12_burns 71 = .ok (.istore_n 2, 1) := by decide +kernel
theorem dX12_burns_72 : decode cX12_burns 72 = .ok (.iinc 3 1, 3) := by decide +kernel
theorem dX12_burns_75 : decode cX12_burns 75 = .ok (.goto (-47), 3) := by decide +kernel
theorem dX12_burns_78 : decode cX12_burns 78 = .ok (.aload_n 0, 1) := by decide +kernel
theorem dX12_burns_79 : decode cX12_burns 79 = .ok (.invokevirtual 383, 3) := by decide +kernel
theorem dX12_burns_82 : decode cX12_burns 82 = .ok (.iload_n 2, 1) := by decide +kernel
theorem dX12_burns_83 : decode cX12_burns 83 = .ok (.ireturn, 1) := by decide +kernel
theorem vc_X12_386 : XSw RX12 386 1 2 yX12_leastOf cX12_leastOf (some .int) := ⟨⟨by decide, by decide⟩, by decide +kernel, wt_1439, wt_1440, wt_11, wt_1441⟩
noncomputable def bs_X12_burns : List (Nat × XB) := [
  (0, (sq (xLA 0) (sq (xCI 11 1 F_X12_isDale) (tIf1 (fun x => decide (x = 0)) 17 [false, false, false, false, false] 7 [true, true, false, false, false])))),
  (7, (sq (xLI 1) (sq (xI2L) (sq (xC (.long 0)) (sq (xC (.long 1)) (sq (xCI 99 3 F_X12_in) (tIf1 (fun x => decide (¬ x = 0)) 19 [true, true, false, false, false] 17 [false, false, false, false, false]))))))),
  (17, (sq (xC (.int (-1))) tRI)),
  (19, (sq (xC (.int (-2))) (sq (xSI 2) (sq (xLA 0) (sq (xCV 11 1 F_X12_keeps) (sq (xC (.int 0)) (sq (xSI 3) (tGo 28 [true, true, true, true, false])))))))),
  (28, (sq (xLI 3) (sq (xC (.int 200)) (tIf2 (fun x y => decide (y ≤ x)) 78 [true, false, true, false, false] 35 [true, true, true, true, false])))),
  (35, (sq (xLI 2) (tIf1 (fun x => decide (0 ≤ x)) 78 [true, false, true, false, false] 39 [true, true, true, true, false]))),
  (39, (sq (xLA 0) (sq (xCI 11 1 F_X12_passes) (sq (xSI 4) (sq (xLI 4) (tIf1 (fun x => decide (x = 0)) 72 [true, true, true, true, false] 50 [true, true, false, true, true])))))),
  (50, (sq (xLI 1) (tIf1 (fun x => decide (¬ x = 0)) 66 [true, true, false, true, true] 54 [true, true, false, true, false]))),
  (54, (sq (xLA 0) (sq (xGS 11 50 1 0) (sq (xC (.int 10)) (sq (xAI 50 98) (sq (xC (.int 1)) (sq (xI2 (· - ·)) (tGo 71 [true, true, false, true, false])))))))),
  (66, (sq (xLI 4) (sq (xCI 99 1 F_X12_leastOf) (tGo 71 [true, true, false, true, false])))),
  (71, (sq (xSI 2) (tGo 72 [true, true, true, true, false]))),
  (72, (sq (xInc 3 1) (tGo 28 [true, true, true, true, false]))),
  (78, (sq (xLA 0) (sq (xCV 11 1 F_X12_laysBack) (sq (xLI 2) tRI))))]
set_option maxRecDepth 100000 in
set_option maxHeartbeats 4000000 in
theorem s_X12_burns : ∀ X : XCtx, XE X → X.2.2.1.1 = cX12_burns → X.2.2.1.2.1 = 5 → X.2.2.1.2.2.1 = yX12_burns.cls → X.2.2.1.2.2.2.1 = (some .int) → X.1.2.2.2.1 = { frames := 5, cells := 0, slots := 0, locals := 123 } → SndBs X bs_X12_burns := by
  rintro ⟨⟨p, l, e, R, s⟩, Y, ⟨cc, nL, own, ret, Ts⟩, Z⟩ hE h1 h2 h3 h4 h5
  dsimp only at h1 h2 h3 h4 h5
  subst h1 h2 h3 h4 h5
  exact ⟨(n_sq (n_aload_n hE dX12_burns_0) (n_sq (n_cIv hE m_X12_isDale vc_X12_369 (show 0 + 1 ≤ 5 ∧ 8 + (1 + 11) + 0 ≤ 123 by decide) dX12_burns_1) (n_ifeq hE (by decide) dX12_burns_4))),
    (n_sq (n_iload_n hE dX12_burns_7) (n_sq (n_i2l hE dX12_burns_8) (n_sq (n_lconst hE (by decide) dX12_burns_9) (n_sq (n_lconst hE (by decide) dX12_burns_10) (n_sq (n_cIs hE m_X12_in vc_X12_133 (show 0 + 1 ≤ 5 ∧ 8 + (6 + 11) + 0 ≤ 123 by decide) dX12_burns_11) (n_ifne hE (by decide) dX12_burns_14)))))),
    (n_sq (n_iconst hE (by decide) dX12_burns_17) (n_ireturn hE rfl dX12_burns_18)),
    (n_sq (n_bipush hE (by decide) dX12_burns_19) (n_sq (n_istore_n hE (show (2 : Nat) < 5 by decide) dX12_burns_21) (n_sq (n_aload_n hE dX12_burns_22) (n_sq (n_cVv hE m_X12_keeps vc_X12_377 (show 0 + 1 ≤ 5 ∧ 8 + (2 + 11) + 0 ≤ 123 by decide) dX12_burns_23) (n_sq (n_iconst hE (by decide) dX12_burns_26) (n_sq (n_istore_n hE (show (3 : Nat) < 5 by decide) dX12_burns_27) n_fall)))))),
    (n_sq (n_iload_n hE dX12_burns_28) (n_sq (n_sipush hE (by decide) dX12_burns_29) (n_ifcge hE (by decide) dX12_burns_32))),
    (n_sq (n_iload_n hE dX12_burns_35) (n_ifge hE (by decide) dX12_burns_36)),
    (n_sq (n_aload_n hE dX12_burns_39) (n_sq (n_cIv hE m_X12_passes vc_X12_366 (show 4 + 1 ≤ 5 ∧ 8 + (3 + 11) + 101 ≤ 123 by decide) dX12_burns_40) (n_sq (n_istore hE (show (4 : Nat) < 5 by decide) dX12_burns_43) (n_sq (n_iload hE dX12_burns_45) (n_ifeq hE (by decide) dX12_burns_47))))),
    (n_sq (n_iload_n hE dX12_burns_50) (n_ifne hE (by decide) dX12_burns_51)),
    (n_sq (n_aload_n hE dX12_burns_54) (n_sq (n_getS hE xk_11 (k := 20) rfl (by decide) rfl wt_980 dX12_burns_55) (n_sq (n_bipush hE (by decide) dX12_burns_58) (n_sq (n_iald hE rfl (by decide) dX12_burns_60) (n_sq (n_iconst hE (by decide) dX12_burns_61) (n_sq (n_isub hE dX12_burns_62) (n_goto hE (by decide) dX12_burns_63))))))),
    (n_sq (n_iload hE dX12_burns_66) (n_sq (n_cIs hE m_X12_leastOf vc_X12_386 (show 1 + 1 ≤ 5 ∧ 8 + (2 + 11) + 21 ≤ 123 by decide) dX12_burns_68) n_fall)),
    (n_sq (n_istore_n hE (show (2 : Nat) < 5 by decide) dX12_burns_71) n_fall),
    (n_sq (n_iinc hE (by decide) (show (3 : Nat) < 5 by decide) dX12_burns_72) (n_goto hE (by decide) dX12_burns_75)),
    (n_sq (n_aload_n hE dX12_burns_78) (n_sq (n_cVv hE m_X12_laysBack vc_X12_383 (show 0 + 1 ≤ 5 ∧ 8 + (2 + 11) + 0 ≤ 123 by decide) dX12_burns_79) (n_sq (n_iload_n hE dX12_burns_82) (n_ireturn hE rfl dX12_burns_83)))), trivial⟩
noncomputable def F_X12_burns (as : List XV) (w : XW) : Option (Int32 × XW) := (xF 5 bs_X12_burns as w).bind pI
theorem m_X12_burns : XM yX12_burns cX12_burns 5 (some .int) 5 123 (eI F_X12_burns) := xm_I (xm_of (by decide) s_X12_burns)
noncomputable def q_X12_burns_0 (x1 : Int32) (w : XW) : Option XR := ev bs_X12_burns 0 ([some (.inr (11, 0)), some (.inl (.int x1)), none, none, none], [], w)
noncomputable def q_X12_burns_7 (x1 : Int32) (w : XW) : Option XR := ev bs_X12_burns 7 ([some (.inr (11, 0)), some (.inl (.int x1)), none, none, none], [], w)
noncomputable def q_X12_burns_17 (w : XW) : Option XR := ev bs_X12_burns 17 ([none, none, none, none, none], [], w)
noncomputable def q_X12_burns_19 (x1 : Int32) (w : XW) : Option XR := ev bs_X12_burns 19 ([some (.inr (11, 0)), some (.inl (.int x1)), none, none, none], [], w)
noncomputable def q_X12_burns_28 (x1 : Int32) (x2 : Int32) (x3 : Int32) (w : XW) : Option XR := ev bs_X12_burns 28 ([some (.inr (11, 0)), some (.inl (.int x1)), some (.inl (.int x2)), some (.inl (.int x3)), none], [], w)
noncomputable def q_X12_burns_35 (x1 : Int32) (x2 : Int32) (x3 : Int32) (w : XW) : Option XR := ev bs_X12_burns 35 ([some (.inr (11, 0)), some (.inl (.int x1)), some (.inl (.int x2)), some (.inl (.int x3)), none], [], w)
noncomputable def q_X12_burns_39 (x1 : Int32) (x2 : Int32) (x3 : Int32) (w : XW) : Option XR := ev bs_X12_burns 39 ([some (.inr (11, 0)), some (.inl (.int x1)), some (.inl (.int x2)), some (.inl (.int x3)), none], [], w)
noncomputable def q_X12_burns_50 (x1 : Int32) (x3 : Int32) (x4 : Int32) (w : XW) : Option XR := ev bs_X12_burns 50 ([some (.inr (11, 0)), some (.inl (.int x1)), none, some (.inl (.int x3)), some (.inl (.int x4))], [], w)
noncomputable def q_X12_burns_54 (x1 : Int32) (x3 : Int32) (w : XW) : Option XR := ev bs_X12_burns 54 ([some (.inr (11, 0)), some (.inl (.int x1)), none, some (.inl (.int x3)), none], [], w)
noncomputable def q_X12_burns_66 (x1 : Int32) (x3 : Int32) (x4 : Int32) (w : XW) : Option XR := ev bs_X12_burns 66 ([some (.inr (11, 0)), some (.inl (.int x1)), none, some (.inl (.int x3)), some (.inl (.int x4))], [], w)
noncomputable def q_X12_burns_71 (x1 : Int32) (x3 : Int32) (s0 : Int32) (w : XW) : Option XR := ev bs_X12_burns 71 ([some (.inr (11, 0)), some (.inl (.int x1)), none, some (.inl (.int x3)), none], [.inl (.int s0)], w)
noncomputable def q_X12_burns_72 (x1 : Int32) (x2 : Int32) (x3 : Int32) (w : XW) : Option XR := ev bs_X12_burns 72 ([some (.inr (11, 0)), some (.inl (.int x1)), some (.inl (.int x2)), some (.inl (.int x3)), none], [], w)
noncomputable def q_X12_burns_78 (x2 : Int32) (w : XW) : Option XR := ev bs_X12_burns 78 ([some (.inr (11, 0)), none, some (.inl (.int x2)), none, none], [], w)
theorem e_X12_burns_0 (x1 : Int32) (w : XW) : q_X12_burns_0 x1 w = ((F_X12_isDale [.inr (11, 0)] w).bind fun r0 => (bif decide (r0.1 = 0) then (q_X12_burns_17 r0.2) else (q_X12_burns_7 x1 r0.2))) := (ev_eq _ _ _).trans rfl
theorem e_X12_burns_7 (x1 : Int32) (w : XW) : q_X12_burns_7 x1 w = ((F_X12_in [.inl (.long (x1 : Int32).toInt64), .inl (.long 0), .inl (.long 1)] w).bind fun r0 => (bif decide (¬ r0.1 = 0) then (q_X12_burns_19 x1 r0.2) else (q_X12_burns_17 r0.2))) := (ev_eq _ _ _).trans rfl
theorem e_X12_burns_17 (w : XW) : q_X12_burns_17 w = (some (some (.inl (.int (-1))), w)) := (ev_eq _ _ _).trans rfl
theorem e_X12_burns_19 (x1 : Int32) (w : XW) : q_X12_burns_19 x1 w = ((F_X12_keeps [.inr (11, 0)] w).bind fun r0 => (q_X12_burns_28 x1 (-2) 0 r0)) := (ev_eq _ _ _).trans rfl
theorem e_X12_burns_28 (x1 : Int32) (x2 : Int32) (x3 : Int32) (w : XW) : q_X12_burns_28 x1 x2 x3 w = (bif decide (200 ≤ x3) then (q_X12_burns_78 x2 w) else (q_X12_burns_35 x1 x2 x3 w)) := (ev_eq _ _ _).trans rfl
theorem e_X12_burns_35 (x1 : Int32) (x2 : Int32) (x3 : Int32) (w : XW) : q_X12_burns_35 x1 x2 x3 w = (bif decide (0 ≤ x2) then (q_X12_burns_78 x2 w) else (q_X12_burns_39 x1 x2 x3 w)) := (ev_eq _ _ _).trans rfl
theorem e_X12_burns_39 (x1 : Int32) (x2 : Int32) (x3 : Int32) (w : XW) : q_X12_burns_39 x1 x2 x3 w = ((F_X12_passes [.inr (11, 0)] w).bind fun r0 => (bif decide (r0.1 = 0) then (q_X12_burns_72 x1 x2 x3 r0.2) else (q_X12_burns_50 x1 x3 r0.1 r0.2))) := (ev_eq _ _ _).trans rfl
theorem e_X12_burns_50 (x1 : Int32) (x3 : Int32) (x4 : Int32) (w : XW) : q_X12_burns_50 x1 x3 x4 w = (bif decide (¬ x1 = 0) then (q_X12_burns_66 x1 x3 x4 w) else (q_X12_burns_54 x1 x3 w)) := (ev_eq _ _ _).trans rfl
theorem e_X12_burns_54 (x1 : Int32) (x3 : Int32) (w : XW) : q_X12_burns_54 x1 x3 w = (q_X12_burns_71 x1 x3 ((gI w 50 0 10) - 1) w) := (ev_eq _ _ _).trans rfl
theorem e_X12_burns_66 (x1 : Int32) (x3 : Int32) (x4 : Int32) (w : XW) : q_X12_burns_66 x1 x3 x4 w = ((F_X12_leastOf [.inl (.int x4)] w).bind fun r0 => (q_X12_burns_71 x1 x3 r0.1 r0.2)) := (ev_eq _ _ _).trans rfl
theorem e_X12_burns_71 (x1 : Int32) (x3 : Int32) (s0 : Int32) (w : XW) : q_X12_burns_71 x1 x3 s0 w = (q_X12_burns_72 x1 s0 x3 w) := (ev_eq _ _ _).trans rfl
theorem e_X12_burns_72 (x1 : Int32) (x2 : Int32) (x3 : Int32) (w : XW) : q_X12_burns_72 x1 x2 x3 w = (q_X12_burns_28 x1 x2 (x3 + 1) w) := (ev_eq _ _ _).trans rfl
theorem e_X12_burns_78 (x2 : Int32) (w : XW) : q_X12_burns_78 x2 w = ((F_X12_laysBack [.inr (11, 0)] w).bind fun r0 => (some (some (.inl (.int x2)), r0))) := (ev_eq _ _ _).trans rfl
theorem f_X12_burns (x1 : Int32) (w : XW) : F_X12_burns [.inr (11, 0), .inl (.int x1)] w = (q_X12_burns_0 x1 w).bind pI := rfl

-- WinterKeepModel.full(I)I
theorem dX12_full_0 : decode cX12_full 0 = .ok (.aload_n 0, 1) := by decide +kernel
theorem dX12_full_1 : decode cX12_full 1 = .ok (.iload_n 1, 1) := by decide +kernel
theorem dX12_full_2 : decode cX12_full 2 = .ok (.invokevirtual 298, 3) := by decide +kernel
theorem dX12_full_5 : decode cX12_full 5 = .ok (.ifCond .ne 5, 3) := by decide +kernel
theorem dX12_full_8 : decode cX12_full 8 = .ok (.iconst (-1), 1) := by decide +kernel
theorem dX12_full_9 : decode cX12_full 9 = .ok (.ireturn, 1) := by decide +kernel
theorem dX12_full_10 : decode cX12_full 10 = .ok (.bipush (-2), 2) := by decide +kernel
theorem dX12_full_12 : decode cX12_full 12 = .ok (.istore_n 2, 1) := by decide +kernel
theorem dX12_full_13 : decode cX12_full 13 = .ok (.aload_n 0, 1) := by decide +kernel
theorem dX12_full_14 : decode cX12_full 14 = .ok (.invokevirtual 377, 3) := by decide +kernel
theorem dX12_full_17 : decode cX12_full 17 = .ok (.iconst 0, 1) := by decide +kernel
theorem dX12_full_18 : decode cX12_full 18 = .ok (.istore_n 3, 1) := by decide +kernel
theorem dX12_full_19 : decode cX12_full 19 = .ok (.iload_n 3, 1) := by decide +kernel
theorem dX12_full_20 : decode cX12_full 20 = .ok (.sipush 200, 3) := by decide +kernel
theorem dX12_full_23 : decode cX12_full 23 = .ok (.if_icmp .ge 45, 3) := by decide +kernel
theorem dX12_full_26 : decode cX12_full 26 = .ok (.iload_n 2, 1) := by decide +kernel
theorem dX12_full_27 : decode cX12_full 27 = .ok (.ifCond .ge 41, 3) := by decide +kernel
theorem dX12_full_30 : decode cX12_full 30 = .ok (.aload_n 0, 1) := by decide +kernel
theorem dX12_full_31 : decode cX12_full 31 = .ok (.invokevirtual 366, 3) := by decide +kernel
theorem dX12_full_34 : decode cX12_full 34 = .ok (.pop, 1) := by decide +kernel
theorem dX12_full_35 : decode cX12_full 35 = .ok (.aload_n 0, 1) := by decide +kernel
theorem dX12_full_36 : decode cX12_full 36 = .ok (.iload_n 1, 1) := by decide +kernel
theorem dX12_full_37 : decode cX12_full 37 = .ok (.invokevirtual 304, 3) := by decide +kernel
theorem dX12_full_40 : decode cX12_full 40 = .ok (.aload_n 0, 1) := by decide +kernel
theorem dX12_full_41 : decode cX12_full 41 = .ok (.getfield 39, 3) := by decide +kernel
theorem dX12_full_44 : decode cX12_full 44 = .ok (.bipush 35, 2) := by decide +kernel
theorem dX12_full_46 : decode cX12_full 46 = .ok (.iload_n 1, 1) := by decide +kernel
theorem dX12_full_47 : decode cX12_full 47 = .ok (.iadd, 1) := by decide +kernel
theorem dX12_full_48 : decode cX12_full 48 = .ok (.iaload, 1) := by decide +kernel
theorem dX12_full_49 : decode cX12_full 49 = .ok (.if_icmp .ne 13, 3) := by decide +kernel
theorem dX12_full_52 : decode cX12_full 52 = .ok (.aload_n 0, 1) := by decide +kernel
theorem dX12_full_53 : decode cX12_full 53 = .ok (.getfield 39, 3) := by decide +kernel
theorem dX12_full_56 : decode cX12_full 56 = .ok (.bipush 10, 2) := by decide +kernel
theorem dX12_full_58 : decode cX12_full 58 = .ok (.iaload, 1) := by decide +kernel
theorem dX12_full_59 : decode cX12_full 59 = .ok (.iconst 1, 1) := by decide +kernel
theorem dX12_full_60 : decode cX12_full 60 = .ok (.isub, 1) := by decide +kernel
theorem dX12_full_61 : decode cX12_full 61 = .ok (.istore_n 2, 1) := by decide +kernel
theorem dX12_full_62 : decode cX12_full 62 = .ok (.iinc 3 1, 3) := by decide +kernel
theorem dX12_full_65 : decode cX12_full 65 = .ok (.goto (-46), 3) := by decide +kernel
theorem dX12_full_68 : decode cX12_full 68 = .ok (.aload_n 0, 1) := by decide +kernel
theorem dX12_full_69 : decode cX12_full 69 = .ok (.invokevirtual 383, 3) := by decide +kernel
theorem dX12_full_72 : decode cX12_full 72 = .ok (.iload_n 2, 1) := by decide +kernel
theorem dX12_full_73 : decode cX12_full 73 = .ok (.ireturn, 1) := by decide +kernel
noncomputable def bs_X12_full : List (Nat × XB) := [
  (0, (sq (xLA 0) (sq (xLI 1) (sq (xCI 11 2 F_X12_isKeep) (tIf1 (fun x => decide (¬ x = 0)) 10 [true, true, false, false] 8 [false, false, false, false]))))),
  (8, (sq (xC (.int (-1))) tRI)),
  (10, (sq (xC (.int (-2))) (sq (xSI 2) (sq (xLA 0) (sq (xCV 11 1 F_X12_keeps) (sq (xC (.int 0)) (sq (xSI 3) (tGo 19 [true, true, true, true])))))))),
  (19, (sq (xLI 3) (sq (xC (.int 200)) (tIf2 (fun x y => decide (y ≤ x)) 68 [true, false, true, false] 26 [true, true, true, true])))),
  (26, (sq (xLI 2) (tIf1 (fun x => decide (0 ≤ x)) 68 [true, false, true, false] 30 [true, true, true, true]))),
  (30, (sq (xLA 0) (sq (xCI 11 1 F_X12_passes) (sq (xPop) (sq (xLA 0) (sq (xLI 1) (sq (xCI 11 2 F_X12_fullOf) (sq (xLA 0) (sq (xGS 11 50 1 0) (sq (xC (.int 35)) (sq (xLI 1) (sq (xI2 (· + ·)) (sq (xAI 50 98) (tIf2 (fun x y => decide (¬ x = y)) 62 [true, true, true, true] 52 [true, true, false, true])))))))))))))),
  (52, (sq (xLA 0) (sq (xGS 11 50 1 0) (sq (xC (.int 10)) (sq (xAI 50 98) (sq (xC (.int 1)) (sq (xI2 (· - ·)) (sq (xSI 2) (tGo 62 [true, true, true, true]))))))))),
  (62, (sq (xInc 3 1) (tGo 19 [true, true, true, true]))),
  (68, (sq (xLA 0) (sq (xCV 11 1 F_X12_laysBack) (sq (xLI 2) tRI))))]
set_option maxRecDepth 100000 in
set_option maxHeartbeats 4000000 in
theorem s_X12_full : ∀ X : XCtx, XE X → X.2.2.1.1 = cX12_full → X.2.2.1.2.1 = 4 → X.2.2.1.2.2.1 = yX12_full.cls → X.2.2.1.2.2.2.1 = (some .int) → X.1.2.2.2.1 = { frames := 5, cells := 0, slots := 0, locals := 123 } → SndBs X bs_X12_full := by
  rintro ⟨⟨p, l, e, R, s⟩, Y, ⟨cc, nL, own, ret, Ts⟩, Z⟩ hE h1 h2 h3 h4 h5
  dsimp only at h1 h2 h3 h4 h5
  subst h1 h2 h3 h4 h5
  exact ⟨(n_sq (n_aload_n hE dX12_full_0) (n_sq (n_iload_n hE dX12_full_1) (n_sq (n_cIv hE m_X12_isKeep vc_X12_298 (show 0 + 1 ≤ 5 ∧ 8 + (2 + 11) + 0 ≤ 123 by decide) dX12_full_2) (n_ifne hE (by decide) dX12_full_5)))),
    (n_sq (n_iconst hE (by decide) dX12_full_8) (n_ireturn hE rfl dX12_full_9)),
    (n_sq (n_bipush hE (by decide) dX12_full_10) (n_sq (n_istore_n hE (show (2 : Nat) < 4 by decide) dX12_full_12) (n_sq (n_aload_n hE dX12_full_13) (n_sq (n_cVv hE m_X12_keeps vc_X12_377 (show 0 + 1 ≤ 5 ∧ 8 + (2 + 11) + 0 ≤ 123 by decide) dX12_full_14) (n_sq (n_iconst hE (by decide) dX12_full_17) (n_sq (n_istore_n hE (show (3 : Nat) < 4 by decide) dX12_full_18) n_fall)))))),
    (n_sq (n_iload_n hE dX12_full_19) (n_sq (n_sipush hE (by decide) dX12_full_20) (n_ifcge hE (by decide) dX12_full_23))),
    (n_sq (n_iload_n hE dX12_full_26) (n_ifge hE (by decide) dX12_full_27)),
    (n_sq (n_aload_n hE dX12_full_30) (n_sq (n_cIv hE m_X12_passes vc_X12_366 (show 4 + 1 ≤ 5 ∧ 8 + (3 + 11) + 101 ≤ 123 by decide) dX12_full_31) (n_sq (n_pop hE dX12_full_34) (n_sq (n_aload_n hE dX12_full_35) (n_sq (n_iload_n hE dX12_full_36) (n_sq (n_cIv hE m_X12_fullOf vc_X12_304 (show 0 + 1 ≤ 5 ∧ 8 + (2 + 11) + 0 ≤ 123 by decide) dX12_full_37) (n_sq (n_aload_n hE dX12_full_40) (n_sq (n_getS hE xk_11 (k := 20) rfl (by decide) rfl wt_980 dX12_full_41) (n_sq (n_bipush hE (by decide) dX12_full_44) (n_sq (n_iload_n hE dX12_full_46) (n_sq (n_iadd hE dX12_full_47) (n_sq (n_iald hE rfl (by decide) dX12_full_48) (n_ifcne hE (by decide) dX12_full_49))))))))))))),
    (n_sq (n_aload_n hE dX12_full_52) (n_sq (n_getS hE xk_11 (k := 20) rfl (by decide) rfl wt_980 dX12_full_53) (n_sq (n_bipush hE (by decide) dX12_full_56) (n_sq (n_iald hE rfl (by decide) dX12_full_58) (n_sq (n_iconst hE (by decide) dX12_full_59) (n_sq (n_isub hE dX12_full_60) (n_sq (n_istore_n hE (show (2 : Nat) < 4 by decide) dX12_full_61) n_fall))))))),
    (n_sq (n_iinc hE (by decide) (show (3 : Nat) < 4 by decide) dX12_full_62) (n_goto hE (by decide) dX12_full_65)),
    (n_sq (n_aload_n hE dX12_full_68) (n_sq (n_cVv hE m_X12_laysBack vc_X12_383 (show 0 + 1 ≤ 5 ∧ 8 + (2 + 11) + 0 ≤ 123 by decide) dX12_full_69) (n_sq (n_iload_n hE dX12_full_72) (n_ireturn hE rfl dX12_full_73)))), trivial⟩
noncomputable def F_X12_full (as : List XV) (w : XW) : Option (Int32 × XW) := (xF 4 bs_X12_full as w).bind pI
theorem m_X12_full : XM yX12_full cX12_full 4 (some .int) 5 123 (eI F_X12_full) := xm_I (xm_of (by decide) s_X12_full)
noncomputable def q_X12_full_0 (x1 : Int32) (w : XW) : Option XR := ev bs_X12_full 0 ([some (.inr (11, 0)), some (.inl (.int x1)), none, none], [], w)
noncomputable def q_X12_full_8 (w : XW) : Option XR := ev bs_X12_full 8 ([none, none, none, none], [], w)
noncomputable def q_X12_full_10 (x1 : Int32) (w : XW) : Option XR := ev bs_X12_full 10 ([some (.inr (11, 0)), some (.inl (.int x1)), none, none], [], w)
noncomputable def q_X12_full_19 (x1 : Int32) (x2 : Int32) (x3 : Int32) (w : XW) : Option XR := ev bs_X12_full 19 ([some (.inr (11, 0)), some (.inl (.int x1)), some (.inl (.int x2)), some (.inl (.int x3))], [], w)
noncomputable def q_X12_full_26 (x1 : Int32) (x2 : Int32) (x3 : Int32) (w : XW) : Option XR := ev bs_X12_full 26 ([some (.inr (11, 0)), some (.inl (.int x1)), some (.inl (.int x2)), some (.inl (.int x3))], [], w)
noncomputable def q_X12_full_30 (x1 : Int32) (x2 : Int32) (x3 : Int32) (w : XW) : Option XR := ev bs_X12_full 30 ([some (.inr (11, 0)), some (.inl (.int x1)), some (.inl (.int x2)), some (.inl (.int x3))], [], w)
noncomputable def q_X12_full_52 (x1 : Int32) (x3 : Int32) (w : XW) : Option XR := ev bs_X12_full 52 ([some (.inr (11, 0)), some (.inl (.int x1)), none, some (.inl (.int x3))], [], w)
noncomputable def q_X12_full_62 (x1 : Int32) (x2 : Int32) (x3 : Int32) (w : XW) : Option XR := ev bs_X12_full 62 ([some (.inr (11, 0)), some (.inl (.int x1)), some (.inl (.int x2)), some (.inl (.int x3))], [], w)
noncomputable def q_X12_full_68 (x2 : Int32) (w : XW) : Option XR := ev bs_X12_full 68 ([some (.inr (11, 0)), none, some (.inl (.int x2)), none], [], w)
theorem e_X12_full_0 (x1 : Int32) (w : XW) : q_X12_full_0 x1 w = ((F_X12_isKeep [.inr (11, 0), .inl (.int x1)] w).bind fun r0 => (bif decide (¬ r0.1 = 0) then (q_X12_full_10 x1 r0.2) else (q_X12_full_8 r0.2))) := (ev_eq _ _ _).trans rfl
theorem e_X12_full_8 (w : XW) : q_X12_full_8 w = (some (some (.inl (.int (-1))), w)) := (ev_eq _ _ _).trans rfl
theorem e_X12_full_10 (x1 : Int32) (w : XW) : q_X12_full_10 x1 w = ((F_X12_keeps [.inr (11, 0)] w).bind fun r0 => (q_X12_full_19 x1 (-2) 0 r0)) := (ev_eq _ _ _).trans rfl
theorem e_X12_full_19 (x1 : Int32) (x2 : Int32) (x3 : Int32) (w : XW) : q_X12_full_19 x1 x2 x3 w = (bif decide (200 ≤ x3) then (q_X12_full_68 x2 w) else (q_X12_full_26 x1 x2 x3 w)) := (ev_eq _ _ _).trans rfl
theorem e_X12_full_26 (x1 : Int32) (x2 : Int32) (x3 : Int32) (w : XW) : q_X12_full_26 x1 x2 x3 w = (bif decide (0 ≤ x2) then (q_X12_full_68 x2 w) else (q_X12_full_30 x1 x2 x3 w)) := (ev_eq _ _ _).trans rfl
theorem e_X12_full_30 (x1 : Int32) (x2 : Int32) (x3 : Int32) (w : XW) : q_X12_full_30 x1 x2 x3 w = ((F_X12_passes [.inr (11, 0)] w).bind fun r0 => ((F_X12_fullOf [.inr (11, 0), .inl (.int x1)] r0.2).bind fun r1 => (if (35 + x1) < 0 ∨ 98 ≤ (35 + x1).toNatClampNeg then none else (bif decide (¬ r1.1 = (gI r1.2 50 0 (35 + x1).toNatClampNeg)) then (q_X12_full_62 x1 x2 x3 r1.2) else (q_X12_full_52 x1 x3 r1.2))))) := (ev_eq _ _ _).trans rfl
theorem e_X12_full_52 (x1 : Int32) (x3 : Int32) (w : XW) : q_X12_full_52 x1 x3 w = (q_X12_full_62 x1 ((gI w 50 0 10) - 1) x3 w) := (ev_eq _ _ _).trans rfl
theorem e_X12_full_62 (x1 : Int32) (x2 : Int32) (x3 : Int32) (w : XW) : q_X12_full_62 x1 x2 x3 w = (q_X12_full_19 x1 x2 (x3 + 1) w) := (ev_eq _ _ _).trans rfl
theorem e_X12_full_68 (x2 : Int32) (w : XW) : q_X12_full_68 x2 w = ((F_X12_laysBack [.inr (11, 0)] w).bind fun r0 => (some (some (.inl (.int x2)), r0))) := (ev_eq _ _ _).trans rfl
theorem f_X12_full (x1 : Int32) (w : XW) : F_X12_full [.inr (11, 0), .inl (.int x1)] w = (q_X12_full_0 x1 w).bind pI := rfl

-- WinterKeepModel.nextWay()Z
theorem dX12_nextWay_0 : decode cX12_nextWay 0 = .ok (.aload_n 0, 1) := by decide +kernel
theorem dX12_nextWay_1 : decode cX12_nextWay 1 = .ok (.getfield 39, 3) := by decide +kernel
theorem dX12_nextWay_4 : decode cX12_nextWay 4 = .ok (.iconst 3, 1) := by decide +kernel
theorem dX12_nextWay_5 : decode cX12_nextWay 5 = .ok (.iaload, 1) := by decide +kernel
theorem dX12_nextWay_6 : decode cX12_nextWay 6 = .ok (.iconst 1, 1) := by decide +kernel
theorem dX12_nextWay_7 : decode cX12_nextWay 7 = .ok (.isub, 1) := by decide +kernel
theorem dX12_nextWay_8 : decode cX12_nextWay 8 = .ok (.istore_n 1, 1) := by decide +kernel
theorem dX12_nextWay_9 : decode cX12_nextWay 9 = .ok (.iload_n 1, 1) := by decide +kernel
theorem dX12_nextWay_10 : decode cX12_nextWay 10 = .ok (.ifCond .lt 33, 3) := by decide +kernel
theorem dX12_nextWay_13 : decode cX12_nextWay 13 = .ok (.aload_n 0, 1) := by decide +kernel
theorem dX12_nextWay_14 : decode cX12_nextWay 14 = .ok (.getfield 58, 3) := by decide +kernel
theorem dX12_nextWay_17 : decode cX12_nextWay 17 = .ok (.iload_n 1, 1) := by decide +kernel
theorem dX12_nextWay_18 : decode cX12_nextWay 18 = .ok (.iaload, 1) := by decide +kernel
theorem dX12_nextWay_19 : decode cX12_nextWay 19 = .ok (.aload_n 0, 1) := by decide +kernel
theorem dX12_nextWay_20 : decode cX12_nextWay 20 = .ok (.getfield 39, 3) := by decide +kernel
theorem dX12_nextWay_23 : decode cX12_nextWay 23 = .ok (.iconst 5, 1) := by decide +kernel
theorem dX12_nextWay_24 : decode cX12_nextWay 24 = .ok (.iaload, 1) := by decide +kernel
theorem dX12_nextWay_25 : decode cX12_nextWay 25 = .ok (.iconst 1, 1) := by decide +kernel
theorem dX12_nextWay_26 : decode cX12_nextWay 26 = .ok (.isub, 1) := by decide +kernel
theorem dX12_nextWay_27 : decode cX12_nextWay 27 = .ok (.if_icmp .ne 16, 3) := by decide +kernel
theorem dX12_nextWay_30 : decode cX12_nextWay 30 = .ok (.aload_n 0, 1) := by decide +kernel
theorem dX12_nextWay_31 : decode cX12_nextWay 31 = .ok (.getfield 58, 3) := by decide +kernel
theorem dX12_nextWay_34 : decode cX12_nextWay 34 = .ok (.iload_n 1, 1) := by decide +kernel
theorem dX12_nextWay_35 : decode cX12_nextWay 35 = .ok (.iconst (-1), 1) := by decide +kernel
theorem dX12_nextWay_36 : decode cX12_nextWay 36 = .ok (.iastore, 1) := by decide +kernel
theorem dX12_nextWay_37 : decode cX12_nextWay 37 = .ok (.iinc 1 (-1), 3) := by decide +kernel
theorem dX12_nextWay_40 : decode cX12_nextWay 40 = .ok (.goto (-31), 3) := by decide +kernel
theorem dX12_nextWay_43 : decode cX12_nextWay 43 = .ok (.iload_n 1, 1) := by decide +kernel
theorem dX12_nextWay_44 : decode cX12_nextWay 44 = .ok (.ifCond .ge 5, 3) := by decide +kernel
theorem dX12_nextWay_47 : decode cX12_nextWay 47 = .ok (.iconst 0, 1) := by decide +kernel
theorem dX12_nextWay_48 : decode cX12_nextWay 48 = .ok (.ireturn, 1) := by decide +kernel
theorem dX12_nextWay_49 : decode cX12_nextWay 49 = .ok (.aload_n 0, 1) := by decide +kernel
theorem dX12_nextWay_50 : decode cX12_nextWay 50 = .ok (.getfield 58, 3) := by decide +kernel
theorem dX12_nextWay_53 : decode cX12_nextWay 53 = .ok (.iload_n 1, 1) := by decide +kernel
theorem dX12_nextWay_54 : decode cX12_nextWay 54 = .ok (.dup2, 1) := by decide +kernel
theorem dX12_nextWay_55 : decode cX12_nextWay 55 = .ok (.iaload, 1) := by decide +kernel
theorem dX12_nextWay_56 : decode cX12_nextWay 56 = .ok (.iconst 1, 1) := by decide +kernel
theorem dX12_nextWay_57 : decode cX12_nextWay 57 = .ok (.iadd, 1) := by decide +kernel
theorem dX12_nextWay_58 : decode cX12_nextWay 58 = .ok (.iastore, 1) := by decide +kernel
theorem dX12_nextWay_59 : decode cX12_nextWay 59 = .ok (.iconst 1, 1) := by decide +kernel
theorem dX12_nextWay_60 : decode cX12_nextWay 60 = .ok (.ireturn, 1) := by decide +kernel
noncomputable def bs_X12_nextWay : List (Nat × XB) := [
  (0, (sq (xLA 0) (sq (xGS 11 50 1 0) (sq (xC (.int 3)) (sq (xAI 50 98) (sq (xC (.int 1)) (sq (xI2 (· - ·)) (sq (xSI 1) (tGo 9 [true, true]))))))))),
  (9, (sq (xLI 1) (tIf1 (fun x => decide (x < 0)) 43 [true, true] 13 [true, true]))),
  (13, (sq (xLA 0) (sq (xGS 11 54 1 0) (sq (xLI 1) (sq (xAI 54 6) (sq (xLA 0) (sq (xGS 11 50 1 0) (sq (xC (.int 5)) (sq (xAI 50 98) (sq (xC (.int 1)) (sq (xI2 (· - ·)) (tIf2 (fun x y => decide (¬ x = y)) 43 [true, true] 30 [true, true])))))))))))),
  (30, (sq (xLA 0) (sq (xGS 11 54 1 0) (sq (xLI 1) (sq (xC (.int (-1))) (sq (xTI 54 6 (fun x => x)) (sq (xInc 1 (-1)) (tGo 9 [true, true])))))))),
  (43, (sq (xLI 1) (tIf1 (fun x => decide (0 ≤ x)) 49 [true, true] 47 [false, false]))),
  (47, (sq (xC (.int 0)) tRZ)),
  (49, (sq (xLA 0) (sq (xGS 11 54 1 0) (sq (xLI 1) (sq (xDup2) (sq (xAI 54 6) (sq (xC (.int 1)) (sq (xI2 (· + ·)) (sq (xTI 54 6 (fun x => x)) (sq (xC (.int 1)) tRZ))))))))))]
set_option maxRecDepth 100000 in
set_option maxHeartbeats 4000000 in
theorem s_X12_nextWay : ∀ X : XCtx, XE X → X.2.2.1.1 = cX12_nextWay → X.2.2.1.2.1 = 2 → X.2.2.1.2.2.1 = yX12_nextWay.cls → X.2.2.1.2.2.2.1 = (some .boolean) → X.1.2.2.2.1 = { frames := 0, cells := 0, slots := 0, locals := 0 } → SndBs X bs_X12_nextWay := by
  rintro ⟨⟨p, l, e, R, s⟩, Y, ⟨cc, nL, own, ret, Ts⟩, Z⟩ hE h1 h2 h3 h4 h5
  dsimp only at h1 h2 h3 h4 h5
  subst h1 h2 h3 h4 h5
  exact ⟨(n_sq (n_aload_n hE dX12_nextWay_0) (n_sq (n_getS hE xk_11 (k := 20) rfl (by decide) rfl wt_980 dX12_nextWay_1) (n_sq (n_iconst hE (by decide) dX12_nextWay_4) (n_sq (n_iald hE rfl (by decide) dX12_nextWay_5) (n_sq (n_iconst hE (by decide) dX12_nextWay_6) (n_sq (n_isub hE dX12_nextWay_7) (n_sq (n_istore_n hE (show (1 : Nat) < 2 by decide) dX12_nextWay_8) n_fall))))))),
    (n_sq (n_iload_n hE dX12_nextWay_9) (n_iflt hE (by decide) dX12_nextWay_10)),
    (n_sq (n_aload_n hE dX12_nextWay_13) (n_sq (n_getS hE xk_11 (k := 28) rfl (by decide) rfl wt_988 dX12_nextWay_14) (n_sq (n_iload_n hE dX12_nextWay_17) (n_sq (n_iald hE rfl (by decide) dX12_nextWay_18) (n_sq (n_aload_n hE dX12_nextWay_19) (n_sq (n_getS hE xk_11 (k := 20) rfl (by decide) rfl wt_980 dX12_nextWay_20) (n_sq (n_iconst hE (by decide) dX12_nextWay_23) (n_sq (n_iald hE rfl (by decide) dX12_nextWay_24) (n_sq (n_iconst hE (by decide) dX12_nextWay_25) (n_sq (n_isub hE dX12_nextWay_26) (n_ifcne hE (by decide) dX12_nextWay_27))))))))))),
    (n_sq (n_aload_n hE dX12_nextWay_30) (n_sq (n_getS hE xk_11 (k := 28) rfl (by decide) rfl wt_988 dX12_nextWay_31) (n_sq (n_iload_n hE dX12_nextWay_34) (n_sq (n_iconst hE (by decide) dX12_nextWay_35) (n_sq (n_iast hE rfl (by decide) dX12_nextWay_36) (n_sq (n_iinc hE (by decide) (show (1 : Nat) < 2 by decide) dX12_nextWay_37) (n_goto hE (by decide) dX12_nextWay_40))))))),
    (n_sq (n_iload_n hE dX12_nextWay_43) (n_ifge hE (by decide) dX12_nextWay_44)),
    (n_sq (n_iconst hE (by decide) dX12_nextWay_47) (n_zreturn hE rfl dX12_nextWay_48)),
    (n_sq (n_aload_n hE dX12_nextWay_49) (n_sq (n_getS hE xk_11 (k := 28) rfl (by decide) rfl wt_988 dX12_nextWay_50) (n_sq (n_iload_n hE dX12_nextWay_53) (n_sq (n_dup2 hE dX12_nextWay_54) (n_sq (n_iald hE rfl (by decide) dX12_nextWay_55) (n_sq (n_iconst hE (by decide) dX12_nextWay_56) (n_sq (n_iadd hE dX12_nextWay_57) (n_sq (n_iast hE rfl (by decide) dX12_nextWay_58) (n_sq (n_iconst hE (by decide) dX12_nextWay_59) (n_zreturn hE rfl dX12_nextWay_60)))))))))), trivial⟩
noncomputable def F_X12_nextWay (as : List XV) (w : XW) : Option (Int32 × XW) := (xF 2 bs_X12_nextWay as w).bind pI
theorem m_X12_nextWay : XM yX12_nextWay cX12_nextWay 2 (some .boolean) 0 0 (eI F_X12_nextWay) := xm_I (xm_of (by decide) s_X12_nextWay)
noncomputable def q_X12_nextWay_0 (w : XW) : Option XR := ev bs_X12_nextWay 0 ([some (.inr (11, 0)), none], [], w)
noncomputable def q_X12_nextWay_9 (x1 : Int32) (w : XW) : Option XR := ev bs_X12_nextWay 9 ([some (.inr (11, 0)), some (.inl (.int x1))], [], w)
noncomputable def q_X12_nextWay_13 (x1 : Int32) (w : XW) : Option XR := ev bs_X12_nextWay 13 ([some (.inr (11, 0)), some (.inl (.int x1))], [], w)
noncomputable def q_X12_nextWay_30 (x1 : Int32) (w : XW) : Option XR := ev bs_X12_nextWay 30 ([some (.inr (11, 0)), some (.inl (.int x1))], [], w)
noncomputable def q_X12_nextWay_43 (x1 : Int32) (w : XW) : Option XR := ev bs_X12_nextWay 43 ([some (.inr (11, 0)), some (.inl (.int x1))], [], w)
noncomputable def q_X12_nextWay_47 (w : XW) : Option XR := ev bs_X12_nextWay 47 ([none, none], [], w)
noncomputable def q_X12_nextWay_49 (x1 : Int32) (w : XW) : Option XR := ev bs_X12_nextWay 49 ([some (.inr (11, 0)), some (.inl (.int x1))], [], w)
theorem e_X12_nextWay_0 (w : XW) : q_X12_nextWay_0 w = (q_X12_nextWay_9 ((gI w 50 0 3) - 1) w) := (ev_eq _ _ _).trans rfl
theorem e_X12_nextWay_9 (x1 : Int32) (w : XW) : q_X12_nextWay_9 x1 w = (bif decide (x1 < 0) then (q_X12_nextWay_43 x1 w) else (q_X12_nextWay_13 x1 w)) := (ev_eq _ _ _).trans rfl
theorem e_X12_nextWay_13 (x1 : Int32) (w : XW) : q_X12_nextWay_13 x1 w = (if x1 < 0 ∨ 6 ≤ x1.toNatClampNeg then none else (bif decide (¬ (gI w 54 0 x1.toNatClampNeg) = ((gI w 50 0 5) - 1)) then (q_X12_nextWay_43 x1 w) else (q_X12_nextWay_30 x1 w))) := (ev_eq _ _ _).trans rfl
theorem e_X12_nextWay_30 (x1 : Int32) (w : XW) : q_X12_nextWay_30 x1 w = (if x1 < 0 ∨ 6 ≤ x1.toNatClampNeg then none else (q_X12_nextWay_9 (x1 + (-1)) (sI w 54 0 x1.toNatClampNeg (-1)))) := (ev_eq _ _ _).trans rfl
theorem e_X12_nextWay_43 (x1 : Int32) (w : XW) : q_X12_nextWay_43 x1 w = (bif decide (0 ≤ x1) then (q_X12_nextWay_49 x1 w) else (q_X12_nextWay_47 w)) := (ev_eq _ _ _).trans rfl
theorem e_X12_nextWay_47 (w : XW) : q_X12_nextWay_47 w = (some (some (.inl (.int 0)), w)) := (ev_eq _ _ _).trans rfl
theorem e_X12_nextWay_49 (x1 : Int32) (w : XW) : q_X12_nextWay_49 x1 w = (if x1 < 0 ∨ 6 ≤ x1.toNatClampNeg then none else (if x1 < 0 ∨ 6 ≤ x1.toNatClampNeg then none else (some (some (.inl (.int 1)), sI w 54 0 x1.toNatClampNeg ((gI w 54 0 x1.toNatClampNeg) + 1))))) := (ev_eq _ _ _).trans rfl
theorem f_X12_nextWay (w : XW) : F_X12_nextWay [.inr (11, 0)] w = (q_X12_nextWay_0 w).bind pI := rfl
