-- WinterKeep$RuleReader.isCounted(LWinterKeep$Tape;I)Z
theorem dX8_isCounted_0 : decode cX8_isCounted 0 = .ok (.aload_n 0, 1) := by decide +kernel
theorem dX8_isCounted_1 : decode cX8_isCounted 1 = .ok (.dup, 1) := by decide +kernel
theorem dX8_isCounted_2 : decode cX8_isCounted 2 = .ok (.getfield 25, 3) := by decide +kernel
theorem dX8_isCounted_5 : decode cX8_isCounted 5 = .ok (.iconst 1, 1) := by decide +kernel
theorem dX8_isCounted_6 : decode cX8_isCounted 6 = .ok (.iadd, 1) := by decide +kernel
theorem dX8_isCounted_7 : decode cX8_isCounted 7 = .ok (.putfield 25, 3) := by decide +kernel
theorem dX8_isCounted_10 : decode cX8_isCounted 10 = .ok (.aload_n 0, 1) := by decide +kernel
theorem dX8_isCounted_11 : decode cX8_isCounted 11 = .ok (.getfield 25, 3) := by decide +kernel
theorem dX8_isCounted_14 : decode cX8_isCounted 14 = .ok (.bipush 60, 2) := by decide +kernel
theorem dX8_isCounted_16 : decode cX8_isCounted 16 = .ok (.if_icmp .le 12, 3) := by decide +kernel
theorem dX8_isCounted_19 : decode cX8_isCounted 19 = .ok (.aload_n 1, 1) := by decide +kernel
theorem dX8_isCounted_20 : decode cX8_isCounted 20 = .ok (.iload_n 2, 1) := by decide +kernel
theorem dX8_isCounted_21 : decode cX8_isCounted 21 = .ok (.iconst 3, 1) := by decide +kernel
theorem dX8_isCounted_22 : decode cX8_isCounted 22 = .ok (.invokevirtual 65, 3) := by decide +kernel
theorem dX8_isCounted_25 : decode cX8_isCounted 25 = .ok (.ifCond .eq 7, 3) := by decide +kernel
theorem dX8_isCounted_28 : decode cX8_isCounted 28 = .ok (.iconst 1, 1) := by decide +kernel
theorem dX8_isCounted_29 : decode cX8_isCounted 29 = .ok (.goto 4, 3) := by decide +kernel
theorem dX8_isCounted_32 : decode cX8_isCounted 32 = .ok (.iconst 0, 1) := by decide +kernel
theorem dX8_isCounted_33 : decode cX8_isCounted 33 = .ok (.ireturn, 1) := by decide +kernel
theorem vc_X8_65 : XVw RX8 65 2 9 3 yX10_fail cX10_fail (some .boolean) := ⟨RX10, TX10, tyX10, 6, xk_9, rfl, ⟨by decide, by decide⟩, by decide +kernel, wt_520, wt_469, wt_470, wt_2, wt_471⟩
noncomputable def bs_X8_isCounted : List (Nat × XB) := [
  (0, (sq (xLA 0) (sq (xDup) (sq (xGI 7 4) (sq (xC (.int 1)) (sq (xI2 (· + ·)) (sq (xPI 7 4) (sq (xLA 0) (sq (xGI 7 4) (sq (xC (.int 60)) (tIf2 (fun x y => decide (x ≤ y)) 28 [false, false, false] 19 [false, true, true]))))))))))),
  (19, (sq (xLA 1) (sq (xLI 2) (sq (xC (.int 3)) (sq (xCI 9 3 F_X10_fail) (tIf1 (fun x => decide (x = 0)) 32 [false, false, false] 28 [false, false, false])))))),
  (28, (sq (xC (.int 1)) (tGo 33 [false, false, false]))),
  (32, (sq (xC (.int 0)) (tGo 33 [false, false, false]))),
  (33, tRZ)]
set_option maxRecDepth 100000 in
set_option maxHeartbeats 4000000 in
theorem s_X8_isCounted : ∀ X : XCtx, XE X → X.2.2.1.1 = cX8_isCounted → X.2.2.1.2.1 = 3 → X.2.2.1.2.2.1 = yX8_isCounted.cls → X.2.2.1.2.2.2.1 = (some .boolean) → X.1.2.2.2.1 = { frames := 1, cells := 0, slots := 0, locals := 22 } → SndBs X bs_X8_isCounted := by
  rintro ⟨⟨p, l, e, R, s⟩, Y, ⟨cc, nL, own, ret, Ts⟩, Z⟩ hE h1 h2 h3 h4 h5
  dsimp only at h1 h2 h3 h4 h5
  subst h1 h2 h3 h4 h5
  exact ⟨(n_sq (n_aload_n hE dX8_isCounted_0) (n_sq (n_dup hE dX8_isCounted_1) (n_sq (n_getI hE xk_7 (k := 4) rfl (by decide) rfl wt_74 dX8_isCounted_2) (n_sq (n_iconst hE (by decide) dX8_isCounted_5) (n_sq (n_iadd hE dX8_isCounted_6) (n_sq (n_putI hE xk_7 (k := 4) rfl (by decide) rfl rfl (tyX8_ok 4 (by decide)) wt_74 dX8_isCounted_7) (n_sq (n_aload_n hE dX8_isCounted_10) (n_sq (n_getI hE xk_7 (k := 4) rfl (by decide) rfl wt_74 dX8_isCounted_11) (n_sq (n_bipush hE (by decide) dX8_isCounted_14) (n_ifcle hE (by decide) dX8_isCounted_16)))))))))),
    (n_sq (n_aload_n hE dX8_isCounted_19) (n_sq (n_iload_n hE dX8_isCounted_20) (n_sq (n_iconst hE (by decide) dX8_isCounted_21) (n_sq (n_cIv hE m_X10_fail vc_X8_65 (show 0 + 1 ≤ 1 ∧ 8 + (3 + 11) + 0 ≤ 22 by decide) dX8_isCounted_22) (n_ifeq hE (by decide) dX8_isCounted_25))))),
    (n_sq (n_iconst hE (by decide) dX8_isCounted_28) (n_goto hE (by decide) dX8_isCounted_29)),
    (n_sq (n_iconst hE (by decide) dX8_isCounted_32) n_fall),
    (n_zreturn hE rfl dX8_isCounted_33), trivial⟩
noncomputable def F_X8_isCounted (as : List XV) (w : XW) : Option (Int32 × XW) := (xF 3 bs_X8_isCounted as w).bind pI
theorem m_X8_isCounted : XM yX8_isCounted cX8_isCounted 3 (some .boolean) 1 22 (eI F_X8_isCounted) := xm_I (xm_of (by decide) s_X8_isCounted)
noncomputable def q_X8_isCounted_0 (x2 : Int32) (w : XW) : Option XR := ev bs_X8_isCounted 0 ([some (.inr (7, 0)), some (.inr (9, 0)), some (.inl (.int x2))], [], w)
noncomputable def q_X8_isCounted_19 (x2 : Int32) (w : XW) : Option XR := ev bs_X8_isCounted 19 ([none, some (.inr (9, 0)), some (.inl (.int x2))], [], w)
noncomputable def q_X8_isCounted_28 (w : XW) : Option XR := ev bs_X8_isCounted 28 ([none, none, none], [], w)
noncomputable def q_X8_isCounted_32 (w : XW) : Option XR := ev bs_X8_isCounted 32 ([none, none, none], [], w)
noncomputable def q_X8_isCounted_33 (s0 : Int32) (w : XW) : Option XR := ev bs_X8_isCounted 33 ([none, none, none], [.inl (.int s0)], w)
theorem e_X8_isCounted_0 (x2 : Int32) (w : XW) : q_X8_isCounted_0 x2 w = (bif decide ((gI (sI w 7 0 4 ((gI w 7 0 4) + 1)) 7 0 4) ≤ 60) then (q_X8_isCounted_28 (sI w 7 0 4 ((gI w 7 0 4) + 1))) else (q_X8_isCounted_19 x2 (sI w 7 0 4 ((gI w 7 0 4) + 1)))) := (ev_eq _ _ _).trans rfl
theorem e_X8_isCounted_19 (x2 : Int32) (w : XW) : q_X8_isCounted_19 x2 w = ((F_X10_fail [.inr (9, 0), .inl (.int x2), .inl (.int 3)] w).bind fun r0 => (bif decide (r0.1 = 0) then (q_X8_isCounted_32 r0.2) else (q_X8_isCounted_28 r0.2))) := (ev_eq _ _ _).trans rfl
theorem e_X8_isCounted_28 (w : XW) : q_X8_isCounted_28 w = (q_X8_isCounted_33 1 w) := (ev_eq _ _ _).trans rfl
theorem e_X8_isCounted_32 (w : XW) : q_X8_isCounted_32 w = (q_X8_isCounted_33 0 w) := (ev_eq _ _ _).trans rfl
theorem e_X8_isCounted_33 (s0 : Int32) (w : XW) : q_X8_isCounted_33 s0 w = (if s0 = 0 ∨ s0 = 1 then some (some (.inl (.int s0)), w) else none) := (ev_eq _ _ _).trans rfl
theorem f_X8_isCounted (x2 : Int32) (w : XW) : F_X8_isCounted [.inr (7, 0), .inr (9, 0), .inl (.int x2)] w = (q_X8_isCounted_0 x2 w).bind pI := rfl

-- WinterKeep$RuleReader.readValue(LWinterKeep$Tape;)Z
theorem dX8_readValue_0 : decode cX8_readValue 0 = .ok (.aload_n 1, 1) := by decide +kernel
theorem dX8_readValue_1 : decode cX8_readValue 1 = .ok (.invokevirtual 37, 3) := by decide +kernel
theorem dX8_readValue_4 : decode cX8_readValue 4 = .ok (.istore_n 2, 1) := by decide +kernel
theorem dX8_readValue_5 : decode cX8_readValue 5 = .ok (.iload_n 2, 1) := by decide +kernel
theorem dX8_readValue_6 : decode cX8_readValue 6 = .ok (.bipush 97, 2) := by decide +kernel
theorem dX8_readValue_8 : decode cX8_readValue 8 = .ok (.if_icmp .lt 41, 3) := by decide +kernel
theorem dX8_readValue_11 : decode cX8_readValue 11 = .ok (.iload_n 2, 1) := by decide +kernel
theorem dX8_readValue_12 : decode cX8_readValue 12 = .ok (.bipush 122, 2) := by decide +kernel
theorem dX8_readValue_14 : decode cX8_readValue 14 = .ok (.if_icmp .gt 35, 3) := by decide +kernel
theorem dX8_readValue_17 : decode cX8_readValue 17 = .ok (.aload_n 1, 1) := by decide +kernel
theorem dX8_readValue_18 : decode cX8_readValue 18 = .ok (.ldc 109, 2) := by decide +kernel
theorem dX8_readValue_20 : decode cX8_readValue 20 = .ok (.invokevirtual 58, 3) := by decide +kernel
theorem dX8_readValue_23 : decode cX8_readValue 23 = .ok (.istore_n 3, 1) := by decide +kernel
theorem dX8_readValue_24 : decode cX8_readValue 24 = .ok (.iload_n 3, 1) := by decide +kernel
theorem dX8_readValue_25 : decode cX8_readValue 25 = .ok (.iconst (-1), 1) := by decide +kernel
theorem dX8_readValue_26 : decode cX8_readValue 26 = .ok (.if_icmp .ne 13, 3) := by decide +kernel
theorem dX8_readValue_29 : decode cX8_readValue 29 = .ok (.aload_n 1, 1) := by decide +kernel
theorem dX8_readValue_30 : decode cX8_readValue 30 = .ok (.aload_n 1, 1) := by decide +kernel
theorem dX8_readValue_31 : decode cX8_readValue 31 = .ok (.getfield 69, 3) := by decide +kernel
theorem dX8_readValue_34 : decode cX8_readValue 34 = .ok (.iconst 0, 1) := by decide +kernel
theorem dX8_readValue_35 : decode cX8_readValue 35 = .ok (.invokevirtual 65, 3) := by decide +kernel
theorem dX8_readValue_38 : decode cX8_readValue 38 = .ok (.ireturn, 1) := by decide +kernel
theorem dX8_readValue_39 : decode cX8_readValue 39 = .ok (.aload_n 0, 1) := by decide +kernel
theorem dX8_readValue_40 : decode cX8_readValue 40 = .ok (.iconst (-1), 1) := by decide +kernel
theorem dX8_readValue_41 : decode cX8_readValue 41 = .ok (.iload_n 3, 1) := by decide +kernel
theorem dX8_readValue_42 : decode cX8_readValue 42 = .ok (.isub, 1) := by decide +kernel
theorem dX8_readValue_43 : decode cX8_readValue 43 = .ok (.invokevirtual 86, 3) := by decide +kernel
theorem dX8_readValue_46 : decode cX8_readValue 46 = .ok (.goto 23, 3) := by decide +kernel
theorem dX8_readValue_49 : decode cX8_readValue 49 = .ok (.aload_n 1, 1) := by decide +kernel
theorem dX8_readValue_50 : decode cX8_readValue 50 = .ok (.iconst 0, 1) := by decide +kernel
theorem dX8_readValue_51 : decode cX8_readValue 51 = .ok (.ldc 111, 2) := by decide +kernel
theorem dX8_readValue_53 : decode cX8_readValue 53 = .ok (.invokevirtual 112, 3) := by decide +kernel
theorem dX8_readValue_56 : decode cX8_readValue 56 = .ok (.ifCond .ne 5, 3) := by decide +kernel
theorem dX8_readValue_59 : decode cX8_readValue 59 = .ok (.iconst 0, 1) := by decide +kernel
theorem dX8_readValue_60 : decode cX8_readValue 60 = .ok (.ireturn, 1) := by decide +kernel
theorem dX8_readValue_61 : decode cX8_readValue 61 = .ok (.aload_n 0, 1) := by decide +kernel
theorem dX8_readValue_62 : decode cX8_readValue 62 = .ok (.aload_n 1, 1) := by decide +kernel
theorem dX8_readValue_63 : decode cX8_readValue 63 = .ok (.getfield 115, 3) := by decide +kernel
theorem dX8_readValue_66 : decode cX8_readValue 66 = .ok (.invokevirtual 86, 3) := by decide +kernel
theorem dX8_readValue_69 : decode cX8_readValue 69 = .ok (.aload_n 0, 1) := by decide +kernel
theorem dX8_readValue_70 : decode cX8_readValue 70 = .ok (.aload_n 1, 1) := by decide +kernel
theorem dX8_readValue_71 : decode cX8_readValue 71 = .ok (.aload_n 1, 1) := by decide +kernel
theorem dX8_readValue_72 : decode cX8_readValue 72 = .ok (.getfield 69, 3) := by decide +kernel
theorem dX8_readValue_75 : decode cX8_readValue 75 = .ok (.invokevirtual 96, 3) := by decide +kernel
theorem dX8_readValue_78 : decode cX8_readValue 78 = .ok (.ireturn, 1) := by decide +kernel
theorem vc_X8_37 : XVw RX8 37 0 9 1 yX10_sign cX10_sign (some .int) := ⟨RX10, TX10, tyX10, 6, xk_9, rfl, ⟨by decide, by decide⟩, by decide +kernel, wt_529, wt_409, wt_410, wt_2, wt_411⟩
theorem vc_X8_58 : XVw RX8 58 1 9 6 yX10_passWord cX10_passWord (some .int) := ⟨RX10, TX10, tyX10, 6, xk_9, rfl, ⟨by decide, by decide⟩, by decide +kernel, wt_519, wt_405, wt_406, wt_2, wt_407⟩
theorem vc_X8_86 : XVw RX8 86 1 7 2 yX8_add cX8_add none := ⟨RX8, TX8, tyX8, 5, xk_7, rfl, ⟨by decide, by decide⟩, by decide +kernel, wt_531, wt_533, ws_4, wt_3, wt_534⟩
theorem vc_X8_112 : XVw RX8 112 2 9 3 yX10_passNumber cX10_passNumber (some .boolean) := ⟨RX10, TX10, tyX10, 6, xk_9, rfl, ⟨by decide, by decide⟩, by decide +kernel, wt_536, wt_479, wt_480, wt_2, wt_481⟩
theorem vc_X8_96 : XVw RX8 96 2 7 3 yX8_isCounted cX8_isCounted (some .boolean) := ⟨RX8, TX8, tyX8, 5, xk_7, rfl, ⟨by decide, by decide⟩, by decide +kernel, wt_537, wt_539, ws_5, wt_3, wt_540⟩
noncomputable def bs_X8_readValue : List (Nat × XB) := [
  (0, (sq (xLA 1) (sq (xCI 9 1 F_X10_sign) (sq (xSI 2) (sq (xLI 2) (sq (xC (.int 97)) (tIf2 (fun x y => decide (x < y)) 49 [true, true, false, false] 11 [true, true, true, false]))))))),
  (11, (sq (xLI 2) (sq (xC (.int 122)) (tIf2 (fun x y => decide (y < x)) 49 [true, true, false, false] 17 [true, true, false, false])))),
  (17, (sq (xLA 1) (sq (xStr 1) (sq (xCI 9 2 F_X10_passWord) (sq (xSI 3) (sq (xLI 3) (sq (xC (.int (-1))) (tIf2 (fun x y => decide (¬ x = y)) 39 [true, true, false, true] 29 [false, true, false, false])))))))),
  (29, (sq (xLA 1) (sq (xLA 1) (sq (xGI 9 3) (sq (xC (.int 0)) (sq (xCI 9 3 F_X10_fail) tRZ)))))),
  (39, (sq (xLA 0) (sq (xC (.int (-1))) (sq (xLI 3) (sq (xI2 (· - ·)) (sq (xCV 7 2 F_X8_add) (tGo 69 [true, true, false, false]))))))),
  (49, (sq (xLA 1) (sq (xC (.int 0)) (sq (xC (.int 99999)) (sq (xCI 9 3 F_X10_passNumber) (tIf1 (fun x => decide (¬ x = 0)) 61 [true, true, false, false] 59 [false, false, false, false])))))),
  (59, (sq (xC (.int 0)) tRZ)),
  (61, (sq (xLA 0) (sq (xLA 1) (sq (xGI 9 4) (sq (xCV 7 2 F_X8_add) (tGo 69 [true, true, false, false])))))),
  (69, (sq (xLA 0) (sq (xLA 1) (sq (xLA 1) (sq (xGI 9 3) (sq (xCI 7 3 F_X8_isCounted) tRZ))))))]
set_option maxRecDepth 100000 in
set_option maxHeartbeats 4000000 in
theorem s_X8_readValue : ∀ X : XCtx, XE X → X.2.2.1.1 = cX8_readValue → X.2.2.1.2.1 = 4 → X.2.2.1.2.2.1 = yX8_readValue.cls → X.2.2.1.2.2.2.1 = (some .boolean) → X.1.2.2.2.1 = { frames := 6, cells := 0, slots := 0, locals := 135 } → SndBs X bs_X8_readValue := by
  rintro ⟨⟨p, l, e, R, s⟩, Y, ⟨cc, nL, own, ret, Ts⟩, Z⟩ hE h1 h2 h3 h4 h5
  dsimp only at h1 h2 h3 h4 h5
  subst h1 h2 h3 h4 h5
  exact ⟨(n_sq (n_aload_n hE dX8_readValue_0) (n_sq (n_cIv hE m_X10_sign vc_X8_37 (show 1 + 1 ≤ 6 ∧ 8 + (1 + 11) + 21 ≤ 135 by decide) dX8_readValue_1) (n_sq (n_istore_n hE (show (2 : Nat) < 4 by decide) dX8_readValue_4) (n_sq (n_iload_n hE dX8_readValue_5) (n_sq (n_bipush hE (by decide) dX8_readValue_6) (n_ifclt hE (by decide) dX8_readValue_8)))))),
    (n_sq (n_iload_n hE dX8_readValue_11) (n_sq (n_bipush hE (by decide) dX8_readValue_12) (n_ifcgt hE (by decide) dX8_readValue_14))),
    (n_sq (n_aload_n hE dX8_readValue_17) (n_sq (n_ldcS hE rfl (by decide) dX8_readValue_18) (n_sq (n_cIv hE m_X10_passWord vc_X8_58 (show 5 + 1 ≤ 6 ∧ 8 + (6 + 11) + 110 ≤ 135 by decide) dX8_readValue_20) (n_sq (n_istore_n hE (show (3 : Nat) < 4 by decide) dX8_readValue_23) (n_sq (n_iload_n hE dX8_readValue_24) (n_sq (n_iconst hE (by decide) dX8_readValue_25) (n_ifcne hE (by decide) dX8_readValue_26))))))),
    (n_sq (n_aload_n hE dX8_readValue_29) (n_sq (n_aload_n hE dX8_readValue_30) (n_sq (n_getI hE xk_9 (k := 3) rfl (by decide) rfl wt_44 dX8_readValue_31) (n_sq (n_iconst hE (by decide) dX8_readValue_34) (n_sq (n_cIv hE m_X10_fail vc_X8_65 (show 0 + 1 ≤ 6 ∧ 8 + (3 + 11) + 0 ≤ 135 by decide) dX8_readValue_35) (n_zreturn hE rfl dX8_readValue_38)))))),
    (n_sq (n_aload_n hE dX8_readValue_39) (n_sq (n_iconst hE (by decide) dX8_readValue_40) (n_sq (n_iload_n hE dX8_readValue_41) (n_sq (n_isub hE dX8_readValue_42) (n_sq (n_cVv hE m_X8_add vc_X8_86 (show 0 + 1 ≤ 6 ∧ 8 + (2 + 11) + 0 ≤ 135 by decide) dX8_readValue_43) (n_goto hE (by decide) dX8_readValue_46)))))),
    (n_sq (n_aload_n hE dX8_readValue_49) (n_sq (n_iconst hE (by decide) dX8_readValue_50) (n_sq (n_ldc hE wt_535 dX8_readValue_51) (n_sq (n_cIv hE m_X10_passNumber vc_X8_112 (show 2 + 1 ≤ 6 ∧ 8 + (3 + 11) + 41 ≤ 135 by decide) dX8_readValue_53) (n_ifne hE (by decide) dX8_readValue_56))))),
    (n_sq (n_iconst hE (by decide) dX8_readValue_59) (n_zreturn hE rfl dX8_readValue_60)),
    (n_sq (n_aload_n hE dX8_readValue_61) (n_sq (n_aload_n hE dX8_readValue_62) (n_sq (n_getI hE xk_9 (k := 4) rfl (by decide) rfl wt_47 dX8_readValue_63) (n_sq (n_cVv hE m_X8_add vc_X8_86 (show 0 + 1 ≤ 6 ∧ 8 + (2 + 11) + 0 ≤ 135 by decide) dX8_readValue_66) n_fall)))),
    (n_sq (n_aload_n hE dX8_readValue_69) (n_sq (n_aload_n hE dX8_readValue_70) (n_sq (n_aload_n hE dX8_readValue_71) (n_sq (n_getI hE xk_9 (k := 3) rfl (by decide) rfl wt_44 dX8_readValue_72) (n_sq (n_cIv hE m_X8_isCounted vc_X8_96 (show 1 + 1 ≤ 6 ∧ 8 + (3 + 11) + 22 ≤ 135 by decide) dX8_readValue_75) (n_zreturn hE rfl dX8_readValue_78)))))), trivial⟩
noncomputable def F_X8_readValue (as : List XV) (w : XW) : Option (Int32 × XW) := (xF 4 bs_X8_readValue as w).bind pI
theorem m_X8_readValue : XM yX8_readValue cX8_readValue 4 (some .boolean) 6 135 (eI F_X8_readValue) := xm_I (xm_of (by decide) s_X8_readValue)
noncomputable def q_X8_readValue_0 (w : XW) : Option XR := ev bs_X8_readValue 0 ([some (.inr (7, 0)), some (.inr (9, 0)), none, none], [], w)
noncomputable def q_X8_readValue_11 (x2 : Int32) (w : XW) : Option XR := ev bs_X8_readValue 11 ([some (.inr (7, 0)), some (.inr (9, 0)), some (.inl (.int x2)), none], [], w)
noncomputable def q_X8_readValue_17 (w : XW) : Option XR := ev bs_X8_readValue 17 ([some (.inr (7, 0)), some (.inr (9, 0)), none, none], [], w)
noncomputable def q_X8_readValue_29 (w : XW) : Option XR := ev bs_X8_readValue 29 ([none, some (.inr (9, 0)), none, none], [], w)
noncomputable def q_X8_readValue_39 (x3 : Int32) (w : XW) : Option XR := ev bs_X8_readValue 39 ([some (.inr (7, 0)), some (.inr (9, 0)), none, some (.inl (.int x3))], [], w)
noncomputable def q_X8_readValue_49 (w : XW) : Option XR := ev bs_X8_readValue 49 ([some (.inr (7, 0)), some (.inr (9, 0)), none, none], [], w)
noncomputable def q_X8_readValue_59 (w : XW) : Option XR := ev bs_X8_readValue 59 ([none, none, none, none], [], w)
noncomputable def q_X8_readValue_61 (w : XW) : Option XR := ev bs_X8_readValue 61 ([some (.inr (7, 0)), some (.inr (9, 0)), none, none], [], w)
noncomputable def q_X8_readValue_69 (w : XW) : Option XR := ev bs_X8_readValue 69 ([some (.inr (7, 0)), some (.inr (9, 0)), none, none], [], w)
theorem e_X8_readValue_0 (w : XW) : q_X8_readValue_0 w = ((F_X10_sign [.inr (9, 0)] w).bind fun r0 => (bif decide (r0.1 < 97) then (q_X8_readValue_49 r0.2) else (q_X8_readValue_11 r0.1 r0.2))) := (ev_eq _ _ _).trans rfl
theorem e_X8_readValue_11 (x2 : Int32) (w : XW) : q_X8_readValue_11 x2 w = (bif decide (122 < x2) then (q_X8_readValue_49 w) else (q_X8_readValue_17 w)) := (ev_eq _ _ _).trans rfl
theorem e_X8_readValue_17 (w : XW) : q_X8_readValue_17 w = ((F_X10_passWord [.inr (9, 0), .inr (65, 1)] w).bind fun r0 => (bif decide (¬ r0.1 = (-1)) then (q_X8_readValue_39 r0.1 r0.2) else (q_X8_readValue_29 r0.2))) := (ev_eq _ _ _).trans rfl
theorem e_X8_readValue_29 (w : XW) : q_X8_readValue_29 w = ((F_X10_fail [.inr (9, 0), .inl (.int (gI w 9 0 3)), .inl (.int 0)] w).bind fun r0 => (if r0.1 = 0 ∨ r0.1 = 1 then some (some (.inl (.int r0.1)), r0.2) else none)) := (ev_eq _ _ _).trans rfl
theorem e_X8_readValue_39 (x3 : Int32) (w : XW) : q_X8_readValue_39 x3 w = ((F_X8_add [.inr (7, 0), .inl (.int ((-1) - x3))] w).bind fun r0 => (q_X8_readValue_69 r0)) := (ev_eq _ _ _).trans rfl
theorem e_X8_readValue_49 (w : XW) : q_X8_readValue_49 w = ((F_X10_passNumber [.inr (9, 0), .inl (.int 0), .inl (.int 99999)] w).bind fun r0 => (bif decide (¬ r0.1 = 0) then (q_X8_readValue_61 r0.2) else (q_X8_readValue_59 r0.2))) := (ev_eq _ _ _).trans rfl
theorem e_X8_readValue_59 (w : XW) : q_X8_readValue_59 w = (some (some (.inl (.int 0)), w)) := (ev_eq _ _ _).trans rfl
theorem e_X8_readValue_61 (w : XW) : q_X8_readValue_61 w = ((F_X8_add [.inr (7, 0), .inl (.int (gI w 9 0 4))] w).bind fun r0 => (q_X8_readValue_69 r0)) := (ev_eq _ _ _).trans rfl
theorem e_X8_readValue_69 (w : XW) : q_X8_readValue_69 w = ((F_X8_isCounted [.inr (7, 0), .inr (9, 0), .inl (.int (gI w 9 0 3))] w).bind fun r0 => (if r0.1 = 0 ∨ r0.1 = 1 then some (some (.inl (.int r0.1)), r0.2) else none)) := (ev_eq _ _ _).trans rfl
theorem f_X8_readValue (w : XW) : F_X8_readValue [.inr (7, 0), .inr (9, 0)] w = (q_X8_readValue_0 w).bind pI := rfl

-- WinterKeep$RuleReader.stepOf(I)I
theorem dX8_stepOf_0 : decode cX8_stepOf 0 = .ok (.iload_n 0, 1) := by decide +kernel
theorem dX8_stepOf_1 : decode cX8_stepOf 1 = .ok (.tableswitch 74 37 47 #[71, 74, 74, 74, 74, 65, 59, 74, 62, 74, 68], 59) := by decide +kernel
theorem dX8_stepOf_60 : decode cX8_stepOf 60 = .ok (.bipush (-20), 2) := by decide +kernel
theorem dX8_stepOf_62 : decode cX8_stepOf 62 = .ok (.ireturn, 1) := by decide +kernel
theorem dX8_stepOf_63 : decode cX8_stepOf 63 = .ok (.bipush (-21), 2) := by decide +kernel
theorem dX8_stepOf_65 : decode cX8_stepOf 65 = .ok (.ireturn, 1) := by decide +kernel
theorem dX8_stepOf_66 : decode cX8_stepOf 66 = .ok (.bipush (-22), 2) := by decide +kernel
theorem dX8_stepOf_68 : decode cX8_stepOf 68 = .ok (.ireturn, 1) := by decide +kernel
theorem dX8_stepOf_69 : decode cX8_stepOf 69 = .ok (.bipush (-23), 2) := by decide +kernel
theorem dX8_stepOf_71 : decode cX8_stepOf 71 = .ok (.ireturn, 1) := by decide +kernel
theorem dX8_stepOf_72 : decode cX8_stepOf 72 = .ok (.bipush (-24), 2) := by decide +kernel
theorem dX8_stepOf_74 : decode cX8_stepOf 74 = .ok (.ireturn, 1) := by decide +kernel
theorem dX8_stepOf_75 : decode cX8_stepOf 75 = .ok (.iconst 0, 1) := by decide +kernel
theorem dX8_stepOf_76 : decode cX8_stepOf 76 = .ok (.ireturn, 1) := by decide +kernel
noncomputable def bs_X8_stepOf : List (Nat × XB) := [
  (0, (sq (xLI 0) (tSw [(37, 72), (38, 75), (39, 75), (40, 75), (41, 75), (42, 66), (43, 60), (44, 75), (45, 63), (46, 75), (47, 69)] 75 [false]))),
  (60, (sq (xC (.int (-20))) tRI)),
  (63, (sq (xC (.int (-21))) tRI)),
  (66, (sq (xC (.int (-22))) tRI)),
  (69, (sq (xC (.int (-23))) tRI)),
  (72, (sq (xC (.int (-24))) tRI)),
  (75, (sq (xC (.int 0)) tRI))]
set_option maxRecDepth 100000 in
set_option maxHeartbeats 4000000 in
theorem s_X8_stepOf : ∀ X : XCtx, XE X → X.2.2.1.1 = cX8_stepOf → X.2.2.1.2.1 = 1 → X.2.2.1.2.2.1 = yX8_stepOf.cls → X.2.2.1.2.2.2.1 = (some .int) → X.1.2.2.2.1 = { frames := 0, cells := 0, slots := 0, locals := 0 } → SndBs X bs_X8_stepOf := by
  rintro ⟨⟨p, l, e, R, s⟩, Y, ⟨cc, nL, own, ret, Ts⟩, Z⟩ hE h1 h2 h3 h4 h5
  dsimp only at h1 h2 h3 h4 h5
  subst h1 h2 h3 h4 h5
  exact ⟨(n_sq (n_iload_n hE dX8_stepOf_0) (n_switch hE (lo32 := 37) (ts := [72, 75, 75, 75, 75, 66, 60, 75, 63, 75, 69]) (by decide) (by decide) (by decide) (by decide) (by decide) (by decide) dX8_stepOf_1)),
    (n_sq (n_bipush hE (by decide) dX8_stepOf_60) (n_ireturn hE rfl dX8_stepOf_62)),
    (n_sq (n_bipush hE (by decide) dX8_stepOf_63) (n_ireturn hE rfl dX8_stepOf_65)),
    (n_sq (n_bipush hE (by decide) dX8_stepOf_66) (n_ireturn hE rfl dX8_stepOf_68)),
    (n_sq (n_bipush hE (by decide) dX8_stepOf_69) (n_ireturn hE rfl dX8_stepOf_71)),
    (n_sq (n_bipush hE (by decide) dX8_stepOf_72) (n_ireturn hE rfl dX8_stepOf_74)),
    (n_sq (n_iconst hE (by decide) dX8_stepOf_75) (n_ireturn hE rfl dX8_stepOf_76)), trivial⟩
noncomputable def F_X8_stepOf (as : List XV) (w : XW) : Option (Int32 × XW) := (xF 1 bs_X8_stepOf as w).bind pI
theorem m_X8_stepOf : XM yX8_stepOf cX8_stepOf 1 (some .int) 0 0 (eI F_X8_stepOf) := xm_I (xm_of (by decide) s_X8_stepOf)
noncomputable def q_X8_stepOf_0 (x0 : Int32) (w : XW) : Option XR := ev bs_X8_stepOf 0 ([some (.inl (.int x0))], [], w)
noncomputable def q_X8_stepOf_60 (w : XW) : Option XR := ev bs_X8_stepOf 60 ([none], [], w)
noncomputable def q_X8_stepOf_63 (w : XW) : Option XR := ev bs_X8_stepOf 63 ([none], [], w)
noncomputable def q_X8_stepOf_66 (w : XW) : Option XR := ev bs_X8_stepOf 66 ([none], [], w)
noncomputable def q_X8_stepOf_69 (w : XW) : Option XR := ev bs_X8_stepOf 69 ([none], [], w)
noncomputable def q_X8_stepOf_72 (w : XW) : Option XR := ev bs_X8_stepOf 72 ([none], [], w)
noncomputable def q_X8_stepOf_75 (w : XW) : Option XR := ev bs_X8_stepOf 75 ([none], [], w)
theorem e_X8_stepOf_0 (x0 : Int32) (w : XW) : q_X8_stepOf_0 x0 w = (bif x0 == 37 then (q_X8_stepOf_72 w) else (bif x0 == 38 then (q_X8_stepOf_75 w) else (bif x0 == 39 then (q_X8_stepOf_75 w) else (bif x0 == 40 then (q_X8_stepOf_75 w) else (bif x0 == 41 then (q_X8_stepOf_75 w) else (bif x0 == 42 then (q_X8_stepOf_66 w) else (bif x0 == 43 then (q_X8_stepOf_60 w) else (bif x0 == 44 then (q_X8_stepOf_75 w) else (bif x0 == 45 then (q_X8_stepOf_63 w) else (bif x0 == 46 then (q_X8_stepOf_75 w) else (bif x0 == 47 then (q_X8_stepOf_69 w) else (q_X8_stepOf_75 w)))))))))))) := (ev_eq _ _ _).trans rfl
theorem e_X8_stepOf_60 (w : XW) : q_X8_stepOf_60 w = (some (some (.inl (.int (-20))), w)) := (ev_eq _ _ _).trans rfl
theorem e_X8_stepOf_63 (w : XW) : q_X8_stepOf_63 w = (some (some (.inl (.int (-21))), w)) := (ev_eq _ _ _).trans rfl
theorem e_X8_stepOf_66 (w : XW) : q_X8_stepOf_66 w = (some (some (.inl (.int (-22))), w)) := (ev_eq _ _ _).trans rfl
theorem e_X8_stepOf_69 (w : XW) : q_X8_stepOf_69 w = (some (some (.inl (.int (-23))), w)) := (ev_eq _ _ _).trans rfl
theorem e_X8_stepOf_72 (w : XW) : q_X8_stepOf_72 w = (some (some (.inl (.int (-24))), w)) := (ev_eq _ _ _).trans rfl
theorem e_X8_stepOf_75 (w : XW) : q_X8_stepOf_75 w = (some (some (.inl (.int 0)), w)) := (ev_eq _ _ _).trans rfl
theorem f_X8_stepOf (x0 : Int32) (w : XW) : F_X8_stepOf [.inl (.int x0)] w = (q_X8_stepOf_0 x0 w).bind pI := rfl

-- WinterKeep$RuleReader.readSum(LWinterKeep$Tape;)Z
theorem dX8_readSum_0 : decode cX8_readSum 0 = .ok (.aload_n 0, 1) := by decide +kernel
theorem dX8_readSum_1 : decode cX8_readSum 1 = .ok (.aload_n 1, 1) := by decide +kernel
theorem dX8_readSum_2 : decode cX8_readSum 2 = .ok (.invokevirtual 103, 3) := by decide +kernel
theorem dX8_readSum_5 : decode cX8_readSum 5 = .ok (.ifCond .ne 5, 3) := by decide +kernel
theorem dX8_readSum_8 : decode cX8_readSum 8 = .ok (.iconst 0, 1) := by decide +kernel
theorem dX8_readSum_9 : decode cX8_readSum 9 = .ok (.ireturn, 1) := by decide +kernel
theorem dX8_readSum_10 : decode cX8_readSum 10 = .ok (.iconst 0, 1) := by decide +kernel
theorem dX8_readSum_11 : decode cX8_readSum 11 = .ok (.istore_n 2, 1) := by decide +kernel
theorem dX8_readSum_12 : decode cX8_readSum 12 = .ok (.iconst 0, 1) := by decide +kernel
theorem dX8_readSum_13 : decode cX8_readSum 13 = .ok (.istore_n 3, 1) := by decide +kernel
theorem dX8_readSum_14 : decode cX8_readSum 14 = .ok (.iload_n 3, 1) := by decide +kernel
theorem dX8_readSum_15 : decode cX8_readSum 15 = .ok (.sipush 400, 3) := by decide +kernel
theorem dX8_readSum_18 : decode cX8_readSum 18 = .ok (.if_icmp .ge 104, 3) := by decide +kernel
theorem dX8_readSum_21 : decode cX8_readSum 21 = .ok (.aload_n 1, 1) := by decide +kernel
theorem dX8_readSum_22 : decode cX8_readSum 22 = .ok (.invokevirtual 37, 3) := by decide +kernel
theorem dX8_readSum_25 : decode cX8_readSum 25 = .ok (.invokestatic 106, 3) := by decide +kernel
theorem dX8_readSum_28 : decode cX8_readSum 28 = .ok (.istore 4, 2) := by decide +kernel
theorem dX8_readSum_30 : decode cX8_readSum 30 = .ok (.iload 4, 2) := by decide +kernel
theorem dX8_readSum_32 : decode cX8_readSum 32 = .ok (.bipush (-20), 2) := by decide +kernel
theorem dX8_readSum_34 : decode cX8_readSum 34 = .ok (.if_icmp .eq 10, 3) := by decide +kernel
theorem dX8_readSum_37 : decode cX8_readSum 37 = .ok (.iload 4, 2) := by decide +kernel
theorem dX8_readSum_39 : decode cX8_readSum 39 = .ok (.bipush (-21), 2) := by decide +kernel
theorem dX8_readSum_41 : decode cX8_readSum 41 = .ok (.if_icmp .ne 7, 3) := by decide +kernel
theorem dX8_readSum_44 : decode cX8_readSum 44 = .ok (.iconst 1, 1) := by decide +kernel
theorem dX8_readSum_45 : decode cX8_readSum 45 = .ok (.goto 4, 3) := by decide +kernel
theorem dX8_readSum_48 : decode cX8_readSum 48 = .ok (.iconst 0, 1) := by decide +kernel
theorem dX8_readSum_49 : decode cX8_readSum 49 = .ok (.istore 5, 2) := by decide +kernel
theorem dX8_readSum_51 : decode cX8_readSum 51 = .ok (.iload_n 2, 1) := by decide +kernel
theorem dX8_readSum_52 : decode cX8_readSum 52 = .ok (.ifCond .eq 20, 3) := by decide +kernel
theorem dX8_readSum_55 : decode cX8_readSum 55 = .ok (.iload 5, 2) := by decide +kernel
theorem dX8_readSum_57 : decode cX8_readSum 57 = .ok (.ifCond .ne 8, 3) := by decide +kernel
theorem dX8_readSum_60 : decode cX8_readSum 60 = .ok (.iload 4, 2) := by decide +kernel
theorem dX8_readSum_62 : decode cX8_readSum 62 = .ok (.ifCond .ne 10, 3) := by decide +kernel
theorem dX8_readSum_65 : decode cX8_readSum 65 = .ok (.aload_n 0, 1) := by decide +kernel
theorem dX8_readSum_66 : decode cX8_readSum 66 = .ok (.iload_n 2, 1) := by decide +kernel
theorem dX8_readSum_67 : decode cX8_readSum 67 = .ok (.invokevirtual 86, 3) := by decide +kernel
theorem dX8_readSum_70 : decode cX8_readSum 70 = .ok (.iconst 0, 1) := by decide +kernel
theorem dX8_readSum_71 : decode cX8_readSum 71 = .ok (.istore_n 2, 1) := by decide +kernel
theorem dX8_readSum_72 : decode cX8_readSum 72 = .ok (.iload 4, 2) := by decide +kernel
theorem dX8_readSum_74 : decode cX8_readSum 74 = .ok (.ifCond .ne 5, 3) := by decide +kernel
theorem dX8_readSum_77 : decode cX8_readSum 77 = .ok (.iconst 1, 1) := by decide +kernel
theorem dX8_readSum_78 : decode cX8_readSum 78 = .ok (.ireturn, 1) := by decide +kernel
theorem dX8_readSum_79 : decode cX8_readSum 79 = .ok (.aload_n 1, 1) := by decide +kernel
theorem dX8_readSum_80 : decode cX8_readSum 80 = .ok (.dup, 1) := by decide +kernel
theorem dX8_readSum_81 : decode cX8_readSum 81 = .ok (.getfield 62, 3) := by decide +kernel
theorem dX8_readSum_84 : decode cX8_readSum 84 = .ok (.iconst 1, 1) := by decide +kernel
theorem dX8_readSum_85 : decode cX8_readSum 85 = .ok (.iadd, 1) := by decide +kernel
theorem dX8_readSum_86 : decode cX8_readSum 86 = .ok (.putfield 62, 3) := by decide +kernel
theorem dX8_readSum_89 : decode cX8_readSum 89 = .ok (.aload_n 0, 1) := by decide +kernel
theorem dX8_readSum_90 : decode cX8_readSum 90 = .ok (.aload_n 1, 1) := by decide +kernel
theorem dX8_readSum_91 : decode cX8_readSum 91 = .ok (.invokevirtual 103, 3) := by decide +kernel
theorem dX8_readSum_94 : decode cX8_readSum 94 = .ok (.ifCond .ne 5, 3) := by decide +kernel
theorem dX8_readSum_97 : decode cX8_readSum 97 = .ok (.iconst 0, 1) := by decide +kernel
theorem dX8_readSum_98 : decode cX8_readSum 98 = .ok (.ireturn, 1) := by decide +kernel
theorem dX8_readSum_99 : decode cX8_readSum 99 = .ok (.iload 5, 2) := by decide +kernel
theorem dX8_readSum_101 : decode cX8_readSum 101 = .ok (.ifCond .eq 9, 3) := by decide +kernel
theorem dX8_readSum_104 : decode cX8_readSum 104 = .ok (.iload 4, 2) := by decide +kernel
theorem dX8_readSum_106 : decode cX8_readSum 106 = .ok (.istore_n 2, 1) := by decide +kernel
theorem dX8_readSum_107 : decode cX8_readSum 107 = .ok (.goto 9, 3) := by decide +kernel
theorem dX8_readSum_110 : decode cX8_readSum 110 = .ok (.aload_n 0, 1) := by decide +kernel
theorem dX8_readSum_111 : decode cX8_readSum 111 = .ok (.iload 4, 2) := by decide +kernel
theorem dX8_readSum_113 : decode cX8_readSum 113 = .ok (.invokevirtual 86, 3) := by decide +kernel
theorem dX8_readSum_116 : decode cX8_readSum 116 = .ok (.iinc 3 1, 3) := by decide +kernel
theorem dX8_readSum_119 : decode cX8_readSum 119 = .ok (.goto (-105), 3) := by decide +kernel
theorem dX8_readSum_122 : decode cX8_readSum 122 = .ok (.iconst 1, 1) := by decide +kernel
theorem dX8_readSum_123 : decode cX8_readSum 123 = .ok (.ireturn, 1) := by decide +kernel
theorem vc_X8_103 : XVw RX8 103 1 7 4 yX8_readValue cX8_readValue (some .boolean) := ⟨RX8, TX8, tyX8, 5, xk_7, rfl, ⟨by decide, by decide⟩, by decide +kernel, wt_525, wt_527, ws_3, wt_3, wt_528⟩
theorem vc_X8_106 : XSw RX8 106 1 1 yX8_stepOf cX8_stepOf (some .int) := ⟨⟨by decide, by decide⟩, by decide +kernel, wt_541, wt_542, wt_3, wt_543⟩
noncomputable def bs_X8_readSum : List (Nat × XB) := [
  (0, (sq (xLA 0) (sq (xLA 1) (sq (xCI 7 2 F_X8_readValue) (tIf1 (fun x => decide (¬ x = 0)) 10 [true, true, false, false, false, false] 8 [false, false, false, false, false, false]))))),
  (8, (sq (xC (.int 0)) tRZ)),
  (10, (sq (xC (.int 0)) (sq (xSI 2) (sq (xC (.int 0)) (sq (xSI 3) (tGo 14 [true, true, true, true, false, false])))))),
  (14, (sq (xLI 3) (sq (xC (.int 400)) (tIf2 (fun x y => decide (y ≤ x)) 122 [false, false, false, false, false, false] 21 [true, true, true, true, false, false])))),
  (21, (sq (xLA 1) (sq (xCI 9 1 F_X10_sign) (sq (xCI 99 1 F_X8_stepOf) (sq (xSI 4) (sq (xLI 4) (sq (xC (.int (-20))) (tIf2 (fun x y => decide (x = y)) 44 [true, true, true, true, true, false] 37 [true, true, true, true, true, false])))))))),
  (37, (sq (xLI 4) (sq (xC (.int (-21))) (tIf2 (fun x y => decide (¬ x = y)) 48 [true, true, true, true, true, false] 44 [true, true, true, true, true, false])))),
  (44, (sq (xC (.int 1)) (tGo 49 [true, true, true, true, true, false]))),
  (48, (sq (xC (.int 0)) (tGo 49 [true, true, true, true, true, false]))),
  (49, (sq (xSI 5) (sq (xLI 2) (tIf1 (fun x => decide (x = 0)) 72 [true, true, true, true, true, true] 55 [true, true, true, true, true, true])))),
  (55, (sq (xLI 5) (tIf1 (fun x => decide (¬ x = 0)) 65 [true, true, true, true, true, true] 60 [true, true, true, true, true, true]))),
  (60, (sq (xLI 4) (tIf1 (fun x => decide (¬ x = 0)) 72 [true, true, true, true, true, true] 65 [true, true, true, true, true, true]))),
  (65, (sq (xLA 0) (sq (xLI 2) (sq (xCV 7 2 F_X8_add) (sq (xC (.int 0)) (sq (xSI 2) (tGo 72 [true, true, true, true, true, true]))))))),
  (72, (sq (xLI 4) (tIf1 (fun x => decide (¬ x = 0)) 79 [true, true, true, true, true, true] 77 [false, false, false, false, false, false]))),
  (77, (sq (xC (.int 1)) tRZ)),
  (79, (sq (xLA 1) (sq (xDup) (sq (xGI 9 2) (sq (xC (.int 1)) (sq (xI2 (· + ·)) (sq (xPI 9 2) (sq (xLA 0) (sq (xLA 1) (sq (xCI 7 2 F_X8_readValue) (tIf1 (fun x => decide (¬ x = 0)) 99 [true, true, true, true, true, true] 97 [false, false, false, false, false, false]))))))))))),
  (97, (sq (xC (.int 0)) tRZ)),
  (99, (sq (xLI 5) (tIf1 (fun x => decide (x = 0)) 110 [true, true, true, true, true, false] 104 [true, true, false, true, true, false]))),
  (104, (sq (xLI 4) (sq (xSI 2) (tGo 116 [true, true, true, true, false, false])))),
  (110, (sq (xLA 0) (sq (xLI 4) (sq (xCV 7 2 F_X8_add) (tGo 116 [true, true, true, true, false, false]))))),
  (116, (sq (xInc 3 1) (tGo 14 [true, true, true, true, false, false]))),
  (122, (sq (xC (.int 1)) tRZ))]
set_option maxRecDepth 100000 in
set_option maxHeartbeats 4000000 in
theorem s_X8_readSum : ∀ X : XCtx, XE X → X.2.2.1.1 = cX8_readSum → X.2.2.1.2.1 = 6 → X.2.2.1.2.2.1 = yX8_readSum.cls → X.2.2.1.2.2.2.1 = (some .boolean) → X.1.2.2.2.1 = { frames := 7, cells := 0, slots := 0, locals := 158 } → SndBs X bs_X8_readSum := by
  rintro ⟨⟨p, l, e, R, s⟩, Y, ⟨cc, nL, own, ret, Ts⟩, Z⟩ hE h1 h2 h3 h4 h5
  dsimp only at h1 h2 h3 h4 h5
  subst h1 h2 h3 h4 h5
  exact ⟨(n_sq (n_aload_n hE dX8_readSum_0) (n_sq (n_aload_n hE dX8_readSum_1) (n_sq (n_cIv hE m_X8_readValue vc_X8_103 (show 6 + 1 ≤ 7 ∧ 8 + (4 + 11) + 135 ≤ 158 by decide) dX8_readSum_2) (n_ifne hE (by decide) dX8_readSum_5)))),
    (n_sq (n_iconst hE (by decide) dX8_readSum_8) (n_zreturn hE rfl dX8_readSum_9)),
    (n_sq (n_iconst hE (by decide) dX8_readSum_10) (n_sq (n_istore_n hE (show (2 : Nat) < 6 by decide) dX8_readSum_11) (n_sq (n_iconst hE (by decide) dX8_readSum_12) (n_sq (n_istore_n hE (show (3 : Nat) < 6 by decide) dX8_readSum_13) n_fall)))),
    (n_sq (n_iload_n hE dX8_readSum_14) (n_sq (n_sipush hE (by decide) dX8_readSum_15) (n_ifcge hE (by decide) dX8_readSum_18))),
    (n_sq (n_aload_n hE dX8_readSum_21) (n_sq (n_cIv hE m_X10_sign vc_X8_37 (show 1 + 1 ≤ 7 ∧ 8 + (1 + 11) + 21 ≤ 158 by decide) dX8_readSum_22) (n_sq (n_cIs hE m_X8_stepOf vc_X8_106 (show 0 + 1 ≤ 7 ∧ 8 + (1 + 11) + 0 ≤ 158 by decide) dX8_readSum_25) (n_sq (n_istore hE (show (4 : Nat) < 6 by decide) dX8_readSum_28) (n_sq (n_iload hE dX8_readSum_30) (n_sq (n_bipush hE (by decide) dX8_readSum_32) (n_ifceq hE (by decide) dX8_readSum_34))))))),
    (n_sq (n_iload hE dX8_readSum_37) (n_sq (n_bipush hE (by decide) dX8_readSum_39) (n_ifcne hE (by decide) dX8_readSum_41))),
    (n_sq (n_iconst hE (by decide) dX8_readSum_44) (n_goto hE (by decide) dX8_readSum_45)),
    (n_sq (n_iconst hE (by decide) dX8_readSum_48) n_fall),
    (n_sq (n_istore hE (show (5 : Nat) < 6 by decide) dX8_readSum_49) (n_sq (n_iload_n hE dX8_readSum_51) (n_ifeq hE (by decide) dX8_readSum_52))),
    (n_sq (n_iload hE dX8_readSum_55) (n_ifne hE (by decide) dX8_readSum_57)),
    (n_sq (n_iload hE dX8_readSum_60) (n_ifne hE (by decide) dX8_readSum_62)),
    (n_sq (n_aload_n hE dX8_readSum_65) (n_sq (n_iload_n hE dX8_readSum_66) (n_sq (n_cVv hE m_X8_add vc_X8_86 (show 0 + 1 ≤ 7 ∧ 8 + (2 + 11) + 0 ≤ 158 by decide) dX8_readSum_67) (n_sq (n_iconst hE (by decide) dX8_readSum_70) (n_sq (n_istore_n hE (show (2 : Nat) < 6 by decide) dX8_readSum_71) n_fall))))),
    (n_sq (n_iload hE dX8_readSum_72) (n_ifne hE (by decide) dX8_readSum_74)),
    (n_sq (n_iconst hE (by decide) dX8_readSum_77) (n_zreturn hE rfl dX8_readSum_78)),
    (n_sq (n_aload_n hE dX8_readSum_79) (n_sq (n_dup hE dX8_readSum_80) (n_sq (n_getI hE xk_9 (k := 2) rfl (by decide) rfl wt_41 dX8_readSum_81) (n_sq (n_iconst hE (by decide) dX8_readSum_84) (n_sq (n_iadd hE dX8_readSum_85) (n_sq (n_putI hE xk_9 (k := 2) rfl (by decide) rfl rfl (tyX10_ok 2 (by decide)) wt_41 dX8_readSum_86) (n_sq (n_aload_n hE dX8_readSum_89) (n_sq (n_aload_n hE dX8_readSum_90) (n_sq (n_cIv hE m_X8_readValue vc_X8_103 (show 6 + 1 ≤ 7 ∧ 8 + (4 + 11) + 135 ≤ 158 by decide) dX8_readSum_91) (n_ifne hE (by decide) dX8_readSum_94)))))))))),
    (n_sq (n_iconst hE (by decide) dX8_readSum_97) (n_zreturn hE rfl dX8_readSum_98)),
    (n_sq (n_iload hE dX8_readSum_99) (n_ifeq hE (by decide) dX8_readSum_101)),
    (n_sq (n_iload hE dX8_readSum_104) (n_sq (n_istore_n hE (show (2 : Nat) < 6 by decide) dX8_readSum_106) (n_goto hE (by decide) dX8_readSum_107))),
    (n_sq (n_aload_n hE dX8_readSum_110) (n_sq (n_iload hE dX8_readSum_111) (n_sq (n_cVv hE m_X8_add vc_X8_86 (show 0 + 1 ≤ 7 ∧ 8 + (2 + 11) + 0 ≤ 158 by decide) dX8_readSum_113) n_fall))),
    (n_sq (n_iinc hE (by decide) (show (3 : Nat) < 6 by decide) dX8_readSum_116) (n_goto hE (by decide) dX8_readSum_119)),
    (n_sq (n_iconst hE (by decide) dX8_readSum_122) (n_zreturn hE rfl dX8_readSum_123)), trivial⟩
noncomputable def F_X8_readSum (as : List XV) (w : XW) : Option (Int32 × XW) := (xF 6 bs_X8_readSum as w).bind pI
theorem m_X8_readSum : XM yX8_readSum cX8_readSum 6 (some .boolean) 7 158 (eI F_X8_readSum) := xm_I (xm_of (by decide) s_X8_readSum)
noncomputable def q_X8_readSum_0 (w : XW) : Option XR := ev bs_X8_readSum 0 ([some (.inr (7, 0)), some (.inr (9, 0)), none, none, none, none], [], w)
noncomputable def q_X8_readSum_8 (w : XW) : Option XR := ev bs_X8_readSum 8 ([none, none, none, none, none, none], [], w)
noncomputable def q_X8_readSum_10 (w : XW) : Option XR := ev bs_X8_readSum 10 ([some (.inr (7, 0)), some (.inr (9, 0)), none, none, none, none], [], w)
noncomputable def q_X8_readSum_14 (x2 : Int32) (x3 : Int32) (w : XW) : Option XR := ev bs_X8_readSum 14 ([some (.inr (7, 0)), some (.inr (9, 0)), some (.inl (.int x2)), some (.inl (.int x3)), none, none], [], w)
noncomputable def q_X8_readSum_21 (x2 : Int32) (x3 : Int32) (w : XW) : Option XR := ev bs_X8_readSum 21 ([some (.inr (7, 0)), some (.inr (9, 0)), some (.inl (.int x2)), some (.inl (.int x3)), none, none], [], w)
noncomputable def q_X8_readSum_37 (x2 : Int32) (x3 : Int32) (x4 : Int32) (w : XW) : Option XR := ev bs_X8_readSum 37 ([some (.inr (7, 0)), some (.inr (9, 0)), some (.inl (.int x2)), some (.inl (.int x3)), some (.inl (.int x4)), none], [], w)
noncomputable def q_X8_readSum_44 (x2 : Int32) (x3 : Int32) (x4 : Int32) (w : XW) : Option XR := ev bs_X8_readSum 44 ([some (.inr (7, 0)), some (.inr (9, 0)), some (.inl (.int x2)), some (.inl (.int x3)), some (.inl (.int x4)), none], [], w)
noncomputable def q_X8_readSum_48 (x2 : Int32) (x3 : Int32) (x4 : Int32) (w : XW) : Option XR := ev bs_X8_readSum 48 ([some (.inr (7, 0)), some (.inr (9, 0)), some (.inl (.int x2)), some (.inl (.int x3)), some (.inl (.int x4)), none], [], w)
noncomputable def q_X8_readSum_49 (x2 : Int32) (x3 : Int32) (x4 : Int32) (s0 : Int32) (w : XW) : Option XR := ev bs_X8_readSum 49 ([some (.inr (7, 0)), some (.inr (9, 0)), some (.inl (.int x2)), some (.inl (.int x3)), some (.inl (.int x4)), none], [.inl (.int s0)], w)
noncomputable def q_X8_readSum_55 (x2 : Int32) (x3 : Int32) (x4 : Int32) (x5 : Int32) (w : XW) : Option XR := ev bs_X8_readSum 55 ([some (.inr (7, 0)), some (.inr (9, 0)), some (.inl (.int x2)), some (.inl (.int x3)), some (.inl (.int x4)), some (.inl (.int x5))], [], w)
noncomputable def q_X8_readSum_60 (x2 : Int32) (x3 : Int32) (x4 : Int32) (x5 : Int32) (w : XW) : Option XR := ev bs_X8_readSum 60 ([some (.inr (7, 0)), some (.inr (9, 0)), some (.inl (.int x2)), some (.inl (.int x3)), some (.inl (.int x4)), some (.inl (.int x5))], [], w)
noncomputable def q_X8_readSum_65 (x2 : Int32) (x3 : Int32) (x4 : Int32) (x5 : Int32) (w : XW) : Option XR := ev bs_X8_readSum 65 ([some (.inr (7, 0)), some (.inr (9, 0)), some (.inl (.int x2)), some (.inl (.int x3)), some (.inl (.int x4)), some (.inl (.int x5))], [], w)
noncomputable def q_X8_readSum_72 (x2 : Int32) (x3 : Int32) (x4 : Int32) (x5 : Int32) (w : XW) : Option XR := ev bs_X8_readSum 72 ([some (.inr (7, 0)), some (.inr (9, 0)), some (.inl (.int x2)), some (.inl (.int x3)), some (.inl (.int x4)), some (.inl (.int x5))], [], w)
noncomputable def q_X8_readSum_77 (w : XW) : Option XR := ev bs_X8_readSum 77 ([none, none, none, none, none, none], [], w)
noncomputable def q_X8_readSum_79 (x2 : Int32) (x3 : Int32) (x4 : Int32) (x5 : Int32) (w : XW) : Option XR := ev bs_X8_readSum 79 ([some (.inr (7, 0)), some (.inr (9, 0)), some (.inl (.int x2)), some (.inl (.int x3)), some (.inl (.int x4)), some (.inl (.int x5))], [], w)
noncomputable def q_X8_readSum_97 (w : XW) : Option XR := ev bs_X8_readSum 97 ([none, none, none, none, none, none], [], w)
noncomputable def q_X8_readSum_99 (x2 : Int32) (x3 : Int32) (x4 : Int32) (x5 : Int32) (w : XW) : Option XR := ev bs_X8_readSum 99 ([some (.inr (7, 0)), some (.inr (9, 0)), some (.inl (.int x2)), some (.inl (.int x3)), some (.inl (.int x4)), some (.inl (.int x5))], [], w)
noncomputable def q_X8_readSum_104 (x3 : Int32) (x4 : Int32) (w : XW) : Option XR := ev bs_X8_readSum 104 ([some (.inr (7, 0)), some (.inr (9, 0)), none, some (.inl (.int x3)), some (.inl (.int x4)), none], [], w)
noncomputable def q_X8_readSum_110 (x2 : Int32) (x3 : Int32) (x4 : Int32) (w : XW) : Option XR := ev bs_X8_readSum 110 ([some (.inr (7, 0)), some (.inr (9, 0)), some (.inl (.int x2)), some (.inl (.int x3)), some (.inl (.int x4)), none], [], w)
noncomputable def q_X8_readSum_116 (x2 : Int32) (x3 : Int32) (w : XW) : Option XR := ev bs_X8_readSum 116 ([some (.inr (7, 0)), some (.inr (9, 0)), some (.inl (.int x2)), some (.inl (.int x3)), none, none], [], w)
noncomputable def q_X8_readSum_122 (w : XW) : Option XR := ev bs_X8_readSum 122 ([none, none, none, none, none, none], [], w)
theorem e_X8_readSum_0 (w : XW) : q_X8_readSum_0 w = ((F_X8_readValue [.inr (7, 0), .inr (9, 0)] w).bind fun r0 => (bif decide (¬ r0.1 = 0) then (q_X8_readSum_10 r0.2) else (q_X8_readSum_8 r0.2))) := (ev_eq _ _ _).trans rfl
theorem e_X8_readSum_8 (w : XW) : q_X8_readSum_8 w = (some (some (.inl (.int 0)), w)) := (ev_eq _ _ _).trans rfl
theorem e_X8_readSum_10 (w : XW) : q_X8_readSum_10 w = (q_X8_readSum_14 0 0 w) := (ev_eq _ _ _).trans rfl
theorem e_X8_readSum_14 (x2 : Int32) (x3 : Int32) (w : XW) : q_X8_readSum_14 x2 x3 w = (bif decide (400 ≤ x3) then (q_X8_readSum_122 w) else (q_X8_readSum_21 x2 x3 w)) := (ev_eq _ _ _).trans rfl
theorem e_X8_readSum_21 (x2 : Int32) (x3 : Int32) (w : XW) : q_X8_readSum_21 x2 x3 w = ((F_X10_sign [.inr (9, 0)] w).bind fun r0 => ((F_X8_stepOf [.inl (.int r0.1)] r0.2).bind fun r1 => (bif decide (r1.1 = (-20)) then (q_X8_readSum_44 x2 x3 r1.1 r1.2) else (q_X8_readSum_37 x2 x3 r1.1 r1.2)))) := (ev_eq _ _ _).trans rfl
theorem e_X8_readSum_37 (x2 : Int32) (x3 : Int32) (x4 : Int32) (w : XW) : q_X8_readSum_37 x2 x3 x4 w = (bif decide (¬ x4 = (-21)) then (q_X8_readSum_48 x2 x3 x4 w) else (q_X8_readSum_44 x2 x3 x4 w)) := (ev_eq _ _ _).trans rfl
theorem e_X8_readSum_44 (x2 : Int32) (x3 : Int32) (x4 : Int32) (w : XW) : q_X8_readSum_44 x2 x3 x4 w = (q_X8_readSum_49 x2 x3 x4 1 w) := (ev_eq _ _ _).trans rfl
theorem e_X8_readSum_48 (x2 : Int32) (x3 : Int32) (x4 : Int32) (w : XW) : q_X8_readSum_48 x2 x3 x4 w = (q_X8_readSum_49 x2 x3 x4 0 w) := (ev_eq _ _ _).trans rfl
theorem e_X8_readSum_49 (x2 : Int32) (x3 : Int32) (x4 : Int32) (s0 : Int32) (w : XW) : q_X8_readSum_49 x2 x3 x4 s0 w = (bif decide (x2 = 0) then (q_X8_readSum_72 x2 x3 x4 s0 w) else (q_X8_readSum_55 x2 x3 x4 s0 w)) := (ev_eq _ _ _).trans rfl
theorem e_X8_readSum_55 (x2 : Int32) (x3 : Int32) (x4 : Int32) (x5 : Int32) (w : XW) : q_X8_readSum_55 x2 x3 x4 x5 w = (bif decide (¬ x5 = 0) then (q_X8_readSum_65 x2 x3 x4 x5 w) else (q_X8_readSum_60 x2 x3 x4 x5 w)) := (ev_eq _ _ _).trans rfl
theorem e_X8_readSum_60 (x2 : Int32) (x3 : Int32) (x4 : Int32) (x5 : Int32) (w : XW) : q_X8_readSum_60 x2 x3 x4 x5 w = (bif decide (¬ x4 = 0) then (q_X8_readSum_72 x2 x3 x4 x5 w) else (q_X8_readSum_65 x2 x3 x4 x5 w)) := (ev_eq _ _ _).trans rfl
theorem e_X8_readSum_65 (x2 : Int32) (x3 : Int32) (x4 : Int32) (x5 : Int32) (w : XW) : q_X8_readSum_65 x2 x3 x4 x5 w = ((F_X8_add [.inr (7, 0), .inl (.int x2)] w).bind fun r0 => (q_X8_readSum_72 0 x3 x4 x5 r0)) := (ev_eq _ _ _).trans rfl
theorem e_X8_readSum_72 (x2 : Int32) (x3 : Int32) (x4 : Int32) (x5 : Int32) (w : XW) : q_X8_readSum_72 x2 x3 x4 x5 w = (bif decide (¬ x4 = 0) then (q_X8_readSum_79 x2 x3 x4 x5 w) else (q_X8_readSum_77 w)) := (ev_eq _ _ _).trans rfl
theorem e_X8_readSum_77 (w : XW) : q_X8_readSum_77 w = (some (some (.inl (.int 1)), w)) := (ev_eq _ _ _).trans rfl
theorem e_X8_readSum_79 (x2 : Int32) (x3 : Int32) (x4 : Int32) (x5 : Int32) (w : XW) : q_X8_readSum_79 x2 x3 x4 x5 w = ((F_X8_readValue [.inr (7, 0), .inr (9, 0)] (sI w 9 0 2 ((gI w 9 0 2) + 1))).bind fun r0 => (bif decide (¬ r0.1 = 0) then (q_X8_readSum_99 x2 x3 x4 x5 r0.2) else (q_X8_readSum_97 r0.2))) := (ev_eq _ _ _).trans rfl
theorem e_X8_readSum_97 (w : XW) : q_X8_readSum_97 w = (some (some (.inl (.int 0)), w)) := (ev_eq _ _ _).trans rfl
theorem e_X8_readSum_99 (x2 : Int32) (x3 : Int32) (x4 : Int32) (x5 : Int32) (w : XW) : q_X8_readSum_99 x2 x3 x4 x5 w = (bif decide (x5 = 0) then (q_X8_readSum_110 x2 x3 x4 w) else (q_X8_readSum_104 x3 x4 w)) := (ev_eq _ _ _).trans rfl
theorem e_X8_readSum_104 (x3 : Int32) (x4 : Int32) (w : XW) : q_X8_readSum_104 x3 x4 w = (q_X8_readSum_116 x4 x3 w) := (ev_eq _ _ _).trans rfl
theorem e_X8_readSum_110 (x2 : Int32) (x3 : Int32) (x4 : Int32) (w : XW) : q_X8_readSum_110 x2 x3 x4 w = ((F_X8_add [.inr (7, 0), .inl (.int x4)] w).bind fun r0 => (q_X8_readSum_116 x2 x3 r0)) := (ev_eq _ _ _).trans rfl
theorem e_X8_readSum_116 (x2 : Int32) (x3 : Int32) (w : XW) : q_X8_readSum_116 x2 x3 w = (q_X8_readSum_14 x2 (x3 + 1) w) := (ev_eq _ _ _).trans rfl
theorem e_X8_readSum_122 (w : XW) : q_X8_readSum_122 w = (some (some (.inl (.int 1)), w)) := (ev_eq _ _ _).trans rfl
theorem f_X8_readSum (w : XW) : F_X8_readSum [.inr (7, 0), .inr (9, 0)] w = (q_X8_readSum_0 w).bind pI := rfl
