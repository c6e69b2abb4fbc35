-- WinterKeepModel.back(I)I
theorem dX12_back_0 : decode cX12_back 0 = .ok (.iload_n 1, 1) := by decide +kernel
theorem dX12_back_1 : decode cX12_back 1 = .ok (.i2l, 1) := by decide +kernel
theorem dX12_back_2 : decode cX12_back 2 = .ok (.lconst 0, 1) := by decide +kernel
theorem dX12_back_3 : decode cX12_back 3 = .ok (.ldc2_w 475, 3) := by decide +kernel
theorem dX12_back_6 : decode cX12_back 6 = .ok (.invokestatic 133, 3) := by decide +kernel
theorem dX12_back_9 : decode cX12_back 9 = .ok (.ifCond .eq 12, 3) := by decide +kernel
theorem dX12_back_12 : decode cX12_back 12 = .ok (.aload_n 0, 1) := by decide +kernel
theorem dX12_back_13 : decode cX12_back 13 = .ok (.getfield 89, 3) := by decide +kernel
theorem dX12_back_16 : decode cX12_back 16 = .ok (.iload_n 1, 1) := by decide +kernel
theorem dX12_back_17 : decode cX12_back 17 = .ok (.baload, 1) := by decide +kernel
theorem dX12_back_18 : decode cX12_back 18 = .ok (.ifCond .ne 5, 3) := by decide +kernel
theorem dX12_back_21 : decode cX12_back 21 = .ok (.iconst (-1), 1) := by decide +kernel
theorem dX12_back_22 : decode cX12_back 22 = .ok (.ireturn, 1) := by decide +kernel
theorem dX12_back_23 : decode cX12_back 23 = .ok (.aload_n 0, 1) := by decide +kernel
theorem dX12_back_24 : decode cX12_back 24 = .ok (.aload_n 0, 1) := by decide +kernel
theorem dX12_back_25 : decode cX12_back 25 = .ok (.getfield 83, 3) := by decide +kernel
theorem dX12_back_28 : decode cX12_back 28 = .ok (.iload_n 1, 1) := by decide +kernel
theorem dX12_back_29 : decode cX12_back 29 = .ok (.iaload, 1) := by decide +kernel
theorem dX12_back_30 : decode cX12_back 30 = .ok (.putfield 42, 3) := by decide +kernel
theorem dX12_back_33 : decode cX12_back 33 = .ok (.aload_n 0, 1) := by decide +kernel
theorem dX12_back_34 : decode cX12_back 34 = .ok (.aload_n 0, 1) := by decide +kernel
theorem dX12_back_35 : decode cX12_back 35 = .ok (.getfield 86, 3) := by decide +kernel
theorem dX12_back_38 : decode cX12_back 38 = .ok (.iload_n 1, 1) := by decide +kernel
theorem dX12_back_39 : decode cX12_back 39 = .ok (.iaload, 1) := by decide +kernel
theorem dX12_back_40 : decode cX12_back 40 = .ok (.putfield 452, 3) := by decide +kernel
theorem dX12_back_43 : decode cX12_back 43 = .ok (.aload_n 0, 1) := by decide +kernel
theorem dX12_back_44 : decode cX12_back 44 = .ok (.iconst 0, 1) := by decide +kernel
theorem dX12_back_45 : decode cX12_back 45 = .ok (.putfield 280, 3) := by decide +kernel
theorem dX12_back_48 : decode cX12_back 48 = .ok (.iconst 0, 1) := by decide +kernel
theorem dX12_back_49 : decode cX12_back 49 = .ok (.istore_n 2, 1) := by decide +kernel
theorem dX12_back_50 : decode cX12_back 50 = .ok (.iload_n 2, 1) := by decide +kernel
theorem dX12_back_51 : decode cX12_back 51 = .ok (.bipush 98, 2) := by decide +kernel
theorem dX12_back_53 : decode cX12_back 53 = .ok (.if_icmp .ge 26, 3) := by decide +kernel
theorem dX12_back_56 : decode cX12_back 56 = .ok (.aload_n 0, 1) := by decide +kernel
theorem dX12_back_57 : decode cX12_back 57 = .ok (.getfield 39, 3) := by decide +kernel
theorem dX12_back_60 : decode cX12_back 60 = .ok (.iload_n 2, 1) := by decide +kernel
theorem dX12_back_61 : decode cX12_back 61 = .ok (.aload_n 0, 1) := by decide +kernel
theorem dX12_back_62 : decode cX12_back 62 = .ok (.getfield 80, 3) := by decide +kernel
theorem dX12_back_65 : decode cX12_back 65 = .ok (.bipush 98, 2) := by decide +kernel
theorem dX12_back_67 : decode cX12_back 67 = .ok (.iload_n 1, 1) := by decide +kernel
theorem dX12_back_68 : decode cX12_back 68 = .ok (.imul, 1) := by decide +kernel
theorem dX12_back_69 : decode cX12_back 69 = .ok (.iload_n 2, 1) := by decide +kernel
theorem dX12_back_70 : decode cX12_back 70 = .ok (.iadd, 1) := by decide +kernel
theorem dX12_back_71 : decode cX12_back 71 = .ok (.iaload, 1) := by decide +kernel
theorem dX12_back_72 : decode cX12_back 72 = .ok (.iastore, 1) := by decide +kernel
theorem dX12_back_73 : decode cX12_back 73 = .ok (.iinc 2 1, 3) := by decide +kernel
theorem dX12_back_76 : decode cX12_back 76 = .ok (.goto (-26), 3) := by decide +kernel
theorem dX12_back_79 : decode cX12_back 79 = .ok (.aload_n 0, 1) := by decide +kernel
theorem dX12_back_80 : decode cX12_back 80 = .ok (.getfield 39, 3) := by decide +kernel
theorem dX12_back_83 : decode cX12_back 83 = .ok (.bipush 10, 2) := by decide +kernel
theorem dX12_back_85 : decode cX12_back 85 = .ok (.iaload, 1) := by decide +kernel
theorem dX12_back_86 : decode cX12_back 86 = .ok (.ireturn, 1) := by decide +kernel
noncomputable def bs_X12_back : List (Nat × XB) := [
  (0, (sq (xLI 1) (sq (xI2L) (sq (xC (.long 0)) (sq (xC (.long 3)) (sq (xCI 99 3 F_X12_in) (tIf1 (fun x => decide (x = 0)) 21 [false, false, false] 12 [true, true, false]))))))),
  (12, (sq (xLA 0) (sq (xGS 11 64 1 0) (sq (xLI 1) (sq (xAI 64 4) (tIf1 (fun x => decide (¬ x = 0)) 23 [true, true, false] 21 [false, false, false])))))),
  (21, (sq (xC (.int (-1))) tRI)),
  (23, (sq (xLA 0) (sq (xLA 0) (sq (xGS 11 62 1 0) (sq (xLI 1) (sq (xAI 62 4) (sq (xPI 11 21) (sq (xLA 0) (sq (xLA 0) (sq (xGS 11 63 1 0) (sq (xLI 1) (sq (xAI 63 4) (sq (xPI 11 22) (sq (xLA 0) (sq (xC (.int 0)) (sq (xPI 11 26) (sq (xC (.int 0)) (sq (xSI 2) (tGo 50 [true, true, true]))))))))))))))))))),
  (50, (sq (xLI 2) (sq (xC (.int 98)) (tIf2 (fun x y => decide (y ≤ x)) 79 [true, false, false] 56 [true, true, true])))),
  (56, (sq (xLA 0) (sq (xGS 11 50 1 0) (sq (xLI 2) (sq (xLA 0) (sq (xGS 11 61 1 0) (sq (xC (.int 98)) (sq (xLI 1) (sq (xI2 (· * ·)) (sq (xLI 2) (sq (xI2 (· + ·)) (sq (xAI 61 392) (sq (xTI 50 98 (fun x => x)) (sq (xInc 2 1) (tGo 50 [true, true, true]))))))))))))))),
  (79, (sq (xLA 0) (sq (xGS 11 50 1 0) (sq (xC (.int 10)) (sq (xAI 50 98) tRI)))))]
set_option maxRecDepth 100000 in
set_option maxHeartbeats 4000000 in
theorem s_X12_back : ∀ X : XCtx, XE X → X.2.2.1.1 = cX12_back → X.2.2.1.2.1 = 3 → X.2.2.1.2.2.1 = yX12_back.cls → X.2.2.1.2.2.2.1 = (some .int) → X.1.2.2.2.1 = { frames := 1, cells := 0, slots := 0, locals := 25 } → SndBs X bs_X12_back := by
  rintro ⟨⟨p, l, e, R, s⟩, Y, ⟨cc, nL, own, ret, Ts⟩, Z⟩ hE h1 h2 h3 h4 h5
  dsimp only at h1 h2 h3 h4 h5
  subst h1 h2 h3 h4 h5
  exact ⟨(n_sq (n_iload_n hE dX12_back_0) (n_sq (n_i2l hE dX12_back_1) (n_sq (n_lconst hE (by decide) dX12_back_2) (n_sq (n_ldc2 hE wt_1589 dX12_back_3) (n_sq (n_cIs hE m_X12_in vc_X12_133 (show 0 + 1 ≤ 1 ∧ 8 + (6 + 11) + 0 ≤ 25 by decide) dX12_back_6) (n_ifeq hE (by decide) dX12_back_9)))))),
    (n_sq (n_aload_n hE dX12_back_12) (n_sq (n_getS hE xk_11 (k := 42) rfl (by decide) rfl wt_1002 dX12_back_13) (n_sq (n_iload_n hE dX12_back_16) (n_sq (n_zald hE rfl (by decide) dX12_back_17) (n_ifne hE (by decide) dX12_back_18))))),
    (n_sq (n_iconst hE (by decide) dX12_back_21) (n_ireturn hE rfl dX12_back_22)),
    (n_sq (n_aload_n hE dX12_back_23) (n_sq (n_aload_n hE dX12_back_24) (n_sq (n_getS hE xk_11 (k := 40) rfl (by decide) rfl wt_1000 dX12_back_25) (n_sq (n_iload_n hE dX12_back_28) (n_sq (n_iald hE rfl (by decide) dX12_back_29) (n_sq (n_putI hE xk_11 (k := 21) rfl (by decide) rfl rfl (tyX12_ok 21 (by decide)) wt_981 dX12_back_30) (n_sq (n_aload_n hE dX12_back_33) (n_sq (n_aload_n hE dX12_back_34) (n_sq (n_getS hE xk_11 (k := 41) rfl (by decide) rfl wt_1001 dX12_back_35) (n_sq (n_iload_n hE dX12_back_38) (n_sq (n_iald hE rfl (by decide) dX12_back_39) (n_sq (n_putI hE xk_11 (k := 22) rfl (by decide) rfl rfl (tyX12_ok 22 (by decide)) wt_982 dX12_back_40) (n_sq (n_aload_n hE dX12_back_43) (n_sq (n_iconst hE (by decide) dX12_back_44) (n_sq (n_putI hE xk_11 (k := 26) rfl (by decide) rfl rfl (tyX12_ok 26 (by decide)) wt_986 dX12_back_45) (n_sq (n_iconst hE (by decide) dX12_back_48) (n_sq (n_istore_n hE (show (2 : Nat) < 3 by decide) dX12_back_49) n_fall))))))))))))))))),
    (n_sq (n_iload_n hE dX12_back_50) (n_sq (n_bipush hE (by decide) dX12_back_51) (n_ifcge hE (by decide) dX12_back_53))),
    (n_sq (n_aload_n hE dX12_back_56) (n_sq (n_getS hE xk_11 (k := 20) rfl (by decide) rfl wt_980 dX12_back_57) (n_sq (n_iload_n hE dX12_back_60) (n_sq (n_aload_n hE dX12_back_61) (n_sq (n_getS hE xk_11 (k := 39) rfl (by decide) rfl wt_999 dX12_back_62) (n_sq (n_bipush hE (by decide) dX12_back_65) (n_sq (n_iload_n hE dX12_back_67) (n_sq (n_imul hE dX12_back_68) (n_sq (n_iload_n hE dX12_back_69) (n_sq (n_iadd hE dX12_back_70) (n_sq (n_iald hE rfl (by decide) dX12_back_71) (n_sq (n_iast hE rfl (by decide) dX12_back_72) (n_sq (n_iinc hE (by decide) (show (2 : Nat) < 3 by decide) dX12_back_73) (n_goto hE (by decide) dX12_back_76)))))))))))))),
    (n_sq (n_aload_n hE dX12_back_79) (n_sq (n_getS hE xk_11 (k := 20) rfl (by decide) rfl wt_980 dX12_back_80) (n_sq (n_bipush hE (by decide) dX12_back_83) (n_sq (n_iald hE rfl (by decide) dX12_back_85) (n_ireturn hE rfl dX12_back_86))))), trivial⟩
noncomputable def F_X12_back (as : List XV) (w : XW) : Option (Int32 × XW) := (xF 3 bs_X12_back as w).bind pI
theorem m_X12_back : XM yX12_back cX12_back 3 (some .int) 1 25 (eI F_X12_back) := xm_I (xm_of (by decide) s_X12_back)
noncomputable def q_X12_back_0 (x1 : Int32) (w : XW) : Option XR := ev bs_X12_back 0 ([some (.inr (11, 0)), some (.inl (.int x1)), none], [], w)
noncomputable def q_X12_back_12 (x1 : Int32) (w : XW) : Option XR := ev bs_X12_back 12 ([some (.inr (11, 0)), some (.inl (.int x1)), none], [], w)
noncomputable def q_X12_back_21 (w : XW) : Option XR := ev bs_X12_back 21 ([none, none, none], [], w)
noncomputable def q_X12_back_23 (x1 : Int32) (w : XW) : Option XR := ev bs_X12_back 23 ([some (.inr (11, 0)), some (.inl (.int x1)), none], [], w)
noncomputable def q_X12_back_50 (x1 : Int32) (x2 : Int32) (w : XW) : Option XR := ev bs_X12_back 50 ([some (.inr (11, 0)), some (.inl (.int x1)), some (.inl (.int x2))], [], w)
noncomputable def q_X12_back_56 (x1 : Int32) (x2 : Int32) (w : XW) : Option XR := ev bs_X12_back 56 ([some (.inr (11, 0)), some (.inl (.int x1)), some (.inl (.int x2))], [], w)
noncomputable def q_X12_back_79 (w : XW) : Option XR := ev bs_X12_back 79 ([some (.inr (11, 0)), none, none], [], w)
set_option maxRecDepth 100000 in
theorem e_X12_back_0 (x1 : Int32) (w : XW) : q_X12_back_0 x1 w = ((F_X12_in [.inl (.long (x1 : Int32).toInt64), .inl (.long 0), .inl (.long 3)] w).bind fun r0 => (bif decide (r0.1 = 0) then (q_X12_back_21 r0.2) else (q_X12_back_12 x1 r0.2))) := (ev_eq _ _ _).trans rfl
set_option maxRecDepth 100000 in
theorem e_X12_back_12 (x1 : Int32) (w : XW) : q_X12_back_12 x1 w = (if x1 < 0 ∨ 4 ≤ x1.toNatClampNeg then none else (bif decide (¬ (gI w 64 0 x1.toNatClampNeg) = 0) then (q_X12_back_23 x1 w) else (q_X12_back_21 w))) := (ev_eq _ _ _).trans rfl
set_option maxRecDepth 100000 in
theorem e_X12_back_21 (w : XW) : q_X12_back_21 w = (some (some (.inl (.int (-1))), w)) := (ev_eq _ _ _).trans rfl
set_option maxRecDepth 100000 in
theorem e_X12_back_23 (x1 : Int32) (w : XW) : q_X12_back_23 x1 w = (if x1 < 0 ∨ 4 ≤ x1.toNatClampNeg then none else (if x1 < 0 ∨ 4 ≤ x1.toNatClampNeg then none else (q_X12_back_50 x1 0 (sI (sI (sI w 11 0 21 (gI w 62 0 x1.toNatClampNeg)) 11 0 22 (gI (sI w 11 0 21 (gI w 62 0 x1.toNatClampNeg)) 63 0 x1.toNatClampNeg)) 11 0 26 0)))) := (ev_eq _ _ _).trans rfl
set_option maxRecDepth 100000 in
theorem e_X12_back_50 (x1 : Int32) (x2 : Int32) (w : XW) : q_X12_back_50 x1 x2 w = (bif decide (98 ≤ x2) then (q_X12_back_79 w) else (q_X12_back_56 x1 x2 w)) := (ev_eq _ _ _).trans rfl
set_option maxRecDepth 100000 in
theorem e_X12_back_56 (x1 : Int32) (x2 : Int32) (w : XW) : q_X12_back_56 x1 x2 w = (if ((98 * x1) + x2) < 0 ∨ 392 ≤ ((98 * x1) + x2).toNatClampNeg then none else (if x2 < 0 ∨ 98 ≤ x2.toNatClampNeg then none else (q_X12_back_50 x1 (x2 + 1) (sI w 50 0 x2.toNatClampNeg (gI w 61 0 ((98 * x1) + x2).toNatClampNeg))))) := (ev_eq _ _ _).trans rfl
set_option maxRecDepth 100000 in
theorem e_X12_back_79 (w : XW) : q_X12_back_79 w = (some (some (.inl (.int (gI w 50 0 10))), w)) := (ev_eq _ _ _).trans rfl
theorem f_X12_back (x1 : Int32) (w : XW) : F_X12_back [.inr (11, 0), .inl (.int x1)] w = (q_X12_back_0 x1 w).bind pI := rfl

-- WinterKeep$Tape.begin()V
theorem dX10_begin_0 : decode cX10_begin 0 = .ok (.aload_n 0, 1) := by decide +kernel
theorem dX10_begin_1 : decode cX10_begin 1 = .ok (.iconst 0, 1) := by decide +kernel
theorem dX10_begin_2 : decode cX10_begin 2 = .ok (.putfield 19, 3) := by decide +kernel
theorem dX10_begin_5 : decode cX10_begin 5 = .ok (.aload_n 0, 1) := by decide +kernel
theorem dX10_begin_6 : decode cX10_begin 6 = .ok (.iconst 0, 1) := by decide +kernel
theorem dX10_begin_7 : decode cX10_begin 7 = .ok (.putfield 22, 3) := by decide +kernel
theorem dX10_begin_10 : decode cX10_begin 10 = .ok (.aload_n 0, 1) := by decide +kernel
theorem dX10_begin_11 : decode cX10_begin 11 = .ok (.iconst 0, 1) := by decide +kernel
theorem dX10_begin_12 : decode cX10_begin 12 = .ok (.putfield 28, 3) := by decide +kernel
theorem dX10_begin_15 : decode cX10_begin 15 = .ok (.return_, 1) := by decide +kernel
noncomputable def bs_X10_begin : List (Nat × XB) := [
  (0, (sq (xLA 0) (sq (xC (.int 0)) (sq (xPI 9 2) (sq (xLA 0) (sq (xC (.int 0)) (sq (xPI 9 3) (sq (xLA 0) (sq (xC (.int 0)) (sq (xPI 9 5) tRV))))))))))]
set_option maxRecDepth 100000 in
set_option maxHeartbeats 4000000 in
theorem s_X10_begin : ∀ X : XCtx, XE X → X.2.2.1.1 = cX10_begin → X.2.2.1.2.1 = 1 → X.2.2.1.2.2.1 = yX10_begin.cls → X.2.2.1.2.2.2.1 = none → X.1.2.2.2.1 = { frames := 0, cells := 0, slots := 0, locals := 0 } → SndBs X bs_X10_begin := by
  rintro ⟨⟨p, l, e, R, s⟩, Y, ⟨cc, nL, own, ret, Ts⟩, Z⟩ hE h1 h2 h3 h4 h5
  dsimp only at h1 h2 h3 h4 h5
  subst h1 h2 h3 h4 h5
  exact ⟨(n_sq (n_aload_n hE dX10_begin_0) (n_sq (n_iconst hE (by decide) dX10_begin_1) (n_sq (n_putI hE xk_9 (k := 2) rfl (by decide) rfl rfl (tyX10_ok 2 (by decide)) wt_39 dX10_begin_2) (n_sq (n_aload_n hE dX10_begin_5) (n_sq (n_iconst hE (by decide) dX10_begin_6) (n_sq (n_putI hE xk_9 (k := 3) rfl (by decide) rfl rfl (tyX10_ok 3 (by decide)) wt_42 dX10_begin_7) (n_sq (n_aload_n hE dX10_begin_10) (n_sq (n_iconst hE (by decide) dX10_begin_11) (n_sq (n_putI hE xk_9 (k := 5) rfl (by decide) rfl rfl (tyX10_ok 5 (by decide)) wt_48 dX10_begin_12) (n_vreturn hE rfl dX10_begin_15)))))))))), trivial⟩
noncomputable def F_X10_begin (as : List XV) (w : XW) : Option XW := (xF 1 bs_X10_begin as w).bind pV
theorem m_X10_begin : XM yX10_begin cX10_begin 1 none 0 0 (eV F_X10_begin) := xm_V (xm_of (by decide) s_X10_begin)
noncomputable def q_X10_begin_0 (w : XW) : Option XR := ev bs_X10_begin 0 ([some (.inr (9, 0))], [], w)
theorem e_X10_begin_0 (w : XW) : q_X10_begin_0 w = (some (none, sI (sI (sI w 9 0 2 0) 9 0 3 0) 9 0 5 0)) := (ev_eq _ _ _).trans rfl
theorem f_X10_begin (w : XW) : F_X10_begin [.inr (9, 0)] w = (q_X10_begin_0 w).bind pV := rfl

-- WinterKeep$Tape.byteAt(I)I
theorem dX10_byteAt_0 : decode cX10_byteAt 0 = .ok (.iload_n 1, 1) := by decide +kernel
theorem dX10_byteAt_1 : decode cX10_byteAt 1 = .ok (.ifCond .lt 27, 3) := by decide +kernel
theorem dX10_byteAt_4 : decode cX10_byteAt 4 = .ok (.iload_n 1, 1) := by decide +kernel
theorem dX10_byteAt_5 : decode cX10_byteAt 5 = .ok (.aload_n 0, 1) := by decide +kernel
theorem dX10_byteAt_6 : decode cX10_byteAt 6 = .ok (.getfield 15, 3) := by decide +kernel
theorem dX10_byteAt_9 : decode cX10_byteAt 9 = .ok (.if_icmp .ge 19, 3) := by decide +kernel
theorem dX10_byteAt_12 : decode cX10_byteAt 12 = .ok (.iload_n 1, 1) := by decide +kernel
theorem dX10_byteAt_13 : decode cX10_byteAt 13 = .ok (.sipush 400, 3) := by decide +kernel
theorem dX10_byteAt_16 : decode cX10_byteAt 16 = .ok (.if_icmp .ge 12, 3) := by decide +kernel
theorem dX10_byteAt_19 : decode cX10_byteAt 19 = .ok (.aload_n 0, 1) := by decide +kernel
theorem dX10_byteAt_20 : decode cX10_byteAt 20 = .ok (.getfield 9, 3) := by decide +kernel
theorem dX10_byteAt_23 : decode cX10_byteAt 23 = .ok (.iload_n 1, 1) := by decide +kernel
theorem dX10_byteAt_24 : decode cX10_byteAt 24 = .ok (.iaload, 1) := by decide +kernel
theorem dX10_byteAt_25 : decode cX10_byteAt 25 = .ok (.goto 4, 3) := by decide +kernel
theorem dX10_byteAt_28 : decode cX10_byteAt 28 = .ok (.iconst (-1), 1) := by decide +kernel
theorem dX10_byteAt_29 : decode cX10_byteAt 29 = .ok (.ireturn, 1) := by decide +kernel
noncomputable def bs_X10_byteAt : List (Nat × XB) := [
  (0, (sq (xLI 1) (tIf1 (fun x => decide (x < 0)) 28 [false, false] 4 [true, true]))),
  (4, (sq (xLI 1) (sq (xLA 0) (sq (xGI 9 1) (tIf2 (fun x y => decide (y ≤ x)) 28 [false, false] 12 [true, true]))))),
  (12, (sq (xLI 1) (sq (xC (.int 400)) (tIf2 (fun x y => decide (y ≤ x)) 28 [false, false] 19 [true, true])))),
  (19, (sq (xLA 0) (sq (xGS 9 34 0 0) (sq (xLI 1) (sq (xAI 34 400) (tGo 29 [false, false])))))),
  (28, (sq (xC (.int (-1))) (tGo 29 [false, false]))),
  (29, tRI)]
set_option maxRecDepth 100000 in
set_option maxHeartbeats 4000000 in
theorem s_X10_byteAt : ∀ X : XCtx, XE X → X.2.2.1.1 = cX10_byteAt → X.2.2.1.2.1 = 2 → X.2.2.1.2.2.1 = yX10_byteAt.cls → X.2.2.1.2.2.2.1 = (some .int) → X.1.2.2.2.1 = { frames := 0, cells := 0, slots := 0, locals := 0 } → SndBs X bs_X10_byteAt := by
  rintro ⟨⟨p, l, e, R, s⟩, Y, ⟨cc, nL, own, ret, Ts⟩, Z⟩ hE h1 h2 h3 h4 h5
  dsimp only at h1 h2 h3 h4 h5
  subst h1 h2 h3 h4 h5
  exact ⟨(n_sq (n_iload_n hE dX10_byteAt_0) (n_iflt hE (by decide) dX10_byteAt_1)),
    (n_sq (n_iload_n hE dX10_byteAt_4) (n_sq (n_aload_n hE dX10_byteAt_5) (n_sq (n_getI hE xk_9 (k := 1) rfl (by decide) rfl wt_37 dX10_byteAt_6) (n_ifcge hE (by decide) dX10_byteAt_9)))),
    (n_sq (n_iload_n hE dX10_byteAt_12) (n_sq (n_sipush hE (by decide) dX10_byteAt_13) (n_ifcge hE (by decide) dX10_byteAt_16))),
    (n_sq (n_aload_n hE dX10_byteAt_19) (n_sq (n_getS hE xk_9 (k := 0) rfl (by decide) rfl wt_36 dX10_byteAt_20) (n_sq (n_iload_n hE dX10_byteAt_23) (n_sq (n_iald hE rfl (by decide) dX10_byteAt_24) (n_goto hE (by decide) dX10_byteAt_25))))),
    (n_sq (n_iconst hE (by decide) dX10_byteAt_28) n_fall),
    (n_ireturn hE rfl dX10_byteAt_29), trivial⟩
noncomputable def F_X10_byteAt (as : List XV) (w : XW) : Option (Int32 × XW) := (xF 2 bs_X10_byteAt as w).bind pI
theorem m_X10_byteAt : XM yX10_byteAt cX10_byteAt 2 (some .int) 0 0 (eI F_X10_byteAt) := xm_I (xm_of (by decide) s_X10_byteAt)
noncomputable def q_X10_byteAt_0 (x1 : Int32) (w : XW) : Option XR := ev bs_X10_byteAt 0 ([some (.inr (9, 0)), some (.inl (.int x1))], [], w)
noncomputable def q_X10_byteAt_4 (x1 : Int32) (w : XW) : Option XR := ev bs_X10_byteAt 4 ([some (.inr (9, 0)), some (.inl (.int x1))], [], w)
noncomputable def q_X10_byteAt_12 (x1 : Int32) (w : XW) : Option XR := ev bs_X10_byteAt 12 ([some (.inr (9, 0)), some (.inl (.int x1))], [], w)
noncomputable def q_X10_byteAt_19 (x1 : Int32) (w : XW) : Option XR := ev bs_X10_byteAt 19 ([some (.inr (9, 0)), some (.inl (.int x1))], [], w)
noncomputable def q_X10_byteAt_28 (w : XW) : Option XR := ev bs_X10_byteAt 28 ([none, none], [], w)
noncomputable def q_X10_byteAt_29 (s0 : Int32) (w : XW) : Option XR := ev bs_X10_byteAt 29 ([none, none], [.inl (.int s0)], w)
theorem e_X10_byteAt_0 (x1 : Int32) (w : XW) : q_X10_byteAt_0 x1 w = (bif decide (x1 < 0) then (q_X10_byteAt_28 w) else (q_X10_byteAt_4 x1 w)) := (ev_eq _ _ _).trans rfl
theorem e_X10_byteAt_4 (x1 : Int32) (w : XW) : q_X10_byteAt_4 x1 w = (bif decide ((gI w 9 0 1) ≤ x1) then (q_X10_byteAt_28 w) else (q_X10_byteAt_12 x1 w)) := (ev_eq _ _ _).trans rfl
theorem e_X10_byteAt_12 (x1 : Int32) (w : XW) : q_X10_byteAt_12 x1 w = (bif decide (400 ≤ x1) then (q_X10_byteAt_28 w) else (q_X10_byteAt_19 x1 w)) := (ev_eq _ _ _).trans rfl
theorem e_X10_byteAt_19 (x1 : Int32) (w : XW) : q_X10_byteAt_19 x1 w = (if x1 < 0 ∨ 400 ≤ x1.toNatClampNeg then none else (q_X10_byteAt_29 (gI w 34 0 x1.toNatClampNeg) w)) := (ev_eq _ _ _).trans rfl
theorem e_X10_byteAt_28 (w : XW) : q_X10_byteAt_28 w = (q_X10_byteAt_29 (-1) w) := (ev_eq _ _ _).trans rfl
theorem e_X10_byteAt_29 (s0 : Int32) (w : XW) : q_X10_byteAt_29 s0 w = (some (some (.inl (.int s0)), w)) := (ev_eq _ _ _).trans rfl
theorem f_X10_byteAt (x1 : Int32) (w : XW) : F_X10_byteAt [.inr (9, 0), .inl (.int x1)] w = (q_X10_byteAt_0 x1 w).bind pI := rfl

-- WinterKeep$Tape.sign()I
theorem dX10_sign_0 : decode cX10_sign 0 = .ok (.aload_n 0, 1) := by decide +kernel
theorem dX10_sign_1 : decode cX10_sign 1 = .ok (.getfield 19, 3) := by decide +kernel
theorem dX10_sign_4 : decode cX10_sign 4 = .ok (.aload_n 0, 1) := by decide +kernel
theorem dX10_sign_5 : decode cX10_sign 5 = .ok (.getfield 15, 3) := by decide +kernel
theorem dX10_sign_8 : decode cX10_sign 8 = .ok (.if_icmp .ge 29, 3) := by decide +kernel
theorem dX10_sign_11 : decode cX10_sign 11 = .ok (.aload_n 0, 1) := by decide +kernel
theorem dX10_sign_12 : decode cX10_sign 12 = .ok (.aload_n 0, 1) := by decide +kernel
theorem dX10_sign_13 : decode cX10_sign 13 = .ok (.getfield 19, 3) := by decide +kernel
theorem dX10_sign_16 : decode cX10_sign 16 = .ok (.invokevirtual 31, 3) := by decide +kernel
theorem dX10_sign_19 : decode cX10_sign 19 = .ok (.bipush 32, 2) := by decide +kernel
theorem dX10_sign_21 : decode cX10_sign 21 = .ok (.if_icmp .ne 16, 3) := by decide +kernel
theorem dX10_sign_24 : decode cX10_sign 24 = .ok (.aload_n 0, 1) := by decide +kernel
theorem dX10_sign_25 : decode cX10_sign 25 = .ok (.dup, 1) := by decide +kernel
theorem dX10_sign_26 : decode cX10_sign 26 = .ok (.getfield 19, 3) := by decide +kernel
theorem dX10_sign_29 : decode cX10_sign 29 = .ok (.iconst 1, 1) := by decide +kernel
theorem dX10_sign_30 : decode cX10_sign 30 = .ok (.iadd, 1) := by decide +kernel
theorem dX10_sign_31 : decode cX10_sign 31 = .ok (.putfield 19, 3) := by decide +kernel
theorem dX10_sign_34 : decode cX10_sign 34 = .ok (.goto (-34), 3) := by decide +kernel
theorem dX10_sign_37 : decode cX10_sign 37 = .ok (.aload_n 0, 1) := by decide +kernel
theorem dX10_sign_38 : decode cX10_sign 38 = .ok (.aload_n 0, 1) := by decide +kernel
theorem dX10_sign_39 : decode cX10_sign 39 = .ok (.getfield 19, 3) := by decide +kernel
theorem dX10_sign_42 : decode cX10_sign 42 = .ok (.invokevirtual 31, 3) := by decide +kernel
theorem dX10_sign_45 : decode cX10_sign 45 = .ok (.ireturn, 1) := by decide +kernel
theorem vc_X10_31 : XVw RX10 31 1 9 2 yX10_byteAt cX10_byteAt (some .int) := ⟨RX10, TX10, tyX10, 6, xk_9, rfl, ⟨by decide, by decide⟩, by decide +kernel, wt_412, wt_413, wt_414, wt_2, wt_415⟩
noncomputable def bs_X10_sign : List (Nat × XB) := [
  (0, (sq (xLA 0) (sq (xGI 9 2) (sq (xLA 0) (sq (xGI 9 1) (tIf2 (fun x y => decide (y ≤ x)) 37 [true] 11 [true])))))),
  (11, (sq (xLA 0) (sq (xLA 0) (sq (xGI 9 2) (sq (xCI 9 2 F_X10_byteAt) (sq (xC (.int 32)) (tIf2 (fun x y => decide (¬ x = y)) 37 [true] 24 [true]))))))),
  (24, (sq (xLA 0) (sq (xDup) (sq (xGI 9 2) (sq (xC (.int 1)) (sq (xI2 (· + ·)) (sq (xPI 9 2) (tGo 0 [true])))))))),
  (37, (sq (xLA 0) (sq (xLA 0) (sq (xGI 9 2) (sq (xCI 9 2 F_X10_byteAt) tRI)))))]
set_option maxRecDepth 100000 in
set_option maxHeartbeats 4000000 in
theorem s_X10_sign : ∀ X : XCtx, XE X → X.2.2.1.1 = cX10_sign → X.2.2.1.2.1 = 1 → X.2.2.1.2.2.1 = yX10_sign.cls → X.2.2.1.2.2.2.1 = (some .int) → X.1.2.2.2.1 = { frames := 1, cells := 0, slots := 0, locals := 21 } → SndBs X bs_X10_sign := by
  rintro ⟨⟨p, l, e, R, s⟩, Y, ⟨cc, nL, own, ret, Ts⟩, Z⟩ hE h1 h2 h3 h4 h5
  dsimp only at h1 h2 h3 h4 h5
  subst h1 h2 h3 h4 h5
  exact ⟨(n_sq (n_aload_n hE dX10_sign_0) (n_sq (n_getI hE xk_9 (k := 2) rfl (by decide) rfl wt_39 dX10_sign_1) (n_sq (n_aload_n hE dX10_sign_4) (n_sq (n_getI hE xk_9 (k := 1) rfl (by decide) rfl wt_37 dX10_sign_5) (n_ifcge hE (by decide) dX10_sign_8))))),
    (n_sq (n_aload_n hE dX10_sign_11) (n_sq (n_aload_n hE dX10_sign_12) (n_sq (n_getI hE xk_9 (k := 2) rfl (by decide) rfl wt_39 dX10_sign_13) (n_sq (n_cIv hE m_X10_byteAt vc_X10_31 (show 0 + 1 ≤ 1 ∧ 8 + (2 + 11) + 0 ≤ 21 by decide) dX10_sign_16) (n_sq (n_bipush hE (by decide) dX10_sign_19) (n_ifcne hE (by decide) dX10_sign_21)))))),
    (n_sq (n_aload_n hE dX10_sign_24) (n_sq (n_dup hE dX10_sign_25) (n_sq (n_getI hE xk_9 (k := 2) rfl (by decide) rfl wt_39 dX10_sign_26) (n_sq (n_iconst hE (by decide) dX10_sign_29) (n_sq (n_iadd hE dX10_sign_30) (n_sq (n_putI hE xk_9 (k := 2) rfl (by decide) rfl rfl (tyX10_ok 2 (by decide)) wt_39 dX10_sign_31) (n_goto hE (by decide) dX10_sign_34))))))),
    (n_sq (n_aload_n hE dX10_sign_37) (n_sq (n_aload_n hE dX10_sign_38) (n_sq (n_getI hE xk_9 (k := 2) rfl (by decide) rfl wt_39 dX10_sign_39) (n_sq (n_cIv hE m_X10_byteAt vc_X10_31 (show 0 + 1 ≤ 1 ∧ 8 + (2 + 11) + 0 ≤ 21 by decide) dX10_sign_42) (n_ireturn hE rfl dX10_sign_45))))), trivial⟩
noncomputable def F_X10_sign (as : List XV) (w : XW) : Option (Int32 × XW) := (xF 1 bs_X10_sign as w).bind pI
theorem m_X10_sign : XM yX10_sign cX10_sign 1 (some .int) 1 21 (eI F_X10_sign) := xm_I (xm_of (by decide) s_X10_sign)
noncomputable def q_X10_sign_0 (w : XW) : Option XR := ev bs_X10_sign 0 ([some (.inr (9, 0))], [], w)
noncomputable def q_X10_sign_11 (w : XW) : Option XR := ev bs_X10_sign 11 ([some (.inr (9, 0))], [], w)
noncomputable def q_X10_sign_24 (w : XW) : Option XR := ev bs_X10_sign 24 ([some (.inr (9, 0))], [], w)
noncomputable def q_X10_sign_37 (w : XW) : Option XR := ev bs_X10_sign 37 ([some (.inr (9, 0))], [], w)
theorem e_X10_sign_0 (w : XW) : q_X10_sign_0 w = (bif decide ((gI w 9 0 1) ≤ (gI w 9 0 2)) then (q_X10_sign_37 w) else (q_X10_sign_11 w)) := (ev_eq _ _ _).trans rfl
theorem e_X10_sign_11 (w : XW) : q_X10_sign_11 w = ((F_X10_byteAt [.inr (9, 0), .inl (.int (gI w 9 0 2))] w).bind fun r0 => (bif decide (¬ r0.1 = 32) then (q_X10_sign_37 r0.2) else (q_X10_sign_24 r0.2))) := (ev_eq _ _ _).trans rfl
theorem e_X10_sign_24 (w : XW) : q_X10_sign_24 w = (q_X10_sign_0 (sI w 9 0 2 ((gI w 9 0 2) + 1))) := (ev_eq _ _ _).trans rfl
theorem e_X10_sign_37 (w : XW) : q_X10_sign_37 w = ((F_X10_byteAt [.inr (9, 0), .inl (.int (gI w 9 0 2))] w).bind fun r0 => (some (some (.inl (.int r0.1)), r0.2))) := (ev_eq _ _ _).trans rfl
theorem f_X10_sign (w : XW) : F_X10_sign [.inr (9, 0)] w = (q_X10_sign_0 w).bind pI := rfl

-- java/lang/String.coder()B
theorem dJ0_coder_7d493_0 : decode cJ0_coder_7d493 0 = .ok (.getstatic 38, 3) := by decide +kernel
theorem dJ0_coder_7d493_3 : decode cJ0_coder_7d493 3 = .ok (.ifCond .eq 10, 3) := by decide +kernel
theorem dJ0_coder_7d493_6 : decode cJ0_coder_7d493 6 = .ok (.aload_n 0, 1) := by decide +kernel
theorem dJ0_coder_7d493_7 : decode cJ0_coder_7d493 7 = .ok (.getfield 15, 3) := by decide +kernel
theorem dJ0_coder_7d493_10 : decode cJ0_coder_7d493 10 = .ok (.goto 4, 3) := by decide +kernel
theorem dJ0_coder_7d493_13 : decode cJ0_coder_7d493 13 = .ok (.iconst 1, 1) := by decide +kernel
theorem dJ0_coder_7d493_14 : decode cJ0_coder_7d493 14 = .ok (.ireturn, 1) := by decide +kernel
noncomputable def bs_J0_coder_7d493 : List (Nat × XB) := [
  (0, (sq (xC (.int 1)) (tIf1 (fun x => decide (x = 0)) 13 [false] 6 [true]))),
  (6, (sq (xLA 0) (sq (xCod) (tGo 14 [false])))),
  (13, (sq (xC (.int 1)) (tGo 14 [false]))),
  (14, (tRT .byte))]
set_option maxRecDepth 100000 in
set_option maxHeartbeats 4000000 in
theorem s_J0_coder_7d493 : ∀ X : XCtx, XE X → X.2.2.1.1 = cJ0_coder_7d493 → X.2.2.1.2.1 = 1 → X.2.2.1.2.2.1 = yJ0_coder_7d493.cls → X.2.2.1.2.2.2.1 = (some .byte) → X.1.2.2.2.1 = { frames := 0, cells := 0, slots := 0, locals := 0 } → SndBs X bs_J0_coder_7d493 := by
  rintro ⟨⟨p, l, e, R, s⟩, Y, ⟨cc, nL, own, ret, Ts⟩, Z⟩ hE h1 h2 h3 h4 h5
  dsimp only at h1 h2 h3 h4 h5
  subst h1 h2 h3 h4 h5
  exact ⟨(n_sq (n_gets hE wt_424 dJ0_coder_7d493_0) (n_ifeq hE (by decide) dJ0_coder_7d493_3)),
    (n_sq (n_aload_n hE dJ0_coder_7d493_6) (n_sq (n_cod hE rfl wt_1595 dJ0_coder_7d493_7) (n_goto hE (by decide) dJ0_coder_7d493_10))),
    (n_sq (n_iconst hE (by decide) dJ0_coder_7d493_13) n_fall),
    (n_treturn hE rfl dJ0_coder_7d493_14), trivial⟩
noncomputable def F_J0_coder_7d493 (as : List XV) (w : XW) : Option (Int32 × XW) := (xF 1 bs_J0_coder_7d493 as w).bind pI
theorem m_J0_coder_7d493 : XM yJ0_coder_7d493 cJ0_coder_7d493 1 (some .byte) 0 0 (eI F_J0_coder_7d493) := xm_I (xm_of (by decide) s_J0_coder_7d493)
noncomputable def q_J0_coder_7d493_0 (i0 : Nat) (w : XW) : Option XR := ev bs_J0_coder_7d493 0 ([some (.inr (65, i0))], [], w)
noncomputable def q_J0_coder_7d493_6 (i0 : Nat) (w : XW) : Option XR := ev bs_J0_coder_7d493 6 ([some (.inr (65, i0))], [], w)
noncomputable def q_J0_coder_7d493_13 (w : XW) : Option XR := ev bs_J0_coder_7d493 13 ([none], [], w)
noncomputable def q_J0_coder_7d493_14 (s0 : Int32) (w : XW) : Option XR := ev bs_J0_coder_7d493 14 ([none], [.inl (.int s0)], w)
theorem e_J0_coder_7d493_0 (i0 : Nat) (w : XW) : q_J0_coder_7d493_0 i0 w = (bif decide (1 = 0) then (q_J0_coder_7d493_13 w) else (q_J0_coder_7d493_6 i0 w)) := (ev_eq _ _ _).trans rfl
theorem e_J0_coder_7d493_6 (i0 : Nat) (w : XW) : q_J0_coder_7d493_6 i0 w = (q_J0_coder_7d493_14 0 w) := (ev_eq _ _ _).trans rfl
theorem e_J0_coder_7d493_13 (w : XW) : q_J0_coder_7d493_13 w = (q_J0_coder_7d493_14 1 w) := (ev_eq _ _ _).trans rfl
theorem e_J0_coder_7d493_14 (s0 : Int32) (w : XW) : q_J0_coder_7d493_14 s0 w = (if narrow .byte (.int s0) = .int s0 then some (some (.inl (.int s0)), w) else none) := (ev_eq _ _ _).trans rfl
theorem f_J0_coder_7d493 (i0 : Nat) (w : XW) : F_J0_coder_7d493 [.inr (65, i0)] w = (q_J0_coder_7d493_0 i0 w).bind pI := rfl

-- java/lang/String.length()I
theorem dJ0_length_8abf5_0 : decode cJ0_length_8abf5 0 = .ok (.aload_n 0, 1) := by decide +kernel
theorem dJ0_length_8abf5_1 : decode cJ0_length_8abf5 1 = .ok (.getfield 9, 3) := by decide +kernel
theorem dJ0_length_8abf5_4 : decode cJ0_length_8abf5 4 = .ok (.arraylength, 1) := by decide +kernel
theorem dJ0_length_8abf5_5 : decode cJ0_length_8abf5 5 = .ok (.aload_n 0, 1) := by decide +kernel
theorem dJ0_length_8abf5_6 : decode cJ0_length_8abf5 6 = .ok (.invokevirtual 335, 3) := by decide +kernel
theorem dJ0_length_8abf5_9 : decode cJ0_length_8abf5 9 = .ok (.ishr, 1) := by decide +kernel
theorem dJ0_length_8abf5_10 : decode cJ0_length_8abf5 10 = .ok (.ireturn, 1) := by decide +kernel
theorem vc_J0_335 : XVs RJ0 335 0 1 yJ0_coder_7d493 cJ0_coder_7d493 (some .byte) := ⟨rfl, ⟨by decide, by decide⟩, by decide +kernel, wt_420, wt_421, wt_422, wt_13, wt_423⟩
noncomputable def bs_J0_length_8abf5 : List (Nat × XB) := [
  (0, (sq (xLA 0) (sq (xVal) (sq (xLenS) (sq (xLA 0) (sq (xCI 65 1 F_J0_coder_7d493) (sq (xI2 (fun x y => x >>> (y &&& 31))) tRI)))))))]
set_option maxRecDepth 100000 in
set_option maxHeartbeats 4000000 in
theorem s_J0_length_8abf5 : ∀ X : XCtx, XE X → X.2.2.1.1 = cJ0_length_8abf5 → X.2.2.1.2.1 = 1 → X.2.2.1.2.2.1 = yJ0_length_8abf5.cls → X.2.2.1.2.2.2.1 = (some .int) → X.1.2.2.2.1 = { frames := 1, cells := 0, slots := 0, locals := 20 } → SndBs X bs_J0_length_8abf5 := by
  rintro ⟨⟨p, l, e, R, s⟩, Y, ⟨cc, nL, own, ret, Ts⟩, Z⟩ hE h1 h2 h3 h4 h5
  dsimp only at h1 h2 h3 h4 h5
  subst h1 h2 h3 h4 h5
  exact ⟨(n_sq (n_aload_n hE dJ0_length_8abf5_0) (n_sq (n_val hE rfl wt_1594 dJ0_length_8abf5_1) (n_sq (n_lenS hE dJ0_length_8abf5_4) (n_sq (n_aload_n hE dJ0_length_8abf5_5) (n_sq (n_cIt hE m_J0_coder_7d493 vc_J0_335 (show 0 + 1 ≤ 1 ∧ 8 + (1 + 11) + 0 ≤ 20 by decide) dJ0_length_8abf5_6) (n_sq (n_ishr hE dJ0_length_8abf5_9) (n_ireturn hE rfl dJ0_length_8abf5_10))))))), trivial⟩
noncomputable def F_J0_length_8abf5 (as : List XV) (w : XW) : Option (Int32 × XW) := (xF 1 bs_J0_length_8abf5 as w).bind pI
theorem m_J0_length_8abf5 : XM yJ0_length_8abf5 cJ0_length_8abf5 1 (some .int) 1 20 (eI F_J0_length_8abf5) := xm_I (xm_of (by decide) s_J0_length_8abf5)
noncomputable def q_J0_length_8abf5_0 (i0 : Nat) (w : XW) : Option XR := ev bs_J0_length_8abf5 0 ([some (.inr (65, i0))], [], w)
theorem e_J0_length_8abf5_0 (i0 : Nat) (w : XW) : q_J0_length_8abf5_0 i0 w = ((F_J0_coder_7d493 [.inr (65, i0)] w).bind fun r0 => (some (some (.inl (.int (((Int32.ofNat (xsln.getD i0 0)) : Int32) >>> ((r0.1 : Int32) &&& 31)))), r0.2))) := (ev_eq _ _ _).trans rfl
theorem f_J0_length_8abf5 (i0 : Nat) (w : XW) : F_J0_length_8abf5 [.inr (65, i0)] w = (q_J0_length_8abf5_0 i0 w).bind pI := rfl

-- java/lang/String.isLatin1()Z
theorem dJ0_isLatin1_aae02_0 : decode cJ0_isLatin1_aae02 0 = .ok (.getstatic 38, 3) := by decide +kernel
theorem dJ0_isLatin1_aae02_3 : decode cJ0_isLatin1_aae02 3 = .ok (.ifCond .eq 14, 3) := by decide +kernel
theorem dJ0_isLatin1_aae02_6 : decode cJ0_isLatin1_aae02 6 = .ok (.aload_n 0, 1) := by decide +kernel
theorem dJ0_isLatin1_aae02_7 : decode cJ0_isLatin1_aae02 7 = .ok (.getfield 15, 3) := by decide +kernel
theorem dJ0_isLatin1_aae02_10 : decode cJ0_isLatin1_aae02 10 = .ok (.ifCond .ne 7, 3) := by decide +kernel
theorem dJ0_isLatin1_aae02_13 : decode cJ0_isLatin1_aae02 13 = .ok (.iconst 1, 1) := by decide +kernel
theorem dJ0_isLatin1_aae02_14 : decode cJ0_isLatin1_aae02 14 = .ok (.goto 4, 3) := by decide +kernel
theorem dJ0_isLatin1_aae02_17 : decode cJ0_isLatin1_aae02 17 = .ok (.iconst 0, 1) := by decide +kernel
theorem dJ0_isLatin1_aae02_18 : decode cJ0_isLatin1_aae02 18 = .ok (.ireturn, 1) := by decide +kernel
noncomputable def bs_J0_isLatin1_aae02 : List (Nat × XB) := [
  (0, (sq (xC (.int 1)) (tIf1 (fun x => decide (x = 0)) 17 [false] 6 [true]))),
  (6, (sq (xLA 0) (sq (xCod) (tIf1 (fun x => decide (¬ x = 0)) 17 [false] 13 [false])))),
  (13, (sq (xC (.int 1)) (tGo 18 [false]))),
  (17, (sq (xC (.int 0)) (tGo 18 [false]))),
  (18, tRZ)]
set_option maxRecDepth 100000 in
set_option maxHeartbeats 4000000 in
theorem s_J0_isLatin1_aae02 : ∀ X : XCtx, XE X → X.2.2.1.1 = cJ0_isLatin1_aae02 → X.2.2.1.2.1 = 1 → X.2.2.1.2.2.1 = yJ0_isLatin1_aae02.cls → X.2.2.1.2.2.2.1 = (some .boolean) → X.1.2.2.2.1 = { frames := 0, cells := 0, slots := 0, locals := 0 } → SndBs X bs_J0_isLatin1_aae02 := by
  rintro ⟨⟨p, l, e, R, s⟩, Y, ⟨cc, nL, own, ret, Ts⟩, Z⟩ hE h1 h2 h3 h4 h5
  dsimp only at h1 h2 h3 h4 h5
  subst h1 h2 h3 h4 h5
  exact ⟨(n_sq (n_gets hE wt_424 dJ0_isLatin1_aae02_0) (n_ifeq hE (by decide) dJ0_isLatin1_aae02_3)),
    (n_sq (n_aload_n hE dJ0_isLatin1_aae02_6) (n_sq (n_cod hE rfl wt_1595 dJ0_isLatin1_aae02_7) (n_ifne hE (by decide) dJ0_isLatin1_aae02_10))),
    (n_sq (n_iconst hE (by decide) dJ0_isLatin1_aae02_13) (n_goto hE (by decide) dJ0_isLatin1_aae02_14)),
    (n_sq (n_iconst hE (by decide) dJ0_isLatin1_aae02_17) n_fall),
    (n_zreturn hE rfl dJ0_isLatin1_aae02_18), trivial⟩
noncomputable def F_J0_isLatin1_aae02 (as : List XV) (w : XW) : Option (Int32 × XW) := (xF 1 bs_J0_isLatin1_aae02 as w).bind pI
theorem m_J0_isLatin1_aae02 : XM yJ0_isLatin1_aae02 cJ0_isLatin1_aae02 1 (some .boolean) 0 0 (eI F_J0_isLatin1_aae02) := xm_I (xm_of (by decide) s_J0_isLatin1_aae02)
noncomputable def q_J0_isLatin1_aae02_0 (i0 : Nat) (w : XW) : Option XR := ev bs_J0_isLatin1_aae02 0 ([some (.inr (65, i0))], [], w)
noncomputable def q_J0_isLatin1_aae02_6 (i0 : Nat) (w : XW) : Option XR := ev bs_J0_isLatin1_aae02 6 ([some (.inr (65, i0))], [], w)
noncomputable def q_J0_isLatin1_aae02_13 (w : XW) : Option XR := ev bs_J0_isLatin1_aae02 13 ([none], [], w)
noncomputable def q_J0_isLatin1_aae02_17 (w : XW) : Option XR := ev bs_J0_isLatin1_aae02 17 ([none], [], w)
noncomputable def q_J0_isLatin1_aae02_18 (s0 : Int32) (w : XW) : Option XR := ev bs_J0_isLatin1_aae02 18 ([none], [.inl (.int s0)], w)
theorem e_J0_isLatin1_aae02_0 (i0 : Nat) (w : XW) : q_J0_isLatin1_aae02_0 i0 w = (bif decide (1 = 0) then (q_J0_isLatin1_aae02_17 w) else (q_J0_isLatin1_aae02_6 i0 w)) := (ev_eq _ _ _).trans rfl
theorem e_J0_isLatin1_aae02_6 (i0 : Nat) (w : XW) : q_J0_isLatin1_aae02_6 i0 w = (bif decide (¬ 0 = 0) then (q_J0_isLatin1_aae02_17 w) else (q_J0_isLatin1_aae02_13 w)) := (ev_eq _ _ _).trans rfl
theorem e_J0_isLatin1_aae02_13 (w : XW) : q_J0_isLatin1_aae02_13 w = (q_J0_isLatin1_aae02_18 1 w) := (ev_eq _ _ _).trans rfl
theorem e_J0_isLatin1_aae02_17 (w : XW) : q_J0_isLatin1_aae02_17 w = (q_J0_isLatin1_aae02_18 0 w) := (ev_eq _ _ _).trans rfl
theorem e_J0_isLatin1_aae02_18 (s0 : Int32) (w : XW) : q_J0_isLatin1_aae02_18 s0 w = (if s0 = 0 ∨ s0 = 1 then some (some (.inl (.int s0)), w) else none) := (ev_eq _ _ _).trans rfl
theorem f_J0_isLatin1_aae02 (i0 : Nat) (w : XW) : F_J0_isLatin1_aae02 [.inr (65, i0)] w = (q_J0_isLatin1_aae02_0 i0 w).bind pI := rfl

-- jdk/internal/util/Preconditions.checkIndex(IILjava/util/function/BiFunction;)I
theorem dJ3_checkIndex_8e157_0 : decode cJ3_checkIndex_8e157 0 = .ok (.iload_n 0, 1) := by decide +kernel
theorem dJ3_checkIndex_8e157_1 : decode cJ3_checkIndex_8e157 1 = .ok (.ifCond .lt 8, 3) := by decide +kernel
theorem dJ3_checkIndex_8e157_4 : decode cJ3_checkIndex_8e157 4 = .ok (.iload_n 0, 1) := by decide +kernel
theorem dJ3_checkIndex_8e157_5 : decode cJ3_checkIndex_8e157 5 = .ok (.iload_n 1, 1) := by decide +kernel
theorem dJ3_checkIndex_8e157_6 : decode cJ3_checkIndex_8e157 6 = .ok (.if_icmp .lt 10, 3) := by decide +kernel
theorem dJ3_checkIndex_8e157_16 : decode cJ3_checkIndex_8e157 16 = .ok (.iload_n 0, 1) := by decide +kernel
theorem dJ3_checkIndex_8e157_17 : decode cJ3_checkIndex_8e157 17 = .ok (.ireturn, 1) := by decide +kernel
noncomputable def bs_J3_checkIndex_8e157 : List (Nat × XB) := [
  (0, (sq (xLI 0) (tIf1 (fun x => decide (x < 0)) 9 [true, true, true] 4 [true, true, true]))),
  (4, (sq (xLI 0) (sq (xLI 1) (tIf2 (fun x y => decide (x < y)) 16 [true, false, false] 9 [true, true, true])))),
  (16, (sq (xLI 0) tRI))]
set_option maxRecDepth 100000 in
set_option maxHeartbeats 4000000 in
theorem s_J3_checkIndex_8e157 : ∀ X : XCtx, XE X → X.2.2.1.1 = cJ3_checkIndex_8e157 → X.2.2.1.2.1 = 3 → X.2.2.1.2.2.1 = yJ3_checkIndex_8e157.cls → X.2.2.1.2.2.2.1 = (some .int) → X.1.2.2.2.1 = { frames := 0, cells := 0, slots := 0, locals := 0 } → SndBs X bs_J3_checkIndex_8e157 := by
  rintro ⟨⟨p, l, e, R, s⟩, Y, ⟨cc, nL, own, ret, Ts⟩, Z⟩ hE h1 h2 h3 h4 h5
  dsimp only at h1 h2 h3 h4 h5
  subst h1 h2 h3 h4 h5
  exact ⟨(n_sq (n_iload_n hE dJ3_checkIndex_8e157_0) (n_iflt hE (by decide) dJ3_checkIndex_8e157_1)),
    (n_sq (n_iload_n hE dJ3_checkIndex_8e157_4) (n_sq (n_iload_n hE dJ3_checkIndex_8e157_5) (n_ifclt hE (by decide) dJ3_checkIndex_8e157_6))),
    (n_sq (n_iload_n hE dJ3_checkIndex_8e157_16) (n_ireturn hE rfl dJ3_checkIndex_8e157_17)), trivial⟩
noncomputable def F_J3_checkIndex_8e157 (as : List XV) (w : XW) : Option (Int32 × XW) := (xF 3 bs_J3_checkIndex_8e157 as w).bind pI
theorem m_J3_checkIndex_8e157 : XM yJ3_checkIndex_8e157 cJ3_checkIndex_8e157 3 (some .int) 0 0 (eI F_J3_checkIndex_8e157) := xm_I (xm_of (by decide) s_J3_checkIndex_8e157)
noncomputable def q_J3_checkIndex_8e157_0 (x0 : Int32) (x1 : Int32) (v2 : Nat) (w : XW) : Option XR := ev bs_J3_checkIndex_8e157 0 ([some (.inl (.int x0)), some (.inl (.int x1)), some (.inl (.ref v2))], [], w)
noncomputable def q_J3_checkIndex_8e157_0a (x0 : Int32) (x1 : Int32) (w : XW) : Option XR := ev bs_J3_checkIndex_8e157 0 ([some (.inl (.int x0)), some (.inl (.int x1)), some (.inl .null)], [], w)
noncomputable def q_J3_checkIndex_8e157_4 (x0 : Int32) (x1 : Int32) (w : XW) : Option XR := ev bs_J3_checkIndex_8e157 4 ([some (.inl (.int x0)), some (.inl (.int x1)), some (.inl .null)], [], w)
noncomputable def q_J3_checkIndex_8e157_4a (x0 : Int32) (x1 : Int32) (v2 : Nat) (w : XW) : Option XR := ev bs_J3_checkIndex_8e157 4 ([some (.inl (.int x0)), some (.inl (.int x1)), some (.inl (.ref v2))], [], w)
noncomputable def q_J3_checkIndex_8e157_9 (x0 : Int32) (x1 : Int32) (w : XW) : Option XR := ev bs_J3_checkIndex_8e157 9 ([some (.inl (.int x0)), some (.inl (.int x1)), some (.inl .null)], [], w)
noncomputable def q_J3_checkIndex_8e157_9a (x0 : Int32) (x1 : Int32) (v2 : Nat) (w : XW) : Option XR := ev bs_J3_checkIndex_8e157 9 ([some (.inl (.int x0)), some (.inl (.int x1)), some (.inl (.ref v2))], [], w)
noncomputable def q_J3_checkIndex_8e157_16 (x0 : Int32) (w : XW) : Option XR := ev bs_J3_checkIndex_8e157 16 ([some (.inl (.int x0)), none, none], [], w)
theorem e_J3_checkIndex_8e157_0 (x0 : Int32) (x1 : Int32) (v2 : Nat) (w : XW) : q_J3_checkIndex_8e157_0 x0 x1 v2 w = (bif decide (x0 < 0) then (q_J3_checkIndex_8e157_9a x0 x1 v2 w) else (q_J3_checkIndex_8e157_4a x0 x1 v2 w)) := (ev_eq _ _ _).trans rfl
theorem e_J3_checkIndex_8e157_0a (x0 : Int32) (x1 : Int32) (w : XW) : q_J3_checkIndex_8e157_0a x0 x1 w = (bif decide (x0 < 0) then (q_J3_checkIndex_8e157_9 x0 x1 w) else (q_J3_checkIndex_8e157_4 x0 x1 w)) := (ev_eq _ _ _).trans rfl
theorem e_J3_checkIndex_8e157_4 (x0 : Int32) (x1 : Int32) (w : XW) : q_J3_checkIndex_8e157_4 x0 x1 w = (bif decide (x0 < x1) then (q_J3_checkIndex_8e157_16 x0 w) else (q_J3_checkIndex_8e157_9 x0 x1 w)) := (ev_eq _ _ _).trans rfl
theorem e_J3_checkIndex_8e157_4a (x0 : Int32) (x1 : Int32) (v2 : Nat) (w : XW) : q_J3_checkIndex_8e157_4a x0 x1 v2 w = (bif decide (x0 < x1) then (q_J3_checkIndex_8e157_16 x0 w) else (q_J3_checkIndex_8e157_9a x0 x1 v2 w)) := (ev_eq _ _ _).trans rfl
theorem e_J3_checkIndex_8e157_9 (x0 : Int32) (x1 : Int32) (w : XW) : q_J3_checkIndex_8e157_9 x0 x1 w = none := (ev_eq _ _ _).trans rfl
theorem e_J3_checkIndex_8e157_9a (x0 : Int32) (x1 : Int32) (v2 : Nat) (w : XW) : q_J3_checkIndex_8e157_9a x0 x1 v2 w = none := (ev_eq _ _ _).trans rfl
theorem e_J3_checkIndex_8e157_16 (x0 : Int32) (w : XW) : q_J3_checkIndex_8e157_16 x0 w = (some (some (.inl (.int x0)), w)) := (ev_eq _ _ _).trans rfl
theorem f_J3_checkIndex_8e157 (x0 : Int32) (x1 : Int32) (v2 : Nat) (w : XW) : F_J3_checkIndex_8e157 [.inl (.int x0), .inl (.int x1), .inl (.ref v2)] w = (q_J3_checkIndex_8e157_0 x0 x1 v2 w).bind pI := rfl
theorem f_J3_checkIndex_8e157a (x0 : Int32) (x1 : Int32) (w : XW) : F_J3_checkIndex_8e157 [.inl (.int x0), .inl (.int x1), .inl .null] w = (q_J3_checkIndex_8e157_0a x0 x1 w).bind pI := rfl

-- java/lang/String.checkIndex(II)V
theorem dJ0_checkIndex_df160_0 : decode cJ0_checkIndex_df160 0 = .ok (.iload_n 0, 1) := by decide +kernel
theorem dJ0_checkIndex_df160_1 : decode cJ0_checkIndex_df160 1 = .ok (.iload_n 1, 1) := by decide +kernel
theorem dJ0_checkIndex_df160_2 : decode cJ0_checkIndex_df160 2 = .ok (.getstatic 1053, 3) := by decide +kernel
theorem dJ0_checkIndex_df160_5 : decode cJ0_checkIndex_df160 5 = .ok (.invokestatic 1059, 3) := by decide +kernel
theorem dJ0_checkIndex_df160_8 : decode cJ0_checkIndex_df160 8 = .ok (.pop, 1) := by decide +kernel
theorem dJ0_checkIndex_df160_9 : decode cJ0_checkIndex_df160 9 = .ok (.return_, 1) := by decide +kernel
theorem vc_J0_1059 : XSw RJ0 1059 3 3 yJ3_checkIndex_8e157 cJ3_checkIndex_8e157 (some .int) := ⟨⟨by decide, by decide⟩, by decide +kernel, wt_442, wt_443, wt_15, wt_444⟩
noncomputable def bs_J0_checkIndex_df160 : List (Nat × XB) := [
  (0, (sq (xLI 0) (sq (xLI 1) (sq (xChk F_J3_checkIndex_8e157) (sq (xPop) tRV)))))]
set_option maxRecDepth 100000 in
set_option maxHeartbeats 4000000 in
theorem s_J0_checkIndex_df160 : ∀ X : XCtx, XE X → X.2.2.1.1 = cJ0_checkIndex_df160 → X.2.2.1.2.1 = 2 → X.2.2.1.2.2.1 = yJ0_checkIndex_df160.cls → X.2.2.1.2.2.2.1 = none → X.1.2.2.2.1 = { frames := 1, cells := 0, slots := 0, locals := 22 } → SndBs X bs_J0_checkIndex_df160 := by
  rintro ⟨⟨p, l, e, R, s⟩, Y, ⟨cc, nL, own, ret, Ts⟩, Z⟩ hE h1 h2 h3 h4 h5
  dsimp only at h1 h2 h3 h4 h5
  subst h1 h2 h3 h4 h5
  exact ⟨(n_sq (n_iload_n hE dJ0_checkIndex_df160_0) (n_sq (n_iload_n hE dJ0_checkIndex_df160_1) (n_sq (n_chk2 hE m_J3_checkIndex_8e157 vc_J0_1059 (fun i n t w => by simp only [f_J3_checkIndex_8e157, f_J3_checkIndex_8e157a, e_J3_checkIndex_8e157_0, e_J3_checkIndex_8e157_0a, e_J3_checkIndex_8e157_4, e_J3_checkIndex_8e157_4a, e_J3_checkIndex_8e157_9, e_J3_checkIndex_8e157_9a]) (show 0 + 1 ≤ 1 ∧ 8 + (3 + 11) + 0 ≤ 22 by decide) wt_440 dJ0_checkIndex_df160_2 dJ0_checkIndex_df160_5) (n_sq (n_pop hE dJ0_checkIndex_df160_8) (n_vreturn hE rfl dJ0_checkIndex_df160_9))))), trivial⟩
noncomputable def F_J0_checkIndex_df160 (as : List XV) (w : XW) : Option XW := (xF 2 bs_J0_checkIndex_df160 as w).bind pV
theorem m_J0_checkIndex_df160 : XM yJ0_checkIndex_df160 cJ0_checkIndex_df160 2 none 1 22 (eV F_J0_checkIndex_df160) := xm_V (xm_of (by decide) s_J0_checkIndex_df160)
noncomputable def q_J0_checkIndex_df160_0 (x0 : Int32) (x1 : Int32) (w : XW) : Option XR := ev bs_J0_checkIndex_df160 0 ([some (.inl (.int x0)), some (.inl (.int x1))], [], w)
theorem e_J0_checkIndex_df160_0 (x0 : Int32) (x1 : Int32) (w : XW) : q_J0_checkIndex_df160_0 x0 x1 w = ((F_J3_checkIndex_8e157 [.inl (.int x0), .inl (.int x1), .inl .null] w).bind fun r0 => (some (none, r0.2))) := (ev_eq _ _ _).trans rfl
theorem f_J0_checkIndex_df160 (x0 : Int32) (x1 : Int32) (w : XW) : F_J0_checkIndex_df160 [.inl (.int x0), .inl (.int x1)] w = (q_J0_checkIndex_df160_0 x0 x1 w).bind pV := rfl

-- java/lang/StringLatin1.charAt([BI)C
theorem dJ1_charAt_3b067_0 : decode cJ1_charAt_3b067 0 = .ok (.iload_n 1, 1) := by decide +kernel
theorem dJ1_charAt_3b067_1 : decode cJ1_charAt_3b067 1 = .ok (.aload_n 0, 1) := by decide +kernel
theorem dJ1_charAt_3b067_2 : decode cJ1_charAt_3b067 2 = .ok (.arraylength, 1) := by decide +kernel
theorem dJ1_charAt_3b067_3 : decode cJ1_charAt_3b067 3 = .ok (.invokestatic 9, 3) := by decide +kernel
theorem dJ1_charAt_3b067_6 : decode cJ1_charAt_3b067 6 = .ok (.aload_n 0, 1) := by decide +kernel
theorem dJ1_charAt_3b067_7 : decode cJ1_charAt_3b067 7 = .ok (.iload_n 1, 1) := by decide +kernel
theorem dJ1_charAt_3b067_8 : decode cJ1_charAt_3b067 8 = .ok (.baload, 1) := by decide +kernel
theorem dJ1_charAt_3b067_9 : decode cJ1_charAt_3b067 9 = .ok (.sipush 255, 3) := by decide +kernel
theorem dJ1_charAt_3b067_12 : decode cJ1_charAt_3b067 12 = .ok (.iand, 1) := by decide +kernel
theorem dJ1_charAt_3b067_13 : decode cJ1_charAt_3b067 13 = .ok (.i2c, 1) := by decide +kernel
theorem dJ1_charAt_3b067_14 : decode cJ1_charAt_3b067 14 = .ok (.ireturn, 1) := by decide +kernel
theorem vc_J1_9 : XSw RJ1 9 2 2 yJ0_checkIndex_df160 cJ0_checkIndex_df160 none := ⟨⟨by decide, by decide⟩, by decide +kernel, wt_437, wt_438, wt_13, wt_439⟩
noncomputable def bs_J1_charAt_3b067 : List (Nat × XB) := [
  (0, (sq (xLI 1) (sq (xLA 0) (sq (xLenS) (sq (xCV 99 2 F_J0_checkIndex_df160) (sq (xLA 0) (sq (xLI 1) (sq (xAS) (sq (xC (.int 255)) (sq (xI2 (· &&& ·)) (sq (xI1 (fun x => (x.toUInt32 % 65536).toInt32)) (tRT .char))))))))))))]
set_option maxRecDepth 100000 in
set_option maxHeartbeats 4000000 in
theorem s_J1_charAt_3b067 : ∀ X : XCtx, XE X → X.2.2.1.1 = cJ1_charAt_3b067 → X.2.2.1.2.1 = 2 → X.2.2.1.2.2.1 = yJ1_charAt_3b067.cls → X.2.2.1.2.2.2.1 = (some .char) → X.1.2.2.2.1 = { frames := 2, cells := 0, slots := 0, locals := 43 } → SndBs X bs_J1_charAt_3b067 := by
  rintro ⟨⟨p, l, e, R, s⟩, Y, ⟨cc, nL, own, ret, Ts⟩, Z⟩ hE h1 h2 h3 h4 h5
  dsimp only at h1 h2 h3 h4 h5
  subst h1 h2 h3 h4 h5
  exact ⟨(n_sq (n_iload_n hE dJ1_charAt_3b067_0) (n_sq (n_aload_n hE dJ1_charAt_3b067_1) (n_sq (n_lenS hE dJ1_charAt_3b067_2) (n_sq (n_cVs hE m_J0_checkIndex_df160 vc_J1_9 (show 1 + 1 ≤ 2 ∧ 8 + (2 + 11) + 22 ≤ 43 by decide) dJ1_charAt_3b067_3) (n_sq (n_aload_n hE dJ1_charAt_3b067_6) (n_sq (n_iload_n hE dJ1_charAt_3b067_7) (n_sq (n_aldS hE dJ1_charAt_3b067_8) (n_sq (n_sipush hE (by decide) dJ1_charAt_3b067_9) (n_sq (n_iand hE dJ1_charAt_3b067_12) (n_sq (n_i2c hE dJ1_charAt_3b067_13) (n_treturn hE rfl dJ1_charAt_3b067_14))))))))))), trivial⟩
noncomputable def F_J1_charAt_3b067 (as : List XV) (w : XW) : Option (Int32 × XW) := (xF 2 bs_J1_charAt_3b067 as w).bind pI
theorem m_J1_charAt_3b067 : XM yJ1_charAt_3b067 cJ1_charAt_3b067 2 (some .char) 2 43 (eI F_J1_charAt_3b067) := xm_I (xm_of (by decide) s_J1_charAt_3b067)
noncomputable def q_J1_charAt_3b067_0 (i0 : Nat) (x1 : Int32) (w : XW) : Option XR := ev bs_J1_charAt_3b067 0 ([some (.inr (66, i0)), some (.inl (.int x1))], [], w)
theorem e_J1_charAt_3b067_0 (i0 : Nat) (x1 : Int32) (w : XW) : q_J1_charAt_3b067_0 i0 x1 w = ((F_J0_checkIndex_df160 [.inl (.int x1), .inl (.int (Int32.ofNat (xsln.getD i0 0)))] w).bind fun r0 => (if x1 < 0 ∨ xsln.getD i0 0 ≤ x1.toNatClampNeg then none else (if narrow .char (.int (((((xsby.getD i0 []).getD x1.toNatClampNeg 0) &&& 255).toUInt32 % 65536).toInt32)) = .int (((((xsby.getD i0 []).getD x1.toNatClampNeg 0) &&& 255).toUInt32 % 65536).toInt32) then some (some (.inl (.int ((((xsby.getD i0 []).getD x1.toNatClampNeg 0) &&& 255).toUInt32 % 65536).toInt32)), r0) else none))) := (ev_eq _ _ _).trans rfl
theorem f_J1_charAt_3b067 (i0 : Nat) (x1 : Int32) (w : XW) : F_J1_charAt_3b067 [.inr (66, i0), .inl (.int x1)] w = (q_J1_charAt_3b067_0 i0 x1 w).bind pI := rfl

-- java/lang/String.charAt(I)C
theorem dJ0_charAt_5068e_0 : decode cJ0_charAt_5068e 0 = .ok (.aload_n 0, 1) := by decide +kernel
theorem dJ0_charAt_5068e_1 : decode cJ0_charAt_5068e 1 = .ok (.invokevirtual 492, 3) := by decide +kernel
theorem dJ0_charAt_5068e_4 : decode cJ0_charAt_5068e 4 = .ok (.ifCond .eq 12, 3) := by decide +kernel
theorem dJ0_charAt_5068e_7 : decode cJ0_charAt_5068e 7 = .ok (.aload_n 0, 1) := by decide +kernel
theorem dJ0_charAt_5068e_8 : decode cJ0_charAt_5068e 8 = .ok (.getfield 9, 3) := by decide +kernel
theorem dJ0_charAt_5068e_11 : decode cJ0_charAt_5068e 11 = .ok (.iload_n 1, 1) := by decide +kernel
theorem dJ0_charAt_5068e_12 : decode cJ0_charAt_5068e 12 = .ok (.invokestatic 495, 3) := by decide +kernel
theorem dJ0_charAt_5068e_15 : decode cJ0_charAt_5068e 15 = .ok (.ireturn, 1) := by decide +kernel
theorem vc_J0_492 : XVs RJ0 492 0 1 yJ0_isLatin1_aae02 cJ0_isLatin1_aae02 (some .boolean) := ⟨rfl, ⟨by decide, by decide⟩, by decide +kernel, wt_430, wt_431, wt_432, wt_13, wt_433⟩
theorem vc_J0_495 : XSw RJ0 495 2 2 yJ1_charAt_3b067 cJ1_charAt_3b067 (some .char) := ⟨⟨by decide, by decide⟩, by decide +kernel, wt_434, wt_435, wt_14, wt_436⟩
noncomputable def bs_J0_charAt_5068e : List (Nat × XB) := [
  (0, (sq (xLA 0) (sq (xCI 65 1 F_J0_isLatin1_aae02) (tIf1 (fun x => decide (x = 0)) 16 [true, true] 7 [true, true])))),
  (7, (sq (xLA 0) (sq (xVal) (sq (xLI 1) (sq (xCI 99 2 F_J1_charAt_3b067) (tRT .char))))))]
set_option maxRecDepth 100000 in
set_option maxHeartbeats 4000000 in
theorem s_J0_charAt_5068e : ∀ X : XCtx, XE X → X.2.2.1.1 = cJ0_charAt_5068e → X.2.2.1.2.1 = 2 → X.2.2.1.2.2.1 = yJ0_charAt_5068e.cls → X.2.2.1.2.2.2.1 = (some .char) → X.1.2.2.2.1 = { frames := 3, cells := 0, slots := 0, locals := 64 } → SndBs X bs_J0_charAt_5068e := by
  rintro ⟨⟨p, l, e, R, s⟩, Y, ⟨cc, nL, own, ret, Ts⟩, Z⟩ hE h1 h2 h3 h4 h5
  dsimp only at h1 h2 h3 h4 h5
  subst h1 h2 h3 h4 h5
  exact ⟨(n_sq (n_aload_n hE dJ0_charAt_5068e_0) (n_sq (n_cIt hE m_J0_isLatin1_aae02 vc_J0_492 (show 0 + 1 ≤ 3 ∧ 8 + (1 + 11) + 0 ≤ 64 by decide) dJ0_charAt_5068e_1) (n_ifeq hE (by decide) dJ0_charAt_5068e_4))),
    (n_sq (n_aload_n hE dJ0_charAt_5068e_7) (n_sq (n_val hE rfl wt_1594 dJ0_charAt_5068e_8) (n_sq (n_iload_n hE dJ0_charAt_5068e_11) (n_sq (n_cIs hE m_J1_charAt_3b067 vc_J0_495 (show 2 + 1 ≤ 3 ∧ 8 + (2 + 11) + 43 ≤ 64 by decide) dJ0_charAt_5068e_12) (n_treturn hE rfl dJ0_charAt_5068e_15))))), trivial⟩
noncomputable def F_J0_charAt_5068e (as : List XV) (w : XW) : Option (Int32 × XW) := (xF 2 bs_J0_charAt_5068e as w).bind pI
theorem m_J0_charAt_5068e : XM yJ0_charAt_5068e cJ0_charAt_5068e 2 (some .char) 3 64 (eI F_J0_charAt_5068e) := xm_I (xm_of (by decide) s_J0_charAt_5068e)
noncomputable def q_J0_charAt_5068e_0 (i0 : Nat) (x1 : Int32) (w : XW) : Option XR := ev bs_J0_charAt_5068e 0 ([some (.inr (65, i0)), some (.inl (.int x1))], [], w)
noncomputable def q_J0_charAt_5068e_7 (i0 : Nat) (x1 : Int32) (w : XW) : Option XR := ev bs_J0_charAt_5068e 7 ([some (.inr (65, i0)), some (.inl (.int x1))], [], w)
noncomputable def q_J0_charAt_5068e_16 (i0 : Nat) (x1 : Int32) (w : XW) : Option XR := ev bs_J0_charAt_5068e 16 ([some (.inr (65, i0)), some (.inl (.int x1))], [], w)
theorem e_J0_charAt_5068e_0 (i0 : Nat) (x1 : Int32) (w : XW) : q_J0_charAt_5068e_0 i0 x1 w = ((F_J0_isLatin1_aae02 [.inr (65, i0)] w).bind fun r0 => (bif decide (r0.1 = 0) then (q_J0_charAt_5068e_16 i0 x1 r0.2) else (q_J0_charAt_5068e_7 i0 x1 r0.2))) := (ev_eq _ _ _).trans rfl
theorem e_J0_charAt_5068e_7 (i0 : Nat) (x1 : Int32) (w : XW) : q_J0_charAt_5068e_7 i0 x1 w = ((F_J1_charAt_3b067 [.inr (66, i0), .inl (.int x1)] w).bind fun r0 => (if narrow .char (.int r0.1) = .int r0.1 then some (some (.inl (.int r0.1)), r0.2) else none)) := (ev_eq _ _ _).trans rfl
theorem e_J0_charAt_5068e_16 (i0 : Nat) (x1 : Int32) (w : XW) : q_J0_charAt_5068e_16 i0 x1 w = none := (ev_eq _ _ _).trans rfl
theorem f_J0_charAt_5068e (i0 : Nat) (x1 : Int32) (w : XW) : F_J0_charAt_5068e [.inr (65, i0), .inl (.int x1)] w = (q_J0_charAt_5068e_0 i0 x1 w).bind pI := rfl
