-- WinterKeepModel.back(I)I
theorem dX12_back_0 : decode cX12_back 0 = .ok (.iload_n 1, 1) := by decide +kernel
theorem dX12_back_1 : decode cX12_back 1 = .ok (.i2l, 1) := by decide +kernel
theorem dX12_back_2 : decode cX12_back 2 = .ok (.lconst 0, 1) := by decide +kernel
theorem dX12_back_3 : decode cX12_back 3 = .ok (.ldc2_w 475, 3) := by decide +kernel
theorem dX12_back_6 : decode cX12_back 6 = .ok (.invokestatic 133, 3) := by decide +kernel
theorem dX12_back_9 : decode cX12_back 9 = .ok (.ifCond .eq 12, 3) := by decide +kernel
theorem dX12_back_12 : decode cX12_back 12 = .ok (.aload_n 0, 1) := by decide +kernel
theorem dX12_back_13 : decode cX12_back 13 = .ok (.getfield 89, 3) := by decide +kernel
theorem dX12_back_16 : decode cX12_back 16 = .ok (.iload_n 1, 1) := by decide +kernel
theorem dX12_back_17 : decode cX12_back 17 = .ok (.baload, 1) := by decide +kernel
theorem dX12_back_18 : decode cX12_back 18 = .ok (.ifCond .ne 5, 3) := by decide +kernel
theorem dX12_back_21 : decode cX12_back 21 = .ok (.iconst (-1), 1) := by decide +kernel
theorem dX12_back_22 : decode cX12_back 22 = .ok (.ireturn, 1) := by decide +kernel
theorem dX12_back_23 : decode cX12_back 23 = .ok (.aload_n 0, 1) := by decide +kernel
theorem dX12_back_24 : decode cX12_back 24 = .ok (.aload_n 0, 1) := by decide +kernel
theorem dX12_back_25 : decode cX12_back 25 = .ok (.getfield 83, 3) := by decide +kernel
theorem dX12_back_28 : decode cX12_back 28 = .ok (.iload_n 1, 1) := by decide +kernel
theorem dX12_back_29 : decode cX12_back 29 = .ok (.iaload, 1) := by decide +kernel
theorem dX12_back_30 : decode cX12_back 30 = .ok (.putfield 42, 3) := by decide +kernel
theorem dX12_back_33 : decode cX12_back 33 = .ok (.aload_n 0, 1) := by decide +kernel
theorem dX12_back_34 : decode cX12_back 34 = .ok (.aload_n 0, 1) := by decide +kernel
theorem dX12_back_35 : decode cX12_back 35 = .ok (.getfield 86, 3) := by decide +kernel
theorem dX12_back_38 : decode cX12_back 38 = .ok (.iload_n 1, 1) := by decide +kernel
theorem dX12_back_39 : decode cX12_back 39 = .ok (.iaload, 1) := by decide +kernel
theorem dX12_back_40 : decode cX12_back 40 = .ok (.putfield 452, 3) := by decide +kernel
theorem dX12_back_43 : decode cX12_back 43 = .ok (.aload_n 0, 1) := by decide +kernel
theorem dX12_back_44 : decode cX12_back 44 = .ok (.iconst 0, 1) := by decide +kernel
theorem dX12_back_45 : decode cX12_back 45 = .ok (.putfield 280, 3) := by decide +kernel
theorem dX12_back_48 : decode cX12_back 48 = .ok (.iconst 0, 1) := by decide +kernel
theorem dX12_back_49 : decode cX12_back 49 = .ok (.istore_n 2, 1) := by decide +kernel
theorem dX12_back_50 : decode cX12_back 50 = .ok (.iload_n 2, 1) := by decide +kernel
theorem dX12_back_51 : decode cX12_back 51 = .ok (.bipush 98, 2) := by decide +kernel
theorem dX12_back_53 : decode cX12_back 53 = .ok (.if_icmp .ge 26, 3) := by decide +kernel
theorem dX12_back_56 : decode cX12_back 56 = .ok (.aload_n 0, 1) := by decide +kernel
theorem dX12_back_57 : decode cX12_back 57 = .ok (.getfield 39, 3) := by decide +kernel
theorem dX12_back_60 : decode cX12_back 60 = .ok (.iload_n 2, 1) := by decide +kernel
theorem dX12_back_61 : decode cX12_back 61 = .ok (.aload_n 0, 1) := by decide +kernel
theorem dX12_back_62 : decode cX12_back 62 = .ok (.getfield 80, 3) := by decide +kernel
theorem dX12_back_65 : decode cX12_back 65 = .ok (.bipush 98, 2) := by decide +kernel
theorem dX12_back_67 : decode cX12_back 67 = .ok (.iload_n 1, 1) := by decide +kernel
theorem dX12_back_68 : decode cX12_back 68 = .ok (.imul, 1) := by decide +kernel
theorem dX12_back_69 : decode cX12_back 69 = .ok (.iload_n 2, 1) := by decide +kernel
theorem dX12_back_70 : decode cX12_back 70 = .ok (.iadd, 1) := by decide +kernel
theorem dX12_back_71 : decode cX12_back 71 = .ok (.iaload, 1) := by decide +kernel
theorem dX12_back_72 : decode cX12_back 72 = .ok (.iastore, 1) := by decide +kernel
theorem dX12_back_73 : decode cX12_back 73 = .ok (.iinc 2 1, 3) := by decide +kernel
theorem dX12_back_76 : decode cX12_back 76 = .ok (.goto (-26), 3) := by decide +kernel
theorem dX12_back_79 : decode cX12_back 79 = .ok (.aload_n 0, 1) := by decide +kernel
theorem dX12_back_80 : decode cX12_back 80 = .ok (.getfield 39, 3) := by decide +kernel
theorem dX12_back_83 : decode cX12_back 83 = .ok (.bipush 10, 2) := by decide +kernel
theorem dX12_back_85 : decode cX12_back 85 = .ok (.iaload, 1) := by decide +kernel
theorem dX12_back_86 : decode cX12_back 86 = .ok (.ireturn, 1) := by decide +kernel
noncomputable def bs_X12_back : List (Nat × XB) := [
  (0, (sq (xLI 1) (sq (xI2L) (sq (xC (.long 0)) (sq (xC (.long 3)) (sq (xCI 99 3 F_X12_in) (tIf1 (fun x => decide (x = 0)) 21 [false, false, false] 12 [true, true, false]))))))),
  (12, (sq (xLA 0) (sq (xGS 11 64 1 0) (sq (xLI 1) (sq (xAI 64 4) (tIf1 (fun x => decide (¬ x = 0)) 23 [true, true, false] 21 [false, false, false])))))),
  (21, (sq (xC (.int (-1))) tRI)),
  (23, (sq (xLA 0) (sq (xLA 0) (sq (xGS 11 62 1 0) (sq (xLI 1) (sq (xAI 62 4) (sq (xPI 11 21) (sq (xLA 0) (sq (xLA 0) (sq (xGS 11 63 1 0) (sq (xLI 1) (sq (xAI 63 4) (sq (xPI 11 22) (sq (xLA 0) (sq (xC (.int 0)) (sq (xPI 11 26) (sq (xC (.int 0)) (sq (xSI 2) (tGo 50 [true, true, true]))))))))))))))))))),
  (50, (sq (xLI 2) (sq (xC (.int 98)) (tIf2 (fun x y => decide (y ≤ x)) 79 [true, false, false] 56 [true, true, true])))),
  (56, (sq (xLA 0) (sq (xGS 11 50 1 0) (sq (xLI 2) (sq (xLA 0) (sq (xGS 11 61 1 0) (sq (xC (.int 98)) (sq (xLI 1) (sq (xI2 (· * ·)) (sq (xLI 2) (sq (xI2 (· + ·)) (sq (xAI 61 392) (sq (xTI 50 98 (fun x => x)) (sq (xInc 2 1) (tGo 50 [true, true, true]))))))))))))))),
  (79, (sq (xLA 0) (sq (xGS 11 50 1 0) (sq (xC (.int 10)) (sq (xAI 50 98) tRI)))))]
set_option maxRecDepth 100000 in
set_option maxHeartbeats 4000000 in
theorem s_X12_back : ∀ X : XCtx, XE X → X.2.2.1.1 = cX12_back → X.2.2.1.2.1 = 3 → X.2.2.1.2.2.1 = yX12_back.cls → X.2.2.1.2.2.2.1 = (some .int) → X.1.2.2.2.1 = { frames := 1, cells := 0, slots := 0, locals := 25 } → SndBs X bs_X12_back := by
  rintro ⟨⟨p, l, e, R, s⟩, Y, ⟨cc, nL, own, ret, Ts⟩, Z⟩ hE h1 h2 h3 h4 h5
  dsimp only at h1 h2 h3 h4 h5
  subst h1 h2 h3 h4 h5
  exact ⟨(n_sq (n_iload_n hE dX12_back_0) (n_sq (n_i2l hE dX12_back_1) (n_sq (n_lconst hE (by decide) dX12_back_2) (n_sq (n_ldc2 hE wt_1589 dX12_back_3) (n_sq (n_cIs hE m_X12_in vc_X12_133 (show 0 + 1 ≤ 1 ∧ 8 + (6 + 11) + 0 ≤ 25 by decide) dX12_back_6) (n_ifeq hE (by decide) dX12_back_9)))))),
    (n_sq (n_aload_n hE dX12_back_12) (n_sq (n_getS hE xk_11 (k := 42) rfl (by decide) rfl wt_1002 dX12_back_13) (n_sq (n_iload_n hE dX12_back_16) (n_sq (n_zald hE rfl (by decide) dX12_back_17) (n_ifne hE (by decide) dX12_back_18))))),
    (n_sq (n_iconst hE (by decide) dX12_back_21) (n_ireturn hE rfl dX12_back_22)),
    (n_sq (n_aload_n hE dX12_back_23) (n_sq (n_aload_n hE dX12_back_24) (n_sq (n_getS hE xk_11 (k := 40) rfl (by decide) rfl wt_1000 dX12_back_25) (n_sq (n_iload_n hE dX12_back_28) (n_sq (n_iald hE rfl (by decide) dX12_back_29) (n_sq (n_putI hE xk_11 (k := 21) rfl (by decide) rfl rfl (tyX12_ok 21 (by decide)) wt_981 dX12_back_30) (n_sq (n_aload_n hE dX12_back_33) (n_sq (n_aload_n hE dX12_back_34) (n_sq (n_getS hE xk_11 (k := 41) rfl (by decide) rfl wt_1001 dX12_back_35) (n_sq (n_iload_n hE dX12_back_38) (n_sq (n_iald hE rfl (by decide) dX12_back_39) (n_sq (n_putI hE xk_11 (k := 22) rfl (by decide) rfl rfl (tyX12_ok 22 (by decide)) wt_982 dX12_back_40) (n_sq (n_aload_n hE dX12_back_43) (n_sq (n_iconst hE (by decide) dX12_back_44) (n_sq (n_putI hE xk_11 (k := 26) rfl (by decide) rfl rfl (tyX12_ok 26 (by decide)) wt_986 dX12_back_45) (n_sq (n_iconst hE (by decide) dX12_back_48) (n_sq (n_istore_n hE (show (2 : Nat) < 3 by decide) dX12_back_49) n_fall))))))))))))))))),
    (n_sq (n_iload_n hE dX12_back_50) (n_sq (n_bipush hE (by decide) dX12_back_51) (n_ifcge hE (by decide) dX12_back_53))),
    (n_sq (n_aload_n hE dX12_back_56) (n_sq (n_getS hE xk_11 (k := 20) rfl (by decide) rfl wt_980 dX12_back_57) (n_sq (n_iload_n hE dX12_back_60) (n_sq (n_aload_n hE dX12_back_61) (n_sq (n_getS hE xk_11 (k := 39) rfl (by decide) rfl wt_999 dX12_back_62) (n_sq (n_bipush hE (by decide) dX12_back_65) (n_sq (n_iload_n hE dX12_back_67) (n_sq (n_imul hE dX12_back_68) (n_sq (n_iload_n hE dX12_back_69) (n_sq (n_iadd hE dX12_back_70) (n_sq (n_iald hE rfl (by decide) dX12_back_71) (n_sq (n_iast hE rfl (by decide) dX12_back_72) (n_sq (n_iinc hE (by decide) (show (2 : Nat) < 3 by decide) dX12_back_73) (n_goto hE (by decide) dX12_back_76)))))))))))))),
    (n_sq (n_aload_n hE dX12_back_79) (n_sq (n_getS hE xk_11 (k := 20) rfl (by decide) rfl wt_980 dX12_back_80) (n_sq (n_bipush hE (by decide) dX12_back_83) (n_sq (n_iald hE rfl (by decide) dX12_back_85) (n_ireturn hE rfl dX12_back_86))))), trivial⟩
noncomputable def F_X12_back (as : List XV) (w : XW) : Option (Int32 × XW) := (xF 3 bs_X12_back as w).bind pI
theorem m_X12_back : XM yX12_back cX12_back 3 (some .int) 1 25 (eI F_X12_back) := xm_I (xm_of (by decide) s_X12_back)
noncomputable def q_X12_back_0 (x1 : Int32) (w : XW) : Option XR := ev bs_X12_back 0 ([some (.inr (11, 0)), some (.inl (.int x1)), none], [], w)
noncomputable def q_X12_back_12 (x1 : Int32) (w : XW) : Option XR := ev bs_X12_back 12 ([some (.inr (11, 0)), some (.inl (.int x1)), none], [], w)
noncomputable def q_X12_back_21 (w : XW) : Option XR := ev bs_X12_back 21 ([none, none, none], [], w)
noncomputable def q_X12_back_23 (x1 : Int32) (w : XW) : Option XR := ev bs_X12_back 23 ([some (.inr (11, 0)), some (.inl (.int x1)), none], [], w)
noncomputable def q_X12_back_50 (x1 : Int32) (x2 : Int32) (w : XW) : Option XR := ev bs_X12_back 50 ([some (.inr (11, 0)), some (.inl (.int x1)), some (.inl (.int x2))], [], w)
noncomputable def q_X12_back_56 (x1 : Int32) (x2 : Int32) (w : XW) : Option XR := ev bs_X12_back 56 ([some (.inr (11, 0)), some (.inl (.int x1)), some (.inl (.int x2))], [], w)
noncomputable def q_X12_back_79 (w : XW) : Option XR := ev bs_X12_back 79 ([some (.inr (11, 0)), none, none], [], w)
set_option maxRecDepth 100000 in
theorem e_X12_back_0 (x1 : Int32) (w : XW) : q_X12_back_0 x1 w = ((F_X12_in [.inl (.long (x1 : Int32).toInt64), .inl (.long 0), .inl (.long 3)] w).bind fun r0 => (bif decide (r0.1 = 0) then (q_X12_back_21 r0.2) else (q_X12_back_12 x1 r0.2))) := (ev_eq _ _ _).trans rfl
set_option maxRecDepth 100000 in
theorem e_X12_back_12 (x1 : Int32) (w : XW) : q_X12_back_12 x1 w = (if x1 < 0 ∨ 4 ≤ x1.toNatClampNeg then none else (bif decide (¬ (gI w 64 0 x1.toNatClampNeg) = 0) then (q_X12_back_23 x1 w) else (q_X12_back_21 w))) := (ev_eq _ _ _).trans rfl
set_option maxRecDepth 100000 in
theorem e_X12_back_21 (w : XW) : q_X12_back_21 w = (some (some (.inl (.int (-1))), w)) := (ev_eq _ _ _).trans rfl
set_option maxRecDepth 100000 in
theorem e_X12_back_23 (x1 : Int32) (w : XW) : q_X12_back_23 x1 w = (if x1 < 0 ∨ 4 ≤ x1.toNatClampNeg then none else (if x1 < 0 ∨ 4 ≤ x1.toNatClampNeg then none else (q_X12_back_50 x1 0 (sI (sI (sI w 11 0 21 (gI w 62 0 x1.toNatClampNeg)) 11 0 22 (gI (sI w 11 0 21 (gI w 62 0 x1.toNatClampNeg)) 63 0 x1.toNatClampNeg)) 11 0 26 0)))) := (ev_eq _ _ _).trans rfl
set_option maxRecDepth 100000 in
theorem e_X12_back_50 (x1 : Int32) (x2 : Int32) (w : XW) : q_X12_back_50 x1 x2 w = (bif decide (98 ≤ x2) then (q_X12_back_79 w) else (q_X12_back_56 x1 x2 w)) := (ev_eq _ _ _).trans rfl
set_option maxRecDepth 100000 in
theorem e_X12_back_56 (x1 : Int32) (x2 : Int32) (w : XW) : q_X12_back_56 x1 x2 w = (if ((98 * x1) + x2) < 0 ∨ 392 ≤ ((98 * x1) + x2).toNatClampNeg then none else (if x2 < 0 ∨ 98 ≤ x2.toNatClampNeg then none else (q_X12_back_50 x1 (x2 + 1) (sI w 50 0 x2.toNatClampNeg (gI w 61 0 ((98 * x1) + x2).toNatClampNeg))))) := (ev_eq _ _ _).trans rfl
set_option maxRecDepth 100000 in
theorem e_X12_back_79 (w : XW) : q_X12_back_79 w = (some (some (.inl (.int (gI w 50 0 10))), w)) := (ev_eq _ _ _).trans rfl
theorem f_X12_back (x1 : Int32) (w : XW) : F_X12_back [.inr (11, 0), .inl (.int x1)] w = (q_X12_back_0 x1 w).bind pI := rfl

-- WinterKeep$Benches.isFree(LWinterKeep$Scene;II)Z
theorem dX0_isFree_0 : decode cX0_isFree 0 = .ok (.iconst 0, 1) := by decide +kernel
theorem dX0_isFree_1 : decode cX0_isFree 1 = .ok (.istore 4, 2) := by decide +kernel
theorem dX0_isFree_3 : decode cX0_isFree 3 = .ok (.iload 4, 2) := by decide +kernel
theorem dX0_isFree_5 : decode cX0_isFree 5 = .ok (.iload_n 2, 1) := by decide +kernel
theorem dX0_isFree_6 : decode cX0_isFree 6 = .ok (.if_icmp .ge 36, 3) := by decide +kernel
theorem dX0_isFree_9 : decode cX0_isFree 9 = .ok (.aload_n 0, 1) := by decide +kernel
theorem dX0_isFree_10 : decode cX0_isFree 10 = .ok (.getfield 9, 3) := by decide +kernel
theorem dX0_isFree_13 : decode cX0_isFree 13 = .ok (.iload 4, 2) := by decide +kernel
theorem dX0_isFree_15 : decode cX0_isFree 15 = .ok (.iaload, 1) := by decide +kernel
theorem dX0_isFree_16 : decode cX0_isFree 16 = .ok (.iload_n 3, 1) := by decide +kernel
theorem dX0_isFree_17 : decode cX0_isFree 17 = .ok (.if_icmp .ne 19, 3) := by decide +kernel
theorem dX0_isFree_20 : decode cX0_isFree 20 = .ok (.aload_n 1, 1) := by decide +kernel
theorem dX0_isFree_21 : decode cX0_isFree 21 = .ok (.getfield 31, 3) := by decide +kernel
theorem dX0_isFree_24 : decode cX0_isFree 24 = .ok (.iload_n 2, 1) := by decide +kernel
theorem dX0_isFree_25 : decode cX0_isFree 25 = .ok (.iaload, 1) := by decide +kernel
theorem dX0_isFree_26 : decode cX0_isFree 26 = .ok (.iload 4, 2) := by decide +kernel
theorem dX0_isFree_28 : decode cX0_isFree 28 = .ok (.ishr, 1) := by decide +kernel
theorem dX0_isFree_29 : decode cX0_isFree 29 = .ok (.iconst 1, 1) := by decide +kernel
theorem dX0_isFree_30 : decode cX0_isFree 30 = .ok (.iand, 1) := by decide +kernel
theorem dX0_isFree_31 : decode cX0_isFree 31 = .ok (.ifCond .eq 5, 3) := by decide +kernel
theorem dX0_isFree_34 : decode cX0_isFree 34 = .ok (.iconst 0, 1) := by decide +kernel
theorem dX0_isFree_35 : decode cX0_isFree 35 = .ok (.ireturn, 1) := by decide +kernel
theorem dX0_isFree_36 : decode cX0_isFree 36 = .ok (.iinc 4 1, 3) := by decide +kernel
theorem dX0_isFree_39 : decode cX0_isFree 39 = .ok (.goto (-36), 3) := by decide +kernel
theorem dX0_isFree_42 : decode cX0_isFree 42 = .ok (.iconst 1, 1) := by decide +kernel
theorem dX0_isFree_43 : decode cX0_isFree 43 = .ok (.ireturn, 1) := by decide +kernel
noncomputable def bs_X0_isFree : List (Nat × XB) := [
  (0, (sq (xC (.int 0)) (sq (xSI 4) (tGo 3 [true, true, true, true, true])))),
  (3, (sq (xLI 4) (sq (xLI 2) (tIf2 (fun x y => decide (y ≤ x)) 42 [false, false, false, false, false] 9 [true, true, true, true, true])))),
  (9, (sq (xLA 0) (sq (xGS 0 12 0 0) (sq (xLI 4) (sq (xAI 12 6) (sq (xLI 3) (tIf2 (fun x y => decide (¬ x = y)) 36 [true, true, true, true, true] 20 [true, true, true, true, true]))))))),
  (20, (sq (xLA 1) (sq (xGS 8 33 0 0) (sq (xLI 2) (sq (xAI 33 6) (sq (xLI 4) (sq (xI2 (fun x y => x >>> (y &&& 31))) (sq (xC (.int 1)) (sq (xI2 (· &&& ·)) (tIf1 (fun x => decide (x = 0)) 36 [true, true, true, true, true] 34 [false, false, false, false, false])))))))))),
  (34, (sq (xC (.int 0)) tRZ)),
  (36, (sq (xInc 4 1) (tGo 3 [true, true, true, true, true]))),
  (42, (sq (xC (.int 1)) tRZ))]
set_option maxRecDepth 100000 in
set_option maxHeartbeats 4000000 in
theorem s_X0_isFree : ∀ X : XCtx, XE X → X.2.2.1.1 = cX0_isFree → X.2.2.1.2.1 = 5 → X.2.2.1.2.2.1 = yX0_isFree.cls → X.2.2.1.2.2.2.1 = (some .boolean) → X.1.2.2.2.1 = { frames := 0, cells := 0, slots := 0, locals := 0 } → SndBs X bs_X0_isFree := by
  rintro ⟨⟨p, l, e, R, s⟩, Y, ⟨cc, nL, own, ret, Ts⟩, Z⟩ hE h1 h2 h3 h4 h5
  dsimp only at h1 h2 h3 h4 h5
  subst h1 h2 h3 h4 h5
  exact ⟨(n_sq (n_iconst hE (by decide) dX0_isFree_0) (n_sq (n_istore hE (show (4 : Nat) < 5 by decide) dX0_isFree_1) n_fall)),
    (n_sq (n_iload hE dX0_isFree_3) (n_sq (n_iload_n hE dX0_isFree_5) (n_ifcge hE (by decide) dX0_isFree_6))),
    (n_sq (n_aload_n hE dX0_isFree_9) (n_sq (n_getS hE xk_0 (k := 0) rfl (by decide) rfl wt_254 dX0_isFree_10) (n_sq (n_iload hE dX0_isFree_13) (n_sq (n_iald hE rfl (by decide) dX0_isFree_15) (n_sq (n_iload_n hE dX0_isFree_16) (n_ifcne hE (by decide) dX0_isFree_17)))))),
    (n_sq (n_aload_n hE dX0_isFree_20) (n_sq (n_getS hE xk_8 (k := 5) rfl (by decide) rfl wt_193 dX0_isFree_21) (n_sq (n_iload_n hE dX0_isFree_24) (n_sq (n_iald hE rfl (by decide) dX0_isFree_25) (n_sq (n_iload hE dX0_isFree_26) (n_sq (n_ishr hE dX0_isFree_28) (n_sq (n_iconst hE (by decide) dX0_isFree_29) (n_sq (n_iand hE dX0_isFree_30) (n_ifeq hE (by decide) dX0_isFree_31))))))))),
    (n_sq (n_iconst hE (by decide) dX0_isFree_34) (n_zreturn hE rfl dX0_isFree_35)),
    (n_sq (n_iinc hE (by decide) (show (4 : Nat) < 5 by decide) dX0_isFree_36) (n_goto hE (by decide) dX0_isFree_39)),
    (n_sq (n_iconst hE (by decide) dX0_isFree_42) (n_zreturn hE rfl dX0_isFree_43)), trivial⟩
noncomputable def F_X0_isFree (as : List XV) (w : XW) : Option (Int32 × XW) := (xF 5 bs_X0_isFree as w).bind pI
theorem m_X0_isFree : XM yX0_isFree cX0_isFree 5 (some .boolean) 0 0 (eI F_X0_isFree) := xm_I (xm_of (by decide) s_X0_isFree)
noncomputable def q_X0_isFree_0 (i1 : Nat) (x2 : Int32) (x3 : Int32) (w : XW) : Option XR := ev bs_X0_isFree 0 ([some (.inr (0, 0)), some (.inr (8, i1)), some (.inl (.int x2)), some (.inl (.int x3)), none], [], w)
noncomputable def q_X0_isFree_3 (i1 : Nat) (x2 : Int32) (x3 : Int32) (x4 : Int32) (w : XW) : Option XR := ev bs_X0_isFree 3 ([some (.inr (0, 0)), some (.inr (8, i1)), some (.inl (.int x2)), some (.inl (.int x3)), some (.inl (.int x4))], [], w)
noncomputable def q_X0_isFree_9 (i1 : Nat) (x2 : Int32) (x3 : Int32) (x4 : Int32) (w : XW) : Option XR := ev bs_X0_isFree 9 ([some (.inr (0, 0)), some (.inr (8, i1)), some (.inl (.int x2)), some (.inl (.int x3)), some (.inl (.int x4))], [], w)
noncomputable def q_X0_isFree_20 (i1 : Nat) (x2 : Int32) (x3 : Int32) (x4 : Int32) (w : XW) : Option XR := ev bs_X0_isFree 20 ([some (.inr (0, 0)), some (.inr (8, i1)), some (.inl (.int x2)), some (.inl (.int x3)), some (.inl (.int x4))], [], w)
noncomputable def q_X0_isFree_34 (w : XW) : Option XR := ev bs_X0_isFree 34 ([none, none, none, none, none], [], w)
noncomputable def q_X0_isFree_36 (i1 : Nat) (x2 : Int32) (x3 : Int32) (x4 : Int32) (w : XW) : Option XR := ev bs_X0_isFree 36 ([some (.inr (0, 0)), some (.inr (8, i1)), some (.inl (.int x2)), some (.inl (.int x3)), some (.inl (.int x4))], [], w)
noncomputable def q_X0_isFree_42 (w : XW) : Option XR := ev bs_X0_isFree 42 ([none, none, none, none, none], [], w)
theorem e_X0_isFree_0 (i1 : Nat) (x2 : Int32) (x3 : Int32) (w : XW) : q_X0_isFree_0 i1 x2 x3 w = (q_X0_isFree_3 i1 x2 x3 0 w) := (ev_eq _ _ _).trans rfl
theorem e_X0_isFree_3 (i1 : Nat) (x2 : Int32) (x3 : Int32) (x4 : Int32) (w : XW) : q_X0_isFree_3 i1 x2 x3 x4 w = (bif decide (x2 ≤ x4) then (q_X0_isFree_42 w) else (q_X0_isFree_9 i1 x2 x3 x4 w)) := (ev_eq _ _ _).trans rfl
theorem e_X0_isFree_9 (i1 : Nat) (x2 : Int32) (x3 : Int32) (x4 : Int32) (w : XW) : q_X0_isFree_9 i1 x2 x3 x4 w = (if x4 < 0 ∨ 6 ≤ x4.toNatClampNeg then none else (bif decide (¬ (gI w 12 0 x4.toNatClampNeg) = x3) then (q_X0_isFree_36 i1 x2 x3 x4 w) else (q_X0_isFree_20 i1 x2 x3 x4 w))) := (ev_eq _ _ _).trans rfl
theorem e_X0_isFree_20 (i1 : Nat) (x2 : Int32) (x3 : Int32) (x4 : Int32) (w : XW) : q_X0_isFree_20 i1 x2 x3 x4 w = (if x2 < 0 ∨ 6 ≤ x2.toNatClampNeg then none else (bif decide (((((gI w 33 i1 x2.toNatClampNeg) : Int32) >>> ((x4 : Int32) &&& 31)) &&& 1) = 0) then (q_X0_isFree_36 i1 x2 x3 x4 w) else (q_X0_isFree_34 w))) := (ev_eq _ _ _).trans rfl
theorem e_X0_isFree_34 (w : XW) : q_X0_isFree_34 w = (some (some (.inl (.int 0)), w)) := (ev_eq _ _ _).trans rfl
theorem e_X0_isFree_36 (i1 : Nat) (x2 : Int32) (x3 : Int32) (x4 : Int32) (w : XW) : q_X0_isFree_36 i1 x2 x3 x4 w = (q_X0_isFree_3 i1 x2 x3 (x4 + 1) w) := (ev_eq _ _ _).trans rfl
theorem e_X0_isFree_42 (w : XW) : q_X0_isFree_42 w = (some (some (.inl (.int 1)), w)) := (ev_eq _ _ _).trans rfl
theorem f_X0_isFree (i1 : Nat) (x2 : Int32) (x3 : Int32) (w : XW) : F_X0_isFree [.inr (0, 0), .inr (8, i1), .inl (.int x2), .inl (.int x3)] w = (q_X0_isFree_0 i1 x2 x3 w).bind pI := rfl

-- WinterKeep$Tape.begin()V
theorem dX10_begin_0 : decode cX10_begin 0 = .ok (.aload_n 0, 1) := by decide +kernel
theorem dX10_begin_1 : decode cX10_begin 1 = .ok (.iconst 0, 1) := by decide +kernel
theorem dX10_begin_2 : decode cX10_begin 2 = .ok (.putfield 19, 3) := by decide +kernel
theorem dX10_begin_5 : decode cX10_begin 5 = .ok (.aload_n 0, 1) := by decide +kernel
theorem dX10_begin_6 : decode cX10_begin 6 = .ok (.iconst 0, 1) := by decide +kernel
theorem dX10_begin_7 : decode cX10_begin 7 = .ok (.putfield 22, 3) := by decide +kernel
theorem dX10_begin_10 : decode cX10_begin 10 = .ok (.aload_n 0, 1) := by decide +kernel
theorem dX10_begin_11 : decode cX10_begin 11 = .ok (.iconst 0, 1) := by decide +kernel
theorem dX10_begin_12 : decode cX10_begin 12 = .ok (.putfield 28, 3) := by decide +kernel
theorem dX10_begin_15 : decode cX10_begin 15 = .ok (.return_, 1) := by decide +kernel
noncomputable def bs_X10_begin : List (Nat × XB) := [
  (0, (sq (xLA 0) (sq (xC (.int 0)) (sq (xPI 9 2) (sq (xLA 0) (sq (xC (.int 0)) (sq (xPI 9 3) (sq (xLA 0) (sq (xC (.int 0)) (sq (xPI 9 5) tRV))))))))))]
set_option maxRecDepth 100000 in
set_option maxHeartbeats 4000000 in
theorem s_X10_begin : ∀ X : XCtx, XE X → X.2.2.1.1 = cX10_begin → X.2.2.1.2.1 = 1 → X.2.2.1.2.2.1 = yX10_begin.cls → X.2.2.1.2.2.2.1 = none → X.1.2.2.2.1 = { frames := 0, cells := 0, slots := 0, locals := 0 } → SndBs X bs_X10_begin := by
  rintro ⟨⟨p, l, e, R, s⟩, Y, ⟨cc, nL, own, ret, Ts⟩, Z⟩ hE h1 h2 h3 h4 h5
  dsimp only at h1 h2 h3 h4 h5
  subst h1 h2 h3 h4 h5
  exact ⟨(n_sq (n_aload_n hE dX10_begin_0) (n_sq (n_iconst hE (by decide) dX10_begin_1) (n_sq (n_putI hE xk_9 (k := 2) rfl (by decide) rfl rfl (tyX10_ok 2 (by decide)) wt_39 dX10_begin_2) (n_sq (n_aload_n hE dX10_begin_5) (n_sq (n_iconst hE (by decide) dX10_begin_6) (n_sq (n_putI hE xk_9 (k := 3) rfl (by decide) rfl rfl (tyX10_ok 3 (by decide)) wt_42 dX10_begin_7) (n_sq (n_aload_n hE dX10_begin_10) (n_sq (n_iconst hE (by decide) dX10_begin_11) (n_sq (n_putI hE xk_9 (k := 5) rfl (by decide) rfl rfl (tyX10_ok 5 (by decide)) wt_48 dX10_begin_12) (n_vreturn hE rfl dX10_begin_15)))))))))), trivial⟩
noncomputable def F_X10_begin (as : List XV) (w : XW) : Option XW := (xF 1 bs_X10_begin as w).bind pV
theorem m_X10_begin : XM yX10_begin cX10_begin 1 none 0 0 (eV F_X10_begin) := xm_V (xm_of (by decide) s_X10_begin)
noncomputable def q_X10_begin_0 (w : XW) : Option XR := ev bs_X10_begin 0 ([some (.inr (9, 0))], [], w)
theorem e_X10_begin_0 (w : XW) : q_X10_begin_0 w = (some (none, sI (sI (sI w 9 0 2 0) 9 0 3 0) 9 0 5 0)) := (ev_eq _ _ _).trans rfl
theorem f_X10_begin (w : XW) : F_X10_begin [.inr (9, 0)] w = (q_X10_begin_0 w).bind pV := rfl

-- WinterKeep$DaleReader.hasRoomFor(LWinterKeep$Dale;I)Z
theorem dX2_hasRoomFor_0 : decode cX2_hasRoomFor 0 = .ok (.iload_n 1, 1) := by decide +kernel
theorem dX2_hasRoomFor_1 : decode cX2_hasRoomFor 1 = .ok (.tableswitch 70 1 3 #[27, 42, 56], 27) := by decide +kernel
theorem dX2_hasRoomFor_28 : decode cX2_hasRoomFor 28 = .ok (.aload_n 0, 1) := by decide +kernel
theorem dX2_hasRoomFor_29 : decode cX2_hasRoomFor 29 = .ok (.getfield 65, 3) := by decide +kernel
theorem dX2_hasRoomFor_32 : decode cX2_hasRoomFor 32 = .ok (.bipush 6, 2) := by decide +kernel
theorem dX2_hasRoomFor_34 : decode cX2_hasRoomFor 34 = .ok (.if_icmp .ge 7, 3) := by decide +kernel
theorem dX2_hasRoomFor_37 : decode cX2_hasRoomFor 37 = .ok (.iconst 1, 1) := by decide +kernel
theorem dX2_hasRoomFor_38 : decode cX2_hasRoomFor 38 = .ok (.goto 4, 3) := by decide +kernel
theorem dX2_hasRoomFor_41 : decode cX2_hasRoomFor 41 = .ok (.iconst 0, 1) := by decide +kernel
theorem dX2_hasRoomFor_42 : decode cX2_hasRoomFor 42 = .ok (.ireturn, 1) := by decide +kernel
theorem dX2_hasRoomFor_43 : decode cX2_hasRoomFor 43 = .ok (.aload_n 0, 1) := by decide +kernel
theorem dX2_hasRoomFor_44 : decode cX2_hasRoomFor 44 = .ok (.getfield 70, 3) := by decide +kernel
theorem dX2_hasRoomFor_47 : decode cX2_hasRoomFor 47 = .ok (.iconst 5, 1) := by decide +kernel
theorem dX2_hasRoomFor_48 : decode cX2_hasRoomFor 48 = .ok (.if_icmp .ge 7, 3) := by decide +kernel
theorem dX2_hasRoomFor_51 : decode cX2_hasRoomFor 51 = .ok (.iconst 1, 1) := by decide +kernel
theorem dX2_hasRoomFor_52 : decode cX2_hasRoomFor 52 = .ok (.goto 4, 3) := by decide +kernel
theorem dX2_hasRoomFor_55 : decode cX2_hasRoomFor 55 = .ok (.iconst 0, 1) := by decide +kernel
theorem dX2_hasRoomFor_56 : decode cX2_hasRoomFor 56 = .ok (.ireturn, 1) := by decide +kernel
theorem dX2_hasRoomFor_57 : decode cX2_hasRoomFor 57 = .ok (.aload_n 0, 1) := by decide +kernel
theorem dX2_hasRoomFor_58 : decode cX2_hasRoomFor 58 = .ok (.getfield 73, 3) := by decide +kernel
theorem dX2_hasRoomFor_61 : decode cX2_hasRoomFor 61 = .ok (.iconst 4, 1) := by decide +kernel
theorem dX2_hasRoomFor_62 : decode cX2_hasRoomFor 62 = .ok (.if_icmp .ge 7, 3) := by decide +kernel
theorem dX2_hasRoomFor_65 : decode cX2_hasRoomFor 65 = .ok (.iconst 1, 1) := by decide +kernel
theorem dX2_hasRoomFor_66 : decode cX2_hasRoomFor 66 = .ok (.goto 4, 3) := by decide +kernel
theorem dX2_hasRoomFor_69 : decode cX2_hasRoomFor 69 = .ok (.iconst 0, 1) := by decide +kernel
theorem dX2_hasRoomFor_70 : decode cX2_hasRoomFor 70 = .ok (.ireturn, 1) := by decide +kernel
theorem dX2_hasRoomFor_71 : decode cX2_hasRoomFor 71 = .ok (.iconst 1, 1) := by decide +kernel
theorem dX2_hasRoomFor_72 : decode cX2_hasRoomFor 72 = .ok (.ireturn, 1) := by decide +kernel
noncomputable def bs_X2_hasRoomFor : List (Nat × XB) := [
  (0, (sq (xLI 1) (tSw [(1, 28), (2, 43), (3, 57)] 71 [true, false]))),
  (28, (sq (xLA 0) (sq (xGI 1 3) (sq (xC (.int 6)) (tIf2 (fun x y => decide (y ≤ x)) 41 [false, false] 37 [false, false]))))),
  (37, (sq (xC (.int 1)) (tGo 42 [false, false]))),
  (41, (sq (xC (.int 0)) (tGo 42 [false, false]))),
  (42, tRZ),
  (43, (sq (xLA 0) (sq (xGI 1 4) (sq (xC (.int 5)) (tIf2 (fun x y => decide (y ≤ x)) 55 [false, false] 51 [false, false]))))),
  (51, (sq (xC (.int 1)) (tGo 56 [false, false]))),
  (55, (sq (xC (.int 0)) (tGo 56 [false, false]))),
  (56, tRZ),
  (57, (sq (xLA 0) (sq (xGI 1 5) (sq (xC (.int 4)) (tIf2 (fun x y => decide (y ≤ x)) 69 [false, false] 65 [false, false]))))),
  (65, (sq (xC (.int 1)) (tGo 70 [false, false]))),
  (69, (sq (xC (.int 0)) (tGo 70 [false, false]))),
  (70, tRZ),
  (71, (sq (xC (.int 1)) tRZ))]
set_option maxRecDepth 100000 in
set_option maxHeartbeats 4000000 in
theorem s_X2_hasRoomFor : ∀ X : XCtx, XE X → X.2.2.1.1 = cX2_hasRoomFor → X.2.2.1.2.1 = 2 → X.2.2.1.2.2.1 = yX2_hasRoomFor.cls → X.2.2.1.2.2.2.1 = (some .boolean) → X.1.2.2.2.1 = { frames := 0, cells := 0, slots := 0, locals := 0 } → SndBs X bs_X2_hasRoomFor := by
  rintro ⟨⟨p, l, e, R, s⟩, Y, ⟨cc, nL, own, ret, Ts⟩, Z⟩ hE h1 h2 h3 h4 h5
  dsimp only at h1 h2 h3 h4 h5
  subst h1 h2 h3 h4 h5
  exact ⟨(n_sq (n_iload_n hE dX2_hasRoomFor_0) (n_switch hE (lo32 := 1) (ts := [28, 43, 57]) (by decide) (by decide) (by decide) (by decide) (by decide) (by decide) dX2_hasRoomFor_1)),
    (n_sq (n_aload_n hE dX2_hasRoomFor_28) (n_sq (n_getI hE xk_1 (k := 3) rfl (by decide) rfl wt_108 dX2_hasRoomFor_29) (n_sq (n_bipush hE (by decide) dX2_hasRoomFor_32) (n_ifcge hE (by decide) dX2_hasRoomFor_34)))),
    (n_sq (n_iconst hE (by decide) dX2_hasRoomFor_37) (n_goto hE (by decide) dX2_hasRoomFor_38)),
    (n_sq (n_iconst hE (by decide) dX2_hasRoomFor_41) n_fall),
    (n_zreturn hE rfl dX2_hasRoomFor_42),
    (n_sq (n_aload_n hE dX2_hasRoomFor_43) (n_sq (n_getI hE xk_1 (k := 4) rfl (by decide) rfl wt_113 dX2_hasRoomFor_44) (n_sq (n_iconst hE (by decide) dX2_hasRoomFor_47) (n_ifcge hE (by decide) dX2_hasRoomFor_48)))),
    (n_sq (n_iconst hE (by decide) dX2_hasRoomFor_51) (n_goto hE (by decide) dX2_hasRoomFor_52)),
    (n_sq (n_iconst hE (by decide) dX2_hasRoomFor_55) n_fall),
    (n_zreturn hE rfl dX2_hasRoomFor_56),
    (n_sq (n_aload_n hE dX2_hasRoomFor_57) (n_sq (n_getI hE xk_1 (k := 5) rfl (by decide) rfl wt_117 dX2_hasRoomFor_58) (n_sq (n_iconst hE (by decide) dX2_hasRoomFor_61) (n_ifcge hE (by decide) dX2_hasRoomFor_62)))),
    (n_sq (n_iconst hE (by decide) dX2_hasRoomFor_65) (n_goto hE (by decide) dX2_hasRoomFor_66)),
    (n_sq (n_iconst hE (by decide) dX2_hasRoomFor_69) n_fall),
    (n_zreturn hE rfl dX2_hasRoomFor_70),
    (n_sq (n_iconst hE (by decide) dX2_hasRoomFor_71) (n_zreturn hE rfl dX2_hasRoomFor_72)), trivial⟩
noncomputable def F_X2_hasRoomFor (as : List XV) (w : XW) : Option (Int32 × XW) := (xF 2 bs_X2_hasRoomFor as w).bind pI
theorem m_X2_hasRoomFor : XM yX2_hasRoomFor cX2_hasRoomFor 2 (some .boolean) 0 0 (eI F_X2_hasRoomFor) := xm_I (xm_of (by decide) s_X2_hasRoomFor)
noncomputable def q_X2_hasRoomFor_0 (i0 : Nat) (x1 : Int32) (w : XW) : Option XR := ev bs_X2_hasRoomFor 0 ([some (.inr (1, i0)), some (.inl (.int x1))], [], w)
noncomputable def q_X2_hasRoomFor_28 (i0 : Nat) (w : XW) : Option XR := ev bs_X2_hasRoomFor 28 ([some (.inr (1, i0)), none], [], w)
noncomputable def q_X2_hasRoomFor_37 (w : XW) : Option XR := ev bs_X2_hasRoomFor 37 ([none, none], [], w)
noncomputable def q_X2_hasRoomFor_41 (w : XW) : Option XR := ev bs_X2_hasRoomFor 41 ([none, none], [], w)
noncomputable def q_X2_hasRoomFor_42 (s0 : Int32) (w : XW) : Option XR := ev bs_X2_hasRoomFor 42 ([none, none], [.inl (.int s0)], w)
noncomputable def q_X2_hasRoomFor_43 (i0 : Nat) (w : XW) : Option XR := ev bs_X2_hasRoomFor 43 ([some (.inr (1, i0)), none], [], w)
noncomputable def q_X2_hasRoomFor_51 (w : XW) : Option XR := ev bs_X2_hasRoomFor 51 ([none, none], [], w)
noncomputable def q_X2_hasRoomFor_55 (w : XW) : Option XR := ev bs_X2_hasRoomFor 55 ([none, none], [], w)
noncomputable def q_X2_hasRoomFor_56 (s0 : Int32) (w : XW) : Option XR := ev bs_X2_hasRoomFor 56 ([none, none], [.inl (.int s0)], w)
noncomputable def q_X2_hasRoomFor_57 (i0 : Nat) (w : XW) : Option XR := ev bs_X2_hasRoomFor 57 ([some (.inr (1, i0)), none], [], w)
noncomputable def q_X2_hasRoomFor_65 (w : XW) : Option XR := ev bs_X2_hasRoomFor 65 ([none, none], [], w)
noncomputable def q_X2_hasRoomFor_69 (w : XW) : Option XR := ev bs_X2_hasRoomFor 69 ([none, none], [], w)
noncomputable def q_X2_hasRoomFor_70 (s0 : Int32) (w : XW) : Option XR := ev bs_X2_hasRoomFor 70 ([none, none], [.inl (.int s0)], w)
noncomputable def q_X2_hasRoomFor_71 (i0 : Nat) (w : XW) : Option XR := ev bs_X2_hasRoomFor 71 ([some (.inr (1, i0)), none], [], w)
theorem e_X2_hasRoomFor_0 (i0 : Nat) (x1 : Int32) (w : XW) : q_X2_hasRoomFor_0 i0 x1 w = (bif x1 == 1 then (q_X2_hasRoomFor_28 i0 w) else (bif x1 == 2 then (q_X2_hasRoomFor_43 i0 w) else (bif x1 == 3 then (q_X2_hasRoomFor_57 i0 w) else (q_X2_hasRoomFor_71 i0 w)))) := (ev_eq _ _ _).trans rfl
theorem e_X2_hasRoomFor_28 (i0 : Nat) (w : XW) : q_X2_hasRoomFor_28 i0 w = (bif decide (6 ≤ (gI w 1 i0 3)) then (q_X2_hasRoomFor_41 w) else (q_X2_hasRoomFor_37 w)) := (ev_eq _ _ _).trans rfl
theorem e_X2_hasRoomFor_37 (w : XW) : q_X2_hasRoomFor_37 w = (q_X2_hasRoomFor_42 1 w) := (ev_eq _ _ _).trans rfl
theorem e_X2_hasRoomFor_41 (w : XW) : q_X2_hasRoomFor_41 w = (q_X2_hasRoomFor_42 0 w) := (ev_eq _ _ _).trans rfl
theorem e_X2_hasRoomFor_42 (s0 : Int32) (w : XW) : q_X2_hasRoomFor_42 s0 w = (if s0 = 0 ∨ s0 = 1 then some (some (.inl (.int s0)), w) else none) := (ev_eq _ _ _).trans rfl
theorem e_X2_hasRoomFor_43 (i0 : Nat) (w : XW) : q_X2_hasRoomFor_43 i0 w = (bif decide (5 ≤ (gI w 1 i0 4)) then (q_X2_hasRoomFor_55 w) else (q_X2_hasRoomFor_51 w)) := (ev_eq _ _ _).trans rfl
theorem e_X2_hasRoomFor_51 (w : XW) : q_X2_hasRoomFor_51 w = (q_X2_hasRoomFor_56 1 w) := (ev_eq _ _ _).trans rfl
theorem e_X2_hasRoomFor_55 (w : XW) : q_X2_hasRoomFor_55 w = (q_X2_hasRoomFor_56 0 w) := (ev_eq _ _ _).trans rfl
theorem e_X2_hasRoomFor_56 (s0 : Int32) (w : XW) : q_X2_hasRoomFor_56 s0 w = (if s0 = 0 ∨ s0 = 1 then some (some (.inl (.int s0)), w) else none) := (ev_eq _ _ _).trans rfl
theorem e_X2_hasRoomFor_57 (i0 : Nat) (w : XW) : q_X2_hasRoomFor_57 i0 w = (bif decide (4 ≤ (gI w 1 i0 5)) then (q_X2_hasRoomFor_69 w) else (q_X2_hasRoomFor_65 w)) := (ev_eq _ _ _).trans rfl
theorem e_X2_hasRoomFor_65 (w : XW) : q_X2_hasRoomFor_65 w = (q_X2_hasRoomFor_70 1 w) := (ev_eq _ _ _).trans rfl
theorem e_X2_hasRoomFor_69 (w : XW) : q_X2_hasRoomFor_69 w = (q_X2_hasRoomFor_70 0 w) := (ev_eq _ _ _).trans rfl
theorem e_X2_hasRoomFor_70 (s0 : Int32) (w : XW) : q_X2_hasRoomFor_70 s0 w = (if s0 = 0 ∨ s0 = 1 then some (some (.inl (.int s0)), w) else none) := (ev_eq _ _ _).trans rfl
theorem e_X2_hasRoomFor_71 (i0 : Nat) (w : XW) : q_X2_hasRoomFor_71 i0 w = (some (some (.inl (.int 1)), w)) := (ev_eq _ _ _).trans rfl
theorem f_X2_hasRoomFor (i0 : Nat) (x1 : Int32) (w : XW) : F_X2_hasRoomFor [.inr (1, i0), .inl (.int x1)] w = (q_X2_hasRoomFor_0 i0 x1 w).bind pI := rfl

-- WinterKeep$Tape.byteAt(I)I
theorem dX10_byteAt_0 : decode cX10_byteAt 0 = .ok (.iload_n 1, 1) := by decide +kernel
theorem dX10_byteAt_1 : decode cX10_byteAt 1 = .ok (.ifCond .lt 27, 3) := by decide +kernel
theorem dX10_byteAt_4 : decode cX10_byteAt 4 = .ok (.iload_n 1, 1) := by decide +kernel
theorem dX10_byteAt_5 : decode cX10_byteAt 5 = .ok (.aload_n 0, 1) := by decide +kernel
theorem dX10_byteAt_6 : decode cX10_byteAt 6 = .ok (.getfield 15, 3) := by decide +kernel
theorem dX10_byteAt_9 : decode cX10_byteAt 9 = .ok (.if_icmp .ge 19, 3) := by decide +kernel
theorem dX10_byteAt_12 : decode cX10_byteAt 12 = .ok (.iload_n 1, 1) := by decide +kernel
theorem dX10_byteAt_13 : decode cX10_byteAt 13 = .ok (.sipush 400, 3) := by decide +kernel
theorem dX10_byteAt_16 : decode cX10_byteAt 16 = .ok (.if_icmp .ge 12, 3) := by decide +kernel
theorem dX10_byteAt_19 : decode cX10_byteAt 19 = .ok (.aload_n 0, 1) := by decide +kernel
theorem dX10_byteAt_20 : decode cX10_byteAt 20 = .ok (.getfield 9, 3) := by decide +kernel
theorem dX10_byteAt_23 : decode cX10_byteAt 23 = .ok (.iload_n 1, 1) := by decide +kernel
theorem dX10_byteAt_24 : decode cX10_byteAt 24 = .ok (.iaload, 1) := by decide +kernel
theorem dX10_byteAt_25 : decode cX10_byteAt 25 = .ok (.goto 4, 3) := by decide +kernel
theorem dX10_byteAt_28 : decode cX10_byteAt 28 = .ok (.iconst (-1), 1) := by decide +kernel
theorem dX10_byteAt_29 : decode cX10_byteAt 29 = .ok (.ireturn, 1) := by decide +kernel
noncomputable def bs_X10_byteAt : List (Nat × XB) := [
  (0, (sq (xLI 1) (tIf1 (fun x => decide (x < 0)) 28 [false, false] 4 [true, true]))),
  (4, (sq (xLI 1) (sq (xLA 0) (sq (xGI 9 1) (tIf2 (fun x y => decide (y ≤ x)) 28 [false, false] 12 [true, true]))))),
  (12, (sq (xLI 1) (sq (xC (.int 400)) (tIf2 (fun x y => decide (y ≤ x)) 28 [false, false] 19 [true, true])))),
  (19, (sq (xLA 0) (sq (xGS 9 34 0 0) (sq (xLI 1) (sq (xAI 34 400) (tGo 29 [false, false])))))),
  (28, (sq (xC (.int (-1))) (tGo 29 [false, false]))),
  (29, tRI)]
set_option maxRecDepth 100000 in
set_option maxHeartbeats 4000000 in
theorem s_X10_byteAt : ∀ X : XCtx, XE X → X.2.2.1.1 = cX10_byteAt → X.2.2.1.2.1 = 2 → X.2.2.1.2.2.1 = yX10_byteAt.cls → X.2.2.1.2.2.2.1 = (some .int) → X.1.2.2.2.1 = { frames := 0, cells := 0, slots := 0, locals := 0 } → SndBs X bs_X10_byteAt := by
  rintro ⟨⟨p, l, e, R, s⟩, Y, ⟨cc, nL, own, ret, Ts⟩, Z⟩ hE h1 h2 h3 h4 h5
  dsimp only at h1 h2 h3 h4 h5
  subst h1 h2 h3 h4 h5
  exact ⟨(n_sq (n_iload_n hE dX10_byteAt_0) (n_iflt hE (by decide) dX10_byteAt_1)),
    (n_sq (n_iload_n hE dX10_byteAt_4) (n_sq (n_aload_n hE dX10_byteAt_5) (n_sq (n_getI hE xk_9 (k := 1) rfl (by decide) rfl wt_37 dX10_byteAt_6) (n_ifcge hE (by decide) dX10_byteAt_9)))),
    (n_sq (n_iload_n hE dX10_byteAt_12) (n_sq (n_sipush hE (by decide) dX10_byteAt_13) (n_ifcge hE (by decide) dX10_byteAt_16))),
    (n_sq (n_aload_n hE dX10_byteAt_19) (n_sq (n_getS hE xk_9 (k := 0) rfl (by decide) rfl wt_36 dX10_byteAt_20) (n_sq (n_iload_n hE dX10_byteAt_23) (n_sq (n_iald hE rfl (by decide) dX10_byteAt_24) (n_goto hE (by decide) dX10_byteAt_25))))),
    (n_sq (n_iconst hE (by decide) dX10_byteAt_28) n_fall),
    (n_ireturn hE rfl dX10_byteAt_29), trivial⟩
noncomputable def F_X10_byteAt (as : List XV) (w : XW) : Option (Int32 × XW) := (xF 2 bs_X10_byteAt as w).bind pI
theorem m_X10_byteAt : XM yX10_byteAt cX10_byteAt 2 (some .int) 0 0 (eI F_X10_byteAt) := xm_I (xm_of (by decide) s_X10_byteAt)
noncomputable def q_X10_byteAt_0 (x1 : Int32) (w : XW) : Option XR := ev bs_X10_byteAt 0 ([some (.inr (9, 0)), some (.inl (.int x1))], [], w)
noncomputable def q_X10_byteAt_4 (x1 : Int32) (w : XW) : Option XR := ev bs_X10_byteAt 4 ([some (.inr (9, 0)), some (.inl (.int x1))], [], w)
noncomputable def q_X10_byteAt_12 (x1 : Int32) (w : XW) : Option XR := ev bs_X10_byteAt 12 ([some (.inr (9, 0)), some (.inl (.int x1))], [], w)
noncomputable def q_X10_byteAt_19 (x1 : Int32) (w : XW) : Option XR := ev bs_X10_byteAt 19 ([some (.inr (9, 0)), some (.inl (.int x1))], [], w)
noncomputable def q_X10_byteAt_28 (w : XW) : Option XR := ev bs_X10_byteAt 28 ([none, none], [], w)
noncomputable def q_X10_byteAt_29 (s0 : Int32) (w : XW) : Option XR := ev bs_X10_byteAt 29 ([none, none], [.inl (.int s0)], w)
theorem e_X10_byteAt_0 (x1 : Int32) (w : XW) : q_X10_byteAt_0 x1 w = (bif decide (x1 < 0) then (q_X10_byteAt_28 w) else (q_X10_byteAt_4 x1 w)) := (ev_eq _ _ _).trans rfl
theorem e_X10_byteAt_4 (x1 : Int32) (w : XW) : q_X10_byteAt_4 x1 w = (bif decide ((gI w 9 0 1) ≤ x1) then (q_X10_byteAt_28 w) else (q_X10_byteAt_12 x1 w)) := (ev_eq _ _ _).trans rfl
theorem e_X10_byteAt_12 (x1 : Int32) (w : XW) : q_X10_byteAt_12 x1 w = (bif decide (400 ≤ x1) then (q_X10_byteAt_28 w) else (q_X10_byteAt_19 x1 w)) := (ev_eq _ _ _).trans rfl
theorem e_X10_byteAt_19 (x1 : Int32) (w : XW) : q_X10_byteAt_19 x1 w = (if x1 < 0 ∨ 400 ≤ x1.toNatClampNeg then none else (q_X10_byteAt_29 (gI w 34 0 x1.toNatClampNeg) w)) := (ev_eq _ _ _).trans rfl
theorem e_X10_byteAt_28 (w : XW) : q_X10_byteAt_28 w = (q_X10_byteAt_29 (-1) w) := (ev_eq _ _ _).trans rfl
theorem e_X10_byteAt_29 (s0 : Int32) (w : XW) : q_X10_byteAt_29 s0 w = (some (some (.inl (.int s0)), w)) := (ev_eq _ _ _).trans rfl
theorem f_X10_byteAt (x1 : Int32) (w : XW) : F_X10_byteAt [.inr (9, 0), .inl (.int x1)] w = (q_X10_byteAt_0 x1 w).bind pI := rfl

-- WinterKeep$Tape.sign()I
theorem dX10_sign_0 : decode cX10_sign 0 = .ok (.aload_n 0, 1) := by decide +kernel
theorem dX10_sign_1 : decode cX10_sign 1 = .ok (.getfield 19, 3) := by decide +kernel
theorem dX10_sign_4 : decode cX10_sign 4 = .ok (.aload_n 0, 1) := by decide +kernel
theorem dX10_sign_5 : decode cX10_sign 5 = .ok (.getfield 15, 3) := by decide +kernel
theorem dX10_sign_8 : decode cX10_sign 8 = .ok (.if_icmp .ge 29, 3) := by decide +kernel
theorem dX10_sign_11 : decode cX10_sign 11 = .ok (.aload_n 0, 1) := by decide +kernel
theorem dX10_sign_12 : decode cX10_sign 12 = .ok (.aload_n 0, 1) := by decide +kernel
theorem dX10_sign_13 : decode cX10_sign 13 = .ok (.getfield 19, 3) := by decide +kernel
theorem dX10_sign_16 : decode cX10_sign 16 = .ok (.invokevirtual 31, 3) := by decide +kernel
theorem dX10_sign_19 : decode cX10_sign 19 = .ok (.bipush 32, 2) := by decide +kernel
theorem dX10_sign_21 : decode cX10_sign 21 = .ok (.if_icmp .ne 16, 3) := by decide +kernel
theorem dX10_sign_24 : decode cX10_sign 24 = .ok (.aload_n 0, 1) := by decide +kernel
theorem dX10_sign_25 : decode cX10_sign 25 = .ok (.dup, 1) := by decide +kernel
theorem dX10_sign_26 : decode cX10_sign 26 = .ok (.getfield 19, 3) := by decide +kernel
theorem dX10_sign_29 : decode cX10_sign 29 = .ok (.iconst 1, 1) := by decide +kernel
theorem dX10_sign_30 : decode cX10_sign 30 = .ok (.iadd, 1) := by decide +kernel
theorem dX10_sign_31 : decode cX10_sign 31 = .ok (.putfield 19, 3) := by decide +kernel
theorem dX10_sign_34 : decode cX10_sign 34 = .ok (.goto (-34), 3) := by decide +kernel
theorem dX10_sign_37 : decode cX10_sign 37 = .ok (.aload_n 0, 1) := by decide +kernel
theorem dX10_sign_38 : decode cX10_sign 38 = .ok (.aload_n 0, 1) := by decide +kernel
theorem dX10_sign_39 : decode cX10_sign 39 = .ok (.getfield 19, 3) := by decide +kernel
theorem dX10_sign_42 : decode cX10_sign 42 = .ok (.invokevirtual 31, 3) := by decide +kernel
theorem dX10_sign_45 : decode cX10_sign 45 = .ok (.ireturn, 1) := by decide +kernel
theorem vc_X10_31 : XVw RX10 31 1 9 2 yX10_byteAt cX10_byteAt (some .int) := ⟨RX10, TX10, tyX10, 6, xk_9, rfl, ⟨by decide, by decide⟩, by decide +kernel, wt_412, wt_413, wt_414, wt_2, wt_415⟩
noncomputable def bs_X10_sign : List (Nat × XB) := [
  (0, (sq (xLA 0) (sq (xGI 9 2) (sq (xLA 0) (sq (xGI 9 1) (tIf2 (fun x y => decide (y ≤ x)) 37 [true] 11 [true])))))),
  (11, (sq (xLA 0) (sq (xLA 0) (sq (xGI 9 2) (sq (xCI 9 2 F_X10_byteAt) (sq (xC (.int 32)) (tIf2 (fun x y => decide (¬ x = y)) 37 [true] 24 [true]))))))),
  (24, (sq (xLA 0) (sq (xDup) (sq (xGI 9 2) (sq (xC (.int 1)) (sq (xI2 (· + ·)) (sq (xPI 9 2) (tGo 0 [true])))))))),
  (37, (sq (xLA 0) (sq (xLA 0) (sq (xGI 9 2) (sq (xCI 9 2 F_X10_byteAt) tRI)))))]
set_option maxRecDepth 100000 in
set_option maxHeartbeats 4000000 in
theorem s_X10_sign : ∀ X : XCtx, XE X → X.2.2.1.1 = cX10_sign → X.2.2.1.2.1 = 1 → X.2.2.1.2.2.1 = yX10_sign.cls → X.2.2.1.2.2.2.1 = (some .int) → X.1.2.2.2.1 = { frames := 1, cells := 0, slots := 0, locals := 21 } → SndBs X bs_X10_sign := by
  rintro ⟨⟨p, l, e, R, s⟩, Y, ⟨cc, nL, own, ret, Ts⟩, Z⟩ hE h1 h2 h3 h4 h5
  dsimp only at h1 h2 h3 h4 h5
  subst h1 h2 h3 h4 h5
  exact ⟨(n_sq (n_aload_n hE dX10_sign_0) (n_sq (n_getI hE xk_9 (k := 2) rfl (by decide) rfl wt_39 dX10_sign_1) (n_sq (n_aload_n hE dX10_sign_4) (n_sq (n_getI hE xk_9 (k := 1) rfl (by decide) rfl wt_37 dX10_sign_5) (n_ifcge hE (by decide) dX10_sign_8))))),
    (n_sq (n_aload_n hE dX10_sign_11) (n_sq (n_aload_n hE dX10_sign_12) (n_sq (n_getI hE xk_9 (k := 2) rfl (by decide) rfl wt_39 dX10_sign_13) (n_sq (n_cIv hE m_X10_byteAt vc_X10_31 (show 0 + 1 ≤ 1 ∧ 8 + (2 + 11) + 0 ≤ 21 by decide) dX10_sign_16) (n_sq (n_bipush hE (by decide) dX10_sign_19) (n_ifcne hE (by decide) dX10_sign_21)))))),
    (n_sq (n_aload_n hE dX10_sign_24) (n_sq (n_dup hE dX10_sign_25) (n_sq (n_getI hE xk_9 (k := 2) rfl (by decide) rfl wt_39 dX10_sign_26) (n_sq (n_iconst hE (by decide) dX10_sign_29) (n_sq (n_iadd hE dX10_sign_30) (n_sq (n_putI hE xk_9 (k := 2) rfl (by decide) rfl rfl (tyX10_ok 2 (by decide)) wt_39 dX10_sign_31) (n_goto hE (by decide) dX10_sign_34))))))),
    (n_sq (n_aload_n hE dX10_sign_37) (n_sq (n_aload_n hE dX10_sign_38) (n_sq (n_getI hE xk_9 (k := 2) rfl (by decide) rfl wt_39 dX10_sign_39) (n_sq (n_cIv hE m_X10_byteAt vc_X10_31 (show 0 + 1 ≤ 1 ∧ 8 + (2 + 11) + 0 ≤ 21 by decide) dX10_sign_42) (n_ireturn hE rfl dX10_sign_45))))), trivial⟩
noncomputable def F_X10_sign (as : List XV) (w : XW) : Option (Int32 × XW) := (xF 1 bs_X10_sign as w).bind pI
theorem m_X10_sign : XM yX10_sign cX10_sign 1 (some .int) 1 21 (eI F_X10_sign) := xm_I (xm_of (by decide) s_X10_sign)
noncomputable def q_X10_sign_0 (w : XW) : Option XR := ev bs_X10_sign 0 ([some (.inr (9, 0))], [], w)
noncomputable def q_X10_sign_11 (w : XW) : Option XR := ev bs_X10_sign 11 ([some (.inr (9, 0))], [], w)
noncomputable def q_X10_sign_24 (w : XW) : Option XR := ev bs_X10_sign 24 ([some (.inr (9, 0))], [], w)
noncomputable def q_X10_sign_37 (w : XW) : Option XR := ev bs_X10_sign 37 ([some (.inr (9, 0))], [], w)
theorem e_X10_sign_0 (w : XW) : q_X10_sign_0 w = (bif decide ((gI w 9 0 1) ≤ (gI w 9 0 2)) then (q_X10_sign_37 w) else (q_X10_sign_11 w)) := (ev_eq _ _ _).trans rfl
theorem e_X10_sign_11 (w : XW) : q_X10_sign_11 w = ((F_X10_byteAt [.inr (9, 0), .inl (.int (gI w 9 0 2))] w).bind fun r0 => (bif decide (¬ r0.1 = 32) then (q_X10_sign_37 r0.2) else (q_X10_sign_24 r0.2))) := (ev_eq _ _ _).trans rfl
theorem e_X10_sign_24 (w : XW) : q_X10_sign_24 w = (q_X10_sign_0 (sI w 9 0 2 ((gI w 9 0 2) + 1))) := (ev_eq _ _ _).trans rfl
theorem e_X10_sign_37 (w : XW) : q_X10_sign_37 w = ((F_X10_byteAt [.inr (9, 0), .inl (.int (gI w 9 0 2))] w).bind fun r0 => (some (some (.inl (.int r0.1)), r0.2))) := (ev_eq _ _ _).trans rfl
theorem f_X10_sign (w : XW) : F_X10_sign [.inr (9, 0)] w = (q_X10_sign_0 w).bind pI := rfl

-- WinterKeep$Tape.fail(II)Z
theorem dX10_fail_0 : decode cX10_fail 0 = .ok (.aload_n 0, 1) := by decide +kernel
theorem dX10_fail_1 : decode cX10_fail 1 = .ok (.iconst 1, 1) := by decide +kernel
theorem dX10_fail_2 : decode cX10_fail 2 = .ok (.bipush 8, 2) := by decide +kernel
theorem dX10_fail_4 : decode cX10_fail 4 = .ok (.iload_n 1, 1) := by decide +kernel
theorem dX10_fail_5 : decode cX10_fail 5 = .ok (.imul, 1) := by decide +kernel
theorem dX10_fail_6 : decode cX10_fail 6 = .ok (.iadd, 1) := by decide +kernel
theorem dX10_fail_7 : decode cX10_fail 7 = .ok (.iload_n 2, 1) := by decide +kernel
theorem dX10_fail_8 : decode cX10_fail 8 = .ok (.iadd, 1) := by decide +kernel
theorem dX10_fail_9 : decode cX10_fail 9 = .ok (.putfield 28, 3) := by decide +kernel
theorem dX10_fail_12 : decode cX10_fail 12 = .ok (.iconst 0, 1) := by decide +kernel
theorem dX10_fail_13 : decode cX10_fail 13 = .ok (.ireturn, 1) := by decide +kernel
noncomputable def bs_X10_fail : List (Nat × XB) := [
  (0, (sq (xLA 0) (sq (xC (.int 1)) (sq (xC (.int 8)) (sq (xLI 1) (sq (xI2 (· * ·)) (sq (xI2 (· + ·)) (sq (xLI 2) (sq (xI2 (· + ·)) (sq (xPI 9 5) (sq (xC (.int 0)) tRZ)))))))))))]
set_option maxRecDepth 100000 in
set_option maxHeartbeats 4000000 in
theorem s_X10_fail : ∀ X : XCtx, XE X → X.2.2.1.1 = cX10_fail → X.2.2.1.2.1 = 3 → X.2.2.1.2.2.1 = yX10_fail.cls → X.2.2.1.2.2.2.1 = (some .boolean) → X.1.2.2.2.1 = { frames := 0, cells := 0, slots := 0, locals := 0 } → SndBs X bs_X10_fail := by
  rintro ⟨⟨p, l, e, R, s⟩, Y, ⟨cc, nL, own, ret, Ts⟩, Z⟩ hE h1 h2 h3 h4 h5
  dsimp only at h1 h2 h3 h4 h5
  subst h1 h2 h3 h4 h5
  exact ⟨(n_sq (n_aload_n hE dX10_fail_0) (n_sq (n_iconst hE (by decide) dX10_fail_1) (n_sq (n_bipush hE (by decide) dX10_fail_2) (n_sq (n_iload_n hE dX10_fail_4) (n_sq (n_imul hE dX10_fail_5) (n_sq (n_iadd hE dX10_fail_6) (n_sq (n_iload_n hE dX10_fail_7) (n_sq (n_iadd hE dX10_fail_8) (n_sq (n_putI hE xk_9 (k := 5) rfl (by decide) rfl rfl (tyX10_ok 5 (by decide)) wt_48 dX10_fail_9) (n_sq (n_iconst hE (by decide) dX10_fail_12) (n_zreturn hE rfl dX10_fail_13))))))))))), trivial⟩
noncomputable def F_X10_fail (as : List XV) (w : XW) : Option (Int32 × XW) := (xF 3 bs_X10_fail as w).bind pI
theorem m_X10_fail : XM yX10_fail cX10_fail 3 (some .boolean) 0 0 (eI F_X10_fail) := xm_I (xm_of (by decide) s_X10_fail)
noncomputable def q_X10_fail_0 (x1 : Int32) (x2 : Int32) (w : XW) : Option XR := ev bs_X10_fail 0 ([some (.inr (9, 0)), some (.inl (.int x1)), some (.inl (.int x2))], [], w)
theorem e_X10_fail_0 (x1 : Int32) (x2 : Int32) (w : XW) : q_X10_fail_0 x1 x2 w = (some (some (.inl (.int 0)), sI w 9 0 5 ((1 + (8 * x1)) + x2))) := (ev_eq _ _ _).trans rfl
theorem f_X10_fail (x1 : Int32) (x2 : Int32) (w : XW) : F_X10_fail [.inr (9, 0), .inl (.int x1), .inl (.int x2)] w = (q_X10_fail_0 x1 x2 w).bind pI := rfl
