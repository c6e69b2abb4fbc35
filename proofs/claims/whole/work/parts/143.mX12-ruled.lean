-- WinterKeepModel.ruled(I)I
theorem dX12_ruled_0 : decode cX12_ruled 0 = .ok (.aload_n 0, 1) := by decide +kernel
theorem dX12_ruled_1 : decode cX12_ruled 1 = .ok (.invokevirtual 369, 3) := by decide +kernel
theorem dX12_ruled_4 : decode cX12_ruled 4 = .ok (.ifCond .eq 13, 3) := by decide +kernel
theorem dX12_ruled_7 : decode cX12_ruled 7 = .ok (.iload_n 1, 1) := by decide +kernel
theorem dX12_ruled_8 : decode cX12_ruled 8 = .ok (.i2l, 1) := by decide +kernel
theorem dX12_ruled_9 : decode cX12_ruled 9 = .ok (.lconst 0, 1) := by decide +kernel
theorem dX12_ruled_10 : decode cX12_ruled 10 = .ok (.lconst 1, 1) := by decide +kernel
theorem dX12_ruled_11 : decode cX12_ruled 11 = .ok (.invokestatic 133, 3) := by decide +kernel
theorem dX12_ruled_14 : decode cX12_ruled 14 = .ok (.ifCond .ne 6, 3) := by decide +kernel
theorem dX12_ruled_17 : decode cX12_ruled 17 = .ok (.bipush (-3), 2) := by decide +kernel
theorem dX12_ruled_19 : decode cX12_ruled 19 = .ok (.ireturn, 1) := by decide +kernel
theorem dX12_ruled_20 : decode cX12_ruled 20 = .ok (.aload_n 0, 1) := by decide +kernel
theorem dX12_ruled_21 : decode cX12_ruled 21 = .ok (.iconst 0, 1) := by decide +kernel
theorem dX12_ruled_22 : decode cX12_ruled 22 = .ok (.invokevirtual 446, 3) := by decide +kernel
theorem dX12_ruled_25 : decode cX12_ruled 25 = .ok (.iconst 0, 1) := by decide +kernel
theorem dX12_ruled_26 : decode cX12_ruled 26 = .ok (.istore_n 2, 1) := by decide +kernel
theorem dX12_ruled_27 : decode cX12_ruled 27 = .ok (.bipush (-2), 2) := by decide +kernel
theorem dX12_ruled_29 : decode cX12_ruled 29 = .ok (.istore_n 3, 1) := by decide +kernel
theorem dX12_ruled_30 : decode cX12_ruled 30 = .ok (.aload_n 0, 1) := by decide +kernel
theorem dX12_ruled_31 : decode cX12_ruled 31 = .ok (.getfield 271, 3) := by decide +kernel
theorem dX12_ruled_34 : decode cX12_ruled 34 = .ok (.istore 4, 2) := by decide +kernel
theorem dX12_ruled_36 : decode cX12_ruled 36 = .ok (.iload 4, 2) := by decide +kernel
theorem dX12_ruled_38 : decode cX12_ruled 38 = .ok (.ifCond .lt 30, 3) := by decide +kernel
theorem dX12_ruled_41 : decode cX12_ruled 41 = .ok (.aload_n 0, 1) := by decide +kernel
theorem dX12_ruled_42 : decode cX12_ruled 42 = .ok (.getfield 73, 3) := by decide +kernel
theorem dX12_ruled_45 : decode cX12_ruled 45 = .ok (.iload 4, 2) := by decide +kernel
theorem dX12_ruled_47 : decode cX12_ruled 47 = .ok (.baload, 1) := by decide +kernel
theorem dX12_ruled_48 : decode cX12_ruled 48 = .ok (.ifCond .ne 6, 3) := by decide +kernel
theorem dX12_ruled_51 : decode cX12_ruled 51 = .ok (.goto 11, 3) := by decide +kernel
theorem dX12_ruled_54 : decode cX12_ruled 54 = .ok (.iload 4, 2) := by decide +kernel
theorem dX12_ruled_56 : decode cX12_ruled 56 = .ok (.iconst 1, 1) := by decide +kernel
theorem dX12_ruled_57 : decode cX12_ruled 57 = .ok (.isub, 1) := by decide +kernel
theorem dX12_ruled_58 : decode cX12_ruled 58 = .ok (.istore_n 3, 1) := by decide +kernel
theorem dX12_ruled_59 : decode cX12_ruled 59 = .ok (.iinc 2 1, 3) := by decide +kernel
theorem dX12_ruled_62 : decode cX12_ruled 62 = .ok (.iinc 4 (-1), 3) := by decide +kernel
theorem dX12_ruled_65 : decode cX12_ruled 65 = .ok (.goto (-29), 3) := by decide +kernel
theorem dX12_ruled_68 : decode cX12_ruled 68 = .ok (.iload_n 1, 1) := by decide +kernel
theorem dX12_ruled_69 : decode cX12_ruled 69 = .ok (.ifCond .ne 7, 3) := by decide +kernel
theorem dX12_ruled_72 : decode cX12_ruled 72 = .ok (.iload_n 2, 1) := by decide +kernel
theorem dX12_ruled_73 : decode cX12_ruled 73 = .ok (.goto 4, 3) := by decide +kernel
theorem dX12_ruled_76 : decode cX12_ruled 76 = .ok (.iload_n 3, 1) := by decide +kernel
theorem dX12_ruled_77 : decode cX12_ruled 77 = .ok (.ireturn, 1) := by decide +kernel
theorem vc_X12_446 : XVw RX12 446 1 11 7 yX12_fillsFits cX12_fillsFits none := ⟨RX12, TX12, tyX12, 43, xk_11, rfl, ⟨by decide, by decide⟩, by decide +kernel, wt_1544, wt_1546, ws_111, wt_11, wt_1547⟩
noncomputable def bs_X12_ruled : List (Nat × XB) := [
  (0, (sq (xLA 0) (sq (xCI 11 1 F_X12_isDale) (tIf1 (fun x => decide (x = 0)) 17 [false, false, false, false, false] 7 [true, true, false, false, false])))),
  (7, (sq (xLI 1) (sq (xI2L) (sq (xC (.long 0)) (sq (xC (.long 1)) (sq (xCI 99 3 F_X12_in) (tIf1 (fun x => decide (¬ x = 0)) 20 [true, true, false, false, false] 17 [false, false, false, false, false]))))))),
  (17, (sq (xC (.int (-3))) tRI)),
  (20, (sq (xLA 0) (sq (xC (.int 0)) (sq (xCV 11 2 F_X12_fillsFits) (sq (xC (.int 0)) (sq (xSI 2) (sq (xC (.int (-2))) (sq (xSI 3) (sq (xLA 0) (sq (xGI 11 2) (sq (xSI 4) (tGo 36 [true, true, true, true, true])))))))))))),
  (36, (sq (xLI 4) (tIf1 (fun x => decide (x < 0)) 68 [false, true, true, true, false] 41 [true, true, true, true, true]))),
  (41, (sq (xLA 0) (sq (xGS 11 59 1 0) (sq (xLI 4) (sq (xAI 59 7) (tIf1 (fun x => decide (¬ x = 0)) 54 [true, true, true, false, true] 51 [true, true, true, true, true])))))),
  (51, (tGo 62 [true, true, true, true, true])),
  (54, (sq (xLI 4) (sq (xC (.int 1)) (sq (xI2 (· - ·)) (sq (xSI 3) (sq (xInc 2 1) (tGo 62 [true, true, true, true, true]))))))),
  (62, (sq (xInc 4 (-1)) (tGo 36 [true, true, true, true, true]))),
  (68, (sq (xLI 1) (tIf1 (fun x => decide (¬ x = 0)) 76 [false, false, false, true, false] 72 [false, false, true, false, false]))),
  (72, (sq (xLI 2) (tGo 77 [false, false, false, false, false]))),
  (76, (sq (xLI 3) (tGo 77 [false, false, false, false, false]))),
  (77, tRI)]
set_option maxRecDepth 100000 in
set_option maxHeartbeats 4000000 in
theorem s_X12_ruled : ∀ X : XCtx, XE X → X.2.2.1.1 = cX12_ruled → X.2.2.1.2.1 = 5 → X.2.2.1.2.2.1 = yX12_ruled.cls → X.2.2.1.2.2.2.1 = (some .int) → X.1.2.2.2.1 = { frames := 6, cells := 0, slots := 0, locals := 149 } → SndBs X bs_X12_ruled := by
  rintro ⟨⟨p, l, e, R, s⟩, Y, ⟨cc, nL, own, ret, Ts⟩, Z⟩ hE h1 h2 h3 h4 h5
  dsimp only at h1 h2 h3 h4 h5
  subst h1 h2 h3 h4 h5
  exact ⟨(n_sq (n_aload_n hE dX12_ruled_0) (n_sq (n_cIv hE m_X12_isDale vc_X12_369 (show 0 + 1 ≤ 6 ∧ 8 + (1 + 11) + 0 ≤ 149 by decide) dX12_ruled_1) (n_ifeq hE (by decide) dX12_ruled_4))),
    (n_sq (n_iload_n hE dX12_ruled_7) (n_sq (n_i2l hE dX12_ruled_8) (n_sq (n_lconst hE (by decide) dX12_ruled_9) (n_sq (n_lconst hE (by decide) dX12_ruled_10) (n_sq (n_cIs hE m_X12_in vc_X12_133 (show 0 + 1 ≤ 6 ∧ 8 + (6 + 11) + 0 ≤ 149 by decide) dX12_ruled_11) (n_ifne hE (by decide) dX12_ruled_14)))))),
    (n_sq (n_bipush hE (by decide) dX12_ruled_17) (n_ireturn hE rfl dX12_ruled_19)),
    (n_sq (n_aload_n hE dX12_ruled_20) (n_sq (n_iconst hE (by decide) dX12_ruled_21) (n_sq (n_cVv hE m_X12_fillsFits vc_X12_446 (show 5 + 1 ≤ 6 ∧ 8 + (7 + 11) + 123 ≤ 149 by decide) dX12_ruled_22) (n_sq (n_iconst hE (by decide) dX12_ruled_25) (n_sq (n_istore_n hE (show (2 : Nat) < 5 by decide) dX12_ruled_26) (n_sq (n_bipush hE (by decide) dX12_ruled_27) (n_sq (n_istore_n hE (show (3 : Nat) < 5 by decide) dX12_ruled_29) (n_sq (n_aload_n hE dX12_ruled_30) (n_sq (n_getI hE xk_11 (k := 2) rfl (by decide) rfl wt_962 dX12_ruled_31) (n_sq (n_istore hE (show (4 : Nat) < 5 by decide) dX12_ruled_34) n_fall)))))))))),
    (n_sq (n_iload hE dX12_ruled_36) (n_iflt hE (by decide) dX12_ruled_38)),
    (n_sq (n_aload_n hE dX12_ruled_41) (n_sq (n_getS hE xk_11 (k := 36) rfl (by decide) rfl wt_996 dX12_ruled_42) (n_sq (n_iload hE dX12_ruled_45) (n_sq (n_zald hE rfl (by decide) dX12_ruled_47) (n_ifne hE (by decide) dX12_ruled_48))))),
    (n_goto hE (by decide) dX12_ruled_51),
    (n_sq (n_iload hE dX12_ruled_54) (n_sq (n_iconst hE (by decide) dX12_ruled_56) (n_sq (n_isub hE dX12_ruled_57) (n_sq (n_istore_n hE (show (3 : Nat) < 5 by decide) dX12_ruled_58) (n_sq (n_iinc hE (by decide) (show (2 : Nat) < 5 by decide) dX12_ruled_59) n_fall))))),
    (n_sq (n_iinc hE (by decide) (show (4 : Nat) < 5 by decide) dX12_ruled_62) (n_goto hE (by decide) dX12_ruled_65)),
    (n_sq (n_iload_n hE dX12_ruled_68) (n_ifne hE (by decide) dX12_ruled_69)),
    (n_sq (n_iload_n hE dX12_ruled_72) (n_goto hE (by decide) dX12_ruled_73)),
    (n_sq (n_iload_n hE dX12_ruled_76) n_fall),
    (n_ireturn hE rfl dX12_ruled_77), trivial⟩
noncomputable def F_X12_ruled (as : List XV) (w : XW) : Option (Int32 × XW) := (xF 5 bs_X12_ruled as w).bind pI
theorem m_X12_ruled : XM yX12_ruled cX12_ruled 5 (some .int) 6 149 (eI F_X12_ruled) := xm_I (xm_of (by decide) s_X12_ruled)
noncomputable def q_X12_ruled_0 (x1 : Int32) (w : XW) : Option XR := ev bs_X12_ruled 0 ([some (.inr (11, 0)), some (.inl (.int x1)), none, none, none], [], w)
noncomputable def q_X12_ruled_7 (x1 : Int32) (w : XW) : Option XR := ev bs_X12_ruled 7 ([some (.inr (11, 0)), some (.inl (.int x1)), none, none, none], [], w)
noncomputable def q_X12_ruled_17 (w : XW) : Option XR := ev bs_X12_ruled 17 ([none, none, none, none, none], [], w)
noncomputable def q_X12_ruled_20 (x1 : Int32) (w : XW) : Option XR := ev bs_X12_ruled 20 ([some (.inr (11, 0)), some (.inl (.int x1)), none, none, none], [], w)
noncomputable def q_X12_ruled_36 (x1 : Int32) (x2 : Int32) (x3 : Int32) (x4 : Int32) (w : XW) : Option XR := ev bs_X12_ruled 36 ([some (.inr (11, 0)), some (.inl (.int x1)), some (.inl (.int x2)), some (.inl (.int x3)), some (.inl (.int x4))], [], w)
noncomputable def q_X12_ruled_41 (x1 : Int32) (x2 : Int32) (x3 : Int32) (x4 : Int32) (w : XW) : Option XR := ev bs_X12_ruled 41 ([some (.inr (11, 0)), some (.inl (.int x1)), some (.inl (.int x2)), some (.inl (.int x3)), some (.inl (.int x4))], [], w)
noncomputable def q_X12_ruled_51 (x1 : Int32) (x2 : Int32) (x3 : Int32) (x4 : Int32) (w : XW) : Option XR := ev bs_X12_ruled 51 ([some (.inr (11, 0)), some (.inl (.int x1)), some (.inl (.int x2)), some (.inl (.int x3)), some (.inl (.int x4))], [], w)
noncomputable def q_X12_ruled_54 (x1 : Int32) (x2 : Int32) (x4 : Int32) (w : XW) : Option XR := ev bs_X12_ruled 54 ([some (.inr (11, 0)), some (.inl (.int x1)), some (.inl (.int x2)), none, some (.inl (.int x4))], [], w)
noncomputable def q_X12_ruled_62 (x1 : Int32) (x2 : Int32) (x3 : Int32) (x4 : Int32) (w : XW) : Option XR := ev bs_X12_ruled 62 ([some (.inr (11, 0)), some (.inl (.int x1)), some (.inl (.int x2)), some (.inl (.int x3)), some (.inl (.int x4))], [], w)
noncomputable def q_X12_ruled_68 (x1 : Int32) (x2 : Int32) (x3 : Int32) (w : XW) : Option XR := ev bs_X12_ruled 68 ([none, some (.inl (.int x1)), some (.inl (.int x2)), some (.inl (.int x3)), none], [], w)
noncomputable def q_X12_ruled_72 (x2 : Int32) (w : XW) : Option XR := ev bs_X12_ruled 72 ([none, none, some (.inl (.int x2)), none, none], [], w)
noncomputable def q_X12_ruled_76 (x3 : Int32) (w : XW) : Option XR := ev bs_X12_ruled 76 ([none, none, none, some (.inl (.int x3)), none], [], w)
noncomputable def q_X12_ruled_77 (s0 : Int32) (w : XW) : Option XR := ev bs_X12_ruled 77 ([none, none, none, none, none], [.inl (.int s0)], w)
set_option maxRecDepth 100000 in
theorem e_X12_ruled_0 (x1 : Int32) (w : XW) : q_X12_ruled_0 x1 w = ((F_X12_isDale [.inr (11, 0)] w).bind fun r0 => (bif decide (r0.1 = 0) then (q_X12_ruled_17 r0.2) else (q_X12_ruled_7 x1 r0.2))) := (ev_eq _ _ _).trans rfl
set_option maxRecDepth 100000 in
theorem e_X12_ruled_7 (x1 : Int32) (w : XW) : q_X12_ruled_7 x1 w = ((F_X12_in [.inl (.long (x1 : Int32).toInt64), .inl (.long 0), .inl (.long 1)] w).bind fun r0 => (bif decide (¬ r0.1 = 0) then (q_X12_ruled_20 x1 r0.2) else (q_X12_ruled_17 r0.2))) := (ev_eq _ _ _).trans rfl
set_option maxRecDepth 100000 in
theorem e_X12_ruled_17 (w : XW) : q_X12_ruled_17 w = (some (some (.inl (.int (-3))), w)) := (ev_eq _ _ _).trans rfl
set_option maxRecDepth 100000 in
theorem e_X12_ruled_20 (x1 : Int32) (w : XW) : q_X12_ruled_20 x1 w = ((F_X12_fillsFits [.inr (11, 0), .inl (.int 0)] w).bind fun r0 => (q_X12_ruled_36 x1 0 (-2) (gI r0 11 0 2) r0)) := (ev_eq _ _ _).trans rfl
set_option maxRecDepth 100000 in
theorem e_X12_ruled_36 (x1 : Int32) (x2 : Int32) (x3 : Int32) (x4 : Int32) (w : XW) : q_X12_ruled_36 x1 x2 x3 x4 w = (bif decide (x4 < 0) then (q_X12_ruled_68 x1 x2 x3 w) else (q_X12_ruled_41 x1 x2 x3 x4 w)) := (ev_eq _ _ _).trans rfl
set_option maxRecDepth 100000 in
theorem e_X12_ruled_41 (x1 : Int32) (x2 : Int32) (x3 : Int32) (x4 : Int32) (w : XW) : q_X12_ruled_41 x1 x2 x3 x4 w = (if x4 < 0 ∨ 7 ≤ x4.toNatClampNeg then none else (bif decide (¬ (gI w 59 0 x4.toNatClampNeg) = 0) then (q_X12_ruled_54 x1 x2 x4 w) else (q_X12_ruled_51 x1 x2 x3 x4 w))) := (ev_eq _ _ _).trans rfl
set_option maxRecDepth 100000 in
theorem e_X12_ruled_51 (x1 : Int32) (x2 : Int32) (x3 : Int32) (x4 : Int32) (w : XW) : q_X12_ruled_51 x1 x2 x3 x4 w = (q_X12_ruled_62 x1 x2 x3 x4 w) := (ev_eq _ _ _).trans rfl
set_option maxRecDepth 100000 in
theorem e_X12_ruled_54 (x1 : Int32) (x2 : Int32) (x4 : Int32) (w : XW) : q_X12_ruled_54 x1 x2 x4 w = (q_X12_ruled_62 x1 (x2 + 1) (x4 - 1) x4 w) := (ev_eq _ _ _).trans rfl
set_option maxRecDepth 100000 in
theorem e_X12_ruled_62 (x1 : Int32) (x2 : Int32) (x3 : Int32) (x4 : Int32) (w : XW) : q_X12_ruled_62 x1 x2 x3 x4 w = (q_X12_ruled_36 x1 x2 x3 (x4 + (-1)) w) := (ev_eq _ _ _).trans rfl
set_option maxRecDepth 100000 in
theorem e_X12_ruled_68 (x1 : Int32) (x2 : Int32) (x3 : Int32) (w : XW) : q_X12_ruled_68 x1 x2 x3 w = (bif decide (¬ x1 = 0) then (q_X12_ruled_76 x3 w) else (q_X12_ruled_72 x2 w)) := (ev_eq _ _ _).trans rfl
set_option maxRecDepth 100000 in
theorem e_X12_ruled_72 (x2 : Int32) (w : XW) : q_X12_ruled_72 x2 w = (q_X12_ruled_77 x2 w) := (ev_eq _ _ _).trans rfl
set_option maxRecDepth 100000 in
theorem e_X12_ruled_76 (x3 : Int32) (w : XW) : q_X12_ruled_76 x3 w = (q_X12_ruled_77 x3 w) := (ev_eq _ _ _).trans rfl
set_option maxRecDepth 100000 in
theorem e_X12_ruled_77 (s0 : Int32) (w : XW) : q_X12_ruled_77 s0 w = (some (some (.inl (.int s0)), w)) := (ev_eq _ _ _).trans rfl
theorem f_X12_ruled (x1 : Int32) (w : XW) : F_X12_ruled [.inr (11, 0), .inl (.int x1)] w = (q_X12_ruled_0 x1 w).bind pI := rfl

-- WinterKeepModel.alikeAt(I)I
theorem dX12_alikeAt_0 : decode cX12_alikeAt 0 = .ok (.iconst 0, 1) := by decide +kernel
theorem dX12_alikeAt_1 : decode cX12_alikeAt 1 = .ok (.istore_n 2, 1) := by decide +kernel
theorem dX12_alikeAt_2 : decode cX12_alikeAt 2 = .ok (.iconst 0, 1) := by decide +kernel
theorem dX12_alikeAt_3 : decode cX12_alikeAt 3 = .ok (.istore_n 3, 1) := by decide +kernel
theorem dX12_alikeAt_4 : decode cX12_alikeAt 4 = .ok (.iload_n 3, 1) := by decide +kernel
theorem dX12_alikeAt_5 : decode cX12_alikeAt 5 = .ok (.aload_n 0, 1) := by decide +kernel
theorem dX12_alikeAt_6 : decode cX12_alikeAt 6 = .ok (.getfield 271, 3) := by decide +kernel
theorem dX12_alikeAt_9 : decode cX12_alikeAt 9 = .ok (.if_icmp .gt 98, 3) := by decide +kernel
theorem dX12_alikeAt_12 : decode cX12_alikeAt 12 = .ok (.iconst 0, 1) := by decide +kernel
theorem dX12_alikeAt_13 : decode cX12_alikeAt 13 = .ok (.istore 4, 2) := by decide +kernel
theorem dX12_alikeAt_15 : decode cX12_alikeAt 15 = .ok (.iconst 0, 1) := by decide +kernel
theorem dX12_alikeAt_16 : decode cX12_alikeAt 16 = .ok (.istore 5, 2) := by decide +kernel
theorem dX12_alikeAt_18 : decode cX12_alikeAt 18 = .ok (.iload 5, 2) := by decide +kernel
theorem dX12_alikeAt_20 : decode cX12_alikeAt 20 = .ok (.aload_n 0, 1) := by decide +kernel
theorem dX12_alikeAt_21 : decode cX12_alikeAt 21 = .ok (.getfield 271, 3) := by decide +kernel
theorem dX12_alikeAt_24 : decode cX12_alikeAt 24 = .ok (.if_icmp .gt 64, 3) := by decide +kernel
theorem dX12_alikeAt_27 : decode cX12_alikeAt 27 = .ok (.aload_n 0, 1) := by decide +kernel
theorem dX12_alikeAt_28 : decode cX12_alikeAt 28 = .ok (.getfield 73, 3) := by decide +kernel
theorem dX12_alikeAt_31 : decode cX12_alikeAt 31 = .ok (.iload_n 3, 1) := by decide +kernel
theorem dX12_alikeAt_32 : decode cX12_alikeAt 32 = .ok (.baload, 1) := by decide +kernel
theorem dX12_alikeAt_33 : decode cX12_alikeAt 33 = .ok (.ifCond .eq 55, 3) := by decide +kernel
theorem dX12_alikeAt_36 : decode cX12_alikeAt 36 = .ok (.iload 4, 2) := by decide +kernel
theorem dX12_alikeAt_38 : decode cX12_alikeAt 38 = .ok (.aload_n 0, 1) := by decide +kernel
theorem dX12_alikeAt_39 : decode cX12_alikeAt 39 = .ok (.getfield 73, 3) := by decide +kernel
theorem dX12_alikeAt_42 : decode cX12_alikeAt 42 = .ok (.iload 5, 2) := by decide +kernel
theorem dX12_alikeAt_44 : decode cX12_alikeAt 44 = .ok (.baload, 1) := by decide +kernel
theorem dX12_alikeAt_45 : decode cX12_alikeAt 45 = .ok (.ifCond .eq 33, 3) := by decide +kernel
theorem dX12_alikeAt_48 : decode cX12_alikeAt 48 = .ok (.aload_n 0, 1) := by decide +kernel
theorem dX12_alikeAt_49 : decode cX12_alikeAt 49 = .ok (.getfield 77, 3) := by decide +kernel
theorem dX12_alikeAt_52 : decode cX12_alikeAt 52 = .ok (.bipush 6, 2) := by decide +kernel
theorem dX12_alikeAt_54 : decode cX12_alikeAt 54 = .ok (.iload_n 3, 1) := by decide +kernel
theorem dX12_alikeAt_55 : decode cX12_alikeAt 55 = .ok (.imul, 1) := by decide +kernel
theorem dX12_alikeAt_56 : decode cX12_alikeAt 56 = .ok (.iload_n 1, 1) := by decide +kernel
theorem dX12_alikeAt_57 : decode cX12_alikeAt 57 = .ok (.iadd, 1) := by decide +kernel
theorem dX12_alikeAt_58 : decode cX12_alikeAt 58 = .ok (.iaload, 1) := by decide +kernel
theorem dX12_alikeAt_59 : decode cX12_alikeAt 59 = .ok (.aload_n 0, 1) := by decide +kernel
theorem dX12_alikeAt_60 : decode cX12_alikeAt 60 = .ok (.getfield 77, 3) := by decide +kernel
theorem dX12_alikeAt_63 : decode cX12_alikeAt 63 = .ok (.bipush 6, 2) := by decide +kernel
theorem dX12_alikeAt_65 : decode cX12_alikeAt 65 = .ok (.iload 5, 2) := by decide +kernel
theorem dX12_alikeAt_67 : decode cX12_alikeAt 67 = .ok (.imul, 1) := by decide +kernel
theorem dX12_alikeAt_68 : decode cX12_alikeAt 68 = .ok (.iload_n 1, 1) := by decide +kernel
theorem dX12_alikeAt_69 : decode cX12_alikeAt 69 = .ok (.iadd, 1) := by decide +kernel
theorem dX12_alikeAt_70 : decode cX12_alikeAt 70 = .ok (.iaload, 1) := by decide +kernel
theorem dX12_alikeAt_71 : decode cX12_alikeAt 71 = .ok (.if_icmp .ne 7, 3) := by decide +kernel
theorem dX12_alikeAt_74 : decode cX12_alikeAt 74 = .ok (.iconst 1, 1) := by decide +kernel
theorem dX12_alikeAt_75 : decode cX12_alikeAt 75 = .ok (.goto 4, 3) := by decide +kernel
theorem dX12_alikeAt_78 : decode cX12_alikeAt 78 = .ok (.iconst 0, 1) := by decide +kernel
theorem dX12_alikeAt_79 : decode cX12_alikeAt 79 = .ok (.iadd, 1) := by decide +kernel
theorem dX12_alikeAt_80 : decode cX12_alikeAt 80 = .ok (.istore 4, 2) := by decide +kernel
theorem dX12_alikeAt_82 : decode cX12_alikeAt 82 = .ok (.iinc 5 1, 3) := by decide +kernel
theorem dX12_alikeAt_85 : decode cX12_alikeAt 85 = .ok (.goto (-67), 3) := by decide +kernel
theorem dX12_alikeAt_88 : decode cX12_alikeAt 88 = .ok (.iload 4, 2) := by decide +kernel
theorem dX12_alikeAt_90 : decode cX12_alikeAt 90 = .ok (.iload_n 2, 1) := by decide +kernel
theorem dX12_alikeAt_91 : decode cX12_alikeAt 91 = .ok (.if_icmp .le 8, 3) := by decide +kernel
theorem dX12_alikeAt_94 : decode cX12_alikeAt 94 = .ok (.iload 4, 2) := by decide +kernel
theorem dX12_alikeAt_96 : decode cX12_alikeAt 96 = .ok (.goto 4, 3) := by decide +kernel
theorem dX12_alikeAt_99 : decode cX12_alikeAt 99 = .ok (.iload_n 2, 1) := by decide +kernel
theorem dX12_alikeAt_100 : decode cX12_alikeAt 100 = .ok (.istore_n 2, 1) := by decide +kernel
theorem dX12_alikeAt_101 : decode cX12_alikeAt 101 = .ok (.iinc 3 1, 3) := by decide +kernel
theorem dX12_alikeAt_104 : decode cX12_alikeAt 104 = .ok (.goto (-100), 3) := by decide +kernel
theorem dX12_alikeAt_107 : decode cX12_alikeAt 107 = .ok (.iload_n 2, 1) := by decide +kernel
theorem dX12_alikeAt_108 : decode cX12_alikeAt 108 = .ok (.ireturn, 1) := by decide +kernel
noncomputable def bs_X12_alikeAt : List (Nat × XB) := [
  (0, (sq (xC (.int 0)) (sq (xSI 2) (sq (xC (.int 0)) (sq (xSI 3) (tGo 4 [true, true, true, true, false, false])))))),
  (4, (sq (xLI 3) (sq (xLA 0) (sq (xGI 11 2) (tIf2 (fun x y => decide (y < x)) 107 [false, false, true, false, false, false] 12 [true, true, true, true, false, false]))))),
  (12, (sq (xC (.int 0)) (sq (xSI 4) (sq (xC (.int 0)) (sq (xSI 5) (tGo 18 [true, true, true, true, true, true])))))),
  (18, (sq (xLI 5) (sq (xLA 0) (sq (xGI 11 2) (tIf2 (fun x y => decide (y < x)) 88 [true, true, true, true, true, false] 27 [true, true, true, true, true, true]))))),
  (27, (sq (xLA 0) (sq (xGS 11 59 1 0) (sq (xLI 3) (sq (xAI 59 7) (tIf1 (fun x => decide (x = 0)) 88 [true, true, true, true, true, false] 36 [true, true, true, true, true, true])))))),
  (36, (sq (xLI 4) (sq (xLA 0) (sq (xGS 11 59 1 0) (sq (xLI 5) (sq (xAI 59 7) (tIf1 (fun x => decide (x = 0)) 78 [true, true, true, true, false, true] 48 [true, true, true, true, false, true]))))))),
  (48, (sq (xLA 0) (sq (xGS 11 60 1 0) (sq (xC (.int 6)) (sq (xLI 3) (sq (xI2 (· * ·)) (sq (xLI 1) (sq (xI2 (· + ·)) (sq (xAI 60 42) (sq (xLA 0) (sq (xGS 11 60 1 0) (sq (xC (.int 6)) (sq (xLI 5) (sq (xI2 (· * ·)) (sq (xLI 1) (sq (xI2 (· + ·)) (sq (xAI 60 42) (tIf2 (fun x y => decide (¬ x = y)) 78 [true, true, true, true, false, true] 74 [true, true, true, true, false, true])))))))))))))))))),
  (74, (sq (xC (.int 1)) (tGo 79 [true, true, true, true, false, true]))),
  (78, (sq (xC (.int 0)) (tGo 79 [true, true, true, true, false, true]))),
  (79, (sq (xI2 (· + ·)) (sq (xSI 4) (sq (xInc 5 1) (tGo 18 [true, true, true, true, true, true]))))),
  (88, (sq (xLI 4) (sq (xLI 2) (tIf2 (fun x y => decide (x ≤ y)) 99 [true, true, true, true, false, false] 94 [true, true, false, true, true, false])))),
  (94, (sq (xLI 4) (tGo 100 [true, true, false, true, false, false]))),
  (99, (sq (xLI 2) (tGo 100 [true, true, false, true, false, false]))),
  (100, (sq (xSI 2) (sq (xInc 3 1) (tGo 4 [true, true, true, true, false, false])))),
  (107, (sq (xLI 2) tRI))]
set_option maxRecDepth 100000 in
set_option maxHeartbeats 4000000 in
theorem s_X12_alikeAt : ∀ X : XCtx, XE X → X.2.2.1.1 = cX12_alikeAt → X.2.2.1.2.1 = 6 → X.2.2.1.2.2.1 = yX12_alikeAt.cls → X.2.2.1.2.2.2.1 = (some .int) → X.1.2.2.2.1 = { frames := 0, cells := 0, slots := 0, locals := 0 } → SndBs X bs_X12_alikeAt := by
  rintro ⟨⟨p, l, e, R, s⟩, Y, ⟨cc, nL, own, ret, Ts⟩, Z⟩ hE h1 h2 h3 h4 h5
  dsimp only at h1 h2 h3 h4 h5
  subst h1 h2 h3 h4 h5
  exact ⟨(n_sq (n_iconst hE (by decide) dX12_alikeAt_0) (n_sq (n_istore_n hE (show (2 : Nat) < 6 by decide) dX12_alikeAt_1) (n_sq (n_iconst hE (by decide) dX12_alikeAt_2) (n_sq (n_istore_n hE (show (3 : Nat) < 6 by decide) dX12_alikeAt_3) n_fall)))),
    (n_sq (n_iload_n hE dX12_alikeAt_4) (n_sq (n_aload_n hE dX12_alikeAt_5) (n_sq (n_getI hE xk_11 (k := 2) rfl (by decide) rfl wt_962 dX12_alikeAt_6) (n_ifcgt hE (by decide) dX12_alikeAt_9)))),
    (n_sq (n_iconst hE (by decide) dX12_alikeAt_12) (n_sq (n_istore hE (show (4 : Nat) < 6 by decide) dX12_alikeAt_13) (n_sq (n_iconst hE (by decide) dX12_alikeAt_15) (n_sq (n_istore hE (show (5 : Nat) < 6 by decide) dX12_alikeAt_16) n_fall)))),
    (n_sq (n_iload hE dX12_alikeAt_18) (n_sq (n_aload_n hE dX12_alikeAt_20) (n_sq (n_getI hE xk_11 (k := 2) rfl (by decide) rfl wt_962 dX12_alikeAt_21) (n_ifcgt hE (by decide) dX12_alikeAt_24)))),
    (n_sq (n_aload_n hE dX12_alikeAt_27) (n_sq (n_getS hE xk_11 (k := 36) rfl (by decide) rfl wt_996 dX12_alikeAt_28) (n_sq (n_iload_n hE dX12_alikeAt_31) (n_sq (n_zald hE rfl (by decide) dX12_alikeAt_32) (n_ifeq hE (by decide) dX12_alikeAt_33))))),
    (n_sq (n_iload hE dX12_alikeAt_36) (n_sq (n_aload_n hE dX12_alikeAt_38) (n_sq (n_getS hE xk_11 (k := 36) rfl (by decide) rfl wt_996 dX12_alikeAt_39) (n_sq (n_iload hE dX12_alikeAt_42) (n_sq (n_zald hE rfl (by decide) dX12_alikeAt_44) (n_ifeq hE (by decide) dX12_alikeAt_45)))))),
    (n_sq (n_aload_n hE dX12_alikeAt_48) (n_sq (n_getS hE xk_11 (k := 37) rfl (by decide) rfl wt_997 dX12_alikeAt_49) (n_sq (n_bipush hE (by decide) dX12_alikeAt_52) (n_sq (n_iload_n hE dX12_alikeAt_54) (n_sq (n_imul hE dX12_alikeAt_55) (n_sq (n_iload_n hE dX12_alikeAt_56) (n_sq (n_iadd hE dX12_alikeAt_57) (n_sq (n_iald hE rfl (by decide) dX12_alikeAt_58) (n_sq (n_aload_n hE dX12_alikeAt_59) (n_sq (n_getS hE xk_11 (k := 37) rfl (by decide) rfl wt_997 dX12_alikeAt_60) (n_sq (n_bipush hE (by decide) dX12_alikeAt_63) (n_sq (n_iload hE dX12_alikeAt_65) (n_sq (n_imul hE dX12_alikeAt_67) (n_sq (n_iload_n hE dX12_alikeAt_68) (n_sq (n_iadd hE dX12_alikeAt_69) (n_sq (n_iald hE rfl (by decide) dX12_alikeAt_70) (n_ifcne hE (by decide) dX12_alikeAt_71))))))))))))))))),
    (n_sq (n_iconst hE (by decide) dX12_alikeAt_74) (n_goto hE (by decide) dX12_alikeAt_75)),
    (n_sq (n_iconst hE (by decide) dX12_alikeAt_78) n_fall),
    (n_sq (n_iadd hE dX12_alikeAt_79) (n_sq (n_istore hE (show (4 : Nat) < 6 by decide) dX12_alikeAt_80) (n_sq (n_iinc hE (by decide) (show (5 : Nat) < 6 by decide) dX12_alikeAt_82) (n_goto hE (by decide) dX12_alikeAt_85)))),
    (n_sq (n_iload hE dX12_alikeAt_88) (n_sq (n_iload_n hE dX12_alikeAt_90) (n_ifcle hE (by decide) dX12_alikeAt_91))),
    (n_sq (n_iload hE dX12_alikeAt_94) (n_goto hE (by decide) dX12_alikeAt_96)),
    (n_sq (n_iload_n hE dX12_alikeAt_99) n_fall),
    (n_sq (n_istore_n hE (show (2 : Nat) < 6 by decide) dX12_alikeAt_100) (n_sq (n_iinc hE (by decide) (show (3 : Nat) < 6 by decide) dX12_alikeAt_101) (n_goto hE (by decide) dX12_alikeAt_104))),
    (n_sq (n_iload_n hE dX12_alikeAt_107) (n_ireturn hE rfl dX12_alikeAt_108)), trivial⟩
noncomputable def F_X12_alikeAt (as : List XV) (w : XW) : Option (Int32 × XW) := (xF 6 bs_X12_alikeAt as w).bind pI
theorem m_X12_alikeAt : XM yX12_alikeAt cX12_alikeAt 6 (some .int) 0 0 (eI F_X12_alikeAt) := xm_I (xm_of (by decide) s_X12_alikeAt)
noncomputable def q_X12_alikeAt_0 (x1 : Int32) (w : XW) : Option XR := ev bs_X12_alikeAt 0 ([some (.inr (11, 0)), some (.inl (.int x1)), none, none, none, none], [], w)
noncomputable def q_X12_alikeAt_4 (x1 : Int32) (x2 : Int32) (x3 : Int32) (w : XW) : Option XR := ev bs_X12_alikeAt 4 ([some (.inr (11, 0)), some (.inl (.int x1)), some (.inl (.int x2)), some (.inl (.int x3)), none, none], [], w)
noncomputable def q_X12_alikeAt_12 (x1 : Int32) (x2 : Int32) (x3 : Int32) (w : XW) : Option XR := ev bs_X12_alikeAt 12 ([some (.inr (11, 0)), some (.inl (.int x1)), some (.inl (.int x2)), some (.inl (.int x3)), none, none], [], w)
noncomputable def q_X12_alikeAt_18 (x1 : Int32) (x2 : Int32) (x3 : Int32) (x4 : Int32) (x5 : Int32) (w : XW) : Option XR := ev bs_X12_alikeAt 18 ([some (.inr (11, 0)), some (.inl (.int x1)), some (.inl (.int x2)), some (.inl (.int x3)), some (.inl (.int x4)), some (.inl (.int x5))], [], w)
noncomputable def q_X12_alikeAt_27 (x1 : Int32) (x2 : Int32) (x3 : Int32) (x4 : Int32) (x5 : Int32) (w : XW) : Option XR := ev bs_X12_alikeAt 27 ([some (.inr (11, 0)), some (.inl (.int x1)), some (.inl (.int x2)), some (.inl (.int x3)), some (.inl (.int x4)), some (.inl (.int x5))], [], w)
noncomputable def q_X12_alikeAt_36 (x1 : Int32) (x2 : Int32) (x3 : Int32) (x4 : Int32) (x5 : Int32) (w : XW) : Option XR := ev bs_X12_alikeAt 36 ([some (.inr (11, 0)), some (.inl (.int x1)), some (.inl (.int x2)), some (.inl (.int x3)), some (.inl (.int x4)), some (.inl (.int x5))], [], w)
noncomputable def q_X12_alikeAt_48 (x1 : Int32) (x2 : Int32) (x3 : Int32) (x5 : Int32) (s0 : Int32) (w : XW) : Option XR := ev bs_X12_alikeAt 48 ([some (.inr (11, 0)), some (.inl (.int x1)), some (.inl (.int x2)), some (.inl (.int x3)), none, some (.inl (.int x5))], [.inl (.int s0)], w)
noncomputable def q_X12_alikeAt_74 (x1 : Int32) (x2 : Int32) (x3 : Int32) (x5 : Int32) (s0 : Int32) (w : XW) : Option XR := ev bs_X12_alikeAt 74 ([some (.inr (11, 0)), some (.inl (.int x1)), some (.inl (.int x2)), some (.inl (.int x3)), none, some (.inl (.int x5))], [.inl (.int s0)], w)
noncomputable def q_X12_alikeAt_78 (x1 : Int32) (x2 : Int32) (x3 : Int32) (x5 : Int32) (s0 : Int32) (w : XW) : Option XR := ev bs_X12_alikeAt 78 ([some (.inr (11, 0)), some (.inl (.int x1)), some (.inl (.int x2)), some (.inl (.int x3)), none, some (.inl (.int x5))], [.inl (.int s0)], w)
noncomputable def q_X12_alikeAt_79 (x1 : Int32) (x2 : Int32) (x3 : Int32) (x5 : Int32) (s0 : Int32) (s1 : Int32) (w : XW) : Option XR := ev bs_X12_alikeAt 79 ([some (.inr (11, 0)), some (.inl (.int x1)), some (.inl (.int x2)), some (.inl (.int x3)), none, some (.inl (.int x5))], [.inl (.int s1), .inl (.int s0)], w)
noncomputable def q_X12_alikeAt_88 (x1 : Int32) (x2 : Int32) (x3 : Int32) (x4 : Int32) (w : XW) : Option XR := ev bs_X12_alikeAt 88 ([some (.inr (11, 0)), some (.inl (.int x1)), some (.inl (.int x2)), some (.inl (.int x3)), some (.inl (.int x4)), none], [], w)
noncomputable def q_X12_alikeAt_94 (x1 : Int32) (x3 : Int32) (x4 : Int32) (w : XW) : Option XR := ev bs_X12_alikeAt 94 ([some (.inr (11, 0)), some (.inl (.int x1)), none, some (.inl (.int x3)), some (.inl (.int x4)), none], [], w)
noncomputable def q_X12_alikeAt_99 (x1 : Int32) (x2 : Int32) (x3 : Int32) (w : XW) : Option XR := ev bs_X12_alikeAt 99 ([some (.inr (11, 0)), some (.inl (.int x1)), some (.inl (.int x2)), some (.inl (.int x3)), none, none], [], w)
noncomputable def q_X12_alikeAt_100 (x1 : Int32) (x3 : Int32) (s0 : Int32) (w : XW) : Option XR := ev bs_X12_alikeAt 100 ([some (.inr (11, 0)), some (.inl (.int x1)), none, some (.inl (.int x3)), none, none], [.inl (.int s0)], w)
noncomputable def q_X12_alikeAt_107 (x2 : Int32) (w : XW) : Option XR := ev bs_X12_alikeAt 107 ([none, none, some (.inl (.int x2)), none, none, none], [], w)
set_option maxRecDepth 100000 in
theorem e_X12_alikeAt_0 (x1 : Int32) (w : XW) : q_X12_alikeAt_0 x1 w = (q_X12_alikeAt_4 x1 0 0 w) := (ev_eq _ _ _).trans rfl
set_option maxRecDepth 100000 in
theorem e_X12_alikeAt_4 (x1 : Int32) (x2 : Int32) (x3 : Int32) (w : XW) : q_X12_alikeAt_4 x1 x2 x3 w = (bif decide ((gI w 11 0 2) < x3) then (q_X12_alikeAt_107 x2 w) else (q_X12_alikeAt_12 x1 x2 x3 w)) := (ev_eq _ _ _).trans rfl
set_option maxRecDepth 100000 in
theorem e_X12_alikeAt_12 (x1 : Int32) (x2 : Int32) (x3 : Int32) (w : XW) : q_X12_alikeAt_12 x1 x2 x3 w = (q_X12_alikeAt_18 x1 x2 x3 0 0 w) := (ev_eq _ _ _).trans rfl
set_option maxRecDepth 100000 in
theorem e_X12_alikeAt_18 (x1 : Int32) (x2 : Int32) (x3 : Int32) (x4 : Int32) (x5 : Int32) (w : XW) : q_X12_alikeAt_18 x1 x2 x3 x4 x5 w = (bif decide ((gI w 11 0 2) < x5) then (q_X12_alikeAt_88 x1 x2 x3 x4 w) else (q_X12_alikeAt_27 x1 x2 x3 x4 x5 w)) := (ev_eq _ _ _).trans rfl
set_option maxRecDepth 100000 in
theorem e_X12_alikeAt_27 (x1 : Int32) (x2 : Int32) (x3 : Int32) (x4 : Int32) (x5 : Int32) (w : XW) : q_X12_alikeAt_27 x1 x2 x3 x4 x5 w = (if x3 < 0 ∨ 7 ≤ x3.toNatClampNeg then none else (bif decide ((gI w 59 0 x3.toNatClampNeg) = 0) then (q_X12_alikeAt_88 x1 x2 x3 x4 w) else (q_X12_alikeAt_36 x1 x2 x3 x4 x5 w))) := (ev_eq _ _ _).trans rfl
set_option maxRecDepth 100000 in
theorem e_X12_alikeAt_36 (x1 : Int32) (x2 : Int32) (x3 : Int32) (x4 : Int32) (x5 : Int32) (w : XW) : q_X12_alikeAt_36 x1 x2 x3 x4 x5 w = (if x5 < 0 ∨ 7 ≤ x5.toNatClampNeg then none else (bif decide ((gI w 59 0 x5.toNatClampNeg) = 0) then (q_X12_alikeAt_78 x1 x2 x3 x5 x4 w) else (q_X12_alikeAt_48 x1 x2 x3 x5 x4 w))) := (ev_eq _ _ _).trans rfl
set_option maxRecDepth 100000 in
theorem e_X12_alikeAt_48 (x1 : Int32) (x2 : Int32) (x3 : Int32) (x5 : Int32) (s0 : Int32) (w : XW) : q_X12_alikeAt_48 x1 x2 x3 x5 s0 w = (if ((6 * x3) + x1) < 0 ∨ 42 ≤ ((6 * x3) + x1).toNatClampNeg then none else (if ((6 * x5) + x1) < 0 ∨ 42 ≤ ((6 * x5) + x1).toNatClampNeg then none else (bif decide (¬ (gI w 60 0 ((6 * x3) + x1).toNatClampNeg) = (gI w 60 0 ((6 * x5) + x1).toNatClampNeg)) then (q_X12_alikeAt_78 x1 x2 x3 x5 s0 w) else (q_X12_alikeAt_74 x1 x2 x3 x5 s0 w)))) := (ev_eq _ _ _).trans rfl
set_option maxRecDepth 100000 in
theorem e_X12_alikeAt_74 (x1 : Int32) (x2 : Int32) (x3 : Int32) (x5 : Int32) (s0 : Int32) (w : XW) : q_X12_alikeAt_74 x1 x2 x3 x5 s0 w = (q_X12_alikeAt_79 x1 x2 x3 x5 s0 1 w) := (ev_eq _ _ _).trans rfl
set_option maxRecDepth 100000 in
theorem e_X12_alikeAt_78 (x1 : Int32) (x2 : Int32) (x3 : Int32) (x5 : Int32) (s0 : Int32) (w : XW) : q_X12_alikeAt_78 x1 x2 x3 x5 s0 w = (q_X12_alikeAt_79 x1 x2 x3 x5 s0 0 w) := (ev_eq _ _ _).trans rfl
set_option maxRecDepth 100000 in
theorem e_X12_alikeAt_79 (x1 : Int32) (x2 : Int32) (x3 : Int32) (x5 : Int32) (s0 : Int32) (s1 : Int32) (w : XW) : q_X12_alikeAt_79 x1 x2 x3 x5 s0 s1 w = (q_X12_alikeAt_18 x1 x2 x3 (s0 + s1) (x5 + 1) w) := (ev_eq _ _ _).trans rfl
set_option maxRecDepth 100000 in
theorem e_X12_alikeAt_88 (x1 : Int32) (x2 : Int32) (x3 : Int32) (x4 : Int32) (w : XW) : q_X12_alikeAt_88 x1 x2 x3 x4 w = (bif decide (x4 ≤ x2) then (q_X12_alikeAt_99 x1 x2 x3 w) else (q_X12_alikeAt_94 x1 x3 x4 w)) := (ev_eq _ _ _).trans rfl
set_option maxRecDepth 100000 in
theorem e_X12_alikeAt_94 (x1 : Int32) (x3 : Int32) (x4 : Int32) (w : XW) : q_X12_alikeAt_94 x1 x3 x4 w = (q_X12_alikeAt_100 x1 x3 x4 w) := (ev_eq _ _ _).trans rfl
set_option maxRecDepth 100000 in
theorem e_X12_alikeAt_99 (x1 : Int32) (x2 : Int32) (x3 : Int32) (w : XW) : q_X12_alikeAt_99 x1 x2 x3 w = (q_X12_alikeAt_100 x1 x3 x2 w) := (ev_eq _ _ _).trans rfl
set_option maxRecDepth 100000 in
theorem e_X12_alikeAt_100 (x1 : Int32) (x3 : Int32) (s0 : Int32) (w : XW) : q_X12_alikeAt_100 x1 x3 s0 w = (q_X12_alikeAt_4 x1 s0 (x3 + 1) w) := (ev_eq _ _ _).trans rfl
set_option maxRecDepth 100000 in
theorem e_X12_alikeAt_107 (x2 : Int32) (w : XW) : q_X12_alikeAt_107 x2 w = (some (some (.inl (.int x2)), w)) := (ev_eq _ _ _).trans rfl
theorem f_X12_alikeAt (x1 : Int32) (w : XW) : F_X12_alikeAt [.inr (11, 0), .inl (.int x1)] w = (q_X12_alikeAt_0 x1 w).bind pI := rfl

-- WinterKeepModel.look(II)I
theorem dX12_look_0 : decode cX12_look 0 = .ok (.aload_n 0, 1) := by decide +kernel
theorem dX12_look_1 : decode cX12_look 1 = .ok (.invokevirtual 369, 3) := by decide +kernel
theorem dX12_look_4 : decode cX12_look 4 = .ok (.ifCond .eq 25, 3) := by decide +kernel
theorem dX12_look_7 : decode cX12_look 7 = .ok (.iload_n 1, 1) := by decide +kernel
theorem dX12_look_8 : decode cX12_look 8 = .ok (.i2l, 1) := by decide +kernel
theorem dX12_look_9 : decode cX12_look 9 = .ok (.lconst 0, 1) := by decide +kernel
theorem dX12_look_10 : decode cX12_look 10 = .ok (.ldc2_w 402, 3) := by decide +kernel
theorem dX12_look_13 : decode cX12_look 13 = .ok (.invokestatic 133, 3) := by decide +kernel
theorem dX12_look_16 : decode cX12_look 16 = .ok (.ifCond .eq 13, 3) := by decide +kernel
theorem dX12_look_19 : decode cX12_look 19 = .ok (.iload_n 2, 1) := by decide +kernel
theorem dX12_look_20 : decode cX12_look 20 = .ok (.i2l, 1) := by decide +kernel
theorem dX12_look_21 : decode cX12_look 21 = .ok (.lconst 0, 1) := by decide +kernel
theorem dX12_look_22 : decode cX12_look 22 = .ok (.lconst 1, 1) := by decide +kernel
theorem dX12_look_23 : decode cX12_look 23 = .ok (.invokestatic 133, 3) := by decide +kernel
theorem dX12_look_26 : decode cX12_look 26 = .ok (.ifCond .ne 5, 3) := by decide +kernel
theorem dX12_look_29 : decode cX12_look 29 = .ok (.iconst (-1), 1) := by decide +kernel
theorem dX12_look_30 : decode cX12_look 30 = .ok (.ireturn, 1) := by decide +kernel
theorem dX12_look_31 : decode cX12_look 31 = .ok (.aload_n 0, 1) := by decide +kernel
theorem dX12_look_32 : decode cX12_look 32 = .ok (.iload_n 1, 1) := by decide +kernel
theorem dX12_look_33 : decode cX12_look 33 = .ok (.invokevirtual 446, 3) := by decide +kernel
theorem dX12_look_36 : decode cX12_look 36 = .ok (.bipush (-2), 2) := by decide +kernel
theorem dX12_look_38 : decode cX12_look 38 = .ok (.istore_n 3, 1) := by decide +kernel
theorem dX12_look_39 : decode cX12_look 39 = .ok (.bipush (-2), 2) := by decide +kernel
theorem dX12_look_41 : decode cX12_look 41 = .ok (.istore 4, 2) := by decide +kernel
theorem dX12_look_43 : decode cX12_look 43 = .ok (.iconst 0, 1) := by decide +kernel
theorem dX12_look_44 : decode cX12_look 44 = .ok (.istore 5, 2) := by decide +kernel
theorem dX12_look_46 : decode cX12_look 46 = .ok (.iload 5, 2) := by decide +kernel
theorem dX12_look_48 : decode cX12_look 48 = .ok (.aload_n 0, 1) := by decide +kernel
theorem dX12_look_49 : decode cX12_look 49 = .ok (.getfield 39, 3) := by decide +kernel
theorem dX12_look_52 : decode cX12_look 52 = .ok (.iconst 3, 1) := by decide +kernel
theorem dX12_look_53 : decode cX12_look 53 = .ok (.iaload, 1) := by decide +kernel
theorem dX12_look_54 : decode cX12_look 54 = .ok (.if_icmp .ge 43, 3) := by decide +kernel
theorem dX12_look_57 : decode cX12_look 57 = .ok (.aload_n 0, 1) := by decide +kernel
theorem dX12_look_58 : decode cX12_look 58 = .ok (.iload 5, 2) := by decide +kernel
theorem dX12_look_60 : decode cX12_look 60 = .ok (.invokevirtual 449, 3) := by decide +kernel
theorem dX12_look_63 : decode cX12_look 63 = .ok (.istore 6, 2) := by decide +kernel
theorem dX12_look_65 : decode cX12_look 65 = .ok (.iload 6, 2) := by decide +kernel
theorem dX12_look_67 : decode cX12_look 67 = .ok (.ifCond .eq 24, 3) := by decide +kernel
theorem dX12_look_70 : decode cX12_look 70 = .ok (.iload_n 3, 1) := by decide +kernel
theorem dX12_look_71 : decode cX12_look 71 = .ok (.ifCond .lt 13, 3) := by decide +kernel
theorem dX12_look_74 : decode cX12_look 74 = .ok (.iload 6, 2) := by decide +kernel
theorem dX12_look_76 : decode cX12_look 76 = .ok (.iload 4, 2) := by decide +kernel
theorem dX12_look_78 : decode cX12_look 78 = .ok (.if_icmp .lt 6, 3) := by decide +kernel
theorem dX12_look_81 : decode cX12_look 81 = .ok (.goto 10, 3) := by decide +kernel
theorem dX12_look_84 : decode cX12_look 84 = .ok (.iload 5, 2) := by decide +kernel
theorem dX12_look_86 : decode cX12_look 86 = .ok (.istore_n 3, 1) := by decide +kernel
theorem dX12_look_87 : decode cX12_look 87 = .ok (.iload 6, 2) := by decide +kernel
theorem dX12_look_89 : decode cX12_look 89 = .ok (.istore 4, 2) := by decide +kernel
theorem dX12_look_91 : decode cX12_look 91 = .ok (.iinc 5 1, 3) := by decide +kernel
theorem dX12_look_94 : decode cX12_look 94 = .ok (.goto (-48), 3) := by decide +kernel
theorem dX12_look_97 : decode cX12_look 97 = .ok (.iload_n 2, 1) := by decide +kernel
theorem dX12_look_98 : decode cX12_look 98 = .ok (.ifCond .ne 7, 3) := by decide +kernel
theorem dX12_look_101 : decode cX12_look 101 = .ok (.iload_n 3, 1) := by decide +kernel
theorem dX12_look_102 : decode cX12_look 102 = .ok (.goto 5, 3) := by decide +kernel
theorem dX12_look_105 : decode cX12_look 105 = .ok (.iload 4, 2) := by decide +kernel
theorem dX12_look_107 : decode cX12_look 107 = .ok (.ireturn, 1) := by decide +kernel
theorem vc_X12_449 : XVw RX12 449 1 11 6 yX12_alikeAt cX12_alikeAt (some .int) := ⟨RX12, TX12, tyX12, 43, xk_11, rfl, ⟨by decide, by decide⟩, by decide +kernel, wt_1556, wt_1558, ws_113, wt_11, wt_1559⟩
noncomputable def bs_X12_look : List (Nat × XB) := [
  (0, (sq (xLA 0) (sq (xCI 11 1 F_X12_isDale) (tIf1 (fun x => decide (x = 0)) 29 [false, false, false, false, false, false, false] 7 [true, true, true, false, false, false, false])))),
  (7, (sq (xLI 1) (sq (xI2L) (sq (xC (.long 0)) (sq (xC (.long 60)) (sq (xCI 99 3 F_X12_in) (tIf1 (fun x => decide (x = 0)) 29 [false, false, false, false, false, false, false] 19 [true, true, true, false, false, false, false]))))))),
  (19, (sq (xLI 2) (sq (xI2L) (sq (xC (.long 0)) (sq (xC (.long 1)) (sq (xCI 99 3 F_X12_in) (tIf1 (fun x => decide (¬ x = 0)) 31 [true, true, true, false, false, false, false] 29 [false, false, false, false, false, false, false]))))))),
  (29, (sq (xC (.int (-1))) tRI)),
  (31, (sq (xLA 0) (sq (xLI 1) (sq (xCV 11 2 F_X12_fillsFits) (sq (xC (.int (-2))) (sq (xSI 3) (sq (xC (.int (-2))) (sq (xSI 4) (sq (xC (.int 0)) (sq (xSI 5) (tGo 46 [true, false, true, true, true, true, false]))))))))))),
  (46, (sq (xLI 5) (sq (xLA 0) (sq (xGS 11 50 1 0) (sq (xC (.int 3)) (sq (xAI 50 98) (tIf2 (fun x y => decide (y ≤ x)) 97 [false, false, true, true, true, false, false] 57 [true, false, true, true, true, true, false]))))))),
  (57, (sq (xLA 0) (sq (xLI 5) (sq (xCI 11 2 F_X12_alikeAt) (sq (xSI 6) (sq (xLI 6) (tIf1 (fun x => decide (x = 0)) 91 [true, false, true, true, true, true, false] 70 [true, false, true, true, true, true, true]))))))),
  (70, (sq (xLI 3) (tIf1 (fun x => decide (x < 0)) 84 [true, false, true, false, false, true, true] 74 [true, false, true, true, true, true, true]))),
  (74, (sq (xLI 6) (sq (xLI 4) (tIf2 (fun x y => decide (x < y)) 84 [true, false, true, false, false, true, true] 81 [true, false, true, true, true, true, false])))),
  (81, (tGo 91 [true, false, true, true, true, true, false])),
  (84, (sq (xLI 5) (sq (xSI 3) (sq (xLI 6) (sq (xSI 4) (tGo 91 [true, false, true, true, true, true, false])))))),
  (91, (sq (xInc 5 1) (tGo 46 [true, false, true, true, true, true, false]))),
  (97, (sq (xLI 2) (tIf1 (fun x => decide (¬ x = 0)) 105 [false, false, false, false, true, false, false] 101 [false, false, false, true, false, false, false]))),
  (101, (sq (xLI 3) (tGo 107 [false, false, false, false, false, false, false]))),
  (105, (sq (xLI 4) (tGo 107 [false, false, false, false, false, false, false]))),
  (107, tRI)]
set_option maxRecDepth 100000 in
set_option maxHeartbeats 4000000 in
theorem s_X12_look : ∀ X : XCtx, XE X → X.2.2.1.1 = cX12_look → X.2.2.1.2.1 = 7 → X.2.2.1.2.2.1 = yX12_look.cls → X.2.2.1.2.2.2.1 = (some .int) → X.1.2.2.2.1 = { frames := 6, cells := 0, slots := 0, locals := 149 } → SndBs X bs_X12_look := by
  rintro ⟨⟨p, l, e, R, s⟩, Y, ⟨cc, nL, own, ret, Ts⟩, Z⟩ hE h1 h2 h3 h4 h5
  dsimp only at h1 h2 h3 h4 h5
  subst h1 h2 h3 h4 h5
  exact ⟨(n_sq (n_aload_n hE dX12_look_0) (n_sq (n_cIv hE m_X12_isDale vc_X12_369 (show 0 + 1 ≤ 6 ∧ 8 + (1 + 11) + 0 ≤ 149 by decide) dX12_look_1) (n_ifeq hE (by decide) dX12_look_4))),
    (n_sq (n_iload_n hE dX12_look_7) (n_sq (n_i2l hE dX12_look_8) (n_sq (n_lconst hE (by decide) dX12_look_9) (n_sq (n_ldc2 hE wt_1468 dX12_look_10) (n_sq (n_cIs hE m_X12_in vc_X12_133 (show 0 + 1 ≤ 6 ∧ 8 + (6 + 11) + 0 ≤ 149 by decide) dX12_look_13) (n_ifeq hE (by decide) dX12_look_16)))))),
    (n_sq (n_iload_n hE dX12_look_19) (n_sq (n_i2l hE dX12_look_20) (n_sq (n_lconst hE (by decide) dX12_look_21) (n_sq (n_lconst hE (by decide) dX12_look_22) (n_sq (n_cIs hE m_X12_in vc_X12_133 (show 0 + 1 ≤ 6 ∧ 8 + (6 + 11) + 0 ≤ 149 by decide) dX12_look_23) (n_ifne hE (by decide) dX12_look_26)))))),
    (n_sq (n_iconst hE (by decide) dX12_look_29) (n_ireturn hE rfl dX12_look_30)),
    (n_sq (n_aload_n hE dX12_look_31) (n_sq (n_iload_n hE dX12_look_32) (n_sq (n_cVv hE m_X12_fillsFits vc_X12_446 (show 5 + 1 ≤ 6 ∧ 8 + (7 + 11) + 123 ≤ 149 by decide) dX12_look_33) (n_sq (n_bipush hE (by decide) dX12_look_36) (n_sq (n_istore_n hE (show (3 : Nat) < 7 by decide) dX12_look_38) (n_sq (n_bipush hE (by decide) dX12_look_39) (n_sq (n_istore hE (show (4 : Nat) < 7 by decide) dX12_look_41) (n_sq (n_iconst hE (by decide) dX12_look_43) (n_sq (n_istore hE (show (5 : Nat) < 7 by decide) dX12_look_44) n_fall))))))))),
    (n_sq (n_iload hE dX12_look_46) (n_sq (n_aload_n hE dX12_look_48) (n_sq (n_getS hE xk_11 (k := 20) rfl (by decide) rfl wt_980 dX12_look_49) (n_sq (n_iconst hE (by decide) dX12_look_52) (n_sq (n_iald hE rfl (by decide) dX12_look_53) (n_ifcge hE (by decide) dX12_look_54)))))),
    (n_sq (n_aload_n hE dX12_look_57) (n_sq (n_iload hE dX12_look_58) (n_sq (n_cIv hE m_X12_alikeAt vc_X12_449 (show 0 + 1 ≤ 6 ∧ 8 + (6 + 11) + 0 ≤ 149 by decide) dX12_look_60) (n_sq (n_istore hE (show (6 : Nat) < 7 by decide) dX12_look_63) (n_sq (n_iload hE dX12_look_65) (n_ifeq hE (by decide) dX12_look_67)))))),
    (n_sq (n_iload_n hE dX12_look_70) (n_iflt hE (by decide) dX12_look_71)),
    (n_sq (n_iload hE dX12_look_74) (n_sq (n_iload hE dX12_look_76) (n_ifclt hE (by decide) dX12_look_78))),
    (n_goto hE (by decide) dX12_look_81),
    (n_sq (n_iload hE dX12_look_84) (n_sq (n_istore_n hE (show (3 : Nat) < 7 by decide) dX12_look_86) (n_sq (n_iload hE dX12_look_87) (n_sq (n_istore hE (show (4 : Nat) < 7 by decide) dX12_look_89) n_fall)))),
    (n_sq (n_iinc hE (by decide) (show (5 : Nat) < 7 by decide) dX12_look_91) (n_goto hE (by decide) dX12_look_94)),
    (n_sq (n_iload_n hE dX12_look_97) (n_ifne hE (by decide) dX12_look_98)),
    (n_sq (n_iload_n hE dX12_look_101) (n_goto hE (by decide) dX12_look_102)),
    (n_sq (n_iload hE dX12_look_105) n_fall),
    (n_ireturn hE rfl dX12_look_107), trivial⟩
noncomputable def F_X12_look (as : List XV) (w : XW) : Option (Int32 × XW) := (xF 7 bs_X12_look as w).bind pI
theorem m_X12_look : XM yX12_look cX12_look 7 (some .int) 6 149 (eI F_X12_look) := xm_I (xm_of (by decide) s_X12_look)
noncomputable def q_X12_look_0 (x1 : Int32) (x2 : Int32) (w : XW) : Option XR := ev bs_X12_look 0 ([some (.inr (11, 0)), some (.inl (.int x1)), some (.inl (.int x2)), none, none, none, none], [], w)
noncomputable def q_X12_look_7 (x1 : Int32) (x2 : Int32) (w : XW) : Option XR := ev bs_X12_look 7 ([some (.inr (11, 0)), some (.inl (.int x1)), some (.inl (.int x2)), none, none, none, none], [], w)
noncomputable def q_X12_look_19 (x1 : Int32) (x2 : Int32) (w : XW) : Option XR := ev bs_X12_look 19 ([some (.inr (11, 0)), some (.inl (.int x1)), some (.inl (.int x2)), none, none, none, none], [], w)
noncomputable def q_X12_look_29 (w : XW) : Option XR := ev bs_X12_look 29 ([none, none, none, none, none, none, none], [], w)
noncomputable def q_X12_look_31 (x1 : Int32) (x2 : Int32) (w : XW) : Option XR := ev bs_X12_look 31 ([some (.inr (11, 0)), some (.inl (.int x1)), some (.inl (.int x2)), none, none, none, none], [], w)
noncomputable def q_X12_look_46 (x2 : Int32) (x3 : Int32) (x4 : Int32) (x5 : Int32) (w : XW) : Option XR := ev bs_X12_look 46 ([some (.inr (11, 0)), none, some (.inl (.int x2)), some (.inl (.int x3)), some (.inl (.int x4)), some (.inl (.int x5)), none], [], w)
noncomputable def q_X12_look_57 (x2 : Int32) (x3 : Int32) (x4 : Int32) (x5 : Int32) (w : XW) : Option XR := ev bs_X12_look 57 ([some (.inr (11, 0)), none, some (.inl (.int x2)), some (.inl (.int x3)), some (.inl (.int x4)), some (.inl (.int x5)), none], [], w)
noncomputable def q_X12_look_70 (x2 : Int32) (x3 : Int32) (x4 : Int32) (x5 : Int32) (x6 : Int32) (w : XW) : Option XR := ev bs_X12_look 70 ([some (.inr (11, 0)), none, some (.inl (.int x2)), some (.inl (.int x3)), some (.inl (.int x4)), some (.inl (.int x5)), some (.inl (.int x6))], [], w)
noncomputable def q_X12_look_74 (x2 : Int32) (x3 : Int32) (x4 : Int32) (x5 : Int32) (x6 : Int32) (w : XW) : Option XR := ev bs_X12_look 74 ([some (.inr (11, 0)), none, some (.inl (.int x2)), some (.inl (.int x3)), some (.inl (.int x4)), some (.inl (.int x5)), some (.inl (.int x6))], [], w)
noncomputable def q_X12_look_81 (x2 : Int32) (x3 : Int32) (x4 : Int32) (x5 : Int32) (w : XW) : Option XR := ev bs_X12_look 81 ([some (.inr (11, 0)), none, some (.inl (.int x2)), some (.inl (.int x3)), some (.inl (.int x4)), some (.inl (.int x5)), none], [], w)
noncomputable def q_X12_look_84 (x2 : Int32) (x5 : Int32) (x6 : Int32) (w : XW) : Option XR := ev bs_X12_look 84 ([some (.inr (11, 0)), none, some (.inl (.int x2)), none, none, some (.inl (.int x5)), some (.inl (.int x6))], [], w)
noncomputable def q_X12_look_91 (x2 : Int32) (x3 : Int32) (x4 : Int32) (x5 : Int32) (w : XW) : Option XR := ev bs_X12_look 91 ([some (.inr (11, 0)), none, some (.inl (.int x2)), some (.inl (.int x3)), some (.inl (.int x4)), some (.inl (.int x5)), none], [], w)
noncomputable def q_X12_look_97 (x2 : Int32) (x3 : Int32) (x4 : Int32) (w : XW) : Option XR := ev bs_X12_look 97 ([none, none, some (.inl (.int x2)), some (.inl (.int x3)), some (.inl (.int x4)), none, none], [], w)
noncomputable def q_X12_look_101 (x3 : Int32) (w : XW) : Option XR := ev bs_X12_look 101 ([none, none, none, some (.inl (.int x3)), none, none, none], [], w)
noncomputable def q_X12_look_105 (x4 : Int32) (w : XW) : Option XR := ev bs_X12_look 105 ([none, none, none, none, some (.inl (.int x4)), none, none], [], w)
noncomputable def q_X12_look_107 (s0 : Int32) (w : XW) : Option XR := ev bs_X12_look 107 ([none, none, none, none, none, none, none], [.inl (.int s0)], w)
set_option maxRecDepth 100000 in
theorem e_X12_look_0 (x1 : Int32) (x2 : Int32) (w : XW) : q_X12_look_0 x1 x2 w = ((F_X12_isDale [.inr (11, 0)] w).bind fun r0 => (bif decide (r0.1 = 0) then (q_X12_look_29 r0.2) else (q_X12_look_7 x1 x2 r0.2))) := (ev_eq _ _ _).trans rfl
set_option maxRecDepth 100000 in
theorem e_X12_look_7 (x1 : Int32) (x2 : Int32) (w : XW) : q_X12_look_7 x1 x2 w = ((F_X12_in [.inl (.long (x1 : Int32).toInt64), .inl (.long 0), .inl (.long 60)] w).bind fun r0 => (bif decide (r0.1 = 0) then (q_X12_look_29 r0.2) else (q_X12_look_19 x1 x2 r0.2))) := (ev_eq _ _ _).trans rfl
set_option maxRecDepth 100000 in
theorem e_X12_look_19 (x1 : Int32) (x2 : Int32) (w : XW) : q_X12_look_19 x1 x2 w = ((F_X12_in [.inl (.long (x2 : Int32).toInt64), .inl (.long 0), .inl (.long 1)] w).bind fun r0 => (bif decide (¬ r0.1 = 0) then (q_X12_look_31 x1 x2 r0.2) else (q_X12_look_29 r0.2))) := (ev_eq _ _ _).trans rfl
set_option maxRecDepth 100000 in
theorem e_X12_look_29 (w : XW) : q_X12_look_29 w = (some (some (.inl (.int (-1))), w)) := (ev_eq _ _ _).trans rfl
set_option maxRecDepth 100000 in
theorem e_X12_look_31 (x1 : Int32) (x2 : Int32) (w : XW) : q_X12_look_31 x1 x2 w = ((F_X12_fillsFits [.inr (11, 0), .inl (.int x1)] w).bind fun r0 => (q_X12_look_46 x2 (-2) (-2) 0 r0)) := (ev_eq _ _ _).trans rfl
set_option maxRecDepth 100000 in
theorem e_X12_look_46 (x2 : Int32) (x3 : Int32) (x4 : Int32) (x5 : Int32) (w : XW) : q_X12_look_46 x2 x3 x4 x5 w = (bif decide ((gI w 50 0 3) ≤ x5) then (q_X12_look_97 x2 x3 x4 w) else (q_X12_look_57 x2 x3 x4 x5 w)) := (ev_eq _ _ _).trans rfl
set_option maxRecDepth 100000 in
theorem e_X12_look_57 (x2 : Int32) (x3 : Int32) (x4 : Int32) (x5 : Int32) (w : XW) : q_X12_look_57 x2 x3 x4 x5 w = ((F_X12_alikeAt [.inr (11, 0), .inl (.int x5)] w).bind fun r0 => (bif decide (r0.1 = 0) then (q_X12_look_91 x2 x3 x4 x5 r0.2) else (q_X12_look_70 x2 x3 x4 x5 r0.1 r0.2))) := (ev_eq _ _ _).trans rfl
set_option maxRecDepth 100000 in
theorem e_X12_look_70 (x2 : Int32) (x3 : Int32) (x4 : Int32) (x5 : Int32) (x6 : Int32) (w : XW) : q_X12_look_70 x2 x3 x4 x5 x6 w = (bif decide (x3 < 0) then (q_X12_look_84 x2 x5 x6 w) else (q_X12_look_74 x2 x3 x4 x5 x6 w)) := (ev_eq _ _ _).trans rfl
set_option maxRecDepth 100000 in
theorem e_X12_look_74 (x2 : Int32) (x3 : Int32) (x4 : Int32) (x5 : Int32) (x6 : Int32) (w : XW) : q_X12_look_74 x2 x3 x4 x5 x6 w = (bif decide (x6 < x4) then (q_X12_look_84 x2 x5 x6 w) else (q_X12_look_81 x2 x3 x4 x5 w)) := (ev_eq _ _ _).trans rfl
set_option maxRecDepth 100000 in
theorem e_X12_look_81 (x2 : Int32) (x3 : Int32) (x4 : Int32) (x5 : Int32) (w : XW) : q_X12_look_81 x2 x3 x4 x5 w = (q_X12_look_91 x2 x3 x4 x5 w) := (ev_eq _ _ _).trans rfl
set_option maxRecDepth 100000 in
theorem e_X12_look_84 (x2 : Int32) (x5 : Int32) (x6 : Int32) (w : XW) : q_X12_look_84 x2 x5 x6 w = (q_X12_look_91 x2 x5 x6 x5 w) := (ev_eq _ _ _).trans rfl
set_option maxRecDepth 100000 in
theorem e_X12_look_91 (x2 : Int32) (x3 : Int32) (x4 : Int32) (x5 : Int32) (w : XW) : q_X12_look_91 x2 x3 x4 x5 w = (q_X12_look_46 x2 x3 x4 (x5 + 1) w) := (ev_eq _ _ _).trans rfl
set_option maxRecDepth 100000 in
theorem e_X12_look_97 (x2 : Int32) (x3 : Int32) (x4 : Int32) (w : XW) : q_X12_look_97 x2 x3 x4 w = (bif decide (¬ x2 = 0) then (q_X12_look_105 x4 w) else (q_X12_look_101 x3 w)) := (ev_eq _ _ _).trans rfl
set_option maxRecDepth 100000 in
theorem e_X12_look_101 (x3 : Int32) (w : XW) : q_X12_look_101 x3 w = (q_X12_look_107 x3 w) := (ev_eq _ _ _).trans rfl
set_option maxRecDepth 100000 in
theorem e_X12_look_105 (x4 : Int32) (w : XW) : q_X12_look_105 x4 w = (q_X12_look_107 x4 w) := (ev_eq _ _ _).trans rfl
set_option maxRecDepth 100000 in
theorem e_X12_look_107 (s0 : Int32) (w : XW) : q_X12_look_107 s0 w = (some (some (.inl (.int s0)), w)) := (ev_eq _ _ _).trans rfl
theorem f_X12_look (x1 : Int32) (x2 : Int32) (w : XW) : F_X12_look [.inr (11, 0), .inl (.int x1), .inl (.int x2)] w = (q_X12_look_0 x1 x2 w).bind pI := rfl

-- WinterKeepModel.seed(I)I
theorem dX12_seed_0 : decode cX12_seed 0 = .ok (.iload_n 1, 1) := by decide +kernel
theorem dX12_seed_1 : decode cX12_seed 1 = .ok (.ifCond .ge 5, 3) := by decide +kernel
theorem dX12_seed_4 : decode cX12_seed 4 = .ok (.iconst (-1), 1) := by decide +kernel
theorem dX12_seed_5 : decode cX12_seed 5 = .ok (.ireturn, 1) := by decide +kernel
theorem dX12_seed_6 : decode cX12_seed 6 = .ok (.aload_n 0, 1) := by decide +kernel
theorem dX12_seed_7 : decode cX12_seed 7 = .ok (.getfield 452, 3) := by decide +kernel
theorem dX12_seed_10 : decode cX12_seed 10 = .ok (.istore_n 2, 1) := by decide +kernel
theorem dX12_seed_11 : decode cX12_seed 11 = .ok (.aload_n 0, 1) := by decide +kernel
theorem dX12_seed_12 : decode cX12_seed 12 = .ok (.iload_n 1, 1) := by decide +kernel
theorem dX12_seed_13 : decode cX12_seed 13 = .ok (.putfield 452, 3) := by decide +kernel
theorem dX12_seed_16 : decode cX12_seed 16 = .ok (.iload_n 2, 1) := by decide +kernel
theorem dX12_seed_17 : decode cX12_seed 17 = .ok (.ireturn, 1) := by decide +kernel
noncomputable def bs_X12_seed : List (Nat × XB) := [
  (0, (sq (xLI 1) (tIf1 (fun x => decide (0 ≤ x)) 6 [true, true, false] 4 [false, false, false]))),
  (4, (sq (xC (.int (-1))) tRI)),
  (6, (sq (xLA 0) (sq (xGI 11 22) (sq (xSI 2) (sq (xLA 0) (sq (xLI 1) (sq (xPI 11 22) (sq (xLI 2) tRI))))))))]
set_option maxRecDepth 100000 in
set_option maxHeartbeats 4000000 in
theorem s_X12_seed : ∀ X : XCtx, XE X → X.2.2.1.1 = cX12_seed → X.2.2.1.2.1 = 3 → X.2.2.1.2.2.1 = yX12_seed.cls → X.2.2.1.2.2.2.1 = (some .int) → X.1.2.2.2.1 = { frames := 0, cells := 0, slots := 0, locals := 0 } → SndBs X bs_X12_seed := by
  rintro ⟨⟨p, l, e, R, s⟩, Y, ⟨cc, nL, own, ret, Ts⟩, Z⟩ hE h1 h2 h3 h4 h5
  dsimp only at h1 h2 h3 h4 h5
  subst h1 h2 h3 h4 h5
  exact ⟨(n_sq (n_iload_n hE dX12_seed_0) (n_ifge hE (by decide) dX12_seed_1)),
    (n_sq (n_iconst hE (by decide) dX12_seed_4) (n_ireturn hE rfl dX12_seed_5)),
    (n_sq (n_aload_n hE dX12_seed_6) (n_sq (n_getI hE xk_11 (k := 22) rfl (by decide) rfl wt_982 dX12_seed_7) (n_sq (n_istore_n hE (show (2 : Nat) < 3 by decide) dX12_seed_10) (n_sq (n_aload_n hE dX12_seed_11) (n_sq (n_iload_n hE dX12_seed_12) (n_sq (n_putI hE xk_11 (k := 22) rfl (by decide) rfl rfl (tyX12_ok 22 (by decide)) wt_982 dX12_seed_13) (n_sq (n_iload_n hE dX12_seed_16) (n_ireturn hE rfl dX12_seed_17)))))))), trivial⟩
noncomputable def F_X12_seed (as : List XV) (w : XW) : Option (Int32 × XW) := (xF 3 bs_X12_seed as w).bind pI
theorem m_X12_seed : XM yX12_seed cX12_seed 3 (some .int) 0 0 (eI F_X12_seed) := xm_I (xm_of (by decide) s_X12_seed)
noncomputable def q_X12_seed_0 (x1 : Int32) (w : XW) : Option XR := ev bs_X12_seed 0 ([some (.inr (11, 0)), some (.inl (.int x1)), none], [], w)
noncomputable def q_X12_seed_4 (w : XW) : Option XR := ev bs_X12_seed 4 ([none, none, none], [], w)
noncomputable def q_X12_seed_6 (x1 : Int32) (w : XW) : Option XR := ev bs_X12_seed 6 ([some (.inr (11, 0)), some (.inl (.int x1)), none], [], w)
theorem e_X12_seed_0 (x1 : Int32) (w : XW) : q_X12_seed_0 x1 w = (bif decide (0 ≤ x1) then (q_X12_seed_6 x1 w) else (q_X12_seed_4 w)) := (ev_eq _ _ _).trans rfl
theorem e_X12_seed_4 (w : XW) : q_X12_seed_4 w = (some (some (.inl (.int (-1))), w)) := (ev_eq _ _ _).trans rfl
theorem e_X12_seed_6 (x1 : Int32) (w : XW) : q_X12_seed_6 x1 w = (some (some (.inl (.int (gI w 11 0 22))), sI w 11 0 22 x1)) := (ev_eq _ _ _).trans rfl
theorem f_X12_seed (x1 : Int32) (w : XW) : F_X12_seed [.inr (11, 0), .inl (.int x1)] w = (q_X12_seed_0 x1 w).bind pI := rfl

-- WinterKeepModel.draw(I)I
theorem dX12_draw_0 : decode cX12_draw 0 = .ok (.aload_n 0, 1) := by decide +kernel
theorem dX12_draw_1 : decode cX12_draw 1 = .ok (.aload_n 0, 1) := by decide +kernel
theorem dX12_draw_2 : decode cX12_draw 2 = .ok (.getfield 455, 3) := by decide +kernel
theorem dX12_draw_5 : decode cX12_draw 5 = .ok (.ldc2_w 459, 3) := by decide +kernel
theorem dX12_draw_8 : decode cX12_draw 8 = .ok (.lmul, 1) := by decide +kernel
theorem dX12_draw_9 : decode cX12_draw 9 = .ok (.ldc2_w 461, 3) := by decide +kernel
theorem dX12_draw_12 : decode cX12_draw 12 = .ok (.ladd, 1) := by decide +kernel
theorem dX12_draw_13 : decode cX12_draw 13 = .ok (.ldc2_w 463, 3) := by decide +kernel
theorem dX12_draw_16 : decode cX12_draw 16 = .ok (.lrem, 1) := by decide +kernel
theorem dX12_draw_17 : decode cX12_draw 17 = .ok (.putfield 455, 3) := by decide +kernel
theorem dX12_draw_20 : decode cX12_draw 20 = .ok (.aload_n 0, 1) := by decide +kernel
theorem dX12_draw_21 : decode cX12_draw 21 = .ok (.getfield 455, 3) := by decide +kernel
theorem dX12_draw_24 : decode cX12_draw 24 = .ok (.ldc2_w 465, 3) := by decide +kernel
theorem dX12_draw_27 : decode cX12_draw 27 = .ok (.ldiv, 1) := by decide +kernel
theorem dX12_draw_28 : decode cX12_draw 28 = .ok (.iload_n 1, 1) := by decide +kernel
theorem dX12_draw_29 : decode cX12_draw 29 = .ok (.i2l, 1) := by decide +kernel
theorem dX12_draw_30 : decode cX12_draw 30 = .ok (.lrem, 1) := by decide +kernel
theorem dX12_draw_31 : decode cX12_draw 31 = .ok (.l2i, 1) := by decide +kernel
theorem dX12_draw_32 : decode cX12_draw 32 = .ok (.ireturn, 1) := by decide +kernel
noncomputable def bs_X12_draw : List (Nat × XB) := [
  (0, (sq (xLA 0) (sq (xLA 0) (sq (xGJ 11 38) (sq (xC (.long 1103515245)) (sq (xJ2 (· * ·)) (sq (xC (.long 12345)) (sq (xJ2 (· + ·)) (sq (xC (.long 2147483648)) (sq (xJ2z (fun x y => x - x / y * y)) (sq (xPJ 11 38) (sq (xLA 0) (sq (xGJ 11 38) (sq (xC (.long 65536)) (sq (xJ2z (· / ·)) (sq (xLI 1) (sq (xI2L) (sq (xJ2z (fun x y => x - x / y * y)) (sq (xL2I) tRI)))))))))))))))))))]
set_option maxRecDepth 100000 in
set_option maxHeartbeats 4000000 in
theorem s_X12_draw : ∀ X : XCtx, XE X → X.2.2.1.1 = cX12_draw → X.2.2.1.2.1 = 2 → X.2.2.1.2.2.1 = yX12_draw.cls → X.2.2.1.2.2.2.1 = (some .int) → X.1.2.2.2.1 = { frames := 0, cells := 0, slots := 0, locals := 0 } → SndBs X bs_X12_draw := by
  rintro ⟨⟨p, l, e, R, s⟩, Y, ⟨cc, nL, own, ret, Ts⟩, Z⟩ hE h1 h2 h3 h4 h5
  dsimp only at h1 h2 h3 h4 h5
  subst h1 h2 h3 h4 h5
  exact ⟨(n_sq (n_aload_n hE dX12_draw_0) (n_sq (n_aload_n hE dX12_draw_1) (n_sq (n_getJ hE xk_11 (k := 38) rfl (by decide) rfl wt_998 dX12_draw_2) (n_sq (n_ldc2 hE wt_1573 dX12_draw_5) (n_sq (n_lmul hE dX12_draw_8) (n_sq (n_ldc2 hE wt_1574 dX12_draw_9) (n_sq (n_ladd hE dX12_draw_12) (n_sq (n_ldc2 hE wt_1575 dX12_draw_13) (n_sq (n_lrem hE dX12_draw_16) (n_sq (n_putJ hE xk_11 (k := 38) rfl (by decide) rfl rfl (tyX12_ok 38 (by decide)) wt_998 dX12_draw_17) (n_sq (n_aload_n hE dX12_draw_20) (n_sq (n_getJ hE xk_11 (k := 38) rfl (by decide) rfl wt_998 dX12_draw_21) (n_sq (n_ldc2 hE wt_1576 dX12_draw_24) (n_sq (n_ldiv hE dX12_draw_27) (n_sq (n_iload_n hE dX12_draw_28) (n_sq (n_i2l hE dX12_draw_29) (n_sq (n_lrem hE dX12_draw_30) (n_sq (n_l2i hE dX12_draw_31) (n_ireturn hE rfl dX12_draw_32))))))))))))))))))), trivial⟩
noncomputable def F_X12_draw (as : List XV) (w : XW) : Option (Int32 × XW) := (xF 2 bs_X12_draw as w).bind pI
theorem m_X12_draw : XM yX12_draw cX12_draw 2 (some .int) 0 0 (eI F_X12_draw) := xm_I (xm_of (by decide) s_X12_draw)
noncomputable def q_X12_draw_0 (x1 : Int32) (w : XW) : Option XR := ev bs_X12_draw 0 ([some (.inr (11, 0)), some (.inl (.int x1))], [], w)
set_option maxRecDepth 100000 in
theorem e_X12_draw_0 (x1 : Int32) (w : XW) : q_X12_draw_0 x1 w = (if (x1 : Int32).toInt64 = 0 then none else (some (some (.inl (.int (((gJ (sJ w 11 0 38 ((((gJ w 11 0 38) * 1103515245) + 12345) - (((gJ w 11 0 38) * 1103515245) + 12345) / 2147483648 * 2147483648)) 11 0 38) / 65536) - ((gJ (sJ w 11 0 38 ((((gJ w 11 0 38) * 1103515245) + 12345) - (((gJ w 11 0 38) * 1103515245) + 12345) / 2147483648 * 2147483648)) 11 0 38) / 65536) / (x1 : Int32).toInt64 * (x1 : Int32).toInt64).toInt32)), sJ w 11 0 38 ((((gJ w 11 0 38) * 1103515245) + 12345) - (((gJ w 11 0 38) * 1103515245) + 12345) / 2147483648 * 2147483648)))) := (ev_eq _ _ _).trans rfl
theorem f_X12_draw (x1 : Int32) (w : XW) : F_X12_draw [.inr (11, 0), .inl (.int x1)] w = (q_X12_draw_0 x1 w).bind pI := rfl
