-- WinterKeep$Placings.find(LWinterKeep$Dale;LWinterKeep$Scene;)I
theorem dX6_find_0 : decode cX6_find 0 = .ok (.aload_n 1, 1) := by decide +kernel
theorem dX6_find_1 : decode cX6_find 1 = .ok (.aload_n 2, 1) := by decide +kernel
theorem dX6_find_2 : decode cX6_find 2 = .ok (.invokestatic 15, 3) := by decide +kernel
theorem dX6_find_5 : decode cX6_find 5 = .ok (.istore_n 3, 1) := by decide +kernel
theorem dX6_find_6 : decode cX6_find 6 = .ok (.iconst 0, 1) := by decide +kernel
theorem dX6_find_7 : decode cX6_find 7 = .ok (.istore 4, 2) := by decide +kernel
theorem dX6_find_9 : decode cX6_find 9 = .ok (.iload 4, 2) := by decide +kernel
theorem dX6_find_11 : decode cX6_find 11 = .ok (.bipush 16, 2) := by decide +kernel
theorem dX6_find_13 : decode cX6_find 13 = .ok (.if_icmp .ge 25, 3) := by decide +kernel
theorem dX6_find_16 : decode cX6_find 16 = .ok (.aload_n 0, 1) := by decide +kernel
theorem dX6_find_17 : decode cX6_find 17 = .ok (.getfield 11, 3) := by decide +kernel
theorem dX6_find_20 : decode cX6_find 20 = .ok (.aload_n 1, 1) := by decide +kernel
theorem dX6_find_21 : decode cX6_find 21 = .ok (.getfield 19, 3) := by decide +kernel
theorem dX6_find_24 : decode cX6_find 24 = .ok (.bipush 16, 2) := by decide +kernel
theorem dX6_find_26 : decode cX6_find 26 = .ok (.imul, 1) := by decide +kernel
theorem dX6_find_27 : decode cX6_find 27 = .ok (.iload 4, 2) := by decide +kernel
theorem dX6_find_29 : decode cX6_find 29 = .ok (.iadd, 1) := by decide +kernel
theorem dX6_find_30 : decode cX6_find 30 = .ok (.iconst 0, 1) := by decide +kernel
theorem dX6_find_31 : decode cX6_find 31 = .ok (.iastore, 1) := by decide +kernel
theorem dX6_find_32 : decode cX6_find 32 = .ok (.iinc 4 1, 3) := by decide +kernel
theorem dX6_find_35 : decode cX6_find 35 = .ok (.goto (-26), 3) := by decide +kernel
theorem dX6_find_38 : decode cX6_find 38 = .ok (.aload_n 1, 1) := by decide +kernel
theorem dX6_find_39 : decode cX6_find 39 = .ok (.getfield 19, 3) := by decide +kernel
theorem dX6_find_42 : decode cX6_find 42 = .ok (.iconst 1, 1) := by decide +kernel
theorem dX6_find_43 : decode cX6_find 43 = .ok (.isub, 1) := by decide +kernel
theorem dX6_find_44 : decode cX6_find 44 = .ok (.istore 4, 2) := by decide +kernel
theorem dX6_find_46 : decode cX6_find 46 = .ok (.iload 4, 2) := by decide +kernel
theorem dX6_find_48 : decode cX6_find 48 = .ok (.ifCond .lt 56, 3) := by decide +kernel
theorem dX6_find_51 : decode cX6_find 51 = .ok (.iconst 0, 1) := by decide +kernel
theorem dX6_find_52 : decode cX6_find 52 = .ok (.istore 5, 2) := by decide +kernel
theorem dX6_find_54 : decode cX6_find 54 = .ok (.iload 5, 2) := by decide +kernel
theorem dX6_find_56 : decode cX6_find 56 = .ok (.bipush 16, 2) := by decide +kernel
theorem dX6_find_58 : decode cX6_find 58 = .ok (.if_icmp .ge 40, 3) := by decide +kernel
theorem dX6_find_61 : decode cX6_find 61 = .ok (.iload 5, 2) := by decide +kernel
theorem dX6_find_63 : decode cX6_find 63 = .ok (.iload_n 3, 1) := by decide +kernel
theorem dX6_find_64 : decode cX6_find 64 = .ok (.iand, 1) := by decide +kernel
theorem dX6_find_65 : decode cX6_find 65 = .ok (.iload_n 3, 1) := by decide +kernel
theorem dX6_find_66 : decode cX6_find 66 = .ok (.if_icmp .ne 26, 3) := by decide +kernel
theorem dX6_find_69 : decode cX6_find 69 = .ok (.aload_n 0, 1) := by decide +kernel
theorem dX6_find_70 : decode cX6_find 70 = .ok (.getfield 11, 3) := by decide +kernel
theorem dX6_find_73 : decode cX6_find 73 = .ok (.iload 4, 2) := by decide +kernel
theorem dX6_find_75 : decode cX6_find 75 = .ok (.bipush 16, 2) := by decide +kernel
theorem dX6_find_77 : decode cX6_find 77 = .ok (.imul, 1) := by decide +kernel
theorem dX6_find_78 : decode cX6_find 78 = .ok (.iload 5, 2) := by decide +kernel
theorem dX6_find_80 : decode cX6_find 80 = .ok (.iadd, 1) := by decide +kernel
theorem dX6_find_81 : decode cX6_find 81 = .ok (.aload_n 0, 1) := by decide +kernel
theorem dX6_find_82 : decode cX6_find 82 = .ok (.aload_n 1, 1) := by decide +kernel
theorem dX6_find_83 : decode cX6_find 83 = .ok (.aload_n 2, 1) := by decide +kernel
theorem dX6_find_84 : decode cX6_find 84 = .ok (.iload 4, 2) := by decide +kernel
theorem dX6_find_86 : decode cX6_find 86 = .ok (.iload 5, 2) := by decide +kernel
theorem dX6_find_88 : decode cX6_find 88 = .ok (.invokevirtual 25, 3) := by decide +kernel
theorem dX6_find_91 : decode cX6_find 91 = .ok (.iastore, 1) := by decide +kernel
theorem dX6_find_92 : decode cX6_find 92 = .ok (.iinc 5 1, 3) := by decide +kernel
theorem dX6_find_95 : decode cX6_find 95 = .ok (.goto (-41), 3) := by decide +kernel
theorem dX6_find_98 : decode cX6_find 98 = .ok (.iinc 4 (-1), 3) := by decide +kernel
theorem dX6_find_101 : decode cX6_find 101 = .ok (.goto (-55), 3) := by decide +kernel
theorem dX6_find_104 : decode cX6_find 104 = .ok (.aload_n 0, 1) := by decide +kernel
theorem dX6_find_105 : decode cX6_find 105 = .ok (.getfield 11, 3) := by decide +kernel
theorem dX6_find_108 : decode cX6_find 108 = .ok (.iload_n 3, 1) := by decide +kernel
theorem dX6_find_109 : decode cX6_find 109 = .ok (.iaload, 1) := by decide +kernel
theorem dX6_find_110 : decode cX6_find 110 = .ok (.bipush 7, 2) := by decide +kernel
theorem dX6_find_112 : decode cX6_find 112 = .ok (.iadd, 1) := by decide +kernel
theorem dX6_find_113 : decode cX6_find 113 = .ok (.bipush 8, 2) := by decide +kernel
theorem dX6_find_115 : decode cX6_find 115 = .ok (.idiv, 1) := by decide +kernel
theorem dX6_find_116 : decode cX6_find 116 = .ok (.ireturn, 1) := by decide +kernel
theorem vc_X6_15 : XSw RX6 15 2 4 yX6_takenIn cX6_takenIn (some .int) := ⟨⟨by decide, by decide⟩, by decide +kernel, wt_777, wt_778, wt_7, wt_779⟩
theorem vc_X6_25 : XVw RX6 25 4 5 7 yX6_bestFrom cX6_bestFrom (some .int) := ⟨RX6, TX6, tyX6, 1, xk_5, rfl, ⟨by decide, by decide⟩, by decide +kernel, wt_781, wt_783, ws_23, wt_7, wt_784⟩
noncomputable def bs_X6_find : List (Nat × XB) := [
  (0, (sq (xLA 1) (sq (xLA 2) (sq (xCI 99 2 F_X6_takenIn) (sq (xSI 3) (sq (xC (.int 0)) (sq (xSI 4) (tGo 9 [true, true, true, true, true, false])))))))),
  (9, (sq (xLI 4) (sq (xC (.int 16)) (tIf2 (fun x y => decide (y ≤ x)) 38 [true, true, true, true, false, false] 16 [true, true, true, true, true, false])))),
  (16, (sq (xLA 0) (sq (xGS 5 25 0 0) (sq (xLA 1) (sq (xGI 1 3) (sq (xC (.int 16)) (sq (xI2 (· * ·)) (sq (xLI 4) (sq (xI2 (· + ·)) (sq (xC (.int 0)) (sq (xTI 25 112 (fun x => x)) (sq (xInc 4 1) (tGo 9 [true, true, true, true, true, false]))))))))))))),
  (38, (sq (xLA 1) (sq (xGI 1 3) (sq (xC (.int 1)) (sq (xI2 (· - ·)) (sq (xSI 4) (tGo 46 [true, true, true, true, true, false]))))))),
  (46, (sq (xLI 4) (tIf1 (fun x => decide (x < 0)) 104 [true, false, false, true, false, false] 51 [true, true, true, true, true, false]))),
  (51, (sq (xC (.int 0)) (sq (xSI 5) (tGo 54 [true, true, true, true, true, true])))),
  (54, (sq (xLI 5) (sq (xC (.int 16)) (tIf2 (fun x y => decide (y ≤ x)) 98 [true, true, true, true, true, false] 61 [true, true, true, true, true, true])))),
  (61, (sq (xLI 5) (sq (xLI 3) (sq (xI2 (· &&& ·)) (sq (xLI 3) (tIf2 (fun x y => decide (¬ x = y)) 92 [true, true, true, true, true, true] 69 [true, true, true, true, true, true])))))),
  (69, (sq (xLA 0) (sq (xGS 5 25 0 0) (sq (xLI 4) (sq (xC (.int 16)) (sq (xI2 (· * ·)) (sq (xLI 5) (sq (xI2 (· + ·)) (sq (xLA 0) (sq (xLA 1) (sq (xLA 2) (sq (xLI 4) (sq (xLI 5) (sq (xCI 5 5 F_X6_bestFrom) (sq (xTI 25 112 (fun x => x)) (tGo 92 [true, true, true, true, true, true])))))))))))))))),
  (92, (sq (xInc 5 1) (tGo 54 [true, true, true, true, true, true]))),
  (98, (sq (xInc 4 (-1)) (tGo 46 [true, true, true, true, true, false]))),
  (104, (sq (xLA 0) (sq (xGS 5 25 0 0) (sq (xLI 3) (sq (xAI 25 112) (sq (xC (.int 7)) (sq (xI2 (· + ·)) (sq (xC (.int 8)) (sq (xI2z (· / ·)) tRI)))))))))]
set_option maxRecDepth 100000 in
set_option maxHeartbeats 4000000 in
theorem s_X6_find : ∀ X : XCtx, XE X → X.2.2.1.1 = cX6_find → X.2.2.1.2.1 = 6 → X.2.2.1.2.2.1 = yX6_find.cls → X.2.2.1.2.2.2.1 = (some .int) → X.1.2.2.2.1 = { frames := 3, cells := 0, slots := 0, locals := 76 } → SndBs X bs_X6_find := by
  rintro ⟨⟨p, l, e, R, s⟩, Y, ⟨cc, nL, own, ret, Ts⟩, Z⟩ hE h1 h2 h3 h4 h5
  dsimp only at h1 h2 h3 h4 h5
  subst h1 h2 h3 h4 h5
  exact ⟨(n_sq (n_aload_n hE dX6_find_0) (n_sq (n_aload_n hE dX6_find_1) (n_sq (n_cIs hE m_X6_takenIn vc_X6_15 (show 1 + 1 ≤ 3 ∧ 8 + (4 + 11) + 22 ≤ 76 by decide) dX6_find_2) (n_sq (n_istore_n hE (show (3 : Nat) < 6 by decide) dX6_find_5) (n_sq (n_iconst hE (by decide) dX6_find_6) (n_sq (n_istore hE (show (4 : Nat) < 6 by decide) dX6_find_7) n_fall)))))),
    (n_sq (n_iload hE dX6_find_9) (n_sq (n_bipush hE (by decide) dX6_find_11) (n_ifcge hE (by decide) dX6_find_13))),
    (n_sq (n_aload_n hE dX6_find_16) (n_sq (n_getS hE xk_5 (k := 0) rfl (by decide) rfl wt_244 dX6_find_17) (n_sq (n_aload_n hE dX6_find_20) (n_sq (n_getI hE xk_1 (k := 3) rfl (by decide) rfl wt_107 dX6_find_21) (n_sq (n_bipush hE (by decide) dX6_find_24) (n_sq (n_imul hE dX6_find_26) (n_sq (n_iload hE dX6_find_27) (n_sq (n_iadd hE dX6_find_29) (n_sq (n_iconst hE (by decide) dX6_find_30) (n_sq (n_iast hE rfl (by decide) dX6_find_31) (n_sq (n_iinc hE (by decide) (show (4 : Nat) < 6 by decide) dX6_find_32) (n_goto hE (by decide) dX6_find_35)))))))))))),
    (n_sq (n_aload_n hE dX6_find_38) (n_sq (n_getI hE xk_1 (k := 3) rfl (by decide) rfl wt_107 dX6_find_39) (n_sq (n_iconst hE (by decide) dX6_find_42) (n_sq (n_isub hE dX6_find_43) (n_sq (n_istore hE (show (4 : Nat) < 6 by decide) dX6_find_44) n_fall))))),
    (n_sq (n_iload hE dX6_find_46) (n_iflt hE (by decide) dX6_find_48)),
    (n_sq (n_iconst hE (by decide) dX6_find_51) (n_sq (n_istore hE (show (5 : Nat) < 6 by decide) dX6_find_52) n_fall)),
    (n_sq (n_iload hE dX6_find_54) (n_sq (n_bipush hE (by decide) dX6_find_56) (n_ifcge hE (by decide) dX6_find_58))),
    (n_sq (n_iload hE dX6_find_61) (n_sq (n_iload_n hE dX6_find_63) (n_sq (n_iand hE dX6_find_64) (n_sq (n_iload_n hE dX6_find_65) (n_ifcne hE (by decide) dX6_find_66))))),
    (n_sq (n_aload_n hE dX6_find_69) (n_sq (n_getS hE xk_5 (k := 0) rfl (by decide) rfl wt_244 dX6_find_70) (n_sq (n_iload hE dX6_find_73) (n_sq (n_bipush hE (by decide) dX6_find_75) (n_sq (n_imul hE dX6_find_77) (n_sq (n_iload hE dX6_find_78) (n_sq (n_iadd hE dX6_find_80) (n_sq (n_aload_n hE dX6_find_81) (n_sq (n_aload_n hE dX6_find_82) (n_sq (n_aload_n hE dX6_find_83) (n_sq (n_iload hE dX6_find_84) (n_sq (n_iload hE dX6_find_86) (n_sq (n_cIv hE m_X6_bestFrom vc_X6_25 (show 2 + 1 ≤ 3 ∧ 8 + (7 + 11) + 50 ≤ 76 by decide) dX6_find_88) (n_sq (n_iast hE rfl (by decide) dX6_find_91) n_fall)))))))))))))),
    (n_sq (n_iinc hE (by decide) (show (5 : Nat) < 6 by decide) dX6_find_92) (n_goto hE (by decide) dX6_find_95)),
    (n_sq (n_iinc hE (by decide) (show (4 : Nat) < 6 by decide) dX6_find_98) (n_goto hE (by decide) dX6_find_101)),
    (n_sq (n_aload_n hE dX6_find_104) (n_sq (n_getS hE xk_5 (k := 0) rfl (by decide) rfl wt_244 dX6_find_105) (n_sq (n_iload_n hE dX6_find_108) (n_sq (n_iald hE rfl (by decide) dX6_find_109) (n_sq (n_bipush hE (by decide) dX6_find_110) (n_sq (n_iadd hE dX6_find_112) (n_sq (n_bipush hE (by decide) dX6_find_113) (n_sq (n_idiv hE dX6_find_115) (n_ireturn hE rfl dX6_find_116))))))))), trivial⟩
noncomputable def F_X6_find (as : List XV) (w : XW) : Option (Int32 × XW) := (xF 6 bs_X6_find as w).bind pI
theorem m_X6_find : XM yX6_find cX6_find 6 (some .int) 3 76 (eI F_X6_find) := xm_I (xm_of (by decide) s_X6_find)
noncomputable def q_X6_find_0 (i1 : Nat) (i2 : Nat) (w : XW) : Option XR := ev bs_X6_find 0 ([some (.inr (5, 0)), some (.inr (1, i1)), some (.inr (8, i2)), none, none, none], [], w)
noncomputable def q_X6_find_9 (i1 : Nat) (i2 : Nat) (x3 : Int32) (x4 : Int32) (w : XW) : Option XR := ev bs_X6_find 9 ([some (.inr (5, 0)), some (.inr (1, i1)), some (.inr (8, i2)), some (.inl (.int x3)), some (.inl (.int x4)), none], [], w)
noncomputable def q_X6_find_16 (i1 : Nat) (i2 : Nat) (x3 : Int32) (x4 : Int32) (w : XW) : Option XR := ev bs_X6_find 16 ([some (.inr (5, 0)), some (.inr (1, i1)), some (.inr (8, i2)), some (.inl (.int x3)), some (.inl (.int x4)), none], [], w)
noncomputable def q_X6_find_38 (i1 : Nat) (i2 : Nat) (x3 : Int32) (w : XW) : Option XR := ev bs_X6_find 38 ([some (.inr (5, 0)), some (.inr (1, i1)), some (.inr (8, i2)), some (.inl (.int x3)), none, none], [], w)
noncomputable def q_X6_find_46 (i1 : Nat) (i2 : Nat) (x3 : Int32) (x4 : Int32) (w : XW) : Option XR := ev bs_X6_find 46 ([some (.inr (5, 0)), some (.inr (1, i1)), some (.inr (8, i2)), some (.inl (.int x3)), some (.inl (.int x4)), none], [], w)
noncomputable def q_X6_find_51 (i1 : Nat) (i2 : Nat) (x3 : Int32) (x4 : Int32) (w : XW) : Option XR := ev bs_X6_find 51 ([some (.inr (5, 0)), some (.inr (1, i1)), some (.inr (8, i2)), some (.inl (.int x3)), some (.inl (.int x4)), none], [], w)
noncomputable def q_X6_find_54 (i1 : Nat) (i2 : Nat) (x3 : Int32) (x4 : Int32) (x5 : Int32) (w : XW) : Option XR := ev bs_X6_find 54 ([some (.inr (5, 0)), some (.inr (1, i1)), some (.inr (8, i2)), some (.inl (.int x3)), some (.inl (.int x4)), some (.inl (.int x5))], [], w)
noncomputable def q_X6_find_61 (i1 : Nat) (i2 : Nat) (x3 : Int32) (x4 : Int32) (x5 : Int32) (w : XW) : Option XR := ev bs_X6_find 61 ([some (.inr (5, 0)), some (.inr (1, i1)), some (.inr (8, i2)), some (.inl (.int x3)), some (.inl (.int x4)), some (.inl (.int x5))], [], w)
noncomputable def q_X6_find_69 (i1 : Nat) (i2 : Nat) (x3 : Int32) (x4 : Int32) (x5 : Int32) (w : XW) : Option XR := ev bs_X6_find 69 ([some (.inr (5, 0)), some (.inr (1, i1)), some (.inr (8, i2)), some (.inl (.int x3)), some (.inl (.int x4)), some (.inl (.int x5))], [], w)
noncomputable def q_X6_find_92 (i1 : Nat) (i2 : Nat) (x3 : Int32) (x4 : Int32) (x5 : Int32) (w : XW) : Option XR := ev bs_X6_find 92 ([some (.inr (5, 0)), some (.inr (1, i1)), some (.inr (8, i2)), some (.inl (.int x3)), some (.inl (.int x4)), some (.inl (.int x5))], [], w)
noncomputable def q_X6_find_98 (i1 : Nat) (i2 : Nat) (x3 : Int32) (x4 : Int32) (w : XW) : Option XR := ev bs_X6_find 98 ([some (.inr (5, 0)), some (.inr (1, i1)), some (.inr (8, i2)), some (.inl (.int x3)), some (.inl (.int x4)), none], [], w)
noncomputable def q_X6_find_104 (x3 : Int32) (w : XW) : Option XR := ev bs_X6_find 104 ([some (.inr (5, 0)), none, none, some (.inl (.int x3)), none, none], [], w)
theorem e_X6_find_0 (i1 : Nat) (i2 : Nat) (w : XW) : q_X6_find_0 i1 i2 w = ((F_X6_takenIn [.inr (1, i1), .inr (8, i2)] w).bind fun r0 => (q_X6_find_9 i1 i2 r0.1 0 r0.2)) := (ev_eq _ _ _).trans rfl
theorem e_X6_find_9 (i1 : Nat) (i2 : Nat) (x3 : Int32) (x4 : Int32) (w : XW) : q_X6_find_9 i1 i2 x3 x4 w = (bif decide (16 ≤ x4) then (q_X6_find_38 i1 i2 x3 w) else (q_X6_find_16 i1 i2 x3 x4 w)) := (ev_eq _ _ _).trans rfl
theorem e_X6_find_16 (i1 : Nat) (i2 : Nat) (x3 : Int32) (x4 : Int32) (w : XW) : q_X6_find_16 i1 i2 x3 x4 w = (if (((gI w 1 i1 3) * 16) + x4) < 0 ∨ 112 ≤ (((gI w 1 i1 3) * 16) + x4).toNatClampNeg then none else (q_X6_find_9 i1 i2 x3 (x4 + 1) (sI w 25 0 ((((gI w 1 i1 3) * 16) + x4).toNatClampNeg) 0))) := (ev_eq _ _ _).trans rfl
theorem e_X6_find_38 (i1 : Nat) (i2 : Nat) (x3 : Int32) (w : XW) : q_X6_find_38 i1 i2 x3 w = (q_X6_find_46 i1 i2 x3 ((gI w 1 i1 3) - 1) w) := (ev_eq _ _ _).trans rfl
theorem e_X6_find_46 (i1 : Nat) (i2 : Nat) (x3 : Int32) (x4 : Int32) (w : XW) : q_X6_find_46 i1 i2 x3 x4 w = (bif decide (x4 < 0) then (q_X6_find_104 x3 w) else (q_X6_find_51 i1 i2 x3 x4 w)) := (ev_eq _ _ _).trans rfl
theorem e_X6_find_51 (i1 : Nat) (i2 : Nat) (x3 : Int32) (x4 : Int32) (w : XW) : q_X6_find_51 i1 i2 x3 x4 w = (q_X6_find_54 i1 i2 x3 x4 0 w) := (ev_eq _ _ _).trans rfl
theorem e_X6_find_54 (i1 : Nat) (i2 : Nat) (x3 : Int32) (x4 : Int32) (x5 : Int32) (w : XW) : q_X6_find_54 i1 i2 x3 x4 x5 w = (bif decide (16 ≤ x5) then (q_X6_find_98 i1 i2 x3 x4 w) else (q_X6_find_61 i1 i2 x3 x4 x5 w)) := (ev_eq _ _ _).trans rfl
theorem e_X6_find_61 (i1 : Nat) (i2 : Nat) (x3 : Int32) (x4 : Int32) (x5 : Int32) (w : XW) : q_X6_find_61 i1 i2 x3 x4 x5 w = (bif decide (¬ (x5 &&& x3) = x3) then (q_X6_find_92 i1 i2 x3 x4 x5 w) else (q_X6_find_69 i1 i2 x3 x4 x5 w)) := (ev_eq _ _ _).trans rfl
theorem e_X6_find_69 (i1 : Nat) (i2 : Nat) (x3 : Int32) (x4 : Int32) (x5 : Int32) (w : XW) : q_X6_find_69 i1 i2 x3 x4 x5 w = ((F_X6_bestFrom [.inr (5, 0), .inr (1, i1), .inr (8, i2), .inl (.int x4), .inl (.int x5)] w).bind fun r0 => (if ((x4 * 16) + x5) < 0 ∨ 112 ≤ ((x4 * 16) + x5).toNatClampNeg then none else (q_X6_find_92 i1 i2 x3 x4 x5 (sI r0.2 25 0 (((x4 * 16) + x5).toNatClampNeg) r0.1)))) := (ev_eq _ _ _).trans rfl
theorem e_X6_find_92 (i1 : Nat) (i2 : Nat) (x3 : Int32) (x4 : Int32) (x5 : Int32) (w : XW) : q_X6_find_92 i1 i2 x3 x4 x5 w = (q_X6_find_54 i1 i2 x3 x4 (x5 + 1) w) := (ev_eq _ _ _).trans rfl
theorem e_X6_find_98 (i1 : Nat) (i2 : Nat) (x3 : Int32) (x4 : Int32) (w : XW) : q_X6_find_98 i1 i2 x3 x4 w = (q_X6_find_46 i1 i2 x3 (x4 + (-1)) w) := (ev_eq _ _ _).trans rfl
theorem e_X6_find_104 (x3 : Int32) (w : XW) : q_X6_find_104 x3 w = (if x3 < 0 ∨ 112 ≤ x3.toNatClampNeg then none else (some (some (.inl (.int (((gI w 25 0 x3.toNatClampNeg) + 7) / 8))), w))) := (ev_eq _ _ _).trans rfl
theorem f_X6_find (i1 : Nat) (i2 : Nat) (w : XW) : F_X6_find [.inr (5, 0), .inr (1, i1), .inr (8, i2)] w = (q_X6_find_0 i1 i2 w).bind pI := rfl

-- WinterKeep$Placings.firstBest(LWinterKeep$Dale;LWinterKeep$Scene;II)I
theorem dX6_firstBest_0 : decode cX6_firstBest 0 = .ok (.aload_n 0, 1) := by decide +kernel
theorem dX6_firstBest_1 : decode cX6_firstBest 1 = .ok (.getfield 11, 3) := by decide +kernel
theorem dX6_firstBest_4 : decode cX6_firstBest 4 = .ok (.iload_n 3, 1) := by decide +kernel
theorem dX6_firstBest_5 : decode cX6_firstBest 5 = .ok (.bipush 16, 2) := by decide +kernel
theorem dX6_firstBest_7 : decode cX6_firstBest 7 = .ok (.imul, 1) := by decide +kernel
theorem dX6_firstBest_8 : decode cX6_firstBest 8 = .ok (.iload 4, 2) := by decide +kernel
theorem dX6_firstBest_10 : decode cX6_firstBest 10 = .ok (.iadd, 1) := by decide +kernel
theorem dX6_firstBest_11 : decode cX6_firstBest 11 = .ok (.iaload, 1) := by decide +kernel
theorem dX6_firstBest_12 : decode cX6_firstBest 12 = .ok (.istore 5, 2) := by decide +kernel
theorem dX6_firstBest_14 : decode cX6_firstBest 14 = .ok (.aload_n 2, 1) := by decide +kernel
theorem dX6_firstBest_15 : decode cX6_firstBest 15 = .ok (.getfield 41, 3) := by decide +kernel
theorem dX6_firstBest_18 : decode cX6_firstBest 18 = .ok (.iload_n 3, 1) := by decide +kernel
theorem dX6_firstBest_19 : decode cX6_firstBest 19 = .ok (.iaload, 1) := by decide +kernel
theorem dX6_firstBest_20 : decode cX6_firstBest 20 = .ok (.iconst (-1), 1) := by decide +kernel
theorem dX6_firstBest_21 : decode cX6_firstBest 21 = .ok (.if_icmp .ne 22, 3) := by decide +kernel
theorem dX6_firstBest_24 : decode cX6_firstBest 24 = .ok (.aload_n 0, 1) := by decide +kernel
theorem dX6_firstBest_25 : decode cX6_firstBest 25 = .ok (.getfield 11, 3) := by decide +kernel
theorem dX6_firstBest_28 : decode cX6_firstBest 28 = .ok (.iload_n 3, 1) := by decide +kernel
theorem dX6_firstBest_29 : decode cX6_firstBest 29 = .ok (.iconst 1, 1) := by decide +kernel
theorem dX6_firstBest_30 : decode cX6_firstBest 30 = .ok (.iadd, 1) := by decide +kernel
theorem dX6_firstBest_31 : decode cX6_firstBest 31 = .ok (.bipush 16, 2) := by decide +kernel
theorem dX6_firstBest_33 : decode cX6_firstBest 33 = .ok (.imul, 1) := by decide +kernel
theorem dX6_firstBest_34 : decode cX6_firstBest 34 = .ok (.iload 4, 2) := by decide +kernel
theorem dX6_firstBest_36 : decode cX6_firstBest 36 = .ok (.iadd, 1) := by decide +kernel
theorem dX6_firstBest_37 : decode cX6_firstBest 37 = .ok (.iaload, 1) := by decide +kernel
theorem dX6_firstBest_38 : decode cX6_firstBest 38 = .ok (.iload 5, 2) := by decide +kernel
theorem dX6_firstBest_40 : decode cX6_firstBest 40 = .ok (.if_icmp .ne 5, 3) := by decide +kernel
theorem dX6_firstBest_43 : decode cX6_firstBest 43 = .ok (.iconst (-1), 1) := by decide +kernel
theorem dX6_firstBest_44 : decode cX6_firstBest 44 = .ok (.ireturn, 1) := by decide +kernel
theorem dX6_firstBest_45 : decode cX6_firstBest 45 = .ok (.iconst 0, 1) := by decide +kernel
theorem dX6_firstBest_46 : decode cX6_firstBest 46 = .ok (.istore 6, 2) := by decide +kernel
theorem dX6_firstBest_48 : decode cX6_firstBest 48 = .ok (.iload 6, 2) := by decide +kernel
theorem dX6_firstBest_50 : decode cX6_firstBest 50 = .ok (.aload_n 1, 1) := by decide +kernel
theorem dX6_firstBest_51 : decode cX6_firstBest 51 = .ok (.getfield 32, 3) := by decide +kernel
theorem dX6_firstBest_54 : decode cX6_firstBest 54 = .ok (.if_icmp .ge 38, 3) := by decide +kernel
theorem dX6_firstBest_57 : decode cX6_firstBest 57 = .ok (.iload 4, 2) := by decide +kernel
theorem dX6_firstBest_59 : decode cX6_firstBest 59 = .ok (.iload 6, 2) := by decide +kernel
theorem dX6_firstBest_61 : decode cX6_firstBest 61 = .ok (.ishr, 1) := by decide +kernel
theorem dX6_firstBest_62 : decode cX6_firstBest 62 = .ok (.iconst 1, 1) := by decide +kernel
theorem dX6_firstBest_63 : decode cX6_firstBest 63 = .ok (.iand, 1) := by decide +kernel
theorem dX6_firstBest_64 : decode cX6_firstBest 64 = .ok (.ifCond .ne 22, 3) := by decide +kernel
theorem dX6_firstBest_67 : decode cX6_firstBest 67 = .ok (.aload_n 0, 1) := by decide +kernel
theorem dX6_firstBest_68 : decode cX6_firstBest 68 = .ok (.aload_n 1, 1) := by decide +kernel
theorem dX6_firstBest_69 : decode cX6_firstBest 69 = .ok (.aload_n 2, 1) := by decide +kernel
theorem dX6_firstBest_70 : decode cX6_firstBest 70 = .ok (.iload_n 3, 1) := by decide +kernel
theorem dX6_firstBest_71 : decode cX6_firstBest 71 = .ok (.iload 4, 2) := by decide +kernel
theorem dX6_firstBest_73 : decode cX6_firstBest 73 = .ok (.iload 6, 2) := by decide +kernel
theorem dX6_firstBest_75 : decode cX6_firstBest 75 = .ok (.invokevirtual 44, 3) := by decide +kernel
theorem dX6_firstBest_78 : decode cX6_firstBest 78 = .ok (.iload 5, 2) := by decide +kernel
theorem dX6_firstBest_80 : decode cX6_firstBest 80 = .ok (.if_icmp .ne 6, 3) := by decide +kernel
theorem dX6_firstBest_83 : decode cX6_firstBest 83 = .ok (.iload 6, 2) := by decide +kernel
theorem dX6_firstBest_85 : decode cX6_firstBest 85 = .ok (.ireturn, 1) := by decide +kernel
theorem dX6_firstBest_86 : decode cX6_firstBest 86 = .ok (.iinc 6 1, 3) := by decide +kernel
theorem dX6_firstBest_89 : decode cX6_firstBest 89 = .ok (.goto (-41), 3) := by decide +kernel
theorem dX6_firstBest_92 : decode cX6_firstBest 92 = .ok (.iconst (-1), 1) := by decide +kernel
theorem dX6_firstBest_93 : decode cX6_firstBest 93 = .ok (.ireturn, 1) := by decide +kernel
noncomputable def bs_X6_firstBest : List (Nat × XB) := [
  (0, (sq (xLA 0) (sq (xGS 5 25 0 0) (sq (xLI 3) (sq (xC (.int 16)) (sq (xI2 (· * ·)) (sq (xLI 4) (sq (xI2 (· + ·)) (sq (xAI 25 112) (sq (xSI 5) (sq (xLA 2) (sq (xGS 8 32 0 0) (sq (xLI 3) (sq (xAI 32 6) (sq (xC (.int (-1))) (tIf2 (fun x y => decide (¬ x = y)) 43 [false, false, false, false, false, false, false] 24 [true, true, true, true, true, true, false])))))))))))))))),
  (24, (sq (xLA 0) (sq (xGS 5 25 0 0) (sq (xLI 3) (sq (xC (.int 1)) (sq (xI2 (· + ·)) (sq (xC (.int 16)) (sq (xI2 (· * ·)) (sq (xLI 4) (sq (xI2 (· + ·)) (sq (xAI 25 112) (sq (xLI 5) (tIf2 (fun x y => decide (¬ x = y)) 45 [true, true, true, true, true, true, false] 43 [false, false, false, false, false, false, false]))))))))))))),
  (43, (sq (xC (.int (-1))) tRI)),
  (45, (sq (xC (.int 0)) (sq (xSI 6) (tGo 48 [true, true, true, true, true, true, true])))),
  (48, (sq (xLI 6) (sq (xLA 1) (sq (xGI 1 5) (tIf2 (fun x y => decide (y ≤ x)) 92 [false, false, false, false, false, false, false] 57 [true, true, true, true, true, true, true]))))),
  (57, (sq (xLI 4) (sq (xLI 6) (sq (xI2 (fun x y => x >>> (y &&& 31))) (sq (xC (.int 1)) (sq (xI2 (· &&& ·)) (tIf1 (fun x => decide (¬ x = 0)) 86 [true, true, true, true, true, true, true] 67 [true, true, true, true, true, true, true]))))))),
  (67, (sq (xLA 0) (sq (xLA 1) (sq (xLA 2) (sq (xLI 3) (sq (xLI 4) (sq (xLI 6) (sq (xCI 5 6 F_X6_bestWith) (sq (xLI 5) (tIf2 (fun x y => decide (¬ x = y)) 86 [true, true, true, true, true, true, true] 83 [false, false, false, false, false, false, true])))))))))),
  (83, (sq (xLI 6) tRI)),
  (86, (sq (xInc 6 1) (tGo 48 [true, true, true, true, true, true, true]))),
  (92, (sq (xC (.int (-1))) tRI))]
set_option maxRecDepth 100000 in
set_option maxHeartbeats 4000000 in
theorem s_X6_firstBest : ∀ X : XCtx, XE X → X.2.2.1.1 = cX6_firstBest → X.2.2.1.2.1 = 7 → X.2.2.1.2.2.1 = yX6_firstBest.cls → X.2.2.1.2.2.2.1 = (some .int) → X.1.2.2.2.1 = { frames := 2, cells := 0, slots := 0, locals := 50 } → SndBs X bs_X6_firstBest := by
  rintro ⟨⟨p, l, e, R, s⟩, Y, ⟨cc, nL, own, ret, Ts⟩, Z⟩ hE h1 h2 h3 h4 h5
  dsimp only at h1 h2 h3 h4 h5
  subst h1 h2 h3 h4 h5
  exact ⟨(n_sq (n_aload_n hE dX6_firstBest_0) (n_sq (n_getS hE xk_5 (k := 0) rfl (by decide) rfl wt_244 dX6_firstBest_1) (n_sq (n_iload_n hE dX6_firstBest_4) (n_sq (n_bipush hE (by decide) dX6_firstBest_5) (n_sq (n_imul hE dX6_firstBest_7) (n_sq (n_iload hE dX6_firstBest_8) (n_sq (n_iadd hE dX6_firstBest_10) (n_sq (n_iald hE rfl (by decide) dX6_firstBest_11) (n_sq (n_istore hE (show (5 : Nat) < 7 by decide) dX6_firstBest_12) (n_sq (n_aload_n hE dX6_firstBest_14) (n_sq (n_getS hE xk_8 (k := 4) rfl (by decide) rfl wt_189 dX6_firstBest_15) (n_sq (n_iload_n hE dX6_firstBest_18) (n_sq (n_iald hE rfl (by decide) dX6_firstBest_19) (n_sq (n_iconst hE (by decide) dX6_firstBest_20) (n_ifcne hE (by decide) dX6_firstBest_21))))))))))))))),
    (n_sq (n_aload_n hE dX6_firstBest_24) (n_sq (n_getS hE xk_5 (k := 0) rfl (by decide) rfl wt_244 dX6_firstBest_25) (n_sq (n_iload_n hE dX6_firstBest_28) (n_sq (n_iconst hE (by decide) dX6_firstBest_29) (n_sq (n_iadd hE dX6_firstBest_30) (n_sq (n_bipush hE (by decide) dX6_firstBest_31) (n_sq (n_imul hE dX6_firstBest_33) (n_sq (n_iload hE dX6_firstBest_34) (n_sq (n_iadd hE dX6_firstBest_36) (n_sq (n_iald hE rfl (by decide) dX6_firstBest_37) (n_sq (n_iload hE dX6_firstBest_38) (n_ifcne hE (by decide) dX6_firstBest_40)))))))))))),
    (n_sq (n_iconst hE (by decide) dX6_firstBest_43) (n_ireturn hE rfl dX6_firstBest_44)),
    (n_sq (n_iconst hE (by decide) dX6_firstBest_45) (n_sq (n_istore hE (show (6 : Nat) < 7 by decide) dX6_firstBest_46) n_fall)),
    (n_sq (n_iload hE dX6_firstBest_48) (n_sq (n_aload_n hE dX6_firstBest_50) (n_sq (n_getI hE xk_1 (k := 5) rfl (by decide) rfl wt_116 dX6_firstBest_51) (n_ifcge hE (by decide) dX6_firstBest_54)))),
    (n_sq (n_iload hE dX6_firstBest_57) (n_sq (n_iload hE dX6_firstBest_59) (n_sq (n_ishr hE dX6_firstBest_61) (n_sq (n_iconst hE (by decide) dX6_firstBest_62) (n_sq (n_iand hE dX6_firstBest_63) (n_ifne hE (by decide) dX6_firstBest_64)))))),
    (n_sq (n_aload_n hE dX6_firstBest_67) (n_sq (n_aload_n hE dX6_firstBest_68) (n_sq (n_aload_n hE dX6_firstBest_69) (n_sq (n_iload_n hE dX6_firstBest_70) (n_sq (n_iload hE dX6_firstBest_71) (n_sq (n_iload hE dX6_firstBest_73) (n_sq (n_cIv hE m_X6_bestWith vc_X6_44 (show 1 + 1 ≤ 2 ∧ 8 + (7 + 11) + 24 ≤ 50 by decide) dX6_firstBest_75) (n_sq (n_iload hE dX6_firstBest_78) (n_ifcne hE (by decide) dX6_firstBest_80))))))))),
    (n_sq (n_iload hE dX6_firstBest_83) (n_ireturn hE rfl dX6_firstBest_85)),
    (n_sq (n_iinc hE (by decide) (show (6 : Nat) < 7 by decide) dX6_firstBest_86) (n_goto hE (by decide) dX6_firstBest_89)),
    (n_sq (n_iconst hE (by decide) dX6_firstBest_92) (n_ireturn hE rfl dX6_firstBest_93)), trivial⟩
noncomputable def F_X6_firstBest (as : List XV) (w : XW) : Option (Int32 × XW) := (xF 7 bs_X6_firstBest as w).bind pI
theorem m_X6_firstBest : XM yX6_firstBest cX6_firstBest 7 (some .int) 2 50 (eI F_X6_firstBest) := xm_I (xm_of (by decide) s_X6_firstBest)
noncomputable def q_X6_firstBest_0 (i1 : Nat) (i2 : Nat) (x3 : Int32) (x4 : Int32) (w : XW) : Option XR := ev bs_X6_firstBest 0 ([some (.inr (5, 0)), some (.inr (1, i1)), some (.inr (8, i2)), some (.inl (.int x3)), some (.inl (.int x4)), none, none], [], w)
noncomputable def q_X6_firstBest_24 (i1 : Nat) (i2 : Nat) (x3 : Int32) (x4 : Int32) (x5 : Int32) (w : XW) : Option XR := ev bs_X6_firstBest 24 ([some (.inr (5, 0)), some (.inr (1, i1)), some (.inr (8, i2)), some (.inl (.int x3)), some (.inl (.int x4)), some (.inl (.int x5)), none], [], w)
noncomputable def q_X6_firstBest_43 (w : XW) : Option XR := ev bs_X6_firstBest 43 ([none, none, none, none, none, none, none], [], w)
noncomputable def q_X6_firstBest_45 (i1 : Nat) (i2 : Nat) (x3 : Int32) (x4 : Int32) (x5 : Int32) (w : XW) : Option XR := ev bs_X6_firstBest 45 ([some (.inr (5, 0)), some (.inr (1, i1)), some (.inr (8, i2)), some (.inl (.int x3)), some (.inl (.int x4)), some (.inl (.int x5)), none], [], w)
noncomputable def q_X6_firstBest_48 (i1 : Nat) (i2 : Nat) (x3 : Int32) (x4 : Int32) (x5 : Int32) (x6 : Int32) (w : XW) : Option XR := ev bs_X6_firstBest 48 ([some (.inr (5, 0)), some (.inr (1, i1)), some (.inr (8, i2)), some (.inl (.int x3)), some (.inl (.int x4)), some (.inl (.int x5)), some (.inl (.int x6))], [], w)
noncomputable def q_X6_firstBest_57 (i1 : Nat) (i2 : Nat) (x3 : Int32) (x4 : Int32) (x5 : Int32) (x6 : Int32) (w : XW) : Option XR := ev bs_X6_firstBest 57 ([some (.inr (5, 0)), some (.inr (1, i1)), some (.inr (8, i2)), some (.inl (.int x3)), some (.inl (.int x4)), some (.inl (.int x5)), some (.inl (.int x6))], [], w)
noncomputable def q_X6_firstBest_67 (i1 : Nat) (i2 : Nat) (x3 : Int32) (x4 : Int32) (x5 : Int32) (x6 : Int32) (w : XW) : Option XR := ev bs_X6_firstBest 67 ([some (.inr (5, 0)), some (.inr (1, i1)), some (.inr (8, i2)), some (.inl (.int x3)), some (.inl (.int x4)), some (.inl (.int x5)), some (.inl (.int x6))], [], w)
noncomputable def q_X6_firstBest_83 (x6 : Int32) (w : XW) : Option XR := ev bs_X6_firstBest 83 ([none, none, none, none, none, none, some (.inl (.int x6))], [], w)
noncomputable def q_X6_firstBest_86 (i1 : Nat) (i2 : Nat) (x3 : Int32) (x4 : Int32) (x5 : Int32) (x6 : Int32) (w : XW) : Option XR := ev bs_X6_firstBest 86 ([some (.inr (5, 0)), some (.inr (1, i1)), some (.inr (8, i2)), some (.inl (.int x3)), some (.inl (.int x4)), some (.inl (.int x5)), some (.inl (.int x6))], [], w)
noncomputable def q_X6_firstBest_92 (w : XW) : Option XR := ev bs_X6_firstBest 92 ([none, none, none, none, none, none, none], [], w)
theorem e_X6_firstBest_0 (i1 : Nat) (i2 : Nat) (x3 : Int32) (x4 : Int32) (w : XW) : q_X6_firstBest_0 i1 i2 x3 x4 w = (if ((x3 * 16) + x4) < 0 ∨ 112 ≤ ((x3 * 16) + x4).toNatClampNeg then none else (if x3 < 0 ∨ 6 ≤ x3.toNatClampNeg then none else (bif decide (¬ (gI w 32 i2 x3.toNatClampNeg) = (-1)) then (q_X6_firstBest_43 w) else (q_X6_firstBest_24 i1 i2 x3 x4 (gI w 25 0 ((x3 * 16) + x4).toNatClampNeg) w)))) := (ev_eq _ _ _).trans rfl
theorem e_X6_firstBest_24 (i1 : Nat) (i2 : Nat) (x3 : Int32) (x4 : Int32) (x5 : Int32) (w : XW) : q_X6_firstBest_24 i1 i2 x3 x4 x5 w = (if (((x3 + 1) * 16) + x4) < 0 ∨ 112 ≤ (((x3 + 1) * 16) + x4).toNatClampNeg then none else (bif decide (¬ (gI w 25 0 (((x3 + 1) * 16) + x4).toNatClampNeg) = x5) then (q_X6_firstBest_45 i1 i2 x3 x4 x5 w) else (q_X6_firstBest_43 w))) := (ev_eq _ _ _).trans rfl
theorem e_X6_firstBest_43 (w : XW) : q_X6_firstBest_43 w = (some (some (.inl (.int (-1))), w)) := (ev_eq _ _ _).trans rfl
theorem e_X6_firstBest_45 (i1 : Nat) (i2 : Nat) (x3 : Int32) (x4 : Int32) (x5 : Int32) (w : XW) : q_X6_firstBest_45 i1 i2 x3 x4 x5 w = (q_X6_firstBest_48 i1 i2 x3 x4 x5 0 w) := (ev_eq _ _ _).trans rfl
theorem e_X6_firstBest_48 (i1 : Nat) (i2 : Nat) (x3 : Int32) (x4 : Int32) (x5 : Int32) (x6 : Int32) (w : XW) : q_X6_firstBest_48 i1 i2 x3 x4 x5 x6 w = (bif decide ((gI w 1 i1 5) ≤ x6) then (q_X6_firstBest_92 w) else (q_X6_firstBest_57 i1 i2 x3 x4 x5 x6 w)) := (ev_eq _ _ _).trans rfl
theorem e_X6_firstBest_57 (i1 : Nat) (i2 : Nat) (x3 : Int32) (x4 : Int32) (x5 : Int32) (x6 : Int32) (w : XW) : q_X6_firstBest_57 i1 i2 x3 x4 x5 x6 w = (bif decide (¬ (((x4 : Int32) >>> ((x6 : Int32) &&& 31)) &&& 1) = 0) then (q_X6_firstBest_86 i1 i2 x3 x4 x5 x6 w) else (q_X6_firstBest_67 i1 i2 x3 x4 x5 x6 w)) := (ev_eq _ _ _).trans rfl
theorem e_X6_firstBest_67 (i1 : Nat) (i2 : Nat) (x3 : Int32) (x4 : Int32) (x5 : Int32) (x6 : Int32) (w : XW) : q_X6_firstBest_67 i1 i2 x3 x4 x5 x6 w = ((F_X6_bestWith [.inr (5, 0), .inr (1, i1), .inr (8, i2), .inl (.int x3), .inl (.int x4), .inl (.int x6)] w).bind fun r0 => (bif decide (¬ r0.1 = x5) then (q_X6_firstBest_86 i1 i2 x3 x4 x5 x6 r0.2) else (q_X6_firstBest_83 x6 r0.2))) := (ev_eq _ _ _).trans rfl
theorem e_X6_firstBest_83 (x6 : Int32) (w : XW) : q_X6_firstBest_83 x6 w = (some (some (.inl (.int x6)), w)) := (ev_eq _ _ _).trans rfl
theorem e_X6_firstBest_86 (i1 : Nat) (i2 : Nat) (x3 : Int32) (x4 : Int32) (x5 : Int32) (x6 : Int32) (w : XW) : q_X6_firstBest_86 i1 i2 x3 x4 x5 x6 w = (q_X6_firstBest_48 i1 i2 x3 x4 x5 (x6 + 1) w) := (ev_eq _ _ _).trans rfl
theorem e_X6_firstBest_92 (w : XW) : q_X6_firstBest_92 w = (some (some (.inl (.int (-1))), w)) := (ev_eq _ _ _).trans rfl
theorem f_X6_firstBest (i1 : Nat) (i2 : Nat) (x3 : Int32) (x4 : Int32) (w : XW) : F_X6_firstBest [.inr (5, 0), .inr (1, i1), .inr (8, i2), .inl (.int x3), .inl (.int x4)] w = (q_X6_firstBest_0 i1 i2 x3 x4 w).bind pI := rfl

-- WinterKeep$Placings.whereGoes(LWinterKeep$Dale;LWinterKeep$Scene;I)I
theorem dX6_whereGoes_0 : decode cX6_whereGoes 0 = .ok (.aload_n 1, 1) := by decide +kernel
theorem dX6_whereGoes_1 : decode cX6_whereGoes 1 = .ok (.aload_n 2, 1) := by decide +kernel
theorem dX6_whereGoes_2 : decode cX6_whereGoes 2 = .ok (.invokestatic 15, 3) := by decide +kernel
theorem dX6_whereGoes_5 : decode cX6_whereGoes 5 = .ok (.istore 4, 2) := by decide +kernel
theorem dX6_whereGoes_7 : decode cX6_whereGoes 7 = .ok (.iconst (-1), 1) := by decide +kernel
theorem dX6_whereGoes_8 : decode cX6_whereGoes 8 = .ok (.istore 5, 2) := by decide +kernel
theorem dX6_whereGoes_10 : decode cX6_whereGoes 10 = .ok (.iconst 0, 1) := by decide +kernel
theorem dX6_whereGoes_11 : decode cX6_whereGoes 11 = .ok (.istore 6, 2) := by decide +kernel
theorem dX6_whereGoes_13 : decode cX6_whereGoes 13 = .ok (.iload 6, 2) := by decide +kernel
theorem dX6_whereGoes_15 : decode cX6_whereGoes 15 = .ok (.iload_n 3, 1) := by decide +kernel
theorem dX6_whereGoes_16 : decode cX6_whereGoes 16 = .ok (.if_icmp .gt 50, 3) := by decide +kernel
theorem dX6_whereGoes_19 : decode cX6_whereGoes 19 = .ok (.iload 6, 2) := by decide +kernel
theorem dX6_whereGoes_21 : decode cX6_whereGoes 21 = .ok (.aload_n 1, 1) := by decide +kernel
theorem dX6_whereGoes_22 : decode cX6_whereGoes 22 = .ok (.getfield 19, 3) := by decide +kernel
theorem dX6_whereGoes_25 : decode cX6_whereGoes 25 = .ok (.if_icmp .ge 41, 3) := by decide +kernel
theorem dX6_whereGoes_28 : decode cX6_whereGoes 28 = .ok (.aload_n 0, 1) := by decide +kernel
theorem dX6_whereGoes_29 : decode cX6_whereGoes 29 = .ok (.aload_n 1, 1) := by decide +kernel
theorem dX6_whereGoes_30 : decode cX6_whereGoes 30 = .ok (.aload_n 2, 1) := by decide +kernel
theorem dX6_whereGoes_31 : decode cX6_whereGoes 31 = .ok (.iload 6, 2) := by decide +kernel
theorem dX6_whereGoes_33 : decode cX6_whereGoes 33 = .ok (.iload 4, 2) := by decide +kernel
theorem dX6_whereGoes_35 : decode cX6_whereGoes 35 = .ok (.invokevirtual 29, 3) := by decide +kernel
theorem dX6_whereGoes_38 : decode cX6_whereGoes 38 = .ok (.istore 5, 2) := by decide +kernel
theorem dX6_whereGoes_40 : decode cX6_whereGoes 40 = .ok (.iload 5, 2) := by decide +kernel
theorem dX6_whereGoes_42 : decode cX6_whereGoes 42 = .ok (.iconst (-1), 1) := by decide +kernel
theorem dX6_whereGoes_43 : decode cX6_whereGoes 43 = .ok (.if_icmp .ne 8, 3) := by decide +kernel
theorem dX6_whereGoes_46 : decode cX6_whereGoes 46 = .ok (.iload 4, 2) := by decide +kernel
theorem dX6_whereGoes_48 : decode cX6_whereGoes 48 = .ok (.goto 10, 3) := by decide +kernel
theorem dX6_whereGoes_51 : decode cX6_whereGoes 51 = .ok (.iload 4, 2) := by decide +kernel
theorem dX6_whereGoes_53 : decode cX6_whereGoes 53 = .ok (.iconst 1, 1) := by decide +kernel
theorem dX6_whereGoes_54 : decode cX6_whereGoes 54 = .ok (.iload 5, 2) := by decide +kernel
theorem dX6_whereGoes_56 : decode cX6_whereGoes 56 = .ok (.ishl, 1) := by decide +kernel
theorem dX6_whereGoes_57 : decode cX6_whereGoes 57 = .ok (.ior, 1) := by decide +kernel
theorem dX6_whereGoes_58 : decode cX6_whereGoes 58 = .ok (.istore 4, 2) := by decide +kernel
theorem dX6_whereGoes_60 : decode cX6_whereGoes 60 = .ok (.iinc 6 1, 3) := by decide +kernel
theorem dX6_whereGoes_63 : decode cX6_whereGoes 63 = .ok (.goto (-50), 3) := by decide +kernel
theorem dX6_whereGoes_66 : decode cX6_whereGoes 66 = .ok (.iload 5, 2) := by decide +kernel
theorem dX6_whereGoes_68 : decode cX6_whereGoes 68 = .ok (.ireturn, 1) := by decide +kernel
theorem vc_X6_29 : XVw RX6 29 4 5 7 yX6_firstBest cX6_firstBest (some .int) := ⟨RX6, TX6, tyX6, 1, xk_5, rfl, ⟨by decide, by decide⟩, by decide +kernel, wt_795, wt_797, ws_25, wt_7, wt_798⟩
noncomputable def bs_X6_whereGoes : List (Nat × XB) := [
  (0, (sq (xLA 1) (sq (xLA 2) (sq (xCI 99 2 F_X6_takenIn) (sq (xSI 4) (sq (xC (.int (-1))) (sq (xSI 5) (sq (xC (.int 0)) (sq (xSI 6) (tGo 13 [true, true, true, true, true, true, true])))))))))),
  (13, (sq (xLI 6) (sq (xLI 3) (tIf2 (fun x y => decide (y < x)) 66 [false, false, false, false, false, true, false] 19 [true, true, true, true, true, true, true])))),
  (19, (sq (xLI 6) (sq (xLA 1) (sq (xGI 1 3) (tIf2 (fun x y => decide (y ≤ x)) 66 [false, false, false, false, false, true, false] 28 [true, true, true, true, true, false, true]))))),
  (28, (sq (xLA 0) (sq (xLA 1) (sq (xLA 2) (sq (xLI 6) (sq (xLI 4) (sq (xCI 5 5 F_X6_firstBest) (sq (xSI 5) (sq (xLI 5) (sq (xC (.int (-1))) (tIf2 (fun x y => decide (¬ x = y)) 51 [true, true, true, true, true, true, true] 46 [true, true, true, true, true, true, true]))))))))))),
  (46, (sq (xLI 4) (tGo 58 [true, true, true, true, false, true, true]))),
  (51, (sq (xLI 4) (sq (xC (.int 1)) (sq (xLI 5) (sq (xI2 (fun x y => x <<< (y &&& 31))) (sq (xI2 (· ||| ·)) (tGo 58 [true, true, true, true, false, true, true]))))))),
  (58, (sq (xSI 4) (sq (xInc 6 1) (tGo 13 [true, true, true, true, true, true, true])))),
  (66, (sq (xLI 5) tRI))]
set_option maxRecDepth 100000 in
set_option maxHeartbeats 4000000 in
theorem s_X6_whereGoes : ∀ X : XCtx, XE X → X.2.2.1.1 = cX6_whereGoes → X.2.2.1.2.1 = 7 → X.2.2.1.2.2.1 = yX6_whereGoes.cls → X.2.2.1.2.2.2.1 = (some .int) → X.1.2.2.2.1 = { frames := 3, cells := 0, slots := 0, locals := 76 } → SndBs X bs_X6_whereGoes := by
  rintro ⟨⟨p, l, e, R, s⟩, Y, ⟨cc, nL, own, ret, Ts⟩, Z⟩ hE h1 h2 h3 h4 h5
  dsimp only at h1 h2 h3 h4 h5
  subst h1 h2 h3 h4 h5
  exact ⟨(n_sq (n_aload_n hE dX6_whereGoes_0) (n_sq (n_aload_n hE dX6_whereGoes_1) (n_sq (n_cIs hE m_X6_takenIn vc_X6_15 (show 1 + 1 ≤ 3 ∧ 8 + (4 + 11) + 22 ≤ 76 by decide) dX6_whereGoes_2) (n_sq (n_istore hE (show (4 : Nat) < 7 by decide) dX6_whereGoes_5) (n_sq (n_iconst hE (by decide) dX6_whereGoes_7) (n_sq (n_istore hE (show (5 : Nat) < 7 by decide) dX6_whereGoes_8) (n_sq (n_iconst hE (by decide) dX6_whereGoes_10) (n_sq (n_istore hE (show (6 : Nat) < 7 by decide) dX6_whereGoes_11) n_fall)))))))),
    (n_sq (n_iload hE dX6_whereGoes_13) (n_sq (n_iload_n hE dX6_whereGoes_15) (n_ifcgt hE (by decide) dX6_whereGoes_16))),
    (n_sq (n_iload hE dX6_whereGoes_19) (n_sq (n_aload_n hE dX6_whereGoes_21) (n_sq (n_getI hE xk_1 (k := 3) rfl (by decide) rfl wt_107 dX6_whereGoes_22) (n_ifcge hE (by decide) dX6_whereGoes_25)))),
    (n_sq (n_aload_n hE dX6_whereGoes_28) (n_sq (n_aload_n hE dX6_whereGoes_29) (n_sq (n_aload_n hE dX6_whereGoes_30) (n_sq (n_iload hE dX6_whereGoes_31) (n_sq (n_iload hE dX6_whereGoes_33) (n_sq (n_cIv hE m_X6_firstBest vc_X6_29 (show 2 + 1 ≤ 3 ∧ 8 + (7 + 11) + 50 ≤ 76 by decide) dX6_whereGoes_35) (n_sq (n_istore hE (show (5 : Nat) < 7 by decide) dX6_whereGoes_38) (n_sq (n_iload hE dX6_whereGoes_40) (n_sq (n_iconst hE (by decide) dX6_whereGoes_42) (n_ifcne hE (by decide) dX6_whereGoes_43)))))))))),
    (n_sq (n_iload hE dX6_whereGoes_46) (n_goto hE (by decide) dX6_whereGoes_48)),
    (n_sq (n_iload hE dX6_whereGoes_51) (n_sq (n_iconst hE (by decide) dX6_whereGoes_53) (n_sq (n_iload hE dX6_whereGoes_54) (n_sq (n_ishl hE dX6_whereGoes_56) (n_sq (n_ior hE dX6_whereGoes_57) n_fall))))),
    (n_sq (n_istore hE (show (4 : Nat) < 7 by decide) dX6_whereGoes_58) (n_sq (n_iinc hE (by decide) (show (6 : Nat) < 7 by decide) dX6_whereGoes_60) (n_goto hE (by decide) dX6_whereGoes_63))),
    (n_sq (n_iload hE dX6_whereGoes_66) (n_ireturn hE rfl dX6_whereGoes_68)), trivial⟩
noncomputable def F_X6_whereGoes (as : List XV) (w : XW) : Option (Int32 × XW) := (xF 7 bs_X6_whereGoes as w).bind pI
theorem m_X6_whereGoes : XM yX6_whereGoes cX6_whereGoes 7 (some .int) 3 76 (eI F_X6_whereGoes) := xm_I (xm_of (by decide) s_X6_whereGoes)
noncomputable def q_X6_whereGoes_0 (i1 : Nat) (i2 : Nat) (x3 : Int32) (w : XW) : Option XR := ev bs_X6_whereGoes 0 ([some (.inr (5, 0)), some (.inr (1, i1)), some (.inr (8, i2)), some (.inl (.int x3)), none, none, none], [], w)
noncomputable def q_X6_whereGoes_13 (i1 : Nat) (i2 : Nat) (x3 : Int32) (x4 : Int32) (x5 : Int32) (x6 : Int32) (w : XW) : Option XR := ev bs_X6_whereGoes 13 ([some (.inr (5, 0)), some (.inr (1, i1)), some (.inr (8, i2)), some (.inl (.int x3)), some (.inl (.int x4)), some (.inl (.int x5)), some (.inl (.int x6))], [], w)
noncomputable def q_X6_whereGoes_19 (i1 : Nat) (i2 : Nat) (x3 : Int32) (x4 : Int32) (x5 : Int32) (x6 : Int32) (w : XW) : Option XR := ev bs_X6_whereGoes 19 ([some (.inr (5, 0)), some (.inr (1, i1)), some (.inr (8, i2)), some (.inl (.int x3)), some (.inl (.int x4)), some (.inl (.int x5)), some (.inl (.int x6))], [], w)
noncomputable def q_X6_whereGoes_28 (i1 : Nat) (i2 : Nat) (x3 : Int32) (x4 : Int32) (x6 : Int32) (w : XW) : Option XR := ev bs_X6_whereGoes 28 ([some (.inr (5, 0)), some (.inr (1, i1)), some (.inr (8, i2)), some (.inl (.int x3)), some (.inl (.int x4)), none, some (.inl (.int x6))], [], w)
noncomputable def q_X6_whereGoes_46 (i1 : Nat) (i2 : Nat) (x3 : Int32) (x4 : Int32) (x5 : Int32) (x6 : Int32) (w : XW) : Option XR := ev bs_X6_whereGoes 46 ([some (.inr (5, 0)), some (.inr (1, i1)), some (.inr (8, i2)), some (.inl (.int x3)), some (.inl (.int x4)), some (.inl (.int x5)), some (.inl (.int x6))], [], w)
noncomputable def q_X6_whereGoes_51 (i1 : Nat) (i2 : Nat) (x3 : Int32) (x4 : Int32) (x5 : Int32) (x6 : Int32) (w : XW) : Option XR := ev bs_X6_whereGoes 51 ([some (.inr (5, 0)), some (.inr (1, i1)), some (.inr (8, i2)), some (.inl (.int x3)), some (.inl (.int x4)), some (.inl (.int x5)), some (.inl (.int x6))], [], w)
noncomputable def q_X6_whereGoes_58 (i1 : Nat) (i2 : Nat) (x3 : Int32) (x5 : Int32) (x6 : Int32) (s0 : Int32) (w : XW) : Option XR := ev bs_X6_whereGoes 58 ([some (.inr (5, 0)), some (.inr (1, i1)), some (.inr (8, i2)), some (.inl (.int x3)), none, some (.inl (.int x5)), some (.inl (.int x6))], [.inl (.int s0)], w)
noncomputable def q_X6_whereGoes_66 (x5 : Int32) (w : XW) : Option XR := ev bs_X6_whereGoes 66 ([none, none, none, none, none, some (.inl (.int x5)), none], [], w)
theorem e_X6_whereGoes_0 (i1 : Nat) (i2 : Nat) (x3 : Int32) (w : XW) : q_X6_whereGoes_0 i1 i2 x3 w = ((F_X6_takenIn [.inr (1, i1), .inr (8, i2)] w).bind fun r0 => (q_X6_whereGoes_13 i1 i2 x3 r0.1 (-1) 0 r0.2)) := (ev_eq _ _ _).trans rfl
theorem e_X6_whereGoes_13 (i1 : Nat) (i2 : Nat) (x3 : Int32) (x4 : Int32) (x5 : Int32) (x6 : Int32) (w : XW) : q_X6_whereGoes_13 i1 i2 x3 x4 x5 x6 w = (bif decide (x3 < x6) then (q_X6_whereGoes_66 x5 w) else (q_X6_whereGoes_19 i1 i2 x3 x4 x5 x6 w)) := (ev_eq _ _ _).trans rfl
theorem e_X6_whereGoes_19 (i1 : Nat) (i2 : Nat) (x3 : Int32) (x4 : Int32) (x5 : Int32) (x6 : Int32) (w : XW) : q_X6_whereGoes_19 i1 i2 x3 x4 x5 x6 w = (bif decide ((gI w 1 i1 3) ≤ x6) then (q_X6_whereGoes_66 x5 w) else (q_X6_whereGoes_28 i1 i2 x3 x4 x6 w)) := (ev_eq _ _ _).trans rfl
theorem e_X6_whereGoes_28 (i1 : Nat) (i2 : Nat) (x3 : Int32) (x4 : Int32) (x6 : Int32) (w : XW) : q_X6_whereGoes_28 i1 i2 x3 x4 x6 w = ((F_X6_firstBest [.inr (5, 0), .inr (1, i1), .inr (8, i2), .inl (.int x6), .inl (.int x4)] w).bind fun r0 => (bif decide (¬ r0.1 = (-1)) then (q_X6_whereGoes_51 i1 i2 x3 x4 r0.1 x6 r0.2) else (q_X6_whereGoes_46 i1 i2 x3 x4 r0.1 x6 r0.2))) := (ev_eq _ _ _).trans rfl
theorem e_X6_whereGoes_46 (i1 : Nat) (i2 : Nat) (x3 : Int32) (x4 : Int32) (x5 : Int32) (x6 : Int32) (w : XW) : q_X6_whereGoes_46 i1 i2 x3 x4 x5 x6 w = (q_X6_whereGoes_58 i1 i2 x3 x5 x6 x4 w) := (ev_eq _ _ _).trans rfl
theorem e_X6_whereGoes_51 (i1 : Nat) (i2 : Nat) (x3 : Int32) (x4 : Int32) (x5 : Int32) (x6 : Int32) (w : XW) : q_X6_whereGoes_51 i1 i2 x3 x4 x5 x6 w = (q_X6_whereGoes_58 i1 i2 x3 x5 x6 (x4 ||| ((1 : Int32) <<< ((x5 : Int32) &&& 31))) w) := (ev_eq _ _ _).trans rfl
theorem e_X6_whereGoes_58 (i1 : Nat) (i2 : Nat) (x3 : Int32) (x5 : Int32) (x6 : Int32) (s0 : Int32) (w : XW) : q_X6_whereGoes_58 i1 i2 x3 x5 x6 s0 w = (q_X6_whereGoes_13 i1 i2 x3 s0 x5 (x6 + 1) w) := (ev_eq _ _ _).trans rfl
theorem e_X6_whereGoes_66 (x5 : Int32) (w : XW) : q_X6_whereGoes_66 x5 w = (some (some (.inl (.int x5)), w)) := (ev_eq _ _ _).trans rfl
theorem f_X6_whereGoes (i1 : Nat) (i2 : Nat) (x3 : Int32) (w : XW) : F_X6_whereGoes [.inr (5, 0), .inr (1, i1), .inr (8, i2), .inl (.int x3)] w = (q_X6_whereGoes_0 i1 i2 x3 w).bind pI := rfl

-- WinterKeep.placing(I)I
theorem dX11_placing_0 : decode cX11_placing 0 = .ok (.aload_n 0, 1) := by decide +kernel
theorem dX11_placing_1 : decode cX11_placing 1 = .ok (.getfield 39, 3) := by decide +kernel
theorem dX11_placing_4 : decode cX11_placing 4 = .ok (.getfield 227, 3) := by decide +kernel
theorem dX11_placing_7 : decode cX11_placing 7 = .ok (.ifCond .eq 12, 3) := by decide +kernel
theorem dX11_placing_10 : decode cX11_placing 10 = .ok (.iload_n 1, 1) := by decide +kernel
theorem dX11_placing_11 : decode cX11_placing 11 = .ok (.iconst (-1), 1) := by decide +kernel
theorem dX11_placing_12 : decode cX11_placing 12 = .ok (.iconst 5, 1) := by decide +kernel
theorem dX11_placing_13 : decode cX11_placing 13 = .ok (.invokestatic 170, 3) := by decide +kernel
theorem dX11_placing_16 : decode cX11_placing 16 = .ok (.ifCond .ne 6, 3) := by decide +kernel
theorem dX11_placing_19 : decode cX11_placing 19 = .ok (.bipush (-3), 2) := by decide +kernel
theorem dX11_placing_21 : decode cX11_placing 21 = .ok (.ireturn, 1) := by decide +kernel
theorem dX11_placing_22 : decode cX11_placing 22 = .ok (.iload_n 1, 1) := by decide +kernel
theorem dX11_placing_23 : decode cX11_placing 23 = .ok (.iconst (-1), 1) := by decide +kernel
theorem dX11_placing_24 : decode cX11_placing 24 = .ok (.if_icmp .eq 14, 3) := by decide +kernel
theorem dX11_placing_27 : decode cX11_placing 27 = .ok (.aload_n 0, 1) := by decide +kernel
theorem dX11_placing_28 : decode cX11_placing 28 = .ok (.iload_n 1, 1) := by decide +kernel
theorem dX11_placing_29 : decode cX11_placing 29 = .ok (.invokevirtual 145, 3) := by decide +kernel
theorem dX11_placing_32 : decode cX11_placing 32 = .ok (.ifCond .ne 6, 3) := by decide +kernel
theorem dX11_placing_35 : decode cX11_placing 35 = .ok (.bipush (-2), 2) := by decide +kernel
theorem dX11_placing_37 : decode cX11_placing 37 = .ok (.ireturn, 1) := by decide +kernel
theorem dX11_placing_38 : decode cX11_placing 38 = .ok (.aload_n 0, 1) := by decide +kernel
theorem dX11_placing_39 : decode cX11_placing 39 = .ok (.getfield 63, 3) := by decide +kernel
theorem dX11_placing_42 : decode cX11_placing 42 = .ok (.aload_n 0, 1) := by decide +kernel
theorem dX11_placing_43 : decode cX11_placing 43 = .ok (.getfield 39, 3) := by decide +kernel
theorem dX11_placing_46 : decode cX11_placing 46 = .ok (.aload_n 0, 1) := by decide +kernel
theorem dX11_placing_47 : decode cX11_placing 47 = .ok (.getfield 46, 3) := by decide +kernel
theorem dX11_placing_50 : decode cX11_placing 50 = .ok (.invokevirtual 259, 3) := by decide +kernel
theorem dX11_placing_53 : decode cX11_placing 53 = .ok (.istore_n 2, 1) := by decide +kernel
theorem dX11_placing_54 : decode cX11_placing 54 = .ok (.iload_n 1, 1) := by decide +kernel
theorem dX11_placing_55 : decode cX11_placing 55 = .ok (.iconst (-1), 1) := by decide +kernel
theorem dX11_placing_56 : decode cX11_placing 56 = .ok (.if_icmp .ne 7, 3) := by decide +kernel
theorem dX11_placing_59 : decode cX11_placing 59 = .ok (.iload_n 2, 1) := by decide +kernel
theorem dX11_placing_60 : decode cX11_placing 60 = .ok (.goto 19, 3) := by decide +kernel
theorem dX11_placing_63 : decode cX11_placing 63 = .ok (.aload_n 0, 1) := by decide +kernel
theorem dX11_placing_64 : decode cX11_placing 64 = .ok (.getfield 63, 3) := by decide +kernel
theorem dX11_placing_67 : decode cX11_placing 67 = .ok (.aload_n 0, 1) := by decide +kernel
theorem dX11_placing_68 : decode cX11_placing 68 = .ok (.getfield 39, 3) := by decide +kernel
theorem dX11_placing_71 : decode cX11_placing 71 = .ok (.aload_n 0, 1) := by decide +kernel
theorem dX11_placing_72 : decode cX11_placing 72 = .ok (.getfield 46, 3) := by decide +kernel
theorem dX11_placing_75 : decode cX11_placing 75 = .ok (.iload_n 1, 1) := by decide +kernel
theorem dX11_placing_76 : decode cX11_placing 76 = .ok (.invokevirtual 263, 3) := by decide +kernel
theorem dX11_placing_79 : decode cX11_placing 79 = .ok (.ireturn, 1) := by decide +kernel
theorem vc_X11_259 : XVw RX11 259 2 5 6 yX6_find cX6_find (some .int) := ⟨RX6, TX6, tyX6, 1, xk_5, rfl, ⟨by decide, by decide⟩, by decide +kernel, wt_773, wt_774, wt_775, wt_7, wt_776⟩
theorem vc_X11_263 : XVw RX11 263 3 5 7 yX6_whereGoes cX6_whereGoes (some .int) := ⟨RX6, TX6, tyX6, 1, xk_5, rfl, ⟨by decide, by decide⟩, by decide +kernel, wt_791, wt_792, wt_793, wt_7, wt_794⟩
noncomputable def bs_X11_placing : List (Nat × XB) := [
  (0, (sq (xLA 0) (sq (xGD 10 5 1) (sq (xGI 1 0) (tIf1 (fun x => decide (x = 0)) 19 [false, false, false] 10 [true, true, false]))))),
  (10, (sq (xLI 1) (sq (xC (.int (-1))) (sq (xC (.int 5)) (sq (xCI 99 3 F_X11_within) (tIf1 (fun x => decide (¬ x = 0)) 22 [true, true, false] 19 [false, false, false])))))),
  (19, (sq (xC (.int (-3))) tRI)),
  (22, (sq (xLI 1) (sq (xC (.int (-1))) (tIf2 (fun x y => decide (x = y)) 38 [true, true, false] 27 [true, true, false])))),
  (27, (sq (xLA 0) (sq (xLI 1) (sq (xCI 10 2 F_X11_isKeep) (tIf1 (fun x => decide (¬ x = 0)) 38 [true, true, false] 35 [false, false, false]))))),
  (35, (sq (xC (.int (-2))) tRI)),
  (38, (sq (xLA 0) (sq (xGS 10 5 1 0) (sq (xLA 0) (sq (xGD 10 5 1) (sq (xLA 0) (sq (xGS 10 8 1 0) (sq (xCI 5 3 F_X6_find) (sq (xSI 2) (sq (xLI 1) (sq (xC (.int (-1))) (tIf2 (fun x y => decide (¬ x = y)) 63 [true, true, false] 59 [false, false, true])))))))))))),
  (59, (sq (xLI 2) (tGo 79 [false, false, false]))),
  (63, (sq (xLA 0) (sq (xGS 10 5 1 0) (sq (xLA 0) (sq (xGD 10 5 1) (sq (xLA 0) (sq (xGS 10 8 1 0) (sq (xLI 1) (sq (xCI 5 4 F_X6_whereGoes) (tGo 79 [false, false, false])))))))))),
  (79, tRI)]
set_option maxRecDepth 100000 in
set_option maxHeartbeats 4000000 in
theorem s_X11_placing : ∀ X : XCtx, XE X → X.2.2.1.1 = cX11_placing → X.2.2.1.2.1 = 3 → X.2.2.1.2.2.1 = yX11_placing.cls → X.2.2.1.2.2.2.1 = (some .int) → X.1.2.2.2.1 = { frames := 4, cells := 0, slots := 0, locals := 102 } → SndBs X bs_X11_placing := by
  rintro ⟨⟨p, l, e, R, s⟩, Y, ⟨cc, nL, own, ret, Ts⟩, Z⟩ hE h1 h2 h3 h4 h5
  dsimp only at h1 h2 h3 h4 h5
  subst h1 h2 h3 h4 h5
  exact ⟨(n_sq (n_aload_n hE dX11_placing_0) (n_sq (n_getD hE xk_10 (k := 5) rfl (by decide) rfl wt_321 dX11_placing_1) (n_sq (n_getI hE xk_1 (k := 0) rfl (by decide) rfl wt_96 dX11_placing_4) (n_ifeq hE (by decide) dX11_placing_7)))),
    (n_sq (n_iload_n hE dX11_placing_10) (n_sq (n_iconst hE (by decide) dX11_placing_11) (n_sq (n_iconst hE (by decide) dX11_placing_12) (n_sq (n_cIs hE m_X11_within vc_X11_170 (show 0 + 1 ≤ 4 ∧ 8 + (3 + 11) + 0 ≤ 102 by decide) dX11_placing_13) (n_ifne hE (by decide) dX11_placing_16))))),
    (n_sq (n_bipush hE (by decide) dX11_placing_19) (n_ireturn hE rfl dX11_placing_21)),
    (n_sq (n_iload_n hE dX11_placing_22) (n_sq (n_iconst hE (by decide) dX11_placing_23) (n_ifceq hE (by decide) dX11_placing_24))),
    (n_sq (n_aload_n hE dX11_placing_27) (n_sq (n_iload_n hE dX11_placing_28) (n_sq (n_cIv hE m_X11_isKeep vc_X11_145 (show 1 + 1 ≤ 4 ∧ 8 + (2 + 11) + 22 ≤ 102 by decide) dX11_placing_29) (n_ifne hE (by decide) dX11_placing_32)))),
    (n_sq (n_bipush hE (by decide) dX11_placing_35) (n_ireturn hE rfl dX11_placing_37)),
    (n_sq (n_aload_n hE dX11_placing_38) (n_sq (n_getS hE xk_10 (k := 9) rfl (by decide) rfl wt_325 dX11_placing_39) (n_sq (n_aload_n hE dX11_placing_42) (n_sq (n_getD hE xk_10 (k := 5) rfl (by decide) rfl wt_321 dX11_placing_43) (n_sq (n_aload_n hE dX11_placing_46) (n_sq (n_getS hE xk_10 (k := 6) rfl (by decide) rfl wt_322 dX11_placing_47) (n_sq (n_cIv hE m_X6_find vc_X11_259 (show 3 + 1 ≤ 4 ∧ 8 + (6 + 11) + 76 ≤ 102 by decide) dX11_placing_50) (n_sq (n_istore_n hE (show (2 : Nat) < 3 by decide) dX11_placing_53) (n_sq (n_iload_n hE dX11_placing_54) (n_sq (n_iconst hE (by decide) dX11_placing_55) (n_ifcne hE (by decide) dX11_placing_56))))))))))),
    (n_sq (n_iload_n hE dX11_placing_59) (n_goto hE (by decide) dX11_placing_60)),
    (n_sq (n_aload_n hE dX11_placing_63) (n_sq (n_getS hE xk_10 (k := 9) rfl (by decide) rfl wt_325 dX11_placing_64) (n_sq (n_aload_n hE dX11_placing_67) (n_sq (n_getD hE xk_10 (k := 5) rfl (by decide) rfl wt_321 dX11_placing_68) (n_sq (n_aload_n hE dX11_placing_71) (n_sq (n_getS hE xk_10 (k := 6) rfl (by decide) rfl wt_322 dX11_placing_72) (n_sq (n_iload_n hE dX11_placing_75) (n_sq (n_cIv hE m_X6_whereGoes vc_X11_263 (show 3 + 1 ≤ 4 ∧ 8 + (7 + 11) + 76 ≤ 102 by decide) dX11_placing_76) n_fall)))))))),
    (n_ireturn hE rfl dX11_placing_79), trivial⟩
noncomputable def F_X11_placing (as : List XV) (w : XW) : Option (Int32 × XW) := (xF 3 bs_X11_placing as w).bind pI
theorem m_X11_placing : XM yX11_placing cX11_placing 3 (some .int) 4 102 (eI F_X11_placing) := xm_I (xm_of (by decide) s_X11_placing)
noncomputable def q_X11_placing_0 (x1 : Int32) (w : XW) : Option XR := ev bs_X11_placing 0 ([some (.inr (10, 0)), some (.inl (.int x1)), none], [], w)
noncomputable def q_X11_placing_10 (x1 : Int32) (w : XW) : Option XR := ev bs_X11_placing 10 ([some (.inr (10, 0)), some (.inl (.int x1)), none], [], w)
noncomputable def q_X11_placing_19 (w : XW) : Option XR := ev bs_X11_placing 19 ([none, none, none], [], w)
noncomputable def q_X11_placing_22 (x1 : Int32) (w : XW) : Option XR := ev bs_X11_placing 22 ([some (.inr (10, 0)), some (.inl (.int x1)), none], [], w)
noncomputable def q_X11_placing_27 (x1 : Int32) (w : XW) : Option XR := ev bs_X11_placing 27 ([some (.inr (10, 0)), some (.inl (.int x1)), none], [], w)
noncomputable def q_X11_placing_35 (w : XW) : Option XR := ev bs_X11_placing 35 ([none, none, none], [], w)
noncomputable def q_X11_placing_38 (x1 : Int32) (w : XW) : Option XR := ev bs_X11_placing 38 ([some (.inr (10, 0)), some (.inl (.int x1)), none], [], w)
noncomputable def q_X11_placing_59 (x2 : Int32) (w : XW) : Option XR := ev bs_X11_placing 59 ([none, none, some (.inl (.int x2))], [], w)
noncomputable def q_X11_placing_63 (x1 : Int32) (w : XW) : Option XR := ev bs_X11_placing 63 ([some (.inr (10, 0)), some (.inl (.int x1)), none], [], w)
noncomputable def q_X11_placing_79 (s0 : Int32) (w : XW) : Option XR := ev bs_X11_placing 79 ([none, none, none], [.inl (.int s0)], w)
theorem e_X11_placing_0 (x1 : Int32) (w : XW) : q_X11_placing_0 x1 w = ((gR w 10 0 5).bind fun j0 => (bif decide ((gI w 1 j0 0) = 0) then (q_X11_placing_19 w) else (q_X11_placing_10 x1 w))) := (ev_eq _ _ _).trans rfl
theorem e_X11_placing_10 (x1 : Int32) (w : XW) : q_X11_placing_10 x1 w = ((F_X11_within [.inl (.int x1), .inl (.int (-1)), .inl (.int 5)] w).bind fun r0 => (bif decide (¬ r0.1 = 0) then (q_X11_placing_22 x1 r0.2) else (q_X11_placing_19 r0.2))) := (ev_eq _ _ _).trans rfl
theorem e_X11_placing_19 (w : XW) : q_X11_placing_19 w = (some (some (.inl (.int (-3))), w)) := (ev_eq _ _ _).trans rfl
theorem e_X11_placing_22 (x1 : Int32) (w : XW) : q_X11_placing_22 x1 w = (bif decide (x1 = (-1)) then (q_X11_placing_38 x1 w) else (q_X11_placing_27 x1 w)) := (ev_eq _ _ _).trans rfl
theorem e_X11_placing_27 (x1 : Int32) (w : XW) : q_X11_placing_27 x1 w = ((F_X11_isKeep [.inr (10, 0), .inl (.int x1)] w).bind fun r0 => (bif decide (¬ r0.1 = 0) then (q_X11_placing_38 x1 r0.2) else (q_X11_placing_35 r0.2))) := (ev_eq _ _ _).trans rfl
theorem e_X11_placing_35 (w : XW) : q_X11_placing_35 w = (some (some (.inl (.int (-2))), w)) := (ev_eq _ _ _).trans rfl
theorem e_X11_placing_38 (x1 : Int32) (w : XW) : q_X11_placing_38 x1 w = ((gR w 10 0 5).bind fun j0 => ((F_X6_find [.inr (5, 0), .inr (1, j0), .inr (8, 0)] w).bind fun r1 => (bif decide (¬ x1 = (-1)) then (q_X11_placing_63 x1 r1.2) else (q_X11_placing_59 r1.1 r1.2)))) := (ev_eq _ _ _).trans rfl
theorem e_X11_placing_59 (x2 : Int32) (w : XW) : q_X11_placing_59 x2 w = (q_X11_placing_79 x2 w) := (ev_eq _ _ _).trans rfl
theorem e_X11_placing_63 (x1 : Int32) (w : XW) : q_X11_placing_63 x1 w = ((gR w 10 0 5).bind fun j0 => ((F_X6_whereGoes [.inr (5, 0), .inr (1, j0), .inr (8, 0), .inl (.int x1)] w).bind fun r1 => (q_X11_placing_79 r1.1 r1.2))) := (ev_eq _ _ _).trans rfl
theorem e_X11_placing_79 (s0 : Int32) (w : XW) : q_X11_placing_79 s0 w = (some (some (.inl (.int s0)), w)) := (ev_eq _ _ _).trans rfl
theorem f_X11_placing (x1 : Int32) (w : XW) : F_X11_placing [.inr (10, 0), .inl (.int x1)] w = (q_X11_placing_0 x1 w).bind pI := rfl
