-- WinterKeepModel.air(I)I
theorem dX12_air_0 : decode cX12_air 0 = .ok (.aload_n 0, 1) := by decide +kernel
theorem dX12_air_1 : decode cX12_air 1 = .ok (.iload_n 1, 1) := by decide +kernel
theorem dX12_air_2 : decode cX12_air 2 = .ok (.invokevirtual 345, 3) := by decide +kernel
theorem dX12_air_5 : decode cX12_air 5 = .ok (.ifCond .eq 19, 3) := by decide +kernel
theorem dX12_air_8 : decode cX12_air 8 = .ok (.aload_n 0, 1) := by decide +kernel
theorem dX12_air_9 : decode cX12_air 9 = .ok (.iload_n 1, 1) := by decide +kernel
theorem dX12_air_10 : decode cX12_air 10 = .ok (.invokevirtual 304, 3) := by decide +kernel
theorem dX12_air_13 : decode cX12_air 13 = .ok (.ifCond .ne 13, 3) := by decide +kernel
theorem dX12_air_16 : decode cX12_air 16 = .ok (.aload_n 0, 1) := by decide +kernel
theorem dX12_air_17 : decode cX12_air 17 = .ok (.iload_n 1, 1) := by decide +kernel
theorem dX12_air_18 : decode cX12_air 18 = .ok (.invokevirtual 314, 3) := by decide +kernel
theorem dX12_air_21 : decode cX12_air 21 = .ok (.ifCond .ne 5, 3) := by decide +kernel
theorem dX12_air_24 : decode cX12_air 24 = .ok (.iconst (-1), 1) := by decide +kernel
theorem dX12_air_25 : decode cX12_air 25 = .ok (.ireturn, 1) := by decide +kernel
theorem dX12_air_26 : decode cX12_air 26 = .ok (.aload_n 0, 1) := by decide +kernel
theorem dX12_air_27 : decode cX12_air 27 = .ok (.invokevirtual 372, 3) := by decide +kernel
theorem dX12_air_30 : decode cX12_air 30 = .ok (.aload_n 0, 1) := by decide +kernel
theorem dX12_air_31 : decode cX12_air 31 = .ok (.getfield 39, 3) := by decide +kernel
theorem dX12_air_34 : decode cX12_air 34 = .ok (.bipush 11, 2) := by decide +kernel
theorem dX12_air_36 : decode cX12_air 36 = .ok (.iconst 4, 1) := by decide +kernel
theorem dX12_air_37 : decode cX12_air 37 = .ok (.iload_n 1, 1) := by decide +kernel
theorem dX12_air_38 : decode cX12_air 38 = .ok (.imul, 1) := by decide +kernel
theorem dX12_air_39 : decode cX12_air 39 = .ok (.iadd, 1) := by decide +kernel
theorem dX12_air_40 : decode cX12_air 40 = .ok (.dup2, 1) := by decide +kernel
theorem dX12_air_41 : decode cX12_air 41 = .ok (.iaload, 1) := by decide +kernel
theorem dX12_air_42 : decode cX12_air 42 = .ok (.iconst 2, 1) := by decide +kernel
theorem dX12_air_43 : decode cX12_air 43 = .ok (.idiv, 1) := by decide +kernel
theorem dX12_air_44 : decode cX12_air 44 = .ok (.iastore, 1) := by decide +kernel
theorem dX12_air_45 : decode cX12_air 45 = .ok (.aload_n 0, 1) := by decide +kernel
theorem dX12_air_46 : decode cX12_air 46 = .ok (.getfield 39, 3) := by decide +kernel
theorem dX12_air_49 : decode cX12_air 49 = .ok (.bipush 11, 2) := by decide +kernel
theorem dX12_air_51 : decode cX12_air 51 = .ok (.iconst 4, 1) := by decide +kernel
theorem dX12_air_52 : decode cX12_air 52 = .ok (.iload_n 1, 1) := by decide +kernel
theorem dX12_air_53 : decode cX12_air 53 = .ok (.imul, 1) := by decide +kernel
theorem dX12_air_54 : decode cX12_air 54 = .ok (.iadd, 1) := by decide +kernel
theorem dX12_air_55 : decode cX12_air 55 = .ok (.iconst 1, 1) := by decide +kernel
theorem dX12_air_56 : decode cX12_air 56 = .ok (.iadd, 1) := by decide +kernel
theorem dX12_air_57 : decode cX12_air 57 = .ok (.dup2, 1) := by decide +kernel
theorem dX12_air_58 : decode cX12_air 58 = .ok (.iaload, 1) := by decide +kernel
theorem dX12_air_59 : decode cX12_air 59 = .ok (.iconst 2, 1) := by decide +kernel
theorem dX12_air_60 : decode cX12_air 60 = .ok (.idiv, 1) := by decide +kernel
theorem dX12_air_61 : decode cX12_air 61 = .ok (.iastore, 1) := by decide +kernel
theorem dX12_air_62 : decode cX12_air 62 = .ok (.aload_n 0, 1) := by decide +kernel
theorem dX12_air_63 : decode cX12_air 63 = .ok (.iload_n 1, 1) := by decide +kernel
theorem dX12_air_64 : decode cX12_air 64 = .ok (.invokevirtual 304, 3) := by decide +kernel
theorem dX12_air_67 : decode cX12_air 67 = .ok (.ireturn, 1) := by decide +kernel
noncomputable def bs_X12_air : List (Nat × XB) := [
  (0, (sq (xLA 0) (sq (xLI 1) (sq (xCI 11 2 F_X12_isHome) (tIf1 (fun x => decide (x = 0)) 24 [false, false] 8 [true, true]))))),
  (8, (sq (xLA 0) (sq (xLI 1) (sq (xCI 11 2 F_X12_fullOf) (tIf1 (fun x => decide (¬ x = 0)) 26 [true, true] 16 [true, true]))))),
  (16, (sq (xLA 0) (sq (xLI 1) (sq (xCI 11 2 F_X12_heatOf) (tIf1 (fun x => decide (¬ x = 0)) 26 [true, true] 24 [false, false]))))),
  (24, (sq (xC (.int (-1))) tRI)),
  (26, (sq (xLA 0) (sq (xCV 11 1 F_X12_keepsAct) (tGo 30 [true, true])))),
  (30, (sq (xLA 0) (sq (xGS 11 50 1 0) (sq (xC (.int 11)) (sq (xC (.int 4)) (sq (xLI 1) (sq (xI2 (· * ·)) (sq (xI2 (· + ·)) (sq (xDup2) (sq (xAI 50 98) (sq (xC (.int 2)) (sq (xI2z (· / ·)) (sq (xTI 50 98 (fun x => x)) (tGo 45 [true, true])))))))))))))),
  (45, (sq (xLA 0) (sq (xGS 11 50 1 0) (sq (xC (.int 11)) (sq (xC (.int 4)) (sq (xLI 1) (sq (xI2 (· * ·)) (sq (xI2 (· + ·)) (sq (xC (.int 1)) (sq (xI2 (· + ·)) (sq (xDup2) (sq (xAI 50 98) (sq (xC (.int 2)) (sq (xI2z (· / ·)) (sq (xTI 50 98 (fun x => x)) (tGo 62 [true, true])))))))))))))))),
  (62, (sq (xLA 0) (sq (xLI 1) (sq (xCI 11 2 F_X12_fullOf) tRI))))]
set_option maxRecDepth 100000 in
set_option maxHeartbeats 4000000 in
theorem s_X12_air : ∀ X : XCtx, XE X → X.2.2.1.1 = cX12_air → X.2.2.1.2.1 = 2 → X.2.2.1.2.2.1 = yX12_air.cls → X.2.2.1.2.2.2.1 = (some .int) → X.1.2.2.2.1 = { frames := 2, cells := 0, slots := 0, locals := 42 } → SndBs X bs_X12_air := by
  rintro ⟨⟨p, l, e, R, s⟩, Y, ⟨cc, nL, own, ret, Ts⟩, Z⟩ hE h1 h2 h3 h4 h5
  dsimp only at h1 h2 h3 h4 h5
  subst h1 h2 h3 h4 h5
  exact ⟨(n_sq (n_aload_n hE dX12_air_0) (n_sq (n_iload_n hE dX12_air_1) (n_sq (n_cIv hE m_X12_isHome vc_X12_345 (show 1 + 1 ≤ 2 ∧ 8 + (2 + 11) + 21 ≤ 42 by decide) dX12_air_2) (n_ifeq hE (by decide) dX12_air_5)))),
    (n_sq (n_aload_n hE dX12_air_8) (n_sq (n_iload_n hE dX12_air_9) (n_sq (n_cIv hE m_X12_fullOf vc_X12_304 (show 0 + 1 ≤ 2 ∧ 8 + (2 + 11) + 0 ≤ 42 by decide) dX12_air_10) (n_ifne hE (by decide) dX12_air_13)))),
    (n_sq (n_aload_n hE dX12_air_16) (n_sq (n_iload_n hE dX12_air_17) (n_sq (n_cIv hE m_X12_heatOf vc_X12_314 (show 0 + 1 ≤ 2 ∧ 8 + (2 + 11) + 0 ≤ 42 by decide) dX12_air_18) (n_ifne hE (by decide) dX12_air_21)))),
    (n_sq (n_iconst hE (by decide) dX12_air_24) (n_ireturn hE rfl dX12_air_25)),
    (n_sq (n_aload_n hE dX12_air_26) (n_sq (n_cVv hE m_X12_keepsAct vc_X12_372 (show 0 + 1 ≤ 2 ∧ 8 + (2 + 11) + 0 ≤ 42 by decide) dX12_air_27) n_fall)),
    (n_sq (n_aload_n hE dX12_air_30) (n_sq (n_getS hE xk_11 (k := 20) rfl (by decide) rfl wt_980 dX12_air_31) (n_sq (n_bipush hE (by decide) dX12_air_34) (n_sq (n_iconst hE (by decide) dX12_air_36) (n_sq (n_iload_n hE dX12_air_37) (n_sq (n_imul hE dX12_air_38) (n_sq (n_iadd hE dX12_air_39) (n_sq (n_dup2 hE dX12_air_40) (n_sq (n_iald hE rfl (by decide) dX12_air_41) (n_sq (n_iconst hE (by decide) dX12_air_42) (n_sq (n_idiv hE dX12_air_43) (n_sq (n_iast hE rfl (by decide) dX12_air_44) n_fall)))))))))))),
    (n_sq (n_aload_n hE dX12_air_45) (n_sq (n_getS hE xk_11 (k := 20) rfl (by decide) rfl wt_980 dX12_air_46) (n_sq (n_bipush hE (by decide) dX12_air_49) (n_sq (n_iconst hE (by decide) dX12_air_51) (n_sq (n_iload_n hE dX12_air_52) (n_sq (n_imul hE dX12_air_53) (n_sq (n_iadd hE dX12_air_54) (n_sq (n_iconst hE (by decide) dX12_air_55) (n_sq (n_iadd hE dX12_air_56) (n_sq (n_dup2 hE dX12_air_57) (n_sq (n_iald hE rfl (by decide) dX12_air_58) (n_sq (n_iconst hE (by decide) dX12_air_59) (n_sq (n_idiv hE dX12_air_60) (n_sq (n_iast hE rfl (by decide) dX12_air_61) n_fall)))))))))))))),
    (n_sq (n_aload_n hE dX12_air_62) (n_sq (n_iload_n hE dX12_air_63) (n_sq (n_cIv hE m_X12_fullOf vc_X12_304 (show 0 + 1 ≤ 2 ∧ 8 + (2 + 11) + 0 ≤ 42 by decide) dX12_air_64) (n_ireturn hE rfl dX12_air_67)))), trivial⟩
noncomputable def F_X12_air (as : List XV) (w : XW) : Option (Int32 × XW) := (xF 2 bs_X12_air as w).bind pI
theorem m_X12_air : XM yX12_air cX12_air 2 (some .int) 2 42 (eI F_X12_air) := xm_I (xm_of (by decide) s_X12_air)
noncomputable def q_X12_air_0 (x1 : Int32) (w : XW) : Option XR := ev bs_X12_air 0 ([some (.inr (11, 0)), some (.inl (.int x1))], [], w)
noncomputable def q_X12_air_8 (x1 : Int32) (w : XW) : Option XR := ev bs_X12_air 8 ([some (.inr (11, 0)), some (.inl (.int x1))], [], w)
noncomputable def q_X12_air_16 (x1 : Int32) (w : XW) : Option XR := ev bs_X12_air 16 ([some (.inr (11, 0)), some (.inl (.int x1))], [], w)
noncomputable def q_X12_air_24 (w : XW) : Option XR := ev bs_X12_air 24 ([none, none], [], w)
noncomputable def q_X12_air_26 (x1 : Int32) (w : XW) : Option XR := ev bs_X12_air 26 ([some (.inr (11, 0)), some (.inl (.int x1))], [], w)
noncomputable def q_X12_air_30 (x1 : Int32) (w : XW) : Option XR := ev bs_X12_air 30 ([some (.inr (11, 0)), some (.inl (.int x1))], [], w)
noncomputable def q_X12_air_45 (x1 : Int32) (w : XW) : Option XR := ev bs_X12_air 45 ([some (.inr (11, 0)), some (.inl (.int x1))], [], w)
noncomputable def q_X12_air_62 (x1 : Int32) (w : XW) : Option XR := ev bs_X12_air 62 ([some (.inr (11, 0)), some (.inl (.int x1))], [], w)
set_option maxRecDepth 100000 in
theorem e_X12_air_0 (x1 : Int32) (w : XW) : q_X12_air_0 x1 w = ((F_X12_isHome [.inr (11, 0), .inl (.int x1)] w).bind fun r0 => (bif decide (r0.1 = 0) then (q_X12_air_24 r0.2) else (q_X12_air_8 x1 r0.2))) := (ev_eq _ _ _).trans rfl
set_option maxRecDepth 100000 in
theorem e_X12_air_8 (x1 : Int32) (w : XW) : q_X12_air_8 x1 w = ((F_X12_fullOf [.inr (11, 0), .inl (.int x1)] w).bind fun r0 => (bif decide (¬ r0.1 = 0) then (q_X12_air_26 x1 r0.2) else (q_X12_air_16 x1 r0.2))) := (ev_eq _ _ _).trans rfl
set_option maxRecDepth 100000 in
theorem e_X12_air_16 (x1 : Int32) (w : XW) : q_X12_air_16 x1 w = ((F_X12_heatOf [.inr (11, 0), .inl (.int x1)] w).bind fun r0 => (bif decide (¬ r0.1 = 0) then (q_X12_air_26 x1 r0.2) else (q_X12_air_24 r0.2))) := (ev_eq _ _ _).trans rfl
set_option maxRecDepth 100000 in
theorem e_X12_air_24 (w : XW) : q_X12_air_24 w = (some (some (.inl (.int (-1))), w)) := (ev_eq _ _ _).trans rfl
set_option maxRecDepth 100000 in
theorem e_X12_air_26 (x1 : Int32) (w : XW) : q_X12_air_26 x1 w = ((F_X12_keepsAct [.inr (11, 0)] w).bind fun r0 => (q_X12_air_30 x1 r0)) := (ev_eq _ _ _).trans rfl
set_option maxRecDepth 100000 in
theorem e_X12_air_30 (x1 : Int32) (w : XW) : q_X12_air_30 x1 w = (if (11 + (4 * x1)) < 0 ∨ 98 ≤ (11 + (4 * x1)).toNatClampNeg then none else (if (11 + (4 * x1)) < 0 ∨ 98 ≤ (11 + (4 * x1)).toNatClampNeg then none else (q_X12_air_45 x1 (sI w 50 0 ((11 + (4 * x1)).toNatClampNeg) ((gI w 50 0 (11 + (4 * x1)).toNatClampNeg) / 2))))) := (ev_eq _ _ _).trans rfl
set_option maxRecDepth 100000 in
theorem e_X12_air_45 (x1 : Int32) (w : XW) : q_X12_air_45 x1 w = (if ((11 + (4 * x1)) + 1) < 0 ∨ 98 ≤ ((11 + (4 * x1)) + 1).toNatClampNeg then none else (if ((11 + (4 * x1)) + 1) < 0 ∨ 98 ≤ ((11 + (4 * x1)) + 1).toNatClampNeg then none else (q_X12_air_62 x1 (sI w 50 0 (((11 + (4 * x1)) + 1).toNatClampNeg) ((gI w 50 0 ((11 + (4 * x1)) + 1).toNatClampNeg) / 2))))) := (ev_eq _ _ _).trans rfl
set_option maxRecDepth 100000 in
theorem e_X12_air_62 (x1 : Int32) (w : XW) : q_X12_air_62 x1 w = ((F_X12_fullOf [.inr (11, 0), .inl (.int x1)] w).bind fun r0 => (some (some (.inl (.int r0.1)), r0.2))) := (ev_eq _ _ _).trans rfl
theorem f_X12_air (x1 : Int32) (w : XW) : F_X12_air [.inr (11, 0), .inl (.int x1)] w = (q_X12_air_0 x1 w).bind pI := rfl

-- WinterKeepModel.carry(II)I
theorem dX12_carry_0 : decode cX12_carry 0 = .ok (.aload_n 0, 1) := by decide +kernel
theorem dX12_carry_1 : decode cX12_carry 1 = .ok (.iload_n 1, 1) := by decide +kernel
theorem dX12_carry_2 : decode cX12_carry 2 = .ok (.invokevirtual 345, 3) := by decide +kernel
theorem dX12_carry_5 : decode cX12_carry 5 = .ok (.ifCond .eq 19, 3) := by decide +kernel
theorem dX12_carry_8 : decode cX12_carry 8 = .ok (.aload_n 0, 1) := by decide +kernel
theorem dX12_carry_9 : decode cX12_carry 9 = .ok (.iload_n 2, 1) := by decide +kernel
theorem dX12_carry_10 : decode cX12_carry 10 = .ok (.invokevirtual 323, 3) := by decide +kernel
theorem dX12_carry_13 : decode cX12_carry 13 = .ok (.ifCond .eq 11, 3) := by decide +kernel
theorem dX12_carry_16 : decode cX12_carry 16 = .ok (.aload_n 0, 1) := by decide +kernel
theorem dX12_carry_17 : decode cX12_carry 17 = .ok (.iload_n 2, 1) := by decide +kernel
theorem dX12_carry_18 : decode cX12_carry 18 = .ok (.invokevirtual 328, 3) := by decide +kernel
theorem dX12_carry_21 : decode cX12_carry 21 = .ok (.ifCond .lt 5, 3) := by decide +kernel
theorem dX12_carry_24 : decode cX12_carry 24 = .ok (.iconst (-1), 1) := by decide +kernel
theorem dX12_carry_25 : decode cX12_carry 25 = .ok (.ireturn, 1) := by decide +kernel
theorem dX12_carry_26 : decode cX12_carry 26 = .ok (.aload_n 0, 1) := by decide +kernel
theorem dX12_carry_27 : decode cX12_carry 27 = .ok (.invokevirtual 372, 3) := by decide +kernel
theorem dX12_carry_30 : decode cX12_carry 30 = .ok (.aload_n 0, 1) := by decide +kernel
theorem dX12_carry_31 : decode cX12_carry 31 = .ok (.getfield 39, 3) := by decide +kernel
theorem dX12_carry_34 : decode cX12_carry 34 = .ok (.bipush 11, 2) := by decide +kernel
theorem dX12_carry_36 : decode cX12_carry 36 = .ok (.iconst 4, 1) := by decide +kernel
theorem dX12_carry_37 : decode cX12_carry 37 = .ok (.iload_n 1, 1) := by decide +kernel
theorem dX12_carry_38 : decode cX12_carry 38 = .ok (.imul, 1) := by decide +kernel
theorem dX12_carry_39 : decode cX12_carry 39 = .ok (.iadd, 1) := by decide +kernel
theorem dX12_carry_40 : decode cX12_carry 40 = .ok (.iconst 2, 1) := by decide +kernel
theorem dX12_carry_41 : decode cX12_carry 41 = .ok (.iadd, 1) := by decide +kernel
theorem dX12_carry_42 : decode cX12_carry 42 = .ok (.iload_n 2, 1) := by decide +kernel
theorem dX12_carry_43 : decode cX12_carry 43 = .ok (.iastore, 1) := by decide +kernel
theorem dX12_carry_44 : decode cX12_carry 44 = .ok (.aload_n 0, 1) := by decide +kernel
theorem dX12_carry_45 : decode cX12_carry 45 = .ok (.iload_n 1, 1) := by decide +kernel
theorem dX12_carry_46 : decode cX12_carry 46 = .ok (.iload_n 2, 1) := by decide +kernel
theorem dX12_carry_47 : decode cX12_carry 47 = .ok (.invokevirtual 307, 3) := by decide +kernel
theorem dX12_carry_50 : decode cX12_carry 50 = .ok (.ireturn, 1) := by decide +kernel
noncomputable def bs_X12_carry : List (Nat × XB) := [
  (0, (sq (xLA 0) (sq (xLI 1) (sq (xCI 11 2 F_X12_isHome) (tIf1 (fun x => decide (x = 0)) 24 [false, false, false] 8 [true, true, true]))))),
  (8, (sq (xLA 0) (sq (xLI 2) (sq (xCI 11 2 F_X12_isField) (tIf1 (fun x => decide (x = 0)) 24 [false, false, false] 16 [true, true, true]))))),
  (16, (sq (xLA 0) (sq (xLI 2) (sq (xCI 11 2 F_X12_keepIn) (tIf1 (fun x => decide (x < 0)) 26 [true, true, true] 24 [false, false, false]))))),
  (24, (sq (xC (.int (-1))) tRI)),
  (26, (sq (xLA 0) (sq (xCV 11 1 F_X12_keepsAct) (sq (xLA 0) (sq (xGS 11 50 1 0) (sq (xC (.int 11)) (sq (xC (.int 4)) (sq (xLI 1) (sq (xI2 (· * ·)) (sq (xI2 (· + ·)) (sq (xC (.int 2)) (sq (xI2 (· + ·)) (sq (xLI 2) (sq (xTI 50 98 (fun x => x)) (sq (xLA 0) (sq (xLI 1) (sq (xLI 2) (sq (xCI 11 3 F_X12_keptOffBy) tRI))))))))))))))))))]
set_option maxRecDepth 100000 in
set_option maxHeartbeats 4000000 in
theorem s_X12_carry : ∀ X : XCtx, XE X → X.2.2.1.1 = cX12_carry → X.2.2.1.2.1 = 3 → X.2.2.1.2.2.1 = yX12_carry.cls → X.2.2.1.2.2.2.1 = (some .int) → X.1.2.2.2.1 = { frames := 2, cells := 0, slots := 0, locals := 43 } → SndBs X bs_X12_carry := by
  rintro ⟨⟨p, l, e, R, s⟩, Y, ⟨cc, nL, own, ret, Ts⟩, Z⟩ hE h1 h2 h3 h4 h5
  dsimp only at h1 h2 h3 h4 h5
  subst h1 h2 h3 h4 h5
  exact ⟨(n_sq (n_aload_n hE dX12_carry_0) (n_sq (n_iload_n hE dX12_carry_1) (n_sq (n_cIv hE m_X12_isHome vc_X12_345 (show 1 + 1 ≤ 2 ∧ 8 + (2 + 11) + 21 ≤ 43 by decide) dX12_carry_2) (n_ifeq hE (by decide) dX12_carry_5)))),
    (n_sq (n_aload_n hE dX12_carry_8) (n_sq (n_iload_n hE dX12_carry_9) (n_sq (n_cIv hE m_X12_isField vc_X12_323 (show 0 + 1 ≤ 2 ∧ 8 + (2 + 11) + 0 ≤ 43 by decide) dX12_carry_10) (n_ifeq hE (by decide) dX12_carry_13)))),
    (n_sq (n_aload_n hE dX12_carry_16) (n_sq (n_iload_n hE dX12_carry_17) (n_sq (n_cIv hE m_X12_keepIn vc_X12_328 (show 1 + 1 ≤ 2 ∧ 8 + (3 + 11) + 21 ≤ 43 by decide) dX12_carry_18) (n_iflt hE (by decide) dX12_carry_21)))),
    (n_sq (n_iconst hE (by decide) dX12_carry_24) (n_ireturn hE rfl dX12_carry_25)),
    (n_sq (n_aload_n hE dX12_carry_26) (n_sq (n_cVv hE m_X12_keepsAct vc_X12_372 (show 0 + 1 ≤ 2 ∧ 8 + (2 + 11) + 0 ≤ 43 by decide) dX12_carry_27) (n_sq (n_aload_n hE dX12_carry_30) (n_sq (n_getS hE xk_11 (k := 20) rfl (by decide) rfl wt_980 dX12_carry_31) (n_sq (n_bipush hE (by decide) dX12_carry_34) (n_sq (n_iconst hE (by decide) dX12_carry_36) (n_sq (n_iload_n hE dX12_carry_37) (n_sq (n_imul hE dX12_carry_38) (n_sq (n_iadd hE dX12_carry_39) (n_sq (n_iconst hE (by decide) dX12_carry_40) (n_sq (n_iadd hE dX12_carry_41) (n_sq (n_iload_n hE dX12_carry_42) (n_sq (n_iast hE rfl (by decide) dX12_carry_43) (n_sq (n_aload_n hE dX12_carry_44) (n_sq (n_iload_n hE dX12_carry_45) (n_sq (n_iload_n hE dX12_carry_46) (n_sq (n_cIv hE m_X12_keptOffBy vc_X12_307 (show 1 + 1 ≤ 2 ∧ 8 + (3 + 11) + 21 ≤ 43 by decide) dX12_carry_47) (n_ireturn hE rfl dX12_carry_50)))))))))))))))))), trivial⟩
noncomputable def F_X12_carry (as : List XV) (w : XW) : Option (Int32 × XW) := (xF 3 bs_X12_carry as w).bind pI
theorem m_X12_carry : XM yX12_carry cX12_carry 3 (some .int) 2 43 (eI F_X12_carry) := xm_I (xm_of (by decide) s_X12_carry)
noncomputable def q_X12_carry_0 (x1 : Int32) (x2 : Int32) (w : XW) : Option XR := ev bs_X12_carry 0 ([some (.inr (11, 0)), some (.inl (.int x1)), some (.inl (.int x2))], [], w)
noncomputable def q_X12_carry_8 (x1 : Int32) (x2 : Int32) (w : XW) : Option XR := ev bs_X12_carry 8 ([some (.inr (11, 0)), some (.inl (.int x1)), some (.inl (.int x2))], [], w)
noncomputable def q_X12_carry_16 (x1 : Int32) (x2 : Int32) (w : XW) : Option XR := ev bs_X12_carry 16 ([some (.inr (11, 0)), some (.inl (.int x1)), some (.inl (.int x2))], [], w)
noncomputable def q_X12_carry_24 (w : XW) : Option XR := ev bs_X12_carry 24 ([none, none, none], [], w)
noncomputable def q_X12_carry_26 (x1 : Int32) (x2 : Int32) (w : XW) : Option XR := ev bs_X12_carry 26 ([some (.inr (11, 0)), some (.inl (.int x1)), some (.inl (.int x2))], [], w)
theorem e_X12_carry_0 (x1 : Int32) (x2 : Int32) (w : XW) : q_X12_carry_0 x1 x2 w = ((F_X12_isHome [.inr (11, 0), .inl (.int x1)] w).bind fun r0 => (bif decide (r0.1 = 0) then (q_X12_carry_24 r0.2) else (q_X12_carry_8 x1 x2 r0.2))) := (ev_eq _ _ _).trans rfl
theorem e_X12_carry_8 (x1 : Int32) (x2 : Int32) (w : XW) : q_X12_carry_8 x1 x2 w = ((F_X12_isField [.inr (11, 0), .inl (.int x2)] w).bind fun r0 => (bif decide (r0.1 = 0) then (q_X12_carry_24 r0.2) else (q_X12_carry_16 x1 x2 r0.2))) := (ev_eq _ _ _).trans rfl
theorem e_X12_carry_16 (x1 : Int32) (x2 : Int32) (w : XW) : q_X12_carry_16 x1 x2 w = ((F_X12_keepIn [.inr (11, 0), .inl (.int x2)] w).bind fun r0 => (bif decide (r0.1 < 0) then (q_X12_carry_26 x1 x2 r0.2) else (q_X12_carry_24 r0.2))) := (ev_eq _ _ _).trans rfl
theorem e_X12_carry_24 (w : XW) : q_X12_carry_24 w = (some (some (.inl (.int (-1))), w)) := (ev_eq _ _ _).trans rfl
theorem e_X12_carry_26 (x1 : Int32) (x2 : Int32) (w : XW) : q_X12_carry_26 x1 x2 w = ((F_X12_keepsAct [.inr (11, 0)] w).bind fun r0 => (if ((11 + (4 * x1)) + 2) < 0 ∨ 98 ≤ ((11 + (4 * x1)) + 2).toNatClampNeg then none else ((F_X12_keptOffBy [.inr (11, 0), .inl (.int x1), .inl (.int x2)] (sI r0 50 0 (((11 + (4 * x1)) + 2).toNatClampNeg) x2)).bind fun r1 => (some (some (.inl (.int r1.1)), r1.2))))) := (ev_eq _ _ _).trans rfl
theorem f_X12_carry (x1 : Int32) (x2 : Int32) (w : XW) : F_X12_carry [.inr (11, 0), .inl (.int x1), .inl (.int x2)] w = (q_X12_carry_0 x1 x2 w).bind pI := rfl

-- WinterKeepModel.fetch(I)I
theorem dX12_fetch_0 : decode cX12_fetch 0 = .ok (.aload_n 0, 1) := by decide +kernel
theorem dX12_fetch_1 : decode cX12_fetch 1 = .ok (.iload_n 1, 1) := by decide +kernel
theorem dX12_fetch_2 : decode cX12_fetch 2 = .ok (.invokevirtual 298, 3) := by decide +kernel
theorem dX12_fetch_5 : decode cX12_fetch 5 = .ok (.ifCond .eq 11, 3) := by decide +kernel
theorem dX12_fetch_8 : decode cX12_fetch 8 = .ok (.aload_n 0, 1) := by decide +kernel
theorem dX12_fetch_9 : decode cX12_fetch 9 = .ok (.iload_n 1, 1) := by decide +kernel
theorem dX12_fetch_10 : decode cX12_fetch 10 = .ok (.invokevirtual 301, 3) := by decide +kernel
theorem dX12_fetch_13 : decode cX12_fetch 13 = .ok (.ifCond .ge 5, 3) := by decide +kernel
theorem dX12_fetch_16 : decode cX12_fetch 16 = .ok (.iconst (-1), 1) := by decide +kernel
theorem dX12_fetch_17 : decode cX12_fetch 17 = .ok (.ireturn, 1) := by decide +kernel
theorem dX12_fetch_18 : decode cX12_fetch 18 = .ok (.aload_n 0, 1) := by decide +kernel
theorem dX12_fetch_19 : decode cX12_fetch 19 = .ok (.invokevirtual 372, 3) := by decide +kernel
theorem dX12_fetch_22 : decode cX12_fetch 22 = .ok (.aload_n 0, 1) := by decide +kernel
theorem dX12_fetch_23 : decode cX12_fetch 23 = .ok (.iload_n 1, 1) := by decide +kernel
theorem dX12_fetch_24 : decode cX12_fetch 24 = .ok (.invokevirtual 301, 3) := by decide +kernel
theorem dX12_fetch_27 : decode cX12_fetch 27 = .ok (.istore_n 2, 1) := by decide +kernel
theorem dX12_fetch_28 : decode cX12_fetch 28 = .ok (.aload_n 0, 1) := by decide +kernel
theorem dX12_fetch_29 : decode cX12_fetch 29 = .ok (.getfield 39, 3) := by decide +kernel
theorem dX12_fetch_32 : decode cX12_fetch 32 = .ok (.bipush 11, 2) := by decide +kernel
theorem dX12_fetch_34 : decode cX12_fetch 34 = .ok (.iconst 4, 1) := by decide +kernel
theorem dX12_fetch_35 : decode cX12_fetch 35 = .ok (.iload_n 1, 1) := by decide +kernel
theorem dX12_fetch_36 : decode cX12_fetch 36 = .ok (.imul, 1) := by decide +kernel
theorem dX12_fetch_37 : decode cX12_fetch 37 = .ok (.iadd, 1) := by decide +kernel
theorem dX12_fetch_38 : decode cX12_fetch 38 = .ok (.iconst 2, 1) := by decide +kernel
theorem dX12_fetch_39 : decode cX12_fetch 39 = .ok (.iadd, 1) := by decide +kernel
theorem dX12_fetch_40 : decode cX12_fetch 40 = .ok (.iconst (-1), 1) := by decide +kernel
theorem dX12_fetch_41 : decode cX12_fetch 41 = .ok (.iastore, 1) := by decide +kernel
theorem dX12_fetch_42 : decode cX12_fetch 42 = .ok (.iload_n 2, 1) := by decide +kernel
theorem dX12_fetch_43 : decode cX12_fetch 43 = .ok (.ireturn, 1) := by decide +kernel
noncomputable def bs_X12_fetch : List (Nat × XB) := [
  (0, (sq (xLA 0) (sq (xLI 1) (sq (xCI 11 2 F_X12_isKeep) (tIf1 (fun x => decide (x = 0)) 16 [false, false, false] 8 [true, true, false]))))),
  (8, (sq (xLA 0) (sq (xLI 1) (sq (xCI 11 2 F_X12_whereIs) (tIf1 (fun x => decide (0 ≤ x)) 18 [true, true, false] 16 [false, false, false]))))),
  (16, (sq (xC (.int (-1))) tRI)),
  (18, (sq (xLA 0) (sq (xCV 11 1 F_X12_keepsAct) (sq (xLA 0) (sq (xLI 1) (sq (xCI 11 2 F_X12_whereIs) (sq (xSI 2) (sq (xLA 0) (sq (xGS 11 50 1 0) (sq (xC (.int 11)) (sq (xC (.int 4)) (sq (xLI 1) (sq (xI2 (· * ·)) (sq (xI2 (· + ·)) (sq (xC (.int 2)) (sq (xI2 (· + ·)) (sq (xC (.int (-1))) (sq (xTI 50 98 (fun x => x)) (sq (xLI 2) tRI)))))))))))))))))))]
set_option maxRecDepth 100000 in
set_option maxHeartbeats 4000000 in
theorem s_X12_fetch : ∀ X : XCtx, XE X → X.2.2.1.1 = cX12_fetch → X.2.2.1.2.1 = 3 → X.2.2.1.2.2.1 = yX12_fetch.cls → X.2.2.1.2.2.2.1 = (some .int) → X.1.2.2.2.1 = { frames := 1, cells := 0, slots := 0, locals := 21 } → SndBs X bs_X12_fetch := by
  rintro ⟨⟨p, l, e, R, s⟩, Y, ⟨cc, nL, own, ret, Ts⟩, Z⟩ hE h1 h2 h3 h4 h5
  dsimp only at h1 h2 h3 h4 h5
  subst h1 h2 h3 h4 h5
  exact ⟨(n_sq (n_aload_n hE dX12_fetch_0) (n_sq (n_iload_n hE dX12_fetch_1) (n_sq (n_cIv hE m_X12_isKeep vc_X12_298 (show 0 + 1 ≤ 1 ∧ 8 + (2 + 11) + 0 ≤ 21 by decide) dX12_fetch_2) (n_ifeq hE (by decide) dX12_fetch_5)))),
    (n_sq (n_aload_n hE dX12_fetch_8) (n_sq (n_iload_n hE dX12_fetch_9) (n_sq (n_cIv hE m_X12_whereIs vc_X12_301 (show 0 + 1 ≤ 1 ∧ 8 + (2 + 11) + 0 ≤ 21 by decide) dX12_fetch_10) (n_ifge hE (by decide) dX12_fetch_13)))),
    (n_sq (n_iconst hE (by decide) dX12_fetch_16) (n_ireturn hE rfl dX12_fetch_17)),
    (n_sq (n_aload_n hE dX12_fetch_18) (n_sq (n_cVv hE m_X12_keepsAct vc_X12_372 (show 0 + 1 ≤ 1 ∧ 8 + (2 + 11) + 0 ≤ 21 by decide) dX12_fetch_19) (n_sq (n_aload_n hE dX12_fetch_22) (n_sq (n_iload_n hE dX12_fetch_23) (n_sq (n_cIv hE m_X12_whereIs vc_X12_301 (show 0 + 1 ≤ 1 ∧ 8 + (2 + 11) + 0 ≤ 21 by decide) dX12_fetch_24) (n_sq (n_istore_n hE (show (2 : Nat) < 3 by decide) dX12_fetch_27) (n_sq (n_aload_n hE dX12_fetch_28) (n_sq (n_getS hE xk_11 (k := 20) rfl (by decide) rfl wt_980 dX12_fetch_29) (n_sq (n_bipush hE (by decide) dX12_fetch_32) (n_sq (n_iconst hE (by decide) dX12_fetch_34) (n_sq (n_iload_n hE dX12_fetch_35) (n_sq (n_imul hE dX12_fetch_36) (n_sq (n_iadd hE dX12_fetch_37) (n_sq (n_iconst hE (by decide) dX12_fetch_38) (n_sq (n_iadd hE dX12_fetch_39) (n_sq (n_iconst hE (by decide) dX12_fetch_40) (n_sq (n_iast hE rfl (by decide) dX12_fetch_41) (n_sq (n_iload_n hE dX12_fetch_42) (n_ireturn hE rfl dX12_fetch_43))))))))))))))))))), trivial⟩
noncomputable def F_X12_fetch (as : List XV) (w : XW) : Option (Int32 × XW) := (xF 3 bs_X12_fetch as w).bind pI
theorem m_X12_fetch : XM yX12_fetch cX12_fetch 3 (some .int) 1 21 (eI F_X12_fetch) := xm_I (xm_of (by decide) s_X12_fetch)
noncomputable def q_X12_fetch_0 (x1 : Int32) (w : XW) : Option XR := ev bs_X12_fetch 0 ([some (.inr (11, 0)), some (.inl (.int x1)), none], [], w)
noncomputable def q_X12_fetch_8 (x1 : Int32) (w : XW) : Option XR := ev bs_X12_fetch 8 ([some (.inr (11, 0)), some (.inl (.int x1)), none], [], w)
noncomputable def q_X12_fetch_16 (w : XW) : Option XR := ev bs_X12_fetch 16 ([none, none, none], [], w)
noncomputable def q_X12_fetch_18 (x1 : Int32) (w : XW) : Option XR := ev bs_X12_fetch 18 ([some (.inr (11, 0)), some (.inl (.int x1)), none], [], w)
theorem e_X12_fetch_0 (x1 : Int32) (w : XW) : q_X12_fetch_0 x1 w = ((F_X12_isKeep [.inr (11, 0), .inl (.int x1)] w).bind fun r0 => (bif decide (r0.1 = 0) then (q_X12_fetch_16 r0.2) else (q_X12_fetch_8 x1 r0.2))) := (ev_eq _ _ _).trans rfl
theorem e_X12_fetch_8 (x1 : Int32) (w : XW) : q_X12_fetch_8 x1 w = ((F_X12_whereIs [.inr (11, 0), .inl (.int x1)] w).bind fun r0 => (bif decide (0 ≤ r0.1) then (q_X12_fetch_18 x1 r0.2) else (q_X12_fetch_16 r0.2))) := (ev_eq _ _ _).trans rfl
theorem e_X12_fetch_16 (w : XW) : q_X12_fetch_16 w = (some (some (.inl (.int (-1))), w)) := (ev_eq _ _ _).trans rfl
theorem e_X12_fetch_18 (x1 : Int32) (w : XW) : q_X12_fetch_18 x1 w = ((F_X12_keepsAct [.inr (11, 0)] w).bind fun r0 => ((F_X12_whereIs [.inr (11, 0), .inl (.int x1)] r0).bind fun r1 => (if ((11 + (4 * x1)) + 2) < 0 ∨ 98 ≤ ((11 + (4 * x1)) + 2).toNatClampNeg then none else (some (some (.inl (.int r1.1)), sI r1.2 50 0 (((11 + (4 * x1)) + 2).toNatClampNeg) (-1)))))) := (ev_eq _ _ _).trans rfl
theorem f_X12_fetch (x1 : Int32) (w : XW) : F_X12_fetch [.inr (11, 0), .inl (.int x1)] w = (q_X12_fetch_0 x1 w).bind pI := rfl

-- WinterKeepModel.seat(II)I
theorem dX12_seat_0 : decode cX12_seat 0 = .ok (.aload_n 0, 1) := by decide +kernel
theorem dX12_seat_1 : decode cX12_seat 1 = .ok (.iload_n 1, 1) := by decide +kernel
theorem dX12_seat_2 : decode cX12_seat 2 = .ok (.invokevirtual 298, 3) := by decide +kernel
theorem dX12_seat_5 : decode cX12_seat 5 = .ok (.ifCond .eq 16, 3) := by decide +kernel
theorem dX12_seat_8 : decode cX12_seat 8 = .ok (.aload_n 0, 1) := by decide +kernel
theorem dX12_seat_9 : decode cX12_seat 9 = .ok (.iload_n 2, 1) := by decide +kernel
theorem dX12_seat_10 : decode cX12_seat 10 = .ok (.invokevirtual 298, 3) := by decide +kernel
theorem dX12_seat_13 : decode cX12_seat 13 = .ok (.ifCond .eq 8, 3) := by decide +kernel
theorem dX12_seat_16 : decode cX12_seat 16 = .ok (.iload_n 1, 1) := by decide +kernel
theorem dX12_seat_17 : decode cX12_seat 17 = .ok (.iload_n 2, 1) := by decide +kernel
theorem dX12_seat_18 : decode cX12_seat 18 = .ok (.if_icmp .ne 5, 3) := by decide +kernel
theorem dX12_seat_21 : decode cX12_seat 21 = .ok (.iconst (-1), 1) := by decide +kernel
theorem dX12_seat_22 : decode cX12_seat 22 = .ok (.ireturn, 1) := by decide +kernel
theorem dX12_seat_23 : decode cX12_seat 23 = .ok (.aload_n 0, 1) := by decide +kernel
theorem dX12_seat_24 : decode cX12_seat 24 = .ok (.invokevirtual 372, 3) := by decide +kernel
theorem dX12_seat_27 : decode cX12_seat 27 = .ok (.aload_n 0, 1) := by decide +kernel
theorem dX12_seat_28 : decode cX12_seat 28 = .ok (.getfield 39, 3) := by decide +kernel
theorem dX12_seat_31 : decode cX12_seat 31 = .ok (.bipush 11, 2) := by decide +kernel
theorem dX12_seat_33 : decode cX12_seat 33 = .ok (.iconst 4, 1) := by decide +kernel
theorem dX12_seat_34 : decode cX12_seat 34 = .ok (.iload_n 1, 1) := by decide +kernel
theorem dX12_seat_35 : decode cX12_seat 35 = .ok (.imul, 1) := by decide +kernel
theorem dX12_seat_36 : decode cX12_seat 36 = .ok (.iadd, 1) := by decide +kernel
theorem dX12_seat_37 : decode cX12_seat 37 = .ok (.iconst 3, 1) := by decide +kernel
theorem dX12_seat_38 : decode cX12_seat 38 = .ok (.iadd, 1) := by decide +kernel
theorem dX12_seat_39 : decode cX12_seat 39 = .ok (.dup2, 1) := by decide +kernel
theorem dX12_seat_40 : decode cX12_seat 40 = .ok (.iaload, 1) := by decide +kernel
theorem dX12_seat_41 : decode cX12_seat 41 = .ok (.iconst 1, 1) := by decide +kernel
theorem dX12_seat_42 : decode cX12_seat 42 = .ok (.iload_n 2, 1) := by decide +kernel
theorem dX12_seat_43 : decode cX12_seat 43 = .ok (.ishl, 1) := by decide +kernel
theorem dX12_seat_44 : decode cX12_seat 44 = .ok (.ixor, 1) := by decide +kernel
theorem dX12_seat_45 : decode cX12_seat 45 = .ok (.iastore, 1) := by decide +kernel
theorem dX12_seat_46 : decode cX12_seat 46 = .ok (.aload_n 0, 1) := by decide +kernel
theorem dX12_seat_47 : decode cX12_seat 47 = .ok (.getfield 39, 3) := by decide +kernel
theorem dX12_seat_50 : decode cX12_seat 50 = .ok (.bipush 11, 2) := by decide +kernel
theorem dX12_seat_52 : decode cX12_seat 52 = .ok (.iconst 4, 1) := by decide +kernel
theorem dX12_seat_53 : decode cX12_seat 53 = .ok (.iload_n 2, 1) := by decide +kernel
theorem dX12_seat_54 : decode cX12_seat 54 = .ok (.imul, 1) := by decide +kernel
theorem dX12_seat_55 : decode cX12_seat 55 = .ok (.iadd, 1) := by decide +kernel
theorem dX12_seat_56 : decode cX12_seat 56 = .ok (.iconst 3, 1) := by decide +kernel
theorem dX12_seat_57 : decode cX12_seat 57 = .ok (.iadd, 1) := by decide +kernel
theorem dX12_seat_58 : decode cX12_seat 58 = .ok (.dup2, 1) := by decide +kernel
theorem dX12_seat_59 : decode cX12_seat 59 = .ok (.iaload, 1) := by decide +kernel
theorem dX12_seat_60 : decode cX12_seat 60 = .ok (.iconst 1, 1) := by decide +kernel
theorem dX12_seat_61 : decode cX12_seat 61 = .ok (.iload_n 1, 1) := by decide +kernel
theorem dX12_seat_62 : decode cX12_seat 62 = .ok (.ishl, 1) := by decide +kernel
theorem dX12_seat_63 : decode cX12_seat 63 = .ok (.ixor, 1) := by decide +kernel
theorem dX12_seat_64 : decode cX12_seat 64 = .ok (.iastore, 1) := by decide +kernel
theorem dX12_seat_65 : decode cX12_seat 65 = .ok (.aload_n 0, 1) := by decide +kernel
theorem dX12_seat_66 : decode cX12_seat 66 = .ok (.iload_n 1, 1) := by decide +kernel
theorem dX12_seat_67 : decode cX12_seat 67 = .ok (.invokevirtual 317, 3) := by decide +kernel
theorem dX12_seat_70 : decode cX12_seat 70 = .ok (.iload_n 2, 1) := by decide +kernel
theorem dX12_seat_71 : decode cX12_seat 71 = .ok (.ishr, 1) := by decide +kernel
theorem dX12_seat_72 : decode cX12_seat 72 = .ok (.iconst 1, 1) := by decide +kernel
theorem dX12_seat_73 : decode cX12_seat 73 = .ok (.iand, 1) := by decide +kernel
theorem dX12_seat_74 : decode cX12_seat 74 = .ok (.ireturn, 1) := by decide +kernel
noncomputable def bs_X12_seat : List (Nat × XB) := [
  (0, (sq (xLA 0) (sq (xLI 1) (sq (xCI 11 2 F_X12_isKeep) (tIf1 (fun x => decide (x = 0)) 21 [false, false, false] 8 [true, true, true]))))),
  (8, (sq (xLA 0) (sq (xLI 2) (sq (xCI 11 2 F_X12_isKeep) (tIf1 (fun x => decide (x = 0)) 21 [false, false, false] 16 [true, true, true]))))),
  (16, (sq (xLI 1) (sq (xLI 2) (tIf2 (fun x y => decide (¬ x = y)) 23 [true, true, true] 21 [false, false, false])))),
  (21, (sq (xC (.int (-1))) tRI)),
  (23, (sq (xLA 0) (sq (xCV 11 1 F_X12_keepsAct) (sq (xLA 0) (sq (xGS 11 50 1 0) (sq (xC (.int 11)) (sq (xC (.int 4)) (sq (xLI 1) (sq (xI2 (· * ·)) (sq (xI2 (· + ·)) (sq (xC (.int 3)) (sq (xI2 (· + ·)) (sq (xDup2) (sq (xAI 50 98) (sq (xC (.int 1)) (sq (xLI 2) (sq (xI2 (fun x y => x <<< (y &&& 31))) (sq (xI2 (· ^^^ ·)) (sq (xTI 50 98 (fun x => x)) (sq (xLA 0) (sq (xGS 11 50 1 0) (sq (xC (.int 11)) (sq (xC (.int 4)) (sq (xLI 2) (sq (xI2 (· * ·)) (sq (xI2 (· + ·)) (sq (xC (.int 3)) (sq (xI2 (· + ·)) (sq (xDup2) (sq (xAI 50 98) (sq (xC (.int 1)) (sq (xLI 1) (sq (xI2 (fun x y => x <<< (y &&& 31))) (sq (xI2 (· ^^^ ·)) (sq (xTI 50 98 (fun x => x)) (sq (xLA 0) (sq (xLI 1) (sq (xCI 11 2 F_X12_besideOf) (sq (xLI 2) (sq (xI2 (fun x y => x >>> (y &&& 31))) (sq (xC (.int 1)) (sq (xI2 (· &&& ·)) tRI))))))))))))))))))))))))))))))))))))))))))]
set_option maxRecDepth 100000 in
set_option maxHeartbeats 4000000 in
theorem s_X12_seat : ∀ X : XCtx, XE X → X.2.2.1.1 = cX12_seat → X.2.2.1.2.1 = 3 → X.2.2.1.2.2.1 = yX12_seat.cls → X.2.2.1.2.2.2.1 = (some .int) → X.1.2.2.2.1 = { frames := 1, cells := 0, slots := 0, locals := 21 } → SndBs X bs_X12_seat := by
  rintro ⟨⟨p, l, e, R, s⟩, Y, ⟨cc, nL, own, ret, Ts⟩, Z⟩ hE h1 h2 h3 h4 h5
  dsimp only at h1 h2 h3 h4 h5
  subst h1 h2 h3 h4 h5
  exact ⟨(n_sq (n_aload_n hE dX12_seat_0) (n_sq (n_iload_n hE dX12_seat_1) (n_sq (n_cIv hE m_X12_isKeep vc_X12_298 (show 0 + 1 ≤ 1 ∧ 8 + (2 + 11) + 0 ≤ 21 by decide) dX12_seat_2) (n_ifeq hE (by decide) dX12_seat_5)))),
    (n_sq (n_aload_n hE dX12_seat_8) (n_sq (n_iload_n hE dX12_seat_9) (n_sq (n_cIv hE m_X12_isKeep vc_X12_298 (show 0 + 1 ≤ 1 ∧ 8 + (2 + 11) + 0 ≤ 21 by decide) dX12_seat_10) (n_ifeq hE (by decide) dX12_seat_13)))),
    (n_sq (n_iload_n hE dX12_seat_16) (n_sq (n_iload_n hE dX12_seat_17) (n_ifcne hE (by decide) dX12_seat_18))),
    (n_sq (n_iconst hE (by decide) dX12_seat_21) (n_ireturn hE rfl dX12_seat_22)),
    (n_sq (n_aload_n hE dX12_seat_23) (n_sq (n_cVv hE m_X12_keepsAct vc_X12_372 (show 0 + 1 ≤ 1 ∧ 8 + (2 + 11) + 0 ≤ 21 by decide) dX12_seat_24) (n_sq (n_aload_n hE dX12_seat_27) (n_sq (n_getS hE xk_11 (k := 20) rfl (by decide) rfl wt_980 dX12_seat_28) (n_sq (n_bipush hE (by decide) dX12_seat_31) (n_sq (n_iconst hE (by decide) dX12_seat_33) (n_sq (n_iload_n hE dX12_seat_34) (n_sq (n_imul hE dX12_seat_35) (n_sq (n_iadd hE dX12_seat_36) (n_sq (n_iconst hE (by decide) dX12_seat_37) (n_sq (n_iadd hE dX12_seat_38) (n_sq (n_dup2 hE dX12_seat_39) (n_sq (n_iald hE rfl (by decide) dX12_seat_40) (n_sq (n_iconst hE (by decide) dX12_seat_41) (n_sq (n_iload_n hE dX12_seat_42) (n_sq (n_ishl hE dX12_seat_43) (n_sq (n_ixor hE dX12_seat_44) (n_sq (n_iast hE rfl (by decide) dX12_seat_45) (n_sq (n_aload_n hE dX12_seat_46) (n_sq (n_getS hE xk_11 (k := 20) rfl (by decide) rfl wt_980 dX12_seat_47) (n_sq (n_bipush hE (by decide) dX12_seat_50) (n_sq (n_iconst hE (by decide) dX12_seat_52) (n_sq (n_iload_n hE dX12_seat_53) (n_sq (n_imul hE dX12_seat_54) (n_sq (n_iadd hE dX12_seat_55) (n_sq (n_iconst hE (by decide) dX12_seat_56) (n_sq (n_iadd hE dX12_seat_57) (n_sq (n_dup2 hE dX12_seat_58) (n_sq (n_iald hE rfl (by decide) dX12_seat_59) (n_sq (n_iconst hE (by decide) dX12_seat_60) (n_sq (n_iload_n hE dX12_seat_61) (n_sq (n_ishl hE dX12_seat_62) (n_sq (n_ixor hE dX12_seat_63) (n_sq (n_iast hE rfl (by decide) dX12_seat_64) (n_sq (n_aload_n hE dX12_seat_65) (n_sq (n_iload_n hE dX12_seat_66) (n_sq (n_cIv hE m_X12_besideOf vc_X12_317 (show 0 + 1 ≤ 1 ∧ 8 + (2 + 11) + 0 ≤ 21 by decide) dX12_seat_67) (n_sq (n_iload_n hE dX12_seat_70) (n_sq (n_ishr hE dX12_seat_71) (n_sq (n_iconst hE (by decide) dX12_seat_72) (n_sq (n_iand hE dX12_seat_73) (n_ireturn hE rfl dX12_seat_74)))))))))))))))))))))))))))))))))))))))))), trivial⟩
noncomputable def F_X12_seat (as : List XV) (w : XW) : Option (Int32 × XW) := (xF 3 bs_X12_seat as w).bind pI
theorem m_X12_seat : XM yX12_seat cX12_seat 3 (some .int) 1 21 (eI F_X12_seat) := xm_I (xm_of (by decide) s_X12_seat)
noncomputable def q_X12_seat_0 (x1 : Int32) (x2 : Int32) (w : XW) : Option XR := ev bs_X12_seat 0 ([some (.inr (11, 0)), some (.inl (.int x1)), some (.inl (.int x2))], [], w)
noncomputable def q_X12_seat_8 (x1 : Int32) (x2 : Int32) (w : XW) : Option XR := ev bs_X12_seat 8 ([some (.inr (11, 0)), some (.inl (.int x1)), some (.inl (.int x2))], [], w)
noncomputable def q_X12_seat_16 (x1 : Int32) (x2 : Int32) (w : XW) : Option XR := ev bs_X12_seat 16 ([some (.inr (11, 0)), some (.inl (.int x1)), some (.inl (.int x2))], [], w)
noncomputable def q_X12_seat_21 (w : XW) : Option XR := ev bs_X12_seat 21 ([none, none, none], [], w)
noncomputable def q_X12_seat_23 (x1 : Int32) (x2 : Int32) (w : XW) : Option XR := ev bs_X12_seat 23 ([some (.inr (11, 0)), some (.inl (.int x1)), some (.inl (.int x2))], [], w)
set_option maxRecDepth 100000 in
theorem e_X12_seat_0 (x1 : Int32) (x2 : Int32) (w : XW) : q_X12_seat_0 x1 x2 w = ((F_X12_isKeep [.inr (11, 0), .inl (.int x1)] w).bind fun r0 => (bif decide (r0.1 = 0) then (q_X12_seat_21 r0.2) else (q_X12_seat_8 x1 x2 r0.2))) := (ev_eq _ _ _).trans rfl
set_option maxRecDepth 100000 in
theorem e_X12_seat_8 (x1 : Int32) (x2 : Int32) (w : XW) : q_X12_seat_8 x1 x2 w = ((F_X12_isKeep [.inr (11, 0), .inl (.int x2)] w).bind fun r0 => (bif decide (r0.1 = 0) then (q_X12_seat_21 r0.2) else (q_X12_seat_16 x1 x2 r0.2))) := (ev_eq _ _ _).trans rfl
set_option maxRecDepth 100000 in
theorem e_X12_seat_16 (x1 : Int32) (x2 : Int32) (w : XW) : q_X12_seat_16 x1 x2 w = (bif decide (¬ x1 = x2) then (q_X12_seat_23 x1 x2 w) else (q_X12_seat_21 w)) := (ev_eq _ _ _).trans rfl
set_option maxRecDepth 100000 in
theorem e_X12_seat_21 (w : XW) : q_X12_seat_21 w = (some (some (.inl (.int (-1))), w)) := (ev_eq _ _ _).trans rfl
set_option maxRecDepth 100000 in
theorem e_X12_seat_23 (x1 : Int32) (x2 : Int32) (w : XW) : q_X12_seat_23 x1 x2 w = ((F_X12_keepsAct [.inr (11, 0)] w).bind fun r0 => (if ((11 + (4 * x1)) + 3) < 0 ∨ 98 ≤ ((11 + (4 * x1)) + 3).toNatClampNeg then none else (if ((11 + (4 * x1)) + 3) < 0 ∨ 98 ≤ ((11 + (4 * x1)) + 3).toNatClampNeg then none else (if ((11 + (4 * x2)) + 3) < 0 ∨ 98 ≤ ((11 + (4 * x2)) + 3).toNatClampNeg then none else (if ((11 + (4 * x2)) + 3) < 0 ∨ 98 ≤ ((11 + (4 * x2)) + 3).toNatClampNeg then none else ((F_X12_besideOf [.inr (11, 0), .inl (.int x1)] (sI (sI r0 50 0 (((11 + (4 * x1)) + 3).toNatClampNeg) ((gI r0 50 0 ((11 + (4 * x1)) + 3).toNatClampNeg) ^^^ ((1 : Int32) <<< ((x2 : Int32) &&& 31)))) 50 0 (((11 + (4 * x2)) + 3).toNatClampNeg) ((gI (sI r0 50 0 (((11 + (4 * x1)) + 3).toNatClampNeg) ((gI r0 50 0 ((11 + (4 * x1)) + 3).toNatClampNeg) ^^^ ((1 : Int32) <<< ((x2 : Int32) &&& 31)))) 50 0 ((11 + (4 * x2)) + 3).toNatClampNeg) ^^^ ((1 : Int32) <<< ((x1 : Int32) &&& 31))))).bind fun r1 => (some (some (.inl (.int (((r1.1 : Int32) >>> ((x2 : Int32) &&& 31)) &&& 1))), r1.2)))))))) := (ev_eq _ _ _).trans rfl
theorem f_X12_seat (x1 : Int32) (x2 : Int32) (w : XW) : F_X12_seat [.inr (11, 0), .inl (.int x1), .inl (.int x2)] w = (q_X12_seat_0 x1 x2 w).bind pI := rfl

-- WinterKeepModel.keeps()V
theorem dX12_keeps_0 : decode cX12_keeps 0 = .ok (.iconst 0, 1) := by decide +kernel
theorem dX12_keeps_1 : decode cX12_keeps 1 = .ok (.istore_n 1, 1) := by decide +kernel
theorem dX12_keeps_2 : decode cX12_keeps 2 = .ok (.iload_n 1, 1) := by decide +kernel
theorem dX12_keeps_3 : decode cX12_keeps 3 = .ok (.bipush 25, 2) := by decide +kernel
theorem dX12_keeps_5 : decode cX12_keeps 5 = .ok (.if_icmp .ge 24, 3) := by decide +kernel
theorem dX12_keeps_8 : decode cX12_keeps 8 = .ok (.aload_n 0, 1) := by decide +kernel
theorem dX12_keeps_9 : decode cX12_keeps 9 = .ok (.getfield 55, 3) := by decide +kernel
theorem dX12_keeps_12 : decode cX12_keeps 12 = .ok (.iload_n 1, 1) := by decide +kernel
theorem dX12_keeps_13 : decode cX12_keeps 13 = .ok (.aload_n 0, 1) := by decide +kernel
theorem dX12_keeps_14 : decode cX12_keeps 14 = .ok (.getfield 39, 3) := by decide +kernel
theorem dX12_keeps_17 : decode cX12_keeps 17 = .ok (.bipush 10, 2) := by decide +kernel
theorem dX12_keeps_19 : decode cX12_keeps 19 = .ok (.iload_n 1, 1) := by decide +kernel
theorem dX12_keeps_20 : decode cX12_keeps 20 = .ok (.iadd, 1) := by decide +kernel
theorem dX12_keeps_21 : decode cX12_keeps 21 = .ok (.iaload, 1) := by decide +kernel
theorem dX12_keeps_22 : decode cX12_keeps 22 = .ok (.iastore, 1) := by decide +kernel
theorem dX12_keeps_23 : decode cX12_keeps 23 = .ok (.iinc 1 1, 3) := by decide +kernel
theorem dX12_keeps_26 : decode cX12_keeps 26 = .ok (.goto (-24), 3) := by decide +kernel
theorem dX12_keeps_29 : decode cX12_keeps 29 = .ok (.return_, 1) := by decide +kernel
noncomputable def bs_X12_keeps : List (Nat × XB) := [
  (0, (sq (xC (.int 0)) (sq (xSI 1) (tGo 2 [true, true])))),
  (2, (sq (xLI 1) (sq (xC (.int 25)) (tIf2 (fun x y => decide (y ≤ x)) 29 [false, false] 8 [true, true])))),
  (8, (sq (xLA 0) (sq (xGS 11 53 1 0) (sq (xLI 1) (sq (xLA 0) (sq (xGS 11 50 1 0) (sq (xC (.int 10)) (sq (xLI 1) (sq (xI2 (· + ·)) (sq (xAI 50 98) (sq (xTI 53 25 (fun x => x)) (sq (xInc 1 1) (tGo 2 [true, true]))))))))))))),
  (29, tRV)]
set_option maxRecDepth 100000 in
set_option maxHeartbeats 4000000 in
theorem s_X12_keeps : ∀ X : XCtx, XE X → X.2.2.1.1 = cX12_keeps → X.2.2.1.2.1 = 2 → X.2.2.1.2.2.1 = yX12_keeps.cls → X.2.2.1.2.2.2.1 = none → X.1.2.2.2.1 = { frames := 0, cells := 0, slots := 0, locals := 0 } → SndBs X bs_X12_keeps := by
  rintro ⟨⟨p, l, e, R, s⟩, Y, ⟨cc, nL, own, ret, Ts⟩, Z⟩ hE h1 h2 h3 h4 h5
  dsimp only at h1 h2 h3 h4 h5
  subst h1 h2 h3 h4 h5
  exact ⟨(n_sq (n_iconst hE (by decide) dX12_keeps_0) (n_sq (n_istore_n hE (show (1 : Nat) < 2 by decide) dX12_keeps_1) n_fall)),
    (n_sq (n_iload_n hE dX12_keeps_2) (n_sq (n_bipush hE (by decide) dX12_keeps_3) (n_ifcge hE (by decide) dX12_keeps_5))),
    (n_sq (n_aload_n hE dX12_keeps_8) (n_sq (n_getS hE xk_11 (k := 27) rfl (by decide) rfl wt_987 dX12_keeps_9) (n_sq (n_iload_n hE dX12_keeps_12) (n_sq (n_aload_n hE dX12_keeps_13) (n_sq (n_getS hE xk_11 (k := 20) rfl (by decide) rfl wt_980 dX12_keeps_14) (n_sq (n_bipush hE (by decide) dX12_keeps_17) (n_sq (n_iload_n hE dX12_keeps_19) (n_sq (n_iadd hE dX12_keeps_20) (n_sq (n_iald hE rfl (by decide) dX12_keeps_21) (n_sq (n_iast hE rfl (by decide) dX12_keeps_22) (n_sq (n_iinc hE (by decide) (show (1 : Nat) < 2 by decide) dX12_keeps_23) (n_goto hE (by decide) dX12_keeps_26)))))))))))),
    (n_vreturn hE rfl dX12_keeps_29), trivial⟩
noncomputable def F_X12_keeps (as : List XV) (w : XW) : Option XW := (xF 2 bs_X12_keeps as w).bind pV
theorem m_X12_keeps : XM yX12_keeps cX12_keeps 2 none 0 0 (eV F_X12_keeps) := xm_V (xm_of (by decide) s_X12_keeps)
noncomputable def q_X12_keeps_0 (w : XW) : Option XR := ev bs_X12_keeps 0 ([some (.inr (11, 0)), none], [], w)
noncomputable def q_X12_keeps_2 (x1 : Int32) (w : XW) : Option XR := ev bs_X12_keeps 2 ([some (.inr (11, 0)), some (.inl (.int x1))], [], w)
noncomputable def q_X12_keeps_8 (x1 : Int32) (w : XW) : Option XR := ev bs_X12_keeps 8 ([some (.inr (11, 0)), some (.inl (.int x1))], [], w)
noncomputable def q_X12_keeps_29 (w : XW) : Option XR := ev bs_X12_keeps 29 ([none, none], [], w)
theorem e_X12_keeps_0 (w : XW) : q_X12_keeps_0 w = (q_X12_keeps_2 0 w) := (ev_eq _ _ _).trans rfl
theorem e_X12_keeps_2 (x1 : Int32) (w : XW) : q_X12_keeps_2 x1 w = (bif decide (25 ≤ x1) then (q_X12_keeps_29 w) else (q_X12_keeps_8 x1 w)) := (ev_eq _ _ _).trans rfl
theorem e_X12_keeps_8 (x1 : Int32) (w : XW) : q_X12_keeps_8 x1 w = (if (10 + x1) < 0 ∨ 98 ≤ (10 + x1).toNatClampNeg then none else (if x1 < 0 ∨ 25 ≤ x1.toNatClampNeg then none else (q_X12_keeps_2 (x1 + 1) (sI w 53 0 x1.toNatClampNeg (gI w 50 0 (10 + x1).toNatClampNeg))))) := (ev_eq _ _ _).trans rfl
theorem e_X12_keeps_29 (w : XW) : q_X12_keeps_29 w = (some (none, w)) := (ev_eq _ _ _).trans rfl
theorem f_X12_keeps (w : XW) : F_X12_keeps [.inr (11, 0)] w = (q_X12_keeps_0 w).bind pV := rfl

-- WinterKeepModel.laysBack()V
theorem dX12_laysBack_0 : decode cX12_laysBack 0 = .ok (.iconst 0, 1) := by decide +kernel
theorem dX12_laysBack_1 : decode cX12_laysBack 1 = .ok (.istore_n 1, 1) := by decide +kernel
theorem dX12_laysBack_2 : decode cX12_laysBack 2 = .ok (.iload_n 1, 1) := by decide +kernel
theorem dX12_laysBack_3 : decode cX12_laysBack 3 = .ok (.bipush 25, 2) := by decide +kernel
theorem dX12_laysBack_5 : decode cX12_laysBack 5 = .ok (.if_icmp .ge 24, 3) := by decide +kernel
theorem dX12_laysBack_8 : decode cX12_laysBack 8 = .ok (.aload_n 0, 1) := by decide +kernel
theorem dX12_laysBack_9 : decode cX12_laysBack 9 = .ok (.getfield 39, 3) := by decide +kernel
theorem dX12_laysBack_12 : decode cX12_laysBack 12 = .ok (.bipush 10, 2) := by decide +kernel
theorem dX12_laysBack_14 : decode cX12_laysBack 14 = .ok (.iload_n 1, 1) := by decide +kernel
theorem dX12_laysBack_15 : decode cX12_laysBack 15 = .ok (.iadd, 1) := by decide +kernel
theorem dX12_laysBack_16 : decode cX12_laysBack 16 = .ok (.aload_n 0, 1) := by decide +kernel
theorem dX12_laysBack_17 : decode cX12_laysBack 17 = .ok (.getfield 55, 3) := by decide +kernel
theorem dX12_laysBack_20 : decode cX12_laysBack 20 = .ok (.iload_n 1, 1) := by decide +kernel
theorem dX12_laysBack_21 : decode cX12_laysBack 21 = .ok (.iaload, 1) := by decide +kernel
theorem dX12_laysBack_22 : decode cX12_laysBack 22 = .ok (.iastore, 1) := by decide +kernel
theorem dX12_laysBack_23 : decode cX12_laysBack 23 = .ok (.iinc 1 1, 3) := by decide +kernel
theorem dX12_laysBack_26 : decode cX12_laysBack 26 = .ok (.goto (-24), 3) := by decide +kernel
theorem dX12_laysBack_29 : decode cX12_laysBack 29 = .ok (.return_, 1) := by decide +kernel
noncomputable def bs_X12_laysBack : List (Nat × XB) := [
  (0, (sq (xC (.int 0)) (sq (xSI 1) (tGo 2 [true, true])))),
  (2, (sq (xLI 1) (sq (xC (.int 25)) (tIf2 (fun x y => decide (y ≤ x)) 29 [false, false] 8 [true, true])))),
  (8, (sq (xLA 0) (sq (xGS 11 50 1 0) (sq (xC (.int 10)) (sq (xLI 1) (sq (xI2 (· + ·)) (sq (xLA 0) (sq (xGS 11 53 1 0) (sq (xLI 1) (sq (xAI 53 25) (sq (xTI 50 98 (fun x => x)) (sq (xInc 1 1) (tGo 2 [true, true]))))))))))))),
  (29, tRV)]
set_option maxRecDepth 100000 in
set_option maxHeartbeats 4000000 in
theorem s_X12_laysBack : ∀ X : XCtx, XE X → X.2.2.1.1 = cX12_laysBack → X.2.2.1.2.1 = 2 → X.2.2.1.2.2.1 = yX12_laysBack.cls → X.2.2.1.2.2.2.1 = none → X.1.2.2.2.1 = { frames := 0, cells := 0, slots := 0, locals := 0 } → SndBs X bs_X12_laysBack := by
  rintro ⟨⟨p, l, e, R, s⟩, Y, ⟨cc, nL, own, ret, Ts⟩, Z⟩ hE h1 h2 h3 h4 h5
  dsimp only at h1 h2 h3 h4 h5
  subst h1 h2 h3 h4 h5
  exact ⟨(n_sq (n_iconst hE (by decide) dX12_laysBack_0) (n_sq (n_istore_n hE (show (1 : Nat) < 2 by decide) dX12_laysBack_1) n_fall)),
    (n_sq (n_iload_n hE dX12_laysBack_2) (n_sq (n_bipush hE (by decide) dX12_laysBack_3) (n_ifcge hE (by decide) dX12_laysBack_5))),
    (n_sq (n_aload_n hE dX12_laysBack_8) (n_sq (n_getS hE xk_11 (k := 20) rfl (by decide) rfl wt_980 dX12_laysBack_9) (n_sq (n_bipush hE (by decide) dX12_laysBack_12) (n_sq (n_iload_n hE dX12_laysBack_14) (n_sq (n_iadd hE dX12_laysBack_15) (n_sq (n_aload_n hE dX12_laysBack_16) (n_sq (n_getS hE xk_11 (k := 27) rfl (by decide) rfl wt_987 dX12_laysBack_17) (n_sq (n_iload_n hE dX12_laysBack_20) (n_sq (n_iald hE rfl (by decide) dX12_laysBack_21) (n_sq (n_iast hE rfl (by decide) dX12_laysBack_22) (n_sq (n_iinc hE (by decide) (show (1 : Nat) < 2 by decide) dX12_laysBack_23) (n_goto hE (by decide) dX12_laysBack_26)))))))))))),
    (n_vreturn hE rfl dX12_laysBack_29), trivial⟩
noncomputable def F_X12_laysBack (as : List XV) (w : XW) : Option XW := (xF 2 bs_X12_laysBack as w).bind pV
theorem m_X12_laysBack : XM yX12_laysBack cX12_laysBack 2 none 0 0 (eV F_X12_laysBack) := xm_V (xm_of (by decide) s_X12_laysBack)
noncomputable def q_X12_laysBack_0 (w : XW) : Option XR := ev bs_X12_laysBack 0 ([some (.inr (11, 0)), none], [], w)
noncomputable def q_X12_laysBack_2 (x1 : Int32) (w : XW) : Option XR := ev bs_X12_laysBack 2 ([some (.inr (11, 0)), some (.inl (.int x1))], [], w)
noncomputable def q_X12_laysBack_8 (x1 : Int32) (w : XW) : Option XR := ev bs_X12_laysBack 8 ([some (.inr (11, 0)), some (.inl (.int x1))], [], w)
noncomputable def q_X12_laysBack_29 (w : XW) : Option XR := ev bs_X12_laysBack 29 ([none, none], [], w)
theorem e_X12_laysBack_0 (w : XW) : q_X12_laysBack_0 w = (q_X12_laysBack_2 0 w) := (ev_eq _ _ _).trans rfl
theorem e_X12_laysBack_2 (x1 : Int32) (w : XW) : q_X12_laysBack_2 x1 w = (bif decide (25 ≤ x1) then (q_X12_laysBack_29 w) else (q_X12_laysBack_8 x1 w)) := (ev_eq _ _ _).trans rfl
theorem e_X12_laysBack_8 (x1 : Int32) (w : XW) : q_X12_laysBack_8 x1 w = (if x1 < 0 ∨ 25 ≤ x1.toNatClampNeg then none else (if (10 + x1) < 0 ∨ 98 ≤ (10 + x1).toNatClampNeg then none else (q_X12_laysBack_2 (x1 + 1) (sI w 50 0 ((10 + x1).toNatClampNeg) (gI w 53 0 x1.toNatClampNeg))))) := (ev_eq _ _ _).trans rfl
theorem e_X12_laysBack_29 (w : XW) : q_X12_laysBack_29 w = (some (none, w)) := (ev_eq _ _ _).trans rfl
theorem f_X12_laysBack (w : XW) : F_X12_laysBack [.inr (11, 0)] w = (q_X12_laysBack_0 w).bind pV := rfl
