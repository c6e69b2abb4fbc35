-- WinterKeep.back(I)I
theorem dX11_back_0 : decode cX11_back 0 = .ok (.iload_n 1, 1) := by decide +kernel
theorem dX11_back_1 : decode cX11_back 1 = .ok (.iconst 0, 1) := by decide +kernel
theorem dX11_back_2 : decode cX11_back 2 = .ok (.iconst 3, 1) := by decide +kernel
theorem dX11_back_3 : decode cX11_back 3 = .ok (.invokestatic 170, 3) := by decide +kernel
theorem dX11_back_6 : decode cX11_back 6 = .ok (.ifCond .ne 5, 3) := by decide +kernel
theorem dX11_back_9 : decode cX11_back 9 = .ok (.iconst (-1), 1) := by decide +kernel
theorem dX11_back_10 : decode cX11_back 10 = .ok (.ireturn, 1) := by decide +kernel
theorem dX11_back_11 : decode cX11_back 11 = .ok (.aload_n 0, 1) := by decide +kernel
theorem dX11_back_12 : decode cX11_back 12 = .ok (.getfield 86, 3) := by decide +kernel
theorem dX11_back_15 : decode cX11_back 15 = .ok (.iload_n 1, 1) := by decide +kernel
theorem dX11_back_16 : decode cX11_back 16 = .ok (.aaload, 1) := by decide +kernel
theorem dX11_back_17 : decode cX11_back 17 = .ok (.astore_n 2, 1) := by decide +kernel
theorem dX11_back_18 : decode cX11_back 18 = .ok (.aload_n 2, 1) := by decide +kernel
theorem dX11_back_19 : decode cX11_back 19 = .ok (.getfield 340, 3) := by decide +kernel
theorem dX11_back_22 : decode cX11_back 22 = .ok (.ifCond .eq 10, 3) := by decide +kernel
theorem dX11_back_25 : decode cX11_back 25 = .ok (.aload_n 2, 1) := by decide +kernel
theorem dX11_back_26 : decode cX11_back 26 = .ok (.getfield 343, 3) := by decide +kernel
theorem dX11_back_29 : decode cX11_back 29 = .ok (.ifnonnull 5, 3) := by decide +kernel
theorem dX11_back_32 : decode cX11_back 32 = .ok (.iconst (-1), 1) := by decide +kernel
theorem dX11_back_33 : decode cX11_back 33 = .ok (.ireturn, 1) := by decide +kernel
theorem dX11_back_34 : decode cX11_back 34 = .ok (.aload_n 0, 1) := by decide +kernel
theorem dX11_back_35 : decode cX11_back 35 = .ok (.aload_n 2, 1) := by decide +kernel
theorem dX11_back_36 : decode cX11_back 36 = .ok (.getfield 343, 3) := by decide +kernel
theorem dX11_back_39 : decode cX11_back 39 = .ok (.putfield 39, 3) := by decide +kernel
theorem dX11_back_42 : decode cX11_back 42 = .ok (.aload_n 0, 1) := by decide +kernel
theorem dX11_back_43 : decode cX11_back 43 = .ok (.getfield 46, 3) := by decide +kernel
theorem dX11_back_46 : decode cX11_back 46 = .ok (.aload_n 2, 1) := by decide +kernel
theorem dX11_back_47 : decode cX11_back 47 = .ok (.getfield 344, 3) := by decide +kernel
theorem dX11_back_50 : decode cX11_back 50 = .ok (.invokevirtual 246, 3) := by decide +kernel
theorem dX11_back_53 : decode cX11_back 53 = .ok (.aload_n 0, 1) := by decide +kernel
theorem dX11_back_54 : decode cX11_back 54 = .ok (.aload_n 2, 1) := by decide +kernel
theorem dX11_back_55 : decode cX11_back 55 = .ok (.getfield 347, 3) := by decide +kernel
theorem dX11_back_58 : decode cX11_back 58 = .ok (.putfield 33, 3) := by decide +kernel
theorem dX11_back_61 : decode cX11_back 61 = .ok (.aload_n 0, 1) := by decide +kernel
theorem dX11_back_62 : decode cX11_back 62 = .ok (.getfield 77, 3) := by decide +kernel
theorem dX11_back_65 : decode cX11_back 65 = .ok (.aload_n 2, 1) := by decide +kernel
theorem dX11_back_66 : decode cX11_back 66 = .ok (.getfield 348, 3) := by decide +kernel
theorem dX11_back_69 : decode cX11_back 69 = .ok (.invokevirtual 349, 3) := by decide +kernel
theorem dX11_back_72 : decode cX11_back 72 = .ok (.aload_n 0, 1) := by decide +kernel
theorem dX11_back_73 : decode cX11_back 73 = .ok (.aload_n 2, 1) := by decide +kernel
theorem dX11_back_74 : decode cX11_back 74 = .ok (.getfield 352, 3) := by decide +kernel
theorem dX11_back_77 : decode cX11_back 77 = .ok (.putfield 81, 3) := by decide +kernel
theorem dX11_back_80 : decode cX11_back 80 = .ok (.aload_n 0, 1) := by decide +kernel
theorem dX11_back_81 : decode cX11_back 81 = .ok (.iconst 0, 1) := by decide +kernel
theorem dX11_back_82 : decode cX11_back 82 = .ok (.putfield 97, 3) := by decide +kernel
theorem dX11_back_85 : decode cX11_back 85 = .ok (.aload_n 0, 1) := by decide +kernel
theorem dX11_back_86 : decode cX11_back 86 = .ok (.getfield 46, 3) := by decide +kernel
theorem dX11_back_89 : decode cX11_back 89 = .ok (.getfield 206, 3) := by decide +kernel
theorem dX11_back_92 : decode cX11_back 92 = .ok (.ireturn, 1) := by decide +kernel
noncomputable def bs_X11_back : List (Nat × XB) := [
  (0, (sq (xLI 1) (sq (xC (.int 0)) (sq (xC (.int 3)) (sq (xCI 99 3 F_X11_within) (tIf1 (fun x => decide (¬ x = 0)) 11 [true, true, false] 9 [false, false, false])))))),
  (9, (sq (xC (.int (-1))) tRI)),
  (11, (sq (xLA 0) (sq (xGS 10 36 1 0) (sq (xLI 1) (sq (xAR 36 4 2) (sq (xSA 2) (sq (xLA 2) (sq (xGI 2 0) (tIf1 (fun x => decide (x = 0)) 32 [false, false, false] 25 [true, false, true]))))))))),
  (25, (sq (xLA 2) (tNul 2 1 32 [false, false, false] 34 [true, false, true]))),
  (32, (sq (xC (.int (-1))) tRI)),
  (34, (sq (xLA 0) (sq (xLA 2) (sq (xGD 2 1 1) (sq (xPD 10 5 1) (sq (xLA 0) (sq (xGS 10 8 1 0) (sq (xLA 2) (sq (xGS 2 8 2 22) (sq (xCV 8 2 F_X9_copy) (sq (xLA 0) (sq (xLA 2) (sq (xGI 2 3) (sq (xPI 10 4) (sq (xLA 0) (sq (xGS 10 4 1 0) (sq (xLA 2) (sq (xGS 2 4 2 1) (sq (xCV 4 2 F_X5_copy) (sq (xLA 0) (sq (xLA 2) (sq (xGI 2 5) (sq (xPI 10 12) (sq (xLA 0) (sq (xC (.int 0)) (sq (xPI 10 16) (sq (xLA 0) (sq (xGS 10 8 1 0) (sq (xGI 8 1) tRI)))))))))))))))))))))))))))))]
set_option maxRecDepth 100000 in
set_option maxHeartbeats 4000000 in
theorem s_X11_back : ∀ X : XCtx, XE X → X.2.2.1.1 = cX11_back → X.2.2.1.2.1 = 3 → X.2.2.1.2.2.1 = yX11_back.cls → X.2.2.1.2.2.2.1 = (some .int) → X.1.2.2.2.1 = { frames := 1, cells := 0, slots := 0, locals := 22 } → SndBs X bs_X11_back := by
  rintro ⟨⟨p, l, e, R, s⟩, Y, ⟨cc, nL, own, ret, Ts⟩, Z⟩ hE h1 h2 h3 h4 h5
  dsimp only at h1 h2 h3 h4 h5
  subst h1 h2 h3 h4 h5
  exact ⟨(n_sq (n_iload_n hE dX11_back_0) (n_sq (n_iconst hE (by decide) dX11_back_1) (n_sq (n_iconst hE (by decide) dX11_back_2) (n_sq (n_cIs hE m_X11_within vc_X11_170 (show 0 + 1 ≤ 1 ∧ 8 + (3 + 11) + 0 ≤ 22 by decide) dX11_back_3) (n_ifne hE (by decide) dX11_back_6))))),
    (n_sq (n_iconst hE (by decide) dX11_back_9) (n_ireturn hE rfl dX11_back_10)),
    (n_sq (n_aload_n hE dX11_back_11) (n_sq (n_getS hE xk_10 (k := 13) rfl (by decide) rfl wt_329 dX11_back_12) (n_sq (n_iload_n hE dX11_back_15) (n_sq (n_aald4 hE rfl (by decide) dX11_back_16) (n_sq (n_astore_n hE (show (2 : Nat) < 3 by decide) dX11_back_17) (n_sq (n_aload_n hE dX11_back_18) (n_sq (n_getI hE xk_2 (k := 0) rfl (by decide) rfl wt_292 dX11_back_19) (n_ifeq hE (by decide) dX11_back_22)))))))),
    (n_sq (n_aload_n hE dX11_back_25) (n_ifnonnull hE xk_2 (k := 1) rfl (by decide) rfl wt_294 (by decide) dX11_back_26 dX11_back_29)),
    (n_sq (n_iconst hE (by decide) dX11_back_32) (n_ireturn hE rfl dX11_back_33)),
    (n_sq (n_aload_n hE dX11_back_34) (n_sq (n_aload_n hE dX11_back_35) (n_sq (n_getD hE xk_2 (k := 1) rfl (by decide) rfl wt_294 dX11_back_36) (n_sq (n_putD hE xk_10 (k := 5) rfl (by decide) rfl rfl (tyX11_ok 5 (by decide)) wt_321 dX11_back_39) (n_sq (n_aload_n hE dX11_back_42) (n_sq (n_getS hE xk_10 (k := 6) rfl (by decide) rfl wt_322 dX11_back_43) (n_sq (n_aload_n hE dX11_back_46) (n_sq (n_getS hE xk_2 (k := 2) rfl (by decide) rfl wt_296 dX11_back_47) (n_sq (n_cVv hE m_X9_copy vc_X11_246 (show 0 + 1 ≤ 1 ∧ 8 + (3 + 11) + 0 ≤ 22 by decide) dX11_back_50) (n_sq (n_aload_n hE dX11_back_53) (n_sq (n_aload_n hE dX11_back_54) (n_sq (n_getI hE xk_2 (k := 3) rfl (by decide) rfl wt_298 dX11_back_55) (n_sq (n_putI hE xk_10 (k := 4) rfl (by decide) rfl rfl (tyX11_ok 4 (by decide)) wt_320 dX11_back_58) (n_sq (n_aload_n hE dX11_back_61) (n_sq (n_getS hE xk_10 (k := 11) rfl (by decide) rfl wt_327 dX11_back_62) (n_sq (n_aload_n hE dX11_back_65) (n_sq (n_getS hE xk_2 (k := 4) rfl (by decide) rfl wt_300 dX11_back_66) (n_sq (n_cVv hE m_X5_copy vc_X11_349 (show 0 + 1 ≤ 1 ∧ 8 + (3 + 11) + 0 ≤ 22 by decide) dX11_back_69) (n_sq (n_aload_n hE dX11_back_72) (n_sq (n_aload_n hE dX11_back_73) (n_sq (n_getI hE xk_2 (k := 5) rfl (by decide) rfl wt_302 dX11_back_74) (n_sq (n_putI hE xk_10 (k := 12) rfl (by decide) rfl rfl (tyX11_ok 12 (by decide)) wt_328 dX11_back_77) (n_sq (n_aload_n hE dX11_back_80) (n_sq (n_iconst hE (by decide) dX11_back_81) (n_sq (n_putI hE xk_10 (k := 16) rfl (by decide) rfl rfl (tyX11_ok 16 (by decide)) wt_332 dX11_back_82) (n_sq (n_aload_n hE dX11_back_85) (n_sq (n_getS hE xk_10 (k := 6) rfl (by decide) rfl wt_322 dX11_back_86) (n_sq (n_getI hE xk_8 (k := 1) rfl (by decide) rfl wt_178 dX11_back_89) (n_ireturn hE rfl dX11_back_92))))))))))))))))))))))))))))), trivial⟩
noncomputable def F_X11_back (as : List XV) (w : XW) : Option (Int32 × XW) := (xF 3 bs_X11_back as w).bind pI
theorem m_X11_back : XM yX11_back cX11_back 3 (some .int) 1 22 (eI F_X11_back) := xm_I (xm_of (by decide) s_X11_back)
noncomputable def q_X11_back_0 (x1 : Int32) (w : XW) : Option XR := ev bs_X11_back 0 ([some (.inr (10, 0)), some (.inl (.int x1)), none], [], w)
noncomputable def q_X11_back_9 (w : XW) : Option XR := ev bs_X11_back 9 ([none, none, none], [], w)
noncomputable def q_X11_back_11 (x1 : Int32) (w : XW) : Option XR := ev bs_X11_back 11 ([some (.inr (10, 0)), some (.inl (.int x1)), none], [], w)
noncomputable def q_X11_back_25 (i2 : Nat) (w : XW) : Option XR := ev bs_X11_back 25 ([some (.inr (10, 0)), none, some (.inr (2, i2))], [], w)
noncomputable def q_X11_back_32 (w : XW) : Option XR := ev bs_X11_back 32 ([none, none, none], [], w)
noncomputable def q_X11_back_34 (i2 : Nat) (w : XW) : Option XR := ev bs_X11_back 34 ([some (.inr (10, 0)), none, some (.inr (2, i2))], [], w)
theorem e_X11_back_0 (x1 : Int32) (w : XW) : q_X11_back_0 x1 w = ((F_X11_within [.inl (.int x1), .inl (.int 0), .inl (.int 3)] w).bind fun r0 => (bif decide (¬ r0.1 = 0) then (q_X11_back_11 x1 r0.2) else (q_X11_back_9 r0.2))) := (ev_eq _ _ _).trans rfl
theorem e_X11_back_9 (w : XW) : q_X11_back_9 w = (some (some (.inl (.int (-1))), w)) := (ev_eq _ _ _).trans rfl
theorem e_X11_back_11 (x1 : Int32) (w : XW) : q_X11_back_11 x1 w = (if x1 < 0 ∨ 4 ≤ x1.toNatClampNeg then none else ((gR w 36 0 x1.toNatClampNeg).bind fun j0 => (bif decide ((gI w 2 j0 0) = 0) then (q_X11_back_32 w) else (q_X11_back_25 j0 w)))) := (ev_eq _ _ _).trans rfl
theorem e_X11_back_25 (i2 : Nat) (w : XW) : q_X11_back_25 i2 w = (bif (gR w 2 i2 1).isNone then (q_X11_back_32 w) else (q_X11_back_34 i2 w)) := (ev_eq _ _ _).trans rfl
theorem e_X11_back_32 (w : XW) : q_X11_back_32 w = (some (some (.inl (.int (-1))), w)) := (ev_eq _ _ _).trans rfl
theorem e_X11_back_34 (i2 : Nat) (w : XW) : q_X11_back_34 i2 w = ((gR w 2 i2 1).bind fun j0 => ((F_X9_copy [.inr (8, 0), .inr (8, (22 + i2))] (sR w 10 0 5 (some j0))).bind fun r1 => ((F_X5_copy [.inr (4, 0), .inr (4, (1 + i2))] (sI r1 10 0 4 (gI r1 2 i2 3))).bind fun r2 => (some (some (.inl (.int (gI (sI (sI r2 10 0 12 (gI r2 2 i2 5)) 10 0 16 0) 8 0 1))), sI (sI r2 10 0 12 (gI r2 2 i2 5)) 10 0 16 0))))) := (ev_eq _ _ _).trans rfl
theorem f_X11_back (x1 : Int32) (w : XW) : F_X11_back [.inr (10, 0), .inl (.int x1)] w = (q_X11_back_0 x1 w).bind pI := rfl

-- WinterKeepModel.in(JJJ)Z
theorem dX12_in_0 : decode cX12_in 0 = .ok (.lload_n 0, 1) := by decide +kernel
theorem dX12_in_1 : decode cX12_in 1 = .ok (.lload_n 2, 1) := by decide +kernel
theorem dX12_in_2 : decode cX12_in 2 = .ok (.lcmp, 1) := by decide +kernel
theorem dX12_in_3 : decode cX12_in 3 = .ok (.ifCond .lt 14, 3) := by decide +kernel
theorem dX12_in_6 : decode cX12_in 6 = .ok (.lload_n 0, 1) := by decide +kernel
theorem dX12_in_7 : decode cX12_in 7 = .ok (.lload 4, 2) := by decide +kernel
theorem dX12_in_9 : decode cX12_in 9 = .ok (.lcmp, 1) := by decide +kernel
theorem dX12_in_10 : decode cX12_in 10 = .ok (.ifCond .gt 7, 3) := by decide +kernel
theorem dX12_in_13 : decode cX12_in 13 = .ok (.iconst 1, 1) := by decide +kernel
theorem dX12_in_14 : decode cX12_in 14 = .ok (.goto 4, 3) := by decide +kernel
theorem dX12_in_17 : decode cX12_in 17 = .ok (.iconst 0, 1) := by decide +kernel
theorem dX12_in_18 : decode cX12_in 18 = .ok (.ireturn, 1) := by decide +kernel
noncomputable def bs_X12_in : List (Nat × XB) := [
  (0, (sq (xLJ 0) (sq (xLJ 2) (sq (xJcmp) (tIf1 (fun x => decide (x < 0)) 17 [false, false, false, false, false, false] 6 [true, false, false, false, true, false]))))),
  (6, (sq (xLJ 0) (sq (xLJ 4) (sq (xJcmp) (tIf1 (fun x => decide (0 < x)) 17 [false, false, false, false, false, false] 13 [false, false, false, false, false, false]))))),
  (13, (sq (xC (.int 1)) (tGo 18 [false, false, false, false, false, false]))),
  (17, (sq (xC (.int 0)) (tGo 18 [false, false, false, false, false, false]))),
  (18, tRZ)]
set_option maxRecDepth 100000 in
set_option maxHeartbeats 4000000 in
theorem s_X12_in : ∀ X : XCtx, XE X → X.2.2.1.1 = cX12_in → X.2.2.1.2.1 = 6 → X.2.2.1.2.2.1 = yX12_in.cls → X.2.2.1.2.2.2.1 = (some .boolean) → X.1.2.2.2.1 = { frames := 0, cells := 0, slots := 0, locals := 0 } → SndBs X bs_X12_in := by
  rintro ⟨⟨p, l, e, R, s⟩, Y, ⟨cc, nL, own, ret, Ts⟩, Z⟩ hE h1 h2 h3 h4 h5
  dsimp only at h1 h2 h3 h4 h5
  subst h1 h2 h3 h4 h5
  exact ⟨(n_sq (n_lload_n hE dX12_in_0) (n_sq (n_lload_n hE dX12_in_1) (n_sq (n_lcmp hE dX12_in_2) (n_iflt hE (by decide) dX12_in_3)))),
    (n_sq (n_lload_n hE dX12_in_6) (n_sq (n_lload hE dX12_in_7) (n_sq (n_lcmp hE dX12_in_9) (n_ifgt hE (by decide) dX12_in_10)))),
    (n_sq (n_iconst hE (by decide) dX12_in_13) (n_goto hE (by decide) dX12_in_14)),
    (n_sq (n_iconst hE (by decide) dX12_in_17) n_fall),
    (n_zreturn hE rfl dX12_in_18), trivial⟩
noncomputable def F_X12_in (as : List XV) (w : XW) : Option (Int32 × XW) := (xF 6 bs_X12_in as w).bind pI
theorem m_X12_in : XM yX12_in cX12_in 6 (some .boolean) 0 0 (eI F_X12_in) := xm_I (xm_of (by decide) s_X12_in)
noncomputable def q_X12_in_0 (y0 : Int64) (y2 : Int64) (y4 : Int64) (w : XW) : Option XR := ev bs_X12_in 0 ([some (.inl (.long y0)), none, some (.inl (.long y2)), none, some (.inl (.long y4)), none], [], w)
noncomputable def q_X12_in_6 (y0 : Int64) (y4 : Int64) (w : XW) : Option XR := ev bs_X12_in 6 ([some (.inl (.long y0)), none, none, none, some (.inl (.long y4)), none], [], w)
noncomputable def q_X12_in_13 (w : XW) : Option XR := ev bs_X12_in 13 ([none, none, none, none, none, none], [], w)
noncomputable def q_X12_in_17 (w : XW) : Option XR := ev bs_X12_in 17 ([none, none, none, none, none, none], [], w)
noncomputable def q_X12_in_18 (s0 : Int32) (w : XW) : Option XR := ev bs_X12_in 18 ([none, none, none, none, none, none], [.inl (.int s0)], w)
theorem e_X12_in_0 (y0 : Int64) (y2 : Int64) (y4 : Int64) (w : XW) : q_X12_in_0 y0 y2 y4 w = (bif decide ((lg_cmp y0 y2) < 0) then (q_X12_in_17 w) else (q_X12_in_6 y0 y4 w)) := (ev_eq _ _ _).trans rfl
theorem e_X12_in_6 (y0 : Int64) (y4 : Int64) (w : XW) : q_X12_in_6 y0 y4 w = (bif decide (0 < (lg_cmp y0 y4)) then (q_X12_in_17 w) else (q_X12_in_13 w)) := (ev_eq _ _ _).trans rfl
theorem e_X12_in_13 (w : XW) : q_X12_in_13 w = (q_X12_in_18 1 w) := (ev_eq _ _ _).trans rfl
theorem e_X12_in_17 (w : XW) : q_X12_in_17 w = (q_X12_in_18 0 w) := (ev_eq _ _ _).trans rfl
theorem e_X12_in_18 (s0 : Int32) (w : XW) : q_X12_in_18 s0 w = (if s0 = 0 ∨ s0 = 1 then some (some (.inl (.int s0)), w) else none) := (ev_eq _ _ _).trans rfl
theorem f_X12_in (y0 : Int64) (y2 : Int64) (y4 : Int64) (w : XW) : F_X12_in [.inl (.long y0), .inl (.long y2), .inl (.long y4)] w = (q_X12_in_0 y0 y2 y4 w).bind pI := rfl

-- WinterKeepModel.isOf(II)Z
theorem dX12_isOf_0 : decode cX12_isOf 0 = .ok (.iload_n 0, 1) := by decide +kernel
theorem dX12_isOf_1 : decode cX12_isOf 1 = .ok (.iload_n 1, 1) := by decide +kernel
theorem dX12_isOf_2 : decode cX12_isOf 2 = .ok (.ishr, 1) := by decide +kernel
theorem dX12_isOf_3 : decode cX12_isOf 3 = .ok (.iconst 1, 1) := by decide +kernel
theorem dX12_isOf_4 : decode cX12_isOf 4 = .ok (.iand, 1) := by decide +kernel
theorem dX12_isOf_5 : decode cX12_isOf 5 = .ok (.iconst 1, 1) := by decide +kernel
theorem dX12_isOf_6 : decode cX12_isOf 6 = .ok (.if_icmp .ne 7, 3) := by decide +kernel
theorem dX12_isOf_9 : decode cX12_isOf 9 = .ok (.iconst 1, 1) := by decide +kernel
theorem dX12_isOf_10 : decode cX12_isOf 10 = .ok (.goto 4, 3) := by decide +kernel
theorem dX12_isOf_13 : decode cX12_isOf 13 = .ok (.iconst 0, 1) := by decide +kernel
theorem dX12_isOf_14 : decode cX12_isOf 14 = .ok (.ireturn, 1) := by decide +kernel
noncomputable def bs_X12_isOf : List (Nat × XB) := [
  (0, (sq (xLI 0) (sq (xLI 1) (sq (xI2 (fun x y => x >>> (y &&& 31))) (sq (xC (.int 1)) (sq (xI2 (· &&& ·)) (sq (xC (.int 1)) (tIf2 (fun x y => decide (¬ x = y)) 13 [false, false] 9 [false, false])))))))),
  (9, (sq (xC (.int 1)) (tGo 14 [false, false]))),
  (13, (sq (xC (.int 0)) (tGo 14 [false, false]))),
  (14, tRZ)]
set_option maxRecDepth 100000 in
set_option maxHeartbeats 4000000 in
theorem s_X12_isOf : ∀ X : XCtx, XE X → X.2.2.1.1 = cX12_isOf → X.2.2.1.2.1 = 2 → X.2.2.1.2.2.1 = yX12_isOf.cls → X.2.2.1.2.2.2.1 = (some .boolean) → X.1.2.2.2.1 = { frames := 0, cells := 0, slots := 0, locals := 0 } → SndBs X bs_X12_isOf := by
  rintro ⟨⟨p, l, e, R, s⟩, Y, ⟨cc, nL, own, ret, Ts⟩, Z⟩ hE h1 h2 h3 h4 h5
  dsimp only at h1 h2 h3 h4 h5
  subst h1 h2 h3 h4 h5
  exact ⟨(n_sq (n_iload_n hE dX12_isOf_0) (n_sq (n_iload_n hE dX12_isOf_1) (n_sq (n_ishr hE dX12_isOf_2) (n_sq (n_iconst hE (by decide) dX12_isOf_3) (n_sq (n_iand hE dX12_isOf_4) (n_sq (n_iconst hE (by decide) dX12_isOf_5) (n_ifcne hE (by decide) dX12_isOf_6))))))),
    (n_sq (n_iconst hE (by decide) dX12_isOf_9) (n_goto hE (by decide) dX12_isOf_10)),
    (n_sq (n_iconst hE (by decide) dX12_isOf_13) n_fall),
    (n_zreturn hE rfl dX12_isOf_14), trivial⟩
noncomputable def F_X12_isOf (as : List XV) (w : XW) : Option (Int32 × XW) := (xF 2 bs_X12_isOf as w).bind pI
theorem m_X12_isOf : XM yX12_isOf cX12_isOf 2 (some .boolean) 0 0 (eI F_X12_isOf) := xm_I (xm_of (by decide) s_X12_isOf)
noncomputable def q_X12_isOf_0 (x0 : Int32) (x1 : Int32) (w : XW) : Option XR := ev bs_X12_isOf 0 ([some (.inl (.int x0)), some (.inl (.int x1))], [], w)
noncomputable def q_X12_isOf_9 (w : XW) : Option XR := ev bs_X12_isOf 9 ([none, none], [], w)
noncomputable def q_X12_isOf_13 (w : XW) : Option XR := ev bs_X12_isOf 13 ([none, none], [], w)
noncomputable def q_X12_isOf_14 (s0 : Int32) (w : XW) : Option XR := ev bs_X12_isOf 14 ([none, none], [.inl (.int s0)], w)
theorem e_X12_isOf_0 (x0 : Int32) (x1 : Int32) (w : XW) : q_X12_isOf_0 x0 x1 w = (bif decide (¬ (((x0 : Int32) >>> ((x1 : Int32) &&& 31)) &&& 1) = 1) then (q_X12_isOf_13 w) else (q_X12_isOf_9 w)) := (ev_eq _ _ _).trans rfl
theorem e_X12_isOf_9 (w : XW) : q_X12_isOf_9 w = (q_X12_isOf_14 1 w) := (ev_eq _ _ _).trans rfl
theorem e_X12_isOf_13 (w : XW) : q_X12_isOf_13 w = (q_X12_isOf_14 0 w) := (ev_eq _ _ _).trans rfl
theorem e_X12_isOf_14 (s0 : Int32) (w : XW) : q_X12_isOf_14 s0 w = (if s0 = 0 ∨ s0 = 1 then some (some (.inl (.int s0)), w) else none) := (ev_eq _ _ _).trans rfl
theorem f_X12_isOf (x0 : Int32) (x1 : Int32) (w : XW) : F_X12_isOf [.inl (.int x0), .inl (.int x1)] w = (q_X12_isOf_0 x0 x1 w).bind pI := rfl

-- WinterKeepModel.bits(I)I
theorem dX12_bits_0 : decode cX12_bits 0 = .ok (.iconst 0, 1) := by decide +kernel
theorem dX12_bits_1 : decode cX12_bits 1 = .ok (.istore_n 1, 1) := by decide +kernel
theorem dX12_bits_2 : decode cX12_bits 2 = .ok (.iload_n 0, 1) := by decide +kernel
theorem dX12_bits_3 : decode cX12_bits 3 = .ok (.istore_n 2, 1) := by decide +kernel
theorem dX12_bits_4 : decode cX12_bits 4 = .ok (.iload_n 2, 1) := by decide +kernel
theorem dX12_bits_5 : decode cX12_bits 5 = .ok (.ifCond .eq 15, 3) := by decide +kernel
theorem dX12_bits_8 : decode cX12_bits 8 = .ok (.iinc 1 1, 3) := by decide +kernel
theorem dX12_bits_11 : decode cX12_bits 11 = .ok (.iload_n 2, 1) := by decide +kernel
theorem dX12_bits_12 : decode cX12_bits 12 = .ok (.iload_n 2, 1) := by decide +kernel
theorem dX12_bits_13 : decode cX12_bits 13 = .ok (.iconst 1, 1) := by decide +kernel
theorem dX12_bits_14 : decode cX12_bits 14 = .ok (.isub, 1) := by decide +kernel
theorem dX12_bits_15 : decode cX12_bits 15 = .ok (.iand, 1) := by decide +kernel
theorem dX12_bits_16 : decode cX12_bits 16 = .ok (.istore_n 2, 1) := by decide +kernel
theorem dX12_bits_17 : decode cX12_bits 17 = .ok (.goto (-13), 3) := by decide +kernel
theorem dX12_bits_20 : decode cX12_bits 20 = .ok (.iload_n 1, 1) := by decide +kernel
theorem dX12_bits_21 : decode cX12_bits 21 = .ok (.ireturn, 1) := by decide +kernel
noncomputable def bs_X12_bits : List (Nat × XB) := [
  (0, (sq (xC (.int 0)) (sq (xSI 1) (sq (xLI 0) (sq (xSI 2) (tGo 4 [false, true, true])))))),
  (4, (sq (xLI 2) (tIf1 (fun x => decide (x = 0)) 20 [false, true, false] 8 [false, true, true]))),
  (8, (sq (xInc 1 1) (sq (xLI 2) (sq (xLI 2) (sq (xC (.int 1)) (sq (xI2 (· - ·)) (sq (xI2 (· &&& ·)) (sq (xSI 2) (tGo 4 [false, true, true]))))))))),
  (20, (sq (xLI 1) tRI))]
set_option maxRecDepth 100000 in
set_option maxHeartbeats 4000000 in
theorem s_X12_bits : ∀ X : XCtx, XE X → X.2.2.1.1 = cX12_bits → X.2.2.1.2.1 = 3 → X.2.2.1.2.2.1 = yX12_bits.cls → X.2.2.1.2.2.2.1 = (some .int) → X.1.2.2.2.1 = { frames := 0, cells := 0, slots := 0, locals := 0 } → SndBs X bs_X12_bits := by
  rintro ⟨⟨p, l, e, R, s⟩, Y, ⟨cc, nL, own, ret, Ts⟩, Z⟩ hE h1 h2 h3 h4 h5
  dsimp only at h1 h2 h3 h4 h5
  subst h1 h2 h3 h4 h5
  exact ⟨(n_sq (n_iconst hE (by decide) dX12_bits_0) (n_sq (n_istore_n hE (show (1 : Nat) < 3 by decide) dX12_bits_1) (n_sq (n_iload_n hE dX12_bits_2) (n_sq (n_istore_n hE (show (2 : Nat) < 3 by decide) dX12_bits_3) n_fall)))),
    (n_sq (n_iload_n hE dX12_bits_4) (n_ifeq hE (by decide) dX12_bits_5)),
    (n_sq (n_iinc hE (by decide) (show (1 : Nat) < 3 by decide) dX12_bits_8) (n_sq (n_iload_n hE dX12_bits_11) (n_sq (n_iload_n hE dX12_bits_12) (n_sq (n_iconst hE (by decide) dX12_bits_13) (n_sq (n_isub hE dX12_bits_14) (n_sq (n_iand hE dX12_bits_15) (n_sq (n_istore_n hE (show (2 : Nat) < 3 by decide) dX12_bits_16) (n_goto hE (by decide) dX12_bits_17)))))))),
    (n_sq (n_iload_n hE dX12_bits_20) (n_ireturn hE rfl dX12_bits_21)), trivial⟩
noncomputable def F_X12_bits (as : List XV) (w : XW) : Option (Int32 × XW) := (xF 3 bs_X12_bits as w).bind pI
theorem m_X12_bits : XM yX12_bits cX12_bits 3 (some .int) 0 0 (eI F_X12_bits) := xm_I (xm_of (by decide) s_X12_bits)
noncomputable def q_X12_bits_0 (x0 : Int32) (w : XW) : Option XR := ev bs_X12_bits 0 ([some (.inl (.int x0)), none, none], [], w)
noncomputable def q_X12_bits_4 (x1 : Int32) (x2 : Int32) (w : XW) : Option XR := ev bs_X12_bits 4 ([none, some (.inl (.int x1)), some (.inl (.int x2))], [], w)
noncomputable def q_X12_bits_8 (x1 : Int32) (x2 : Int32) (w : XW) : Option XR := ev bs_X12_bits 8 ([none, some (.inl (.int x1)), some (.inl (.int x2))], [], w)
noncomputable def q_X12_bits_20 (x1 : Int32) (w : XW) : Option XR := ev bs_X12_bits 20 ([none, some (.inl (.int x1)), none], [], w)
theorem e_X12_bits_0 (x0 : Int32) (w : XW) : q_X12_bits_0 x0 w = (q_X12_bits_4 0 x0 w) := (ev_eq _ _ _).trans rfl
theorem e_X12_bits_4 (x1 : Int32) (x2 : Int32) (w : XW) : q_X12_bits_4 x1 x2 w = (bif decide (x2 = 0) then (q_X12_bits_20 x1 w) else (q_X12_bits_8 x1 x2 w)) := (ev_eq _ _ _).trans rfl
theorem e_X12_bits_8 (x1 : Int32) (x2 : Int32) (w : XW) : q_X12_bits_8 x1 x2 w = (q_X12_bits_4 (x1 + 1) (x2 &&& (x2 - 1)) w) := (ev_eq _ _ _).trans rfl
theorem e_X12_bits_20 (x1 : Int32) (w : XW) : q_X12_bits_20 x1 w = (some (some (.inl (.int x1)), w)) := (ev_eq _ _ _).trans rfl
theorem f_X12_bits (x0 : Int32) (w : XW) : F_X12_bits [.inl (.int x0)] w = (q_X12_bits_0 x0 w).bind pI := rfl

-- WinterKeepModel.leastOf(I)I
theorem dX12_leastOf_0 : decode cX12_leastOf 0 = .ok (.iconst 0, 1) := by decide +kernel
theorem dX12_leastOf_1 : decode cX12_leastOf 1 = .ok (.istore_n 1, 1) := by decide +kernel
theorem dX12_leastOf_2 : decode cX12_leastOf 2 = .ok (.iload_n 0, 1) := by decide +kernel
theorem dX12_leastOf_3 : decode cX12_leastOf 3 = .ok (.iload_n 1, 1) := by decide +kernel
theorem dX12_leastOf_4 : decode cX12_leastOf 4 = .ok (.invokestatic 92, 3) := by decide +kernel
theorem dX12_leastOf_7 : decode cX12_leastOf 7 = .ok (.ifCond .ne 9, 3) := by decide +kernel
theorem dX12_leastOf_10 : decode cX12_leastOf 10 = .ok (.iinc 1 1, 3) := by decide +kernel
theorem dX12_leastOf_13 : decode cX12_leastOf 13 = .ok (.goto (-11), 3) := by decide +kernel
theorem dX12_leastOf_16 : decode cX12_leastOf 16 = .ok (.iload_n 1, 1) := by decide +kernel
theorem dX12_leastOf_17 : decode cX12_leastOf 17 = .ok (.ireturn, 1) := by decide +kernel
theorem vc_X12_92 : XSw RX12 92 2 2 yX12_isOf cX12_isOf (some .boolean) := ⟨⟨by decide, by decide⟩, by decide +kernel, wt_1387, wt_1388, wt_11, wt_1389⟩
noncomputable def bs_X12_leastOf : List (Nat × XB) := [
  (0, (sq (xC (.int 0)) (sq (xSI 1) (tGo 2 [true, true])))),
  (2, (sq (xLI 0) (sq (xLI 1) (sq (xCI 99 2 F_X12_isOf) (tIf1 (fun x => decide (¬ x = 0)) 16 [false, true] 10 [true, true]))))),
  (10, (sq (xInc 1 1) (tGo 2 [true, true]))),
  (16, (sq (xLI 1) tRI))]
set_option maxRecDepth 100000 in
set_option maxHeartbeats 4000000 in
theorem s_X12_leastOf : ∀ X : XCtx, XE X → X.2.2.1.1 = cX12_leastOf → X.2.2.1.2.1 = 2 → X.2.2.1.2.2.1 = yX12_leastOf.cls → X.2.2.1.2.2.2.1 = (some .int) → X.1.2.2.2.1 = { frames := 1, cells := 0, slots := 0, locals := 21 } → SndBs X bs_X12_leastOf := by
  rintro ⟨⟨p, l, e, R, s⟩, Y, ⟨cc, nL, own, ret, Ts⟩, Z⟩ hE h1 h2 h3 h4 h5
  dsimp only at h1 h2 h3 h4 h5
  subst h1 h2 h3 h4 h5
  exact ⟨(n_sq (n_iconst hE (by decide) dX12_leastOf_0) (n_sq (n_istore_n hE (show (1 : Nat) < 2 by decide) dX12_leastOf_1) n_fall)),
    (n_sq (n_iload_n hE dX12_leastOf_2) (n_sq (n_iload_n hE dX12_leastOf_3) (n_sq (n_cIs hE m_X12_isOf vc_X12_92 (show 0 + 1 ≤ 1 ∧ 8 + (2 + 11) + 0 ≤ 21 by decide) dX12_leastOf_4) (n_ifne hE (by decide) dX12_leastOf_7)))),
    (n_sq (n_iinc hE (by decide) (show (1 : Nat) < 2 by decide) dX12_leastOf_10) (n_goto hE (by decide) dX12_leastOf_13)),
    (n_sq (n_iload_n hE dX12_leastOf_16) (n_ireturn hE rfl dX12_leastOf_17)), trivial⟩
noncomputable def F_X12_leastOf (as : List XV) (w : XW) : Option (Int32 × XW) := (xF 2 bs_X12_leastOf as w).bind pI
theorem m_X12_leastOf : XM yX12_leastOf cX12_leastOf 2 (some .int) 1 21 (eI F_X12_leastOf) := xm_I (xm_of (by decide) s_X12_leastOf)
noncomputable def q_X12_leastOf_0 (x0 : Int32) (w : XW) : Option XR := ev bs_X12_leastOf 0 ([some (.inl (.int x0)), none], [], w)
noncomputable def q_X12_leastOf_2 (x0 : Int32) (x1 : Int32) (w : XW) : Option XR := ev bs_X12_leastOf 2 ([some (.inl (.int x0)), some (.inl (.int x1))], [], w)
noncomputable def q_X12_leastOf_10 (x0 : Int32) (x1 : Int32) (w : XW) : Option XR := ev bs_X12_leastOf 10 ([some (.inl (.int x0)), some (.inl (.int x1))], [], w)
noncomputable def q_X12_leastOf_16 (x1 : Int32) (w : XW) : Option XR := ev bs_X12_leastOf 16 ([none, some (.inl (.int x1))], [], w)
theorem e_X12_leastOf_0 (x0 : Int32) (w : XW) : q_X12_leastOf_0 x0 w = (q_X12_leastOf_2 x0 0 w) := (ev_eq _ _ _).trans rfl
theorem e_X12_leastOf_2 (x0 : Int32) (x1 : Int32) (w : XW) : q_X12_leastOf_2 x0 x1 w = ((F_X12_isOf [.inl (.int x0), .inl (.int x1)] w).bind fun r0 => (bif decide (¬ r0.1 = 0) then (q_X12_leastOf_16 x1 r0.2) else (q_X12_leastOf_10 x0 x1 r0.2))) := (ev_eq _ _ _).trans rfl
theorem e_X12_leastOf_10 (x0 : Int32) (x1 : Int32) (w : XW) : q_X12_leastOf_10 x0 x1 w = (q_X12_leastOf_2 x0 (x1 + 1) w) := (ev_eq _ _ _).trans rfl
theorem e_X12_leastOf_16 (x1 : Int32) (w : XW) : q_X12_leastOf_16 x1 w = (some (some (.inl (.int x1)), w)) := (ev_eq _ _ _).trans rfl
theorem f_X12_leastOf (x0 : Int32) (w : XW) : F_X12_leastOf [.inl (.int x0)] w = (q_X12_leastOf_0 x0 w).bind pI := rfl

-- WinterKeepModel.four(I)V
theorem dX12_four_0 : decode cX12_four 0 = .ok (.bipush 24, 2) := by decide +kernel
theorem dX12_four_2 : decode cX12_four 2 = .ok (.istore_n 2, 1) := by decide +kernel
theorem dX12_four_3 : decode cX12_four 3 = .ok (.iload_n 2, 1) := by decide +kernel
theorem dX12_four_4 : decode cX12_four 4 = .ok (.ifCond .lt 32, 3) := by decide +kernel
theorem dX12_four_7 : decode cX12_four 7 = .ok (.aload_n 0, 1) := by decide +kernel
theorem dX12_four_8 : decode cX12_four 8 = .ok (.getfield 7, 3) := by decide +kernel
theorem dX12_four_11 : decode cX12_four 11 = .ok (.aload_n 0, 1) := by decide +kernel
theorem dX12_four_12 : decode cX12_four 12 = .ok (.getfield 96, 3) := by decide +kernel
theorem dX12_four_15 : decode cX12_four 15 = .ok (.iload_n 1, 1) := by decide +kernel
theorem dX12_four_16 : decode cX12_four 16 = .ok (.iload_n 2, 1) := by decide +kernel
theorem dX12_four_17 : decode cX12_four 17 = .ok (.ishr, 1) := by decide +kernel
theorem dX12_four_18 : decode cX12_four 18 = .ok (.i2b, 1) := by decide +kernel
theorem dX12_four_19 : decode cX12_four 19 = .ok (.bastore, 1) := by decide +kernel
theorem dX12_four_20 : decode cX12_four 20 = .ok (.aload_n 0, 1) := by decide +kernel
theorem dX12_four_21 : decode cX12_four 21 = .ok (.dup, 1) := by decide +kernel
theorem dX12_four_22 : decode cX12_four 22 = .ok (.getfield 96, 3) := by decide +kernel
theorem dX12_four_25 : decode cX12_four 25 = .ok (.iconst 1, 1) := by decide +kernel
theorem dX12_four_26 : decode cX12_four 26 = .ok (.iadd, 1) := by decide +kernel
theorem dX12_four_27 : decode cX12_four 27 = .ok (.putfield 96, 3) := by decide +kernel
theorem dX12_four_30 : decode cX12_four 30 = .ok (.iinc 2 (-8), 3) := by decide +kernel
theorem dX12_four_33 : decode cX12_four 33 = .ok (.goto (-30), 3) := by decide +kernel
theorem dX12_four_36 : decode cX12_four 36 = .ok (.return_, 1) := by decide +kernel
noncomputable def bs_X12_four : List (Nat × XB) := [
  (0, (sq (xC (.int 24)) (sq (xSI 2) (tGo 3 [true, true, true])))),
  (3, (sq (xLI 2) (tIf1 (fun x => decide (x < 0)) 36 [false, false, false] 7 [true, true, true]))),
  (7, (sq (xLA 0) (sq (xGS 11 41 1 0) (sq (xLA 0) (sq (xGI 11 1) (sq (xLI 1) (sq (xLI 2) (sq (xI2 (fun x y => x >>> (y &&& 31))) (sq (xI1 (fun x => x.toInt8.toInt32)) (sq (xTI 41 400 (vp_nar .byte)) (sq (xLA 0) (sq (xDup) (sq (xGI 11 1) (sq (xC (.int 1)) (sq (xI2 (· + ·)) (sq (xPI 11 1) (sq (xInc 2 (-8)) (tGo 3 [true, true, true])))))))))))))))))),
  (36, tRV)]
set_option maxRecDepth 100000 in
set_option maxHeartbeats 4000000 in
theorem s_X12_four : ∀ X : XCtx, XE X → X.2.2.1.1 = cX12_four → X.2.2.1.2.1 = 3 → X.2.2.1.2.2.1 = yX12_four.cls → X.2.2.1.2.2.2.1 = none → X.1.2.2.2.1 = { frames := 0, cells := 0, slots := 0, locals := 0 } → SndBs X bs_X12_four := by
  rintro ⟨⟨p, l, e, R, s⟩, Y, ⟨cc, nL, own, ret, Ts⟩, Z⟩ hE h1 h2 h3 h4 h5
  dsimp only at h1 h2 h3 h4 h5
  subst h1 h2 h3 h4 h5
  exact ⟨(n_sq (n_bipush hE (by decide) dX12_four_0) (n_sq (n_istore_n hE (show (2 : Nat) < 3 by decide) dX12_four_2) n_fall)),
    (n_sq (n_iload_n hE dX12_four_3) (n_iflt hE (by decide) dX12_four_4)),
    (n_sq (n_aload_n hE dX12_four_7) (n_sq (n_getS hE xk_11 (k := 0) rfl (by decide) rfl wt_960 dX12_four_8) (n_sq (n_aload_n hE dX12_four_11) (n_sq (n_getI hE xk_11 (k := 1) rfl (by decide) rfl wt_961 dX12_four_12) (n_sq (n_iload_n hE dX12_four_15) (n_sq (n_iload_n hE dX12_four_16) (n_sq (n_ishr hE dX12_four_17) (n_sq (n_i2b hE dX12_four_18) (n_sq (n_bast hE rfl (by decide) dX12_four_19) (n_sq (n_aload_n hE dX12_four_20) (n_sq (n_dup hE dX12_four_21) (n_sq (n_getI hE xk_11 (k := 1) rfl (by decide) rfl wt_961 dX12_four_22) (n_sq (n_iconst hE (by decide) dX12_four_25) (n_sq (n_iadd hE dX12_four_26) (n_sq (n_putI hE xk_11 (k := 1) rfl (by decide) rfl rfl (tyX12_ok 1 (by decide)) wt_961 dX12_four_27) (n_sq (n_iinc hE (by decide) (show (2 : Nat) < 3 by decide) dX12_four_30) (n_goto hE (by decide) dX12_four_33))))))))))))))))),
    (n_vreturn hE rfl dX12_four_36), trivial⟩
noncomputable def F_X12_four (as : List XV) (w : XW) : Option XW := (xF 3 bs_X12_four as w).bind pV
theorem m_X12_four : XM yX12_four cX12_four 3 none 0 0 (eV F_X12_four) := xm_V (xm_of (by decide) s_X12_four)
noncomputable def q_X12_four_0 (x1 : Int32) (w : XW) : Option XR := ev bs_X12_four 0 ([some (.inr (11, 0)), some (.inl (.int x1)), none], [], w)
noncomputable def q_X12_four_3 (x1 : Int32) (x2 : Int32) (w : XW) : Option XR := ev bs_X12_four 3 ([some (.inr (11, 0)), some (.inl (.int x1)), some (.inl (.int x2))], [], w)
noncomputable def q_X12_four_7 (x1 : Int32) (x2 : Int32) (w : XW) : Option XR := ev bs_X12_four 7 ([some (.inr (11, 0)), some (.inl (.int x1)), some (.inl (.int x2))], [], w)
noncomputable def q_X12_four_36 (w : XW) : Option XR := ev bs_X12_four 36 ([none, none, none], [], w)
theorem e_X12_four_0 (x1 : Int32) (w : XW) : q_X12_four_0 x1 w = (q_X12_four_3 x1 24 w) := (ev_eq _ _ _).trans rfl
theorem e_X12_four_3 (x1 : Int32) (x2 : Int32) (w : XW) : q_X12_four_3 x1 x2 w = (bif decide (x2 < 0) then (q_X12_four_36 w) else (q_X12_four_7 x1 x2 w)) := (ev_eq _ _ _).trans rfl
theorem e_X12_four_7 (x1 : Int32) (x2 : Int32) (w : XW) : q_X12_four_7 x1 x2 w = (if (gI w 11 0 1) < 0 ∨ 400 ≤ (gI w 11 0 1).toNatClampNeg then none else (q_X12_four_3 x1 (x2 + (-8)) (sI (sI w 41 0 ((gI w 11 0 1).toNatClampNeg) (vp_nar .byte (((x1 : Int32) >>> ((x2 : Int32) &&& 31)).toInt8.toInt32))) 11 0 1 ((gI (sI w 41 0 ((gI w 11 0 1).toNatClampNeg) (vp_nar .byte (((x1 : Int32) >>> ((x2 : Int32) &&& 31)).toInt8.toInt32))) 11 0 1) + 1)))) := (ev_eq _ _ _).trans rfl
theorem e_X12_four_36 (w : XW) : q_X12_four_36 w = (some (none, w)) := (ev_eq _ _ _).trans rfl
theorem f_X12_four (x1 : Int32) (w : XW) : F_X12_four [.inr (11, 0), .inl (.int x1)] w = (q_X12_four_0 x1 w).bind pV := rfl

-- WinterKeepModel.feed(IIIII)I
theorem dX12_feed_0 : decode cX12_feed 0 = .ok (.aload_n 0, 1) := by decide +kernel
theorem dX12_feed_1 : decode cX12_feed 1 = .ok (.getfield 96, 3) := by decide +kernel
theorem dX12_feed_4 : decode cX12_feed 4 = .ok (.bipush 20, 2) := by decide +kernel
theorem dX12_feed_6 : decode cX12_feed 6 = .ok (.iadd, 1) := by decide +kernel
theorem dX12_feed_7 : decode cX12_feed 7 = .ok (.sipush 400, 3) := by decide +kernel
theorem dX12_feed_10 : decode cX12_feed 10 = .ok (.if_icmp .le 5, 3) := by decide +kernel
theorem dX12_feed_13 : decode cX12_feed 13 = .ok (.iconst (-1), 1) := by decide +kernel
theorem dX12_feed_14 : decode cX12_feed 14 = .ok (.ireturn, 1) := by decide +kernel
theorem dX12_feed_15 : decode cX12_feed 15 = .ok (.aload_n 0, 1) := by decide +kernel
theorem dX12_feed_16 : decode cX12_feed 16 = .ok (.iload_n 1, 1) := by decide +kernel
theorem dX12_feed_17 : decode cX12_feed 17 = .ok (.invokevirtual 99, 3) := by decide +kernel
theorem dX12_feed_20 : decode cX12_feed 20 = .ok (.aload_n 0, 1) := by decide +kernel
theorem dX12_feed_21 : decode cX12_feed 21 = .ok (.iload_n 2, 1) := by decide +kernel
theorem dX12_feed_22 : decode cX12_feed 22 = .ok (.invokevirtual 99, 3) := by decide +kernel
theorem dX12_feed_25 : decode cX12_feed 25 = .ok (.aload_n 0, 1) := by decide +kernel
theorem dX12_feed_26 : decode cX12_feed 26 = .ok (.iload_n 3, 1) := by decide +kernel
theorem dX12_feed_27 : decode cX12_feed 27 = .ok (.invokevirtual 99, 3) := by decide +kernel
theorem dX12_feed_30 : decode cX12_feed 30 = .ok (.aload_n 0, 1) := by decide +kernel
theorem dX12_feed_31 : decode cX12_feed 31 = .ok (.iload 4, 2) := by decide +kernel
theorem dX12_feed_33 : decode cX12_feed 33 = .ok (.invokevirtual 99, 3) := by decide +kernel
theorem dX12_feed_36 : decode cX12_feed 36 = .ok (.aload_n 0, 1) := by decide +kernel
theorem dX12_feed_37 : decode cX12_feed 37 = .ok (.iload 5, 2) := by decide +kernel
theorem dX12_feed_39 : decode cX12_feed 39 = .ok (.invokevirtual 99, 3) := by decide +kernel
theorem dX12_feed_42 : decode cX12_feed 42 = .ok (.aload_n 0, 1) := by decide +kernel
theorem dX12_feed_43 : decode cX12_feed 43 = .ok (.getfield 96, 3) := by decide +kernel
theorem dX12_feed_46 : decode cX12_feed 46 = .ok (.ireturn, 1) := by decide +kernel
theorem vc_X12_99 : XVw RX12 99 1 11 3 yX12_four cX12_four none := ⟨RX12, TX12, tyX12, 43, xk_11, rfl, ⟨by decide, by decide⟩, by decide +kernel, wt_1095, wt_1097, ws_38, wt_11, wt_1098⟩
noncomputable def bs_X12_feed : List (Nat × XB) := [
  (0, (sq (xLA 0) (sq (xGI 11 1) (sq (xC (.int 20)) (sq (xI2 (· + ·)) (sq (xC (.int 400)) (tIf2 (fun x y => decide (x ≤ y)) 15 [true, true, true, true, true, true] 13 [false, false, false, false, false, false]))))))),
  (13, (sq (xC (.int (-1))) tRI)),
  (15, (sq (xLA 0) (sq (xLI 1) (sq (xCV 11 2 F_X12_four) (sq (xLA 0) (sq (xLI 2) (sq (xCV 11 2 F_X12_four) (sq (xLA 0) (sq (xLI 3) (sq (xCV 11 2 F_X12_four) (sq (xLA 0) (sq (xLI 4) (sq (xCV 11 2 F_X12_four) (sq (xLA 0) (sq (xLI 5) (sq (xCV 11 2 F_X12_four) (sq (xLA 0) (sq (xGI 11 1) tRI))))))))))))))))))]
set_option maxRecDepth 100000 in
set_option maxHeartbeats 4000000 in
theorem s_X12_feed : ∀ X : XCtx, XE X → X.2.2.1.1 = cX12_feed → X.2.2.1.2.1 = 6 → X.2.2.1.2.2.1 = yX12_feed.cls → X.2.2.1.2.2.2.1 = (some .int) → X.1.2.2.2.1 = { frames := 1, cells := 0, slots := 0, locals := 22 } → SndBs X bs_X12_feed := by
  rintro ⟨⟨p, l, e, R, s⟩, Y, ⟨cc, nL, own, ret, Ts⟩, Z⟩ hE h1 h2 h3 h4 h5
  dsimp only at h1 h2 h3 h4 h5
  subst h1 h2 h3 h4 h5
  exact ⟨(n_sq (n_aload_n hE dX12_feed_0) (n_sq (n_getI hE xk_11 (k := 1) rfl (by decide) rfl wt_961 dX12_feed_1) (n_sq (n_bipush hE (by decide) dX12_feed_4) (n_sq (n_iadd hE dX12_feed_6) (n_sq (n_sipush hE (by decide) dX12_feed_7) (n_ifcle hE (by decide) dX12_feed_10)))))),
    (n_sq (n_iconst hE (by decide) dX12_feed_13) (n_ireturn hE rfl dX12_feed_14)),
    (n_sq (n_aload_n hE dX12_feed_15) (n_sq (n_iload_n hE dX12_feed_16) (n_sq (n_cVv hE m_X12_four vc_X12_99 (show 0 + 1 ≤ 1 ∧ 8 + (3 + 11) + 0 ≤ 22 by decide) dX12_feed_17) (n_sq (n_aload_n hE dX12_feed_20) (n_sq (n_iload_n hE dX12_feed_21) (n_sq (n_cVv hE m_X12_four vc_X12_99 (show 0 + 1 ≤ 1 ∧ 8 + (3 + 11) + 0 ≤ 22 by decide) dX12_feed_22) (n_sq (n_aload_n hE dX12_feed_25) (n_sq (n_iload_n hE dX12_feed_26) (n_sq (n_cVv hE m_X12_four vc_X12_99 (show 0 + 1 ≤ 1 ∧ 8 + (3 + 11) + 0 ≤ 22 by decide) dX12_feed_27) (n_sq (n_aload_n hE dX12_feed_30) (n_sq (n_iload hE dX12_feed_31) (n_sq (n_cVv hE m_X12_four vc_X12_99 (show 0 + 1 ≤ 1 ∧ 8 + (3 + 11) + 0 ≤ 22 by decide) dX12_feed_33) (n_sq (n_aload_n hE dX12_feed_36) (n_sq (n_iload hE dX12_feed_37) (n_sq (n_cVv hE m_X12_four vc_X12_99 (show 0 + 1 ≤ 1 ∧ 8 + (3 + 11) + 0 ≤ 22 by decide) dX12_feed_39) (n_sq (n_aload_n hE dX12_feed_42) (n_sq (n_getI hE xk_11 (k := 1) rfl (by decide) rfl wt_961 dX12_feed_43) (n_ireturn hE rfl dX12_feed_46)))))))))))))))))), trivial⟩
noncomputable def F_X12_feed (as : List XV) (w : XW) : Option (Int32 × XW) := (xF 6 bs_X12_feed as w).bind pI
theorem m_X12_feed : XM yX12_feed cX12_feed 6 (some .int) 1 22 (eI F_X12_feed) := xm_I (xm_of (by decide) s_X12_feed)
noncomputable def q_X12_feed_0 (x1 : Int32) (x2 : Int32) (x3 : Int32) (x4 : Int32) (x5 : Int32) (w : XW) : Option XR := ev bs_X12_feed 0 ([some (.inr (11, 0)), some (.inl (.int x1)), some (.inl (.int x2)), some (.inl (.int x3)), some (.inl (.int x4)), some (.inl (.int x5))], [], w)
noncomputable def q_X12_feed_13 (w : XW) : Option XR := ev bs_X12_feed 13 ([none, none, none, none, none, none], [], w)
noncomputable def q_X12_feed_15 (x1 : Int32) (x2 : Int32) (x3 : Int32) (x4 : Int32) (x5 : Int32) (w : XW) : Option XR := ev bs_X12_feed 15 ([some (.inr (11, 0)), some (.inl (.int x1)), some (.inl (.int x2)), some (.inl (.int x3)), some (.inl (.int x4)), some (.inl (.int x5))], [], w)
theorem e_X12_feed_0 (x1 : Int32) (x2 : Int32) (x3 : Int32) (x4 : Int32) (x5 : Int32) (w : XW) : q_X12_feed_0 x1 x2 x3 x4 x5 w = (bif decide (((gI w 11 0 1) + 20) ≤ 400) then (q_X12_feed_15 x1 x2 x3 x4 x5 w) else (q_X12_feed_13 w)) := (ev_eq _ _ _).trans rfl
theorem e_X12_feed_13 (w : XW) : q_X12_feed_13 w = (some (some (.inl (.int (-1))), w)) := (ev_eq _ _ _).trans rfl
theorem e_X12_feed_15 (x1 : Int32) (x2 : Int32) (x3 : Int32) (x4 : Int32) (x5 : Int32) (w : XW) : q_X12_feed_15 x1 x2 x3 x4 x5 w = ((F_X12_four [.inr (11, 0), .inl (.int x1)] w).bind fun r0 => ((F_X12_four [.inr (11, 0), .inl (.int x2)] r0).bind fun r1 => ((F_X12_four [.inr (11, 0), .inl (.int x3)] r1).bind fun r2 => ((F_X12_four [.inr (11, 0), .inl (.int x4)] r2).bind fun r3 => ((F_X12_four [.inr (11, 0), .inl (.int x5)] r3).bind fun r4 => (some (some (.inl (.int (gI r4 11 0 1))), r4))))))) := (ev_eq _ _ _).trans rfl
theorem f_X12_feed (x1 : Int32) (x2 : Int32) (x3 : Int32) (x4 : Int32) (x5 : Int32) (w : XW) : F_X12_feed [.inr (11, 0), .inl (.int x1), .inl (.int x2), .inl (.int x3), .inl (.int x4), .inl (.int x5)] w = (q_X12_feed_0 x1 x2 x3 x4 x5 w).bind pI := rfl

-- WinterKeepModel.end(I)I
theorem dX12_end_0 : decode cX12_end 0 = .ok (.iload_n 1, 1) := by decide +kernel
theorem dX12_end_1 : decode cX12_end 1 = .ok (.ifCond .lt 11, 3) := by decide +kernel
theorem dX12_end_4 : decode cX12_end 4 = .ok (.iload_n 1, 1) := by decide +kernel
theorem dX12_end_5 : decode cX12_end 5 = .ok (.aload_n 0, 1) := by decide +kernel
theorem dX12_end_6 : decode cX12_end 6 = .ok (.getfield 96, 3) := by decide +kernel
theorem dX12_end_9 : decode cX12_end 9 = .ok (.if_icmp .le 5, 3) := by decide +kernel
theorem dX12_end_12 : decode cX12_end 12 = .ok (.iconst (-1), 1) := by decide +kernel
theorem dX12_end_13 : decode cX12_end 13 = .ok (.ireturn, 1) := by decide +kernel
theorem dX12_end_14 : decode cX12_end 14 = .ok (.aload_n 0, 1) := by decide +kernel
theorem dX12_end_15 : decode cX12_end 15 = .ok (.iload_n 1, 1) := by decide +kernel
theorem dX12_end_16 : decode cX12_end 16 = .ok (.putfield 96, 3) := by decide +kernel
theorem dX12_end_19 : decode cX12_end 19 = .ok (.iload_n 1, 1) := by decide +kernel
theorem dX12_end_20 : decode cX12_end 20 = .ok (.ireturn, 1) := by decide +kernel
noncomputable def bs_X12_end : List (Nat × XB) := [
  (0, (sq (xLI 1) (tIf1 (fun x => decide (x < 0)) 12 [false, false] 4 [true, true]))),
  (4, (sq (xLI 1) (sq (xLA 0) (sq (xGI 11 1) (tIf2 (fun x y => decide (x ≤ y)) 14 [true, true] 12 [false, false]))))),
  (12, (sq (xC (.int (-1))) tRI)),
  (14, (sq (xLA 0) (sq (xLI 1) (sq (xPI 11 1) (sq (xLI 1) tRI)))))]
set_option maxRecDepth 100000 in
set_option maxHeartbeats 4000000 in
theorem s_X12_end : ∀ X : XCtx, XE X → X.2.2.1.1 = cX12_end → X.2.2.1.2.1 = 2 → X.2.2.1.2.2.1 = yX12_end.cls → X.2.2.1.2.2.2.1 = (some .int) → X.1.2.2.2.1 = { frames := 0, cells := 0, slots := 0, locals := 0 } → SndBs X bs_X12_end := by
  rintro ⟨⟨p, l, e, R, s⟩, Y, ⟨cc, nL, own, ret, Ts⟩, Z⟩ hE h1 h2 h3 h4 h5
  dsimp only at h1 h2 h3 h4 h5
  subst h1 h2 h3 h4 h5
  exact ⟨(n_sq (n_iload_n hE dX12_end_0) (n_iflt hE (by decide) dX12_end_1)),
    (n_sq (n_iload_n hE dX12_end_4) (n_sq (n_aload_n hE dX12_end_5) (n_sq (n_getI hE xk_11 (k := 1) rfl (by decide) rfl wt_961 dX12_end_6) (n_ifcle hE (by decide) dX12_end_9)))),
    (n_sq (n_iconst hE (by decide) dX12_end_12) (n_ireturn hE rfl dX12_end_13)),
    (n_sq (n_aload_n hE dX12_end_14) (n_sq (n_iload_n hE dX12_end_15) (n_sq (n_putI hE xk_11 (k := 1) rfl (by decide) rfl rfl (tyX12_ok 1 (by decide)) wt_961 dX12_end_16) (n_sq (n_iload_n hE dX12_end_19) (n_ireturn hE rfl dX12_end_20))))), trivial⟩
noncomputable def F_X12_end (as : List XV) (w : XW) : Option (Int32 × XW) := (xF 2 bs_X12_end as w).bind pI
theorem m_X12_end : XM yX12_end cX12_end 2 (some .int) 0 0 (eI F_X12_end) := xm_I (xm_of (by decide) s_X12_end)
noncomputable def q_X12_end_0 (x1 : Int32) (w : XW) : Option XR := ev bs_X12_end 0 ([some (.inr (11, 0)), some (.inl (.int x1))], [], w)
noncomputable def q_X12_end_4 (x1 : Int32) (w : XW) : Option XR := ev bs_X12_end 4 ([some (.inr (11, 0)), some (.inl (.int x1))], [], w)
noncomputable def q_X12_end_12 (w : XW) : Option XR := ev bs_X12_end 12 ([none, none], [], w)
noncomputable def q_X12_end_14 (x1 : Int32) (w : XW) : Option XR := ev bs_X12_end 14 ([some (.inr (11, 0)), some (.inl (.int x1))], [], w)
theorem e_X12_end_0 (x1 : Int32) (w : XW) : q_X12_end_0 x1 w = (bif decide (x1 < 0) then (q_X12_end_12 w) else (q_X12_end_4 x1 w)) := (ev_eq _ _ _).trans rfl
theorem e_X12_end_4 (x1 : Int32) (w : XW) : q_X12_end_4 x1 w = (bif decide (x1 ≤ (gI w 11 0 1)) then (q_X12_end_14 x1 w) else (q_X12_end_12 w)) := (ev_eq _ _ _).trans rfl
theorem e_X12_end_12 (w : XW) : q_X12_end_12 w = (some (some (.inl (.int (-1))), w)) := (ev_eq _ _ _).trans rfl
theorem e_X12_end_14 (x1 : Int32) (w : XW) : q_X12_end_14 x1 w = (some (some (.inl (.int x1)), sI w 11 0 1 x1)) := (ev_eq _ _ _).trans rfl
theorem f_X12_end (x1 : Int32) (w : XW) : F_X12_end [.inr (11, 0), .inl (.int x1)] w = (q_X12_end_0 x1 w).bind pI := rfl

-- WinterKeepModel.fails(II)Z
theorem dX12_fails_0 : decode cX12_fails 0 = .ok (.aload_n 0, 1) := by decide +kernel
theorem dX12_fails_1 : decode cX12_fails 1 = .ok (.getfield 103, 3) := by decide +kernel
theorem dX12_fails_4 : decode cX12_fails 4 = .ok (.ifCond .ne 15, 3) := by decide +kernel
theorem dX12_fails_7 : decode cX12_fails 7 = .ok (.aload_n 0, 1) := by decide +kernel
theorem dX12_fails_8 : decode cX12_fails 8 = .ok (.iconst 1, 1) := by decide +kernel
theorem dX12_fails_9 : decode cX12_fails 9 = .ok (.bipush 8, 2) := by decide +kernel
theorem dX12_fails_11 : decode cX12_fails 11 = .ok (.iload_n 2, 1) := by decide +kernel
theorem dX12_fails_12 : decode cX12_fails 12 = .ok (.imul, 1) := by decide +kernel
theorem dX12_fails_13 : decode cX12_fails 13 = .ok (.iadd, 1) := by decide +kernel
theorem dX12_fails_14 : decode cX12_fails 14 = .ok (.iload_n 1, 1) := by decide +kernel
theorem dX12_fails_15 : decode cX12_fails 15 = .ok (.iadd, 1) := by decide +kernel
theorem dX12_fails_16 : decode cX12_fails 16 = .ok (.putfield 103, 3) := by decide +kernel
theorem dX12_fails_19 : decode cX12_fails 19 = .ok (.iconst 0, 1) := by decide +kernel
theorem dX12_fails_20 : decode cX12_fails 20 = .ok (.ireturn, 1) := by decide +kernel
noncomputable def bs_X12_fails : List (Nat × XB) := [
  (0, (sq (xLA 0) (sq (xGI 11 9) (tIf1 (fun x => decide (¬ x = 0)) 19 [false, false, false] 7 [true, true, true])))),
  (7, (sq (xLA 0) (sq (xC (.int 1)) (sq (xC (.int 8)) (sq (xLI 2) (sq (xI2 (· * ·)) (sq (xI2 (· + ·)) (sq (xLI 1) (sq (xI2 (· + ·)) (sq (xPI 11 9) (tGo 19 [false, false, false]))))))))))),
  (19, (sq (xC (.int 0)) tRZ))]
set_option maxRecDepth 100000 in
set_option maxHeartbeats 4000000 in
theorem s_X12_fails : ∀ X : XCtx, XE X → X.2.2.1.1 = cX12_fails → X.2.2.1.2.1 = 3 → X.2.2.1.2.2.1 = yX12_fails.cls → X.2.2.1.2.2.2.1 = (some .boolean) → X.1.2.2.2.1 = { frames := 0, cells := 0, slots := 0, locals := 0 } → SndBs X bs_X12_fails := by
  rintro ⟨⟨p, l, e, R, s⟩, Y, ⟨cc, nL, own, ret, Ts⟩, Z⟩ hE h1 h2 h3 h4 h5
  dsimp only at h1 h2 h3 h4 h5
  subst h1 h2 h3 h4 h5
  exact ⟨(n_sq (n_aload_n hE dX12_fails_0) (n_sq (n_getI hE xk_11 (k := 9) rfl (by decide) rfl wt_969 dX12_fails_1) (n_ifne hE (by decide) dX12_fails_4))),
    (n_sq (n_aload_n hE dX12_fails_7) (n_sq (n_iconst hE (by decide) dX12_fails_8) (n_sq (n_bipush hE (by decide) dX12_fails_9) (n_sq (n_iload_n hE dX12_fails_11) (n_sq (n_imul hE dX12_fails_12) (n_sq (n_iadd hE dX12_fails_13) (n_sq (n_iload_n hE dX12_fails_14) (n_sq (n_iadd hE dX12_fails_15) (n_sq (n_putI hE xk_11 (k := 9) rfl (by decide) rfl rfl (tyX12_ok 9 (by decide)) wt_969 dX12_fails_16) n_fall))))))))),
    (n_sq (n_iconst hE (by decide) dX12_fails_19) (n_zreturn hE rfl dX12_fails_20)), trivial⟩
noncomputable def F_X12_fails (as : List XV) (w : XW) : Option (Int32 × XW) := (xF 3 bs_X12_fails as w).bind pI
theorem m_X12_fails : XM yX12_fails cX12_fails 3 (some .boolean) 0 0 (eI F_X12_fails) := xm_I (xm_of (by decide) s_X12_fails)
noncomputable def q_X12_fails_0 (x1 : Int32) (x2 : Int32) (w : XW) : Option XR := ev bs_X12_fails 0 ([some (.inr (11, 0)), some (.inl (.int x1)), some (.inl (.int x2))], [], w)
noncomputable def q_X12_fails_7 (x1 : Int32) (x2 : Int32) (w : XW) : Option XR := ev bs_X12_fails 7 ([some (.inr (11, 0)), some (.inl (.int x1)), some (.inl (.int x2))], [], w)
noncomputable def q_X12_fails_19 (w : XW) : Option XR := ev bs_X12_fails 19 ([none, none, none], [], w)
theorem e_X12_fails_0 (x1 : Int32) (x2 : Int32) (w : XW) : q_X12_fails_0 x1 x2 w = (bif decide (¬ (gI w 11 0 9) = 0) then (q_X12_fails_19 w) else (q_X12_fails_7 x1 x2 w)) := (ev_eq _ _ _).trans rfl
theorem e_X12_fails_7 (x1 : Int32) (x2 : Int32) (w : XW) : q_X12_fails_7 x1 x2 w = (q_X12_fails_19 (sI w 11 0 9 ((1 + (8 * x2)) + x1))) := (ev_eq _ _ _).trans rfl
theorem e_X12_fails_19 (w : XW) : q_X12_fails_19 w = (some (some (.inl (.int 0)), w)) := (ev_eq _ _ _).trans rfl
theorem f_X12_fails (x1 : Int32) (x2 : Int32) (w : XW) : F_X12_fails [.inr (11, 0), .inl (.int x1), .inl (.int x2)] w = (q_X12_fails_0 x1 x2 w).bind pI := rfl

-- WinterKeepModel.see()I
theorem dX12_see_0 : decode cX12_see 0 = .ok (.aload_n 0, 1) := by decide +kernel
theorem dX12_see_1 : decode cX12_see 1 = .ok (.getfield 106, 3) := by decide +kernel
theorem dX12_see_4 : decode cX12_see 4 = .ok (.aload_n 0, 1) := by decide +kernel
theorem dX12_see_5 : decode cX12_see 5 = .ok (.getfield 96, 3) := by decide +kernel
theorem dX12_see_8 : decode cX12_see 8 = .ok (.if_icmp .ge 30, 3) := by decide +kernel
theorem dX12_see_11 : decode cX12_see 11 = .ok (.aload_n 0, 1) := by decide +kernel
theorem dX12_see_12 : decode cX12_see 12 = .ok (.getfield 7, 3) := by decide +kernel
theorem dX12_see_15 : decode cX12_see 15 = .ok (.aload_n 0, 1) := by decide +kernel
theorem dX12_see_16 : decode cX12_see 16 = .ok (.getfield 106, 3) := by decide +kernel
theorem dX12_see_19 : decode cX12_see 19 = .ok (.baload, 1) := by decide +kernel
theorem dX12_see_20 : decode cX12_see 20 = .ok (.bipush 32, 2) := by decide +kernel
theorem dX12_see_22 : decode cX12_see 22 = .ok (.if_icmp .ne 16, 3) := by decide +kernel
theorem dX12_see_25 : decode cX12_see 25 = .ok (.aload_n 0, 1) := by decide +kernel
theorem dX12_see_26 : decode cX12_see 26 = .ok (.dup, 1) := by decide +kernel
theorem dX12_see_27 : decode cX12_see 27 = .ok (.getfield 106, 3) := by decide +kernel
theorem dX12_see_30 : decode cX12_see 30 = .ok (.iconst 1, 1) := by decide +kernel
theorem dX12_see_31 : decode cX12_see 31 = .ok (.iadd, 1) := by decide +kernel
theorem dX12_see_32 : decode cX12_see 32 = .ok (.putfield 106, 3) := by decide +kernel
theorem dX12_see_35 : decode cX12_see 35 = .ok (.goto (-35), 3) := by decide +kernel
theorem dX12_see_38 : decode cX12_see 38 = .ok (.aload_n 0, 1) := by decide +kernel
theorem dX12_see_39 : decode cX12_see 39 = .ok (.getfield 106, 3) := by decide +kernel
theorem dX12_see_42 : decode cX12_see 42 = .ok (.aload_n 0, 1) := by decide +kernel
theorem dX12_see_43 : decode cX12_see 43 = .ok (.getfield 96, 3) := by decide +kernel
theorem dX12_see_46 : decode cX12_see 46 = .ok (.if_icmp .ge 19, 3) := by decide +kernel
theorem dX12_see_49 : decode cX12_see 49 = .ok (.aload_n 0, 1) := by decide +kernel
theorem dX12_see_50 : decode cX12_see 50 = .ok (.getfield 7, 3) := by decide +kernel
theorem dX12_see_53 : decode cX12_see 53 = .ok (.aload_n 0, 1) := by decide +kernel
theorem dX12_see_54 : decode cX12_see 54 = .ok (.getfield 106, 3) := by decide +kernel
theorem dX12_see_57 : decode cX12_see 57 = .ok (.baload, 1) := by decide +kernel
theorem dX12_see_58 : decode cX12_see 58 = .ok (.sipush 255, 3) := by decide +kernel
theorem dX12_see_61 : decode cX12_see 61 = .ok (.iand, 1) := by decide +kernel
theorem dX12_see_62 : decode cX12_see 62 = .ok (.goto 4, 3) := by decide +kernel
theorem dX12_see_65 : decode cX12_see 65 = .ok (.iconst (-1), 1) := by decide +kernel
theorem dX12_see_66 : decode cX12_see 66 = .ok (.ireturn, 1) := by decide +kernel
noncomputable def bs_X12_see : List (Nat × XB) := [
  (0, (sq (xLA 0) (sq (xGI 11 8) (sq (xLA 0) (sq (xGI 11 1) (tIf2 (fun x y => decide (y ≤ x)) 38 [true] 11 [true])))))),
  (11, (sq (xLA 0) (sq (xGS 11 41 1 0) (sq (xLA 0) (sq (xGI 11 8) (sq (xAI 41 400) (sq (xC (.int 32)) (tIf2 (fun x y => decide (¬ x = y)) 38 [true] 25 [true])))))))),
  (25, (sq (xLA 0) (sq (xDup) (sq (xGI 11 8) (sq (xC (.int 1)) (sq (xI2 (· + ·)) (sq (xPI 11 8) (tGo 0 [true])))))))),
  (38, (sq (xLA 0) (sq (xGI 11 8) (sq (xLA 0) (sq (xGI 11 1) (tIf2 (fun x y => decide (y ≤ x)) 65 [false] 49 [true])))))),
  (49, (sq (xLA 0) (sq (xGS 11 41 1 0) (sq (xLA 0) (sq (xGI 11 8) (sq (xAI 41 400) (sq (xC (.int 255)) (sq (xI2 (· &&& ·)) (tGo 66 [false]))))))))),
  (65, (sq (xC (.int (-1))) (tGo 66 [false]))),
  (66, tRI)]
set_option maxRecDepth 100000 in
set_option maxHeartbeats 4000000 in
theorem s_X12_see : ∀ X : XCtx, XE X → X.2.2.1.1 = cX12_see → X.2.2.1.2.1 = 1 → X.2.2.1.2.2.1 = yX12_see.cls → X.2.2.1.2.2.2.1 = (some .int) → X.1.2.2.2.1 = { frames := 0, cells := 0, slots := 0, locals := 0 } → SndBs X bs_X12_see := by
  rintro ⟨⟨p, l, e, R, s⟩, Y, ⟨cc, nL, own, ret, Ts⟩, Z⟩ hE h1 h2 h3 h4 h5
  dsimp only at h1 h2 h3 h4 h5
  subst h1 h2 h3 h4 h5
  exact ⟨(n_sq (n_aload_n hE dX12_see_0) (n_sq (n_getI hE xk_11 (k := 8) rfl (by decide) rfl wt_968 dX12_see_1) (n_sq (n_aload_n hE dX12_see_4) (n_sq (n_getI hE xk_11 (k := 1) rfl (by decide) rfl wt_961 dX12_see_5) (n_ifcge hE (by decide) dX12_see_8))))),
    (n_sq (n_aload_n hE dX12_see_11) (n_sq (n_getS hE xk_11 (k := 0) rfl (by decide) rfl wt_960 dX12_see_12) (n_sq (n_aload_n hE dX12_see_15) (n_sq (n_getI hE xk_11 (k := 8) rfl (by decide) rfl wt_968 dX12_see_16) (n_sq (n_bald hE rfl (by decide) dX12_see_19) (n_sq (n_bipush hE (by decide) dX12_see_20) (n_ifcne hE (by decide) dX12_see_22))))))),
    (n_sq (n_aload_n hE dX12_see_25) (n_sq (n_dup hE dX12_see_26) (n_sq (n_getI hE xk_11 (k := 8) rfl (by decide) rfl wt_968 dX12_see_27) (n_sq (n_iconst hE (by decide) dX12_see_30) (n_sq (n_iadd hE dX12_see_31) (n_sq (n_putI hE xk_11 (k := 8) rfl (by decide) rfl rfl (tyX12_ok 8 (by decide)) wt_968 dX12_see_32) (n_goto hE (by decide) dX12_see_35))))))),
    (n_sq (n_aload_n hE dX12_see_38) (n_sq (n_getI hE xk_11 (k := 8) rfl (by decide) rfl wt_968 dX12_see_39) (n_sq (n_aload_n hE dX12_see_42) (n_sq (n_getI hE xk_11 (k := 1) rfl (by decide) rfl wt_961 dX12_see_43) (n_ifcge hE (by decide) dX12_see_46))))),
    (n_sq (n_aload_n hE dX12_see_49) (n_sq (n_getS hE xk_11 (k := 0) rfl (by decide) rfl wt_960 dX12_see_50) (n_sq (n_aload_n hE dX12_see_53) (n_sq (n_getI hE xk_11 (k := 8) rfl (by decide) rfl wt_968 dX12_see_54) (n_sq (n_bald hE rfl (by decide) dX12_see_57) (n_sq (n_sipush hE (by decide) dX12_see_58) (n_sq (n_iand hE dX12_see_61) (n_goto hE (by decide) dX12_see_62)))))))),
    (n_sq (n_iconst hE (by decide) dX12_see_65) n_fall),
    (n_ireturn hE rfl dX12_see_66), trivial⟩
noncomputable def F_X12_see (as : List XV) (w : XW) : Option (Int32 × XW) := (xF 1 bs_X12_see as w).bind pI
theorem m_X12_see : XM yX12_see cX12_see 1 (some .int) 0 0 (eI F_X12_see) := xm_I (xm_of (by decide) s_X12_see)
noncomputable def q_X12_see_0 (w : XW) : Option XR := ev bs_X12_see 0 ([some (.inr (11, 0))], [], w)
noncomputable def q_X12_see_11 (w : XW) : Option XR := ev bs_X12_see 11 ([some (.inr (11, 0))], [], w)
noncomputable def q_X12_see_25 (w : XW) : Option XR := ev bs_X12_see 25 ([some (.inr (11, 0))], [], w)
noncomputable def q_X12_see_38 (w : XW) : Option XR := ev bs_X12_see 38 ([some (.inr (11, 0))], [], w)
noncomputable def q_X12_see_49 (w : XW) : Option XR := ev bs_X12_see 49 ([some (.inr (11, 0))], [], w)
noncomputable def q_X12_see_65 (w : XW) : Option XR := ev bs_X12_see 65 ([none], [], w)
noncomputable def q_X12_see_66 (s0 : Int32) (w : XW) : Option XR := ev bs_X12_see 66 ([none], [.inl (.int s0)], w)
theorem e_X12_see_0 (w : XW) : q_X12_see_0 w = (bif decide ((gI w 11 0 1) ≤ (gI w 11 0 8)) then (q_X12_see_38 w) else (q_X12_see_11 w)) := (ev_eq _ _ _).trans rfl
theorem e_X12_see_11 (w : XW) : q_X12_see_11 w = (if (gI w 11 0 8) < 0 ∨ 400 ≤ (gI w 11 0 8).toNatClampNeg then none else (bif decide (¬ (gI w 41 0 (gI w 11 0 8).toNatClampNeg) = 32) then (q_X12_see_38 w) else (q_X12_see_25 w))) := (ev_eq _ _ _).trans rfl
theorem e_X12_see_25 (w : XW) : q_X12_see_25 w = (q_X12_see_0 (sI w 11 0 8 ((gI w 11 0 8) + 1))) := (ev_eq _ _ _).trans rfl
theorem e_X12_see_38 (w : XW) : q_X12_see_38 w = (bif decide ((gI w 11 0 1) ≤ (gI w 11 0 8)) then (q_X12_see_65 w) else (q_X12_see_49 w)) := (ev_eq _ _ _).trans rfl
theorem e_X12_see_49 (w : XW) : q_X12_see_49 w = (if (gI w 11 0 8) < 0 ∨ 400 ≤ (gI w 11 0 8).toNatClampNeg then none else (q_X12_see_66 ((gI w 41 0 (gI w 11 0 8).toNatClampNeg) &&& 255) w)) := (ev_eq _ _ _).trans rfl
theorem e_X12_see_65 (w : XW) : q_X12_see_65 w = (q_X12_see_66 (-1) w) := (ev_eq _ _ _).trans rfl
theorem e_X12_see_66 (s0 : Int32) (w : XW) : q_X12_see_66 s0 w = (some (some (.inl (.int s0)), w)) := (ev_eq _ _ _).trans rfl
theorem f_X12_see (w : XW) : F_X12_see [.inr (11, 0)] w = (q_X12_see_0 w).bind pI := rfl
