-- WinterKeepModel.keptOffAll()I
theorem dX12_keptOffAll_0 : decode cX12_keptOffAll 0 = .ok (.iconst 0, 1) := by decide +kernel
theorem dX12_keptOffAll_1 : decode cX12_keptOffAll 1 = .ok (.istore_n 1, 1) := by decide +kernel
theorem dX12_keptOffAll_2 : decode cX12_keptOffAll 2 = .ok (.iconst 0, 1) := by decide +kernel
theorem dX12_keptOffAll_3 : decode cX12_keptOffAll 3 = .ok (.istore_n 2, 1) := by decide +kernel
theorem dX12_keptOffAll_4 : decode cX12_keptOffAll 4 = .ok (.iload_n 2, 1) := by decide +kernel
theorem dX12_keptOffAll_5 : decode cX12_keptOffAll 5 = .ok (.aload_n 0, 1) := by decide +kernel
theorem dX12_keptOffAll_6 : decode cX12_keptOffAll 6 = .ok (.getfield 39, 3) := by decide +kernel
theorem dX12_keptOffAll_9 : decode cX12_keptOffAll 9 = .ok (.iconst 3, 1) := by decide +kernel
theorem dX12_keptOffAll_10 : decode cX12_keptOffAll 10 = .ok (.iaload, 1) := by decide +kernel
theorem dX12_keptOffAll_11 : decode cX12_keptOffAll 11 = .ok (.if_icmp .ge 34, 3) := by decide +kernel
theorem dX12_keptOffAll_14 : decode cX12_keptOffAll 14 = .ok (.iload_n 1, 1) := by decide +kernel
theorem dX12_keptOffAll_15 : decode cX12_keptOffAll 15 = .ok (.aload_n 0, 1) := by decide +kernel
theorem dX12_keptOffAll_16 : decode cX12_keptOffAll 16 = .ok (.iload_n 2, 1) := by decide +kernel
theorem dX12_keptOffAll_17 : decode cX12_keptOffAll 17 = .ok (.invokevirtual 301, 3) := by decide +kernel
theorem dX12_keptOffAll_20 : decode cX12_keptOffAll 20 = .ok (.ifCond .lt 16, 3) := by decide +kernel
theorem dX12_keptOffAll_23 : decode cX12_keptOffAll 23 = .ok (.aload_n 0, 1) := by decide +kernel
theorem dX12_keptOffAll_24 : decode cX12_keptOffAll 24 = .ok (.iload_n 2, 1) := by decide +kernel
theorem dX12_keptOffAll_25 : decode cX12_keptOffAll 25 = .ok (.aload_n 0, 1) := by decide +kernel
theorem dX12_keptOffAll_26 : decode cX12_keptOffAll 26 = .ok (.iload_n 2, 1) := by decide +kernel
theorem dX12_keptOffAll_27 : decode cX12_keptOffAll 27 = .ok (.invokevirtual 301, 3) := by decide +kernel
theorem dX12_keptOffAll_30 : decode cX12_keptOffAll 30 = .ok (.invokevirtual 307, 3) := by decide +kernel
theorem dX12_keptOffAll_33 : decode cX12_keptOffAll 33 = .ok (.goto 4, 3) := by decide +kernel
theorem dX12_keptOffAll_36 : decode cX12_keptOffAll 36 = .ok (.iconst 0, 1) := by decide +kernel
theorem dX12_keptOffAll_37 : decode cX12_keptOffAll 37 = .ok (.iadd, 1) := by decide +kernel
theorem dX12_keptOffAll_38 : decode cX12_keptOffAll 38 = .ok (.istore_n 1, 1) := by decide +kernel
theorem dX12_keptOffAll_39 : decode cX12_keptOffAll 39 = .ok (.iinc 2 1, 3) := by decide +kernel
theorem dX12_keptOffAll_42 : decode cX12_keptOffAll 42 = .ok (.goto (-38), 3) := by decide +kernel
theorem dX12_keptOffAll_45 : decode cX12_keptOffAll 45 = .ok (.iload_n 1, 1) := by decide +kernel
theorem dX12_keptOffAll_46 : decode cX12_keptOffAll 46 = .ok (.ireturn, 1) := by decide +kernel
theorem vc_X12_307 : XVw RX12 307 2 11 3 yX12_keptOffBy cX12_keptOffBy (some .int) := ⟨RX12, TX12, tyX12, 43, xk_11, rfl, ⟨by decide, by decide⟩, by decide +kernel, wt_1321, wt_1323, ws_81, wt_11, wt_1324⟩
noncomputable def bs_X12_keptOffAll : List (Nat × XB) := [
  (0, (sq (xC (.int 0)) (sq (xSI 1) (sq (xC (.int 0)) (sq (xSI 2) (tGo 4 [true, true, true])))))),
  (4, (sq (xLI 2) (sq (xLA 0) (sq (xGS 11 50 1 0) (sq (xC (.int 3)) (sq (xAI 50 98) (tIf2 (fun x y => decide (y ≤ x)) 45 [false, true, false] 14 [true, true, true]))))))),
  (14, (sq (xLI 1) (sq (xLA 0) (sq (xLI 2) (sq (xCI 11 2 F_X12_whereIs) (tIf1 (fun x => decide (x < 0)) 36 [true, false, true] 23 [true, false, true])))))),
  (23, (sq (xLA 0) (sq (xLI 2) (sq (xLA 0) (sq (xLI 2) (sq (xCI 11 2 F_X12_whereIs) (sq (xCI 11 3 F_X12_keptOffBy) (tGo 37 [true, false, true])))))))),
  (36, (sq (xC (.int 0)) (tGo 37 [true, false, true]))),
  (37, (sq (xI2 (· + ·)) (sq (xSI 1) (sq (xInc 2 1) (tGo 4 [true, true, true]))))),
  (45, (sq (xLI 1) tRI))]
set_option maxRecDepth 100000 in
set_option maxHeartbeats 4000000 in
theorem s_X12_keptOffAll : ∀ X : XCtx, XE X → X.2.2.1.1 = cX12_keptOffAll → X.2.2.1.2.1 = 3 → X.2.2.1.2.2.1 = yX12_keptOffAll.cls → X.2.2.1.2.2.2.1 = (some .int) → X.1.2.2.2.1 = { frames := 2, cells := 0, slots := 0, locals := 43 } → SndBs X bs_X12_keptOffAll := by
  rintro ⟨⟨p, l, e, R, s⟩, Y, ⟨cc, nL, own, ret, Ts⟩, Z⟩ hE h1 h2 h3 h4 h5
  dsimp only at h1 h2 h3 h4 h5
  subst h1 h2 h3 h4 h5
  exact ⟨(n_sq (n_iconst hE (by decide) dX12_keptOffAll_0) (n_sq (n_istore_n hE (show (1 : Nat) < 3 by decide) dX12_keptOffAll_1) (n_sq (n_iconst hE (by decide) dX12_keptOffAll_2) (n_sq (n_istore_n hE (show (2 : Nat) < 3 by decide) dX12_keptOffAll_3) n_fall)))),
    (n_sq (n_iload_n hE dX12_keptOffAll_4) (n_sq (n_aload_n hE dX12_keptOffAll_5) (n_sq (n_getS hE xk_11 (k := 20) rfl (by decide) rfl wt_980 dX12_keptOffAll_6) (n_sq (n_iconst hE (by decide) dX12_keptOffAll_9) (n_sq (n_iald hE rfl (by decide) dX12_keptOffAll_10) (n_ifcge hE (by decide) dX12_keptOffAll_11)))))),
    (n_sq (n_iload_n hE dX12_keptOffAll_14) (n_sq (n_aload_n hE dX12_keptOffAll_15) (n_sq (n_iload_n hE dX12_keptOffAll_16) (n_sq (n_cIv hE m_X12_whereIs vc_X12_301 (show 0 + 1 ≤ 2 ∧ 8 + (2 + 11) + 0 ≤ 43 by decide) dX12_keptOffAll_17) (n_iflt hE (by decide) dX12_keptOffAll_20))))),
    (n_sq (n_aload_n hE dX12_keptOffAll_23) (n_sq (n_iload_n hE dX12_keptOffAll_24) (n_sq (n_aload_n hE dX12_keptOffAll_25) (n_sq (n_iload_n hE dX12_keptOffAll_26) (n_sq (n_cIv hE m_X12_whereIs vc_X12_301 (show 0 + 1 ≤ 2 ∧ 8 + (2 + 11) + 0 ≤ 43 by decide) dX12_keptOffAll_27) (n_sq (n_cIv hE m_X12_keptOffBy vc_X12_307 (show 1 + 1 ≤ 2 ∧ 8 + (3 + 11) + 21 ≤ 43 by decide) dX12_keptOffAll_30) (n_goto hE (by decide) dX12_keptOffAll_33))))))),
    (n_sq (n_iconst hE (by decide) dX12_keptOffAll_36) n_fall),
    (n_sq (n_iadd hE dX12_keptOffAll_37) (n_sq (n_istore_n hE (show (1 : Nat) < 3 by decide) dX12_keptOffAll_38) (n_sq (n_iinc hE (by decide) (show (2 : Nat) < 3 by decide) dX12_keptOffAll_39) (n_goto hE (by decide) dX12_keptOffAll_42)))),
    (n_sq (n_iload_n hE dX12_keptOffAll_45) (n_ireturn hE rfl dX12_keptOffAll_46)), trivial⟩
noncomputable def F_X12_keptOffAll (as : List XV) (w : XW) : Option (Int32 × XW) := (xF 3 bs_X12_keptOffAll as w).bind pI
theorem m_X12_keptOffAll : XM yX12_keptOffAll cX12_keptOffAll 3 (some .int) 2 43 (eI F_X12_keptOffAll) := xm_I (xm_of (by decide) s_X12_keptOffAll)
noncomputable def q_X12_keptOffAll_0 (w : XW) : Option XR := ev bs_X12_keptOffAll 0 ([some (.inr (11, 0)), none, none], [], w)
noncomputable def q_X12_keptOffAll_4 (x1 : Int32) (x2 : Int32) (w : XW) : Option XR := ev bs_X12_keptOffAll 4 ([some (.inr (11, 0)), some (.inl (.int x1)), some (.inl (.int x2))], [], w)
noncomputable def q_X12_keptOffAll_14 (x1 : Int32) (x2 : Int32) (w : XW) : Option XR := ev bs_X12_keptOffAll 14 ([some (.inr (11, 0)), some (.inl (.int x1)), some (.inl (.int x2))], [], w)
noncomputable def q_X12_keptOffAll_23 (x2 : Int32) (s0 : Int32) (w : XW) : Option XR := ev bs_X12_keptOffAll 23 ([some (.inr (11, 0)), none, some (.inl (.int x2))], [.inl (.int s0)], w)
noncomputable def q_X12_keptOffAll_36 (x2 : Int32) (s0 : Int32) (w : XW) : Option XR := ev bs_X12_keptOffAll 36 ([some (.inr (11, 0)), none, some (.inl (.int x2))], [.inl (.int s0)], w)
noncomputable def q_X12_keptOffAll_37 (x2 : Int32) (s0 : Int32) (s1 : Int32) (w : XW) : Option XR := ev bs_X12_keptOffAll 37 ([some (.inr (11, 0)), none, some (.inl (.int x2))], [.inl (.int s1), .inl (.int s0)], w)
noncomputable def q_X12_keptOffAll_45 (x1 : Int32) (w : XW) : Option XR := ev bs_X12_keptOffAll 45 ([none, some (.inl (.int x1)), none], [], w)
theorem e_X12_keptOffAll_0 (w : XW) : q_X12_keptOffAll_0 w = (q_X12_keptOffAll_4 0 0 w) := (ev_eq _ _ _).trans rfl
theorem e_X12_keptOffAll_4 (x1 : Int32) (x2 : Int32) (w : XW) : q_X12_keptOffAll_4 x1 x2 w = (bif decide ((gI w 50 0 3) ≤ x2) then (q_X12_keptOffAll_45 x1 w) else (q_X12_keptOffAll_14 x1 x2 w)) := (ev_eq _ _ _).trans rfl
theorem e_X12_keptOffAll_14 (x1 : Int32) (x2 : Int32) (w : XW) : q_X12_keptOffAll_14 x1 x2 w = ((F_X12_whereIs [.inr (11, 0), .inl (.int x2)] w).bind fun r0 => (bif decide (r0.1 < 0) then (q_X12_keptOffAll_36 x2 x1 r0.2) else (q_X12_keptOffAll_23 x2 x1 r0.2))) := (ev_eq _ _ _).trans rfl
theorem e_X12_keptOffAll_23 (x2 : Int32) (s0 : Int32) (w : XW) : q_X12_keptOffAll_23 x2 s0 w = ((F_X12_whereIs [.inr (11, 0), .inl (.int x2)] w).bind fun r0 => ((F_X12_keptOffBy [.inr (11, 0), .inl (.int x2), .inl (.int r0.1)] r0.2).bind fun r1 => (q_X12_keptOffAll_37 x2 s0 r1.1 r1.2))) := (ev_eq _ _ _).trans rfl
theorem e_X12_keptOffAll_36 (x2 : Int32) (s0 : Int32) (w : XW) : q_X12_keptOffAll_36 x2 s0 w = (q_X12_keptOffAll_37 x2 s0 0 w) := (ev_eq _ _ _).trans rfl
theorem e_X12_keptOffAll_37 (x2 : Int32) (s0 : Int32) (s1 : Int32) (w : XW) : q_X12_keptOffAll_37 x2 s0 s1 w = (q_X12_keptOffAll_4 (s0 + s1) (x2 + 1) w) := (ev_eq _ _ _).trans rfl
theorem e_X12_keptOffAll_45 (x1 : Int32) (w : XW) : q_X12_keptOffAll_45 x1 w = (some (some (.inl (.int x1)), w)) := (ev_eq _ _ _).trans rfl
theorem f_X12_keptOffAll (w : XW) : F_X12_keptOffAll [.inr (11, 0)] w = (q_X12_keptOffAll_0 w).bind pI := rfl

-- WinterKeepModel.force(I)I
theorem dX12_force_0 : decode cX12_force 0 = .ok (.iload_n 1, 1) := by decide +kernel
theorem dX12_force_1 : decode cX12_force 1 = .ok (.iconst (-1), 1) := by decide +kernel
theorem dX12_force_2 : decode cX12_force 2 = .ok (.if_icmp .eq 14, 3) := by decide +kernel
theorem dX12_force_5 : decode cX12_force 5 = .ok (.aload_n 0, 1) := by decide +kernel
theorem dX12_force_6 : decode cX12_force 6 = .ok (.iload_n 1, 1) := by decide +kernel
theorem dX12_force_7 : decode cX12_force 7 = .ok (.invokevirtual 311, 3) := by decide +kernel
theorem dX12_force_10 : decode cX12_force 10 = .ok (.ifCond .ne 6, 3) := by decide +kernel
theorem dX12_force_13 : decode cX12_force 13 = .ok (.bipush (-2), 2) := by decide +kernel
theorem dX12_force_15 : decode cX12_force 15 = .ok (.ireturn, 1) := by decide +kernel
theorem dX12_force_16 : decode cX12_force 16 = .ok (.aload_n 0, 1) := by decide +kernel
theorem dX12_force_17 : decode cX12_force 17 = .ok (.getfield 42, 3) := by decide +kernel
theorem dX12_force_20 : decode cX12_force 20 = .ok (.istore_n 2, 1) := by decide +kernel
theorem dX12_force_21 : decode cX12_force 21 = .ok (.aload_n 0, 1) := by decide +kernel
theorem dX12_force_22 : decode cX12_force 22 = .ok (.iload_n 1, 1) := by decide +kernel
theorem dX12_force_23 : decode cX12_force 23 = .ok (.putfield 42, 3) := by decide +kernel
theorem dX12_force_26 : decode cX12_force 26 = .ok (.iload_n 2, 1) := by decide +kernel
theorem dX12_force_27 : decode cX12_force 27 = .ok (.ireturn, 1) := by decide +kernel
theorem vc_X12_311 : XVw RX12 311 1 11 2 yX12_isRule cX12_isRule (some .boolean) := ⟨RX12, TX12, tyX12, 43, xk_11, rfl, ⟨by decide, by decide⟩, by decide +kernel, wt_1272, wt_1274, ws_72, wt_11, wt_1275⟩
noncomputable def bs_X12_force : List (Nat × XB) := [
  (0, (sq (xLI 1) (sq (xC (.int (-1))) (tIf2 (fun x y => decide (x = y)) 16 [true, true, false] 5 [true, true, false])))),
  (5, (sq (xLA 0) (sq (xLI 1) (sq (xCI 11 2 F_X12_isRule) (tIf1 (fun x => decide (¬ x = 0)) 16 [true, true, false] 13 [false, false, false]))))),
  (13, (sq (xC (.int (-2))) tRI)),
  (16, (sq (xLA 0) (sq (xGI 11 21) (sq (xSI 2) (sq (xLA 0) (sq (xLI 1) (sq (xPI 11 21) (sq (xLI 2) tRI))))))))]
set_option maxRecDepth 100000 in
set_option maxHeartbeats 4000000 in
theorem s_X12_force : ∀ X : XCtx, XE X → X.2.2.1.1 = cX12_force → X.2.2.1.2.1 = 3 → X.2.2.1.2.2.1 = yX12_force.cls → X.2.2.1.2.2.2.1 = (some .int) → X.1.2.2.2.1 = { frames := 1, cells := 0, slots := 0, locals := 21 } → SndBs X bs_X12_force := by
  rintro ⟨⟨p, l, e, R, s⟩, Y, ⟨cc, nL, own, ret, Ts⟩, Z⟩ hE h1 h2 h3 h4 h5
  dsimp only at h1 h2 h3 h4 h5
  subst h1 h2 h3 h4 h5
  exact ⟨(n_sq (n_iload_n hE dX12_force_0) (n_sq (n_iconst hE (by decide) dX12_force_1) (n_ifceq hE (by decide) dX12_force_2))),
    (n_sq (n_aload_n hE dX12_force_5) (n_sq (n_iload_n hE dX12_force_6) (n_sq (n_cIv hE m_X12_isRule vc_X12_311 (show 0 + 1 ≤ 1 ∧ 8 + (2 + 11) + 0 ≤ 21 by decide) dX12_force_7) (n_ifne hE (by decide) dX12_force_10)))),
    (n_sq (n_bipush hE (by decide) dX12_force_13) (n_ireturn hE rfl dX12_force_15)),
    (n_sq (n_aload_n hE dX12_force_16) (n_sq (n_getI hE xk_11 (k := 21) rfl (by decide) rfl wt_981 dX12_force_17) (n_sq (n_istore_n hE (show (2 : Nat) < 3 by decide) dX12_force_20) (n_sq (n_aload_n hE dX12_force_21) (n_sq (n_iload_n hE dX12_force_22) (n_sq (n_putI hE xk_11 (k := 21) rfl (by decide) rfl rfl (tyX12_ok 21 (by decide)) wt_981 dX12_force_23) (n_sq (n_iload_n hE dX12_force_26) (n_ireturn hE rfl dX12_force_27)))))))), trivial⟩
noncomputable def F_X12_force (as : List XV) (w : XW) : Option (Int32 × XW) := (xF 3 bs_X12_force as w).bind pI
theorem m_X12_force : XM yX12_force cX12_force 3 (some .int) 1 21 (eI F_X12_force) := xm_I (xm_of (by decide) s_X12_force)
noncomputable def q_X12_force_0 (x1 : Int32) (w : XW) : Option XR := ev bs_X12_force 0 ([some (.inr (11, 0)), some (.inl (.int x1)), none], [], w)
noncomputable def q_X12_force_5 (x1 : Int32) (w : XW) : Option XR := ev bs_X12_force 5 ([some (.inr (11, 0)), some (.inl (.int x1)), none], [], w)
noncomputable def q_X12_force_13 (w : XW) : Option XR := ev bs_X12_force 13 ([none, none, none], [], w)
noncomputable def q_X12_force_16 (x1 : Int32) (w : XW) : Option XR := ev bs_X12_force 16 ([some (.inr (11, 0)), some (.inl (.int x1)), none], [], w)
theorem e_X12_force_0 (x1 : Int32) (w : XW) : q_X12_force_0 x1 w = (bif decide (x1 = (-1)) then (q_X12_force_16 x1 w) else (q_X12_force_5 x1 w)) := (ev_eq _ _ _).trans rfl
theorem e_X12_force_5 (x1 : Int32) (w : XW) : q_X12_force_5 x1 w = ((F_X12_isRule [.inr (11, 0), .inl (.int x1)] w).bind fun r0 => (bif decide (¬ r0.1 = 0) then (q_X12_force_16 x1 r0.2) else (q_X12_force_13 r0.2))) := (ev_eq _ _ _).trans rfl
theorem e_X12_force_13 (w : XW) : q_X12_force_13 w = (some (some (.inl (.int (-2))), w)) := (ev_eq _ _ _).trans rfl
theorem e_X12_force_16 (x1 : Int32) (w : XW) : q_X12_force_16 x1 w = (some (some (.inl (.int (gI w 11 0 21))), sI w 11 0 21 x1)) := (ev_eq _ _ _).trans rfl
theorem f_X12_force (x1 : Int32) (w : XW) : F_X12_force [.inr (11, 0), .inl (.int x1)] w = (q_X12_force_0 x1 w).bind pI := rfl

-- WinterKeepModel.keep(II)I
theorem dX12_keep_0 : decode cX12_keep 0 = .ok (.aload_n 0, 1) := by decide +kernel
theorem dX12_keep_1 : decode cX12_keep 1 = .ok (.iload_n 1, 1) := by decide +kernel
theorem dX12_keep_2 : decode cX12_keep 2 = .ok (.invokevirtual 298, 3) := by decide +kernel
theorem dX12_keep_5 : decode cX12_keep 5 = .ok (.ifCond .ne 6, 3) := by decide +kernel
theorem dX12_keep_8 : decode cX12_keep 8 = .ok (.bipush (-3), 2) := by decide +kernel
theorem dX12_keep_10 : decode cX12_keep 10 = .ok (.ireturn, 1) := by decide +kernel
theorem dX12_keep_11 : decode cX12_keep 11 = .ok (.iload_n 2, 1) := by decide +kernel
theorem dX12_keep_12 : decode cX12_keep 12 = .ok (.tableswitch 84 0 5 #[40, 50, 60, 66, 72, 78], 40) := by decide +kernel
theorem dX12_keep_52 : decode cX12_keep 52 = .ok (.aload_n 0, 1) := by decide +kernel
theorem dX12_keep_53 : decode cX12_keep 53 = .ok (.getfield 39, 3) := by decide +kernel
theorem dX12_keep_56 : decode cX12_keep 56 = .ok (.bipush 35, 2) := by decide +kernel
theorem dX12_keep_58 : decode cX12_keep 58 = .ok (.iload_n 1, 1) := by decide +kernel
theorem dX12_keep_59 : decode cX12_keep 59 = .ok (.iadd, 1) := by decide +kernel
theorem dX12_keep_60 : decode cX12_keep 60 = .ok (.iaload, 1) := by decide +kernel
theorem dX12_keep_61 : decode cX12_keep 61 = .ok (.ireturn, 1) := by decide +kernel
theorem dX12_keep_62 : decode cX12_keep 62 = .ok (.aload_n 0, 1) := by decide +kernel
theorem dX12_keep_63 : decode cX12_keep 63 = .ok (.getfield 39, 3) := by decide +kernel
theorem dX12_keep_66 : decode cX12_keep 66 = .ok (.bipush 41, 2) := by decide +kernel
theorem dX12_keep_68 : decode cX12_keep 68 = .ok (.iload_n 1, 1) := by decide +kernel
theorem dX12_keep_69 : decode cX12_keep 69 = .ok (.iadd, 1) := by decide +kernel
theorem dX12_keep_70 : decode cX12_keep 70 = .ok (.iaload, 1) := by decide +kernel
theorem dX12_keep_71 : decode cX12_keep 71 = .ok (.ireturn, 1) := by decide +kernel
theorem dX12_keep_72 : decode cX12_keep 72 = .ok (.aload_n 0, 1) := by decide +kernel
theorem dX12_keep_73 : decode cX12_keep 73 = .ok (.iload_n 1, 1) := by decide +kernel
theorem dX12_keep_74 : decode cX12_keep 74 = .ok (.invokevirtual 304, 3) := by decide +kernel
theorem dX12_keep_77 : decode cX12_keep 77 = .ok (.ireturn, 1) := by decide +kernel
theorem dX12_keep_78 : decode cX12_keep 78 = .ok (.aload_n 0, 1) := by decide +kernel
theorem dX12_keep_79 : decode cX12_keep 79 = .ok (.iload_n 1, 1) := by decide +kernel
theorem dX12_keep_80 : decode cX12_keep 80 = .ok (.invokevirtual 314, 3) := by decide +kernel
theorem dX12_keep_83 : decode cX12_keep 83 = .ok (.ireturn, 1) := by decide +kernel
theorem dX12_keep_84 : decode cX12_keep 84 = .ok (.aload_n 0, 1) := by decide +kernel
theorem dX12_keep_85 : decode cX12_keep 85 = .ok (.iload_n 1, 1) := by decide +kernel
theorem dX12_keep_86 : decode cX12_keep 86 = .ok (.invokevirtual 301, 3) := by decide +kernel
theorem dX12_keep_89 : decode cX12_keep 89 = .ok (.ireturn, 1) := by decide +kernel
theorem dX12_keep_90 : decode cX12_keep 90 = .ok (.aload_n 0, 1) := by decide +kernel
theorem dX12_keep_91 : decode cX12_keep 91 = .ok (.iload_n 1, 1) := by decide +kernel
theorem dX12_keep_92 : decode cX12_keep 92 = .ok (.invokevirtual 317, 3) := by decide +kernel
theorem dX12_keep_95 : decode cX12_keep 95 = .ok (.ireturn, 1) := by decide +kernel
theorem dX12_keep_96 : decode cX12_keep 96 = .ok (.bipush (-3), 2) := by decide +kernel
theorem dX12_keep_98 : decode cX12_keep 98 = .ok (.ireturn, 1) := by decide +kernel
theorem vc_X12_314 : XVw RX12 314 1 11 2 yX12_heatOf cX12_heatOf (some .int) := ⟨RX12, TX12, tyX12, 43, xk_11, rfl, ⟨by decide, by decide⟩, by decide +kernel, wt_1288, wt_1290, ws_75, wt_11, wt_1291⟩
theorem vc_X12_317 : XVw RX12 317 1 11 2 yX12_besideOf cX12_besideOf (some .int) := ⟨RX12, TX12, tyX12, 43, xk_11, rfl, ⟨by decide, by decide⟩, by decide +kernel, wt_1296, wt_1298, ws_77, wt_11, wt_1299⟩
noncomputable def bs_X12_keep : List (Nat × XB) := [
  (0, (sq (xLA 0) (sq (xLI 1) (sq (xCI 11 2 F_X12_isKeep) (tIf1 (fun x => decide (¬ x = 0)) 11 [true, true, true] 8 [false, false, false]))))),
  (8, (sq (xC (.int (-3))) tRI)),
  (11, (sq (xLI 2) (tSw [(0, 52), (1, 62), (2, 72), (3, 78), (4, 84), (5, 90)] 96 [true, true, false]))),
  (52, (sq (xLA 0) (sq (xGS 11 50 1 0) (sq (xC (.int 35)) (sq (xLI 1) (sq (xI2 (· + ·)) (sq (xAI 50 98) tRI))))))),
  (62, (sq (xLA 0) (sq (xGS 11 50 1 0) (sq (xC (.int 41)) (sq (xLI 1) (sq (xI2 (· + ·)) (sq (xAI 50 98) tRI))))))),
  (72, (sq (xLA 0) (sq (xLI 1) (sq (xCI 11 2 F_X12_fullOf) tRI)))),
  (78, (sq (xLA 0) (sq (xLI 1) (sq (xCI 11 2 F_X12_heatOf) tRI)))),
  (84, (sq (xLA 0) (sq (xLI 1) (sq (xCI 11 2 F_X12_whereIs) tRI)))),
  (90, (sq (xLA 0) (sq (xLI 1) (sq (xCI 11 2 F_X12_besideOf) tRI)))),
  (96, (sq (xC (.int (-3))) tRI))]
set_option maxRecDepth 100000 in
set_option maxHeartbeats 4000000 in
theorem s_X12_keep : ∀ X : XCtx, XE X → X.2.2.1.1 = cX12_keep → X.2.2.1.2.1 = 3 → X.2.2.1.2.2.1 = yX12_keep.cls → X.2.2.1.2.2.2.1 = (some .int) → X.1.2.2.2.1 = { frames := 1, cells := 0, slots := 0, locals := 21 } → SndBs X bs_X12_keep := by
  rintro ⟨⟨p, l, e, R, s⟩, Y, ⟨cc, nL, own, ret, Ts⟩, Z⟩ hE h1 h2 h3 h4 h5
  dsimp only at h1 h2 h3 h4 h5
  subst h1 h2 h3 h4 h5
  exact ⟨(n_sq (n_aload_n hE dX12_keep_0) (n_sq (n_iload_n hE dX12_keep_1) (n_sq (n_cIv hE m_X12_isKeep vc_X12_298 (show 0 + 1 ≤ 1 ∧ 8 + (2 + 11) + 0 ≤ 21 by decide) dX12_keep_2) (n_ifne hE (by decide) dX12_keep_5)))),
    (n_sq (n_bipush hE (by decide) dX12_keep_8) (n_ireturn hE rfl dX12_keep_10)),
    (n_sq (n_iload_n hE dX12_keep_11) (n_switch hE (lo32 := 0) (ts := [52, 62, 72, 78, 84, 90]) (by decide) (by decide) (by decide) (by decide) (by decide) (by decide) dX12_keep_12)),
    (n_sq (n_aload_n hE dX12_keep_52) (n_sq (n_getS hE xk_11 (k := 20) rfl (by decide) rfl wt_980 dX12_keep_53) (n_sq (n_bipush hE (by decide) dX12_keep_56) (n_sq (n_iload_n hE dX12_keep_58) (n_sq (n_iadd hE dX12_keep_59) (n_sq (n_iald hE rfl (by decide) dX12_keep_60) (n_ireturn hE rfl dX12_keep_61))))))),
    (n_sq (n_aload_n hE dX12_keep_62) (n_sq (n_getS hE xk_11 (k := 20) rfl (by decide) rfl wt_980 dX12_keep_63) (n_sq (n_bipush hE (by decide) dX12_keep_66) (n_sq (n_iload_n hE dX12_keep_68) (n_sq (n_iadd hE dX12_keep_69) (n_sq (n_iald hE rfl (by decide) dX12_keep_70) (n_ireturn hE rfl dX12_keep_71))))))),
    (n_sq (n_aload_n hE dX12_keep_72) (n_sq (n_iload_n hE dX12_keep_73) (n_sq (n_cIv hE m_X12_fullOf vc_X12_304 (show 0 + 1 ≤ 1 ∧ 8 + (2 + 11) + 0 ≤ 21 by decide) dX12_keep_74) (n_ireturn hE rfl dX12_keep_77)))),
    (n_sq (n_aload_n hE dX12_keep_78) (n_sq (n_iload_n hE dX12_keep_79) (n_sq (n_cIv hE m_X12_heatOf vc_X12_314 (show 0 + 1 ≤ 1 ∧ 8 + (2 + 11) + 0 ≤ 21 by decide) dX12_keep_80) (n_ireturn hE rfl dX12_keep_83)))),
    (n_sq (n_aload_n hE dX12_keep_84) (n_sq (n_iload_n hE dX12_keep_85) (n_sq (n_cIv hE m_X12_whereIs vc_X12_301 (show 0 + 1 ≤ 1 ∧ 8 + (2 + 11) + 0 ≤ 21 by decide) dX12_keep_86) (n_ireturn hE rfl dX12_keep_89)))),
    (n_sq (n_aload_n hE dX12_keep_90) (n_sq (n_iload_n hE dX12_keep_91) (n_sq (n_cIv hE m_X12_besideOf vc_X12_317 (show 0 + 1 ≤ 1 ∧ 8 + (2 + 11) + 0 ≤ 21 by decide) dX12_keep_92) (n_ireturn hE rfl dX12_keep_95)))),
    (n_sq (n_bipush hE (by decide) dX12_keep_96) (n_ireturn hE rfl dX12_keep_98)), trivial⟩
noncomputable def F_X12_keep (as : List XV) (w : XW) : Option (Int32 × XW) := (xF 3 bs_X12_keep as w).bind pI
theorem m_X12_keep : XM yX12_keep cX12_keep 3 (some .int) 1 21 (eI F_X12_keep) := xm_I (xm_of (by decide) s_X12_keep)
noncomputable def q_X12_keep_0 (x1 : Int32) (x2 : Int32) (w : XW) : Option XR := ev bs_X12_keep 0 ([some (.inr (11, 0)), some (.inl (.int x1)), some (.inl (.int x2))], [], w)
noncomputable def q_X12_keep_8 (w : XW) : Option XR := ev bs_X12_keep 8 ([none, none, none], [], w)
noncomputable def q_X12_keep_11 (x1 : Int32) (x2 : Int32) (w : XW) : Option XR := ev bs_X12_keep 11 ([some (.inr (11, 0)), some (.inl (.int x1)), some (.inl (.int x2))], [], w)
noncomputable def q_X12_keep_52 (x1 : Int32) (w : XW) : Option XR := ev bs_X12_keep 52 ([some (.inr (11, 0)), some (.inl (.int x1)), none], [], w)
noncomputable def q_X12_keep_62 (x1 : Int32) (w : XW) : Option XR := ev bs_X12_keep 62 ([some (.inr (11, 0)), some (.inl (.int x1)), none], [], w)
noncomputable def q_X12_keep_72 (x1 : Int32) (w : XW) : Option XR := ev bs_X12_keep 72 ([some (.inr (11, 0)), some (.inl (.int x1)), none], [], w)
noncomputable def q_X12_keep_78 (x1 : Int32) (w : XW) : Option XR := ev bs_X12_keep 78 ([some (.inr (11, 0)), some (.inl (.int x1)), none], [], w)
noncomputable def q_X12_keep_84 (x1 : Int32) (w : XW) : Option XR := ev bs_X12_keep 84 ([some (.inr (11, 0)), some (.inl (.int x1)), none], [], w)
noncomputable def q_X12_keep_90 (x1 : Int32) (w : XW) : Option XR := ev bs_X12_keep 90 ([some (.inr (11, 0)), some (.inl (.int x1)), none], [], w)
noncomputable def q_X12_keep_96 (x1 : Int32) (w : XW) : Option XR := ev bs_X12_keep 96 ([some (.inr (11, 0)), some (.inl (.int x1)), none], [], w)
theorem e_X12_keep_0 (x1 : Int32) (x2 : Int32) (w : XW) : q_X12_keep_0 x1 x2 w = ((F_X12_isKeep [.inr (11, 0), .inl (.int x1)] w).bind fun r0 => (bif decide (¬ r0.1 = 0) then (q_X12_keep_11 x1 x2 r0.2) else (q_X12_keep_8 r0.2))) := (ev_eq _ _ _).trans rfl
theorem e_X12_keep_8 (w : XW) : q_X12_keep_8 w = (some (some (.inl (.int (-3))), w)) := (ev_eq _ _ _).trans rfl
theorem e_X12_keep_11 (x1 : Int32) (x2 : Int32) (w : XW) : q_X12_keep_11 x1 x2 w = (bif x2 == 0 then (q_X12_keep_52 x1 w) else (bif x2 == 1 then (q_X12_keep_62 x1 w) else (bif x2 == 2 then (q_X12_keep_72 x1 w) else (bif x2 == 3 then (q_X12_keep_78 x1 w) else (bif x2 == 4 then (q_X12_keep_84 x1 w) else (bif x2 == 5 then (q_X12_keep_90 x1 w) else (q_X12_keep_96 x1 w))))))) := (ev_eq _ _ _).trans rfl
theorem e_X12_keep_52 (x1 : Int32) (w : XW) : q_X12_keep_52 x1 w = (if (35 + x1) < 0 ∨ 98 ≤ (35 + x1).toNatClampNeg then none else (some (some (.inl (.int (gI w 50 0 (35 + x1).toNatClampNeg))), w))) := (ev_eq _ _ _).trans rfl
theorem e_X12_keep_62 (x1 : Int32) (w : XW) : q_X12_keep_62 x1 w = (if (41 + x1) < 0 ∨ 98 ≤ (41 + x1).toNatClampNeg then none else (some (some (.inl (.int (gI w 50 0 (41 + x1).toNatClampNeg))), w))) := (ev_eq _ _ _).trans rfl
theorem e_X12_keep_72 (x1 : Int32) (w : XW) : q_X12_keep_72 x1 w = ((F_X12_fullOf [.inr (11, 0), .inl (.int x1)] w).bind fun r0 => (some (some (.inl (.int r0.1)), r0.2))) := (ev_eq _ _ _).trans rfl
theorem e_X12_keep_78 (x1 : Int32) (w : XW) : q_X12_keep_78 x1 w = ((F_X12_heatOf [.inr (11, 0), .inl (.int x1)] w).bind fun r0 => (some (some (.inl (.int r0.1)), r0.2))) := (ev_eq _ _ _).trans rfl
theorem e_X12_keep_84 (x1 : Int32) (w : XW) : q_X12_keep_84 x1 w = ((F_X12_whereIs [.inr (11, 0), .inl (.int x1)] w).bind fun r0 => (some (some (.inl (.int r0.1)), r0.2))) := (ev_eq _ _ _).trans rfl
theorem e_X12_keep_90 (x1 : Int32) (w : XW) : q_X12_keep_90 x1 w = ((F_X12_besideOf [.inr (11, 0), .inl (.int x1)] w).bind fun r0 => (some (some (.inl (.int r0.1)), r0.2))) := (ev_eq _ _ _).trans rfl
theorem e_X12_keep_96 (x1 : Int32) (w : XW) : q_X12_keep_96 x1 w = (some (some (.inl (.int (-3))), w)) := (ev_eq _ _ _).trans rfl
theorem f_X12_keep (x1 : Int32) (x2 : Int32) (w : XW) : F_X12_keep [.inr (11, 0), .inl (.int x1), .inl (.int x2)] w = (q_X12_keep_0 x1 x2 w).bind pI := rfl

-- WinterKeepModel.person(II)I
theorem dX12_person_0 : decode cX12_person 0 = .ok (.aload_n 0, 1) := by decide +kernel
theorem dX12_person_1 : decode cX12_person 1 = .ok (.iload_n 1, 1) := by decide +kernel
theorem dX12_person_2 : decode cX12_person 2 = .ok (.invokevirtual 320, 3) := by decide +kernel
theorem dX12_person_5 : decode cX12_person 5 = .ok (.ifCond .eq 13, 3) := by decide +kernel
theorem dX12_person_8 : decode cX12_person 8 = .ok (.iload_n 2, 1) := by decide +kernel
theorem dX12_person_9 : decode cX12_person 9 = .ok (.i2l, 1) := by decide +kernel
theorem dX12_person_10 : decode cX12_person 10 = .ok (.lconst 0, 1) := by decide +kernel
theorem dX12_person_11 : decode cX12_person 11 = .ok (.lconst 1, 1) := by decide +kernel
theorem dX12_person_12 : decode cX12_person 12 = .ok (.invokestatic 133, 3) := by decide +kernel
theorem dX12_person_15 : decode cX12_person 15 = .ok (.ifCond .ne 5, 3) := by decide +kernel
theorem dX12_person_18 : decode cX12_person 18 = .ok (.iconst (-1), 1) := by decide +kernel
theorem dX12_person_19 : decode cX12_person 19 = .ok (.ireturn, 1) := by decide +kernel
theorem dX12_person_20 : decode cX12_person 20 = .ok (.iload_n 2, 1) := by decide +kernel
theorem dX12_person_21 : decode cX12_person 21 = .ok (.ifCond .ne 15, 3) := by decide +kernel
theorem dX12_person_24 : decode cX12_person 24 = .ok (.aload_n 0, 1) := by decide +kernel
theorem dX12_person_25 : decode cX12_person 25 = .ok (.getfield 39, 3) := by decide +kernel
theorem dX12_person_28 : decode cX12_person 28 = .ok (.bipush 47, 2) := by decide +kernel
theorem dX12_person_30 : decode cX12_person 30 = .ok (.iload_n 1, 1) := by decide +kernel
theorem dX12_person_31 : decode cX12_person 31 = .ok (.iadd, 1) := by decide +kernel
theorem dX12_person_32 : decode cX12_person 32 = .ok (.iaload, 1) := by decide +kernel
theorem dX12_person_33 : decode cX12_person 33 = .ok (.goto 12, 3) := by decide +kernel
theorem dX12_person_36 : decode cX12_person 36 = .ok (.aload_n 0, 1) := by decide +kernel
theorem dX12_person_37 : decode cX12_person 37 = .ok (.getfield 39, 3) := by decide +kernel
theorem dX12_person_40 : decode cX12_person 40 = .ok (.bipush 52, 2) := by decide +kernel
theorem dX12_person_42 : decode cX12_person 42 = .ok (.iload_n 1, 1) := by decide +kernel
theorem dX12_person_43 : decode cX12_person 43 = .ok (.iadd, 1) := by decide +kernel
theorem dX12_person_44 : decode cX12_person 44 = .ok (.iaload, 1) := by decide +kernel
theorem dX12_person_45 : decode cX12_person 45 = .ok (.ireturn, 1) := by decide +kernel
theorem vc_X12_320 : XVw RX12 320 1 11 2 yX12_isPerson cX12_isPerson (some .boolean) := ⟨RX12, TX12, tyX12, 43, xk_11, rfl, ⟨by decide, by decide⟩, by decide +kernel, wt_1304, wt_1306, ws_78, wt_11, wt_1307⟩
noncomputable def bs_X12_person : List (Nat × XB) := [
  (0, (sq (xLA 0) (sq (xLI 1) (sq (xCI 11 2 F_X12_isPerson) (tIf1 (fun x => decide (x = 0)) 18 [false, false, false] 8 [true, true, true]))))),
  (8, (sq (xLI 2) (sq (xI2L) (sq (xC (.long 0)) (sq (xC (.long 1)) (sq (xCI 99 3 F_X12_in) (tIf1 (fun x => decide (¬ x = 0)) 20 [true, true, true] 18 [false, false, false]))))))),
  (18, (sq (xC (.int (-1))) tRI)),
  (20, (sq (xLI 2) (tIf1 (fun x => decide (¬ x = 0)) 36 [true, true, false] 24 [true, true, false]))),
  (24, (sq (xLA 0) (sq (xGS 11 50 1 0) (sq (xC (.int 47)) (sq (xLI 1) (sq (xI2 (· + ·)) (sq (xAI 50 98) (tGo 45 [false, false, false])))))))),
  (36, (sq (xLA 0) (sq (xGS 11 50 1 0) (sq (xC (.int 52)) (sq (xLI 1) (sq (xI2 (· + ·)) (sq (xAI 50 98) (tGo 45 [false, false, false])))))))),
  (45, tRI)]
set_option maxRecDepth 100000 in
set_option maxHeartbeats 4000000 in
theorem s_X12_person : ∀ X : XCtx, XE X → X.2.2.1.1 = cX12_person → X.2.2.1.2.1 = 3 → X.2.2.1.2.2.1 = yX12_person.cls → X.2.2.1.2.2.2.1 = (some .int) → X.1.2.2.2.1 = { frames := 1, cells := 0, slots := 0, locals := 25 } → SndBs X bs_X12_person := by
  rintro ⟨⟨p, l, e, R, s⟩, Y, ⟨cc, nL, own, ret, Ts⟩, Z⟩ hE h1 h2 h3 h4 h5
  dsimp only at h1 h2 h3 h4 h5
  subst h1 h2 h3 h4 h5
  exact ⟨(n_sq (n_aload_n hE dX12_person_0) (n_sq (n_iload_n hE dX12_person_1) (n_sq (n_cIv hE m_X12_isPerson vc_X12_320 (show 0 + 1 ≤ 1 ∧ 8 + (2 + 11) + 0 ≤ 25 by decide) dX12_person_2) (n_ifeq hE (by decide) dX12_person_5)))),
    (n_sq (n_iload_n hE dX12_person_8) (n_sq (n_i2l hE dX12_person_9) (n_sq (n_lconst hE (by decide) dX12_person_10) (n_sq (n_lconst hE (by decide) dX12_person_11) (n_sq (n_cIs hE m_X12_in vc_X12_133 (show 0 + 1 ≤ 1 ∧ 8 + (6 + 11) + 0 ≤ 25 by decide) dX12_person_12) (n_ifne hE (by decide) dX12_person_15)))))),
    (n_sq (n_iconst hE (by decide) dX12_person_18) (n_ireturn hE rfl dX12_person_19)),
    (n_sq (n_iload_n hE dX12_person_20) (n_ifne hE (by decide) dX12_person_21)),
    (n_sq (n_aload_n hE dX12_person_24) (n_sq (n_getS hE xk_11 (k := 20) rfl (by decide) rfl wt_980 dX12_person_25) (n_sq (n_bipush hE (by decide) dX12_person_28) (n_sq (n_iload_n hE dX12_person_30) (n_sq (n_iadd hE dX12_person_31) (n_sq (n_iald hE rfl (by decide) dX12_person_32) (n_goto hE (by decide) dX12_person_33))))))),
    (n_sq (n_aload_n hE dX12_person_36) (n_sq (n_getS hE xk_11 (k := 20) rfl (by decide) rfl wt_980 dX12_person_37) (n_sq (n_bipush hE (by decide) dX12_person_40) (n_sq (n_iload_n hE dX12_person_42) (n_sq (n_iadd hE dX12_person_43) (n_sq (n_iald hE rfl (by decide) dX12_person_44) n_fall)))))),
    (n_ireturn hE rfl dX12_person_45), trivial⟩
noncomputable def F_X12_person (as : List XV) (w : XW) : Option (Int32 × XW) := (xF 3 bs_X12_person as w).bind pI
theorem m_X12_person : XM yX12_person cX12_person 3 (some .int) 1 25 (eI F_X12_person) := xm_I (xm_of (by decide) s_X12_person)
noncomputable def q_X12_person_0 (x1 : Int32) (x2 : Int32) (w : XW) : Option XR := ev bs_X12_person 0 ([some (.inr (11, 0)), some (.inl (.int x1)), some (.inl (.int x2))], [], w)
noncomputable def q_X12_person_8 (x1 : Int32) (x2 : Int32) (w : XW) : Option XR := ev bs_X12_person 8 ([some (.inr (11, 0)), some (.inl (.int x1)), some (.inl (.int x2))], [], w)
noncomputable def q_X12_person_18 (w : XW) : Option XR := ev bs_X12_person 18 ([none, none, none], [], w)
noncomputable def q_X12_person_20 (x1 : Int32) (x2 : Int32) (w : XW) : Option XR := ev bs_X12_person 20 ([some (.inr (11, 0)), some (.inl (.int x1)), some (.inl (.int x2))], [], w)
noncomputable def q_X12_person_24 (x1 : Int32) (w : XW) : Option XR := ev bs_X12_person 24 ([some (.inr (11, 0)), some (.inl (.int x1)), none], [], w)
noncomputable def q_X12_person_36 (x1 : Int32) (w : XW) : Option XR := ev bs_X12_person 36 ([some (.inr (11, 0)), some (.inl (.int x1)), none], [], w)
noncomputable def q_X12_person_45 (s0 : Int32) (w : XW) : Option XR := ev bs_X12_person 45 ([none, none, none], [.inl (.int s0)], w)
theorem e_X12_person_0 (x1 : Int32) (x2 : Int32) (w : XW) : q_X12_person_0 x1 x2 w = ((F_X12_isPerson [.inr (11, 0), .inl (.int x1)] w).bind fun r0 => (bif decide (r0.1 = 0) then (q_X12_person_18 r0.2) else (q_X12_person_8 x1 x2 r0.2))) := (ev_eq _ _ _).trans rfl
theorem e_X12_person_8 (x1 : Int32) (x2 : Int32) (w : XW) : q_X12_person_8 x1 x2 w = ((F_X12_in [.inl (.long (x2 : Int32).toInt64), .inl (.long 0), .inl (.long 1)] w).bind fun r0 => (bif decide (¬ r0.1 = 0) then (q_X12_person_20 x1 x2 r0.2) else (q_X12_person_18 r0.2))) := (ev_eq _ _ _).trans rfl
theorem e_X12_person_18 (w : XW) : q_X12_person_18 w = (some (some (.inl (.int (-1))), w)) := (ev_eq _ _ _).trans rfl
theorem e_X12_person_20 (x1 : Int32) (x2 : Int32) (w : XW) : q_X12_person_20 x1 x2 w = (bif decide (¬ x2 = 0) then (q_X12_person_36 x1 w) else (q_X12_person_24 x1 w)) := (ev_eq _ _ _).trans rfl
theorem e_X12_person_24 (x1 : Int32) (w : XW) : q_X12_person_24 x1 w = (if (47 + x1) < 0 ∨ 98 ≤ (47 + x1).toNatClampNeg then none else (q_X12_person_45 (gI w 50 0 (47 + x1).toNatClampNeg) w)) := (ev_eq _ _ _).trans rfl
theorem e_X12_person_36 (x1 : Int32) (w : XW) : q_X12_person_36 x1 w = (if (52 + x1) < 0 ∨ 98 ≤ (52 + x1).toNatClampNeg then none else (q_X12_person_45 (gI w 50 0 (52 + x1).toNatClampNeg) w)) := (ev_eq _ _ _).trans rfl
theorem e_X12_person_45 (s0 : Int32) (w : XW) : q_X12_person_45 s0 w = (some (some (.inl (.int s0)), w)) := (ev_eq _ _ _).trans rfl
theorem f_X12_person (x1 : Int32) (x2 : Int32) (w : XW) : F_X12_person [.inr (11, 0), .inl (.int x1), .inl (.int x2)] w = (q_X12_person_0 x1 x2 w).bind pI := rfl

-- WinterKeepModel.field(II)I
theorem dX12_field_0 : decode cX12_field 0 = .ok (.aload_n 0, 1) := by decide +kernel
theorem dX12_field_1 : decode cX12_field 1 = .ok (.iload_n 1, 1) := by decide +kernel
theorem dX12_field_2 : decode cX12_field 2 = .ok (.invokevirtual 323, 3) := by decide +kernel
theorem dX12_field_5 : decode cX12_field 5 = .ok (.ifCond .eq 15, 3) := by decide +kernel
theorem dX12_field_8 : decode cX12_field 8 = .ok (.iload_n 2, 1) := by decide +kernel
theorem dX12_field_9 : decode cX12_field 9 = .ok (.i2l, 1) := by decide +kernel
theorem dX12_field_10 : decode cX12_field 10 = .ok (.lconst 0, 1) := by decide +kernel
theorem dX12_field_11 : decode cX12_field 11 = .ok (.ldc2_w 326, 3) := by decide +kernel
theorem dX12_field_14 : decode cX12_field 14 = .ok (.invokestatic 133, 3) := by decide +kernel
theorem dX12_field_17 : decode cX12_field 17 = .ok (.ifCond .ne 6, 3) := by decide +kernel
theorem dX12_field_20 : decode cX12_field 20 = .ok (.bipush (-2), 2) := by decide +kernel
theorem dX12_field_22 : decode cX12_field 22 = .ok (.ireturn, 1) := by decide +kernel
theorem dX12_field_23 : decode cX12_field 23 = .ok (.aload_n 0, 1) := by decide +kernel
theorem dX12_field_24 : decode cX12_field 24 = .ok (.iload_n 1, 1) := by decide +kernel
theorem dX12_field_25 : decode cX12_field 25 = .ok (.invokevirtual 328, 3) := by decide +kernel
theorem dX12_field_28 : decode cX12_field 28 = .ok (.istore_n 3, 1) := by decide +kernel
theorem dX12_field_29 : decode cX12_field 29 = .ok (.iload_n 2, 1) := by decide +kernel
theorem dX12_field_30 : decode cX12_field 30 = .ok (.ifCond .ne 15, 3) := by decide +kernel
theorem dX12_field_33 : decode cX12_field 33 = .ok (.aload_n 0, 1) := by decide +kernel
theorem dX12_field_34 : decode cX12_field 34 = .ok (.getfield 39, 3) := by decide +kernel
theorem dX12_field_37 : decode cX12_field 37 = .ok (.bipush 57, 2) := by decide +kernel
theorem dX12_field_39 : decode cX12_field 39 = .ok (.iload_n 1, 1) := by decide +kernel
theorem dX12_field_40 : decode cX12_field 40 = .ok (.iadd, 1) := by decide +kernel
theorem dX12_field_41 : decode cX12_field 41 = .ok (.iaload, 1) := by decide +kernel
theorem dX12_field_42 : decode cX12_field 42 = .ok (.goto 26, 3) := by decide +kernel
theorem dX12_field_45 : decode cX12_field 45 = .ok (.iload_n 2, 1) := by decide +kernel
theorem dX12_field_46 : decode cX12_field 46 = .ok (.iconst 1, 1) := by decide +kernel
theorem dX12_field_47 : decode cX12_field 47 = .ok (.if_icmp .ne 7, 3) := by decide +kernel
theorem dX12_field_50 : decode cX12_field 50 = .ok (.iload_n 3, 1) := by decide +kernel
theorem dX12_field_51 : decode cX12_field 51 = .ok (.goto 17, 3) := by decide +kernel
theorem dX12_field_54 : decode cX12_field 54 = .ok (.iload_n 3, 1) := by decide +kernel
theorem dX12_field_55 : decode cX12_field 55 = .ok (.ifCond .ge 7, 3) := by decide +kernel
theorem dX12_field_58 : decode cX12_field 58 = .ok (.iconst 0, 1) := by decide +kernel
theorem dX12_field_59 : decode cX12_field 59 = .ok (.goto 9, 3) := by decide +kernel
theorem dX12_field_62 : decode cX12_field 62 = .ok (.aload_n 0, 1) := by decide +kernel
theorem dX12_field_63 : decode cX12_field 63 = .ok (.iload_n 3, 1) := by decide +kernel
theorem dX12_field_64 : decode cX12_field 64 = .ok (.iload_n 1, 1) := by decide +kernel
theorem dX12_field_65 : decode cX12_field 65 = .ok (.invokevirtual 307, 3) := by decide +kernel
theorem dX12_field_68 : decode cX12_field 68 = .ok (.ireturn, 1) := by decide +kernel
theorem vc_X12_323 : XVw RX12 323 1 11 2 yX12_isField cX12_isField (some .boolean) := ⟨RX12, TX12, tyX12, 43, xk_11, rfl, ⟨by decide, by decide⟩, by decide +kernel, wt_1312, wt_1314, ws_79, wt_11, wt_1315⟩
theorem vc_X12_328 : XVw RX12 328 1 11 3 yX12_keepIn cX12_keepIn (some .int) := ⟨RX12, TX12, tyX12, 43, xk_11, rfl, ⟨by decide, by decide⟩, by decide +kernel, wt_1317, wt_1319, ws_80, wt_11, wt_1320⟩
noncomputable def bs_X12_field : List (Nat × XB) := [
  (0, (sq (xLA 0) (sq (xLI 1) (sq (xCI 11 2 F_X12_isField) (tIf1 (fun x => decide (x = 0)) 20 [false, false, false, false] 8 [true, true, true, false]))))),
  (8, (sq (xLI 2) (sq (xI2L) (sq (xC (.long 0)) (sq (xC (.long 2)) (sq (xCI 99 3 F_X12_in) (tIf1 (fun x => decide (¬ x = 0)) 23 [true, true, true, false] 20 [false, false, false, false]))))))),
  (20, (sq (xC (.int (-2))) tRI)),
  (23, (sq (xLA 0) (sq (xLI 1) (sq (xCI 11 2 F_X12_keepIn) (sq (xSI 3) (sq (xLI 2) (tIf1 (fun x => decide (¬ x = 0)) 45 [true, true, true, true] 33 [true, true, false, false]))))))),
  (33, (sq (xLA 0) (sq (xGS 11 50 1 0) (sq (xC (.int 57)) (sq (xLI 1) (sq (xI2 (· + ·)) (sq (xAI 50 98) (tGo 68 [false, false, false, false])))))))),
  (45, (sq (xLI 2) (sq (xC (.int 1)) (tIf2 (fun x y => decide (¬ x = y)) 54 [true, true, false, true] 50 [false, false, false, true])))),
  (50, (sq (xLI 3) (tGo 68 [false, false, false, false]))),
  (54, (sq (xLI 3) (tIf1 (fun x => decide (0 ≤ x)) 62 [true, true, false, true] 58 [false, false, false, false]))),
  (58, (sq (xC (.int 0)) (tGo 68 [false, false, false, false]))),
  (62, (sq (xLA 0) (sq (xLI 3) (sq (xLI 1) (sq (xCI 11 3 F_X12_keptOffBy) (tGo 68 [false, false, false, false])))))),
  (68, tRI)]
set_option maxRecDepth 100000 in
set_option maxHeartbeats 4000000 in
theorem s_X12_field : ∀ X : XCtx, XE X → X.2.2.1.1 = cX12_field → X.2.2.1.2.1 = 4 → X.2.2.1.2.2.1 = yX12_field.cls → X.2.2.1.2.2.2.1 = (some .int) → X.1.2.2.2.1 = { frames := 2, cells := 0, slots := 0, locals := 43 } → SndBs X bs_X12_field := by
  rintro ⟨⟨p, l, e, R, s⟩, Y, ⟨cc, nL, own, ret, Ts⟩, Z⟩ hE h1 h2 h3 h4 h5
  dsimp only at h1 h2 h3 h4 h5
  subst h1 h2 h3 h4 h5
  exact ⟨(n_sq (n_aload_n hE dX12_field_0) (n_sq (n_iload_n hE dX12_field_1) (n_sq (n_cIv hE m_X12_isField vc_X12_323 (show 0 + 1 ≤ 2 ∧ 8 + (2 + 11) + 0 ≤ 43 by decide) dX12_field_2) (n_ifeq hE (by decide) dX12_field_5)))),
    (n_sq (n_iload_n hE dX12_field_8) (n_sq (n_i2l hE dX12_field_9) (n_sq (n_lconst hE (by decide) dX12_field_10) (n_sq (n_ldc2 hE wt_1316 dX12_field_11) (n_sq (n_cIs hE m_X12_in vc_X12_133 (show 0 + 1 ≤ 2 ∧ 8 + (6 + 11) + 0 ≤ 43 by decide) dX12_field_14) (n_ifne hE (by decide) dX12_field_17)))))),
    (n_sq (n_bipush hE (by decide) dX12_field_20) (n_ireturn hE rfl dX12_field_22)),
    (n_sq (n_aload_n hE dX12_field_23) (n_sq (n_iload_n hE dX12_field_24) (n_sq (n_cIv hE m_X12_keepIn vc_X12_328 (show 1 + 1 ≤ 2 ∧ 8 + (3 + 11) + 21 ≤ 43 by decide) dX12_field_25) (n_sq (n_istore_n hE (show (3 : Nat) < 4 by decide) dX12_field_28) (n_sq (n_iload_n hE dX12_field_29) (n_ifne hE (by decide) dX12_field_30)))))),
    (n_sq (n_aload_n hE dX12_field_33) (n_sq (n_getS hE xk_11 (k := 20) rfl (by decide) rfl wt_980 dX12_field_34) (n_sq (n_bipush hE (by decide) dX12_field_37) (n_sq (n_iload_n hE dX12_field_39) (n_sq (n_iadd hE dX12_field_40) (n_sq (n_iald hE rfl (by decide) dX12_field_41) (n_goto hE (by decide) dX12_field_42))))))),
    (n_sq (n_iload_n hE dX12_field_45) (n_sq (n_iconst hE (by decide) dX12_field_46) (n_ifcne hE (by decide) dX12_field_47))),
    (n_sq (n_iload_n hE dX12_field_50) (n_goto hE (by decide) dX12_field_51)),
    (n_sq (n_iload_n hE dX12_field_54) (n_ifge hE (by decide) dX12_field_55)),
    (n_sq (n_iconst hE (by decide) dX12_field_58) (n_goto hE (by decide) dX12_field_59)),
    (n_sq (n_aload_n hE dX12_field_62) (n_sq (n_iload_n hE dX12_field_63) (n_sq (n_iload_n hE dX12_field_64) (n_sq (n_cIv hE m_X12_keptOffBy vc_X12_307 (show 1 + 1 ≤ 2 ∧ 8 + (3 + 11) + 21 ≤ 43 by decide) dX12_field_65) n_fall)))),
    (n_ireturn hE rfl dX12_field_68), trivial⟩
noncomputable def F_X12_field (as : List XV) (w : XW) : Option (Int32 × XW) := (xF 4 bs_X12_field as w).bind pI
theorem m_X12_field : XM yX12_field cX12_field 4 (some .int) 2 43 (eI F_X12_field) := xm_I (xm_of (by decide) s_X12_field)
noncomputable def q_X12_field_0 (x1 : Int32) (x2 : Int32) (w : XW) : Option XR := ev bs_X12_field 0 ([some (.inr (11, 0)), some (.inl (.int x1)), some (.inl (.int x2)), none], [], w)
noncomputable def q_X12_field_8 (x1 : Int32) (x2 : Int32) (w : XW) : Option XR := ev bs_X12_field 8 ([some (.inr (11, 0)), some (.inl (.int x1)), some (.inl (.int x2)), none], [], w)
noncomputable def q_X12_field_20 (w : XW) : Option XR := ev bs_X12_field 20 ([none, none, none, none], [], w)
noncomputable def q_X12_field_23 (x1 : Int32) (x2 : Int32) (w : XW) : Option XR := ev bs_X12_field 23 ([some (.inr (11, 0)), some (.inl (.int x1)), some (.inl (.int x2)), none], [], w)
noncomputable def q_X12_field_33 (x1 : Int32) (w : XW) : Option XR := ev bs_X12_field 33 ([some (.inr (11, 0)), some (.inl (.int x1)), none, none], [], w)
noncomputable def q_X12_field_45 (x1 : Int32) (x2 : Int32) (x3 : Int32) (w : XW) : Option XR := ev bs_X12_field 45 ([some (.inr (11, 0)), some (.inl (.int x1)), some (.inl (.int x2)), some (.inl (.int x3))], [], w)
noncomputable def q_X12_field_50 (x3 : Int32) (w : XW) : Option XR := ev bs_X12_field 50 ([none, none, none, some (.inl (.int x3))], [], w)
noncomputable def q_X12_field_54 (x1 : Int32) (x3 : Int32) (w : XW) : Option XR := ev bs_X12_field 54 ([some (.inr (11, 0)), some (.inl (.int x1)), none, some (.inl (.int x3))], [], w)
noncomputable def q_X12_field_58 (w : XW) : Option XR := ev bs_X12_field 58 ([none, none, none, none], [], w)
noncomputable def q_X12_field_62 (x1 : Int32) (x3 : Int32) (w : XW) : Option XR := ev bs_X12_field 62 ([some (.inr (11, 0)), some (.inl (.int x1)), none, some (.inl (.int x3))], [], w)
noncomputable def q_X12_field_68 (s0 : Int32) (w : XW) : Option XR := ev bs_X12_field 68 ([none, none, none, none], [.inl (.int s0)], w)
theorem e_X12_field_0 (x1 : Int32) (x2 : Int32) (w : XW) : q_X12_field_0 x1 x2 w = ((F_X12_isField [.inr (11, 0), .inl (.int x1)] w).bind fun r0 => (bif decide (r0.1 = 0) then (q_X12_field_20 r0.2) else (q_X12_field_8 x1 x2 r0.2))) := (ev_eq _ _ _).trans rfl
theorem e_X12_field_8 (x1 : Int32) (x2 : Int32) (w : XW) : q_X12_field_8 x1 x2 w = ((F_X12_in [.inl (.long (x2 : Int32).toInt64), .inl (.long 0), .inl (.long 2)] w).bind fun r0 => (bif decide (¬ r0.1 = 0) then (q_X12_field_23 x1 x2 r0.2) else (q_X12_field_20 r0.2))) := (ev_eq _ _ _).trans rfl
theorem e_X12_field_20 (w : XW) : q_X12_field_20 w = (some (some (.inl (.int (-2))), w)) := (ev_eq _ _ _).trans rfl
theorem e_X12_field_23 (x1 : Int32) (x2 : Int32) (w : XW) : q_X12_field_23 x1 x2 w = ((F_X12_keepIn [.inr (11, 0), .inl (.int x1)] w).bind fun r0 => (bif decide (¬ x2 = 0) then (q_X12_field_45 x1 x2 r0.1 r0.2) else (q_X12_field_33 x1 r0.2))) := (ev_eq _ _ _).trans rfl
theorem e_X12_field_33 (x1 : Int32) (w : XW) : q_X12_field_33 x1 w = (if (57 + x1) < 0 ∨ 98 ≤ (57 + x1).toNatClampNeg then none else (q_X12_field_68 (gI w 50 0 (57 + x1).toNatClampNeg) w)) := (ev_eq _ _ _).trans rfl
theorem e_X12_field_45 (x1 : Int32) (x2 : Int32) (x3 : Int32) (w : XW) : q_X12_field_45 x1 x2 x3 w = (bif decide (¬ x2 = 1) then (q_X12_field_54 x1 x3 w) else (q_X12_field_50 x3 w)) := (ev_eq _ _ _).trans rfl
theorem e_X12_field_50 (x3 : Int32) (w : XW) : q_X12_field_50 x3 w = (q_X12_field_68 x3 w) := (ev_eq _ _ _).trans rfl
theorem e_X12_field_54 (x1 : Int32) (x3 : Int32) (w : XW) : q_X12_field_54 x1 x3 w = (bif decide (0 ≤ x3) then (q_X12_field_62 x1 x3 w) else (q_X12_field_58 w)) := (ev_eq _ _ _).trans rfl
theorem e_X12_field_58 (w : XW) : q_X12_field_58 w = (q_X12_field_68 0 w) := (ev_eq _ _ _).trans rfl
theorem e_X12_field_62 (x1 : Int32) (x3 : Int32) (w : XW) : q_X12_field_62 x1 x3 w = ((F_X12_keptOffBy [.inr (11, 0), .inl (.int x3), .inl (.int x1)] w).bind fun r0 => (q_X12_field_68 r0.1 r0.2)) := (ev_eq _ _ _).trans rfl
theorem e_X12_field_68 (s0 : Int32) (w : XW) : q_X12_field_68 s0 w = (some (some (.inl (.int s0)), w)) := (ev_eq _ _ _).trans rfl
theorem f_X12_field (x1 : Int32) (x2 : Int32) (w : XW) : F_X12_field [.inr (11, 0), .inl (.int x1), .inl (.int x2)] w = (q_X12_field_0 x1 x2 w).bind pI := rfl

-- WinterKeepModel.summedBy(I)J
theorem dX12_summedBy_0 : decode cX12_summedBy 0 = .ok (.iconst 0, 1) := by decide +kernel
theorem dX12_summedBy_1 : decode cX12_summedBy 1 = .ok (.istore_n 2, 1) := by decide +kernel
theorem dX12_summedBy_2 : decode cX12_summedBy 2 = .ok (.iload_n 2, 1) := by decide +kernel
theorem dX12_summedBy_3 : decode cX12_summedBy 3 = .ok (.aload_n 0, 1) := by decide +kernel
theorem dX12_summedBy_4 : decode cX12_summedBy 4 = .ok (.getfield 23, 3) := by decide +kernel
theorem dX12_summedBy_7 : decode cX12_summedBy 7 = .ok (.iload_n 1, 1) := by decide +kernel
theorem dX12_summedBy_8 : decode cX12_summedBy 8 = .ok (.iaload, 1) := by decide +kernel
theorem dX12_summedBy_9 : decode cX12_summedBy 9 = .ok (.if_icmp .ge 75, 3) := by decide +kernel
theorem dX12_summedBy_12 : decode cX12_summedBy 12 = .ok (.bipush 48, 2) := by decide +kernel
theorem dX12_summedBy_14 : decode cX12_summedBy 14 = .ok (.iload_n 1, 1) := by decide +kernel
theorem dX12_summedBy_15 : decode cX12_summedBy 15 = .ok (.imul, 1) := by decide +kernel
theorem dX12_summedBy_16 : decode cX12_summedBy 16 = .ok (.iconst 4, 1) := by decide +kernel
theorem dX12_summedBy_17 : decode cX12_summedBy 17 = .ok (.iload_n 2, 1) := by decide +kernel
theorem dX12_summedBy_18 : decode cX12_summedBy 18 = .ok (.imul, 1) := by decide +kernel
theorem dX12_summedBy_19 : decode cX12_summedBy 19 = .ok (.iadd, 1) := by decide +kernel
theorem dX12_summedBy_20 : decode cX12_summedBy 20 = .ok (.istore_n 3, 1) := by decide +kernel
theorem dX12_summedBy_21 : decode cX12_summedBy 21 = .ok (.aload_n 0, 1) := by decide +kernel
theorem dX12_summedBy_22 : decode cX12_summedBy 22 = .ok (.getfield 20, 3) := by decide +kernel
theorem dX12_summedBy_25 : decode cX12_summedBy 25 = .ok (.iload_n 3, 1) := by decide +kernel
theorem dX12_summedBy_26 : decode cX12_summedBy 26 = .ok (.iconst 2, 1) := by decide +kernel
theorem dX12_summedBy_27 : decode cX12_summedBy 27 = .ok (.iadd, 1) := by decide +kernel
theorem dX12_summedBy_28 : decode cX12_summedBy 28 = .ok (.iaload, 1) := by decide +kernel
theorem dX12_summedBy_29 : decode cX12_summedBy 29 = .ok (.ifCond .lt 29, 3) := by decide +kernel
theorem dX12_summedBy_32 : decode cX12_summedBy 32 = .ok (.aload_n 0, 1) := by decide +kernel
theorem dX12_summedBy_33 : decode cX12_summedBy 33 = .ok (.iload_n 1, 1) := by decide +kernel
theorem dX12_summedBy_34 : decode cX12_summedBy 34 = .ok (.aload_n 0, 1) := by decide +kernel
theorem dX12_summedBy_35 : decode cX12_summedBy 35 = .ok (.getfield 20, 3) := by decide +kernel
theorem dX12_summedBy_38 : decode cX12_summedBy 38 = .ok (.iload_n 3, 1) := by decide +kernel
theorem dX12_summedBy_39 : decode cX12_summedBy 39 = .ok (.iconst 2, 1) := by decide +kernel
theorem dX12_summedBy_40 : decode cX12_summedBy 40 = .ok (.iadd, 1) := by decide +kernel
theorem dX12_summedBy_41 : decode cX12_summedBy 41 = .ok (.iaload, 1) := by decide +kernel
theorem dX12_summedBy_42 : decode cX12_summedBy 42 = .ok (.aload_n 0, 1) := by decide +kernel
theorem dX12_summedBy_43 : decode cX12_summedBy 43 = .ok (.getfield 20, 3) := by decide +kernel
theorem dX12_summedBy_46 : decode cX12_summedBy 46 = .ok (.iload_n 3, 1) := by decide +kernel
theorem dX12_summedBy_47 : decode cX12_summedBy 47 = .ok (.iconst 3, 1) := by decide +kernel
theorem dX12_summedBy_48 : decode cX12_summedBy 48 = .ok (.iadd, 1) := by decide +kernel
theorem dX12_summedBy_49 : decode cX12_summedBy 49 = .ok (.iaload, 1) := by decide +kernel
theorem dX12_summedBy_50 : decode cX12_summedBy 50 = .ok (.invokevirtual 331, 3) := by decide +kernel
theorem dX12_summedBy_53 : decode cX12_summedBy 53 = .ok (.lconst 1, 1) := by decide +kernel
theorem dX12_summedBy_54 : decode cX12_summedBy 54 = .ok (.lcmp, 1) := by decide +kernel
theorem dX12_summedBy_55 : decode cX12_summedBy 55 = .ok (.ifCond .ne 23, 3) := by decide +kernel
theorem dX12_summedBy_58 : decode cX12_summedBy 58 = .ok (.aload_n 0, 1) := by decide +kernel
theorem dX12_summedBy_59 : decode cX12_summedBy 59 = .ok (.iload_n 1, 1) := by decide +kernel
theorem dX12_summedBy_60 : decode cX12_summedBy 60 = .ok (.aload_n 0, 1) := by decide +kernel
theorem dX12_summedBy_61 : decode cX12_summedBy 61 = .ok (.getfield 20, 3) := by decide +kernel
theorem dX12_summedBy_64 : decode cX12_summedBy 64 = .ok (.iload_n 3, 1) := by decide +kernel
theorem dX12_summedBy_65 : decode cX12_summedBy 65 = .ok (.iaload, 1) := by decide +kernel
theorem dX12_summedBy_66 : decode cX12_summedBy 66 = .ok (.aload_n 0, 1) := by decide +kernel
theorem dX12_summedBy_67 : decode cX12_summedBy 67 = .ok (.getfield 20, 3) := by decide +kernel
theorem dX12_summedBy_70 : decode cX12_summedBy 70 = .ok (.iload_n 3, 1) := by decide +kernel
theorem dX12_summedBy_71 : decode cX12_summedBy 71 = .ok (.iconst 1, 1) := by decide +kernel
theorem dX12_summedBy_72 : decode cX12_summedBy 72 = .ok (.iadd, 1) := by decide +kernel
theorem dX12_summedBy_73 : decode cX12_summedBy 73 = .ok (.iaload, 1) := by decide +kernel
theorem dX12_summedBy_74 : decode cX12_summedBy 74 = .ok (.invokevirtual 331, 3) := by decide +kernel
theorem dX12_summedBy_77 : decode cX12_summedBy 77 = .ok (.lreturn, 1) := by decide +kernel
theorem dX12_summedBy_78 : decode cX12_summedBy 78 = .ok (.iinc 2 1, 3) := by decide +kernel
theorem dX12_summedBy_81 : decode cX12_summedBy 81 = .ok (.goto (-79), 3) := by decide +kernel
theorem dX12_summedBy_84 : decode cX12_summedBy 84 = .ok (.lconst 0, 1) := by decide +kernel
theorem dX12_summedBy_85 : decode cX12_summedBy 85 = .ok (.lreturn, 1) := by decide +kernel
theorem vc_X12_331 : XVw RX12 331 3 11 11 yX12_reckons cX12_reckons (some .long) := ⟨RX12, TX12, tyX12, 43, xk_11, rfl, ⟨by decide, by decide⟩, by decide +kernel, wt_1364, wt_1366, ws_89, wt_11, wt_1367⟩
noncomputable def bs_X12_summedBy : List (Nat × XB) := [
  (0, (sq (xC (.int 0)) (sq (xSI 2) (tGo 2 [true, true, true, false])))),
  (2, (sq (xLI 2) (sq (xLA 0) (sq (xGS 11 45 1 0) (sq (xLI 1) (sq (xAI 45 6) (tIf2 (fun x y => decide (y ≤ x)) 84 [false, false, false, false] 12 [true, true, true, false]))))))),
  (12, (sq (xC (.int 48)) (sq (xLI 1) (sq (xI2 (· * ·)) (sq (xC (.int 4)) (sq (xLI 2) (sq (xI2 (· * ·)) (sq (xI2 (· + ·)) (sq (xSI 3) (sq (xLA 0) (sq (xGS 11 44 1 0) (sq (xLI 3) (sq (xC (.int 2)) (sq (xI2 (· + ·)) (sq (xAI 44 288) (tIf1 (fun x => decide (x < 0)) 58 [true, true, false, true] 32 [true, true, true, true])))))))))))))))),
  (32, (sq (xLA 0) (sq (xLI 1) (sq (xLA 0) (sq (xGS 11 44 1 0) (sq (xLI 3) (sq (xC (.int 2)) (sq (xI2 (· + ·)) (sq (xAI 44 288) (sq (xLA 0) (sq (xGS 11 44 1 0) (sq (xLI 3) (sq (xC (.int 3)) (sq (xI2 (· + ·)) (sq (xAI 44 288) (sq (xCJ 11 4 F_X12_reckons) (sq (xC (.long 1)) (sq (xJcmp) (tIf1 (fun x => decide (¬ x = 0)) 78 [true, true, true, false] 58 [true, true, false, true]))))))))))))))))))),
  (58, (sq (xLA 0) (sq (xLI 1) (sq (xLA 0) (sq (xGS 11 44 1 0) (sq (xLI 3) (sq (xAI 44 288) (sq (xLA 0) (sq (xGS 11 44 1 0) (sq (xLI 3) (sq (xC (.int 1)) (sq (xI2 (· + ·)) (sq (xAI 44 288) (sq (xCJ 11 4 F_X12_reckons) tRJ)))))))))))))),
  (78, (sq (xInc 2 1) (tGo 2 [true, true, true, false]))),
  (84, (sq (xC (.long 0)) tRJ))]
set_option maxRecDepth 100000 in
set_option maxHeartbeats 4000000 in
theorem s_X12_summedBy : ∀ X : XCtx, XE X → X.2.2.1.1 = cX12_summedBy → X.2.2.1.2.1 = 4 → X.2.2.1.2.2.1 = yX12_summedBy.cls → X.2.2.1.2.2.2.1 = (some .long) → X.1.2.2.2.1 = { frames := 2, cells := 0, slots := 0, locals := 54 } → SndBs X bs_X12_summedBy := by
  rintro ⟨⟨p, l, e, R, s⟩, Y, ⟨cc, nL, own, ret, Ts⟩, Z⟩ hE h1 h2 h3 h4 h5
  dsimp only at h1 h2 h3 h4 h5
  subst h1 h2 h3 h4 h5
  exact ⟨(n_sq (n_iconst hE (by decide) dX12_summedBy_0) (n_sq (n_istore_n hE (show (2 : Nat) < 4 by decide) dX12_summedBy_1) n_fall)),
    (n_sq (n_iload_n hE dX12_summedBy_2) (n_sq (n_aload_n hE dX12_summedBy_3) (n_sq (n_getS hE xk_11 (k := 6) rfl (by decide) rfl wt_966 dX12_summedBy_4) (n_sq (n_iload_n hE dX12_summedBy_7) (n_sq (n_iald hE rfl (by decide) dX12_summedBy_8) (n_ifcge hE (by decide) dX12_summedBy_9)))))),
    (n_sq (n_bipush hE (by decide) dX12_summedBy_12) (n_sq (n_iload_n hE dX12_summedBy_14) (n_sq (n_imul hE dX12_summedBy_15) (n_sq (n_iconst hE (by decide) dX12_summedBy_16) (n_sq (n_iload_n hE dX12_summedBy_17) (n_sq (n_imul hE dX12_summedBy_18) (n_sq (n_iadd hE dX12_summedBy_19) (n_sq (n_istore_n hE (show (3 : Nat) < 4 by decide) dX12_summedBy_20) (n_sq (n_aload_n hE dX12_summedBy_21) (n_sq (n_getS hE xk_11 (k := 5) rfl (by decide) rfl wt_965 dX12_summedBy_22) (n_sq (n_iload_n hE dX12_summedBy_25) (n_sq (n_iconst hE (by decide) dX12_summedBy_26) (n_sq (n_iadd hE dX12_summedBy_27) (n_sq (n_iald hE rfl (by decide) dX12_summedBy_28) (n_iflt hE (by decide) dX12_summedBy_29))))))))))))))),
    (n_sq (n_aload_n hE dX12_summedBy_32) (n_sq (n_iload_n hE dX12_summedBy_33) (n_sq (n_aload_n hE dX12_summedBy_34) (n_sq (n_getS hE xk_11 (k := 5) rfl (by decide) rfl wt_965 dX12_summedBy_35) (n_sq (n_iload_n hE dX12_summedBy_38) (n_sq (n_iconst hE (by decide) dX12_summedBy_39) (n_sq (n_iadd hE dX12_summedBy_40) (n_sq (n_iald hE rfl (by decide) dX12_summedBy_41) (n_sq (n_aload_n hE dX12_summedBy_42) (n_sq (n_getS hE xk_11 (k := 5) rfl (by decide) rfl wt_965 dX12_summedBy_43) (n_sq (n_iload_n hE dX12_summedBy_46) (n_sq (n_iconst hE (by decide) dX12_summedBy_47) (n_sq (n_iadd hE dX12_summedBy_48) (n_sq (n_iald hE rfl (by decide) dX12_summedBy_49) (n_sq (n_cJv hE m_X12_reckons vc_X12_331 (show 1 + 1 ≤ 2 ∧ 8 + (11 + 11) + 24 ≤ 54 by decide) dX12_summedBy_50) (n_sq (n_lconst hE (by decide) dX12_summedBy_53) (n_sq (n_lcmp hE dX12_summedBy_54) (n_ifne hE (by decide) dX12_summedBy_55)))))))))))))))))),
    (n_sq (n_aload_n hE dX12_summedBy_58) (n_sq (n_iload_n hE dX12_summedBy_59) (n_sq (n_aload_n hE dX12_summedBy_60) (n_sq (n_getS hE xk_11 (k := 5) rfl (by decide) rfl wt_965 dX12_summedBy_61) (n_sq (n_iload_n hE dX12_summedBy_64) (n_sq (n_iald hE rfl (by decide) dX12_summedBy_65) (n_sq (n_aload_n hE dX12_summedBy_66) (n_sq (n_getS hE xk_11 (k := 5) rfl (by decide) rfl wt_965 dX12_summedBy_67) (n_sq (n_iload_n hE dX12_summedBy_70) (n_sq (n_iconst hE (by decide) dX12_summedBy_71) (n_sq (n_iadd hE dX12_summedBy_72) (n_sq (n_iald hE rfl (by decide) dX12_summedBy_73) (n_sq (n_cJv hE m_X12_reckons vc_X12_331 (show 1 + 1 ≤ 2 ∧ 8 + (11 + 11) + 24 ≤ 54 by decide) dX12_summedBy_74) (n_lreturn hE rfl dX12_summedBy_77)))))))))))))),
    (n_sq (n_iinc hE (by decide) (show (2 : Nat) < 4 by decide) dX12_summedBy_78) (n_goto hE (by decide) dX12_summedBy_81)),
    (n_sq (n_lconst hE (by decide) dX12_summedBy_84) (n_lreturn hE rfl dX12_summedBy_85)), trivial⟩
noncomputable def F_X12_summedBy (as : List XV) (w : XW) : Option (Int64 × XW) := (xF 4 bs_X12_summedBy as w).bind pJ
theorem m_X12_summedBy : XM yX12_summedBy cX12_summedBy 4 (some .long) 2 54 (eJ F_X12_summedBy) := xm_J (xm_of (by decide) s_X12_summedBy)
noncomputable def q_X12_summedBy_0 (x1 : Int32) (w : XW) : Option XR := ev bs_X12_summedBy 0 ([some (.inr (11, 0)), some (.inl (.int x1)), none, none], [], w)
noncomputable def q_X12_summedBy_2 (x1 : Int32) (x2 : Int32) (w : XW) : Option XR := ev bs_X12_summedBy 2 ([some (.inr (11, 0)), some (.inl (.int x1)), some (.inl (.int x2)), none], [], w)
noncomputable def q_X12_summedBy_12 (x1 : Int32) (x2 : Int32) (w : XW) : Option XR := ev bs_X12_summedBy 12 ([some (.inr (11, 0)), some (.inl (.int x1)), some (.inl (.int x2)), none], [], w)
noncomputable def q_X12_summedBy_32 (x1 : Int32) (x2 : Int32) (x3 : Int32) (w : XW) : Option XR := ev bs_X12_summedBy 32 ([some (.inr (11, 0)), some (.inl (.int x1)), some (.inl (.int x2)), some (.inl (.int x3))], [], w)
noncomputable def q_X12_summedBy_58 (x1 : Int32) (x3 : Int32) (w : XW) : Option XR := ev bs_X12_summedBy 58 ([some (.inr (11, 0)), some (.inl (.int x1)), none, some (.inl (.int x3))], [], w)
noncomputable def q_X12_summedBy_78 (x1 : Int32) (x2 : Int32) (w : XW) : Option XR := ev bs_X12_summedBy 78 ([some (.inr (11, 0)), some (.inl (.int x1)), some (.inl (.int x2)), none], [], w)
noncomputable def q_X12_summedBy_84 (w : XW) : Option XR := ev bs_X12_summedBy 84 ([none, none, none, none], [], w)
theorem e_X12_summedBy_0 (x1 : Int32) (w : XW) : q_X12_summedBy_0 x1 w = (q_X12_summedBy_2 x1 0 w) := (ev_eq _ _ _).trans rfl
theorem e_X12_summedBy_2 (x1 : Int32) (x2 : Int32) (w : XW) : q_X12_summedBy_2 x1 x2 w = (if x1 < 0 ∨ 6 ≤ x1.toNatClampNeg then none else (bif decide ((gI w 45 0 x1.toNatClampNeg) ≤ x2) then (q_X12_summedBy_84 w) else (q_X12_summedBy_12 x1 x2 w))) := (ev_eq _ _ _).trans rfl
theorem e_X12_summedBy_12 (x1 : Int32) (x2 : Int32) (w : XW) : q_X12_summedBy_12 x1 x2 w = (if (((48 * x1) + (4 * x2)) + 2) < 0 ∨ 288 ≤ (((48 * x1) + (4 * x2)) + 2).toNatClampNeg then none else (bif decide ((gI w 44 0 (((48 * x1) + (4 * x2)) + 2).toNatClampNeg) < 0) then (q_X12_summedBy_58 x1 ((48 * x1) + (4 * x2)) w) else (q_X12_summedBy_32 x1 x2 ((48 * x1) + (4 * x2)) w))) := (ev_eq _ _ _).trans rfl
theorem e_X12_summedBy_32 (x1 : Int32) (x2 : Int32) (x3 : Int32) (w : XW) : q_X12_summedBy_32 x1 x2 x3 w = (if (x3 + 2) < 0 ∨ 288 ≤ (x3 + 2).toNatClampNeg then none else (if (x3 + 3) < 0 ∨ 288 ≤ (x3 + 3).toNatClampNeg then none else ((F_X12_reckons [.inr (11, 0), .inl (.int x1), .inl (.int (gI w 44 0 (x3 + 2).toNatClampNeg)), .inl (.int (gI w 44 0 (x3 + 3).toNatClampNeg))] w).bind fun r0 => (bif decide (¬ (lg_cmp r0.1 1) = 0) then (q_X12_summedBy_78 x1 x2 r0.2) else (q_X12_summedBy_58 x1 x3 r0.2))))) := (ev_eq _ _ _).trans rfl
theorem e_X12_summedBy_58 (x1 : Int32) (x3 : Int32) (w : XW) : q_X12_summedBy_58 x1 x3 w = (if x3 < 0 ∨ 288 ≤ x3.toNatClampNeg then none else (if (x3 + 1) < 0 ∨ 288 ≤ (x3 + 1).toNatClampNeg then none else ((F_X12_reckons [.inr (11, 0), .inl (.int x1), .inl (.int (gI w 44 0 x3.toNatClampNeg)), .inl (.int (gI w 44 0 (x3 + 1).toNatClampNeg))] w).bind fun r0 => (some (some (.inl (.long r0.1)), r0.2))))) := (ev_eq _ _ _).trans rfl
theorem e_X12_summedBy_78 (x1 : Int32) (x2 : Int32) (w : XW) : q_X12_summedBy_78 x1 x2 w = (q_X12_summedBy_2 x1 (x2 + 1) w) := (ev_eq _ _ _).trans rfl
theorem e_X12_summedBy_84 (w : XW) : q_X12_summedBy_84 w = (some (some (.inl (.long 0)), w)) := (ev_eq _ _ _).trans rfl
theorem f_X12_summedBy (x1 : Int32) (w : XW) : F_X12_summedBy [.inr (11, 0), .inl (.int x1)] w = (q_X12_summedBy_0 x1 w).bind pJ := rfl
