-- WinterKeep.apart(I)I
theorem dX11_apart_0 : decode cX11_apart 0 = .ok (.aload_n 0, 1) := by decide +kernel
theorem dX11_apart_1 : decode cX11_apart 1 = .ok (.getfield 39, 3) := by decide +kernel
theorem dX11_apart_4 : decode cX11_apart 4 = .ok (.getfield 227, 3) := by decide +kernel
theorem dX11_apart_7 : decode cX11_apart 7 = .ok (.ifCond .eq 12, 3) := by decide +kernel
theorem dX11_apart_10 : decode cX11_apart 10 = .ok (.iload_n 1, 1) := by decide +kernel
theorem dX11_apart_11 : decode cX11_apart 11 = .ok (.iconst (-1), 1) := by decide +kernel
theorem dX11_apart_12 : decode cX11_apart 12 = .ok (.iconst 5, 1) := by decide +kernel
theorem dX11_apart_13 : decode cX11_apart 13 = .ok (.invokestatic 170, 3) := by decide +kernel
theorem dX11_apart_16 : decode cX11_apart 16 = .ok (.ifCond .ne 6, 3) := by decide +kernel
theorem dX11_apart_19 : decode cX11_apart 19 = .ok (.bipush (-3), 2) := by decide +kernel
theorem dX11_apart_21 : decode cX11_apart 21 = .ok (.ireturn, 1) := by decide +kernel
theorem dX11_apart_22 : decode cX11_apart 22 = .ok (.iload_n 1, 1) := by decide +kernel
theorem dX11_apart_23 : decode cX11_apart 23 = .ok (.iconst (-1), 1) := by decide +kernel
theorem dX11_apart_24 : decode cX11_apart 24 = .ok (.if_icmp .eq 14, 3) := by decide +kernel
theorem dX11_apart_27 : decode cX11_apart 27 = .ok (.aload_n 0, 1) := by decide +kernel
theorem dX11_apart_28 : decode cX11_apart 28 = .ok (.iload_n 1, 1) := by decide +kernel
theorem dX11_apart_29 : decode cX11_apart 29 = .ok (.invokevirtual 145, 3) := by decide +kernel
theorem dX11_apart_32 : decode cX11_apart 32 = .ok (.ifCond .ne 6, 3) := by decide +kernel
theorem dX11_apart_35 : decode cX11_apart 35 = .ok (.bipush (-2), 2) := by decide +kernel
theorem dX11_apart_37 : decode cX11_apart 37 = .ok (.ireturn, 1) := by decide +kernel
theorem dX11_apart_38 : decode cX11_apart 38 = .ok (.aload_n 0, 1) := by decide +kernel
theorem dX11_apart_39 : decode cX11_apart 39 = .ok (.getfield 70, 3) := by decide +kernel
theorem dX11_apart_42 : decode cX11_apart 42 = .ok (.aload_n 0, 1) := by decide +kernel
theorem dX11_apart_43 : decode cX11_apart 43 = .ok (.getfield 46, 3) := by decide +kernel
theorem dX11_apart_46 : decode cX11_apart 46 = .ok (.invokevirtual 267, 3) := by decide +kernel
theorem dX11_apart_49 : decode cX11_apart 49 = .ok (.istore_n 2, 1) := by decide +kernel
theorem dX11_apart_50 : decode cX11_apart 50 = .ok (.iload_n 1, 1) := by decide +kernel
theorem dX11_apart_51 : decode cX11_apart 51 = .ok (.iconst (-1), 1) := by decide +kernel
theorem dX11_apart_52 : decode cX11_apart 52 = .ok (.if_icmp .ne 7, 3) := by decide +kernel
theorem dX11_apart_55 : decode cX11_apart 55 = .ok (.iload_n 2, 1) := by decide +kernel
theorem dX11_apart_56 : decode cX11_apart 56 = .ok (.goto 12, 3) := by decide +kernel
theorem dX11_apart_59 : decode cX11_apart 59 = .ok (.aload_n 0, 1) := by decide +kernel
theorem dX11_apart_60 : decode cX11_apart 60 = .ok (.getfield 70, 3) := by decide +kernel
theorem dX11_apart_63 : decode cX11_apart 63 = .ok (.getfield 270, 3) := by decide +kernel
theorem dX11_apart_66 : decode cX11_apart 66 = .ok (.iload_n 1, 1) := by decide +kernel
theorem dX11_apart_67 : decode cX11_apart 67 = .ok (.iaload, 1) := by decide +kernel
theorem dX11_apart_68 : decode cX11_apart 68 = .ok (.ireturn, 1) := by decide +kernel
theorem vc_X11_267 : XVw RX11 267 1 0 3 yX0_fewest cX0_fewest (some .int) := ⟨RX0, TX0, tyX0, 1, xk_0, rfl, ⟨by decide, by decide⟩, by decide +kernel, wt_807, wt_808, wt_809, wt_8, wt_810⟩
noncomputable def bs_X11_apart : List (Nat × XB) := [
  (0, (sq (xLA 0) (sq (xGD 10 5 1) (sq (xGI 1 0) (tIf1 (fun x => decide (x = 0)) 19 [false, false, false] 10 [true, true, false]))))),
  (10, (sq (xLI 1) (sq (xC (.int (-1))) (sq (xC (.int 5)) (sq (xCI 99 3 F_X11_within) (tIf1 (fun x => decide (¬ x = 0)) 22 [true, true, false] 19 [false, false, false])))))),
  (19, (sq (xC (.int (-3))) tRI)),
  (22, (sq (xLI 1) (sq (xC (.int (-1))) (tIf2 (fun x y => decide (x = y)) 38 [true, true, false] 27 [true, true, false])))),
  (27, (sq (xLA 0) (sq (xLI 1) (sq (xCI 10 2 F_X11_isKeep) (tIf1 (fun x => decide (¬ x = 0)) 38 [true, true, false] 35 [false, false, false]))))),
  (35, (sq (xC (.int (-2))) tRI)),
  (38, (sq (xLA 0) (sq (xGS 10 0 1 0) (sq (xLA 0) (sq (xGS 10 8 1 0) (sq (xCI 0 2 F_X0_fewest) (sq (xSI 2) (sq (xLI 1) (sq (xC (.int (-1))) (tIf2 (fun x y => decide (¬ x = y)) 59 [true, true, false] 55 [false, false, true])))))))))),
  (55, (sq (xLI 2) (tGo 68 [false, false, false]))),
  (59, (sq (xLA 0) (sq (xGS 10 0 1 0) (sq (xGS 0 12 0 0) (sq (xLI 1) (sq (xAI 12 6) (tGo 68 [false, false, false]))))))),
  (68, tRI)]
set_option maxRecDepth 100000 in
set_option maxHeartbeats 4000000 in
theorem s_X11_apart : ∀ X : XCtx, XE X → X.2.2.1.1 = cX11_apart → X.2.2.1.2.1 = 3 → X.2.2.1.2.2.1 = yX11_apart.cls → X.2.2.1.2.2.2.1 = (some .int) → X.1.2.2.2.1 = { frames := 10, cells := 0, slots := 0, locals := 238 } → SndBs X bs_X11_apart := by
  rintro ⟨⟨p, l, e, R, s⟩, Y, ⟨cc, nL, own, ret, Ts⟩, Z⟩ hE h1 h2 h3 h4 h5
  dsimp only at h1 h2 h3 h4 h5
  subst h1 h2 h3 h4 h5
  exact ⟨(n_sq (n_aload_n hE dX11_apart_0) (n_sq (n_getD hE xk_10 (k := 5) rfl (by decide) rfl wt_321 dX11_apart_1) (n_sq (n_getI hE xk_1 (k := 0) rfl (by decide) rfl wt_96 dX11_apart_4) (n_ifeq hE (by decide) dX11_apart_7)))),
    (n_sq (n_iload_n hE dX11_apart_10) (n_sq (n_iconst hE (by decide) dX11_apart_11) (n_sq (n_iconst hE (by decide) dX11_apart_12) (n_sq (n_cIs hE m_X11_within vc_X11_170 (show 0 + 1 ≤ 10 ∧ 8 + (3 + 11) + 0 ≤ 238 by decide) dX11_apart_13) (n_ifne hE (by decide) dX11_apart_16))))),
    (n_sq (n_bipush hE (by decide) dX11_apart_19) (n_ireturn hE rfl dX11_apart_21)),
    (n_sq (n_iload_n hE dX11_apart_22) (n_sq (n_iconst hE (by decide) dX11_apart_23) (n_ifceq hE (by decide) dX11_apart_24))),
    (n_sq (n_aload_n hE dX11_apart_27) (n_sq (n_iload_n hE dX11_apart_28) (n_sq (n_cIv hE m_X11_isKeep vc_X11_145 (show 1 + 1 ≤ 10 ∧ 8 + (2 + 11) + 22 ≤ 238 by decide) dX11_apart_29) (n_ifne hE (by decide) dX11_apart_32)))),
    (n_sq (n_bipush hE (by decide) dX11_apart_35) (n_ireturn hE rfl dX11_apart_37)),
    (n_sq (n_aload_n hE dX11_apart_38) (n_sq (n_getS hE xk_10 (k := 10) rfl (by decide) rfl wt_326 dX11_apart_39) (n_sq (n_aload_n hE dX11_apart_42) (n_sq (n_getS hE xk_10 (k := 6) rfl (by decide) rfl wt_322 dX11_apart_43) (n_sq (n_cIv hE m_X0_fewest vc_X11_267 (show 9 + 1 ≤ 10 ∧ 8 + (3 + 11) + 216 ≤ 238 by decide) dX11_apart_46) (n_sq (n_istore_n hE (show (2 : Nat) < 3 by decide) dX11_apart_49) (n_sq (n_iload_n hE dX11_apart_50) (n_sq (n_iconst hE (by decide) dX11_apart_51) (n_ifcne hE (by decide) dX11_apart_52))))))))),
    (n_sq (n_iload_n hE dX11_apart_55) (n_goto hE (by decide) dX11_apart_56)),
    (n_sq (n_aload_n hE dX11_apart_59) (n_sq (n_getS hE xk_10 (k := 10) rfl (by decide) rfl wt_326 dX11_apart_60) (n_sq (n_getS hE xk_0 (k := 0) rfl (by decide) rfl wt_255 dX11_apart_63) (n_sq (n_iload_n hE dX11_apart_66) (n_sq (n_iald hE rfl (by decide) dX11_apart_67) n_fall))))),
    (n_ireturn hE rfl dX11_apart_68), trivial⟩
noncomputable def F_X11_apart (as : List XV) (w : XW) : Option (Int32 × XW) := (xF 3 bs_X11_apart as w).bind pI
theorem m_X11_apart : XM yX11_apart cX11_apart 3 (some .int) 10 238 (eI F_X11_apart) := xm_I (xm_of (by decide) s_X11_apart)
noncomputable def q_X11_apart_0 (x1 : Int32) (w : XW) : Option XR := ev bs_X11_apart 0 ([some (.inr (10, 0)), some (.inl (.int x1)), none], [], w)
noncomputable def q_X11_apart_10 (x1 : Int32) (w : XW) : Option XR := ev bs_X11_apart 10 ([some (.inr (10, 0)), some (.inl (.int x1)), none], [], w)
noncomputable def q_X11_apart_19 (w : XW) : Option XR := ev bs_X11_apart 19 ([none, none, none], [], w)
noncomputable def q_X11_apart_22 (x1 : Int32) (w : XW) : Option XR := ev bs_X11_apart 22 ([some (.inr (10, 0)), some (.inl (.int x1)), none], [], w)
noncomputable def q_X11_apart_27 (x1 : Int32) (w : XW) : Option XR := ev bs_X11_apart 27 ([some (.inr (10, 0)), some (.inl (.int x1)), none], [], w)
noncomputable def q_X11_apart_35 (w : XW) : Option XR := ev bs_X11_apart 35 ([none, none, none], [], w)
noncomputable def q_X11_apart_38 (x1 : Int32) (w : XW) : Option XR := ev bs_X11_apart 38 ([some (.inr (10, 0)), some (.inl (.int x1)), none], [], w)
noncomputable def q_X11_apart_55 (x2 : Int32) (w : XW) : Option XR := ev bs_X11_apart 55 ([none, none, some (.inl (.int x2))], [], w)
noncomputable def q_X11_apart_59 (x1 : Int32) (w : XW) : Option XR := ev bs_X11_apart 59 ([some (.inr (10, 0)), some (.inl (.int x1)), none], [], w)
noncomputable def q_X11_apart_68 (s0 : Int32) (w : XW) : Option XR := ev bs_X11_apart 68 ([none, none, none], [.inl (.int s0)], w)
theorem e_X11_apart_0 (x1 : Int32) (w : XW) : q_X11_apart_0 x1 w = ((gR w 10 0 5).bind fun j0 => (bif decide ((gI w 1 j0 0) = 0) then (q_X11_apart_19 w) else (q_X11_apart_10 x1 w))) := (ev_eq _ _ _).trans rfl
theorem e_X11_apart_10 (x1 : Int32) (w : XW) : q_X11_apart_10 x1 w = ((F_X11_within [.inl (.int x1), .inl (.int (-1)), .inl (.int 5)] w).bind fun r0 => (bif decide (¬ r0.1 = 0) then (q_X11_apart_22 x1 r0.2) else (q_X11_apart_19 r0.2))) := (ev_eq _ _ _).trans rfl
theorem e_X11_apart_19 (w : XW) : q_X11_apart_19 w = (some (some (.inl (.int (-3))), w)) := (ev_eq _ _ _).trans rfl
theorem e_X11_apart_22 (x1 : Int32) (w : XW) : q_X11_apart_22 x1 w = (bif decide (x1 = (-1)) then (q_X11_apart_38 x1 w) else (q_X11_apart_27 x1 w)) := (ev_eq _ _ _).trans rfl
theorem e_X11_apart_27 (x1 : Int32) (w : XW) : q_X11_apart_27 x1 w = ((F_X11_isKeep [.inr (10, 0), .inl (.int x1)] w).bind fun r0 => (bif decide (¬ r0.1 = 0) then (q_X11_apart_38 x1 r0.2) else (q_X11_apart_35 r0.2))) := (ev_eq _ _ _).trans rfl
theorem e_X11_apart_35 (w : XW) : q_X11_apart_35 w = (some (some (.inl (.int (-2))), w)) := (ev_eq _ _ _).trans rfl
theorem e_X11_apart_38 (x1 : Int32) (w : XW) : q_X11_apart_38 x1 w = ((F_X0_fewest [.inr (0, 0), .inr (8, 0)] w).bind fun r0 => (bif decide (¬ x1 = (-1)) then (q_X11_apart_59 x1 r0.2) else (q_X11_apart_55 r0.1 r0.2))) := (ev_eq _ _ _).trans rfl
theorem e_X11_apart_55 (x2 : Int32) (w : XW) : q_X11_apart_55 x2 w = (q_X11_apart_68 x2 w) := (ev_eq _ _ _).trans rfl
theorem e_X11_apart_59 (x1 : Int32) (w : XW) : q_X11_apart_59 x1 w = (if x1 < 0 ∨ 6 ≤ x1.toNatClampNeg then none else (q_X11_apart_68 (gI w 12 0 x1.toNatClampNeg) w)) := (ev_eq _ _ _).trans rfl
theorem e_X11_apart_68 (s0 : Int32) (w : XW) : q_X11_apart_68 s0 w = (some (some (.inl (.int s0)), w)) := (ev_eq _ _ _).trans rfl
theorem f_X11_apart (x1 : Int32) (w : XW) : F_X11_apart [.inr (10, 0), .inl (.int x1)] w = (q_X11_apart_0 x1 w).bind pI := rfl

-- WinterKeep$Benches.isClash(LWinterKeep$Scene;I)Z
theorem dX0_isClash_0 : decode cX0_isClash 0 = .ok (.iconst 0, 1) := by decide +kernel
theorem dX0_isClash_1 : decode cX0_isClash 1 = .ok (.istore_n 2, 1) := by decide +kernel
theorem dX0_isClash_2 : decode cX0_isClash 2 = .ok (.iload_n 2, 1) := by decide +kernel
theorem dX0_isClash_3 : decode cX0_isClash 3 = .ok (.aload_n 0, 1) := by decide +kernel
theorem dX0_isClash_4 : decode cX0_isClash 4 = .ok (.getfield 19, 3) := by decide +kernel
theorem dX0_isClash_7 : decode cX0_isClash 7 = .ok (.if_icmp .ge 38, 3) := by decide +kernel
theorem dX0_isClash_10 : decode cX0_isClash 10 = .ok (.iload_n 1, 1) := by decide +kernel
theorem dX0_isClash_11 : decode cX0_isClash 11 = .ok (.iload_n 2, 1) := by decide +kernel
theorem dX0_isClash_12 : decode cX0_isClash 12 = .ok (.ishr, 1) := by decide +kernel
theorem dX0_isClash_13 : decode cX0_isClash 13 = .ok (.iconst 1, 1) := by decide +kernel
theorem dX0_isClash_14 : decode cX0_isClash 14 = .ok (.iand, 1) := by decide +kernel
theorem dX0_isClash_15 : decode cX0_isClash 15 = .ok (.ifCond .eq 24, 3) := by decide +kernel
theorem dX0_isClash_18 : decode cX0_isClash 18 = .ok (.iload_n 1, 1) := by decide +kernel
theorem dX0_isClash_19 : decode cX0_isClash 19 = .ok (.aload_n 0, 1) := by decide +kernel
theorem dX0_isClash_20 : decode cX0_isClash 20 = .ok (.getfield 31, 3) := by decide +kernel
theorem dX0_isClash_23 : decode cX0_isClash 23 = .ok (.iload_n 2, 1) := by decide +kernel
theorem dX0_isClash_24 : decode cX0_isClash 24 = .ok (.iaload, 1) := by decide +kernel
theorem dX0_isClash_25 : decode cX0_isClash 25 = .ok (.iconst (-1), 1) := by decide +kernel
theorem dX0_isClash_26 : decode cX0_isClash 26 = .ok (.ixor, 1) := by decide +kernel
theorem dX0_isClash_27 : decode cX0_isClash 27 = .ok (.iand, 1) := by decide +kernel
theorem dX0_isClash_28 : decode cX0_isClash 28 = .ok (.iconst 1, 1) := by decide +kernel
theorem dX0_isClash_29 : decode cX0_isClash 29 = .ok (.iload_n 2, 1) := by decide +kernel
theorem dX0_isClash_30 : decode cX0_isClash 30 = .ok (.ishl, 1) := by decide +kernel
theorem dX0_isClash_31 : decode cX0_isClash 31 = .ok (.iconst (-1), 1) := by decide +kernel
theorem dX0_isClash_32 : decode cX0_isClash 32 = .ok (.ixor, 1) := by decide +kernel
theorem dX0_isClash_33 : decode cX0_isClash 33 = .ok (.iand, 1) := by decide +kernel
theorem dX0_isClash_34 : decode cX0_isClash 34 = .ok (.ifCond .eq 5, 3) := by decide +kernel
theorem dX0_isClash_37 : decode cX0_isClash 37 = .ok (.iconst 0, 1) := by decide +kernel
theorem dX0_isClash_38 : decode cX0_isClash 38 = .ok (.ireturn, 1) := by decide +kernel
theorem dX0_isClash_39 : decode cX0_isClash 39 = .ok (.iinc 2 1, 3) := by decide +kernel
theorem dX0_isClash_42 : decode cX0_isClash 42 = .ok (.goto (-40), 3) := by decide +kernel
theorem dX0_isClash_45 : decode cX0_isClash 45 = .ok (.iconst 1, 1) := by decide +kernel
theorem dX0_isClash_46 : decode cX0_isClash 46 = .ok (.ireturn, 1) := by decide +kernel
noncomputable def bs_X0_isClash : List (Nat × XB) := [
  (0, (sq (xC (.int 0)) (sq (xSI 2) (tGo 2 [true, true, true])))),
  (2, (sq (xLI 2) (sq (xLA 0) (sq (xGI 8 0) (tIf2 (fun x y => decide (y ≤ x)) 45 [false, false, false] 10 [true, true, true]))))),
  (10, (sq (xLI 1) (sq (xLI 2) (sq (xI2 (fun x y => x >>> (y &&& 31))) (sq (xC (.int 1)) (sq (xI2 (· &&& ·)) (tIf1 (fun x => decide (x = 0)) 39 [true, true, true] 18 [true, true, true]))))))),
  (18, (sq (xLI 1) (sq (xLA 0) (sq (xGS 8 33 0 0) (sq (xLI 2) (sq (xAI 33 6) (sq (xC (.int (-1))) (sq (xI2 (· ^^^ ·)) (sq (xI2 (· &&& ·)) (sq (xC (.int 1)) (sq (xLI 2) (sq (xI2 (fun x y => x <<< (y &&& 31))) (sq (xC (.int (-1))) (sq (xI2 (· ^^^ ·)) (sq (xI2 (· &&& ·)) (tIf1 (fun x => decide (x = 0)) 39 [true, true, true] 37 [false, false, false])))))))))))))))),
  (37, (sq (xC (.int 0)) tRZ)),
  (39, (sq (xInc 2 1) (tGo 2 [true, true, true]))),
  (45, (sq (xC (.int 1)) tRZ))]
set_option maxRecDepth 100000 in
set_option maxHeartbeats 4000000 in
theorem s_X0_isClash : ∀ X : XCtx, XE X → X.2.2.1.1 = cX0_isClash → X.2.2.1.2.1 = 3 → X.2.2.1.2.2.1 = yX0_isClash.cls → X.2.2.1.2.2.2.1 = (some .boolean) → X.1.2.2.2.1 = { frames := 0, cells := 0, slots := 0, locals := 0 } → SndBs X bs_X0_isClash := by
  rintro ⟨⟨p, l, e, R, s⟩, Y, ⟨cc, nL, own, ret, Ts⟩, Z⟩ hE h1 h2 h3 h4 h5
  dsimp only at h1 h2 h3 h4 h5
  subst h1 h2 h3 h4 h5
  exact ⟨(n_sq (n_iconst hE (by decide) dX0_isClash_0) (n_sq (n_istore_n hE (show (2 : Nat) < 3 by decide) dX0_isClash_1) n_fall)),
    (n_sq (n_iload_n hE dX0_isClash_2) (n_sq (n_aload_n hE dX0_isClash_3) (n_sq (n_getI hE xk_8 (k := 0) rfl (by decide) rfl wt_174 dX0_isClash_4) (n_ifcge hE (by decide) dX0_isClash_7)))),
    (n_sq (n_iload_n hE dX0_isClash_10) (n_sq (n_iload_n hE dX0_isClash_11) (n_sq (n_ishr hE dX0_isClash_12) (n_sq (n_iconst hE (by decide) dX0_isClash_13) (n_sq (n_iand hE dX0_isClash_14) (n_ifeq hE (by decide) dX0_isClash_15)))))),
    (n_sq (n_iload_n hE dX0_isClash_18) (n_sq (n_aload_n hE dX0_isClash_19) (n_sq (n_getS hE xk_8 (k := 5) rfl (by decide) rfl wt_193 dX0_isClash_20) (n_sq (n_iload_n hE dX0_isClash_23) (n_sq (n_iald hE rfl (by decide) dX0_isClash_24) (n_sq (n_iconst hE (by decide) dX0_isClash_25) (n_sq (n_ixor hE dX0_isClash_26) (n_sq (n_iand hE dX0_isClash_27) (n_sq (n_iconst hE (by decide) dX0_isClash_28) (n_sq (n_iload_n hE dX0_isClash_29) (n_sq (n_ishl hE dX0_isClash_30) (n_sq (n_iconst hE (by decide) dX0_isClash_31) (n_sq (n_ixor hE dX0_isClash_32) (n_sq (n_iand hE dX0_isClash_33) (n_ifeq hE (by decide) dX0_isClash_34))))))))))))))),
    (n_sq (n_iconst hE (by decide) dX0_isClash_37) (n_zreturn hE rfl dX0_isClash_38)),
    (n_sq (n_iinc hE (by decide) (show (2 : Nat) < 3 by decide) dX0_isClash_39) (n_goto hE (by decide) dX0_isClash_42)),
    (n_sq (n_iconst hE (by decide) dX0_isClash_45) (n_zreturn hE rfl dX0_isClash_46)), trivial⟩
noncomputable def F_X0_isClash (as : List XV) (w : XW) : Option (Int32 × XW) := (xF 3 bs_X0_isClash as w).bind pI
theorem m_X0_isClash : XM yX0_isClash cX0_isClash 3 (some .boolean) 0 0 (eI F_X0_isClash) := xm_I (xm_of (by decide) s_X0_isClash)
noncomputable def q_X0_isClash_0 (i0 : Nat) (x1 : Int32) (w : XW) : Option XR := ev bs_X0_isClash 0 ([some (.inr (8, i0)), some (.inl (.int x1)), none], [], w)
noncomputable def q_X0_isClash_2 (i0 : Nat) (x1 : Int32) (x2 : Int32) (w : XW) : Option XR := ev bs_X0_isClash 2 ([some (.inr (8, i0)), some (.inl (.int x1)), some (.inl (.int x2))], [], w)
noncomputable def q_X0_isClash_10 (i0 : Nat) (x1 : Int32) (x2 : Int32) (w : XW) : Option XR := ev bs_X0_isClash 10 ([some (.inr (8, i0)), some (.inl (.int x1)), some (.inl (.int x2))], [], w)
noncomputable def q_X0_isClash_18 (i0 : Nat) (x1 : Int32) (x2 : Int32) (w : XW) : Option XR := ev bs_X0_isClash 18 ([some (.inr (8, i0)), some (.inl (.int x1)), some (.inl (.int x2))], [], w)
noncomputable def q_X0_isClash_37 (w : XW) : Option XR := ev bs_X0_isClash 37 ([none, none, none], [], w)
noncomputable def q_X0_isClash_39 (i0 : Nat) (x1 : Int32) (x2 : Int32) (w : XW) : Option XR := ev bs_X0_isClash 39 ([some (.inr (8, i0)), some (.inl (.int x1)), some (.inl (.int x2))], [], w)
noncomputable def q_X0_isClash_45 (w : XW) : Option XR := ev bs_X0_isClash 45 ([none, none, none], [], w)
theorem e_X0_isClash_0 (i0 : Nat) (x1 : Int32) (w : XW) : q_X0_isClash_0 i0 x1 w = (q_X0_isClash_2 i0 x1 0 w) := (ev_eq _ _ _).trans rfl
theorem e_X0_isClash_2 (i0 : Nat) (x1 : Int32) (x2 : Int32) (w : XW) : q_X0_isClash_2 i0 x1 x2 w = (bif decide ((gI w 8 i0 0) ≤ x2) then (q_X0_isClash_45 w) else (q_X0_isClash_10 i0 x1 x2 w)) := (ev_eq _ _ _).trans rfl
theorem e_X0_isClash_10 (i0 : Nat) (x1 : Int32) (x2 : Int32) (w : XW) : q_X0_isClash_10 i0 x1 x2 w = (bif decide ((((x1 : Int32) >>> ((x2 : Int32) &&& 31)) &&& 1) = 0) then (q_X0_isClash_39 i0 x1 x2 w) else (q_X0_isClash_18 i0 x1 x2 w)) := (ev_eq _ _ _).trans rfl
theorem e_X0_isClash_18 (i0 : Nat) (x1 : Int32) (x2 : Int32) (w : XW) : q_X0_isClash_18 i0 x1 x2 w = (if x2 < 0 ∨ 6 ≤ x2.toNatClampNeg then none else (bif decide (((x1 &&& ((gI w 33 i0 x2.toNatClampNeg) ^^^ (-1))) &&& (((1 : Int32) <<< ((x2 : Int32) &&& 31)) ^^^ (-1))) = 0) then (q_X0_isClash_39 i0 x1 x2 w) else (q_X0_isClash_37 w))) := (ev_eq _ _ _).trans rfl
theorem e_X0_isClash_37 (w : XW) : q_X0_isClash_37 w = (some (some (.inl (.int 0)), w)) := (ev_eq _ _ _).trans rfl
theorem e_X0_isClash_39 (i0 : Nat) (x1 : Int32) (x2 : Int32) (w : XW) : q_X0_isClash_39 i0 x1 x2 w = (q_X0_isClash_2 i0 x1 (x2 + 1) w) := (ev_eq _ _ _).trans rfl
theorem e_X0_isClash_45 (w : XW) : q_X0_isClash_45 w = (some (some (.inl (.int 1)), w)) := (ev_eq _ _ _).trans rfl
theorem f_X0_isClash (i0 : Nat) (x1 : Int32) (w : XW) : F_X0_isClash [.inr (8, i0), .inl (.int x1)] w = (q_X0_isClash_0 i0 x1 w).bind pI := rfl

-- WinterKeep$Benches.largestClash(LWinterKeep$Scene;)I
theorem dX0_largestClash_0 : decode cX0_largestClash 0 = .ok (.aload_n 0, 1) := by decide +kernel
theorem dX0_largestClash_1 : decode cX0_largestClash 1 = .ok (.invokevirtual 34, 3) := by decide +kernel
theorem dX0_largestClash_4 : decode cX0_largestClash 4 = .ok (.istore_n 1, 1) := by decide +kernel
theorem dX0_largestClash_5 : decode cX0_largestClash 5 = .ok (.iconst 0, 1) := by decide +kernel
theorem dX0_largestClash_6 : decode cX0_largestClash 6 = .ok (.istore_n 2, 1) := by decide +kernel
theorem dX0_largestClash_7 : decode cX0_largestClash 7 = .ok (.iconst 1, 1) := by decide +kernel
theorem dX0_largestClash_8 : decode cX0_largestClash 8 = .ok (.istore_n 3, 1) := by decide +kernel
theorem dX0_largestClash_9 : decode cX0_largestClash 9 = .ok (.iload_n 3, 1) := by decide +kernel
theorem dX0_largestClash_10 : decode cX0_largestClash 10 = .ok (.iconst 1, 1) := by decide +kernel
theorem dX0_largestClash_11 : decode cX0_largestClash 11 = .ok (.aload_n 0, 1) := by decide +kernel
theorem dX0_largestClash_12 : decode cX0_largestClash 12 = .ok (.getfield 19, 3) := by decide +kernel
theorem dX0_largestClash_15 : decode cX0_largestClash 15 = .ok (.ishl, 1) := by decide +kernel
theorem dX0_largestClash_16 : decode cX0_largestClash 16 = .ok (.if_icmp .ge 48, 3) := by decide +kernel
theorem dX0_largestClash_19 : decode cX0_largestClash 19 = .ok (.iload_n 3, 1) := by decide +kernel
theorem dX0_largestClash_20 : decode cX0_largestClash 20 = .ok (.invokestatic 38, 3) := by decide +kernel
theorem dX0_largestClash_23 : decode cX0_largestClash 23 = .ok (.iload_n 2, 1) := by decide +kernel
theorem dX0_largestClash_24 : decode cX0_largestClash 24 = .ok (.invokestatic 38, 3) := by decide +kernel
theorem dX0_largestClash_27 : decode cX0_largestClash 27 = .ok (.if_icmp .le 7, 3) := by decide +kernel
theorem dX0_largestClash_30 : decode cX0_largestClash 30 = .ok (.iconst 1, 1) := by decide +kernel
theorem dX0_largestClash_31 : decode cX0_largestClash 31 = .ok (.goto 4, 3) := by decide +kernel
theorem dX0_largestClash_34 : decode cX0_largestClash 34 = .ok (.iconst 0, 1) := by decide +kernel
theorem dX0_largestClash_35 : decode cX0_largestClash 35 = .ok (.istore 4, 2) := by decide +kernel
theorem dX0_largestClash_37 : decode cX0_largestClash 37 = .ok (.iload 4, 2) := by decide +kernel
theorem dX0_largestClash_39 : decode cX0_largestClash 39 = .ok (.ifCond .eq 19, 3) := by decide +kernel
theorem dX0_largestClash_42 : decode cX0_largestClash 42 = .ok (.iload_n 3, 1) := by decide +kernel
theorem dX0_largestClash_43 : decode cX0_largestClash 43 = .ok (.iload_n 1, 1) := by decide +kernel
theorem dX0_largestClash_44 : decode cX0_largestClash 44 = .ok (.iand, 1) := by decide +kernel
theorem dX0_largestClash_45 : decode cX0_largestClash 45 = .ok (.ifCond .ne 13, 3) := by decide +kernel
theorem dX0_largestClash_48 : decode cX0_largestClash 48 = .ok (.aload_n 0, 1) := by decide +kernel
theorem dX0_largestClash_49 : decode cX0_largestClash 49 = .ok (.iload_n 3, 1) := by decide +kernel
theorem dX0_largestClash_50 : decode cX0_largestClash 50 = .ok (.invokestatic 44, 3) := by decide +kernel
theorem dX0_largestClash_53 : decode cX0_largestClash 53 = .ok (.ifCond .eq 5, 3) := by decide +kernel
theorem dX0_largestClash_56 : decode cX0_largestClash 56 = .ok (.iload_n 3, 1) := by decide +kernel
theorem dX0_largestClash_57 : decode cX0_largestClash 57 = .ok (.istore_n 2, 1) := by decide +kernel
theorem dX0_largestClash_58 : decode cX0_largestClash 58 = .ok (.iinc 3 1, 3) := by decide +kernel
theorem dX0_largestClash_61 : decode cX0_largestClash 61 = .ok (.goto (-52), 3) := by decide +kernel
theorem dX0_largestClash_64 : decode cX0_largestClash 64 = .ok (.iload_n 2, 1) := by decide +kernel
theorem dX0_largestClash_65 : decode cX0_largestClash 65 = .ok (.ireturn, 1) := by decide +kernel
theorem vc_X0_34 : XVw RX0 34 0 8 1 yX9_burntBits cX9_burntBits (some .int) := ⟨RX9, TX9, tyX9, 6, xk_8, rfl, ⟨by decide, by decide⟩, by decide +kernel, wt_826, wt_648, wt_649, wt_5, wt_650⟩
theorem vc_X0_38 : XSw RX0 38 1 1 yJ6_bitCount_0f7a4 cJ6_bitCount_0f7a4 (some .int) := ⟨⟨by decide, by decide⟩, by decide +kernel, wt_827, wt_690, wt_21, wt_691⟩
theorem vc_X0_44 : XSw RX0 44 2 3 yX0_isClash cX0_isClash (some .boolean) := ⟨⟨by decide, by decide⟩, by decide +kernel, wt_828, wt_829, wt_8, wt_830⟩
noncomputable def bs_X0_largestClash : List (Nat × XB) := [
  (0, (sq (xLA 0) (sq (xCI 8 1 F_X9_burntBits) (sq (xSI 1) (sq (xC (.int 0)) (sq (xSI 2) (sq (xC (.int 1)) (sq (xSI 3) (tGo 9 [true, true, true, true, false]))))))))),
  (9, (sq (xLI 3) (sq (xC (.int 1)) (sq (xLA 0) (sq (xGI 8 0) (sq (xI2 (fun x y => x <<< (y &&& 31))) (tIf2 (fun x y => decide (y ≤ x)) 64 [false, false, true, false, false] 19 [true, true, true, true, false]))))))),
  (19, (sq (xLI 3) (sq (xCI 99 1 F_J6_bitCount_0f7a4) (sq (xLI 2) (sq (xCI 99 1 F_J6_bitCount_0f7a4) (tIf2 (fun x y => decide (x ≤ y)) 34 [true, true, true, true, false] 30 [true, true, true, true, false])))))),
  (30, (sq (xC (.int 1)) (tGo 35 [true, true, true, true, false]))),
  (34, (sq (xC (.int 0)) (tGo 35 [true, true, true, true, false]))),
  (35, (sq (xSI 4) (sq (xLI 4) (tIf1 (fun x => decide (x = 0)) 58 [true, true, true, true, false] 42 [true, true, true, true, false])))),
  (42, (sq (xLI 3) (sq (xLI 1) (sq (xI2 (· &&& ·)) (tIf1 (fun x => decide (¬ x = 0)) 58 [true, true, true, true, false] 48 [true, true, true, true, false]))))),
  (48, (sq (xLA 0) (sq (xLI 3) (sq (xCI 99 2 F_X0_isClash) (tIf1 (fun x => decide (x = 0)) 58 [true, true, true, true, false] 56 [true, true, false, true, false]))))),
  (56, (sq (xLI 3) (sq (xSI 2) (tGo 58 [true, true, true, true, false])))),
  (58, (sq (xInc 3 1) (tGo 9 [true, true, true, true, false]))),
  (64, (sq (xLI 2) tRI))]
set_option maxRecDepth 100000 in
set_option maxHeartbeats 4000000 in
theorem s_X0_largestClash : ∀ X : XCtx, XE X → X.2.2.1.1 = cX0_largestClash → X.2.2.1.2.1 = 5 → X.2.2.1.2.2.1 = yX0_largestClash.cls → X.2.2.1.2.2.2.1 = (some .int) → X.1.2.2.2.1 = { frames := 2, cells := 0, slots := 0, locals := 43 } → SndBs X bs_X0_largestClash := by
  rintro ⟨⟨p, l, e, R, s⟩, Y, ⟨cc, nL, own, ret, Ts⟩, Z⟩ hE h1 h2 h3 h4 h5
  dsimp only at h1 h2 h3 h4 h5
  subst h1 h2 h3 h4 h5
  exact ⟨(n_sq (n_aload_n hE dX0_largestClash_0) (n_sq (n_cIv hE m_X9_burntBits vc_X0_34 (show 1 + 1 ≤ 2 ∧ 8 + (1 + 11) + 23 ≤ 43 by decide) dX0_largestClash_1) (n_sq (n_istore_n hE (show (1 : Nat) < 5 by decide) dX0_largestClash_4) (n_sq (n_iconst hE (by decide) dX0_largestClash_5) (n_sq (n_istore_n hE (show (2 : Nat) < 5 by decide) dX0_largestClash_6) (n_sq (n_iconst hE (by decide) dX0_largestClash_7) (n_sq (n_istore_n hE (show (3 : Nat) < 5 by decide) dX0_largestClash_8) n_fall))))))),
    (n_sq (n_iload_n hE dX0_largestClash_9) (n_sq (n_iconst hE (by decide) dX0_largestClash_10) (n_sq (n_aload_n hE dX0_largestClash_11) (n_sq (n_getI hE xk_8 (k := 0) rfl (by decide) rfl wt_174 dX0_largestClash_12) (n_sq (n_ishl hE dX0_largestClash_15) (n_ifcge hE (by decide) dX0_largestClash_16)))))),
    (n_sq (n_iload_n hE dX0_largestClash_19) (n_sq (n_cIs hE m_J6_bitCount_0f7a4 vc_X0_38 (show 0 + 1 ≤ 2 ∧ 8 + (1 + 11) + 0 ≤ 43 by decide) dX0_largestClash_20) (n_sq (n_iload_n hE dX0_largestClash_23) (n_sq (n_cIs hE m_J6_bitCount_0f7a4 vc_X0_38 (show 0 + 1 ≤ 2 ∧ 8 + (1 + 11) + 0 ≤ 43 by decide) dX0_largestClash_24) (n_ifcle hE (by decide) dX0_largestClash_27))))),
    (n_sq (n_iconst hE (by decide) dX0_largestClash_30) (n_goto hE (by decide) dX0_largestClash_31)),
    (n_sq (n_iconst hE (by decide) dX0_largestClash_34) n_fall),
    (n_sq (n_istore hE (show (4 : Nat) < 5 by decide) dX0_largestClash_35) (n_sq (n_iload hE dX0_largestClash_37) (n_ifeq hE (by decide) dX0_largestClash_39))),
    (n_sq (n_iload_n hE dX0_largestClash_42) (n_sq (n_iload_n hE dX0_largestClash_43) (n_sq (n_iand hE dX0_largestClash_44) (n_ifne hE (by decide) dX0_largestClash_45)))),
    (n_sq (n_aload_n hE dX0_largestClash_48) (n_sq (n_iload_n hE dX0_largestClash_49) (n_sq (n_cIs hE m_X0_isClash vc_X0_44 (show 0 + 1 ≤ 2 ∧ 8 + (3 + 11) + 0 ≤ 43 by decide) dX0_largestClash_50) (n_ifeq hE (by decide) dX0_largestClash_53)))),
    (n_sq (n_iload_n hE dX0_largestClash_56) (n_sq (n_istore_n hE (show (2 : Nat) < 5 by decide) dX0_largestClash_57) n_fall)),
    (n_sq (n_iinc hE (by decide) (show (3 : Nat) < 5 by decide) dX0_largestClash_58) (n_goto hE (by decide) dX0_largestClash_61)),
    (n_sq (n_iload_n hE dX0_largestClash_64) (n_ireturn hE rfl dX0_largestClash_65)), trivial⟩
noncomputable def F_X0_largestClash (as : List XV) (w : XW) : Option (Int32 × XW) := (xF 5 bs_X0_largestClash as w).bind pI
theorem m_X0_largestClash : XM yX0_largestClash cX0_largestClash 5 (some .int) 2 43 (eI F_X0_largestClash) := xm_I (xm_of (by decide) s_X0_largestClash)
noncomputable def q_X0_largestClash_0 (i0 : Nat) (w : XW) : Option XR := ev bs_X0_largestClash 0 ([some (.inr (8, i0)), none, none, none, none], [], w)
noncomputable def q_X0_largestClash_9 (i0 : Nat) (x1 : Int32) (x2 : Int32) (x3 : Int32) (w : XW) : Option XR := ev bs_X0_largestClash 9 ([some (.inr (8, i0)), some (.inl (.int x1)), some (.inl (.int x2)), some (.inl (.int x3)), none], [], w)
noncomputable def q_X0_largestClash_19 (i0 : Nat) (x1 : Int32) (x2 : Int32) (x3 : Int32) (w : XW) : Option XR := ev bs_X0_largestClash 19 ([some (.inr (8, i0)), some (.inl (.int x1)), some (.inl (.int x2)), some (.inl (.int x3)), none], [], w)
noncomputable def q_X0_largestClash_30 (i0 : Nat) (x1 : Int32) (x2 : Int32) (x3 : Int32) (w : XW) : Option XR := ev bs_X0_largestClash 30 ([some (.inr (8, i0)), some (.inl (.int x1)), some (.inl (.int x2)), some (.inl (.int x3)), none], [], w)
noncomputable def q_X0_largestClash_34 (i0 : Nat) (x1 : Int32) (x2 : Int32) (x3 : Int32) (w : XW) : Option XR := ev bs_X0_largestClash 34 ([some (.inr (8, i0)), some (.inl (.int x1)), some (.inl (.int x2)), some (.inl (.int x3)), none], [], w)
noncomputable def q_X0_largestClash_35 (i0 : Nat) (x1 : Int32) (x2 : Int32) (x3 : Int32) (s0 : Int32) (w : XW) : Option XR := ev bs_X0_largestClash 35 ([some (.inr (8, i0)), some (.inl (.int x1)), some (.inl (.int x2)), some (.inl (.int x3)), none], [.inl (.int s0)], w)
noncomputable def q_X0_largestClash_42 (i0 : Nat) (x1 : Int32) (x2 : Int32) (x3 : Int32) (w : XW) : Option XR := ev bs_X0_largestClash 42 ([some (.inr (8, i0)), some (.inl (.int x1)), some (.inl (.int x2)), some (.inl (.int x3)), none], [], w)
noncomputable def q_X0_largestClash_48 (i0 : Nat) (x1 : Int32) (x2 : Int32) (x3 : Int32) (w : XW) : Option XR := ev bs_X0_largestClash 48 ([some (.inr (8, i0)), some (.inl (.int x1)), some (.inl (.int x2)), some (.inl (.int x3)), none], [], w)
noncomputable def q_X0_largestClash_56 (i0 : Nat) (x1 : Int32) (x3 : Int32) (w : XW) : Option XR := ev bs_X0_largestClash 56 ([some (.inr (8, i0)), some (.inl (.int x1)), none, some (.inl (.int x3)), none], [], w)
noncomputable def q_X0_largestClash_58 (i0 : Nat) (x1 : Int32) (x2 : Int32) (x3 : Int32) (w : XW) : Option XR := ev bs_X0_largestClash 58 ([some (.inr (8, i0)), some (.inl (.int x1)), some (.inl (.int x2)), some (.inl (.int x3)), none], [], w)
noncomputable def q_X0_largestClash_64 (x2 : Int32) (w : XW) : Option XR := ev bs_X0_largestClash 64 ([none, none, some (.inl (.int x2)), none, none], [], w)
theorem e_X0_largestClash_0 (i0 : Nat) (w : XW) : q_X0_largestClash_0 i0 w = ((F_X9_burntBits [.inr (8, i0)] w).bind fun r0 => (q_X0_largestClash_9 i0 r0.1 0 1 r0.2)) := (ev_eq _ _ _).trans rfl
theorem e_X0_largestClash_9 (i0 : Nat) (x1 : Int32) (x2 : Int32) (x3 : Int32) (w : XW) : q_X0_largestClash_9 i0 x1 x2 x3 w = (bif decide (((1 : Int32) <<< (((gI w 8 i0 0) : Int32) &&& 31)) ≤ x3) then (q_X0_largestClash_64 x2 w) else (q_X0_largestClash_19 i0 x1 x2 x3 w)) := (ev_eq _ _ _).trans rfl
theorem e_X0_largestClash_19 (i0 : Nat) (x1 : Int32) (x2 : Int32) (x3 : Int32) (w : XW) : q_X0_largestClash_19 i0 x1 x2 x3 w = ((F_J6_bitCount_0f7a4 [.inl (.int x3)] w).bind fun r0 => ((F_J6_bitCount_0f7a4 [.inl (.int x2)] r0.2).bind fun r1 => (bif decide (r0.1 ≤ r1.1) then (q_X0_largestClash_34 i0 x1 x2 x3 r1.2) else (q_X0_largestClash_30 i0 x1 x2 x3 r1.2)))) := (ev_eq _ _ _).trans rfl
theorem e_X0_largestClash_30 (i0 : Nat) (x1 : Int32) (x2 : Int32) (x3 : Int32) (w : XW) : q_X0_largestClash_30 i0 x1 x2 x3 w = (q_X0_largestClash_35 i0 x1 x2 x3 1 w) := (ev_eq _ _ _).trans rfl
theorem e_X0_largestClash_34 (i0 : Nat) (x1 : Int32) (x2 : Int32) (x3 : Int32) (w : XW) : q_X0_largestClash_34 i0 x1 x2 x3 w = (q_X0_largestClash_35 i0 x1 x2 x3 0 w) := (ev_eq _ _ _).trans rfl
theorem e_X0_largestClash_35 (i0 : Nat) (x1 : Int32) (x2 : Int32) (x3 : Int32) (s0 : Int32) (w : XW) : q_X0_largestClash_35 i0 x1 x2 x3 s0 w = (bif decide (s0 = 0) then (q_X0_largestClash_58 i0 x1 x2 x3 w) else (q_X0_largestClash_42 i0 x1 x2 x3 w)) := (ev_eq _ _ _).trans rfl
theorem e_X0_largestClash_42 (i0 : Nat) (x1 : Int32) (x2 : Int32) (x3 : Int32) (w : XW) : q_X0_largestClash_42 i0 x1 x2 x3 w = (bif decide (¬ (x3 &&& x1) = 0) then (q_X0_largestClash_58 i0 x1 x2 x3 w) else (q_X0_largestClash_48 i0 x1 x2 x3 w)) := (ev_eq _ _ _).trans rfl
theorem e_X0_largestClash_48 (i0 : Nat) (x1 : Int32) (x2 : Int32) (x3 : Int32) (w : XW) : q_X0_largestClash_48 i0 x1 x2 x3 w = ((F_X0_isClash [.inr (8, i0), .inl (.int x3)] w).bind fun r0 => (bif decide (r0.1 = 0) then (q_X0_largestClash_58 i0 x1 x2 x3 r0.2) else (q_X0_largestClash_56 i0 x1 x3 r0.2))) := (ev_eq _ _ _).trans rfl
theorem e_X0_largestClash_56 (i0 : Nat) (x1 : Int32) (x3 : Int32) (w : XW) : q_X0_largestClash_56 i0 x1 x3 w = (q_X0_largestClash_58 i0 x1 x3 x3 w) := (ev_eq _ _ _).trans rfl
theorem e_X0_largestClash_58 (i0 : Nat) (x1 : Int32) (x2 : Int32) (x3 : Int32) (w : XW) : q_X0_largestClash_58 i0 x1 x2 x3 w = (q_X0_largestClash_9 i0 x1 x2 (x3 + 1) w) := (ev_eq _ _ _).trans rfl
theorem e_X0_largestClash_64 (x2 : Int32) (w : XW) : q_X0_largestClash_64 x2 w = (some (some (.inl (.int x2)), w)) := (ev_eq _ _ _).trans rfl
theorem f_X0_largestClash (i0 : Nat) (w : XW) : F_X0_largestClash [.inr (8, i0)] w = (q_X0_largestClash_0 i0 w).bind pI := rfl

-- WinterKeep.clash(I)I
theorem dX11_clash_0 : decode cX11_clash 0 = .ok (.aload_n 0, 1) := by decide +kernel
theorem dX11_clash_1 : decode cX11_clash 1 = .ok (.getfield 39, 3) := by decide +kernel
theorem dX11_clash_4 : decode cX11_clash 4 = .ok (.getfield 227, 3) := by decide +kernel
theorem dX11_clash_7 : decode cX11_clash 7 = .ok (.ifCond .eq 12, 3) := by decide +kernel
theorem dX11_clash_10 : decode cX11_clash 10 = .ok (.iload_n 1, 1) := by decide +kernel
theorem dX11_clash_11 : decode cX11_clash 11 = .ok (.iconst 0, 1) := by decide +kernel
theorem dX11_clash_12 : decode cX11_clash 12 = .ok (.iconst 1, 1) := by decide +kernel
theorem dX11_clash_13 : decode cX11_clash 13 = .ok (.invokestatic 170, 3) := by decide +kernel
theorem dX11_clash_16 : decode cX11_clash 16 = .ok (.ifCond .ne 5, 3) := by decide +kernel
theorem dX11_clash_19 : decode cX11_clash 19 = .ok (.iconst (-1), 1) := by decide +kernel
theorem dX11_clash_20 : decode cX11_clash 20 = .ok (.ireturn, 1) := by decide +kernel
theorem dX11_clash_21 : decode cX11_clash 21 = .ok (.aload_n 0, 1) := by decide +kernel
theorem dX11_clash_22 : decode cX11_clash 22 = .ok (.getfield 46, 3) := by decide +kernel
theorem dX11_clash_25 : decode cX11_clash 25 = .ok (.invokestatic 273, 3) := by decide +kernel
theorem dX11_clash_28 : decode cX11_clash 28 = .ok (.istore_n 2, 1) := by decide +kernel
theorem dX11_clash_29 : decode cX11_clash 29 = .ok (.iload_n 1, 1) := by decide +kernel
theorem dX11_clash_30 : decode cX11_clash 30 = .ok (.ifCond .ne 10, 3) := by decide +kernel
theorem dX11_clash_33 : decode cX11_clash 33 = .ok (.iload_n 2, 1) := by decide +kernel
theorem dX11_clash_34 : decode cX11_clash 34 = .ok (.invokestatic 276, 3) := by decide +kernel
theorem dX11_clash_37 : decode cX11_clash 37 = .ok (.goto 4, 3) := by decide +kernel
theorem dX11_clash_40 : decode cX11_clash 40 = .ok (.iload_n 2, 1) := by decide +kernel
theorem dX11_clash_41 : decode cX11_clash 41 = .ok (.ireturn, 1) := by decide +kernel
theorem vc_X11_273 : XSw RX11 273 1 5 yX0_largestClash cX0_largestClash (some .int) := ⟨⟨by decide, by decide⟩, by decide +kernel, wt_823, wt_824, wt_8, wt_825⟩
theorem vc_X11_276 : XSw RX11 276 1 1 yJ6_bitCount_0f7a4 cJ6_bitCount_0f7a4 (some .int) := ⟨⟨by decide, by decide⟩, by decide +kernel, wt_831, wt_690, wt_21, wt_691⟩
noncomputable def bs_X11_clash : List (Nat × XB) := [
  (0, (sq (xLA 0) (sq (xGD 10 5 1) (sq (xGI 1 0) (tIf1 (fun x => decide (x = 0)) 19 [false, false, false] 10 [true, true, false]))))),
  (10, (sq (xLI 1) (sq (xC (.int 0)) (sq (xC (.int 1)) (sq (xCI 99 3 F_X11_within) (tIf1 (fun x => decide (¬ x = 0)) 21 [true, true, false] 19 [false, false, false])))))),
  (19, (sq (xC (.int (-1))) tRI)),
  (21, (sq (xLA 0) (sq (xGS 10 8 1 0) (sq (xCI 99 1 F_X0_largestClash) (sq (xSI 2) (sq (xLI 1) (tIf1 (fun x => decide (¬ x = 0)) 40 [false, false, true] 33 [false, false, true]))))))),
  (33, (sq (xLI 2) (sq (xCI 99 1 F_J6_bitCount_0f7a4) (tGo 41 [false, false, false])))),
  (40, (sq (xLI 2) (tGo 41 [false, false, false]))),
  (41, tRI)]
set_option maxRecDepth 100000 in
set_option maxHeartbeats 4000000 in
theorem s_X11_clash : ∀ X : XCtx, XE X → X.2.2.1.1 = cX11_clash → X.2.2.1.2.1 = 3 → X.2.2.1.2.2.1 = yX11_clash.cls → X.2.2.1.2.2.2.1 = (some .int) → X.1.2.2.2.1 = { frames := 3, cells := 0, slots := 0, locals := 67 } → SndBs X bs_X11_clash := by
  rintro ⟨⟨p, l, e, R, s⟩, Y, ⟨cc, nL, own, ret, Ts⟩, Z⟩ hE h1 h2 h3 h4 h5
  dsimp only at h1 h2 h3 h4 h5
  subst h1 h2 h3 h4 h5
  exact ⟨(n_sq (n_aload_n hE dX11_clash_0) (n_sq (n_getD hE xk_10 (k := 5) rfl (by decide) rfl wt_321 dX11_clash_1) (n_sq (n_getI hE xk_1 (k := 0) rfl (by decide) rfl wt_96 dX11_clash_4) (n_ifeq hE (by decide) dX11_clash_7)))),
    (n_sq (n_iload_n hE dX11_clash_10) (n_sq (n_iconst hE (by decide) dX11_clash_11) (n_sq (n_iconst hE (by decide) dX11_clash_12) (n_sq (n_cIs hE m_X11_within vc_X11_170 (show 0 + 1 ≤ 3 ∧ 8 + (3 + 11) + 0 ≤ 67 by decide) dX11_clash_13) (n_ifne hE (by decide) dX11_clash_16))))),
    (n_sq (n_iconst hE (by decide) dX11_clash_19) (n_ireturn hE rfl dX11_clash_20)),
    (n_sq (n_aload_n hE dX11_clash_21) (n_sq (n_getS hE xk_10 (k := 6) rfl (by decide) rfl wt_322 dX11_clash_22) (n_sq (n_cIs hE m_X0_largestClash vc_X11_273 (show 2 + 1 ≤ 3 ∧ 8 + (5 + 11) + 43 ≤ 67 by decide) dX11_clash_25) (n_sq (n_istore_n hE (show (2 : Nat) < 3 by decide) dX11_clash_28) (n_sq (n_iload_n hE dX11_clash_29) (n_ifne hE (by decide) dX11_clash_30)))))),
    (n_sq (n_iload_n hE dX11_clash_33) (n_sq (n_cIs hE m_J6_bitCount_0f7a4 vc_X11_276 (show 0 + 1 ≤ 3 ∧ 8 + (1 + 11) + 0 ≤ 67 by decide) dX11_clash_34) (n_goto hE (by decide) dX11_clash_37))),
    (n_sq (n_iload_n hE dX11_clash_40) n_fall),
    (n_ireturn hE rfl dX11_clash_41), trivial⟩
noncomputable def F_X11_clash (as : List XV) (w : XW) : Option (Int32 × XW) := (xF 3 bs_X11_clash as w).bind pI
theorem m_X11_clash : XM yX11_clash cX11_clash 3 (some .int) 3 67 (eI F_X11_clash) := xm_I (xm_of (by decide) s_X11_clash)
noncomputable def q_X11_clash_0 (x1 : Int32) (w : XW) : Option XR := ev bs_X11_clash 0 ([some (.inr (10, 0)), some (.inl (.int x1)), none], [], w)
noncomputable def q_X11_clash_10 (x1 : Int32) (w : XW) : Option XR := ev bs_X11_clash 10 ([some (.inr (10, 0)), some (.inl (.int x1)), none], [], w)
noncomputable def q_X11_clash_19 (w : XW) : Option XR := ev bs_X11_clash 19 ([none, none, none], [], w)
noncomputable def q_X11_clash_21 (x1 : Int32) (w : XW) : Option XR := ev bs_X11_clash 21 ([some (.inr (10, 0)), some (.inl (.int x1)), none], [], w)
noncomputable def q_X11_clash_33 (x2 : Int32) (w : XW) : Option XR := ev bs_X11_clash 33 ([none, none, some (.inl (.int x2))], [], w)
noncomputable def q_X11_clash_40 (x2 : Int32) (w : XW) : Option XR := ev bs_X11_clash 40 ([none, none, some (.inl (.int x2))], [], w)
noncomputable def q_X11_clash_41 (s0 : Int32) (w : XW) : Option XR := ev bs_X11_clash 41 ([none, none, none], [.inl (.int s0)], w)
theorem e_X11_clash_0 (x1 : Int32) (w : XW) : q_X11_clash_0 x1 w = ((gR w 10 0 5).bind fun j0 => (bif decide ((gI w 1 j0 0) = 0) then (q_X11_clash_19 w) else (q_X11_clash_10 x1 w))) := (ev_eq _ _ _).trans rfl
theorem e_X11_clash_10 (x1 : Int32) (w : XW) : q_X11_clash_10 x1 w = ((F_X11_within [.inl (.int x1), .inl (.int 0), .inl (.int 1)] w).bind fun r0 => (bif decide (¬ r0.1 = 0) then (q_X11_clash_21 x1 r0.2) else (q_X11_clash_19 r0.2))) := (ev_eq _ _ _).trans rfl
theorem e_X11_clash_19 (w : XW) : q_X11_clash_19 w = (some (some (.inl (.int (-1))), w)) := (ev_eq _ _ _).trans rfl
theorem e_X11_clash_21 (x1 : Int32) (w : XW) : q_X11_clash_21 x1 w = ((F_X0_largestClash [.inr (8, 0)] w).bind fun r0 => (bif decide (¬ x1 = 0) then (q_X11_clash_40 r0.1 r0.2) else (q_X11_clash_33 r0.1 r0.2))) := (ev_eq _ _ _).trans rfl
theorem e_X11_clash_33 (x2 : Int32) (w : XW) : q_X11_clash_33 x2 w = ((F_J6_bitCount_0f7a4 [.inl (.int x2)] w).bind fun r0 => (q_X11_clash_41 r0.1 r0.2)) := (ev_eq _ _ _).trans rfl
theorem e_X11_clash_40 (x2 : Int32) (w : XW) : q_X11_clash_40 x2 w = (q_X11_clash_41 x2 w) := (ev_eq _ _ _).trans rfl
theorem e_X11_clash_41 (s0 : Int32) (w : XW) : q_X11_clash_41 s0 w = (some (some (.inl (.int s0)), w)) := (ev_eq _ _ _).trans rfl
theorem f_X11_clash (x1 : Int32) (w : XW) : F_X11_clash [.inr (10, 0), .inl (.int x1)] w = (q_X11_clash_0 x1 w).bind pI := rfl

-- WinterKeep$Nights.nowTells(II)V
theorem dX4_nowTells_0 : decode cX4_nowTells 0 = .ok (.iload_n 1, 1) := by decide +kernel
theorem dX4_nowTells_1 : decode cX4_nowTells 1 = .ok (.ifCond .lt 15, 3) := by decide +kernel
theorem dX4_nowTells_4 : decode cX4_nowTells 4 = .ok (.iload_n 1, 1) := by decide +kernel
theorem dX4_nowTells_5 : decode cX4_nowTells 5 = .ok (.iconst 5, 1) := by decide +kernel
theorem dX4_nowTells_6 : decode cX4_nowTells 6 = .ok (.if_icmp .ge 10, 3) := by decide +kernel
theorem dX4_nowTells_9 : decode cX4_nowTells 9 = .ok (.aload_n 0, 1) := by decide +kernel
theorem dX4_nowTells_10 : decode cX4_nowTells 10 = .ok (.getfield 19, 3) := by decide +kernel
theorem dX4_nowTells_13 : decode cX4_nowTells 13 = .ok (.iload_n 1, 1) := by decide +kernel
theorem dX4_nowTells_14 : decode cX4_nowTells 14 = .ok (.iload_n 2, 1) := by decide +kernel
theorem dX4_nowTells_15 : decode cX4_nowTells 15 = .ok (.iastore, 1) := by decide +kernel
theorem dX4_nowTells_16 : decode cX4_nowTells 16 = .ok (.return_, 1) := by decide +kernel
noncomputable def bs_X4_nowTells : List (Nat × XB) := [
  (0, (sq (xLI 1) (tIf1 (fun x => decide (x < 0)) 16 [false, false, false] 4 [true, true, true]))),
  (4, (sq (xLI 1) (sq (xC (.int 5)) (tIf2 (fun x y => decide (y ≤ x)) 16 [false, false, false] 9 [true, true, true])))),
  (9, (sq (xLA 0) (sq (xGS 3 19 0 0) (sq (xLI 1) (sq (xLI 2) (sq (xTI 19 5 (fun x => x)) (tGo 16 [false, false, false]))))))),
  (16, tRV)]
set_option maxRecDepth 100000 in
set_option maxHeartbeats 4000000 in
theorem s_X4_nowTells : ∀ X : XCtx, XE X → X.2.2.1.1 = cX4_nowTells → X.2.2.1.2.1 = 3 → X.2.2.1.2.2.1 = yX4_nowTells.cls → X.2.2.1.2.2.2.1 = none → X.1.2.2.2.1 = { frames := 0, cells := 0, slots := 0, locals := 0 } → SndBs X bs_X4_nowTells := by
  rintro ⟨⟨p, l, e, R, s⟩, Y, ⟨cc, nL, own, ret, Ts⟩, Z⟩ hE h1 h2 h3 h4 h5
  dsimp only at h1 h2 h3 h4 h5
  subst h1 h2 h3 h4 h5
  exact ⟨(n_sq (n_iload_n hE dX4_nowTells_0) (n_iflt hE (by decide) dX4_nowTells_1)),
    (n_sq (n_iload_n hE dX4_nowTells_4) (n_sq (n_iconst hE (by decide) dX4_nowTells_5) (n_ifcge hE (by decide) dX4_nowTells_6))),
    (n_sq (n_aload_n hE dX4_nowTells_9) (n_sq (n_getS hE xk_3 (k := 2) rfl (by decide) rfl wt_217 dX4_nowTells_10) (n_sq (n_iload_n hE dX4_nowTells_13) (n_sq (n_iload_n hE dX4_nowTells_14) (n_sq (n_iast hE rfl (by decide) dX4_nowTells_15) n_fall))))),
    (n_vreturn hE rfl dX4_nowTells_16), trivial⟩
noncomputable def F_X4_nowTells (as : List XV) (w : XW) : Option XW := (xF 3 bs_X4_nowTells as w).bind pV
theorem m_X4_nowTells : XM yX4_nowTells cX4_nowTells 3 none 0 0 (eV F_X4_nowTells) := xm_V (xm_of (by decide) s_X4_nowTells)
noncomputable def q_X4_nowTells_0 (x1 : Int32) (x2 : Int32) (w : XW) : Option XR := ev bs_X4_nowTells 0 ([some (.inr (3, 0)), some (.inl (.int x1)), some (.inl (.int x2))], [], w)
noncomputable def q_X4_nowTells_4 (x1 : Int32) (x2 : Int32) (w : XW) : Option XR := ev bs_X4_nowTells 4 ([some (.inr (3, 0)), some (.inl (.int x1)), some (.inl (.int x2))], [], w)
noncomputable def q_X4_nowTells_9 (x1 : Int32) (x2 : Int32) (w : XW) : Option XR := ev bs_X4_nowTells 9 ([some (.inr (3, 0)), some (.inl (.int x1)), some (.inl (.int x2))], [], w)
noncomputable def q_X4_nowTells_16 (w : XW) : Option XR := ev bs_X4_nowTells 16 ([none, none, none], [], w)
theorem e_X4_nowTells_0 (x1 : Int32) (x2 : Int32) (w : XW) : q_X4_nowTells_0 x1 x2 w = (bif decide (x1 < 0) then (q_X4_nowTells_16 w) else (q_X4_nowTells_4 x1 x2 w)) := (ev_eq _ _ _).trans rfl
theorem e_X4_nowTells_4 (x1 : Int32) (x2 : Int32) (w : XW) : q_X4_nowTells_4 x1 x2 w = (bif decide (5 ≤ x1) then (q_X4_nowTells_16 w) else (q_X4_nowTells_9 x1 x2 w)) := (ev_eq _ _ _).trans rfl
theorem e_X4_nowTells_9 (x1 : Int32) (x2 : Int32) (w : XW) : q_X4_nowTells_9 x1 x2 w = (if x1 < 0 ∨ 5 ≤ x1.toNatClampNeg then none else (q_X4_nowTells_16 (sI w 19 0 x1.toNatClampNeg x2))) := (ev_eq _ _ _).trans rfl
theorem e_X4_nowTells_16 (w : XW) : q_X4_nowTells_16 w = (some (none, w)) := (ev_eq _ _ _).trans rfl
theorem f_X4_nowTells (x1 : Int32) (x2 : Int32) (w : XW) : F_X4_nowTells [.inr (3, 0), .inl (.int x1), .inl (.int x2)] w = (q_X4_nowTells_0 x1 x2 w).bind pV := rfl
