-- WinterKeep$Tape.add(I)V
theorem dX10_add_0 : decode cX10_add 0 = .ok (.bipush 24, 2) := by decide +kernel
theorem dX10_add_2 : decode cX10_add 2 = .ok (.istore_n 2, 1) := by decide +kernel
theorem dX10_add_3 : decode cX10_add 3 = .ok (.iload_n 2, 1) := by decide +kernel
theorem dX10_add_4 : decode cX10_add 4 = .ok (.ifCond .lt 45, 3) := by decide +kernel
theorem dX10_add_7 : decode cX10_add 7 = .ok (.aload_n 0, 1) := by decide +kernel
theorem dX10_add_8 : decode cX10_add 8 = .ok (.getfield 15, 3) := by decide +kernel
theorem dX10_add_11 : decode cX10_add 11 = .ok (.sipush 400, 3) := by decide +kernel
theorem dX10_add_14 : decode cX10_add 14 = .ok (.if_icmp .ge 35, 3) := by decide +kernel
theorem dX10_add_17 : decode cX10_add 17 = .ok (.aload_n 0, 1) := by decide +kernel
theorem dX10_add_18 : decode cX10_add 18 = .ok (.getfield 9, 3) := by decide +kernel
theorem dX10_add_21 : decode cX10_add 21 = .ok (.aload_n 0, 1) := by decide +kernel
theorem dX10_add_22 : decode cX10_add 22 = .ok (.getfield 15, 3) := by decide +kernel
theorem dX10_add_25 : decode cX10_add 25 = .ok (.iload_n 1, 1) := by decide +kernel
theorem dX10_add_26 : decode cX10_add 26 = .ok (.iload_n 2, 1) := by decide +kernel
theorem dX10_add_27 : decode cX10_add 27 = .ok (.ishr, 1) := by decide +kernel
theorem dX10_add_28 : decode cX10_add 28 = .ok (.sipush 255, 3) := by decide +kernel
theorem dX10_add_31 : decode cX10_add 31 = .ok (.iand, 1) := by decide +kernel
theorem dX10_add_32 : decode cX10_add 32 = .ok (.iastore, 1) := by decide +kernel
theorem dX10_add_33 : decode cX10_add 33 = .ok (.aload_n 0, 1) := by decide +kernel
theorem dX10_add_34 : decode cX10_add 34 = .ok (.dup, 1) := by decide +kernel
theorem dX10_add_35 : decode cX10_add 35 = .ok (.getfield 15, 3) := by decide +kernel
theorem dX10_add_38 : decode cX10_add 38 = .ok (.iconst 1, 1) := by decide +kernel
theorem dX10_add_39 : decode cX10_add 39 = .ok (.iadd, 1) := by decide +kernel
theorem dX10_add_40 : decode cX10_add 40 = .ok (.putfield 15, 3) := by decide +kernel
theorem dX10_add_43 : decode cX10_add 43 = .ok (.iinc 2 (-8), 3) := by decide +kernel
theorem dX10_add_46 : decode cX10_add 46 = .ok (.goto (-43), 3) := by decide +kernel
theorem dX10_add_49 : decode cX10_add 49 = .ok (.return_, 1) := by decide +kernel
noncomputable def bs_X10_add : List (Nat × XB) := [
  (0, (sq (xC (.int 24)) (sq (xSI 2) (tGo 3 [true, true, true])))),
  (3, (sq (xLI 2) (tIf1 (fun x => decide (x < 0)) 49 [false, false, false] 7 [true, true, true]))),
  (7, (sq (xLA 0) (sq (xGI 9 1) (sq (xC (.int 400)) (tIf2 (fun x y => decide (y ≤ x)) 49 [false, false, false] 17 [true, true, true]))))),
  (17, (sq (xLA 0) (sq (xGS 9 34 0 0) (sq (xLA 0) (sq (xGI 9 1) (sq (xLI 1) (sq (xLI 2) (sq (xI2 (fun x y => x >>> (y &&& 31))) (sq (xC (.int 255)) (sq (xI2 (· &&& ·)) (sq (xTI 34 400 (fun x => x)) (sq (xLA 0) (sq (xDup) (sq (xGI 9 1) (sq (xC (.int 1)) (sq (xI2 (· + ·)) (sq (xPI 9 1) (sq (xInc 2 (-8)) (tGo 3 [true, true, true]))))))))))))))))))),
  (49, tRV)]
set_option maxRecDepth 100000 in
set_option maxHeartbeats 4000000 in
theorem s_X10_add : ∀ X : XCtx, XE X → X.2.2.1.1 = cX10_add → X.2.2.1.2.1 = 3 → X.2.2.1.2.2.1 = yX10_add.cls → X.2.2.1.2.2.2.1 = none → X.1.2.2.2.1 = { frames := 0, cells := 0, slots := 0, locals := 0 } → SndBs X bs_X10_add := by
  rintro ⟨⟨p, l, e, R, s⟩, Y, ⟨cc, nL, own, ret, Ts⟩, Z⟩ hE h1 h2 h3 h4 h5
  dsimp only at h1 h2 h3 h4 h5
  subst h1 h2 h3 h4 h5
  exact ⟨(n_sq (n_bipush hE (by decide) dX10_add_0) (n_sq (n_istore_n hE (show (2 : Nat) < 3 by decide) dX10_add_2) n_fall)),
    (n_sq (n_iload_n hE dX10_add_3) (n_iflt hE (by decide) dX10_add_4)),
    (n_sq (n_aload_n hE dX10_add_7) (n_sq (n_getI hE xk_9 (k := 1) rfl (by decide) rfl wt_37 dX10_add_8) (n_sq (n_sipush hE (by decide) dX10_add_11) (n_ifcge hE (by decide) dX10_add_14)))),
    (n_sq (n_aload_n hE dX10_add_17) (n_sq (n_getS hE xk_9 (k := 0) rfl (by decide) rfl wt_36 dX10_add_18) (n_sq (n_aload_n hE dX10_add_21) (n_sq (n_getI hE xk_9 (k := 1) rfl (by decide) rfl wt_37 dX10_add_22) (n_sq (n_iload_n hE dX10_add_25) (n_sq (n_iload_n hE dX10_add_26) (n_sq (n_ishr hE dX10_add_27) (n_sq (n_sipush hE (by decide) dX10_add_28) (n_sq (n_iand hE dX10_add_31) (n_sq (n_iast hE rfl (by decide) dX10_add_32) (n_sq (n_aload_n hE dX10_add_33) (n_sq (n_dup hE dX10_add_34) (n_sq (n_getI hE xk_9 (k := 1) rfl (by decide) rfl wt_37 dX10_add_35) (n_sq (n_iconst hE (by decide) dX10_add_38) (n_sq (n_iadd hE dX10_add_39) (n_sq (n_putI hE xk_9 (k := 1) rfl (by decide) rfl rfl (tyX10_ok 1 (by decide)) wt_37 dX10_add_40) (n_sq (n_iinc hE (by decide) (show (2 : Nat) < 3 by decide) dX10_add_43) (n_goto hE (by decide) dX10_add_46)))))))))))))))))),
    (n_vreturn hE rfl dX10_add_49), trivial⟩
noncomputable def F_X10_add (as : List XV) (w : XW) : Option XW := (xF 3 bs_X10_add as w).bind pV
theorem m_X10_add : XM yX10_add cX10_add 3 none 0 0 (eV F_X10_add) := xm_V (xm_of (by decide) s_X10_add)
noncomputable def q_X10_add_0 (x1 : Int32) (w : XW) : Option XR := ev bs_X10_add 0 ([some (.inr (9, 0)), some (.inl (.int x1)), none], [], w)
noncomputable def q_X10_add_3 (x1 : Int32) (x2 : Int32) (w : XW) : Option XR := ev bs_X10_add 3 ([some (.inr (9, 0)), some (.inl (.int x1)), some (.inl (.int x2))], [], w)
noncomputable def q_X10_add_7 (x1 : Int32) (x2 : Int32) (w : XW) : Option XR := ev bs_X10_add 7 ([some (.inr (9, 0)), some (.inl (.int x1)), some (.inl (.int x2))], [], w)
noncomputable def q_X10_add_17 (x1 : Int32) (x2 : Int32) (w : XW) : Option XR := ev bs_X10_add 17 ([some (.inr (9, 0)), some (.inl (.int x1)), some (.inl (.int x2))], [], w)
noncomputable def q_X10_add_49 (w : XW) : Option XR := ev bs_X10_add 49 ([none, none, none], [], w)
theorem e_X10_add_0 (x1 : Int32) (w : XW) : q_X10_add_0 x1 w = (q_X10_add_3 x1 24 w) := (ev_eq _ _ _).trans rfl
theorem e_X10_add_3 (x1 : Int32) (x2 : Int32) (w : XW) : q_X10_add_3 x1 x2 w = (bif decide (x2 < 0) then (q_X10_add_49 w) else (q_X10_add_7 x1 x2 w)) := (ev_eq _ _ _).trans rfl
theorem e_X10_add_7 (x1 : Int32) (x2 : Int32) (w : XW) : q_X10_add_7 x1 x2 w = (bif decide (400 ≤ (gI w 9 0 1)) then (q_X10_add_49 w) else (q_X10_add_17 x1 x2 w)) := (ev_eq _ _ _).trans rfl
theorem e_X10_add_17 (x1 : Int32) (x2 : Int32) (w : XW) : q_X10_add_17 x1 x2 w = (if (gI w 9 0 1) < 0 ∨ 400 ≤ (gI w 9 0 1).toNatClampNeg then none else (q_X10_add_3 x1 (x2 + (-8)) (sI (sI w 34 0 ((gI w 9 0 1).toNatClampNeg) (((x1 : Int32) >>> ((x2 : Int32) &&& 31)) &&& 255)) 9 0 1 ((gI (sI w 34 0 ((gI w 9 0 1).toNatClampNeg) (((x1 : Int32) >>> ((x2 : Int32) &&& 31)) &&& 255)) 9 0 1) + 1)))) := (ev_eq _ _ _).trans rfl
theorem e_X10_add_49 (w : XW) : q_X10_add_49 w = (some (none, w)) := (ev_eq _ _ _).trans rfl
theorem f_X10_add (x1 : Int32) (w : XW) : F_X10_add [.inr (9, 0), .inl (.int x1)] w = (q_X10_add_0 x1 w).bind pV := rfl

-- WinterKeep.feed(IIIII)I
theorem dX11_feed_0 : decode cX11_feed 0 = .ok (.aload_n 0, 1) := by decide +kernel
theorem dX11_feed_1 : decode cX11_feed 1 = .ok (.getfield 10, 3) := by decide +kernel
theorem dX11_feed_4 : decode cX11_feed 4 = .ok (.getfield 112, 3) := by decide +kernel
theorem dX11_feed_7 : decode cX11_feed 7 = .ok (.bipush 20, 2) := by decide +kernel
theorem dX11_feed_9 : decode cX11_feed 9 = .ok (.iadd, 1) := by decide +kernel
theorem dX11_feed_10 : decode cX11_feed 10 = .ok (.sipush 400, 3) := by decide +kernel
theorem dX11_feed_13 : decode cX11_feed 13 = .ok (.if_icmp .le 5, 3) := by decide +kernel
theorem dX11_feed_16 : decode cX11_feed 16 = .ok (.iconst (-1), 1) := by decide +kernel
theorem dX11_feed_17 : decode cX11_feed 17 = .ok (.ireturn, 1) := by decide +kernel
theorem dX11_feed_18 : decode cX11_feed 18 = .ok (.aload_n 0, 1) := by decide +kernel
theorem dX11_feed_19 : decode cX11_feed 19 = .ok (.getfield 10, 3) := by decide +kernel
theorem dX11_feed_22 : decode cX11_feed 22 = .ok (.iload_n 1, 1) := by decide +kernel
theorem dX11_feed_23 : decode cX11_feed 23 = .ok (.invokevirtual 115, 3) := by decide +kernel
theorem dX11_feed_26 : decode cX11_feed 26 = .ok (.aload_n 0, 1) := by decide +kernel
theorem dX11_feed_27 : decode cX11_feed 27 = .ok (.getfield 10, 3) := by decide +kernel
theorem dX11_feed_30 : decode cX11_feed 30 = .ok (.iload_n 2, 1) := by decide +kernel
theorem dX11_feed_31 : decode cX11_feed 31 = .ok (.invokevirtual 115, 3) := by decide +kernel
theorem dX11_feed_34 : decode cX11_feed 34 = .ok (.aload_n 0, 1) := by decide +kernel
theorem dX11_feed_35 : decode cX11_feed 35 = .ok (.getfield 10, 3) := by decide +kernel
theorem dX11_feed_38 : decode cX11_feed 38 = .ok (.iload_n 3, 1) := by decide +kernel
theorem dX11_feed_39 : decode cX11_feed 39 = .ok (.invokevirtual 115, 3) := by decide +kernel
theorem dX11_feed_42 : decode cX11_feed 42 = .ok (.aload_n 0, 1) := by decide +kernel
theorem dX11_feed_43 : decode cX11_feed 43 = .ok (.getfield 10, 3) := by decide +kernel
theorem dX11_feed_46 : decode cX11_feed 46 = .ok (.iload 4, 2) := by decide +kernel
theorem dX11_feed_48 : decode cX11_feed 48 = .ok (.invokevirtual 115, 3) := by decide +kernel
theorem dX11_feed_51 : decode cX11_feed 51 = .ok (.aload_n 0, 1) := by decide +kernel
theorem dX11_feed_52 : decode cX11_feed 52 = .ok (.getfield 10, 3) := by decide +kernel
theorem dX11_feed_55 : decode cX11_feed 55 = .ok (.iload 5, 2) := by decide +kernel
theorem dX11_feed_57 : decode cX11_feed 57 = .ok (.invokevirtual 115, 3) := by decide +kernel
theorem dX11_feed_60 : decode cX11_feed 60 = .ok (.aload_n 0, 1) := by decide +kernel
theorem dX11_feed_61 : decode cX11_feed 61 = .ok (.getfield 10, 3) := by decide +kernel
theorem dX11_feed_64 : decode cX11_feed 64 = .ok (.getfield 112, 3) := by decide +kernel
theorem dX11_feed_67 : decode cX11_feed 67 = .ok (.ireturn, 1) := by decide +kernel
theorem vc_X11_115 : XVw RX11 115 1 9 3 yX10_add cX10_add none := ⟨RX10, TX10, tyX10, 6, xk_9, rfl, ⟨by decide, by decide⟩, by decide +kernel, wt_381, wt_382, wt_383, wt_2, wt_384⟩
noncomputable def bs_X11_feed : List (Nat × XB) := [
  (0, (sq (xLA 0) (sq (xGS 10 9 1 0) (sq (xGI 9 1) (sq (xC (.int 20)) (sq (xI2 (· + ·)) (sq (xC (.int 400)) (tIf2 (fun x y => decide (x ≤ y)) 18 [true, true, true, true, true, true] 16 [false, false, false, false, false, false])))))))),
  (16, (sq (xC (.int (-1))) tRI)),
  (18, (sq (xLA 0) (sq (xGS 10 9 1 0) (sq (xLI 1) (sq (xCV 9 2 F_X10_add) (sq (xLA 0) (sq (xGS 10 9 1 0) (sq (xLI 2) (sq (xCV 9 2 F_X10_add) (sq (xLA 0) (sq (xGS 10 9 1 0) (sq (xLI 3) (sq (xCV 9 2 F_X10_add) (sq (xLA 0) (sq (xGS 10 9 1 0) (sq (xLI 4) (sq (xCV 9 2 F_X10_add) (sq (xLA 0) (sq (xGS 10 9 1 0) (sq (xLI 5) (sq (xCV 9 2 F_X10_add) (sq (xLA 0) (sq (xGS 10 9 1 0) (sq (xGI 9 1) tRI))))))))))))))))))))))))]
set_option maxRecDepth 100000 in
set_option maxHeartbeats 4000000 in
theorem s_X11_feed : ∀ X : XCtx, XE X → X.2.2.1.1 = cX11_feed → X.2.2.1.2.1 = 6 → X.2.2.1.2.2.1 = yX11_feed.cls → X.2.2.1.2.2.2.1 = (some .int) → X.1.2.2.2.1 = { frames := 1, cells := 0, slots := 0, locals := 22 } → SndBs X bs_X11_feed := by
  rintro ⟨⟨p, l, e, R, s⟩, Y, ⟨cc, nL, own, ret, Ts⟩, Z⟩ hE h1 h2 h3 h4 h5
  dsimp only at h1 h2 h3 h4 h5
  subst h1 h2 h3 h4 h5
  exact ⟨(n_sq (n_aload_n hE dX11_feed_0) (n_sq (n_getS hE xk_10 (k := 0) rfl (by decide) rfl wt_316 dX11_feed_1) (n_sq (n_getI hE xk_9 (k := 1) rfl (by decide) rfl wt_38 dX11_feed_4) (n_sq (n_bipush hE (by decide) dX11_feed_7) (n_sq (n_iadd hE dX11_feed_9) (n_sq (n_sipush hE (by decide) dX11_feed_10) (n_ifcle hE (by decide) dX11_feed_13))))))),
    (n_sq (n_iconst hE (by decide) dX11_feed_16) (n_ireturn hE rfl dX11_feed_17)),
    (n_sq (n_aload_n hE dX11_feed_18) (n_sq (n_getS hE xk_10 (k := 0) rfl (by decide) rfl wt_316 dX11_feed_19) (n_sq (n_iload_n hE dX11_feed_22) (n_sq (n_cVv hE m_X10_add vc_X11_115 (show 0 + 1 ≤ 1 ∧ 8 + (3 + 11) + 0 ≤ 22 by decide) dX11_feed_23) (n_sq (n_aload_n hE dX11_feed_26) (n_sq (n_getS hE xk_10 (k := 0) rfl (by decide) rfl wt_316 dX11_feed_27) (n_sq (n_iload_n hE dX11_feed_30) (n_sq (n_cVv hE m_X10_add vc_X11_115 (show 0 + 1 ≤ 1 ∧ 8 + (3 + 11) + 0 ≤ 22 by decide) dX11_feed_31) (n_sq (n_aload_n hE dX11_feed_34) (n_sq (n_getS hE xk_10 (k := 0) rfl (by decide) rfl wt_316 dX11_feed_35) (n_sq (n_iload_n hE dX11_feed_38) (n_sq (n_cVv hE m_X10_add vc_X11_115 (show 0 + 1 ≤ 1 ∧ 8 + (3 + 11) + 0 ≤ 22 by decide) dX11_feed_39) (n_sq (n_aload_n hE dX11_feed_42) (n_sq (n_getS hE xk_10 (k := 0) rfl (by decide) rfl wt_316 dX11_feed_43) (n_sq (n_iload hE dX11_feed_46) (n_sq (n_cVv hE m_X10_add vc_X11_115 (show 0 + 1 ≤ 1 ∧ 8 + (3 + 11) + 0 ≤ 22 by decide) dX11_feed_48) (n_sq (n_aload_n hE dX11_feed_51) (n_sq (n_getS hE xk_10 (k := 0) rfl (by decide) rfl wt_316 dX11_feed_52) (n_sq (n_iload hE dX11_feed_55) (n_sq (n_cVv hE m_X10_add vc_X11_115 (show 0 + 1 ≤ 1 ∧ 8 + (3 + 11) + 0 ≤ 22 by decide) dX11_feed_57) (n_sq (n_aload_n hE dX11_feed_60) (n_sq (n_getS hE xk_10 (k := 0) rfl (by decide) rfl wt_316 dX11_feed_61) (n_sq (n_getI hE xk_9 (k := 1) rfl (by decide) rfl wt_38 dX11_feed_64) (n_ireturn hE rfl dX11_feed_67)))))))))))))))))))))))), trivial⟩
noncomputable def F_X11_feed (as : List XV) (w : XW) : Option (Int32 × XW) := (xF 6 bs_X11_feed as w).bind pI
theorem m_X11_feed : XM yX11_feed cX11_feed 6 (some .int) 1 22 (eI F_X11_feed) := xm_I (xm_of (by decide) s_X11_feed)
noncomputable def q_X11_feed_0 (x1 : Int32) (x2 : Int32) (x3 : Int32) (x4 : Int32) (x5 : Int32) (w : XW) : Option XR := ev bs_X11_feed 0 ([some (.inr (10, 0)), some (.inl (.int x1)), some (.inl (.int x2)), some (.inl (.int x3)), some (.inl (.int x4)), some (.inl (.int x5))], [], w)
noncomputable def q_X11_feed_16 (w : XW) : Option XR := ev bs_X11_feed 16 ([none, none, none, none, none, none], [], w)
noncomputable def q_X11_feed_18 (x1 : Int32) (x2 : Int32) (x3 : Int32) (x4 : Int32) (x5 : Int32) (w : XW) : Option XR := ev bs_X11_feed 18 ([some (.inr (10, 0)), some (.inl (.int x1)), some (.inl (.int x2)), some (.inl (.int x3)), some (.inl (.int x4)), some (.inl (.int x5))], [], w)
theorem e_X11_feed_0 (x1 : Int32) (x2 : Int32) (x3 : Int32) (x4 : Int32) (x5 : Int32) (w : XW) : q_X11_feed_0 x1 x2 x3 x4 x5 w = (bif decide (((gI w 9 0 1) + 20) ≤ 400) then (q_X11_feed_18 x1 x2 x3 x4 x5 w) else (q_X11_feed_16 w)) := (ev_eq _ _ _).trans rfl
theorem e_X11_feed_16 (w : XW) : q_X11_feed_16 w = (some (some (.inl (.int (-1))), w)) := (ev_eq _ _ _).trans rfl
theorem e_X11_feed_18 (x1 : Int32) (x2 : Int32) (x3 : Int32) (x4 : Int32) (x5 : Int32) (w : XW) : q_X11_feed_18 x1 x2 x3 x4 x5 w = ((F_X10_add [.inr (9, 0), .inl (.int x1)] w).bind fun r0 => ((F_X10_add [.inr (9, 0), .inl (.int x2)] r0).bind fun r1 => ((F_X10_add [.inr (9, 0), .inl (.int x3)] r1).bind fun r2 => ((F_X10_add [.inr (9, 0), .inl (.int x4)] r2).bind fun r3 => ((F_X10_add [.inr (9, 0), .inl (.int x5)] r3).bind fun r4 => (some (some (.inl (.int (gI r4 9 0 1))), r4))))))) := (ev_eq _ _ _).trans rfl
theorem f_X11_feed (x1 : Int32) (x2 : Int32) (x3 : Int32) (x4 : Int32) (x5 : Int32) (w : XW) : F_X11_feed [.inr (10, 0), .inl (.int x1), .inl (.int x2), .inl (.int x3), .inl (.int x4), .inl (.int x5)] w = (q_X11_feed_0 x1 x2 x3 x4 x5 w).bind pI := rfl

-- WinterKeep.end(I)I
theorem dX11_end_0 : decode cX11_end 0 = .ok (.iload_n 1, 1) := by decide +kernel
theorem dX11_end_1 : decode cX11_end 1 = .ok (.ifCond .lt 14, 3) := by decide +kernel
theorem dX11_end_4 : decode cX11_end 4 = .ok (.iload_n 1, 1) := by decide +kernel
theorem dX11_end_5 : decode cX11_end 5 = .ok (.aload_n 0, 1) := by decide +kernel
theorem dX11_end_6 : decode cX11_end 6 = .ok (.getfield 10, 3) := by decide +kernel
theorem dX11_end_9 : decode cX11_end 9 = .ok (.getfield 112, 3) := by decide +kernel
theorem dX11_end_12 : decode cX11_end 12 = .ok (.if_icmp .le 5, 3) := by decide +kernel
theorem dX11_end_15 : decode cX11_end 15 = .ok (.iconst (-1), 1) := by decide +kernel
theorem dX11_end_16 : decode cX11_end 16 = .ok (.ireturn, 1) := by decide +kernel
theorem dX11_end_17 : decode cX11_end 17 = .ok (.aload_n 0, 1) := by decide +kernel
theorem dX11_end_18 : decode cX11_end 18 = .ok (.getfield 10, 3) := by decide +kernel
theorem dX11_end_21 : decode cX11_end 21 = .ok (.iload_n 1, 1) := by decide +kernel
theorem dX11_end_22 : decode cX11_end 22 = .ok (.putfield 112, 3) := by decide +kernel
theorem dX11_end_25 : decode cX11_end 25 = .ok (.iload_n 1, 1) := by decide +kernel
theorem dX11_end_26 : decode cX11_end 26 = .ok (.ireturn, 1) := by decide +kernel
noncomputable def bs_X11_end : List (Nat × XB) := [
  (0, (sq (xLI 1) (tIf1 (fun x => decide (x < 0)) 15 [false, false] 4 [true, true]))),
  (4, (sq (xLI 1) (sq (xLA 0) (sq (xGS 10 9 1 0) (sq (xGI 9 1) (tIf2 (fun x y => decide (x ≤ y)) 17 [true, true] 15 [false, false])))))),
  (15, (sq (xC (.int (-1))) tRI)),
  (17, (sq (xLA 0) (sq (xGS 10 9 1 0) (sq (xLI 1) (sq (xPI 9 1) (sq (xLI 1) tRI))))))]
set_option maxRecDepth 100000 in
set_option maxHeartbeats 4000000 in
theorem s_X11_end : ∀ X : XCtx, XE X → X.2.2.1.1 = cX11_end → X.2.2.1.2.1 = 2 → X.2.2.1.2.2.1 = yX11_end.cls → X.2.2.1.2.2.2.1 = (some .int) → X.1.2.2.2.1 = { frames := 0, cells := 0, slots := 0, locals := 0 } → SndBs X bs_X11_end := by
  rintro ⟨⟨p, l, e, R, s⟩, Y, ⟨cc, nL, own, ret, Ts⟩, Z⟩ hE h1 h2 h3 h4 h5
  dsimp only at h1 h2 h3 h4 h5
  subst h1 h2 h3 h4 h5
  exact ⟨(n_sq (n_iload_n hE dX11_end_0) (n_iflt hE (by decide) dX11_end_1)),
    (n_sq (n_iload_n hE dX11_end_4) (n_sq (n_aload_n hE dX11_end_5) (n_sq (n_getS hE xk_10 (k := 0) rfl (by decide) rfl wt_316 dX11_end_6) (n_sq (n_getI hE xk_9 (k := 1) rfl (by decide) rfl wt_38 dX11_end_9) (n_ifcle hE (by decide) dX11_end_12))))),
    (n_sq (n_iconst hE (by decide) dX11_end_15) (n_ireturn hE rfl dX11_end_16)),
    (n_sq (n_aload_n hE dX11_end_17) (n_sq (n_getS hE xk_10 (k := 0) rfl (by decide) rfl wt_316 dX11_end_18) (n_sq (n_iload_n hE dX11_end_21) (n_sq (n_putI hE xk_9 (k := 1) rfl (by decide) rfl rfl (tyX10_ok 1 (by decide)) wt_38 dX11_end_22) (n_sq (n_iload_n hE dX11_end_25) (n_ireturn hE rfl dX11_end_26)))))), trivial⟩
noncomputable def F_X11_end (as : List XV) (w : XW) : Option (Int32 × XW) := (xF 2 bs_X11_end as w).bind pI
theorem m_X11_end : XM yX11_end cX11_end 2 (some .int) 0 0 (eI F_X11_end) := xm_I (xm_of (by decide) s_X11_end)
noncomputable def q_X11_end_0 (x1 : Int32) (w : XW) : Option XR := ev bs_X11_end 0 ([some (.inr (10, 0)), some (.inl (.int x1))], [], w)
noncomputable def q_X11_end_4 (x1 : Int32) (w : XW) : Option XR := ev bs_X11_end 4 ([some (.inr (10, 0)), some (.inl (.int x1))], [], w)
noncomputable def q_X11_end_15 (w : XW) : Option XR := ev bs_X11_end 15 ([none, none], [], w)
noncomputable def q_X11_end_17 (x1 : Int32) (w : XW) : Option XR := ev bs_X11_end 17 ([some (.inr (10, 0)), some (.inl (.int x1))], [], w)
theorem e_X11_end_0 (x1 : Int32) (w : XW) : q_X11_end_0 x1 w = (bif decide (x1 < 0) then (q_X11_end_15 w) else (q_X11_end_4 x1 w)) := (ev_eq _ _ _).trans rfl
theorem e_X11_end_4 (x1 : Int32) (w : XW) : q_X11_end_4 x1 w = (bif decide (x1 ≤ (gI w 9 0 1)) then (q_X11_end_17 x1 w) else (q_X11_end_15 w)) := (ev_eq _ _ _).trans rfl
theorem e_X11_end_15 (w : XW) : q_X11_end_15 w = (some (some (.inl (.int (-1))), w)) := (ev_eq _ _ _).trans rfl
theorem e_X11_end_17 (x1 : Int32) (w : XW) : q_X11_end_17 x1 w = (some (some (.inl (.int x1)), sI w 9 0 1 x1)) := (ev_eq _ _ _).trans rfl
theorem f_X11_end (x1 : Int32) (w : XW) : F_X11_end [.inr (10, 0), .inl (.int x1)] w = (q_X11_end_0 x1 w).bind pI := rfl

-- WinterKeep.force(I)I
theorem dX11_force_0 : decode cX11_force 0 = .ok (.iload_n 1, 1) := by decide +kernel
theorem dX11_force_1 : decode cX11_force 1 = .ok (.iconst (-1), 1) := by decide +kernel
theorem dX11_force_2 : decode cX11_force 2 = .ok (.if_icmp .lt 11, 3) := by decide +kernel
theorem dX11_force_5 : decode cX11_force 5 = .ok (.iload_n 1, 1) := by decide +kernel
theorem dX11_force_6 : decode cX11_force 6 = .ok (.aload_n 0, 1) := by decide +kernel
theorem dX11_force_7 : decode cX11_force 7 = .ok (.getfield 29, 3) := by decide +kernel
theorem dX11_force_10 : decode cX11_force 10 = .ok (.if_icmp .lt 6, 3) := by decide +kernel
theorem dX11_force_13 : decode cX11_force 13 = .ok (.bipush (-2), 2) := by decide +kernel
theorem dX11_force_15 : decode cX11_force 15 = .ok (.ireturn, 1) := by decide +kernel
theorem dX11_force_16 : decode cX11_force 16 = .ok (.aload_n 0, 1) := by decide +kernel
theorem dX11_force_17 : decode cX11_force 17 = .ok (.getfield 33, 3) := by decide +kernel
theorem dX11_force_20 : decode cX11_force 20 = .ok (.istore_n 2, 1) := by decide +kernel
theorem dX11_force_21 : decode cX11_force 21 = .ok (.aload_n 0, 1) := by decide +kernel
theorem dX11_force_22 : decode cX11_force 22 = .ok (.iload_n 1, 1) := by decide +kernel
theorem dX11_force_23 : decode cX11_force 23 = .ok (.putfield 33, 3) := by decide +kernel
theorem dX11_force_26 : decode cX11_force 26 = .ok (.iload_n 2, 1) := by decide +kernel
theorem dX11_force_27 : decode cX11_force 27 = .ok (.ireturn, 1) := by decide +kernel
noncomputable def bs_X11_force : List (Nat × XB) := [
  (0, (sq (xLI 1) (sq (xC (.int (-1))) (tIf2 (fun x y => decide (x < y)) 13 [false, false, false] 5 [true, true, false])))),
  (5, (sq (xLI 1) (sq (xLA 0) (sq (xGI 10 3) (tIf2 (fun x y => decide (x < y)) 16 [true, true, false] 13 [false, false, false]))))),
  (13, (sq (xC (.int (-2))) tRI)),
  (16, (sq (xLA 0) (sq (xGI 10 4) (sq (xSI 2) (sq (xLA 0) (sq (xLI 1) (sq (xPI 10 4) (sq (xLI 2) tRI))))))))]
set_option maxRecDepth 100000 in
set_option maxHeartbeats 4000000 in
theorem s_X11_force : ∀ X : XCtx, XE X → X.2.2.1.1 = cX11_force → X.2.2.1.2.1 = 3 → X.2.2.1.2.2.1 = yX11_force.cls → X.2.2.1.2.2.2.1 = (some .int) → X.1.2.2.2.1 = { frames := 0, cells := 0, slots := 0, locals := 0 } → SndBs X bs_X11_force := by
  rintro ⟨⟨p, l, e, R, s⟩, Y, ⟨cc, nL, own, ret, Ts⟩, Z⟩ hE h1 h2 h3 h4 h5
  dsimp only at h1 h2 h3 h4 h5
  subst h1 h2 h3 h4 h5
  exact ⟨(n_sq (n_iload_n hE dX11_force_0) (n_sq (n_iconst hE (by decide) dX11_force_1) (n_ifclt hE (by decide) dX11_force_2))),
    (n_sq (n_iload_n hE dX11_force_5) (n_sq (n_aload_n hE dX11_force_6) (n_sq (n_getI hE xk_10 (k := 3) rfl (by decide) rfl wt_319 dX11_force_7) (n_ifclt hE (by decide) dX11_force_10)))),
    (n_sq (n_bipush hE (by decide) dX11_force_13) (n_ireturn hE rfl dX11_force_15)),
    (n_sq (n_aload_n hE dX11_force_16) (n_sq (n_getI hE xk_10 (k := 4) rfl (by decide) rfl wt_320 dX11_force_17) (n_sq (n_istore_n hE (show (2 : Nat) < 3 by decide) dX11_force_20) (n_sq (n_aload_n hE dX11_force_21) (n_sq (n_iload_n hE dX11_force_22) (n_sq (n_putI hE xk_10 (k := 4) rfl (by decide) rfl rfl (tyX11_ok 4 (by decide)) wt_320 dX11_force_23) (n_sq (n_iload_n hE dX11_force_26) (n_ireturn hE rfl dX11_force_27)))))))), trivial⟩
noncomputable def F_X11_force (as : List XV) (w : XW) : Option (Int32 × XW) := (xF 3 bs_X11_force as w).bind pI
theorem m_X11_force : XM yX11_force cX11_force 3 (some .int) 0 0 (eI F_X11_force) := xm_I (xm_of (by decide) s_X11_force)
noncomputable def q_X11_force_0 (x1 : Int32) (w : XW) : Option XR := ev bs_X11_force 0 ([some (.inr (10, 0)), some (.inl (.int x1)), none], [], w)
noncomputable def q_X11_force_5 (x1 : Int32) (w : XW) : Option XR := ev bs_X11_force 5 ([some (.inr (10, 0)), some (.inl (.int x1)), none], [], w)
noncomputable def q_X11_force_13 (w : XW) : Option XR := ev bs_X11_force 13 ([none, none, none], [], w)
noncomputable def q_X11_force_16 (x1 : Int32) (w : XW) : Option XR := ev bs_X11_force 16 ([some (.inr (10, 0)), some (.inl (.int x1)), none], [], w)
theorem e_X11_force_0 (x1 : Int32) (w : XW) : q_X11_force_0 x1 w = (bif decide (x1 < (-1)) then (q_X11_force_13 w) else (q_X11_force_5 x1 w)) := (ev_eq _ _ _).trans rfl
theorem e_X11_force_5 (x1 : Int32) (w : XW) : q_X11_force_5 x1 w = (bif decide (x1 < (gI w 10 0 3)) then (q_X11_force_16 x1 w) else (q_X11_force_13 w)) := (ev_eq _ _ _).trans rfl
theorem e_X11_force_13 (w : XW) : q_X11_force_13 w = (some (some (.inl (.int (-2))), w)) := (ev_eq _ _ _).trans rfl
theorem e_X11_force_16 (x1 : Int32) (w : XW) : q_X11_force_16 x1 w = (some (some (.inl (.int (gI w 10 0 4))), sI w 10 0 4 x1)) := (ev_eq _ _ _).trans rfl
theorem f_X11_force (x1 : Int32) (w : XW) : F_X11_force [.inr (10, 0), .inl (.int x1)] w = (q_X11_force_0 x1 w).bind pI := rfl

-- WinterKeep.within(III)Z
theorem dX11_within_0 : decode cX11_within 0 = .ok (.iload_n 0, 1) := by decide +kernel
theorem dX11_within_1 : decode cX11_within 1 = .ok (.iload_n 1, 1) := by decide +kernel
theorem dX11_within_2 : decode cX11_within 2 = .ok (.if_icmp .lt 12, 3) := by decide +kernel
theorem dX11_within_5 : decode cX11_within 5 = .ok (.iload_n 0, 1) := by decide +kernel
theorem dX11_within_6 : decode cX11_within 6 = .ok (.iload_n 2, 1) := by decide +kernel
theorem dX11_within_7 : decode cX11_within 7 = .ok (.if_icmp .gt 7, 3) := by decide +kernel
theorem dX11_within_10 : decode cX11_within 10 = .ok (.iconst 1, 1) := by decide +kernel
theorem dX11_within_11 : decode cX11_within 11 = .ok (.goto 4, 3) := by decide +kernel
theorem dX11_within_14 : decode cX11_within 14 = .ok (.iconst 0, 1) := by decide +kernel
theorem dX11_within_15 : decode cX11_within 15 = .ok (.ireturn, 1) := by decide +kernel
noncomputable def bs_X11_within : List (Nat × XB) := [
  (0, (sq (xLI 0) (sq (xLI 1) (tIf2 (fun x y => decide (x < y)) 14 [false, false, false] 5 [true, false, true])))),
  (5, (sq (xLI 0) (sq (xLI 2) (tIf2 (fun x y => decide (y < x)) 14 [false, false, false] 10 [false, false, false])))),
  (10, (sq (xC (.int 1)) (tGo 15 [false, false, false]))),
  (14, (sq (xC (.int 0)) (tGo 15 [false, false, false]))),
  (15, tRZ)]
set_option maxRecDepth 100000 in
set_option maxHeartbeats 4000000 in
theorem s_X11_within : ∀ X : XCtx, XE X → X.2.2.1.1 = cX11_within → X.2.2.1.2.1 = 3 → X.2.2.1.2.2.1 = yX11_within.cls → X.2.2.1.2.2.2.1 = (some .boolean) → X.1.2.2.2.1 = { frames := 0, cells := 0, slots := 0, locals := 0 } → SndBs X bs_X11_within := by
  rintro ⟨⟨p, l, e, R, s⟩, Y, ⟨cc, nL, own, ret, Ts⟩, Z⟩ hE h1 h2 h3 h4 h5
  dsimp only at h1 h2 h3 h4 h5
  subst h1 h2 h3 h4 h5
  exact ⟨(n_sq (n_iload_n hE dX11_within_0) (n_sq (n_iload_n hE dX11_within_1) (n_ifclt hE (by decide) dX11_within_2))),
    (n_sq (n_iload_n hE dX11_within_5) (n_sq (n_iload_n hE dX11_within_6) (n_ifcgt hE (by decide) dX11_within_7))),
    (n_sq (n_iconst hE (by decide) dX11_within_10) (n_goto hE (by decide) dX11_within_11)),
    (n_sq (n_iconst hE (by decide) dX11_within_14) n_fall),
    (n_zreturn hE rfl dX11_within_15), trivial⟩
noncomputable def F_X11_within (as : List XV) (w : XW) : Option (Int32 × XW) := (xF 3 bs_X11_within as w).bind pI
theorem m_X11_within : XM yX11_within cX11_within 3 (some .boolean) 0 0 (eI F_X11_within) := xm_I (xm_of (by decide) s_X11_within)
noncomputable def q_X11_within_0 (x0 : Int32) (x1 : Int32) (x2 : Int32) (w : XW) : Option XR := ev bs_X11_within 0 ([some (.inl (.int x0)), some (.inl (.int x1)), some (.inl (.int x2))], [], w)
noncomputable def q_X11_within_5 (x0 : Int32) (x2 : Int32) (w : XW) : Option XR := ev bs_X11_within 5 ([some (.inl (.int x0)), none, some (.inl (.int x2))], [], w)
noncomputable def q_X11_within_10 (w : XW) : Option XR := ev bs_X11_within 10 ([none, none, none], [], w)
noncomputable def q_X11_within_14 (w : XW) : Option XR := ev bs_X11_within 14 ([none, none, none], [], w)
noncomputable def q_X11_within_15 (s0 : Int32) (w : XW) : Option XR := ev bs_X11_within 15 ([none, none, none], [.inl (.int s0)], w)
theorem e_X11_within_0 (x0 : Int32) (x1 : Int32) (x2 : Int32) (w : XW) : q_X11_within_0 x0 x1 x2 w = (bif decide (x0 < x1) then (q_X11_within_14 w) else (q_X11_within_5 x0 x2 w)) := (ev_eq _ _ _).trans rfl
theorem e_X11_within_5 (x0 : Int32) (x2 : Int32) (w : XW) : q_X11_within_5 x0 x2 w = (bif decide (x2 < x0) then (q_X11_within_14 w) else (q_X11_within_10 w)) := (ev_eq _ _ _).trans rfl
theorem e_X11_within_10 (w : XW) : q_X11_within_10 w = (q_X11_within_15 1 w) := (ev_eq _ _ _).trans rfl
theorem e_X11_within_14 (w : XW) : q_X11_within_14 w = (q_X11_within_15 0 w) := (ev_eq _ _ _).trans rfl
theorem e_X11_within_15 (s0 : Int32) (w : XW) : q_X11_within_15 s0 w = (if s0 = 0 ∨ s0 = 1 then some (some (.inl (.int s0)), w) else none) := (ev_eq _ _ _).trans rfl
theorem f_X11_within (x0 : Int32) (x1 : Int32) (x2 : Int32) (w : XW) : F_X11_within [.inl (.int x0), .inl (.int x1), .inl (.int x2)] w = (q_X11_within_0 x0 x1 x2 w).bind pI := rfl

-- WinterKeep.isKeep(I)Z
theorem dX11_isKeep_0 : decode cX11_isKeep 0 = .ok (.iload_n 1, 1) := by decide +kernel
theorem dX11_isKeep_1 : decode cX11_isKeep 1 = .ok (.iconst 0, 1) := by decide +kernel
theorem dX11_isKeep_2 : decode cX11_isKeep 2 = .ok (.aload_n 0, 1) := by decide +kernel
theorem dX11_isKeep_3 : decode cX11_isKeep 3 = .ok (.getfield 39, 3) := by decide +kernel
theorem dX11_isKeep_6 : decode cX11_isKeep 6 = .ok (.getfield 135, 3) := by decide +kernel
theorem dX11_isKeep_9 : decode cX11_isKeep 9 = .ok (.iconst 1, 1) := by decide +kernel
theorem dX11_isKeep_10 : decode cX11_isKeep 10 = .ok (.isub, 1) := by decide +kernel
theorem dX11_isKeep_11 : decode cX11_isKeep 11 = .ok (.invokestatic 170, 3) := by decide +kernel
theorem dX11_isKeep_14 : decode cX11_isKeep 14 = .ok (.ireturn, 1) := by decide +kernel
theorem vc_X11_170 : XSw RX11 170 3 3 yX11_within cX11_within (some .boolean) := ⟨⟨by decide, by decide⟩, by decide +kernel, wt_611, wt_612, wt_1, wt_613⟩
noncomputable def bs_X11_isKeep : List (Nat × XB) := [
  (0, (sq (xLI 1) (sq (xC (.int 0)) (sq (xLA 0) (sq (xGD 10 5 1) (sq (xGI 1 3) (sq (xC (.int 1)) (sq (xI2 (· - ·)) (sq (xCI 99 3 F_X11_within) tRZ)))))))))]
set_option maxRecDepth 100000 in
set_option maxHeartbeats 4000000 in
theorem s_X11_isKeep : ∀ X : XCtx, XE X → X.2.2.1.1 = cX11_isKeep → X.2.2.1.2.1 = 2 → X.2.2.1.2.2.1 = yX11_isKeep.cls → X.2.2.1.2.2.2.1 = (some .boolean) → X.1.2.2.2.1 = { frames := 1, cells := 0, slots := 0, locals := 22 } → SndBs X bs_X11_isKeep := by
  rintro ⟨⟨p, l, e, R, s⟩, Y, ⟨cc, nL, own, ret, Ts⟩, Z⟩ hE h1 h2 h3 h4 h5
  dsimp only at h1 h2 h3 h4 h5
  subst h1 h2 h3 h4 h5
  exact ⟨(n_sq (n_iload_n hE dX11_isKeep_0) (n_sq (n_iconst hE (by decide) dX11_isKeep_1) (n_sq (n_aload_n hE dX11_isKeep_2) (n_sq (n_getD hE xk_10 (k := 5) rfl (by decide) rfl wt_321 dX11_isKeep_3) (n_sq (n_getI hE xk_1 (k := 3) rfl (by decide) rfl wt_109 dX11_isKeep_6) (n_sq (n_iconst hE (by decide) dX11_isKeep_9) (n_sq (n_isub hE dX11_isKeep_10) (n_sq (n_cIs hE m_X11_within vc_X11_170 (show 0 + 1 ≤ 1 ∧ 8 + (3 + 11) + 0 ≤ 22 by decide) dX11_isKeep_11) (n_zreturn hE rfl dX11_isKeep_14))))))))), trivial⟩
noncomputable def F_X11_isKeep (as : List XV) (w : XW) : Option (Int32 × XW) := (xF 2 bs_X11_isKeep as w).bind pI
theorem m_X11_isKeep : XM yX11_isKeep cX11_isKeep 2 (some .boolean) 1 22 (eI F_X11_isKeep) := xm_I (xm_of (by decide) s_X11_isKeep)
noncomputable def q_X11_isKeep_0 (x1 : Int32) (w : XW) : Option XR := ev bs_X11_isKeep 0 ([some (.inr (10, 0)), some (.inl (.int x1))], [], w)
theorem e_X11_isKeep_0 (x1 : Int32) (w : XW) : q_X11_isKeep_0 x1 w = ((gR w 10 0 5).bind fun j0 => ((F_X11_within [.inl (.int x1), .inl (.int 0), .inl (.int ((gI w 1 j0 3) - 1))] w).bind fun r1 => (if r1.1 = 0 ∨ r1.1 = 1 then some (some (.inl (.int r1.1)), r1.2) else none))) := (ev_eq _ _ _).trans rfl
theorem f_X11_isKeep (x1 : Int32) (w : XW) : F_X11_isKeep [.inr (10, 0), .inl (.int x1)] w = (q_X11_isKeep_0 x1 w).bind pI := rfl

-- WinterKeep.keep(II)I
theorem dX11_keep_0 : decode cX11_keep 0 = .ok (.aload_n 0, 1) := by decide +kernel
theorem dX11_keep_1 : decode cX11_keep 1 = .ok (.iload_n 1, 1) := by decide +kernel
theorem dX11_keep_2 : decode cX11_keep 2 = .ok (.invokevirtual 145, 3) := by decide +kernel
theorem dX11_keep_5 : decode cX11_keep 5 = .ok (.ifCond .ne 6, 3) := by decide +kernel
theorem dX11_keep_8 : decode cX11_keep 8 = .ok (.bipush (-3), 2) := by decide +kernel
theorem dX11_keep_10 : decode cX11_keep 10 = .ok (.ireturn, 1) := by decide +kernel
theorem dX11_keep_11 : decode cX11_keep 11 = .ok (.iload_n 2, 1) := by decide +kernel
theorem dX11_keep_12 : decode cX11_keep 12 = .ok (.tableswitch 100 0 5 #[40, 50, 60, 70, 80, 90], 40) := by decide +kernel
theorem dX11_keep_52 : decode cX11_keep 52 = .ok (.aload_n 0, 1) := by decide +kernel
theorem dX11_keep_53 : decode cX11_keep 53 = .ok (.getfield 39, 3) := by decide +kernel
theorem dX11_keep_56 : decode cX11_keep 56 = .ok (.getfield 149, 3) := by decide +kernel
theorem dX11_keep_59 : decode cX11_keep 59 = .ok (.iload_n 1, 1) := by decide +kernel
theorem dX11_keep_60 : decode cX11_keep 60 = .ok (.iaload, 1) := by decide +kernel
theorem dX11_keep_61 : decode cX11_keep 61 = .ok (.ireturn, 1) := by decide +kernel
theorem dX11_keep_62 : decode cX11_keep 62 = .ok (.aload_n 0, 1) := by decide +kernel
theorem dX11_keep_63 : decode cX11_keep 63 = .ok (.getfield 39, 3) := by decide +kernel
theorem dX11_keep_66 : decode cX11_keep 66 = .ok (.getfield 152, 3) := by decide +kernel
theorem dX11_keep_69 : decode cX11_keep 69 = .ok (.iload_n 1, 1) := by decide +kernel
theorem dX11_keep_70 : decode cX11_keep 70 = .ok (.iaload, 1) := by decide +kernel
theorem dX11_keep_71 : decode cX11_keep 71 = .ok (.ireturn, 1) := by decide +kernel
theorem dX11_keep_72 : decode cX11_keep 72 = .ok (.aload_n 0, 1) := by decide +kernel
theorem dX11_keep_73 : decode cX11_keep 73 = .ok (.getfield 46, 3) := by decide +kernel
theorem dX11_keep_76 : decode cX11_keep 76 = .ok (.getfield 155, 3) := by decide +kernel
theorem dX11_keep_79 : decode cX11_keep 79 = .ok (.iload_n 1, 1) := by decide +kernel
theorem dX11_keep_80 : decode cX11_keep 80 = .ok (.iaload, 1) := by decide +kernel
theorem dX11_keep_81 : decode cX11_keep 81 = .ok (.ireturn, 1) := by decide +kernel
theorem dX11_keep_82 : decode cX11_keep 82 = .ok (.aload_n 0, 1) := by decide +kernel
theorem dX11_keep_83 : decode cX11_keep 83 = .ok (.getfield 46, 3) := by decide +kernel
theorem dX11_keep_86 : decode cX11_keep 86 = .ok (.getfield 158, 3) := by decide +kernel
theorem dX11_keep_89 : decode cX11_keep 89 = .ok (.iload_n 1, 1) := by decide +kernel
theorem dX11_keep_90 : decode cX11_keep 90 = .ok (.iaload, 1) := by decide +kernel
theorem dX11_keep_91 : decode cX11_keep 91 = .ok (.ireturn, 1) := by decide +kernel
theorem dX11_keep_92 : decode cX11_keep 92 = .ok (.aload_n 0, 1) := by decide +kernel
theorem dX11_keep_93 : decode cX11_keep 93 = .ok (.getfield 46, 3) := by decide +kernel
theorem dX11_keep_96 : decode cX11_keep 96 = .ok (.getfield 161, 3) := by decide +kernel
theorem dX11_keep_99 : decode cX11_keep 99 = .ok (.iload_n 1, 1) := by decide +kernel
theorem dX11_keep_100 : decode cX11_keep 100 = .ok (.iaload, 1) := by decide +kernel
theorem dX11_keep_101 : decode cX11_keep 101 = .ok (.ireturn, 1) := by decide +kernel
theorem dX11_keep_102 : decode cX11_keep 102 = .ok (.aload_n 0, 1) := by decide +kernel
theorem dX11_keep_103 : decode cX11_keep 103 = .ok (.getfield 46, 3) := by decide +kernel
theorem dX11_keep_106 : decode cX11_keep 106 = .ok (.getfield 164, 3) := by decide +kernel
theorem dX11_keep_109 : decode cX11_keep 109 = .ok (.iload_n 1, 1) := by decide +kernel
theorem dX11_keep_110 : decode cX11_keep 110 = .ok (.iaload, 1) := by decide +kernel
theorem dX11_keep_111 : decode cX11_keep 111 = .ok (.ireturn, 1) := by decide +kernel
theorem dX11_keep_112 : decode cX11_keep 112 = .ok (.bipush (-3), 2) := by decide +kernel
theorem dX11_keep_114 : decode cX11_keep 114 = .ok (.ireturn, 1) := by decide +kernel
theorem vc_X11_145 : XVw RX11 145 1 10 2 yX11_isKeep cX11_isKeep (some .boolean) := ⟨RX11, TX11, tyX11, 20, xk_10, rfl, ⟨by decide, by decide⟩, by decide +kernel, wt_607, wt_609, ws_8, wt_1, wt_610⟩
noncomputable def bs_X11_keep : List (Nat × XB) := [
  (0, (sq (xLA 0) (sq (xLI 1) (sq (xCI 10 2 F_X11_isKeep) (tIf1 (fun x => decide (¬ x = 0)) 11 [true, true, true] 8 [false, false, false]))))),
  (8, (sq (xC (.int (-3))) tRI)),
  (11, (sq (xLI 2) (tSw [(0, 52), (1, 62), (2, 72), (3, 82), (4, 92), (5, 102)] 112 [true, true, false]))),
  (52, (sq (xLA 0) (sq (xGD 10 5 1) (sq (xGS 1 13 0 0) (sq (xLI 1) (sq (xAI 13 6) tRI)))))),
  (62, (sq (xLA 0) (sq (xGD 10 5 1) (sq (xGS 1 14 0 0) (sq (xLI 1) (sq (xAI 14 6) tRI)))))),
  (72, (sq (xLA 0) (sq (xGS 10 8 1 0) (sq (xGS 8 30 0 0) (sq (xLI 1) (sq (xAI 30 6) tRI)))))),
  (82, (sq (xLA 0) (sq (xGS 10 8 1 0) (sq (xGS 8 31 0 0) (sq (xLI 1) (sq (xAI 31 6) tRI)))))),
  (92, (sq (xLA 0) (sq (xGS 10 8 1 0) (sq (xGS 8 32 0 0) (sq (xLI 1) (sq (xAI 32 6) tRI)))))),
  (102, (sq (xLA 0) (sq (xGS 10 8 1 0) (sq (xGS 8 33 0 0) (sq (xLI 1) (sq (xAI 33 6) tRI)))))),
  (112, (sq (xC (.int (-3))) tRI))]
set_option maxRecDepth 100000 in
set_option maxHeartbeats 4000000 in
theorem s_X11_keep : ∀ X : XCtx, XE X → X.2.2.1.1 = cX11_keep → X.2.2.1.2.1 = 3 → X.2.2.1.2.2.1 = yX11_keep.cls → X.2.2.1.2.2.2.1 = (some .int) → X.1.2.2.2.1 = { frames := 2, cells := 0, slots := 0, locals := 43 } → SndBs X bs_X11_keep := by
  rintro ⟨⟨p, l, e, R, s⟩, Y, ⟨cc, nL, own, ret, Ts⟩, Z⟩ hE h1 h2 h3 h4 h5
  dsimp only at h1 h2 h3 h4 h5
  subst h1 h2 h3 h4 h5
  exact ⟨(n_sq (n_aload_n hE dX11_keep_0) (n_sq (n_iload_n hE dX11_keep_1) (n_sq (n_cIv hE m_X11_isKeep vc_X11_145 (show 1 + 1 ≤ 2 ∧ 8 + (2 + 11) + 22 ≤ 43 by decide) dX11_keep_2) (n_ifne hE (by decide) dX11_keep_5)))),
    (n_sq (n_bipush hE (by decide) dX11_keep_8) (n_ireturn hE rfl dX11_keep_10)),
    (n_sq (n_iload_n hE dX11_keep_11) (n_switch hE (lo32 := 0) (ts := [52, 62, 72, 82, 92, 102]) (by decide) (by decide) (by decide) (by decide) (by decide) (by decide) dX11_keep_12)),
    (n_sq (n_aload_n hE dX11_keep_52) (n_sq (n_getD hE xk_10 (k := 5) rfl (by decide) rfl wt_321 dX11_keep_53) (n_sq (n_getS hE xk_1 (k := 6) rfl (by decide) rfl wt_122 dX11_keep_56) (n_sq (n_iload_n hE dX11_keep_59) (n_sq (n_iald hE rfl (by decide) dX11_keep_60) (n_ireturn hE rfl dX11_keep_61)))))),
    (n_sq (n_aload_n hE dX11_keep_62) (n_sq (n_getD hE xk_10 (k := 5) rfl (by decide) rfl wt_321 dX11_keep_63) (n_sq (n_getS hE xk_1 (k := 7) rfl (by decide) rfl wt_126 dX11_keep_66) (n_sq (n_iload_n hE dX11_keep_69) (n_sq (n_iald hE rfl (by decide) dX11_keep_70) (n_ireturn hE rfl dX11_keep_71)))))),
    (n_sq (n_aload_n hE dX11_keep_72) (n_sq (n_getS hE xk_10 (k := 6) rfl (by decide) rfl wt_322 dX11_keep_73) (n_sq (n_getS hE xk_8 (k := 2) rfl (by decide) rfl wt_183 dX11_keep_76) (n_sq (n_iload_n hE dX11_keep_79) (n_sq (n_iald hE rfl (by decide) dX11_keep_80) (n_ireturn hE rfl dX11_keep_81)))))),
    (n_sq (n_aload_n hE dX11_keep_82) (n_sq (n_getS hE xk_10 (k := 6) rfl (by decide) rfl wt_322 dX11_keep_83) (n_sq (n_getS hE xk_8 (k := 3) rfl (by decide) rfl wt_186 dX11_keep_86) (n_sq (n_iload_n hE dX11_keep_89) (n_sq (n_iald hE rfl (by decide) dX11_keep_90) (n_ireturn hE rfl dX11_keep_91)))))),
    (n_sq (n_aload_n hE dX11_keep_92) (n_sq (n_getS hE xk_10 (k := 6) rfl (by decide) rfl wt_322 dX11_keep_93) (n_sq (n_getS hE xk_8 (k := 4) rfl (by decide) rfl wt_191 dX11_keep_96) (n_sq (n_iload_n hE dX11_keep_99) (n_sq (n_iald hE rfl (by decide) dX11_keep_100) (n_ireturn hE rfl dX11_keep_101)))))),
    (n_sq (n_aload_n hE dX11_keep_102) (n_sq (n_getS hE xk_10 (k := 6) rfl (by decide) rfl wt_322 dX11_keep_103) (n_sq (n_getS hE xk_8 (k := 5) rfl (by decide) rfl wt_195 dX11_keep_106) (n_sq (n_iload_n hE dX11_keep_109) (n_sq (n_iald hE rfl (by decide) dX11_keep_110) (n_ireturn hE rfl dX11_keep_111)))))),
    (n_sq (n_bipush hE (by decide) dX11_keep_112) (n_ireturn hE rfl dX11_keep_114)), trivial⟩
noncomputable def F_X11_keep (as : List XV) (w : XW) : Option (Int32 × XW) := (xF 3 bs_X11_keep as w).bind pI
theorem m_X11_keep : XM yX11_keep cX11_keep 3 (some .int) 2 43 (eI F_X11_keep) := xm_I (xm_of (by decide) s_X11_keep)
noncomputable def q_X11_keep_0 (x1 : Int32) (x2 : Int32) (w : XW) : Option XR := ev bs_X11_keep 0 ([some (.inr (10, 0)), some (.inl (.int x1)), some (.inl (.int x2))], [], w)
noncomputable def q_X11_keep_8 (w : XW) : Option XR := ev bs_X11_keep 8 ([none, none, none], [], w)
noncomputable def q_X11_keep_11 (x1 : Int32) (x2 : Int32) (w : XW) : Option XR := ev bs_X11_keep 11 ([some (.inr (10, 0)), some (.inl (.int x1)), some (.inl (.int x2))], [], w)
noncomputable def q_X11_keep_52 (x1 : Int32) (w : XW) : Option XR := ev bs_X11_keep 52 ([some (.inr (10, 0)), some (.inl (.int x1)), none], [], w)
noncomputable def q_X11_keep_62 (x1 : Int32) (w : XW) : Option XR := ev bs_X11_keep 62 ([some (.inr (10, 0)), some (.inl (.int x1)), none], [], w)
noncomputable def q_X11_keep_72 (x1 : Int32) (w : XW) : Option XR := ev bs_X11_keep 72 ([some (.inr (10, 0)), some (.inl (.int x1)), none], [], w)
noncomputable def q_X11_keep_82 (x1 : Int32) (w : XW) : Option XR := ev bs_X11_keep 82 ([some (.inr (10, 0)), some (.inl (.int x1)), none], [], w)
noncomputable def q_X11_keep_92 (x1 : Int32) (w : XW) : Option XR := ev bs_X11_keep 92 ([some (.inr (10, 0)), some (.inl (.int x1)), none], [], w)
noncomputable def q_X11_keep_102 (x1 : Int32) (w : XW) : Option XR := ev bs_X11_keep 102 ([some (.inr (10, 0)), some (.inl (.int x1)), none], [], w)
noncomputable def q_X11_keep_112 (x1 : Int32) (w : XW) : Option XR := ev bs_X11_keep 112 ([some (.inr (10, 0)), some (.inl (.int x1)), none], [], w)
theorem e_X11_keep_0 (x1 : Int32) (x2 : Int32) (w : XW) : q_X11_keep_0 x1 x2 w = ((F_X11_isKeep [.inr (10, 0), .inl (.int x1)] w).bind fun r0 => (bif decide (¬ r0.1 = 0) then (q_X11_keep_11 x1 x2 r0.2) else (q_X11_keep_8 r0.2))) := (ev_eq _ _ _).trans rfl
theorem e_X11_keep_8 (w : XW) : q_X11_keep_8 w = (some (some (.inl (.int (-3))), w)) := (ev_eq _ _ _).trans rfl
theorem e_X11_keep_11 (x1 : Int32) (x2 : Int32) (w : XW) : q_X11_keep_11 x1 x2 w = (bif x2 == 0 then (q_X11_keep_52 x1 w) else (bif x2 == 1 then (q_X11_keep_62 x1 w) else (bif x2 == 2 then (q_X11_keep_72 x1 w) else (bif x2 == 3 then (q_X11_keep_82 x1 w) else (bif x2 == 4 then (q_X11_keep_92 x1 w) else (bif x2 == 5 then (q_X11_keep_102 x1 w) else (q_X11_keep_112 x1 w))))))) := (ev_eq _ _ _).trans rfl
theorem e_X11_keep_52 (x1 : Int32) (w : XW) : q_X11_keep_52 x1 w = ((gR w 10 0 5).bind fun j0 => (if x1 < 0 ∨ 6 ≤ x1.toNatClampNeg then none else (some (some (.inl (.int (gI w 13 j0 x1.toNatClampNeg))), w)))) := (ev_eq _ _ _).trans rfl
theorem e_X11_keep_62 (x1 : Int32) (w : XW) : q_X11_keep_62 x1 w = ((gR w 10 0 5).bind fun j0 => (if x1 < 0 ∨ 6 ≤ x1.toNatClampNeg then none else (some (some (.inl (.int (gI w 14 j0 x1.toNatClampNeg))), w)))) := (ev_eq _ _ _).trans rfl
theorem e_X11_keep_72 (x1 : Int32) (w : XW) : q_X11_keep_72 x1 w = (if x1 < 0 ∨ 6 ≤ x1.toNatClampNeg then none else (some (some (.inl (.int (gI w 30 0 x1.toNatClampNeg))), w))) := (ev_eq _ _ _).trans rfl
theorem e_X11_keep_82 (x1 : Int32) (w : XW) : q_X11_keep_82 x1 w = (if x1 < 0 ∨ 6 ≤ x1.toNatClampNeg then none else (some (some (.inl (.int (gI w 31 0 x1.toNatClampNeg))), w))) := (ev_eq _ _ _).trans rfl
theorem e_X11_keep_92 (x1 : Int32) (w : XW) : q_X11_keep_92 x1 w = (if x1 < 0 ∨ 6 ≤ x1.toNatClampNeg then none else (some (some (.inl (.int (gI w 32 0 x1.toNatClampNeg))), w))) := (ev_eq _ _ _).trans rfl
theorem e_X11_keep_102 (x1 : Int32) (w : XW) : q_X11_keep_102 x1 w = (if x1 < 0 ∨ 6 ≤ x1.toNatClampNeg then none else (some (some (.inl (.int (gI w 33 0 x1.toNatClampNeg))), w))) := (ev_eq _ _ _).trans rfl
theorem e_X11_keep_112 (x1 : Int32) (w : XW) : q_X11_keep_112 x1 w = (some (some (.inl (.int (-3))), w)) := (ev_eq _ _ _).trans rfl
theorem f_X11_keep (x1 : Int32) (x2 : Int32) (w : XW) : F_X11_keep [.inr (10, 0), .inl (.int x1), .inl (.int x2)] w = (q_X11_keep_0 x1 x2 w).bind pI := rfl

-- WinterKeep.isPerson(I)Z
theorem dX11_isPerson_0 : decode cX11_isPerson 0 = .ok (.iload_n 1, 1) := by decide +kernel
theorem dX11_isPerson_1 : decode cX11_isPerson 1 = .ok (.iconst 0, 1) := by decide +kernel
theorem dX11_isPerson_2 : decode cX11_isPerson 2 = .ok (.aload_n 0, 1) := by decide +kernel
theorem dX11_isPerson_3 : decode cX11_isPerson 3 = .ok (.getfield 39, 3) := by decide +kernel
theorem dX11_isPerson_6 : decode cX11_isPerson 6 = .ok (.getfield 200, 3) := by decide +kernel
theorem dX11_isPerson_9 : decode cX11_isPerson 9 = .ok (.iconst 1, 1) := by decide +kernel
theorem dX11_isPerson_10 : decode cX11_isPerson 10 = .ok (.isub, 1) := by decide +kernel
theorem dX11_isPerson_11 : decode cX11_isPerson 11 = .ok (.invokestatic 170, 3) := by decide +kernel
theorem dX11_isPerson_14 : decode cX11_isPerson 14 = .ok (.ireturn, 1) := by decide +kernel
noncomputable def bs_X11_isPerson : List (Nat × XB) := [
  (0, (sq (xLI 1) (sq (xC (.int 0)) (sq (xLA 0) (sq (xGD 10 5 1) (sq (xGI 1 4) (sq (xC (.int 1)) (sq (xI2 (· - ·)) (sq (xCI 99 3 F_X11_within) tRZ)))))))))]
set_option maxRecDepth 100000 in
set_option maxHeartbeats 4000000 in
theorem s_X11_isPerson : ∀ X : XCtx, XE X → X.2.2.1.1 = cX11_isPerson → X.2.2.1.2.1 = 2 → X.2.2.1.2.2.1 = yX11_isPerson.cls → X.2.2.1.2.2.2.1 = (some .boolean) → X.1.2.2.2.1 = { frames := 1, cells := 0, slots := 0, locals := 22 } → SndBs X bs_X11_isPerson := by
  rintro ⟨⟨p, l, e, R, s⟩, Y, ⟨cc, nL, own, ret, Ts⟩, Z⟩ hE h1 h2 h3 h4 h5
  dsimp only at h1 h2 h3 h4 h5
  subst h1 h2 h3 h4 h5
  exact ⟨(n_sq (n_iload_n hE dX11_isPerson_0) (n_sq (n_iconst hE (by decide) dX11_isPerson_1) (n_sq (n_aload_n hE dX11_isPerson_2) (n_sq (n_getD hE xk_10 (k := 5) rfl (by decide) rfl wt_321 dX11_isPerson_3) (n_sq (n_getI hE xk_1 (k := 4) rfl (by decide) rfl wt_114 dX11_isPerson_6) (n_sq (n_iconst hE (by decide) dX11_isPerson_9) (n_sq (n_isub hE dX11_isPerson_10) (n_sq (n_cIs hE m_X11_within vc_X11_170 (show 0 + 1 ≤ 1 ∧ 8 + (3 + 11) + 0 ≤ 22 by decide) dX11_isPerson_11) (n_zreturn hE rfl dX11_isPerson_14))))))))), trivial⟩
noncomputable def F_X11_isPerson (as : List XV) (w : XW) : Option (Int32 × XW) := (xF 2 bs_X11_isPerson as w).bind pI
theorem m_X11_isPerson : XM yX11_isPerson cX11_isPerson 2 (some .boolean) 1 22 (eI F_X11_isPerson) := xm_I (xm_of (by decide) s_X11_isPerson)
noncomputable def q_X11_isPerson_0 (x1 : Int32) (w : XW) : Option XR := ev bs_X11_isPerson 0 ([some (.inr (10, 0)), some (.inl (.int x1))], [], w)
theorem e_X11_isPerson_0 (x1 : Int32) (w : XW) : q_X11_isPerson_0 x1 w = ((gR w 10 0 5).bind fun j0 => ((F_X11_within [.inl (.int x1), .inl (.int 0), .inl (.int ((gI w 1 j0 4) - 1))] w).bind fun r1 => (if r1.1 = 0 ∨ r1.1 = 1 then some (some (.inl (.int r1.1)), r1.2) else none))) := (ev_eq _ _ _).trans rfl
theorem f_X11_isPerson (x1 : Int32) (w : XW) : F_X11_isPerson [.inr (10, 0), .inl (.int x1)] w = (q_X11_isPerson_0 x1 w).bind pI := rfl

-- WinterKeep.person(II)I
theorem dX11_person_0 : decode cX11_person 0 = .ok (.aload_n 0, 1) := by decide +kernel
theorem dX11_person_1 : decode cX11_person 1 = .ok (.iload_n 1, 1) := by decide +kernel
theorem dX11_person_2 : decode cX11_person 2 = .ok (.invokevirtual 167, 3) := by decide +kernel
theorem dX11_person_5 : decode cX11_person 5 = .ok (.ifCond .eq 12, 3) := by decide +kernel
theorem dX11_person_8 : decode cX11_person 8 = .ok (.iload_n 2, 1) := by decide +kernel
theorem dX11_person_9 : decode cX11_person 9 = .ok (.iconst 0, 1) := by decide +kernel
theorem dX11_person_10 : decode cX11_person 10 = .ok (.iconst 1, 1) := by decide +kernel
theorem dX11_person_11 : decode cX11_person 11 = .ok (.invokestatic 170, 3) := by decide +kernel
theorem dX11_person_14 : decode cX11_person 14 = .ok (.ifCond .ne 5, 3) := by decide +kernel
theorem dX11_person_17 : decode cX11_person 17 = .ok (.iconst (-1), 1) := by decide +kernel
theorem dX11_person_18 : decode cX11_person 18 = .ok (.ireturn, 1) := by decide +kernel
theorem dX11_person_19 : decode cX11_person 19 = .ok (.iload_n 2, 1) := by decide +kernel
theorem dX11_person_20 : decode cX11_person 20 = .ok (.ifCond .ne 15, 3) := by decide +kernel
theorem dX11_person_23 : decode cX11_person 23 = .ok (.aload_n 0, 1) := by decide +kernel
theorem dX11_person_24 : decode cX11_person 24 = .ok (.getfield 39, 3) := by decide +kernel
theorem dX11_person_27 : decode cX11_person 27 = .ok (.getfield 174, 3) := by decide +kernel
theorem dX11_person_30 : decode cX11_person 30 = .ok (.iload_n 1, 1) := by decide +kernel
theorem dX11_person_31 : decode cX11_person 31 = .ok (.iaload, 1) := by decide +kernel
theorem dX11_person_32 : decode cX11_person 32 = .ok (.goto 12, 3) := by decide +kernel
theorem dX11_person_35 : decode cX11_person 35 = .ok (.aload_n 0, 1) := by decide +kernel
theorem dX11_person_36 : decode cX11_person 36 = .ok (.getfield 39, 3) := by decide +kernel
theorem dX11_person_39 : decode cX11_person 39 = .ok (.getfield 177, 3) := by decide +kernel
theorem dX11_person_42 : decode cX11_person 42 = .ok (.iload_n 1, 1) := by decide +kernel
theorem dX11_person_43 : decode cX11_person 43 = .ok (.iaload, 1) := by decide +kernel
theorem dX11_person_44 : decode cX11_person 44 = .ok (.ireturn, 1) := by decide +kernel
theorem vc_X11_167 : XVw RX11 167 1 10 2 yX11_isPerson cX11_isPerson (some .boolean) := ⟨RX11, TX11, tyX11, 20, xk_10, rfl, ⟨by decide, by decide⟩, by decide +kernel, wt_618, wt_620, ws_9, wt_1, wt_621⟩
noncomputable def bs_X11_person : List (Nat × XB) := [
  (0, (sq (xLA 0) (sq (xLI 1) (sq (xCI 10 2 F_X11_isPerson) (tIf1 (fun x => decide (x = 0)) 17 [false, false, false] 8 [true, true, true]))))),
  (8, (sq (xLI 2) (sq (xC (.int 0)) (sq (xC (.int 1)) (sq (xCI 99 3 F_X11_within) (tIf1 (fun x => decide (¬ x = 0)) 19 [true, true, true] 17 [false, false, false])))))),
  (17, (sq (xC (.int (-1))) tRI)),
  (19, (sq (xLI 2) (tIf1 (fun x => decide (¬ x = 0)) 35 [true, true, false] 23 [true, true, false]))),
  (23, (sq (xLA 0) (sq (xGD 10 5 1) (sq (xGS 1 16 0 0) (sq (xLI 1) (sq (xAI 16 5) (tGo 44 [false, false, false]))))))),
  (35, (sq (xLA 0) (sq (xGD 10 5 1) (sq (xGS 1 17 0 0) (sq (xLI 1) (sq (xAI 17 5) (tGo 44 [false, false, false]))))))),
  (44, tRI)]
set_option maxRecDepth 100000 in
set_option maxHeartbeats 4000000 in
theorem s_X11_person : ∀ X : XCtx, XE X → X.2.2.1.1 = cX11_person → X.2.2.1.2.1 = 3 → X.2.2.1.2.2.1 = yX11_person.cls → X.2.2.1.2.2.2.1 = (some .int) → X.1.2.2.2.1 = { frames := 2, cells := 0, slots := 0, locals := 43 } → SndBs X bs_X11_person := by
  rintro ⟨⟨p, l, e, R, s⟩, Y, ⟨cc, nL, own, ret, Ts⟩, Z⟩ hE h1 h2 h3 h4 h5
  dsimp only at h1 h2 h3 h4 h5
  subst h1 h2 h3 h4 h5
  exact ⟨(n_sq (n_aload_n hE dX11_person_0) (n_sq (n_iload_n hE dX11_person_1) (n_sq (n_cIv hE m_X11_isPerson vc_X11_167 (show 1 + 1 ≤ 2 ∧ 8 + (2 + 11) + 22 ≤ 43 by decide) dX11_person_2) (n_ifeq hE (by decide) dX11_person_5)))),
    (n_sq (n_iload_n hE dX11_person_8) (n_sq (n_iconst hE (by decide) dX11_person_9) (n_sq (n_iconst hE (by decide) dX11_person_10) (n_sq (n_cIs hE m_X11_within vc_X11_170 (show 0 + 1 ≤ 2 ∧ 8 + (3 + 11) + 0 ≤ 43 by decide) dX11_person_11) (n_ifne hE (by decide) dX11_person_14))))),
    (n_sq (n_iconst hE (by decide) dX11_person_17) (n_ireturn hE rfl dX11_person_18)),
    (n_sq (n_iload_n hE dX11_person_19) (n_ifne hE (by decide) dX11_person_20)),
    (n_sq (n_aload_n hE dX11_person_23) (n_sq (n_getD hE xk_10 (k := 5) rfl (by decide) rfl wt_321 dX11_person_24) (n_sq (n_getS hE xk_1 (k := 9) rfl (by decide) rfl wt_133 dX11_person_27) (n_sq (n_iload_n hE dX11_person_30) (n_sq (n_iald hE rfl (by decide) dX11_person_31) (n_goto hE (by decide) dX11_person_32)))))),
    (n_sq (n_aload_n hE dX11_person_35) (n_sq (n_getD hE xk_10 (k := 5) rfl (by decide) rfl wt_321 dX11_person_36) (n_sq (n_getS hE xk_1 (k := 10) rfl (by decide) rfl wt_137 dX11_person_39) (n_sq (n_iload_n hE dX11_person_42) (n_sq (n_iald hE rfl (by decide) dX11_person_43) n_fall))))),
    (n_ireturn hE rfl dX11_person_44), trivial⟩
noncomputable def F_X11_person (as : List XV) (w : XW) : Option (Int32 × XW) := (xF 3 bs_X11_person as w).bind pI
theorem m_X11_person : XM yX11_person cX11_person 3 (some .int) 2 43 (eI F_X11_person) := xm_I (xm_of (by decide) s_X11_person)
noncomputable def q_X11_person_0 (x1 : Int32) (x2 : Int32) (w : XW) : Option XR := ev bs_X11_person 0 ([some (.inr (10, 0)), some (.inl (.int x1)), some (.inl (.int x2))], [], w)
noncomputable def q_X11_person_8 (x1 : Int32) (x2 : Int32) (w : XW) : Option XR := ev bs_X11_person 8 ([some (.inr (10, 0)), some (.inl (.int x1)), some (.inl (.int x2))], [], w)
noncomputable def q_X11_person_17 (w : XW) : Option XR := ev bs_X11_person 17 ([none, none, none], [], w)
noncomputable def q_X11_person_19 (x1 : Int32) (x2 : Int32) (w : XW) : Option XR := ev bs_X11_person 19 ([some (.inr (10, 0)), some (.inl (.int x1)), some (.inl (.int x2))], [], w)
noncomputable def q_X11_person_23 (x1 : Int32) (w : XW) : Option XR := ev bs_X11_person 23 ([some (.inr (10, 0)), some (.inl (.int x1)), none], [], w)
noncomputable def q_X11_person_35 (x1 : Int32) (w : XW) : Option XR := ev bs_X11_person 35 ([some (.inr (10, 0)), some (.inl (.int x1)), none], [], w)
noncomputable def q_X11_person_44 (s0 : Int32) (w : XW) : Option XR := ev bs_X11_person 44 ([none, none, none], [.inl (.int s0)], w)
theorem e_X11_person_0 (x1 : Int32) (x2 : Int32) (w : XW) : q_X11_person_0 x1 x2 w = ((F_X11_isPerson [.inr (10, 0), .inl (.int x1)] w).bind fun r0 => (bif decide (r0.1 = 0) then (q_X11_person_17 r0.2) else (q_X11_person_8 x1 x2 r0.2))) := (ev_eq _ _ _).trans rfl
theorem e_X11_person_8 (x1 : Int32) (x2 : Int32) (w : XW) : q_X11_person_8 x1 x2 w = ((F_X11_within [.inl (.int x2), .inl (.int 0), .inl (.int 1)] w).bind fun r0 => (bif decide (¬ r0.1 = 0) then (q_X11_person_19 x1 x2 r0.2) else (q_X11_person_17 r0.2))) := (ev_eq _ _ _).trans rfl
theorem e_X11_person_17 (w : XW) : q_X11_person_17 w = (some (some (.inl (.int (-1))), w)) := (ev_eq _ _ _).trans rfl
theorem e_X11_person_19 (x1 : Int32) (x2 : Int32) (w : XW) : q_X11_person_19 x1 x2 w = (bif decide (¬ x2 = 0) then (q_X11_person_35 x1 w) else (q_X11_person_23 x1 w)) := (ev_eq _ _ _).trans rfl
theorem e_X11_person_23 (x1 : Int32) (w : XW) : q_X11_person_23 x1 w = ((gR w 10 0 5).bind fun j0 => (if x1 < 0 ∨ 5 ≤ x1.toNatClampNeg then none else (q_X11_person_44 (gI w 16 j0 x1.toNatClampNeg) w))) := (ev_eq _ _ _).trans rfl
theorem e_X11_person_35 (x1 : Int32) (w : XW) : q_X11_person_35 x1 w = ((gR w 10 0 5).bind fun j0 => (if x1 < 0 ∨ 5 ≤ x1.toNatClampNeg then none else (q_X11_person_44 (gI w 17 j0 x1.toNatClampNeg) w))) := (ev_eq _ _ _).trans rfl
theorem e_X11_person_44 (s0 : Int32) (w : XW) : q_X11_person_44 s0 w = (some (some (.inl (.int s0)), w)) := (ev_eq _ _ _).trans rfl
theorem f_X11_person (x1 : Int32) (x2 : Int32) (w : XW) : F_X11_person [.inr (10, 0), .inl (.int x1), .inl (.int x2)] w = (q_X11_person_0 x1 x2 w).bind pI := rfl

-- WinterKeep.isField(I)Z
theorem dX11_isField_0 : decode cX11_isField 0 = .ok (.iload_n 1, 1) := by decide +kernel
theorem dX11_isField_1 : decode cX11_isField 1 = .ok (.iconst 0, 1) := by decide +kernel
theorem dX11_isField_2 : decode cX11_isField 2 = .ok (.aload_n 0, 1) := by decide +kernel
theorem dX11_isField_3 : decode cX11_isField 3 = .ok (.getfield 39, 3) := by decide +kernel
theorem dX11_isField_6 : decode cX11_isField 6 = .ok (.getfield 203, 3) := by decide +kernel
theorem dX11_isField_9 : decode cX11_isField 9 = .ok (.iconst 1, 1) := by decide +kernel
theorem dX11_isField_10 : decode cX11_isField 10 = .ok (.isub, 1) := by decide +kernel
theorem dX11_isField_11 : decode cX11_isField 11 = .ok (.invokestatic 170, 3) := by decide +kernel
theorem dX11_isField_14 : decode cX11_isField 14 = .ok (.ireturn, 1) := by decide +kernel
noncomputable def bs_X11_isField : List (Nat × XB) := [
  (0, (sq (xLI 1) (sq (xC (.int 0)) (sq (xLA 0) (sq (xGD 10 5 1) (sq (xGI 1 5) (sq (xC (.int 1)) (sq (xI2 (· - ·)) (sq (xCI 99 3 F_X11_within) tRZ)))))))))]
set_option maxRecDepth 100000 in
set_option maxHeartbeats 4000000 in
theorem s_X11_isField : ∀ X : XCtx, XE X → X.2.2.1.1 = cX11_isField → X.2.2.1.2.1 = 2 → X.2.2.1.2.2.1 = yX11_isField.cls → X.2.2.1.2.2.2.1 = (some .boolean) → X.1.2.2.2.1 = { frames := 1, cells := 0, slots := 0, locals := 22 } → SndBs X bs_X11_isField := by
  rintro ⟨⟨p, l, e, R, s⟩, Y, ⟨cc, nL, own, ret, Ts⟩, Z⟩ hE h1 h2 h3 h4 h5
  dsimp only at h1 h2 h3 h4 h5
  subst h1 h2 h3 h4 h5
  exact ⟨(n_sq (n_iload_n hE dX11_isField_0) (n_sq (n_iconst hE (by decide) dX11_isField_1) (n_sq (n_aload_n hE dX11_isField_2) (n_sq (n_getD hE xk_10 (k := 5) rfl (by decide) rfl wt_321 dX11_isField_3) (n_sq (n_getI hE xk_1 (k := 5) rfl (by decide) rfl wt_118 dX11_isField_6) (n_sq (n_iconst hE (by decide) dX11_isField_9) (n_sq (n_isub hE dX11_isField_10) (n_sq (n_cIs hE m_X11_within vc_X11_170 (show 0 + 1 ≤ 1 ∧ 8 + (3 + 11) + 0 ≤ 22 by decide) dX11_isField_11) (n_zreturn hE rfl dX11_isField_14))))))))), trivial⟩
noncomputable def F_X11_isField (as : List XV) (w : XW) : Option (Int32 × XW) := (xF 2 bs_X11_isField as w).bind pI
theorem m_X11_isField : XM yX11_isField cX11_isField 2 (some .boolean) 1 22 (eI F_X11_isField) := xm_I (xm_of (by decide) s_X11_isField)
noncomputable def q_X11_isField_0 (x1 : Int32) (w : XW) : Option XR := ev bs_X11_isField 0 ([some (.inr (10, 0)), some (.inl (.int x1))], [], w)
theorem e_X11_isField_0 (x1 : Int32) (w : XW) : q_X11_isField_0 x1 w = ((gR w 10 0 5).bind fun j0 => ((F_X11_within [.inl (.int x1), .inl (.int 0), .inl (.int ((gI w 1 j0 5) - 1))] w).bind fun r1 => (if r1.1 = 0 ∨ r1.1 = 1 then some (some (.inl (.int r1.1)), r1.2) else none))) := (ev_eq _ _ _).trans rfl
theorem f_X11_isField (x1 : Int32) (w : XW) : F_X11_isField [.inr (10, 0), .inl (.int x1)] w = (q_X11_isField_0 x1 w).bind pI := rfl
