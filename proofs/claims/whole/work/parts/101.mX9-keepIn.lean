-- WinterKeep$Scene.keepIn(I)I
theorem dX9_keepIn_0 : decode cX9_keepIn 0 = .ok (.iconst 0, 1) := by decide +kernel
theorem dX9_keepIn_1 : decode cX9_keepIn 1 = .ok (.istore_n 2, 1) := by decide +kernel
theorem dX9_keepIn_2 : decode cX9_keepIn 2 = .ok (.iload_n 2, 1) := by decide +kernel
theorem dX9_keepIn_3 : decode cX9_keepIn 3 = .ok (.aload_n 0, 1) := by decide +kernel
theorem dX9_keepIn_4 : decode cX9_keepIn 4 = .ok (.getfield 9, 3) := by decide +kernel
theorem dX9_keepIn_7 : decode cX9_keepIn 7 = .ok (.if_icmp .ge 21, 3) := by decide +kernel
theorem dX9_keepIn_10 : decode cX9_keepIn 10 = .ok (.aload_n 0, 1) := by decide +kernel
theorem dX9_keepIn_11 : decode cX9_keepIn 11 = .ok (.getfield 25, 3) := by decide +kernel
theorem dX9_keepIn_14 : decode cX9_keepIn 14 = .ok (.iload_n 2, 1) := by decide +kernel
theorem dX9_keepIn_15 : decode cX9_keepIn 15 = .ok (.iaload, 1) := by decide +kernel
theorem dX9_keepIn_16 : decode cX9_keepIn 16 = .ok (.iload_n 1, 1) := by decide +kernel
theorem dX9_keepIn_17 : decode cX9_keepIn 17 = .ok (.if_icmp .ne 5, 3) := by decide +kernel
theorem dX9_keepIn_20 : decode cX9_keepIn 20 = .ok (.iload_n 2, 1) := by decide +kernel
theorem dX9_keepIn_21 : decode cX9_keepIn 21 = .ok (.ireturn, 1) := by decide +kernel
theorem dX9_keepIn_22 : decode cX9_keepIn 22 = .ok (.iinc 2 1, 3) := by decide +kernel
theorem dX9_keepIn_25 : decode cX9_keepIn 25 = .ok (.goto (-23), 3) := by decide +kernel
theorem dX9_keepIn_28 : decode cX9_keepIn 28 = .ok (.iconst (-1), 1) := by decide +kernel
theorem dX9_keepIn_29 : decode cX9_keepIn 29 = .ok (.ireturn, 1) := by decide +kernel
noncomputable def bs_X9_keepIn : List (Nat × XB) := [
  (0, (sq (xC (.int 0)) (sq (xSI 2) (tGo 2 [true, true, true])))),
  (2, (sq (xLI 2) (sq (xLA 0) (sq (xGI 8 0) (tIf2 (fun x y => decide (y ≤ x)) 28 [false, false, false] 10 [true, true, true]))))),
  (10, (sq (xLA 0) (sq (xGS 8 32 0 0) (sq (xLI 2) (sq (xAI 32 6) (sq (xLI 1) (tIf2 (fun x y => decide (¬ x = y)) 22 [true, true, true] 20 [false, false, true]))))))),
  (20, (sq (xLI 2) tRI)),
  (22, (sq (xInc 2 1) (tGo 2 [true, true, true]))),
  (28, (sq (xC (.int (-1))) tRI))]
set_option maxRecDepth 100000 in
set_option maxHeartbeats 4000000 in
theorem s_X9_keepIn : ∀ X : XCtx, XE X → X.2.2.1.1 = cX9_keepIn → X.2.2.1.2.1 = 3 → X.2.2.1.2.2.1 = yX9_keepIn.cls → X.2.2.1.2.2.2.1 = (some .int) → X.1.2.2.2.1 = { frames := 0, cells := 0, slots := 0, locals := 0 } → SndBs X bs_X9_keepIn := by
  rintro ⟨⟨p, l, e, R, s⟩, Y, ⟨cc, nL, own, ret, Ts⟩, Z⟩ hE h1 h2 h3 h4 h5
  dsimp only at h1 h2 h3 h4 h5
  subst h1 h2 h3 h4 h5
  exact ⟨(n_sq (n_iconst hE (by decide) dX9_keepIn_0) (n_sq (n_istore_n hE (show (2 : Nat) < 3 by decide) dX9_keepIn_1) n_fall)),
    (n_sq (n_iload_n hE dX9_keepIn_2) (n_sq (n_aload_n hE dX9_keepIn_3) (n_sq (n_getI hE xk_8 (k := 0) rfl (by decide) rfl wt_173 dX9_keepIn_4) (n_ifcge hE (by decide) dX9_keepIn_7)))),
    (n_sq (n_aload_n hE dX9_keepIn_10) (n_sq (n_getS hE xk_8 (k := 4) rfl (by decide) rfl wt_187 dX9_keepIn_11) (n_sq (n_iload_n hE dX9_keepIn_14) (n_sq (n_iald hE rfl (by decide) dX9_keepIn_15) (n_sq (n_iload_n hE dX9_keepIn_16) (n_ifcne hE (by decide) dX9_keepIn_17)))))),
    (n_sq (n_iload_n hE dX9_keepIn_20) (n_ireturn hE rfl dX9_keepIn_21)),
    (n_sq (n_iinc hE (by decide) (show (2 : Nat) < 3 by decide) dX9_keepIn_22) (n_goto hE (by decide) dX9_keepIn_25)),
    (n_sq (n_iconst hE (by decide) dX9_keepIn_28) (n_ireturn hE rfl dX9_keepIn_29)), trivial⟩
noncomputable def F_X9_keepIn (as : List XV) (w : XW) : Option (Int32 × XW) := (xF 3 bs_X9_keepIn as w).bind pI
theorem m_X9_keepIn : XM yX9_keepIn cX9_keepIn 3 (some .int) 0 0 (eI F_X9_keepIn) := xm_I (xm_of (by decide) s_X9_keepIn)
noncomputable def q_X9_keepIn_0 (i0 : Nat) (x1 : Int32) (w : XW) : Option XR := ev bs_X9_keepIn 0 ([some (.inr (8, i0)), some (.inl (.int x1)), none], [], w)
noncomputable def q_X9_keepIn_2 (i0 : Nat) (x1 : Int32) (x2 : Int32) (w : XW) : Option XR := ev bs_X9_keepIn 2 ([some (.inr (8, i0)), some (.inl (.int x1)), some (.inl (.int x2))], [], w)
noncomputable def q_X9_keepIn_10 (i0 : Nat) (x1 : Int32) (x2 : Int32) (w : XW) : Option XR := ev bs_X9_keepIn 10 ([some (.inr (8, i0)), some (.inl (.int x1)), some (.inl (.int x2))], [], w)
noncomputable def q_X9_keepIn_20 (x2 : Int32) (w : XW) : Option XR := ev bs_X9_keepIn 20 ([none, none, some (.inl (.int x2))], [], w)
noncomputable def q_X9_keepIn_22 (i0 : Nat) (x1 : Int32) (x2 : Int32) (w : XW) : Option XR := ev bs_X9_keepIn 22 ([some (.inr (8, i0)), some (.inl (.int x1)), some (.inl (.int x2))], [], w)
noncomputable def q_X9_keepIn_28 (w : XW) : Option XR := ev bs_X9_keepIn 28 ([none, none, none], [], w)
theorem e_X9_keepIn_0 (i0 : Nat) (x1 : Int32) (w : XW) : q_X9_keepIn_0 i0 x1 w = (q_X9_keepIn_2 i0 x1 0 w) := (ev_eq _ _ _).trans rfl
theorem e_X9_keepIn_2 (i0 : Nat) (x1 : Int32) (x2 : Int32) (w : XW) : q_X9_keepIn_2 i0 x1 x2 w = (bif decide ((gI w 8 i0 0) ≤ x2) then (q_X9_keepIn_28 w) else (q_X9_keepIn_10 i0 x1 x2 w)) := (ev_eq _ _ _).trans rfl
theorem e_X9_keepIn_10 (i0 : Nat) (x1 : Int32) (x2 : Int32) (w : XW) : q_X9_keepIn_10 i0 x1 x2 w = (if x2 < 0 ∨ 6 ≤ x2.toNatClampNeg then none else (bif decide (¬ (gI w 32 i0 x2.toNatClampNeg) = x1) then (q_X9_keepIn_22 i0 x1 x2 w) else (q_X9_keepIn_20 x2 w))) := (ev_eq _ _ _).trans rfl
theorem e_X9_keepIn_20 (x2 : Int32) (w : XW) : q_X9_keepIn_20 x2 w = (some (some (.inl (.int x2)), w)) := (ev_eq _ _ _).trans rfl
theorem e_X9_keepIn_22 (i0 : Nat) (x1 : Int32) (x2 : Int32) (w : XW) : q_X9_keepIn_22 i0 x1 x2 w = (q_X9_keepIn_2 i0 x1 (x2 + 1) w) := (ev_eq _ _ _).trans rfl
theorem e_X9_keepIn_28 (w : XW) : q_X9_keepIn_28 w = (some (some (.inl (.int (-1))), w)) := (ev_eq _ _ _).trans rfl
theorem f_X9_keepIn (i0 : Nat) (x1 : Int32) (w : XW) : F_X9_keepIn [.inr (8, i0), .inl (.int x1)] w = (q_X9_keepIn_0 i0 x1 w).bind pI := rfl

-- WinterKeep.keptOff(II)I
theorem dX11_keptOff_0 : decode cX11_keptOff 0 = .ok (.aload_n 0, 1) := by decide +kernel
theorem dX11_keptOff_1 : decode cX11_keptOff 1 = .ok (.iload_n 1, 1) := by decide +kernel
theorem dX11_keptOff_2 : decode cX11_keptOff 2 = .ok (.invokevirtual 145, 3) := by decide +kernel
theorem dX11_keptOff_5 : decode cX11_keptOff 5 = .ok (.ifCond .eq 35, 3) := by decide +kernel
theorem dX11_keptOff_8 : decode cX11_keptOff 8 = .ok (.aload_n 0, 1) := by decide +kernel
theorem dX11_keptOff_9 : decode cX11_keptOff 9 = .ok (.iload_n 2, 1) := by decide +kernel
theorem dX11_keptOff_10 : decode cX11_keptOff 10 = .ok (.invokevirtual 180, 3) := by decide +kernel
theorem dX11_keptOff_13 : decode cX11_keptOff 13 = .ok (.ifCond .eq 27, 3) := by decide +kernel
theorem dX11_keptOff_16 : decode cX11_keptOff 16 = .ok (.aload_n 0, 1) := by decide +kernel
theorem dX11_keptOff_17 : decode cX11_keptOff 17 = .ok (.getfield 39, 3) := by decide +kernel
theorem dX11_keptOff_20 : decode cX11_keptOff 20 = .ok (.getfield 183, 3) := by decide +kernel
theorem dX11_keptOff_23 : decode cX11_keptOff 23 = .ok (.iload_n 2, 1) := by decide +kernel
theorem dX11_keptOff_24 : decode cX11_keptOff 24 = .ok (.iaload, 1) := by decide +kernel
theorem dX11_keptOff_25 : decode cX11_keptOff 25 = .ok (.aload_n 0, 1) := by decide +kernel
theorem dX11_keptOff_26 : decode cX11_keptOff 26 = .ok (.getfield 46, 3) := by decide +kernel
theorem dX11_keptOff_29 : decode cX11_keptOff 29 = .ok (.getfield 155, 3) := by decide +kernel
theorem dX11_keptOff_32 : decode cX11_keptOff 32 = .ok (.iload_n 1, 1) := by decide +kernel
theorem dX11_keptOff_33 : decode cX11_keptOff 33 = .ok (.iaload, 1) := by decide +kernel
theorem dX11_keptOff_34 : decode cX11_keptOff 34 = .ok (.invokestatic 222, 3) := by decide +kernel
theorem dX11_keptOff_37 : decode cX11_keptOff 37 = .ok (.goto 4, 3) := by decide +kernel
theorem dX11_keptOff_40 : decode cX11_keptOff 40 = .ok (.iconst 0, 1) := by decide +kernel
theorem dX11_keptOff_41 : decode cX11_keptOff 41 = .ok (.ireturn, 1) := by decide +kernel
theorem vc_X11_180 : XVw RX11 180 1 10 2 yX11_isField cX11_isField (some .boolean) := ⟨RX11, TX11, tyX11, 20, xk_10, rfl, ⟨by decide, by decide⟩, by decide +kernel, wt_626, wt_628, ws_10, wt_1, wt_629⟩
noncomputable def bs_X11_keptOff : List (Nat × XB) := [
  (0, (sq (xLA 0) (sq (xLI 1) (sq (xCI 10 2 F_X11_isKeep) (tIf1 (fun x => decide (x = 0)) 40 [false, false, false] 8 [true, true, true]))))),
  (8, (sq (xLA 0) (sq (xLI 2) (sq (xCI 10 2 F_X11_isField) (tIf1 (fun x => decide (x = 0)) 40 [false, false, false] 16 [true, true, true]))))),
  (16, (sq (xLA 0) (sq (xGD 10 5 1) (sq (xGS 1 18 0 0) (sq (xLI 2) (sq (xAI 18 4) (sq (xLA 0) (sq (xGS 10 8 1 0) (sq (xGS 8 30 0 0) (sq (xLI 1) (sq (xAI 30 6) (sq (xM2 (fun x y => if y < x then y else x)) (tGo 41 [false, false, false]))))))))))))),
  (40, (sq (xC (.int 0)) (tGo 41 [false, false, false]))),
  (41, tRI)]
set_option maxRecDepth 100000 in
set_option maxHeartbeats 4000000 in
theorem s_X11_keptOff : ∀ X : XCtx, XE X → X.2.2.1.1 = cX11_keptOff → X.2.2.1.2.1 = 3 → X.2.2.1.2.2.1 = yX11_keptOff.cls → X.2.2.1.2.2.2.1 = (some .int) → X.1.2.2.2.1 = { frames := 2, cells := 0, slots := 0, locals := 43 } → SndBs X bs_X11_keptOff := by
  rintro ⟨⟨p, l, e, R, s⟩, Y, ⟨cc, nL, own, ret, Ts⟩, Z⟩ hE h1 h2 h3 h4 h5
  dsimp only at h1 h2 h3 h4 h5
  subst h1 h2 h3 h4 h5
  exact ⟨(n_sq (n_aload_n hE dX11_keptOff_0) (n_sq (n_iload_n hE dX11_keptOff_1) (n_sq (n_cIv hE m_X11_isKeep vc_X11_145 (show 1 + 1 ≤ 2 ∧ 8 + (2 + 11) + 22 ≤ 43 by decide) dX11_keptOff_2) (n_ifeq hE (by decide) dX11_keptOff_5)))),
    (n_sq (n_aload_n hE dX11_keptOff_8) (n_sq (n_iload_n hE dX11_keptOff_9) (n_sq (n_cIv hE m_X11_isField vc_X11_180 (show 1 + 1 ≤ 2 ∧ 8 + (2 + 11) + 22 ≤ 43 by decide) dX11_keptOff_10) (n_ifeq hE (by decide) dX11_keptOff_13)))),
    (n_sq (n_aload_n hE dX11_keptOff_16) (n_sq (n_getD hE xk_10 (k := 5) rfl (by decide) rfl wt_321 dX11_keptOff_17) (n_sq (n_getS hE xk_1 (k := 11) rfl (by decide) rfl wt_141 dX11_keptOff_20) (n_sq (n_iload_n hE dX11_keptOff_23) (n_sq (n_iald hE rfl (by decide) dX11_keptOff_24) (n_sq (n_aload_n hE dX11_keptOff_25) (n_sq (n_getS hE xk_10 (k := 6) rfl (by decide) rfl wt_322 dX11_keptOff_26) (n_sq (n_getS hE xk_8 (k := 2) rfl (by decide) rfl wt_183 dX11_keptOff_29) (n_sq (n_iload_n hE dX11_keptOff_32) (n_sq (n_iald hE rfl (by decide) dX11_keptOff_33) (n_sq (n_mmin hE wt_638 wt_577 wt_19 wt_578 (show 1 ≤ 2 ∧ 24 ≤ 43 by decide) dX11_keptOff_34) (n_goto hE (by decide) dX11_keptOff_37)))))))))))),
    (n_sq (n_iconst hE (by decide) dX11_keptOff_40) n_fall),
    (n_ireturn hE rfl dX11_keptOff_41), trivial⟩
noncomputable def F_X11_keptOff (as : List XV) (w : XW) : Option (Int32 × XW) := (xF 3 bs_X11_keptOff as w).bind pI
theorem m_X11_keptOff : XM yX11_keptOff cX11_keptOff 3 (some .int) 2 43 (eI F_X11_keptOff) := xm_I (xm_of (by decide) s_X11_keptOff)
noncomputable def q_X11_keptOff_0 (x1 : Int32) (x2 : Int32) (w : XW) : Option XR := ev bs_X11_keptOff 0 ([some (.inr (10, 0)), some (.inl (.int x1)), some (.inl (.int x2))], [], w)
noncomputable def q_X11_keptOff_8 (x1 : Int32) (x2 : Int32) (w : XW) : Option XR := ev bs_X11_keptOff 8 ([some (.inr (10, 0)), some (.inl (.int x1)), some (.inl (.int x2))], [], w)
noncomputable def q_X11_keptOff_16 (x1 : Int32) (x2 : Int32) (w : XW) : Option XR := ev bs_X11_keptOff 16 ([some (.inr (10, 0)), some (.inl (.int x1)), some (.inl (.int x2))], [], w)
noncomputable def q_X11_keptOff_40 (w : XW) : Option XR := ev bs_X11_keptOff 40 ([none, none, none], [], w)
noncomputable def q_X11_keptOff_41 (s0 : Int32) (w : XW) : Option XR := ev bs_X11_keptOff 41 ([none, none, none], [.inl (.int s0)], w)
theorem e_X11_keptOff_0 (x1 : Int32) (x2 : Int32) (w : XW) : q_X11_keptOff_0 x1 x2 w = ((F_X11_isKeep [.inr (10, 0), .inl (.int x1)] w).bind fun r0 => (bif decide (r0.1 = 0) then (q_X11_keptOff_40 r0.2) else (q_X11_keptOff_8 x1 x2 r0.2))) := (ev_eq _ _ _).trans rfl
theorem e_X11_keptOff_8 (x1 : Int32) (x2 : Int32) (w : XW) : q_X11_keptOff_8 x1 x2 w = ((F_X11_isField [.inr (10, 0), .inl (.int x2)] w).bind fun r0 => (bif decide (r0.1 = 0) then (q_X11_keptOff_40 r0.2) else (q_X11_keptOff_16 x1 x2 r0.2))) := (ev_eq _ _ _).trans rfl
theorem e_X11_keptOff_16 (x1 : Int32) (x2 : Int32) (w : XW) : q_X11_keptOff_16 x1 x2 w = ((gR w 10 0 5).bind fun j0 => (if x2 < 0 ∨ 4 ≤ x2.toNatClampNeg then none else (if x1 < 0 ∨ 6 ≤ x1.toNatClampNeg then none else (q_X11_keptOff_41 (if (gI w 30 0 x1.toNatClampNeg) < (gI w 18 j0 x2.toNatClampNeg) then (gI w 30 0 x1.toNatClampNeg) else (gI w 18 j0 x2.toNatClampNeg)) w)))) := (ev_eq _ _ _).trans rfl
theorem e_X11_keptOff_40 (w : XW) : q_X11_keptOff_40 w = (q_X11_keptOff_41 0 w) := (ev_eq _ _ _).trans rfl
theorem e_X11_keptOff_41 (s0 : Int32) (w : XW) : q_X11_keptOff_41 s0 w = (some (some (.inl (.int s0)), w)) := (ev_eq _ _ _).trans rfl
theorem f_X11_keptOff (x1 : Int32) (x2 : Int32) (w : XW) : F_X11_keptOff [.inr (10, 0), .inl (.int x1), .inl (.int x2)] w = (q_X11_keptOff_0 x1 x2 w).bind pI := rfl

-- WinterKeep.field(II)I
theorem dX11_field_0 : decode cX11_field 0 = .ok (.aload_n 0, 1) := by decide +kernel
theorem dX11_field_1 : decode cX11_field 1 = .ok (.iload_n 1, 1) := by decide +kernel
theorem dX11_field_2 : decode cX11_field 2 = .ok (.invokevirtual 180, 3) := by decide +kernel
theorem dX11_field_5 : decode cX11_field 5 = .ok (.ifCond .eq 12, 3) := by decide +kernel
theorem dX11_field_8 : decode cX11_field 8 = .ok (.iload_n 2, 1) := by decide +kernel
theorem dX11_field_9 : decode cX11_field 9 = .ok (.iconst 0, 1) := by decide +kernel
theorem dX11_field_10 : decode cX11_field 10 = .ok (.iconst 2, 1) := by decide +kernel
theorem dX11_field_11 : decode cX11_field 11 = .ok (.invokestatic 170, 3) := by decide +kernel
theorem dX11_field_14 : decode cX11_field 14 = .ok (.ifCond .ne 6, 3) := by decide +kernel
theorem dX11_field_17 : decode cX11_field 17 = .ok (.bipush (-2), 2) := by decide +kernel
theorem dX11_field_19 : decode cX11_field 19 = .ok (.ireturn, 1) := by decide +kernel
theorem dX11_field_20 : decode cX11_field 20 = .ok (.iload_n 2, 1) := by decide +kernel
theorem dX11_field_21 : decode cX11_field 21 = .ok (.ifCond .ne 13, 3) := by decide +kernel
theorem dX11_field_24 : decode cX11_field 24 = .ok (.aload_n 0, 1) := by decide +kernel
theorem dX11_field_25 : decode cX11_field 25 = .ok (.getfield 39, 3) := by decide +kernel
theorem dX11_field_28 : decode cX11_field 28 = .ok (.getfield 183, 3) := by decide +kernel
theorem dX11_field_31 : decode cX11_field 31 = .ok (.iload_n 1, 1) := by decide +kernel
theorem dX11_field_32 : decode cX11_field 32 = .ok (.iaload, 1) := by decide +kernel
theorem dX11_field_33 : decode cX11_field 33 = .ok (.ireturn, 1) := by decide +kernel
theorem dX11_field_34 : decode cX11_field 34 = .ok (.aload_n 0, 1) := by decide +kernel
theorem dX11_field_35 : decode cX11_field 35 = .ok (.getfield 46, 3) := by decide +kernel
theorem dX11_field_38 : decode cX11_field 38 = .ok (.iload_n 1, 1) := by decide +kernel
theorem dX11_field_39 : decode cX11_field 39 = .ok (.invokevirtual 186, 3) := by decide +kernel
theorem dX11_field_42 : decode cX11_field 42 = .ok (.istore_n 3, 1) := by decide +kernel
theorem dX11_field_43 : decode cX11_field 43 = .ok (.iload_n 2, 1) := by decide +kernel
theorem dX11_field_44 : decode cX11_field 44 = .ok (.iconst 1, 1) := by decide +kernel
theorem dX11_field_45 : decode cX11_field 45 = .ok (.if_icmp .ne 7, 3) := by decide +kernel
theorem dX11_field_48 : decode cX11_field 48 = .ok (.iload_n 3, 1) := by decide +kernel
theorem dX11_field_49 : decode cX11_field 49 = .ok (.goto 9, 3) := by decide +kernel
theorem dX11_field_52 : decode cX11_field 52 = .ok (.aload_n 0, 1) := by decide +kernel
theorem dX11_field_53 : decode cX11_field 53 = .ok (.iload_n 3, 1) := by decide +kernel
theorem dX11_field_54 : decode cX11_field 54 = .ok (.iload_n 1, 1) := by decide +kernel
theorem dX11_field_55 : decode cX11_field 55 = .ok (.invokevirtual 190, 3) := by decide +kernel
theorem dX11_field_58 : decode cX11_field 58 = .ok (.ireturn, 1) := by decide +kernel
theorem vc_X11_186 : XVw RX11 186 1 8 3 yX9_keepIn cX9_keepIn (some .int) := ⟨RX9, TX9, tyX9, 6, xk_8, rfl, ⟨by decide, by decide⟩, by decide +kernel, wt_630, wt_631, wt_632, wt_5, wt_633⟩
theorem vc_X11_190 : XVw RX11 190 2 10 3 yX11_keptOff cX11_keptOff (some .int) := ⟨RX11, TX11, tyX11, 20, xk_10, rfl, ⟨by decide, by decide⟩, by decide +kernel, wt_634, wt_636, ws_11, wt_1, wt_637⟩
noncomputable def bs_X11_field : List (Nat × XB) := [
  (0, (sq (xLA 0) (sq (xLI 1) (sq (xCI 10 2 F_X11_isField) (tIf1 (fun x => decide (x = 0)) 17 [false, false, false, false] 8 [true, true, true, false]))))),
  (8, (sq (xLI 2) (sq (xC (.int 0)) (sq (xC (.int 2)) (sq (xCI 99 3 F_X11_within) (tIf1 (fun x => decide (¬ x = 0)) 20 [true, true, true, false] 17 [false, false, false, false])))))),
  (17, (sq (xC (.int (-2))) tRI)),
  (20, (sq (xLI 2) (tIf1 (fun x => decide (¬ x = 0)) 34 [true, true, true, false] 24 [true, true, false, false]))),
  (24, (sq (xLA 0) (sq (xGD 10 5 1) (sq (xGS 1 18 0 0) (sq (xLI 1) (sq (xAI 18 4) tRI)))))),
  (34, (sq (xLA 0) (sq (xGS 10 8 1 0) (sq (xLI 1) (sq (xCI 8 2 F_X9_keepIn) (sq (xSI 3) (sq (xLI 2) (sq (xC (.int 1)) (tIf2 (fun x y => decide (¬ x = y)) 52 [true, true, false, true] 48 [false, false, false, true]))))))))),
  (48, (sq (xLI 3) (tGo 58 [false, false, false, false]))),
  (52, (sq (xLA 0) (sq (xLI 3) (sq (xLI 1) (sq (xCI 10 3 F_X11_keptOff) (tGo 58 [false, false, false, false])))))),
  (58, tRI)]
set_option maxRecDepth 100000 in
set_option maxHeartbeats 4000000 in
theorem s_X11_field : ∀ X : XCtx, XE X → X.2.2.1.1 = cX11_field → X.2.2.1.2.1 = 4 → X.2.2.1.2.2.1 = yX11_field.cls → X.2.2.1.2.2.2.1 = (some .int) → X.1.2.2.2.1 = { frames := 3, cells := 0, slots := 0, locals := 65 } → SndBs X bs_X11_field := by
  rintro ⟨⟨p, l, e, R, s⟩, Y, ⟨cc, nL, own, ret, Ts⟩, Z⟩ hE h1 h2 h3 h4 h5
  dsimp only at h1 h2 h3 h4 h5
  subst h1 h2 h3 h4 h5
  exact ⟨(n_sq (n_aload_n hE dX11_field_0) (n_sq (n_iload_n hE dX11_field_1) (n_sq (n_cIv hE m_X11_isField vc_X11_180 (show 1 + 1 ≤ 3 ∧ 8 + (2 + 11) + 22 ≤ 65 by decide) dX11_field_2) (n_ifeq hE (by decide) dX11_field_5)))),
    (n_sq (n_iload_n hE dX11_field_8) (n_sq (n_iconst hE (by decide) dX11_field_9) (n_sq (n_iconst hE (by decide) dX11_field_10) (n_sq (n_cIs hE m_X11_within vc_X11_170 (show 0 + 1 ≤ 3 ∧ 8 + (3 + 11) + 0 ≤ 65 by decide) dX11_field_11) (n_ifne hE (by decide) dX11_field_14))))),
    (n_sq (n_bipush hE (by decide) dX11_field_17) (n_ireturn hE rfl dX11_field_19)),
    (n_sq (n_iload_n hE dX11_field_20) (n_ifne hE (by decide) dX11_field_21)),
    (n_sq (n_aload_n hE dX11_field_24) (n_sq (n_getD hE xk_10 (k := 5) rfl (by decide) rfl wt_321 dX11_field_25) (n_sq (n_getS hE xk_1 (k := 11) rfl (by decide) rfl wt_141 dX11_field_28) (n_sq (n_iload_n hE dX11_field_31) (n_sq (n_iald hE rfl (by decide) dX11_field_32) (n_ireturn hE rfl dX11_field_33)))))),
    (n_sq (n_aload_n hE dX11_field_34) (n_sq (n_getS hE xk_10 (k := 6) rfl (by decide) rfl wt_322 dX11_field_35) (n_sq (n_iload_n hE dX11_field_38) (n_sq (n_cIv hE m_X9_keepIn vc_X11_186 (show 0 + 1 ≤ 3 ∧ 8 + (3 + 11) + 0 ≤ 65 by decide) dX11_field_39) (n_sq (n_istore_n hE (show (3 : Nat) < 4 by decide) dX11_field_42) (n_sq (n_iload_n hE dX11_field_43) (n_sq (n_iconst hE (by decide) dX11_field_44) (n_ifcne hE (by decide) dX11_field_45)))))))),
    (n_sq (n_iload_n hE dX11_field_48) (n_goto hE (by decide) dX11_field_49)),
    (n_sq (n_aload_n hE dX11_field_52) (n_sq (n_iload_n hE dX11_field_53) (n_sq (n_iload_n hE dX11_field_54) (n_sq (n_cIv hE m_X11_keptOff vc_X11_190 (show 2 + 1 ≤ 3 ∧ 8 + (3 + 11) + 43 ≤ 65 by decide) dX11_field_55) n_fall)))),
    (n_ireturn hE rfl dX11_field_58), trivial⟩
noncomputable def F_X11_field (as : List XV) (w : XW) : Option (Int32 × XW) := (xF 4 bs_X11_field as w).bind pI
theorem m_X11_field : XM yX11_field cX11_field 4 (some .int) 3 65 (eI F_X11_field) := xm_I (xm_of (by decide) s_X11_field)
noncomputable def q_X11_field_0 (x1 : Int32) (x2 : Int32) (w : XW) : Option XR := ev bs_X11_field 0 ([some (.inr (10, 0)), some (.inl (.int x1)), some (.inl (.int x2)), none], [], w)
noncomputable def q_X11_field_8 (x1 : Int32) (x2 : Int32) (w : XW) : Option XR := ev bs_X11_field 8 ([some (.inr (10, 0)), some (.inl (.int x1)), some (.inl (.int x2)), none], [], w)
noncomputable def q_X11_field_17 (w : XW) : Option XR := ev bs_X11_field 17 ([none, none, none, none], [], w)
noncomputable def q_X11_field_20 (x1 : Int32) (x2 : Int32) (w : XW) : Option XR := ev bs_X11_field 20 ([some (.inr (10, 0)), some (.inl (.int x1)), some (.inl (.int x2)), none], [], w)
noncomputable def q_X11_field_24 (x1 : Int32) (w : XW) : Option XR := ev bs_X11_field 24 ([some (.inr (10, 0)), some (.inl (.int x1)), none, none], [], w)
noncomputable def q_X11_field_34 (x1 : Int32) (x2 : Int32) (w : XW) : Option XR := ev bs_X11_field 34 ([some (.inr (10, 0)), some (.inl (.int x1)), some (.inl (.int x2)), none], [], w)
noncomputable def q_X11_field_48 (x3 : Int32) (w : XW) : Option XR := ev bs_X11_field 48 ([none, none, none, some (.inl (.int x3))], [], w)
noncomputable def q_X11_field_52 (x1 : Int32) (x3 : Int32) (w : XW) : Option XR := ev bs_X11_field 52 ([some (.inr (10, 0)), some (.inl (.int x1)), none, some (.inl (.int x3))], [], w)
noncomputable def q_X11_field_58 (s0 : Int32) (w : XW) : Option XR := ev bs_X11_field 58 ([none, none, none, none], [.inl (.int s0)], w)
theorem e_X11_field_0 (x1 : Int32) (x2 : Int32) (w : XW) : q_X11_field_0 x1 x2 w = ((F_X11_isField [.inr (10, 0), .inl (.int x1)] w).bind fun r0 => (bif decide (r0.1 = 0) then (q_X11_field_17 r0.2) else (q_X11_field_8 x1 x2 r0.2))) := (ev_eq _ _ _).trans rfl
theorem e_X11_field_8 (x1 : Int32) (x2 : Int32) (w : XW) : q_X11_field_8 x1 x2 w = ((F_X11_within [.inl (.int x2), .inl (.int 0), .inl (.int 2)] w).bind fun r0 => (bif decide (¬ r0.1 = 0) then (q_X11_field_20 x1 x2 r0.2) else (q_X11_field_17 r0.2))) := (ev_eq _ _ _).trans rfl
theorem e_X11_field_17 (w : XW) : q_X11_field_17 w = (some (some (.inl (.int (-2))), w)) := (ev_eq _ _ _).trans rfl
theorem e_X11_field_20 (x1 : Int32) (x2 : Int32) (w : XW) : q_X11_field_20 x1 x2 w = (bif decide (¬ x2 = 0) then (q_X11_field_34 x1 x2 w) else (q_X11_field_24 x1 w)) := (ev_eq _ _ _).trans rfl
theorem e_X11_field_24 (x1 : Int32) (w : XW) : q_X11_field_24 x1 w = ((gR w 10 0 5).bind fun j0 => (if x1 < 0 ∨ 4 ≤ x1.toNatClampNeg then none else (some (some (.inl (.int (gI w 18 j0 x1.toNatClampNeg))), w)))) := (ev_eq _ _ _).trans rfl
theorem e_X11_field_34 (x1 : Int32) (x2 : Int32) (w : XW) : q_X11_field_34 x1 x2 w = ((F_X9_keepIn [.inr (8, 0), .inl (.int x1)] w).bind fun r0 => (bif decide (¬ x2 = 1) then (q_X11_field_52 x1 r0.1 r0.2) else (q_X11_field_48 r0.1 r0.2))) := (ev_eq _ _ _).trans rfl
theorem e_X11_field_48 (x3 : Int32) (w : XW) : q_X11_field_48 x3 w = (q_X11_field_58 x3 w) := (ev_eq _ _ _).trans rfl
theorem e_X11_field_52 (x1 : Int32) (x3 : Int32) (w : XW) : q_X11_field_52 x1 x3 w = ((F_X11_keptOff [.inr (10, 0), .inl (.int x3), .inl (.int x1)] w).bind fun r0 => (q_X11_field_58 r0.1 r0.2)) := (ev_eq _ _ _).trans rfl
theorem e_X11_field_58 (s0 : Int32) (w : XW) : q_X11_field_58 s0 w = (some (some (.inl (.int s0)), w)) := (ev_eq _ _ _).trans rfl
theorem f_X11_field (x1 : Int32) (x2 : Int32) (w : XW) : F_X11_field [.inr (10, 0), .inl (.int x1), .inl (.int x2)] w = (q_X11_field_0 x1 x2 w).bind pI := rfl

-- WinterKeep$Scene.fullAll()I
theorem dX9_fullAll_0 : decode cX9_fullAll 0 = .ok (.iconst 0, 1) := by decide +kernel
theorem dX9_fullAll_1 : decode cX9_fullAll 1 = .ok (.istore_n 1, 1) := by decide +kernel
theorem dX9_fullAll_2 : decode cX9_fullAll 2 = .ok (.iconst 0, 1) := by decide +kernel
theorem dX9_fullAll_3 : decode cX9_fullAll 3 = .ok (.istore_n 2, 1) := by decide +kernel
theorem dX9_fullAll_4 : decode cX9_fullAll 4 = .ok (.iload_n 2, 1) := by decide +kernel
theorem dX9_fullAll_5 : decode cX9_fullAll 5 = .ok (.aload_n 0, 1) := by decide +kernel
theorem dX9_fullAll_6 : decode cX9_fullAll 6 = .ok (.getfield 9, 3) := by decide +kernel
theorem dX9_fullAll_9 : decode cX9_fullAll 9 = .ok (.if_icmp .ge 18, 3) := by decide +kernel
theorem dX9_fullAll_12 : decode cX9_fullAll 12 = .ok (.iload_n 1, 1) := by decide +kernel
theorem dX9_fullAll_13 : decode cX9_fullAll 13 = .ok (.aload_n 0, 1) := by decide +kernel
theorem dX9_fullAll_14 : decode cX9_fullAll 14 = .ok (.getfield 18, 3) := by decide +kernel
theorem dX9_fullAll_17 : decode cX9_fullAll 17 = .ok (.iload_n 2, 1) := by decide +kernel
theorem dX9_fullAll_18 : decode cX9_fullAll 18 = .ok (.iaload, 1) := by decide +kernel
theorem dX9_fullAll_19 : decode cX9_fullAll 19 = .ok (.iadd, 1) := by decide +kernel
theorem dX9_fullAll_20 : decode cX9_fullAll 20 = .ok (.istore_n 1, 1) := by decide +kernel
theorem dX9_fullAll_21 : decode cX9_fullAll 21 = .ok (.iinc 2 1, 3) := by decide +kernel
theorem dX9_fullAll_24 : decode cX9_fullAll 24 = .ok (.goto (-20), 3) := by decide +kernel
theorem dX9_fullAll_27 : decode cX9_fullAll 27 = .ok (.iload_n 1, 1) := by decide +kernel
theorem dX9_fullAll_28 : decode cX9_fullAll 28 = .ok (.ireturn, 1) := by decide +kernel
noncomputable def bs_X9_fullAll : List (Nat × XB) := [
  (0, (sq (xC (.int 0)) (sq (xSI 1) (sq (xC (.int 0)) (sq (xSI 2) (tGo 4 [true, true, true])))))),
  (4, (sq (xLI 2) (sq (xLA 0) (sq (xGI 8 0) (tIf2 (fun x y => decide (y ≤ x)) 27 [false, true, false] 12 [true, true, true]))))),
  (12, (sq (xLI 1) (sq (xLA 0) (sq (xGS 8 30 0 0) (sq (xLI 2) (sq (xAI 30 6) (sq (xI2 (· + ·)) (sq (xSI 1) (sq (xInc 2 1) (tGo 4 [true, true, true])))))))))),
  (27, (sq (xLI 1) tRI))]
set_option maxRecDepth 100000 in
set_option maxHeartbeats 4000000 in
theorem s_X9_fullAll : ∀ X : XCtx, XE X → X.2.2.1.1 = cX9_fullAll → X.2.2.1.2.1 = 3 → X.2.2.1.2.2.1 = yX9_fullAll.cls → X.2.2.1.2.2.2.1 = (some .int) → X.1.2.2.2.1 = { frames := 0, cells := 0, slots := 0, locals := 0 } → SndBs X bs_X9_fullAll := by
  rintro ⟨⟨p, l, e, R, s⟩, Y, ⟨cc, nL, own, ret, Ts⟩, Z⟩ hE h1 h2 h3 h4 h5
  dsimp only at h1 h2 h3 h4 h5
  subst h1 h2 h3 h4 h5
  exact ⟨(n_sq (n_iconst hE (by decide) dX9_fullAll_0) (n_sq (n_istore_n hE (show (1 : Nat) < 3 by decide) dX9_fullAll_1) (n_sq (n_iconst hE (by decide) dX9_fullAll_2) (n_sq (n_istore_n hE (show (2 : Nat) < 3 by decide) dX9_fullAll_3) n_fall)))),
    (n_sq (n_iload_n hE dX9_fullAll_4) (n_sq (n_aload_n hE dX9_fullAll_5) (n_sq (n_getI hE xk_8 (k := 0) rfl (by decide) rfl wt_173 dX9_fullAll_6) (n_ifcge hE (by decide) dX9_fullAll_9)))),
    (n_sq (n_iload_n hE dX9_fullAll_12) (n_sq (n_aload_n hE dX9_fullAll_13) (n_sq (n_getS hE xk_8 (k := 2) rfl (by decide) rfl wt_179 dX9_fullAll_14) (n_sq (n_iload_n hE dX9_fullAll_17) (n_sq (n_iald hE rfl (by decide) dX9_fullAll_18) (n_sq (n_iadd hE dX9_fullAll_19) (n_sq (n_istore_n hE (show (1 : Nat) < 3 by decide) dX9_fullAll_20) (n_sq (n_iinc hE (by decide) (show (2 : Nat) < 3 by decide) dX9_fullAll_21) (n_goto hE (by decide) dX9_fullAll_24))))))))),
    (n_sq (n_iload_n hE dX9_fullAll_27) (n_ireturn hE rfl dX9_fullAll_28)), trivial⟩
noncomputable def F_X9_fullAll (as : List XV) (w : XW) : Option (Int32 × XW) := (xF 3 bs_X9_fullAll as w).bind pI
theorem m_X9_fullAll : XM yX9_fullAll cX9_fullAll 3 (some .int) 0 0 (eI F_X9_fullAll) := xm_I (xm_of (by decide) s_X9_fullAll)
noncomputable def q_X9_fullAll_0 (i0 : Nat) (w : XW) : Option XR := ev bs_X9_fullAll 0 ([some (.inr (8, i0)), none, none], [], w)
noncomputable def q_X9_fullAll_4 (i0 : Nat) (x1 : Int32) (x2 : Int32) (w : XW) : Option XR := ev bs_X9_fullAll 4 ([some (.inr (8, i0)), some (.inl (.int x1)), some (.inl (.int x2))], [], w)
noncomputable def q_X9_fullAll_12 (i0 : Nat) (x1 : Int32) (x2 : Int32) (w : XW) : Option XR := ev bs_X9_fullAll 12 ([some (.inr (8, i0)), some (.inl (.int x1)), some (.inl (.int x2))], [], w)
noncomputable def q_X9_fullAll_27 (x1 : Int32) (w : XW) : Option XR := ev bs_X9_fullAll 27 ([none, some (.inl (.int x1)), none], [], w)
theorem e_X9_fullAll_0 (i0 : Nat) (w : XW) : q_X9_fullAll_0 i0 w = (q_X9_fullAll_4 i0 0 0 w) := (ev_eq _ _ _).trans rfl
theorem e_X9_fullAll_4 (i0 : Nat) (x1 : Int32) (x2 : Int32) (w : XW) : q_X9_fullAll_4 i0 x1 x2 w = (bif decide ((gI w 8 i0 0) ≤ x2) then (q_X9_fullAll_27 x1 w) else (q_X9_fullAll_12 i0 x1 x2 w)) := (ev_eq _ _ _).trans rfl
theorem e_X9_fullAll_12 (i0 : Nat) (x1 : Int32) (x2 : Int32) (w : XW) : q_X9_fullAll_12 i0 x1 x2 w = (if x2 < 0 ∨ 6 ≤ x2.toNatClampNeg then none else (q_X9_fullAll_4 i0 (x1 + (gI w 30 i0 x2.toNatClampNeg)) (x2 + 1) w)) := (ev_eq _ _ _).trans rfl
theorem e_X9_fullAll_27 (x1 : Int32) (w : XW) : q_X9_fullAll_27 x1 w = (some (some (.inl (.int x1)), w)) := (ev_eq _ _ _).trans rfl
theorem f_X9_fullAll (i0 : Nat) (w : XW) : F_X9_fullAll [.inr (8, i0)] w = (q_X9_fullAll_0 i0 w).bind pI := rfl

-- WinterKeep$Scene.bitsAt(I)I
theorem dX9_bitsAt_0 : decode cX9_bitsAt 0 = .ok (.iconst 0, 1) := by decide +kernel
theorem dX9_bitsAt_1 : decode cX9_bitsAt 1 = .ok (.istore_n 2, 1) := by decide +kernel
theorem dX9_bitsAt_2 : decode cX9_bitsAt 2 = .ok (.iconst 0, 1) := by decide +kernel
theorem dX9_bitsAt_3 : decode cX9_bitsAt 3 = .ok (.istore_n 3, 1) := by decide +kernel
theorem dX9_bitsAt_4 : decode cX9_bitsAt 4 = .ok (.iload_n 3, 1) := by decide +kernel
theorem dX9_bitsAt_5 : decode cX9_bitsAt 5 = .ok (.aload_n 0, 1) := by decide +kernel
theorem dX9_bitsAt_6 : decode cX9_bitsAt 6 = .ok (.getfield 9, 3) := by decide +kernel
theorem dX9_bitsAt_9 : decode cX9_bitsAt 9 = .ok (.if_icmp .ge 25, 3) := by decide +kernel
theorem dX9_bitsAt_12 : decode cX9_bitsAt 12 = .ok (.aload_n 0, 1) := by decide +kernel
theorem dX9_bitsAt_13 : decode cX9_bitsAt 13 = .ok (.getfield 25, 3) := by decide +kernel
theorem dX9_bitsAt_16 : decode cX9_bitsAt 16 = .ok (.iload_n 3, 1) := by decide +kernel
theorem dX9_bitsAt_17 : decode cX9_bitsAt 17 = .ok (.iaload, 1) := by decide +kernel
theorem dX9_bitsAt_18 : decode cX9_bitsAt 18 = .ok (.iload_n 1, 1) := by decide +kernel
theorem dX9_bitsAt_19 : decode cX9_bitsAt 19 = .ok (.if_icmp .ne 9, 3) := by decide +kernel
theorem dX9_bitsAt_22 : decode cX9_bitsAt 22 = .ok (.iload_n 2, 1) := by decide +kernel
theorem dX9_bitsAt_23 : decode cX9_bitsAt 23 = .ok (.iconst 1, 1) := by decide +kernel
theorem dX9_bitsAt_24 : decode cX9_bitsAt 24 = .ok (.iload_n 3, 1) := by decide +kernel
theorem dX9_bitsAt_25 : decode cX9_bitsAt 25 = .ok (.ishl, 1) := by decide +kernel
theorem dX9_bitsAt_26 : decode cX9_bitsAt 26 = .ok (.ior, 1) := by decide +kernel
theorem dX9_bitsAt_27 : decode cX9_bitsAt 27 = .ok (.istore_n 2, 1) := by decide +kernel
theorem dX9_bitsAt_28 : decode cX9_bitsAt 28 = .ok (.iinc 3 1, 3) := by decide +kernel
theorem dX9_bitsAt_31 : decode cX9_bitsAt 31 = .ok (.goto (-27), 3) := by decide +kernel
theorem dX9_bitsAt_34 : decode cX9_bitsAt 34 = .ok (.iload_n 2, 1) := by decide +kernel
theorem dX9_bitsAt_35 : decode cX9_bitsAt 35 = .ok (.ireturn, 1) := by decide +kernel
noncomputable def bs_X9_bitsAt : List (Nat × XB) := [
  (0, (sq (xC (.int 0)) (sq (xSI 2) (sq (xC (.int 0)) (sq (xSI 3) (tGo 4 [true, true, true, true])))))),
  (4, (sq (xLI 3) (sq (xLA 0) (sq (xGI 8 0) (tIf2 (fun x y => decide (y ≤ x)) 34 [false, false, true, false] 12 [true, true, true, true]))))),
  (12, (sq (xLA 0) (sq (xGS 8 32 0 0) (sq (xLI 3) (sq (xAI 32 6) (sq (xLI 1) (tIf2 (fun x y => decide (¬ x = y)) 28 [true, true, true, true] 22 [true, true, true, true]))))))),
  (22, (sq (xLI 2) (sq (xC (.int 1)) (sq (xLI 3) (sq (xI2 (fun x y => x <<< (y &&& 31))) (sq (xI2 (· ||| ·)) (sq (xSI 2) (tGo 28 [true, true, true, true])))))))),
  (28, (sq (xInc 3 1) (tGo 4 [true, true, true, true]))),
  (34, (sq (xLI 2) tRI))]
set_option maxRecDepth 100000 in
set_option maxHeartbeats 4000000 in
theorem s_X9_bitsAt : ∀ X : XCtx, XE X → X.2.2.1.1 = cX9_bitsAt → X.2.2.1.2.1 = 4 → X.2.2.1.2.2.1 = yX9_bitsAt.cls → X.2.2.1.2.2.2.1 = (some .int) → X.1.2.2.2.1 = { frames := 0, cells := 0, slots := 0, locals := 0 } → SndBs X bs_X9_bitsAt := by
  rintro ⟨⟨p, l, e, R, s⟩, Y, ⟨cc, nL, own, ret, Ts⟩, Z⟩ hE h1 h2 h3 h4 h5
  dsimp only at h1 h2 h3 h4 h5
  subst h1 h2 h3 h4 h5
  exact ⟨(n_sq (n_iconst hE (by decide) dX9_bitsAt_0) (n_sq (n_istore_n hE (show (2 : Nat) < 4 by decide) dX9_bitsAt_1) (n_sq (n_iconst hE (by decide) dX9_bitsAt_2) (n_sq (n_istore_n hE (show (3 : Nat) < 4 by decide) dX9_bitsAt_3) n_fall)))),
    (n_sq (n_iload_n hE dX9_bitsAt_4) (n_sq (n_aload_n hE dX9_bitsAt_5) (n_sq (n_getI hE xk_8 (k := 0) rfl (by decide) rfl wt_173 dX9_bitsAt_6) (n_ifcge hE (by decide) dX9_bitsAt_9)))),
    (n_sq (n_aload_n hE dX9_bitsAt_12) (n_sq (n_getS hE xk_8 (k := 4) rfl (by decide) rfl wt_187 dX9_bitsAt_13) (n_sq (n_iload_n hE dX9_bitsAt_16) (n_sq (n_iald hE rfl (by decide) dX9_bitsAt_17) (n_sq (n_iload_n hE dX9_bitsAt_18) (n_ifcne hE (by decide) dX9_bitsAt_19)))))),
    (n_sq (n_iload_n hE dX9_bitsAt_22) (n_sq (n_iconst hE (by decide) dX9_bitsAt_23) (n_sq (n_iload_n hE dX9_bitsAt_24) (n_sq (n_ishl hE dX9_bitsAt_25) (n_sq (n_ior hE dX9_bitsAt_26) (n_sq (n_istore_n hE (show (2 : Nat) < 4 by decide) dX9_bitsAt_27) n_fall)))))),
    (n_sq (n_iinc hE (by decide) (show (3 : Nat) < 4 by decide) dX9_bitsAt_28) (n_goto hE (by decide) dX9_bitsAt_31)),
    (n_sq (n_iload_n hE dX9_bitsAt_34) (n_ireturn hE rfl dX9_bitsAt_35)), trivial⟩
noncomputable def F_X9_bitsAt (as : List XV) (w : XW) : Option (Int32 × XW) := (xF 4 bs_X9_bitsAt as w).bind pI
theorem m_X9_bitsAt : XM yX9_bitsAt cX9_bitsAt 4 (some .int) 0 0 (eI F_X9_bitsAt) := xm_I (xm_of (by decide) s_X9_bitsAt)
noncomputable def q_X9_bitsAt_0 (i0 : Nat) (x1 : Int32) (w : XW) : Option XR := ev bs_X9_bitsAt 0 ([some (.inr (8, i0)), some (.inl (.int x1)), none, none], [], w)
noncomputable def q_X9_bitsAt_4 (i0 : Nat) (x1 : Int32) (x2 : Int32) (x3 : Int32) (w : XW) : Option XR := ev bs_X9_bitsAt 4 ([some (.inr (8, i0)), some (.inl (.int x1)), some (.inl (.int x2)), some (.inl (.int x3))], [], w)
noncomputable def q_X9_bitsAt_12 (i0 : Nat) (x1 : Int32) (x2 : Int32) (x3 : Int32) (w : XW) : Option XR := ev bs_X9_bitsAt 12 ([some (.inr (8, i0)), some (.inl (.int x1)), some (.inl (.int x2)), some (.inl (.int x3))], [], w)
noncomputable def q_X9_bitsAt_22 (i0 : Nat) (x1 : Int32) (x2 : Int32) (x3 : Int32) (w : XW) : Option XR := ev bs_X9_bitsAt 22 ([some (.inr (8, i0)), some (.inl (.int x1)), some (.inl (.int x2)), some (.inl (.int x3))], [], w)
noncomputable def q_X9_bitsAt_28 (i0 : Nat) (x1 : Int32) (x2 : Int32) (x3 : Int32) (w : XW) : Option XR := ev bs_X9_bitsAt 28 ([some (.inr (8, i0)), some (.inl (.int x1)), some (.inl (.int x2)), some (.inl (.int x3))], [], w)
noncomputable def q_X9_bitsAt_34 (x2 : Int32) (w : XW) : Option XR := ev bs_X9_bitsAt 34 ([none, none, some (.inl (.int x2)), none], [], w)
theorem e_X9_bitsAt_0 (i0 : Nat) (x1 : Int32) (w : XW) : q_X9_bitsAt_0 i0 x1 w = (q_X9_bitsAt_4 i0 x1 0 0 w) := (ev_eq _ _ _).trans rfl
theorem e_X9_bitsAt_4 (i0 : Nat) (x1 : Int32) (x2 : Int32) (x3 : Int32) (w : XW) : q_X9_bitsAt_4 i0 x1 x2 x3 w = (bif decide ((gI w 8 i0 0) ≤ x3) then (q_X9_bitsAt_34 x2 w) else (q_X9_bitsAt_12 i0 x1 x2 x3 w)) := (ev_eq _ _ _).trans rfl
theorem e_X9_bitsAt_12 (i0 : Nat) (x1 : Int32) (x2 : Int32) (x3 : Int32) (w : XW) : q_X9_bitsAt_12 i0 x1 x2 x3 w = (if x3 < 0 ∨ 6 ≤ x3.toNatClampNeg then none else (bif decide (¬ (gI w 32 i0 x3.toNatClampNeg) = x1) then (q_X9_bitsAt_28 i0 x1 x2 x3 w) else (q_X9_bitsAt_22 i0 x1 x2 x3 w))) := (ev_eq _ _ _).trans rfl
theorem e_X9_bitsAt_22 (i0 : Nat) (x1 : Int32) (x2 : Int32) (x3 : Int32) (w : XW) : q_X9_bitsAt_22 i0 x1 x2 x3 w = (q_X9_bitsAt_28 i0 x1 (x2 ||| ((1 : Int32) <<< ((x3 : Int32) &&& 31))) x3 w) := (ev_eq _ _ _).trans rfl
theorem e_X9_bitsAt_28 (i0 : Nat) (x1 : Int32) (x2 : Int32) (x3 : Int32) (w : XW) : q_X9_bitsAt_28 i0 x1 x2 x3 w = (q_X9_bitsAt_4 i0 x1 x2 (x3 + 1) w) := (ev_eq _ _ _).trans rfl
theorem e_X9_bitsAt_34 (x2 : Int32) (w : XW) : q_X9_bitsAt_34 x2 w = (some (some (.inl (.int x2)), w)) := (ev_eq _ _ _).trans rfl
theorem f_X9_bitsAt (i0 : Nat) (x1 : Int32) (w : XW) : F_X9_bitsAt [.inr (8, i0), .inl (.int x1)] w = (q_X9_bitsAt_0 i0 x1 w).bind pI := rfl

-- WinterKeep$Scene.burntBits()I
theorem dX9_burntBits_0 : decode cX9_burntBits 0 = .ok (.aload_n 0, 1) := by decide +kernel
theorem dX9_burntBits_1 : decode cX9_burntBits 1 = .ok (.bipush (-2), 2) := by decide +kernel
theorem dX9_burntBits_3 : decode cX9_burntBits 3 = .ok (.invokevirtual 35, 3) := by decide +kernel
theorem dX9_burntBits_6 : decode cX9_burntBits 6 = .ok (.ireturn, 1) := by decide +kernel
theorem vc_X9_35 : XVw RX9 35 1 8 4 yX9_bitsAt cX9_bitsAt (some .int) := ⟨RX9, TX9, tyX9, 6, xk_8, rfl, ⟨by decide, by decide⟩, by decide +kernel, wt_651, wt_653, ws_12, wt_5, wt_654⟩
noncomputable def bs_X9_burntBits : List (Nat × XB) := [
  (0, (sq (xLA 0) (sq (xC (.int (-2))) (sq (xCI 8 2 F_X9_bitsAt) tRI))))]
set_option maxRecDepth 100000 in
set_option maxHeartbeats 4000000 in
theorem s_X9_burntBits : ∀ X : XCtx, XE X → X.2.2.1.1 = cX9_burntBits → X.2.2.1.2.1 = 1 → X.2.2.1.2.2.1 = yX9_burntBits.cls → X.2.2.1.2.2.2.1 = (some .int) → X.1.2.2.2.1 = { frames := 1, cells := 0, slots := 0, locals := 23 } → SndBs X bs_X9_burntBits := by
  rintro ⟨⟨p, l, e, R, s⟩, Y, ⟨cc, nL, own, ret, Ts⟩, Z⟩ hE h1 h2 h3 h4 h5
  dsimp only at h1 h2 h3 h4 h5
  subst h1 h2 h3 h4 h5
  exact ⟨(n_sq (n_aload_n hE dX9_burntBits_0) (n_sq (n_bipush hE (by decide) dX9_burntBits_1) (n_sq (n_cIv hE m_X9_bitsAt vc_X9_35 (show 0 + 1 ≤ 1 ∧ 8 + (4 + 11) + 0 ≤ 23 by decide) dX9_burntBits_3) (n_ireturn hE rfl dX9_burntBits_6)))), trivial⟩
noncomputable def F_X9_burntBits (as : List XV) (w : XW) : Option (Int32 × XW) := (xF 1 bs_X9_burntBits as w).bind pI
theorem m_X9_burntBits : XM yX9_burntBits cX9_burntBits 1 (some .int) 1 23 (eI F_X9_burntBits) := xm_I (xm_of (by decide) s_X9_burntBits)
noncomputable def q_X9_burntBits_0 (i0 : Nat) (w : XW) : Option XR := ev bs_X9_burntBits 0 ([some (.inr (8, i0))], [], w)
theorem e_X9_burntBits_0 (i0 : Nat) (w : XW) : q_X9_burntBits_0 i0 w = ((F_X9_bitsAt [.inr (8, i0), .inl (.int (-2))] w).bind fun r0 => (some (some (.inl (.int r0.1)), r0.2))) := (ev_eq _ _ _).trans rfl
theorem f_X9_burntBits (i0 : Nat) (w : XW) : F_X9_burntBits [.inr (8, i0)] w = (q_X9_burntBits_0 i0 w).bind pI := rfl

-- WinterKeep$Scene.homeBits()I
theorem dX9_homeBits_0 : decode cX9_homeBits 0 = .ok (.aload_n 0, 1) := by decide +kernel
theorem dX9_homeBits_1 : decode cX9_homeBits 1 = .ok (.iconst (-1), 1) := by decide +kernel
theorem dX9_homeBits_2 : decode cX9_homeBits 2 = .ok (.invokevirtual 35, 3) := by decide +kernel
theorem dX9_homeBits_5 : decode cX9_homeBits 5 = .ok (.ireturn, 1) := by decide +kernel
noncomputable def bs_X9_homeBits : List (Nat × XB) := [
  (0, (sq (xLA 0) (sq (xC (.int (-1))) (sq (xCI 8 2 F_X9_bitsAt) tRI))))]
set_option maxRecDepth 100000 in
set_option maxHeartbeats 4000000 in
theorem s_X9_homeBits : ∀ X : XCtx, XE X → X.2.2.1.1 = cX9_homeBits → X.2.2.1.2.1 = 1 → X.2.2.1.2.2.1 = yX9_homeBits.cls → X.2.2.1.2.2.2.1 = (some .int) → X.1.2.2.2.1 = { frames := 1, cells := 0, slots := 0, locals := 23 } → SndBs X bs_X9_homeBits := by
  rintro ⟨⟨p, l, e, R, s⟩, Y, ⟨cc, nL, own, ret, Ts⟩, Z⟩ hE h1 h2 h3 h4 h5
  dsimp only at h1 h2 h3 h4 h5
  subst h1 h2 h3 h4 h5
  exact ⟨(n_sq (n_aload_n hE dX9_homeBits_0) (n_sq (n_iconst hE (by decide) dX9_homeBits_1) (n_sq (n_cIv hE m_X9_bitsAt vc_X9_35 (show 0 + 1 ≤ 1 ∧ 8 + (4 + 11) + 0 ≤ 23 by decide) dX9_homeBits_2) (n_ireturn hE rfl dX9_homeBits_5)))), trivial⟩
noncomputable def F_X9_homeBits (as : List XV) (w : XW) : Option (Int32 × XW) := (xF 1 bs_X9_homeBits as w).bind pI
theorem m_X9_homeBits : XM yX9_homeBits cX9_homeBits 1 (some .int) 1 23 (eI F_X9_homeBits) := xm_I (xm_of (by decide) s_X9_homeBits)
noncomputable def q_X9_homeBits_0 (i0 : Nat) (w : XW) : Option XR := ev bs_X9_homeBits 0 ([some (.inr (8, i0))], [], w)
theorem e_X9_homeBits_0 (i0 : Nat) (w : XW) : q_X9_homeBits_0 i0 w = ((F_X9_bitsAt [.inr (8, i0), .inl (.int (-1))] w).bind fun r0 => (some (some (.inl (.int r0.1)), r0.2))) := (ev_eq _ _ _).trans rfl
theorem f_X9_homeBits (i0 : Nat) (w : XW) : F_X9_homeBits [.inr (8, i0)] w = (q_X9_homeBits_0 i0 w).bind pI := rfl

-- WinterKeep.keptOffAll()I
theorem dX11_keptOffAll_0 : decode cX11_keptOffAll 0 = .ok (.iconst 0, 1) := by decide +kernel
theorem dX11_keptOffAll_1 : decode cX11_keptOffAll 1 = .ok (.istore_n 1, 1) := by decide +kernel
theorem dX11_keptOffAll_2 : decode cX11_keptOffAll 2 = .ok (.iconst 0, 1) := by decide +kernel
theorem dX11_keptOffAll_3 : decode cX11_keptOffAll 3 = .ok (.istore_n 2, 1) := by decide +kernel
theorem dX11_keptOffAll_4 : decode cX11_keptOffAll 4 = .ok (.iload_n 2, 1) := by decide +kernel
theorem dX11_keptOffAll_5 : decode cX11_keptOffAll 5 = .ok (.aload_n 0, 1) := by decide +kernel
theorem dX11_keptOffAll_6 : decode cX11_keptOffAll 6 = .ok (.getfield 39, 3) := by decide +kernel
theorem dX11_keptOffAll_9 : decode cX11_keptOffAll 9 = .ok (.getfield 135, 3) := by decide +kernel
theorem dX11_keptOffAll_12 : decode cX11_keptOffAll 12 = .ok (.if_icmp .ge 26, 3) := by decide +kernel
theorem dX11_keptOffAll_15 : decode cX11_keptOffAll 15 = .ok (.iload_n 1, 1) := by decide +kernel
theorem dX11_keptOffAll_16 : decode cX11_keptOffAll 16 = .ok (.aload_n 0, 1) := by decide +kernel
theorem dX11_keptOffAll_17 : decode cX11_keptOffAll 17 = .ok (.iload_n 2, 1) := by decide +kernel
theorem dX11_keptOffAll_18 : decode cX11_keptOffAll 18 = .ok (.aload_n 0, 1) := by decide +kernel
theorem dX11_keptOffAll_19 : decode cX11_keptOffAll 19 = .ok (.getfield 46, 3) := by decide +kernel
theorem dX11_keptOffAll_22 : decode cX11_keptOffAll 22 = .ok (.getfield 161, 3) := by decide +kernel
theorem dX11_keptOffAll_25 : decode cX11_keptOffAll 25 = .ok (.iload_n 2, 1) := by decide +kernel
theorem dX11_keptOffAll_26 : decode cX11_keptOffAll 26 = .ok (.iaload, 1) := by decide +kernel
theorem dX11_keptOffAll_27 : decode cX11_keptOffAll 27 = .ok (.invokevirtual 190, 3) := by decide +kernel
theorem dX11_keptOffAll_30 : decode cX11_keptOffAll 30 = .ok (.iadd, 1) := by decide +kernel
theorem dX11_keptOffAll_31 : decode cX11_keptOffAll 31 = .ok (.istore_n 1, 1) := by decide +kernel
theorem dX11_keptOffAll_32 : decode cX11_keptOffAll 32 = .ok (.iinc 2 1, 3) := by decide +kernel
theorem dX11_keptOffAll_35 : decode cX11_keptOffAll 35 = .ok (.goto (-31), 3) := by decide +kernel
theorem dX11_keptOffAll_38 : decode cX11_keptOffAll 38 = .ok (.iload_n 1, 1) := by decide +kernel
theorem dX11_keptOffAll_39 : decode cX11_keptOffAll 39 = .ok (.ireturn, 1) := by decide +kernel
noncomputable def bs_X11_keptOffAll : List (Nat × XB) := [
  (0, (sq (xC (.int 0)) (sq (xSI 1) (sq (xC (.int 0)) (sq (xSI 2) (tGo 4 [true, true, true])))))),
  (4, (sq (xLI 2) (sq (xLA 0) (sq (xGD 10 5 1) (sq (xGI 1 3) (tIf2 (fun x y => decide (y ≤ x)) 38 [false, true, false] 15 [true, true, true])))))),
  (15, (sq (xLI 1) (sq (xLA 0) (sq (xLI 2) (sq (xLA 0) (sq (xGS 10 8 1 0) (sq (xGS 8 32 0 0) (sq (xLI 2) (sq (xAI 32 6) (sq (xCI 10 3 F_X11_keptOff) (sq (xI2 (· + ·)) (sq (xSI 1) (sq (xInc 2 1) (tGo 4 [true, true, true])))))))))))))),
  (38, (sq (xLI 1) tRI))]
set_option maxRecDepth 100000 in
set_option maxHeartbeats 4000000 in
theorem s_X11_keptOffAll : ∀ X : XCtx, XE X → X.2.2.1.1 = cX11_keptOffAll → X.2.2.1.2.1 = 3 → X.2.2.1.2.2.1 = yX11_keptOffAll.cls → X.2.2.1.2.2.2.1 = (some .int) → X.1.2.2.2.1 = { frames := 3, cells := 0, slots := 0, locals := 65 } → SndBs X bs_X11_keptOffAll := by
  rintro ⟨⟨p, l, e, R, s⟩, Y, ⟨cc, nL, own, ret, Ts⟩, Z⟩ hE h1 h2 h3 h4 h5
  dsimp only at h1 h2 h3 h4 h5
  subst h1 h2 h3 h4 h5
  exact ⟨(n_sq (n_iconst hE (by decide) dX11_keptOffAll_0) (n_sq (n_istore_n hE (show (1 : Nat) < 3 by decide) dX11_keptOffAll_1) (n_sq (n_iconst hE (by decide) dX11_keptOffAll_2) (n_sq (n_istore_n hE (show (2 : Nat) < 3 by decide) dX11_keptOffAll_3) n_fall)))),
    (n_sq (n_iload_n hE dX11_keptOffAll_4) (n_sq (n_aload_n hE dX11_keptOffAll_5) (n_sq (n_getD hE xk_10 (k := 5) rfl (by decide) rfl wt_321 dX11_keptOffAll_6) (n_sq (n_getI hE xk_1 (k := 3) rfl (by decide) rfl wt_109 dX11_keptOffAll_9) (n_ifcge hE (by decide) dX11_keptOffAll_12))))),
    (n_sq (n_iload_n hE dX11_keptOffAll_15) (n_sq (n_aload_n hE dX11_keptOffAll_16) (n_sq (n_iload_n hE dX11_keptOffAll_17) (n_sq (n_aload_n hE dX11_keptOffAll_18) (n_sq (n_getS hE xk_10 (k := 6) rfl (by decide) rfl wt_322 dX11_keptOffAll_19) (n_sq (n_getS hE xk_8 (k := 4) rfl (by decide) rfl wt_191 dX11_keptOffAll_22) (n_sq (n_iload_n hE dX11_keptOffAll_25) (n_sq (n_iald hE rfl (by decide) dX11_keptOffAll_26) (n_sq (n_cIv hE m_X11_keptOff vc_X11_190 (show 2 + 1 ≤ 3 ∧ 8 + (3 + 11) + 43 ≤ 65 by decide) dX11_keptOffAll_27) (n_sq (n_iadd hE dX11_keptOffAll_30) (n_sq (n_istore_n hE (show (1 : Nat) < 3 by decide) dX11_keptOffAll_31) (n_sq (n_iinc hE (by decide) (show (2 : Nat) < 3 by decide) dX11_keptOffAll_32) (n_goto hE (by decide) dX11_keptOffAll_35))))))))))))),
    (n_sq (n_iload_n hE dX11_keptOffAll_38) (n_ireturn hE rfl dX11_keptOffAll_39)), trivial⟩
noncomputable def F_X11_keptOffAll (as : List XV) (w : XW) : Option (Int32 × XW) := (xF 3 bs_X11_keptOffAll as w).bind pI
theorem m_X11_keptOffAll : XM yX11_keptOffAll cX11_keptOffAll 3 (some .int) 3 65 (eI F_X11_keptOffAll) := xm_I (xm_of (by decide) s_X11_keptOffAll)
noncomputable def q_X11_keptOffAll_0 (w : XW) : Option XR := ev bs_X11_keptOffAll 0 ([some (.inr (10, 0)), none, none], [], w)
noncomputable def q_X11_keptOffAll_4 (x1 : Int32) (x2 : Int32) (w : XW) : Option XR := ev bs_X11_keptOffAll 4 ([some (.inr (10, 0)), some (.inl (.int x1)), some (.inl (.int x2))], [], w)
noncomputable def q_X11_keptOffAll_15 (x1 : Int32) (x2 : Int32) (w : XW) : Option XR := ev bs_X11_keptOffAll 15 ([some (.inr (10, 0)), some (.inl (.int x1)), some (.inl (.int x2))], [], w)
noncomputable def q_X11_keptOffAll_38 (x1 : Int32) (w : XW) : Option XR := ev bs_X11_keptOffAll 38 ([none, some (.inl (.int x1)), none], [], w)
theorem e_X11_keptOffAll_0 (w : XW) : q_X11_keptOffAll_0 w = (q_X11_keptOffAll_4 0 0 w) := (ev_eq _ _ _).trans rfl
theorem e_X11_keptOffAll_4 (x1 : Int32) (x2 : Int32) (w : XW) : q_X11_keptOffAll_4 x1 x2 w = ((gR w 10 0 5).bind fun j0 => (bif decide ((gI w 1 j0 3) ≤ x2) then (q_X11_keptOffAll_38 x1 w) else (q_X11_keptOffAll_15 x1 x2 w))) := (ev_eq _ _ _).trans rfl
theorem e_X11_keptOffAll_15 (x1 : Int32) (x2 : Int32) (w : XW) : q_X11_keptOffAll_15 x1 x2 w = (if x2 < 0 ∨ 6 ≤ x2.toNatClampNeg then none else ((F_X11_keptOff [.inr (10, 0), .inl (.int x2), .inl (.int (gI w 32 0 x2.toNatClampNeg))] w).bind fun r0 => (q_X11_keptOffAll_4 (x1 + r0.1) (x2 + 1) r0.2))) := (ev_eq _ _ _).trans rfl
theorem e_X11_keptOffAll_38 (x1 : Int32) (w : XW) : q_X11_keptOffAll_38 x1 w = (some (some (.inl (.int x1)), w)) := (ev_eq _ _ _).trans rfl
theorem f_X11_keptOffAll (w : XW) : F_X11_keptOffAll [.inr (10, 0)] w = (q_X11_keptOffAll_0 w).bind pI := rfl
