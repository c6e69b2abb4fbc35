-- WinterKeep.note(III)I
theorem dX11_note_0 : decode cX11_note 0 = .ok (.iload_n 1, 1) := by decide +kernel
theorem dX11_note_1 : decode cX11_note 1 = .ok (.iconst (-1), 1) := by decide +kernel
theorem dX11_note_2 : decode cX11_note 2 = .ok (.if_icmp .ne 13, 3) := by decide +kernel
theorem dX11_note_5 : decode cX11_note 5 = .ok (.aload_n 0, 1) := by decide +kernel
theorem dX11_note_6 : decode cX11_note 6 = .ok (.getfield 77, 3) := by decide +kernel
theorem dX11_note_9 : decode cX11_note 9 = .ok (.iconst 0, 1) := by decide +kernel
theorem dX11_note_10 : decode cX11_note 10 = .ok (.putfield 132, 3) := by decide +kernel
theorem dX11_note_13 : decode cX11_note 13 = .ok (.iconst 0, 1) := by decide +kernel
theorem dX11_note_14 : decode cX11_note 14 = .ok (.ireturn, 1) := by decide +kernel
theorem dX11_note_15 : decode cX11_note 15 = .ok (.iload_n 1, 1) := by decide +kernel
theorem dX11_note_16 : decode cX11_note 16 = .ok (.iconst 0, 1) := by decide +kernel
theorem dX11_note_17 : decode cX11_note 17 = .ok (.bipush 60, 2) := by decide +kernel
theorem dX11_note_19 : decode cX11_note 19 = .ok (.invokestatic 170, 3) := by decide +kernel
theorem dX11_note_22 : decode cX11_note 22 = .ok (.ifCond .eq 33, 3) := by decide +kernel
theorem dX11_note_25 : decode cX11_note 25 = .ok (.aload_n 0, 1) := by decide +kernel
theorem dX11_note_26 : decode cX11_note 26 = .ok (.iload_n 2, 1) := by decide +kernel
theorem dX11_note_27 : decode cX11_note 27 = .ok (.invokevirtual 145, 3) := by decide +kernel
theorem dX11_note_30 : decode cX11_note 30 = .ok (.ifCond .eq 25, 3) := by decide +kernel
theorem dX11_note_33 : decode cX11_note 33 = .ok (.iload_n 3, 1) := by decide +kernel
theorem dX11_note_34 : decode cX11_note 34 = .ok (.iconst 0, 1) := by decide +kernel
theorem dX11_note_35 : decode cX11_note 35 = .ok (.bipush 60, 2) := by decide +kernel
theorem dX11_note_37 : decode cX11_note 37 = .ok (.invokestatic 170, 3) := by decide +kernel
theorem dX11_note_40 : decode cX11_note 40 = .ok (.ifCond .eq 15, 3) := by decide +kernel
theorem dX11_note_43 : decode cX11_note 43 = .ok (.aload_n 0, 1) := by decide +kernel
theorem dX11_note_44 : decode cX11_note 44 = .ok (.getfield 77, 3) := by decide +kernel
theorem dX11_note_47 : decode cX11_note 47 = .ok (.getfield 132, 3) := by decide +kernel
theorem dX11_note_50 : decode cX11_note 50 = .ok (.bipush 10, 2) := by decide +kernel
theorem dX11_note_52 : decode cX11_note 52 = .ok (.if_icmp .lt 6, 3) := by decide +kernel
theorem dX11_note_55 : decode cX11_note 55 = .ok (.bipush (-2), 2) := by decide +kernel
theorem dX11_note_57 : decode cX11_note 57 = .ok (.ireturn, 1) := by decide +kernel
theorem dX11_note_58 : decode cX11_note 58 = .ok (.aload_n 0, 1) := by decide +kernel
theorem dX11_note_59 : decode cX11_note 59 = .ok (.getfield 77, 3) := by decide +kernel
theorem dX11_note_62 : decode cX11_note 62 = .ok (.iload_n 1, 1) := by decide +kernel
theorem dX11_note_63 : decode cX11_note 63 = .ok (.iload_n 2, 1) := by decide +kernel
theorem dX11_note_64 : decode cX11_note 64 = .ok (.iload_n 3, 1) := by decide +kernel
theorem dX11_note_65 : decode cX11_note 65 = .ok (.invokevirtual 303, 3) := by decide +kernel
theorem dX11_note_68 : decode cX11_note 68 = .ok (.aload_n 0, 1) := by decide +kernel
theorem dX11_note_69 : decode cX11_note 69 = .ok (.getfield 77, 3) := by decide +kernel
theorem dX11_note_72 : decode cX11_note 72 = .ok (.getfield 132, 3) := by decide +kernel
theorem dX11_note_75 : decode cX11_note 75 = .ok (.ireturn, 1) := by decide +kernel
theorem vc_X11_303 : XVw RX11 303 3 4 4 yX5_add cX5_add none := ⟨RX5, TX5, tyX5, 4, xk_4, rfl, ⟨by decide, by decide⟩, by decide +kernel, wt_884, wt_885, wt_886, wt_9, wt_887⟩
noncomputable def bs_X11_note : List (Nat × XB) := [
  (0, (sq (xLI 1) (sq (xC (.int (-1))) (tIf2 (fun x y => decide (¬ x = y)) 15 [true, true, true, true] 5 [true, false, false, false])))),
  (5, (sq (xLA 0) (sq (xGS 10 4 1 0) (sq (xC (.int 0)) (sq (xPI 4 0) (sq (xC (.int 0)) tRI)))))),
  (15, (sq (xLI 1) (sq (xC (.int 0)) (sq (xC (.int 60)) (sq (xCI 99 3 F_X11_within) (tIf1 (fun x => decide (x = 0)) 55 [false, false, false, false] 25 [true, true, true, true])))))),
  (25, (sq (xLA 0) (sq (xLI 2) (sq (xCI 10 2 F_X11_isKeep) (tIf1 (fun x => decide (x = 0)) 55 [false, false, false, false] 33 [true, true, true, true]))))),
  (33, (sq (xLI 3) (sq (xC (.int 0)) (sq (xC (.int 60)) (sq (xCI 99 3 F_X11_within) (tIf1 (fun x => decide (x = 0)) 55 [false, false, false, false] 43 [true, true, true, true])))))),
  (43, (sq (xLA 0) (sq (xGS 10 4 1 0) (sq (xGI 4 0) (sq (xC (.int 10)) (tIf2 (fun x y => decide (x < y)) 58 [true, true, true, true] 55 [false, false, false, false])))))),
  (55, (sq (xC (.int (-2))) tRI)),
  (58, (sq (xLA 0) (sq (xGS 10 4 1 0) (sq (xLI 1) (sq (xLI 2) (sq (xLI 3) (sq (xCV 4 4 F_X5_add) (sq (xLA 0) (sq (xGS 10 4 1 0) (sq (xGI 4 0) tRI))))))))))]
set_option maxRecDepth 100000 in
set_option maxHeartbeats 4000000 in
theorem s_X11_note : ∀ X : XCtx, XE X → X.2.2.1.1 = cX11_note → X.2.2.1.2.1 = 4 → X.2.2.1.2.2.1 = yX11_note.cls → X.2.2.1.2.2.2.1 = (some .int) → X.1.2.2.2.1 = { frames := 2, cells := 0, slots := 0, locals := 43 } → SndBs X bs_X11_note := by
  rintro ⟨⟨p, l, e, R, s⟩, Y, ⟨cc, nL, own, ret, Ts⟩, Z⟩ hE h1 h2 h3 h4 h5
  dsimp only at h1 h2 h3 h4 h5
  subst h1 h2 h3 h4 h5
  exact ⟨(n_sq (n_iload_n hE dX11_note_0) (n_sq (n_iconst hE (by decide) dX11_note_1) (n_ifcne hE (by decide) dX11_note_2))),
    (n_sq (n_aload_n hE dX11_note_5) (n_sq (n_getS hE xk_10 (k := 11) rfl (by decide) rfl wt_327 dX11_note_6) (n_sq (n_iconst hE (by decide) dX11_note_9) (n_sq (n_putI hE xk_4 (k := 0) rfl (by decide) rfl rfl (tyX5_ok 0 (by decide)) wt_266 dX11_note_10) (n_sq (n_iconst hE (by decide) dX11_note_13) (n_ireturn hE rfl dX11_note_14)))))),
    (n_sq (n_iload_n hE dX11_note_15) (n_sq (n_iconst hE (by decide) dX11_note_16) (n_sq (n_bipush hE (by decide) dX11_note_17) (n_sq (n_cIs hE m_X11_within vc_X11_170 (show 0 + 1 ≤ 2 ∧ 8 + (3 + 11) + 0 ≤ 43 by decide) dX11_note_19) (n_ifeq hE (by decide) dX11_note_22))))),
    (n_sq (n_aload_n hE dX11_note_25) (n_sq (n_iload_n hE dX11_note_26) (n_sq (n_cIv hE m_X11_isKeep vc_X11_145 (show 1 + 1 ≤ 2 ∧ 8 + (2 + 11) + 22 ≤ 43 by decide) dX11_note_27) (n_ifeq hE (by decide) dX11_note_30)))),
    (n_sq (n_iload_n hE dX11_note_33) (n_sq (n_iconst hE (by decide) dX11_note_34) (n_sq (n_bipush hE (by decide) dX11_note_35) (n_sq (n_cIs hE m_X11_within vc_X11_170 (show 0 + 1 ≤ 2 ∧ 8 + (3 + 11) + 0 ≤ 43 by decide) dX11_note_37) (n_ifeq hE (by decide) dX11_note_40))))),
    (n_sq (n_aload_n hE dX11_note_43) (n_sq (n_getS hE xk_10 (k := 11) rfl (by decide) rfl wt_327 dX11_note_44) (n_sq (n_getI hE xk_4 (k := 0) rfl (by decide) rfl wt_266 dX11_note_47) (n_sq (n_bipush hE (by decide) dX11_note_50) (n_ifclt hE (by decide) dX11_note_52))))),
    (n_sq (n_bipush hE (by decide) dX11_note_55) (n_ireturn hE rfl dX11_note_57)),
    (n_sq (n_aload_n hE dX11_note_58) (n_sq (n_getS hE xk_10 (k := 11) rfl (by decide) rfl wt_327 dX11_note_59) (n_sq (n_iload_n hE dX11_note_62) (n_sq (n_iload_n hE dX11_note_63) (n_sq (n_iload_n hE dX11_note_64) (n_sq (n_cVv hE m_X5_add vc_X11_303 (show 0 + 1 ≤ 2 ∧ 8 + (4 + 11) + 0 ≤ 43 by decide) dX11_note_65) (n_sq (n_aload_n hE dX11_note_68) (n_sq (n_getS hE xk_10 (k := 11) rfl (by decide) rfl wt_327 dX11_note_69) (n_sq (n_getI hE xk_4 (k := 0) rfl (by decide) rfl wt_266 dX11_note_72) (n_ireturn hE rfl dX11_note_75)))))))))), trivial⟩
noncomputable def F_X11_note (as : List XV) (w : XW) : Option (Int32 × XW) := (xF 4 bs_X11_note as w).bind pI
theorem m_X11_note : XM yX11_note cX11_note 4 (some .int) 2 43 (eI F_X11_note) := xm_I (xm_of (by decide) s_X11_note)
noncomputable def q_X11_note_0 (x1 : Int32) (x2 : Int32) (x3 : Int32) (w : XW) : Option XR := ev bs_X11_note 0 ([some (.inr (10, 0)), some (.inl (.int x1)), some (.inl (.int x2)), some (.inl (.int x3))], [], w)
noncomputable def q_X11_note_5 (w : XW) : Option XR := ev bs_X11_note 5 ([some (.inr (10, 0)), none, none, none], [], w)
noncomputable def q_X11_note_15 (x1 : Int32) (x2 : Int32) (x3 : Int32) (w : XW) : Option XR := ev bs_X11_note 15 ([some (.inr (10, 0)), some (.inl (.int x1)), some (.inl (.int x2)), some (.inl (.int x3))], [], w)
noncomputable def q_X11_note_25 (x1 : Int32) (x2 : Int32) (x3 : Int32) (w : XW) : Option XR := ev bs_X11_note 25 ([some (.inr (10, 0)), some (.inl (.int x1)), some (.inl (.int x2)), some (.inl (.int x3))], [], w)
noncomputable def q_X11_note_33 (x1 : Int32) (x2 : Int32) (x3 : Int32) (w : XW) : Option XR := ev bs_X11_note 33 ([some (.inr (10, 0)), some (.inl (.int x1)), some (.inl (.int x2)), some (.inl (.int x3))], [], w)
noncomputable def q_X11_note_43 (x1 : Int32) (x2 : Int32) (x3 : Int32) (w : XW) : Option XR := ev bs_X11_note 43 ([some (.inr (10, 0)), some (.inl (.int x1)), some (.inl (.int x2)), some (.inl (.int x3))], [], w)
noncomputable def q_X11_note_55 (w : XW) : Option XR := ev bs_X11_note 55 ([none, none, none, none], [], w)
noncomputable def q_X11_note_58 (x1 : Int32) (x2 : Int32) (x3 : Int32) (w : XW) : Option XR := ev bs_X11_note 58 ([some (.inr (10, 0)), some (.inl (.int x1)), some (.inl (.int x2)), some (.inl (.int x3))], [], w)
theorem e_X11_note_0 (x1 : Int32) (x2 : Int32) (x3 : Int32) (w : XW) : q_X11_note_0 x1 x2 x3 w = (bif decide (¬ x1 = (-1)) then (q_X11_note_15 x1 x2 x3 w) else (q_X11_note_5 w)) := (ev_eq _ _ _).trans rfl
theorem e_X11_note_5 (w : XW) : q_X11_note_5 w = (some (some (.inl (.int 0)), sI w 4 0 0 0)) := (ev_eq _ _ _).trans rfl
theorem e_X11_note_15 (x1 : Int32) (x2 : Int32) (x3 : Int32) (w : XW) : q_X11_note_15 x1 x2 x3 w = ((F_X11_within [.inl (.int x1), .inl (.int 0), .inl (.int 60)] w).bind fun r0 => (bif decide (r0.1 = 0) then (q_X11_note_55 r0.2) else (q_X11_note_25 x1 x2 x3 r0.2))) := (ev_eq _ _ _).trans rfl
theorem e_X11_note_25 (x1 : Int32) (x2 : Int32) (x3 : Int32) (w : XW) : q_X11_note_25 x1 x2 x3 w = ((F_X11_isKeep [.inr (10, 0), .inl (.int x2)] w).bind fun r0 => (bif decide (r0.1 = 0) then (q_X11_note_55 r0.2) else (q_X11_note_33 x1 x2 x3 r0.2))) := (ev_eq _ _ _).trans rfl
theorem e_X11_note_33 (x1 : Int32) (x2 : Int32) (x3 : Int32) (w : XW) : q_X11_note_33 x1 x2 x3 w = ((F_X11_within [.inl (.int x3), .inl (.int 0), .inl (.int 60)] w).bind fun r0 => (bif decide (r0.1 = 0) then (q_X11_note_55 r0.2) else (q_X11_note_43 x1 x2 x3 r0.2))) := (ev_eq _ _ _).trans rfl
theorem e_X11_note_43 (x1 : Int32) (x2 : Int32) (x3 : Int32) (w : XW) : q_X11_note_43 x1 x2 x3 w = (bif decide ((gI w 4 0 0) < 10) then (q_X11_note_58 x1 x2 x3 w) else (q_X11_note_55 w)) := (ev_eq _ _ _).trans rfl
theorem e_X11_note_55 (w : XW) : q_X11_note_55 w = (some (some (.inl (.int (-2))), w)) := (ev_eq _ _ _).trans rfl
theorem e_X11_note_58 (x1 : Int32) (x2 : Int32) (x3 : Int32) (w : XW) : q_X11_note_58 x1 x2 x3 w = ((F_X5_add [.inr (4, 0), .inl (.int x1), .inl (.int x2), .inl (.int x3)] w).bind fun r0 => (some (some (.inl (.int (gI r0 4 0 0))), r0))) := (ev_eq _ _ _).trans rfl
theorem f_X11_note (x1 : Int32) (x2 : Int32) (x3 : Int32) (w : XW) : F_X11_note [.inr (10, 0), .inl (.int x1), .inl (.int x2), .inl (.int x3)] w = (q_X11_note_0 x1 x2 x3 w).bind pI := rfl

-- WinterKeep$Scene.begin(LWinterKeep$Dale;)V
theorem dX9_begin_0 : decode cX9_begin 0 = .ok (.aload_n 0, 1) := by decide +kernel
theorem dX9_begin_1 : decode cX9_begin 1 = .ok (.aload_n 1, 1) := by decide +kernel
theorem dX9_begin_2 : decode cX9_begin 2 = .ok (.getfield 31, 3) := by decide +kernel
theorem dX9_begin_5 : decode cX9_begin 5 = .ok (.putfield 9, 3) := by decide +kernel
theorem dX9_begin_8 : decode cX9_begin 8 = .ok (.aload_n 0, 1) := by decide +kernel
theorem dX9_begin_9 : decode cX9_begin 9 = .ok (.iconst 0, 1) := by decide +kernel
theorem dX9_begin_10 : decode cX9_begin 10 = .ok (.putfield 15, 3) := by decide +kernel
theorem dX9_begin_13 : decode cX9_begin 13 = .ok (.iconst 0, 1) := by decide +kernel
theorem dX9_begin_14 : decode cX9_begin 14 = .ok (.istore_n 2, 1) := by decide +kernel
theorem dX9_begin_15 : decode cX9_begin 15 = .ok (.iload_n 2, 1) := by decide +kernel
theorem dX9_begin_16 : decode cX9_begin 16 = .ok (.bipush 6, 2) := by decide +kernel
theorem dX9_begin_18 : decode cX9_begin 18 = .ok (.if_icmp .ge 42, 3) := by decide +kernel
theorem dX9_begin_21 : decode cX9_begin 21 = .ok (.aload_n 0, 1) := by decide +kernel
theorem dX9_begin_22 : decode cX9_begin 22 = .ok (.getfield 18, 3) := by decide +kernel
theorem dX9_begin_25 : decode cX9_begin 25 = .ok (.iload_n 2, 1) := by decide +kernel
theorem dX9_begin_26 : decode cX9_begin 26 = .ok (.iconst 0, 1) := by decide +kernel
theorem dX9_begin_27 : decode cX9_begin 27 = .ok (.iastore, 1) := by decide +kernel
theorem dX9_begin_28 : decode cX9_begin 28 = .ok (.aload_n 0, 1) := by decide +kernel
theorem dX9_begin_29 : decode cX9_begin 29 = .ok (.getfield 22, 3) := by decide +kernel
theorem dX9_begin_32 : decode cX9_begin 32 = .ok (.iload_n 2, 1) := by decide +kernel
theorem dX9_begin_33 : decode cX9_begin 33 = .ok (.iconst 0, 1) := by decide +kernel
theorem dX9_begin_34 : decode cX9_begin 34 = .ok (.iastore, 1) := by decide +kernel
theorem dX9_begin_35 : decode cX9_begin 35 = .ok (.aload_n 0, 1) := by decide +kernel
theorem dX9_begin_36 : decode cX9_begin 36 = .ok (.getfield 25, 3) := by decide +kernel
theorem dX9_begin_39 : decode cX9_begin 39 = .ok (.iload_n 2, 1) := by decide +kernel
theorem dX9_begin_40 : decode cX9_begin 40 = .ok (.iconst (-1), 1) := by decide +kernel
theorem dX9_begin_41 : decode cX9_begin 41 = .ok (.iastore, 1) := by decide +kernel
theorem dX9_begin_42 : decode cX9_begin 42 = .ok (.aload_n 0, 1) := by decide +kernel
theorem dX9_begin_43 : decode cX9_begin 43 = .ok (.getfield 28, 3) := by decide +kernel
theorem dX9_begin_46 : decode cX9_begin 46 = .ok (.iload_n 2, 1) := by decide +kernel
theorem dX9_begin_47 : decode cX9_begin 47 = .ok (.aload_n 1, 1) := by decide +kernel
theorem dX9_begin_48 : decode cX9_begin 48 = .ok (.getfield 34, 3) := by decide +kernel
theorem dX9_begin_51 : decode cX9_begin 51 = .ok (.iload_n 2, 1) := by decide +kernel
theorem dX9_begin_52 : decode cX9_begin 52 = .ok (.iaload, 1) := by decide +kernel
theorem dX9_begin_53 : decode cX9_begin 53 = .ok (.iastore, 1) := by decide +kernel
theorem dX9_begin_54 : decode cX9_begin 54 = .ok (.iinc 2 1, 3) := by decide +kernel
theorem dX9_begin_57 : decode cX9_begin 57 = .ok (.goto (-42), 3) := by decide +kernel
theorem dX9_begin_60 : decode cX9_begin 60 = .ok (.return_, 1) := by decide +kernel
noncomputable def bs_X9_begin : List (Nat × XB) := [
  (0, (sq (xLA 0) (sq (xLA 1) (sq (xGI 1 3) (sq (xPI 8 0) (sq (xLA 0) (sq (xC (.int 0)) (sq (xPI 8 1) (sq (xC (.int 0)) (sq (xSI 2) (tGo 15 [true, true, true]))))))))))),
  (15, (sq (xLI 2) (sq (xC (.int 6)) (tIf2 (fun x y => decide (y ≤ x)) 60 [false, false, false] 21 [true, true, true])))),
  (21, (sq (xLA 0) (sq (xGS 8 30 0 0) (sq (xLI 2) (sq (xC (.int 0)) (sq (xTI 30 6 (fun x => x)) (sq (xLA 0) (sq (xGS 8 31 0 0) (sq (xLI 2) (sq (xC (.int 0)) (sq (xTI 31 6 (fun x => x)) (sq (xLA 0) (sq (xGS 8 32 0 0) (sq (xLI 2) (sq (xC (.int (-1))) (sq (xTI 32 6 (fun x => x)) (sq (xLA 0) (sq (xGS 8 33 0 0) (sq (xLI 2) (sq (xLA 1) (sq (xGS 1 15 0 0) (sq (xLI 2) (sq (xAI 15 6) (sq (xTI 33 6 (fun x => x)) (sq (xInc 2 1) (tGo 15 [true, true, true])))))))))))))))))))))))))),
  (60, tRV)]
set_option maxRecDepth 100000 in
set_option maxHeartbeats 4000000 in
theorem s_X9_begin : ∀ X : XCtx, XE X → X.2.2.1.1 = cX9_begin → X.2.2.1.2.1 = 3 → X.2.2.1.2.2.1 = yX9_begin.cls → X.2.2.1.2.2.2.1 = none → X.1.2.2.2.1 = { frames := 0, cells := 0, slots := 0, locals := 0 } → SndBs X bs_X9_begin := by
  rintro ⟨⟨p, l, e, R, s⟩, Y, ⟨cc, nL, own, ret, Ts⟩, Z⟩ hE h1 h2 h3 h4 h5
  dsimp only at h1 h2 h3 h4 h5
  subst h1 h2 h3 h4 h5
  exact ⟨(n_sq (n_aload_n hE dX9_begin_0) (n_sq (n_aload_n hE dX9_begin_1) (n_sq (n_getI hE xk_1 (k := 3) rfl (by decide) rfl wt_106 dX9_begin_2) (n_sq (n_putI hE xk_8 (k := 0) rfl (by decide) rfl rfl (tyX9_ok 0 (by decide)) wt_173 dX9_begin_5) (n_sq (n_aload_n hE dX9_begin_8) (n_sq (n_iconst hE (by decide) dX9_begin_9) (n_sq (n_putI hE xk_8 (k := 1) rfl (by decide) rfl rfl (tyX9_ok 1 (by decide)) wt_175 dX9_begin_10) (n_sq (n_iconst hE (by decide) dX9_begin_13) (n_sq (n_istore_n hE (show (2 : Nat) < 3 by decide) dX9_begin_14) n_fall))))))))),
    (n_sq (n_iload_n hE dX9_begin_15) (n_sq (n_bipush hE (by decide) dX9_begin_16) (n_ifcge hE (by decide) dX9_begin_18))),
    (n_sq (n_aload_n hE dX9_begin_21) (n_sq (n_getS hE xk_8 (k := 2) rfl (by decide) rfl wt_179 dX9_begin_22) (n_sq (n_iload_n hE dX9_begin_25) (n_sq (n_iconst hE (by decide) dX9_begin_26) (n_sq (n_iast hE rfl (by decide) dX9_begin_27) (n_sq (n_aload_n hE dX9_begin_28) (n_sq (n_getS hE xk_8 (k := 3) rfl (by decide) rfl wt_184 dX9_begin_29) (n_sq (n_iload_n hE dX9_begin_32) (n_sq (n_iconst hE (by decide) dX9_begin_33) (n_sq (n_iast hE rfl (by decide) dX9_begin_34) (n_sq (n_aload_n hE dX9_begin_35) (n_sq (n_getS hE xk_8 (k := 4) rfl (by decide) rfl wt_187 dX9_begin_36) (n_sq (n_iload_n hE dX9_begin_39) (n_sq (n_iconst hE (by decide) dX9_begin_40) (n_sq (n_iast hE rfl (by decide) dX9_begin_41) (n_sq (n_aload_n hE dX9_begin_42) (n_sq (n_getS hE xk_8 (k := 5) rfl (by decide) rfl wt_192 dX9_begin_43) (n_sq (n_iload_n hE dX9_begin_46) (n_sq (n_aload_n hE dX9_begin_47) (n_sq (n_getS hE xk_1 (k := 8) rfl (by decide) rfl wt_128 dX9_begin_48) (n_sq (n_iload_n hE dX9_begin_51) (n_sq (n_iald hE rfl (by decide) dX9_begin_52) (n_sq (n_iast hE rfl (by decide) dX9_begin_53) (n_sq (n_iinc hE (by decide) (show (2 : Nat) < 3 by decide) dX9_begin_54) (n_goto hE (by decide) dX9_begin_57))))))))))))))))))))))))),
    (n_vreturn hE rfl dX9_begin_60), trivial⟩
noncomputable def F_X9_begin (as : List XV) (w : XW) : Option XW := (xF 3 bs_X9_begin as w).bind pV
theorem m_X9_begin : XM yX9_begin cX9_begin 3 none 0 0 (eV F_X9_begin) := xm_V (xm_of (by decide) s_X9_begin)
noncomputable def q_X9_begin_0 (i0 : Nat) (i1 : Nat) (w : XW) : Option XR := ev bs_X9_begin 0 ([some (.inr (8, i0)), some (.inr (1, i1)), none], [], w)
noncomputable def q_X9_begin_15 (i0 : Nat) (i1 : Nat) (x2 : Int32) (w : XW) : Option XR := ev bs_X9_begin 15 ([some (.inr (8, i0)), some (.inr (1, i1)), some (.inl (.int x2))], [], w)
noncomputable def q_X9_begin_21 (i0 : Nat) (i1 : Nat) (x2 : Int32) (w : XW) : Option XR := ev bs_X9_begin 21 ([some (.inr (8, i0)), some (.inr (1, i1)), some (.inl (.int x2))], [], w)
noncomputable def q_X9_begin_60 (w : XW) : Option XR := ev bs_X9_begin 60 ([none, none, none], [], w)
theorem e_X9_begin_0 (i0 : Nat) (i1 : Nat) (w : XW) : q_X9_begin_0 i0 i1 w = (q_X9_begin_15 i0 i1 0 (sI (sI w 8 i0 0 (gI w 1 i1 3)) 8 i0 1 0)) := (ev_eq _ _ _).trans rfl
theorem e_X9_begin_15 (i0 : Nat) (i1 : Nat) (x2 : Int32) (w : XW) : q_X9_begin_15 i0 i1 x2 w = (bif decide (6 ≤ x2) then (q_X9_begin_60 w) else (q_X9_begin_21 i0 i1 x2 w)) := (ev_eq _ _ _).trans rfl
theorem e_X9_begin_21 (i0 : Nat) (i1 : Nat) (x2 : Int32) (w : XW) : q_X9_begin_21 i0 i1 x2 w = (if x2 < 0 ∨ 6 ≤ x2.toNatClampNeg then none else (if x2 < 0 ∨ 6 ≤ x2.toNatClampNeg then none else (if x2 < 0 ∨ 6 ≤ x2.toNatClampNeg then none else (if x2 < 0 ∨ 6 ≤ x2.toNatClampNeg then none else (if x2 < 0 ∨ 6 ≤ x2.toNatClampNeg then none else (q_X9_begin_15 i0 i1 (x2 + 1) (sI (sI (sI (sI w 30 i0 x2.toNatClampNeg 0) 31 i0 x2.toNatClampNeg 0) 32 i0 x2.toNatClampNeg (-1)) 33 i0 x2.toNatClampNeg (gI (sI (sI (sI w 30 i0 x2.toNatClampNeg 0) 31 i0 x2.toNatClampNeg 0) 32 i0 x2.toNatClampNeg (-1)) 15 i1 x2.toNatClampNeg)))))))) := (ev_eq _ _ _).trans rfl
theorem e_X9_begin_60 (w : XW) : q_X9_begin_60 w = (some (none, w)) := (ev_eq _ _ _).trans rfl
theorem f_X9_begin (i0 : Nat) (i1 : Nat) (w : XW) : F_X9_begin [.inr (8, i0), .inr (1, i1)] w = (q_X9_begin_0 i0 i1 w).bind pV := rfl

-- WinterKeep$Notes.lastNight()I
theorem dX5_lastNight_0 : decode cX5_lastNight 0 = .ok (.iconst 0, 1) := by decide +kernel
theorem dX5_lastNight_1 : decode cX5_lastNight 1 = .ok (.istore_n 1, 1) := by decide +kernel
theorem dX5_lastNight_2 : decode cX5_lastNight 2 = .ok (.iconst 0, 1) := by decide +kernel
theorem dX5_lastNight_3 : decode cX5_lastNight 3 = .ok (.istore_n 2, 1) := by decide +kernel
theorem dX5_lastNight_4 : decode cX5_lastNight 4 = .ok (.iload_n 2, 1) := by decide +kernel
theorem dX5_lastNight_5 : decode cX5_lastNight 5 = .ok (.aload_n 0, 1) := by decide +kernel
theorem dX5_lastNight_6 : decode cX5_lastNight 6 = .ok (.getfield 9, 3) := by decide +kernel
theorem dX5_lastNight_9 : decode cX5_lastNight 9 = .ok (.if_icmp .ge 20, 3) := by decide +kernel
theorem dX5_lastNight_12 : decode cX5_lastNight 12 = .ok (.iload_n 1, 1) := by decide +kernel
theorem dX5_lastNight_13 : decode cX5_lastNight 13 = .ok (.aload_n 0, 1) := by decide +kernel
theorem dX5_lastNight_14 : decode cX5_lastNight 14 = .ok (.getfield 15, 3) := by decide +kernel
theorem dX5_lastNight_17 : decode cX5_lastNight 17 = .ok (.iload_n 2, 1) := by decide +kernel
theorem dX5_lastNight_18 : decode cX5_lastNight 18 = .ok (.iaload, 1) := by decide +kernel
theorem dX5_lastNight_19 : decode cX5_lastNight 19 = .ok (.invokestatic 25, 3) := by decide +kernel
theorem dX5_lastNight_22 : decode cX5_lastNight 22 = .ok (.istore_n 1, 1) := by decide +kernel
theorem dX5_lastNight_23 : decode cX5_lastNight 23 = .ok (.iinc 2 1, 3) := by decide +kernel
theorem dX5_lastNight_26 : decode cX5_lastNight 26 = .ok (.goto (-22), 3) := by decide +kernel
theorem dX5_lastNight_29 : decode cX5_lastNight 29 = .ok (.iload_n 1, 1) := by decide +kernel
theorem dX5_lastNight_30 : decode cX5_lastNight 30 = .ok (.ireturn, 1) := by decide +kernel
noncomputable def bs_X5_lastNight : List (Nat × XB) := [
  (0, (sq (xC (.int 0)) (sq (xSI 1) (sq (xC (.int 0)) (sq (xSI 2) (tGo 4 [true, true, true])))))),
  (4, (sq (xLI 2) (sq (xLA 0) (sq (xGI 4 0) (tIf2 (fun x y => decide (y ≤ x)) 29 [false, true, false] 12 [true, true, true]))))),
  (12, (sq (xLI 1) (sq (xLA 0) (sq (xGS 4 22 0 0) (sq (xLI 2) (sq (xAI 22 10) (sq (xM2 (fun x y => if x < y then y else x)) (sq (xSI 1) (sq (xInc 2 1) (tGo 4 [true, true, true])))))))))),
  (29, (sq (xLI 1) tRI))]
set_option maxRecDepth 100000 in
set_option maxHeartbeats 4000000 in
theorem s_X5_lastNight : ∀ X : XCtx, XE X → X.2.2.1.1 = cX5_lastNight → X.2.2.1.2.1 = 3 → X.2.2.1.2.2.1 = yX5_lastNight.cls → X.2.2.1.2.2.2.1 = (some .int) → X.1.2.2.2.1 = { frames := 1, cells := 0, slots := 0, locals := 24 } → SndBs X bs_X5_lastNight := by
  rintro ⟨⟨p, l, e, R, s⟩, Y, ⟨cc, nL, own, ret, Ts⟩, Z⟩ hE h1 h2 h3 h4 h5
  dsimp only at h1 h2 h3 h4 h5
  subst h1 h2 h3 h4 h5
  exact ⟨(n_sq (n_iconst hE (by decide) dX5_lastNight_0) (n_sq (n_istore_n hE (show (1 : Nat) < 3 by decide) dX5_lastNight_1) (n_sq (n_iconst hE (by decide) dX5_lastNight_2) (n_sq (n_istore_n hE (show (2 : Nat) < 3 by decide) dX5_lastNight_3) n_fall)))),
    (n_sq (n_iload_n hE dX5_lastNight_4) (n_sq (n_aload_n hE dX5_lastNight_5) (n_sq (n_getI hE xk_4 (k := 0) rfl (by decide) rfl wt_265 dX5_lastNight_6) (n_ifcge hE (by decide) dX5_lastNight_9)))),
    (n_sq (n_iload_n hE dX5_lastNight_12) (n_sq (n_aload_n hE dX5_lastNight_13) (n_sq (n_getS hE xk_4 (k := 1) rfl (by decide) rfl wt_267 dX5_lastNight_14) (n_sq (n_iload_n hE dX5_lastNight_17) (n_sq (n_iald hE rfl (by decide) dX5_lastNight_18) (n_sq (n_mmax hE wt_900 wt_724 wt_19 wt_725 (show 1 ≤ 1 ∧ 24 ≤ 24 by decide) dX5_lastNight_19) (n_sq (n_istore_n hE (show (1 : Nat) < 3 by decide) dX5_lastNight_22) (n_sq (n_iinc hE (by decide) (show (2 : Nat) < 3 by decide) dX5_lastNight_23) (n_goto hE (by decide) dX5_lastNight_26))))))))),
    (n_sq (n_iload_n hE dX5_lastNight_29) (n_ireturn hE rfl dX5_lastNight_30)), trivial⟩
noncomputable def F_X5_lastNight (as : List XV) (w : XW) : Option (Int32 × XW) := (xF 3 bs_X5_lastNight as w).bind pI
theorem m_X5_lastNight : XM yX5_lastNight cX5_lastNight 3 (some .int) 1 24 (eI F_X5_lastNight) := xm_I (xm_of (by decide) s_X5_lastNight)
noncomputable def q_X5_lastNight_0 (i0 : Nat) (w : XW) : Option XR := ev bs_X5_lastNight 0 ([some (.inr (4, i0)), none, none], [], w)
noncomputable def q_X5_lastNight_4 (i0 : Nat) (x1 : Int32) (x2 : Int32) (w : XW) : Option XR := ev bs_X5_lastNight 4 ([some (.inr (4, i0)), some (.inl (.int x1)), some (.inl (.int x2))], [], w)
noncomputable def q_X5_lastNight_12 (i0 : Nat) (x1 : Int32) (x2 : Int32) (w : XW) : Option XR := ev bs_X5_lastNight 12 ([some (.inr (4, i0)), some (.inl (.int x1)), some (.inl (.int x2))], [], w)
noncomputable def q_X5_lastNight_29 (x1 : Int32) (w : XW) : Option XR := ev bs_X5_lastNight 29 ([none, some (.inl (.int x1)), none], [], w)
theorem e_X5_lastNight_0 (i0 : Nat) (w : XW) : q_X5_lastNight_0 i0 w = (q_X5_lastNight_4 i0 0 0 w) := (ev_eq _ _ _).trans rfl
theorem e_X5_lastNight_4 (i0 : Nat) (x1 : Int32) (x2 : Int32) (w : XW) : q_X5_lastNight_4 i0 x1 x2 w = (bif decide ((gI w 4 i0 0) ≤ x2) then (q_X5_lastNight_29 x1 w) else (q_X5_lastNight_12 i0 x1 x2 w)) := (ev_eq _ _ _).trans rfl
theorem e_X5_lastNight_12 (i0 : Nat) (x1 : Int32) (x2 : Int32) (w : XW) : q_X5_lastNight_12 i0 x1 x2 w = (if x2 < 0 ∨ 10 ≤ x2.toNatClampNeg then none else (q_X5_lastNight_4 i0 (if x1 < (gI w 22 i0 x2.toNatClampNeg) then (gI w 22 i0 x2.toNatClampNeg) else x1) (x2 + 1) w)) := (ev_eq _ _ _).trans rfl
theorem e_X5_lastNight_29 (x1 : Int32) (w : XW) : q_X5_lastNight_29 x1 w = (some (some (.inl (.int x1)), w)) := (ev_eq _ _ _).trans rfl
theorem f_X5_lastNight (i0 : Nat) (w : XW) : F_X5_lastNight [.inr (4, i0)] w = (q_X5_lastNight_0 i0 w).bind pI := rfl

-- WinterKeep$Notes.areSo(LWinterKeep$Scene;)Z
theorem dX5_areSo_0 : decode cX5_areSo 0 = .ok (.iconst 0, 1) := by decide +kernel
theorem dX5_areSo_1 : decode cX5_areSo 1 = .ok (.istore_n 2, 1) := by decide +kernel
theorem dX5_areSo_2 : decode cX5_areSo 2 = .ok (.iload_n 2, 1) := by decide +kernel
theorem dX5_areSo_3 : decode cX5_areSo 3 = .ok (.aload_n 0, 1) := by decide +kernel
theorem dX5_areSo_4 : decode cX5_areSo 4 = .ok (.getfield 9, 3) := by decide +kernel
theorem dX5_areSo_7 : decode cX5_areSo 7 = .ok (.if_icmp .ge 44, 3) := by decide +kernel
theorem dX5_areSo_10 : decode cX5_areSo 10 = .ok (.aload_n 0, 1) := by decide +kernel
theorem dX5_areSo_11 : decode cX5_areSo 11 = .ok (.getfield 15, 3) := by decide +kernel
theorem dX5_areSo_14 : decode cX5_areSo 14 = .ok (.iload_n 2, 1) := by decide +kernel
theorem dX5_areSo_15 : decode cX5_areSo 15 = .ok (.iaload, 1) := by decide +kernel
theorem dX5_areSo_16 : decode cX5_areSo 16 = .ok (.aload_n 1, 1) := by decide +kernel
theorem dX5_areSo_17 : decode cX5_areSo 17 = .ok (.getfield 31, 3) := by decide +kernel
theorem dX5_areSo_20 : decode cX5_areSo 20 = .ok (.if_icmp .ne 25, 3) := by decide +kernel
theorem dX5_areSo_23 : decode cX5_areSo 23 = .ok (.aload_n 1, 1) := by decide +kernel
theorem dX5_areSo_24 : decode cX5_areSo 24 = .ok (.getfield 35, 3) := by decide +kernel
theorem dX5_areSo_27 : decode cX5_areSo 27 = .ok (.aload_n 0, 1) := by decide +kernel
theorem dX5_areSo_28 : decode cX5_areSo 28 = .ok (.getfield 19, 3) := by decide +kernel
theorem dX5_areSo_31 : decode cX5_areSo 31 = .ok (.iload_n 2, 1) := by decide +kernel
theorem dX5_areSo_32 : decode cX5_areSo 32 = .ok (.iaload, 1) := by decide +kernel
theorem dX5_areSo_33 : decode cX5_areSo 33 = .ok (.iaload, 1) := by decide +kernel
theorem dX5_areSo_34 : decode cX5_areSo 34 = .ok (.aload_n 0, 1) := by decide +kernel
theorem dX5_areSo_35 : decode cX5_areSo 35 = .ok (.getfield 22, 3) := by decide +kernel
theorem dX5_areSo_38 : decode cX5_areSo 38 = .ok (.iload_n 2, 1) := by decide +kernel
theorem dX5_areSo_39 : decode cX5_areSo 39 = .ok (.iaload, 1) := by decide +kernel
theorem dX5_areSo_40 : decode cX5_areSo 40 = .ok (.if_icmp .eq 5, 3) := by decide +kernel
theorem dX5_areSo_43 : decode cX5_areSo 43 = .ok (.iconst 0, 1) := by decide +kernel
theorem dX5_areSo_44 : decode cX5_areSo 44 = .ok (.ireturn, 1) := by decide +kernel
theorem dX5_areSo_45 : decode cX5_areSo 45 = .ok (.iinc 2 1, 3) := by decide +kernel
theorem dX5_areSo_48 : decode cX5_areSo 48 = .ok (.goto (-46), 3) := by decide +kernel
theorem dX5_areSo_51 : decode cX5_areSo 51 = .ok (.iconst 1, 1) := by decide +kernel
theorem dX5_areSo_52 : decode cX5_areSo 52 = .ok (.ireturn, 1) := by decide +kernel
noncomputable def bs_X5_areSo : List (Nat × XB) := [
  (0, (sq (xC (.int 0)) (sq (xSI 2) (tGo 2 [true, true, true])))),
  (2, (sq (xLI 2) (sq (xLA 0) (sq (xGI 4 0) (tIf2 (fun x y => decide (y ≤ x)) 51 [false, false, false] 10 [true, true, true]))))),
  (10, (sq (xLA 0) (sq (xGS 4 22 0 0) (sq (xLI 2) (sq (xAI 22 10) (sq (xLA 1) (sq (xGI 8 1) (tIf2 (fun x y => decide (¬ x = y)) 45 [true, true, true] 23 [true, true, true])))))))),
  (23, (sq (xLA 1) (sq (xGS 8 30 0 0) (sq (xLA 0) (sq (xGS 4 23 0 0) (sq (xLI 2) (sq (xAI 23 10) (sq (xAI 30 6) (sq (xLA 0) (sq (xGS 4 24 0 0) (sq (xLI 2) (sq (xAI 24 10) (tIf2 (fun x y => decide (x = y)) 45 [true, true, true] 43 [false, false, false]))))))))))))),
  (43, (sq (xC (.int 0)) tRZ)),
  (45, (sq (xInc 2 1) (tGo 2 [true, true, true]))),
  (51, (sq (xC (.int 1)) tRZ))]
set_option maxRecDepth 100000 in
set_option maxHeartbeats 4000000 in
theorem s_X5_areSo : ∀ X : XCtx, XE X → X.2.2.1.1 = cX5_areSo → X.2.2.1.2.1 = 3 → X.2.2.1.2.2.1 = yX5_areSo.cls → X.2.2.1.2.2.2.1 = (some .boolean) → X.1.2.2.2.1 = { frames := 0, cells := 0, slots := 0, locals := 0 } → SndBs X bs_X5_areSo := by
  rintro ⟨⟨p, l, e, R, s⟩, Y, ⟨cc, nL, own, ret, Ts⟩, Z⟩ hE h1 h2 h3 h4 h5
  dsimp only at h1 h2 h3 h4 h5
  subst h1 h2 h3 h4 h5
  exact ⟨(n_sq (n_iconst hE (by decide) dX5_areSo_0) (n_sq (n_istore_n hE (show (2 : Nat) < 3 by decide) dX5_areSo_1) n_fall)),
    (n_sq (n_iload_n hE dX5_areSo_2) (n_sq (n_aload_n hE dX5_areSo_3) (n_sq (n_getI hE xk_4 (k := 0) rfl (by decide) rfl wt_265 dX5_areSo_4) (n_ifcge hE (by decide) dX5_areSo_7)))),
    (n_sq (n_aload_n hE dX5_areSo_10) (n_sq (n_getS hE xk_4 (k := 1) rfl (by decide) rfl wt_267 dX5_areSo_11) (n_sq (n_iload_n hE dX5_areSo_14) (n_sq (n_iald hE rfl (by decide) dX5_areSo_15) (n_sq (n_aload_n hE dX5_areSo_16) (n_sq (n_getI hE xk_8 (k := 1) rfl (by decide) rfl wt_177 dX5_areSo_17) (n_ifcne hE (by decide) dX5_areSo_20))))))),
    (n_sq (n_aload_n hE dX5_areSo_23) (n_sq (n_getS hE xk_8 (k := 2) rfl (by decide) rfl wt_181 dX5_areSo_24) (n_sq (n_aload_n hE dX5_areSo_27) (n_sq (n_getS hE xk_4 (k := 2) rfl (by decide) rfl wt_268 dX5_areSo_28) (n_sq (n_iload_n hE dX5_areSo_31) (n_sq (n_iald hE rfl (by decide) dX5_areSo_32) (n_sq (n_iald hE rfl (by decide) dX5_areSo_33) (n_sq (n_aload_n hE dX5_areSo_34) (n_sq (n_getS hE xk_4 (k := 3) rfl (by decide) rfl wt_269 dX5_areSo_35) (n_sq (n_iload_n hE dX5_areSo_38) (n_sq (n_iald hE rfl (by decide) dX5_areSo_39) (n_ifceq hE (by decide) dX5_areSo_40)))))))))))),
    (n_sq (n_iconst hE (by decide) dX5_areSo_43) (n_zreturn hE rfl dX5_areSo_44)),
    (n_sq (n_iinc hE (by decide) (show (2 : Nat) < 3 by decide) dX5_areSo_45) (n_goto hE (by decide) dX5_areSo_48)),
    (n_sq (n_iconst hE (by decide) dX5_areSo_51) (n_zreturn hE rfl dX5_areSo_52)), trivial⟩
noncomputable def F_X5_areSo (as : List XV) (w : XW) : Option (Int32 × XW) := (xF 3 bs_X5_areSo as w).bind pI
theorem m_X5_areSo : XM yX5_areSo cX5_areSo 3 (some .boolean) 0 0 (eI F_X5_areSo) := xm_I (xm_of (by decide) s_X5_areSo)
noncomputable def q_X5_areSo_0 (i0 : Nat) (i1 : Nat) (w : XW) : Option XR := ev bs_X5_areSo 0 ([some (.inr (4, i0)), some (.inr (8, i1)), none], [], w)
noncomputable def q_X5_areSo_2 (i0 : Nat) (i1 : Nat) (x2 : Int32) (w : XW) : Option XR := ev bs_X5_areSo 2 ([some (.inr (4, i0)), some (.inr (8, i1)), some (.inl (.int x2))], [], w)
noncomputable def q_X5_areSo_10 (i0 : Nat) (i1 : Nat) (x2 : Int32) (w : XW) : Option XR := ev bs_X5_areSo 10 ([some (.inr (4, i0)), some (.inr (8, i1)), some (.inl (.int x2))], [], w)
noncomputable def q_X5_areSo_23 (i0 : Nat) (i1 : Nat) (x2 : Int32) (w : XW) : Option XR := ev bs_X5_areSo 23 ([some (.inr (4, i0)), some (.inr (8, i1)), some (.inl (.int x2))], [], w)
noncomputable def q_X5_areSo_43 (w : XW) : Option XR := ev bs_X5_areSo 43 ([none, none, none], [], w)
noncomputable def q_X5_areSo_45 (i0 : Nat) (i1 : Nat) (x2 : Int32) (w : XW) : Option XR := ev bs_X5_areSo 45 ([some (.inr (4, i0)), some (.inr (8, i1)), some (.inl (.int x2))], [], w)
noncomputable def q_X5_areSo_51 (w : XW) : Option XR := ev bs_X5_areSo 51 ([none, none, none], [], w)
theorem e_X5_areSo_0 (i0 : Nat) (i1 : Nat) (w : XW) : q_X5_areSo_0 i0 i1 w = (q_X5_areSo_2 i0 i1 0 w) := (ev_eq _ _ _).trans rfl
theorem e_X5_areSo_2 (i0 : Nat) (i1 : Nat) (x2 : Int32) (w : XW) : q_X5_areSo_2 i0 i1 x2 w = (bif decide ((gI w 4 i0 0) ≤ x2) then (q_X5_areSo_51 w) else (q_X5_areSo_10 i0 i1 x2 w)) := (ev_eq _ _ _).trans rfl
theorem e_X5_areSo_10 (i0 : Nat) (i1 : Nat) (x2 : Int32) (w : XW) : q_X5_areSo_10 i0 i1 x2 w = (if x2 < 0 ∨ 10 ≤ x2.toNatClampNeg then none else (bif decide (¬ (gI w 22 i0 x2.toNatClampNeg) = (gI w 8 i1 1)) then (q_X5_areSo_45 i0 i1 x2 w) else (q_X5_areSo_23 i0 i1 x2 w))) := (ev_eq _ _ _).trans rfl
theorem e_X5_areSo_23 (i0 : Nat) (i1 : Nat) (x2 : Int32) (w : XW) : q_X5_areSo_23 i0 i1 x2 w = (if x2 < 0 ∨ 10 ≤ x2.toNatClampNeg then none else (if (gI w 23 i0 x2.toNatClampNeg) < 0 ∨ 6 ≤ (gI w 23 i0 x2.toNatClampNeg).toNatClampNeg then none else (if x2 < 0 ∨ 10 ≤ x2.toNatClampNeg then none else (bif decide ((gI w 30 i1 (gI w 23 i0 x2.toNatClampNeg).toNatClampNeg) = (gI w 24 i0 x2.toNatClampNeg)) then (q_X5_areSo_45 i0 i1 x2 w) else (q_X5_areSo_43 w))))) := (ev_eq _ _ _).trans rfl
theorem e_X5_areSo_43 (w : XW) : q_X5_areSo_43 w = (some (some (.inl (.int 0)), w)) := (ev_eq _ _ _).trans rfl
theorem e_X5_areSo_45 (i0 : Nat) (i1 : Nat) (x2 : Int32) (w : XW) : q_X5_areSo_45 i0 i1 x2 w = (q_X5_areSo_2 i0 i1 (x2 + 1) w) := (ev_eq _ _ _).trans rfl
theorem e_X5_areSo_51 (w : XW) : q_X5_areSo_51 w = (some (some (.inl (.int 1)), w)) := (ev_eq _ _ _).trans rfl
theorem f_X5_areSo (i0 : Nat) (i1 : Nat) (w : XW) : F_X5_areSo [.inr (4, i0), .inr (8, i1)] w = (q_X5_areSo_0 i0 i1 w).bind pI := rfl

-- WinterKeep.lookAtRun()V
theorem dX11_lookAtRun_0 : decode cX11_lookAtRun 0 = .ok (.iconst 0, 1) := by decide +kernel
theorem dX11_lookAtRun_1 : decode cX11_lookAtRun 1 = .ok (.istore_n 1, 1) := by decide +kernel
theorem dX11_lookAtRun_2 : decode cX11_lookAtRun 2 = .ok (.iload_n 1, 1) := by decide +kernel
theorem dX11_lookAtRun_3 : decode cX11_lookAtRun 3 = .ok (.bipush 6, 2) := by decide +kernel
theorem dX11_lookAtRun_5 : decode cX11_lookAtRun 5 = .ok (.if_icmp .ge 27, 3) := by decide +kernel
theorem dX11_lookAtRun_8 : decode cX11_lookAtRun 8 = .ok (.aload_n 0, 1) := by decide +kernel
theorem dX11_lookAtRun_9 : decode cX11_lookAtRun 9 = .ok (.getfield 108, 3) := by decide +kernel
theorem dX11_lookAtRun_12 : decode cX11_lookAtRun 12 = .ok (.bipush 36, 2) := by decide +kernel
theorem dX11_lookAtRun_14 : decode cX11_lookAtRun 14 = .ok (.iload_n 1, 1) := by decide +kernel
theorem dX11_lookAtRun_15 : decode cX11_lookAtRun 15 = .ok (.iadd, 1) := by decide +kernel
theorem dX11_lookAtRun_16 : decode cX11_lookAtRun 16 = .ok (.aload_n 0, 1) := by decide +kernel
theorem dX11_lookAtRun_17 : decode cX11_lookAtRun 17 = .ok (.getfield 50, 3) := by decide +kernel
theorem dX11_lookAtRun_20 : decode cX11_lookAtRun 20 = .ok (.getfield 155, 3) := by decide +kernel
theorem dX11_lookAtRun_23 : decode cX11_lookAtRun 23 = .ok (.iload_n 1, 1) := by decide +kernel
theorem dX11_lookAtRun_24 : decode cX11_lookAtRun 24 = .ok (.iaload, 1) := by decide +kernel
theorem dX11_lookAtRun_25 : decode cX11_lookAtRun 25 = .ok (.iastore, 1) := by decide +kernel
theorem dX11_lookAtRun_26 : decode cX11_lookAtRun 26 = .ok (.iinc 1 1, 3) := by decide +kernel
theorem dX11_lookAtRun_29 : decode cX11_lookAtRun 29 = .ok (.goto (-27), 3) := by decide +kernel
theorem dX11_lookAtRun_32 : decode cX11_lookAtRun 32 = .ok (.return_, 1) := by decide +kernel
noncomputable def bs_X11_lookAtRun : List (Nat × XB) := [
  (0, (sq (xC (.int 0)) (sq (xSI 1) (tGo 2 [true, true])))),
  (2, (sq (xLI 1) (sq (xC (.int 6)) (tIf2 (fun x y => decide (y ≤ x)) 32 [false, false] 8 [true, true])))),
  (8, (sq (xLA 0) (sq (xGS 10 40 1 0) (sq (xC (.int 36)) (sq (xLI 1) (sq (xI2 (· + ·)) (sq (xLA 0) (sq (xGS 10 8 1 1) (sq (xGS 8 30 0 0) (sq (xLI 1) (sq (xAI 30 6) (sq (xTI 40 42 (fun x => x)) (sq (xInc 1 1) (tGo 2 [true, true])))))))))))))),
  (32, tRV)]
set_option maxRecDepth 100000 in
set_option maxHeartbeats 4000000 in
theorem s_X11_lookAtRun : ∀ X : XCtx, XE X → X.2.2.1.1 = cX11_lookAtRun → X.2.2.1.2.1 = 2 → X.2.2.1.2.2.1 = yX11_lookAtRun.cls → X.2.2.1.2.2.2.1 = none → X.1.2.2.2.1 = { frames := 0, cells := 0, slots := 0, locals := 0 } → SndBs X bs_X11_lookAtRun := by
  rintro ⟨⟨p, l, e, R, s⟩, Y, ⟨cc, nL, own, ret, Ts⟩, Z⟩ hE h1 h2 h3 h4 h5
  dsimp only at h1 h2 h3 h4 h5
  subst h1 h2 h3 h4 h5
  exact ⟨(n_sq (n_iconst hE (by decide) dX11_lookAtRun_0) (n_sq (n_istore_n hE (show (1 : Nat) < 2 by decide) dX11_lookAtRun_1) n_fall)),
    (n_sq (n_iload_n hE dX11_lookAtRun_2) (n_sq (n_bipush hE (by decide) dX11_lookAtRun_3) (n_ifcge hE (by decide) dX11_lookAtRun_5))),
    (n_sq (n_aload_n hE dX11_lookAtRun_8) (n_sq (n_getS hE xk_10 (k := 19) rfl (by decide) rfl wt_335 dX11_lookAtRun_9) (n_sq (n_bipush hE (by decide) dX11_lookAtRun_12) (n_sq (n_iload_n hE dX11_lookAtRun_14) (n_sq (n_iadd hE dX11_lookAtRun_15) (n_sq (n_aload_n hE dX11_lookAtRun_16) (n_sq (n_getS hE xk_10 (k := 7) rfl (by decide) rfl wt_323 dX11_lookAtRun_17) (n_sq (n_getS hE xk_8 (k := 2) rfl (by decide) rfl wt_183 dX11_lookAtRun_20) (n_sq (n_iload_n hE dX11_lookAtRun_23) (n_sq (n_iald hE rfl (by decide) dX11_lookAtRun_24) (n_sq (n_iast hE rfl (by decide) dX11_lookAtRun_25) (n_sq (n_iinc hE (by decide) (show (1 : Nat) < 2 by decide) dX11_lookAtRun_26) (n_goto hE (by decide) dX11_lookAtRun_29))))))))))))),
    (n_vreturn hE rfl dX11_lookAtRun_32), trivial⟩
noncomputable def F_X11_lookAtRun (as : List XV) (w : XW) : Option XW := (xF 2 bs_X11_lookAtRun as w).bind pV
theorem m_X11_lookAtRun : XM yX11_lookAtRun cX11_lookAtRun 2 none 0 0 (eV F_X11_lookAtRun) := xm_V (xm_of (by decide) s_X11_lookAtRun)
noncomputable def q_X11_lookAtRun_0 (w : XW) : Option XR := ev bs_X11_lookAtRun 0 ([some (.inr (10, 0)), none], [], w)
noncomputable def q_X11_lookAtRun_2 (x1 : Int32) (w : XW) : Option XR := ev bs_X11_lookAtRun 2 ([some (.inr (10, 0)), some (.inl (.int x1))], [], w)
noncomputable def q_X11_lookAtRun_8 (x1 : Int32) (w : XW) : Option XR := ev bs_X11_lookAtRun 8 ([some (.inr (10, 0)), some (.inl (.int x1))], [], w)
noncomputable def q_X11_lookAtRun_32 (w : XW) : Option XR := ev bs_X11_lookAtRun 32 ([none, none], [], w)
theorem e_X11_lookAtRun_0 (w : XW) : q_X11_lookAtRun_0 w = (q_X11_lookAtRun_2 0 w) := (ev_eq _ _ _).trans rfl
theorem e_X11_lookAtRun_2 (x1 : Int32) (w : XW) : q_X11_lookAtRun_2 x1 w = (bif decide (6 ≤ x1) then (q_X11_lookAtRun_32 w) else (q_X11_lookAtRun_8 x1 w)) := (ev_eq _ _ _).trans rfl
theorem e_X11_lookAtRun_8 (x1 : Int32) (w : XW) : q_X11_lookAtRun_8 x1 w = (if x1 < 0 ∨ 6 ≤ x1.toNatClampNeg then none else (if (36 + x1) < 0 ∨ 42 ≤ (36 + x1).toNatClampNeg then none else (q_X11_lookAtRun_2 (x1 + 1) (sI w 40 0 ((36 + x1).toNatClampNeg) (gI w 30 1 x1.toNatClampNeg))))) := (ev_eq _ _ _).trans rfl
theorem e_X11_lookAtRun_32 (w : XW) : q_X11_lookAtRun_32 w = (some (none, w)) := (ev_eq _ _ _).trans rfl
theorem f_X11_lookAtRun (w : XW) : F_X11_lookAtRun [.inr (10, 0)] w = (q_X11_lookAtRun_0 w).bind pV := rfl

-- WinterKeep.isSoBy(II)Z
theorem dX11_isSoBy_0 : decode cX11_isSoBy 0 = .ok (.aload_n 0, 1) := by decide +kernel
theorem dX11_isSoBy_1 : decode cX11_isSoBy 1 = .ok (.getfield 56, 3) := by decide +kernel
theorem dX11_isSoBy_4 : decode cX11_isSoBy 4 = .ok (.aload_n 0, 1) := by decide +kernel
theorem dX11_isSoBy_5 : decode cX11_isSoBy 5 = .ok (.getfield 39, 3) := by decide +kernel
theorem dX11_isSoBy_8 : decode cX11_isSoBy 8 = .ok (.aload_n 0, 1) := by decide +kernel
theorem dX11_isSoBy_9 : decode cX11_isSoBy 9 = .ok (.iload_n 1, 1) := by decide +kernel
theorem dX11_isSoBy_10 : decode cX11_isSoBy 10 = .ok (.invokevirtual 234, 3) := by decide +kernel
theorem dX11_isSoBy_13 : decode cX11_isSoBy 13 = .ok (.invokevirtual 238, 3) := by decide +kernel
theorem dX11_isSoBy_16 : decode cX11_isSoBy 16 = .ok (.aload_n 0, 1) := by decide +kernel
theorem dX11_isSoBy_17 : decode cX11_isSoBy 17 = .ok (.getfield 50, 3) := by decide +kernel
theorem dX11_isSoBy_20 : decode cX11_isSoBy 20 = .ok (.aload_n 0, 1) := by decide +kernel
theorem dX11_isSoBy_21 : decode cX11_isSoBy 21 = .ok (.getfield 39, 3) := by decide +kernel
theorem dX11_isSoBy_24 : decode cX11_isSoBy 24 = .ok (.invokevirtual 128, 3) := by decide +kernel
theorem dX11_isSoBy_27 : decode cX11_isSoBy 27 = .ok (.iload_n 2, 1) := by decide +kernel
theorem dX11_isSoBy_28 : decode cX11_isSoBy 28 = .ok (.aload_n 0, 1) := by decide +kernel
theorem dX11_isSoBy_29 : decode cX11_isSoBy 29 = .ok (.getfield 77, 3) := by decide +kernel
theorem dX11_isSoBy_32 : decode cX11_isSoBy 32 = .ok (.invokevirtual 314, 3) := by decide +kernel
theorem dX11_isSoBy_35 : decode cX11_isSoBy 35 = .ok (.invokestatic 317, 3) := by decide +kernel
theorem dX11_isSoBy_38 : decode cX11_isSoBy 38 = .ok (.istore_n 3, 1) := by decide +kernel
theorem dX11_isSoBy_39 : decode cX11_isSoBy 39 = .ok (.iconst 0, 1) := by decide +kernel
theorem dX11_isSoBy_40 : decode cX11_isSoBy 40 = .ok (.istore 4, 2) := by decide +kernel
theorem dX11_isSoBy_42 : decode cX11_isSoBy 42 = .ok (.iload 4, 2) := by decide +kernel
theorem dX11_isSoBy_44 : decode cX11_isSoBy 44 = .ok (.iload_n 3, 1) := by decide +kernel
theorem dX11_isSoBy_45 : decode cX11_isSoBy 45 = .ok (.if_icmp .gt 47, 3) := by decide +kernel
theorem dX11_isSoBy_48 : decode cX11_isSoBy 48 = .ok (.aload_n 0, 1) := by decide +kernel
theorem dX11_isSoBy_49 : decode cX11_isSoBy 49 = .ok (.getfield 77, 3) := by decide +kernel
theorem dX11_isSoBy_52 : decode cX11_isSoBy 52 = .ok (.aload_n 0, 1) := by decide +kernel
theorem dX11_isSoBy_53 : decode cX11_isSoBy 53 = .ok (.getfield 50, 3) := by decide +kernel
theorem dX11_isSoBy_56 : decode cX11_isSoBy 56 = .ok (.invokevirtual 320, 3) := by decide +kernel
theorem dX11_isSoBy_59 : decode cX11_isSoBy 59 = .ok (.ifCond .ne 5, 3) := by decide +kernel
theorem dX11_isSoBy_62 : decode cX11_isSoBy 62 = .ok (.iconst 0, 1) := by decide +kernel
theorem dX11_isSoBy_63 : decode cX11_isSoBy 63 = .ok (.ireturn, 1) := by decide +kernel
theorem dX11_isSoBy_64 : decode cX11_isSoBy 64 = .ok (.iload 4, 2) := by decide +kernel
theorem dX11_isSoBy_66 : decode cX11_isSoBy 66 = .ok (.iload_n 2, 1) := by decide +kernel
theorem dX11_isSoBy_67 : decode cX11_isSoBy 67 = .ok (.if_icmp .ne 7, 3) := by decide +kernel
theorem dX11_isSoBy_70 : decode cX11_isSoBy 70 = .ok (.aload_n 0, 1) := by decide +kernel
theorem dX11_isSoBy_71 : decode cX11_isSoBy 71 = .ok (.invokevirtual 324, 3) := by decide +kernel
theorem dX11_isSoBy_74 : decode cX11_isSoBy 74 = .ok (.aload_n 0, 1) := by decide +kernel
theorem dX11_isSoBy_75 : decode cX11_isSoBy 75 = .ok (.getfield 56, 3) := by decide +kernel
theorem dX11_isSoBy_78 : decode cX11_isSoBy 78 = .ok (.aload_n 0, 1) := by decide +kernel
theorem dX11_isSoBy_79 : decode cX11_isSoBy 79 = .ok (.getfield 50, 3) := by decide +kernel
theorem dX11_isSoBy_82 : decode cX11_isSoBy 82 = .ok (.invokevirtual 242, 3) := by decide +kernel
theorem dX11_isSoBy_85 : decode cX11_isSoBy 85 = .ok (.pop, 1) := by decide +kernel
theorem dX11_isSoBy_86 : decode cX11_isSoBy 86 = .ok (.iinc 4 1, 3) := by decide +kernel
theorem dX11_isSoBy_89 : decode cX11_isSoBy 89 = .ok (.goto (-47), 3) := by decide +kernel
theorem dX11_isSoBy_92 : decode cX11_isSoBy 92 = .ok (.iconst 1, 1) := by decide +kernel
theorem dX11_isSoBy_93 : decode cX11_isSoBy 93 = .ok (.ireturn, 1) := by decide +kernel
theorem vc_X11_128 : XVw RX11 128 1 8 3 yX9_begin cX9_begin none := ⟨RX9, TX9, tyX9, 6, xk_8, rfl, ⟨by decide, by decide⟩, by decide +kernel, wt_500, wt_501, wt_502, wt_5, wt_503⟩
theorem vc_X11_314 : XVw RX11 314 0 4 3 yX5_lastNight cX5_lastNight (some .int) := ⟨RX5, TX5, tyX5, 4, xk_4, rfl, ⟨by decide, by decide⟩, by decide +kernel, wt_896, wt_897, wt_898, wt_9, wt_899⟩
theorem vc_X11_320 : XVw RX11 320 1 4 3 yX5_areSo cX5_areSo (some .boolean) := ⟨RX5, TX5, tyX5, 4, xk_4, rfl, ⟨by decide, by decide⟩, by decide +kernel, wt_902, wt_903, wt_904, wt_9, wt_905⟩
theorem vc_X11_324 : XVw RX11 324 0 10 2 yX11_lookAtRun cX11_lookAtRun none := ⟨RX11, TX11, tyX11, 20, xk_10, rfl, ⟨by decide, by decide⟩, by decide +kernel, wt_906, wt_908, ws_33, wt_1, wt_909⟩
noncomputable def bs_X11_isSoBy : List (Nat × XB) := [
  (0, (sq (xLA 0) (sq (xGS 10 3 1 0) (sq (xLA 0) (sq (xGD 10 5 1) (sq (xLA 0) (sq (xLI 1) (sq (xCR 10 2 6 F_X11_ruleAt) (sq (xCV 3 3 F_X4_take) (sq (xLA 0) (sq (xGS 10 8 1 1) (sq (xLA 0) (sq (xGD 10 5 1) (sq (xCV 8 2 F_X9_begin) (sq (xLI 2) (sq (xLA 0) (sq (xGS 10 4 1 0) (sq (xCI 4 1 F_X5_lastNight) (sq (xM2 (fun x y => if x < y then y else x)) (sq (xSI 3) (sq (xC (.int 0)) (sq (xSI 4) (tGo 42 [true, false, true, true, true]))))))))))))))))))))))),
  (42, (sq (xLI 4) (sq (xLI 3) (tIf2 (fun x y => decide (y < x)) 92 [false, false, false, false, false] 48 [true, false, true, true, true])))),
  (48, (sq (xLA 0) (sq (xGS 10 4 1 0) (sq (xLA 0) (sq (xGS 10 8 1 1) (sq (xCI 4 2 F_X5_areSo) (tIf1 (fun x => decide (¬ x = 0)) 64 [true, false, true, true, true] 62 [false, false, false, false, false]))))))),
  (62, (sq (xC (.int 0)) tRZ)),
  (64, (sq (xLI 4) (sq (xLI 2) (tIf2 (fun x y => decide (¬ x = y)) 74 [true, false, true, true, true] 70 [true, false, true, true, true])))),
  (70, (sq (xLA 0) (sq (xCV 10 1 F_X11_lookAtRun) (tGo 74 [true, false, true, true, true])))),
  (74, (sq (xLA 0) (sq (xGS 10 3 1 0) (sq (xLA 0) (sq (xGS 10 8 1 1) (sq (xCI 3 2 F_X4_pass) (sq (xPop) (sq (xInc 4 1) (tGo 42 [true, false, true, true, true]))))))))),
  (92, (sq (xC (.int 1)) tRZ))]
set_option maxRecDepth 100000 in
set_option maxHeartbeats 4000000 in
theorem s_X11_isSoBy : ∀ X : XCtx, XE X → X.2.2.1.1 = cX11_isSoBy → X.2.2.1.2.1 = 5 → X.2.2.1.2.2.1 = yX11_isSoBy.cls → X.2.2.1.2.2.2.1 = (some .boolean) → X.1.2.2.2.1 = { frames := 5, cells := 0, slots := 0, locals := 123 } → SndBs X bs_X11_isSoBy := by
  rintro ⟨⟨p, l, e, R, s⟩, Y, ⟨cc, nL, own, ret, Ts⟩, Z⟩ hE h1 h2 h3 h4 h5
  dsimp only at h1 h2 h3 h4 h5
  subst h1 h2 h3 h4 h5
  exact ⟨(n_sq (n_aload_n hE dX11_isSoBy_0) (n_sq (n_getS hE xk_10 (k := 8) rfl (by decide) rfl wt_324 dX11_isSoBy_1) (n_sq (n_aload_n hE dX11_isSoBy_4) (n_sq (n_getD hE xk_10 (k := 5) rfl (by decide) rfl wt_321 dX11_isSoBy_5) (n_sq (n_aload_n hE dX11_isSoBy_8) (n_sq (n_iload_n hE dX11_isSoBy_9) (n_sq (n_cRv hE m_X11_ruleAt vc_X11_234 (show 1 + 1 ≤ 5 ∧ 8 + (2 + 11) + 22 ≤ 123 by decide) dX11_isSoBy_10) (n_sq (n_cVv hE m_X4_take vc_X11_238 (show 0 + 1 ≤ 5 ∧ 8 + (4 + 11) + 0 ≤ 123 by decide) dX11_isSoBy_13) (n_sq (n_aload_n hE dX11_isSoBy_16) (n_sq (n_getS hE xk_10 (k := 7) rfl (by decide) rfl wt_323 dX11_isSoBy_17) (n_sq (n_aload_n hE dX11_isSoBy_20) (n_sq (n_getD hE xk_10 (k := 5) rfl (by decide) rfl wt_321 dX11_isSoBy_21) (n_sq (n_cVv hE m_X9_begin vc_X11_128 (show 0 + 1 ≤ 5 ∧ 8 + (3 + 11) + 0 ≤ 123 by decide) dX11_isSoBy_24) (n_sq (n_iload_n hE dX11_isSoBy_27) (n_sq (n_aload_n hE dX11_isSoBy_28) (n_sq (n_getS hE xk_10 (k := 11) rfl (by decide) rfl wt_327 dX11_isSoBy_29) (n_sq (n_cIv hE m_X5_lastNight vc_X11_314 (show 1 + 1 ≤ 5 ∧ 8 + (3 + 11) + 24 ≤ 123 by decide) dX11_isSoBy_32) (n_sq (n_mmax hE wt_901 wt_724 wt_19 wt_725 (show 1 ≤ 5 ∧ 24 ≤ 123 by decide) dX11_isSoBy_35) (n_sq (n_istore_n hE (show (3 : Nat) < 5 by decide) dX11_isSoBy_38) (n_sq (n_iconst hE (by decide) dX11_isSoBy_39) (n_sq (n_istore hE (show (4 : Nat) < 5 by decide) dX11_isSoBy_40) n_fall))))))))))))))))))))),
    (n_sq (n_iload hE dX11_isSoBy_42) (n_sq (n_iload_n hE dX11_isSoBy_44) (n_ifcgt hE (by decide) dX11_isSoBy_45))),
    (n_sq (n_aload_n hE dX11_isSoBy_48) (n_sq (n_getS hE xk_10 (k := 11) rfl (by decide) rfl wt_327 dX11_isSoBy_49) (n_sq (n_aload_n hE dX11_isSoBy_52) (n_sq (n_getS hE xk_10 (k := 7) rfl (by decide) rfl wt_323 dX11_isSoBy_53) (n_sq (n_cIv hE m_X5_areSo vc_X11_320 (show 0 + 1 ≤ 5 ∧ 8 + (3 + 11) + 0 ≤ 123 by decide) dX11_isSoBy_56) (n_ifne hE (by decide) dX11_isSoBy_59)))))),
    (n_sq (n_iconst hE (by decide) dX11_isSoBy_62) (n_zreturn hE rfl dX11_isSoBy_63)),
    (n_sq (n_iload hE dX11_isSoBy_64) (n_sq (n_iload_n hE dX11_isSoBy_66) (n_ifcne hE (by decide) dX11_isSoBy_67))),
    (n_sq (n_aload_n hE dX11_isSoBy_70) (n_sq (n_cVv hE m_X11_lookAtRun vc_X11_324 (show 0 + 1 ≤ 5 ∧ 8 + (2 + 11) + 0 ≤ 123 by decide) dX11_isSoBy_71) n_fall)),
    (n_sq (n_aload_n hE dX11_isSoBy_74) (n_sq (n_getS hE xk_10 (k := 8) rfl (by decide) rfl wt_324 dX11_isSoBy_75) (n_sq (n_aload_n hE dX11_isSoBy_78) (n_sq (n_getS hE xk_10 (k := 7) rfl (by decide) rfl wt_323 dX11_isSoBy_79) (n_sq (n_cIv hE m_X4_pass vc_X11_242 (show 4 + 1 ≤ 5 ∧ 8 + (4 + 11) + 100 ≤ 123 by decide) dX11_isSoBy_82) (n_sq (n_pop hE dX11_isSoBy_85) (n_sq (n_iinc hE (by decide) (show (4 : Nat) < 5 by decide) dX11_isSoBy_86) (n_goto hE (by decide) dX11_isSoBy_89)))))))),
    (n_sq (n_iconst hE (by decide) dX11_isSoBy_92) (n_zreturn hE rfl dX11_isSoBy_93)), trivial⟩
noncomputable def F_X11_isSoBy (as : List XV) (w : XW) : Option (Int32 × XW) := (xF 5 bs_X11_isSoBy as w).bind pI
theorem m_X11_isSoBy : XM yX11_isSoBy cX11_isSoBy 5 (some .boolean) 5 123 (eI F_X11_isSoBy) := xm_I (xm_of (by decide) s_X11_isSoBy)
noncomputable def q_X11_isSoBy_0 (x1 : Int32) (x2 : Int32) (w : XW) : Option XR := ev bs_X11_isSoBy 0 ([some (.inr (10, 0)), some (.inl (.int x1)), some (.inl (.int x2)), none, none], [], w)
noncomputable def q_X11_isSoBy_42 (x2 : Int32) (x3 : Int32) (x4 : Int32) (w : XW) : Option XR := ev bs_X11_isSoBy 42 ([some (.inr (10, 0)), none, some (.inl (.int x2)), some (.inl (.int x3)), some (.inl (.int x4))], [], w)
noncomputable def q_X11_isSoBy_48 (x2 : Int32) (x3 : Int32) (x4 : Int32) (w : XW) : Option XR := ev bs_X11_isSoBy 48 ([some (.inr (10, 0)), none, some (.inl (.int x2)), some (.inl (.int x3)), some (.inl (.int x4))], [], w)
noncomputable def q_X11_isSoBy_62 (w : XW) : Option XR := ev bs_X11_isSoBy 62 ([none, none, none, none, none], [], w)
noncomputable def q_X11_isSoBy_64 (x2 : Int32) (x3 : Int32) (x4 : Int32) (w : XW) : Option XR := ev bs_X11_isSoBy 64 ([some (.inr (10, 0)), none, some (.inl (.int x2)), some (.inl (.int x3)), some (.inl (.int x4))], [], w)
noncomputable def q_X11_isSoBy_70 (x2 : Int32) (x3 : Int32) (x4 : Int32) (w : XW) : Option XR := ev bs_X11_isSoBy 70 ([some (.inr (10, 0)), none, some (.inl (.int x2)), some (.inl (.int x3)), some (.inl (.int x4))], [], w)
noncomputable def q_X11_isSoBy_74 (x2 : Int32) (x3 : Int32) (x4 : Int32) (w : XW) : Option XR := ev bs_X11_isSoBy 74 ([some (.inr (10, 0)), none, some (.inl (.int x2)), some (.inl (.int x3)), some (.inl (.int x4))], [], w)
noncomputable def q_X11_isSoBy_92 (w : XW) : Option XR := ev bs_X11_isSoBy 92 ([none, none, none, none, none], [], w)
theorem e_X11_isSoBy_0 (x1 : Int32) (x2 : Int32) (w : XW) : q_X11_isSoBy_0 x1 x2 w = ((gR w 10 0 5).bind fun j0 => ((F_X11_ruleAt [.inr (10, 0), .inl (.int x1)] w).bind fun r1 => (oR r1.1 ((F_X4_take [.inr (3, 0), .inr (1, j0), .inl .null] r1.2).bind fun r3 => ((gR r3 10 0 5).bind fun j4 => ((F_X9_begin [.inr (8, 1), .inr (1, j4)] r3).bind fun r5 => ((F_X5_lastNight [.inr (4, 0)] r5).bind fun r6 => (q_X11_isSoBy_42 x2 (if x2 < r6.1 then r6.1 else x2) 0 r6.2))))) fun j2 => ((F_X4_take [.inr (3, 0), .inr (1, j0), .inr (6, j2)] r1.2).bind fun r3 => ((gR r3 10 0 5).bind fun j4 => ((F_X9_begin [.inr (8, 1), .inr (1, j4)] r3).bind fun r5 => ((F_X5_lastNight [.inr (4, 0)] r5).bind fun r6 => (q_X11_isSoBy_42 x2 (if x2 < r6.1 then r6.1 else x2) 0 r6.2)))))))) := (ev_eq _ _ _).trans rfl
theorem e_X11_isSoBy_42 (x2 : Int32) (x3 : Int32) (x4 : Int32) (w : XW) : q_X11_isSoBy_42 x2 x3 x4 w = (bif decide (x3 < x4) then (q_X11_isSoBy_92 w) else (q_X11_isSoBy_48 x2 x3 x4 w)) := (ev_eq _ _ _).trans rfl
theorem e_X11_isSoBy_48 (x2 : Int32) (x3 : Int32) (x4 : Int32) (w : XW) : q_X11_isSoBy_48 x2 x3 x4 w = ((F_X5_areSo [.inr (4, 0), .inr (8, 1)] w).bind fun r0 => (bif decide (¬ r0.1 = 0) then (q_X11_isSoBy_64 x2 x3 x4 r0.2) else (q_X11_isSoBy_62 r0.2))) := (ev_eq _ _ _).trans rfl
theorem e_X11_isSoBy_62 (w : XW) : q_X11_isSoBy_62 w = (some (some (.inl (.int 0)), w)) := (ev_eq _ _ _).trans rfl
theorem e_X11_isSoBy_64 (x2 : Int32) (x3 : Int32) (x4 : Int32) (w : XW) : q_X11_isSoBy_64 x2 x3 x4 w = (bif decide (¬ x4 = x2) then (q_X11_isSoBy_74 x2 x3 x4 w) else (q_X11_isSoBy_70 x2 x3 x4 w)) := (ev_eq _ _ _).trans rfl
theorem e_X11_isSoBy_70 (x2 : Int32) (x3 : Int32) (x4 : Int32) (w : XW) : q_X11_isSoBy_70 x2 x3 x4 w = ((F_X11_lookAtRun [.inr (10, 0)] w).bind fun r0 => (q_X11_isSoBy_74 x2 x3 x4 r0)) := (ev_eq _ _ _).trans rfl
theorem e_X11_isSoBy_74 (x2 : Int32) (x3 : Int32) (x4 : Int32) (w : XW) : q_X11_isSoBy_74 x2 x3 x4 w = ((F_X4_pass [.inr (3, 0), .inr (8, 1)] w).bind fun r0 => (q_X11_isSoBy_42 x2 x3 (x4 + 1) r0.2)) := (ev_eq _ _ _).trans rfl
theorem e_X11_isSoBy_92 (w : XW) : q_X11_isSoBy_92 w = (some (some (.inl (.int 1)), w)) := (ev_eq _ _ _).trans rfl
theorem f_X11_isSoBy (x1 : Int32) (x2 : Int32) (w : XW) : F_X11_isSoBy [.inr (10, 0), .inl (.int x1), .inl (.int x2)] w = (q_X11_isSoBy_0 x1 x2 w).bind pI := rfl
