-- WinterKeepModel.daleLineHere(I)Z
theorem dX12_daleLineHere_0 : decode cX12_daleLineHere 0 = .ok (.aload_n 0, 1) := by decide +kernel
theorem dX12_daleLineHere_1 : decode cX12_daleLineHere 1 = .ok (.ldc2_w 235, 3) := by decide +kernel
theorem dX12_daleLineHere_4 : decode cX12_daleLineHere 4 = .ok (.invokevirtual 117, 3) := by decide +kernel
theorem dX12_daleLineHere_7 : decode cX12_daleLineHere 7 = .ok (.ifCond .eq 9, 3) := by decide +kernel
theorem dX12_daleLineHere_10 : decode cX12_daleLineHere 10 = .ok (.aload_n 0, 1) := by decide +kernel
theorem dX12_daleLineHere_11 : decode cX12_daleLineHere 11 = .ok (.iload_n 1, 1) := by decide +kernel
theorem dX12_daleLineHere_12 : decode cX12_daleLineHere 12 = .ok (.invokevirtual 237, 3) := by decide +kernel
theorem dX12_daleLineHere_15 : decode cX12_daleLineHere 15 = .ok (.ireturn, 1) := by decide +kernel
theorem dX12_daleLineHere_16 : decode cX12_daleLineHere 16 = .ok (.aload_n 0, 1) := by decide +kernel
theorem dX12_daleLineHere_17 : decode cX12_daleLineHere 17 = .ok (.getfield 26, 3) := by decide +kernel
theorem dX12_daleLineHere_20 : decode cX12_daleLineHere 20 = .ok (.iconst 0, 1) := by decide +kernel
theorem dX12_daleLineHere_21 : decode cX12_daleLineHere 21 = .ok (.iaload, 1) := by decide +kernel
theorem dX12_daleLineHere_22 : decode cX12_daleLineHere 22 = .ok (.ifCond .ne 10, 3) := by decide +kernel
theorem dX12_daleLineHere_25 : decode cX12_daleLineHere 25 = .ok (.aload_n 0, 1) := by decide +kernel
theorem dX12_daleLineHere_26 : decode cX12_daleLineHere 26 = .ok (.iconst 4, 1) := by decide +kernel
theorem dX12_daleLineHere_27 : decode cX12_daleLineHere 27 = .ok (.iload_n 1, 1) := by decide +kernel
theorem dX12_daleLineHere_28 : decode cX12_daleLineHere 28 = .ok (.invokevirtual 127, 3) := by decide +kernel
theorem dX12_daleLineHere_31 : decode cX12_daleLineHere 31 = .ok (.ireturn, 1) := by decide +kernel
theorem dX12_daleLineHere_32 : decode cX12_daleLineHere 32 = .ok (.aload_n 0, 1) := by decide +kernel
theorem dX12_daleLineHere_33 : decode cX12_daleLineHere 33 = .ok (.ldc2_w 139, 3) := by decide +kernel
theorem dX12_daleLineHere_36 : decode cX12_daleLineHere 36 = .ok (.invokevirtual 117, 3) := by decide +kernel
theorem dX12_daleLineHere_39 : decode cX12_daleLineHere 39 = .ok (.ifCond .eq 9, 3) := by decide +kernel
theorem dX12_daleLineHere_42 : decode cX12_daleLineHere 42 = .ok (.aload_n 0, 1) := by decide +kernel
theorem dX12_daleLineHere_43 : decode cX12_daleLineHere 43 = .ok (.iload_n 1, 1) := by decide +kernel
theorem dX12_daleLineHere_44 : decode cX12_daleLineHere 44 = .ok (.invokevirtual 240, 3) := by decide +kernel
theorem dX12_daleLineHere_47 : decode cX12_daleLineHere 47 = .ok (.ireturn, 1) := by decide +kernel
theorem dX12_daleLineHere_48 : decode cX12_daleLineHere 48 = .ok (.aload_n 0, 1) := by decide +kernel
theorem dX12_daleLineHere_49 : decode cX12_daleLineHere 49 = .ok (.ldc2_w 137, 3) := by decide +kernel
theorem dX12_daleLineHere_52 : decode cX12_daleLineHere 52 = .ok (.invokevirtual 117, 3) := by decide +kernel
theorem dX12_daleLineHere_55 : decode cX12_daleLineHere 55 = .ok (.ifCond .eq 9, 3) := by decide +kernel
theorem dX12_daleLineHere_58 : decode cX12_daleLineHere 58 = .ok (.aload_n 0, 1) := by decide +kernel
theorem dX12_daleLineHere_59 : decode cX12_daleLineHere 59 = .ok (.iload_n 1, 1) := by decide +kernel
theorem dX12_daleLineHere_60 : decode cX12_daleLineHere 60 = .ok (.invokevirtual 243, 3) := by decide +kernel
theorem dX12_daleLineHere_63 : decode cX12_daleLineHere 63 = .ok (.ireturn, 1) := by decide +kernel
theorem dX12_daleLineHere_64 : decode cX12_daleLineHere 64 = .ok (.aload_n 0, 1) := by decide +kernel
theorem dX12_daleLineHere_65 : decode cX12_daleLineHere 65 = .ok (.ldc2_w 246, 3) := by decide +kernel
theorem dX12_daleLineHere_68 : decode cX12_daleLineHere 68 = .ok (.invokevirtual 117, 3) := by decide +kernel
theorem dX12_daleLineHere_71 : decode cX12_daleLineHere 71 = .ok (.ifCond .eq 11, 3) := by decide +kernel
theorem dX12_daleLineHere_74 : decode cX12_daleLineHere 74 = .ok (.aload_n 0, 1) := by decide +kernel
theorem dX12_daleLineHere_75 : decode cX12_daleLineHere 75 = .ok (.iload_n 1, 1) := by decide +kernel
theorem dX12_daleLineHere_76 : decode cX12_daleLineHere 76 = .ok (.invokevirtual 248, 3) := by decide +kernel
theorem dX12_daleLineHere_79 : decode cX12_daleLineHere 79 = .ok (.goto 7, 3) := by decide +kernel
theorem dX12_daleLineHere_82 : decode cX12_daleLineHere 82 = .ok (.aload_n 0, 1) := by decide +kernel
theorem dX12_daleLineHere_83 : decode cX12_daleLineHere 83 = .ok (.invokevirtual 251, 3) := by decide +kernel
theorem dX12_daleLineHere_86 : decode cX12_daleLineHere 86 = .ok (.ireturn, 1) := by decide +kernel
theorem vc_X12_237 : XVw RX12 237 1 11 2 yX12_isDaleHere cX12_isDaleHere (some .boolean) := ⟨RX12, TX12, tyX12, 43, xk_11, rfl, ⟨by decide, by decide⟩, by decide +kernel, wt_1145, wt_1147, ws_47, wt_11, wt_1148⟩
theorem vc_X12_240 : XVw RX12 240 1 11 2 yX12_isKeepHere cX12_isKeepHere (some .boolean) := ⟨RX12, TX12, tyX12, 43, xk_11, rfl, ⟨by decide, by decide⟩, by decide +kernel, wt_1168, wt_1170, ws_52, wt_11, wt_1171⟩
theorem vc_X12_243 : XVw RX12 243 1 11 2 yX12_isPersonHere cX12_isPersonHere (some .boolean) := ⟨RX12, TX12, tyX12, 43, xk_11, rfl, ⟨by decide, by decide⟩, by decide +kernel, wt_1172, wt_1174, ws_53, wt_11, wt_1175⟩
theorem vc_X12_248 : XVw RX12 248 1 11 2 yX12_isFieldHere cX12_isFieldHere (some .boolean) := ⟨RX12, TX12, tyX12, 43, xk_11, rfl, ⟨by decide, by decide⟩, by decide +kernel, wt_1176, wt_1178, ws_54, wt_11, wt_1179⟩
theorem vc_X12_251 : XVw RX12 251 0 11 3 yX12_isBesideHere cX12_isBesideHere (some .boolean) := ⟨RX12, TX12, tyX12, 43, xk_11, rfl, ⟨by decide, by decide⟩, by decide +kernel, wt_1180, wt_1182, ws_55, wt_11, wt_1183⟩
noncomputable def bs_X12_daleLineHere : List (Nat × XB) := [
  (0, (sq (xLA 0) (sq (xC (.long 1684106341)) (sq (xCI 11 2 F_X12_isWord) (tIf1 (fun x => decide (x = 0)) 16 [true, true] 10 [true, true]))))),
  (10, (sq (xLA 0) (sq (xLI 1) (sq (xCI 11 2 F_X12_isDaleHere) tRZ)))),
  (16, (sq (xLA 0) (sq (xGS 11 46 1 0) (sq (xC (.int 0)) (sq (xAI 46 67) (tIf1 (fun x => decide (¬ x = 0)) 32 [true, true] 25 [true, true])))))),
  (25, (sq (xLA 0) (sq (xC (.int 4)) (sq (xLI 1) (sq (xCI 11 3 F_X12_fails) tRZ))))),
  (32, (sq (xLA 0) (sq (xC (.long 1801807216)) (sq (xCI 11 2 F_X12_isWord) (tIf1 (fun x => decide (x = 0)) 48 [true, true] 42 [true, true]))))),
  (42, (sq (xLA 0) (sq (xLI 1) (sq (xCI 11 2 F_X12_isKeepHere) tRZ)))),
  (48, (sq (xLA 0) (sq (xC (.long 123581014175598)) (sq (xCI 11 2 F_X12_isWord) (tIf1 (fun x => decide (x = 0)) 64 [true, true] 58 [true, true]))))),
  (58, (sq (xLA 0) (sq (xLI 1) (sq (xCI 11 2 F_X12_isPersonHere) tRZ)))),
  (64, (sq (xLA 0) (sq (xC (.long 439854918756)) (sq (xCI 11 2 F_X12_isWord) (tIf1 (fun x => decide (x = 0)) 82 [true, false] 74 [true, true]))))),
  (74, (sq (xLA 0) (sq (xLI 1) (sq (xCI 11 2 F_X12_isFieldHere) (tGo 86 [false, false]))))),
  (82, (sq (xLA 0) (sq (xCI 11 1 F_X12_isBesideHere) (tGo 86 [false, false])))),
  (86, tRZ)]
set_option maxRecDepth 100000 in
set_option maxHeartbeats 4000000 in
theorem s_X12_daleLineHere : ∀ X : XCtx, XE X → X.2.2.1.1 = cX12_daleLineHere → X.2.2.1.2.1 = 2 → X.2.2.1.2.2.1 = yX12_daleLineHere.cls → X.2.2.1.2.2.2.1 = (some .boolean) → X.1.2.2.2.1 = { frames := 4, cells := 0, slots := 0, locals := 93 } → SndBs X bs_X12_daleLineHere := by
  rintro ⟨⟨p, l, e, R, s⟩, Y, ⟨cc, nL, own, ret, Ts⟩, Z⟩ hE h1 h2 h3 h4 h5
  dsimp only at h1 h2 h3 h4 h5
  subst h1 h2 h3 h4 h5
  exact ⟨(n_sq (n_aload_n hE dX12_daleLineHere_0) (n_sq (n_ldc2 hE wt_1123 dX12_daleLineHere_1) (n_sq (n_cIv hE m_X12_isWord vc_X12_117 (show 1 + 1 ≤ 4 ∧ 8 + (6 + 11) + 21 ≤ 93 by decide) dX12_daleLineHere_4) (n_ifeq hE (by decide) dX12_daleLineHere_7)))),
    (n_sq (n_aload_n hE dX12_daleLineHere_10) (n_sq (n_iload_n hE dX12_daleLineHere_11) (n_sq (n_cIv hE m_X12_isDaleHere vc_X12_237 (show 3 + 1 ≤ 4 ∧ 8 + (2 + 11) + 72 ≤ 93 by decide) dX12_daleLineHere_12) (n_zreturn hE rfl dX12_daleLineHere_15)))),
    (n_sq (n_aload_n hE dX12_daleLineHere_16) (n_sq (n_getS hE xk_11 (k := 7) rfl (by decide) rfl wt_967 dX12_daleLineHere_17) (n_sq (n_iconst hE (by decide) dX12_daleLineHere_20) (n_sq (n_iald hE rfl (by decide) dX12_daleLineHere_21) (n_ifne hE (by decide) dX12_daleLineHere_22))))),
    (n_sq (n_aload_n hE dX12_daleLineHere_25) (n_sq (n_iconst hE (by decide) dX12_daleLineHere_26) (n_sq (n_iload_n hE dX12_daleLineHere_27) (n_sq (n_cIv hE m_X12_fails vc_X12_127 (show 0 + 1 ≤ 4 ∧ 8 + (3 + 11) + 0 ≤ 93 by decide) dX12_daleLineHere_28) (n_zreturn hE rfl dX12_daleLineHere_31))))),
    (n_sq (n_aload_n hE dX12_daleLineHere_32) (n_sq (n_ldc2 hE wt_1132 dX12_daleLineHere_33) (n_sq (n_cIv hE m_X12_isWord vc_X12_117 (show 1 + 1 ≤ 4 ∧ 8 + (6 + 11) + 21 ≤ 93 by decide) dX12_daleLineHere_36) (n_ifeq hE (by decide) dX12_daleLineHere_39)))),
    (n_sq (n_aload_n hE dX12_daleLineHere_42) (n_sq (n_iload_n hE dX12_daleLineHere_43) (n_sq (n_cIv hE m_X12_isKeepHere vc_X12_240 (show 3 + 1 ≤ 4 ∧ 8 + (2 + 11) + 72 ≤ 93 by decide) dX12_daleLineHere_44) (n_zreturn hE rfl dX12_daleLineHere_47)))),
    (n_sq (n_aload_n hE dX12_daleLineHere_48) (n_sq (n_ldc2 hE wt_1133 dX12_daleLineHere_49) (n_sq (n_cIv hE m_X12_isWord vc_X12_117 (show 1 + 1 ≤ 4 ∧ 8 + (6 + 11) + 21 ≤ 93 by decide) dX12_daleLineHere_52) (n_ifeq hE (by decide) dX12_daleLineHere_55)))),
    (n_sq (n_aload_n hE dX12_daleLineHere_58) (n_sq (n_iload_n hE dX12_daleLineHere_59) (n_sq (n_cIv hE m_X12_isPersonHere vc_X12_243 (show 3 + 1 ≤ 4 ∧ 8 + (2 + 11) + 72 ≤ 93 by decide) dX12_daleLineHere_60) (n_zreturn hE rfl dX12_daleLineHere_63)))),
    (n_sq (n_aload_n hE dX12_daleLineHere_64) (n_sq (n_ldc2 hE wt_1134 dX12_daleLineHere_65) (n_sq (n_cIv hE m_X12_isWord vc_X12_117 (show 1 + 1 ≤ 4 ∧ 8 + (6 + 11) + 21 ≤ 93 by decide) dX12_daleLineHere_68) (n_ifeq hE (by decide) dX12_daleLineHere_71)))),
    (n_sq (n_aload_n hE dX12_daleLineHere_74) (n_sq (n_iload_n hE dX12_daleLineHere_75) (n_sq (n_cIv hE m_X12_isFieldHere vc_X12_248 (show 3 + 1 ≤ 4 ∧ 8 + (2 + 11) + 72 ≤ 93 by decide) dX12_daleLineHere_76) (n_goto hE (by decide) dX12_daleLineHere_79)))),
    (n_sq (n_aload_n hE dX12_daleLineHere_82) (n_sq (n_cIv hE m_X12_isBesideHere vc_X12_251 (show 2 + 1 ≤ 4 ∧ 8 + (3 + 11) + 49 ≤ 93 by decide) dX12_daleLineHere_83) n_fall)),
    (n_zreturn hE rfl dX12_daleLineHere_86), trivial⟩
noncomputable def F_X12_daleLineHere (as : List XV) (w : XW) : Option (Int32 × XW) := (xF 2 bs_X12_daleLineHere as w).bind pI
theorem m_X12_daleLineHere : XM yX12_daleLineHere cX12_daleLineHere 2 (some .boolean) 4 93 (eI F_X12_daleLineHere) := xm_I (xm_of (by decide) s_X12_daleLineHere)
noncomputable def q_X12_daleLineHere_0 (x1 : Int32) (w : XW) : Option XR := ev bs_X12_daleLineHere 0 ([some (.inr (11, 0)), some (.inl (.int x1))], [], w)
noncomputable def q_X12_daleLineHere_10 (x1 : Int32) (w : XW) : Option XR := ev bs_X12_daleLineHere 10 ([some (.inr (11, 0)), some (.inl (.int x1))], [], w)
noncomputable def q_X12_daleLineHere_16 (x1 : Int32) (w : XW) : Option XR := ev bs_X12_daleLineHere 16 ([some (.inr (11, 0)), some (.inl (.int x1))], [], w)
noncomputable def q_X12_daleLineHere_25 (x1 : Int32) (w : XW) : Option XR := ev bs_X12_daleLineHere 25 ([some (.inr (11, 0)), some (.inl (.int x1))], [], w)
noncomputable def q_X12_daleLineHere_32 (x1 : Int32) (w : XW) : Option XR := ev bs_X12_daleLineHere 32 ([some (.inr (11, 0)), some (.inl (.int x1))], [], w)
noncomputable def q_X12_daleLineHere_42 (x1 : Int32) (w : XW) : Option XR := ev bs_X12_daleLineHere 42 ([some (.inr (11, 0)), some (.inl (.int x1))], [], w)
noncomputable def q_X12_daleLineHere_48 (x1 : Int32) (w : XW) : Option XR := ev bs_X12_daleLineHere 48 ([some (.inr (11, 0)), some (.inl (.int x1))], [], w)
noncomputable def q_X12_daleLineHere_58 (x1 : Int32) (w : XW) : Option XR := ev bs_X12_daleLineHere 58 ([some (.inr (11, 0)), some (.inl (.int x1))], [], w)
noncomputable def q_X12_daleLineHere_64 (x1 : Int32) (w : XW) : Option XR := ev bs_X12_daleLineHere 64 ([some (.inr (11, 0)), some (.inl (.int x1))], [], w)
noncomputable def q_X12_daleLineHere_74 (x1 : Int32) (w : XW) : Option XR := ev bs_X12_daleLineHere 74 ([some (.inr (11, 0)), some (.inl (.int x1))], [], w)
noncomputable def q_X12_daleLineHere_82 (w : XW) : Option XR := ev bs_X12_daleLineHere 82 ([some (.inr (11, 0)), none], [], w)
noncomputable def q_X12_daleLineHere_86 (s0 : Int32) (w : XW) : Option XR := ev bs_X12_daleLineHere 86 ([none, none], [.inl (.int s0)], w)
theorem e_X12_daleLineHere_0 (x1 : Int32) (w : XW) : q_X12_daleLineHere_0 x1 w = ((F_X12_isWord [.inr (11, 0), .inl (.long 1684106341)] w).bind fun r0 => (bif decide (r0.1 = 0) then (q_X12_daleLineHere_16 x1 r0.2) else (q_X12_daleLineHere_10 x1 r0.2))) := (ev_eq _ _ _).trans rfl
theorem e_X12_daleLineHere_10 (x1 : Int32) (w : XW) : q_X12_daleLineHere_10 x1 w = ((F_X12_isDaleHere [.inr (11, 0), .inl (.int x1)] w).bind fun r0 => (if r0.1 = 0 ∨ r0.1 = 1 then some (some (.inl (.int r0.1)), r0.2) else none)) := (ev_eq _ _ _).trans rfl
theorem e_X12_daleLineHere_16 (x1 : Int32) (w : XW) : q_X12_daleLineHere_16 x1 w = (bif decide (¬ (gI w 46 0 0) = 0) then (q_X12_daleLineHere_32 x1 w) else (q_X12_daleLineHere_25 x1 w)) := (ev_eq _ _ _).trans rfl
theorem e_X12_daleLineHere_25 (x1 : Int32) (w : XW) : q_X12_daleLineHere_25 x1 w = ((F_X12_fails [.inr (11, 0), .inl (.int 4), .inl (.int x1)] w).bind fun r0 => (if r0.1 = 0 ∨ r0.1 = 1 then some (some (.inl (.int r0.1)), r0.2) else none)) := (ev_eq _ _ _).trans rfl
theorem e_X12_daleLineHere_32 (x1 : Int32) (w : XW) : q_X12_daleLineHere_32 x1 w = ((F_X12_isWord [.inr (11, 0), .inl (.long 1801807216)] w).bind fun r0 => (bif decide (r0.1 = 0) then (q_X12_daleLineHere_48 x1 r0.2) else (q_X12_daleLineHere_42 x1 r0.2))) := (ev_eq _ _ _).trans rfl
theorem e_X12_daleLineHere_42 (x1 : Int32) (w : XW) : q_X12_daleLineHere_42 x1 w = ((F_X12_isKeepHere [.inr (11, 0), .inl (.int x1)] w).bind fun r0 => (if r0.1 = 0 ∨ r0.1 = 1 then some (some (.inl (.int r0.1)), r0.2) else none)) := (ev_eq _ _ _).trans rfl
theorem e_X12_daleLineHere_48 (x1 : Int32) (w : XW) : q_X12_daleLineHere_48 x1 w = ((F_X12_isWord [.inr (11, 0), .inl (.long 123581014175598)] w).bind fun r0 => (bif decide (r0.1 = 0) then (q_X12_daleLineHere_64 x1 r0.2) else (q_X12_daleLineHere_58 x1 r0.2))) := (ev_eq _ _ _).trans rfl
theorem e_X12_daleLineHere_58 (x1 : Int32) (w : XW) : q_X12_daleLineHere_58 x1 w = ((F_X12_isPersonHere [.inr (11, 0), .inl (.int x1)] w).bind fun r0 => (if r0.1 = 0 ∨ r0.1 = 1 then some (some (.inl (.int r0.1)), r0.2) else none)) := (ev_eq _ _ _).trans rfl
theorem e_X12_daleLineHere_64 (x1 : Int32) (w : XW) : q_X12_daleLineHere_64 x1 w = ((F_X12_isWord [.inr (11, 0), .inl (.long 439854918756)] w).bind fun r0 => (bif decide (r0.1 = 0) then (q_X12_daleLineHere_82 r0.2) else (q_X12_daleLineHere_74 x1 r0.2))) := (ev_eq _ _ _).trans rfl
theorem e_X12_daleLineHere_74 (x1 : Int32) (w : XW) : q_X12_daleLineHere_74 x1 w = ((F_X12_isFieldHere [.inr (11, 0), .inl (.int x1)] w).bind fun r0 => (q_X12_daleLineHere_86 r0.1 r0.2)) := (ev_eq _ _ _).trans rfl
theorem e_X12_daleLineHere_82 (w : XW) : q_X12_daleLineHere_82 w = ((F_X12_isBesideHere [.inr (11, 0)] w).bind fun r0 => (q_X12_daleLineHere_86 r0.1 r0.2)) := (ev_eq _ _ _).trans rfl
theorem e_X12_daleLineHere_86 (s0 : Int32) (w : XW) : q_X12_daleLineHere_86 s0 w = (if s0 = 0 ∨ s0 = 1 then some (some (.inl (.int s0)), w) else none) := (ev_eq _ _ _).trans rfl
theorem f_X12_daleLineHere (x1 : Int32) (w : XW) : F_X12_daleLineHere [.inr (11, 0), .inl (.int x1)] w = (q_X12_daleLineHere_0 x1 w).bind pI := rfl

-- WinterKeepModel.isDaleWord()Z
theorem dX12_isDaleWord_0 : decode cX12_isDaleWord 0 = .ok (.aload_n 0, 1) := by decide +kernel
theorem dX12_isDaleWord_1 : decode cX12_isDaleWord 1 = .ok (.ldc2_w 235, 3) := by decide +kernel
theorem dX12_isDaleWord_4 : decode cX12_isDaleWord 4 = .ok (.invokevirtual 117, 3) := by decide +kernel
theorem dX12_isDaleWord_7 : decode cX12_isDaleWord 7 = .ok (.ifCond .ne 43, 3) := by decide +kernel
theorem dX12_isDaleWord_10 : decode cX12_isDaleWord 10 = .ok (.aload_n 0, 1) := by decide +kernel
theorem dX12_isDaleWord_11 : decode cX12_isDaleWord 11 = .ok (.ldc2_w 139, 3) := by decide +kernel
theorem dX12_isDaleWord_14 : decode cX12_isDaleWord 14 = .ok (.invokevirtual 117, 3) := by decide +kernel
theorem dX12_isDaleWord_17 : decode cX12_isDaleWord 17 = .ok (.ifCond .ne 33, 3) := by decide +kernel
theorem dX12_isDaleWord_20 : decode cX12_isDaleWord 20 = .ok (.aload_n 0, 1) := by decide +kernel
theorem dX12_isDaleWord_21 : decode cX12_isDaleWord 21 = .ok (.ldc2_w 137, 3) := by decide +kernel
theorem dX12_isDaleWord_24 : decode cX12_isDaleWord 24 = .ok (.invokevirtual 117, 3) := by decide +kernel
theorem dX12_isDaleWord_27 : decode cX12_isDaleWord 27 = .ok (.ifCond .ne 23, 3) := by decide +kernel
theorem dX12_isDaleWord_30 : decode cX12_isDaleWord 30 = .ok (.aload_n 0, 1) := by decide +kernel
theorem dX12_isDaleWord_31 : decode cX12_isDaleWord 31 = .ok (.ldc2_w 246, 3) := by decide +kernel
theorem dX12_isDaleWord_34 : decode cX12_isDaleWord 34 = .ok (.invokevirtual 117, 3) := by decide +kernel
theorem dX12_isDaleWord_37 : decode cX12_isDaleWord 37 = .ok (.ifCond .ne 13, 3) := by decide +kernel
theorem dX12_isDaleWord_40 : decode cX12_isDaleWord 40 = .ok (.aload_n 0, 1) := by decide +kernel
theorem dX12_isDaleWord_41 : decode cX12_isDaleWord 41 = .ok (.ldc2_w 151, 3) := by decide +kernel
theorem dX12_isDaleWord_44 : decode cX12_isDaleWord 44 = .ok (.invokevirtual 117, 3) := by decide +kernel
theorem dX12_isDaleWord_47 : decode cX12_isDaleWord 47 = .ok (.ifCond .eq 7, 3) := by decide +kernel
theorem dX12_isDaleWord_50 : decode cX12_isDaleWord 50 = .ok (.iconst 1, 1) := by decide +kernel
theorem dX12_isDaleWord_51 : decode cX12_isDaleWord 51 = .ok (.goto 4, 3) := by decide +kernel
theorem dX12_isDaleWord_54 : decode cX12_isDaleWord 54 = .ok (.iconst 0, 1) := by decide +kernel
theorem dX12_isDaleWord_55 : decode cX12_isDaleWord 55 = .ok (.ireturn, 1) := by decide +kernel
noncomputable def bs_X12_isDaleWord : List (Nat × XB) := [
  (0, (sq (xLA 0) (sq (xC (.long 1684106341)) (sq (xCI 11 2 F_X12_isWord) (tIf1 (fun x => decide (¬ x = 0)) 50 [false] 10 [true]))))),
  (10, (sq (xLA 0) (sq (xC (.long 1801807216)) (sq (xCI 11 2 F_X12_isWord) (tIf1 (fun x => decide (¬ x = 0)) 50 [false] 20 [true]))))),
  (20, (sq (xLA 0) (sq (xC (.long 123581014175598)) (sq (xCI 11 2 F_X12_isWord) (tIf1 (fun x => decide (¬ x = 0)) 50 [false] 30 [true]))))),
  (30, (sq (xLA 0) (sq (xC (.long 439854918756)) (sq (xCI 11 2 F_X12_isWord) (tIf1 (fun x => decide (¬ x = 0)) 50 [false] 40 [true]))))),
  (40, (sq (xLA 0) (sq (xC (.long 108187867505765)) (sq (xCI 11 2 F_X12_isWord) (tIf1 (fun x => decide (x = 0)) 54 [false] 50 [false]))))),
  (50, (sq (xC (.int 1)) (tGo 55 [false]))),
  (54, (sq (xC (.int 0)) (tGo 55 [false]))),
  (55, tRZ)]
set_option maxRecDepth 100000 in
set_option maxHeartbeats 4000000 in
theorem s_X12_isDaleWord : ∀ X : XCtx, XE X → X.2.2.1.1 = cX12_isDaleWord → X.2.2.1.2.1 = 1 → X.2.2.1.2.2.1 = yX12_isDaleWord.cls → X.2.2.1.2.2.2.1 = (some .boolean) → X.1.2.2.2.1 = { frames := 2, cells := 0, slots := 0, locals := 46 } → SndBs X bs_X12_isDaleWord := by
  rintro ⟨⟨p, l, e, R, s⟩, Y, ⟨cc, nL, own, ret, Ts⟩, Z⟩ hE h1 h2 h3 h4 h5
  dsimp only at h1 h2 h3 h4 h5
  subst h1 h2 h3 h4 h5
  exact ⟨(n_sq (n_aload_n hE dX12_isDaleWord_0) (n_sq (n_ldc2 hE wt_1123 dX12_isDaleWord_1) (n_sq (n_cIv hE m_X12_isWord vc_X12_117 (show 1 + 1 ≤ 2 ∧ 8 + (6 + 11) + 21 ≤ 46 by decide) dX12_isDaleWord_4) (n_ifne hE (by decide) dX12_isDaleWord_7)))),
    (n_sq (n_aload_n hE dX12_isDaleWord_10) (n_sq (n_ldc2 hE wt_1132 dX12_isDaleWord_11) (n_sq (n_cIv hE m_X12_isWord vc_X12_117 (show 1 + 1 ≤ 2 ∧ 8 + (6 + 11) + 21 ≤ 46 by decide) dX12_isDaleWord_14) (n_ifne hE (by decide) dX12_isDaleWord_17)))),
    (n_sq (n_aload_n hE dX12_isDaleWord_20) (n_sq (n_ldc2 hE wt_1133 dX12_isDaleWord_21) (n_sq (n_cIv hE m_X12_isWord vc_X12_117 (show 1 + 1 ≤ 2 ∧ 8 + (6 + 11) + 21 ≤ 46 by decide) dX12_isDaleWord_24) (n_ifne hE (by decide) dX12_isDaleWord_27)))),
    (n_sq (n_aload_n hE dX12_isDaleWord_30) (n_sq (n_ldc2 hE wt_1134 dX12_isDaleWord_31) (n_sq (n_cIv hE m_X12_isWord vc_X12_117 (show 1 + 1 ≤ 2 ∧ 8 + (6 + 11) + 21 ≤ 46 by decide) dX12_isDaleWord_34) (n_ifne hE (by decide) dX12_isDaleWord_37)))),
    (n_sq (n_aload_n hE dX12_isDaleWord_40) (n_sq (n_ldc2 hE wt_1135 dX12_isDaleWord_41) (n_sq (n_cIv hE m_X12_isWord vc_X12_117 (show 1 + 1 ≤ 2 ∧ 8 + (6 + 11) + 21 ≤ 46 by decide) dX12_isDaleWord_44) (n_ifeq hE (by decide) dX12_isDaleWord_47)))),
    (n_sq (n_iconst hE (by decide) dX12_isDaleWord_50) (n_goto hE (by decide) dX12_isDaleWord_51)),
    (n_sq (n_iconst hE (by decide) dX12_isDaleWord_54) n_fall),
    (n_zreturn hE rfl dX12_isDaleWord_55), trivial⟩
noncomputable def F_X12_isDaleWord (as : List XV) (w : XW) : Option (Int32 × XW) := (xF 1 bs_X12_isDaleWord as w).bind pI
theorem m_X12_isDaleWord : XM yX12_isDaleWord cX12_isDaleWord 1 (some .boolean) 2 46 (eI F_X12_isDaleWord) := xm_I (xm_of (by decide) s_X12_isDaleWord)
noncomputable def q_X12_isDaleWord_0 (w : XW) : Option XR := ev bs_X12_isDaleWord 0 ([some (.inr (11, 0))], [], w)
noncomputable def q_X12_isDaleWord_10 (w : XW) : Option XR := ev bs_X12_isDaleWord 10 ([some (.inr (11, 0))], [], w)
noncomputable def q_X12_isDaleWord_20 (w : XW) : Option XR := ev bs_X12_isDaleWord 20 ([some (.inr (11, 0))], [], w)
noncomputable def q_X12_isDaleWord_30 (w : XW) : Option XR := ev bs_X12_isDaleWord 30 ([some (.inr (11, 0))], [], w)
noncomputable def q_X12_isDaleWord_40 (w : XW) : Option XR := ev bs_X12_isDaleWord 40 ([some (.inr (11, 0))], [], w)
noncomputable def q_X12_isDaleWord_50 (w : XW) : Option XR := ev bs_X12_isDaleWord 50 ([none], [], w)
noncomputable def q_X12_isDaleWord_54 (w : XW) : Option XR := ev bs_X12_isDaleWord 54 ([none], [], w)
noncomputable def q_X12_isDaleWord_55 (s0 : Int32) (w : XW) : Option XR := ev bs_X12_isDaleWord 55 ([none], [.inl (.int s0)], w)
theorem e_X12_isDaleWord_0 (w : XW) : q_X12_isDaleWord_0 w = ((F_X12_isWord [.inr (11, 0), .inl (.long 1684106341)] w).bind fun r0 => (bif decide (¬ r0.1 = 0) then (q_X12_isDaleWord_50 r0.2) else (q_X12_isDaleWord_10 r0.2))) := (ev_eq _ _ _).trans rfl
theorem e_X12_isDaleWord_10 (w : XW) : q_X12_isDaleWord_10 w = ((F_X12_isWord [.inr (11, 0), .inl (.long 1801807216)] w).bind fun r0 => (bif decide (¬ r0.1 = 0) then (q_X12_isDaleWord_50 r0.2) else (q_X12_isDaleWord_20 r0.2))) := (ev_eq _ _ _).trans rfl
theorem e_X12_isDaleWord_20 (w : XW) : q_X12_isDaleWord_20 w = ((F_X12_isWord [.inr (11, 0), .inl (.long 123581014175598)] w).bind fun r0 => (bif decide (¬ r0.1 = 0) then (q_X12_isDaleWord_50 r0.2) else (q_X12_isDaleWord_30 r0.2))) := (ev_eq _ _ _).trans rfl
theorem e_X12_isDaleWord_30 (w : XW) : q_X12_isDaleWord_30 w = ((F_X12_isWord [.inr (11, 0), .inl (.long 439854918756)] w).bind fun r0 => (bif decide (¬ r0.1 = 0) then (q_X12_isDaleWord_50 r0.2) else (q_X12_isDaleWord_40 r0.2))) := (ev_eq _ _ _).trans rfl
theorem e_X12_isDaleWord_40 (w : XW) : q_X12_isDaleWord_40 w = ((F_X12_isWord [.inr (11, 0), .inl (.long 108187867505765)] w).bind fun r0 => (bif decide (r0.1 = 0) then (q_X12_isDaleWord_54 r0.2) else (q_X12_isDaleWord_50 r0.2))) := (ev_eq _ _ _).trans rfl
theorem e_X12_isDaleWord_50 (w : XW) : q_X12_isDaleWord_50 w = (q_X12_isDaleWord_55 1 w) := (ev_eq _ _ _).trans rfl
theorem e_X12_isDaleWord_54 (w : XW) : q_X12_isDaleWord_54 w = (q_X12_isDaleWord_55 0 w) := (ev_eq _ _ _).trans rfl
theorem e_X12_isDaleWord_55 (s0 : Int32) (w : XW) : q_X12_isDaleWord_55 s0 w = (if s0 = 0 ∨ s0 = 1 then some (some (.inl (.int s0)), w) else none) := (ev_eq _ _ _).trans rfl
theorem f_X12_isDaleWord (w : XW) : F_X12_isDaleWord [.inr (11, 0)] w = (q_X12_isDaleWord_0 w).bind pI := rfl

-- WinterKeepModel.clauseHere()Z
theorem dX12_clauseHere_0 : decode cX12_clauseHere 0 = .ok (.aload_n 0, 1) := by decide +kernel
theorem dX12_clauseHere_1 : decode cX12_clauseHere 1 = .ok (.invokevirtual 109, 3) := by decide +kernel
theorem dX12_clauseHere_4 : decode cX12_clauseHere 4 = .ok (.pop, 1) := by decide +kernel
theorem dX12_clauseHere_5 : decode cX12_clauseHere 5 = .ok (.aload_n 0, 1) := by decide +kernel
theorem dX12_clauseHere_6 : decode cX12_clauseHere 6 = .ok (.getfield 106, 3) := by decide +kernel
theorem dX12_clauseHere_9 : decode cX12_clauseHere 9 = .ok (.istore_n 1, 1) := by decide +kernel
theorem dX12_clauseHere_10 : decode cX12_clauseHere 10 = .ok (.aload_n 0, 1) := by decide +kernel
theorem dX12_clauseHere_11 : decode cX12_clauseHere 11 = .ok (.getfield 159, 3) := by decide +kernel
theorem dX12_clauseHere_14 : decode cX12_clauseHere 14 = .ok (.bipush 6, 2) := by decide +kernel
theorem dX12_clauseHere_16 : decode cX12_clauseHere 16 = .ok (.if_icmp .ne 7, 3) := by decide +kernel
theorem dX12_clauseHere_19 : decode cX12_clauseHere 19 = .ok (.iconst 1, 1) := by decide +kernel
theorem dX12_clauseHere_20 : decode cX12_clauseHere 20 = .ok (.goto 4, 3) := by decide +kernel
theorem dX12_clauseHere_23 : decode cX12_clauseHere 23 = .ok (.iconst 0, 1) := by decide +kernel
theorem dX12_clauseHere_24 : decode cX12_clauseHere 24 = .ok (.istore_n 2, 1) := by decide +kernel
theorem dX12_clauseHere_25 : decode cX12_clauseHere 25 = .ok (.iload_n 2, 1) := by decide +kernel
theorem dX12_clauseHere_26 : decode cX12_clauseHere 26 = .ok (.ifCond .eq 13, 3) := by decide +kernel
theorem dX12_clauseHere_29 : decode cX12_clauseHere 29 = .ok (.aload_n 0, 1) := by decide +kernel
theorem dX12_clauseHere_30 : decode cX12_clauseHere 30 = .ok (.invokevirtual 254, 3) := by decide +kernel
theorem dX12_clauseHere_33 : decode cX12_clauseHere 33 = .ok (.ifCond .ne 23, 3) := by decide +kernel
theorem dX12_clauseHere_36 : decode cX12_clauseHere 36 = .ok (.goto 13, 3) := by decide +kernel
theorem dX12_clauseHere_39 : decode cX12_clauseHere 39 = .ok (.aload_n 0, 1) := by decide +kernel
theorem dX12_clauseHere_40 : decode cX12_clauseHere 40 = .ok (.ldc2_w 257, 3) := by decide +kernel
theorem dX12_clauseHere_43 : decode cX12_clauseHere 43 = .ok (.invokevirtual 117, 3) := by decide +kernel
theorem dX12_clauseHere_46 : decode cX12_clauseHere 46 = .ok (.ifCond .ne 10, 3) := by decide +kernel
theorem dX12_clauseHere_49 : decode cX12_clauseHere 49 = .ok (.aload_n 0, 1) := by decide +kernel
theorem dX12_clauseHere_50 : decode cX12_clauseHere 50 = .ok (.iconst 0, 1) := by decide +kernel
theorem dX12_clauseHere_51 : decode cX12_clauseHere 51 = .ok (.iload_n 1, 1) := by decide +kernel
theorem dX12_clauseHere_52 : decode cX12_clauseHere 52 = .ok (.invokevirtual 127, 3) := by decide +kernel
theorem dX12_clauseHere_55 : decode cX12_clauseHere 55 = .ok (.ireturn, 1) := by decide +kernel
theorem dX12_clauseHere_56 : decode cX12_clauseHere 56 = .ok (.aload_n 0, 1) := by decide +kernel
theorem dX12_clauseHere_57 : decode cX12_clauseHere 57 = .ok (.getfield 259, 3) := by decide +kernel
theorem dX12_clauseHere_60 : decode cX12_clauseHere 60 = .ok (.iload_n 2, 1) := by decide +kernel
theorem dX12_clauseHere_61 : decode cX12_clauseHere 61 = .ok (.ifCond .eq 8, 3) := by decide +kernel
theorem dX12_clauseHere_64 : decode cX12_clauseHere 64 = .ok (.bipush 40, 2) := by decide +kernel
theorem dX12_clauseHere_66 : decode cX12_clauseHere 66 = .ok (.goto 5, 3) := by decide +kernel
theorem dX12_clauseHere_69 : decode cX12_clauseHere 69 = .ok (.bipush 12, 2) := by decide +kernel
theorem dX12_clauseHere_71 : decode cX12_clauseHere 71 = .ok (.if_icmp .ne 10, 3) := by decide +kernel
theorem dX12_clauseHere_74 : decode cX12_clauseHere 74 = .ok (.aload_n 0, 1) := by decide +kernel
theorem dX12_clauseHere_75 : decode cX12_clauseHere 75 = .ok (.iconst 4, 1) := by decide +kernel
theorem dX12_clauseHere_76 : decode cX12_clauseHere 76 = .ok (.iload_n 1, 1) := by decide +kernel
theorem dX12_clauseHere_77 : decode cX12_clauseHere 77 = .ok (.invokevirtual 127, 3) := by decide +kernel
theorem dX12_clauseHere_80 : decode cX12_clauseHere 80 = .ok (.ireturn, 1) := by decide +kernel
theorem dX12_clauseHere_81 : decode cX12_clauseHere 81 = .ok (.aload_n 0, 1) := by decide +kernel
theorem dX12_clauseHere_82 : decode cX12_clauseHere 82 = .ok (.dup, 1) := by decide +kernel
theorem dX12_clauseHere_83 : decode cX12_clauseHere 83 = .ok (.getfield 259, 3) := by decide +kernel
theorem dX12_clauseHere_86 : decode cX12_clauseHere 86 = .ok (.iconst 1, 1) := by decide +kernel
theorem dX12_clauseHere_87 : decode cX12_clauseHere 87 = .ok (.iadd, 1) := by decide +kernel
theorem dX12_clauseHere_88 : decode cX12_clauseHere 88 = .ok (.putfield 259, 3) := by decide +kernel
theorem dX12_clauseHere_91 : decode cX12_clauseHere 91 = .ok (.iload_n 2, 1) := by decide +kernel
theorem dX12_clauseHere_92 : decode cX12_clauseHere 92 = .ok (.ifCond .eq 11, 3) := by decide +kernel
theorem dX12_clauseHere_95 : decode cX12_clauseHere 95 = .ok (.aload_n 0, 1) := by decide +kernel
theorem dX12_clauseHere_96 : decode cX12_clauseHere 96 = .ok (.iload_n 1, 1) := by decide +kernel
theorem dX12_clauseHere_97 : decode cX12_clauseHere 97 = .ok (.invokevirtual 262, 3) := by decide +kernel
theorem dX12_clauseHere_100 : decode cX12_clauseHere 100 = .ok (.goto 7, 3) := by decide +kernel
theorem dX12_clauseHere_103 : decode cX12_clauseHere 103 = .ok (.aload_n 0, 1) := by decide +kernel
theorem dX12_clauseHere_104 : decode cX12_clauseHere 104 = .ok (.invokevirtual 265, 3) := by decide +kernel
theorem dX12_clauseHere_107 : decode cX12_clauseHere 107 = .ok (.ireturn, 1) := by decide +kernel
theorem vc_X12_254 : XVw RX12 254 0 11 1 yX12_isDaleWord cX12_isDaleWord (some .boolean) := ⟨RX12, TX12, tyX12, 43, xk_11, rfl, ⟨by decide, by decide⟩, by decide +kernel, wt_1119, wt_1121, ws_42, wt_11, wt_1122⟩
theorem vc_X12_262 : XVw RX12 262 1 11 2 yX12_daleLineHere cX12_daleLineHere (some .boolean) := ⟨RX12, TX12, tyX12, 43, xk_11, rfl, ⟨by decide, by decide⟩, by decide +kernel, wt_1141, wt_1143, ws_46, wt_11, wt_1144⟩
theorem vc_X12_265 : XVw RX12 265 0 11 2 yX12_isTellHere cX12_isTellHere (some .boolean) := ⟨RX12, TX12, tyX12, 43, xk_11, rfl, ⟨by decide, by decide⟩, by decide +kernel, wt_1184, wt_1186, ws_56, wt_11, wt_1187⟩
noncomputable def bs_X12_clauseHere : List (Nat × XB) := [
  (0, (sq (xLA 0) (sq (xCI 11 1 F_X12_see) (sq (xPop) (sq (xLA 0) (sq (xGI 11 8) (sq (xSI 1) (sq (xLA 0) (sq (xGI 11 11) (sq (xC (.int 6)) (tIf2 (fun x y => decide (¬ x = y)) 23 [true, true, false] 19 [true, true, false]))))))))))),
  (19, (sq (xC (.int 1)) (tGo 24 [true, true, false]))),
  (23, (sq (xC (.int 0)) (tGo 24 [true, true, false]))),
  (24, (sq (xSI 2) (sq (xLI 2) (tIf1 (fun x => decide (x = 0)) 39 [true, true, true] 29 [true, true, true])))),
  (29, (sq (xLA 0) (sq (xCI 11 1 F_X12_isDaleWord) (tIf1 (fun x => decide (¬ x = 0)) 56 [true, true, true] 36 [true, true, false])))),
  (36, (tGo 49 [true, true, false])),
  (39, (sq (xLA 0) (sq (xC (.long 1952803948)) (sq (xCI 11 2 F_X12_isWord) (tIf1 (fun x => decide (¬ x = 0)) 56 [true, true, true] 49 [true, true, false]))))),
  (49, (sq (xLA 0) (sq (xC (.int 0)) (sq (xLI 1) (sq (xCI 11 3 F_X12_fails) tRZ))))),
  (56, (sq (xLA 0) (sq (xGI 11 14) (sq (xLI 2) (tIf1 (fun x => decide (x = 0)) 69 [true, true, true] 64 [true, true, true]))))),
  (64, (sq (xC (.int 40)) (tGo 71 [true, true, true]))),
  (69, (sq (xC (.int 12)) (tGo 71 [true, true, true]))),
  (71, (tIf2 (fun x y => decide (¬ x = y)) 81 [true, true, true] 74 [true, true, false])),
  (74, (sq (xLA 0) (sq (xC (.int 4)) (sq (xLI 1) (sq (xCI 11 3 F_X12_fails) tRZ))))),
  (81, (sq (xLA 0) (sq (xDup) (sq (xGI 11 14) (sq (xC (.int 1)) (sq (xI2 (· + ·)) (sq (xPI 11 14) (sq (xLI 2) (tIf1 (fun x => decide (x = 0)) 103 [true, false, false] 95 [true, true, false]))))))))),
  (95, (sq (xLA 0) (sq (xLI 1) (sq (xCI 11 2 F_X12_daleLineHere) (tGo 107 [false, false, false]))))),
  (103, (sq (xLA 0) (sq (xCI 11 1 F_X12_isTellHere) (tGo 107 [false, false, false])))),
  (107, tRZ)]
set_option maxRecDepth 100000 in
set_option maxHeartbeats 4000000 in
theorem s_X12_clauseHere : ∀ X : XCtx, XE X → X.2.2.1.1 = cX12_clauseHere → X.2.2.1.2.1 = 3 → X.2.2.1.2.2.1 = yX12_clauseHere.cls → X.2.2.1.2.2.2.1 = (some .boolean) → X.1.2.2.2.1 = { frames := 10, cells := 0, slots := 0, locals := 219 } → SndBs X bs_X12_clauseHere := by
  rintro ⟨⟨p, l, e, R, s⟩, Y, ⟨cc, nL, own, ret, Ts⟩, Z⟩ hE h1 h2 h3 h4 h5
  dsimp only at h1 h2 h3 h4 h5
  subst h1 h2 h3 h4 h5
  exact ⟨(n_sq (n_aload_n hE dX12_clauseHere_0) (n_sq (n_cIv hE m_X12_see vc_X12_109 (show 0 + 1 ≤ 10 ∧ 8 + (1 + 11) + 0 ≤ 219 by decide) dX12_clauseHere_1) (n_sq (n_pop hE dX12_clauseHere_4) (n_sq (n_aload_n hE dX12_clauseHere_5) (n_sq (n_getI hE xk_11 (k := 8) rfl (by decide) rfl wt_968 dX12_clauseHere_6) (n_sq (n_istore_n hE (show (1 : Nat) < 3 by decide) dX12_clauseHere_9) (n_sq (n_aload_n hE dX12_clauseHere_10) (n_sq (n_getI hE xk_11 (k := 11) rfl (by decide) rfl wt_971 dX12_clauseHere_11) (n_sq (n_bipush hE (by decide) dX12_clauseHere_14) (n_ifcne hE (by decide) dX12_clauseHere_16)))))))))),
    (n_sq (n_iconst hE (by decide) dX12_clauseHere_19) (n_goto hE (by decide) dX12_clauseHere_20)),
    (n_sq (n_iconst hE (by decide) dX12_clauseHere_23) n_fall),
    (n_sq (n_istore_n hE (show (2 : Nat) < 3 by decide) dX12_clauseHere_24) (n_sq (n_iload_n hE dX12_clauseHere_25) (n_ifeq hE (by decide) dX12_clauseHere_26))),
    (n_sq (n_aload_n hE dX12_clauseHere_29) (n_sq (n_cIv hE m_X12_isDaleWord vc_X12_254 (show 2 + 1 ≤ 10 ∧ 8 + (1 + 11) + 46 ≤ 219 by decide) dX12_clauseHere_30) (n_ifne hE (by decide) dX12_clauseHere_33))),
    (n_goto hE (by decide) dX12_clauseHere_36),
    (n_sq (n_aload_n hE dX12_clauseHere_39) (n_sq (n_ldc2 hE wt_1136 dX12_clauseHere_40) (n_sq (n_cIv hE m_X12_isWord vc_X12_117 (show 1 + 1 ≤ 10 ∧ 8 + (6 + 11) + 21 ≤ 219 by decide) dX12_clauseHere_43) (n_ifne hE (by decide) dX12_clauseHere_46)))),
    (n_sq (n_aload_n hE dX12_clauseHere_49) (n_sq (n_iconst hE (by decide) dX12_clauseHere_50) (n_sq (n_iload_n hE dX12_clauseHere_51) (n_sq (n_cIv hE m_X12_fails vc_X12_127 (show 0 + 1 ≤ 10 ∧ 8 + (3 + 11) + 0 ≤ 219 by decide) dX12_clauseHere_52) (n_zreturn hE rfl dX12_clauseHere_55))))),
    (n_sq (n_aload_n hE dX12_clauseHere_56) (n_sq (n_getI hE xk_11 (k := 14) rfl (by decide) rfl wt_974 dX12_clauseHere_57) (n_sq (n_iload_n hE dX12_clauseHere_60) (n_ifeq hE (by decide) dX12_clauseHere_61)))),
    (n_sq (n_bipush hE (by decide) dX12_clauseHere_64) (n_goto hE (by decide) dX12_clauseHere_66)),
    (n_sq (n_bipush hE (by decide) dX12_clauseHere_69) n_fall),
    (n_ifcne hE (by decide) dX12_clauseHere_71),
    (n_sq (n_aload_n hE dX12_clauseHere_74) (n_sq (n_iconst hE (by decide) dX12_clauseHere_75) (n_sq (n_iload_n hE dX12_clauseHere_76) (n_sq (n_cIv hE m_X12_fails vc_X12_127 (show 0 + 1 ≤ 10 ∧ 8 + (3 + 11) + 0 ≤ 219 by decide) dX12_clauseHere_77) (n_zreturn hE rfl dX12_clauseHere_80))))),
    (n_sq (n_aload_n hE dX12_clauseHere_81) (n_sq (n_dup hE dX12_clauseHere_82) (n_sq (n_getI hE xk_11 (k := 14) rfl (by decide) rfl wt_974 dX12_clauseHere_83) (n_sq (n_iconst hE (by decide) dX12_clauseHere_86) (n_sq (n_iadd hE dX12_clauseHere_87) (n_sq (n_putI hE xk_11 (k := 14) rfl (by decide) rfl rfl (tyX12_ok 14 (by decide)) wt_974 dX12_clauseHere_88) (n_sq (n_iload_n hE dX12_clauseHere_91) (n_ifeq hE (by decide) dX12_clauseHere_92)))))))),
    (n_sq (n_aload_n hE dX12_clauseHere_95) (n_sq (n_iload_n hE dX12_clauseHere_96) (n_sq (n_cIv hE m_X12_daleLineHere vc_X12_262 (show 4 + 1 ≤ 10 ∧ 8 + (2 + 11) + 93 ≤ 219 by decide) dX12_clauseHere_97) (n_goto hE (by decide) dX12_clauseHere_100)))),
    (n_sq (n_aload_n hE dX12_clauseHere_103) (n_sq (n_cIv hE m_X12_isTellHere vc_X12_265 (show 9 + 1 ≤ 10 ∧ 8 + (2 + 11) + 198 ≤ 219 by decide) dX12_clauseHere_104) n_fall)),
    (n_zreturn hE rfl dX12_clauseHere_107), trivial⟩
noncomputable def F_X12_clauseHere (as : List XV) (w : XW) : Option (Int32 × XW) := (xF 3 bs_X12_clauseHere as w).bind pI
theorem m_X12_clauseHere : XM yX12_clauseHere cX12_clauseHere 3 (some .boolean) 10 219 (eI F_X12_clauseHere) := xm_I (xm_of (by decide) s_X12_clauseHere)
noncomputable def q_X12_clauseHere_0 (w : XW) : Option XR := ev bs_X12_clauseHere 0 ([some (.inr (11, 0)), none, none], [], w)
noncomputable def q_X12_clauseHere_19 (x1 : Int32) (w : XW) : Option XR := ev bs_X12_clauseHere 19 ([some (.inr (11, 0)), some (.inl (.int x1)), none], [], w)
noncomputable def q_X12_clauseHere_23 (x1 : Int32) (w : XW) : Option XR := ev bs_X12_clauseHere 23 ([some (.inr (11, 0)), some (.inl (.int x1)), none], [], w)
noncomputable def q_X12_clauseHere_24 (x1 : Int32) (s0 : Int32) (w : XW) : Option XR := ev bs_X12_clauseHere 24 ([some (.inr (11, 0)), some (.inl (.int x1)), none], [.inl (.int s0)], w)
noncomputable def q_X12_clauseHere_29 (x1 : Int32) (x2 : Int32) (w : XW) : Option XR := ev bs_X12_clauseHere 29 ([some (.inr (11, 0)), some (.inl (.int x1)), some (.inl (.int x2))], [], w)
noncomputable def q_X12_clauseHere_36 (x1 : Int32) (w : XW) : Option XR := ev bs_X12_clauseHere 36 ([some (.inr (11, 0)), some (.inl (.int x1)), none], [], w)
noncomputable def q_X12_clauseHere_39 (x1 : Int32) (x2 : Int32) (w : XW) : Option XR := ev bs_X12_clauseHere 39 ([some (.inr (11, 0)), some (.inl (.int x1)), some (.inl (.int x2))], [], w)
noncomputable def q_X12_clauseHere_49 (x1 : Int32) (w : XW) : Option XR := ev bs_X12_clauseHere 49 ([some (.inr (11, 0)), some (.inl (.int x1)), none], [], w)
noncomputable def q_X12_clauseHere_56 (x1 : Int32) (x2 : Int32) (w : XW) : Option XR := ev bs_X12_clauseHere 56 ([some (.inr (11, 0)), some (.inl (.int x1)), some (.inl (.int x2))], [], w)
noncomputable def q_X12_clauseHere_64 (x1 : Int32) (x2 : Int32) (s0 : Int32) (w : XW) : Option XR := ev bs_X12_clauseHere 64 ([some (.inr (11, 0)), some (.inl (.int x1)), some (.inl (.int x2))], [.inl (.int s0)], w)
noncomputable def q_X12_clauseHere_69 (x1 : Int32) (x2 : Int32) (s0 : Int32) (w : XW) : Option XR := ev bs_X12_clauseHere 69 ([some (.inr (11, 0)), some (.inl (.int x1)), some (.inl (.int x2))], [.inl (.int s0)], w)
noncomputable def q_X12_clauseHere_71 (x1 : Int32) (x2 : Int32) (s0 : Int32) (s1 : Int32) (w : XW) : Option XR := ev bs_X12_clauseHere 71 ([some (.inr (11, 0)), some (.inl (.int x1)), some (.inl (.int x2))], [.inl (.int s1), .inl (.int s0)], w)
noncomputable def q_X12_clauseHere_74 (x1 : Int32) (w : XW) : Option XR := ev bs_X12_clauseHere 74 ([some (.inr (11, 0)), some (.inl (.int x1)), none], [], w)
noncomputable def q_X12_clauseHere_81 (x1 : Int32) (x2 : Int32) (w : XW) : Option XR := ev bs_X12_clauseHere 81 ([some (.inr (11, 0)), some (.inl (.int x1)), some (.inl (.int x2))], [], w)
noncomputable def q_X12_clauseHere_95 (x1 : Int32) (w : XW) : Option XR := ev bs_X12_clauseHere 95 ([some (.inr (11, 0)), some (.inl (.int x1)), none], [], w)
noncomputable def q_X12_clauseHere_103 (w : XW) : Option XR := ev bs_X12_clauseHere 103 ([some (.inr (11, 0)), none, none], [], w)
noncomputable def q_X12_clauseHere_107 (s0 : Int32) (w : XW) : Option XR := ev bs_X12_clauseHere 107 ([none, none, none], [.inl (.int s0)], w)
theorem e_X12_clauseHere_0 (w : XW) : q_X12_clauseHere_0 w = ((F_X12_see [.inr (11, 0)] w).bind fun r0 => (bif decide (¬ (gI r0.2 11 0 11) = 6) then (q_X12_clauseHere_23 (gI r0.2 11 0 8) r0.2) else (q_X12_clauseHere_19 (gI r0.2 11 0 8) r0.2))) := (ev_eq _ _ _).trans rfl
theorem e_X12_clauseHere_19 (x1 : Int32) (w : XW) : q_X12_clauseHere_19 x1 w = (q_X12_clauseHere_24 x1 1 w) := (ev_eq _ _ _).trans rfl
theorem e_X12_clauseHere_23 (x1 : Int32) (w : XW) : q_X12_clauseHere_23 x1 w = (q_X12_clauseHere_24 x1 0 w) := (ev_eq _ _ _).trans rfl
theorem e_X12_clauseHere_24 (x1 : Int32) (s0 : Int32) (w : XW) : q_X12_clauseHere_24 x1 s0 w = (bif decide (s0 = 0) then (q_X12_clauseHere_39 x1 s0 w) else (q_X12_clauseHere_29 x1 s0 w)) := (ev_eq _ _ _).trans rfl
theorem e_X12_clauseHere_29 (x1 : Int32) (x2 : Int32) (w : XW) : q_X12_clauseHere_29 x1 x2 w = ((F_X12_isDaleWord [.inr (11, 0)] w).bind fun r0 => (bif decide (¬ r0.1 = 0) then (q_X12_clauseHere_56 x1 x2 r0.2) else (q_X12_clauseHere_36 x1 r0.2))) := (ev_eq _ _ _).trans rfl
theorem e_X12_clauseHere_36 (x1 : Int32) (w : XW) : q_X12_clauseHere_36 x1 w = (q_X12_clauseHere_49 x1 w) := (ev_eq _ _ _).trans rfl
theorem e_X12_clauseHere_39 (x1 : Int32) (x2 : Int32) (w : XW) : q_X12_clauseHere_39 x1 x2 w = ((F_X12_isWord [.inr (11, 0), .inl (.long 1952803948)] w).bind fun r0 => (bif decide (¬ r0.1 = 0) then (q_X12_clauseHere_56 x1 x2 r0.2) else (q_X12_clauseHere_49 x1 r0.2))) := (ev_eq _ _ _).trans rfl
theorem e_X12_clauseHere_49 (x1 : Int32) (w : XW) : q_X12_clauseHere_49 x1 w = ((F_X12_fails [.inr (11, 0), .inl (.int 0), .inl (.int x1)] w).bind fun r0 => (if r0.1 = 0 ∨ r0.1 = 1 then some (some (.inl (.int r0.1)), r0.2) else none)) := (ev_eq _ _ _).trans rfl
theorem e_X12_clauseHere_56 (x1 : Int32) (x2 : Int32) (w : XW) : q_X12_clauseHere_56 x1 x2 w = (bif decide (x2 = 0) then (q_X12_clauseHere_69 x1 x2 (gI w 11 0 14) w) else (q_X12_clauseHere_64 x1 x2 (gI w 11 0 14) w)) := (ev_eq _ _ _).trans rfl
theorem e_X12_clauseHere_64 (x1 : Int32) (x2 : Int32) (s0 : Int32) (w : XW) : q_X12_clauseHere_64 x1 x2 s0 w = (q_X12_clauseHere_71 x1 x2 s0 40 w) := (ev_eq _ _ _).trans rfl
theorem e_X12_clauseHere_69 (x1 : Int32) (x2 : Int32) (s0 : Int32) (w : XW) : q_X12_clauseHere_69 x1 x2 s0 w = (q_X12_clauseHere_71 x1 x2 s0 12 w) := (ev_eq _ _ _).trans rfl
theorem e_X12_clauseHere_71 (x1 : Int32) (x2 : Int32) (s0 : Int32) (s1 : Int32) (w : XW) : q_X12_clauseHere_71 x1 x2 s0 s1 w = (bif decide (¬ s0 = s1) then (q_X12_clauseHere_81 x1 x2 w) else (q_X12_clauseHere_74 x1 w)) := (ev_eq _ _ _).trans rfl
theorem e_X12_clauseHere_74 (x1 : Int32) (w : XW) : q_X12_clauseHere_74 x1 w = ((F_X12_fails [.inr (11, 0), .inl (.int 4), .inl (.int x1)] w).bind fun r0 => (if r0.1 = 0 ∨ r0.1 = 1 then some (some (.inl (.int r0.1)), r0.2) else none)) := (ev_eq _ _ _).trans rfl
theorem e_X12_clauseHere_81 (x1 : Int32) (x2 : Int32) (w : XW) : q_X12_clauseHere_81 x1 x2 w = (bif decide (x2 = 0) then (q_X12_clauseHere_103 (sI w 11 0 14 ((gI w 11 0 14) + 1))) else (q_X12_clauseHere_95 x1 (sI w 11 0 14 ((gI w 11 0 14) + 1)))) := (ev_eq _ _ _).trans rfl
theorem e_X12_clauseHere_95 (x1 : Int32) (w : XW) : q_X12_clauseHere_95 x1 w = ((F_X12_daleLineHere [.inr (11, 0), .inl (.int x1)] w).bind fun r0 => (q_X12_clauseHere_107 r0.1 r0.2)) := (ev_eq _ _ _).trans rfl
theorem e_X12_clauseHere_103 (w : XW) : q_X12_clauseHere_103 w = ((F_X12_isTellHere [.inr (11, 0)] w).bind fun r0 => (q_X12_clauseHere_107 r0.1 r0.2)) := (ev_eq _ _ _).trans rfl
theorem e_X12_clauseHere_107 (s0 : Int32) (w : XW) : q_X12_clauseHere_107 s0 w = (if s0 = 0 ∨ s0 = 1 then some (some (.inl (.int s0)), w) else none) := (ev_eq _ _ _).trans rfl
theorem f_X12_clauseHere (w : XW) : F_X12_clauseHere [.inr (11, 0)] w = (q_X12_clauseHere_0 w).bind pI := rfl

-- WinterKeepModel.readsAll()Z
theorem dX12_readsAll_0 : decode cX12_readsAll 0 = .ok (.aload_n 0, 1) := by decide +kernel
theorem dX12_readsAll_1 : decode cX12_readsAll 1 = .ok (.getfield 17, 3) := by decide +kernel
theorem dX12_readsAll_4 : decode cX12_readsAll 4 = .ok (.aload_n 0, 1) := by decide +kernel
theorem dX12_readsAll_5 : decode cX12_readsAll 5 = .ok (.getfield 159, 3) := by decide +kernel
theorem dX12_readsAll_8 : decode cX12_readsAll 8 = .ok (.iconst 0, 1) := by decide +kernel
theorem dX12_readsAll_9 : decode cX12_readsAll 9 = .ok (.iastore, 1) := by decide +kernel
theorem dX12_readsAll_10 : decode cX12_readsAll 10 = .ok (.aload_n 0, 1) := by decide +kernel
theorem dX12_readsAll_11 : decode cX12_readsAll 11 = .ok (.iconst 0, 1) := by decide +kernel
theorem dX12_readsAll_12 : decode cX12_readsAll 12 = .ok (.putfield 259, 3) := by decide +kernel
theorem dX12_readsAll_15 : decode cX12_readsAll 15 = .ok (.aload_n 0, 1) := by decide +kernel
theorem dX12_readsAll_16 : decode cX12_readsAll 16 = .ok (.iconst 0, 1) := by decide +kernel
theorem dX12_readsAll_17 : decode cX12_readsAll 17 = .ok (.putfield 106, 3) := by decide +kernel
theorem dX12_readsAll_20 : decode cX12_readsAll 20 = .ok (.aload_n 0, 1) := by decide +kernel
theorem dX12_readsAll_21 : decode cX12_readsAll 21 = .ok (.iconst 0, 1) := by decide +kernel
theorem dX12_readsAll_22 : decode cX12_readsAll 22 = .ok (.putfield 103, 3) := by decide +kernel
theorem dX12_readsAll_25 : decode cX12_readsAll 25 = .ok (.aload_n 0, 1) := by decide +kernel
theorem dX12_readsAll_26 : decode cX12_readsAll 26 = .ok (.iconst 0, 1) := by decide +kernel
theorem dX12_readsAll_27 : decode cX12_readsAll 27 = .ok (.putfield 162, 3) := by decide +kernel
theorem dX12_readsAll_30 : decode cX12_readsAll 30 = .ok (.aload_n 0, 1) := by decide +kernel
theorem dX12_readsAll_31 : decode cX12_readsAll 31 = .ok (.invokevirtual 268, 3) := by decide +kernel
theorem dX12_readsAll_34 : decode cX12_readsAll 34 = .ok (.istore_n 1, 1) := by decide +kernel
theorem dX12_readsAll_35 : decode cX12_readsAll 35 = .ok (.iload_n 1, 1) := by decide +kernel
theorem dX12_readsAll_36 : decode cX12_readsAll 36 = .ok (.ifCond .eq 30, 3) := by decide +kernel
theorem dX12_readsAll_39 : decode cX12_readsAll 39 = .ok (.aload_n 0, 1) := by decide +kernel
theorem dX12_readsAll_40 : decode cX12_readsAll 40 = .ok (.invokevirtual 109, 3) := by decide +kernel
theorem dX12_readsAll_43 : decode cX12_readsAll 43 = .ok (.bipush 59, 2) := by decide +kernel
theorem dX12_readsAll_45 : decode cX12_readsAll 45 = .ok (.if_icmp .ne 21, 3) := by decide +kernel
theorem dX12_readsAll_48 : decode cX12_readsAll 48 = .ok (.aload_n 0, 1) := by decide +kernel
theorem dX12_readsAll_49 : decode cX12_readsAll 49 = .ok (.dup, 1) := by decide +kernel
theorem dX12_readsAll_50 : decode cX12_readsAll 50 = .ok (.getfield 106, 3) := by decide +kernel
theorem dX12_readsAll_53 : decode cX12_readsAll 53 = .ok (.iconst 1, 1) := by decide +kernel
theorem dX12_readsAll_54 : decode cX12_readsAll 54 = .ok (.iadd, 1) := by decide +kernel
theorem dX12_readsAll_55 : decode cX12_readsAll 55 = .ok (.putfield 106, 3) := by decide +kernel
theorem dX12_readsAll_58 : decode cX12_readsAll 58 = .ok (.aload_n 0, 1) := by decide +kernel
theorem dX12_readsAll_59 : decode cX12_readsAll 59 = .ok (.invokevirtual 268, 3) := by decide +kernel
theorem dX12_readsAll_62 : decode cX12_readsAll 62 = .ok (.istore_n 1, 1) := by decide +kernel
theorem dX12_readsAll_63 : decode cX12_readsAll 63 = .ok (.goto (-28), 3) := by decide +kernel
theorem dX12_readsAll_66 : decode cX12_readsAll 66 = .ok (.iload_n 1, 1) := by decide +kernel
theorem dX12_readsAll_67 : decode cX12_readsAll 67 = .ok (.ifCond .eq 21, 3) := by decide +kernel
theorem dX12_readsAll_70 : decode cX12_readsAll 70 = .ok (.aload_n 0, 1) := by decide +kernel
theorem dX12_readsAll_71 : decode cX12_readsAll 71 = .ok (.invokevirtual 109, 3) := by decide +kernel
theorem dX12_readsAll_74 : decode cX12_readsAll 74 = .ok (.iconst (-1), 1) := by decide +kernel
theorem dX12_readsAll_75 : decode cX12_readsAll 75 = .ok (.if_icmp .eq 13, 3) := by decide +kernel
theorem dX12_readsAll_78 : decode cX12_readsAll 78 = .ok (.aload_n 0, 1) := by decide +kernel
theorem dX12_readsAll_79 : decode cX12_readsAll 79 = .ok (.iconst 0, 1) := by decide +kernel
theorem dX12_readsAll_80 : decode cX12_readsAll 80 = .ok (.aload_n 0, 1) := by decide +kernel
theorem dX12_readsAll_81 : decode cX12_readsAll 81 = .ok (.getfield 106, 3) := by decide +kernel
theorem dX12_readsAll_84 : decode cX12_readsAll 84 = .ok (.invokevirtual 127, 3) := by decide +kernel
theorem dX12_readsAll_87 : decode cX12_readsAll 87 = .ok (.pop, 1) := by decide +kernel
theorem dX12_readsAll_88 : decode cX12_readsAll 88 = .ok (.aload_n 0, 1) := by decide +kernel
theorem dX12_readsAll_89 : decode cX12_readsAll 89 = .ok (.iconst 0, 1) := by decide +kernel
theorem dX12_readsAll_90 : decode cX12_readsAll 90 = .ok (.putfield 96, 3) := by decide +kernel
theorem dX12_readsAll_93 : decode cX12_readsAll 93 = .ok (.aload_n 0, 1) := by decide +kernel
theorem dX12_readsAll_94 : decode cX12_readsAll 94 = .ok (.getfield 103, 3) := by decide +kernel
theorem dX12_readsAll_97 : decode cX12_readsAll 97 = .ok (.ifCond .ne 7, 3) := by decide +kernel
theorem dX12_readsAll_100 : decode cX12_readsAll 100 = .ok (.iconst 1, 1) := by decide +kernel
theorem dX12_readsAll_101 : decode cX12_readsAll 101 = .ok (.goto 4, 3) := by decide +kernel
theorem dX12_readsAll_104 : decode cX12_readsAll 104 = .ok (.iconst 0, 1) := by decide +kernel
theorem dX12_readsAll_105 : decode cX12_readsAll 105 = .ok (.ireturn, 1) := by decide +kernel
theorem vc_X12_268 : XVw RX12 268 0 11 3 yX12_clauseHere cX12_clauseHere (some .boolean) := ⟨RX12, TX12, tyX12, 43, xk_11, rfl, ⟨by decide, by decide⟩, by decide +kernel, wt_1111, wt_1113, ws_40, wt_11, wt_1114⟩
noncomputable def bs_X12_readsAll : List (Nat × XB) := [
  (0, (sq (xLA 0) (sq (xGS 11 43 1 0) (sq (xLA 0) (sq (xGI 11 11) (sq (xC (.int 0)) (sq (xTI 43 7 (fun x => x)) (sq (xLA 0) (sq (xC (.int 0)) (sq (xPI 11 14) (sq (xLA 0) (sq (xC (.int 0)) (sq (xPI 11 8) (sq (xLA 0) (sq (xC (.int 0)) (sq (xPI 11 9) (sq (xLA 0) (sq (xC (.int 0)) (sq (xPI 11 12) (sq (xLA 0) (sq (xCI 11 1 F_X12_clauseHere) (sq (xSI 1) (tGo 35 [true, true]))))))))))))))))))))))),
  (35, (sq (xLI 1) (tIf1 (fun x => decide (x = 0)) 66 [true, true] 39 [true, true]))),
  (39, (sq (xLA 0) (sq (xCI 11 1 F_X12_see) (sq (xC (.int 59)) (tIf2 (fun x y => decide (¬ x = y)) 66 [true, true] 48 [true, false]))))),
  (48, (sq (xLA 0) (sq (xDup) (sq (xGI 11 8) (sq (xC (.int 1)) (sq (xI2 (· + ·)) (sq (xPI 11 8) (sq (xLA 0) (sq (xCI 11 1 F_X12_clauseHere) (sq (xSI 1) (tGo 35 [true, true]))))))))))),
  (66, (sq (xLI 1) (tIf1 (fun x => decide (x = 0)) 88 [true, false] 70 [true, false]))),
  (70, (sq (xLA 0) (sq (xCI 11 1 F_X12_see) (sq (xC (.int (-1))) (tIf2 (fun x y => decide (x = y)) 88 [true, false] 78 [true, false]))))),
  (78, (sq (xLA 0) (sq (xC (.int 0)) (sq (xLA 0) (sq (xGI 11 8) (sq (xCI 11 3 F_X12_fails) (sq (xPop) (tGo 88 [true, false])))))))),
  (88, (sq (xLA 0) (sq (xC (.int 0)) (sq (xPI 11 1) (sq (xLA 0) (sq (xGI 11 9) (tIf1 (fun x => decide (¬ x = 0)) 104 [false, false] 100 [false, false]))))))),
  (100, (sq (xC (.int 1)) (tGo 105 [false, false]))),
  (104, (sq (xC (.int 0)) (tGo 105 [false, false]))),
  (105, tRZ)]
set_option maxRecDepth 100000 in
set_option maxHeartbeats 4000000 in
theorem s_X12_readsAll : ∀ X : XCtx, XE X → X.2.2.1.1 = cX12_readsAll → X.2.2.1.2.1 = 2 → X.2.2.1.2.2.1 = yX12_readsAll.cls → X.2.2.1.2.2.2.1 = (some .boolean) → X.1.2.2.2.1 = { frames := 11, cells := 0, slots := 0, locals := 241 } → SndBs X bs_X12_readsAll := by
  rintro ⟨⟨p, l, e, R, s⟩, Y, ⟨cc, nL, own, ret, Ts⟩, Z⟩ hE h1 h2 h3 h4 h5
  dsimp only at h1 h2 h3 h4 h5
  subst h1 h2 h3 h4 h5
  exact ⟨(n_sq (n_aload_n hE dX12_readsAll_0) (n_sq (n_getS hE xk_11 (k := 4) rfl (by decide) rfl wt_964 dX12_readsAll_1) (n_sq (n_aload_n hE dX12_readsAll_4) (n_sq (n_getI hE xk_11 (k := 11) rfl (by decide) rfl wt_971 dX12_readsAll_5) (n_sq (n_iconst hE (by decide) dX12_readsAll_8) (n_sq (n_iast hE rfl (by decide) dX12_readsAll_9) (n_sq (n_aload_n hE dX12_readsAll_10) (n_sq (n_iconst hE (by decide) dX12_readsAll_11) (n_sq (n_putI hE xk_11 (k := 14) rfl (by decide) rfl rfl (tyX12_ok 14 (by decide)) wt_974 dX12_readsAll_12) (n_sq (n_aload_n hE dX12_readsAll_15) (n_sq (n_iconst hE (by decide) dX12_readsAll_16) (n_sq (n_putI hE xk_11 (k := 8) rfl (by decide) rfl rfl (tyX12_ok 8 (by decide)) wt_968 dX12_readsAll_17) (n_sq (n_aload_n hE dX12_readsAll_20) (n_sq (n_iconst hE (by decide) dX12_readsAll_21) (n_sq (n_putI hE xk_11 (k := 9) rfl (by decide) rfl rfl (tyX12_ok 9 (by decide)) wt_969 dX12_readsAll_22) (n_sq (n_aload_n hE dX12_readsAll_25) (n_sq (n_iconst hE (by decide) dX12_readsAll_26) (n_sq (n_putI hE xk_11 (k := 12) rfl (by decide) rfl rfl (tyX12_ok 12 (by decide)) wt_972 dX12_readsAll_27) (n_sq (n_aload_n hE dX12_readsAll_30) (n_sq (n_cIv hE m_X12_clauseHere vc_X12_268 (show 10 + 1 ≤ 11 ∧ 8 + (3 + 11) + 219 ≤ 241 by decide) dX12_readsAll_31) (n_sq (n_istore_n hE (show (1 : Nat) < 2 by decide) dX12_readsAll_34) n_fall))))))))))))))))))))),
    (n_sq (n_iload_n hE dX12_readsAll_35) (n_ifeq hE (by decide) dX12_readsAll_36)),
    (n_sq (n_aload_n hE dX12_readsAll_39) (n_sq (n_cIv hE m_X12_see vc_X12_109 (show 0 + 1 ≤ 11 ∧ 8 + (1 + 11) + 0 ≤ 241 by decide) dX12_readsAll_40) (n_sq (n_bipush hE (by decide) dX12_readsAll_43) (n_ifcne hE (by decide) dX12_readsAll_45)))),
    (n_sq (n_aload_n hE dX12_readsAll_48) (n_sq (n_dup hE dX12_readsAll_49) (n_sq (n_getI hE xk_11 (k := 8) rfl (by decide) rfl wt_968 dX12_readsAll_50) (n_sq (n_iconst hE (by decide) dX12_readsAll_53) (n_sq (n_iadd hE dX12_readsAll_54) (n_sq (n_putI hE xk_11 (k := 8) rfl (by decide) rfl rfl (tyX12_ok 8 (by decide)) wt_968 dX12_readsAll_55) (n_sq (n_aload_n hE dX12_readsAll_58) (n_sq (n_cIv hE m_X12_clauseHere vc_X12_268 (show 10 + 1 ≤ 11 ∧ 8 + (3 + 11) + 219 ≤ 241 by decide) dX12_readsAll_59) (n_sq (n_istore_n hE (show (1 : Nat) < 2 by decide) dX12_readsAll_62) (n_goto hE (by decide) dX12_readsAll_63)))))))))),
    (n_sq (n_iload_n hE dX12_readsAll_66) (n_ifeq hE (by decide) dX12_readsAll_67)),
    (n_sq (n_aload_n hE dX12_readsAll_70) (n_sq (n_cIv hE m_X12_see vc_X12_109 (show 0 + 1 ≤ 11 ∧ 8 + (1 + 11) + 0 ≤ 241 by decide) dX12_readsAll_71) (n_sq (n_iconst hE (by decide) dX12_readsAll_74) (n_ifceq hE (by decide) dX12_readsAll_75)))),
    (n_sq (n_aload_n hE dX12_readsAll_78) (n_sq (n_iconst hE (by decide) dX12_readsAll_79) (n_sq (n_aload_n hE dX12_readsAll_80) (n_sq (n_getI hE xk_11 (k := 8) rfl (by decide) rfl wt_968 dX12_readsAll_81) (n_sq (n_cIv hE m_X12_fails vc_X12_127 (show 0 + 1 ≤ 11 ∧ 8 + (3 + 11) + 0 ≤ 241 by decide) dX12_readsAll_84) (n_sq (n_pop hE dX12_readsAll_87) n_fall)))))),
    (n_sq (n_aload_n hE dX12_readsAll_88) (n_sq (n_iconst hE (by decide) dX12_readsAll_89) (n_sq (n_putI hE xk_11 (k := 1) rfl (by decide) rfl rfl (tyX12_ok 1 (by decide)) wt_961 dX12_readsAll_90) (n_sq (n_aload_n hE dX12_readsAll_93) (n_sq (n_getI hE xk_11 (k := 9) rfl (by decide) rfl wt_969 dX12_readsAll_94) (n_ifne hE (by decide) dX12_readsAll_97)))))),
    (n_sq (n_iconst hE (by decide) dX12_readsAll_100) (n_goto hE (by decide) dX12_readsAll_101)),
    (n_sq (n_iconst hE (by decide) dX12_readsAll_104) n_fall),
    (n_zreturn hE rfl dX12_readsAll_105), trivial⟩
noncomputable def F_X12_readsAll (as : List XV) (w : XW) : Option (Int32 × XW) := (xF 2 bs_X12_readsAll as w).bind pI
theorem m_X12_readsAll : XM yX12_readsAll cX12_readsAll 2 (some .boolean) 11 241 (eI F_X12_readsAll) := xm_I (xm_of (by decide) s_X12_readsAll)
noncomputable def q_X12_readsAll_0 (w : XW) : Option XR := ev bs_X12_readsAll 0 ([some (.inr (11, 0)), none], [], w)
noncomputable def q_X12_readsAll_35 (x1 : Int32) (w : XW) : Option XR := ev bs_X12_readsAll 35 ([some (.inr (11, 0)), some (.inl (.int x1))], [], w)
noncomputable def q_X12_readsAll_39 (x1 : Int32) (w : XW) : Option XR := ev bs_X12_readsAll 39 ([some (.inr (11, 0)), some (.inl (.int x1))], [], w)
noncomputable def q_X12_readsAll_48 (w : XW) : Option XR := ev bs_X12_readsAll 48 ([some (.inr (11, 0)), none], [], w)
noncomputable def q_X12_readsAll_66 (x1 : Int32) (w : XW) : Option XR := ev bs_X12_readsAll 66 ([some (.inr (11, 0)), some (.inl (.int x1))], [], w)
noncomputable def q_X12_readsAll_70 (w : XW) : Option XR := ev bs_X12_readsAll 70 ([some (.inr (11, 0)), none], [], w)
noncomputable def q_X12_readsAll_78 (w : XW) : Option XR := ev bs_X12_readsAll 78 ([some (.inr (11, 0)), none], [], w)
noncomputable def q_X12_readsAll_88 (w : XW) : Option XR := ev bs_X12_readsAll 88 ([some (.inr (11, 0)), none], [], w)
noncomputable def q_X12_readsAll_100 (w : XW) : Option XR := ev bs_X12_readsAll 100 ([none, none], [], w)
noncomputable def q_X12_readsAll_104 (w : XW) : Option XR := ev bs_X12_readsAll 104 ([none, none], [], w)
noncomputable def q_X12_readsAll_105 (s0 : Int32) (w : XW) : Option XR := ev bs_X12_readsAll 105 ([none, none], [.inl (.int s0)], w)
theorem e_X12_readsAll_0 (w : XW) : q_X12_readsAll_0 w = (if (gI w 11 0 11) < 0 ∨ 7 ≤ (gI w 11 0 11).toNatClampNeg then none else ((F_X12_clauseHere [.inr (11, 0)] (sI (sI (sI (sI (sI w 43 0 ((gI w 11 0 11).toNatClampNeg) 0) 11 0 14 0) 11 0 8 0) 11 0 9 0) 11 0 12 0)).bind fun r0 => (q_X12_readsAll_35 r0.1 r0.2))) := (ev_eq _ _ _).trans rfl
theorem e_X12_readsAll_35 (x1 : Int32) (w : XW) : q_X12_readsAll_35 x1 w = (bif decide (x1 = 0) then (q_X12_readsAll_66 x1 w) else (q_X12_readsAll_39 x1 w)) := (ev_eq _ _ _).trans rfl
theorem e_X12_readsAll_39 (x1 : Int32) (w : XW) : q_X12_readsAll_39 x1 w = ((F_X12_see [.inr (11, 0)] w).bind fun r0 => (bif decide (¬ r0.1 = 59) then (q_X12_readsAll_66 x1 r0.2) else (q_X12_readsAll_48 r0.2))) := (ev_eq _ _ _).trans rfl
theorem e_X12_readsAll_48 (w : XW) : q_X12_readsAll_48 w = ((F_X12_clauseHere [.inr (11, 0)] (sI w 11 0 8 ((gI w 11 0 8) + 1))).bind fun r0 => (q_X12_readsAll_35 r0.1 r0.2)) := (ev_eq _ _ _).trans rfl
theorem e_X12_readsAll_66 (x1 : Int32) (w : XW) : q_X12_readsAll_66 x1 w = (bif decide (x1 = 0) then (q_X12_readsAll_88 w) else (q_X12_readsAll_70 w)) := (ev_eq _ _ _).trans rfl
theorem e_X12_readsAll_70 (w : XW) : q_X12_readsAll_70 w = ((F_X12_see [.inr (11, 0)] w).bind fun r0 => (bif decide (r0.1 = (-1)) then (q_X12_readsAll_88 r0.2) else (q_X12_readsAll_78 r0.2))) := (ev_eq _ _ _).trans rfl
theorem e_X12_readsAll_78 (w : XW) : q_X12_readsAll_78 w = ((F_X12_fails [.inr (11, 0), .inl (.int 0), .inl (.int (gI w 11 0 8))] w).bind fun r0 => (q_X12_readsAll_88 r0.2)) := (ev_eq _ _ _).trans rfl
theorem e_X12_readsAll_88 (w : XW) : q_X12_readsAll_88 w = (bif decide (¬ (gI (sI w 11 0 1 0) 11 0 9) = 0) then (q_X12_readsAll_104 (sI w 11 0 1 0)) else (q_X12_readsAll_100 (sI w 11 0 1 0))) := (ev_eq _ _ _).trans rfl
theorem e_X12_readsAll_100 (w : XW) : q_X12_readsAll_100 w = (q_X12_readsAll_105 1 w) := (ev_eq _ _ _).trans rfl
theorem e_X12_readsAll_104 (w : XW) : q_X12_readsAll_104 w = (q_X12_readsAll_105 0 w) := (ev_eq _ _ _).trans rfl
theorem e_X12_readsAll_105 (s0 : Int32) (w : XW) : q_X12_readsAll_105 s0 w = (if s0 = 0 ∨ s0 = 1 then some (some (.inl (.int s0)), w) else none) := (ev_eq _ _ _).trans rfl
theorem f_X12_readsAll (w : XW) : F_X12_readsAll [.inr (11, 0)] w = (q_X12_readsAll_0 w).bind pI := rfl
