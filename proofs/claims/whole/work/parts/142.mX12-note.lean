-- WinterKeepModel.note(III)I
theorem dX12_note_0 : decode cX12_note 0 = .ok (.iload_n 1, 1) := by decide +kernel
theorem dX12_note_1 : decode cX12_note 1 = .ok (.iconst (-1), 1) := by decide +kernel
theorem dX12_note_2 : decode cX12_note 2 = .ok (.if_icmp .ne 13, 3) := by decide +kernel
theorem dX12_note_5 : decode cX12_note 5 = .ok (.aload_n 0, 1) := by decide +kernel
theorem dX12_note_6 : decode cX12_note 6 = .ok (.getfield 39, 3) := by decide +kernel
theorem dX12_note_9 : decode cX12_note 9 = .ok (.bipush 97, 2) := by decide +kernel
theorem dX12_note_11 : decode cX12_note 11 = .ok (.iconst 0, 1) := by decide +kernel
theorem dX12_note_12 : decode cX12_note 12 = .ok (.iastore, 1) := by decide +kernel
theorem dX12_note_13 : decode cX12_note 13 = .ok (.iconst 0, 1) := by decide +kernel
theorem dX12_note_14 : decode cX12_note 14 = .ok (.ireturn, 1) := by decide +kernel
theorem dX12_note_15 : decode cX12_note 15 = .ok (.iload_n 1, 1) := by decide +kernel
theorem dX12_note_16 : decode cX12_note 16 = .ok (.i2l, 1) := by decide +kernel
theorem dX12_note_17 : decode cX12_note 17 = .ok (.lconst 0, 1) := by decide +kernel
theorem dX12_note_18 : decode cX12_note 18 = .ok (.ldc2_w 402, 3) := by decide +kernel
theorem dX12_note_21 : decode cX12_note 21 = .ok (.invokestatic 133, 3) := by decide +kernel
theorem dX12_note_24 : decode cX12_note 24 = .ok (.ifCond .eq 35, 3) := by decide +kernel
theorem dX12_note_27 : decode cX12_note 27 = .ok (.aload_n 0, 1) := by decide +kernel
theorem dX12_note_28 : decode cX12_note 28 = .ok (.iload_n 2, 1) := by decide +kernel
theorem dX12_note_29 : decode cX12_note 29 = .ok (.invokevirtual 298, 3) := by decide +kernel
theorem dX12_note_32 : decode cX12_note 32 = .ok (.ifCond .eq 27, 3) := by decide +kernel
theorem dX12_note_35 : decode cX12_note 35 = .ok (.iload_n 3, 1) := by decide +kernel
theorem dX12_note_36 : decode cX12_note 36 = .ok (.i2l, 1) := by decide +kernel
theorem dX12_note_37 : decode cX12_note 37 = .ok (.lconst 0, 1) := by decide +kernel
theorem dX12_note_38 : decode cX12_note 38 = .ok (.ldc2_w 402, 3) := by decide +kernel
theorem dX12_note_41 : decode cX12_note 41 = .ok (.invokestatic 133, 3) := by decide +kernel
theorem dX12_note_44 : decode cX12_note 44 = .ok (.ifCond .eq 15, 3) := by decide +kernel
theorem dX12_note_47 : decode cX12_note 47 = .ok (.aload_n 0, 1) := by decide +kernel
theorem dX12_note_48 : decode cX12_note 48 = .ok (.getfield 39, 3) := by decide +kernel
theorem dX12_note_51 : decode cX12_note 51 = .ok (.bipush 97, 2) := by decide +kernel
theorem dX12_note_53 : decode cX12_note 53 = .ok (.iaload, 1) := by decide +kernel
theorem dX12_note_54 : decode cX12_note 54 = .ok (.bipush 10, 2) := by decide +kernel
theorem dX12_note_56 : decode cX12_note 56 = .ok (.if_icmp .ne 6, 3) := by decide +kernel
theorem dX12_note_59 : decode cX12_note 59 = .ok (.bipush (-2), 2) := by decide +kernel
theorem dX12_note_61 : decode cX12_note 61 = .ok (.ireturn, 1) := by decide +kernel
theorem dX12_note_62 : decode cX12_note 62 = .ok (.bipush 67, 2) := by decide +kernel
theorem dX12_note_64 : decode cX12_note 64 = .ok (.iconst 3, 1) := by decide +kernel
theorem dX12_note_65 : decode cX12_note 65 = .ok (.aload_n 0, 1) := by decide +kernel
theorem dX12_note_66 : decode cX12_note 66 = .ok (.getfield 39, 3) := by decide +kernel
theorem dX12_note_69 : decode cX12_note 69 = .ok (.bipush 97, 2) := by decide +kernel
theorem dX12_note_71 : decode cX12_note 71 = .ok (.iaload, 1) := by decide +kernel
theorem dX12_note_72 : decode cX12_note 72 = .ok (.imul, 1) := by decide +kernel
theorem dX12_note_73 : decode cX12_note 73 = .ok (.iadd, 1) := by decide +kernel
theorem dX12_note_74 : decode cX12_note 74 = .ok (.istore 4, 2) := by decide +kernel
theorem dX12_note_76 : decode cX12_note 76 = .ok (.aload_n 0, 1) := by decide +kernel
theorem dX12_note_77 : decode cX12_note 77 = .ok (.getfield 39, 3) := by decide +kernel
theorem dX12_note_80 : decode cX12_note 80 = .ok (.iload 4, 2) := by decide +kernel
theorem dX12_note_82 : decode cX12_note 82 = .ok (.iload_n 1, 1) := by decide +kernel
theorem dX12_note_83 : decode cX12_note 83 = .ok (.iastore, 1) := by decide +kernel
theorem dX12_note_84 : decode cX12_note 84 = .ok (.aload_n 0, 1) := by decide +kernel
theorem dX12_note_85 : decode cX12_note 85 = .ok (.getfield 39, 3) := by decide +kernel
theorem dX12_note_88 : decode cX12_note 88 = .ok (.iload 4, 2) := by decide +kernel
theorem dX12_note_90 : decode cX12_note 90 = .ok (.iconst 1, 1) := by decide +kernel
theorem dX12_note_91 : decode cX12_note 91 = .ok (.iadd, 1) := by decide +kernel
theorem dX12_note_92 : decode cX12_note 92 = .ok (.iload_n 2, 1) := by decide +kernel
theorem dX12_note_93 : decode cX12_note 93 = .ok (.iastore, 1) := by decide +kernel
theorem dX12_note_94 : decode cX12_note 94 = .ok (.aload_n 0, 1) := by decide +kernel
theorem dX12_note_95 : decode cX12_note 95 = .ok (.getfield 39, 3) := by decide +kernel
theorem dX12_note_98 : decode cX12_note 98 = .ok (.iload 4, 2) := by decide +kernel
theorem dX12_note_100 : decode cX12_note 100 = .ok (.iconst 2, 1) := by decide +kernel
theorem dX12_note_101 : decode cX12_note 101 = .ok (.iadd, 1) := by decide +kernel
theorem dX12_note_102 : decode cX12_note 102 = .ok (.iload_n 3, 1) := by decide +kernel
theorem dX12_note_103 : decode cX12_note 103 = .ok (.iastore, 1) := by decide +kernel
theorem dX12_note_104 : decode cX12_note 104 = .ok (.aload_n 0, 1) := by decide +kernel
theorem dX12_note_105 : decode cX12_note 105 = .ok (.getfield 39, 3) := by decide +kernel
theorem dX12_note_108 : decode cX12_note 108 = .ok (.bipush 97, 2) := by decide +kernel
theorem dX12_note_110 : decode cX12_note 110 = .ok (.dup2, 1) := by decide +kernel
theorem dX12_note_111 : decode cX12_note 111 = .ok (.iaload, 1) := by decide +kernel
theorem dX12_note_112 : decode cX12_note 112 = .ok (.iconst 1, 1) := by decide +kernel
theorem dX12_note_113 : decode cX12_note 113 = .ok (.iadd, 1) := by decide +kernel
theorem dX12_note_114 : decode cX12_note 114 = .ok (.iastore, 1) := by decide +kernel
theorem dX12_note_115 : decode cX12_note 115 = .ok (.aload_n 0, 1) := by decide +kernel
theorem dX12_note_116 : decode cX12_note 116 = .ok (.getfield 39, 3) := by decide +kernel
theorem dX12_note_119 : decode cX12_note 119 = .ok (.bipush 97, 2) := by decide +kernel
theorem dX12_note_121 : decode cX12_note 121 = .ok (.iaload, 1) := by decide +kernel
theorem dX12_note_122 : decode cX12_note 122 = .ok (.ireturn, 1) := by decide +kernel
noncomputable def bs_X12_note : List (Nat × XB) := [
  (0, (sq (xLI 1) (sq (xC (.int (-1))) (tIf2 (fun x y => decide (¬ x = y)) 15 [true, true, true, true, false] 5 [true, false, false, false, false])))),
  (5, (sq (xLA 0) (sq (xGS 11 50 1 0) (sq (xC (.int 97)) (sq (xC (.int 0)) (sq (xTI 50 98 (fun x => x)) (sq (xC (.int 0)) tRI))))))),
  (15, (sq (xLI 1) (sq (xI2L) (sq (xC (.long 0)) (sq (xC (.long 60)) (sq (xCI 99 3 F_X12_in) (tIf1 (fun x => decide (x = 0)) 59 [false, false, false, false, false] 27 [true, true, true, true, false]))))))),
  (27, (sq (xLA 0) (sq (xLI 2) (sq (xCI 11 2 F_X12_isKeep) (tIf1 (fun x => decide (x = 0)) 59 [false, false, false, false, false] 35 [true, true, true, true, false]))))),
  (35, (sq (xLI 3) (sq (xI2L) (sq (xC (.long 0)) (sq (xC (.long 60)) (sq (xCI 99 3 F_X12_in) (tIf1 (fun x => decide (x = 0)) 59 [false, false, false, false, false] 47 [true, true, true, true, false]))))))),
  (47, (sq (xLA 0) (sq (xGS 11 50 1 0) (sq (xC (.int 97)) (sq (xAI 50 98) (sq (xC (.int 10)) (tIf2 (fun x y => decide (¬ x = y)) 62 [true, true, true, true, false] 59 [false, false, false, false, false]))))))),
  (59, (sq (xC (.int (-2))) tRI)),
  (62, (sq (xC (.int 67)) (sq (xC (.int 3)) (sq (xLA 0) (sq (xGS 11 50 1 0) (sq (xC (.int 97)) (sq (xAI 50 98) (sq (xI2 (· * ·)) (sq (xI2 (· + ·)) (sq (xSI 4) (sq (xLA 0) (sq (xGS 11 50 1 0) (sq (xLI 4) (sq (xLI 1) (sq (xTI 50 98 (fun x => x)) (sq (xLA 0) (sq (xGS 11 50 1 0) (sq (xLI 4) (sq (xC (.int 1)) (sq (xI2 (· + ·)) (sq (xLI 2) (sq (xTI 50 98 (fun x => x)) (sq (xLA 0) (sq (xGS 11 50 1 0) (sq (xLI 4) (sq (xC (.int 2)) (sq (xI2 (· + ·)) (sq (xLI 3) (sq (xTI 50 98 (fun x => x)) (sq (xLA 0) (sq (xGS 11 50 1 0) (sq (xC (.int 97)) (sq (xDup2) (sq (xAI 50 98) (sq (xC (.int 1)) (sq (xI2 (· + ·)) (sq (xTI 50 98 (fun x => x)) (sq (xLA 0) (sq (xGS 11 50 1 0) (sq (xC (.int 97)) (sq (xAI 50 98) tRI)))))))))))))))))))))))))))))))))))))))))]
set_option maxRecDepth 100000 in
set_option maxHeartbeats 4000000 in
theorem s_X12_note : ∀ X : XCtx, XE X → X.2.2.1.1 = cX12_note → X.2.2.1.2.1 = 5 → X.2.2.1.2.2.1 = yX12_note.cls → X.2.2.1.2.2.2.1 = (some .int) → X.1.2.2.2.1 = { frames := 1, cells := 0, slots := 0, locals := 25 } → SndBs X bs_X12_note := by
  rintro ⟨⟨p, l, e, R, s⟩, Y, ⟨cc, nL, own, ret, Ts⟩, Z⟩ hE h1 h2 h3 h4 h5
  dsimp only at h1 h2 h3 h4 h5
  subst h1 h2 h3 h4 h5
  exact ⟨(n_sq (n_iload_n hE dX12_note_0) (n_sq (n_iconst hE (by decide) dX12_note_1) (n_ifcne hE (by decide) dX12_note_2))),
    (n_sq (n_aload_n hE dX12_note_5) (n_sq (n_getS hE xk_11 (k := 20) rfl (by decide) rfl wt_980 dX12_note_6) (n_sq (n_bipush hE (by decide) dX12_note_9) (n_sq (n_iconst hE (by decide) dX12_note_11) (n_sq (n_iast hE rfl (by decide) dX12_note_12) (n_sq (n_iconst hE (by decide) dX12_note_13) (n_ireturn hE rfl dX12_note_14))))))),
    (n_sq (n_iload_n hE dX12_note_15) (n_sq (n_i2l hE dX12_note_16) (n_sq (n_lconst hE (by decide) dX12_note_17) (n_sq (n_ldc2 hE wt_1468 dX12_note_18) (n_sq (n_cIs hE m_X12_in vc_X12_133 (show 0 + 1 ≤ 1 ∧ 8 + (6 + 11) + 0 ≤ 25 by decide) dX12_note_21) (n_ifeq hE (by decide) dX12_note_24)))))),
    (n_sq (n_aload_n hE dX12_note_27) (n_sq (n_iload_n hE dX12_note_28) (n_sq (n_cIv hE m_X12_isKeep vc_X12_298 (show 0 + 1 ≤ 1 ∧ 8 + (2 + 11) + 0 ≤ 25 by decide) dX12_note_29) (n_ifeq hE (by decide) dX12_note_32)))),
    (n_sq (n_iload_n hE dX12_note_35) (n_sq (n_i2l hE dX12_note_36) (n_sq (n_lconst hE (by decide) dX12_note_37) (n_sq (n_ldc2 hE wt_1468 dX12_note_38) (n_sq (n_cIs hE m_X12_in vc_X12_133 (show 0 + 1 ≤ 1 ∧ 8 + (6 + 11) + 0 ≤ 25 by decide) dX12_note_41) (n_ifeq hE (by decide) dX12_note_44)))))),
    (n_sq (n_aload_n hE dX12_note_47) (n_sq (n_getS hE xk_11 (k := 20) rfl (by decide) rfl wt_980 dX12_note_48) (n_sq (n_bipush hE (by decide) dX12_note_51) (n_sq (n_iald hE rfl (by decide) dX12_note_53) (n_sq (n_bipush hE (by decide) dX12_note_54) (n_ifcne hE (by decide) dX12_note_56)))))),
    (n_sq (n_bipush hE (by decide) dX12_note_59) (n_ireturn hE rfl dX12_note_61)),
    (n_sq (n_bipush hE (by decide) dX12_note_62) (n_sq (n_iconst hE (by decide) dX12_note_64) (n_sq (n_aload_n hE dX12_note_65) (n_sq (n_getS hE xk_11 (k := 20) rfl (by decide) rfl wt_980 dX12_note_66) (n_sq (n_bipush hE (by decide) dX12_note_69) (n_sq (n_iald hE rfl (by decide) dX12_note_71) (n_sq (n_imul hE dX12_note_72) (n_sq (n_iadd hE dX12_note_73) (n_sq (n_istore hE (show (4 : Nat) < 5 by decide) dX12_note_74) (n_sq (n_aload_n hE dX12_note_76) (n_sq (n_getS hE xk_11 (k := 20) rfl (by decide) rfl wt_980 dX12_note_77) (n_sq (n_iload hE dX12_note_80) (n_sq (n_iload_n hE dX12_note_82) (n_sq (n_iast hE rfl (by decide) dX12_note_83) (n_sq (n_aload_n hE dX12_note_84) (n_sq (n_getS hE xk_11 (k := 20) rfl (by decide) rfl wt_980 dX12_note_85) (n_sq (n_iload hE dX12_note_88) (n_sq (n_iconst hE (by decide) dX12_note_90) (n_sq (n_iadd hE dX12_note_91) (n_sq (n_iload_n hE dX12_note_92) (n_sq (n_iast hE rfl (by decide) dX12_note_93) (n_sq (n_aload_n hE dX12_note_94) (n_sq (n_getS hE xk_11 (k := 20) rfl (by decide) rfl wt_980 dX12_note_95) (n_sq (n_iload hE dX12_note_98) (n_sq (n_iconst hE (by decide) dX12_note_100) (n_sq (n_iadd hE dX12_note_101) (n_sq (n_iload_n hE dX12_note_102) (n_sq (n_iast hE rfl (by decide) dX12_note_103) (n_sq (n_aload_n hE dX12_note_104) (n_sq (n_getS hE xk_11 (k := 20) rfl (by decide) rfl wt_980 dX12_note_105) (n_sq (n_bipush hE (by decide) dX12_note_108) (n_sq (n_dup2 hE dX12_note_110) (n_sq (n_iald hE rfl (by decide) dX12_note_111) (n_sq (n_iconst hE (by decide) dX12_note_112) (n_sq (n_iadd hE dX12_note_113) (n_sq (n_iast hE rfl (by decide) dX12_note_114) (n_sq (n_aload_n hE dX12_note_115) (n_sq (n_getS hE xk_11 (k := 20) rfl (by decide) rfl wt_980 dX12_note_116) (n_sq (n_bipush hE (by decide) dX12_note_119) (n_sq (n_iald hE rfl (by decide) dX12_note_121) (n_ireturn hE rfl dX12_note_122))))))))))))))))))))))))))))))))))))))))), trivial⟩
noncomputable def F_X12_note (as : List XV) (w : XW) : Option (Int32 × XW) := (xF 5 bs_X12_note as w).bind pI
theorem m_X12_note : XM yX12_note cX12_note 5 (some .int) 1 25 (eI F_X12_note) := xm_I (xm_of (by decide) s_X12_note)
noncomputable def q_X12_note_0 (x1 : Int32) (x2 : Int32) (x3 : Int32) (w : XW) : Option XR := ev bs_X12_note 0 ([some (.inr (11, 0)), some (.inl (.int x1)), some (.inl (.int x2)), some (.inl (.int x3)), none], [], w)
noncomputable def q_X12_note_5 (w : XW) : Option XR := ev bs_X12_note 5 ([some (.inr (11, 0)), none, none, none, none], [], w)
noncomputable def q_X12_note_15 (x1 : Int32) (x2 : Int32) (x3 : Int32) (w : XW) : Option XR := ev bs_X12_note 15 ([some (.inr (11, 0)), some (.inl (.int x1)), some (.inl (.int x2)), some (.inl (.int x3)), none], [], w)
noncomputable def q_X12_note_27 (x1 : Int32) (x2 : Int32) (x3 : Int32) (w : XW) : Option XR := ev bs_X12_note 27 ([some (.inr (11, 0)), some (.inl (.int x1)), some (.inl (.int x2)), some (.inl (.int x3)), none], [], w)
noncomputable def q_X12_note_35 (x1 : Int32) (x2 : Int32) (x3 : Int32) (w : XW) : Option XR := ev bs_X12_note 35 ([some (.inr (11, 0)), some (.inl (.int x1)), some (.inl (.int x2)), some (.inl (.int x3)), none], [], w)
noncomputable def q_X12_note_47 (x1 : Int32) (x2 : Int32) (x3 : Int32) (w : XW) : Option XR := ev bs_X12_note 47 ([some (.inr (11, 0)), some (.inl (.int x1)), some (.inl (.int x2)), some (.inl (.int x3)), none], [], w)
noncomputable def q_X12_note_59 (w : XW) : Option XR := ev bs_X12_note 59 ([none, none, none, none, none], [], w)
noncomputable def q_X12_note_62 (x1 : Int32) (x2 : Int32) (x3 : Int32) (w : XW) : Option XR := ev bs_X12_note 62 ([some (.inr (11, 0)), some (.inl (.int x1)), some (.inl (.int x2)), some (.inl (.int x3)), none], [], w)
set_option maxRecDepth 100000 in
theorem e_X12_note_0 (x1 : Int32) (x2 : Int32) (x3 : Int32) (w : XW) : q_X12_note_0 x1 x2 x3 w = (bif decide (¬ x1 = (-1)) then (q_X12_note_15 x1 x2 x3 w) else (q_X12_note_5 w)) := (ev_eq _ _ _).trans rfl
set_option maxRecDepth 100000 in
theorem e_X12_note_5 (w : XW) : q_X12_note_5 w = (some (some (.inl (.int 0)), sI w 50 0 97 0)) := (ev_eq _ _ _).trans rfl
set_option maxRecDepth 100000 in
theorem e_X12_note_15 (x1 : Int32) (x2 : Int32) (x3 : Int32) (w : XW) : q_X12_note_15 x1 x2 x3 w = ((F_X12_in [.inl (.long (x1 : Int32).toInt64), .inl (.long 0), .inl (.long 60)] w).bind fun r0 => (bif decide (r0.1 = 0) then (q_X12_note_59 r0.2) else (q_X12_note_27 x1 x2 x3 r0.2))) := (ev_eq _ _ _).trans rfl
set_option maxRecDepth 100000 in
theorem e_X12_note_27 (x1 : Int32) (x2 : Int32) (x3 : Int32) (w : XW) : q_X12_note_27 x1 x2 x3 w = ((F_X12_isKeep [.inr (11, 0), .inl (.int x2)] w).bind fun r0 => (bif decide (r0.1 = 0) then (q_X12_note_59 r0.2) else (q_X12_note_35 x1 x2 x3 r0.2))) := (ev_eq _ _ _).trans rfl
set_option maxRecDepth 100000 in
theorem e_X12_note_35 (x1 : Int32) (x2 : Int32) (x3 : Int32) (w : XW) : q_X12_note_35 x1 x2 x3 w = ((F_X12_in [.inl (.long (x3 : Int32).toInt64), .inl (.long 0), .inl (.long 60)] w).bind fun r0 => (bif decide (r0.1 = 0) then (q_X12_note_59 r0.2) else (q_X12_note_47 x1 x2 x3 r0.2))) := (ev_eq _ _ _).trans rfl
set_option maxRecDepth 100000 in
theorem e_X12_note_47 (x1 : Int32) (x2 : Int32) (x3 : Int32) (w : XW) : q_X12_note_47 x1 x2 x3 w = (bif decide (¬ (gI w 50 0 97) = 10) then (q_X12_note_62 x1 x2 x3 w) else (q_X12_note_59 w)) := (ev_eq _ _ _).trans rfl
set_option maxRecDepth 100000 in
theorem e_X12_note_59 (w : XW) : q_X12_note_59 w = (some (some (.inl (.int (-2))), w)) := (ev_eq _ _ _).trans rfl
set_option maxRecDepth 100000 in
theorem e_X12_note_62 (x1 : Int32) (x2 : Int32) (x3 : Int32) (w : XW) : q_X12_note_62 x1 x2 x3 w = (if (67 + (3 * (gI w 50 0 97))) < 0 ∨ 98 ≤ (67 + (3 * (gI w 50 0 97))).toNatClampNeg then none else (if ((67 + (3 * (gI w 50 0 97))) + 1) < 0 ∨ 98 ≤ ((67 + (3 * (gI w 50 0 97))) + 1).toNatClampNeg then none else (if ((67 + (3 * (gI w 50 0 97))) + 2) < 0 ∨ 98 ≤ ((67 + (3 * (gI w 50 0 97))) + 2).toNatClampNeg then none else (some (some (.inl (.int (gI (sI (sI (sI (sI w 50 0 ((67 + (3 * (gI w 50 0 97))).toNatClampNeg) x1) 50 0 (((67 + (3 * (gI w 50 0 97))) + 1).toNatClampNeg) x2) 50 0 (((67 + (3 * (gI w 50 0 97))) + 2).toNatClampNeg) x3) 50 0 97 ((gI (sI (sI (sI w 50 0 ((67 + (3 * (gI w 50 0 97))).toNatClampNeg) x1) 50 0 (((67 + (3 * (gI w 50 0 97))) + 1).toNatClampNeg) x2) 50 0 (((67 + (3 * (gI w 50 0 97))) + 2).toNatClampNeg) x3) 50 0 97) + 1)) 50 0 97))), sI (sI (sI (sI w 50 0 ((67 + (3 * (gI w 50 0 97))).toNatClampNeg) x1) 50 0 (((67 + (3 * (gI w 50 0 97))) + 1).toNatClampNeg) x2) 50 0 (((67 + (3 * (gI w 50 0 97))) + 2).toNatClampNeg) x3) 50 0 97 ((gI (sI (sI (sI w 50 0 ((67 + (3 * (gI w 50 0 97))).toNatClampNeg) x1) 50 0 (((67 + (3 * (gI w 50 0 97))) + 1).toNatClampNeg) x2) 50 0 (((67 + (3 * (gI w 50 0 97))) + 2).toNatClampNeg) x3) 50 0 97) + 1)))))) := (ev_eq _ _ _).trans rfl
theorem f_X12_note (x1 : Int32) (x2 : Int32) (x3 : Int32) (w : XW) : F_X12_note [.inr (11, 0), .inl (.int x1), .inl (.int x2), .inl (.int x3)] w = (q_X12_note_0 x1 x2 x3 w).bind pI := rfl

-- WinterKeepModel.areNotesSo(I)Z
theorem dX12_areNotesSo_0 : decode cX12_areNotesSo 0 = .ok (.iconst 0, 1) := by decide +kernel
theorem dX12_areNotesSo_1 : decode cX12_areNotesSo 1 = .ok (.istore_n 2, 1) := by decide +kernel
theorem dX12_areNotesSo_2 : decode cX12_areNotesSo 2 = .ok (.iload_n 2, 1) := by decide +kernel
theorem dX12_areNotesSo_3 : decode cX12_areNotesSo 3 = .ok (.iconst 3, 1) := by decide +kernel
theorem dX12_areNotesSo_4 : decode cX12_areNotesSo 4 = .ok (.aload_n 0, 1) := by decide +kernel
theorem dX12_areNotesSo_5 : decode cX12_areNotesSo 5 = .ok (.getfield 39, 3) := by decide +kernel
theorem dX12_areNotesSo_8 : decode cX12_areNotesSo 8 = .ok (.bipush 97, 2) := by decide +kernel
theorem dX12_areNotesSo_10 : decode cX12_areNotesSo 10 = .ok (.iaload, 1) := by decide +kernel
theorem dX12_areNotesSo_11 : decode cX12_areNotesSo 11 = .ok (.imul, 1) := by decide +kernel
theorem dX12_areNotesSo_12 : decode cX12_areNotesSo 12 = .ok (.if_icmp .ge 53, 3) := by decide +kernel
theorem dX12_areNotesSo_15 : decode cX12_areNotesSo 15 = .ok (.aload_n 0, 1) := by decide +kernel
theorem dX12_areNotesSo_16 : decode cX12_areNotesSo 16 = .ok (.getfield 39, 3) := by decide +kernel
theorem dX12_areNotesSo_19 : decode cX12_areNotesSo 19 = .ok (.bipush 67, 2) := by decide +kernel
theorem dX12_areNotesSo_21 : decode cX12_areNotesSo 21 = .ok (.iload_n 2, 1) := by decide +kernel
theorem dX12_areNotesSo_22 : decode cX12_areNotesSo 22 = .ok (.iadd, 1) := by decide +kernel
theorem dX12_areNotesSo_23 : decode cX12_areNotesSo 23 = .ok (.iaload, 1) := by decide +kernel
theorem dX12_areNotesSo_24 : decode cX12_areNotesSo 24 = .ok (.iload_n 1, 1) := by decide +kernel
theorem dX12_areNotesSo_25 : decode cX12_areNotesSo 25 = .ok (.if_icmp .ne 34, 3) := by decide +kernel
theorem dX12_areNotesSo_28 : decode cX12_areNotesSo 28 = .ok (.aload_n 0, 1) := by decide +kernel
theorem dX12_areNotesSo_29 : decode cX12_areNotesSo 29 = .ok (.aload_n 0, 1) := by decide +kernel
theorem dX12_areNotesSo_30 : decode cX12_areNotesSo 30 = .ok (.getfield 39, 3) := by decide +kernel
theorem dX12_areNotesSo_33 : decode cX12_areNotesSo 33 = .ok (.bipush 67, 2) := by decide +kernel
theorem dX12_areNotesSo_35 : decode cX12_areNotesSo 35 = .ok (.iload_n 2, 1) := by decide +kernel
theorem dX12_areNotesSo_36 : decode cX12_areNotesSo 36 = .ok (.iadd, 1) := by decide +kernel
theorem dX12_areNotesSo_37 : decode cX12_areNotesSo 37 = .ok (.iconst 1, 1) := by decide +kernel
theorem dX12_areNotesSo_38 : decode cX12_areNotesSo 38 = .ok (.iadd, 1) := by decide +kernel
theorem dX12_areNotesSo_39 : decode cX12_areNotesSo 39 = .ok (.iaload, 1) := by decide +kernel
theorem dX12_areNotesSo_40 : decode cX12_areNotesSo 40 = .ok (.invokevirtual 304, 3) := by decide +kernel
theorem dX12_areNotesSo_43 : decode cX12_areNotesSo 43 = .ok (.aload_n 0, 1) := by decide +kernel
theorem dX12_areNotesSo_44 : decode cX12_areNotesSo 44 = .ok (.getfield 39, 3) := by decide +kernel
theorem dX12_areNotesSo_47 : decode cX12_areNotesSo 47 = .ok (.bipush 67, 2) := by decide +kernel
theorem dX12_areNotesSo_49 : decode cX12_areNotesSo 49 = .ok (.iload_n 2, 1) := by decide +kernel
theorem dX12_areNotesSo_50 : decode cX12_areNotesSo 50 = .ok (.iadd, 1) := by decide +kernel
theorem dX12_areNotesSo_51 : decode cX12_areNotesSo 51 = .ok (.iconst 2, 1) := by decide +kernel
theorem dX12_areNotesSo_52 : decode cX12_areNotesSo 52 = .ok (.iadd, 1) := by decide +kernel
theorem dX12_areNotesSo_53 : decode cX12_areNotesSo 53 = .ok (.iaload, 1) := by decide +kernel
theorem dX12_areNotesSo_54 : decode cX12_areNotesSo 54 = .ok (.if_icmp .eq 5, 3) := by decide +kernel
theorem dX12_areNotesSo_57 : decode cX12_areNotesSo 57 = .ok (.iconst 0, 1) := by decide +kernel
theorem dX12_areNotesSo_58 : decode cX12_areNotesSo 58 = .ok (.ireturn, 1) := by decide +kernel
theorem dX12_areNotesSo_59 : decode cX12_areNotesSo 59 = .ok (.iinc 2 3, 3) := by decide +kernel
theorem dX12_areNotesSo_62 : decode cX12_areNotesSo 62 = .ok (.goto (-60), 3) := by decide +kernel
theorem dX12_areNotesSo_65 : decode cX12_areNotesSo 65 = .ok (.iconst 1, 1) := by decide +kernel
theorem dX12_areNotesSo_66 : decode cX12_areNotesSo 66 = .ok (.ireturn, 1) := by decide +kernel
noncomputable def bs_X12_areNotesSo : List (Nat × XB) := [
  (0, (sq (xC (.int 0)) (sq (xSI 2) (tGo 2 [true, true, true])))),
  (2, (sq (xLI 2) (sq (xC (.int 3)) (sq (xLA 0) (sq (xGS 11 50 1 0) (sq (xC (.int 97)) (sq (xAI 50 98) (sq (xI2 (· * ·)) (tIf2 (fun x y => decide (y ≤ x)) 65 [false, false, false] 15 [true, true, true]))))))))),
  (15, (sq (xLA 0) (sq (xGS 11 50 1 0) (sq (xC (.int 67)) (sq (xLI 2) (sq (xI2 (· + ·)) (sq (xAI 50 98) (sq (xLI 1) (tIf2 (fun x y => decide (¬ x = y)) 59 [true, true, true] 28 [true, true, true]))))))))),
  (28, (sq (xLA 0) (sq (xLA 0) (sq (xGS 11 50 1 0) (sq (xC (.int 67)) (sq (xLI 2) (sq (xI2 (· + ·)) (sq (xC (.int 1)) (sq (xI2 (· + ·)) (sq (xAI 50 98) (sq (xCI 11 2 F_X12_fullOf) (sq (xLA 0) (sq (xGS 11 50 1 0) (sq (xC (.int 67)) (sq (xLI 2) (sq (xI2 (· + ·)) (sq (xC (.int 2)) (sq (xI2 (· + ·)) (sq (xAI 50 98) (tIf2 (fun x y => decide (x = y)) 59 [true, true, true] 57 [false, false, false])))))))))))))))))))),
  (57, (sq (xC (.int 0)) tRZ)),
  (59, (sq (xInc 2 3) (tGo 2 [true, true, true]))),
  (65, (sq (xC (.int 1)) tRZ))]
set_option maxRecDepth 100000 in
set_option maxHeartbeats 4000000 in
theorem s_X12_areNotesSo : ∀ X : XCtx, XE X → X.2.2.1.1 = cX12_areNotesSo → X.2.2.1.2.1 = 3 → X.2.2.1.2.2.1 = yX12_areNotesSo.cls → X.2.2.1.2.2.2.1 = (some .boolean) → X.1.2.2.2.1 = { frames := 1, cells := 0, slots := 0, locals := 21 } → SndBs X bs_X12_areNotesSo := by
  rintro ⟨⟨p, l, e, R, s⟩, Y, ⟨cc, nL, own, ret, Ts⟩, Z⟩ hE h1 h2 h3 h4 h5
  dsimp only at h1 h2 h3 h4 h5
  subst h1 h2 h3 h4 h5
  exact ⟨(n_sq (n_iconst hE (by decide) dX12_areNotesSo_0) (n_sq (n_istore_n hE (show (2 : Nat) < 3 by decide) dX12_areNotesSo_1) n_fall)),
    (n_sq (n_iload_n hE dX12_areNotesSo_2) (n_sq (n_iconst hE (by decide) dX12_areNotesSo_3) (n_sq (n_aload_n hE dX12_areNotesSo_4) (n_sq (n_getS hE xk_11 (k := 20) rfl (by decide) rfl wt_980 dX12_areNotesSo_5) (n_sq (n_bipush hE (by decide) dX12_areNotesSo_8) (n_sq (n_iald hE rfl (by decide) dX12_areNotesSo_10) (n_sq (n_imul hE dX12_areNotesSo_11) (n_ifcge hE (by decide) dX12_areNotesSo_12)))))))),
    (n_sq (n_aload_n hE dX12_areNotesSo_15) (n_sq (n_getS hE xk_11 (k := 20) rfl (by decide) rfl wt_980 dX12_areNotesSo_16) (n_sq (n_bipush hE (by decide) dX12_areNotesSo_19) (n_sq (n_iload_n hE dX12_areNotesSo_21) (n_sq (n_iadd hE dX12_areNotesSo_22) (n_sq (n_iald hE rfl (by decide) dX12_areNotesSo_23) (n_sq (n_iload_n hE dX12_areNotesSo_24) (n_ifcne hE (by decide) dX12_areNotesSo_25)))))))),
    (n_sq (n_aload_n hE dX12_areNotesSo_28) (n_sq (n_aload_n hE dX12_areNotesSo_29) (n_sq (n_getS hE xk_11 (k := 20) rfl (by decide) rfl wt_980 dX12_areNotesSo_30) (n_sq (n_bipush hE (by decide) dX12_areNotesSo_33) (n_sq (n_iload_n hE dX12_areNotesSo_35) (n_sq (n_iadd hE dX12_areNotesSo_36) (n_sq (n_iconst hE (by decide) dX12_areNotesSo_37) (n_sq (n_iadd hE dX12_areNotesSo_38) (n_sq (n_iald hE rfl (by decide) dX12_areNotesSo_39) (n_sq (n_cIv hE m_X12_fullOf vc_X12_304 (show 0 + 1 ≤ 1 ∧ 8 + (2 + 11) + 0 ≤ 21 by decide) dX12_areNotesSo_40) (n_sq (n_aload_n hE dX12_areNotesSo_43) (n_sq (n_getS hE xk_11 (k := 20) rfl (by decide) rfl wt_980 dX12_areNotesSo_44) (n_sq (n_bipush hE (by decide) dX12_areNotesSo_47) (n_sq (n_iload_n hE dX12_areNotesSo_49) (n_sq (n_iadd hE dX12_areNotesSo_50) (n_sq (n_iconst hE (by decide) dX12_areNotesSo_51) (n_sq (n_iadd hE dX12_areNotesSo_52) (n_sq (n_iald hE rfl (by decide) dX12_areNotesSo_53) (n_ifceq hE (by decide) dX12_areNotesSo_54))))))))))))))))))),
    (n_sq (n_iconst hE (by decide) dX12_areNotesSo_57) (n_zreturn hE rfl dX12_areNotesSo_58)),
    (n_sq (n_iinc hE (by decide) (show (2 : Nat) < 3 by decide) dX12_areNotesSo_59) (n_goto hE (by decide) dX12_areNotesSo_62)),
    (n_sq (n_iconst hE (by decide) dX12_areNotesSo_65) (n_zreturn hE rfl dX12_areNotesSo_66)), trivial⟩
noncomputable def F_X12_areNotesSo (as : List XV) (w : XW) : Option (Int32 × XW) := (xF 3 bs_X12_areNotesSo as w).bind pI
theorem m_X12_areNotesSo : XM yX12_areNotesSo cX12_areNotesSo 3 (some .boolean) 1 21 (eI F_X12_areNotesSo) := xm_I (xm_of (by decide) s_X12_areNotesSo)
noncomputable def q_X12_areNotesSo_0 (x1 : Int32) (w : XW) : Option XR := ev bs_X12_areNotesSo 0 ([some (.inr (11, 0)), some (.inl (.int x1)), none], [], w)
noncomputable def q_X12_areNotesSo_2 (x1 : Int32) (x2 : Int32) (w : XW) : Option XR := ev bs_X12_areNotesSo 2 ([some (.inr (11, 0)), some (.inl (.int x1)), some (.inl (.int x2))], [], w)
noncomputable def q_X12_areNotesSo_15 (x1 : Int32) (x2 : Int32) (w : XW) : Option XR := ev bs_X12_areNotesSo 15 ([some (.inr (11, 0)), some (.inl (.int x1)), some (.inl (.int x2))], [], w)
noncomputable def q_X12_areNotesSo_28 (x1 : Int32) (x2 : Int32) (w : XW) : Option XR := ev bs_X12_areNotesSo 28 ([some (.inr (11, 0)), some (.inl (.int x1)), some (.inl (.int x2))], [], w)
noncomputable def q_X12_areNotesSo_57 (w : XW) : Option XR := ev bs_X12_areNotesSo 57 ([none, none, none], [], w)
noncomputable def q_X12_areNotesSo_59 (x1 : Int32) (x2 : Int32) (w : XW) : Option XR := ev bs_X12_areNotesSo 59 ([some (.inr (11, 0)), some (.inl (.int x1)), some (.inl (.int x2))], [], w)
noncomputable def q_X12_areNotesSo_65 (w : XW) : Option XR := ev bs_X12_areNotesSo 65 ([none, none, none], [], w)
theorem e_X12_areNotesSo_0 (x1 : Int32) (w : XW) : q_X12_areNotesSo_0 x1 w = (q_X12_areNotesSo_2 x1 0 w) := (ev_eq _ _ _).trans rfl
theorem e_X12_areNotesSo_2 (x1 : Int32) (x2 : Int32) (w : XW) : q_X12_areNotesSo_2 x1 x2 w = (bif decide ((3 * (gI w 50 0 97)) ≤ x2) then (q_X12_areNotesSo_65 w) else (q_X12_areNotesSo_15 x1 x2 w)) := (ev_eq _ _ _).trans rfl
theorem e_X12_areNotesSo_15 (x1 : Int32) (x2 : Int32) (w : XW) : q_X12_areNotesSo_15 x1 x2 w = (if (67 + x2) < 0 ∨ 98 ≤ (67 + x2).toNatClampNeg then none else (bif decide (¬ (gI w 50 0 (67 + x2).toNatClampNeg) = x1) then (q_X12_areNotesSo_59 x1 x2 w) else (q_X12_areNotesSo_28 x1 x2 w))) := (ev_eq _ _ _).trans rfl
theorem e_X12_areNotesSo_28 (x1 : Int32) (x2 : Int32) (w : XW) : q_X12_areNotesSo_28 x1 x2 w = (if ((67 + x2) + 1) < 0 ∨ 98 ≤ ((67 + x2) + 1).toNatClampNeg then none else ((F_X12_fullOf [.inr (11, 0), .inl (.int (gI w 50 0 ((67 + x2) + 1).toNatClampNeg))] w).bind fun r0 => (if ((67 + x2) + 2) < 0 ∨ 98 ≤ ((67 + x2) + 2).toNatClampNeg then none else (bif decide (r0.1 = (gI r0.2 50 0 ((67 + x2) + 2).toNatClampNeg)) then (q_X12_areNotesSo_59 x1 x2 r0.2) else (q_X12_areNotesSo_57 r0.2))))) := (ev_eq _ _ _).trans rfl
theorem e_X12_areNotesSo_57 (w : XW) : q_X12_areNotesSo_57 w = (some (some (.inl (.int 0)), w)) := (ev_eq _ _ _).trans rfl
theorem e_X12_areNotesSo_59 (x1 : Int32) (x2 : Int32) (w : XW) : q_X12_areNotesSo_59 x1 x2 w = (q_X12_areNotesSo_2 x1 (x2 + 3) w) := (ev_eq _ _ _).trans rfl
theorem e_X12_areNotesSo_65 (w : XW) : q_X12_areNotesSo_65 w = (some (some (.inl (.int 1)), w)) := (ev_eq _ _ _).trans rfl
theorem f_X12_areNotesSo (x1 : Int32) (w : XW) : F_X12_areNotesSo [.inr (11, 0), .inl (.int x1)] w = (q_X12_areNotesSo_0 x1 w).bind pI := rfl

-- WinterKeepModel.fillsFits(I)V
theorem dX12_fillsFits_0 : decode cX12_fillsFits 0 = .ok (.aload_n 0, 1) := by decide +kernel
theorem dX12_fillsFits_1 : decode cX12_fillsFits 1 = .ok (.getfield 42, 3) := by decide +kernel
theorem dX12_fillsFits_4 : decode cX12_fillsFits 4 = .ok (.istore_n 2, 1) := by decide +kernel
theorem dX12_fillsFits_5 : decode cX12_fillsFits 5 = .ok (.aload_n 0, 1) := by decide +kernel
theorem dX12_fillsFits_6 : decode cX12_fillsFits 6 = .ok (.invokevirtual 377, 3) := by decide +kernel
theorem dX12_fillsFits_9 : decode cX12_fillsFits 9 = .ok (.iconst 0, 1) := by decide +kernel
theorem dX12_fillsFits_10 : decode cX12_fillsFits 10 = .ok (.istore_n 3, 1) := by decide +kernel
theorem dX12_fillsFits_11 : decode cX12_fillsFits 11 = .ok (.iload_n 3, 1) := by decide +kernel
theorem dX12_fillsFits_12 : decode cX12_fillsFits 12 = .ok (.aload_n 0, 1) := by decide +kernel
theorem dX12_fillsFits_13 : decode cX12_fillsFits 13 = .ok (.getfield 271, 3) := by decide +kernel
theorem dX12_fillsFits_16 : decode cX12_fillsFits 16 = .ok (.if_icmp .gt 117, 3) := by decide +kernel
theorem dX12_fillsFits_19 : decode cX12_fillsFits 19 = .ok (.aload_n 0, 1) := by decide +kernel
theorem dX12_fillsFits_20 : decode cX12_fillsFits 20 = .ok (.iload_n 3, 1) := by decide +kernel
theorem dX12_fillsFits_21 : decode cX12_fillsFits 21 = .ok (.iconst 1, 1) := by decide +kernel
theorem dX12_fillsFits_22 : decode cX12_fillsFits 22 = .ok (.isub, 1) := by decide +kernel
theorem dX12_fillsFits_23 : decode cX12_fillsFits 23 = .ok (.putfield 42, 3) := by decide +kernel
theorem dX12_fillsFits_26 : decode cX12_fillsFits 26 = .ok (.aload_n 0, 1) := by decide +kernel
theorem dX12_fillsFits_27 : decode cX12_fillsFits 27 = .ok (.invokevirtual 277, 3) := by decide +kernel
theorem dX12_fillsFits_30 : decode cX12_fillsFits 30 = .ok (.iconst 1, 1) := by decide +kernel
theorem dX12_fillsFits_31 : decode cX12_fillsFits 31 = .ok (.istore 4, 2) := by decide +kernel
theorem dX12_fillsFits_33 : decode cX12_fillsFits 33 = .ok (.iconst 0, 1) := by decide +kernel
theorem dX12_fillsFits_34 : decode cX12_fillsFits 34 = .ok (.istore 5, 2) := by decide +kernel
theorem dX12_fillsFits_36 : decode cX12_fillsFits 36 = .ok (.iload 5, 2) := by decide +kernel
theorem dX12_fillsFits_38 : decode cX12_fillsFits 38 = .ok (.bipush 60, 2) := by decide +kernel
theorem dX12_fillsFits_40 : decode cX12_fillsFits 40 = .ok (.if_icmp .gt 79, 3) := by decide +kernel
theorem dX12_fillsFits_43 : decode cX12_fillsFits 43 = .ok (.iload 4, 2) := by decide +kernel
theorem dX12_fillsFits_45 : decode cX12_fillsFits 45 = .ok (.ifCond .eq 16, 3) := by decide +kernel
theorem dX12_fillsFits_48 : decode cX12_fillsFits 48 = .ok (.aload_n 0, 1) := by decide +kernel
theorem dX12_fillsFits_49 : decode cX12_fillsFits 49 = .ok (.iload 5, 2) := by decide +kernel
theorem dX12_fillsFits_51 : decode cX12_fillsFits 51 = .ok (.invokevirtual 443, 3) := by decide +kernel
theorem dX12_fillsFits_54 : decode cX12_fillsFits 54 = .ok (.ifCond .eq 7, 3) := by decide +kernel
theorem dX12_fillsFits_57 : decode cX12_fillsFits 57 = .ok (.iconst 1, 1) := by decide +kernel
theorem dX12_fillsFits_58 : decode cX12_fillsFits 58 = .ok (.goto 4, 3) := by decide +kernel
theorem dX12_fillsFits_61 : decode cX12_fillsFits 61 = .ok (.iconst 0, 1) := by decide +kernel
theorem dX12_fillsFits_62 : decode cX12_fillsFits 62 = .ok (.istore 4, 2) := by decide +kernel
theorem dX12_fillsFits_64 : decode cX12_fillsFits 64 = .ok (.iconst 0, 1) := by decide +kernel
theorem dX12_fillsFits_65 : decode cX12_fillsFits 65 = .ok (.istore 6, 2) := by decide +kernel
theorem dX12_fillsFits_67 : decode cX12_fillsFits 67 = .ok (.iload 6, 2) := by decide +kernel
theorem dX12_fillsFits_69 : decode cX12_fillsFits 69 = .ok (.aload_n 0, 1) := by decide +kernel
theorem dX12_fillsFits_70 : decode cX12_fillsFits 70 = .ok (.getfield 39, 3) := by decide +kernel
theorem dX12_fillsFits_73 : decode cX12_fillsFits 73 = .ok (.iconst 3, 1) := by decide +kernel
theorem dX12_fillsFits_74 : decode cX12_fillsFits 74 = .ok (.iaload, 1) := by decide +kernel
theorem dX12_fillsFits_75 : decode cX12_fillsFits 75 = .ok (.if_icmp .ge 33, 3) := by decide +kernel
theorem dX12_fillsFits_78 : decode cX12_fillsFits 78 = .ok (.iload 5, 2) := by decide +kernel
theorem dX12_fillsFits_80 : decode cX12_fillsFits 80 = .ok (.iload_n 1, 1) := by decide +kernel
theorem dX12_fillsFits_81 : decode cX12_fillsFits 81 = .ok (.if_icmp .ne 27, 3) := by decide +kernel
theorem dX12_fillsFits_84 : decode cX12_fillsFits 84 = .ok (.aload_n 0, 1) := by decide +kernel
theorem dX12_fillsFits_85 : decode cX12_fillsFits 85 = .ok (.getfield 77, 3) := by decide +kernel
theorem dX12_fillsFits_88 : decode cX12_fillsFits 88 = .ok (.bipush 6, 2) := by decide +kernel
theorem dX12_fillsFits_90 : decode cX12_fillsFits 90 = .ok (.iload_n 3, 1) := by decide +kernel
theorem dX12_fillsFits_91 : decode cX12_fillsFits 91 = .ok (.imul, 1) := by decide +kernel
theorem dX12_fillsFits_92 : decode cX12_fillsFits 92 = .ok (.iload 6, 2) := by decide +kernel
theorem dX12_fillsFits_94 : decode cX12_fillsFits 94 = .ok (.iadd, 1) := by decide +kernel
theorem dX12_fillsFits_95 : decode cX12_fillsFits 95 = .ok (.aload_n 0, 1) := by decide +kernel
theorem dX12_fillsFits_96 : decode cX12_fillsFits 96 = .ok (.iload 6, 2) := by decide +kernel
theorem dX12_fillsFits_98 : decode cX12_fillsFits 98 = .ok (.invokevirtual 304, 3) := by decide +kernel
theorem dX12_fillsFits_101 : decode cX12_fillsFits 101 = .ok (.iastore, 1) := by decide +kernel
theorem dX12_fillsFits_102 : decode cX12_fillsFits 102 = .ok (.iinc 6 1, 3) := by decide +kernel
theorem dX12_fillsFits_105 : decode cX12_fillsFits 105 = .ok (.goto (-38), 3) := by decide +kernel
theorem dX12_fillsFits_108 : decode cX12_fillsFits 108 = .ok (.aload_n 0, 1) := by decide +kernel
theorem dX12_fillsFits_109 : decode cX12_fillsFits 109 = .ok (.invokevirtual 366, 3) := by decide +kernel
theorem dX12_fillsFits_112 : decode cX12_fillsFits 112 = .ok (.pop, 1) := by decide +kernel
theorem dX12_fillsFits_113 : decode cX12_fillsFits 113 = .ok (.iinc 5 1, 3) := by decide +kernel
theorem dX12_fillsFits_116 : decode cX12_fillsFits 116 = .ok (.goto (-80), 3) := by decide +kernel
theorem dX12_fillsFits_119 : decode cX12_fillsFits 119 = .ok (.aload_n 0, 1) := by decide +kernel
theorem dX12_fillsFits_120 : decode cX12_fillsFits 120 = .ok (.getfield 73, 3) := by decide +kernel
theorem dX12_fillsFits_123 : decode cX12_fillsFits 123 = .ok (.iload_n 3, 1) := by decide +kernel
theorem dX12_fillsFits_124 : decode cX12_fillsFits 124 = .ok (.iload 4, 2) := by decide +kernel
theorem dX12_fillsFits_126 : decode cX12_fillsFits 126 = .ok (.bastore, 1) := by decide +kernel
theorem dX12_fillsFits_127 : decode cX12_fillsFits 127 = .ok (.iinc 3 1, 3) := by decide +kernel
theorem dX12_fillsFits_130 : decode cX12_fillsFits 130 = .ok (.goto (-119), 3) := by decide +kernel
theorem dX12_fillsFits_133 : decode cX12_fillsFits 133 = .ok (.aload_n 0, 1) := by decide +kernel
theorem dX12_fillsFits_134 : decode cX12_fillsFits 134 = .ok (.iload_n 2, 1) := by decide +kernel
theorem dX12_fillsFits_135 : decode cX12_fillsFits 135 = .ok (.putfield 42, 3) := by decide +kernel
theorem dX12_fillsFits_138 : decode cX12_fillsFits 138 = .ok (.aload_n 0, 1) := by decide +kernel
theorem dX12_fillsFits_139 : decode cX12_fillsFits 139 = .ok (.invokevirtual 383, 3) := by decide +kernel
theorem dX12_fillsFits_142 : decode cX12_fillsFits 142 = .ok (.return_, 1) := by decide +kernel
theorem vc_X12_443 : XVw RX12 443 1 11 3 yX12_areNotesSo cX12_areNotesSo (some .boolean) := ⟨RX12, TX12, tyX12, 43, xk_11, rfl, ⟨by decide, by decide⟩, by decide +kernel, wt_1548, wt_1550, ws_112, wt_11, wt_1551⟩
noncomputable def bs_X12_fillsFits : List (Nat × XB) := [
  (0, (sq (xLA 0) (sq (xGI 11 21) (sq (xSI 2) (sq (xLA 0) (sq (xCV 11 1 F_X12_keeps) (sq (xC (.int 0)) (sq (xSI 3) (tGo 11 [true, true, true, true, false, false, false]))))))))),
  (11, (sq (xLI 3) (sq (xLA 0) (sq (xGI 11 2) (tIf2 (fun x y => decide (y < x)) 133 [true, false, true, false, false, false, false] 19 [true, true, true, true, false, false, false]))))),
  (19, (sq (xLA 0) (sq (xLI 3) (sq (xC (.int 1)) (sq (xI2 (· - ·)) (sq (xPI 11 21) (sq (xLA 0) (sq (xCV 11 1 F_X12_begins) (sq (xC (.int 1)) (sq (xSI 4) (sq (xC (.int 0)) (sq (xSI 5) (tGo 36 [true, true, true, true, true, true, false]))))))))))))),
  (36, (sq (xLI 5) (sq (xC (.int 60)) (tIf2 (fun x y => decide (y < x)) 119 [true, true, true, true, true, false, false] 43 [true, true, true, true, true, true, false])))),
  (43, (sq (xLI 4) (tIf1 (fun x => decide (x = 0)) 61 [true, true, true, true, false, true, false] 48 [true, true, true, true, false, true, false]))),
  (48, (sq (xLA 0) (sq (xLI 5) (sq (xCI 11 2 F_X12_areNotesSo) (tIf1 (fun x => decide (x = 0)) 61 [true, true, true, true, false, true, false] 57 [true, true, true, true, false, true, false]))))),
  (57, (sq (xC (.int 1)) (tGo 62 [true, true, true, true, false, true, false]))),
  (61, (sq (xC (.int 0)) (tGo 62 [true, true, true, true, false, true, false]))),
  (62, (sq (xSI 4) (sq (xC (.int 0)) (sq (xSI 6) (tGo 67 [true, true, true, true, true, true, true]))))),
  (67, (sq (xLI 6) (sq (xLA 0) (sq (xGS 11 50 1 0) (sq (xC (.int 3)) (sq (xAI 50 98) (tIf2 (fun x y => decide (y ≤ x)) 108 [true, true, true, true, true, true, false] 78 [true, true, true, true, true, true, true]))))))),
  (78, (sq (xLI 5) (sq (xLI 1) (tIf2 (fun x y => decide (¬ x = y)) 108 [true, true, true, true, true, true, false] 84 [true, true, true, true, true, true, true])))),
  (84, (sq (xLA 0) (sq (xGS 11 60 1 0) (sq (xC (.int 6)) (sq (xLI 3) (sq (xI2 (· * ·)) (sq (xLI 6) (sq (xI2 (· + ·)) (sq (xLA 0) (sq (xLI 6) (sq (xCI 11 2 F_X12_fullOf) (sq (xTI 60 42 (fun x => x)) (sq (xInc 6 1) (tGo 67 [true, true, true, true, true, true, true])))))))))))))),
  (108, (sq (xLA 0) (sq (xCI 11 1 F_X12_passes) (sq (xPop) (sq (xInc 5 1) (tGo 36 [true, true, true, true, true, true, false])))))),
  (119, (sq (xLA 0) (sq (xGS 11 59 1 0) (sq (xLI 3) (sq (xLI 4) (sq (xTI 59 7 (vp_nar .boolean)) (sq (xInc 3 1) (tGo 11 [true, true, true, true, false, false, false])))))))),
  (133, (sq (xLA 0) (sq (xLI 2) (sq (xPI 11 21) (sq (xLA 0) (sq (xCV 11 1 F_X12_laysBack) tRV))))))]
set_option maxRecDepth 100000 in
set_option maxHeartbeats 4000000 in
theorem s_X12_fillsFits : ∀ X : XCtx, XE X → X.2.2.1.1 = cX12_fillsFits → X.2.2.1.2.1 = 7 → X.2.2.1.2.2.1 = yX12_fillsFits.cls → X.2.2.1.2.2.2.1 = none → X.1.2.2.2.1 = { frames := 5, cells := 0, slots := 0, locals := 123 } → SndBs X bs_X12_fillsFits := by
  rintro ⟨⟨p, l, e, R, s⟩, Y, ⟨cc, nL, own, ret, Ts⟩, Z⟩ hE h1 h2 h3 h4 h5
  dsimp only at h1 h2 h3 h4 h5
  subst h1 h2 h3 h4 h5
  exact ⟨(n_sq (n_aload_n hE dX12_fillsFits_0) (n_sq (n_getI hE xk_11 (k := 21) rfl (by decide) rfl wt_981 dX12_fillsFits_1) (n_sq (n_istore_n hE (show (2 : Nat) < 7 by decide) dX12_fillsFits_4) (n_sq (n_aload_n hE dX12_fillsFits_5) (n_sq (n_cVv hE m_X12_keeps vc_X12_377 (show 0 + 1 ≤ 5 ∧ 8 + (2 + 11) + 0 ≤ 123 by decide) dX12_fillsFits_6) (n_sq (n_iconst hE (by decide) dX12_fillsFits_9) (n_sq (n_istore_n hE (show (3 : Nat) < 7 by decide) dX12_fillsFits_10) n_fall))))))),
    (n_sq (n_iload_n hE dX12_fillsFits_11) (n_sq (n_aload_n hE dX12_fillsFits_12) (n_sq (n_getI hE xk_11 (k := 2) rfl (by decide) rfl wt_962 dX12_fillsFits_13) (n_ifcgt hE (by decide) dX12_fillsFits_16)))),
    (n_sq (n_aload_n hE dX12_fillsFits_19) (n_sq (n_iload_n hE dX12_fillsFits_20) (n_sq (n_iconst hE (by decide) dX12_fillsFits_21) (n_sq (n_isub hE dX12_fillsFits_22) (n_sq (n_putI hE xk_11 (k := 21) rfl (by decide) rfl rfl (tyX12_ok 21 (by decide)) wt_981 dX12_fillsFits_23) (n_sq (n_aload_n hE dX12_fillsFits_26) (n_sq (n_cVv hE m_X12_begins vc_X12_277 (show 0 + 1 ≤ 5 ∧ 8 + (3 + 11) + 0 ≤ 123 by decide) dX12_fillsFits_27) (n_sq (n_iconst hE (by decide) dX12_fillsFits_30) (n_sq (n_istore hE (show (4 : Nat) < 7 by decide) dX12_fillsFits_31) (n_sq (n_iconst hE (by decide) dX12_fillsFits_33) (n_sq (n_istore hE (show (5 : Nat) < 7 by decide) dX12_fillsFits_34) n_fall))))))))))),
    (n_sq (n_iload hE dX12_fillsFits_36) (n_sq (n_bipush hE (by decide) dX12_fillsFits_38) (n_ifcgt hE (by decide) dX12_fillsFits_40))),
    (n_sq (n_iload hE dX12_fillsFits_43) (n_ifeq hE (by decide) dX12_fillsFits_45)),
    (n_sq (n_aload_n hE dX12_fillsFits_48) (n_sq (n_iload hE dX12_fillsFits_49) (n_sq (n_cIv hE m_X12_areNotesSo vc_X12_443 (show 1 + 1 ≤ 5 ∧ 8 + (3 + 11) + 21 ≤ 123 by decide) dX12_fillsFits_51) (n_ifeq hE (by decide) dX12_fillsFits_54)))),
    (n_sq (n_iconst hE (by decide) dX12_fillsFits_57) (n_goto hE (by decide) dX12_fillsFits_58)),
    (n_sq (n_iconst hE (by decide) dX12_fillsFits_61) n_fall),
    (n_sq (n_istore hE (show (4 : Nat) < 7 by decide) dX12_fillsFits_62) (n_sq (n_iconst hE (by decide) dX12_fillsFits_64) (n_sq (n_istore hE (show (6 : Nat) < 7 by decide) dX12_fillsFits_65) n_fall))),
    (n_sq (n_iload hE dX12_fillsFits_67) (n_sq (n_aload_n hE dX12_fillsFits_69) (n_sq (n_getS hE xk_11 (k := 20) rfl (by decide) rfl wt_980 dX12_fillsFits_70) (n_sq (n_iconst hE (by decide) dX12_fillsFits_73) (n_sq (n_iald hE rfl (by decide) dX12_fillsFits_74) (n_ifcge hE (by decide) dX12_fillsFits_75)))))),
    (n_sq (n_iload hE dX12_fillsFits_78) (n_sq (n_iload_n hE dX12_fillsFits_80) (n_ifcne hE (by decide) dX12_fillsFits_81))),
    (n_sq (n_aload_n hE dX12_fillsFits_84) (n_sq (n_getS hE xk_11 (k := 37) rfl (by decide) rfl wt_997 dX12_fillsFits_85) (n_sq (n_bipush hE (by decide) dX12_fillsFits_88) (n_sq (n_iload_n hE dX12_fillsFits_90) (n_sq (n_imul hE dX12_fillsFits_91) (n_sq (n_iload hE dX12_fillsFits_92) (n_sq (n_iadd hE dX12_fillsFits_94) (n_sq (n_aload_n hE dX12_fillsFits_95) (n_sq (n_iload hE dX12_fillsFits_96) (n_sq (n_cIv hE m_X12_fullOf vc_X12_304 (show 0 + 1 ≤ 5 ∧ 8 + (2 + 11) + 0 ≤ 123 by decide) dX12_fillsFits_98) (n_sq (n_iast hE rfl (by decide) dX12_fillsFits_101) (n_sq (n_iinc hE (by decide) (show (6 : Nat) < 7 by decide) dX12_fillsFits_102) (n_goto hE (by decide) dX12_fillsFits_105))))))))))))),
    (n_sq (n_aload_n hE dX12_fillsFits_108) (n_sq (n_cIv hE m_X12_passes vc_X12_366 (show 4 + 1 ≤ 5 ∧ 8 + (3 + 11) + 101 ≤ 123 by decide) dX12_fillsFits_109) (n_sq (n_pop hE dX12_fillsFits_112) (n_sq (n_iinc hE (by decide) (show (5 : Nat) < 7 by decide) dX12_fillsFits_113) (n_goto hE (by decide) dX12_fillsFits_116))))),
    (n_sq (n_aload_n hE dX12_fillsFits_119) (n_sq (n_getS hE xk_11 (k := 36) rfl (by decide) rfl wt_996 dX12_fillsFits_120) (n_sq (n_iload_n hE dX12_fillsFits_123) (n_sq (n_iload hE dX12_fillsFits_124) (n_sq (n_zast hE rfl (by decide) dX12_fillsFits_126) (n_sq (n_iinc hE (by decide) (show (3 : Nat) < 7 by decide) dX12_fillsFits_127) (n_goto hE (by decide) dX12_fillsFits_130))))))),
    (n_sq (n_aload_n hE dX12_fillsFits_133) (n_sq (n_iload_n hE dX12_fillsFits_134) (n_sq (n_putI hE xk_11 (k := 21) rfl (by decide) rfl rfl (tyX12_ok 21 (by decide)) wt_981 dX12_fillsFits_135) (n_sq (n_aload_n hE dX12_fillsFits_138) (n_sq (n_cVv hE m_X12_laysBack vc_X12_383 (show 0 + 1 ≤ 5 ∧ 8 + (2 + 11) + 0 ≤ 123 by decide) dX12_fillsFits_139) (n_vreturn hE rfl dX12_fillsFits_142)))))), trivial⟩
noncomputable def F_X12_fillsFits (as : List XV) (w : XW) : Option XW := (xF 7 bs_X12_fillsFits as w).bind pV
theorem m_X12_fillsFits : XM yX12_fillsFits cX12_fillsFits 7 none 5 123 (eV F_X12_fillsFits) := xm_V (xm_of (by decide) s_X12_fillsFits)
noncomputable def q_X12_fillsFits_0 (x1 : Int32) (w : XW) : Option XR := ev bs_X12_fillsFits 0 ([some (.inr (11, 0)), some (.inl (.int x1)), none, none, none, none, none], [], w)
noncomputable def q_X12_fillsFits_11 (x1 : Int32) (x2 : Int32) (x3 : Int32) (w : XW) : Option XR := ev bs_X12_fillsFits 11 ([some (.inr (11, 0)), some (.inl (.int x1)), some (.inl (.int x2)), some (.inl (.int x3)), none, none, none], [], w)
noncomputable def q_X12_fillsFits_19 (x1 : Int32) (x2 : Int32) (x3 : Int32) (w : XW) : Option XR := ev bs_X12_fillsFits 19 ([some (.inr (11, 0)), some (.inl (.int x1)), some (.inl (.int x2)), some (.inl (.int x3)), none, none, none], [], w)
noncomputable def q_X12_fillsFits_36 (x1 : Int32) (x2 : Int32) (x3 : Int32) (x4 : Int32) (x5 : Int32) (w : XW) : Option XR := ev bs_X12_fillsFits 36 ([some (.inr (11, 0)), some (.inl (.int x1)), some (.inl (.int x2)), some (.inl (.int x3)), some (.inl (.int x4)), some (.inl (.int x5)), none], [], w)
noncomputable def q_X12_fillsFits_43 (x1 : Int32) (x2 : Int32) (x3 : Int32) (x4 : Int32) (x5 : Int32) (w : XW) : Option XR := ev bs_X12_fillsFits 43 ([some (.inr (11, 0)), some (.inl (.int x1)), some (.inl (.int x2)), some (.inl (.int x3)), some (.inl (.int x4)), some (.inl (.int x5)), none], [], w)
noncomputable def q_X12_fillsFits_48 (x1 : Int32) (x2 : Int32) (x3 : Int32) (x5 : Int32) (w : XW) : Option XR := ev bs_X12_fillsFits 48 ([some (.inr (11, 0)), some (.inl (.int x1)), some (.inl (.int x2)), some (.inl (.int x3)), none, some (.inl (.int x5)), none], [], w)
noncomputable def q_X12_fillsFits_57 (x1 : Int32) (x2 : Int32) (x3 : Int32) (x5 : Int32) (w : XW) : Option XR := ev bs_X12_fillsFits 57 ([some (.inr (11, 0)), some (.inl (.int x1)), some (.inl (.int x2)), some (.inl (.int x3)), none, some (.inl (.int x5)), none], [], w)
noncomputable def q_X12_fillsFits_61 (x1 : Int32) (x2 : Int32) (x3 : Int32) (x5 : Int32) (w : XW) : Option XR := ev bs_X12_fillsFits 61 ([some (.inr (11, 0)), some (.inl (.int x1)), some (.inl (.int x2)), some (.inl (.int x3)), none, some (.inl (.int x5)), none], [], w)
noncomputable def q_X12_fillsFits_62 (x1 : Int32) (x2 : Int32) (x3 : Int32) (x5 : Int32) (s0 : Int32) (w : XW) : Option XR := ev bs_X12_fillsFits 62 ([some (.inr (11, 0)), some (.inl (.int x1)), some (.inl (.int x2)), some (.inl (.int x3)), none, some (.inl (.int x5)), none], [.inl (.int s0)], w)
noncomputable def q_X12_fillsFits_67 (x1 : Int32) (x2 : Int32) (x3 : Int32) (x4 : Int32) (x5 : Int32) (x6 : Int32) (w : XW) : Option XR := ev bs_X12_fillsFits 67 ([some (.inr (11, 0)), some (.inl (.int x1)), some (.inl (.int x2)), some (.inl (.int x3)), some (.inl (.int x4)), some (.inl (.int x5)), some (.inl (.int x6))], [], w)
noncomputable def q_X12_fillsFits_78 (x1 : Int32) (x2 : Int32) (x3 : Int32) (x4 : Int32) (x5 : Int32) (x6 : Int32) (w : XW) : Option XR := ev bs_X12_fillsFits 78 ([some (.inr (11, 0)), some (.inl (.int x1)), some (.inl (.int x2)), some (.inl (.int x3)), some (.inl (.int x4)), some (.inl (.int x5)), some (.inl (.int x6))], [], w)
noncomputable def q_X12_fillsFits_84 (x1 : Int32) (x2 : Int32) (x3 : Int32) (x4 : Int32) (x5 : Int32) (x6 : Int32) (w : XW) : Option XR := ev bs_X12_fillsFits 84 ([some (.inr (11, 0)), some (.inl (.int x1)), some (.inl (.int x2)), some (.inl (.int x3)), some (.inl (.int x4)), some (.inl (.int x5)), some (.inl (.int x6))], [], w)
noncomputable def q_X12_fillsFits_108 (x1 : Int32) (x2 : Int32) (x3 : Int32) (x4 : Int32) (x5 : Int32) (w : XW) : Option XR := ev bs_X12_fillsFits 108 ([some (.inr (11, 0)), some (.inl (.int x1)), some (.inl (.int x2)), some (.inl (.int x3)), some (.inl (.int x4)), some (.inl (.int x5)), none], [], w)
noncomputable def q_X12_fillsFits_119 (x1 : Int32) (x2 : Int32) (x3 : Int32) (x4 : Int32) (w : XW) : Option XR := ev bs_X12_fillsFits 119 ([some (.inr (11, 0)), some (.inl (.int x1)), some (.inl (.int x2)), some (.inl (.int x3)), some (.inl (.int x4)), none, none], [], w)
noncomputable def q_X12_fillsFits_133 (x2 : Int32) (w : XW) : Option XR := ev bs_X12_fillsFits 133 ([some (.inr (11, 0)), none, some (.inl (.int x2)), none, none, none, none], [], w)
set_option maxRecDepth 100000 in
theorem e_X12_fillsFits_0 (x1 : Int32) (w : XW) : q_X12_fillsFits_0 x1 w = ((F_X12_keeps [.inr (11, 0)] w).bind fun r0 => (q_X12_fillsFits_11 x1 (gI w 11 0 21) 0 r0)) := (ev_eq _ _ _).trans rfl
set_option maxRecDepth 100000 in
theorem e_X12_fillsFits_11 (x1 : Int32) (x2 : Int32) (x3 : Int32) (w : XW) : q_X12_fillsFits_11 x1 x2 x3 w = (bif decide ((gI w 11 0 2) < x3) then (q_X12_fillsFits_133 x2 w) else (q_X12_fillsFits_19 x1 x2 x3 w)) := (ev_eq _ _ _).trans rfl
set_option maxRecDepth 100000 in
theorem e_X12_fillsFits_19 (x1 : Int32) (x2 : Int32) (x3 : Int32) (w : XW) : q_X12_fillsFits_19 x1 x2 x3 w = ((F_X12_begins [.inr (11, 0)] (sI w 11 0 21 (x3 - 1))).bind fun r0 => (q_X12_fillsFits_36 x1 x2 x3 1 0 r0)) := (ev_eq _ _ _).trans rfl
set_option maxRecDepth 100000 in
theorem e_X12_fillsFits_36 (x1 : Int32) (x2 : Int32) (x3 : Int32) (x4 : Int32) (x5 : Int32) (w : XW) : q_X12_fillsFits_36 x1 x2 x3 x4 x5 w = (bif decide (60 < x5) then (q_X12_fillsFits_119 x1 x2 x3 x4 w) else (q_X12_fillsFits_43 x1 x2 x3 x4 x5 w)) := (ev_eq _ _ _).trans rfl
set_option maxRecDepth 100000 in
theorem e_X12_fillsFits_43 (x1 : Int32) (x2 : Int32) (x3 : Int32) (x4 : Int32) (x5 : Int32) (w : XW) : q_X12_fillsFits_43 x1 x2 x3 x4 x5 w = (bif decide (x4 = 0) then (q_X12_fillsFits_61 x1 x2 x3 x5 w) else (q_X12_fillsFits_48 x1 x2 x3 x5 w)) := (ev_eq _ _ _).trans rfl
set_option maxRecDepth 100000 in
theorem e_X12_fillsFits_48 (x1 : Int32) (x2 : Int32) (x3 : Int32) (x5 : Int32) (w : XW) : q_X12_fillsFits_48 x1 x2 x3 x5 w = ((F_X12_areNotesSo [.inr (11, 0), .inl (.int x5)] w).bind fun r0 => (bif decide (r0.1 = 0) then (q_X12_fillsFits_61 x1 x2 x3 x5 r0.2) else (q_X12_fillsFits_57 x1 x2 x3 x5 r0.2))) := (ev_eq _ _ _).trans rfl
set_option maxRecDepth 100000 in
theorem e_X12_fillsFits_57 (x1 : Int32) (x2 : Int32) (x3 : Int32) (x5 : Int32) (w : XW) : q_X12_fillsFits_57 x1 x2 x3 x5 w = (q_X12_fillsFits_62 x1 x2 x3 x5 1 w) := (ev_eq _ _ _).trans rfl
set_option maxRecDepth 100000 in
theorem e_X12_fillsFits_61 (x1 : Int32) (x2 : Int32) (x3 : Int32) (x5 : Int32) (w : XW) : q_X12_fillsFits_61 x1 x2 x3 x5 w = (q_X12_fillsFits_62 x1 x2 x3 x5 0 w) := (ev_eq _ _ _).trans rfl
set_option maxRecDepth 100000 in
theorem e_X12_fillsFits_62 (x1 : Int32) (x2 : Int32) (x3 : Int32) (x5 : Int32) (s0 : Int32) (w : XW) : q_X12_fillsFits_62 x1 x2 x3 x5 s0 w = (q_X12_fillsFits_67 x1 x2 x3 s0 x5 0 w) := (ev_eq _ _ _).trans rfl
set_option maxRecDepth 100000 in
theorem e_X12_fillsFits_67 (x1 : Int32) (x2 : Int32) (x3 : Int32) (x4 : Int32) (x5 : Int32) (x6 : Int32) (w : XW) : q_X12_fillsFits_67 x1 x2 x3 x4 x5 x6 w = (bif decide ((gI w 50 0 3) ≤ x6) then (q_X12_fillsFits_108 x1 x2 x3 x4 x5 w) else (q_X12_fillsFits_78 x1 x2 x3 x4 x5 x6 w)) := (ev_eq _ _ _).trans rfl
set_option maxRecDepth 100000 in
theorem e_X12_fillsFits_78 (x1 : Int32) (x2 : Int32) (x3 : Int32) (x4 : Int32) (x5 : Int32) (x6 : Int32) (w : XW) : q_X12_fillsFits_78 x1 x2 x3 x4 x5 x6 w = (bif decide (¬ x5 = x1) then (q_X12_fillsFits_108 x1 x2 x3 x4 x5 w) else (q_X12_fillsFits_84 x1 x2 x3 x4 x5 x6 w)) := (ev_eq _ _ _).trans rfl
set_option maxRecDepth 100000 in
theorem e_X12_fillsFits_84 (x1 : Int32) (x2 : Int32) (x3 : Int32) (x4 : Int32) (x5 : Int32) (x6 : Int32) (w : XW) : q_X12_fillsFits_84 x1 x2 x3 x4 x5 x6 w = ((F_X12_fullOf [.inr (11, 0), .inl (.int x6)] w).bind fun r0 => (if ((6 * x3) + x6) < 0 ∨ 42 ≤ ((6 * x3) + x6).toNatClampNeg then none else (q_X12_fillsFits_67 x1 x2 x3 x4 x5 (x6 + 1) (sI r0.2 60 0 (((6 * x3) + x6).toNatClampNeg) r0.1)))) := (ev_eq _ _ _).trans rfl
set_option maxRecDepth 100000 in
theorem e_X12_fillsFits_108 (x1 : Int32) (x2 : Int32) (x3 : Int32) (x4 : Int32) (x5 : Int32) (w : XW) : q_X12_fillsFits_108 x1 x2 x3 x4 x5 w = ((F_X12_passes [.inr (11, 0)] w).bind fun r0 => (q_X12_fillsFits_36 x1 x2 x3 x4 (x5 + 1) r0.2)) := (ev_eq _ _ _).trans rfl
set_option maxRecDepth 100000 in
theorem e_X12_fillsFits_119 (x1 : Int32) (x2 : Int32) (x3 : Int32) (x4 : Int32) (w : XW) : q_X12_fillsFits_119 x1 x2 x3 x4 w = (if x3 < 0 ∨ 7 ≤ x3.toNatClampNeg then none else (q_X12_fillsFits_11 x1 x2 (x3 + 1) (sI w 59 0 x3.toNatClampNeg (vp_nar .boolean x4)))) := (ev_eq _ _ _).trans rfl
set_option maxRecDepth 100000 in
theorem e_X12_fillsFits_133 (x2 : Int32) (w : XW) : q_X12_fillsFits_133 x2 w = ((F_X12_laysBack [.inr (11, 0)] (sI w 11 0 21 x2)).bind fun r0 => (some (none, r0))) := (ev_eq _ _ _).trans rfl
theorem f_X12_fillsFits (x1 : Int32) (w : XW) : F_X12_fillsFits [.inr (11, 0), .inl (.int x1)] w = (q_X12_fillsFits_0 x1 w).bind pV := rfl
