-- WinterKeepModel.wordHere()I
theorem dX12_wordHere_0 : decode cX12_wordHere 0 = .ok (.aload_n 0, 1) := by decide +kernel
theorem dX12_wordHere_1 : decode cX12_wordHere 1 = .ok (.ldc2_w 137, 3) := by decide +kernel
theorem dX12_wordHere_4 : decode cX12_wordHere 4 = .ok (.invokevirtual 117, 3) := by decide +kernel
theorem dX12_wordHere_7 : decode cX12_wordHere 7 = .ok (.ifCond .eq 5, 3) := by decide +kernel
theorem dX12_wordHere_10 : decode cX12_wordHere 10 = .ok (.iconst 0, 1) := by decide +kernel
theorem dX12_wordHere_11 : decode cX12_wordHere 11 = .ok (.ireturn, 1) := by decide +kernel
theorem dX12_wordHere_12 : decode cX12_wordHere 12 = .ok (.aload_n 0, 1) := by decide +kernel
theorem dX12_wordHere_13 : decode cX12_wordHere 13 = .ok (.ldc2_w 139, 3) := by decide +kernel
theorem dX12_wordHere_16 : decode cX12_wordHere 16 = .ok (.invokevirtual 117, 3) := by decide +kernel
theorem dX12_wordHere_19 : decode cX12_wordHere 19 = .ok (.ifCond .eq 5, 3) := by decide +kernel
theorem dX12_wordHere_22 : decode cX12_wordHere 22 = .ok (.iconst 1, 1) := by decide +kernel
theorem dX12_wordHere_23 : decode cX12_wordHere 23 = .ok (.ireturn, 1) := by decide +kernel
theorem dX12_wordHere_24 : decode cX12_wordHere 24 = .ok (.aload_n 0, 1) := by decide +kernel
theorem dX12_wordHere_25 : decode cX12_wordHere 25 = .ok (.ldc2_w 141, 3) := by decide +kernel
theorem dX12_wordHere_28 : decode cX12_wordHere 28 = .ok (.invokevirtual 117, 3) := by decide +kernel
theorem dX12_wordHere_31 : decode cX12_wordHere 31 = .ok (.ifCond .eq 5, 3) := by decide +kernel
theorem dX12_wordHere_34 : decode cX12_wordHere 34 = .ok (.iconst 2, 1) := by decide +kernel
theorem dX12_wordHere_35 : decode cX12_wordHere 35 = .ok (.ireturn, 1) := by decide +kernel
theorem dX12_wordHere_36 : decode cX12_wordHere 36 = .ok (.aload_n 0, 1) := by decide +kernel
theorem dX12_wordHere_37 : decode cX12_wordHere 37 = .ok (.ldc2_w 143, 3) := by decide +kernel
theorem dX12_wordHere_40 : decode cX12_wordHere 40 = .ok (.invokevirtual 117, 3) := by decide +kernel
theorem dX12_wordHere_43 : decode cX12_wordHere 43 = .ok (.ifCond .eq 5, 3) := by decide +kernel
theorem dX12_wordHere_46 : decode cX12_wordHere 46 = .ok (.iconst 3, 1) := by decide +kernel
theorem dX12_wordHere_47 : decode cX12_wordHere 47 = .ok (.ireturn, 1) := by decide +kernel
theorem dX12_wordHere_48 : decode cX12_wordHere 48 = .ok (.aload_n 0, 1) := by decide +kernel
theorem dX12_wordHere_49 : decode cX12_wordHere 49 = .ok (.ldc2_w 145, 3) := by decide +kernel
theorem dX12_wordHere_52 : decode cX12_wordHere 52 = .ok (.invokevirtual 117, 3) := by decide +kernel
theorem dX12_wordHere_55 : decode cX12_wordHere 55 = .ok (.ifCond .eq 5, 3) := by decide +kernel
theorem dX12_wordHere_58 : decode cX12_wordHere 58 = .ok (.iconst 4, 1) := by decide +kernel
theorem dX12_wordHere_59 : decode cX12_wordHere 59 = .ok (.ireturn, 1) := by decide +kernel
theorem dX12_wordHere_60 : decode cX12_wordHere 60 = .ok (.aload_n 0, 1) := by decide +kernel
theorem dX12_wordHere_61 : decode cX12_wordHere 61 = .ok (.ldc2_w 147, 3) := by decide +kernel
theorem dX12_wordHere_64 : decode cX12_wordHere 64 = .ok (.invokevirtual 117, 3) := by decide +kernel
theorem dX12_wordHere_67 : decode cX12_wordHere 67 = .ok (.ifCond .eq 5, 3) := by decide +kernel
theorem dX12_wordHere_70 : decode cX12_wordHere 70 = .ok (.iconst 5, 1) := by decide +kernel
theorem dX12_wordHere_71 : decode cX12_wordHere 71 = .ok (.ireturn, 1) := by decide +kernel
theorem dX12_wordHere_72 : decode cX12_wordHere 72 = .ok (.aload_n 0, 1) := by decide +kernel
theorem dX12_wordHere_73 : decode cX12_wordHere 73 = .ok (.ldc2_w 149, 3) := by decide +kernel
theorem dX12_wordHere_76 : decode cX12_wordHere 76 = .ok (.invokevirtual 117, 3) := by decide +kernel
theorem dX12_wordHere_79 : decode cX12_wordHere 79 = .ok (.ifCond .eq 6, 3) := by decide +kernel
theorem dX12_wordHere_82 : decode cX12_wordHere 82 = .ok (.bipush 6, 2) := by decide +kernel
theorem dX12_wordHere_84 : decode cX12_wordHere 84 = .ok (.ireturn, 1) := by decide +kernel
theorem dX12_wordHere_85 : decode cX12_wordHere 85 = .ok (.aload_n 0, 1) := by decide +kernel
theorem dX12_wordHere_86 : decode cX12_wordHere 86 = .ok (.ldc2_w 151, 3) := by decide +kernel
theorem dX12_wordHere_89 : decode cX12_wordHere 89 = .ok (.invokevirtual 117, 3) := by decide +kernel
theorem dX12_wordHere_92 : decode cX12_wordHere 92 = .ok (.ifCond .eq 6, 3) := by decide +kernel
theorem dX12_wordHere_95 : decode cX12_wordHere 95 = .ok (.bipush 7, 2) := by decide +kernel
theorem dX12_wordHere_97 : decode cX12_wordHere 97 = .ok (.ireturn, 1) := by decide +kernel
theorem dX12_wordHere_98 : decode cX12_wordHere 98 = .ok (.aload_n 0, 1) := by decide +kernel
theorem dX12_wordHere_99 : decode cX12_wordHere 99 = .ok (.ldc2_w 153, 3) := by decide +kernel
theorem dX12_wordHere_102 : decode cX12_wordHere 102 = .ok (.invokevirtual 117, 3) := by decide +kernel
theorem dX12_wordHere_105 : decode cX12_wordHere 105 = .ok (.ifCond .eq 6, 3) := by decide +kernel
theorem dX12_wordHere_108 : decode cX12_wordHere 108 = .ok (.bipush 8, 2) := by decide +kernel
theorem dX12_wordHere_110 : decode cX12_wordHere 110 = .ok (.ireturn, 1) := by decide +kernel
theorem dX12_wordHere_111 : decode cX12_wordHere 111 = .ok (.aload_n 0, 1) := by decide +kernel
theorem dX12_wordHere_112 : decode cX12_wordHere 112 = .ok (.ldc2_w 155, 3) := by decide +kernel
theorem dX12_wordHere_115 : decode cX12_wordHere 115 = .ok (.invokevirtual 117, 3) := by decide +kernel
theorem dX12_wordHere_118 : decode cX12_wordHere 118 = .ok (.ifCond .eq 8, 3) := by decide +kernel
theorem dX12_wordHere_121 : decode cX12_wordHere 121 = .ok (.bipush 9, 2) := by decide +kernel
theorem dX12_wordHere_123 : decode cX12_wordHere 123 = .ok (.goto 19, 3) := by decide +kernel
theorem dX12_wordHere_126 : decode cX12_wordHere 126 = .ok (.aload_n 0, 1) := by decide +kernel
theorem dX12_wordHere_127 : decode cX12_wordHere 127 = .ok (.ldc2_w 157, 3) := by decide +kernel
theorem dX12_wordHere_130 : decode cX12_wordHere 130 = .ok (.invokevirtual 117, 3) := by decide +kernel
theorem dX12_wordHere_133 : decode cX12_wordHere 133 = .ok (.ifCond .eq 8, 3) := by decide +kernel
theorem dX12_wordHere_136 : decode cX12_wordHere 136 = .ok (.bipush 10, 2) := by decide +kernel
theorem dX12_wordHere_138 : decode cX12_wordHere 138 = .ok (.goto 4, 3) := by decide +kernel
theorem dX12_wordHere_141 : decode cX12_wordHere 141 = .ok (.iconst (-1), 1) := by decide +kernel
theorem dX12_wordHere_142 : decode cX12_wordHere 142 = .ok (.ireturn, 1) := by decide +kernel
noncomputable def bs_X12_wordHere : List (Nat × XB) := [
  (0, (sq (xLA 0) (sq (xC (.long 123581014175598)) (sq (xCI 11 2 F_X12_isWord) (tIf1 (fun x => decide (x = 0)) 12 [true] 10 [false]))))),
  (10, (sq (xC (.int 0)) tRI)),
  (12, (sq (xLA 0) (sq (xC (.long 1801807216)) (sq (xCI 11 2 F_X12_isWord) (tIf1 (fun x => decide (x = 0)) 24 [true] 22 [false]))))),
  (22, (sq (xC (.int 1)) tRI)),
  (24, (sq (xLA 0) (sq (xC (.long 499917810803)) (sq (xCI 11 2 F_X12_isWord) (tIf1 (fun x => decide (x = 0)) 36 [true] 34 [false]))))),
  (34, (sq (xC (.int 2)) tRI)),
  (36, (sq (xLA 0) (sq (xC (.long 1718971500)) (sq (xCI 11 2 F_X12_isWord) (tIf1 (fun x => decide (x = 0)) 48 [true] 46 [false]))))),
  (46, (sq (xC (.int 3)) tRI)),
  (48, (sq (xLA 0) (sq (xC (.long 1919905645)) (sq (xCI 11 2 F_X12_isWord) (tIf1 (fun x => decide (x = 0)) 60 [true] 58 [false]))))),
  (58, (sq (xC (.int 4)) tRI)),
  (60, (sq (xLA 0) (sq (xC (.long 1751474548)) (sq (xCI 11 2 F_X12_isWord) (tIf1 (fun x => decide (x = 0)) 72 [true] 70 [false]))))),
  (70, (sq (xC (.int 5)) tRI)),
  (72, (sq (xLA 0) (sq (xC (.long 427071335539)) (sq (xCI 11 2 F_X12_isWord) (tIf1 (fun x => decide (x = 0)) 85 [true] 82 [false]))))),
  (82, (sq (xC (.int 6)) tRI)),
  (85, (sq (xLA 0) (sq (xC (.long 108187867505765)) (sq (xCI 11 2 F_X12_isWord) (tIf1 (fun x => decide (x = 0)) 98 [true] 95 [false]))))),
  (95, (sq (xC (.int 7)) tRI)),
  (98, (sq (xLA 0) (sq (xC (.long 122545758368371)) (sq (xCI 11 2 F_X12_isWord) (tIf1 (fun x => decide (x = 0)) 111 [true] 108 [false]))))),
  (108, (sq (xC (.int 8)) tRI)),
  (111, (sq (xLA 0) (sq (xC (.long 422877228660)) (sq (xCI 11 2 F_X12_isWord) (tIf1 (fun x => decide (x = 0)) 126 [true] 121 [false]))))),
  (121, (sq (xC (.int 9)) (tGo 142 [false]))),
  (126, (sq (xLA 0) (sq (xC (.long 474214787188)) (sq (xCI 11 2 F_X12_isWord) (tIf1 (fun x => decide (x = 0)) 141 [false] 136 [false]))))),
  (136, (sq (xC (.int 10)) (tGo 142 [false]))),
  (141, (sq (xC (.int (-1))) (tGo 142 [false]))),
  (142, tRI)]
set_option maxRecDepth 100000 in
set_option maxHeartbeats 4000000 in
theorem s_X12_wordHere : ∀ X : XCtx, XE X → X.2.2.1.1 = cX12_wordHere → X.2.2.1.2.1 = 1 → X.2.2.1.2.2.1 = yX12_wordHere.cls → X.2.2.1.2.2.2.1 = (some .int) → X.1.2.2.2.1 = { frames := 2, cells := 0, slots := 0, locals := 46 } → SndBs X bs_X12_wordHere := by
  rintro ⟨⟨p, l, e, R, s⟩, Y, ⟨cc, nL, own, ret, Ts⟩, Z⟩ hE h1 h2 h3 h4 h5
  dsimp only at h1 h2 h3 h4 h5
  subst h1 h2 h3 h4 h5
  exact ⟨(n_sq (n_aload_n hE dX12_wordHere_0) (n_sq (n_ldc2 hE wt_1133 dX12_wordHere_1) (n_sq (n_cIv hE m_X12_isWord vc_X12_117 (show 1 + 1 ≤ 2 ∧ 8 + (6 + 11) + 21 ≤ 46 by decide) dX12_wordHere_4) (n_ifeq hE (by decide) dX12_wordHere_7)))),
    (n_sq (n_iconst hE (by decide) dX12_wordHere_10) (n_ireturn hE rfl dX12_wordHere_11)),
    (n_sq (n_aload_n hE dX12_wordHere_12) (n_sq (n_ldc2 hE wt_1132 dX12_wordHere_13) (n_sq (n_cIv hE m_X12_isWord vc_X12_117 (show 1 + 1 ≤ 2 ∧ 8 + (6 + 11) + 21 ≤ 46 by decide) dX12_wordHere_16) (n_ifeq hE (by decide) dX12_wordHere_19)))),
    (n_sq (n_iconst hE (by decide) dX12_wordHere_22) (n_ireturn hE rfl dX12_wordHere_23)),
    (n_sq (n_aload_n hE dX12_wordHere_24) (n_sq (n_ldc2 hE wt_1213 dX12_wordHere_25) (n_sq (n_cIv hE m_X12_isWord vc_X12_117 (show 1 + 1 ≤ 2 ∧ 8 + (6 + 11) + 21 ≤ 46 by decide) dX12_wordHere_28) (n_ifeq hE (by decide) dX12_wordHere_31)))),
    (n_sq (n_iconst hE (by decide) dX12_wordHere_34) (n_ireturn hE rfl dX12_wordHere_35)),
    (n_sq (n_aload_n hE dX12_wordHere_36) (n_sq (n_ldc2 hE wt_1214 dX12_wordHere_37) (n_sq (n_cIv hE m_X12_isWord vc_X12_117 (show 1 + 1 ≤ 2 ∧ 8 + (6 + 11) + 21 ≤ 46 by decide) dX12_wordHere_40) (n_ifeq hE (by decide) dX12_wordHere_43)))),
    (n_sq (n_iconst hE (by decide) dX12_wordHere_46) (n_ireturn hE rfl dX12_wordHere_47)),
    (n_sq (n_aload_n hE dX12_wordHere_48) (n_sq (n_ldc2 hE wt_1215 dX12_wordHere_49) (n_sq (n_cIv hE m_X12_isWord vc_X12_117 (show 1 + 1 ≤ 2 ∧ 8 + (6 + 11) + 21 ≤ 46 by decide) dX12_wordHere_52) (n_ifeq hE (by decide) dX12_wordHere_55)))),
    (n_sq (n_iconst hE (by decide) dX12_wordHere_58) (n_ireturn hE rfl dX12_wordHere_59)),
    (n_sq (n_aload_n hE dX12_wordHere_60) (n_sq (n_ldc2 hE wt_1216 dX12_wordHere_61) (n_sq (n_cIv hE m_X12_isWord vc_X12_117 (show 1 + 1 ≤ 2 ∧ 8 + (6 + 11) + 21 ≤ 46 by decide) dX12_wordHere_64) (n_ifeq hE (by decide) dX12_wordHere_67)))),
    (n_sq (n_iconst hE (by decide) dX12_wordHere_70) (n_ireturn hE rfl dX12_wordHere_71)),
    (n_sq (n_aload_n hE dX12_wordHere_72) (n_sq (n_ldc2 hE wt_1217 dX12_wordHere_73) (n_sq (n_cIv hE m_X12_isWord vc_X12_117 (show 1 + 1 ≤ 2 ∧ 8 + (6 + 11) + 21 ≤ 46 by decide) dX12_wordHere_76) (n_ifeq hE (by decide) dX12_wordHere_79)))),
    (n_sq (n_bipush hE (by decide) dX12_wordHere_82) (n_ireturn hE rfl dX12_wordHere_84)),
    (n_sq (n_aload_n hE dX12_wordHere_85) (n_sq (n_ldc2 hE wt_1135 dX12_wordHere_86) (n_sq (n_cIv hE m_X12_isWord vc_X12_117 (show 1 + 1 ≤ 2 ∧ 8 + (6 + 11) + 21 ≤ 46 by decide) dX12_wordHere_89) (n_ifeq hE (by decide) dX12_wordHere_92)))),
    (n_sq (n_bipush hE (by decide) dX12_wordHere_95) (n_ireturn hE rfl dX12_wordHere_97)),
    (n_sq (n_aload_n hE dX12_wordHere_98) (n_sq (n_ldc2 hE wt_1218 dX12_wordHere_99) (n_sq (n_cIv hE m_X12_isWord vc_X12_117 (show 1 + 1 ≤ 2 ∧ 8 + (6 + 11) + 21 ≤ 46 by decide) dX12_wordHere_102) (n_ifeq hE (by decide) dX12_wordHere_105)))),
    (n_sq (n_bipush hE (by decide) dX12_wordHere_108) (n_ireturn hE rfl dX12_wordHere_110)),
    (n_sq (n_aload_n hE dX12_wordHere_111) (n_sq (n_ldc2 hE wt_1219 dX12_wordHere_112) (n_sq (n_cIv hE m_X12_isWord vc_X12_117 (show 1 + 1 ≤ 2 ∧ 8 + (6 + 11) + 21 ≤ 46 by decide) dX12_wordHere_115) (n_ifeq hE (by decide) dX12_wordHere_118)))),
    (n_sq (n_bipush hE (by decide) dX12_wordHere_121) (n_goto hE (by decide) dX12_wordHere_123)),
    (n_sq (n_aload_n hE dX12_wordHere_126) (n_sq (n_ldc2 hE wt_1220 dX12_wordHere_127) (n_sq (n_cIv hE m_X12_isWord vc_X12_117 (show 1 + 1 ≤ 2 ∧ 8 + (6 + 11) + 21 ≤ 46 by decide) dX12_wordHere_130) (n_ifeq hE (by decide) dX12_wordHere_133)))),
    (n_sq (n_bipush hE (by decide) dX12_wordHere_136) (n_goto hE (by decide) dX12_wordHere_138)),
    (n_sq (n_iconst hE (by decide) dX12_wordHere_141) n_fall),
    (n_ireturn hE rfl dX12_wordHere_142), trivial⟩
noncomputable def F_X12_wordHere (as : List XV) (w : XW) : Option (Int32 × XW) := (xF 1 bs_X12_wordHere as w).bind pI
theorem m_X12_wordHere : XM yX12_wordHere cX12_wordHere 1 (some .int) 2 46 (eI F_X12_wordHere) := xm_I (xm_of (by decide) s_X12_wordHere)
noncomputable def q_X12_wordHere_0 (w : XW) : Option XR := ev bs_X12_wordHere 0 ([some (.inr (11, 0))], [], w)
noncomputable def q_X12_wordHere_10 (w : XW) : Option XR := ev bs_X12_wordHere 10 ([none], [], w)
noncomputable def q_X12_wordHere_12 (w : XW) : Option XR := ev bs_X12_wordHere 12 ([some (.inr (11, 0))], [], w)
noncomputable def q_X12_wordHere_22 (w : XW) : Option XR := ev bs_X12_wordHere 22 ([none], [], w)
noncomputable def q_X12_wordHere_24 (w : XW) : Option XR := ev bs_X12_wordHere 24 ([some (.inr (11, 0))], [], w)
noncomputable def q_X12_wordHere_34 (w : XW) : Option XR := ev bs_X12_wordHere 34 ([none], [], w)
noncomputable def q_X12_wordHere_36 (w : XW) : Option XR := ev bs_X12_wordHere 36 ([some (.inr (11, 0))], [], w)
noncomputable def q_X12_wordHere_46 (w : XW) : Option XR := ev bs_X12_wordHere 46 ([none], [], w)
noncomputable def q_X12_wordHere_48 (w : XW) : Option XR := ev bs_X12_wordHere 48 ([some (.inr (11, 0))], [], w)
noncomputable def q_X12_wordHere_58 (w : XW) : Option XR := ev bs_X12_wordHere 58 ([none], [], w)
noncomputable def q_X12_wordHere_60 (w : XW) : Option XR := ev bs_X12_wordHere 60 ([some (.inr (11, 0))], [], w)
noncomputable def q_X12_wordHere_70 (w : XW) : Option XR := ev bs_X12_wordHere 70 ([none], [], w)
noncomputable def q_X12_wordHere_72 (w : XW) : Option XR := ev bs_X12_wordHere 72 ([some (.inr (11, 0))], [], w)
noncomputable def q_X12_wordHere_82 (w : XW) : Option XR := ev bs_X12_wordHere 82 ([none], [], w)
noncomputable def q_X12_wordHere_85 (w : XW) : Option XR := ev bs_X12_wordHere 85 ([some (.inr (11, 0))], [], w)
noncomputable def q_X12_wordHere_95 (w : XW) : Option XR := ev bs_X12_wordHere 95 ([none], [], w)
noncomputable def q_X12_wordHere_98 (w : XW) : Option XR := ev bs_X12_wordHere 98 ([some (.inr (11, 0))], [], w)
noncomputable def q_X12_wordHere_108 (w : XW) : Option XR := ev bs_X12_wordHere 108 ([none], [], w)
noncomputable def q_X12_wordHere_111 (w : XW) : Option XR := ev bs_X12_wordHere 111 ([some (.inr (11, 0))], [], w)
noncomputable def q_X12_wordHere_121 (w : XW) : Option XR := ev bs_X12_wordHere 121 ([none], [], w)
noncomputable def q_X12_wordHere_126 (w : XW) : Option XR := ev bs_X12_wordHere 126 ([some (.inr (11, 0))], [], w)
noncomputable def q_X12_wordHere_136 (w : XW) : Option XR := ev bs_X12_wordHere 136 ([none], [], w)
noncomputable def q_X12_wordHere_141 (w : XW) : Option XR := ev bs_X12_wordHere 141 ([none], [], w)
noncomputable def q_X12_wordHere_142 (s0 : Int32) (w : XW) : Option XR := ev bs_X12_wordHere 142 ([none], [.inl (.int s0)], w)
theorem e_X12_wordHere_0 (w : XW) : q_X12_wordHere_0 w = ((F_X12_isWord [.inr (11, 0), .inl (.long 123581014175598)] w).bind fun r0 => (bif decide (r0.1 = 0) then (q_X12_wordHere_12 r0.2) else (q_X12_wordHere_10 r0.2))) := (ev_eq _ _ _).trans rfl
theorem e_X12_wordHere_10 (w : XW) : q_X12_wordHere_10 w = (some (some (.inl (.int 0)), w)) := (ev_eq _ _ _).trans rfl
theorem e_X12_wordHere_12 (w : XW) : q_X12_wordHere_12 w = ((F_X12_isWord [.inr (11, 0), .inl (.long 1801807216)] w).bind fun r0 => (bif decide (r0.1 = 0) then (q_X12_wordHere_24 r0.2) else (q_X12_wordHere_22 r0.2))) := (ev_eq _ _ _).trans rfl
theorem e_X12_wordHere_22 (w : XW) : q_X12_wordHere_22 w = (some (some (.inl (.int 1)), w)) := (ev_eq _ _ _).trans rfl
theorem e_X12_wordHere_24 (w : XW) : q_X12_wordHere_24 w = ((F_X12_isWord [.inr (11, 0), .inl (.long 499917810803)] w).bind fun r0 => (bif decide (r0.1 = 0) then (q_X12_wordHere_36 r0.2) else (q_X12_wordHere_34 r0.2))) := (ev_eq _ _ _).trans rfl
theorem e_X12_wordHere_34 (w : XW) : q_X12_wordHere_34 w = (some (some (.inl (.int 2)), w)) := (ev_eq _ _ _).trans rfl
theorem e_X12_wordHere_36 (w : XW) : q_X12_wordHere_36 w = ((F_X12_isWord [.inr (11, 0), .inl (.long 1718971500)] w).bind fun r0 => (bif decide (r0.1 = 0) then (q_X12_wordHere_48 r0.2) else (q_X12_wordHere_46 r0.2))) := (ev_eq _ _ _).trans rfl
theorem e_X12_wordHere_46 (w : XW) : q_X12_wordHere_46 w = (some (some (.inl (.int 3)), w)) := (ev_eq _ _ _).trans rfl
theorem e_X12_wordHere_48 (w : XW) : q_X12_wordHere_48 w = ((F_X12_isWord [.inr (11, 0), .inl (.long 1919905645)] w).bind fun r0 => (bif decide (r0.1 = 0) then (q_X12_wordHere_60 r0.2) else (q_X12_wordHere_58 r0.2))) := (ev_eq _ _ _).trans rfl
theorem e_X12_wordHere_58 (w : XW) : q_X12_wordHere_58 w = (some (some (.inl (.int 4)), w)) := (ev_eq _ _ _).trans rfl
theorem e_X12_wordHere_60 (w : XW) : q_X12_wordHere_60 w = ((F_X12_isWord [.inr (11, 0), .inl (.long 1751474548)] w).bind fun r0 => (bif decide (r0.1 = 0) then (q_X12_wordHere_72 r0.2) else (q_X12_wordHere_70 r0.2))) := (ev_eq _ _ _).trans rfl
theorem e_X12_wordHere_70 (w : XW) : q_X12_wordHere_70 w = (some (some (.inl (.int 5)), w)) := (ev_eq _ _ _).trans rfl
theorem e_X12_wordHere_72 (w : XW) : q_X12_wordHere_72 w = ((F_X12_isWord [.inr (11, 0), .inl (.long 427071335539)] w).bind fun r0 => (bif decide (r0.1 = 0) then (q_X12_wordHere_85 r0.2) else (q_X12_wordHere_82 r0.2))) := (ev_eq _ _ _).trans rfl
theorem e_X12_wordHere_82 (w : XW) : q_X12_wordHere_82 w = (some (some (.inl (.int 6)), w)) := (ev_eq _ _ _).trans rfl
theorem e_X12_wordHere_85 (w : XW) : q_X12_wordHere_85 w = ((F_X12_isWord [.inr (11, 0), .inl (.long 108187867505765)] w).bind fun r0 => (bif decide (r0.1 = 0) then (q_X12_wordHere_98 r0.2) else (q_X12_wordHere_95 r0.2))) := (ev_eq _ _ _).trans rfl
theorem e_X12_wordHere_95 (w : XW) : q_X12_wordHere_95 w = (some (some (.inl (.int 7)), w)) := (ev_eq _ _ _).trans rfl
theorem e_X12_wordHere_98 (w : XW) : q_X12_wordHere_98 w = ((F_X12_isWord [.inr (11, 0), .inl (.long 122545758368371)] w).bind fun r0 => (bif decide (r0.1 = 0) then (q_X12_wordHere_111 r0.2) else (q_X12_wordHere_108 r0.2))) := (ev_eq _ _ _).trans rfl
theorem e_X12_wordHere_108 (w : XW) : q_X12_wordHere_108 w = (some (some (.inl (.int 8)), w)) := (ev_eq _ _ _).trans rfl
theorem e_X12_wordHere_111 (w : XW) : q_X12_wordHere_111 w = ((F_X12_isWord [.inr (11, 0), .inl (.long 422877228660)] w).bind fun r0 => (bif decide (r0.1 = 0) then (q_X12_wordHere_126 r0.2) else (q_X12_wordHere_121 r0.2))) := (ev_eq _ _ _).trans rfl
theorem e_X12_wordHere_121 (w : XW) : q_X12_wordHere_121 w = (q_X12_wordHere_142 9 w) := (ev_eq _ _ _).trans rfl
theorem e_X12_wordHere_126 (w : XW) : q_X12_wordHere_126 w = ((F_X12_isWord [.inr (11, 0), .inl (.long 474214787188)] w).bind fun r0 => (bif decide (r0.1 = 0) then (q_X12_wordHere_141 r0.2) else (q_X12_wordHere_136 r0.2))) := (ev_eq _ _ _).trans rfl
theorem e_X12_wordHere_136 (w : XW) : q_X12_wordHere_136 w = (q_X12_wordHere_142 10 w) := (ev_eq _ _ _).trans rfl
theorem e_X12_wordHere_141 (w : XW) : q_X12_wordHere_141 w = (q_X12_wordHere_142 (-1) w) := (ev_eq _ _ _).trans rfl
theorem e_X12_wordHere_142 (s0 : Int32) (w : XW) : q_X12_wordHere_142 s0 w = (some (some (.inl (.int s0)), w)) := (ev_eq _ _ _).trans rfl
theorem f_X12_wordHere (w : XW) : F_X12_wordHere [.inr (11, 0)] w = (q_X12_wordHere_0 w).bind pI := rfl

-- WinterKeepModel.puts(II)V
theorem dX12_puts_0 : decode cX12_puts 0 = .ok (.aload_n 0, 1) := by decide +kernel
theorem dX12_puts_1 : decode cX12_puts 1 = .ok (.getfield 13, 3) := by decide +kernel
theorem dX12_puts_4 : decode cX12_puts 4 = .ok (.sipush 400, 3) := by decide +kernel
theorem dX12_puts_7 : decode cX12_puts 7 = .ok (.aload_n 0, 1) := by decide +kernel
theorem dX12_puts_8 : decode cX12_puts 8 = .ok (.getfield 159, 3) := by decide +kernel
theorem dX12_puts_11 : decode cX12_puts 11 = .ok (.imul, 1) := by decide +kernel
theorem dX12_puts_12 : decode cX12_puts 12 = .ok (.aload_n 0, 1) := by decide +kernel
theorem dX12_puts_13 : decode cX12_puts 13 = .ok (.getfield 17, 3) := by decide +kernel
theorem dX12_puts_16 : decode cX12_puts 16 = .ok (.aload_n 0, 1) := by decide +kernel
theorem dX12_puts_17 : decode cX12_puts 17 = .ok (.getfield 159, 3) := by decide +kernel
theorem dX12_puts_20 : decode cX12_puts 20 = .ok (.iaload, 1) := by decide +kernel
theorem dX12_puts_21 : decode cX12_puts 21 = .ok (.iadd, 1) := by decide +kernel
theorem dX12_puts_22 : decode cX12_puts 22 = .ok (.iload_n 1, 1) := by decide +kernel
theorem dX12_puts_23 : decode cX12_puts 23 = .ok (.bipush 16, 2) := by decide +kernel
theorem dX12_puts_25 : decode cX12_puts 25 = .ok (.iload_n 2, 1) := by decide +kernel
theorem dX12_puts_26 : decode cX12_puts 26 = .ok (.imul, 1) := by decide +kernel
theorem dX12_puts_27 : decode cX12_puts 27 = .ok (.iadd, 1) := by decide +kernel
theorem dX12_puts_28 : decode cX12_puts 28 = .ok (.iastore, 1) := by decide +kernel
theorem dX12_puts_29 : decode cX12_puts 29 = .ok (.aload_n 0, 1) := by decide +kernel
theorem dX12_puts_30 : decode cX12_puts 30 = .ok (.getfield 17, 3) := by decide +kernel
theorem dX12_puts_33 : decode cX12_puts 33 = .ok (.aload_n 0, 1) := by decide +kernel
theorem dX12_puts_34 : decode cX12_puts 34 = .ok (.getfield 159, 3) := by decide +kernel
theorem dX12_puts_37 : decode cX12_puts 37 = .ok (.dup2, 1) := by decide +kernel
theorem dX12_puts_38 : decode cX12_puts 38 = .ok (.iaload, 1) := by decide +kernel
theorem dX12_puts_39 : decode cX12_puts 39 = .ok (.iconst 1, 1) := by decide +kernel
theorem dX12_puts_40 : decode cX12_puts 40 = .ok (.iadd, 1) := by decide +kernel
theorem dX12_puts_41 : decode cX12_puts 41 = .ok (.iastore, 1) := by decide +kernel
theorem dX12_puts_42 : decode cX12_puts 42 = .ok (.return_, 1) := by decide +kernel
noncomputable def bs_X12_puts : List (Nat × XB) := [
  (0, (sq (xLA 0) (sq (xGS 11 42 1 0) (sq (xC (.int 400)) (sq (xLA 0) (sq (xGI 11 11) (sq (xI2 (· * ·)) (sq (xLA 0) (sq (xGS 11 43 1 0) (sq (xLA 0) (sq (xGI 11 11) (sq (xAI 43 7) (sq (xI2 (· + ·)) (sq (xLI 1) (sq (xC (.int 16)) (sq (xLI 2) (sq (xI2 (· * ·)) (sq (xI2 (· + ·)) (sq (xTI 42 2400 (fun x => x)) (sq (xLA 0) (sq (xGS 11 43 1 0) (sq (xLA 0) (sq (xGI 11 11) (sq (xDup2) (sq (xAI 43 7) (sq (xC (.int 1)) (sq (xI2 (· + ·)) (sq (xTI 43 7 (fun x => x)) tRV))))))))))))))))))))))))))))]
set_option maxRecDepth 100000 in
set_option maxHeartbeats 4000000 in
theorem s_X12_puts : ∀ X : XCtx, XE X → X.2.2.1.1 = cX12_puts → X.2.2.1.2.1 = 3 → X.2.2.1.2.2.1 = yX12_puts.cls → X.2.2.1.2.2.2.1 = none → X.1.2.2.2.1 = { frames := 0, cells := 0, slots := 0, locals := 0 } → SndBs X bs_X12_puts := by
  rintro ⟨⟨p, l, e, R, s⟩, Y, ⟨cc, nL, own, ret, Ts⟩, Z⟩ hE h1 h2 h3 h4 h5
  dsimp only at h1 h2 h3 h4 h5
  subst h1 h2 h3 h4 h5
  exact ⟨(n_sq (n_aload_n hE dX12_puts_0) (n_sq (n_getS hE xk_11 (k := 3) rfl (by decide) rfl wt_963 dX12_puts_1) (n_sq (n_sipush hE (by decide) dX12_puts_4) (n_sq (n_aload_n hE dX12_puts_7) (n_sq (n_getI hE xk_11 (k := 11) rfl (by decide) rfl wt_971 dX12_puts_8) (n_sq (n_imul hE dX12_puts_11) (n_sq (n_aload_n hE dX12_puts_12) (n_sq (n_getS hE xk_11 (k := 4) rfl (by decide) rfl wt_964 dX12_puts_13) (n_sq (n_aload_n hE dX12_puts_16) (n_sq (n_getI hE xk_11 (k := 11) rfl (by decide) rfl wt_971 dX12_puts_17) (n_sq (n_iald hE rfl (by decide) dX12_puts_20) (n_sq (n_iadd hE dX12_puts_21) (n_sq (n_iload_n hE dX12_puts_22) (n_sq (n_bipush hE (by decide) dX12_puts_23) (n_sq (n_iload_n hE dX12_puts_25) (n_sq (n_imul hE dX12_puts_26) (n_sq (n_iadd hE dX12_puts_27) (n_sq (n_iast hE rfl (by decide) dX12_puts_28) (n_sq (n_aload_n hE dX12_puts_29) (n_sq (n_getS hE xk_11 (k := 4) rfl (by decide) rfl wt_964 dX12_puts_30) (n_sq (n_aload_n hE dX12_puts_33) (n_sq (n_getI hE xk_11 (k := 11) rfl (by decide) rfl wt_971 dX12_puts_34) (n_sq (n_dup2 hE dX12_puts_37) (n_sq (n_iald hE rfl (by decide) dX12_puts_38) (n_sq (n_iconst hE (by decide) dX12_puts_39) (n_sq (n_iadd hE dX12_puts_40) (n_sq (n_iast hE rfl (by decide) dX12_puts_41) (n_vreturn hE rfl dX12_puts_42)))))))))))))))))))))))))))), trivial⟩
noncomputable def F_X12_puts (as : List XV) (w : XW) : Option XW := (xF 3 bs_X12_puts as w).bind pV
theorem m_X12_puts : XM yX12_puts cX12_puts 3 none 0 0 (eV F_X12_puts) := xm_V (xm_of (by decide) s_X12_puts)
noncomputable def q_X12_puts_0 (x1 : Int32) (x2 : Int32) (w : XW) : Option XR := ev bs_X12_puts 0 ([some (.inr (11, 0)), some (.inl (.int x1)), some (.inl (.int x2))], [], w)
theorem e_X12_puts_0 (x1 : Int32) (x2 : Int32) (w : XW) : q_X12_puts_0 x1 x2 w = (if (gI w 11 0 11) < 0 ∨ 7 ≤ (gI w 11 0 11).toNatClampNeg then none else (if ((400 * (gI w 11 0 11)) + (gI w 43 0 (gI w 11 0 11).toNatClampNeg)) < 0 ∨ 2400 ≤ ((400 * (gI w 11 0 11)) + (gI w 43 0 (gI w 11 0 11).toNatClampNeg)).toNatClampNeg then none else (if (gI (sI w 42 0 (((400 * (gI w 11 0 11)) + (gI w 43 0 (gI w 11 0 11).toNatClampNeg)).toNatClampNeg) (x1 + (16 * x2))) 11 0 11) < 0 ∨ 7 ≤ (gI (sI w 42 0 (((400 * (gI w 11 0 11)) + (gI w 43 0 (gI w 11 0 11).toNatClampNeg)).toNatClampNeg) (x1 + (16 * x2))) 11 0 11).toNatClampNeg then none else (if (gI (sI w 42 0 (((400 * (gI w 11 0 11)) + (gI w 43 0 (gI w 11 0 11).toNatClampNeg)).toNatClampNeg) (x1 + (16 * x2))) 11 0 11) < 0 ∨ 7 ≤ (gI (sI w 42 0 (((400 * (gI w 11 0 11)) + (gI w 43 0 (gI w 11 0 11).toNatClampNeg)).toNatClampNeg) (x1 + (16 * x2))) 11 0 11).toNatClampNeg then none else (some (none, sI (sI w 42 0 (((400 * (gI w 11 0 11)) + (gI w 43 0 (gI w 11 0 11).toNatClampNeg)).toNatClampNeg) (x1 + (16 * x2))) 43 0 ((gI (sI w 42 0 (((400 * (gI w 11 0 11)) + (gI w 43 0 (gI w 11 0 11).toNatClampNeg)).toNatClampNeg) (x1 + (16 * x2))) 11 0 11).toNatClampNeg) ((gI (sI w 42 0 (((400 * (gI w 11 0 11)) + (gI w 43 0 (gI w 11 0 11).toNatClampNeg)).toNatClampNeg) (x1 + (16 * x2))) 43 0 (gI (sI w 42 0 (((400 * (gI w 11 0 11)) + (gI w 43 0 (gI w 11 0 11).toNatClampNeg)).toNatClampNeg) (x1 + (16 * x2))) 11 0 11).toNatClampNeg) + 1))))))) := (ev_eq _ _ _).trans rfl
theorem f_X12_puts (x1 : Int32) (x2 : Int32) (w : XW) : F_X12_puts [.inr (11, 0), .inl (.int x1), .inl (.int x2)] w = (q_X12_puts_0 x1 x2 w).bind pV := rfl

-- WinterKeepModel.makes(I)Z
theorem dX12_makes_0 : decode cX12_makes 0 = .ok (.aload_n 0, 1) := by decide +kernel
theorem dX12_makes_1 : decode cX12_makes 1 = .ok (.getfield 162, 3) := by decide +kernel
theorem dX12_makes_4 : decode cX12_makes 4 = .ok (.bipush 60, 2) := by decide +kernel
theorem dX12_makes_6 : decode cX12_makes 6 = .ok (.if_icmp .ne 10, 3) := by decide +kernel
theorem dX12_makes_9 : decode cX12_makes 9 = .ok (.aload_n 0, 1) := by decide +kernel
theorem dX12_makes_10 : decode cX12_makes 10 = .ok (.iconst 3, 1) := by decide +kernel
theorem dX12_makes_11 : decode cX12_makes 11 = .ok (.iload_n 1, 1) := by decide +kernel
theorem dX12_makes_12 : decode cX12_makes 12 = .ok (.invokevirtual 127, 3) := by decide +kernel
theorem dX12_makes_15 : decode cX12_makes 15 = .ok (.ireturn, 1) := by decide +kernel
theorem dX12_makes_16 : decode cX12_makes 16 = .ok (.aload_n 0, 1) := by decide +kernel
theorem dX12_makes_17 : decode cX12_makes 17 = .ok (.dup, 1) := by decide +kernel
theorem dX12_makes_18 : decode cX12_makes 18 = .ok (.getfield 162, 3) := by decide +kernel
theorem dX12_makes_21 : decode cX12_makes 21 = .ok (.iconst 1, 1) := by decide +kernel
theorem dX12_makes_22 : decode cX12_makes 22 = .ok (.iadd, 1) := by decide +kernel
theorem dX12_makes_23 : decode cX12_makes 23 = .ok (.putfield 162, 3) := by decide +kernel
theorem dX12_makes_26 : decode cX12_makes 26 = .ok (.iconst 1, 1) := by decide +kernel
theorem dX12_makes_27 : decode cX12_makes 27 = .ok (.ireturn, 1) := by decide +kernel
noncomputable def bs_X12_makes : List (Nat × XB) := [
  (0, (sq (xLA 0) (sq (xGI 11 12) (sq (xC (.int 60)) (tIf2 (fun x y => decide (¬ x = y)) 16 [true, false] 9 [true, true]))))),
  (9, (sq (xLA 0) (sq (xC (.int 3)) (sq (xLI 1) (sq (xCI 11 3 F_X12_fails) tRZ))))),
  (16, (sq (xLA 0) (sq (xDup) (sq (xGI 11 12) (sq (xC (.int 1)) (sq (xI2 (· + ·)) (sq (xPI 11 12) (sq (xC (.int 1)) tRZ))))))))]
set_option maxRecDepth 100000 in
set_option maxHeartbeats 4000000 in
theorem s_X12_makes : ∀ X : XCtx, XE X → X.2.2.1.1 = cX12_makes → X.2.2.1.2.1 = 2 → X.2.2.1.2.2.1 = yX12_makes.cls → X.2.2.1.2.2.2.1 = (some .boolean) → X.1.2.2.2.1 = { frames := 1, cells := 0, slots := 0, locals := 22 } → SndBs X bs_X12_makes := by
  rintro ⟨⟨p, l, e, R, s⟩, Y, ⟨cc, nL, own, ret, Ts⟩, Z⟩ hE h1 h2 h3 h4 h5
  dsimp only at h1 h2 h3 h4 h5
  subst h1 h2 h3 h4 h5
  exact ⟨(n_sq (n_aload_n hE dX12_makes_0) (n_sq (n_getI hE xk_11 (k := 12) rfl (by decide) rfl wt_972 dX12_makes_1) (n_sq (n_bipush hE (by decide) dX12_makes_4) (n_ifcne hE (by decide) dX12_makes_6)))),
    (n_sq (n_aload_n hE dX12_makes_9) (n_sq (n_iconst hE (by decide) dX12_makes_10) (n_sq (n_iload_n hE dX12_makes_11) (n_sq (n_cIv hE m_X12_fails vc_X12_127 (show 0 + 1 ≤ 1 ∧ 8 + (3 + 11) + 0 ≤ 22 by decide) dX12_makes_12) (n_zreturn hE rfl dX12_makes_15))))),
    (n_sq (n_aload_n hE dX12_makes_16) (n_sq (n_dup hE dX12_makes_17) (n_sq (n_getI hE xk_11 (k := 12) rfl (by decide) rfl wt_972 dX12_makes_18) (n_sq (n_iconst hE (by decide) dX12_makes_21) (n_sq (n_iadd hE dX12_makes_22) (n_sq (n_putI hE xk_11 (k := 12) rfl (by decide) rfl rfl (tyX12_ok 12 (by decide)) wt_972 dX12_makes_23) (n_sq (n_iconst hE (by decide) dX12_makes_26) (n_zreturn hE rfl dX12_makes_27)))))))), trivial⟩
noncomputable def F_X12_makes (as : List XV) (w : XW) : Option (Int32 × XW) := (xF 2 bs_X12_makes as w).bind pI
theorem m_X12_makes : XM yX12_makes cX12_makes 2 (some .boolean) 1 22 (eI F_X12_makes) := xm_I (xm_of (by decide) s_X12_makes)
noncomputable def q_X12_makes_0 (x1 : Int32) (w : XW) : Option XR := ev bs_X12_makes 0 ([some (.inr (11, 0)), some (.inl (.int x1))], [], w)
noncomputable def q_X12_makes_9 (x1 : Int32) (w : XW) : Option XR := ev bs_X12_makes 9 ([some (.inr (11, 0)), some (.inl (.int x1))], [], w)
noncomputable def q_X12_makes_16 (w : XW) : Option XR := ev bs_X12_makes 16 ([some (.inr (11, 0)), none], [], w)
theorem e_X12_makes_0 (x1 : Int32) (w : XW) : q_X12_makes_0 x1 w = (bif decide (¬ (gI w 11 0 12) = 60) then (q_X12_makes_16 w) else (q_X12_makes_9 x1 w)) := (ev_eq _ _ _).trans rfl
theorem e_X12_makes_9 (x1 : Int32) (w : XW) : q_X12_makes_9 x1 w = ((F_X12_fails [.inr (11, 0), .inl (.int 3), .inl (.int x1)] w).bind fun r0 => (if r0.1 = 0 ∨ r0.1 = 1 then some (some (.inl (.int r0.1)), r0.2) else none)) := (ev_eq _ _ _).trans rfl
theorem e_X12_makes_16 (w : XW) : q_X12_makes_16 w = (some (some (.inl (.int 1)), sI w 11 0 12 ((gI w 11 0 12) + 1))) := (ev_eq _ _ _).trans rfl
theorem f_X12_makes (x1 : Int32) (w : XW) : F_X12_makes [.inr (11, 0), .inl (.int x1)] w = (q_X12_makes_0 x1 w).bind pI := rfl

-- WinterKeepModel.opens(I)Z
theorem dX12_opens_0 : decode cX12_opens 0 = .ok (.aload_n 0, 1) := by decide +kernel
theorem dX12_opens_1 : decode cX12_opens 1 = .ok (.getfield 165, 3) := by decide +kernel
theorem dX12_opens_4 : decode cX12_opens 4 = .ok (.bipush 10, 2) := by decide +kernel
theorem dX12_opens_6 : decode cX12_opens 6 = .ok (.if_icmp .ne 13, 3) := by decide +kernel
theorem dX12_opens_9 : decode cX12_opens 9 = .ok (.aload_n 0, 1) := by decide +kernel
theorem dX12_opens_10 : decode cX12_opens 10 = .ok (.iconst 2, 1) := by decide +kernel
theorem dX12_opens_11 : decode cX12_opens 11 = .ok (.aload_n 0, 1) := by decide +kernel
theorem dX12_opens_12 : decode cX12_opens 12 = .ok (.getfield 106, 3) := by decide +kernel
theorem dX12_opens_15 : decode cX12_opens 15 = .ok (.invokevirtual 127, 3) := by decide +kernel
theorem dX12_opens_18 : decode cX12_opens 18 = .ok (.ireturn, 1) := by decide +kernel
theorem dX12_opens_19 : decode cX12_opens 19 = .ok (.aload_n 0, 1) := by decide +kernel
theorem dX12_opens_20 : decode cX12_opens 20 = .ok (.dup, 1) := by decide +kernel
theorem dX12_opens_21 : decode cX12_opens 21 = .ok (.getfield 165, 3) := by decide +kernel
theorem dX12_opens_24 : decode cX12_opens 24 = .ok (.iconst 1, 1) := by decide +kernel
theorem dX12_opens_25 : decode cX12_opens 25 = .ok (.iadd, 1) := by decide +kernel
theorem dX12_opens_26 : decode cX12_opens 26 = .ok (.putfield 165, 3) := by decide +kernel
theorem dX12_opens_29 : decode cX12_opens 29 = .ok (.aload_n 0, 1) := by decide +kernel
theorem dX12_opens_30 : decode cX12_opens 30 = .ok (.getfield 29, 3) := by decide +kernel
theorem dX12_opens_33 : decode cX12_opens 33 = .ok (.aload_n 0, 1) := by decide +kernel
theorem dX12_opens_34 : decode cX12_opens 34 = .ok (.getfield 168, 3) := by decide +kernel
theorem dX12_opens_37 : decode cX12_opens 37 = .ok (.iload_n 1, 1) := by decide +kernel
theorem dX12_opens_38 : decode cX12_opens 38 = .ok (.iastore, 1) := by decide +kernel
theorem dX12_opens_39 : decode cX12_opens 39 = .ok (.aload_n 0, 1) := by decide +kernel
theorem dX12_opens_40 : decode cX12_opens 40 = .ok (.dup, 1) := by decide +kernel
theorem dX12_opens_41 : decode cX12_opens 41 = .ok (.getfield 168, 3) := by decide +kernel
theorem dX12_opens_44 : decode cX12_opens 44 = .ok (.iconst 1, 1) := by decide +kernel
theorem dX12_opens_45 : decode cX12_opens 45 = .ok (.iadd, 1) := by decide +kernel
theorem dX12_opens_46 : decode cX12_opens 46 = .ok (.putfield 168, 3) := by decide +kernel
theorem dX12_opens_49 : decode cX12_opens 49 = .ok (.iconst 1, 1) := by decide +kernel
theorem dX12_opens_50 : decode cX12_opens 50 = .ok (.ireturn, 1) := by decide +kernel
noncomputable def bs_X12_opens : List (Nat × XB) := [
  (0, (sq (xLA 0) (sq (xGI 11 13) (sq (xC (.int 10)) (tIf2 (fun x y => decide (¬ x = y)) 19 [true, true] 9 [true, false]))))),
  (9, (sq (xLA 0) (sq (xC (.int 2)) (sq (xLA 0) (sq (xGI 11 8) (sq (xCI 11 3 F_X12_fails) tRZ)))))),
  (19, (sq (xLA 0) (sq (xDup) (sq (xGI 11 13) (sq (xC (.int 1)) (sq (xI2 (· + ·)) (sq (xPI 11 13) (sq (xLA 0) (sq (xGS 11 47 1 0) (sq (xLA 0) (sq (xGI 11 16) (sq (xLI 1) (sq (xTI 47 400 (fun x => x)) (sq (xLA 0) (sq (xDup) (sq (xGI 11 16) (sq (xC (.int 1)) (sq (xI2 (· + ·)) (sq (xPI 11 16) (sq (xC (.int 1)) tRZ))))))))))))))))))))]
set_option maxRecDepth 100000 in
set_option maxHeartbeats 4000000 in
theorem s_X12_opens : ∀ X : XCtx, XE X → X.2.2.1.1 = cX12_opens → X.2.2.1.2.1 = 2 → X.2.2.1.2.2.1 = yX12_opens.cls → X.2.2.1.2.2.2.1 = (some .boolean) → X.1.2.2.2.1 = { frames := 1, cells := 0, slots := 0, locals := 22 } → SndBs X bs_X12_opens := by
  rintro ⟨⟨p, l, e, R, s⟩, Y, ⟨cc, nL, own, ret, Ts⟩, Z⟩ hE h1 h2 h3 h4 h5
  dsimp only at h1 h2 h3 h4 h5
  subst h1 h2 h3 h4 h5
  exact ⟨(n_sq (n_aload_n hE dX12_opens_0) (n_sq (n_getI hE xk_11 (k := 13) rfl (by decide) rfl wt_973 dX12_opens_1) (n_sq (n_bipush hE (by decide) dX12_opens_4) (n_ifcne hE (by decide) dX12_opens_6)))),
    (n_sq (n_aload_n hE dX12_opens_9) (n_sq (n_iconst hE (by decide) dX12_opens_10) (n_sq (n_aload_n hE dX12_opens_11) (n_sq (n_getI hE xk_11 (k := 8) rfl (by decide) rfl wt_968 dX12_opens_12) (n_sq (n_cIv hE m_X12_fails vc_X12_127 (show 0 + 1 ≤ 1 ∧ 8 + (3 + 11) + 0 ≤ 22 by decide) dX12_opens_15) (n_zreturn hE rfl dX12_opens_18)))))),
    (n_sq (n_aload_n hE dX12_opens_19) (n_sq (n_dup hE dX12_opens_20) (n_sq (n_getI hE xk_11 (k := 13) rfl (by decide) rfl wt_973 dX12_opens_21) (n_sq (n_iconst hE (by decide) dX12_opens_24) (n_sq (n_iadd hE dX12_opens_25) (n_sq (n_putI hE xk_11 (k := 13) rfl (by decide) rfl rfl (tyX12_ok 13 (by decide)) wt_973 dX12_opens_26) (n_sq (n_aload_n hE dX12_opens_29) (n_sq (n_getS hE xk_11 (k := 15) rfl (by decide) rfl wt_975 dX12_opens_30) (n_sq (n_aload_n hE dX12_opens_33) (n_sq (n_getI hE xk_11 (k := 16) rfl (by decide) rfl wt_976 dX12_opens_34) (n_sq (n_iload_n hE dX12_opens_37) (n_sq (n_iast hE rfl (by decide) dX12_opens_38) (n_sq (n_aload_n hE dX12_opens_39) (n_sq (n_dup hE dX12_opens_40) (n_sq (n_getI hE xk_11 (k := 16) rfl (by decide) rfl wt_976 dX12_opens_41) (n_sq (n_iconst hE (by decide) dX12_opens_44) (n_sq (n_iadd hE dX12_opens_45) (n_sq (n_putI hE xk_11 (k := 16) rfl (by decide) rfl rfl (tyX12_ok 16 (by decide)) wt_976 dX12_opens_46) (n_sq (n_iconst hE (by decide) dX12_opens_49) (n_zreturn hE rfl dX12_opens_50)))))))))))))))))))), trivial⟩
noncomputable def F_X12_opens (as : List XV) (w : XW) : Option (Int32 × XW) := (xF 2 bs_X12_opens as w).bind pI
theorem m_X12_opens : XM yX12_opens cX12_opens 2 (some .boolean) 1 22 (eI F_X12_opens) := xm_I (xm_of (by decide) s_X12_opens)
noncomputable def q_X12_opens_0 (x1 : Int32) (w : XW) : Option XR := ev bs_X12_opens 0 ([some (.inr (11, 0)), some (.inl (.int x1))], [], w)
noncomputable def q_X12_opens_9 (w : XW) : Option XR := ev bs_X12_opens 9 ([some (.inr (11, 0)), none], [], w)
noncomputable def q_X12_opens_19 (x1 : Int32) (w : XW) : Option XR := ev bs_X12_opens 19 ([some (.inr (11, 0)), some (.inl (.int x1))], [], w)
theorem e_X12_opens_0 (x1 : Int32) (w : XW) : q_X12_opens_0 x1 w = (bif decide (¬ (gI w 11 0 13) = 10) then (q_X12_opens_19 x1 w) else (q_X12_opens_9 w)) := (ev_eq _ _ _).trans rfl
theorem e_X12_opens_9 (w : XW) : q_X12_opens_9 w = ((F_X12_fails [.inr (11, 0), .inl (.int 2), .inl (.int (gI w 11 0 8))] w).bind fun r0 => (if r0.1 = 0 ∨ r0.1 = 1 then some (some (.inl (.int r0.1)), r0.2) else none)) := (ev_eq _ _ _).trans rfl
theorem e_X12_opens_19 (x1 : Int32) (w : XW) : q_X12_opens_19 x1 w = (if (gI (sI w 11 0 13 ((gI w 11 0 13) + 1)) 11 0 16) < 0 ∨ 400 ≤ (gI (sI w 11 0 13 ((gI w 11 0 13) + 1)) 11 0 16).toNatClampNeg then none else (some (some (.inl (.int 1)), sI (sI (sI w 11 0 13 ((gI w 11 0 13) + 1)) 47 0 ((gI (sI w 11 0 13 ((gI w 11 0 13) + 1)) 11 0 16).toNatClampNeg) x1) 11 0 16 ((gI (sI (sI w 11 0 13 ((gI w 11 0 13) + 1)) 47 0 ((gI (sI w 11 0 13 ((gI w 11 0 13) + 1)) 11 0 16).toNatClampNeg) x1) 11 0 16) + 1)))) := (ev_eq _ _ _).trans rfl
theorem f_X12_opens (x1 : Int32) (w : XW) : F_X12_opens [.inr (11, 0), .inl (.int x1)] w = (q_X12_opens_0 x1 w).bind pI := rfl

-- WinterKeepModel.strength(I)I
theorem dX12_strength_0 : decode cX12_strength 0 = .ok (.iload_n 0, 1) := by decide +kernel
theorem dX12_strength_1 : decode cX12_strength 1 = .ok (.bipush 13, 2) := by decide +kernel
theorem dX12_strength_3 : decode cX12_strength 3 = .ok (.if_icmp .ne 7, 3) := by decide +kernel
theorem dX12_strength_6 : decode cX12_strength 6 = .ok (.iconst 1, 1) := by decide +kernel
theorem dX12_strength_7 : decode cX12_strength 7 = .ok (.goto 24, 3) := by decide +kernel
theorem dX12_strength_10 : decode cX12_strength 10 = .ok (.iload_n 0, 1) := by decide +kernel
theorem dX12_strength_11 : decode cX12_strength 11 = .ok (.bipush 12, 2) := by decide +kernel
theorem dX12_strength_13 : decode cX12_strength 13 = .ok (.if_icmp .ne 7, 3) := by decide +kernel
theorem dX12_strength_16 : decode cX12_strength 16 = .ok (.iconst 2, 1) := by decide +kernel
theorem dX12_strength_17 : decode cX12_strength 17 = .ok (.goto 14, 3) := by decide +kernel
theorem dX12_strength_20 : decode cX12_strength 20 = .ok (.iload_n 0, 1) := by decide +kernel
theorem dX12_strength_21 : decode cX12_strength 21 = .ok (.bipush 11, 2) := by decide +kernel
theorem dX12_strength_23 : decode cX12_strength 23 = .ok (.if_icmp .ne 7, 3) := by decide +kernel
theorem dX12_strength_26 : decode cX12_strength 26 = .ok (.iconst 3, 1) := by decide +kernel
theorem dX12_strength_27 : decode cX12_strength 27 = .ok (.goto 4, 3) := by decide +kernel
theorem dX12_strength_30 : decode cX12_strength 30 = .ok (.iconst 0, 1) := by decide +kernel
theorem dX12_strength_31 : decode cX12_strength 31 = .ok (.ireturn, 1) := by decide +kernel
noncomputable def bs_X12_strength : List (Nat × XB) := [
  (0, (sq (xLI 0) (sq (xC (.int 13)) (tIf2 (fun x y => decide (¬ x = y)) 10 [true] 6 [false])))),
  (6, (sq (xC (.int 1)) (tGo 31 [false]))),
  (10, (sq (xLI 0) (sq (xC (.int 12)) (tIf2 (fun x y => decide (¬ x = y)) 20 [true] 16 [false])))),
  (16, (sq (xC (.int 2)) (tGo 31 [false]))),
  (20, (sq (xLI 0) (sq (xC (.int 11)) (tIf2 (fun x y => decide (¬ x = y)) 30 [false] 26 [false])))),
  (26, (sq (xC (.int 3)) (tGo 31 [false]))),
  (30, (sq (xC (.int 0)) (tGo 31 [false]))),
  (31, tRI)]
set_option maxRecDepth 100000 in
set_option maxHeartbeats 4000000 in
theorem s_X12_strength : ∀ X : XCtx, XE X → X.2.2.1.1 = cX12_strength → X.2.2.1.2.1 = 1 → X.2.2.1.2.2.1 = yX12_strength.cls → X.2.2.1.2.2.2.1 = (some .int) → X.1.2.2.2.1 = { frames := 0, cells := 0, slots := 0, locals := 0 } → SndBs X bs_X12_strength := by
  rintro ⟨⟨p, l, e, R, s⟩, Y, ⟨cc, nL, own, ret, Ts⟩, Z⟩ hE h1 h2 h3 h4 h5
  dsimp only at h1 h2 h3 h4 h5
  subst h1 h2 h3 h4 h5
  exact ⟨(n_sq (n_iload_n hE dX12_strength_0) (n_sq (n_bipush hE (by decide) dX12_strength_1) (n_ifcne hE (by decide) dX12_strength_3))),
    (n_sq (n_iconst hE (by decide) dX12_strength_6) (n_goto hE (by decide) dX12_strength_7)),
    (n_sq (n_iload_n hE dX12_strength_10) (n_sq (n_bipush hE (by decide) dX12_strength_11) (n_ifcne hE (by decide) dX12_strength_13))),
    (n_sq (n_iconst hE (by decide) dX12_strength_16) (n_goto hE (by decide) dX12_strength_17)),
    (n_sq (n_iload_n hE dX12_strength_20) (n_sq (n_bipush hE (by decide) dX12_strength_21) (n_ifcne hE (by decide) dX12_strength_23))),
    (n_sq (n_iconst hE (by decide) dX12_strength_26) (n_goto hE (by decide) dX12_strength_27)),
    (n_sq (n_iconst hE (by decide) dX12_strength_30) n_fall),
    (n_ireturn hE rfl dX12_strength_31), trivial⟩
noncomputable def F_X12_strength (as : List XV) (w : XW) : Option (Int32 × XW) := (xF 1 bs_X12_strength as w).bind pI
theorem m_X12_strength : XM yX12_strength cX12_strength 1 (some .int) 0 0 (eI F_X12_strength) := xm_I (xm_of (by decide) s_X12_strength)
noncomputable def q_X12_strength_0 (x0 : Int32) (w : XW) : Option XR := ev bs_X12_strength 0 ([some (.inl (.int x0))], [], w)
noncomputable def q_X12_strength_6 (w : XW) : Option XR := ev bs_X12_strength 6 ([none], [], w)
noncomputable def q_X12_strength_10 (x0 : Int32) (w : XW) : Option XR := ev bs_X12_strength 10 ([some (.inl (.int x0))], [], w)
noncomputable def q_X12_strength_16 (w : XW) : Option XR := ev bs_X12_strength 16 ([none], [], w)
noncomputable def q_X12_strength_20 (x0 : Int32) (w : XW) : Option XR := ev bs_X12_strength 20 ([some (.inl (.int x0))], [], w)
noncomputable def q_X12_strength_26 (w : XW) : Option XR := ev bs_X12_strength 26 ([none], [], w)
noncomputable def q_X12_strength_30 (w : XW) : Option XR := ev bs_X12_strength 30 ([none], [], w)
noncomputable def q_X12_strength_31 (s0 : Int32) (w : XW) : Option XR := ev bs_X12_strength 31 ([none], [.inl (.int s0)], w)
theorem e_X12_strength_0 (x0 : Int32) (w : XW) : q_X12_strength_0 x0 w = (bif decide (¬ x0 = 13) then (q_X12_strength_10 x0 w) else (q_X12_strength_6 w)) := (ev_eq _ _ _).trans rfl
theorem e_X12_strength_6 (w : XW) : q_X12_strength_6 w = (q_X12_strength_31 1 w) := (ev_eq _ _ _).trans rfl
theorem e_X12_strength_10 (x0 : Int32) (w : XW) : q_X12_strength_10 x0 w = (bif decide (¬ x0 = 12) then (q_X12_strength_20 x0 w) else (q_X12_strength_16 w)) := (ev_eq _ _ _).trans rfl
theorem e_X12_strength_16 (w : XW) : q_X12_strength_16 w = (q_X12_strength_31 2 w) := (ev_eq _ _ _).trans rfl
theorem e_X12_strength_20 (x0 : Int32) (w : XW) : q_X12_strength_20 x0 w = (bif decide (¬ x0 = 11) then (q_X12_strength_30 w) else (q_X12_strength_26 w)) := (ev_eq _ _ _).trans rfl
theorem e_X12_strength_26 (w : XW) : q_X12_strength_26 w = (q_X12_strength_31 3 w) := (ev_eq _ _ _).trans rfl
theorem e_X12_strength_30 (w : XW) : q_X12_strength_30 w = (q_X12_strength_31 0 w) := (ev_eq _ _ _).trans rfl
theorem e_X12_strength_31 (s0 : Int32) (w : XW) : q_X12_strength_31 s0 w = (some (some (.inl (.int s0)), w)) := (ev_eq _ _ _).trans rfl
theorem f_X12_strength (x0 : Int32) (w : XW) : F_X12_strength [.inl (.int x0)] w = (q_X12_strength_0 x0 w).bind pI := rfl

-- WinterKeepModel.layDown(I)V
theorem dX12_layDown_0 : decode cX12_layDown 0 = .ok (.aload_n 0, 1) := by decide +kernel
theorem dX12_layDown_1 : decode cX12_layDown 1 = .ok (.getfield 168, 3) := by decide +kernel
theorem dX12_layDown_4 : decode cX12_layDown 4 = .ok (.ifCond .le 72, 3) := by decide +kernel
theorem dX12_layDown_7 : decode cX12_layDown 7 = .ok (.aload_n 0, 1) := by decide +kernel
theorem dX12_layDown_8 : decode cX12_layDown 8 = .ok (.getfield 29, 3) := by decide +kernel
theorem dX12_layDown_11 : decode cX12_layDown 11 = .ok (.aload_n 0, 1) := by decide +kernel
theorem dX12_layDown_12 : decode cX12_layDown 12 = .ok (.getfield 168, 3) := by decide +kernel
theorem dX12_layDown_15 : decode cX12_layDown 15 = .ok (.iconst 1, 1) := by decide +kernel
theorem dX12_layDown_16 : decode cX12_layDown 16 = .ok (.isub, 1) := by decide +kernel
theorem dX12_layDown_17 : decode cX12_layDown 17 = .ok (.iaload, 1) := by decide +kernel
theorem dX12_layDown_18 : decode cX12_layDown 18 = .ok (.invokestatic 171, 3) := by decide +kernel
theorem dX12_layDown_21 : decode cX12_layDown 21 = .ok (.iload_n 1, 1) := by decide +kernel
theorem dX12_layDown_22 : decode cX12_layDown 22 = .ok (.if_icmp .lt 54, 3) := by decide +kernel
theorem dX12_layDown_25 : decode cX12_layDown 25 = .ok (.aload_n 0, 1) := by decide +kernel
theorem dX12_layDown_26 : decode cX12_layDown 26 = .ok (.dup, 1) := by decide +kernel
theorem dX12_layDown_27 : decode cX12_layDown 27 = .ok (.getfield 168, 3) := by decide +kernel
theorem dX12_layDown_30 : decode cX12_layDown 30 = .ok (.iconst 1, 1) := by decide +kernel
theorem dX12_layDown_31 : decode cX12_layDown 31 = .ok (.isub, 1) := by decide +kernel
theorem dX12_layDown_32 : decode cX12_layDown 32 = .ok (.putfield 168, 3) := by decide +kernel
theorem dX12_layDown_35 : decode cX12_layDown 35 = .ok (.aload_n 0, 1) := by decide +kernel
theorem dX12_layDown_36 : decode cX12_layDown 36 = .ok (.aload_n 0, 1) := by decide +kernel
theorem dX12_layDown_37 : decode cX12_layDown 37 = .ok (.getfield 29, 3) := by decide +kernel
theorem dX12_layDown_40 : decode cX12_layDown 40 = .ok (.aload_n 0, 1) := by decide +kernel
theorem dX12_layDown_41 : decode cX12_layDown 41 = .ok (.getfield 168, 3) := by decide +kernel
theorem dX12_layDown_44 : decode cX12_layDown 44 = .ok (.iaload, 1) := by decide +kernel
theorem dX12_layDown_45 : decode cX12_layDown 45 = .ok (.iconst 0, 1) := by decide +kernel
theorem dX12_layDown_46 : decode cX12_layDown 46 = .ok (.invokevirtual 175, 3) := by decide +kernel
theorem dX12_layDown_49 : decode cX12_layDown 49 = .ok (.aload_n 0, 1) := by decide +kernel
theorem dX12_layDown_50 : decode cX12_layDown 50 = .ok (.getfield 29, 3) := by decide +kernel
theorem dX12_layDown_53 : decode cX12_layDown 53 = .ok (.aload_n 0, 1) := by decide +kernel
theorem dX12_layDown_54 : decode cX12_layDown 54 = .ok (.getfield 168, 3) := by decide +kernel
theorem dX12_layDown_57 : decode cX12_layDown 57 = .ok (.iaload, 1) := by decide +kernel
theorem dX12_layDown_58 : decode cX12_layDown 58 = .ok (.bipush 11, 2) := by decide +kernel
theorem dX12_layDown_60 : decode cX12_layDown 60 = .ok (.if_icmp .ne (-60), 3) := by decide +kernel
theorem dX12_layDown_63 : decode cX12_layDown 63 = .ok (.aload_n 0, 1) := by decide +kernel
theorem dX12_layDown_64 : decode cX12_layDown 64 = .ok (.dup, 1) := by decide +kernel
theorem dX12_layDown_65 : decode cX12_layDown 65 = .ok (.getfield 165, 3) := by decide +kernel
theorem dX12_layDown_68 : decode cX12_layDown 68 = .ok (.iconst 1, 1) := by decide +kernel
theorem dX12_layDown_69 : decode cX12_layDown 69 = .ok (.isub, 1) := by decide +kernel
theorem dX12_layDown_70 : decode cX12_layDown 70 = .ok (.putfield 165, 3) := by decide +kernel
theorem dX12_layDown_73 : decode cX12_layDown 73 = .ok (.goto (-73), 3) := by decide +kernel
theorem dX12_layDown_76 : decode cX12_layDown 76 = .ok (.return_, 1) := by decide +kernel
theorem vc_X12_171 : XSw RX12 171 1 1 yX12_strength cX12_strength (some .int) := ⟨⟨by decide, by decide⟩, by decide +kernel, wt_1251, wt_1252, wt_11, wt_1253⟩
theorem vc_X12_175 : XVw RX12 175 2 11 3 yX12_puts cX12_puts none := ⟨RX12, TX12, tyX12, 43, xk_11, rfl, ⟨by decide, by decide⟩, by decide +kernel, wt_1205, wt_1207, ws_61, wt_11, wt_1208⟩
noncomputable def bs_X12_layDown : List (Nat × XB) := [
  (0, (sq (xLA 0) (sq (xGI 11 16) (tIf1 (fun x => decide (x ≤ 0)) 76 [false, false] 7 [true, true])))),
  (7, (sq (xLA 0) (sq (xGS 11 47 1 0) (sq (xLA 0) (sq (xGI 11 16) (sq (xC (.int 1)) (sq (xI2 (· - ·)) (sq (xAI 47 400) (sq (xCI 99 1 F_X12_strength) (sq (xLI 1) (tIf2 (fun x y => decide (x < y)) 76 [false, false] 25 [true, true]))))))))))),
  (25, (sq (xLA 0) (sq (xDup) (sq (xGI 11 16) (sq (xC (.int 1)) (sq (xI2 (· - ·)) (sq (xPI 11 16) (sq (xLA 0) (sq (xLA 0) (sq (xGS 11 47 1 0) (sq (xLA 0) (sq (xGI 11 16) (sq (xAI 47 400) (sq (xC (.int 0)) (sq (xCV 11 3 F_X12_puts) (sq (xLA 0) (sq (xGS 11 47 1 0) (sq (xLA 0) (sq (xGI 11 16) (sq (xAI 47 400) (sq (xC (.int 11)) (tIf2 (fun x y => decide (¬ x = y)) 0 [true, true] 63 [true, true])))))))))))))))))))))),
  (63, (sq (xLA 0) (sq (xDup) (sq (xGI 11 13) (sq (xC (.int 1)) (sq (xI2 (· - ·)) (sq (xPI 11 13) (tGo 0 [true, true])))))))),
  (76, tRV)]
set_option maxRecDepth 100000 in
set_option maxHeartbeats 4000000 in
theorem s_X12_layDown : ∀ X : XCtx, XE X → X.2.2.1.1 = cX12_layDown → X.2.2.1.2.1 = 2 → X.2.2.1.2.2.1 = yX12_layDown.cls → X.2.2.1.2.2.2.1 = none → X.1.2.2.2.1 = { frames := 1, cells := 0, slots := 0, locals := 22 } → SndBs X bs_X12_layDown := by
  rintro ⟨⟨p, l, e, R, s⟩, Y, ⟨cc, nL, own, ret, Ts⟩, Z⟩ hE h1 h2 h3 h4 h5
  dsimp only at h1 h2 h3 h4 h5
  subst h1 h2 h3 h4 h5
  exact ⟨(n_sq (n_aload_n hE dX12_layDown_0) (n_sq (n_getI hE xk_11 (k := 16) rfl (by decide) rfl wt_976 dX12_layDown_1) (n_ifle hE (by decide) dX12_layDown_4))),
    (n_sq (n_aload_n hE dX12_layDown_7) (n_sq (n_getS hE xk_11 (k := 15) rfl (by decide) rfl wt_975 dX12_layDown_8) (n_sq (n_aload_n hE dX12_layDown_11) (n_sq (n_getI hE xk_11 (k := 16) rfl (by decide) rfl wt_976 dX12_layDown_12) (n_sq (n_iconst hE (by decide) dX12_layDown_15) (n_sq (n_isub hE dX12_layDown_16) (n_sq (n_iald hE rfl (by decide) dX12_layDown_17) (n_sq (n_cIs hE m_X12_strength vc_X12_171 (show 0 + 1 ≤ 1 ∧ 8 + (1 + 11) + 0 ≤ 22 by decide) dX12_layDown_18) (n_sq (n_iload_n hE dX12_layDown_21) (n_ifclt hE (by decide) dX12_layDown_22)))))))))),
    (n_sq (n_aload_n hE dX12_layDown_25) (n_sq (n_dup hE dX12_layDown_26) (n_sq (n_getI hE xk_11 (k := 16) rfl (by decide) rfl wt_976 dX12_layDown_27) (n_sq (n_iconst hE (by decide) dX12_layDown_30) (n_sq (n_isub hE dX12_layDown_31) (n_sq (n_putI hE xk_11 (k := 16) rfl (by decide) rfl rfl (tyX12_ok 16 (by decide)) wt_976 dX12_layDown_32) (n_sq (n_aload_n hE dX12_layDown_35) (n_sq (n_aload_n hE dX12_layDown_36) (n_sq (n_getS hE xk_11 (k := 15) rfl (by decide) rfl wt_975 dX12_layDown_37) (n_sq (n_aload_n hE dX12_layDown_40) (n_sq (n_getI hE xk_11 (k := 16) rfl (by decide) rfl wt_976 dX12_layDown_41) (n_sq (n_iald hE rfl (by decide) dX12_layDown_44) (n_sq (n_iconst hE (by decide) dX12_layDown_45) (n_sq (n_cVv hE m_X12_puts vc_X12_175 (show 0 + 1 ≤ 1 ∧ 8 + (3 + 11) + 0 ≤ 22 by decide) dX12_layDown_46) (n_sq (n_aload_n hE dX12_layDown_49) (n_sq (n_getS hE xk_11 (k := 15) rfl (by decide) rfl wt_975 dX12_layDown_50) (n_sq (n_aload_n hE dX12_layDown_53) (n_sq (n_getI hE xk_11 (k := 16) rfl (by decide) rfl wt_976 dX12_layDown_54) (n_sq (n_iald hE rfl (by decide) dX12_layDown_57) (n_sq (n_bipush hE (by decide) dX12_layDown_58) (n_ifcne hE (by decide) dX12_layDown_60))))))))))))))))))))),
    (n_sq (n_aload_n hE dX12_layDown_63) (n_sq (n_dup hE dX12_layDown_64) (n_sq (n_getI hE xk_11 (k := 13) rfl (by decide) rfl wt_973 dX12_layDown_65) (n_sq (n_iconst hE (by decide) dX12_layDown_68) (n_sq (n_isub hE dX12_layDown_69) (n_sq (n_putI hE xk_11 (k := 13) rfl (by decide) rfl rfl (tyX12_ok 13 (by decide)) wt_973 dX12_layDown_70) (n_goto hE (by decide) dX12_layDown_73))))))),
    (n_vreturn hE rfl dX12_layDown_76), trivial⟩
noncomputable def F_X12_layDown (as : List XV) (w : XW) : Option XW := (xF 2 bs_X12_layDown as w).bind pV
theorem m_X12_layDown : XM yX12_layDown cX12_layDown 2 none 1 22 (eV F_X12_layDown) := xm_V (xm_of (by decide) s_X12_layDown)
noncomputable def q_X12_layDown_0 (x1 : Int32) (w : XW) : Option XR := ev bs_X12_layDown 0 ([some (.inr (11, 0)), some (.inl (.int x1))], [], w)
noncomputable def q_X12_layDown_7 (x1 : Int32) (w : XW) : Option XR := ev bs_X12_layDown 7 ([some (.inr (11, 0)), some (.inl (.int x1))], [], w)
noncomputable def q_X12_layDown_25 (x1 : Int32) (w : XW) : Option XR := ev bs_X12_layDown 25 ([some (.inr (11, 0)), some (.inl (.int x1))], [], w)
noncomputable def q_X12_layDown_63 (x1 : Int32) (w : XW) : Option XR := ev bs_X12_layDown 63 ([some (.inr (11, 0)), some (.inl (.int x1))], [], w)
noncomputable def q_X12_layDown_76 (w : XW) : Option XR := ev bs_X12_layDown 76 ([none, none], [], w)
theorem e_X12_layDown_0 (x1 : Int32) (w : XW) : q_X12_layDown_0 x1 w = (bif decide ((gI w 11 0 16) ≤ 0) then (q_X12_layDown_76 w) else (q_X12_layDown_7 x1 w)) := (ev_eq _ _ _).trans rfl
theorem e_X12_layDown_7 (x1 : Int32) (w : XW) : q_X12_layDown_7 x1 w = (if ((gI w 11 0 16) - 1) < 0 ∨ 400 ≤ ((gI w 11 0 16) - 1).toNatClampNeg then none else ((F_X12_strength [.inl (.int (gI w 47 0 ((gI w 11 0 16) - 1).toNatClampNeg))] w).bind fun r0 => (bif decide (r0.1 < x1) then (q_X12_layDown_76 r0.2) else (q_X12_layDown_25 x1 r0.2)))) := (ev_eq _ _ _).trans rfl
theorem e_X12_layDown_25 (x1 : Int32) (w : XW) : q_X12_layDown_25 x1 w = (if (gI (sI w 11 0 16 ((gI w 11 0 16) - 1)) 11 0 16) < 0 ∨ 400 ≤ (gI (sI w 11 0 16 ((gI w 11 0 16) - 1)) 11 0 16).toNatClampNeg then none else ((F_X12_puts [.inr (11, 0), .inl (.int (gI (sI w 11 0 16 ((gI w 11 0 16) - 1)) 47 0 (gI (sI w 11 0 16 ((gI w 11 0 16) - 1)) 11 0 16).toNatClampNeg)), .inl (.int 0)] (sI w 11 0 16 ((gI w 11 0 16) - 1))).bind fun r0 => (if (gI r0 11 0 16) < 0 ∨ 400 ≤ (gI r0 11 0 16).toNatClampNeg then none else (bif decide (¬ (gI r0 47 0 (gI r0 11 0 16).toNatClampNeg) = 11) then (q_X12_layDown_0 x1 r0) else (q_X12_layDown_63 x1 r0))))) := (ev_eq _ _ _).trans rfl
theorem e_X12_layDown_63 (x1 : Int32) (w : XW) : q_X12_layDown_63 x1 w = (q_X12_layDown_0 x1 (sI w 11 0 13 ((gI w 11 0 13) - 1))) := (ev_eq _ _ _).trans rfl
theorem e_X12_layDown_76 (w : XW) : q_X12_layDown_76 w = (some (none, w)) := (ev_eq _ _ _).trans rfl
theorem f_X12_layDown (x1 : Int32) (w : XW) : F_X12_layDown [.inr (11, 0), .inl (.int x1)] w = (q_X12_layDown_0 x1 w).bind pV := rfl
