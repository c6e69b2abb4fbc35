-- WinterKeepModel.value()Z
theorem dX12_value_0 : decode cX12_value 0 = .ok (.aload_n 0, 1) := by decide +kernel
theorem dX12_value_1 : decode cX12_value 1 = .ok (.invokevirtual 109, 3) := by decide +kernel
theorem dX12_value_4 : decode cX12_value 4 = .ok (.pop, 1) := by decide +kernel
theorem dX12_value_5 : decode cX12_value 5 = .ok (.aload_n 0, 1) := by decide +kernel
theorem dX12_value_6 : decode cX12_value 6 = .ok (.getfield 106, 3) := by decide +kernel
theorem dX12_value_9 : decode cX12_value 9 = .ok (.istore_n 1, 1) := by decide +kernel
theorem dX12_value_10 : decode cX12_value 10 = .ok (.aload_n 0, 1) := by decide +kernel
theorem dX12_value_11 : decode cX12_value 11 = .ok (.aload_n 0, 1) := by decide +kernel
theorem dX12_value_12 : decode cX12_value 12 = .ok (.getfield 106, 3) := by decide +kernel
theorem dX12_value_15 : decode cX12_value 15 = .ok (.invokevirtual 124, 3) := by decide +kernel
theorem dX12_value_18 : decode cX12_value 18 = .ok (.ifCond .eq 34, 3) := by decide +kernel
theorem dX12_value_21 : decode cX12_value 21 = .ok (.aload_n 0, 1) := by decide +kernel
theorem dX12_value_22 : decode cX12_value 22 = .ok (.iconst 0, 1) := by decide +kernel
theorem dX12_value_23 : decode cX12_value 23 = .ok (.ldc 179, 2) := by decide +kernel
theorem dX12_value_25 : decode cX12_value 25 = .ok (.invokevirtual 180, 3) := by decide +kernel
theorem dX12_value_28 : decode cX12_value 28 = .ok (.ifCond .eq 11, 3) := by decide +kernel
theorem dX12_value_31 : decode cX12_value 31 = .ok (.aload_n 0, 1) := by decide +kernel
theorem dX12_value_32 : decode cX12_value 32 = .ok (.iload_n 1, 1) := by decide +kernel
theorem dX12_value_33 : decode cX12_value 33 = .ok (.invokevirtual 183, 3) := by decide +kernel
theorem dX12_value_36 : decode cX12_value 36 = .ok (.ifCond .ne 5, 3) := by decide +kernel
theorem dX12_value_39 : decode cX12_value 39 = .ok (.iconst 0, 1) := by decide +kernel
theorem dX12_value_40 : decode cX12_value 40 = .ok (.ireturn, 1) := by decide +kernel
theorem dX12_value_41 : decode cX12_value 41 = .ok (.aload_n 0, 1) := by decide +kernel
theorem dX12_value_42 : decode cX12_value 42 = .ok (.iconst 0, 1) := by decide +kernel
theorem dX12_value_43 : decode cX12_value 43 = .ok (.aload_n 0, 1) := by decide +kernel
theorem dX12_value_44 : decode cX12_value 44 = .ok (.getfield 130, 3) := by decide +kernel
theorem dX12_value_47 : decode cX12_value 47 = .ok (.invokevirtual 175, 3) := by decide +kernel
theorem dX12_value_50 : decode cX12_value 50 = .ok (.iconst 1, 1) := by decide +kernel
theorem dX12_value_51 : decode cX12_value 51 = .ok (.ireturn, 1) := by decide +kernel
theorem dX12_value_52 : decode cX12_value 52 = .ok (.aload_n 0, 1) := by decide +kernel
theorem dX12_value_53 : decode cX12_value 53 = .ok (.invokevirtual 186, 3) := by decide +kernel
theorem dX12_value_56 : decode cX12_value 56 = .ok (.istore_n 2, 1) := by decide +kernel
theorem dX12_value_57 : decode cX12_value 57 = .ok (.iload_n 2, 1) := by decide +kernel
theorem dX12_value_58 : decode cX12_value 58 = .ok (.ifCond .ge 10, 3) := by decide +kernel
theorem dX12_value_61 : decode cX12_value 61 = .ok (.aload_n 0, 1) := by decide +kernel
theorem dX12_value_62 : decode cX12_value 62 = .ok (.iconst 0, 1) := by decide +kernel
theorem dX12_value_63 : decode cX12_value 63 = .ok (.iload_n 1, 1) := by decide +kernel
theorem dX12_value_64 : decode cX12_value 64 = .ok (.invokevirtual 127, 3) := by decide +kernel
theorem dX12_value_67 : decode cX12_value 67 = .ok (.ireturn, 1) := by decide +kernel
theorem dX12_value_68 : decode cX12_value 68 = .ok (.aload_n 0, 1) := by decide +kernel
theorem dX12_value_69 : decode cX12_value 69 = .ok (.iload_n 1, 1) := by decide +kernel
theorem dX12_value_70 : decode cX12_value 70 = .ok (.invokevirtual 183, 3) := by decide +kernel
theorem dX12_value_73 : decode cX12_value 73 = .ok (.ifCond .ne 5, 3) := by decide +kernel
theorem dX12_value_76 : decode cX12_value 76 = .ok (.iconst 0, 1) := by decide +kernel
theorem dX12_value_77 : decode cX12_value 77 = .ok (.ireturn, 1) := by decide +kernel
theorem dX12_value_78 : decode cX12_value 78 = .ok (.aload_n 0, 1) := by decide +kernel
theorem dX12_value_79 : decode cX12_value 79 = .ok (.invokevirtual 121, 3) := by decide +kernel
theorem dX12_value_82 : decode cX12_value 82 = .ok (.aload_n 0, 1) := by decide +kernel
theorem dX12_value_83 : decode cX12_value 83 = .ok (.iconst 1, 1) := by decide +kernel
theorem dX12_value_84 : decode cX12_value 84 = .ok (.iload_n 2, 1) := by decide +kernel
theorem dX12_value_85 : decode cX12_value 85 = .ok (.invokevirtual 175, 3) := by decide +kernel
theorem dX12_value_88 : decode cX12_value 88 = .ok (.iconst 1, 1) := by decide +kernel
theorem dX12_value_89 : decode cX12_value 89 = .ok (.ireturn, 1) := by decide +kernel
theorem vc_X12_180 : XVw RX12 180 2 11 5 yX12_numberHere cX12_numberHere (some .boolean) := ⟨RX12, TX12, tyX12, 43, xk_11, rfl, ⟨by decide, by decide⟩, by decide +kernel, wt_1157, wt_1159, ws_50, wt_11, wt_1160⟩
theorem vc_X12_183 : XVw RX12 183 1 11 2 yX12_makes cX12_makes (some .boolean) := ⟨RX12, TX12, tyX12, 43, xk_11, rfl, ⟨by decide, by decide⟩, by decide +kernel, wt_1201, wt_1203, ws_60, wt_11, wt_1204⟩
theorem vc_X12_186 : XVw RX12 186 0 11 1 yX12_wordHere cX12_wordHere (some .int) := ⟨RX12, TX12, tyX12, 43, xk_11, rfl, ⟨by decide, by decide⟩, by decide +kernel, wt_1209, wt_1211, ws_62, wt_11, wt_1212⟩
noncomputable def bs_X12_value : List (Nat × XB) := [
  (0, (sq (xLA 0) (sq (xCI 11 1 F_X12_see) (sq (xPop) (sq (xLA 0) (sq (xGI 11 8) (sq (xSI 1) (sq (xLA 0) (sq (xLA 0) (sq (xGI 11 8) (sq (xCI 11 2 F_X12_isDigit) (tIf1 (fun x => decide (x = 0)) 52 [true, true, false] 21 [true, true, false])))))))))))),
  (21, (sq (xLA 0) (sq (xC (.int 0)) (sq (xC (.int 99999)) (sq (xCI 11 3 F_X12_numberHere) (tIf1 (fun x => decide (x = 0)) 39 [false, false, false] 31 [true, true, false])))))),
  (31, (sq (xLA 0) (sq (xLI 1) (sq (xCI 11 2 F_X12_makes) (tIf1 (fun x => decide (¬ x = 0)) 41 [true, false, false] 39 [false, false, false]))))),
  (39, (sq (xC (.int 0)) tRZ)),
  (41, (sq (xLA 0) (sq (xC (.int 0)) (sq (xLA 0) (sq (xGI 11 10) (sq (xCV 11 3 F_X12_puts) (sq (xC (.int 1)) tRZ))))))),
  (52, (sq (xLA 0) (sq (xCI 11 1 F_X12_wordHere) (sq (xSI 2) (sq (xLI 2) (tIf1 (fun x => decide (0 ≤ x)) 68 [true, true, true] 61 [true, true, false])))))),
  (61, (sq (xLA 0) (sq (xC (.int 0)) (sq (xLI 1) (sq (xCI 11 3 F_X12_fails) tRZ))))),
  (68, (sq (xLA 0) (sq (xLI 1) (sq (xCI 11 2 F_X12_makes) (tIf1 (fun x => decide (¬ x = 0)) 78 [true, false, true] 76 [false, false, false]))))),
  (76, (sq (xC (.int 0)) tRZ)),
  (78, (sq (xLA 0) (sq (xCV 11 1 F_X12_passWord) (sq (xLA 0) (sq (xC (.int 1)) (sq (xLI 2) (sq (xCV 11 3 F_X12_puts) (sq (xC (.int 1)) tRZ))))))))]
set_option maxRecDepth 100000 in
set_option maxHeartbeats 4000000 in
theorem s_X12_value : ∀ X : XCtx, XE X → X.2.2.1.1 = cX12_value → X.2.2.1.2.1 = 3 → X.2.2.1.2.2.1 = yX12_value.cls → X.2.2.1.2.2.2.1 = (some .boolean) → X.1.2.2.2.1 = { frames := 3, cells := 0, slots := 0, locals := 66 } → SndBs X bs_X12_value := by
  rintro ⟨⟨p, l, e, R, s⟩, Y, ⟨cc, nL, own, ret, Ts⟩, Z⟩ hE h1 h2 h3 h4 h5
  dsimp only at h1 h2 h3 h4 h5
  subst h1 h2 h3 h4 h5
  exact ⟨(n_sq (n_aload_n hE dX12_value_0) (n_sq (n_cIv hE m_X12_see vc_X12_109 (show 0 + 1 ≤ 3 ∧ 8 + (1 + 11) + 0 ≤ 66 by decide) dX12_value_1) (n_sq (n_pop hE dX12_value_4) (n_sq (n_aload_n hE dX12_value_5) (n_sq (n_getI hE xk_11 (k := 8) rfl (by decide) rfl wt_968 dX12_value_6) (n_sq (n_istore_n hE (show (1 : Nat) < 3 by decide) dX12_value_9) (n_sq (n_aload_n hE dX12_value_10) (n_sq (n_aload_n hE dX12_value_11) (n_sq (n_getI hE xk_11 (k := 8) rfl (by decide) rfl wt_968 dX12_value_12) (n_sq (n_cIv hE m_X12_isDigit vc_X12_124 (show 0 + 1 ≤ 3 ∧ 8 + (2 + 11) + 0 ≤ 66 by decide) dX12_value_15) (n_ifeq hE (by decide) dX12_value_18))))))))))),
    (n_sq (n_aload_n hE dX12_value_21) (n_sq (n_iconst hE (by decide) dX12_value_22) (n_sq (n_ldc hE wt_1200 dX12_value_23) (n_sq (n_cIv hE m_X12_numberHere vc_X12_180 (show 1 + 1 ≤ 3 ∧ 8 + (5 + 11) + 25 ≤ 66 by decide) dX12_value_25) (n_ifeq hE (by decide) dX12_value_28))))),
    (n_sq (n_aload_n hE dX12_value_31) (n_sq (n_iload_n hE dX12_value_32) (n_sq (n_cIv hE m_X12_makes vc_X12_183 (show 1 + 1 ≤ 3 ∧ 8 + (2 + 11) + 22 ≤ 66 by decide) dX12_value_33) (n_ifne hE (by decide) dX12_value_36)))),
    (n_sq (n_iconst hE (by decide) dX12_value_39) (n_zreturn hE rfl dX12_value_40)),
    (n_sq (n_aload_n hE dX12_value_41) (n_sq (n_iconst hE (by decide) dX12_value_42) (n_sq (n_aload_n hE dX12_value_43) (n_sq (n_getI hE xk_11 (k := 10) rfl (by decide) rfl wt_970 dX12_value_44) (n_sq (n_cVv hE m_X12_puts vc_X12_175 (show 0 + 1 ≤ 3 ∧ 8 + (3 + 11) + 0 ≤ 66 by decide) dX12_value_47) (n_sq (n_iconst hE (by decide) dX12_value_50) (n_zreturn hE rfl dX12_value_51))))))),
    (n_sq (n_aload_n hE dX12_value_52) (n_sq (n_cIv hE m_X12_wordHere vc_X12_186 (show 2 + 1 ≤ 3 ∧ 8 + (1 + 11) + 46 ≤ 66 by decide) dX12_value_53) (n_sq (n_istore_n hE (show (2 : Nat) < 3 by decide) dX12_value_56) (n_sq (n_iload_n hE dX12_value_57) (n_ifge hE (by decide) dX12_value_58))))),
    (n_sq (n_aload_n hE dX12_value_61) (n_sq (n_iconst hE (by decide) dX12_value_62) (n_sq (n_iload_n hE dX12_value_63) (n_sq (n_cIv hE m_X12_fails vc_X12_127 (show 0 + 1 ≤ 3 ∧ 8 + (3 + 11) + 0 ≤ 66 by decide) dX12_value_64) (n_zreturn hE rfl dX12_value_67))))),
    (n_sq (n_aload_n hE dX12_value_68) (n_sq (n_iload_n hE dX12_value_69) (n_sq (n_cIv hE m_X12_makes vc_X12_183 (show 1 + 1 ≤ 3 ∧ 8 + (2 + 11) + 22 ≤ 66 by decide) dX12_value_70) (n_ifne hE (by decide) dX12_value_73)))),
    (n_sq (n_iconst hE (by decide) dX12_value_76) (n_zreturn hE rfl dX12_value_77)),
    (n_sq (n_aload_n hE dX12_value_78) (n_sq (n_cVv hE m_X12_passWord vc_X12_121 (show 1 + 1 ≤ 3 ∧ 8 + (1 + 11) + 21 ≤ 66 by decide) dX12_value_79) (n_sq (n_aload_n hE dX12_value_82) (n_sq (n_iconst hE (by decide) dX12_value_83) (n_sq (n_iload_n hE dX12_value_84) (n_sq (n_cVv hE m_X12_puts vc_X12_175 (show 0 + 1 ≤ 3 ∧ 8 + (3 + 11) + 0 ≤ 66 by decide) dX12_value_85) (n_sq (n_iconst hE (by decide) dX12_value_88) (n_zreturn hE rfl dX12_value_89)))))))), trivial⟩
noncomputable def F_X12_value (as : List XV) (w : XW) : Option (Int32 × XW) := (xF 3 bs_X12_value as w).bind pI
theorem m_X12_value : XM yX12_value cX12_value 3 (some .boolean) 3 66 (eI F_X12_value) := xm_I (xm_of (by decide) s_X12_value)
noncomputable def q_X12_value_0 (w : XW) : Option XR := ev bs_X12_value 0 ([some (.inr (11, 0)), none, none], [], w)
noncomputable def q_X12_value_21 (x1 : Int32) (w : XW) : Option XR := ev bs_X12_value 21 ([some (.inr (11, 0)), some (.inl (.int x1)), none], [], w)
noncomputable def q_X12_value_31 (x1 : Int32) (w : XW) : Option XR := ev bs_X12_value 31 ([some (.inr (11, 0)), some (.inl (.int x1)), none], [], w)
noncomputable def q_X12_value_39 (w : XW) : Option XR := ev bs_X12_value 39 ([none, none, none], [], w)
noncomputable def q_X12_value_41 (w : XW) : Option XR := ev bs_X12_value 41 ([some (.inr (11, 0)), none, none], [], w)
noncomputable def q_X12_value_52 (x1 : Int32) (w : XW) : Option XR := ev bs_X12_value 52 ([some (.inr (11, 0)), some (.inl (.int x1)), none], [], w)
noncomputable def q_X12_value_61 (x1 : Int32) (w : XW) : Option XR := ev bs_X12_value 61 ([some (.inr (11, 0)), some (.inl (.int x1)), none], [], w)
noncomputable def q_X12_value_68 (x1 : Int32) (x2 : Int32) (w : XW) : Option XR := ev bs_X12_value 68 ([some (.inr (11, 0)), some (.inl (.int x1)), some (.inl (.int x2))], [], w)
noncomputable def q_X12_value_76 (w : XW) : Option XR := ev bs_X12_value 76 ([none, none, none], [], w)
noncomputable def q_X12_value_78 (x2 : Int32) (w : XW) : Option XR := ev bs_X12_value 78 ([some (.inr (11, 0)), none, some (.inl (.int x2))], [], w)
theorem e_X12_value_0 (w : XW) : q_X12_value_0 w = ((F_X12_see [.inr (11, 0)] w).bind fun r0 => ((F_X12_isDigit [.inr (11, 0), .inl (.int (gI r0.2 11 0 8))] r0.2).bind fun r1 => (bif decide (r1.1 = 0) then (q_X12_value_52 (gI r0.2 11 0 8) r1.2) else (q_X12_value_21 (gI r0.2 11 0 8) r1.2)))) := (ev_eq _ _ _).trans rfl
theorem e_X12_value_21 (x1 : Int32) (w : XW) : q_X12_value_21 x1 w = ((F_X12_numberHere [.inr (11, 0), .inl (.int 0), .inl (.int 99999)] w).bind fun r0 => (bif decide (r0.1 = 0) then (q_X12_value_39 r0.2) else (q_X12_value_31 x1 r0.2))) := (ev_eq _ _ _).trans rfl
theorem e_X12_value_31 (x1 : Int32) (w : XW) : q_X12_value_31 x1 w = ((F_X12_makes [.inr (11, 0), .inl (.int x1)] w).bind fun r0 => (bif decide (¬ r0.1 = 0) then (q_X12_value_41 r0.2) else (q_X12_value_39 r0.2))) := (ev_eq _ _ _).trans rfl
theorem e_X12_value_39 (w : XW) : q_X12_value_39 w = (some (some (.inl (.int 0)), w)) := (ev_eq _ _ _).trans rfl
theorem e_X12_value_41 (w : XW) : q_X12_value_41 w = ((F_X12_puts [.inr (11, 0), .inl (.int 0), .inl (.int (gI w 11 0 10))] w).bind fun r0 => (some (some (.inl (.int 1)), r0))) := (ev_eq _ _ _).trans rfl
theorem e_X12_value_52 (x1 : Int32) (w : XW) : q_X12_value_52 x1 w = ((F_X12_wordHere [.inr (11, 0)] w).bind fun r0 => (bif decide (0 ≤ r0.1) then (q_X12_value_68 x1 r0.1 r0.2) else (q_X12_value_61 x1 r0.2))) := (ev_eq _ _ _).trans rfl
theorem e_X12_value_61 (x1 : Int32) (w : XW) : q_X12_value_61 x1 w = ((F_X12_fails [.inr (11, 0), .inl (.int 0), .inl (.int x1)] w).bind fun r0 => (if r0.1 = 0 ∨ r0.1 = 1 then some (some (.inl (.int r0.1)), r0.2) else none)) := (ev_eq _ _ _).trans rfl
theorem e_X12_value_68 (x1 : Int32) (x2 : Int32) (w : XW) : q_X12_value_68 x1 x2 w = ((F_X12_makes [.inr (11, 0), .inl (.int x1)] w).bind fun r0 => (bif decide (¬ r0.1 = 0) then (q_X12_value_78 x2 r0.2) else (q_X12_value_76 r0.2))) := (ev_eq _ _ _).trans rfl
theorem e_X12_value_76 (w : XW) : q_X12_value_76 w = (some (some (.inl (.int 0)), w)) := (ev_eq _ _ _).trans rfl
theorem e_X12_value_78 (x2 : Int32) (w : XW) : q_X12_value_78 x2 w = ((F_X12_passWord [.inr (11, 0)] w).bind fun r0 => ((F_X12_puts [.inr (11, 0), .inl (.int 1), .inl (.int x2)] r0).bind fun r1 => (some (some (.inl (.int 1)), r1)))) := (ev_eq _ _ _).trans rfl
theorem f_X12_value (w : XW) : F_X12_value [.inr (11, 0)] w = (q_X12_value_0 w).bind pI := rfl

-- WinterKeepModel.term()Z
theorem dX12_term_0 : decode cX12_term 0 = .ok (.aload_n 0, 1) := by decide +kernel
theorem dX12_term_1 : decode cX12_term 1 = .ok (.invokevirtual 189, 3) := by decide +kernel
theorem dX12_term_4 : decode cX12_term 4 = .ok (.ifCond .ne 5, 3) := by decide +kernel
theorem dX12_term_7 : decode cX12_term 7 = .ok (.iconst 0, 1) := by decide +kernel
theorem dX12_term_8 : decode cX12_term 8 = .ok (.ireturn, 1) := by decide +kernel
theorem dX12_term_9 : decode cX12_term 9 = .ok (.aload_n 0, 1) := by decide +kernel
theorem dX12_term_10 : decode cX12_term 10 = .ok (.invokevirtual 109, 3) := by decide +kernel
theorem dX12_term_13 : decode cX12_term 13 = .ok (.bipush 42, 2) := by decide +kernel
theorem dX12_term_15 : decode cX12_term 15 = .ok (.if_icmp .eq 21, 3) := by decide +kernel
theorem dX12_term_18 : decode cX12_term 18 = .ok (.aload_n 0, 1) := by decide +kernel
theorem dX12_term_19 : decode cX12_term 19 = .ok (.invokevirtual 109, 3) := by decide +kernel
theorem dX12_term_22 : decode cX12_term 22 = .ok (.bipush 47, 2) := by decide +kernel
theorem dX12_term_24 : decode cX12_term 24 = .ok (.if_icmp .eq 12, 3) := by decide +kernel
theorem dX12_term_27 : decode cX12_term 27 = .ok (.aload_n 0, 1) := by decide +kernel
theorem dX12_term_28 : decode cX12_term 28 = .ok (.invokevirtual 109, 3) := by decide +kernel
theorem dX12_term_31 : decode cX12_term 31 = .ok (.bipush 37, 2) := by decide +kernel
theorem dX12_term_33 : decode cX12_term 33 = .ok (.if_icmp .ne 70, 3) := by decide +kernel
theorem dX12_term_36 : decode cX12_term 36 = .ok (.aload_n 0, 1) := by decide +kernel
theorem dX12_term_37 : decode cX12_term 37 = .ok (.getfield 7, 3) := by decide +kernel
theorem dX12_term_40 : decode cX12_term 40 = .ok (.aload_n 0, 1) := by decide +kernel
theorem dX12_term_41 : decode cX12_term 41 = .ok (.getfield 106, 3) := by decide +kernel
theorem dX12_term_44 : decode cX12_term 44 = .ok (.baload, 1) := by decide +kernel
theorem dX12_term_45 : decode cX12_term 45 = .ok (.bipush 42, 2) := by decide +kernel
theorem dX12_term_47 : decode cX12_term 47 = .ok (.if_icmp .ne 7, 3) := by decide +kernel
theorem dX12_term_50 : decode cX12_term 50 = .ok (.iconst 4, 1) := by decide +kernel
theorem dX12_term_51 : decode cX12_term 51 = .ok (.goto 23, 3) := by decide +kernel
theorem dX12_term_54 : decode cX12_term 54 = .ok (.aload_n 0, 1) := by decide +kernel
theorem dX12_term_55 : decode cX12_term 55 = .ok (.getfield 7, 3) := by decide +kernel
theorem dX12_term_58 : decode cX12_term 58 = .ok (.aload_n 0, 1) := by decide +kernel
theorem dX12_term_59 : decode cX12_term 59 = .ok (.getfield 106, 3) := by decide +kernel
theorem dX12_term_62 : decode cX12_term 62 = .ok (.baload, 1) := by decide +kernel
theorem dX12_term_63 : decode cX12_term 63 = .ok (.bipush 47, 2) := by decide +kernel
theorem dX12_term_65 : decode cX12_term 65 = .ok (.if_icmp .ne 7, 3) := by decide +kernel
theorem dX12_term_68 : decode cX12_term 68 = .ok (.iconst 5, 1) := by decide +kernel
theorem dX12_term_69 : decode cX12_term 69 = .ok (.goto 5, 3) := by decide +kernel
theorem dX12_term_72 : decode cX12_term 72 = .ok (.bipush 14, 2) := by decide +kernel
theorem dX12_term_74 : decode cX12_term 74 = .ok (.istore_n 1, 1) := by decide +kernel
theorem dX12_term_75 : decode cX12_term 75 = .ok (.aload_n 0, 1) := by decide +kernel
theorem dX12_term_76 : decode cX12_term 76 = .ok (.dup, 1) := by decide +kernel
theorem dX12_term_77 : decode cX12_term 77 = .ok (.getfield 106, 3) := by decide +kernel
theorem dX12_term_80 : decode cX12_term 80 = .ok (.iconst 1, 1) := by decide +kernel
theorem dX12_term_81 : decode cX12_term 81 = .ok (.iadd, 1) := by decide +kernel
theorem dX12_term_82 : decode cX12_term 82 = .ok (.putfield 106, 3) := by decide +kernel
theorem dX12_term_85 : decode cX12_term 85 = .ok (.aload_n 0, 1) := by decide +kernel
theorem dX12_term_86 : decode cX12_term 86 = .ok (.invokevirtual 189, 3) := by decide +kernel
theorem dX12_term_89 : decode cX12_term 89 = .ok (.ifCond .ne 5, 3) := by decide +kernel
theorem dX12_term_92 : decode cX12_term 92 = .ok (.iconst 0, 1) := by decide +kernel
theorem dX12_term_93 : decode cX12_term 93 = .ok (.ireturn, 1) := by decide +kernel
theorem dX12_term_94 : decode cX12_term 94 = .ok (.aload_n 0, 1) := by decide +kernel
theorem dX12_term_95 : decode cX12_term 95 = .ok (.iload_n 1, 1) := by decide +kernel
theorem dX12_term_96 : decode cX12_term 96 = .ok (.iconst 0, 1) := by decide +kernel
theorem dX12_term_97 : decode cX12_term 97 = .ok (.invokevirtual 175, 3) := by decide +kernel
theorem dX12_term_100 : decode cX12_term 100 = .ok (.goto (-91), 3) := by decide +kernel
theorem dX12_term_103 : decode cX12_term 103 = .ok (.iconst 1, 1) := by decide +kernel
theorem dX12_term_104 : decode cX12_term 104 = .ok (.ireturn, 1) := by decide +kernel
theorem vc_X12_189 : XVw RX12 189 0 11 3 yX12_value cX12_value (some .boolean) := ⟨RX12, TX12, tyX12, 43, xk_11, rfl, ⟨by decide, by decide⟩, by decide +kernel, wt_1196, wt_1198, ws_59, wt_11, wt_1199⟩
noncomputable def bs_X12_term : List (Nat × XB) := [
  (0, (sq (xLA 0) (sq (xCI 11 1 F_X12_value) (tIf1 (fun x => decide (¬ x = 0)) 9 [true, false] 7 [false, false])))),
  (7, (sq (xC (.int 0)) tRZ)),
  (9, (sq (xLA 0) (sq (xCI 11 1 F_X12_see) (sq (xC (.int 42)) (tIf2 (fun x y => decide (x = y)) 36 [true, false] 18 [true, false]))))),
  (18, (sq (xLA 0) (sq (xCI 11 1 F_X12_see) (sq (xC (.int 47)) (tIf2 (fun x y => decide (x = y)) 36 [true, false] 27 [true, false]))))),
  (27, (sq (xLA 0) (sq (xCI 11 1 F_X12_see) (sq (xC (.int 37)) (tIf2 (fun x y => decide (¬ x = y)) 103 [false, false] 36 [true, false]))))),
  (36, (sq (xLA 0) (sq (xGS 11 41 1 0) (sq (xLA 0) (sq (xGI 11 8) (sq (xAI 41 400) (sq (xC (.int 42)) (tIf2 (fun x y => decide (¬ x = y)) 54 [true, false] 50 [true, false])))))))),
  (50, (sq (xC (.int 4)) (tGo 74 [true, false]))),
  (54, (sq (xLA 0) (sq (xGS 11 41 1 0) (sq (xLA 0) (sq (xGI 11 8) (sq (xAI 41 400) (sq (xC (.int 47)) (tIf2 (fun x y => decide (¬ x = y)) 72 [true, false] 68 [true, false])))))))),
  (68, (sq (xC (.int 5)) (tGo 74 [true, false]))),
  (72, (sq (xC (.int 14)) (tGo 74 [true, false]))),
  (74, (sq (xSI 1) (sq (xLA 0) (sq (xDup) (sq (xGI 11 8) (sq (xC (.int 1)) (sq (xI2 (· + ·)) (sq (xPI 11 8) (sq (xLA 0) (sq (xCI 11 1 F_X12_value) (tIf1 (fun x => decide (¬ x = 0)) 94 [true, true] 92 [false, false]))))))))))),
  (92, (sq (xC (.int 0)) tRZ)),
  (94, (sq (xLA 0) (sq (xLI 1) (sq (xC (.int 0)) (sq (xCV 11 3 F_X12_puts) (tGo 9 [true, false])))))),
  (103, (sq (xC (.int 1)) tRZ))]
set_option maxRecDepth 100000 in
set_option maxHeartbeats 4000000 in
theorem s_X12_term : ∀ X : XCtx, XE X → X.2.2.1.1 = cX12_term → X.2.2.1.2.1 = 2 → X.2.2.1.2.2.1 = yX12_term.cls → X.2.2.1.2.2.2.1 = (some .boolean) → X.1.2.2.2.1 = { frames := 4, cells := 0, slots := 0, locals := 88 } → SndBs X bs_X12_term := by
  rintro ⟨⟨p, l, e, R, s⟩, Y, ⟨cc, nL, own, ret, Ts⟩, Z⟩ hE h1 h2 h3 h4 h5
  dsimp only at h1 h2 h3 h4 h5
  subst h1 h2 h3 h4 h5
  exact ⟨(n_sq (n_aload_n hE dX12_term_0) (n_sq (n_cIv hE m_X12_value vc_X12_189 (show 3 + 1 ≤ 4 ∧ 8 + (3 + 11) + 66 ≤ 88 by decide) dX12_term_1) (n_ifne hE (by decide) dX12_term_4))),
    (n_sq (n_iconst hE (by decide) dX12_term_7) (n_zreturn hE rfl dX12_term_8)),
    (n_sq (n_aload_n hE dX12_term_9) (n_sq (n_cIv hE m_X12_see vc_X12_109 (show 0 + 1 ≤ 4 ∧ 8 + (1 + 11) + 0 ≤ 88 by decide) dX12_term_10) (n_sq (n_bipush hE (by decide) dX12_term_13) (n_ifceq hE (by decide) dX12_term_15)))),
    (n_sq (n_aload_n hE dX12_term_18) (n_sq (n_cIv hE m_X12_see vc_X12_109 (show 0 + 1 ≤ 4 ∧ 8 + (1 + 11) + 0 ≤ 88 by decide) dX12_term_19) (n_sq (n_bipush hE (by decide) dX12_term_22) (n_ifceq hE (by decide) dX12_term_24)))),
    (n_sq (n_aload_n hE dX12_term_27) (n_sq (n_cIv hE m_X12_see vc_X12_109 (show 0 + 1 ≤ 4 ∧ 8 + (1 + 11) + 0 ≤ 88 by decide) dX12_term_28) (n_sq (n_bipush hE (by decide) dX12_term_31) (n_ifcne hE (by decide) dX12_term_33)))),
    (n_sq (n_aload_n hE dX12_term_36) (n_sq (n_getS hE xk_11 (k := 0) rfl (by decide) rfl wt_960 dX12_term_37) (n_sq (n_aload_n hE dX12_term_40) (n_sq (n_getI hE xk_11 (k := 8) rfl (by decide) rfl wt_968 dX12_term_41) (n_sq (n_bald hE rfl (by decide) dX12_term_44) (n_sq (n_bipush hE (by decide) dX12_term_45) (n_ifcne hE (by decide) dX12_term_47))))))),
    (n_sq (n_iconst hE (by decide) dX12_term_50) (n_goto hE (by decide) dX12_term_51)),
    (n_sq (n_aload_n hE dX12_term_54) (n_sq (n_getS hE xk_11 (k := 0) rfl (by decide) rfl wt_960 dX12_term_55) (n_sq (n_aload_n hE dX12_term_58) (n_sq (n_getI hE xk_11 (k := 8) rfl (by decide) rfl wt_968 dX12_term_59) (n_sq (n_bald hE rfl (by decide) dX12_term_62) (n_sq (n_bipush hE (by decide) dX12_term_63) (n_ifcne hE (by decide) dX12_term_65))))))),
    (n_sq (n_iconst hE (by decide) dX12_term_68) (n_goto hE (by decide) dX12_term_69)),
    (n_sq (n_bipush hE (by decide) dX12_term_72) n_fall),
    (n_sq (n_istore_n hE (show (1 : Nat) < 2 by decide) dX12_term_74) (n_sq (n_aload_n hE dX12_term_75) (n_sq (n_dup hE dX12_term_76) (n_sq (n_getI hE xk_11 (k := 8) rfl (by decide) rfl wt_968 dX12_term_77) (n_sq (n_iconst hE (by decide) dX12_term_80) (n_sq (n_iadd hE dX12_term_81) (n_sq (n_putI hE xk_11 (k := 8) rfl (by decide) rfl rfl (tyX12_ok 8 (by decide)) wt_968 dX12_term_82) (n_sq (n_aload_n hE dX12_term_85) (n_sq (n_cIv hE m_X12_value vc_X12_189 (show 3 + 1 ≤ 4 ∧ 8 + (3 + 11) + 66 ≤ 88 by decide) dX12_term_86) (n_ifne hE (by decide) dX12_term_89)))))))))),
    (n_sq (n_iconst hE (by decide) dX12_term_92) (n_zreturn hE rfl dX12_term_93)),
    (n_sq (n_aload_n hE dX12_term_94) (n_sq (n_iload_n hE dX12_term_95) (n_sq (n_iconst hE (by decide) dX12_term_96) (n_sq (n_cVv hE m_X12_puts vc_X12_175 (show 0 + 1 ≤ 4 ∧ 8 + (3 + 11) + 0 ≤ 88 by decide) dX12_term_97) (n_goto hE (by decide) dX12_term_100))))),
    (n_sq (n_iconst hE (by decide) dX12_term_103) (n_zreturn hE rfl dX12_term_104)), trivial⟩
noncomputable def F_X12_term (as : List XV) (w : XW) : Option (Int32 × XW) := (xF 2 bs_X12_term as w).bind pI
theorem m_X12_term : XM yX12_term cX12_term 2 (some .boolean) 4 88 (eI F_X12_term) := xm_I (xm_of (by decide) s_X12_term)
noncomputable def q_X12_term_0 (w : XW) : Option XR := ev bs_X12_term 0 ([some (.inr (11, 0)), none], [], w)
noncomputable def q_X12_term_7 (w : XW) : Option XR := ev bs_X12_term 7 ([none, none], [], w)
noncomputable def q_X12_term_9 (w : XW) : Option XR := ev bs_X12_term 9 ([some (.inr (11, 0)), none], [], w)
noncomputable def q_X12_term_18 (w : XW) : Option XR := ev bs_X12_term 18 ([some (.inr (11, 0)), none], [], w)
noncomputable def q_X12_term_27 (w : XW) : Option XR := ev bs_X12_term 27 ([some (.inr (11, 0)), none], [], w)
noncomputable def q_X12_term_36 (w : XW) : Option XR := ev bs_X12_term 36 ([some (.inr (11, 0)), none], [], w)
noncomputable def q_X12_term_50 (w : XW) : Option XR := ev bs_X12_term 50 ([some (.inr (11, 0)), none], [], w)
noncomputable def q_X12_term_54 (w : XW) : Option XR := ev bs_X12_term 54 ([some (.inr (11, 0)), none], [], w)
noncomputable def q_X12_term_68 (w : XW) : Option XR := ev bs_X12_term 68 ([some (.inr (11, 0)), none], [], w)
noncomputable def q_X12_term_72 (w : XW) : Option XR := ev bs_X12_term 72 ([some (.inr (11, 0)), none], [], w)
noncomputable def q_X12_term_74 (s0 : Int32) (w : XW) : Option XR := ev bs_X12_term 74 ([some (.inr (11, 0)), none], [.inl (.int s0)], w)
noncomputable def q_X12_term_92 (w : XW) : Option XR := ev bs_X12_term 92 ([none, none], [], w)
noncomputable def q_X12_term_94 (x1 : Int32) (w : XW) : Option XR := ev bs_X12_term 94 ([some (.inr (11, 0)), some (.inl (.int x1))], [], w)
noncomputable def q_X12_term_103 (w : XW) : Option XR := ev bs_X12_term 103 ([none, none], [], w)
theorem e_X12_term_0 (w : XW) : q_X12_term_0 w = ((F_X12_value [.inr (11, 0)] w).bind fun r0 => (bif decide (¬ r0.1 = 0) then (q_X12_term_9 r0.2) else (q_X12_term_7 r0.2))) := (ev_eq _ _ _).trans rfl
theorem e_X12_term_7 (w : XW) : q_X12_term_7 w = (some (some (.inl (.int 0)), w)) := (ev_eq _ _ _).trans rfl
theorem e_X12_term_9 (w : XW) : q_X12_term_9 w = ((F_X12_see [.inr (11, 0)] w).bind fun r0 => (bif decide (r0.1 = 42) then (q_X12_term_36 r0.2) else (q_X12_term_18 r0.2))) := (ev_eq _ _ _).trans rfl
theorem e_X12_term_18 (w : XW) : q_X12_term_18 w = ((F_X12_see [.inr (11, 0)] w).bind fun r0 => (bif decide (r0.1 = 47) then (q_X12_term_36 r0.2) else (q_X12_term_27 r0.2))) := (ev_eq _ _ _).trans rfl
theorem e_X12_term_27 (w : XW) : q_X12_term_27 w = ((F_X12_see [.inr (11, 0)] w).bind fun r0 => (bif decide (¬ r0.1 = 37) then (q_X12_term_103 r0.2) else (q_X12_term_36 r0.2))) := (ev_eq _ _ _).trans rfl
theorem e_X12_term_36 (w : XW) : q_X12_term_36 w = (if (gI w 11 0 8) < 0 ∨ 400 ≤ (gI w 11 0 8).toNatClampNeg then none else (bif decide (¬ (gI w 41 0 (gI w 11 0 8).toNatClampNeg) = 42) then (q_X12_term_54 w) else (q_X12_term_50 w))) := (ev_eq _ _ _).trans rfl
theorem e_X12_term_50 (w : XW) : q_X12_term_50 w = (q_X12_term_74 4 w) := (ev_eq _ _ _).trans rfl
theorem e_X12_term_54 (w : XW) : q_X12_term_54 w = (if (gI w 11 0 8) < 0 ∨ 400 ≤ (gI w 11 0 8).toNatClampNeg then none else (bif decide (¬ (gI w 41 0 (gI w 11 0 8).toNatClampNeg) = 47) then (q_X12_term_72 w) else (q_X12_term_68 w))) := (ev_eq _ _ _).trans rfl
theorem e_X12_term_68 (w : XW) : q_X12_term_68 w = (q_X12_term_74 5 w) := (ev_eq _ _ _).trans rfl
theorem e_X12_term_72 (w : XW) : q_X12_term_72 w = (q_X12_term_74 14 w) := (ev_eq _ _ _).trans rfl
theorem e_X12_term_74 (s0 : Int32) (w : XW) : q_X12_term_74 s0 w = ((F_X12_value [.inr (11, 0)] (sI w 11 0 8 ((gI w 11 0 8) + 1))).bind fun r0 => (bif decide (¬ r0.1 = 0) then (q_X12_term_94 s0 r0.2) else (q_X12_term_92 r0.2))) := (ev_eq _ _ _).trans rfl
theorem e_X12_term_92 (w : XW) : q_X12_term_92 w = (some (some (.inl (.int 0)), w)) := (ev_eq _ _ _).trans rfl
theorem e_X12_term_94 (x1 : Int32) (w : XW) : q_X12_term_94 x1 w = ((F_X12_puts [.inr (11, 0), .inl (.int x1), .inl (.int 0)] w).bind fun r0 => (q_X12_term_9 r0)) := (ev_eq _ _ _).trans rfl
theorem e_X12_term_103 (w : XW) : q_X12_term_103 w = (some (some (.inl (.int 1)), w)) := (ev_eq _ _ _).trans rfl
theorem f_X12_term (w : XW) : F_X12_term [.inr (11, 0)] w = (q_X12_term_0 w).bind pI := rfl

-- WinterKeepModel.sum()Z
theorem dX12_sum_0 : decode cX12_sum 0 = .ok (.aload_n 0, 1) := by decide +kernel
theorem dX12_sum_1 : decode cX12_sum 1 = .ok (.invokevirtual 193, 3) := by decide +kernel
theorem dX12_sum_4 : decode cX12_sum 4 = .ok (.ifCond .ne 5, 3) := by decide +kernel
theorem dX12_sum_7 : decode cX12_sum 7 = .ok (.iconst 0, 1) := by decide +kernel
theorem dX12_sum_8 : decode cX12_sum 8 = .ok (.ireturn, 1) := by decide +kernel
theorem dX12_sum_9 : decode cX12_sum 9 = .ok (.aload_n 0, 1) := by decide +kernel
theorem dX12_sum_10 : decode cX12_sum 10 = .ok (.invokevirtual 109, 3) := by decide +kernel
theorem dX12_sum_13 : decode cX12_sum 13 = .ok (.bipush 43, 2) := by decide +kernel
theorem dX12_sum_15 : decode cX12_sum 15 = .ok (.if_icmp .eq 12, 3) := by decide +kernel
theorem dX12_sum_18 : decode cX12_sum 18 = .ok (.aload_n 0, 1) := by decide +kernel
theorem dX12_sum_19 : decode cX12_sum 19 = .ok (.invokevirtual 109, 3) := by decide +kernel
theorem dX12_sum_22 : decode cX12_sum 22 = .ok (.bipush 45, 2) := by decide +kernel
theorem dX12_sum_24 : decode cX12_sum 24 = .ok (.if_icmp .ne 51, 3) := by decide +kernel
theorem dX12_sum_27 : decode cX12_sum 27 = .ok (.aload_n 0, 1) := by decide +kernel
theorem dX12_sum_28 : decode cX12_sum 28 = .ok (.getfield 7, 3) := by decide +kernel
theorem dX12_sum_31 : decode cX12_sum 31 = .ok (.aload_n 0, 1) := by decide +kernel
theorem dX12_sum_32 : decode cX12_sum 32 = .ok (.getfield 106, 3) := by decide +kernel
theorem dX12_sum_35 : decode cX12_sum 35 = .ok (.baload, 1) := by decide +kernel
theorem dX12_sum_36 : decode cX12_sum 36 = .ok (.bipush 43, 2) := by decide +kernel
theorem dX12_sum_38 : decode cX12_sum 38 = .ok (.if_icmp .ne 7, 3) := by decide +kernel
theorem dX12_sum_41 : decode cX12_sum 41 = .ok (.iconst 2, 1) := by decide +kernel
theorem dX12_sum_42 : decode cX12_sum 42 = .ok (.goto 4, 3) := by decide +kernel
theorem dX12_sum_45 : decode cX12_sum 45 = .ok (.iconst 3, 1) := by decide +kernel
theorem dX12_sum_46 : decode cX12_sum 46 = .ok (.istore_n 1, 1) := by decide +kernel
theorem dX12_sum_47 : decode cX12_sum 47 = .ok (.aload_n 0, 1) := by decide +kernel
theorem dX12_sum_48 : decode cX12_sum 48 = .ok (.dup, 1) := by decide +kernel
theorem dX12_sum_49 : decode cX12_sum 49 = .ok (.getfield 106, 3) := by decide +kernel
theorem dX12_sum_52 : decode cX12_sum 52 = .ok (.iconst 1, 1) := by decide +kernel
theorem dX12_sum_53 : decode cX12_sum 53 = .ok (.iadd, 1) := by decide +kernel
theorem dX12_sum_54 : decode cX12_sum 54 = .ok (.putfield 106, 3) := by decide +kernel
theorem dX12_sum_57 : decode cX12_sum 57 = .ok (.aload_n 0, 1) := by decide +kernel
theorem dX12_sum_58 : decode cX12_sum 58 = .ok (.invokevirtual 193, 3) := by decide +kernel
theorem dX12_sum_61 : decode cX12_sum 61 = .ok (.ifCond .ne 5, 3) := by decide +kernel
theorem dX12_sum_64 : decode cX12_sum 64 = .ok (.iconst 0, 1) := by decide +kernel
theorem dX12_sum_65 : decode cX12_sum 65 = .ok (.ireturn, 1) := by decide +kernel
theorem dX12_sum_66 : decode cX12_sum 66 = .ok (.aload_n 0, 1) := by decide +kernel
theorem dX12_sum_67 : decode cX12_sum 67 = .ok (.iload_n 1, 1) := by decide +kernel
theorem dX12_sum_68 : decode cX12_sum 68 = .ok (.iconst 0, 1) := by decide +kernel
theorem dX12_sum_69 : decode cX12_sum 69 = .ok (.invokevirtual 175, 3) := by decide +kernel
theorem dX12_sum_72 : decode cX12_sum 72 = .ok (.goto (-63), 3) := by decide +kernel
theorem dX12_sum_75 : decode cX12_sum 75 = .ok (.iconst 1, 1) := by decide +kernel
theorem dX12_sum_76 : decode cX12_sum 76 = .ok (.ireturn, 1) := by decide +kernel
theorem vc_X12_193 : XVw RX12 193 0 11 2 yX12_term cX12_term (some .boolean) := ⟨RX12, TX12, tyX12, 43, xk_11, rfl, ⟨by decide, by decide⟩, by decide +kernel, wt_1192, wt_1194, ws_58, wt_11, wt_1195⟩
noncomputable def bs_X12_sum : List (Nat × XB) := [
  (0, (sq (xLA 0) (sq (xCI 11 1 F_X12_term) (tIf1 (fun x => decide (¬ x = 0)) 9 [true, false] 7 [false, false])))),
  (7, (sq (xC (.int 0)) tRZ)),
  (9, (sq (xLA 0) (sq (xCI 11 1 F_X12_see) (sq (xC (.int 43)) (tIf2 (fun x y => decide (x = y)) 27 [true, false] 18 [true, false]))))),
  (18, (sq (xLA 0) (sq (xCI 11 1 F_X12_see) (sq (xC (.int 45)) (tIf2 (fun x y => decide (¬ x = y)) 75 [false, false] 27 [true, false]))))),
  (27, (sq (xLA 0) (sq (xGS 11 41 1 0) (sq (xLA 0) (sq (xGI 11 8) (sq (xAI 41 400) (sq (xC (.int 43)) (tIf2 (fun x y => decide (¬ x = y)) 45 [true, false] 41 [true, false])))))))),
  (41, (sq (xC (.int 2)) (tGo 46 [true, false]))),
  (45, (sq (xC (.int 3)) (tGo 46 [true, false]))),
  (46, (sq (xSI 1) (sq (xLA 0) (sq (xDup) (sq (xGI 11 8) (sq (xC (.int 1)) (sq (xI2 (· + ·)) (sq (xPI 11 8) (sq (xLA 0) (sq (xCI 11 1 F_X12_term) (tIf1 (fun x => decide (¬ x = 0)) 66 [true, true] 64 [false, false]))))))))))),
  (64, (sq (xC (.int 0)) tRZ)),
  (66, (sq (xLA 0) (sq (xLI 1) (sq (xC (.int 0)) (sq (xCV 11 3 F_X12_puts) (tGo 9 [true, false])))))),
  (75, (sq (xC (.int 1)) tRZ))]
set_option maxRecDepth 100000 in
set_option maxHeartbeats 4000000 in
theorem s_X12_sum : ∀ X : XCtx, XE X → X.2.2.1.1 = cX12_sum → X.2.2.1.2.1 = 2 → X.2.2.1.2.2.1 = yX12_sum.cls → X.2.2.1.2.2.2.1 = (some .boolean) → X.1.2.2.2.1 = { frames := 5, cells := 0, slots := 0, locals := 109 } → SndBs X bs_X12_sum := by
  rintro ⟨⟨p, l, e, R, s⟩, Y, ⟨cc, nL, own, ret, Ts⟩, Z⟩ hE h1 h2 h3 h4 h5
  dsimp only at h1 h2 h3 h4 h5
  subst h1 h2 h3 h4 h5
  exact ⟨(n_sq (n_aload_n hE dX12_sum_0) (n_sq (n_cIv hE m_X12_term vc_X12_193 (show 4 + 1 ≤ 5 ∧ 8 + (2 + 11) + 88 ≤ 109 by decide) dX12_sum_1) (n_ifne hE (by decide) dX12_sum_4))),
    (n_sq (n_iconst hE (by decide) dX12_sum_7) (n_zreturn hE rfl dX12_sum_8)),
    (n_sq (n_aload_n hE dX12_sum_9) (n_sq (n_cIv hE m_X12_see vc_X12_109 (show 0 + 1 ≤ 5 ∧ 8 + (1 + 11) + 0 ≤ 109 by decide) dX12_sum_10) (n_sq (n_bipush hE (by decide) dX12_sum_13) (n_ifceq hE (by decide) dX12_sum_15)))),
    (n_sq (n_aload_n hE dX12_sum_18) (n_sq (n_cIv hE m_X12_see vc_X12_109 (show 0 + 1 ≤ 5 ∧ 8 + (1 + 11) + 0 ≤ 109 by decide) dX12_sum_19) (n_sq (n_bipush hE (by decide) dX12_sum_22) (n_ifcne hE (by decide) dX12_sum_24)))),
    (n_sq (n_aload_n hE dX12_sum_27) (n_sq (n_getS hE xk_11 (k := 0) rfl (by decide) rfl wt_960 dX12_sum_28) (n_sq (n_aload_n hE dX12_sum_31) (n_sq (n_getI hE xk_11 (k := 8) rfl (by decide) rfl wt_968 dX12_sum_32) (n_sq (n_bald hE rfl (by decide) dX12_sum_35) (n_sq (n_bipush hE (by decide) dX12_sum_36) (n_ifcne hE (by decide) dX12_sum_38))))))),
    (n_sq (n_iconst hE (by decide) dX12_sum_41) (n_goto hE (by decide) dX12_sum_42)),
    (n_sq (n_iconst hE (by decide) dX12_sum_45) n_fall),
    (n_sq (n_istore_n hE (show (1 : Nat) < 2 by decide) dX12_sum_46) (n_sq (n_aload_n hE dX12_sum_47) (n_sq (n_dup hE dX12_sum_48) (n_sq (n_getI hE xk_11 (k := 8) rfl (by decide) rfl wt_968 dX12_sum_49) (n_sq (n_iconst hE (by decide) dX12_sum_52) (n_sq (n_iadd hE dX12_sum_53) (n_sq (n_putI hE xk_11 (k := 8) rfl (by decide) rfl rfl (tyX12_ok 8 (by decide)) wt_968 dX12_sum_54) (n_sq (n_aload_n hE dX12_sum_57) (n_sq (n_cIv hE m_X12_term vc_X12_193 (show 4 + 1 ≤ 5 ∧ 8 + (2 + 11) + 88 ≤ 109 by decide) dX12_sum_58) (n_ifne hE (by decide) dX12_sum_61)))))))))),
    (n_sq (n_iconst hE (by decide) dX12_sum_64) (n_zreturn hE rfl dX12_sum_65)),
    (n_sq (n_aload_n hE dX12_sum_66) (n_sq (n_iload_n hE dX12_sum_67) (n_sq (n_iconst hE (by decide) dX12_sum_68) (n_sq (n_cVv hE m_X12_puts vc_X12_175 (show 0 + 1 ≤ 5 ∧ 8 + (3 + 11) + 0 ≤ 109 by decide) dX12_sum_69) (n_goto hE (by decide) dX12_sum_72))))),
    (n_sq (n_iconst hE (by decide) dX12_sum_75) (n_zreturn hE rfl dX12_sum_76)), trivial⟩
noncomputable def F_X12_sum (as : List XV) (w : XW) : Option (Int32 × XW) := (xF 2 bs_X12_sum as w).bind pI
theorem m_X12_sum : XM yX12_sum cX12_sum 2 (some .boolean) 5 109 (eI F_X12_sum) := xm_I (xm_of (by decide) s_X12_sum)
noncomputable def q_X12_sum_0 (w : XW) : Option XR := ev bs_X12_sum 0 ([some (.inr (11, 0)), none], [], w)
noncomputable def q_X12_sum_7 (w : XW) : Option XR := ev bs_X12_sum 7 ([none, none], [], w)
noncomputable def q_X12_sum_9 (w : XW) : Option XR := ev bs_X12_sum 9 ([some (.inr (11, 0)), none], [], w)
noncomputable def q_X12_sum_18 (w : XW) : Option XR := ev bs_X12_sum 18 ([some (.inr (11, 0)), none], [], w)
noncomputable def q_X12_sum_27 (w : XW) : Option XR := ev bs_X12_sum 27 ([some (.inr (11, 0)), none], [], w)
noncomputable def q_X12_sum_41 (w : XW) : Option XR := ev bs_X12_sum 41 ([some (.inr (11, 0)), none], [], w)
noncomputable def q_X12_sum_45 (w : XW) : Option XR := ev bs_X12_sum 45 ([some (.inr (11, 0)), none], [], w)
noncomputable def q_X12_sum_46 (s0 : Int32) (w : XW) : Option XR := ev bs_X12_sum 46 ([some (.inr (11, 0)), none], [.inl (.int s0)], w)
noncomputable def q_X12_sum_64 (w : XW) : Option XR := ev bs_X12_sum 64 ([none, none], [], w)
noncomputable def q_X12_sum_66 (x1 : Int32) (w : XW) : Option XR := ev bs_X12_sum 66 ([some (.inr (11, 0)), some (.inl (.int x1))], [], w)
noncomputable def q_X12_sum_75 (w : XW) : Option XR := ev bs_X12_sum 75 ([none, none], [], w)
theorem e_X12_sum_0 (w : XW) : q_X12_sum_0 w = ((F_X12_term [.inr (11, 0)] w).bind fun r0 => (bif decide (¬ r0.1 = 0) then (q_X12_sum_9 r0.2) else (q_X12_sum_7 r0.2))) := (ev_eq _ _ _).trans rfl
theorem e_X12_sum_7 (w : XW) : q_X12_sum_7 w = (some (some (.inl (.int 0)), w)) := (ev_eq _ _ _).trans rfl
theorem e_X12_sum_9 (w : XW) : q_X12_sum_9 w = ((F_X12_see [.inr (11, 0)] w).bind fun r0 => (bif decide (r0.1 = 43) then (q_X12_sum_27 r0.2) else (q_X12_sum_18 r0.2))) := (ev_eq _ _ _).trans rfl
theorem e_X12_sum_18 (w : XW) : q_X12_sum_18 w = ((F_X12_see [.inr (11, 0)] w).bind fun r0 => (bif decide (¬ r0.1 = 45) then (q_X12_sum_75 r0.2) else (q_X12_sum_27 r0.2))) := (ev_eq _ _ _).trans rfl
theorem e_X12_sum_27 (w : XW) : q_X12_sum_27 w = (if (gI w 11 0 8) < 0 ∨ 400 ≤ (gI w 11 0 8).toNatClampNeg then none else (bif decide (¬ (gI w 41 0 (gI w 11 0 8).toNatClampNeg) = 43) then (q_X12_sum_45 w) else (q_X12_sum_41 w))) := (ev_eq _ _ _).trans rfl
theorem e_X12_sum_41 (w : XW) : q_X12_sum_41 w = (q_X12_sum_46 2 w) := (ev_eq _ _ _).trans rfl
theorem e_X12_sum_45 (w : XW) : q_X12_sum_45 w = (q_X12_sum_46 3 w) := (ev_eq _ _ _).trans rfl
theorem e_X12_sum_46 (s0 : Int32) (w : XW) : q_X12_sum_46 s0 w = ((F_X12_term [.inr (11, 0)] (sI w 11 0 8 ((gI w 11 0 8) + 1))).bind fun r0 => (bif decide (¬ r0.1 = 0) then (q_X12_sum_66 s0 r0.2) else (q_X12_sum_64 r0.2))) := (ev_eq _ _ _).trans rfl
theorem e_X12_sum_64 (w : XW) : q_X12_sum_64 w = (some (some (.inl (.int 0)), w)) := (ev_eq _ _ _).trans rfl
theorem e_X12_sum_66 (x1 : Int32) (w : XW) : q_X12_sum_66 x1 w = ((F_X12_puts [.inr (11, 0), .inl (.int x1), .inl (.int 0)] w).bind fun r0 => (q_X12_sum_9 r0)) := (ev_eq _ _ _).trans rfl
theorem e_X12_sum_75 (w : XW) : q_X12_sum_75 w = (some (some (.inl (.int 1)), w)) := (ev_eq _ _ _).trans rfl
theorem f_X12_sum (w : XW) : F_X12_sum [.inr (11, 0)] w = (q_X12_sum_0 w).bind pI := rfl
