-- WinterKeepModel.isKeepHere(I)Z
theorem dX12_isKeepHere_0 : decode cX12_isKeepHere 0 = .ok (.aload_n 0, 1) := by decide +kernel
theorem dX12_isKeepHere_1 : decode cX12_isKeepHere 1 = .ok (.getfield 26, 3) := by decide +kernel
theorem dX12_isKeepHere_4 : decode cX12_isKeepHere 4 = .ok (.iconst 3, 1) := by decide +kernel
theorem dX12_isKeepHere_5 : decode cX12_isKeepHere 5 = .ok (.iaload, 1) := by decide +kernel
theorem dX12_isKeepHere_6 : decode cX12_isKeepHere 6 = .ok (.bipush 6, 2) := by decide +kernel
theorem dX12_isKeepHere_8 : decode cX12_isKeepHere 8 = .ok (.if_icmp .ne 10, 3) := by decide +kernel
theorem dX12_isKeepHere_11 : decode cX12_isKeepHere 11 = .ok (.aload_n 0, 1) := by decide +kernel
theorem dX12_isKeepHere_12 : decode cX12_isKeepHere 12 = .ok (.iconst 4, 1) := by decide +kernel
theorem dX12_isKeepHere_13 : decode cX12_isKeepHere 13 = .ok (.iload_n 1, 1) := by decide +kernel
theorem dX12_isKeepHere_14 : decode cX12_isKeepHere 14 = .ok (.invokevirtual 127, 3) := by decide +kernel
theorem dX12_isKeepHere_17 : decode cX12_isKeepHere 17 = .ok (.ireturn, 1) := by decide +kernel
theorem dX12_isKeepHere_18 : decode cX12_isKeepHere 18 = .ok (.aload_n 0, 1) := by decide +kernel
theorem dX12_isKeepHere_19 : decode cX12_isKeepHere 19 = .ok (.invokevirtual 121, 3) := by decide +kernel
theorem dX12_isKeepHere_22 : decode cX12_isKeepHere 22 = .ok (.aload_n 0, 1) := by decide +kernel
theorem dX12_isKeepHere_23 : decode cX12_isKeepHere 23 = .ok (.bipush 35, 2) := by decide +kernel
theorem dX12_isKeepHere_25 : decode cX12_isKeepHere 25 = .ok (.aload_n 0, 1) := by decide +kernel
theorem dX12_isKeepHere_26 : decode cX12_isKeepHere 26 = .ok (.getfield 26, 3) := by decide +kernel
theorem dX12_isKeepHere_29 : decode cX12_isKeepHere 29 = .ok (.iconst 3, 1) := by decide +kernel
theorem dX12_isKeepHere_30 : decode cX12_isKeepHere 30 = .ok (.iaload, 1) := by decide +kernel
theorem dX12_isKeepHere_31 : decode cX12_isKeepHere 31 = .ok (.iadd, 1) := by decide +kernel
theorem dX12_isKeepHere_32 : decode cX12_isKeepHere 32 = .ok (.iconst 1, 1) := by decide +kernel
theorem dX12_isKeepHere_33 : decode cX12_isKeepHere 33 = .ok (.bipush 60, 2) := by decide +kernel
theorem dX12_isKeepHere_35 : decode cX12_isKeepHere 35 = .ok (.invokevirtual 231, 3) := by decide +kernel
theorem dX12_isKeepHere_38 : decode cX12_isKeepHere 38 = .ok (.ifCond .eq 22, 3) := by decide +kernel
theorem dX12_isKeepHere_41 : decode cX12_isKeepHere 41 = .ok (.aload_n 0, 1) := by decide +kernel
theorem dX12_isKeepHere_42 : decode cX12_isKeepHere 42 = .ok (.bipush 41, 2) := by decide +kernel
theorem dX12_isKeepHere_44 : decode cX12_isKeepHere 44 = .ok (.aload_n 0, 1) := by decide +kernel
theorem dX12_isKeepHere_45 : decode cX12_isKeepHere 45 = .ok (.getfield 26, 3) := by decide +kernel
theorem dX12_isKeepHere_48 : decode cX12_isKeepHere 48 = .ok (.iconst 3, 1) := by decide +kernel
theorem dX12_isKeepHere_49 : decode cX12_isKeepHere 49 = .ok (.iaload, 1) := by decide +kernel
theorem dX12_isKeepHere_50 : decode cX12_isKeepHere 50 = .ok (.iadd, 1) := by decide +kernel
theorem dX12_isKeepHere_51 : decode cX12_isKeepHere 51 = .ok (.iconst 0, 1) := by decide +kernel
theorem dX12_isKeepHere_52 : decode cX12_isKeepHere 52 = .ok (.bipush 20, 2) := by decide +kernel
theorem dX12_isKeepHere_54 : decode cX12_isKeepHere 54 = .ok (.invokevirtual 231, 3) := by decide +kernel
theorem dX12_isKeepHere_57 : decode cX12_isKeepHere 57 = .ok (.ifCond .ne 5, 3) := by decide +kernel
theorem dX12_isKeepHere_60 : decode cX12_isKeepHere 60 = .ok (.iconst 0, 1) := by decide +kernel
theorem dX12_isKeepHere_61 : decode cX12_isKeepHere 61 = .ok (.ireturn, 1) := by decide +kernel
theorem dX12_isKeepHere_62 : decode cX12_isKeepHere 62 = .ok (.aload_n 0, 1) := by decide +kernel
theorem dX12_isKeepHere_63 : decode cX12_isKeepHere 63 = .ok (.getfield 26, 3) := by decide +kernel
theorem dX12_isKeepHere_66 : decode cX12_isKeepHere 66 = .ok (.iconst 3, 1) := by decide +kernel
theorem dX12_isKeepHere_67 : decode cX12_isKeepHere 67 = .ok (.dup2, 1) := by decide +kernel
theorem dX12_isKeepHere_68 : decode cX12_isKeepHere 68 = .ok (.iaload, 1) := by decide +kernel
theorem dX12_isKeepHere_69 : decode cX12_isKeepHere 69 = .ok (.iconst 1, 1) := by decide +kernel
theorem dX12_isKeepHere_70 : decode cX12_isKeepHere 70 = .ok (.iadd, 1) := by decide +kernel
theorem dX12_isKeepHere_71 : decode cX12_isKeepHere 71 = .ok (.iastore, 1) := by decide +kernel
theorem dX12_isKeepHere_72 : decode cX12_isKeepHere 72 = .ok (.iconst 1, 1) := by decide +kernel
theorem dX12_isKeepHere_73 : decode cX12_isKeepHere 73 = .ok (.ireturn, 1) := by decide +kernel
noncomputable def bs_X12_isKeepHere : List (Nat × XB) := [
  (0, (sq (xLA 0) (sq (xGS 11 46 1 0) (sq (xC (.int 3)) (sq (xAI 46 67) (sq (xC (.int 6)) (tIf2 (fun x y => decide (¬ x = y)) 18 [true, false] 11 [true, true]))))))),
  (11, (sq (xLA 0) (sq (xC (.int 4)) (sq (xLI 1) (sq (xCI 11 3 F_X12_fails) tRZ))))),
  (18, (sq (xLA 0) (sq (xCV 11 1 F_X12_passWord) (sq (xLA 0) (sq (xC (.int 35)) (sq (xLA 0) (sq (xGS 11 46 1 0) (sq (xC (.int 3)) (sq (xAI 46 67) (sq (xI2 (· + ·)) (sq (xC (.int 1)) (sq (xC (.int 60)) (sq (xCI 11 4 F_X12_cellHere) (tIf1 (fun x => decide (x = 0)) 60 [false, false] 41 [true, false])))))))))))))),
  (41, (sq (xLA 0) (sq (xC (.int 41)) (sq (xLA 0) (sq (xGS 11 46 1 0) (sq (xC (.int 3)) (sq (xAI 46 67) (sq (xI2 (· + ·)) (sq (xC (.int 0)) (sq (xC (.int 20)) (sq (xCI 11 4 F_X12_cellHere) (tIf1 (fun x => decide (¬ x = 0)) 62 [true, false] 60 [false, false])))))))))))),
  (60, (sq (xC (.int 0)) tRZ)),
  (62, (sq (xLA 0) (sq (xGS 11 46 1 0) (sq (xC (.int 3)) (sq (xDup2) (sq (xAI 46 67) (sq (xC (.int 1)) (sq (xI2 (· + ·)) (sq (xTI 46 67 (fun x => x)) (sq (xC (.int 1)) tRZ))))))))))]
set_option maxRecDepth 100000 in
set_option maxHeartbeats 4000000 in
theorem s_X12_isKeepHere : ∀ X : XCtx, XE X → X.2.2.1.1 = cX12_isKeepHere → X.2.2.1.2.1 = 2 → X.2.2.1.2.2.1 = yX12_isKeepHere.cls → X.2.2.1.2.2.2.1 = (some .boolean) → X.1.2.2.2.1 = { frames := 3, cells := 0, slots := 0, locals := 72 } → SndBs X bs_X12_isKeepHere := by
  rintro ⟨⟨p, l, e, R, s⟩, Y, ⟨cc, nL, own, ret, Ts⟩, Z⟩ hE h1 h2 h3 h4 h5
  dsimp only at h1 h2 h3 h4 h5
  subst h1 h2 h3 h4 h5
  exact ⟨(n_sq (n_aload_n hE dX12_isKeepHere_0) (n_sq (n_getS hE xk_11 (k := 7) rfl (by decide) rfl wt_967 dX12_isKeepHere_1) (n_sq (n_iconst hE (by decide) dX12_isKeepHere_4) (n_sq (n_iald hE rfl (by decide) dX12_isKeepHere_5) (n_sq (n_bipush hE (by decide) dX12_isKeepHere_6) (n_ifcne hE (by decide) dX12_isKeepHere_8)))))),
    (n_sq (n_aload_n hE dX12_isKeepHere_11) (n_sq (n_iconst hE (by decide) dX12_isKeepHere_12) (n_sq (n_iload_n hE dX12_isKeepHere_13) (n_sq (n_cIv hE m_X12_fails vc_X12_127 (show 0 + 1 ≤ 3 ∧ 8 + (3 + 11) + 0 ≤ 72 by decide) dX12_isKeepHere_14) (n_zreturn hE rfl dX12_isKeepHere_17))))),
    (n_sq (n_aload_n hE dX12_isKeepHere_18) (n_sq (n_cVv hE m_X12_passWord vc_X12_121 (show 1 + 1 ≤ 3 ∧ 8 + (1 + 11) + 21 ≤ 72 by decide) dX12_isKeepHere_19) (n_sq (n_aload_n hE dX12_isKeepHere_22) (n_sq (n_bipush hE (by decide) dX12_isKeepHere_23) (n_sq (n_aload_n hE dX12_isKeepHere_25) (n_sq (n_getS hE xk_11 (k := 7) rfl (by decide) rfl wt_967 dX12_isKeepHere_26) (n_sq (n_iconst hE (by decide) dX12_isKeepHere_29) (n_sq (n_iald hE rfl (by decide) dX12_isKeepHere_30) (n_sq (n_iadd hE dX12_isKeepHere_31) (n_sq (n_iconst hE (by decide) dX12_isKeepHere_32) (n_sq (n_bipush hE (by decide) dX12_isKeepHere_33) (n_sq (n_cIv hE m_X12_cellHere vc_X12_231 (show 2 + 1 ≤ 3 ∧ 8 + (4 + 11) + 49 ≤ 72 by decide) dX12_isKeepHere_35) (n_ifeq hE (by decide) dX12_isKeepHere_38))))))))))))),
    (n_sq (n_aload_n hE dX12_isKeepHere_41) (n_sq (n_bipush hE (by decide) dX12_isKeepHere_42) (n_sq (n_aload_n hE dX12_isKeepHere_44) (n_sq (n_getS hE xk_11 (k := 7) rfl (by decide) rfl wt_967 dX12_isKeepHere_45) (n_sq (n_iconst hE (by decide) dX12_isKeepHere_48) (n_sq (n_iald hE rfl (by decide) dX12_isKeepHere_49) (n_sq (n_iadd hE dX12_isKeepHere_50) (n_sq (n_iconst hE (by decide) dX12_isKeepHere_51) (n_sq (n_bipush hE (by decide) dX12_isKeepHere_52) (n_sq (n_cIv hE m_X12_cellHere vc_X12_231 (show 2 + 1 ≤ 3 ∧ 8 + (4 + 11) + 49 ≤ 72 by decide) dX12_isKeepHere_54) (n_ifne hE (by decide) dX12_isKeepHere_57))))))))))),
    (n_sq (n_iconst hE (by decide) dX12_isKeepHere_60) (n_zreturn hE rfl dX12_isKeepHere_61)),
    (n_sq (n_aload_n hE dX12_isKeepHere_62) (n_sq (n_getS hE xk_11 (k := 7) rfl (by decide) rfl wt_967 dX12_isKeepHere_63) (n_sq (n_iconst hE (by decide) dX12_isKeepHere_66) (n_sq (n_dup2 hE dX12_isKeepHere_67) (n_sq (n_iald hE rfl (by decide) dX12_isKeepHere_68) (n_sq (n_iconst hE (by decide) dX12_isKeepHere_69) (n_sq (n_iadd hE dX12_isKeepHere_70) (n_sq (n_iast hE rfl (by decide) dX12_isKeepHere_71) (n_sq (n_iconst hE (by decide) dX12_isKeepHere_72) (n_zreturn hE rfl dX12_isKeepHere_73)))))))))), trivial⟩
noncomputable def F_X12_isKeepHere (as : List XV) (w : XW) : Option (Int32 × XW) := (xF 2 bs_X12_isKeepHere as w).bind pI
theorem m_X12_isKeepHere : XM yX12_isKeepHere cX12_isKeepHere 2 (some .boolean) 3 72 (eI F_X12_isKeepHere) := xm_I (xm_of (by decide) s_X12_isKeepHere)
noncomputable def q_X12_isKeepHere_0 (x1 : Int32) (w : XW) : Option XR := ev bs_X12_isKeepHere 0 ([some (.inr (11, 0)), some (.inl (.int x1))], [], w)
noncomputable def q_X12_isKeepHere_11 (x1 : Int32) (w : XW) : Option XR := ev bs_X12_isKeepHere 11 ([some (.inr (11, 0)), some (.inl (.int x1))], [], w)
noncomputable def q_X12_isKeepHere_18 (w : XW) : Option XR := ev bs_X12_isKeepHere 18 ([some (.inr (11, 0)), none], [], w)
noncomputable def q_X12_isKeepHere_41 (w : XW) : Option XR := ev bs_X12_isKeepHere 41 ([some (.inr (11, 0)), none], [], w)
noncomputable def q_X12_isKeepHere_60 (w : XW) : Option XR := ev bs_X12_isKeepHere 60 ([none, none], [], w)
noncomputable def q_X12_isKeepHere_62 (w : XW) : Option XR := ev bs_X12_isKeepHere 62 ([some (.inr (11, 0)), none], [], w)
theorem e_X12_isKeepHere_0 (x1 : Int32) (w : XW) : q_X12_isKeepHere_0 x1 w = (bif decide (¬ (gI w 46 0 3) = 6) then (q_X12_isKeepHere_18 w) else (q_X12_isKeepHere_11 x1 w)) := (ev_eq _ _ _).trans rfl
theorem e_X12_isKeepHere_11 (x1 : Int32) (w : XW) : q_X12_isKeepHere_11 x1 w = ((F_X12_fails [.inr (11, 0), .inl (.int 4), .inl (.int x1)] w).bind fun r0 => (if r0.1 = 0 ∨ r0.1 = 1 then some (some (.inl (.int r0.1)), r0.2) else none)) := (ev_eq _ _ _).trans rfl
theorem e_X12_isKeepHere_18 (w : XW) : q_X12_isKeepHere_18 w = ((F_X12_passWord [.inr (11, 0)] w).bind fun r0 => ((F_X12_cellHere [.inr (11, 0), .inl (.int (35 + (gI r0 46 0 3))), .inl (.int 1), .inl (.int 60)] r0).bind fun r1 => (bif decide (r1.1 = 0) then (q_X12_isKeepHere_60 r1.2) else (q_X12_isKeepHere_41 r1.2)))) := (ev_eq _ _ _).trans rfl
theorem e_X12_isKeepHere_41 (w : XW) : q_X12_isKeepHere_41 w = ((F_X12_cellHere [.inr (11, 0), .inl (.int (41 + (gI w 46 0 3))), .inl (.int 0), .inl (.int 20)] w).bind fun r0 => (bif decide (¬ r0.1 = 0) then (q_X12_isKeepHere_62 r0.2) else (q_X12_isKeepHere_60 r0.2))) := (ev_eq _ _ _).trans rfl
theorem e_X12_isKeepHere_60 (w : XW) : q_X12_isKeepHere_60 w = (some (some (.inl (.int 0)), w)) := (ev_eq _ _ _).trans rfl
theorem e_X12_isKeepHere_62 (w : XW) : q_X12_isKeepHere_62 w = (some (some (.inl (.int 1)), sI w 46 0 3 ((gI w 46 0 3) + 1))) := (ev_eq _ _ _).trans rfl
theorem f_X12_isKeepHere (x1 : Int32) (w : XW) : F_X12_isKeepHere [.inr (11, 0), .inl (.int x1)] w = (q_X12_isKeepHere_0 x1 w).bind pI := rfl

-- WinterKeepModel.isPersonHere(I)Z
theorem dX12_isPersonHere_0 : decode cX12_isPersonHere 0 = .ok (.aload_n 0, 1) := by decide +kernel
theorem dX12_isPersonHere_1 : decode cX12_isPersonHere 1 = .ok (.getfield 26, 3) := by decide +kernel
theorem dX12_isPersonHere_4 : decode cX12_isPersonHere 4 = .ok (.iconst 4, 1) := by decide +kernel
theorem dX12_isPersonHere_5 : decode cX12_isPersonHere 5 = .ok (.iaload, 1) := by decide +kernel
theorem dX12_isPersonHere_6 : decode cX12_isPersonHere 6 = .ok (.iconst 5, 1) := by decide +kernel
theorem dX12_isPersonHere_7 : decode cX12_isPersonHere 7 = .ok (.if_icmp .ne 10, 3) := by decide +kernel
theorem dX12_isPersonHere_10 : decode cX12_isPersonHere 10 = .ok (.aload_n 0, 1) := by decide +kernel
theorem dX12_isPersonHere_11 : decode cX12_isPersonHere 11 = .ok (.iconst 4, 1) := by decide +kernel
theorem dX12_isPersonHere_12 : decode cX12_isPersonHere 12 = .ok (.iload_n 1, 1) := by decide +kernel
theorem dX12_isPersonHere_13 : decode cX12_isPersonHere 13 = .ok (.invokevirtual 127, 3) := by decide +kernel
theorem dX12_isPersonHere_16 : decode cX12_isPersonHere 16 = .ok (.ireturn, 1) := by decide +kernel
theorem dX12_isPersonHere_17 : decode cX12_isPersonHere 17 = .ok (.aload_n 0, 1) := by decide +kernel
theorem dX12_isPersonHere_18 : decode cX12_isPersonHere 18 = .ok (.invokevirtual 121, 3) := by decide +kernel
theorem dX12_isPersonHere_21 : decode cX12_isPersonHere 21 = .ok (.aload_n 0, 1) := by decide +kernel
theorem dX12_isPersonHere_22 : decode cX12_isPersonHere 22 = .ok (.bipush 47, 2) := by decide +kernel
theorem dX12_isPersonHere_24 : decode cX12_isPersonHere 24 = .ok (.aload_n 0, 1) := by decide +kernel
theorem dX12_isPersonHere_25 : decode cX12_isPersonHere 25 = .ok (.getfield 26, 3) := by decide +kernel
theorem dX12_isPersonHere_28 : decode cX12_isPersonHere 28 = .ok (.iconst 4, 1) := by decide +kernel
theorem dX12_isPersonHere_29 : decode cX12_isPersonHere 29 = .ok (.iaload, 1) := by decide +kernel
theorem dX12_isPersonHere_30 : decode cX12_isPersonHere 30 = .ok (.iadd, 1) := by decide +kernel
theorem dX12_isPersonHere_31 : decode cX12_isPersonHere 31 = .ok (.iconst 0, 1) := by decide +kernel
theorem dX12_isPersonHere_32 : decode cX12_isPersonHere 32 = .ok (.aload_n 0, 1) := by decide +kernel
theorem dX12_isPersonHere_33 : decode cX12_isPersonHere 33 = .ok (.getfield 26, 3) := by decide +kernel
theorem dX12_isPersonHere_36 : decode cX12_isPersonHere 36 = .ok (.iconst 3, 1) := by decide +kernel
theorem dX12_isPersonHere_37 : decode cX12_isPersonHere 37 = .ok (.iaload, 1) := by decide +kernel
theorem dX12_isPersonHere_38 : decode cX12_isPersonHere 38 = .ok (.iconst 1, 1) := by decide +kernel
theorem dX12_isPersonHere_39 : decode cX12_isPersonHere 39 = .ok (.isub, 1) := by decide +kernel
theorem dX12_isPersonHere_40 : decode cX12_isPersonHere 40 = .ok (.invokevirtual 231, 3) := by decide +kernel
theorem dX12_isPersonHere_43 : decode cX12_isPersonHere 43 = .ok (.ifCond .eq 22, 3) := by decide +kernel
theorem dX12_isPersonHere_46 : decode cX12_isPersonHere 46 = .ok (.aload_n 0, 1) := by decide +kernel
theorem dX12_isPersonHere_47 : decode cX12_isPersonHere 47 = .ok (.bipush 52, 2) := by decide +kernel
theorem dX12_isPersonHere_49 : decode cX12_isPersonHere 49 = .ok (.aload_n 0, 1) := by decide +kernel
theorem dX12_isPersonHere_50 : decode cX12_isPersonHere 50 = .ok (.getfield 26, 3) := by decide +kernel
theorem dX12_isPersonHere_53 : decode cX12_isPersonHere 53 = .ok (.iconst 4, 1) := by decide +kernel
theorem dX12_isPersonHere_54 : decode cX12_isPersonHere 54 = .ok (.iaload, 1) := by decide +kernel
theorem dX12_isPersonHere_55 : decode cX12_isPersonHere 55 = .ok (.iadd, 1) := by decide +kernel
theorem dX12_isPersonHere_56 : decode cX12_isPersonHere 56 = .ok (.iconst 0, 1) := by decide +kernel
theorem dX12_isPersonHere_57 : decode cX12_isPersonHere 57 = .ok (.bipush 9, 2) := by decide +kernel
theorem dX12_isPersonHere_59 : decode cX12_isPersonHere 59 = .ok (.invokevirtual 231, 3) := by decide +kernel
theorem dX12_isPersonHere_62 : decode cX12_isPersonHere 62 = .ok (.ifCond .ne 5, 3) := by decide +kernel
theorem dX12_isPersonHere_65 : decode cX12_isPersonHere 65 = .ok (.iconst 0, 1) := by decide +kernel
theorem dX12_isPersonHere_66 : decode cX12_isPersonHere 66 = .ok (.ireturn, 1) := by decide +kernel
theorem dX12_isPersonHere_67 : decode cX12_isPersonHere 67 = .ok (.aload_n 0, 1) := by decide +kernel
theorem dX12_isPersonHere_68 : decode cX12_isPersonHere 68 = .ok (.getfield 26, 3) := by decide +kernel
theorem dX12_isPersonHere_71 : decode cX12_isPersonHere 71 = .ok (.iconst 4, 1) := by decide +kernel
theorem dX12_isPersonHere_72 : decode cX12_isPersonHere 72 = .ok (.dup2, 1) := by decide +kernel
theorem dX12_isPersonHere_73 : decode cX12_isPersonHere 73 = .ok (.iaload, 1) := by decide +kernel
theorem dX12_isPersonHere_74 : decode cX12_isPersonHere 74 = .ok (.iconst 1, 1) := by decide +kernel
theorem dX12_isPersonHere_75 : decode cX12_isPersonHere 75 = .ok (.iadd, 1) := by decide +kernel
theorem dX12_isPersonHere_76 : decode cX12_isPersonHere 76 = .ok (.iastore, 1) := by decide +kernel
theorem dX12_isPersonHere_77 : decode cX12_isPersonHere 77 = .ok (.iconst 1, 1) := by decide +kernel
theorem dX12_isPersonHere_78 : decode cX12_isPersonHere 78 = .ok (.ireturn, 1) := by decide +kernel
noncomputable def bs_X12_isPersonHere : List (Nat × XB) := [
  (0, (sq (xLA 0) (sq (xGS 11 46 1 0) (sq (xC (.int 4)) (sq (xAI 46 67) (sq (xC (.int 5)) (tIf2 (fun x y => decide (¬ x = y)) 17 [true, false] 10 [true, true]))))))),
  (10, (sq (xLA 0) (sq (xC (.int 4)) (sq (xLI 1) (sq (xCI 11 3 F_X12_fails) tRZ))))),
  (17, (sq (xLA 0) (sq (xCV 11 1 F_X12_passWord) (sq (xLA 0) (sq (xC (.int 47)) (sq (xLA 0) (sq (xGS 11 46 1 0) (sq (xC (.int 4)) (sq (xAI 46 67) (sq (xI2 (· + ·)) (sq (xC (.int 0)) (sq (xLA 0) (sq (xGS 11 46 1 0) (sq (xC (.int 3)) (sq (xAI 46 67) (sq (xC (.int 1)) (sq (xI2 (· - ·)) (sq (xCI 11 4 F_X12_cellHere) (tIf1 (fun x => decide (x = 0)) 65 [false, false] 46 [true, false]))))))))))))))))))),
  (46, (sq (xLA 0) (sq (xC (.int 52)) (sq (xLA 0) (sq (xGS 11 46 1 0) (sq (xC (.int 4)) (sq (xAI 46 67) (sq (xI2 (· + ·)) (sq (xC (.int 0)) (sq (xC (.int 9)) (sq (xCI 11 4 F_X12_cellHere) (tIf1 (fun x => decide (¬ x = 0)) 67 [true, false] 65 [false, false])))))))))))),
  (65, (sq (xC (.int 0)) tRZ)),
  (67, (sq (xLA 0) (sq (xGS 11 46 1 0) (sq (xC (.int 4)) (sq (xDup2) (sq (xAI 46 67) (sq (xC (.int 1)) (sq (xI2 (· + ·)) (sq (xTI 46 67 (fun x => x)) (sq (xC (.int 1)) tRZ))))))))))]
set_option maxRecDepth 100000 in
set_option maxHeartbeats 4000000 in
theorem s_X12_isPersonHere : ∀ X : XCtx, XE X → X.2.2.1.1 = cX12_isPersonHere → X.2.2.1.2.1 = 2 → X.2.2.1.2.2.1 = yX12_isPersonHere.cls → X.2.2.1.2.2.2.1 = (some .boolean) → X.1.2.2.2.1 = { frames := 3, cells := 0, slots := 0, locals := 72 } → SndBs X bs_X12_isPersonHere := by
  rintro ⟨⟨p, l, e, R, s⟩, Y, ⟨cc, nL, own, ret, Ts⟩, Z⟩ hE h1 h2 h3 h4 h5
  dsimp only at h1 h2 h3 h4 h5
  subst h1 h2 h3 h4 h5
  exact ⟨(n_sq (n_aload_n hE dX12_isPersonHere_0) (n_sq (n_getS hE xk_11 (k := 7) rfl (by decide) rfl wt_967 dX12_isPersonHere_1) (n_sq (n_iconst hE (by decide) dX12_isPersonHere_4) (n_sq (n_iald hE rfl (by decide) dX12_isPersonHere_5) (n_sq (n_iconst hE (by decide) dX12_isPersonHere_6) (n_ifcne hE (by decide) dX12_isPersonHere_7)))))),
    (n_sq (n_aload_n hE dX12_isPersonHere_10) (n_sq (n_iconst hE (by decide) dX12_isPersonHere_11) (n_sq (n_iload_n hE dX12_isPersonHere_12) (n_sq (n_cIv hE m_X12_fails vc_X12_127 (show 0 + 1 ≤ 3 ∧ 8 + (3 + 11) + 0 ≤ 72 by decide) dX12_isPersonHere_13) (n_zreturn hE rfl dX12_isPersonHere_16))))),
    (n_sq (n_aload_n hE dX12_isPersonHere_17) (n_sq (n_cVv hE m_X12_passWord vc_X12_121 (show 1 + 1 ≤ 3 ∧ 8 + (1 + 11) + 21 ≤ 72 by decide) dX12_isPersonHere_18) (n_sq (n_aload_n hE dX12_isPersonHere_21) (n_sq (n_bipush hE (by decide) dX12_isPersonHere_22) (n_sq (n_aload_n hE dX12_isPersonHere_24) (n_sq (n_getS hE xk_11 (k := 7) rfl (by decide) rfl wt_967 dX12_isPersonHere_25) (n_sq (n_iconst hE (by decide) dX12_isPersonHere_28) (n_sq (n_iald hE rfl (by decide) dX12_isPersonHere_29) (n_sq (n_iadd hE dX12_isPersonHere_30) (n_sq (n_iconst hE (by decide) dX12_isPersonHere_31) (n_sq (n_aload_n hE dX12_isPersonHere_32) (n_sq (n_getS hE xk_11 (k := 7) rfl (by decide) rfl wt_967 dX12_isPersonHere_33) (n_sq (n_iconst hE (by decide) dX12_isPersonHere_36) (n_sq (n_iald hE rfl (by decide) dX12_isPersonHere_37) (n_sq (n_iconst hE (by decide) dX12_isPersonHere_38) (n_sq (n_isub hE dX12_isPersonHere_39) (n_sq (n_cIv hE m_X12_cellHere vc_X12_231 (show 2 + 1 ≤ 3 ∧ 8 + (4 + 11) + 49 ≤ 72 by decide) dX12_isPersonHere_40) (n_ifeq hE (by decide) dX12_isPersonHere_43)))))))))))))))))),
    (n_sq (n_aload_n hE dX12_isPersonHere_46) (n_sq (n_bipush hE (by decide) dX12_isPersonHere_47) (n_sq (n_aload_n hE dX12_isPersonHere_49) (n_sq (n_getS hE xk_11 (k := 7) rfl (by decide) rfl wt_967 dX12_isPersonHere_50) (n_sq (n_iconst hE (by decide) dX12_isPersonHere_53) (n_sq (n_iald hE rfl (by decide) dX12_isPersonHere_54) (n_sq (n_iadd hE dX12_isPersonHere_55) (n_sq (n_iconst hE (by decide) dX12_isPersonHere_56) (n_sq (n_bipush hE (by decide) dX12_isPersonHere_57) (n_sq (n_cIv hE m_X12_cellHere vc_X12_231 (show 2 + 1 ≤ 3 ∧ 8 + (4 + 11) + 49 ≤ 72 by decide) dX12_isPersonHere_59) (n_ifne hE (by decide) dX12_isPersonHere_62))))))))))),
    (n_sq (n_iconst hE (by decide) dX12_isPersonHere_65) (n_zreturn hE rfl dX12_isPersonHere_66)),
    (n_sq (n_aload_n hE dX12_isPersonHere_67) (n_sq (n_getS hE xk_11 (k := 7) rfl (by decide) rfl wt_967 dX12_isPersonHere_68) (n_sq (n_iconst hE (by decide) dX12_isPersonHere_71) (n_sq (n_dup2 hE dX12_isPersonHere_72) (n_sq (n_iald hE rfl (by decide) dX12_isPersonHere_73) (n_sq (n_iconst hE (by decide) dX12_isPersonHere_74) (n_sq (n_iadd hE dX12_isPersonHere_75) (n_sq (n_iast hE rfl (by decide) dX12_isPersonHere_76) (n_sq (n_iconst hE (by decide) dX12_isPersonHere_77) (n_zreturn hE rfl dX12_isPersonHere_78)))))))))), trivial⟩
noncomputable def F_X12_isPersonHere (as : List XV) (w : XW) : Option (Int32 × XW) := (xF 2 bs_X12_isPersonHere as w).bind pI
theorem m_X12_isPersonHere : XM yX12_isPersonHere cX12_isPersonHere 2 (some .boolean) 3 72 (eI F_X12_isPersonHere) := xm_I (xm_of (by decide) s_X12_isPersonHere)
noncomputable def q_X12_isPersonHere_0 (x1 : Int32) (w : XW) : Option XR := ev bs_X12_isPersonHere 0 ([some (.inr (11, 0)), some (.inl (.int x1))], [], w)
noncomputable def q_X12_isPersonHere_10 (x1 : Int32) (w : XW) : Option XR := ev bs_X12_isPersonHere 10 ([some (.inr (11, 0)), some (.inl (.int x1))], [], w)
noncomputable def q_X12_isPersonHere_17 (w : XW) : Option XR := ev bs_X12_isPersonHere 17 ([some (.inr (11, 0)), none], [], w)
noncomputable def q_X12_isPersonHere_46 (w : XW) : Option XR := ev bs_X12_isPersonHere 46 ([some (.inr (11, 0)), none], [], w)
noncomputable def q_X12_isPersonHere_65 (w : XW) : Option XR := ev bs_X12_isPersonHere 65 ([none, none], [], w)
noncomputable def q_X12_isPersonHere_67 (w : XW) : Option XR := ev bs_X12_isPersonHere 67 ([some (.inr (11, 0)), none], [], w)
theorem e_X12_isPersonHere_0 (x1 : Int32) (w : XW) : q_X12_isPersonHere_0 x1 w = (bif decide (¬ (gI w 46 0 4) = 5) then (q_X12_isPersonHere_17 w) else (q_X12_isPersonHere_10 x1 w)) := (ev_eq _ _ _).trans rfl
theorem e_X12_isPersonHere_10 (x1 : Int32) (w : XW) : q_X12_isPersonHere_10 x1 w = ((F_X12_fails [.inr (11, 0), .inl (.int 4), .inl (.int x1)] w).bind fun r0 => (if r0.1 = 0 ∨ r0.1 = 1 then some (some (.inl (.int r0.1)), r0.2) else none)) := (ev_eq _ _ _).trans rfl
theorem e_X12_isPersonHere_17 (w : XW) : q_X12_isPersonHere_17 w = ((F_X12_passWord [.inr (11, 0)] w).bind fun r0 => ((F_X12_cellHere [.inr (11, 0), .inl (.int (47 + (gI r0 46 0 4))), .inl (.int 0), .inl (.int ((gI r0 46 0 3) - 1))] r0).bind fun r1 => (bif decide (r1.1 = 0) then (q_X12_isPersonHere_65 r1.2) else (q_X12_isPersonHere_46 r1.2)))) := (ev_eq _ _ _).trans rfl
theorem e_X12_isPersonHere_46 (w : XW) : q_X12_isPersonHere_46 w = ((F_X12_cellHere [.inr (11, 0), .inl (.int (52 + (gI w 46 0 4))), .inl (.int 0), .inl (.int 9)] w).bind fun r0 => (bif decide (¬ r0.1 = 0) then (q_X12_isPersonHere_67 r0.2) else (q_X12_isPersonHere_65 r0.2))) := (ev_eq _ _ _).trans rfl
theorem e_X12_isPersonHere_65 (w : XW) : q_X12_isPersonHere_65 w = (some (some (.inl (.int 0)), w)) := (ev_eq _ _ _).trans rfl
theorem e_X12_isPersonHere_67 (w : XW) : q_X12_isPersonHere_67 w = (some (some (.inl (.int 1)), sI w 46 0 4 ((gI w 46 0 4) + 1))) := (ev_eq _ _ _).trans rfl
theorem f_X12_isPersonHere (x1 : Int32) (w : XW) : F_X12_isPersonHere [.inr (11, 0), .inl (.int x1)] w = (q_X12_isPersonHere_0 x1 w).bind pI := rfl

-- WinterKeepModel.isFieldHere(I)Z
theorem dX12_isFieldHere_0 : decode cX12_isFieldHere 0 = .ok (.aload_n 0, 1) := by decide +kernel
theorem dX12_isFieldHere_1 : decode cX12_isFieldHere 1 = .ok (.getfield 26, 3) := by decide +kernel
theorem dX12_isFieldHere_4 : decode cX12_isFieldHere 4 = .ok (.iconst 5, 1) := by decide +kernel
theorem dX12_isFieldHere_5 : decode cX12_isFieldHere 5 = .ok (.iaload, 1) := by decide +kernel
theorem dX12_isFieldHere_6 : decode cX12_isFieldHere 6 = .ok (.iconst 4, 1) := by decide +kernel
theorem dX12_isFieldHere_7 : decode cX12_isFieldHere 7 = .ok (.if_icmp .ne 10, 3) := by decide +kernel
theorem dX12_isFieldHere_10 : decode cX12_isFieldHere 10 = .ok (.aload_n 0, 1) := by decide +kernel
theorem dX12_isFieldHere_11 : decode cX12_isFieldHere 11 = .ok (.iconst 4, 1) := by decide +kernel
theorem dX12_isFieldHere_12 : decode cX12_isFieldHere 12 = .ok (.iload_n 1, 1) := by decide +kernel
theorem dX12_isFieldHere_13 : decode cX12_isFieldHere 13 = .ok (.invokevirtual 127, 3) := by decide +kernel
theorem dX12_isFieldHere_16 : decode cX12_isFieldHere 16 = .ok (.ireturn, 1) := by decide +kernel
theorem dX12_isFieldHere_17 : decode cX12_isFieldHere 17 = .ok (.aload_n 0, 1) := by decide +kernel
theorem dX12_isFieldHere_18 : decode cX12_isFieldHere 18 = .ok (.invokevirtual 121, 3) := by decide +kernel
theorem dX12_isFieldHere_21 : decode cX12_isFieldHere 21 = .ok (.aload_n 0, 1) := by decide +kernel
theorem dX12_isFieldHere_22 : decode cX12_isFieldHere 22 = .ok (.bipush 57, 2) := by decide +kernel
theorem dX12_isFieldHere_24 : decode cX12_isFieldHere 24 = .ok (.aload_n 0, 1) := by decide +kernel
theorem dX12_isFieldHere_25 : decode cX12_isFieldHere 25 = .ok (.getfield 26, 3) := by decide +kernel
theorem dX12_isFieldHere_28 : decode cX12_isFieldHere 28 = .ok (.iconst 5, 1) := by decide +kernel
theorem dX12_isFieldHere_29 : decode cX12_isFieldHere 29 = .ok (.iaload, 1) := by decide +kernel
theorem dX12_isFieldHere_30 : decode cX12_isFieldHere 30 = .ok (.iadd, 1) := by decide +kernel
theorem dX12_isFieldHere_31 : decode cX12_isFieldHere 31 = .ok (.iconst 0, 1) := by decide +kernel
theorem dX12_isFieldHere_32 : decode cX12_isFieldHere 32 = .ok (.bipush 60, 2) := by decide +kernel
theorem dX12_isFieldHere_34 : decode cX12_isFieldHere 34 = .ok (.invokevirtual 231, 3) := by decide +kernel
theorem dX12_isFieldHere_37 : decode cX12_isFieldHere 37 = .ok (.ifCond .ne 5, 3) := by decide +kernel
theorem dX12_isFieldHere_40 : decode cX12_isFieldHere 40 = .ok (.iconst 0, 1) := by decide +kernel
theorem dX12_isFieldHere_41 : decode cX12_isFieldHere 41 = .ok (.ireturn, 1) := by decide +kernel
theorem dX12_isFieldHere_42 : decode cX12_isFieldHere 42 = .ok (.aload_n 0, 1) := by decide +kernel
theorem dX12_isFieldHere_43 : decode cX12_isFieldHere 43 = .ok (.getfield 26, 3) := by decide +kernel
theorem dX12_isFieldHere_46 : decode cX12_isFieldHere 46 = .ok (.iconst 5, 1) := by decide +kernel
theorem dX12_isFieldHere_47 : decode cX12_isFieldHere 47 = .ok (.dup2, 1) := by decide +kernel
theorem dX12_isFieldHere_48 : decode cX12_isFieldHere 48 = .ok (.iaload, 1) := by decide +kernel
theorem dX12_isFieldHere_49 : decode cX12_isFieldHere 49 = .ok (.iconst 1, 1) := by decide +kernel
theorem dX12_isFieldHere_50 : decode cX12_isFieldHere 50 = .ok (.iadd, 1) := by decide +kernel
theorem dX12_isFieldHere_51 : decode cX12_isFieldHere 51 = .ok (.iastore, 1) := by decide +kernel
theorem dX12_isFieldHere_52 : decode cX12_isFieldHere 52 = .ok (.iconst 1, 1) := by decide +kernel
theorem dX12_isFieldHere_53 : decode cX12_isFieldHere 53 = .ok (.ireturn, 1) := by decide +kernel
noncomputable def bs_X12_isFieldHere : List (Nat × XB) := [
  (0, (sq (xLA 0) (sq (xGS 11 46 1 0) (sq (xC (.int 5)) (sq (xAI 46 67) (sq (xC (.int 4)) (tIf2 (fun x y => decide (¬ x = y)) 17 [true, false] 10 [true, true]))))))),
  (10, (sq (xLA 0) (sq (xC (.int 4)) (sq (xLI 1) (sq (xCI 11 3 F_X12_fails) tRZ))))),
  (17, (sq (xLA 0) (sq (xCV 11 1 F_X12_passWord) (sq (xLA 0) (sq (xC (.int 57)) (sq (xLA 0) (sq (xGS 11 46 1 0) (sq (xC (.int 5)) (sq (xAI 46 67) (sq (xI2 (· + ·)) (sq (xC (.int 0)) (sq (xC (.int 60)) (sq (xCI 11 4 F_X12_cellHere) (tIf1 (fun x => decide (¬ x = 0)) 42 [true, false] 40 [false, false])))))))))))))),
  (40, (sq (xC (.int 0)) tRZ)),
  (42, (sq (xLA 0) (sq (xGS 11 46 1 0) (sq (xC (.int 5)) (sq (xDup2) (sq (xAI 46 67) (sq (xC (.int 1)) (sq (xI2 (· + ·)) (sq (xTI 46 67 (fun x => x)) (sq (xC (.int 1)) tRZ))))))))))]
set_option maxRecDepth 100000 in
set_option maxHeartbeats 4000000 in
theorem s_X12_isFieldHere : ∀ X : XCtx, XE X → X.2.2.1.1 = cX12_isFieldHere → X.2.2.1.2.1 = 2 → X.2.2.1.2.2.1 = yX12_isFieldHere.cls → X.2.2.1.2.2.2.1 = (some .boolean) → X.1.2.2.2.1 = { frames := 3, cells := 0, slots := 0, locals := 72 } → SndBs X bs_X12_isFieldHere := by
  rintro ⟨⟨p, l, e, R, s⟩, Y, ⟨cc, nL, own, ret, Ts⟩, Z⟩ hE h1 h2 h3 h4 h5
  dsimp only at h1 h2 h3 h4 h5
  subst h1 h2 h3 h4 h5
  exact ⟨(n_sq (n_aload_n hE dX12_isFieldHere_0) (n_sq (n_getS hE xk_11 (k := 7) rfl (by decide) rfl wt_967 dX12_isFieldHere_1) (n_sq (n_iconst hE (by decide) dX12_isFieldHere_4) (n_sq (n_iald hE rfl (by decide) dX12_isFieldHere_5) (n_sq (n_iconst hE (by decide) dX12_isFieldHere_6) (n_ifcne hE (by decide) dX12_isFieldHere_7)))))),
    (n_sq (n_aload_n hE dX12_isFieldHere_10) (n_sq (n_iconst hE (by decide) dX12_isFieldHere_11) (n_sq (n_iload_n hE dX12_isFieldHere_12) (n_sq (n_cIv hE m_X12_fails vc_X12_127 (show 0 + 1 ≤ 3 ∧ 8 + (3 + 11) + 0 ≤ 72 by decide) dX12_isFieldHere_13) (n_zreturn hE rfl dX12_isFieldHere_16))))),
    (n_sq (n_aload_n hE dX12_isFieldHere_17) (n_sq (n_cVv hE m_X12_passWord vc_X12_121 (show 1 + 1 ≤ 3 ∧ 8 + (1 + 11) + 21 ≤ 72 by decide) dX12_isFieldHere_18) (n_sq (n_aload_n hE dX12_isFieldHere_21) (n_sq (n_bipush hE (by decide) dX12_isFieldHere_22) (n_sq (n_aload_n hE dX12_isFieldHere_24) (n_sq (n_getS hE xk_11 (k := 7) rfl (by decide) rfl wt_967 dX12_isFieldHere_25) (n_sq (n_iconst hE (by decide) dX12_isFieldHere_28) (n_sq (n_iald hE rfl (by decide) dX12_isFieldHere_29) (n_sq (n_iadd hE dX12_isFieldHere_30) (n_sq (n_iconst hE (by decide) dX12_isFieldHere_31) (n_sq (n_bipush hE (by decide) dX12_isFieldHere_32) (n_sq (n_cIv hE m_X12_cellHere vc_X12_231 (show 2 + 1 ≤ 3 ∧ 8 + (4 + 11) + 49 ≤ 72 by decide) dX12_isFieldHere_34) (n_ifne hE (by decide) dX12_isFieldHere_37))))))))))))),
    (n_sq (n_iconst hE (by decide) dX12_isFieldHere_40) (n_zreturn hE rfl dX12_isFieldHere_41)),
    (n_sq (n_aload_n hE dX12_isFieldHere_42) (n_sq (n_getS hE xk_11 (k := 7) rfl (by decide) rfl wt_967 dX12_isFieldHere_43) (n_sq (n_iconst hE (by decide) dX12_isFieldHere_46) (n_sq (n_dup2 hE dX12_isFieldHere_47) (n_sq (n_iald hE rfl (by decide) dX12_isFieldHere_48) (n_sq (n_iconst hE (by decide) dX12_isFieldHere_49) (n_sq (n_iadd hE dX12_isFieldHere_50) (n_sq (n_iast hE rfl (by decide) dX12_isFieldHere_51) (n_sq (n_iconst hE (by decide) dX12_isFieldHere_52) (n_zreturn hE rfl dX12_isFieldHere_53)))))))))), trivial⟩
noncomputable def F_X12_isFieldHere (as : List XV) (w : XW) : Option (Int32 × XW) := (xF 2 bs_X12_isFieldHere as w).bind pI
theorem m_X12_isFieldHere : XM yX12_isFieldHere cX12_isFieldHere 2 (some .boolean) 3 72 (eI F_X12_isFieldHere) := xm_I (xm_of (by decide) s_X12_isFieldHere)
noncomputable def q_X12_isFieldHere_0 (x1 : Int32) (w : XW) : Option XR := ev bs_X12_isFieldHere 0 ([some (.inr (11, 0)), some (.inl (.int x1))], [], w)
noncomputable def q_X12_isFieldHere_10 (x1 : Int32) (w : XW) : Option XR := ev bs_X12_isFieldHere 10 ([some (.inr (11, 0)), some (.inl (.int x1))], [], w)
noncomputable def q_X12_isFieldHere_17 (w : XW) : Option XR := ev bs_X12_isFieldHere 17 ([some (.inr (11, 0)), none], [], w)
noncomputable def q_X12_isFieldHere_40 (w : XW) : Option XR := ev bs_X12_isFieldHere 40 ([none, none], [], w)
noncomputable def q_X12_isFieldHere_42 (w : XW) : Option XR := ev bs_X12_isFieldHere 42 ([some (.inr (11, 0)), none], [], w)
theorem e_X12_isFieldHere_0 (x1 : Int32) (w : XW) : q_X12_isFieldHere_0 x1 w = (bif decide (¬ (gI w 46 0 5) = 4) then (q_X12_isFieldHere_17 w) else (q_X12_isFieldHere_10 x1 w)) := (ev_eq _ _ _).trans rfl
theorem e_X12_isFieldHere_10 (x1 : Int32) (w : XW) : q_X12_isFieldHere_10 x1 w = ((F_X12_fails [.inr (11, 0), .inl (.int 4), .inl (.int x1)] w).bind fun r0 => (if r0.1 = 0 ∨ r0.1 = 1 then some (some (.inl (.int r0.1)), r0.2) else none)) := (ev_eq _ _ _).trans rfl
theorem e_X12_isFieldHere_17 (w : XW) : q_X12_isFieldHere_17 w = ((F_X12_passWord [.inr (11, 0)] w).bind fun r0 => ((F_X12_cellHere [.inr (11, 0), .inl (.int (57 + (gI r0 46 0 5))), .inl (.int 0), .inl (.int 60)] r0).bind fun r1 => (bif decide (¬ r1.1 = 0) then (q_X12_isFieldHere_42 r1.2) else (q_X12_isFieldHere_40 r1.2)))) := (ev_eq _ _ _).trans rfl
theorem e_X12_isFieldHere_40 (w : XW) : q_X12_isFieldHere_40 w = (some (some (.inl (.int 0)), w)) := (ev_eq _ _ _).trans rfl
theorem e_X12_isFieldHere_42 (w : XW) : q_X12_isFieldHere_42 w = (some (some (.inl (.int 1)), sI w 46 0 5 ((gI w 46 0 5) + 1))) := (ev_eq _ _ _).trans rfl
theorem f_X12_isFieldHere (x1 : Int32) (w : XW) : F_X12_isFieldHere [.inr (11, 0), .inl (.int x1)] w = (q_X12_isFieldHere_0 x1 w).bind pI := rfl

-- WinterKeepModel.isBesideHere()Z
theorem dX12_isBesideHere_0 : decode cX12_isBesideHere 0 = .ok (.aload_n 0, 1) := by decide +kernel
theorem dX12_isBesideHere_1 : decode cX12_isBesideHere 1 = .ok (.invokevirtual 121, 3) := by decide +kernel
theorem dX12_isBesideHere_4 : decode cX12_isBesideHere 4 = .ok (.aload_n 0, 1) := by decide +kernel
theorem dX12_isBesideHere_5 : decode cX12_isBesideHere 5 = .ok (.iconst 0, 1) := by decide +kernel
theorem dX12_isBesideHere_6 : decode cX12_isBesideHere 6 = .ok (.aload_n 0, 1) := by decide +kernel
theorem dX12_isBesideHere_7 : decode cX12_isBesideHere 7 = .ok (.getfield 26, 3) := by decide +kernel
theorem dX12_isBesideHere_10 : decode cX12_isBesideHere 10 = .ok (.iconst 3, 1) := by decide +kernel
theorem dX12_isBesideHere_11 : decode cX12_isBesideHere 11 = .ok (.iaload, 1) := by decide +kernel
theorem dX12_isBesideHere_12 : decode cX12_isBesideHere 12 = .ok (.iconst 1, 1) := by decide +kernel
theorem dX12_isBesideHere_13 : decode cX12_isBesideHere 13 = .ok (.isub, 1) := by decide +kernel
theorem dX12_isBesideHere_14 : decode cX12_isBesideHere 14 = .ok (.invokevirtual 180, 3) := by decide +kernel
theorem dX12_isBesideHere_17 : decode cX12_isBesideHere 17 = .ok (.ifCond .ne 5, 3) := by decide +kernel
theorem dX12_isBesideHere_20 : decode cX12_isBesideHere 20 = .ok (.iconst 0, 1) := by decide +kernel
theorem dX12_isBesideHere_21 : decode cX12_isBesideHere 21 = .ok (.ireturn, 1) := by decide +kernel
theorem dX12_isBesideHere_22 : decode cX12_isBesideHere 22 = .ok (.aload_n 0, 1) := by decide +kernel
theorem dX12_isBesideHere_23 : decode cX12_isBesideHere 23 = .ok (.getfield 130, 3) := by decide +kernel
theorem dX12_isBesideHere_26 : decode cX12_isBesideHere 26 = .ok (.istore_n 1, 1) := by decide +kernel
theorem dX12_isBesideHere_27 : decode cX12_isBesideHere 27 = .ok (.aload_n 0, 1) := by decide +kernel
theorem dX12_isBesideHere_28 : decode cX12_isBesideHere 28 = .ok (.invokevirtual 109, 3) := by decide +kernel
theorem dX12_isBesideHere_31 : decode cX12_isBesideHere 31 = .ok (.pop, 1) := by decide +kernel
theorem dX12_isBesideHere_32 : decode cX12_isBesideHere 32 = .ok (.aload_n 0, 1) := by decide +kernel
theorem dX12_isBesideHere_33 : decode cX12_isBesideHere 33 = .ok (.getfield 106, 3) := by decide +kernel
theorem dX12_isBesideHere_36 : decode cX12_isBesideHere 36 = .ok (.istore_n 2, 1) := by decide +kernel
theorem dX12_isBesideHere_37 : decode cX12_isBesideHere 37 = .ok (.aload_n 0, 1) := by decide +kernel
theorem dX12_isBesideHere_38 : decode cX12_isBesideHere 38 = .ok (.iconst 0, 1) := by decide +kernel
theorem dX12_isBesideHere_39 : decode cX12_isBesideHere 39 = .ok (.aload_n 0, 1) := by decide +kernel
theorem dX12_isBesideHere_40 : decode cX12_isBesideHere 40 = .ok (.getfield 26, 3) := by decide +kernel
theorem dX12_isBesideHere_43 : decode cX12_isBesideHere 43 = .ok (.iconst 3, 1) := by decide +kernel
theorem dX12_isBesideHere_44 : decode cX12_isBesideHere 44 = .ok (.iaload, 1) := by decide +kernel
theorem dX12_isBesideHere_45 : decode cX12_isBesideHere 45 = .ok (.iconst 1, 1) := by decide +kernel
theorem dX12_isBesideHere_46 : decode cX12_isBesideHere 46 = .ok (.isub, 1) := by decide +kernel
theorem dX12_isBesideHere_47 : decode cX12_isBesideHere 47 = .ok (.invokevirtual 180, 3) := by decide +kernel
theorem dX12_isBesideHere_50 : decode cX12_isBesideHere 50 = .ok (.ifCond .ne 5, 3) := by decide +kernel
theorem dX12_isBesideHere_53 : decode cX12_isBesideHere 53 = .ok (.iconst 0, 1) := by decide +kernel
theorem dX12_isBesideHere_54 : decode cX12_isBesideHere 54 = .ok (.ireturn, 1) := by decide +kernel
theorem dX12_isBesideHere_55 : decode cX12_isBesideHere 55 = .ok (.iload_n 1, 1) := by decide +kernel
theorem dX12_isBesideHere_56 : decode cX12_isBesideHere 56 = .ok (.aload_n 0, 1) := by decide +kernel
theorem dX12_isBesideHere_57 : decode cX12_isBesideHere 57 = .ok (.getfield 130, 3) := by decide +kernel
theorem dX12_isBesideHere_60 : decode cX12_isBesideHere 60 = .ok (.if_icmp .ne 10, 3) := by decide +kernel
theorem dX12_isBesideHere_63 : decode cX12_isBesideHere 63 = .ok (.aload_n 0, 1) := by decide +kernel
theorem dX12_isBesideHere_64 : decode cX12_isBesideHere 64 = .ok (.iconst 1, 1) := by decide +kernel
theorem dX12_isBesideHere_65 : decode cX12_isBesideHere 65 = .ok (.iload_n 2, 1) := by decide +kernel
theorem dX12_isBesideHere_66 : decode cX12_isBesideHere 66 = .ok (.invokevirtual 127, 3) := by decide +kernel
theorem dX12_isBesideHere_69 : decode cX12_isBesideHere 69 = .ok (.ireturn, 1) := by decide +kernel
theorem dX12_isBesideHere_70 : decode cX12_isBesideHere 70 = .ok (.aload_n 0, 1) := by decide +kernel
theorem dX12_isBesideHere_71 : decode cX12_isBesideHere 71 = .ok (.getfield 26, 3) := by decide +kernel
theorem dX12_isBesideHere_74 : decode cX12_isBesideHere 74 = .ok (.bipush 61, 2) := by decide +kernel
theorem dX12_isBesideHere_76 : decode cX12_isBesideHere 76 = .ok (.iload_n 1, 1) := by decide +kernel
theorem dX12_isBesideHere_77 : decode cX12_isBesideHere 77 = .ok (.iadd, 1) := by decide +kernel
theorem dX12_isBesideHere_78 : decode cX12_isBesideHere 78 = .ok (.dup2, 1) := by decide +kernel
theorem dX12_isBesideHere_79 : decode cX12_isBesideHere 79 = .ok (.iaload, 1) := by decide +kernel
theorem dX12_isBesideHere_80 : decode cX12_isBesideHere 80 = .ok (.iconst 1, 1) := by decide +kernel
theorem dX12_isBesideHere_81 : decode cX12_isBesideHere 81 = .ok (.aload_n 0, 1) := by decide +kernel
theorem dX12_isBesideHere_82 : decode cX12_isBesideHere 82 = .ok (.getfield 130, 3) := by decide +kernel
theorem dX12_isBesideHere_85 : decode cX12_isBesideHere 85 = .ok (.ishl, 1) := by decide +kernel
theorem dX12_isBesideHere_86 : decode cX12_isBesideHere 86 = .ok (.ior, 1) := by decide +kernel
theorem dX12_isBesideHere_87 : decode cX12_isBesideHere 87 = .ok (.iastore, 1) := by decide +kernel
theorem dX12_isBesideHere_88 : decode cX12_isBesideHere 88 = .ok (.aload_n 0, 1) := by decide +kernel
theorem dX12_isBesideHere_89 : decode cX12_isBesideHere 89 = .ok (.getfield 26, 3) := by decide +kernel
theorem dX12_isBesideHere_92 : decode cX12_isBesideHere 92 = .ok (.bipush 61, 2) := by decide +kernel
theorem dX12_isBesideHere_94 : decode cX12_isBesideHere 94 = .ok (.aload_n 0, 1) := by decide +kernel
theorem dX12_isBesideHere_95 : decode cX12_isBesideHere 95 = .ok (.getfield 130, 3) := by decide +kernel
theorem dX12_isBesideHere_98 : decode cX12_isBesideHere 98 = .ok (.iadd, 1) := by decide +kernel
theorem dX12_isBesideHere_99 : decode cX12_isBesideHere 99 = .ok (.dup2, 1) := by decide +kernel
theorem dX12_isBesideHere_100 : decode cX12_isBesideHere 100 = .ok (.iaload, 1) := by decide +kernel
theorem dX12_isBesideHere_101 : decode cX12_isBesideHere 101 = .ok (.iconst 1, 1) := by decide +kernel
theorem dX12_isBesideHere_102 : decode cX12_isBesideHere 102 = .ok (.iload_n 1, 1) := by decide +kernel
theorem dX12_isBesideHere_103 : decode cX12_isBesideHere 103 = .ok (.ishl, 1) := by decide +kernel
theorem dX12_isBesideHere_104 : decode cX12_isBesideHere 104 = .ok (.ior, 1) := by decide +kernel
theorem dX12_isBesideHere_105 : decode cX12_isBesideHere 105 = .ok (.iastore, 1) := by decide +kernel
theorem dX12_isBesideHere_106 : decode cX12_isBesideHere 106 = .ok (.iconst 1, 1) := by decide +kernel
theorem dX12_isBesideHere_107 : decode cX12_isBesideHere 107 = .ok (.ireturn, 1) := by decide +kernel
noncomputable def bs_X12_isBesideHere : List (Nat × XB) := [
  (0, (sq (xLA 0) (sq (xCV 11 1 F_X12_passWord) (sq (xLA 0) (sq (xC (.int 0)) (sq (xLA 0) (sq (xGS 11 46 1 0) (sq (xC (.int 3)) (sq (xAI 46 67) (sq (xC (.int 1)) (sq (xI2 (· - ·)) (sq (xCI 11 3 F_X12_numberHere) (tIf1 (fun x => decide (¬ x = 0)) 22 [true, false, false] 20 [false, false, false]))))))))))))),
  (20, (sq (xC (.int 0)) tRZ)),
  (22, (sq (xLA 0) (sq (xGI 11 10) (sq (xSI 1) (sq (xLA 0) (sq (xCI 11 1 F_X12_see) (sq (xPop) (sq (xLA 0) (sq (xGI 11 8) (sq (xSI 2) (sq (xLA 0) (sq (xC (.int 0)) (sq (xLA 0) (sq (xGS 11 46 1 0) (sq (xC (.int 3)) (sq (xAI 46 67) (sq (xC (.int 1)) (sq (xI2 (· - ·)) (sq (xCI 11 3 F_X12_numberHere) (tIf1 (fun x => decide (¬ x = 0)) 55 [true, true, true] 53 [false, false, false])))))))))))))))))))),
  (53, (sq (xC (.int 0)) tRZ)),
  (55, (sq (xLI 1) (sq (xLA 0) (sq (xGI 11 10) (tIf2 (fun x y => decide (¬ x = y)) 70 [true, true, false] 63 [true, false, true]))))),
  (63, (sq (xLA 0) (sq (xC (.int 1)) (sq (xLI 2) (sq (xCI 11 3 F_X12_fails) tRZ))))),
  (70, (sq (xLA 0) (sq (xGS 11 46 1 0) (sq (xC (.int 61)) (sq (xLI 1) (sq (xI2 (· + ·)) (sq (xDup2) (sq (xAI 46 67) (sq (xC (.int 1)) (sq (xLA 0) (sq (xGI 11 10) (sq (xI2 (fun x y => x <<< (y &&& 31))) (sq (xI2 (· ||| ·)) (sq (xTI 46 67 (fun x => x)) (sq (xLA 0) (sq (xGS 11 46 1 0) (sq (xC (.int 61)) (sq (xLA 0) (sq (xGI 11 10) (sq (xI2 (· + ·)) (sq (xDup2) (sq (xAI 46 67) (sq (xC (.int 1)) (sq (xLI 1) (sq (xI2 (fun x y => x <<< (y &&& 31))) (sq (xI2 (· ||| ·)) (sq (xTI 46 67 (fun x => x)) (sq (xC (.int 1)) tRZ))))))))))))))))))))))))))))]
set_option maxRecDepth 100000 in
set_option maxHeartbeats 4000000 in
theorem s_X12_isBesideHere : ∀ X : XCtx, XE X → X.2.2.1.1 = cX12_isBesideHere → X.2.2.1.2.1 = 3 → X.2.2.1.2.2.1 = yX12_isBesideHere.cls → X.2.2.1.2.2.2.1 = (some .boolean) → X.1.2.2.2.1 = { frames := 2, cells := 0, slots := 0, locals := 49 } → SndBs X bs_X12_isBesideHere := by
  rintro ⟨⟨p, l, e, R, s⟩, Y, ⟨cc, nL, own, ret, Ts⟩, Z⟩ hE h1 h2 h3 h4 h5
  dsimp only at h1 h2 h3 h4 h5
  subst h1 h2 h3 h4 h5
  exact ⟨(n_sq (n_aload_n hE dX12_isBesideHere_0) (n_sq (n_cVv hE m_X12_passWord vc_X12_121 (show 1 + 1 ≤ 2 ∧ 8 + (1 + 11) + 21 ≤ 49 by decide) dX12_isBesideHere_1) (n_sq (n_aload_n hE dX12_isBesideHere_4) (n_sq (n_iconst hE (by decide) dX12_isBesideHere_5) (n_sq (n_aload_n hE dX12_isBesideHere_6) (n_sq (n_getS hE xk_11 (k := 7) rfl (by decide) rfl wt_967 dX12_isBesideHere_7) (n_sq (n_iconst hE (by decide) dX12_isBesideHere_10) (n_sq (n_iald hE rfl (by decide) dX12_isBesideHere_11) (n_sq (n_iconst hE (by decide) dX12_isBesideHere_12) (n_sq (n_isub hE dX12_isBesideHere_13) (n_sq (n_cIv hE m_X12_numberHere vc_X12_180 (show 1 + 1 ≤ 2 ∧ 8 + (5 + 11) + 25 ≤ 49 by decide) dX12_isBesideHere_14) (n_ifne hE (by decide) dX12_isBesideHere_17)))))))))))),
    (n_sq (n_iconst hE (by decide) dX12_isBesideHere_20) (n_zreturn hE rfl dX12_isBesideHere_21)),
    (n_sq (n_aload_n hE dX12_isBesideHere_22) (n_sq (n_getI hE xk_11 (k := 10) rfl (by decide) rfl wt_970 dX12_isBesideHere_23) (n_sq (n_istore_n hE (show (1 : Nat) < 3 by decide) dX12_isBesideHere_26) (n_sq (n_aload_n hE dX12_isBesideHere_27) (n_sq (n_cIv hE m_X12_see vc_X12_109 (show 0 + 1 ≤ 2 ∧ 8 + (1 + 11) + 0 ≤ 49 by decide) dX12_isBesideHere_28) (n_sq (n_pop hE dX12_isBesideHere_31) (n_sq (n_aload_n hE dX12_isBesideHere_32) (n_sq (n_getI hE xk_11 (k := 8) rfl (by decide) rfl wt_968 dX12_isBesideHere_33) (n_sq (n_istore_n hE (show (2 : Nat) < 3 by decide) dX12_isBesideHere_36) (n_sq (n_aload_n hE dX12_isBesideHere_37) (n_sq (n_iconst hE (by decide) dX12_isBesideHere_38) (n_sq (n_aload_n hE dX12_isBesideHere_39) (n_sq (n_getS hE xk_11 (k := 7) rfl (by decide) rfl wt_967 dX12_isBesideHere_40) (n_sq (n_iconst hE (by decide) dX12_isBesideHere_43) (n_sq (n_iald hE rfl (by decide) dX12_isBesideHere_44) (n_sq (n_iconst hE (by decide) dX12_isBesideHere_45) (n_sq (n_isub hE dX12_isBesideHere_46) (n_sq (n_cIv hE m_X12_numberHere vc_X12_180 (show 1 + 1 ≤ 2 ∧ 8 + (5 + 11) + 25 ≤ 49 by decide) dX12_isBesideHere_47) (n_ifne hE (by decide) dX12_isBesideHere_50))))))))))))))))))),
    (n_sq (n_iconst hE (by decide) dX12_isBesideHere_53) (n_zreturn hE rfl dX12_isBesideHere_54)),
    (n_sq (n_iload_n hE dX12_isBesideHere_55) (n_sq (n_aload_n hE dX12_isBesideHere_56) (n_sq (n_getI hE xk_11 (k := 10) rfl (by decide) rfl wt_970 dX12_isBesideHere_57) (n_ifcne hE (by decide) dX12_isBesideHere_60)))),
    (n_sq (n_aload_n hE dX12_isBesideHere_63) (n_sq (n_iconst hE (by decide) dX12_isBesideHere_64) (n_sq (n_iload_n hE dX12_isBesideHere_65) (n_sq (n_cIv hE m_X12_fails vc_X12_127 (show 0 + 1 ≤ 2 ∧ 8 + (3 + 11) + 0 ≤ 49 by decide) dX12_isBesideHere_66) (n_zreturn hE rfl dX12_isBesideHere_69))))),
    (n_sq (n_aload_n hE dX12_isBesideHere_70) (n_sq (n_getS hE xk_11 (k := 7) rfl (by decide) rfl wt_967 dX12_isBesideHere_71) (n_sq (n_bipush hE (by decide) dX12_isBesideHere_74) (n_sq (n_iload_n hE dX12_isBesideHere_76) (n_sq (n_iadd hE dX12_isBesideHere_77) (n_sq (n_dup2 hE dX12_isBesideHere_78) (n_sq (n_iald hE rfl (by decide) dX12_isBesideHere_79) (n_sq (n_iconst hE (by decide) dX12_isBesideHere_80) (n_sq (n_aload_n hE dX12_isBesideHere_81) (n_sq (n_getI hE xk_11 (k := 10) rfl (by decide) rfl wt_970 dX12_isBesideHere_82) (n_sq (n_ishl hE dX12_isBesideHere_85) (n_sq (n_ior hE dX12_isBesideHere_86) (n_sq (n_iast hE rfl (by decide) dX12_isBesideHere_87) (n_sq (n_aload_n hE dX12_isBesideHere_88) (n_sq (n_getS hE xk_11 (k := 7) rfl (by decide) rfl wt_967 dX12_isBesideHere_89) (n_sq (n_bipush hE (by decide) dX12_isBesideHere_92) (n_sq (n_aload_n hE dX12_isBesideHere_94) (n_sq (n_getI hE xk_11 (k := 10) rfl (by decide) rfl wt_970 dX12_isBesideHere_95) (n_sq (n_iadd hE dX12_isBesideHere_98) (n_sq (n_dup2 hE dX12_isBesideHere_99) (n_sq (n_iald hE rfl (by decide) dX12_isBesideHere_100) (n_sq (n_iconst hE (by decide) dX12_isBesideHere_101) (n_sq (n_iload_n hE dX12_isBesideHere_102) (n_sq (n_ishl hE dX12_isBesideHere_103) (n_sq (n_ior hE dX12_isBesideHere_104) (n_sq (n_iast hE rfl (by decide) dX12_isBesideHere_105) (n_sq (n_iconst hE (by decide) dX12_isBesideHere_106) (n_zreturn hE rfl dX12_isBesideHere_107)))))))))))))))))))))))))))), trivial⟩
noncomputable def F_X12_isBesideHere (as : List XV) (w : XW) : Option (Int32 × XW) := (xF 3 bs_X12_isBesideHere as w).bind pI
theorem m_X12_isBesideHere : XM yX12_isBesideHere cX12_isBesideHere 3 (some .boolean) 2 49 (eI F_X12_isBesideHere) := xm_I (xm_of (by decide) s_X12_isBesideHere)
noncomputable def q_X12_isBesideHere_0 (w : XW) : Option XR := ev bs_X12_isBesideHere 0 ([some (.inr (11, 0)), none, none], [], w)
noncomputable def q_X12_isBesideHere_20 (w : XW) : Option XR := ev bs_X12_isBesideHere 20 ([none, none, none], [], w)
noncomputable def q_X12_isBesideHere_22 (w : XW) : Option XR := ev bs_X12_isBesideHere 22 ([some (.inr (11, 0)), none, none], [], w)
noncomputable def q_X12_isBesideHere_53 (w : XW) : Option XR := ev bs_X12_isBesideHere 53 ([none, none, none], [], w)
noncomputable def q_X12_isBesideHere_55 (x1 : Int32) (x2 : Int32) (w : XW) : Option XR := ev bs_X12_isBesideHere 55 ([some (.inr (11, 0)), some (.inl (.int x1)), some (.inl (.int x2))], [], w)
noncomputable def q_X12_isBesideHere_63 (x2 : Int32) (w : XW) : Option XR := ev bs_X12_isBesideHere 63 ([some (.inr (11, 0)), none, some (.inl (.int x2))], [], w)
noncomputable def q_X12_isBesideHere_70 (x1 : Int32) (w : XW) : Option XR := ev bs_X12_isBesideHere 70 ([some (.inr (11, 0)), some (.inl (.int x1)), none], [], w)
theorem e_X12_isBesideHere_0 (w : XW) : q_X12_isBesideHere_0 w = ((F_X12_passWord [.inr (11, 0)] w).bind fun r0 => ((F_X12_numberHere [.inr (11, 0), .inl (.int 0), .inl (.int ((gI r0 46 0 3) - 1))] r0).bind fun r1 => (bif decide (¬ r1.1 = 0) then (q_X12_isBesideHere_22 r1.2) else (q_X12_isBesideHere_20 r1.2)))) := (ev_eq _ _ _).trans rfl
theorem e_X12_isBesideHere_20 (w : XW) : q_X12_isBesideHere_20 w = (some (some (.inl (.int 0)), w)) := (ev_eq _ _ _).trans rfl
theorem e_X12_isBesideHere_22 (w : XW) : q_X12_isBesideHere_22 w = ((F_X12_see [.inr (11, 0)] w).bind fun r0 => ((F_X12_numberHere [.inr (11, 0), .inl (.int 0), .inl (.int ((gI r0.2 46 0 3) - 1))] r0.2).bind fun r1 => (bif decide (¬ r1.1 = 0) then (q_X12_isBesideHere_55 (gI w 11 0 10) (gI r0.2 11 0 8) r1.2) else (q_X12_isBesideHere_53 r1.2)))) := (ev_eq _ _ _).trans rfl
theorem e_X12_isBesideHere_53 (w : XW) : q_X12_isBesideHere_53 w = (some (some (.inl (.int 0)), w)) := (ev_eq _ _ _).trans rfl
theorem e_X12_isBesideHere_55 (x1 : Int32) (x2 : Int32) (w : XW) : q_X12_isBesideHere_55 x1 x2 w = (bif decide (¬ x1 = (gI w 11 0 10)) then (q_X12_isBesideHere_70 x1 w) else (q_X12_isBesideHere_63 x2 w)) := (ev_eq _ _ _).trans rfl
theorem e_X12_isBesideHere_63 (x2 : Int32) (w : XW) : q_X12_isBesideHere_63 x2 w = ((F_X12_fails [.inr (11, 0), .inl (.int 1), .inl (.int x2)] w).bind fun r0 => (if r0.1 = 0 ∨ r0.1 = 1 then some (some (.inl (.int r0.1)), r0.2) else none)) := (ev_eq _ _ _).trans rfl
theorem e_X12_isBesideHere_70 (x1 : Int32) (w : XW) : q_X12_isBesideHere_70 x1 w = (if (61 + x1) < 0 ∨ 67 ≤ (61 + x1).toNatClampNeg then none else (if (61 + x1) < 0 ∨ 67 ≤ (61 + x1).toNatClampNeg then none else (if (61 + (gI (sI w 46 0 ((61 + x1).toNatClampNeg) ((gI w 46 0 (61 + x1).toNatClampNeg) ||| ((1 : Int32) <<< (((gI w 11 0 10) : Int32) &&& 31)))) 11 0 10)) < 0 ∨ 67 ≤ (61 + (gI (sI w 46 0 ((61 + x1).toNatClampNeg) ((gI w 46 0 (61 + x1).toNatClampNeg) ||| ((1 : Int32) <<< (((gI w 11 0 10) : Int32) &&& 31)))) 11 0 10)).toNatClampNeg then none else (if (61 + (gI (sI w 46 0 ((61 + x1).toNatClampNeg) ((gI w 46 0 (61 + x1).toNatClampNeg) ||| ((1 : Int32) <<< (((gI w 11 0 10) : Int32) &&& 31)))) 11 0 10)) < 0 ∨ 67 ≤ (61 + (gI (sI w 46 0 ((61 + x1).toNatClampNeg) ((gI w 46 0 (61 + x1).toNatClampNeg) ||| ((1 : Int32) <<< (((gI w 11 0 10) : Int32) &&& 31)))) 11 0 10)).toNatClampNeg then none else (some (some (.inl (.int 1)), sI (sI w 46 0 ((61 + x1).toNatClampNeg) ((gI w 46 0 (61 + x1).toNatClampNeg) ||| ((1 : Int32) <<< (((gI w 11 0 10) : Int32) &&& 31)))) 46 0 ((61 + (gI (sI w 46 0 ((61 + x1).toNatClampNeg) ((gI w 46 0 (61 + x1).toNatClampNeg) ||| ((1 : Int32) <<< (((gI w 11 0 10) : Int32) &&& 31)))) 11 0 10)).toNatClampNeg) ((gI (sI w 46 0 ((61 + x1).toNatClampNeg) ((gI w 46 0 (61 + x1).toNatClampNeg) ||| ((1 : Int32) <<< (((gI w 11 0 10) : Int32) &&& 31)))) 46 0 (61 + (gI (sI w 46 0 ((61 + x1).toNatClampNeg) ((gI w 46 0 (61 + x1).toNatClampNeg) ||| ((1 : Int32) <<< (((gI w 11 0 10) : Int32) &&& 31)))) 11 0 10)).toNatClampNeg) ||| ((1 : Int32) <<< ((x1 : Int32) &&& 31))))))))) := (ev_eq _ _ _).trans rfl
theorem f_X12_isBesideHere (w : XW) : F_X12_isBesideHere [.inr (11, 0)] w = (q_X12_isBesideHere_0 w).bind pI := rfl
