-- WinterKeepModel.rule()I
theorem dX12_rule_0 : decode cX12_rule 0 = .ok (.aload_n 0, 1) := by decide +kernel
theorem dX12_rule_1 : decode cX12_rule 1 = .ok (.getfield 271, 3) := by decide +kernel
theorem dX12_rule_4 : decode cX12_rule 4 = .ok (.bipush 6, 2) := by decide +kernel
theorem dX12_rule_6 : decode cX12_rule 6 = .ok (.if_icmp .ne 5, 3) := by decide +kernel
theorem dX12_rule_9 : decode cX12_rule 9 = .ok (.iconst (-1), 1) := by decide +kernel
theorem dX12_rule_10 : decode cX12_rule 10 = .ok (.ireturn, 1) := by decide +kernel
theorem dX12_rule_11 : decode cX12_rule 11 = .ok (.aload_n 0, 1) := by decide +kernel
theorem dX12_rule_12 : decode cX12_rule 12 = .ok (.aload_n 0, 1) := by decide +kernel
theorem dX12_rule_13 : decode cX12_rule 13 = .ok (.getfield 271, 3) := by decide +kernel
theorem dX12_rule_16 : decode cX12_rule 16 = .ok (.putfield 159, 3) := by decide +kernel
theorem dX12_rule_19 : decode cX12_rule 19 = .ok (.aload_n 0, 1) := by decide +kernel
theorem dX12_rule_20 : decode cX12_rule 20 = .ok (.getfield 23, 3) := by decide +kernel
theorem dX12_rule_23 : decode cX12_rule 23 = .ok (.aload_n 0, 1) := by decide +kernel
theorem dX12_rule_24 : decode cX12_rule 24 = .ok (.getfield 159, 3) := by decide +kernel
theorem dX12_rule_27 : decode cX12_rule 27 = .ok (.iconst 0, 1) := by decide +kernel
theorem dX12_rule_28 : decode cX12_rule 28 = .ok (.iastore, 1) := by decide +kernel
theorem dX12_rule_29 : decode cX12_rule 29 = .ok (.aload_n 0, 1) := by decide +kernel
theorem dX12_rule_30 : decode cX12_rule 30 = .ok (.invokevirtual 274, 3) := by decide +kernel
theorem dX12_rule_33 : decode cX12_rule 33 = .ok (.ifCond .ne 11, 3) := by decide +kernel
theorem dX12_rule_36 : decode cX12_rule 36 = .ok (.bipush (-2), 2) := by decide +kernel
theorem dX12_rule_38 : decode cX12_rule 38 = .ok (.aload_n 0, 1) := by decide +kernel
theorem dX12_rule_39 : decode cX12_rule 39 = .ok (.getfield 103, 3) := by decide +kernel
theorem dX12_rule_42 : decode cX12_rule 42 = .ok (.isub, 1) := by decide +kernel
theorem dX12_rule_43 : decode cX12_rule 43 = .ok (.ireturn, 1) := by decide +kernel
theorem dX12_rule_44 : decode cX12_rule 44 = .ok (.aload_n 0, 1) := by decide +kernel
theorem dX12_rule_45 : decode cX12_rule 45 = .ok (.dup, 1) := by decide +kernel
theorem dX12_rule_46 : decode cX12_rule 46 = .ok (.getfield 271, 3) := by decide +kernel
theorem dX12_rule_49 : decode cX12_rule 49 = .ok (.iconst 1, 1) := by decide +kernel
theorem dX12_rule_50 : decode cX12_rule 50 = .ok (.iadd, 1) := by decide +kernel
theorem dX12_rule_51 : decode cX12_rule 51 = .ok (.putfield 271, 3) := by decide +kernel
theorem dX12_rule_54 : decode cX12_rule 54 = .ok (.aload_n 0, 1) := by decide +kernel
theorem dX12_rule_55 : decode cX12_rule 55 = .ok (.getfield 271, 3) := by decide +kernel
theorem dX12_rule_58 : decode cX12_rule 58 = .ok (.iconst 1, 1) := by decide +kernel
theorem dX12_rule_59 : decode cX12_rule 59 = .ok (.isub, 1) := by decide +kernel
theorem dX12_rule_60 : decode cX12_rule 60 = .ok (.ireturn, 1) := by decide +kernel
theorem vc_X12_274 : XVw RX12 274 0 11 2 yX12_readsAll cX12_readsAll (some .boolean) := ⟨RX12, TX12, tyX12, 43, xk_11, rfl, ⟨by decide, by decide⟩, by decide +kernel, wt_1107, wt_1109, ws_39, wt_11, wt_1110⟩
noncomputable def bs_X12_rule : List (Nat × XB) := [
  (0, (sq (xLA 0) (sq (xGI 11 2) (sq (xC (.int 6)) (tIf2 (fun x y => decide (¬ x = y)) 11 [true] 9 [false]))))),
  (9, (sq (xC (.int (-1))) tRI)),
  (11, (sq (xLA 0) (sq (xLA 0) (sq (xGI 11 2) (sq (xPI 11 11) (sq (xLA 0) (sq (xGS 11 45 1 0) (sq (xLA 0) (sq (xGI 11 11) (sq (xC (.int 0)) (sq (xTI 45 6 (fun x => x)) (sq (xLA 0) (sq (xCI 11 1 F_X12_readsAll) (tIf1 (fun x => decide (¬ x = 0)) 44 [true] 36 [true])))))))))))))),
  (36, (sq (xC (.int (-2))) (sq (xLA 0) (sq (xGI 11 9) (sq (xI2 (· - ·)) tRI))))),
  (44, (sq (xLA 0) (sq (xDup) (sq (xGI 11 2) (sq (xC (.int 1)) (sq (xI2 (· + ·)) (sq (xPI 11 2) (sq (xLA 0) (sq (xGI 11 2) (sq (xC (.int 1)) (sq (xI2 (· - ·)) tRI)))))))))))]
set_option maxRecDepth 100000 in
set_option maxHeartbeats 4000000 in
theorem s_X12_rule : ∀ X : XCtx, XE X → X.2.2.1.1 = cX12_rule → X.2.2.1.2.1 = 1 → X.2.2.1.2.2.1 = yX12_rule.cls → X.2.2.1.2.2.2.1 = (some .int) → X.1.2.2.2.1 = { frames := 12, cells := 0, slots := 0, locals := 262 } → SndBs X bs_X12_rule := by
  rintro ⟨⟨p, l, e, R, s⟩, Y, ⟨cc, nL, own, ret, Ts⟩, Z⟩ hE h1 h2 h3 h4 h5
  dsimp only at h1 h2 h3 h4 h5
  subst h1 h2 h3 h4 h5
  exact ⟨(n_sq (n_aload_n hE dX12_rule_0) (n_sq (n_getI hE xk_11 (k := 2) rfl (by decide) rfl wt_962 dX12_rule_1) (n_sq (n_bipush hE (by decide) dX12_rule_4) (n_ifcne hE (by decide) dX12_rule_6)))),
    (n_sq (n_iconst hE (by decide) dX12_rule_9) (n_ireturn hE rfl dX12_rule_10)),
    (n_sq (n_aload_n hE dX12_rule_11) (n_sq (n_aload_n hE dX12_rule_12) (n_sq (n_getI hE xk_11 (k := 2) rfl (by decide) rfl wt_962 dX12_rule_13) (n_sq (n_putI hE xk_11 (k := 11) rfl (by decide) rfl rfl (tyX12_ok 11 (by decide)) wt_971 dX12_rule_16) (n_sq (n_aload_n hE dX12_rule_19) (n_sq (n_getS hE xk_11 (k := 6) rfl (by decide) rfl wt_966 dX12_rule_20) (n_sq (n_aload_n hE dX12_rule_23) (n_sq (n_getI hE xk_11 (k := 11) rfl (by decide) rfl wt_971 dX12_rule_24) (n_sq (n_iconst hE (by decide) dX12_rule_27) (n_sq (n_iast hE rfl (by decide) dX12_rule_28) (n_sq (n_aload_n hE dX12_rule_29) (n_sq (n_cIv hE m_X12_readsAll vc_X12_274 (show 11 + 1 ≤ 12 ∧ 8 + (2 + 11) + 241 ≤ 262 by decide) dX12_rule_30) (n_ifne hE (by decide) dX12_rule_33))))))))))))),
    (n_sq (n_bipush hE (by decide) dX12_rule_36) (n_sq (n_aload_n hE dX12_rule_38) (n_sq (n_getI hE xk_11 (k := 9) rfl (by decide) rfl wt_969 dX12_rule_39) (n_sq (n_isub hE dX12_rule_42) (n_ireturn hE rfl dX12_rule_43))))),
    (n_sq (n_aload_n hE dX12_rule_44) (n_sq (n_dup hE dX12_rule_45) (n_sq (n_getI hE xk_11 (k := 2) rfl (by decide) rfl wt_962 dX12_rule_46) (n_sq (n_iconst hE (by decide) dX12_rule_49) (n_sq (n_iadd hE dX12_rule_50) (n_sq (n_putI hE xk_11 (k := 2) rfl (by decide) rfl rfl (tyX12_ok 2 (by decide)) wt_962 dX12_rule_51) (n_sq (n_aload_n hE dX12_rule_54) (n_sq (n_getI hE xk_11 (k := 2) rfl (by decide) rfl wt_962 dX12_rule_55) (n_sq (n_iconst hE (by decide) dX12_rule_58) (n_sq (n_isub hE dX12_rule_59) (n_ireturn hE rfl dX12_rule_60))))))))))), trivial⟩
noncomputable def F_X12_rule (as : List XV) (w : XW) : Option (Int32 × XW) := (xF 1 bs_X12_rule as w).bind pI
theorem m_X12_rule : XM yX12_rule cX12_rule 1 (some .int) 12 262 (eI F_X12_rule) := xm_I (xm_of (by decide) s_X12_rule)
noncomputable def q_X12_rule_0 (w : XW) : Option XR := ev bs_X12_rule 0 ([some (.inr (11, 0))], [], w)
noncomputable def q_X12_rule_9 (w : XW) : Option XR := ev bs_X12_rule 9 ([none], [], w)
noncomputable def q_X12_rule_11 (w : XW) : Option XR := ev bs_X12_rule 11 ([some (.inr (11, 0))], [], w)
noncomputable def q_X12_rule_36 (w : XW) : Option XR := ev bs_X12_rule 36 ([some (.inr (11, 0))], [], w)
noncomputable def q_X12_rule_44 (w : XW) : Option XR := ev bs_X12_rule 44 ([some (.inr (11, 0))], [], w)
theorem e_X12_rule_0 (w : XW) : q_X12_rule_0 w = (bif decide (¬ (gI w 11 0 2) = 6) then (q_X12_rule_11 w) else (q_X12_rule_9 w)) := (ev_eq _ _ _).trans rfl
theorem e_X12_rule_9 (w : XW) : q_X12_rule_9 w = (some (some (.inl (.int (-1))), w)) := (ev_eq _ _ _).trans rfl
theorem e_X12_rule_11 (w : XW) : q_X12_rule_11 w = (if (gI (sI w 11 0 11 (gI w 11 0 2)) 11 0 11) < 0 ∨ 6 ≤ (gI (sI w 11 0 11 (gI w 11 0 2)) 11 0 11).toNatClampNeg then none else ((F_X12_readsAll [.inr (11, 0)] (sI (sI w 11 0 11 (gI w 11 0 2)) 45 0 ((gI (sI w 11 0 11 (gI w 11 0 2)) 11 0 11).toNatClampNeg) 0)).bind fun r0 => (bif decide (¬ r0.1 = 0) then (q_X12_rule_44 r0.2) else (q_X12_rule_36 r0.2)))) := (ev_eq _ _ _).trans rfl
theorem e_X12_rule_36 (w : XW) : q_X12_rule_36 w = (some (some (.inl (.int ((-2) - (gI w 11 0 9)))), w)) := (ev_eq _ _ _).trans rfl
theorem e_X12_rule_44 (w : XW) : q_X12_rule_44 w = (some (some (.inl (.int ((gI (sI w 11 0 2 ((gI w 11 0 2) + 1)) 11 0 2) - 1))), sI w 11 0 2 ((gI w 11 0 2) + 1))) := (ev_eq _ _ _).trans rfl
theorem f_X12_rule (w : XW) : F_X12_rule [.inr (11, 0)] w = (q_X12_rule_0 w).bind pI := rfl

-- WinterKeepModel.begins()V
theorem dX12_begins_0 : decode cX12_begins 0 = .ok (.aload_n 0, 1) := by decide +kernel
theorem dX12_begins_1 : decode cX12_begins 1 = .ok (.getfield 39, 3) := by decide +kernel
theorem dX12_begins_4 : decode cX12_begins 4 = .ok (.bipush 10, 2) := by decide +kernel
theorem dX12_begins_6 : decode cX12_begins 6 = .ok (.iconst 0, 1) := by decide +kernel
theorem dX12_begins_7 : decode cX12_begins 7 = .ok (.iastore, 1) := by decide +kernel
theorem dX12_begins_8 : decode cX12_begins 8 = .ok (.iconst 0, 1) := by decide +kernel
theorem dX12_begins_9 : decode cX12_begins 9 = .ok (.istore_n 1, 1) := by decide +kernel
theorem dX12_begins_10 : decode cX12_begins 10 = .ok (.iload_n 1, 1) := by decide +kernel
theorem dX12_begins_11 : decode cX12_begins 11 = .ok (.bipush 6, 2) := by decide +kernel
theorem dX12_begins_13 : decode cX12_begins 13 = .ok (.if_icmp .ge 58, 3) := by decide +kernel
theorem dX12_begins_16 : decode cX12_begins 16 = .ok (.bipush 11, 2) := by decide +kernel
theorem dX12_begins_18 : decode cX12_begins 18 = .ok (.iconst 4, 1) := by decide +kernel
theorem dX12_begins_19 : decode cX12_begins 19 = .ok (.iload_n 1, 1) := by decide +kernel
theorem dX12_begins_20 : decode cX12_begins 20 = .ok (.imul, 1) := by decide +kernel
theorem dX12_begins_21 : decode cX12_begins 21 = .ok (.iadd, 1) := by decide +kernel
theorem dX12_begins_22 : decode cX12_begins 22 = .ok (.istore_n 2, 1) := by decide +kernel
theorem dX12_begins_23 : decode cX12_begins 23 = .ok (.aload_n 0, 1) := by decide +kernel
theorem dX12_begins_24 : decode cX12_begins 24 = .ok (.getfield 39, 3) := by decide +kernel
theorem dX12_begins_27 : decode cX12_begins 27 = .ok (.iload_n 2, 1) := by decide +kernel
theorem dX12_begins_28 : decode cX12_begins 28 = .ok (.iconst 0, 1) := by decide +kernel
theorem dX12_begins_29 : decode cX12_begins 29 = .ok (.iastore, 1) := by decide +kernel
theorem dX12_begins_30 : decode cX12_begins 30 = .ok (.aload_n 0, 1) := by decide +kernel
theorem dX12_begins_31 : decode cX12_begins 31 = .ok (.getfield 39, 3) := by decide +kernel
theorem dX12_begins_34 : decode cX12_begins 34 = .ok (.iload_n 2, 1) := by decide +kernel
theorem dX12_begins_35 : decode cX12_begins 35 = .ok (.iconst 1, 1) := by decide +kernel
theorem dX12_begins_36 : decode cX12_begins 36 = .ok (.iadd, 1) := by decide +kernel
theorem dX12_begins_37 : decode cX12_begins 37 = .ok (.iconst 0, 1) := by decide +kernel
theorem dX12_begins_38 : decode cX12_begins 38 = .ok (.iastore, 1) := by decide +kernel
theorem dX12_begins_39 : decode cX12_begins 39 = .ok (.aload_n 0, 1) := by decide +kernel
theorem dX12_begins_40 : decode cX12_begins 40 = .ok (.getfield 39, 3) := by decide +kernel
theorem dX12_begins_43 : decode cX12_begins 43 = .ok (.iload_n 2, 1) := by decide +kernel
theorem dX12_begins_44 : decode cX12_begins 44 = .ok (.iconst 2, 1) := by decide +kernel
theorem dX12_begins_45 : decode cX12_begins 45 = .ok (.iadd, 1) := by decide +kernel
theorem dX12_begins_46 : decode cX12_begins 46 = .ok (.iconst (-1), 1) := by decide +kernel
theorem dX12_begins_47 : decode cX12_begins 47 = .ok (.iastore, 1) := by decide +kernel
theorem dX12_begins_48 : decode cX12_begins 48 = .ok (.aload_n 0, 1) := by decide +kernel
theorem dX12_begins_49 : decode cX12_begins 49 = .ok (.getfield 39, 3) := by decide +kernel
theorem dX12_begins_52 : decode cX12_begins 52 = .ok (.iload_n 2, 1) := by decide +kernel
theorem dX12_begins_53 : decode cX12_begins 53 = .ok (.iconst 3, 1) := by decide +kernel
theorem dX12_begins_54 : decode cX12_begins 54 = .ok (.iadd, 1) := by decide +kernel
theorem dX12_begins_55 : decode cX12_begins 55 = .ok (.aload_n 0, 1) := by decide +kernel
theorem dX12_begins_56 : decode cX12_begins 56 = .ok (.getfield 39, 3) := by decide +kernel
theorem dX12_begins_59 : decode cX12_begins 59 = .ok (.bipush 61, 2) := by decide +kernel
theorem dX12_begins_61 : decode cX12_begins 61 = .ok (.iload_n 1, 1) := by decide +kernel
theorem dX12_begins_62 : decode cX12_begins 62 = .ok (.iadd, 1) := by decide +kernel
theorem dX12_begins_63 : decode cX12_begins 63 = .ok (.iaload, 1) := by decide +kernel
theorem dX12_begins_64 : decode cX12_begins 64 = .ok (.iastore, 1) := by decide +kernel
theorem dX12_begins_65 : decode cX12_begins 65 = .ok (.iinc 1 1, 3) := by decide +kernel
theorem dX12_begins_68 : decode cX12_begins 68 = .ok (.goto (-58), 3) := by decide +kernel
theorem dX12_begins_71 : decode cX12_begins 71 = .ok (.return_, 1) := by decide +kernel
noncomputable def bs_X12_begins : List (Nat × XB) := [
  (0, (sq (xLA 0) (sq (xGS 11 50 1 0) (sq (xC (.int 10)) (sq (xC (.int 0)) (sq (xTI 50 98 (fun x => x)) (sq (xC (.int 0)) (sq (xSI 1) (tGo 10 [true, true, false]))))))))),
  (10, (sq (xLI 1) (sq (xC (.int 6)) (tIf2 (fun x y => decide (y ≤ x)) 71 [false, false, false] 16 [true, true, false])))),
  (16, (sq (xC (.int 11)) (sq (xC (.int 4)) (sq (xLI 1) (sq (xI2 (· * ·)) (sq (xI2 (· + ·)) (sq (xSI 2) (sq (xLA 0) (sq (xGS 11 50 1 0) (sq (xLI 2) (sq (xC (.int 0)) (sq (xTI 50 98 (fun x => x)) (sq (xLA 0) (sq (xGS 11 50 1 0) (sq (xLI 2) (sq (xC (.int 1)) (sq (xI2 (· + ·)) (sq (xC (.int 0)) (sq (xTI 50 98 (fun x => x)) (sq (xLA 0) (sq (xGS 11 50 1 0) (sq (xLI 2) (sq (xC (.int 2)) (sq (xI2 (· + ·)) (sq (xC (.int (-1))) (sq (xTI 50 98 (fun x => x)) (sq (xLA 0) (sq (xGS 11 50 1 0) (sq (xLI 2) (sq (xC (.int 3)) (sq (xI2 (· + ·)) (sq (xLA 0) (sq (xGS 11 50 1 0) (sq (xC (.int 61)) (sq (xLI 1) (sq (xI2 (· + ·)) (sq (xAI 50 98) (sq (xTI 50 98 (fun x => x)) (sq (xInc 1 1) (tGo 10 [true, true, false])))))))))))))))))))))))))))))))))))))))),
  (71, tRV)]
set_option maxRecDepth 100000 in
set_option maxHeartbeats 4000000 in
theorem s_X12_begins : ∀ X : XCtx, XE X → X.2.2.1.1 = cX12_begins → X.2.2.1.2.1 = 3 → X.2.2.1.2.2.1 = yX12_begins.cls → X.2.2.1.2.2.2.1 = none → X.1.2.2.2.1 = { frames := 0, cells := 0, slots := 0, locals := 0 } → SndBs X bs_X12_begins := by
  rintro ⟨⟨p, l, e, R, s⟩, Y, ⟨cc, nL, own, ret, Ts⟩, Z⟩ hE h1 h2 h3 h4 h5
  dsimp only at h1 h2 h3 h4 h5
  subst h1 h2 h3 h4 h5
  exact ⟨(n_sq (n_aload_n hE dX12_begins_0) (n_sq (n_getS hE xk_11 (k := 20) rfl (by decide) rfl wt_980 dX12_begins_1) (n_sq (n_bipush hE (by decide) dX12_begins_4) (n_sq (n_iconst hE (by decide) dX12_begins_6) (n_sq (n_iast hE rfl (by decide) dX12_begins_7) (n_sq (n_iconst hE (by decide) dX12_begins_8) (n_sq (n_istore_n hE (show (1 : Nat) < 3 by decide) dX12_begins_9) n_fall))))))),
    (n_sq (n_iload_n hE dX12_begins_10) (n_sq (n_bipush hE (by decide) dX12_begins_11) (n_ifcge hE (by decide) dX12_begins_13))),
    (n_sq (n_bipush hE (by decide) dX12_begins_16) (n_sq (n_iconst hE (by decide) dX12_begins_18) (n_sq (n_iload_n hE dX12_begins_19) (n_sq (n_imul hE dX12_begins_20) (n_sq (n_iadd hE dX12_begins_21) (n_sq (n_istore_n hE (show (2 : Nat) < 3 by decide) dX12_begins_22) (n_sq (n_aload_n hE dX12_begins_23) (n_sq (n_getS hE xk_11 (k := 20) rfl (by decide) rfl wt_980 dX12_begins_24) (n_sq (n_iload_n hE dX12_begins_27) (n_sq (n_iconst hE (by decide) dX12_begins_28) (n_sq (n_iast hE rfl (by decide) dX12_begins_29) (n_sq (n_aload_n hE dX12_begins_30) (n_sq (n_getS hE xk_11 (k := 20) rfl (by decide) rfl wt_980 dX12_begins_31) (n_sq (n_iload_n hE dX12_begins_34) (n_sq (n_iconst hE (by decide) dX12_begins_35) (n_sq (n_iadd hE dX12_begins_36) (n_sq (n_iconst hE (by decide) dX12_begins_37) (n_sq (n_iast hE rfl (by decide) dX12_begins_38) (n_sq (n_aload_n hE dX12_begins_39) (n_sq (n_getS hE xk_11 (k := 20) rfl (by decide) rfl wt_980 dX12_begins_40) (n_sq (n_iload_n hE dX12_begins_43) (n_sq (n_iconst hE (by decide) dX12_begins_44) (n_sq (n_iadd hE dX12_begins_45) (n_sq (n_iconst hE (by decide) dX12_begins_46) (n_sq (n_iast hE rfl (by decide) dX12_begins_47) (n_sq (n_aload_n hE dX12_begins_48) (n_sq (n_getS hE xk_11 (k := 20) rfl (by decide) rfl wt_980 dX12_begins_49) (n_sq (n_iload_n hE dX12_begins_52) (n_sq (n_iconst hE (by decide) dX12_begins_53) (n_sq (n_iadd hE dX12_begins_54) (n_sq (n_aload_n hE dX12_begins_55) (n_sq (n_getS hE xk_11 (k := 20) rfl (by decide) rfl wt_980 dX12_begins_56) (n_sq (n_bipush hE (by decide) dX12_begins_59) (n_sq (n_iload_n hE dX12_begins_61) (n_sq (n_iadd hE dX12_begins_62) (n_sq (n_iald hE rfl (by decide) dX12_begins_63) (n_sq (n_iast hE rfl (by decide) dX12_begins_64) (n_sq (n_iinc hE (by decide) (show (1 : Nat) < 3 by decide) dX12_begins_65) (n_goto hE (by decide) dX12_begins_68))))))))))))))))))))))))))))))))))))))),
    (n_vreturn hE rfl dX12_begins_71), trivial⟩
noncomputable def F_X12_begins (as : List XV) (w : XW) : Option XW := (xF 3 bs_X12_begins as w).bind pV
theorem m_X12_begins : XM yX12_begins cX12_begins 3 none 0 0 (eV F_X12_begins) := xm_V (xm_of (by decide) s_X12_begins)
noncomputable def q_X12_begins_0 (w : XW) : Option XR := ev bs_X12_begins 0 ([some (.inr (11, 0)), none, none], [], w)
noncomputable def q_X12_begins_10 (x1 : Int32) (w : XW) : Option XR := ev bs_X12_begins 10 ([some (.inr (11, 0)), some (.inl (.int x1)), none], [], w)
noncomputable def q_X12_begins_16 (x1 : Int32) (w : XW) : Option XR := ev bs_X12_begins 16 ([some (.inr (11, 0)), some (.inl (.int x1)), none], [], w)
noncomputable def q_X12_begins_71 (w : XW) : Option XR := ev bs_X12_begins 71 ([none, none, none], [], w)
set_option maxRecDepth 100000 in
theorem e_X12_begins_0 (w : XW) : q_X12_begins_0 w = (q_X12_begins_10 0 (sI w 50 0 10 0)) := (ev_eq _ _ _).trans rfl
set_option maxRecDepth 100000 in
theorem e_X12_begins_10 (x1 : Int32) (w : XW) : q_X12_begins_10 x1 w = (bif decide (6 ≤ x1) then (q_X12_begins_71 w) else (q_X12_begins_16 x1 w)) := (ev_eq _ _ _).trans rfl
set_option maxRecDepth 100000 in
theorem e_X12_begins_16 (x1 : Int32) (w : XW) : q_X12_begins_16 x1 w = (if (11 + (4 * x1)) < 0 ∨ 98 ≤ (11 + (4 * x1)).toNatClampNeg then none else (if ((11 + (4 * x1)) + 1) < 0 ∨ 98 ≤ ((11 + (4 * x1)) + 1).toNatClampNeg then none else (if ((11 + (4 * x1)) + 2) < 0 ∨ 98 ≤ ((11 + (4 * x1)) + 2).toNatClampNeg then none else (if (61 + x1) < 0 ∨ 98 ≤ (61 + x1).toNatClampNeg then none else (if ((11 + (4 * x1)) + 3) < 0 ∨ 98 ≤ ((11 + (4 * x1)) + 3).toNatClampNeg then none else (q_X12_begins_10 (x1 + 1) (sI (sI (sI (sI w 50 0 ((11 + (4 * x1)).toNatClampNeg) 0) 50 0 (((11 + (4 * x1)) + 1).toNatClampNeg) 0) 50 0 (((11 + (4 * x1)) + 2).toNatClampNeg) (-1)) 50 0 (((11 + (4 * x1)) + 3).toNatClampNeg) (gI (sI (sI (sI w 50 0 ((11 + (4 * x1)).toNatClampNeg) 0) 50 0 (((11 + (4 * x1)) + 1).toNatClampNeg) 0) 50 0 (((11 + (4 * x1)) + 2).toNatClampNeg) (-1)) 50 0 (61 + x1).toNatClampNeg)))))))) := (ev_eq _ _ _).trans rfl
set_option maxRecDepth 100000 in
theorem e_X12_begins_71 (w : XW) : q_X12_begins_71 w = (some (none, w)) := (ev_eq _ _ _).trans rfl
theorem f_X12_begins (w : XW) : F_X12_begins [.inr (11, 0)] w = (q_X12_begins_0 w).bind pV := rfl

-- WinterKeepModel.dale()I
theorem dX12_dale_0 : decode cX12_dale 0 = .ok (.aload_n 0, 1) := by decide +kernel
theorem dX12_dale_1 : decode cX12_dale 1 = .ok (.bipush 6, 2) := by decide +kernel
theorem dX12_dale_3 : decode cX12_dale 3 = .ok (.putfield 159, 3) := by decide +kernel
theorem dX12_dale_6 : decode cX12_dale 6 = .ok (.iconst 0, 1) := by decide +kernel
theorem dX12_dale_7 : decode cX12_dale 7 = .ok (.istore_n 1, 1) := by decide +kernel
theorem dX12_dale_8 : decode cX12_dale 8 = .ok (.iload_n 1, 1) := by decide +kernel
theorem dX12_dale_9 : decode cX12_dale 9 = .ok (.bipush 67, 2) := by decide +kernel
theorem dX12_dale_11 : decode cX12_dale 11 = .ok (.if_icmp .ge 16, 3) := by decide +kernel
theorem dX12_dale_14 : decode cX12_dale 14 = .ok (.aload_n 0, 1) := by decide +kernel
theorem dX12_dale_15 : decode cX12_dale 15 = .ok (.getfield 26, 3) := by decide +kernel
theorem dX12_dale_18 : decode cX12_dale 18 = .ok (.iload_n 1, 1) := by decide +kernel
theorem dX12_dale_19 : decode cX12_dale 19 = .ok (.iconst 0, 1) := by decide +kernel
theorem dX12_dale_20 : decode cX12_dale 20 = .ok (.iastore, 1) := by decide +kernel
theorem dX12_dale_21 : decode cX12_dale 21 = .ok (.iinc 1 1, 3) := by decide +kernel
theorem dX12_dale_24 : decode cX12_dale 24 = .ok (.goto (-16), 3) := by decide +kernel
theorem dX12_dale_27 : decode cX12_dale 27 = .ok (.aload_n 0, 1) := by decide +kernel
theorem dX12_dale_28 : decode cX12_dale 28 = .ok (.invokevirtual 274, 3) := by decide +kernel
theorem dX12_dale_31 : decode cX12_dale 31 = .ok (.ifCond .ne 11, 3) := by decide +kernel
theorem dX12_dale_34 : decode cX12_dale 34 = .ok (.bipush (-2), 2) := by decide +kernel
theorem dX12_dale_36 : decode cX12_dale 36 = .ok (.aload_n 0, 1) := by decide +kernel
theorem dX12_dale_37 : decode cX12_dale 37 = .ok (.getfield 103, 3) := by decide +kernel
theorem dX12_dale_40 : decode cX12_dale 40 = .ok (.isub, 1) := by decide +kernel
theorem dX12_dale_41 : decode cX12_dale 41 = .ok (.ireturn, 1) := by decide +kernel
theorem dX12_dale_42 : decode cX12_dale 42 = .ok (.iconst 0, 1) := by decide +kernel
theorem dX12_dale_43 : decode cX12_dale 43 = .ok (.istore_n 1, 1) := by decide +kernel
theorem dX12_dale_44 : decode cX12_dale 44 = .ok (.iload_n 1, 1) := by decide +kernel
theorem dX12_dale_45 : decode cX12_dale 45 = .ok (.bipush 98, 2) := by decide +kernel
theorem dX12_dale_47 : decode cX12_dale 47 = .ok (.if_icmp .ge 31, 3) := by decide +kernel
theorem dX12_dale_50 : decode cX12_dale 50 = .ok (.aload_n 0, 1) := by decide +kernel
theorem dX12_dale_51 : decode cX12_dale 51 = .ok (.getfield 39, 3) := by decide +kernel
theorem dX12_dale_54 : decode cX12_dale 54 = .ok (.iload_n 1, 1) := by decide +kernel
theorem dX12_dale_55 : decode cX12_dale 55 = .ok (.iload_n 1, 1) := by decide +kernel
theorem dX12_dale_56 : decode cX12_dale 56 = .ok (.bipush 67, 2) := by decide +kernel
theorem dX12_dale_58 : decode cX12_dale 58 = .ok (.if_icmp .ge 12, 3) := by decide +kernel
theorem dX12_dale_61 : decode cX12_dale 61 = .ok (.aload_n 0, 1) := by decide +kernel
theorem dX12_dale_62 : decode cX12_dale 62 = .ok (.getfield 26, 3) := by decide +kernel
theorem dX12_dale_65 : decode cX12_dale 65 = .ok (.iload_n 1, 1) := by decide +kernel
theorem dX12_dale_66 : decode cX12_dale 66 = .ok (.iaload, 1) := by decide +kernel
theorem dX12_dale_67 : decode cX12_dale 67 = .ok (.goto 4, 3) := by decide +kernel
theorem dX12_dale_70 : decode cX12_dale 70 = .ok (.iconst 0, 1) := by decide +kernel
theorem dX12_dale_71 : decode cX12_dale 71 = .ok (.iastore, 1) := by decide +kernel
theorem dX12_dale_72 : decode cX12_dale 72 = .ok (.iinc 1 1, 3) := by decide +kernel
theorem dX12_dale_75 : decode cX12_dale 75 = .ok (.goto (-31), 3) := by decide +kernel
theorem dX12_dale_78 : decode cX12_dale 78 = .ok (.aload_n 0, 1) := by decide +kernel
theorem dX12_dale_79 : decode cX12_dale 79 = .ok (.invokevirtual 277, 3) := by decide +kernel
theorem dX12_dale_82 : decode cX12_dale 82 = .ok (.aload_n 0, 1) := by decide +kernel
theorem dX12_dale_83 : decode cX12_dale 83 = .ok (.iconst 0, 1) := by decide +kernel
theorem dX12_dale_84 : decode cX12_dale 84 = .ok (.putfield 280, 3) := by decide +kernel
theorem dX12_dale_87 : decode cX12_dale 87 = .ok (.aload_n 0, 1) := by decide +kernel
theorem dX12_dale_88 : decode cX12_dale 88 = .ok (.getfield 39, 3) := by decide +kernel
theorem dX12_dale_91 : decode cX12_dale 91 = .ok (.iconst 3, 1) := by decide +kernel
theorem dX12_dale_92 : decode cX12_dale 92 = .ok (.iaload, 1) := by decide +kernel
theorem dX12_dale_93 : decode cX12_dale 93 = .ok (.ireturn, 1) := by decide +kernel
theorem vc_X12_277 : XVw RX12 277 0 11 3 yX12_begins cX12_begins none := ⟨RX12, TX12, tyX12, 43, xk_11, rfl, ⟨by decide, by decide⟩, by decide +kernel, wt_1264, wt_1266, ws_71, wt_11, wt_1267⟩
noncomputable def bs_X12_dale : List (Nat × XB) := [
  (0, (sq (xLA 0) (sq (xC (.int 6)) (sq (xPI 11 11) (sq (xC (.int 0)) (sq (xSI 1) (tGo 8 [true, true]))))))),
  (8, (sq (xLI 1) (sq (xC (.int 67)) (tIf2 (fun x y => decide (y ≤ x)) 27 [true, false] 14 [true, true])))),
  (14, (sq (xLA 0) (sq (xGS 11 46 1 0) (sq (xLI 1) (sq (xC (.int 0)) (sq (xTI 46 67 (fun x => x)) (sq (xInc 1 1) (tGo 8 [true, true])))))))),
  (27, (sq (xLA 0) (sq (xCI 11 1 F_X12_readsAll) (tIf1 (fun x => decide (¬ x = 0)) 42 [true, false] 34 [true, false])))),
  (34, (sq (xC (.int (-2))) (sq (xLA 0) (sq (xGI 11 9) (sq (xI2 (· - ·)) tRI))))),
  (42, (sq (xC (.int 0)) (sq (xSI 1) (tGo 44 [true, true])))),
  (44, (sq (xLI 1) (sq (xC (.int 98)) (tIf2 (fun x y => decide (y ≤ x)) 78 [true, false] 50 [true, true])))),
  (50, (sq (xLA 0) (sq (xGS 11 50 1 0) (sq (xLI 1) (sq (xLI 1) (sq (xC (.int 67)) (tIf2 (fun x y => decide (y ≤ x)) 70 [true, true] 61 [true, true]))))))),
  (61, (sq (xLA 0) (sq (xGS 11 46 1 0) (sq (xLI 1) (sq (xAI 46 67) (tGo 71 [true, true])))))),
  (70, (sq (xC (.int 0)) (tGo 71 [true, true]))),
  (71, (sq (xTI 50 98 (fun x => x)) (sq (xInc 1 1) (tGo 44 [true, true])))),
  (78, (sq (xLA 0) (sq (xCV 11 1 F_X12_begins) (sq (xLA 0) (sq (xC (.int 0)) (sq (xPI 11 26) (sq (xLA 0) (sq (xGS 11 50 1 0) (sq (xC (.int 3)) (sq (xAI 50 98) tRI))))))))))]
set_option maxRecDepth 100000 in
set_option maxHeartbeats 4000000 in
theorem s_X12_dale : ∀ X : XCtx, XE X → X.2.2.1.1 = cX12_dale → X.2.2.1.2.1 = 2 → X.2.2.1.2.2.1 = yX12_dale.cls → X.2.2.1.2.2.2.1 = (some .int) → X.1.2.2.2.1 = { frames := 12, cells := 0, slots := 0, locals := 262 } → SndBs X bs_X12_dale := by
  rintro ⟨⟨p, l, e, R, s⟩, Y, ⟨cc, nL, own, ret, Ts⟩, Z⟩ hE h1 h2 h3 h4 h5
  dsimp only at h1 h2 h3 h4 h5
  subst h1 h2 h3 h4 h5
  exact ⟨(n_sq (n_aload_n hE dX12_dale_0) (n_sq (n_bipush hE (by decide) dX12_dale_1) (n_sq (n_putI hE xk_11 (k := 11) rfl (by decide) rfl rfl (tyX12_ok 11 (by decide)) wt_971 dX12_dale_3) (n_sq (n_iconst hE (by decide) dX12_dale_6) (n_sq (n_istore_n hE (show (1 : Nat) < 2 by decide) dX12_dale_7) n_fall))))),
    (n_sq (n_iload_n hE dX12_dale_8) (n_sq (n_bipush hE (by decide) dX12_dale_9) (n_ifcge hE (by decide) dX12_dale_11))),
    (n_sq (n_aload_n hE dX12_dale_14) (n_sq (n_getS hE xk_11 (k := 7) rfl (by decide) rfl wt_967 dX12_dale_15) (n_sq (n_iload_n hE dX12_dale_18) (n_sq (n_iconst hE (by decide) dX12_dale_19) (n_sq (n_iast hE rfl (by decide) dX12_dale_20) (n_sq (n_iinc hE (by decide) (show (1 : Nat) < 2 by decide) dX12_dale_21) (n_goto hE (by decide) dX12_dale_24))))))),
    (n_sq (n_aload_n hE dX12_dale_27) (n_sq (n_cIv hE m_X12_readsAll vc_X12_274 (show 11 + 1 ≤ 12 ∧ 8 + (2 + 11) + 241 ≤ 262 by decide) dX12_dale_28) (n_ifne hE (by decide) dX12_dale_31))),
    (n_sq (n_bipush hE (by decide) dX12_dale_34) (n_sq (n_aload_n hE dX12_dale_36) (n_sq (n_getI hE xk_11 (k := 9) rfl (by decide) rfl wt_969 dX12_dale_37) (n_sq (n_isub hE dX12_dale_40) (n_ireturn hE rfl dX12_dale_41))))),
    (n_sq (n_iconst hE (by decide) dX12_dale_42) (n_sq (n_istore_n hE (show (1 : Nat) < 2 by decide) dX12_dale_43) n_fall)),
    (n_sq (n_iload_n hE dX12_dale_44) (n_sq (n_bipush hE (by decide) dX12_dale_45) (n_ifcge hE (by decide) dX12_dale_47))),
    (n_sq (n_aload_n hE dX12_dale_50) (n_sq (n_getS hE xk_11 (k := 20) rfl (by decide) rfl wt_980 dX12_dale_51) (n_sq (n_iload_n hE dX12_dale_54) (n_sq (n_iload_n hE dX12_dale_55) (n_sq (n_bipush hE (by decide) dX12_dale_56) (n_ifcge hE (by decide) dX12_dale_58)))))),
    (n_sq (n_aload_n hE dX12_dale_61) (n_sq (n_getS hE xk_11 (k := 7) rfl (by decide) rfl wt_967 dX12_dale_62) (n_sq (n_iload_n hE dX12_dale_65) (n_sq (n_iald hE rfl (by decide) dX12_dale_66) (n_goto hE (by decide) dX12_dale_67))))),
    (n_sq (n_iconst hE (by decide) dX12_dale_70) n_fall),
    (n_sq (n_iast hE rfl (by decide) dX12_dale_71) (n_sq (n_iinc hE (by decide) (show (1 : Nat) < 2 by decide) dX12_dale_72) (n_goto hE (by decide) dX12_dale_75))),
    (n_sq (n_aload_n hE dX12_dale_78) (n_sq (n_cVv hE m_X12_begins vc_X12_277 (show 0 + 1 ≤ 12 ∧ 8 + (3 + 11) + 0 ≤ 262 by decide) dX12_dale_79) (n_sq (n_aload_n hE dX12_dale_82) (n_sq (n_iconst hE (by decide) dX12_dale_83) (n_sq (n_putI hE xk_11 (k := 26) rfl (by decide) rfl rfl (tyX12_ok 26 (by decide)) wt_986 dX12_dale_84) (n_sq (n_aload_n hE dX12_dale_87) (n_sq (n_getS hE xk_11 (k := 20) rfl (by decide) rfl wt_980 dX12_dale_88) (n_sq (n_iconst hE (by decide) dX12_dale_91) (n_sq (n_iald hE rfl (by decide) dX12_dale_92) (n_ireturn hE rfl dX12_dale_93)))))))))), trivial⟩
noncomputable def F_X12_dale (as : List XV) (w : XW) : Option (Int32 × XW) := (xF 2 bs_X12_dale as w).bind pI
theorem m_X12_dale : XM yX12_dale cX12_dale 2 (some .int) 12 262 (eI F_X12_dale) := xm_I (xm_of (by decide) s_X12_dale)
noncomputable def q_X12_dale_0 (w : XW) : Option XR := ev bs_X12_dale 0 ([some (.inr (11, 0)), none], [], w)
noncomputable def q_X12_dale_8 (x1 : Int32) (w : XW) : Option XR := ev bs_X12_dale 8 ([some (.inr (11, 0)), some (.inl (.int x1))], [], w)
noncomputable def q_X12_dale_14 (x1 : Int32) (w : XW) : Option XR := ev bs_X12_dale 14 ([some (.inr (11, 0)), some (.inl (.int x1))], [], w)
noncomputable def q_X12_dale_27 (w : XW) : Option XR := ev bs_X12_dale 27 ([some (.inr (11, 0)), none], [], w)
noncomputable def q_X12_dale_34 (w : XW) : Option XR := ev bs_X12_dale 34 ([some (.inr (11, 0)), none], [], w)
noncomputable def q_X12_dale_42 (w : XW) : Option XR := ev bs_X12_dale 42 ([some (.inr (11, 0)), none], [], w)
noncomputable def q_X12_dale_44 (x1 : Int32) (w : XW) : Option XR := ev bs_X12_dale 44 ([some (.inr (11, 0)), some (.inl (.int x1))], [], w)
noncomputable def q_X12_dale_50 (x1 : Int32) (w : XW) : Option XR := ev bs_X12_dale 50 ([some (.inr (11, 0)), some (.inl (.int x1))], [], w)
noncomputable def q_X12_dale_61 (x1 : Int32) (s1 : Int32) (w : XW) : Option XR := ev bs_X12_dale 61 ([some (.inr (11, 0)), some (.inl (.int x1))], [.inl (.int s1), .inr (50, 0)], w)
noncomputable def q_X12_dale_70 (x1 : Int32) (s1 : Int32) (w : XW) : Option XR := ev bs_X12_dale 70 ([some (.inr (11, 0)), some (.inl (.int x1))], [.inl (.int s1), .inr (50, 0)], w)
noncomputable def q_X12_dale_71 (x1 : Int32) (s1 : Int32) (s2 : Int32) (w : XW) : Option XR := ev bs_X12_dale 71 ([some (.inr (11, 0)), some (.inl (.int x1))], [.inl (.int s2), .inl (.int s1), .inr (50, 0)], w)
noncomputable def q_X12_dale_78 (w : XW) : Option XR := ev bs_X12_dale 78 ([some (.inr (11, 0)), none], [], w)
theorem e_X12_dale_0 (w : XW) : q_X12_dale_0 w = (q_X12_dale_8 0 (sI w 11 0 11 6)) := (ev_eq _ _ _).trans rfl
theorem e_X12_dale_8 (x1 : Int32) (w : XW) : q_X12_dale_8 x1 w = (bif decide (67 ≤ x1) then (q_X12_dale_27 w) else (q_X12_dale_14 x1 w)) := (ev_eq _ _ _).trans rfl
theorem e_X12_dale_14 (x1 : Int32) (w : XW) : q_X12_dale_14 x1 w = (if x1 < 0 ∨ 67 ≤ x1.toNatClampNeg then none else (q_X12_dale_8 (x1 + 1) (sI w 46 0 x1.toNatClampNeg 0))) := (ev_eq _ _ _).trans rfl
theorem e_X12_dale_27 (w : XW) : q_X12_dale_27 w = ((F_X12_readsAll [.inr (11, 0)] w).bind fun r0 => (bif decide (¬ r0.1 = 0) then (q_X12_dale_42 r0.2) else (q_X12_dale_34 r0.2))) := (ev_eq _ _ _).trans rfl
theorem e_X12_dale_34 (w : XW) : q_X12_dale_34 w = (some (some (.inl (.int ((-2) - (gI w 11 0 9)))), w)) := (ev_eq _ _ _).trans rfl
theorem e_X12_dale_42 (w : XW) : q_X12_dale_42 w = (q_X12_dale_44 0 w) := (ev_eq _ _ _).trans rfl
theorem e_X12_dale_44 (x1 : Int32) (w : XW) : q_X12_dale_44 x1 w = (bif decide (98 ≤ x1) then (q_X12_dale_78 w) else (q_X12_dale_50 x1 w)) := (ev_eq _ _ _).trans rfl
theorem e_X12_dale_50 (x1 : Int32) (w : XW) : q_X12_dale_50 x1 w = (bif decide (67 ≤ x1) then (q_X12_dale_70 x1 x1 w) else (q_X12_dale_61 x1 x1 w)) := (ev_eq _ _ _).trans rfl
theorem e_X12_dale_61 (x1 : Int32) (s1 : Int32) (w : XW) : q_X12_dale_61 x1 s1 w = (if x1 < 0 ∨ 67 ≤ x1.toNatClampNeg then none else (q_X12_dale_71 x1 s1 (gI w 46 0 x1.toNatClampNeg) w)) := (ev_eq _ _ _).trans rfl
theorem e_X12_dale_70 (x1 : Int32) (s1 : Int32) (w : XW) : q_X12_dale_70 x1 s1 w = (q_X12_dale_71 x1 s1 0 w) := (ev_eq _ _ _).trans rfl
theorem e_X12_dale_71 (x1 : Int32) (s1 : Int32) (s2 : Int32) (w : XW) : q_X12_dale_71 x1 s1 s2 w = (if s1 < 0 ∨ 98 ≤ s1.toNatClampNeg then none else (q_X12_dale_44 (x1 + 1) (sI w 50 0 s1.toNatClampNeg s2))) := (ev_eq _ _ _).trans rfl
theorem e_X12_dale_78 (w : XW) : q_X12_dale_78 w = ((F_X12_begins [.inr (11, 0)] w).bind fun r0 => (some (some (.inl (.int (gI (sI r0 11 0 26 0) 50 0 3))), sI r0 11 0 26 0))) := (ev_eq _ _ _).trans rfl
theorem f_X12_dale (w : XW) : F_X12_dale [.inr (11, 0)] w = (q_X12_dale_0 w).bind pI := rfl

-- WinterKeepModel.isRule(I)Z
theorem dX12_isRule_0 : decode cX12_isRule 0 = .ok (.iload_n 1, 1) := by decide +kernel
theorem dX12_isRule_1 : decode cX12_isRule 1 = .ok (.ifCond .lt 15, 3) := by decide +kernel
theorem dX12_isRule_4 : decode cX12_isRule 4 = .ok (.iload_n 1, 1) := by decide +kernel
theorem dX12_isRule_5 : decode cX12_isRule 5 = .ok (.aload_n 0, 1) := by decide +kernel
theorem dX12_isRule_6 : decode cX12_isRule 6 = .ok (.getfield 271, 3) := by decide +kernel
theorem dX12_isRule_9 : decode cX12_isRule 9 = .ok (.if_icmp .ge 7, 3) := by decide +kernel
theorem dX12_isRule_12 : decode cX12_isRule 12 = .ok (.iconst 1, 1) := by decide +kernel
theorem dX12_isRule_13 : decode cX12_isRule 13 = .ok (.goto 4, 3) := by decide +kernel
theorem dX12_isRule_16 : decode cX12_isRule 16 = .ok (.iconst 0, 1) := by decide +kernel
theorem dX12_isRule_17 : decode cX12_isRule 17 = .ok (.ireturn, 1) := by decide +kernel
noncomputable def bs_X12_isRule : List (Nat × XB) := [
  (0, (sq (xLI 1) (tIf1 (fun x => decide (x < 0)) 16 [false, false] 4 [true, true]))),
  (4, (sq (xLI 1) (sq (xLA 0) (sq (xGI 11 2) (tIf2 (fun x y => decide (y ≤ x)) 16 [false, false] 12 [false, false]))))),
  (12, (sq (xC (.int 1)) (tGo 17 [false, false]))),
  (16, (sq (xC (.int 0)) (tGo 17 [false, false]))),
  (17, tRZ)]
set_option maxRecDepth 100000 in
set_option maxHeartbeats 4000000 in
theorem s_X12_isRule : ∀ X : XCtx, XE X → X.2.2.1.1 = cX12_isRule → X.2.2.1.2.1 = 2 → X.2.2.1.2.2.1 = yX12_isRule.cls → X.2.2.1.2.2.2.1 = (some .boolean) → X.1.2.2.2.1 = { frames := 0, cells := 0, slots := 0, locals := 0 } → SndBs X bs_X12_isRule := by
  rintro ⟨⟨p, l, e, R, s⟩, Y, ⟨cc, nL, own, ret, Ts⟩, Z⟩ hE h1 h2 h3 h4 h5
  dsimp only at h1 h2 h3 h4 h5
  subst h1 h2 h3 h4 h5
  exact ⟨(n_sq (n_iload_n hE dX12_isRule_0) (n_iflt hE (by decide) dX12_isRule_1)),
    (n_sq (n_iload_n hE dX12_isRule_4) (n_sq (n_aload_n hE dX12_isRule_5) (n_sq (n_getI hE xk_11 (k := 2) rfl (by decide) rfl wt_962 dX12_isRule_6) (n_ifcge hE (by decide) dX12_isRule_9)))),
    (n_sq (n_iconst hE (by decide) dX12_isRule_12) (n_goto hE (by decide) dX12_isRule_13)),
    (n_sq (n_iconst hE (by decide) dX12_isRule_16) n_fall),
    (n_zreturn hE rfl dX12_isRule_17), trivial⟩
noncomputable def F_X12_isRule (as : List XV) (w : XW) : Option (Int32 × XW) := (xF 2 bs_X12_isRule as w).bind pI
theorem m_X12_isRule : XM yX12_isRule cX12_isRule 2 (some .boolean) 0 0 (eI F_X12_isRule) := xm_I (xm_of (by decide) s_X12_isRule)
noncomputable def q_X12_isRule_0 (x1 : Int32) (w : XW) : Option XR := ev bs_X12_isRule 0 ([some (.inr (11, 0)), some (.inl (.int x1))], [], w)
noncomputable def q_X12_isRule_4 (x1 : Int32) (w : XW) : Option XR := ev bs_X12_isRule 4 ([some (.inr (11, 0)), some (.inl (.int x1))], [], w)
noncomputable def q_X12_isRule_12 (w : XW) : Option XR := ev bs_X12_isRule 12 ([none, none], [], w)
noncomputable def q_X12_isRule_16 (w : XW) : Option XR := ev bs_X12_isRule 16 ([none, none], [], w)
noncomputable def q_X12_isRule_17 (s0 : Int32) (w : XW) : Option XR := ev bs_X12_isRule 17 ([none, none], [.inl (.int s0)], w)
theorem e_X12_isRule_0 (x1 : Int32) (w : XW) : q_X12_isRule_0 x1 w = (bif decide (x1 < 0) then (q_X12_isRule_16 w) else (q_X12_isRule_4 x1 w)) := (ev_eq _ _ _).trans rfl
theorem e_X12_isRule_4 (x1 : Int32) (w : XW) : q_X12_isRule_4 x1 w = (bif decide ((gI w 11 0 2) ≤ x1) then (q_X12_isRule_16 w) else (q_X12_isRule_12 w)) := (ev_eq _ _ _).trans rfl
theorem e_X12_isRule_12 (w : XW) : q_X12_isRule_12 w = (q_X12_isRule_17 1 w) := (ev_eq _ _ _).trans rfl
theorem e_X12_isRule_16 (w : XW) : q_X12_isRule_16 w = (q_X12_isRule_17 0 w) := (ev_eq _ _ _).trans rfl
theorem e_X12_isRule_17 (s0 : Int32) (w : XW) : q_X12_isRule_17 s0 w = (if s0 = 0 ∨ s0 = 1 then some (some (.inl (.int s0)), w) else none) := (ev_eq _ _ _).trans rfl
theorem f_X12_isRule (x1 : Int32) (w : XW) : F_X12_isRule [.inr (11, 0), .inl (.int x1)] w = (q_X12_isRule_0 x1 w).bind pI := rfl

-- WinterKeepModel.push(J)V
theorem dX12_push_0 : decode cX12_push 0 = .ok (.aload_n 0, 1) := by decide +kernel
theorem dX12_push_1 : decode cX12_push 1 = .ok (.getfield 32, 3) := by decide +kernel
theorem dX12_push_4 : decode cX12_push 4 = .ok (.aload_n 0, 1) := by decide +kernel
theorem dX12_push_5 : decode cX12_push 5 = .ok (.getfield 283, 3) := by decide +kernel
theorem dX12_push_8 : decode cX12_push 8 = .ok (.lload_n 1, 1) := by decide +kernel
theorem dX12_push_9 : decode cX12_push 9 = .ok (.lastore, 1) := by decide +kernel
theorem dX12_push_10 : decode cX12_push 10 = .ok (.aload_n 0, 1) := by decide +kernel
theorem dX12_push_11 : decode cX12_push 11 = .ok (.dup, 1) := by decide +kernel
theorem dX12_push_12 : decode cX12_push 12 = .ok (.getfield 283, 3) := by decide +kernel
theorem dX12_push_15 : decode cX12_push 15 = .ok (.iconst 1, 1) := by decide +kernel
theorem dX12_push_16 : decode cX12_push 16 = .ok (.iadd, 1) := by decide +kernel
theorem dX12_push_17 : decode cX12_push 17 = .ok (.putfield 283, 3) := by decide +kernel
theorem dX12_push_20 : decode cX12_push 20 = .ok (.return_, 1) := by decide +kernel
noncomputable def bs_X12_push : List (Nat × XB) := [
  (0, (sq (xLA 0) (sq (xGS 11 48 1 0) (sq (xLA 0) (sq (xGI 11 18) (sq (xLJ 1) (sq (xTJ 48 64) (sq (xLA 0) (sq (xDup) (sq (xGI 11 18) (sq (xC (.int 1)) (sq (xI2 (· + ·)) (sq (xPI 11 18) tRV)))))))))))))]
set_option maxRecDepth 100000 in
set_option maxHeartbeats 4000000 in
theorem s_X12_push : ∀ X : XCtx, XE X → X.2.2.1.1 = cX12_push → X.2.2.1.2.1 = 3 → X.2.2.1.2.2.1 = yX12_push.cls → X.2.2.1.2.2.2.1 = none → X.1.2.2.2.1 = { frames := 0, cells := 0, slots := 0, locals := 0 } → SndBs X bs_X12_push := by
  rintro ⟨⟨p, l, e, R, s⟩, Y, ⟨cc, nL, own, ret, Ts⟩, Z⟩ hE h1 h2 h3 h4 h5
  dsimp only at h1 h2 h3 h4 h5
  subst h1 h2 h3 h4 h5
  exact ⟨(n_sq (n_aload_n hE dX12_push_0) (n_sq (n_getS hE xk_11 (k := 17) rfl (by decide) rfl wt_977 dX12_push_1) (n_sq (n_aload_n hE dX12_push_4) (n_sq (n_getI hE xk_11 (k := 18) rfl (by decide) rfl wt_978 dX12_push_5) (n_sq (n_lload_n hE dX12_push_8) (n_sq (n_last hE rfl (by decide) dX12_push_9) (n_sq (n_aload_n hE dX12_push_10) (n_sq (n_dup hE dX12_push_11) (n_sq (n_getI hE xk_11 (k := 18) rfl (by decide) rfl wt_978 dX12_push_12) (n_sq (n_iconst hE (by decide) dX12_push_15) (n_sq (n_iadd hE dX12_push_16) (n_sq (n_putI hE xk_11 (k := 18) rfl (by decide) rfl rfl (tyX12_ok 18 (by decide)) wt_978 dX12_push_17) (n_vreturn hE rfl dX12_push_20))))))))))))), trivial⟩
noncomputable def F_X12_push (as : List XV) (w : XW) : Option XW := (xF 3 bs_X12_push as w).bind pV
theorem m_X12_push : XM yX12_push cX12_push 3 none 0 0 (eV F_X12_push) := xm_V (xm_of (by decide) s_X12_push)
noncomputable def q_X12_push_0 (y1 : Int64) (w : XW) : Option XR := ev bs_X12_push 0 ([some (.inr (11, 0)), some (.inl (.long y1)), none], [], w)
theorem e_X12_push_0 (y1 : Int64) (w : XW) : q_X12_push_0 y1 w = (if (gI w 11 0 18) < 0 ∨ 64 ≤ (gI w 11 0 18).toNatClampNeg then none else (some (none, sI (sJ w 48 0 ((gI w 11 0 18).toNatClampNeg) y1) 11 0 18 ((gI (sJ w 48 0 ((gI w 11 0 18).toNatClampNeg) y1) 11 0 18) + 1)))) := (ev_eq _ _ _).trans rfl
theorem f_X12_push (y1 : Int64) (w : XW) : F_X12_push [.inr (11, 0), .inl (.long y1)] w = (q_X12_push_0 y1 w).bind pV := rfl

-- WinterKeepModel.pop()J
theorem dX12_pop_0 : decode cX12_pop 0 = .ok (.aload_n 0, 1) := by decide +kernel
theorem dX12_pop_1 : decode cX12_pop 1 = .ok (.dup, 1) := by decide +kernel
theorem dX12_pop_2 : decode cX12_pop 2 = .ok (.getfield 283, 3) := by decide +kernel
theorem dX12_pop_5 : decode cX12_pop 5 = .ok (.iconst 1, 1) := by decide +kernel
theorem dX12_pop_6 : decode cX12_pop 6 = .ok (.isub, 1) := by decide +kernel
theorem dX12_pop_7 : decode cX12_pop 7 = .ok (.putfield 283, 3) := by decide +kernel
theorem dX12_pop_10 : decode cX12_pop 10 = .ok (.aload_n 0, 1) := by decide +kernel
theorem dX12_pop_11 : decode cX12_pop 11 = .ok (.getfield 32, 3) := by decide +kernel
theorem dX12_pop_14 : decode cX12_pop 14 = .ok (.aload_n 0, 1) := by decide +kernel
theorem dX12_pop_15 : decode cX12_pop 15 = .ok (.getfield 283, 3) := by decide +kernel
theorem dX12_pop_18 : decode cX12_pop 18 = .ok (.laload, 1) := by decide +kernel
theorem dX12_pop_19 : decode cX12_pop 19 = .ok (.lreturn, 1) := by decide +kernel
noncomputable def bs_X12_pop : List (Nat × XB) := [
  (0, (sq (xLA 0) (sq (xDup) (sq (xGI 11 18) (sq (xC (.int 1)) (sq (xI2 (· - ·)) (sq (xPI 11 18) (sq (xLA 0) (sq (xGS 11 48 1 0) (sq (xLA 0) (sq (xGI 11 18) (sq (xAJ 48 64) tRJ))))))))))))]
set_option maxRecDepth 100000 in
set_option maxHeartbeats 4000000 in
theorem s_X12_pop : ∀ X : XCtx, XE X → X.2.2.1.1 = cX12_pop → X.2.2.1.2.1 = 1 → X.2.2.1.2.2.1 = yX12_pop.cls → X.2.2.1.2.2.2.1 = (some .long) → X.1.2.2.2.1 = { frames := 0, cells := 0, slots := 0, locals := 0 } → SndBs X bs_X12_pop := by
  rintro ⟨⟨p, l, e, R, s⟩, Y, ⟨cc, nL, own, ret, Ts⟩, Z⟩ hE h1 h2 h3 h4 h5
  dsimp only at h1 h2 h3 h4 h5
  subst h1 h2 h3 h4 h5
  exact ⟨(n_sq (n_aload_n hE dX12_pop_0) (n_sq (n_dup hE dX12_pop_1) (n_sq (n_getI hE xk_11 (k := 18) rfl (by decide) rfl wt_978 dX12_pop_2) (n_sq (n_iconst hE (by decide) dX12_pop_5) (n_sq (n_isub hE dX12_pop_6) (n_sq (n_putI hE xk_11 (k := 18) rfl (by decide) rfl rfl (tyX12_ok 18 (by decide)) wt_978 dX12_pop_7) (n_sq (n_aload_n hE dX12_pop_10) (n_sq (n_getS hE xk_11 (k := 17) rfl (by decide) rfl wt_977 dX12_pop_11) (n_sq (n_aload_n hE dX12_pop_14) (n_sq (n_getI hE xk_11 (k := 18) rfl (by decide) rfl wt_978 dX12_pop_15) (n_sq (n_lald hE rfl (by decide) dX12_pop_18) (n_lreturn hE rfl dX12_pop_19)))))))))))), trivial⟩
noncomputable def F_X12_pop (as : List XV) (w : XW) : Option (Int64 × XW) := (xF 1 bs_X12_pop as w).bind pJ
theorem m_X12_pop : XM yX12_pop cX12_pop 1 (some .long) 0 0 (eJ F_X12_pop) := xm_J (xm_of (by decide) s_X12_pop)
noncomputable def q_X12_pop_0 (w : XW) : Option XR := ev bs_X12_pop 0 ([some (.inr (11, 0))], [], w)
theorem e_X12_pop_0 (w : XW) : q_X12_pop_0 w = (if (gI (sI w 11 0 18 ((gI w 11 0 18) - 1)) 11 0 18) < 0 ∨ 64 ≤ (gI (sI w 11 0 18 ((gI w 11 0 18) - 1)) 11 0 18).toNatClampNeg then none else (some (some (.inl (.long (gJ (sI w 11 0 18 ((gI w 11 0 18) - 1)) 48 0 (gI (sI w 11 0 18 ((gI w 11 0 18) - 1)) 11 0 18).toNatClampNeg))), sI w 11 0 18 ((gI w 11 0 18) - 1)))) := (ev_eq _ _ _).trans rfl
theorem f_X12_pop (w : XW) : F_X12_pop [.inr (11, 0)] w = (q_X12_pop_0 w).bind pJ := rfl
