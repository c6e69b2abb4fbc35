theorem wt_49 : (Jvm.Cond.fieldLink "WinterKeep" (125 : Nat) "WinterKeep$Tape" "fault" "I") ∈ lw_ok := lw_okt 49 (by decide +kernel) (by decide +kernel)
theorem wt_393 : (Jvm.Cond.methodLink "WinterKeep" (119 : Nat) ({ cls := "WinterKeep$DaleReader", name := "read", desc := "(LWinterKeep$Tape;LWinterKeep$Dale;)Z" } : Jvm.MethodName)) ∈ lw_ok := lw_okt 393 (by decide +kernel) (by decide +kernel)
theorem wt_394 : (Jvm.Cond.static ({ cls := "WinterKeep$DaleReader", name := "read", desc := "(LWinterKeep$Tape;LWinterKeep$Dale;)Z" } : Jvm.MethodName)) ∈ lw_ok := lw_okt 394 (by decide +kernel) (by decide +kernel)
theorem wt_395 : (Jvm.Cond.code ({ cls := "WinterKeep$DaleReader", name := "read", desc := "(LWinterKeep$Tape;LWinterKeep$Dale;)Z" } : Jvm.MethodName) prog_4_method_2_code (3 : Nat) (Option.some Jvm.ClassFile.FieldType.boolean)) ∈ lw_ok := lw_okt 395 (by decide +kernel) (by decide +kernel)
theorem wt_509 : (Jvm.Cond.methodLink "WinterKeep" (138 : Nat) ({ cls := "WinterKeep$RuleReader", name := "read", desc := "(LWinterKeep$Tape;)Z" } : Jvm.MethodName)) ∈ lw_ok := lw_okt 509 (by decide +kernel) (by decide +kernel)
theorem wt_510 : (Jvm.Cond.instanceMethod ({ cls := "WinterKeep$RuleReader", name := "read", desc := "(LWinterKeep$Tape;)Z" } : Jvm.MethodName)) ∈ lw_ok := lw_okt 510 (by decide +kernel) (by decide +kernel)
theorem wt_511 : (Jvm.Cond.selects "WinterKeep$RuleReader" ({ cls := "WinterKeep$RuleReader", name := "read", desc := "(LWinterKeep$Tape;)Z" } : Jvm.MethodName) ({ cls := "WinterKeep$RuleReader", name := "read", desc := "(LWinterKeep$Tape;)Z" } : Jvm.MethodName)) ∈ lw_ok := lw_okt 511 (by decide +kernel) (by decide +kernel)
theorem wt_512 : (Jvm.Cond.code ({ cls := "WinterKeep$RuleReader", name := "read", desc := "(LWinterKeep$Tape;)Z" } : Jvm.MethodName) prog_10_method_2_code (3 : Nat) (Option.some Jvm.ClassFile.FieldType.boolean)) ∈ lw_ok := lw_okt 512 (by decide +kernel) (by decide +kernel)
theorem dX11_dale_0 : decode cX11_dale 0 = .ok (.new 36, 3) := by decide +kernel
theorem dX11_dale_3 : decode cX11_dale 3 = .ok (.dup, 1) := by decide +kernel
theorem dX11_dale_4 : decode cX11_dale 4 = .ok (.invokespecial 38, 3) := by decide +kernel
theorem dX11_dale_7 : decode cX11_dale 7 = .ok (.astore_n 1, 1) := by decide +kernel
theorem dX11_dale_8 : decode cX11_dale 8 = .ok (.aload_n 0, 1) := by decide +kernel
theorem dX11_dale_9 : decode cX11_dale 9 = .ok (.getfield 10, 3) := by decide +kernel
theorem dX11_dale_12 : decode cX11_dale 12 = .ok (.aload_n 1, 1) := by decide +kernel
theorem dX11_dale_13 : decode cX11_dale 13 = .ok (.invokestatic 119, 3) := by decide +kernel
theorem dX11_dale_16 : decode cX11_dale 16 = .ok (.istore_n 2, 1) := by decide +kernel
theorem dX11_dale_17 : decode cX11_dale 17 = .ok (.aload_n 0, 1) := by decide +kernel
theorem dX11_dale_18 : decode cX11_dale 18 = .ok (.getfield 10, 3) := by decide +kernel
theorem dX11_dale_21 : decode cX11_dale 21 = .ok (.iconst 0, 1) := by decide +kernel
theorem dX11_dale_22 : decode cX11_dale 22 = .ok (.putfield 112, 3) := by decide +kernel
theorem dX11_dale_25 : decode cX11_dale 25 = .ok (.iload_n 2, 1) := by decide +kernel
theorem dX11_dale_26 : decode cX11_dale 26 = .ok (.ifCond .ne 14, 3) := by decide +kernel
theorem dX11_dale_29 : decode cX11_dale 29 = .ok (.bipush (-2), 2) := by decide +kernel
theorem dX11_dale_31 : decode cX11_dale 31 = .ok (.aload_n 0, 1) := by decide +kernel
theorem dX11_dale_32 : decode cX11_dale 32 = .ok (.getfield 10, 3) := by decide +kernel
theorem dX11_dale_35 : decode cX11_dale 35 = .ok (.getfield 125, 3) := by decide +kernel
theorem dX11_dale_38 : decode cX11_dale 38 = .ok (.isub, 1) := by decide +kernel
theorem dX11_dale_39 : decode cX11_dale 39 = .ok (.ireturn, 1) := by decide +kernel
theorem dX11_dale_40 : decode cX11_dale 40 = .ok (.aload_n 0, 1) := by decide +kernel
theorem dX11_dale_41 : decode cX11_dale 41 = .ok (.aload_n 1, 1) := by decide +kernel
theorem dX11_dale_42 : decode cX11_dale 42 = .ok (.putfield 39, 3) := by decide +kernel
theorem dX11_dale_45 : decode cX11_dale 45 = .ok (.aload_n 0, 1) := by decide +kernel
theorem dX11_dale_46 : decode cX11_dale 46 = .ok (.getfield 46, 3) := by decide +kernel
theorem dX11_dale_49 : decode cX11_dale 49 = .ok (.aload_n 1, 1) := by decide +kernel
theorem dX11_dale_50 : decode cX11_dale 50 = .ok (.invokevirtual 128, 3) := by decide +kernel
theorem dX11_dale_53 : decode cX11_dale 53 = .ok (.aload_n 0, 1) := by decide +kernel
theorem dX11_dale_54 : decode cX11_dale 54 = .ok (.getfield 77, 3) := by decide +kernel
theorem dX11_dale_57 : decode cX11_dale 57 = .ok (.iconst 0, 1) := by decide +kernel
theorem dX11_dale_58 : decode cX11_dale 58 = .ok (.putfield 132, 3) := by decide +kernel
theorem dX11_dale_61 : decode cX11_dale 61 = .ok (.aload_n 0, 1) := by decide +kernel
theorem dX11_dale_62 : decode cX11_dale 62 = .ok (.iconst 0, 1) := by decide +kernel
theorem dX11_dale_63 : decode cX11_dale 63 = .ok (.putfield 97, 3) := by decide +kernel
theorem dX11_dale_66 : decode cX11_dale 66 = .ok (.aload_n 1, 1) := by decide +kernel
theorem dX11_dale_67 : decode cX11_dale 67 = .ok (.getfield 135, 3) := by decide +kernel
theorem dX11_dale_70 : decode cX11_dale 70 = .ok (.ireturn, 1) := by decide +kernel
theorem vc_X11_119 : XSw RX11 119 2 3 yX2_read cX2_read (some .boolean) := ⟨⟨by decide, by decide⟩, by decide +kernel, wt_393, wt_394, wt_12, wt_395⟩
noncomputable def bs_X11_dalet : List (Nat × XB) := [
  (8, (sq (xLA 0) (sq (xGS 10 9 1 0) (sq (xLA 1) (sq (xCI 99 2 F_X2_read) (sq (xSI 2) (sq (xLA 0) (sq (xGS 10 9 1 0) (sq (xC (.int 0)) (sq (xPI 9 1) (sq (xLI 2) (tIf1 (fun x => decide (¬ x = 0)) 40 [true, true, false] 29 [true, false, false])))))))))))),
  (29, (sq (xC (.int (-2))) (sq (xLA 0) (sq (xGS 10 9 1 0) (sq (xGI 9 5) (sq (xI2 (· - ·)) tRI)))))),
  (40, (sq (xLA 0) (sq (xLA 1) (sq (xPD 10 5 1) (sq (xLA 0) (sq (xGS 10 8 1 0) (sq (xLA 1) (sq (xCV 8 2 F_X9_begin) (sq (xLA 0) (sq (xGS 10 4 1 0) (sq (xC (.int 0)) (sq (xPI 4 0) (sq (xLA 0) (sq (xC (.int 0)) (sq (xPI 10 16) (sq (xLA 1) (sq (xGI 1 3) tRI)))))))))))))))))]
set_option maxRecDepth 100000 in
set_option maxHeartbeats 4000000 in
theorem s_X11_dalet (FR LO CE SL : Nat) (hFR : 8 ≤ FR) (hLO : 180 ≤ LO) : ∀ X : XCtx, XE X → X.2.2.1.1 = cX11_dale → X.2.2.1.2.1 = 3 → X.2.2.1.2.2.1 = yX11_dale.cls → X.2.2.1.2.2.2.1 = (some .int) → X.1.2.2.2.1 = { frames := FR, cells := CE, slots := SL, locals := LO } → SndBs X bs_X11_dalet := by
  rintro ⟨⟨p, l, e, R, s⟩, Y, ⟨cc, nL, own, ret, Ts⟩, Z⟩ hE h1 h2 h3 h4 h5
  dsimp only at h1 h2 h3 h4 h5
  subst h1 h2 h3 h4 h5
  exact ⟨(n_sq (n_aload_n hE dX11_dale_8) (n_sq (n_getS hE xk_10 (k := 0) rfl (by decide) rfl wt_316 dX11_dale_9) (n_sq (n_aload_n hE dX11_dale_12) (n_sq (n_cIs hE m_X2_read vc_X11_119 (show 7 + 1 ≤ FR ∧ 8 + (3 + 11) + 158 ≤ LO by omega) dX11_dale_13) (n_sq (n_istore_n hE (show (2 : Nat) < 3 by decide) dX11_dale_16) (n_sq (n_aload_n hE dX11_dale_17) (n_sq (n_getS hE xk_10 (k := 0) rfl (by decide) rfl wt_316 dX11_dale_18) (n_sq (n_iconst hE (by decide) dX11_dale_21) (n_sq (n_putI hE xk_9 (k := 1) rfl (by decide) rfl rfl (tyX10_ok 1 (by decide)) wt_38 dX11_dale_22) (n_sq (n_iload_n hE dX11_dale_25) (n_ifne hE (by decide) dX11_dale_26))))))))))),
    (n_sq (n_bipush hE (by decide) dX11_dale_29) (n_sq (n_aload_n hE dX11_dale_31) (n_sq (n_getS hE xk_10 (k := 0) rfl (by decide) rfl wt_316 dX11_dale_32) (n_sq (n_getI hE xk_9 (k := 5) rfl (by decide) rfl wt_49 dX11_dale_35) (n_sq (n_isub hE dX11_dale_38) (n_ireturn hE rfl dX11_dale_39)))))),
    (n_sq (n_aload_n hE dX11_dale_40) (n_sq (n_aload_n hE dX11_dale_41) (n_sq (n_putD hE xk_10 (k := 5) rfl (by decide) rfl rfl (tyX11_ok 5 (by decide)) wt_321 dX11_dale_42) (n_sq (n_aload_n hE dX11_dale_45) (n_sq (n_getS hE xk_10 (k := 6) rfl (by decide) rfl wt_322 dX11_dale_46) (n_sq (n_aload_n hE dX11_dale_49) (n_sq (n_cVv hE m_X9_begin vc_X11_128 (show 0 + 1 ≤ FR ∧ 8 + (3 + 11) + 0 ≤ LO by omega) dX11_dale_50) (n_sq (n_aload_n hE dX11_dale_53) (n_sq (n_getS hE xk_10 (k := 11) rfl (by decide) rfl wt_327 dX11_dale_54) (n_sq (n_iconst hE (by decide) dX11_dale_57) (n_sq (n_putI hE xk_4 (k := 0) rfl (by decide) rfl rfl (tyX5_ok 0 (by decide)) wt_266 dX11_dale_58) (n_sq (n_aload_n hE dX11_dale_61) (n_sq (n_iconst hE (by decide) dX11_dale_62) (n_sq (n_putI hE xk_10 (k := 16) rfl (by decide) rfl rfl (tyX11_ok 16 (by decide)) wt_332 dX11_dale_63) (n_sq (n_aload_n hE dX11_dale_66) (n_sq (n_getI hE xk_1 (k := 3) rfl (by decide) rfl wt_109 dX11_dale_67) (n_ireturn hE rfl dX11_dale_70))))))))))))))))), trivial⟩
noncomputable def q_X11_dalet_8 (i1 : Nat) (w : XW) : Option XR := ev bs_X11_dalet 8 ([some (.inr (10, 0)), some (.inr (1, i1)), none], [], w)
noncomputable def q_X11_dalet_29 (w : XW) : Option XR := ev bs_X11_dalet 29 ([some (.inr (10, 0)), none, none], [], w)
noncomputable def q_X11_dalet_40 (i1 : Nat) (w : XW) : Option XR := ev bs_X11_dalet 40 ([some (.inr (10, 0)), some (.inr (1, i1)), none], [], w)
theorem e_X11_dalet_8 (i1 : Nat) (w : XW) : q_X11_dalet_8 i1 w = ((F_X2_read [.inr (9, 0), .inr (1, i1)] w).bind fun r0 => (bif decide (¬ r0.1 = 0) then (q_X11_dalet_40 i1 (sI r0.2 9 0 1 0)) else (q_X11_dalet_29 (sI r0.2 9 0 1 0)))) := (ev_eq _ _ _).trans rfl
theorem e_X11_dalet_29 (w : XW) : q_X11_dalet_29 w = (some (some (.inl (.int ((-2) - (gI w 9 0 5)))), w)) := (ev_eq _ _ _).trans rfl
theorem e_X11_dalet_40 (i1 : Nat) (w : XW) : q_X11_dalet_40 i1 w = ((F_X9_begin [.inr (8, 0), .inr (1, i1)] (sR w 10 0 5 (some i1))).bind fun r0 => (some (some (.inl (.int (gI (sI (sI r0 4 0 0 0) 10 0 16 0) 1 i1 3))), sI (sI r0 4 0 0 0) 10 0 16 0))) := (ev_eq _ _ _).trans rfl
theorem dX11_rule_0 : decode cX11_rule 0 = .ok (.aload_n 0, 1) := by decide +kernel
theorem dX11_rule_1 : decode cX11_rule 1 = .ok (.getfield 29, 3) := by decide +kernel
theorem dX11_rule_4 : decode cX11_rule 4 = .ok (.bipush 6, 2) := by decide +kernel
theorem dX11_rule_6 : decode cX11_rule 6 = .ok (.if_icmp .lt 5, 3) := by decide +kernel
theorem dX11_rule_9 : decode cX11_rule 9 = .ok (.iconst (-1), 1) := by decide +kernel
theorem dX11_rule_10 : decode cX11_rule 10 = .ok (.ireturn, 1) := by decide +kernel
theorem dX11_rule_11 : decode cX11_rule 11 = .ok (.aload_n 0, 1) := by decide +kernel
theorem dX11_rule_12 : decode cX11_rule 12 = .ok (.getfield 19, 3) := by decide +kernel
theorem dX11_rule_15 : decode cX11_rule 15 = .ok (.aload_n 0, 1) := by decide +kernel
theorem dX11_rule_16 : decode cX11_rule 16 = .ok (.getfield 10, 3) := by decide +kernel
theorem dX11_rule_19 : decode cX11_rule 19 = .ok (.invokevirtual 138, 3) := by decide +kernel
theorem dX11_rule_22 : decode cX11_rule 22 = .ok (.istore_n 1, 1) := by decide +kernel
theorem dX11_rule_23 : decode cX11_rule 23 = .ok (.aload_n 0, 1) := by decide +kernel
theorem dX11_rule_24 : decode cX11_rule 24 = .ok (.getfield 10, 3) := by decide +kernel
theorem dX11_rule_27 : decode cX11_rule 27 = .ok (.iconst 0, 1) := by decide +kernel
theorem dX11_rule_28 : decode cX11_rule 28 = .ok (.putfield 112, 3) := by decide +kernel
theorem dX11_rule_31 : decode cX11_rule 31 = .ok (.iload_n 1, 1) := by decide +kernel
theorem dX11_rule_32 : decode cX11_rule 32 = .ok (.ifCond .ne 14, 3) := by decide +kernel
theorem dX11_rule_35 : decode cX11_rule 35 = .ok (.bipush (-2), 2) := by decide +kernel
theorem dX11_rule_37 : decode cX11_rule 37 = .ok (.aload_n 0, 1) := by decide +kernel
theorem dX11_rule_38 : decode cX11_rule 38 = .ok (.getfield 10, 3) := by decide +kernel
theorem dX11_rule_41 : decode cX11_rule 41 = .ok (.getfield 125, 3) := by decide +kernel
theorem dX11_rule_44 : decode cX11_rule 44 = .ok (.isub, 1) := by decide +kernel
theorem dX11_rule_45 : decode cX11_rule 45 = .ok (.ireturn, 1) := by decide +kernel
theorem dX11_rule_46 : decode cX11_rule 46 = .ok (.aload_n 0, 1) := by decide +kernel
theorem dX11_rule_47 : decode cX11_rule 47 = .ok (.getfield 25, 3) := by decide +kernel
theorem dX11_rule_50 : decode cX11_rule 50 = .ok (.aload_n 0, 1) := by decide +kernel
theorem dX11_rule_51 : decode cX11_rule 51 = .ok (.getfield 29, 3) := by decide +kernel
theorem dX11_rule_54 : decode cX11_rule 54 = .ok (.aload_n 0, 1) := by decide +kernel
theorem dX11_rule_55 : decode cX11_rule 55 = .ok (.getfield 19, 3) := by decide +kernel
theorem dX11_rule_58 : decode cX11_rule 58 = .ok (.invokevirtual 141, 3) := by decide +kernel
theorem dX11_rule_61 : decode cX11_rule 61 = .ok (.aastore, 1) := by decide +kernel
theorem dX11_rule_62 : decode cX11_rule 62 = .ok (.aload_n 0, 1) := by decide +kernel
theorem dX11_rule_63 : decode cX11_rule 63 = .ok (.dup, 1) := by decide +kernel
theorem dX11_rule_64 : decode cX11_rule 64 = .ok (.getfield 29, 3) := by decide +kernel
theorem dX11_rule_67 : decode cX11_rule 67 = .ok (.iconst 1, 1) := by decide +kernel
theorem dX11_rule_68 : decode cX11_rule 68 = .ok (.iadd, 1) := by decide +kernel
theorem dX11_rule_69 : decode cX11_rule 69 = .ok (.putfield 29, 3) := by decide +kernel
theorem dX11_rule_72 : decode cX11_rule 72 = .ok (.aload_n 0, 1) := by decide +kernel
theorem dX11_rule_73 : decode cX11_rule 73 = .ok (.getfield 29, 3) := by decide +kernel
theorem dX11_rule_76 : decode cX11_rule 76 = .ok (.iconst 1, 1) := by decide +kernel
theorem dX11_rule_77 : decode cX11_rule 77 = .ok (.isub, 1) := by decide +kernel
theorem dX11_rule_78 : decode cX11_rule 78 = .ok (.ireturn, 1) := by decide +kernel
theorem vc_X11_138 : XVw RX11 138 1 7 3 yX8_read cX8_read (some .boolean) := ⟨RX8, TX8, tyX8, 5, xk_7, rfl, ⟨by decide, by decide⟩, by decide +kernel, wt_509, wt_510, wt_511, wt_3, wt_512⟩
noncomputable def bs_X11_rulet : List (Nat × XB) := [
  (0, (sq (xLA 0) (sq (xGI 10 3) (sq (xC (.int 6)) (tIf2 (fun x y => decide (x < y)) 11 [true, false] 9 [false, false]))))),
  (9, (sq (xC (.int (-1))) tRI)),
  (11, (sq (xLA 0) (sq (xGS 10 7 1 0) (sq (xLA 0) (sq (xGS 10 9 1 0) (sq (xCI 7 2 F_X8_read) (sq (xSI 1) (sq (xLA 0) (sq (xGS 10 9 1 0) (sq (xC (.int 0)) (sq (xPI 9 1) (sq (xLI 1) (tIf1 (fun x => decide (¬ x = 0)) 46 [true, false] 35 [true, false]))))))))))))),
  (35, (sq (xC (.int (-2))) (sq (xLA 0) (sq (xGS 10 9 1 0) (sq (xGI 9 5) (sq (xI2 (· - ·)) tRI))))))]
set_option maxRecDepth 100000 in
set_option maxHeartbeats 4000000 in
theorem s_X11_rulet (FR LO CE SL : Nat) (hFR : 323 ≤ FR) (hLO : 7389 ≤ LO) : ∀ X : XCtx, XE X → X.2.2.1.1 = cX11_rule → X.2.2.1.2.1 = 2 → X.2.2.1.2.2.1 = yX11_rule.cls → X.2.2.1.2.2.2.1 = (some .int) → X.1.2.2.2.1 = { frames := FR, cells := CE, slots := SL, locals := LO } → SndBs X bs_X11_rulet := by
  rintro ⟨⟨p, l, e, R, s⟩, Y, ⟨cc, nL, own, ret, Ts⟩, Z⟩ hE h1 h2 h3 h4 h5
  dsimp only at h1 h2 h3 h4 h5
  subst h1 h2 h3 h4 h5
  exact ⟨(n_sq (n_aload_n hE dX11_rule_0) (n_sq (n_getI hE xk_10 (k := 3) rfl (by decide) rfl wt_319 dX11_rule_1) (n_sq (n_bipush hE (by decide) dX11_rule_4) (n_ifclt hE (by decide) dX11_rule_6)))),
    (n_sq (n_iconst hE (by decide) dX11_rule_9) (n_ireturn hE rfl dX11_rule_10)),
    (n_sq (n_aload_n hE dX11_rule_11) (n_sq (n_getS hE xk_10 (k := 1) rfl (by decide) rfl wt_317 dX11_rule_12) (n_sq (n_aload_n hE dX11_rule_15) (n_sq (n_getS hE xk_10 (k := 0) rfl (by decide) rfl wt_316 dX11_rule_16) (n_sq (n_cIv hE m_X8_read vc_X11_138 (show 322 + 1 ≤ FR ∧ 8 + (3 + 11) + 7367 ≤ LO by omega) dX11_rule_19) (n_sq (n_istore_n hE (show (1 : Nat) < 2 by decide) dX11_rule_22) (n_sq (n_aload_n hE dX11_rule_23) (n_sq (n_getS hE xk_10 (k := 0) rfl (by decide) rfl wt_316 dX11_rule_24) (n_sq (n_iconst hE (by decide) dX11_rule_27) (n_sq (n_putI hE xk_9 (k := 1) rfl (by decide) rfl rfl (tyX10_ok 1 (by decide)) wt_38 dX11_rule_28) (n_sq (n_iload_n hE dX11_rule_31) (n_ifne hE (by decide) dX11_rule_32)))))))))))),
    (n_sq (n_bipush hE (by decide) dX11_rule_35) (n_sq (n_aload_n hE dX11_rule_37) (n_sq (n_getS hE xk_10 (k := 0) rfl (by decide) rfl wt_316 dX11_rule_38) (n_sq (n_getI hE xk_9 (k := 5) rfl (by decide) rfl wt_49 dX11_rule_41) (n_sq (n_isub hE dX11_rule_44) (n_ireturn hE rfl dX11_rule_45)))))), trivial⟩
noncomputable def q_X11_rulet_0 (w : XW) : Option XR := ev bs_X11_rulet 0 ([some (.inr (10, 0)), none], [], w)
noncomputable def q_X11_rulet_9 (w : XW) : Option XR := ev bs_X11_rulet 9 ([none, none], [], w)
noncomputable def q_X11_rulet_11 (w : XW) : Option XR := ev bs_X11_rulet 11 ([some (.inr (10, 0)), none], [], w)
noncomputable def q_X11_rulet_35 (w : XW) : Option XR := ev bs_X11_rulet 35 ([some (.inr (10, 0)), none], [], w)
noncomputable def q_X11_rulet_46 (w : XW) : Option XR := ev bs_X11_rulet 46 ([some (.inr (10, 0)), none], [], w)
theorem e_X11_rulet_0 (w : XW) : q_X11_rulet_0 w = (bif decide ((gI w 10 0 3) < 6) then (q_X11_rulet_11 w) else (q_X11_rulet_9 w)) := (ev_eq _ _ _).trans rfl
theorem e_X11_rulet_9 (w : XW) : q_X11_rulet_9 w = (some (some (.inl (.int (-1))), w)) := (ev_eq _ _ _).trans rfl
theorem e_X11_rulet_11 (w : XW) : q_X11_rulet_11 w = ((F_X8_read [.inr (7, 0), .inr (9, 0)] w).bind fun r0 => (bif decide (¬ r0.1 = 0) then (q_X11_rulet_46 (sI r0.2 9 0 1 0)) else (q_X11_rulet_35 (sI r0.2 9 0 1 0)))) := (ev_eq _ _ _).trans rfl
theorem e_X11_rulet_35 (w : XW) : q_X11_rulet_35 w = (some (some (.inl (.int ((-2) - (gI w 9 0 5)))), w)) := (ev_eq _ _ _).trans rfl
theorem e_X11_rulet_46 (w : XW) : q_X11_rulet_46 w = none := (ev_eq _ _ _).trans rfl
