-- WinterKeep$DaleReader.readBeside(LWinterKeep$Tape;LWinterKeep$Dale;)Z
theorem dX2_readBeside_0 : decode cX2_readBeside 0 = .ok (.aload_n 0, 1) := by decide +kernel
theorem dX2_readBeside_1 : decode cX2_readBeside 1 = .ok (.iconst 0, 1) := by decide +kernel
theorem dX2_readBeside_2 : decode cX2_readBeside 2 = .ok (.aload_n 1, 1) := by decide +kernel
theorem dX2_readBeside_3 : decode cX2_readBeside 3 = .ok (.getfield 65, 3) := by decide +kernel
theorem dX2_readBeside_6 : decode cX2_readBeside 6 = .ok (.iconst 1, 1) := by decide +kernel
theorem dX2_readBeside_7 : decode cX2_readBeside 7 = .ok (.isub, 1) := by decide +kernel
theorem dX2_readBeside_8 : decode cX2_readBeside 8 = .ok (.invokevirtual 76, 3) := by decide +kernel
theorem dX2_readBeside_11 : decode cX2_readBeside 11 = .ok (.ifCond .ne 5, 3) := by decide +kernel
theorem dX2_readBeside_14 : decode cX2_readBeside 14 = .ok (.iconst 0, 1) := by decide +kernel
theorem dX2_readBeside_15 : decode cX2_readBeside 15 = .ok (.ireturn, 1) := by decide +kernel
theorem dX2_readBeside_16 : decode cX2_readBeside 16 = .ok (.aload_n 0, 1) := by decide +kernel
theorem dX2_readBeside_17 : decode cX2_readBeside 17 = .ok (.getfield 79, 3) := by decide +kernel
theorem dX2_readBeside_20 : decode cX2_readBeside 20 = .ok (.istore_n 2, 1) := by decide +kernel
theorem dX2_readBeside_21 : decode cX2_readBeside 21 = .ok (.aload_n 0, 1) := by decide +kernel
theorem dX2_readBeside_22 : decode cX2_readBeside 22 = .ok (.iconst 0, 1) := by decide +kernel
theorem dX2_readBeside_23 : decode cX2_readBeside 23 = .ok (.aload_n 1, 1) := by decide +kernel
theorem dX2_readBeside_24 : decode cX2_readBeside 24 = .ok (.getfield 65, 3) := by decide +kernel
theorem dX2_readBeside_27 : decode cX2_readBeside 27 = .ok (.iconst 1, 1) := by decide +kernel
theorem dX2_readBeside_28 : decode cX2_readBeside 28 = .ok (.isub, 1) := by decide +kernel
theorem dX2_readBeside_29 : decode cX2_readBeside 29 = .ok (.invokevirtual 76, 3) := by decide +kernel
theorem dX2_readBeside_32 : decode cX2_readBeside 32 = .ok (.ifCond .ne 5, 3) := by decide +kernel
theorem dX2_readBeside_35 : decode cX2_readBeside 35 = .ok (.iconst 0, 1) := by decide +kernel
theorem dX2_readBeside_36 : decode cX2_readBeside 36 = .ok (.ireturn, 1) := by decide +kernel
theorem dX2_readBeside_37 : decode cX2_readBeside 37 = .ok (.aload_n 0, 1) := by decide +kernel
theorem dX2_readBeside_38 : decode cX2_readBeside 38 = .ok (.getfield 79, 3) := by decide +kernel
theorem dX2_readBeside_41 : decode cX2_readBeside 41 = .ok (.istore_n 3, 1) := by decide +kernel
theorem dX2_readBeside_42 : decode cX2_readBeside 42 = .ok (.iload_n 2, 1) := by decide +kernel
theorem dX2_readBeside_43 : decode cX2_readBeside 43 = .ok (.iload_n 3, 1) := by decide +kernel
theorem dX2_readBeside_44 : decode cX2_readBeside 44 = .ok (.if_icmp .ne 13, 3) := by decide +kernel
theorem dX2_readBeside_47 : decode cX2_readBeside 47 = .ok (.aload_n 0, 1) := by decide +kernel
theorem dX2_readBeside_48 : decode cX2_readBeside 48 = .ok (.aload_n 0, 1) := by decide +kernel
theorem dX2_readBeside_49 : decode cX2_readBeside 49 = .ok (.getfield 46, 3) := by decide +kernel
theorem dX2_readBeside_52 : decode cX2_readBeside 52 = .ok (.iconst 1, 1) := by decide +kernel
theorem dX2_readBeside_53 : decode cX2_readBeside 53 = .ok (.invokevirtual 38, 3) := by decide +kernel
theorem dX2_readBeside_56 : decode cX2_readBeside 56 = .ok (.ireturn, 1) := by decide +kernel
theorem dX2_readBeside_57 : decode cX2_readBeside 57 = .ok (.aload_n 1, 1) := by decide +kernel
theorem dX2_readBeside_58 : decode cX2_readBeside 58 = .ok (.getfield 108, 3) := by decide +kernel
theorem dX2_readBeside_61 : decode cX2_readBeside 61 = .ok (.iload_n 2, 1) := by decide +kernel
theorem dX2_readBeside_62 : decode cX2_readBeside 62 = .ok (.dup2, 1) := by decide +kernel
theorem dX2_readBeside_63 : decode cX2_readBeside 63 = .ok (.iaload, 1) := by decide +kernel
theorem dX2_readBeside_64 : decode cX2_readBeside 64 = .ok (.iconst 1, 1) := by decide +kernel
theorem dX2_readBeside_65 : decode cX2_readBeside 65 = .ok (.iload_n 3, 1) := by decide +kernel
theorem dX2_readBeside_66 : decode cX2_readBeside 66 = .ok (.ishl, 1) := by decide +kernel
theorem dX2_readBeside_67 : decode cX2_readBeside 67 = .ok (.ior, 1) := by decide +kernel
theorem dX2_readBeside_68 : decode cX2_readBeside 68 = .ok (.iastore, 1) := by decide +kernel
theorem dX2_readBeside_69 : decode cX2_readBeside 69 = .ok (.aload_n 1, 1) := by decide +kernel
theorem dX2_readBeside_70 : decode cX2_readBeside 70 = .ok (.getfield 108, 3) := by decide +kernel
theorem dX2_readBeside_73 : decode cX2_readBeside 73 = .ok (.iload_n 3, 1) := by decide +kernel
theorem dX2_readBeside_74 : decode cX2_readBeside 74 = .ok (.dup2, 1) := by decide +kernel
theorem dX2_readBeside_75 : decode cX2_readBeside 75 = .ok (.iaload, 1) := by decide +kernel
theorem dX2_readBeside_76 : decode cX2_readBeside 76 = .ok (.iconst 1, 1) := by decide +kernel
theorem dX2_readBeside_77 : decode cX2_readBeside 77 = .ok (.iload_n 2, 1) := by decide +kernel
theorem dX2_readBeside_78 : decode cX2_readBeside 78 = .ok (.ishl, 1) := by decide +kernel
theorem dX2_readBeside_79 : decode cX2_readBeside 79 = .ok (.ior, 1) := by decide +kernel
theorem dX2_readBeside_80 : decode cX2_readBeside 80 = .ok (.iastore, 1) := by decide +kernel
theorem dX2_readBeside_81 : decode cX2_readBeside 81 = .ok (.iconst 1, 1) := by decide +kernel
theorem dX2_readBeside_82 : decode cX2_readBeside 82 = .ok (.ireturn, 1) := by decide +kernel
theorem vc_X2_38 : XVw RX2 38 2 9 3 yX10_fail cX10_fail (some .boolean) := ⟨RX10, TX10, tyX10, 6, xk_9, rfl, ⟨by decide, by decide⟩, by decide +kernel, wt_468, wt_469, wt_470, wt_2, wt_471⟩
noncomputable def bs_X2_readBeside : List (Nat × XB) := [
  (0, (sq (xLA 0) (sq (xC (.int 0)) (sq (xLA 1) (sq (xGI 1 3) (sq (xC (.int 1)) (sq (xI2 (· - ·)) (sq (xCI 9 3 F_X10_passNumber) (tIf1 (fun x => decide (¬ x = 0)) 16 [true, true, false, false] 14 [false, false, false, false]))))))))),
  (14, (sq (xC (.int 0)) tRZ)),
  (16, (sq (xLA 0) (sq (xGI 9 4) (sq (xSI 2) (sq (xLA 0) (sq (xC (.int 0)) (sq (xLA 1) (sq (xGI 1 3) (sq (xC (.int 1)) (sq (xI2 (· - ·)) (sq (xCI 9 3 F_X10_passNumber) (tIf1 (fun x => decide (¬ x = 0)) 37 [true, true, true, false] 35 [false, false, false, false])))))))))))),
  (35, (sq (xC (.int 0)) tRZ)),
  (37, (sq (xLA 0) (sq (xGI 9 4) (sq (xSI 3) (sq (xLI 2) (sq (xLI 3) (tIf2 (fun x y => decide (¬ x = y)) 57 [false, true, true, true] 47 [true, false, false, false]))))))),
  (47, (sq (xLA 0) (sq (xLA 0) (sq (xGI 9 3) (sq (xC (.int 1)) (sq (xCI 9 3 F_X10_fail) tRZ)))))),
  (57, (sq (xLA 1) (sq (xGS 1 15 0 0) (sq (xLI 2) (sq (xDup2) (sq (xAI 15 6) (sq (xC (.int 1)) (sq (xLI 3) (sq (xI2 (fun x y => x <<< (y &&& 31))) (sq (xI2 (· ||| ·)) (sq (xTI 15 6 (fun x => x)) (sq (xLA 1) (sq (xGS 1 15 0 0) (sq (xLI 3) (sq (xDup2) (sq (xAI 15 6) (sq (xC (.int 1)) (sq (xLI 2) (sq (xI2 (fun x y => x <<< (y &&& 31))) (sq (xI2 (· ||| ·)) (sq (xTI 15 6 (fun x => x)) (sq (xC (.int 1)) tRZ))))))))))))))))))))))]
set_option maxRecDepth 100000 in
set_option maxHeartbeats 4000000 in
theorem s_X2_readBeside : ∀ X : XCtx, XE X → X.2.2.1.1 = cX2_readBeside → X.2.2.1.2.1 = 4 → X.2.2.1.2.2.1 = yX2_readBeside.cls → X.2.2.1.2.2.2.1 = (some .boolean) → X.1.2.2.2.1 = { frames := 3, cells := 0, slots := 0, locals := 63 } → SndBs X bs_X2_readBeside := by
  rintro ⟨⟨p, l, e, R, s⟩, Y, ⟨cc, nL, own, ret, Ts⟩, Z⟩ hE h1 h2 h3 h4 h5
  dsimp only at h1 h2 h3 h4 h5
  subst h1 h2 h3 h4 h5
  exact ⟨(n_sq (n_aload_n hE dX2_readBeside_0) (n_sq (n_iconst hE (by decide) dX2_readBeside_1) (n_sq (n_aload_n hE dX2_readBeside_2) (n_sq (n_getI hE xk_1 (k := 3) rfl (by decide) rfl wt_108 dX2_readBeside_3) (n_sq (n_iconst hE (by decide) dX2_readBeside_6) (n_sq (n_isub hE dX2_readBeside_7) (n_sq (n_cIv hE m_X10_passNumber vc_X2_76 (show 2 + 1 ≤ 3 ∧ 8 + (3 + 11) + 41 ≤ 63 by decide) dX2_readBeside_8) (n_ifne hE (by decide) dX2_readBeside_11)))))))),
    (n_sq (n_iconst hE (by decide) dX2_readBeside_14) (n_zreturn hE rfl dX2_readBeside_15)),
    (n_sq (n_aload_n hE dX2_readBeside_16) (n_sq (n_getI hE xk_9 (k := 4) rfl (by decide) rfl wt_46 dX2_readBeside_17) (n_sq (n_istore_n hE (show (2 : Nat) < 4 by decide) dX2_readBeside_20) (n_sq (n_aload_n hE dX2_readBeside_21) (n_sq (n_iconst hE (by decide) dX2_readBeside_22) (n_sq (n_aload_n hE dX2_readBeside_23) (n_sq (n_getI hE xk_1 (k := 3) rfl (by decide) rfl wt_108 dX2_readBeside_24) (n_sq (n_iconst hE (by decide) dX2_readBeside_27) (n_sq (n_isub hE dX2_readBeside_28) (n_sq (n_cIv hE m_X10_passNumber vc_X2_76 (show 2 + 1 ≤ 3 ∧ 8 + (3 + 11) + 41 ≤ 63 by decide) dX2_readBeside_29) (n_ifne hE (by decide) dX2_readBeside_32))))))))))),
    (n_sq (n_iconst hE (by decide) dX2_readBeside_35) (n_zreturn hE rfl dX2_readBeside_36)),
    (n_sq (n_aload_n hE dX2_readBeside_37) (n_sq (n_getI hE xk_9 (k := 4) rfl (by decide) rfl wt_46 dX2_readBeside_38) (n_sq (n_istore_n hE (show (3 : Nat) < 4 by decide) dX2_readBeside_41) (n_sq (n_iload_n hE dX2_readBeside_42) (n_sq (n_iload_n hE dX2_readBeside_43) (n_ifcne hE (by decide) dX2_readBeside_44)))))),
    (n_sq (n_aload_n hE dX2_readBeside_47) (n_sq (n_aload_n hE dX2_readBeside_48) (n_sq (n_getI hE xk_9 (k := 3) rfl (by decide) rfl wt_43 dX2_readBeside_49) (n_sq (n_iconst hE (by decide) dX2_readBeside_52) (n_sq (n_cIv hE m_X10_fail vc_X2_38 (show 0 + 1 ≤ 3 ∧ 8 + (3 + 11) + 0 ≤ 63 by decide) dX2_readBeside_53) (n_zreturn hE rfl dX2_readBeside_56)))))),
    (n_sq (n_aload_n hE dX2_readBeside_57) (n_sq (n_getS hE xk_1 (k := 8) rfl (by decide) rfl wt_129 dX2_readBeside_58) (n_sq (n_iload_n hE dX2_readBeside_61) (n_sq (n_dup2 hE dX2_readBeside_62) (n_sq (n_iald hE rfl (by decide) dX2_readBeside_63) (n_sq (n_iconst hE (by decide) dX2_readBeside_64) (n_sq (n_iload_n hE dX2_readBeside_65) (n_sq (n_ishl hE dX2_readBeside_66) (n_sq (n_ior hE dX2_readBeside_67) (n_sq (n_iast hE rfl (by decide) dX2_readBeside_68) (n_sq (n_aload_n hE dX2_readBeside_69) (n_sq (n_getS hE xk_1 (k := 8) rfl (by decide) rfl wt_129 dX2_readBeside_70) (n_sq (n_iload_n hE dX2_readBeside_73) (n_sq (n_dup2 hE dX2_readBeside_74) (n_sq (n_iald hE rfl (by decide) dX2_readBeside_75) (n_sq (n_iconst hE (by decide) dX2_readBeside_76) (n_sq (n_iload_n hE dX2_readBeside_77) (n_sq (n_ishl hE dX2_readBeside_78) (n_sq (n_ior hE dX2_readBeside_79) (n_sq (n_iast hE rfl (by decide) dX2_readBeside_80) (n_sq (n_iconst hE (by decide) dX2_readBeside_81) (n_zreturn hE rfl dX2_readBeside_82)))))))))))))))))))))), trivial⟩
noncomputable def F_X2_readBeside (as : List XV) (w : XW) : Option (Int32 × XW) := (xF 4 bs_X2_readBeside as w).bind pI
theorem m_X2_readBeside : XM yX2_readBeside cX2_readBeside 4 (some .boolean) 3 63 (eI F_X2_readBeside) := xm_I (xm_of (by decide) s_X2_readBeside)
noncomputable def q_X2_readBeside_0 (i1 : Nat) (w : XW) : Option XR := ev bs_X2_readBeside 0 ([some (.inr (9, 0)), some (.inr (1, i1)), none, none], [], w)
noncomputable def q_X2_readBeside_14 (w : XW) : Option XR := ev bs_X2_readBeside 14 ([none, none, none, none], [], w)
noncomputable def q_X2_readBeside_16 (i1 : Nat) (w : XW) : Option XR := ev bs_X2_readBeside 16 ([some (.inr (9, 0)), some (.inr (1, i1)), none, none], [], w)
noncomputable def q_X2_readBeside_35 (w : XW) : Option XR := ev bs_X2_readBeside 35 ([none, none, none, none], [], w)
noncomputable def q_X2_readBeside_37 (i1 : Nat) (x2 : Int32) (w : XW) : Option XR := ev bs_X2_readBeside 37 ([some (.inr (9, 0)), some (.inr (1, i1)), some (.inl (.int x2)), none], [], w)
noncomputable def q_X2_readBeside_47 (w : XW) : Option XR := ev bs_X2_readBeside 47 ([some (.inr (9, 0)), none, none, none], [], w)
noncomputable def q_X2_readBeside_57 (i1 : Nat) (x2 : Int32) (x3 : Int32) (w : XW) : Option XR := ev bs_X2_readBeside 57 ([none, some (.inr (1, i1)), some (.inl (.int x2)), some (.inl (.int x3))], [], w)
theorem e_X2_readBeside_0 (i1 : Nat) (w : XW) : q_X2_readBeside_0 i1 w = ((F_X10_passNumber [.inr (9, 0), .inl (.int 0), .inl (.int ((gI w 1 i1 3) - 1))] w).bind fun r0 => (bif decide (¬ r0.1 = 0) then (q_X2_readBeside_16 i1 r0.2) else (q_X2_readBeside_14 r0.2))) := (ev_eq _ _ _).trans rfl
theorem e_X2_readBeside_14 (w : XW) : q_X2_readBeside_14 w = (some (some (.inl (.int 0)), w)) := (ev_eq _ _ _).trans rfl
theorem e_X2_readBeside_16 (i1 : Nat) (w : XW) : q_X2_readBeside_16 i1 w = ((F_X10_passNumber [.inr (9, 0), .inl (.int 0), .inl (.int ((gI w 1 i1 3) - 1))] w).bind fun r0 => (bif decide (¬ r0.1 = 0) then (q_X2_readBeside_37 i1 (gI w 9 0 4) r0.2) else (q_X2_readBeside_35 r0.2))) := (ev_eq _ _ _).trans rfl
theorem e_X2_readBeside_35 (w : XW) : q_X2_readBeside_35 w = (some (some (.inl (.int 0)), w)) := (ev_eq _ _ _).trans rfl
theorem e_X2_readBeside_37 (i1 : Nat) (x2 : Int32) (w : XW) : q_X2_readBeside_37 i1 x2 w = (bif decide (¬ x2 = (gI w 9 0 4)) then (q_X2_readBeside_57 i1 x2 (gI w 9 0 4) w) else (q_X2_readBeside_47 w)) := (ev_eq _ _ _).trans rfl
theorem e_X2_readBeside_47 (w : XW) : q_X2_readBeside_47 w = ((F_X10_fail [.inr (9, 0), .inl (.int (gI w 9 0 3)), .inl (.int 1)] w).bind fun r0 => (if r0.1 = 0 ∨ r0.1 = 1 then some (some (.inl (.int r0.1)), r0.2) else none)) := (ev_eq _ _ _).trans rfl
theorem e_X2_readBeside_57 (i1 : Nat) (x2 : Int32) (x3 : Int32) (w : XW) : q_X2_readBeside_57 i1 x2 x3 w = (if x2 < 0 ∨ 6 ≤ x2.toNatClampNeg then none else (if x2 < 0 ∨ 6 ≤ x2.toNatClampNeg then none else (if x3 < 0 ∨ 6 ≤ x3.toNatClampNeg then none else (if x3 < 0 ∨ 6 ≤ x3.toNatClampNeg then none else (some (some (.inl (.int 1)), sI (sI w 15 i1 x2.toNatClampNeg ((gI w 15 i1 x2.toNatClampNeg) ||| ((1 : Int32) <<< ((x3 : Int32) &&& 31)))) 15 i1 x3.toNatClampNeg ((gI (sI w 15 i1 x2.toNatClampNeg ((gI w 15 i1 x2.toNatClampNeg) ||| ((1 : Int32) <<< ((x3 : Int32) &&& 31)))) 15 i1 x3.toNatClampNeg) ||| ((1 : Int32) <<< ((x2 : Int32) &&& 31))))))))) := (ev_eq _ _ _).trans rfl
theorem f_X2_readBeside (i1 : Nat) (w : XW) : F_X2_readBeside [.inr (9, 0), .inr (1, i1)] w = (q_X2_readBeside_0 i1 w).bind pI := rfl

-- WinterKeep$DaleReader.readClause(LWinterKeep$Tape;LWinterKeep$Dale;I)Z
theorem dX2_readClause_0 : decode cX2_readClause 0 = .ok (.aload_n 0, 1) := by decide +kernel
theorem dX2_readClause_1 : decode cX2_readClause 1 = .ok (.ldc 28, 2) := by decide +kernel
theorem dX2_readClause_3 : decode cX2_readClause 3 = .ok (.invokevirtual 30, 3) := by decide +kernel
theorem dX2_readClause_6 : decode cX2_readClause 6 = .ok (.istore_n 3, 1) := by decide +kernel
theorem dX2_readClause_7 : decode cX2_readClause 7 = .ok (.iload_n 3, 1) := by decide +kernel
theorem dX2_readClause_8 : decode cX2_readClause 8 = .ok (.iconst (-1), 1) := by decide +kernel
theorem dX2_readClause_9 : decode cX2_readClause 9 = .ok (.if_icmp .ne 13, 3) := by decide +kernel
theorem dX2_readClause_12 : decode cX2_readClause 12 = .ok (.aload_n 0, 1) := by decide +kernel
theorem dX2_readClause_13 : decode cX2_readClause 13 = .ok (.aload_n 0, 1) := by decide +kernel
theorem dX2_readClause_14 : decode cX2_readClause 14 = .ok (.getfield 34, 3) := by decide +kernel
theorem dX2_readClause_17 : decode cX2_readClause 17 = .ok (.iconst 0, 1) := by decide +kernel
theorem dX2_readClause_18 : decode cX2_readClause 18 = .ok (.invokevirtual 38, 3) := by decide +kernel
theorem dX2_readClause_21 : decode cX2_readClause 21 = .ok (.ireturn, 1) := by decide +kernel
theorem dX2_readClause_22 : decode cX2_readClause 22 = .ok (.iload_n 2, 1) := by decide +kernel
theorem dX2_readClause_23 : decode cX2_readClause 23 = .ok (.bipush 40, 2) := by decide +kernel
theorem dX2_readClause_25 : decode cX2_readClause 25 = .ok (.if_icmp .ge 32, 3) := by decide +kernel
theorem dX2_readClause_28 : decode cX2_readClause 28 = .ok (.iload_n 2, 1) := by decide +kernel
theorem dX2_readClause_29 : decode cX2_readClause 29 = .ok (.ifCond .ne 7, 3) := by decide +kernel
theorem dX2_readClause_32 : decode cX2_readClause 32 = .ok (.iconst 1, 1) := by decide +kernel
theorem dX2_readClause_33 : decode cX2_readClause 33 = .ok (.goto 4, 3) := by decide +kernel
theorem dX2_readClause_36 : decode cX2_readClause 36 = .ok (.iconst 0, 1) := by decide +kernel
theorem dX2_readClause_37 : decode cX2_readClause 37 = .ok (.iload_n 3, 1) := by decide +kernel
theorem dX2_readClause_38 : decode cX2_readClause 38 = .ok (.ifCond .ne 7, 3) := by decide +kernel
theorem dX2_readClause_41 : decode cX2_readClause 41 = .ok (.iconst 1, 1) := by decide +kernel
theorem dX2_readClause_42 : decode cX2_readClause 42 = .ok (.goto 4, 3) := by decide +kernel
theorem dX2_readClause_45 : decode cX2_readClause 45 = .ok (.iconst 0, 1) := by decide +kernel
theorem dX2_readClause_46 : decode cX2_readClause 46 = .ok (.if_icmp .ne 11, 3) := by decide +kernel
theorem dX2_readClause_49 : decode cX2_readClause 49 = .ok (.aload_n 1, 1) := by decide +kernel
theorem dX2_readClause_50 : decode cX2_readClause 50 = .ok (.iload_n 3, 1) := by decide +kernel
theorem dX2_readClause_51 : decode cX2_readClause 51 = .ok (.invokestatic 42, 3) := by decide +kernel
theorem dX2_readClause_54 : decode cX2_readClause 54 = .ok (.ifCond .ne 13, 3) := by decide +kernel
theorem dX2_readClause_57 : decode cX2_readClause 57 = .ok (.aload_n 0, 1) := by decide +kernel
theorem dX2_readClause_58 : decode cX2_readClause 58 = .ok (.aload_n 0, 1) := by decide +kernel
theorem dX2_readClause_59 : decode cX2_readClause 59 = .ok (.getfield 46, 3) := by decide +kernel
theorem dX2_readClause_62 : decode cX2_readClause 62 = .ok (.iconst 4, 1) := by decide +kernel
theorem dX2_readClause_63 : decode cX2_readClause 63 = .ok (.invokevirtual 38, 3) := by decide +kernel
theorem dX2_readClause_66 : decode cX2_readClause 66 = .ok (.ireturn, 1) := by decide +kernel
theorem dX2_readClause_67 : decode cX2_readClause 67 = .ok (.iload_n 3, 1) := by decide +kernel
theorem dX2_readClause_68 : decode cX2_readClause 68 = .ok (.tableswitch 56 0 3 #[32, 38, 44, 50], 32) := by decide +kernel
theorem dX2_readClause_100 : decode cX2_readClause 100 = .ok (.aload_n 0, 1) := by decide +kernel
theorem dX2_readClause_101 : decode cX2_readClause 101 = .ok (.aload_n 1, 1) := by decide +kernel
theorem dX2_readClause_102 : decode cX2_readClause 102 = .ok (.invokestatic 49, 3) := by decide +kernel
theorem dX2_readClause_105 : decode cX2_readClause 105 = .ok (.ireturn, 1) := by decide +kernel
theorem dX2_readClause_106 : decode cX2_readClause 106 = .ok (.aload_n 0, 1) := by decide +kernel
theorem dX2_readClause_107 : decode cX2_readClause 107 = .ok (.aload_n 1, 1) := by decide +kernel
theorem dX2_readClause_108 : decode cX2_readClause 108 = .ok (.invokestatic 53, 3) := by decide +kernel
theorem dX2_readClause_111 : decode cX2_readClause 111 = .ok (.ireturn, 1) := by decide +kernel
theorem dX2_readClause_112 : decode cX2_readClause 112 = .ok (.aload_n 0, 1) := by decide +kernel
theorem dX2_readClause_113 : decode cX2_readClause 113 = .ok (.aload_n 1, 1) := by decide +kernel
theorem dX2_readClause_114 : decode cX2_readClause 114 = .ok (.invokestatic 56, 3) := by decide +kernel
theorem dX2_readClause_117 : decode cX2_readClause 117 = .ok (.ireturn, 1) := by decide +kernel
theorem dX2_readClause_118 : decode cX2_readClause 118 = .ok (.aload_n 0, 1) := by decide +kernel
theorem dX2_readClause_119 : decode cX2_readClause 119 = .ok (.aload_n 1, 1) := by decide +kernel
theorem dX2_readClause_120 : decode cX2_readClause 120 = .ok (.invokestatic 59, 3) := by decide +kernel
theorem dX2_readClause_123 : decode cX2_readClause 123 = .ok (.ireturn, 1) := by decide +kernel
theorem dX2_readClause_124 : decode cX2_readClause 124 = .ok (.aload_n 0, 1) := by decide +kernel
theorem dX2_readClause_125 : decode cX2_readClause 125 = .ok (.aload_n 1, 1) := by decide +kernel
theorem dX2_readClause_126 : decode cX2_readClause 126 = .ok (.invokestatic 62, 3) := by decide +kernel
theorem dX2_readClause_129 : decode cX2_readClause 129 = .ok (.ireturn, 1) := by decide +kernel
theorem vc_X2_30 : XVw RX2 30 1 9 6 yX10_passWord cX10_passWord (some .int) := ⟨RX10, TX10, tyX10, 6, xk_9, rfl, ⟨by decide, by decide⟩, by decide +kernel, wt_404, wt_405, wt_406, wt_2, wt_407⟩
theorem vc_X2_42 : XSw RX2 42 2 2 yX2_hasRoomFor cX2_hasRoomFor (some .boolean) := ⟨⟨by decide, by decide⟩, by decide +kernel, wt_472, wt_473, wt_12, wt_474⟩
theorem vc_X2_49 : XSw RX2 49 2 2 yX2_readDale cX2_readDale (some .boolean) := ⟨⟨by decide, by decide⟩, by decide +kernel, wt_475, wt_476, wt_12, wt_477⟩
theorem vc_X2_53 : XSw RX2 53 2 2 yX2_readKeep cX2_readKeep (some .boolean) := ⟨⟨by decide, by decide⟩, by decide +kernel, wt_483, wt_484, wt_12, wt_485⟩
theorem vc_X2_56 : XSw RX2 56 2 2 yX2_readPerson cX2_readPerson (some .boolean) := ⟨⟨by decide, by decide⟩, by decide +kernel, wt_486, wt_487, wt_12, wt_488⟩
theorem vc_X2_59 : XSw RX2 59 2 2 yX2_readField cX2_readField (some .boolean) := ⟨⟨by decide, by decide⟩, by decide +kernel, wt_489, wt_490, wt_12, wt_491⟩
theorem vc_X2_62 : XSw RX2 62 2 4 yX2_readBeside cX2_readBeside (some .boolean) := ⟨⟨by decide, by decide⟩, by decide +kernel, wt_492, wt_493, wt_12, wt_494⟩
noncomputable def bs_X2_readClause : List (Nat × XB) := [
  (0, (sq (xLA 0) (sq (xStr 0) (sq (xCI 9 2 F_X10_passWord) (sq (xSI 3) (sq (xLI 3) (sq (xC (.int (-1))) (tIf2 (fun x y => decide (¬ x = y)) 22 [true, true, true, true] 12 [true, false, false, false])))))))),
  (12, (sq (xLA 0) (sq (xLA 0) (sq (xGI 9 2) (sq (xC (.int 0)) (sq (xCI 9 3 F_X10_fail) tRZ)))))),
  (22, (sq (xLI 2) (sq (xC (.int 40)) (tIf2 (fun x y => decide (y ≤ x)) 57 [true, false, false, false] 28 [true, true, true, true])))),
  (28, (sq (xLI 2) (tIf1 (fun x => decide (¬ x = 0)) 36 [true, true, false, true] 32 [true, true, false, true]))),
  (32, (sq (xC (.int 1)) (tGo 37 [true, true, false, true]))),
  (36, (sq (xC (.int 0)) (tGo 37 [true, true, false, true]))),
  (37, (sq (xLI 3) (tIf1 (fun x => decide (¬ x = 0)) 45 [true, true, false, true] 41 [true, true, false, true]))),
  (41, (sq (xC (.int 1)) (tGo 46 [true, true, false, true]))),
  (45, (sq (xC (.int 0)) (tGo 46 [true, true, false, true]))),
  (46, (tIf2 (fun x y => decide (¬ x = y)) 57 [true, false, false, false] 49 [true, true, false, true])),
  (49, (sq (xLA 1) (sq (xLI 3) (sq (xCI 99 2 F_X2_hasRoomFor) (tIf1 (fun x => decide (¬ x = 0)) 67 [true, true, false, true] 57 [true, false, false, false]))))),
  (57, (sq (xLA 0) (sq (xLA 0) (sq (xGI 9 3) (sq (xC (.int 4)) (sq (xCI 9 3 F_X10_fail) tRZ)))))),
  (67, (sq (xLI 3) (tSw [(0, 100), (1, 106), (2, 112), (3, 118)] 124 [true, true, false, false]))),
  (100, (sq (xLA 0) (sq (xLA 1) (sq (xCI 99 2 F_X2_readDale) tRZ)))),
  (106, (sq (xLA 0) (sq (xLA 1) (sq (xCI 99 2 F_X2_readKeep) tRZ)))),
  (112, (sq (xLA 0) (sq (xLA 1) (sq (xCI 99 2 F_X2_readPerson) tRZ)))),
  (118, (sq (xLA 0) (sq (xLA 1) (sq (xCI 99 2 F_X2_readField) tRZ)))),
  (124, (sq (xLA 0) (sq (xLA 1) (sq (xCI 99 2 F_X2_readBeside) tRZ))))]
set_option maxRecDepth 100000 in
set_option maxHeartbeats 4000000 in
theorem s_X2_readClause : ∀ X : XCtx, XE X → X.2.2.1.1 = cX2_readClause → X.2.2.1.2.1 = 4 → X.2.2.1.2.2.1 = yX2_readClause.cls → X.2.2.1.2.2.2.1 = (some .boolean) → X.1.2.2.2.1 = { frames := 6, cells := 0, slots := 0, locals := 135 } → SndBs X bs_X2_readClause := by
  rintro ⟨⟨p, l, e, R, s⟩, Y, ⟨cc, nL, own, ret, Ts⟩, Z⟩ hE h1 h2 h3 h4 h5
  dsimp only at h1 h2 h3 h4 h5
  subst h1 h2 h3 h4 h5
  exact ⟨(n_sq (n_aload_n hE dX2_readClause_0) (n_sq (n_ldcS hE rfl (by decide) dX2_readClause_1) (n_sq (n_cIv hE m_X10_passWord vc_X2_30 (show 5 + 1 ≤ 6 ∧ 8 + (6 + 11) + 110 ≤ 135 by decide) dX2_readClause_3) (n_sq (n_istore_n hE (show (3 : Nat) < 4 by decide) dX2_readClause_6) (n_sq (n_iload_n hE dX2_readClause_7) (n_sq (n_iconst hE (by decide) dX2_readClause_8) (n_ifcne hE (by decide) dX2_readClause_9))))))),
    (n_sq (n_aload_n hE dX2_readClause_12) (n_sq (n_aload_n hE dX2_readClause_13) (n_sq (n_getI hE xk_9 (k := 2) rfl (by decide) rfl wt_40 dX2_readClause_14) (n_sq (n_iconst hE (by decide) dX2_readClause_17) (n_sq (n_cIv hE m_X10_fail vc_X2_38 (show 0 + 1 ≤ 6 ∧ 8 + (3 + 11) + 0 ≤ 135 by decide) dX2_readClause_18) (n_zreturn hE rfl dX2_readClause_21)))))),
    (n_sq (n_iload_n hE dX2_readClause_22) (n_sq (n_bipush hE (by decide) dX2_readClause_23) (n_ifcge hE (by decide) dX2_readClause_25))),
    (n_sq (n_iload_n hE dX2_readClause_28) (n_ifne hE (by decide) dX2_readClause_29)),
    (n_sq (n_iconst hE (by decide) dX2_readClause_32) (n_goto hE (by decide) dX2_readClause_33)),
    (n_sq (n_iconst hE (by decide) dX2_readClause_36) n_fall),
    (n_sq (n_iload_n hE dX2_readClause_37) (n_ifne hE (by decide) dX2_readClause_38)),
    (n_sq (n_iconst hE (by decide) dX2_readClause_41) (n_goto hE (by decide) dX2_readClause_42)),
    (n_sq (n_iconst hE (by decide) dX2_readClause_45) n_fall),
    (n_ifcne hE (by decide) dX2_readClause_46),
    (n_sq (n_aload_n hE dX2_readClause_49) (n_sq (n_iload_n hE dX2_readClause_50) (n_sq (n_cIs hE m_X2_hasRoomFor vc_X2_42 (show 0 + 1 ≤ 6 ∧ 8 + (2 + 11) + 0 ≤ 135 by decide) dX2_readClause_51) (n_ifne hE (by decide) dX2_readClause_54)))),
    (n_sq (n_aload_n hE dX2_readClause_57) (n_sq (n_aload_n hE dX2_readClause_58) (n_sq (n_getI hE xk_9 (k := 3) rfl (by decide) rfl wt_43 dX2_readClause_59) (n_sq (n_iconst hE (by decide) dX2_readClause_62) (n_sq (n_cIv hE m_X10_fail vc_X2_38 (show 0 + 1 ≤ 6 ∧ 8 + (3 + 11) + 0 ≤ 135 by decide) dX2_readClause_63) (n_zreturn hE rfl dX2_readClause_66)))))),
    (n_sq (n_iload_n hE dX2_readClause_67) (n_switch hE (lo32 := 0) (ts := [100, 106, 112, 118]) (by decide) (by decide) (by decide) (by decide) (by decide) (by decide) dX2_readClause_68)),
    (n_sq (n_aload_n hE dX2_readClause_100) (n_sq (n_aload_n hE dX2_readClause_101) (n_sq (n_cIs hE m_X2_readDale vc_X2_49 (show 3 + 1 ≤ 6 ∧ 8 + (2 + 11) + 63 ≤ 135 by decide) dX2_readClause_102) (n_zreturn hE rfl dX2_readClause_105)))),
    (n_sq (n_aload_n hE dX2_readClause_106) (n_sq (n_aload_n hE dX2_readClause_107) (n_sq (n_cIs hE m_X2_readKeep vc_X2_53 (show 3 + 1 ≤ 6 ∧ 8 + (2 + 11) + 63 ≤ 135 by decide) dX2_readClause_108) (n_zreturn hE rfl dX2_readClause_111)))),
    (n_sq (n_aload_n hE dX2_readClause_112) (n_sq (n_aload_n hE dX2_readClause_113) (n_sq (n_cIs hE m_X2_readPerson vc_X2_56 (show 3 + 1 ≤ 6 ∧ 8 + (2 + 11) + 63 ≤ 135 by decide) dX2_readClause_114) (n_zreturn hE rfl dX2_readClause_117)))),
    (n_sq (n_aload_n hE dX2_readClause_118) (n_sq (n_aload_n hE dX2_readClause_119) (n_sq (n_cIs hE m_X2_readField vc_X2_59 (show 3 + 1 ≤ 6 ∧ 8 + (2 + 11) + 63 ≤ 135 by decide) dX2_readClause_120) (n_zreturn hE rfl dX2_readClause_123)))),
    (n_sq (n_aload_n hE dX2_readClause_124) (n_sq (n_aload_n hE dX2_readClause_125) (n_sq (n_cIs hE m_X2_readBeside vc_X2_62 (show 3 + 1 ≤ 6 ∧ 8 + (4 + 11) + 63 ≤ 135 by decide) dX2_readClause_126) (n_zreturn hE rfl dX2_readClause_129)))), trivial⟩
noncomputable def F_X2_readClause (as : List XV) (w : XW) : Option (Int32 × XW) := (xF 4 bs_X2_readClause as w).bind pI
theorem m_X2_readClause : XM yX2_readClause cX2_readClause 4 (some .boolean) 6 135 (eI F_X2_readClause) := xm_I (xm_of (by decide) s_X2_readClause)
noncomputable def q_X2_readClause_0 (i1 : Nat) (x2 : Int32) (w : XW) : Option XR := ev bs_X2_readClause 0 ([some (.inr (9, 0)), some (.inr (1, i1)), some (.inl (.int x2)), none], [], w)
noncomputable def q_X2_readClause_12 (w : XW) : Option XR := ev bs_X2_readClause 12 ([some (.inr (9, 0)), none, none, none], [], w)
noncomputable def q_X2_readClause_22 (i1 : Nat) (x2 : Int32) (x3 : Int32) (w : XW) : Option XR := ev bs_X2_readClause 22 ([some (.inr (9, 0)), some (.inr (1, i1)), some (.inl (.int x2)), some (.inl (.int x3))], [], w)
noncomputable def q_X2_readClause_28 (i1 : Nat) (x2 : Int32) (x3 : Int32) (w : XW) : Option XR := ev bs_X2_readClause 28 ([some (.inr (9, 0)), some (.inr (1, i1)), some (.inl (.int x2)), some (.inl (.int x3))], [], w)
noncomputable def q_X2_readClause_32 (i1 : Nat) (x3 : Int32) (w : XW) : Option XR := ev bs_X2_readClause 32 ([some (.inr (9, 0)), some (.inr (1, i1)), none, some (.inl (.int x3))], [], w)
noncomputable def q_X2_readClause_36 (i1 : Nat) (x3 : Int32) (w : XW) : Option XR := ev bs_X2_readClause 36 ([some (.inr (9, 0)), some (.inr (1, i1)), none, some (.inl (.int x3))], [], w)
noncomputable def q_X2_readClause_37 (i1 : Nat) (x3 : Int32) (s0 : Int32) (w : XW) : Option XR := ev bs_X2_readClause 37 ([some (.inr (9, 0)), some (.inr (1, i1)), none, some (.inl (.int x3))], [.inl (.int s0)], w)
noncomputable def q_X2_readClause_41 (i1 : Nat) (x3 : Int32) (s0 : Int32) (w : XW) : Option XR := ev bs_X2_readClause 41 ([some (.inr (9, 0)), some (.inr (1, i1)), none, some (.inl (.int x3))], [.inl (.int s0)], w)
noncomputable def q_X2_readClause_45 (i1 : Nat) (x3 : Int32) (s0 : Int32) (w : XW) : Option XR := ev bs_X2_readClause 45 ([some (.inr (9, 0)), some (.inr (1, i1)), none, some (.inl (.int x3))], [.inl (.int s0)], w)
noncomputable def q_X2_readClause_46 (i1 : Nat) (x3 : Int32) (s0 : Int32) (s1 : Int32) (w : XW) : Option XR := ev bs_X2_readClause 46 ([some (.inr (9, 0)), some (.inr (1, i1)), none, some (.inl (.int x3))], [.inl (.int s1), .inl (.int s0)], w)
noncomputable def q_X2_readClause_49 (i1 : Nat) (x3 : Int32) (w : XW) : Option XR := ev bs_X2_readClause 49 ([some (.inr (9, 0)), some (.inr (1, i1)), none, some (.inl (.int x3))], [], w)
noncomputable def q_X2_readClause_57 (w : XW) : Option XR := ev bs_X2_readClause 57 ([some (.inr (9, 0)), none, none, none], [], w)
noncomputable def q_X2_readClause_67 (i1 : Nat) (x3 : Int32) (w : XW) : Option XR := ev bs_X2_readClause 67 ([some (.inr (9, 0)), some (.inr (1, i1)), none, some (.inl (.int x3))], [], w)
noncomputable def q_X2_readClause_100 (i1 : Nat) (w : XW) : Option XR := ev bs_X2_readClause 100 ([some (.inr (9, 0)), some (.inr (1, i1)), none, none], [], w)
noncomputable def q_X2_readClause_106 (i1 : Nat) (w : XW) : Option XR := ev bs_X2_readClause 106 ([some (.inr (9, 0)), some (.inr (1, i1)), none, none], [], w)
noncomputable def q_X2_readClause_112 (i1 : Nat) (w : XW) : Option XR := ev bs_X2_readClause 112 ([some (.inr (9, 0)), some (.inr (1, i1)), none, none], [], w)
noncomputable def q_X2_readClause_118 (i1 : Nat) (w : XW) : Option XR := ev bs_X2_readClause 118 ([some (.inr (9, 0)), some (.inr (1, i1)), none, none], [], w)
noncomputable def q_X2_readClause_124 (i1 : Nat) (w : XW) : Option XR := ev bs_X2_readClause 124 ([some (.inr (9, 0)), some (.inr (1, i1)), none, none], [], w)
theorem e_X2_readClause_0 (i1 : Nat) (x2 : Int32) (w : XW) : q_X2_readClause_0 i1 x2 w = ((F_X10_passWord [.inr (9, 0), .inr (65, 0)] w).bind fun r0 => (bif decide (¬ r0.1 = (-1)) then (q_X2_readClause_22 i1 x2 r0.1 r0.2) else (q_X2_readClause_12 r0.2))) := (ev_eq _ _ _).trans rfl
theorem e_X2_readClause_12 (w : XW) : q_X2_readClause_12 w = ((F_X10_fail [.inr (9, 0), .inl (.int (gI w 9 0 2)), .inl (.int 0)] w).bind fun r0 => (if r0.1 = 0 ∨ r0.1 = 1 then some (some (.inl (.int r0.1)), r0.2) else none)) := (ev_eq _ _ _).trans rfl
theorem e_X2_readClause_22 (i1 : Nat) (x2 : Int32) (x3 : Int32) (w : XW) : q_X2_readClause_22 i1 x2 x3 w = (bif decide (40 ≤ x2) then (q_X2_readClause_57 w) else (q_X2_readClause_28 i1 x2 x3 w)) := (ev_eq _ _ _).trans rfl
theorem e_X2_readClause_28 (i1 : Nat) (x2 : Int32) (x3 : Int32) (w : XW) : q_X2_readClause_28 i1 x2 x3 w = (bif decide (¬ x2 = 0) then (q_X2_readClause_36 i1 x3 w) else (q_X2_readClause_32 i1 x3 w)) := (ev_eq _ _ _).trans rfl
theorem e_X2_readClause_32 (i1 : Nat) (x3 : Int32) (w : XW) : q_X2_readClause_32 i1 x3 w = (q_X2_readClause_37 i1 x3 1 w) := (ev_eq _ _ _).trans rfl
theorem e_X2_readClause_36 (i1 : Nat) (x3 : Int32) (w : XW) : q_X2_readClause_36 i1 x3 w = (q_X2_readClause_37 i1 x3 0 w) := (ev_eq _ _ _).trans rfl
theorem e_X2_readClause_37 (i1 : Nat) (x3 : Int32) (s0 : Int32) (w : XW) : q_X2_readClause_37 i1 x3 s0 w = (bif decide (¬ x3 = 0) then (q_X2_readClause_45 i1 x3 s0 w) else (q_X2_readClause_41 i1 x3 s0 w)) := (ev_eq _ _ _).trans rfl
theorem e_X2_readClause_41 (i1 : Nat) (x3 : Int32) (s0 : Int32) (w : XW) : q_X2_readClause_41 i1 x3 s0 w = (q_X2_readClause_46 i1 x3 s0 1 w) := (ev_eq _ _ _).trans rfl
theorem e_X2_readClause_45 (i1 : Nat) (x3 : Int32) (s0 : Int32) (w : XW) : q_X2_readClause_45 i1 x3 s0 w = (q_X2_readClause_46 i1 x3 s0 0 w) := (ev_eq _ _ _).trans rfl
theorem e_X2_readClause_46 (i1 : Nat) (x3 : Int32) (s0 : Int32) (s1 : Int32) (w : XW) : q_X2_readClause_46 i1 x3 s0 s1 w = (bif decide (¬ s0 = s1) then (q_X2_readClause_57 w) else (q_X2_readClause_49 i1 x3 w)) := (ev_eq _ _ _).trans rfl
theorem e_X2_readClause_49 (i1 : Nat) (x3 : Int32) (w : XW) : q_X2_readClause_49 i1 x3 w = ((F_X2_hasRoomFor [.inr (1, i1), .inl (.int x3)] w).bind fun r0 => (bif decide (¬ r0.1 = 0) then (q_X2_readClause_67 i1 x3 r0.2) else (q_X2_readClause_57 r0.2))) := (ev_eq _ _ _).trans rfl
theorem e_X2_readClause_57 (w : XW) : q_X2_readClause_57 w = ((F_X10_fail [.inr (9, 0), .inl (.int (gI w 9 0 3)), .inl (.int 4)] w).bind fun r0 => (if r0.1 = 0 ∨ r0.1 = 1 then some (some (.inl (.int r0.1)), r0.2) else none)) := (ev_eq _ _ _).trans rfl
theorem e_X2_readClause_67 (i1 : Nat) (x3 : Int32) (w : XW) : q_X2_readClause_67 i1 x3 w = (bif x3 == 0 then (q_X2_readClause_100 i1 w) else (bif x3 == 1 then (q_X2_readClause_106 i1 w) else (bif x3 == 2 then (q_X2_readClause_112 i1 w) else (bif x3 == 3 then (q_X2_readClause_118 i1 w) else (q_X2_readClause_124 i1 w))))) := (ev_eq _ _ _).trans rfl
theorem e_X2_readClause_100 (i1 : Nat) (w : XW) : q_X2_readClause_100 i1 w = ((F_X2_readDale [.inr (9, 0), .inr (1, i1)] w).bind fun r0 => (if r0.1 = 0 ∨ r0.1 = 1 then some (some (.inl (.int r0.1)), r0.2) else none)) := (ev_eq _ _ _).trans rfl
theorem e_X2_readClause_106 (i1 : Nat) (w : XW) : q_X2_readClause_106 i1 w = ((F_X2_readKeep [.inr (9, 0), .inr (1, i1)] w).bind fun r0 => (if r0.1 = 0 ∨ r0.1 = 1 then some (some (.inl (.int r0.1)), r0.2) else none)) := (ev_eq _ _ _).trans rfl
theorem e_X2_readClause_112 (i1 : Nat) (w : XW) : q_X2_readClause_112 i1 w = ((F_X2_readPerson [.inr (9, 0), .inr (1, i1)] w).bind fun r0 => (if r0.1 = 0 ∨ r0.1 = 1 then some (some (.inl (.int r0.1)), r0.2) else none)) := (ev_eq _ _ _).trans rfl
theorem e_X2_readClause_118 (i1 : Nat) (w : XW) : q_X2_readClause_118 i1 w = ((F_X2_readField [.inr (9, 0), .inr (1, i1)] w).bind fun r0 => (if r0.1 = 0 ∨ r0.1 = 1 then some (some (.inl (.int r0.1)), r0.2) else none)) := (ev_eq _ _ _).trans rfl
theorem e_X2_readClause_124 (i1 : Nat) (w : XW) : q_X2_readClause_124 i1 w = ((F_X2_readBeside [.inr (9, 0), .inr (1, i1)] w).bind fun r0 => (if r0.1 = 0 ∨ r0.1 = 1 then some (some (.inl (.int r0.1)), r0.2) else none)) := (ev_eq _ _ _).trans rfl
theorem f_X2_readClause (i1 : Nat) (x2 : Int32) (w : XW) : F_X2_readClause [.inr (9, 0), .inr (1, i1), .inl (.int x2)] w = (q_X2_readClause_0 i1 x2 w).bind pI := rfl

-- WinterKeep$Tape.passSign(I)Z
theorem dX10_passSign_0 : decode cX10_passSign 0 = .ok (.aload_n 0, 1) := by decide +kernel
theorem dX10_passSign_1 : decode cX10_passSign 1 = .ok (.invokevirtual 35, 3) := by decide +kernel
theorem dX10_passSign_4 : decode cX10_passSign 4 = .ok (.iload_n 1, 1) := by decide +kernel
theorem dX10_passSign_5 : decode cX10_passSign 5 = .ok (.if_icmp .eq 13, 3) := by decide +kernel
theorem dX10_passSign_8 : decode cX10_passSign 8 = .ok (.aload_n 0, 1) := by decide +kernel
theorem dX10_passSign_9 : decode cX10_passSign 9 = .ok (.aload_n 0, 1) := by decide +kernel
theorem dX10_passSign_10 : decode cX10_passSign 10 = .ok (.getfield 19, 3) := by decide +kernel
theorem dX10_passSign_13 : decode cX10_passSign 13 = .ok (.iconst 0, 1) := by decide +kernel
theorem dX10_passSign_14 : decode cX10_passSign 14 = .ok (.invokevirtual 39, 3) := by decide +kernel
theorem dX10_passSign_17 : decode cX10_passSign 17 = .ok (.ireturn, 1) := by decide +kernel
theorem dX10_passSign_18 : decode cX10_passSign 18 = .ok (.aload_n 0, 1) := by decide +kernel
theorem dX10_passSign_19 : decode cX10_passSign 19 = .ok (.dup, 1) := by decide +kernel
theorem dX10_passSign_20 : decode cX10_passSign 20 = .ok (.getfield 19, 3) := by decide +kernel
theorem dX10_passSign_23 : decode cX10_passSign 23 = .ok (.iconst 1, 1) := by decide +kernel
theorem dX10_passSign_24 : decode cX10_passSign 24 = .ok (.iadd, 1) := by decide +kernel
theorem dX10_passSign_25 : decode cX10_passSign 25 = .ok (.putfield 19, 3) := by decide +kernel
theorem dX10_passSign_28 : decode cX10_passSign 28 = .ok (.iconst 1, 1) := by decide +kernel
theorem dX10_passSign_29 : decode cX10_passSign 29 = .ok (.ireturn, 1) := by decide +kernel
noncomputable def bs_X10_passSign : List (Nat × XB) := [
  (0, (sq (xLA 0) (sq (xCI 9 1 F_X10_sign) (sq (xLI 1) (tIf2 (fun x y => decide (x = y)) 18 [true, false] 8 [true, false]))))),
  (8, (sq (xLA 0) (sq (xLA 0) (sq (xGI 9 2) (sq (xC (.int 0)) (sq (xCI 9 3 F_X10_fail) tRZ)))))),
  (18, (sq (xLA 0) (sq (xDup) (sq (xGI 9 2) (sq (xC (.int 1)) (sq (xI2 (· + ·)) (sq (xPI 9 2) (sq (xC (.int 1)) tRZ))))))))]
set_option maxRecDepth 100000 in
set_option maxHeartbeats 4000000 in
theorem s_X10_passSign : ∀ X : XCtx, XE X → X.2.2.1.1 = cX10_passSign → X.2.2.1.2.1 = 2 → X.2.2.1.2.2.1 = yX10_passSign.cls → X.2.2.1.2.2.2.1 = (some .boolean) → X.1.2.2.2.1 = { frames := 2, cells := 0, slots := 0, locals := 41 } → SndBs X bs_X10_passSign := by
  rintro ⟨⟨p, l, e, R, s⟩, Y, ⟨cc, nL, own, ret, Ts⟩, Z⟩ hE h1 h2 h3 h4 h5
  dsimp only at h1 h2 h3 h4 h5
  subst h1 h2 h3 h4 h5
  exact ⟨(n_sq (n_aload_n hE dX10_passSign_0) (n_sq (n_cIv hE m_X10_sign vc_X10_35 (show 1 + 1 ≤ 2 ∧ 8 + (1 + 11) + 21 ≤ 41 by decide) dX10_passSign_1) (n_sq (n_iload_n hE dX10_passSign_4) (n_ifceq hE (by decide) dX10_passSign_5)))),
    (n_sq (n_aload_n hE dX10_passSign_8) (n_sq (n_aload_n hE dX10_passSign_9) (n_sq (n_getI hE xk_9 (k := 2) rfl (by decide) rfl wt_39 dX10_passSign_10) (n_sq (n_iconst hE (by decide) dX10_passSign_13) (n_sq (n_cIv hE m_X10_fail vc_X10_39 (show 0 + 1 ≤ 2 ∧ 8 + (3 + 11) + 0 ≤ 41 by decide) dX10_passSign_14) (n_zreturn hE rfl dX10_passSign_17)))))),
    (n_sq (n_aload_n hE dX10_passSign_18) (n_sq (n_dup hE dX10_passSign_19) (n_sq (n_getI hE xk_9 (k := 2) rfl (by decide) rfl wt_39 dX10_passSign_20) (n_sq (n_iconst hE (by decide) dX10_passSign_23) (n_sq (n_iadd hE dX10_passSign_24) (n_sq (n_putI hE xk_9 (k := 2) rfl (by decide) rfl rfl (tyX10_ok 2 (by decide)) wt_39 dX10_passSign_25) (n_sq (n_iconst hE (by decide) dX10_passSign_28) (n_zreturn hE rfl dX10_passSign_29)))))))), trivial⟩
noncomputable def F_X10_passSign (as : List XV) (w : XW) : Option (Int32 × XW) := (xF 2 bs_X10_passSign as w).bind pI
theorem m_X10_passSign : XM yX10_passSign cX10_passSign 2 (some .boolean) 2 41 (eI F_X10_passSign) := xm_I (xm_of (by decide) s_X10_passSign)
noncomputable def q_X10_passSign_0 (x1 : Int32) (w : XW) : Option XR := ev bs_X10_passSign 0 ([some (.inr (9, 0)), some (.inl (.int x1))], [], w)
noncomputable def q_X10_passSign_8 (w : XW) : Option XR := ev bs_X10_passSign 8 ([some (.inr (9, 0)), none], [], w)
noncomputable def q_X10_passSign_18 (w : XW) : Option XR := ev bs_X10_passSign 18 ([some (.inr (9, 0)), none], [], w)
theorem e_X10_passSign_0 (x1 : Int32) (w : XW) : q_X10_passSign_0 x1 w = ((F_X10_sign [.inr (9, 0)] w).bind fun r0 => (bif decide (r0.1 = x1) then (q_X10_passSign_18 r0.2) else (q_X10_passSign_8 r0.2))) := (ev_eq _ _ _).trans rfl
theorem e_X10_passSign_8 (w : XW) : q_X10_passSign_8 w = ((F_X10_fail [.inr (9, 0), .inl (.int (gI w 9 0 2)), .inl (.int 0)] w).bind fun r0 => (if r0.1 = 0 ∨ r0.1 = 1 then some (some (.inl (.int r0.1)), r0.2) else none)) := (ev_eq _ _ _).trans rfl
theorem e_X10_passSign_18 (w : XW) : q_X10_passSign_18 w = (some (some (.inl (.int 1)), sI w 9 0 2 ((gI w 9 0 2) + 1))) := (ev_eq _ _ _).trans rfl
theorem f_X10_passSign (x1 : Int32) (w : XW) : F_X10_passSign [.inr (9, 0), .inl (.int x1)] w = (q_X10_passSign_0 x1 w).bind pI := rfl

-- WinterKeep$DaleReader.read(LWinterKeep$Tape;LWinterKeep$Dale;)Z
theorem dX2_read_0 : decode cX2_read 0 = .ok (.aload_n 0, 1) := by decide +kernel
theorem dX2_read_1 : decode cX2_read 1 = .ok (.invokevirtual 9, 3) := by decide +kernel
theorem dX2_read_4 : decode cX2_read 4 = .ok (.iconst 0, 1) := by decide +kernel
theorem dX2_read_5 : decode cX2_read 5 = .ok (.istore_n 2, 1) := by decide +kernel
theorem dX2_read_6 : decode cX2_read 6 = .ok (.iload_n 2, 1) := by decide +kernel
theorem dX2_read_7 : decode cX2_read 7 = .ok (.bipush 40, 2) := by decide +kernel
theorem dX2_read_9 : decode cX2_read 9 = .ok (.if_icmp .gt 41, 3) := by decide +kernel
theorem dX2_read_12 : decode cX2_read 12 = .ok (.aload_n 0, 1) := by decide +kernel
theorem dX2_read_13 : decode cX2_read 13 = .ok (.aload_n 1, 1) := by decide +kernel
theorem dX2_read_14 : decode cX2_read 14 = .ok (.iload_n 2, 1) := by decide +kernel
theorem dX2_read_15 : decode cX2_read 15 = .ok (.invokestatic 14, 3) := by decide +kernel
theorem dX2_read_18 : decode cX2_read 18 = .ok (.ifCond .ne 5, 3) := by decide +kernel
theorem dX2_read_21 : decode cX2_read 21 = .ok (.iconst 0, 1) := by decide +kernel
theorem dX2_read_22 : decode cX2_read 22 = .ok (.ireturn, 1) := by decide +kernel
theorem dX2_read_23 : decode cX2_read 23 = .ok (.aload_n 0, 1) := by decide +kernel
theorem dX2_read_24 : decode cX2_read 24 = .ok (.invokevirtual 20, 3) := by decide +kernel
theorem dX2_read_27 : decode cX2_read 27 = .ok (.iconst (-1), 1) := by decide +kernel
theorem dX2_read_28 : decode cX2_read 28 = .ok (.if_icmp .ne 5, 3) := by decide +kernel
theorem dX2_read_31 : decode cX2_read 31 = .ok (.iconst 1, 1) := by decide +kernel
theorem dX2_read_32 : decode cX2_read 32 = .ok (.ireturn, 1) := by decide +kernel
theorem dX2_read_33 : decode cX2_read 33 = .ok (.aload_n 0, 1) := by decide +kernel
theorem dX2_read_34 : decode cX2_read 34 = .ok (.bipush 59, 2) := by decide +kernel
theorem dX2_read_36 : decode cX2_read 36 = .ok (.invokevirtual 24, 3) := by decide +kernel
theorem dX2_read_39 : decode cX2_read 39 = .ok (.ifCond .ne 5, 3) := by decide +kernel
theorem dX2_read_42 : decode cX2_read 42 = .ok (.iconst 0, 1) := by decide +kernel
theorem dX2_read_43 : decode cX2_read 43 = .ok (.ireturn, 1) := by decide +kernel
theorem dX2_read_44 : decode cX2_read 44 = .ok (.iinc 2 1, 3) := by decide +kernel
theorem dX2_read_47 : decode cX2_read 47 = .ok (.goto (-41), 3) := by decide +kernel
theorem dX2_read_50 : decode cX2_read 50 = .ok (.iconst 0, 1) := by decide +kernel
theorem dX2_read_51 : decode cX2_read 51 = .ok (.ireturn, 1) := by decide +kernel
theorem vc_X2_9 : XVw RX2 9 0 9 1 yX10_begin cX10_begin none := ⟨RX10, TX10, tyX10, 6, xk_9, rfl, ⟨by decide, by decide⟩, by decide +kernel, wt_396, wt_397, wt_398, wt_2, wt_399⟩
theorem vc_X2_14 : XSw RX2 14 3 4 yX2_readClause cX2_readClause (some .boolean) := ⟨⟨by decide, by decide⟩, by decide +kernel, wt_400, wt_401, wt_12, wt_402⟩
theorem vc_X2_20 : XVw RX2 20 0 9 1 yX10_sign cX10_sign (some .int) := ⟨RX10, TX10, tyX10, 6, xk_9, rfl, ⟨by decide, by decide⟩, by decide +kernel, wt_495, wt_409, wt_410, wt_2, wt_411⟩
theorem vc_X2_24 : XVw RX2 24 1 9 2 yX10_passSign cX10_passSign (some .boolean) := ⟨RX10, TX10, tyX10, 6, xk_9, rfl, ⟨by decide, by decide⟩, by decide +kernel, wt_496, wt_497, wt_498, wt_2, wt_499⟩
noncomputable def bs_X2_read : List (Nat × XB) := [
  (0, (sq (xLA 0) (sq (xCV 9 1 F_X10_begin) (sq (xC (.int 0)) (sq (xSI 2) (tGo 6 [true, true, true])))))),
  (6, (sq (xLI 2) (sq (xC (.int 40)) (tIf2 (fun x y => decide (y < x)) 50 [false, false, false] 12 [true, true, true])))),
  (12, (sq (xLA 0) (sq (xLA 1) (sq (xLI 2) (sq (xCI 99 3 F_X2_readClause) (tIf1 (fun x => decide (¬ x = 0)) 23 [true, true, true] 21 [false, false, false])))))),
  (21, (sq (xC (.int 0)) tRZ)),
  (23, (sq (xLA 0) (sq (xCI 9 1 F_X10_sign) (sq (xC (.int (-1))) (tIf2 (fun x y => decide (¬ x = y)) 33 [true, true, true] 31 [false, false, false]))))),
  (31, (sq (xC (.int 1)) tRZ)),
  (33, (sq (xLA 0) (sq (xC (.int 59)) (sq (xCI 9 2 F_X10_passSign) (tIf1 (fun x => decide (¬ x = 0)) 44 [true, true, true] 42 [false, false, false]))))),
  (42, (sq (xC (.int 0)) tRZ)),
  (44, (sq (xInc 2 1) (tGo 6 [true, true, true]))),
  (50, (sq (xC (.int 0)) tRZ))]
set_option maxRecDepth 100000 in
set_option maxHeartbeats 4000000 in
theorem s_X2_read : ∀ X : XCtx, XE X → X.2.2.1.1 = cX2_read → X.2.2.1.2.1 = 3 → X.2.2.1.2.2.1 = yX2_read.cls → X.2.2.1.2.2.2.1 = (some .boolean) → X.1.2.2.2.1 = { frames := 7, cells := 0, slots := 0, locals := 158 } → SndBs X bs_X2_read := by
  rintro ⟨⟨p, l, e, R, s⟩, Y, ⟨cc, nL, own, ret, Ts⟩, Z⟩ hE h1 h2 h3 h4 h5
  dsimp only at h1 h2 h3 h4 h5
  subst h1 h2 h3 h4 h5
  exact ⟨(n_sq (n_aload_n hE dX2_read_0) (n_sq (n_cVv hE m_X10_begin vc_X2_9 (show 0 + 1 ≤ 7 ∧ 8 + (1 + 11) + 0 ≤ 158 by decide) dX2_read_1) (n_sq (n_iconst hE (by decide) dX2_read_4) (n_sq (n_istore_n hE (show (2 : Nat) < 3 by decide) dX2_read_5) n_fall)))),
    (n_sq (n_iload_n hE dX2_read_6) (n_sq (n_bipush hE (by decide) dX2_read_7) (n_ifcgt hE (by decide) dX2_read_9))),
    (n_sq (n_aload_n hE dX2_read_12) (n_sq (n_aload_n hE dX2_read_13) (n_sq (n_iload_n hE dX2_read_14) (n_sq (n_cIs hE m_X2_readClause vc_X2_14 (show 6 + 1 ≤ 7 ∧ 8 + (4 + 11) + 135 ≤ 158 by decide) dX2_read_15) (n_ifne hE (by decide) dX2_read_18))))),
    (n_sq (n_iconst hE (by decide) dX2_read_21) (n_zreturn hE rfl dX2_read_22)),
    (n_sq (n_aload_n hE dX2_read_23) (n_sq (n_cIv hE m_X10_sign vc_X2_20 (show 1 + 1 ≤ 7 ∧ 8 + (1 + 11) + 21 ≤ 158 by decide) dX2_read_24) (n_sq (n_iconst hE (by decide) dX2_read_27) (n_ifcne hE (by decide) dX2_read_28)))),
    (n_sq (n_iconst hE (by decide) dX2_read_31) (n_zreturn hE rfl dX2_read_32)),
    (n_sq (n_aload_n hE dX2_read_33) (n_sq (n_bipush hE (by decide) dX2_read_34) (n_sq (n_cIv hE m_X10_passSign vc_X2_24 (show 2 + 1 ≤ 7 ∧ 8 + (2 + 11) + 41 ≤ 158 by decide) dX2_read_36) (n_ifne hE (by decide) dX2_read_39)))),
    (n_sq (n_iconst hE (by decide) dX2_read_42) (n_zreturn hE rfl dX2_read_43)),
    (n_sq (n_iinc hE (by decide) (show (2 : Nat) < 3 by decide) dX2_read_44) (n_goto hE (by decide) dX2_read_47)),
    (n_sq (n_iconst hE (by decide) dX2_read_50) (n_zreturn hE rfl dX2_read_51)), trivial⟩
noncomputable def F_X2_read (as : List XV) (w : XW) : Option (Int32 × XW) := (xF 3 bs_X2_read as w).bind pI
theorem m_X2_read : XM yX2_read cX2_read 3 (some .boolean) 7 158 (eI F_X2_read) := xm_I (xm_of (by decide) s_X2_read)
noncomputable def q_X2_read_0 (i1 : Nat) (w : XW) : Option XR := ev bs_X2_read 0 ([some (.inr (9, 0)), some (.inr (1, i1)), none], [], w)
noncomputable def q_X2_read_6 (i1 : Nat) (x2 : Int32) (w : XW) : Option XR := ev bs_X2_read 6 ([some (.inr (9, 0)), some (.inr (1, i1)), some (.inl (.int x2))], [], w)
noncomputable def q_X2_read_12 (i1 : Nat) (x2 : Int32) (w : XW) : Option XR := ev bs_X2_read 12 ([some (.inr (9, 0)), some (.inr (1, i1)), some (.inl (.int x2))], [], w)
noncomputable def q_X2_read_21 (w : XW) : Option XR := ev bs_X2_read 21 ([none, none, none], [], w)
noncomputable def q_X2_read_23 (i1 : Nat) (x2 : Int32) (w : XW) : Option XR := ev bs_X2_read 23 ([some (.inr (9, 0)), some (.inr (1, i1)), some (.inl (.int x2))], [], w)
noncomputable def q_X2_read_31 (w : XW) : Option XR := ev bs_X2_read 31 ([none, none, none], [], w)
noncomputable def q_X2_read_33 (i1 : Nat) (x2 : Int32) (w : XW) : Option XR := ev bs_X2_read 33 ([some (.inr (9, 0)), some (.inr (1, i1)), some (.inl (.int x2))], [], w)
noncomputable def q_X2_read_42 (w : XW) : Option XR := ev bs_X2_read 42 ([none, none, none], [], w)
noncomputable def q_X2_read_44 (i1 : Nat) (x2 : Int32) (w : XW) : Option XR := ev bs_X2_read 44 ([some (.inr (9, 0)), some (.inr (1, i1)), some (.inl (.int x2))], [], w)
noncomputable def q_X2_read_50 (w : XW) : Option XR := ev bs_X2_read 50 ([none, none, none], [], w)
theorem e_X2_read_0 (i1 : Nat) (w : XW) : q_X2_read_0 i1 w = ((F_X10_begin [.inr (9, 0)] w).bind fun r0 => (q_X2_read_6 i1 0 r0)) := (ev_eq _ _ _).trans rfl
theorem e_X2_read_6 (i1 : Nat) (x2 : Int32) (w : XW) : q_X2_read_6 i1 x2 w = (bif decide (40 < x2) then (q_X2_read_50 w) else (q_X2_read_12 i1 x2 w)) := (ev_eq _ _ _).trans rfl
theorem e_X2_read_12 (i1 : Nat) (x2 : Int32) (w : XW) : q_X2_read_12 i1 x2 w = ((F_X2_readClause [.inr (9, 0), .inr (1, i1), .inl (.int x2)] w).bind fun r0 => (bif decide (¬ r0.1 = 0) then (q_X2_read_23 i1 x2 r0.2) else (q_X2_read_21 r0.2))) := (ev_eq _ _ _).trans rfl
theorem e_X2_read_21 (w : XW) : q_X2_read_21 w = (some (some (.inl (.int 0)), w)) := (ev_eq _ _ _).trans rfl
theorem e_X2_read_23 (i1 : Nat) (x2 : Int32) (w : XW) : q_X2_read_23 i1 x2 w = ((F_X10_sign [.inr (9, 0)] w).bind fun r0 => (bif decide (¬ r0.1 = (-1)) then (q_X2_read_33 i1 x2 r0.2) else (q_X2_read_31 r0.2))) := (ev_eq _ _ _).trans rfl
theorem e_X2_read_31 (w : XW) : q_X2_read_31 w = (some (some (.inl (.int 1)), w)) := (ev_eq _ _ _).trans rfl
theorem e_X2_read_33 (i1 : Nat) (x2 : Int32) (w : XW) : q_X2_read_33 i1 x2 w = ((F_X10_passSign [.inr (9, 0), .inl (.int 59)] w).bind fun r0 => (bif decide (¬ r0.1 = 0) then (q_X2_read_44 i1 x2 r0.2) else (q_X2_read_42 r0.2))) := (ev_eq _ _ _).trans rfl
theorem e_X2_read_42 (w : XW) : q_X2_read_42 w = (some (some (.inl (.int 0)), w)) := (ev_eq _ _ _).trans rfl
theorem e_X2_read_44 (i1 : Nat) (x2 : Int32) (w : XW) : q_X2_read_44 i1 x2 w = (q_X2_read_6 i1 (x2 + 1) w) := (ev_eq _ _ _).trans rfl
theorem e_X2_read_50 (w : XW) : q_X2_read_50 w = (some (some (.inl (.int 0)), w)) := (ev_eq _ _ _).trans rfl
theorem f_X2_read (i1 : Nat) (w : XW) : F_X2_read [.inr (9, 0), .inr (1, i1)] w = (q_X2_read_0 i1 w).bind pI := rfl

-- WinterKeep$RuleReader.add(I)V
theorem dX8_add_0 : decode cX8_add 0 = .ok (.aload_n 0, 1) := by decide +kernel
theorem dX8_add_1 : decode cX8_add 1 = .ok (.getfield 18, 3) := by decide +kernel
theorem dX8_add_4 : decode cX8_add 4 = .ok (.aload_n 0, 1) := by decide +kernel
theorem dX8_add_5 : decode cX8_add 5 = .ok (.getfield 9, 3) := by decide +kernel
theorem dX8_add_8 : decode cX8_add 8 = .ok (.arraylength, 1) := by decide +kernel
theorem dX8_add_9 : decode cX8_add 9 = .ok (.if_icmp .ge 23, 3) := by decide +kernel
theorem dX8_add_12 : decode cX8_add 12 = .ok (.aload_n 0, 1) := by decide +kernel
theorem dX8_add_13 : decode cX8_add 13 = .ok (.getfield 9, 3) := by decide +kernel
theorem dX8_add_16 : decode cX8_add 16 = .ok (.aload_n 0, 1) := by decide +kernel
theorem dX8_add_17 : decode cX8_add 17 = .ok (.getfield 18, 3) := by decide +kernel
theorem dX8_add_20 : decode cX8_add 20 = .ok (.iload_n 1, 1) := by decide +kernel
theorem dX8_add_21 : decode cX8_add 21 = .ok (.iastore, 1) := by decide +kernel
theorem dX8_add_22 : decode cX8_add 22 = .ok (.aload_n 0, 1) := by decide +kernel
theorem dX8_add_23 : decode cX8_add 23 = .ok (.dup, 1) := by decide +kernel
theorem dX8_add_24 : decode cX8_add 24 = .ok (.getfield 18, 3) := by decide +kernel
theorem dX8_add_27 : decode cX8_add 27 = .ok (.iconst 1, 1) := by decide +kernel
theorem dX8_add_28 : decode cX8_add 28 = .ok (.iadd, 1) := by decide +kernel
theorem dX8_add_29 : decode cX8_add 29 = .ok (.putfield 18, 3) := by decide +kernel
theorem dX8_add_32 : decode cX8_add 32 = .ok (.return_, 1) := by decide +kernel
noncomputable def bs_X8_add : List (Nat × XB) := [
  (0, (sq (xLA 0) (sq (xGI 7 2) (sq (xLA 0) (sq (xGS 7 28 0 0) (sq (xLen 28 400) (tIf2 (fun x y => decide (y ≤ x)) 32 [false, false] 12 [true, true]))))))),
  (12, (sq (xLA 0) (sq (xGS 7 28 0 0) (sq (xLA 0) (sq (xGI 7 2) (sq (xLI 1) (sq (xTI 28 400 (fun x => x)) (sq (xLA 0) (sq (xDup) (sq (xGI 7 2) (sq (xC (.int 1)) (sq (xI2 (· + ·)) (sq (xPI 7 2) (tGo 32 [false, false])))))))))))))),
  (32, tRV)]
set_option maxRecDepth 100000 in
set_option maxHeartbeats 4000000 in
theorem s_X8_add : ∀ X : XCtx, XE X → X.2.2.1.1 = cX8_add → X.2.2.1.2.1 = 2 → X.2.2.1.2.2.1 = yX8_add.cls → X.2.2.1.2.2.2.1 = none → X.1.2.2.2.1 = { frames := 0, cells := 0, slots := 0, locals := 0 } → SndBs X bs_X8_add := by
  rintro ⟨⟨p, l, e, R, s⟩, Y, ⟨cc, nL, own, ret, Ts⟩, Z⟩ hE h1 h2 h3 h4 h5
  dsimp only at h1 h2 h3 h4 h5
  subst h1 h2 h3 h4 h5
  exact ⟨(n_sq (n_aload_n hE dX8_add_0) (n_sq (n_getI hE xk_7 (k := 2) rfl (by decide) rfl wt_72 dX8_add_1) (n_sq (n_aload_n hE dX8_add_4) (n_sq (n_getS hE xk_7 (k := 0) rfl (by decide) rfl wt_70 dX8_add_5) (n_sq (n_alen hE rfl (by decide) dX8_add_8) (n_ifcge hE (by decide) dX8_add_9)))))),
    (n_sq (n_aload_n hE dX8_add_12) (n_sq (n_getS hE xk_7 (k := 0) rfl (by decide) rfl wt_70 dX8_add_13) (n_sq (n_aload_n hE dX8_add_16) (n_sq (n_getI hE xk_7 (k := 2) rfl (by decide) rfl wt_72 dX8_add_17) (n_sq (n_iload_n hE dX8_add_20) (n_sq (n_iast hE rfl (by decide) dX8_add_21) (n_sq (n_aload_n hE dX8_add_22) (n_sq (n_dup hE dX8_add_23) (n_sq (n_getI hE xk_7 (k := 2) rfl (by decide) rfl wt_72 dX8_add_24) (n_sq (n_iconst hE (by decide) dX8_add_27) (n_sq (n_iadd hE dX8_add_28) (n_sq (n_putI hE xk_7 (k := 2) rfl (by decide) rfl rfl (tyX8_ok 2 (by decide)) wt_72 dX8_add_29) n_fall)))))))))))),
    (n_vreturn hE rfl dX8_add_32), trivial⟩
noncomputable def F_X8_add (as : List XV) (w : XW) : Option XW := (xF 2 bs_X8_add as w).bind pV
theorem m_X8_add : XM yX8_add cX8_add 2 none 0 0 (eV F_X8_add) := xm_V (xm_of (by decide) s_X8_add)
noncomputable def q_X8_add_0 (x1 : Int32) (w : XW) : Option XR := ev bs_X8_add 0 ([some (.inr (7, 0)), some (.inl (.int x1))], [], w)
noncomputable def q_X8_add_12 (x1 : Int32) (w : XW) : Option XR := ev bs_X8_add 12 ([some (.inr (7, 0)), some (.inl (.int x1))], [], w)
noncomputable def q_X8_add_32 (w : XW) : Option XR := ev bs_X8_add 32 ([none, none], [], w)
theorem e_X8_add_0 (x1 : Int32) (w : XW) : q_X8_add_0 x1 w = (bif decide ((Int32.ofNat 400) ≤ (gI w 7 0 2)) then (q_X8_add_32 w) else (q_X8_add_12 x1 w)) := (ev_eq _ _ _).trans rfl
theorem e_X8_add_12 (x1 : Int32) (w : XW) : q_X8_add_12 x1 w = (if (gI w 7 0 2) < 0 ∨ 400 ≤ (gI w 7 0 2).toNatClampNeg then none else (q_X8_add_32 (sI (sI w 28 0 ((gI w 7 0 2).toNatClampNeg) x1) 7 0 2 ((gI (sI w 28 0 ((gI w 7 0 2).toNatClampNeg) x1) 7 0 2) + 1)))) := (ev_eq _ _ _).trans rfl
theorem e_X8_add_32 (w : XW) : q_X8_add_32 w = (some (none, w)) := (ev_eq _ _ _).trans rfl
theorem f_X8_add (x1 : Int32) (w : XW) : F_X8_add [.inr (7, 0), .inl (.int x1)] w = (q_X8_add_0 x1 w).bind pV := rfl
