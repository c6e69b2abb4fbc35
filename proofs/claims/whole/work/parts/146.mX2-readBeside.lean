-- WinterKeep$DaleReader.readBeside(LWinterKeep$Tape;LWinterKeep$Dale;)Z
theorem dX2_readBeside_0 : decode cX2_readBeside 0 = .ok (.aload_n 0, 1) := by decide +kernel
theorem dX2_readBeside_1 : decode cX2_readBeside 1 = .ok (.iconst 0, 1) := by decide +kernel
theorem dX2_readBeside_2 : decode cX2_readBeside 2 = .ok (.aload_n 1, 1) := by decide +kernel
theorem dX2_readBeside_3 : decode cX2_readBeside 3 = .ok (.getfield 65, 3) := by decide +kernel
theorem dX2_readBeside_6 : decode cX2_readBeside 6 = .ok (.iconst 1, 1) := by decide +kernel
theorem dX2_readBeside_7 : decode cX2_readBeside 7 = .ok (.isub, 1) := by decide +kernel
theorem dX2_readBeside_8 : decode cX2_readBeside 8 = .ok (.invokevirtual 76, 3) := by decide +kernel
theorem dX2_readBeside_11 : decode cX2_readBeside 11 = .ok (.ifCond .ne 5, 3) := by decide +kernel
theorem dX2_readBeside_14 : decode cX2_readBeside 14 = .ok (.iconst 0, 1) := by decide +kernel
theorem dX2_readBeside_15 : decode cX2_readBeside 15 = .ok (.ireturn, 1) := by decide +kernel
theorem dX2_readBeside_16 : decode cX2_readBeside 16 = .ok (.aload_n 0, 1) := by decide +kernel
theorem dX2_readBeside_17 : decode cX2_readBeside 17 = .ok (.getfield 79, 3) := by decide +kernel
theorem dX2_readBeside_20 : decode cX2_readBeside 20 = .ok (.istore_n 2, 1) := by decide +kernel
theorem dX2_readBeside_21 : decode cX2_readBeside 21 = .ok (.aload_n 0, 1) := by decide +kernel
theorem dX2_readBeside_22 : decode cX2_readBeside 22 = .ok (.iconst 0, 1) := by decide +kernel
theorem dX2_readBeside_23 : decode cX2_readBeside 23 = .ok (.aload_n 1, 1) := by decide +kernel
theorem dX2_readBeside_24 : decode cX2_readBeside 24 = .ok (.getfield 65, 3) := by decide +kernel
theorem dX2_readBeside_27 : decode cX2_readBeside 27 = .ok (.iconst 1, 1) := by decide +kernel
theorem dX2_readBeside_28 : decode cX2_readBeside 28 = .ok (.isub, 1) := by decide +kernel
theorem dX2_readBeside_29 : decode cX2_readBeside 29 = .ok (.invokevirtual 76, 3) := by decide +kernel
theorem dX2_readBeside_32 : decode cX2_readBeside 32 = .ok (.ifCond .ne 5, 3) := by decide +kernel
theorem dX2_readBeside_35 : decode cX2_readBeside 35 = .ok (.iconst 0, 1) := by decide +kernel
theorem dX2_readBeside_36 : decode cX2_readBeside 36 = .ok (.ireturn, 1) := by decide +kernel
theorem dX2_readBeside_37 : decode cX2_readBeside 37 = .ok (.aload_n 0, 1) := by decide +kernel
theorem dX2_readBeside_38 : decode cX2_readBeside 38 = .ok (.getfield 79, 3) := by decide +kernel
theorem dX2_readBeside_41 : decode cX2_readBeside 41 = .ok (.istore_n 3, 1) := by decide +kernel
theorem dX2_readBeside_42 : decode cX2_readBeside 42 = .ok (.iload_n 2, 1) := by decide +kernel
theorem dX2_readBeside_43 : decode cX2_readBeside 43 = .ok (.iload_n 3, 1) := by decide +kernel
theorem dX2_readBeside_44 : decode cX2_readBeside 44 = .ok (.if_icmp .ne 13, 3) := by decide +kernel
theorem dX2_readBeside_47 : decode cX2_readBeside 47 = .ok (.aload_n 0, 1) := by decide +kernel
theorem dX2_readBeside_48 : decode cX2_readBeside 48 = .ok (.aload_n 0, 1) := by decide +kernel
theorem dX2_readBeside_49 : decode cX2_readBeside 49 = .ok (.getfield 46, 3) := by decide +kernel
theorem dX2_readBeside_52 : decode cX2_readBeside 52 = .ok (.iconst 1, 1) := by decide +kernel
theorem dX2_readBeside_53 : decode cX2_readBeside 53 = .ok (.invokevirtual 38, 3) := by decide +kernel
theorem dX2_readBeside_56 : decode cX2_readBeside 56 = .ok (.ireturn, 1) := by decide +kernel
theorem dX2_readBeside_57 : decode cX2_readBeside 57 = .ok (.aload_n 1, 1) := by decide +kernel
theorem dX2_readBeside_58 : decode cX2_readBeside 58 = .ok (.getfield 108, 3) := by decide +kernel
theorem dX2_readBeside_61 : decode cX2_readBeside 61 = .ok (.iload_n 2, 1) := by decide +kernel
theorem dX2_readBeside_62 : decode cX2_readBeside 62 = .ok (.dup2, 1) := by decide +kernel
theorem dX2_readBeside_63 : decode cX2_readBeside 63 = .ok (.iaload, 1) := by decide +kernel
theorem dX2_readBeside_64 : decode cX2_readBeside 64 = .ok (.iconst 1, 1) := by decide +kernel
theorem dX2_readBeside_65 : decode cX2_readBeside 65 = .ok (.iload_n 3, 1) := by decide +kernel
theorem dX2_readBeside_66 : decode cX2_readBeside 66 = .ok (.ishl, 1) := by decide +kernel
theorem dX2_readBeside_67 : decode cX2_readBeside 67 = .ok (.ior, 1) := by decide +kernel
theorem dX2_readBeside_68 : decode cX2_readBeside 68 = .ok (.iastore, 1) := by decide +kernel
theorem dX2_readBeside_69 : decode cX2_readBeside 69 = .ok (.aload_n 1, 1) := by decide +kernel
theorem dX2_readBeside_70 : decode cX2_readBeside 70 = .ok (.getfield 108, 3) := by decide +kernel
theorem dX2_readBeside_73 : decode cX2_readBeside 73 = .ok (.iload_n 3, 1) := by decide +kernel
theorem dX2_readBeside_74 : decode cX2_readBeside 74 = .ok (.dup2, 1) := by decide +kernel
theorem dX2_readBeside_75 : decode cX2_readBeside 75 = .ok (.iaload, 1) := by decide +kernel
theorem dX2_readBeside_76 : decode cX2_readBeside 76 = .ok (.iconst 1, 1) := by decide +kernel
theorem dX2_readBeside_77 : decode cX2_readBeside 77 = .ok (.iload_n 2, 1) := by decide +kernel
theorem dX2_readBeside_78 : decode cX2_readBeside 78 = .ok (.ishl, 1) := by decide +kernel
theorem dX2_readBeside_79 : decode cX2_readBeside 79 = .ok (.ior, 1) := by decide +kernel
theorem dX2_readBeside_80 : decode cX2_readBeside 80 = .ok (.iastore, 1) := by decide +kernel
theorem dX2_readBeside_81 : decode cX2_readBeside 81 = .ok (.iconst 1, 1) := by decide +kernel
theorem dX2_readBeside_82 : decode cX2_readBeside 82 = .ok (.ireturn, 1) := by decide +kernel
theorem vc_X2_38 : XVw RX2 38 2 9 3 yX10_fail cX10_fail (some .boolean) := ⟨RX10, TX10, tyX10, 6, xk_9, rfl, ⟨by decide, by decide⟩, by decide +kernel, wt_468, wt_469, wt_470, wt_2, wt_471⟩
noncomputable def bs_X2_readBeside : List (Nat × XB) := [
  (0, (sq (xLA 0) (sq (xC (.int 0)) (sq (xLA 1) (sq (xGI 1 3) (sq (xC (.int 1)) (sq (xI2 (· - ·)) (sq (xCI 9 3 F_X10_passNumber) (tIf1 (fun x => decide (¬ x = 0)) 16 [true, true, false, false] 14 [false, false, false, false]))))))))),
  (14, (sq (xC (.int 0)) tRZ)),
  (16, (sq (xLA 0) (sq (xGI 9 4) (sq (xSI 2) (sq (xLA 0) (sq (xC (.int 0)) (sq (xLA 1) (sq (xGI 1 3) (sq (xC (.int 1)) (sq (xI2 (· - ·)) (sq (xCI 9 3 F_X10_passNumber) (tIf1 (fun x => decide (¬ x = 0)) 37 [true, true, true, false] 35 [false, false, false, false])))))))))))),
  (35, (sq (xC (.int 0)) tRZ)),
  (37, (sq (xLA 0) (sq (xGI 9 4) (sq (xSI 3) (sq (xLI 2) (sq (xLI 3) (tIf2 (fun x y => decide (¬ x = y)) 57 [false, true, true, true] 47 [true, false, false, false]))))))),
  (47, (sq (xLA 0) (sq (xLA 0) (sq (xGI 9 3) (sq (xC (.int 1)) (sq (xCI 9 3 F_X10_fail) tRZ)))))),
  (57, (sq (xLA 1) (sq (xGS 1 15 0 0) (sq (xLI 2) (sq (xDup2) (sq (xAI 15 6) (sq (xC (.int 1)) (sq (xLI 3) (sq (xI2 (fun x y => x <<< (y &&& 31))) (sq (xI2 (· ||| ·)) (sq (xTI 15 6 (fun x => x)) (sq (xLA 1) (sq (xGS 1 15 0 0) (sq (xLI 3) (sq (xDup2) (sq (xAI 15 6) (sq (xC (.int 1)) (sq (xLI 2) (sq (xI2 (fun x y => x <<< (y &&& 31))) (sq (xI2 (· ||| ·)) (sq (xTI 15 6 (fun x => x)) (sq (xC (.int 1)) tRZ))))))))))))))))))))))]
set_option maxRecDepth 100000 in
set_option maxHeartbeats 4000000 in
theorem s_X2_readBeside : ∀ X : XCtx, XE X → X.2.2.1.1 = cX2_readBeside → X.2.2.1.2.1 = 4 → X.2.2.1.2.2.1 = yX2_readBeside.cls → X.2.2.1.2.2.2.1 = (some .boolean) → X.1.2.2.2.1 = { frames := 3, cells := 0, slots := 0, locals := 63 } → SndBs X bs_X2_readBeside := by
  rintro ⟨⟨p, l, e, R, s⟩, Y, ⟨cc, nL, own, ret, Ts⟩, Z⟩ hE h1 h2 h3 h4 h5
  dsimp only at h1 h2 h3 h4 h5
  subst h1 h2 h3 h4 h5
  exact ⟨(n_sq (n_aload_n hE dX2_readBeside_0) (n_sq (n_iconst hE (by decide) dX2_readBeside_1) (n_sq (n_aload_n hE dX2_readBeside_2) (n_sq (n_getI hE xk_1 (k := 3) rfl (by decide) rfl wt_108 dX2_readBeside_3) (n_sq (n_iconst hE (by decide) dX2_readBeside_6) (n_sq (n_isub hE dX2_readBeside_7) (n_sq (n_cIv hE m_X10_passNumber vc_X2_76 (show 2 + 1 ≤ 3 ∧ 8 + (3 + 11) + 41 ≤ 63 by decide) dX2_readBeside_8) (n_ifne hE (by decide) dX2_readBeside_11)))))))),
    (n_sq (n_iconst hE (by decide) dX2_readBeside_14) (n_zreturn hE rfl dX2_readBeside_15)),
    (n_sq (n_aload_n hE dX2_readBeside_16) (n_sq (n_getI hE xk_9 (k := 4) rfl (by decide) rfl wt_46 dX2_readBeside_17) (n_sq (n_istore_n hE (show (2 : Nat) < 4 by decide) dX2_readBeside_20) (n_sq (n_aload_n hE dX2_readBeside_21) (n_sq (n_iconst hE (by decide) dX2_readBeside_22) (n_sq (n_aload_n hE dX2_readBeside_23) (n_sq (n_getI hE xk_1 (k := 3) rfl (by decide) rfl wt_108 dX2_readBeside_24) (n_sq (n_iconst hE (by decide) dX2_readBeside_27) (n_sq (n_isub hE dX2_readBeside_28) (n_sq (n_cIv hE m_X10_passNumber vc_X2_76 (show 2 + 1 ≤ 3 ∧ 8 + (3 + 11) + 41 ≤ 63 by decide) dX2_readBeside_29) (n_ifne hE (by decide) dX2_readBeside_32))))))))))),
    (n_sq (n_iconst hE (by decide) dX2_readBeside_35) (n_zreturn hE rfl dX2_readBeside_36)),
    (n_sq (n_aload_n hE dX2_readBeside_37) (n_sq (n_getI hE xk_9 (k := 4) rfl (by decide) rfl wt_46 dX2_readBeside_38) (n_sq (n_istore_n hE (show (3 : Nat) < 4 by decide) dX2_readBeside_41) (n_sq (n_iload_n hE dX2_readBeside_42) (n_sq (n_iload_n hE dX2_readBeside_43) (n_ifcne hE (by decide) dX2_readBeside_44)))))),
    (n_sq (n_aload_n hE dX2_readBeside_47) (n_sq (n_aload_n hE dX2_readBeside_48) (n_sq (n_getI hE xk_9 (k := 3) rfl (by decide) rfl wt_43 dX2_readBeside_49) (n_sq (n_iconst hE (by decide) dX2_readBeside_52) (n_sq (n_cIv hE m_X10_fail vc_X2_38 (show 0 + 1 ≤ 3 ∧ 8 + (3 + 11) + 0 ≤ 63 by decide) dX2_readBeside_53) (n_zreturn hE rfl dX2_readBeside_56)))))),
    (n_sq (n_aload_n hE dX2_readBeside_57) (n_sq (n_getS hE xk_1 (k := 8) rfl (by decide) rfl wt_129 dX2_readBeside_58) (n_sq (n_iload_n hE dX2_readBeside_61) (n_sq (n_dup2 hE dX2_readBeside_62) (n_sq (n_iald hE rfl (by decide) dX2_readBeside_63) (n_sq (n_iconst hE (by decide) dX2_readBeside_64) (n_sq (n_iload_n hE dX2_readBeside_65) (n_sq (n_ishl hE dX2_readBeside_66) (n_sq (n_ior hE dX2_readBeside_67) (n_sq (n_iast hE rfl (by decide) dX2_readBeside_68) (n_sq (n_aload_n hE dX2_readBeside_69) (n_sq (n_getS hE xk_1 (k := 8) rfl (by decide) rfl wt_129 dX2_readBeside_70) (n_sq (n_iload_n hE dX2_readBeside_73) (n_sq (n_dup2 hE dX2_readBeside_74) (n_sq (n_iald hE rfl (by decide) dX2_readBeside_75) (n_sq (n_iconst hE (by decide) dX2_readBeside_76) (n_sq (n_iload_n hE dX2_readBeside_77) (n_sq (n_ishl hE dX2_readBeside_78) (n_sq (n_ior hE dX2_readBeside_79) (n_sq (n_iast hE rfl (by decide) dX2_readBeside_80) (n_sq (n_iconst hE (by decide) dX2_readBeside_81) (n_zreturn hE rfl dX2_readBeside_82)))))))))))))))))))))), trivial⟩
noncomputable def F_X2_readBeside (as : List XV) (w : XW) : Option (Int32 × XW) := (xF 4 bs_X2_readBeside as w).bind pI
theorem m_X2_readBeside : XM yX2_readBeside cX2_readBeside 4 (some .boolean) 3 63 (eI F_X2_readBeside) := xm_I (xm_of (by decide) s_X2_readBeside)
noncomputable def q_X2_readBeside_0 (i1 : Nat) (w : XW) : Option XR := ev bs_X2_readBeside 0 ([some (.inr (9, 0)), some (.inr (1, i1)), none, none], [], w)
noncomputable def q_X2_readBeside_14 (w : XW) : Option XR := ev bs_X2_readBeside 14 ([none, none, none, none], [], w)
noncomputable def q_X2_readBeside_16 (i1 : Nat) (w : XW) : Option XR := ev bs_X2_readBeside 16 ([some (.inr (9, 0)), some (.inr (1, i1)), none, none], [], w)
noncomputable def q_X2_readBeside_35 (w : XW) : Option XR := ev bs_X2_readBeside 35 ([none, none, none, none], [], w)
noncomputable def q_X2_readBeside_37 (i1 : Nat) (x2 : Int32) (w : XW) : Option XR := ev bs_X2_readBeside 37 ([some (.inr (9, 0)), some (.inr (1, i1)), some (.inl (.int x2)), none], [], w)
noncomputable def q_X2_readBeside_47 (w : XW) : Option XR := ev bs_X2_readBeside 47 ([some (.inr (9, 0)), none, none, none], [], w)
noncomputable def q_X2_readBeside_57 (i1 : Nat) (x2 : Int32) (x3 : Int32) (w : XW) : Option XR := ev bs_X2_readBeside 57 ([none, some (.inr (1, i1)), some (.inl (.int x2)), some (.inl (.int x3))], [], w)
theorem e_X2_readBeside_0 (i1 : Nat) (w : XW) : q_X2_readBeside_0 i1 w = ((F_X10_passNumber [.inr (9, 0), .inl (.int 0), .inl (.int ((gI w 1 i1 3) - 1))] w).bind fun r0 => (bif decide (¬ r0.1 = 0) then (q_X2_readBeside_16 i1 r0.2) else (q_X2_readBeside_14 r0.2))) := (ev_eq _ _ _).trans rfl
theorem e_X2_readBeside_14 (w : XW) : q_X2_readBeside_14 w = (some (some (.inl (.int 0)), w)) := (ev_eq _ _ _).trans rfl
theorem e_X2_readBeside_16 (i1 : Nat) (w : XW) : q_X2_readBeside_16 i1 w = ((F_X10_passNumber [.inr (9, 0), .inl (.int 0), .inl (.int ((gI w 1 i1 3) - 1))] w).bind fun r0 => (bif decide (¬ r0.1 = 0) then (q_X2_readBeside_37 i1 (gI w 9 0 4) r0.2) else (q_X2_readBeside_35 r0.2))) := (ev_eq _ _ _).trans rfl
theorem e_X2_readBeside_35 (w : XW) : q_X2_readBeside_35 w = (some (some (.inl (.int 0)), w)) := (ev_eq _ _ _).trans rfl
theorem e_X2_readBeside_37 (i1 : Nat) (x2 : Int32) (w : XW) : q_X2_readBeside_37 i1 x2 w = (bif decide (¬ x2 = (gI w 9 0 4)) then (q_X2_readBeside_57 i1 x2 (gI w 9 0 4) w) else (q_X2_readBeside_47 w)) := (ev_eq _ _ _).trans rfl
theorem e_X2_readBeside_47 (w : XW) : q_X2_readBeside_47 w = ((F_X10_fail [.inr (9, 0), .inl (.int (gI w 9 0 3)), .inl (.int 1)] w).bind fun r0 => (if r0.1 = 0 ∨ r0.1 = 1 then some (some (.inl (.int r0.1)), r0.2) else none)) := (ev_eq _ _ _).trans rfl
theorem e_X2_readBeside_57 (i1 : Nat) (x2 : Int32) (x3 : Int32) (w : XW) : q_X2_readBeside_57 i1 x2 x3 w = (if x2 < 0 ∨ 6 ≤ x2.toNatClampNeg then none else (if x2 < 0 ∨ 6 ≤ x2.toNatClampNeg then none else (if x3 < 0 ∨ 6 ≤ x3.toNatClampNeg then none else (if x3 < 0 ∨ 6 ≤ x3.toNatClampNeg then none else (some (some (.inl (.int 1)), sI (sI w 15 i1 x2.toNatClampNeg ((gI w 15 i1 x2.toNatClampNeg) ||| ((1 : Int32) <<< ((x3 : Int32) &&& 31)))) 15 i1 x3.toNatClampNeg ((gI (sI w 15 i1 x2.toNatClampNeg ((gI w 15 i1 x2.toNatClampNeg) ||| ((1 : Int32) <<< ((x3 : Int32) &&& 31)))) 15 i1 x3.toNatClampNeg) ||| ((1 : Int32) <<< ((x2 : Int32) &&& 31))))))))) := (ev_eq _ _ _).trans rfl
theorem f_X2_readBeside (i1 : Nat) (w : XW) : F_X2_readBeside [.inr (9, 0), .inr (1, i1)] w = (q_X2_readBeside_0 i1 w).bind pI := rfl

-- WinterKeep$RuleReader.passCompare(LWinterKeep$Tape;)I
theorem dX8_passCompare_0 : decode cX8_passCompare 0 = .ok (.aload_n 0, 1) := by decide +kernel
theorem dX8_passCompare_1 : decode cX8_passCompare 1 = .ok (.aload_n 0, 1) := by decide +kernel
theorem dX8_passCompare_2 : decode cX8_passCompare 2 = .ok (.getfield 62, 3) := by decide +kernel
theorem dX8_passCompare_5 : decode cX8_passCompare 5 = .ok (.invokevirtual 99, 3) := by decide +kernel
theorem dX8_passCompare_8 : decode cX8_passCompare 8 = .ok (.istore_n 1, 1) := by decide +kernel
theorem dX8_passCompare_9 : decode cX8_passCompare 9 = .ok (.iload_n 1, 1) := by decide +kernel
theorem dX8_passCompare_10 : decode cX8_passCompare 10 = .ok (.bipush 60, 2) := by decide +kernel
theorem dX8_passCompare_12 : decode cX8_passCompare 12 = .ok (.if_icmp .eq 17, 3) := by decide +kernel
theorem dX8_passCompare_15 : decode cX8_passCompare 15 = .ok (.iload_n 1, 1) := by decide +kernel
theorem dX8_passCompare_16 : decode cX8_passCompare 16 = .ok (.bipush 61, 2) := by decide +kernel
theorem dX8_passCompare_18 : decode cX8_passCompare 18 = .ok (.if_icmp .eq 11, 3) := by decide +kernel
theorem dX8_passCompare_21 : decode cX8_passCompare 21 = .ok (.iload_n 1, 1) := by decide +kernel
theorem dX8_passCompare_22 : decode cX8_passCompare 22 = .ok (.bipush 62, 2) := by decide +kernel
theorem dX8_passCompare_24 : decode cX8_passCompare 24 = .ok (.if_icmp .eq 5, 3) := by decide +kernel
theorem dX8_passCompare_27 : decode cX8_passCompare 27 = .ok (.iconst 0, 1) := by decide +kernel
theorem dX8_passCompare_28 : decode cX8_passCompare 28 = .ok (.ireturn, 1) := by decide +kernel
theorem dX8_passCompare_29 : decode cX8_passCompare 29 = .ok (.aload_n 0, 1) := by decide +kernel
theorem dX8_passCompare_30 : decode cX8_passCompare 30 = .ok (.dup, 1) := by decide +kernel
theorem dX8_passCompare_31 : decode cX8_passCompare 31 = .ok (.getfield 62, 3) := by decide +kernel
theorem dX8_passCompare_34 : decode cX8_passCompare 34 = .ok (.iconst 1, 1) := by decide +kernel
theorem dX8_passCompare_35 : decode cX8_passCompare 35 = .ok (.iadd, 1) := by decide +kernel
theorem dX8_passCompare_36 : decode cX8_passCompare 36 = .ok (.putfield 62, 3) := by decide +kernel
theorem dX8_passCompare_39 : decode cX8_passCompare 39 = .ok (.iload_n 1, 1) := by decide +kernel
theorem dX8_passCompare_40 : decode cX8_passCompare 40 = .ok (.bipush 61, 2) := by decide +kernel
theorem dX8_passCompare_42 : decode cX8_passCompare 42 = .ok (.if_icmp .ne 6, 3) := by decide +kernel
theorem dX8_passCompare_45 : decode cX8_passCompare 45 = .ok (.bipush (-27), 2) := by decide +kernel
theorem dX8_passCompare_47 : decode cX8_passCompare 47 = .ok (.ireturn, 1) := by decide +kernel
theorem dX8_passCompare_48 : decode cX8_passCompare 48 = .ok (.aload_n 0, 1) := by decide +kernel
theorem dX8_passCompare_49 : decode cX8_passCompare 49 = .ok (.aload_n 0, 1) := by decide +kernel
theorem dX8_passCompare_50 : decode cX8_passCompare 50 = .ok (.getfield 62, 3) := by decide +kernel
theorem dX8_passCompare_53 : decode cX8_passCompare 53 = .ok (.invokevirtual 99, 3) := by decide +kernel
theorem dX8_passCompare_56 : decode cX8_passCompare 56 = .ok (.bipush 61, 2) := by decide +kernel
theorem dX8_passCompare_58 : decode cX8_passCompare 58 = .ok (.if_icmp .ne 27, 3) := by decide +kernel
theorem dX8_passCompare_61 : decode cX8_passCompare 61 = .ok (.aload_n 0, 1) := by decide +kernel
theorem dX8_passCompare_62 : decode cX8_passCompare 62 = .ok (.dup, 1) := by decide +kernel
theorem dX8_passCompare_63 : decode cX8_passCompare 63 = .ok (.getfield 62, 3) := by decide +kernel
theorem dX8_passCompare_66 : decode cX8_passCompare 66 = .ok (.iconst 1, 1) := by decide +kernel
theorem dX8_passCompare_67 : decode cX8_passCompare 67 = .ok (.iadd, 1) := by decide +kernel
theorem dX8_passCompare_68 : decode cX8_passCompare 68 = .ok (.putfield 62, 3) := by decide +kernel
theorem dX8_passCompare_71 : decode cX8_passCompare 71 = .ok (.iload_n 1, 1) := by decide +kernel
theorem dX8_passCompare_72 : decode cX8_passCompare 72 = .ok (.bipush 60, 2) := by decide +kernel
theorem dX8_passCompare_74 : decode cX8_passCompare 74 = .ok (.if_icmp .ne 8, 3) := by decide +kernel
theorem dX8_passCompare_77 : decode cX8_passCompare 77 = .ok (.bipush (-26), 2) := by decide +kernel
theorem dX8_passCompare_79 : decode cX8_passCompare 79 = .ok (.goto 5, 3) := by decide +kernel
theorem dX8_passCompare_82 : decode cX8_passCompare 82 = .ok (.bipush (-28), 2) := by decide +kernel
theorem dX8_passCompare_84 : decode cX8_passCompare 84 = .ok (.ireturn, 1) := by decide +kernel
theorem dX8_passCompare_85 : decode cX8_passCompare 85 = .ok (.iload_n 1, 1) := by decide +kernel
theorem dX8_passCompare_86 : decode cX8_passCompare 86 = .ok (.bipush 60, 2) := by decide +kernel
theorem dX8_passCompare_88 : decode cX8_passCompare 88 = .ok (.if_icmp .ne 8, 3) := by decide +kernel
theorem dX8_passCompare_91 : decode cX8_passCompare 91 = .ok (.bipush (-25), 2) := by decide +kernel
theorem dX8_passCompare_93 : decode cX8_passCompare 93 = .ok (.goto 5, 3) := by decide +kernel
theorem dX8_passCompare_96 : decode cX8_passCompare 96 = .ok (.bipush (-29), 2) := by decide +kernel
theorem dX8_passCompare_98 : decode cX8_passCompare 98 = .ok (.ireturn, 1) := by decide +kernel
theorem vc_X8_99 : XVw RX8 99 1 9 2 yX10_byteAt cX10_byteAt (some .int) := ⟨RX10, TX10, tyX10, 6, xk_9, rfl, ⟨by decide, by decide⟩, by decide +kernel, wt_558, wt_413, wt_414, wt_2, wt_415⟩
noncomputable def bs_X8_passCompare : List (Nat × XB) := [
  (0, (sq (xLA 0) (sq (xLA 0) (sq (xGI 9 2) (sq (xCI 9 2 F_X10_byteAt) (sq (xSI 1) (sq (xLI 1) (sq (xC (.int 60)) (tIf2 (fun x y => decide (x = y)) 29 [true, true] 15 [true, true]))))))))),
  (15, (sq (xLI 1) (sq (xC (.int 61)) (tIf2 (fun x y => decide (x = y)) 29 [true, true] 21 [true, true])))),
  (21, (sq (xLI 1) (sq (xC (.int 62)) (tIf2 (fun x y => decide (x = y)) 29 [true, true] 27 [false, false])))),
  (27, (sq (xC (.int 0)) tRI)),
  (29, (sq (xLA 0) (sq (xDup) (sq (xGI 9 2) (sq (xC (.int 1)) (sq (xI2 (· + ·)) (sq (xPI 9 2) (sq (xLI 1) (sq (xC (.int 61)) (tIf2 (fun x y => decide (¬ x = y)) 48 [true, true] 45 [false, false])))))))))),
  (45, (sq (xC (.int (-27))) tRI)),
  (48, (sq (xLA 0) (sq (xLA 0) (sq (xGI 9 2) (sq (xCI 9 2 F_X10_byteAt) (sq (xC (.int 61)) (tIf2 (fun x y => decide (¬ x = y)) 85 [false, true] 61 [true, true]))))))),
  (61, (sq (xLA 0) (sq (xDup) (sq (xGI 9 2) (sq (xC (.int 1)) (sq (xI2 (· + ·)) (sq (xPI 9 2) (sq (xLI 1) (sq (xC (.int 60)) (tIf2 (fun x y => decide (¬ x = y)) 82 [false, false] 77 [false, false])))))))))),
  (77, (sq (xC (.int (-26))) (tGo 84 [false, false]))),
  (82, (sq (xC (.int (-28))) (tGo 84 [false, false]))),
  (84, tRI),
  (85, (sq (xLI 1) (sq (xC (.int 60)) (tIf2 (fun x y => decide (¬ x = y)) 96 [false, false] 91 [false, false])))),
  (91, (sq (xC (.int (-25))) (tGo 98 [false, false]))),
  (96, (sq (xC (.int (-29))) (tGo 98 [false, false]))),
  (98, tRI)]
set_option maxRecDepth 100000 in
set_option maxHeartbeats 4000000 in
theorem s_X8_passCompare : ∀ X : XCtx, XE X → X.2.2.1.1 = cX8_passCompare → X.2.2.1.2.1 = 2 → X.2.2.1.2.2.1 = yX8_passCompare.cls → X.2.2.1.2.2.2.1 = (some .int) → X.1.2.2.2.1 = { frames := 1, cells := 0, slots := 0, locals := 21 } → SndBs X bs_X8_passCompare := by
  rintro ⟨⟨p, l, e, R, s⟩, Y, ⟨cc, nL, own, ret, Ts⟩, Z⟩ hE h1 h2 h3 h4 h5
  dsimp only at h1 h2 h3 h4 h5
  subst h1 h2 h3 h4 h5
  exact ⟨(n_sq (n_aload_n hE dX8_passCompare_0) (n_sq (n_aload_n hE dX8_passCompare_1) (n_sq (n_getI hE xk_9 (k := 2) rfl (by decide) rfl wt_41 dX8_passCompare_2) (n_sq (n_cIv hE m_X10_byteAt vc_X8_99 (show 0 + 1 ≤ 1 ∧ 8 + (2 + 11) + 0 ≤ 21 by decide) dX8_passCompare_5) (n_sq (n_istore_n hE (show (1 : Nat) < 2 by decide) dX8_passCompare_8) (n_sq (n_iload_n hE dX8_passCompare_9) (n_sq (n_bipush hE (by decide) dX8_passCompare_10) (n_ifceq hE (by decide) dX8_passCompare_12)))))))),
    (n_sq (n_iload_n hE dX8_passCompare_15) (n_sq (n_bipush hE (by decide) dX8_passCompare_16) (n_ifceq hE (by decide) dX8_passCompare_18))),
    (n_sq (n_iload_n hE dX8_passCompare_21) (n_sq (n_bipush hE (by decide) dX8_passCompare_22) (n_ifceq hE (by decide) dX8_passCompare_24))),
    (n_sq (n_iconst hE (by decide) dX8_passCompare_27) (n_ireturn hE rfl dX8_passCompare_28)),
    (n_sq (n_aload_n hE dX8_passCompare_29) (n_sq (n_dup hE dX8_passCompare_30) (n_sq (n_getI hE xk_9 (k := 2) rfl (by decide) rfl wt_41 dX8_passCompare_31) (n_sq (n_iconst hE (by decide) dX8_passCompare_34) (n_sq (n_iadd hE dX8_passCompare_35) (n_sq (n_putI hE xk_9 (k := 2) rfl (by decide) rfl rfl (tyX10_ok 2 (by decide)) wt_41 dX8_passCompare_36) (n_sq (n_iload_n hE dX8_passCompare_39) (n_sq (n_bipush hE (by decide) dX8_passCompare_40) (n_ifcne hE (by decide) dX8_passCompare_42))))))))),
    (n_sq (n_bipush hE (by decide) dX8_passCompare_45) (n_ireturn hE rfl dX8_passCompare_47)),
    (n_sq (n_aload_n hE dX8_passCompare_48) (n_sq (n_aload_n hE dX8_passCompare_49) (n_sq (n_getI hE xk_9 (k := 2) rfl (by decide) rfl wt_41 dX8_passCompare_50) (n_sq (n_cIv hE m_X10_byteAt vc_X8_99 (show 0 + 1 ≤ 1 ∧ 8 + (2 + 11) + 0 ≤ 21 by decide) dX8_passCompare_53) (n_sq (n_bipush hE (by decide) dX8_passCompare_56) (n_ifcne hE (by decide) dX8_passCompare_58)))))),
    (n_sq (n_aload_n hE dX8_passCompare_61) (n_sq (n_dup hE dX8_passCompare_62) (n_sq (n_getI hE xk_9 (k := 2) rfl (by decide) rfl wt_41 dX8_passCompare_63) (n_sq (n_iconst hE (by decide) dX8_passCompare_66) (n_sq (n_iadd hE dX8_passCompare_67) (n_sq (n_putI hE xk_9 (k := 2) rfl (by decide) rfl rfl (tyX10_ok 2 (by decide)) wt_41 dX8_passCompare_68) (n_sq (n_iload_n hE dX8_passCompare_71) (n_sq (n_bipush hE (by decide) dX8_passCompare_72) (n_ifcne hE (by decide) dX8_passCompare_74))))))))),
    (n_sq (n_bipush hE (by decide) dX8_passCompare_77) (n_goto hE (by decide) dX8_passCompare_79)),
    (n_sq (n_bipush hE (by decide) dX8_passCompare_82) n_fall),
    (n_ireturn hE rfl dX8_passCompare_84),
    (n_sq (n_iload_n hE dX8_passCompare_85) (n_sq (n_bipush hE (by decide) dX8_passCompare_86) (n_ifcne hE (by decide) dX8_passCompare_88))),
    (n_sq (n_bipush hE (by decide) dX8_passCompare_91) (n_goto hE (by decide) dX8_passCompare_93)),
    (n_sq (n_bipush hE (by decide) dX8_passCompare_96) n_fall),
    (n_ireturn hE rfl dX8_passCompare_98), trivial⟩
noncomputable def F_X8_passCompare (as : List XV) (w : XW) : Option (Int32 × XW) := (xF 2 bs_X8_passCompare as w).bind pI
theorem m_X8_passCompare : XM yX8_passCompare cX8_passCompare 2 (some .int) 1 21 (eI F_X8_passCompare) := xm_I (xm_of (by decide) s_X8_passCompare)
noncomputable def q_X8_passCompare_0 (w : XW) : Option XR := ev bs_X8_passCompare 0 ([some (.inr (9, 0)), none], [], w)
noncomputable def q_X8_passCompare_15 (x1 : Int32) (w : XW) : Option XR := ev bs_X8_passCompare 15 ([some (.inr (9, 0)), some (.inl (.int x1))], [], w)
noncomputable def q_X8_passCompare_21 (x1 : Int32) (w : XW) : Option XR := ev bs_X8_passCompare 21 ([some (.inr (9, 0)), some (.inl (.int x1))], [], w)
noncomputable def q_X8_passCompare_27 (w : XW) : Option XR := ev bs_X8_passCompare 27 ([none, none], [], w)
noncomputable def q_X8_passCompare_29 (x1 : Int32) (w : XW) : Option XR := ev bs_X8_passCompare 29 ([some (.inr (9, 0)), some (.inl (.int x1))], [], w)
noncomputable def q_X8_passCompare_45 (w : XW) : Option XR := ev bs_X8_passCompare 45 ([none, none], [], w)
noncomputable def q_X8_passCompare_48 (x1 : Int32) (w : XW) : Option XR := ev bs_X8_passCompare 48 ([some (.inr (9, 0)), some (.inl (.int x1))], [], w)
noncomputable def q_X8_passCompare_61 (x1 : Int32) (w : XW) : Option XR := ev bs_X8_passCompare 61 ([some (.inr (9, 0)), some (.inl (.int x1))], [], w)
noncomputable def q_X8_passCompare_77 (w : XW) : Option XR := ev bs_X8_passCompare 77 ([none, none], [], w)
noncomputable def q_X8_passCompare_82 (w : XW) : Option XR := ev bs_X8_passCompare 82 ([none, none], [], w)
noncomputable def q_X8_passCompare_84 (s0 : Int32) (w : XW) : Option XR := ev bs_X8_passCompare 84 ([none, none], [.inl (.int s0)], w)
noncomputable def q_X8_passCompare_85 (x1 : Int32) (w : XW) : Option XR := ev bs_X8_passCompare 85 ([none, some (.inl (.int x1))], [], w)
noncomputable def q_X8_passCompare_91 (w : XW) : Option XR := ev bs_X8_passCompare 91 ([none, none], [], w)
noncomputable def q_X8_passCompare_96 (w : XW) : Option XR := ev bs_X8_passCompare 96 ([none, none], [], w)
noncomputable def q_X8_passCompare_98 (s0 : Int32) (w : XW) : Option XR := ev bs_X8_passCompare 98 ([none, none], [.inl (.int s0)], w)
theorem e_X8_passCompare_0 (w : XW) : q_X8_passCompare_0 w = ((F_X10_byteAt [.inr (9, 0), .inl (.int (gI w 9 0 2))] w).bind fun r0 => (bif decide (r0.1 = 60) then (q_X8_passCompare_29 r0.1 r0.2) else (q_X8_passCompare_15 r0.1 r0.2))) := (ev_eq _ _ _).trans rfl
theorem e_X8_passCompare_15 (x1 : Int32) (w : XW) : q_X8_passCompare_15 x1 w = (bif decide (x1 = 61) then (q_X8_passCompare_29 x1 w) else (q_X8_passCompare_21 x1 w)) := (ev_eq _ _ _).trans rfl
theorem e_X8_passCompare_21 (x1 : Int32) (w : XW) : q_X8_passCompare_21 x1 w = (bif decide (x1 = 62) then (q_X8_passCompare_29 x1 w) else (q_X8_passCompare_27 w)) := (ev_eq _ _ _).trans rfl
theorem e_X8_passCompare_27 (w : XW) : q_X8_passCompare_27 w = (some (some (.inl (.int 0)), w)) := (ev_eq _ _ _).trans rfl
theorem e_X8_passCompare_29 (x1 : Int32) (w : XW) : q_X8_passCompare_29 x1 w = (bif decide (¬ x1 = 61) then (q_X8_passCompare_48 x1 (sI w 9 0 2 ((gI w 9 0 2) + 1))) else (q_X8_passCompare_45 (sI w 9 0 2 ((gI w 9 0 2) + 1)))) := (ev_eq _ _ _).trans rfl
theorem e_X8_passCompare_45 (w : XW) : q_X8_passCompare_45 w = (some (some (.inl (.int (-27))), w)) := (ev_eq _ _ _).trans rfl
theorem e_X8_passCompare_48 (x1 : Int32) (w : XW) : q_X8_passCompare_48 x1 w = ((F_X10_byteAt [.inr (9, 0), .inl (.int (gI w 9 0 2))] w).bind fun r0 => (bif decide (¬ r0.1 = 61) then (q_X8_passCompare_85 x1 r0.2) else (q_X8_passCompare_61 x1 r0.2))) := (ev_eq _ _ _).trans rfl
theorem e_X8_passCompare_61 (x1 : Int32) (w : XW) : q_X8_passCompare_61 x1 w = (bif decide (¬ x1 = 60) then (q_X8_passCompare_82 (sI w 9 0 2 ((gI w 9 0 2) + 1))) else (q_X8_passCompare_77 (sI w 9 0 2 ((gI w 9 0 2) + 1)))) := (ev_eq _ _ _).trans rfl
theorem e_X8_passCompare_77 (w : XW) : q_X8_passCompare_77 w = (q_X8_passCompare_84 (-26) w) := (ev_eq _ _ _).trans rfl
theorem e_X8_passCompare_82 (w : XW) : q_X8_passCompare_82 w = (q_X8_passCompare_84 (-28) w) := (ev_eq _ _ _).trans rfl
theorem e_X8_passCompare_84 (s0 : Int32) (w : XW) : q_X8_passCompare_84 s0 w = (some (some (.inl (.int s0)), w)) := (ev_eq _ _ _).trans rfl
theorem e_X8_passCompare_85 (x1 : Int32) (w : XW) : q_X8_passCompare_85 x1 w = (bif decide (¬ x1 = 60) then (q_X8_passCompare_96 w) else (q_X8_passCompare_91 w)) := (ev_eq _ _ _).trans rfl
theorem e_X8_passCompare_91 (w : XW) : q_X8_passCompare_91 w = (q_X8_passCompare_98 (-25) w) := (ev_eq _ _ _).trans rfl
theorem e_X8_passCompare_96 (w : XW) : q_X8_passCompare_96 w = (q_X8_passCompare_98 (-29) w) := (ev_eq _ _ _).trans rfl
theorem e_X8_passCompare_98 (s0 : Int32) (w : XW) : q_X8_passCompare_98 s0 w = (some (some (.inl (.int s0)), w)) := (ev_eq _ _ _).trans rfl
theorem f_X8_passCompare (w : XW) : F_X8_passCompare [.inr (9, 0)] w = (q_X8_passCompare_0 w).bind pI := rfl

-- WinterKeep$RuleReader.stepOf(I)I
theorem dX8_stepOf_0 : decode cX8_stepOf 0 = .ok (.iload_n 0, 1) := by decide +kernel
theorem dX8_stepOf_1 : decode cX8_stepOf 1 = .ok (.tableswitch 74 37 47 #[71, 74, 74, 74, 74, 65, 59, 74, 62, 74, 68], 59) := by decide +kernel
theorem dX8_stepOf_60 : decode cX8_stepOf 60 = .ok (.bipush (-20), 2) := by decide +kernel
theorem dX8_stepOf_62 : decode cX8_stepOf 62 = .ok (.ireturn, 1) := by decide +kernel
theorem dX8_stepOf_63 : decode cX8_stepOf 63 = .ok (.bipush (-21), 2) := by decide +kernel
theorem dX8_stepOf_65 : decode cX8_stepOf 65 = .ok (.ireturn, 1) := by decide +kernel
theorem dX8_stepOf_66 : decode cX8_stepOf 66 = .ok (.bipush (-22), 2) := by decide +kernel
theorem dX8_stepOf_68 : decode cX8_stepOf 68 = .ok (.ireturn, 1) := by decide +kernel
theorem dX8_stepOf_69 : decode cX8_stepOf 69 = .ok (.bipush (-23), 2) := by decide +kernel
theorem dX8_stepOf_71 : decode cX8_stepOf 71 = .ok (.ireturn, 1) := by decide +kernel
theorem dX8_stepOf_72 : decode cX8_stepOf 72 = .ok (.bipush (-24), 2) := by decide +kernel
theorem dX8_stepOf_74 : decode cX8_stepOf 74 = .ok (.ireturn, 1) := by decide +kernel
theorem dX8_stepOf_75 : decode cX8_stepOf 75 = .ok (.iconst 0, 1) := by decide +kernel
theorem dX8_stepOf_76 : decode cX8_stepOf 76 = .ok (.ireturn, 1) := by decide +kernel
noncomputable def bs_X8_stepOf : List (Nat × XB) := [
  (0, (sq (xLI 0) (tSw [(37, 72), (38, 75), (39, 75), (40, 75), (41, 75), (42, 66), (43, 60), (44, 75), (45, 63), (46, 75), (47, 69)] 75 [false]))),
  (60, (sq (xC (.int (-20))) tRI)),
  (63, (sq (xC (.int (-21))) tRI)),
  (66, (sq (xC (.int (-22))) tRI)),
  (69, (sq (xC (.int (-23))) tRI)),
  (72, (sq (xC (.int (-24))) tRI)),
  (75, (sq (xC (.int 0)) tRI))]
set_option maxRecDepth 100000 in
set_option maxHeartbeats 4000000 in
theorem s_X8_stepOf : ∀ X : XCtx, XE X → X.2.2.1.1 = cX8_stepOf → X.2.2.1.2.1 = 1 → X.2.2.1.2.2.1 = yX8_stepOf.cls → X.2.2.1.2.2.2.1 = (some .int) → X.1.2.2.2.1 = { frames := 0, cells := 0, slots := 0, locals := 0 } → SndBs X bs_X8_stepOf := by
  rintro ⟨⟨p, l, e, R, s⟩, Y, ⟨cc, nL, own, ret, Ts⟩, Z⟩ hE h1 h2 h3 h4 h5
  dsimp only at h1 h2 h3 h4 h5
  subst h1 h2 h3 h4 h5
  exact ⟨(n_sq (n_iload_n hE dX8_stepOf_0) (n_switch hE (lo32 := 37) (ts := [72, 75, 75, 75, 75, 66, 60, 75, 63, 75, 69]) (by decide) (by decide) (by decide) (by decide) (by decide) (by decide) dX8_stepOf_1)),
    (n_sq (n_bipush hE (by decide) dX8_stepOf_60) (n_ireturn hE rfl dX8_stepOf_62)),
    (n_sq (n_bipush hE (by decide) dX8_stepOf_63) (n_ireturn hE rfl dX8_stepOf_65)),
    (n_sq (n_bipush hE (by decide) dX8_stepOf_66) (n_ireturn hE rfl dX8_stepOf_68)),
    (n_sq (n_bipush hE (by decide) dX8_stepOf_69) (n_ireturn hE rfl dX8_stepOf_71)),
    (n_sq (n_bipush hE (by decide) dX8_stepOf_72) (n_ireturn hE rfl dX8_stepOf_74)),
    (n_sq (n_iconst hE (by decide) dX8_stepOf_75) (n_ireturn hE rfl dX8_stepOf_76)), trivial⟩
noncomputable def F_X8_stepOf (as : List XV) (w : XW) : Option (Int32 × XW) := (xF 1 bs_X8_stepOf as w).bind pI
theorem m_X8_stepOf : XM yX8_stepOf cX8_stepOf 1 (some .int) 0 0 (eI F_X8_stepOf) := xm_I (xm_of (by decide) s_X8_stepOf)
noncomputable def q_X8_stepOf_0 (x0 : Int32) (w : XW) : Option XR := ev bs_X8_stepOf 0 ([some (.inl (.int x0))], [], w)
noncomputable def q_X8_stepOf_60 (w : XW) : Option XR := ev bs_X8_stepOf 60 ([none], [], w)
noncomputable def q_X8_stepOf_63 (w : XW) : Option XR := ev bs_X8_stepOf 63 ([none], [], w)
noncomputable def q_X8_stepOf_66 (w : XW) : Option XR := ev bs_X8_stepOf 66 ([none], [], w)
noncomputable def q_X8_stepOf_69 (w : XW) : Option XR := ev bs_X8_stepOf 69 ([none], [], w)
noncomputable def q_X8_stepOf_72 (w : XW) : Option XR := ev bs_X8_stepOf 72 ([none], [], w)
noncomputable def q_X8_stepOf_75 (w : XW) : Option XR := ev bs_X8_stepOf 75 ([none], [], w)
theorem e_X8_stepOf_0 (x0 : Int32) (w : XW) : q_X8_stepOf_0 x0 w = (bif x0 == 37 then (q_X8_stepOf_72 w) else (bif x0 == 38 then (q_X8_stepOf_75 w) else (bif x0 == 39 then (q_X8_stepOf_75 w) else (bif x0 == 40 then (q_X8_stepOf_75 w) else (bif x0 == 41 then (q_X8_stepOf_75 w) else (bif x0 == 42 then (q_X8_stepOf_66 w) else (bif x0 == 43 then (q_X8_stepOf_60 w) else (bif x0 == 44 then (q_X8_stepOf_75 w) else (bif x0 == 45 then (q_X8_stepOf_63 w) else (bif x0 == 46 then (q_X8_stepOf_75 w) else (bif x0 == 47 then (q_X8_stepOf_69 w) else (q_X8_stepOf_75 w)))))))))))) := (ev_eq _ _ _).trans rfl
theorem e_X8_stepOf_60 (w : XW) : q_X8_stepOf_60 w = (some (some (.inl (.int (-20))), w)) := (ev_eq _ _ _).trans rfl
theorem e_X8_stepOf_63 (w : XW) : q_X8_stepOf_63 w = (some (some (.inl (.int (-21))), w)) := (ev_eq _ _ _).trans rfl
theorem e_X8_stepOf_66 (w : XW) : q_X8_stepOf_66 w = (some (some (.inl (.int (-22))), w)) := (ev_eq _ _ _).trans rfl
theorem e_X8_stepOf_69 (w : XW) : q_X8_stepOf_69 w = (some (some (.inl (.int (-23))), w)) := (ev_eq _ _ _).trans rfl
theorem e_X8_stepOf_72 (w : XW) : q_X8_stepOf_72 w = (some (some (.inl (.int (-24))), w)) := (ev_eq _ _ _).trans rfl
theorem e_X8_stepOf_75 (w : XW) : q_X8_stepOf_75 w = (some (some (.inl (.int 0)), w)) := (ev_eq _ _ _).trans rfl
theorem f_X8_stepOf (x0 : Int32) (w : XW) : F_X8_stepOf [.inl (.int x0)] w = (q_X8_stepOf_0 x0 w).bind pI := rfl

-- WinterKeep$RuleReader.isCounted(LWinterKeep$Tape;I)Z
theorem dX8_isCounted_0 : decode cX8_isCounted 0 = .ok (.aload_n 0, 1) := by decide +kernel
theorem dX8_isCounted_1 : decode cX8_isCounted 1 = .ok (.dup, 1) := by decide +kernel
theorem dX8_isCounted_2 : decode cX8_isCounted 2 = .ok (.getfield 25, 3) := by decide +kernel
theorem dX8_isCounted_5 : decode cX8_isCounted 5 = .ok (.iconst 1, 1) := by decide +kernel
theorem dX8_isCounted_6 : decode cX8_isCounted 6 = .ok (.iadd, 1) := by decide +kernel
theorem dX8_isCounted_7 : decode cX8_isCounted 7 = .ok (.putfield 25, 3) := by decide +kernel
theorem dX8_isCounted_10 : decode cX8_isCounted 10 = .ok (.aload_n 0, 1) := by decide +kernel
theorem dX8_isCounted_11 : decode cX8_isCounted 11 = .ok (.getfield 25, 3) := by decide +kernel
theorem dX8_isCounted_14 : decode cX8_isCounted 14 = .ok (.bipush 60, 2) := by decide +kernel
theorem dX8_isCounted_16 : decode cX8_isCounted 16 = .ok (.if_icmp .le 12, 3) := by decide +kernel
theorem dX8_isCounted_19 : decode cX8_isCounted 19 = .ok (.aload_n 1, 1) := by decide +kernel
theorem dX8_isCounted_20 : decode cX8_isCounted 20 = .ok (.iload_n 2, 1) := by decide +kernel
theorem dX8_isCounted_21 : decode cX8_isCounted 21 = .ok (.iconst 3, 1) := by decide +kernel
theorem dX8_isCounted_22 : decode cX8_isCounted 22 = .ok (.invokevirtual 65, 3) := by decide +kernel
theorem dX8_isCounted_25 : decode cX8_isCounted 25 = .ok (.ifCond .eq 7, 3) := by decide +kernel
theorem dX8_isCounted_28 : decode cX8_isCounted 28 = .ok (.iconst 1, 1) := by decide +kernel
theorem dX8_isCounted_29 : decode cX8_isCounted 29 = .ok (.goto 4, 3) := by decide +kernel
theorem dX8_isCounted_32 : decode cX8_isCounted 32 = .ok (.iconst 0, 1) := by decide +kernel
theorem dX8_isCounted_33 : decode cX8_isCounted 33 = .ok (.ireturn, 1) := by decide +kernel
theorem vc_X8_65 : XVw RX8 65 2 9 3 yX10_fail cX10_fail (some .boolean) := ⟨RX10, TX10, tyX10, 6, xk_9, rfl, ⟨by decide, by decide⟩, by decide +kernel, wt_520, wt_469, wt_470, wt_2, wt_471⟩
noncomputable def bs_X8_isCounted : List (Nat × XB) := [
  (0, (sq (xLA 0) (sq (xDup) (sq (xGI 7 4) (sq (xC (.int 1)) (sq (xI2 (· + ·)) (sq (xPI 7 4) (sq (xLA 0) (sq (xGI 7 4) (sq (xC (.int 60)) (tIf2 (fun x y => decide (x ≤ y)) 28 [false, false, false] 19 [false, true, true]))))))))))),
  (19, (sq (xLA 1) (sq (xLI 2) (sq (xC (.int 3)) (sq (xCI 9 3 F_X10_fail) (tIf1 (fun x => decide (x = 0)) 32 [false, false, false] 28 [false, false, false])))))),
  (28, (sq (xC (.int 1)) (tGo 33 [false, false, false]))),
  (32, (sq (xC (.int 0)) (tGo 33 [false, false, false]))),
  (33, tRZ)]
set_option maxRecDepth 100000 in
set_option maxHeartbeats 4000000 in
theorem s_X8_isCounted : ∀ X : XCtx, XE X → X.2.2.1.1 = cX8_isCounted → X.2.2.1.2.1 = 3 → X.2.2.1.2.2.1 = yX8_isCounted.cls → X.2.2.1.2.2.2.1 = (some .boolean) → X.1.2.2.2.1 = { frames := 1, cells := 0, slots := 0, locals := 22 } → SndBs X bs_X8_isCounted := by
  rintro ⟨⟨p, l, e, R, s⟩, Y, ⟨cc, nL, own, ret, Ts⟩, Z⟩ hE h1 h2 h3 h4 h5
  dsimp only at h1 h2 h3 h4 h5
  subst h1 h2 h3 h4 h5
  exact ⟨(n_sq (n_aload_n hE dX8_isCounted_0) (n_sq (n_dup hE dX8_isCounted_1) (n_sq (n_getI hE xk_7 (k := 4) rfl (by decide) rfl wt_74 dX8_isCounted_2) (n_sq (n_iconst hE (by decide) dX8_isCounted_5) (n_sq (n_iadd hE dX8_isCounted_6) (n_sq (n_putI hE xk_7 (k := 4) rfl (by decide) rfl rfl (tyX8_ok 4 (by decide)) wt_74 dX8_isCounted_7) (n_sq (n_aload_n hE dX8_isCounted_10) (n_sq (n_getI hE xk_7 (k := 4) rfl (by decide) rfl wt_74 dX8_isCounted_11) (n_sq (n_bipush hE (by decide) dX8_isCounted_14) (n_ifcle hE (by decide) dX8_isCounted_16)))))))))),
    (n_sq (n_aload_n hE dX8_isCounted_19) (n_sq (n_iload_n hE dX8_isCounted_20) (n_sq (n_iconst hE (by decide) dX8_isCounted_21) (n_sq (n_cIv hE m_X10_fail vc_X8_65 (show 0 + 1 ≤ 1 ∧ 8 + (3 + 11) + 0 ≤ 22 by decide) dX8_isCounted_22) (n_ifeq hE (by decide) dX8_isCounted_25))))),
    (n_sq (n_iconst hE (by decide) dX8_isCounted_28) (n_goto hE (by decide) dX8_isCounted_29)),
    (n_sq (n_iconst hE (by decide) dX8_isCounted_32) n_fall),
    (n_zreturn hE rfl dX8_isCounted_33), trivial⟩
noncomputable def F_X8_isCounted (as : List XV) (w : XW) : Option (Int32 × XW) := (xF 3 bs_X8_isCounted as w).bind pI
theorem m_X8_isCounted : XM yX8_isCounted cX8_isCounted 3 (some .boolean) 1 22 (eI F_X8_isCounted) := xm_I (xm_of (by decide) s_X8_isCounted)
noncomputable def q_X8_isCounted_0 (x2 : Int32) (w : XW) : Option XR := ev bs_X8_isCounted 0 ([some (.inr (7, 0)), some (.inr (9, 0)), some (.inl (.int x2))], [], w)
noncomputable def q_X8_isCounted_19 (x2 : Int32) (w : XW) : Option XR := ev bs_X8_isCounted 19 ([none, some (.inr (9, 0)), some (.inl (.int x2))], [], w)
noncomputable def q_X8_isCounted_28 (w : XW) : Option XR := ev bs_X8_isCounted 28 ([none, none, none], [], w)
noncomputable def q_X8_isCounted_32 (w : XW) : Option XR := ev bs_X8_isCounted 32 ([none, none, none], [], w)
noncomputable def q_X8_isCounted_33 (s0 : Int32) (w : XW) : Option XR := ev bs_X8_isCounted 33 ([none, none, none], [.inl (.int s0)], w)
theorem e_X8_isCounted_0 (x2 : Int32) (w : XW) : q_X8_isCounted_0 x2 w = (bif decide ((gI (sI w 7 0 4 ((gI w 7 0 4) + 1)) 7 0 4) ≤ 60) then (q_X8_isCounted_28 (sI w 7 0 4 ((gI w 7 0 4) + 1))) else (q_X8_isCounted_19 x2 (sI w 7 0 4 ((gI w 7 0 4) + 1)))) := (ev_eq _ _ _).trans rfl
theorem e_X8_isCounted_19 (x2 : Int32) (w : XW) : q_X8_isCounted_19 x2 w = ((F_X10_fail [.inr (9, 0), .inl (.int x2), .inl (.int 3)] w).bind fun r0 => (bif decide (r0.1 = 0) then (q_X8_isCounted_32 r0.2) else (q_X8_isCounted_28 r0.2))) := (ev_eq _ _ _).trans rfl
theorem e_X8_isCounted_28 (w : XW) : q_X8_isCounted_28 w = (q_X8_isCounted_33 1 w) := (ev_eq _ _ _).trans rfl
theorem e_X8_isCounted_32 (w : XW) : q_X8_isCounted_32 w = (q_X8_isCounted_33 0 w) := (ev_eq _ _ _).trans rfl
theorem e_X8_isCounted_33 (s0 : Int32) (w : XW) : q_X8_isCounted_33 s0 w = (if s0 = 0 ∨ s0 = 1 then some (some (.inl (.int s0)), w) else none) := (ev_eq _ _ _).trans rfl
theorem f_X8_isCounted (x2 : Int32) (w : XW) : F_X8_isCounted [.inr (7, 0), .inr (9, 0), .inl (.int x2)] w = (q_X8_isCounted_0 x2 w).bind pI := rfl

-- WinterKeep$RuleReader.add(I)V
theorem dX8_add_0 : decode cX8_add 0 = .ok (.aload_n 0, 1) := by decide +kernel
theorem dX8_add_1 : decode cX8_add 1 = .ok (.getfield 18, 3) := by decide +kernel
theorem dX8_add_4 : decode cX8_add 4 = .ok (.aload_n 0, 1) := by decide +kernel
theorem dX8_add_5 : decode cX8_add 5 = .ok (.getfield 9, 3) := by decide +kernel
theorem dX8_add_8 : decode cX8_add 8 = .ok (.arraylength, 1) := by decide +kernel
theorem dX8_add_9 : decode cX8_add 9 = .ok (.if_icmp .ge 23, 3) := by decide +kernel
theorem dX8_add_12 : decode cX8_add 12 = .ok (.aload_n 0, 1) := by decide +kernel
theorem dX8_add_13 : decode cX8_add 13 = .ok (.getfield 9, 3) := by decide +kernel
theorem dX8_add_16 : decode cX8_add 16 = .ok (.aload_n 0, 1) := by decide +kernel
theorem dX8_add_17 : decode cX8_add 17 = .ok (.getfield 18, 3) := by decide +kernel
theorem dX8_add_20 : decode cX8_add 20 = .ok (.iload_n 1, 1) := by decide +kernel
theorem dX8_add_21 : decode cX8_add 21 = .ok (.iastore, 1) := by decide +kernel
theorem dX8_add_22 : decode cX8_add 22 = .ok (.aload_n 0, 1) := by decide +kernel
theorem dX8_add_23 : decode cX8_add 23 = .ok (.dup, 1) := by decide +kernel
theorem dX8_add_24 : decode cX8_add 24 = .ok (.getfield 18, 3) := by decide +kernel
theorem dX8_add_27 : decode cX8_add 27 = .ok (.iconst 1, 1) := by decide +kernel
theorem dX8_add_28 : decode cX8_add 28 = .ok (.iadd, 1) := by decide +kernel
theorem dX8_add_29 : decode cX8_add 29 = .ok (.putfield 18, 3) := by decide +kernel
theorem dX8_add_32 : decode cX8_add 32 = .ok (.return_, 1) := by decide +kernel
noncomputable def bs_X8_add : List (Nat × XB) := [
  (0, (sq (xLA 0) (sq (xGI 7 2) (sq (xLA 0) (sq (xGS 7 28 0 0) (sq (xLen 28 400) (tIf2 (fun x y => decide (y ≤ x)) 32 [false, false] 12 [true, true]))))))),
  (12, (sq (xLA 0) (sq (xGS 7 28 0 0) (sq (xLA 0) (sq (xGI 7 2) (sq (xLI 1) (sq (xTI 28 400 (fun x => x)) (sq (xLA 0) (sq (xDup) (sq (xGI 7 2) (sq (xC (.int 1)) (sq (xI2 (· + ·)) (sq (xPI 7 2) (tGo 32 [false, false])))))))))))))),
  (32, tRV)]
set_option maxRecDepth 100000 in
set_option maxHeartbeats 4000000 in
theorem s_X8_add : ∀ X : XCtx, XE X → X.2.2.1.1 = cX8_add → X.2.2.1.2.1 = 2 → X.2.2.1.2.2.1 = yX8_add.cls → X.2.2.1.2.2.2.1 = none → X.1.2.2.2.1 = { frames := 0, cells := 0, slots := 0, locals := 0 } → SndBs X bs_X8_add := by
  rintro ⟨⟨p, l, e, R, s⟩, Y, ⟨cc, nL, own, ret, Ts⟩, Z⟩ hE h1 h2 h3 h4 h5
  dsimp only at h1 h2 h3 h4 h5
  subst h1 h2 h3 h4 h5
  exact ⟨(n_sq (n_aload_n hE dX8_add_0) (n_sq (n_getI hE xk_7 (k := 2) rfl (by decide) rfl wt_72 dX8_add_1) (n_sq (n_aload_n hE dX8_add_4) (n_sq (n_getS hE xk_7 (k := 0) rfl (by decide) rfl wt_70 dX8_add_5) (n_sq (n_alen hE rfl (by decide) dX8_add_8) (n_ifcge hE (by decide) dX8_add_9)))))),
    (n_sq (n_aload_n hE dX8_add_12) (n_sq (n_getS hE xk_7 (k := 0) rfl (by decide) rfl wt_70 dX8_add_13) (n_sq (n_aload_n hE dX8_add_16) (n_sq (n_getI hE xk_7 (k := 2) rfl (by decide) rfl wt_72 dX8_add_17) (n_sq (n_iload_n hE dX8_add_20) (n_sq (n_iast hE rfl (by decide) dX8_add_21) (n_sq (n_aload_n hE dX8_add_22) (n_sq (n_dup hE dX8_add_23) (n_sq (n_getI hE xk_7 (k := 2) rfl (by decide) rfl wt_72 dX8_add_24) (n_sq (n_iconst hE (by decide) dX8_add_27) (n_sq (n_iadd hE dX8_add_28) (n_sq (n_putI hE xk_7 (k := 2) rfl (by decide) rfl rfl (tyX8_ok 2 (by decide)) wt_72 dX8_add_29) n_fall)))))))))))),
    (n_vreturn hE rfl dX8_add_32), trivial⟩
noncomputable def F_X8_add (as : List XV) (w : XW) : Option XW := (xF 2 bs_X8_add as w).bind pV
theorem m_X8_add : XM yX8_add cX8_add 2 none 0 0 (eV F_X8_add) := xm_V (xm_of (by decide) s_X8_add)
noncomputable def q_X8_add_0 (x1 : Int32) (w : XW) : Option XR := ev bs_X8_add 0 ([some (.inr (7, 0)), some (.inl (.int x1))], [], w)
noncomputable def q_X8_add_12 (x1 : Int32) (w : XW) : Option XR := ev bs_X8_add 12 ([some (.inr (7, 0)), some (.inl (.int x1))], [], w)
noncomputable def q_X8_add_32 (w : XW) : Option XR := ev bs_X8_add 32 ([none, none], [], w)
theorem e_X8_add_0 (x1 : Int32) (w : XW) : q_X8_add_0 x1 w = (bif decide ((Int32.ofNat 400) ≤ (gI w 7 0 2)) then (q_X8_add_32 w) else (q_X8_add_12 x1 w)) := (ev_eq _ _ _).trans rfl
theorem e_X8_add_12 (x1 : Int32) (w : XW) : q_X8_add_12 x1 w = (if (gI w 7 0 2) < 0 ∨ 400 ≤ (gI w 7 0 2).toNatClampNeg then none else (q_X8_add_32 (sI (sI w 28 0 ((gI w 7 0 2).toNatClampNeg) x1) 7 0 2 ((gI (sI w 28 0 ((gI w 7 0 2).toNatClampNeg) x1) 7 0 2) + 1)))) := (ev_eq _ _ _).trans rfl
theorem e_X8_add_32 (w : XW) : q_X8_add_32 w = (some (none, w)) := (ev_eq _ _ _).trans rfl
theorem f_X8_add (x1 : Int32) (w : XW) : F_X8_add [.inr (7, 0), .inl (.int x1)] w = (q_X8_add_0 x1 w).bind pV := rfl

-- WinterKeep$Tape.passSign(I)Z
theorem dX10_passSign_0 : decode cX10_passSign 0 = .ok (.aload_n 0, 1) := by decide +kernel
theorem dX10_passSign_1 : decode cX10_passSign 1 = .ok (.invokevirtual 35, 3) := by decide +kernel
theorem dX10_passSign_4 : decode cX10_passSign 4 = .ok (.iload_n 1, 1) := by decide +kernel
theorem dX10_passSign_5 : decode cX10_passSign 5 = .ok (.if_icmp .eq 13, 3) := by decide +kernel
theorem dX10_passSign_8 : decode cX10_passSign 8 = .ok (.aload_n 0, 1) := by decide +kernel
theorem dX10_passSign_9 : decode cX10_passSign 9 = .ok (.aload_n 0, 1) := by decide +kernel
theorem dX10_passSign_10 : decode cX10_passSign 10 = .ok (.getfield 19, 3) := by decide +kernel
theorem dX10_passSign_13 : decode cX10_passSign 13 = .ok (.iconst 0, 1) := by decide +kernel
theorem dX10_passSign_14 : decode cX10_passSign 14 = .ok (.invokevirtual 39, 3) := by decide +kernel
theorem dX10_passSign_17 : decode cX10_passSign 17 = .ok (.ireturn, 1) := by decide +kernel
theorem dX10_passSign_18 : decode cX10_passSign 18 = .ok (.aload_n 0, 1) := by decide +kernel
theorem dX10_passSign_19 : decode cX10_passSign 19 = .ok (.dup, 1) := by decide +kernel
theorem dX10_passSign_20 : decode cX10_passSign 20 = .ok (.getfield 19, 3) := by decide +kernel
theorem dX10_passSign_23 : decode cX10_passSign 23 = .ok (.iconst 1, 1) := by decide +kernel
theorem dX10_passSign_24 : decode cX10_passSign 24 = .ok (.iadd, 1) := by decide +kernel
theorem dX10_passSign_25 : decode cX10_passSign 25 = .ok (.putfield 19, 3) := by decide +kernel
theorem dX10_passSign_28 : decode cX10_passSign 28 = .ok (.iconst 1, 1) := by decide +kernel
theorem dX10_passSign_29 : decode cX10_passSign 29 = .ok (.ireturn, 1) := by decide +kernel
noncomputable def bs_X10_passSign : List (Nat × XB) := [
  (0, (sq (xLA 0) (sq (xCI 9 1 F_X10_sign) (sq (xLI 1) (tIf2 (fun x y => decide (x = y)) 18 [true, false] 8 [true, false]))))),
  (8, (sq (xLA 0) (sq (xLA 0) (sq (xGI 9 2) (sq (xC (.int 0)) (sq (xCI 9 3 F_X10_fail) tRZ)))))),
  (18, (sq (xLA 0) (sq (xDup) (sq (xGI 9 2) (sq (xC (.int 1)) (sq (xI2 (· + ·)) (sq (xPI 9 2) (sq (xC (.int 1)) tRZ))))))))]
set_option maxRecDepth 100000 in
set_option maxHeartbeats 4000000 in
theorem s_X10_passSign : ∀ X : XCtx, XE X → X.2.2.1.1 = cX10_passSign → X.2.2.1.2.1 = 2 → X.2.2.1.2.2.1 = yX10_passSign.cls → X.2.2.1.2.2.2.1 = (some .boolean) → X.1.2.2.2.1 = { frames := 2, cells := 0, slots := 0, locals := 41 } → SndBs X bs_X10_passSign := by
  rintro ⟨⟨p, l, e, R, s⟩, Y, ⟨cc, nL, own, ret, Ts⟩, Z⟩ hE h1 h2 h3 h4 h5
  dsimp only at h1 h2 h3 h4 h5
  subst h1 h2 h3 h4 h5
  exact ⟨(n_sq (n_aload_n hE dX10_passSign_0) (n_sq (n_cIv hE m_X10_sign vc_X10_35 (show 1 + 1 ≤ 2 ∧ 8 + (1 + 11) + 21 ≤ 41 by decide) dX10_passSign_1) (n_sq (n_iload_n hE dX10_passSign_4) (n_ifceq hE (by decide) dX10_passSign_5)))),
    (n_sq (n_aload_n hE dX10_passSign_8) (n_sq (n_aload_n hE dX10_passSign_9) (n_sq (n_getI hE xk_9 (k := 2) rfl (by decide) rfl wt_39 dX10_passSign_10) (n_sq (n_iconst hE (by decide) dX10_passSign_13) (n_sq (n_cIv hE m_X10_fail vc_X10_39 (show 0 + 1 ≤ 2 ∧ 8 + (3 + 11) + 0 ≤ 41 by decide) dX10_passSign_14) (n_zreturn hE rfl dX10_passSign_17)))))),
    (n_sq (n_aload_n hE dX10_passSign_18) (n_sq (n_dup hE dX10_passSign_19) (n_sq (n_getI hE xk_9 (k := 2) rfl (by decide) rfl wt_39 dX10_passSign_20) (n_sq (n_iconst hE (by decide) dX10_passSign_23) (n_sq (n_iadd hE dX10_passSign_24) (n_sq (n_putI hE xk_9 (k := 2) rfl (by decide) rfl rfl (tyX10_ok 2 (by decide)) wt_39 dX10_passSign_25) (n_sq (n_iconst hE (by decide) dX10_passSign_28) (n_zreturn hE rfl dX10_passSign_29)))))))), trivial⟩
noncomputable def F_X10_passSign (as : List XV) (w : XW) : Option (Int32 × XW) := (xF 2 bs_X10_passSign as w).bind pI
theorem m_X10_passSign : XM yX10_passSign cX10_passSign 2 (some .boolean) 2 41 (eI F_X10_passSign) := xm_I (xm_of (by decide) s_X10_passSign)
noncomputable def q_X10_passSign_0 (x1 : Int32) (w : XW) : Option XR := ev bs_X10_passSign 0 ([some (.inr (9, 0)), some (.inl (.int x1))], [], w)
noncomputable def q_X10_passSign_8 (w : XW) : Option XR := ev bs_X10_passSign 8 ([some (.inr (9, 0)), none], [], w)
noncomputable def q_X10_passSign_18 (w : XW) : Option XR := ev bs_X10_passSign 18 ([some (.inr (9, 0)), none], [], w)
theorem e_X10_passSign_0 (x1 : Int32) (w : XW) : q_X10_passSign_0 x1 w = ((F_X10_sign [.inr (9, 0)] w).bind fun r0 => (bif decide (r0.1 = x1) then (q_X10_passSign_18 r0.2) else (q_X10_passSign_8 r0.2))) := (ev_eq _ _ _).trans rfl
theorem e_X10_passSign_8 (w : XW) : q_X10_passSign_8 w = ((F_X10_fail [.inr (9, 0), .inl (.int (gI w 9 0 2)), .inl (.int 0)] w).bind fun r0 => (if r0.1 = 0 ∨ r0.1 = 1 then some (some (.inl (.int r0.1)), r0.2) else none)) := (ev_eq _ _ _).trans rfl
theorem e_X10_passSign_18 (w : XW) : q_X10_passSign_18 w = (some (some (.inl (.int 1)), sI w 9 0 2 ((gI w 9 0 2) + 1))) := (ev_eq _ _ _).trans rfl
theorem f_X10_passSign (x1 : Int32) (w : XW) : F_X10_passSign [.inr (9, 0), .inl (.int x1)] w = (q_X10_passSign_0 x1 w).bind pI := rfl
