-- WinterKeep$Tape.isWord(Ljava/lang/String;III)Z
theorem dX10_isWord_0 : decode cX10_isWord 0 = .ok (.iload 4, 2) := by decide +kernel
theorem dX10_isWord_2 : decode cX10_isWord 2 = .ok (.aload_n 0, 1) := by decide +kernel
theorem dX10_isWord_3 : decode cX10_isWord 3 = .ok (.getfield 22, 3) := by decide +kernel
theorem dX10_isWord_6 : decode cX10_isWord 6 = .ok (.isub, 1) := by decide +kernel
theorem dX10_isWord_7 : decode cX10_isWord 7 = .ok (.iload_n 3, 1) := by decide +kernel
theorem dX10_isWord_8 : decode cX10_isWord 8 = .ok (.iload_n 2, 1) := by decide +kernel
theorem dX10_isWord_9 : decode cX10_isWord 9 = .ok (.isub, 1) := by decide +kernel
theorem dX10_isWord_10 : decode cX10_isWord 10 = .ok (.if_icmp .eq 5, 3) := by decide +kernel
theorem dX10_isWord_13 : decode cX10_isWord 13 = .ok (.iconst 0, 1) := by decide +kernel
theorem dX10_isWord_14 : decode cX10_isWord 14 = .ok (.ireturn, 1) := by decide +kernel
theorem dX10_isWord_15 : decode cX10_isWord 15 = .ok (.iload_n 2, 1) := by decide +kernel
theorem dX10_isWord_16 : decode cX10_isWord 16 = .ok (.istore 5, 2) := by decide +kernel
theorem dX10_isWord_18 : decode cX10_isWord 18 = .ok (.iload 5, 2) := by decide +kernel
theorem dX10_isWord_20 : decode cX10_isWord 20 = .ok (.iload_n 3, 1) := by decide +kernel
theorem dX10_isWord_21 : decode cX10_isWord 21 = .ok (.if_icmp .ge 33, 3) := by decide +kernel
theorem dX10_isWord_24 : decode cX10_isWord 24 = .ok (.aload_n 1, 1) := by decide +kernel
theorem dX10_isWord_25 : decode cX10_isWord 25 = .ok (.iload 5, 2) := by decide +kernel
theorem dX10_isWord_27 : decode cX10_isWord 27 = .ok (.invokevirtual 47, 3) := by decide +kernel
theorem dX10_isWord_30 : decode cX10_isWord 30 = .ok (.aload_n 0, 1) := by decide +kernel
theorem dX10_isWord_31 : decode cX10_isWord 31 = .ok (.aload_n 0, 1) := by decide +kernel
theorem dX10_isWord_32 : decode cX10_isWord 32 = .ok (.getfield 22, 3) := by decide +kernel
theorem dX10_isWord_35 : decode cX10_isWord 35 = .ok (.iload 5, 2) := by decide +kernel
theorem dX10_isWord_37 : decode cX10_isWord 37 = .ok (.iadd, 1) := by decide +kernel
theorem dX10_isWord_38 : decode cX10_isWord 38 = .ok (.iload_n 2, 1) := by decide +kernel
theorem dX10_isWord_39 : decode cX10_isWord 39 = .ok (.isub, 1) := by decide +kernel
theorem dX10_isWord_40 : decode cX10_isWord 40 = .ok (.invokevirtual 31, 3) := by decide +kernel
theorem dX10_isWord_43 : decode cX10_isWord 43 = .ok (.if_icmp .eq 5, 3) := by decide +kernel
theorem dX10_isWord_46 : decode cX10_isWord 46 = .ok (.iconst 0, 1) := by decide +kernel
theorem dX10_isWord_47 : decode cX10_isWord 47 = .ok (.ireturn, 1) := by decide +kernel
theorem dX10_isWord_48 : decode cX10_isWord 48 = .ok (.iinc 5 1, 3) := by decide +kernel
theorem dX10_isWord_51 : decode cX10_isWord 51 = .ok (.goto (-33), 3) := by decide +kernel
theorem dX10_isWord_54 : decode cX10_isWord 54 = .ok (.iconst 1, 1) := by decide +kernel
theorem dX10_isWord_55 : decode cX10_isWord 55 = .ok (.ireturn, 1) := by decide +kernel
theorem vc_X10_47 : XVs RX10 47 1 2 yJ0_charAt_5068e cJ0_charAt_5068e (some .char) := ⟨rfl, ⟨by decide, by decide⟩, by decide +kernel, wt_426, wt_427, wt_428, wt_13, wt_429⟩
noncomputable def bs_X10_isWord : List (Nat × XB) := [
  (0, (sq (xLI 4) (sq (xLA 0) (sq (xGI 9 3) (sq (xI2 (· - ·)) (sq (xLI 3) (sq (xLI 2) (sq (xI2 (· - ·)) (tIf2 (fun x y => decide (x = y)) 15 [true, true, true, true, false, false] 13 [false, false, false, false, false, false]))))))))),
  (13, (sq (xC (.int 0)) tRZ)),
  (15, (sq (xLI 2) (sq (xSI 5) (tGo 18 [true, true, true, true, false, true])))),
  (18, (sq (xLI 5) (sq (xLI 3) (tIf2 (fun x y => decide (y ≤ x)) 54 [false, false, false, false, false, false] 24 [true, true, true, true, false, true])))),
  (24, (sq (xLA 1) (sq (xLI 5) (sq (xCI 65 2 F_J0_charAt_5068e) (sq (xLA 0) (sq (xLA 0) (sq (xGI 9 3) (sq (xLI 5) (sq (xI2 (· + ·)) (sq (xLI 2) (sq (xI2 (· - ·)) (sq (xCI 9 2 F_X10_byteAt) (tIf2 (fun x y => decide (x = y)) 48 [true, true, true, true, false, true] 46 [false, false, false, false, false, false]))))))))))))),
  (46, (sq (xC (.int 0)) tRZ)),
  (48, (sq (xInc 5 1) (tGo 18 [true, true, true, true, false, true]))),
  (54, (sq (xC (.int 1)) tRZ))]
set_option maxRecDepth 100000 in
set_option maxHeartbeats 4000000 in
theorem s_X10_isWord : ∀ X : XCtx, XE X → X.2.2.1.1 = cX10_isWord → X.2.2.1.2.1 = 6 → X.2.2.1.2.2.1 = yX10_isWord.cls → X.2.2.1.2.2.2.1 = (some .boolean) → X.1.2.2.2.1 = { frames := 4, cells := 0, slots := 0, locals := 85 } → SndBs X bs_X10_isWord := by
  rintro ⟨⟨p, l, e, R, s⟩, Y, ⟨cc, nL, own, ret, Ts⟩, Z⟩ hE h1 h2 h3 h4 h5
  dsimp only at h1 h2 h3 h4 h5
  subst h1 h2 h3 h4 h5
  exact ⟨(n_sq (n_iload hE dX10_isWord_0) (n_sq (n_aload_n hE dX10_isWord_2) (n_sq (n_getI hE xk_9 (k := 3) rfl (by decide) rfl wt_42 dX10_isWord_3) (n_sq (n_isub hE dX10_isWord_6) (n_sq (n_iload_n hE dX10_isWord_7) (n_sq (n_iload_n hE dX10_isWord_8) (n_sq (n_isub hE dX10_isWord_9) (n_ifceq hE (by decide) dX10_isWord_10)))))))),
    (n_sq (n_iconst hE (by decide) dX10_isWord_13) (n_zreturn hE rfl dX10_isWord_14)),
    (n_sq (n_iload_n hE dX10_isWord_15) (n_sq (n_istore hE (show (5 : Nat) < 6 by decide) dX10_isWord_16) n_fall)),
    (n_sq (n_iload hE dX10_isWord_18) (n_sq (n_iload_n hE dX10_isWord_20) (n_ifcge hE (by decide) dX10_isWord_21))),
    (n_sq (n_aload_n hE dX10_isWord_24) (n_sq (n_iload hE dX10_isWord_25) (n_sq (n_cIt hE m_J0_charAt_5068e vc_X10_47 (show 3 + 1 ≤ 4 ∧ 8 + (2 + 11) + 64 ≤ 85 by decide) dX10_isWord_27) (n_sq (n_aload_n hE dX10_isWord_30) (n_sq (n_aload_n hE dX10_isWord_31) (n_sq (n_getI hE xk_9 (k := 3) rfl (by decide) rfl wt_42 dX10_isWord_32) (n_sq (n_iload hE dX10_isWord_35) (n_sq (n_iadd hE dX10_isWord_37) (n_sq (n_iload_n hE dX10_isWord_38) (n_sq (n_isub hE dX10_isWord_39) (n_sq (n_cIv hE m_X10_byteAt vc_X10_31 (show 0 + 1 ≤ 4 ∧ 8 + (2 + 11) + 0 ≤ 85 by decide) dX10_isWord_40) (n_ifceq hE (by decide) dX10_isWord_43)))))))))))),
    (n_sq (n_iconst hE (by decide) dX10_isWord_46) (n_zreturn hE rfl dX10_isWord_47)),
    (n_sq (n_iinc hE (by decide) (show (5 : Nat) < 6 by decide) dX10_isWord_48) (n_goto hE (by decide) dX10_isWord_51)),
    (n_sq (n_iconst hE (by decide) dX10_isWord_54) (n_zreturn hE rfl dX10_isWord_55)), trivial⟩
noncomputable def F_X10_isWord (as : List XV) (w : XW) : Option (Int32 × XW) := (xF 6 bs_X10_isWord as w).bind pI
theorem m_X10_isWord : XM yX10_isWord cX10_isWord 6 (some .boolean) 4 85 (eI F_X10_isWord) := xm_I (xm_of (by decide) s_X10_isWord)
noncomputable def q_X10_isWord_0 (i1 : Nat) (x2 : Int32) (x3 : Int32) (x4 : Int32) (w : XW) : Option XR := ev bs_X10_isWord 0 ([some (.inr (9, 0)), some (.inr (65, i1)), some (.inl (.int x2)), some (.inl (.int x3)), some (.inl (.int x4)), none], [], w)
noncomputable def q_X10_isWord_13 (w : XW) : Option XR := ev bs_X10_isWord 13 ([none, none, none, none, none, none], [], w)
noncomputable def q_X10_isWord_15 (i1 : Nat) (x2 : Int32) (x3 : Int32) (w : XW) : Option XR := ev bs_X10_isWord 15 ([some (.inr (9, 0)), some (.inr (65, i1)), some (.inl (.int x2)), some (.inl (.int x3)), none, none], [], w)
noncomputable def q_X10_isWord_18 (i1 : Nat) (x2 : Int32) (x3 : Int32) (x5 : Int32) (w : XW) : Option XR := ev bs_X10_isWord 18 ([some (.inr (9, 0)), some (.inr (65, i1)), some (.inl (.int x2)), some (.inl (.int x3)), none, some (.inl (.int x5))], [], w)
noncomputable def q_X10_isWord_24 (i1 : Nat) (x2 : Int32) (x3 : Int32) (x5 : Int32) (w : XW) : Option XR := ev bs_X10_isWord 24 ([some (.inr (9, 0)), some (.inr (65, i1)), some (.inl (.int x2)), some (.inl (.int x3)), none, some (.inl (.int x5))], [], w)
noncomputable def q_X10_isWord_46 (w : XW) : Option XR := ev bs_X10_isWord 46 ([none, none, none, none, none, none], [], w)
noncomputable def q_X10_isWord_48 (i1 : Nat) (x2 : Int32) (x3 : Int32) (x5 : Int32) (w : XW) : Option XR := ev bs_X10_isWord 48 ([some (.inr (9, 0)), some (.inr (65, i1)), some (.inl (.int x2)), some (.inl (.int x3)), none, some (.inl (.int x5))], [], w)
noncomputable def q_X10_isWord_54 (w : XW) : Option XR := ev bs_X10_isWord 54 ([none, none, none, none, none, none], [], w)
theorem e_X10_isWord_0 (i1 : Nat) (x2 : Int32) (x3 : Int32) (x4 : Int32) (w : XW) : q_X10_isWord_0 i1 x2 x3 x4 w = (bif decide ((x4 - (gI w 9 0 3)) = (x3 - x2)) then (q_X10_isWord_15 i1 x2 x3 w) else (q_X10_isWord_13 w)) := (ev_eq _ _ _).trans rfl
theorem e_X10_isWord_13 (w : XW) : q_X10_isWord_13 w = (some (some (.inl (.int 0)), w)) := (ev_eq _ _ _).trans rfl
theorem e_X10_isWord_15 (i1 : Nat) (x2 : Int32) (x3 : Int32) (w : XW) : q_X10_isWord_15 i1 x2 x3 w = (q_X10_isWord_18 i1 x2 x3 x2 w) := (ev_eq _ _ _).trans rfl
theorem e_X10_isWord_18 (i1 : Nat) (x2 : Int32) (x3 : Int32) (x5 : Int32) (w : XW) : q_X10_isWord_18 i1 x2 x3 x5 w = (bif decide (x3 ≤ x5) then (q_X10_isWord_54 w) else (q_X10_isWord_24 i1 x2 x3 x5 w)) := (ev_eq _ _ _).trans rfl
theorem e_X10_isWord_24 (i1 : Nat) (x2 : Int32) (x3 : Int32) (x5 : Int32) (w : XW) : q_X10_isWord_24 i1 x2 x3 x5 w = ((F_J0_charAt_5068e [.inr (65, i1), .inl (.int x5)] w).bind fun r0 => ((F_X10_byteAt [.inr (9, 0), .inl (.int (((gI r0.2 9 0 3) + x5) - x2))] r0.2).bind fun r1 => (bif decide (r0.1 = r1.1) then (q_X10_isWord_48 i1 x2 x3 x5 r1.2) else (q_X10_isWord_46 r1.2)))) := (ev_eq _ _ _).trans rfl
theorem e_X10_isWord_46 (w : XW) : q_X10_isWord_46 w = (some (some (.inl (.int 0)), w)) := (ev_eq _ _ _).trans rfl
theorem e_X10_isWord_48 (i1 : Nat) (x2 : Int32) (x3 : Int32) (x5 : Int32) (w : XW) : q_X10_isWord_48 i1 x2 x3 x5 w = (q_X10_isWord_18 i1 x2 x3 (x5 + 1) w) := (ev_eq _ _ _).trans rfl
theorem e_X10_isWord_54 (w : XW) : q_X10_isWord_54 w = (some (some (.inl (.int 1)), w)) := (ev_eq _ _ _).trans rfl
theorem f_X10_isWord (i1 : Nat) (x2 : Int32) (x3 : Int32) (x4 : Int32) (w : XW) : F_X10_isWord [.inr (9, 0), .inr (65, i1), .inl (.int x2), .inl (.int x3), .inl (.int x4)] w = (q_X10_isWord_0 i1 x2 x3 x4 w).bind pI := rfl

-- WinterKeep$Tape.passWord(Ljava/lang/String;)I
theorem dX10_passWord_0 : decode cX10_passWord 0 = .ok (.aload_n 0, 1) := by decide +kernel
theorem dX10_passWord_1 : decode cX10_passWord 1 = .ok (.invokevirtual 35, 3) := by decide +kernel
theorem dX10_passWord_4 : decode cX10_passWord 4 = .ok (.pop, 1) := by decide +kernel
theorem dX10_passWord_5 : decode cX10_passWord 5 = .ok (.aload_n 0, 1) := by decide +kernel
theorem dX10_passWord_6 : decode cX10_passWord 6 = .ok (.aload_n 0, 1) := by decide +kernel
theorem dX10_passWord_7 : decode cX10_passWord 7 = .ok (.getfield 19, 3) := by decide +kernel
theorem dX10_passWord_10 : decode cX10_passWord 10 = .ok (.putfield 22, 3) := by decide +kernel
theorem dX10_passWord_13 : decode cX10_passWord 13 = .ok (.aload_n 0, 1) := by decide +kernel
theorem dX10_passWord_14 : decode cX10_passWord 14 = .ok (.getfield 19, 3) := by decide +kernel
theorem dX10_passWord_17 : decode cX10_passWord 17 = .ok (.istore_n 2, 1) := by decide +kernel
theorem dX10_passWord_18 : decode cX10_passWord 18 = .ok (.iload_n 2, 1) := by decide +kernel
theorem dX10_passWord_19 : decode cX10_passWord 19 = .ok (.aload_n 0, 1) := by decide +kernel
theorem dX10_passWord_20 : decode cX10_passWord 20 = .ok (.getfield 15, 3) := by decide +kernel
theorem dX10_passWord_23 : decode cX10_passWord 23 = .ok (.if_icmp .ge 29, 3) := by decide +kernel
theorem dX10_passWord_26 : decode cX10_passWord 26 = .ok (.aload_n 0, 1) := by decide +kernel
theorem dX10_passWord_27 : decode cX10_passWord 27 = .ok (.iload_n 2, 1) := by decide +kernel
theorem dX10_passWord_28 : decode cX10_passWord 28 = .ok (.invokevirtual 31, 3) := by decide +kernel
theorem dX10_passWord_31 : decode cX10_passWord 31 = .ok (.bipush 97, 2) := by decide +kernel
theorem dX10_passWord_33 : decode cX10_passWord 33 = .ok (.if_icmp .lt 19, 3) := by decide +kernel
theorem dX10_passWord_36 : decode cX10_passWord 36 = .ok (.aload_n 0, 1) := by decide +kernel
theorem dX10_passWord_37 : decode cX10_passWord 37 = .ok (.iload_n 2, 1) := by decide +kernel
theorem dX10_passWord_38 : decode cX10_passWord 38 = .ok (.invokevirtual 31, 3) := by decide +kernel
theorem dX10_passWord_41 : decode cX10_passWord 41 = .ok (.bipush 122, 2) := by decide +kernel
theorem dX10_passWord_43 : decode cX10_passWord 43 = .ok (.if_icmp .gt 9, 3) := by decide +kernel
theorem dX10_passWord_46 : decode cX10_passWord 46 = .ok (.iinc 2 1, 3) := by decide +kernel
theorem dX10_passWord_49 : decode cX10_passWord 49 = .ok (.goto (-31), 3) := by decide +kernel
theorem dX10_passWord_52 : decode cX10_passWord 52 = .ok (.iconst 0, 1) := by decide +kernel
theorem dX10_passWord_53 : decode cX10_passWord 53 = .ok (.istore_n 3, 1) := by decide +kernel
theorem dX10_passWord_54 : decode cX10_passWord 54 = .ok (.iconst 0, 1) := by decide +kernel
theorem dX10_passWord_55 : decode cX10_passWord 55 = .ok (.istore 4, 2) := by decide +kernel
theorem dX10_passWord_57 : decode cX10_passWord 57 = .ok (.iconst 0, 1) := by decide +kernel
theorem dX10_passWord_58 : decode cX10_passWord 58 = .ok (.istore 5, 2) := by decide +kernel
theorem dX10_passWord_60 : decode cX10_passWord 60 = .ok (.iload 5, 2) := by decide +kernel
theorem dX10_passWord_62 : decode cX10_passWord 62 = .ok (.aload_n 1, 1) := by decide +kernel
theorem dX10_passWord_63 : decode cX10_passWord 63 = .ok (.invokevirtual 43, 3) := by decide +kernel
theorem dX10_passWord_66 : decode cX10_passWord 66 = .ok (.if_icmp .ge 49, 3) := by decide +kernel
theorem dX10_passWord_69 : decode cX10_passWord 69 = .ok (.aload_n 1, 1) := by decide +kernel
theorem dX10_passWord_70 : decode cX10_passWord 70 = .ok (.iload 5, 2) := by decide +kernel
theorem dX10_passWord_72 : decode cX10_passWord 72 = .ok (.invokevirtual 47, 3) := by decide +kernel
theorem dX10_passWord_75 : decode cX10_passWord 75 = .ok (.bipush 32, 2) := by decide +kernel
theorem dX10_passWord_77 : decode cX10_passWord 77 = .ok (.if_icmp .ne 32, 3) := by decide +kernel
theorem dX10_passWord_80 : decode cX10_passWord 80 = .ok (.aload_n 0, 1) := by decide +kernel
theorem dX10_passWord_81 : decode cX10_passWord 81 = .ok (.aload_n 1, 1) := by decide +kernel
theorem dX10_passWord_82 : decode cX10_passWord 82 = .ok (.iload 4, 2) := by decide +kernel
theorem dX10_passWord_84 : decode cX10_passWord 84 = .ok (.iload 5, 2) := by decide +kernel
theorem dX10_passWord_86 : decode cX10_passWord 86 = .ok (.iload_n 2, 1) := by decide +kernel
theorem dX10_passWord_87 : decode cX10_passWord 87 = .ok (.invokevirtual 51, 3) := by decide +kernel
theorem dX10_passWord_90 : decode cX10_passWord 90 = .ok (.ifCond .eq 10, 3) := by decide +kernel
theorem dX10_passWord_93 : decode cX10_passWord 93 = .ok (.aload_n 0, 1) := by decide +kernel
theorem dX10_passWord_94 : decode cX10_passWord 94 = .ok (.iload_n 2, 1) := by decide +kernel
theorem dX10_passWord_95 : decode cX10_passWord 95 = .ok (.putfield 19, 3) := by decide +kernel
theorem dX10_passWord_98 : decode cX10_passWord 98 = .ok (.iload_n 3, 1) := by decide +kernel
theorem dX10_passWord_99 : decode cX10_passWord 99 = .ok (.ireturn, 1) := by decide +kernel
theorem dX10_passWord_100 : decode cX10_passWord 100 = .ok (.iinc 3 1, 3) := by decide +kernel
theorem dX10_passWord_103 : decode cX10_passWord 103 = .ok (.iload 5, 2) := by decide +kernel
theorem dX10_passWord_105 : decode cX10_passWord 105 = .ok (.iconst 1, 1) := by decide +kernel
theorem dX10_passWord_106 : decode cX10_passWord 106 = .ok (.iadd, 1) := by decide +kernel
theorem dX10_passWord_107 : decode cX10_passWord 107 = .ok (.istore 4, 2) := by decide +kernel
theorem dX10_passWord_109 : decode cX10_passWord 109 = .ok (.iinc 5 1, 3) := by decide +kernel
theorem dX10_passWord_112 : decode cX10_passWord 112 = .ok (.goto (-52), 3) := by decide +kernel
theorem dX10_passWord_115 : decode cX10_passWord 115 = .ok (.iconst (-1), 1) := by decide +kernel
theorem dX10_passWord_116 : decode cX10_passWord 116 = .ok (.ireturn, 1) := by decide +kernel
theorem vc_X10_35 : XVw RX10 35 0 9 1 yX10_sign cX10_sign (some .int) := ⟨RX10, TX10, tyX10, 6, xk_9, rfl, ⟨by decide, by decide⟩, by decide +kernel, wt_408, wt_409, wt_410, wt_2, wt_411⟩
theorem vc_X10_43 : XVs RX10 43 0 1 yJ0_length_8abf5 cJ0_length_8abf5 (some .int) := ⟨rfl, ⟨by decide, by decide⟩, by decide +kernel, wt_416, wt_417, wt_418, wt_13, wt_419⟩
theorem vc_X10_51 : XVw RX10 51 4 9 6 yX10_isWord cX10_isWord (some .boolean) := ⟨RX10, TX10, tyX10, 6, xk_9, rfl, ⟨by decide, by decide⟩, by decide +kernel, wt_464, wt_466, ws_0, wt_2, wt_467⟩
noncomputable def bs_X10_passWord : List (Nat × XB) := [
  (0, (sq (xLA 0) (sq (xCI 9 1 F_X10_sign) (sq (xPop) (sq (xLA 0) (sq (xLA 0) (sq (xGI 9 2) (sq (xPI 9 3) (sq (xLA 0) (sq (xGI 9 2) (sq (xSI 2) (tGo 18 [true, true, true, false, false, false])))))))))))),
  (18, (sq (xLI 2) (sq (xLA 0) (sq (xGI 9 1) (tIf2 (fun x y => decide (y ≤ x)) 52 [true, true, true, false, false, false] 26 [true, true, true, false, false, false]))))),
  (26, (sq (xLA 0) (sq (xLI 2) (sq (xCI 9 2 F_X10_byteAt) (sq (xC (.int 97)) (tIf2 (fun x y => decide (x < y)) 52 [true, true, true, false, false, false] 36 [true, true, true, false, false, false])))))),
  (36, (sq (xLA 0) (sq (xLI 2) (sq (xCI 9 2 F_X10_byteAt) (sq (xC (.int 122)) (tIf2 (fun x y => decide (y < x)) 52 [true, true, true, false, false, false] 46 [true, true, true, false, false, false])))))),
  (46, (sq (xInc 2 1) (tGo 18 [true, true, true, false, false, false]))),
  (52, (sq (xC (.int 0)) (sq (xSI 3) (sq (xC (.int 0)) (sq (xSI 4) (sq (xC (.int 0)) (sq (xSI 5) (tGo 60 [true, true, true, true, true, true])))))))),
  (60, (sq (xLI 5) (sq (xLA 1) (sq (xCI 65 1 F_J0_length_8abf5) (tIf2 (fun x y => decide (y ≤ x)) 115 [false, false, false, false, false, false] 69 [true, true, true, true, true, true]))))),
  (69, (sq (xLA 1) (sq (xLI 5) (sq (xCI 65 2 F_J0_charAt_5068e) (sq (xC (.int 32)) (tIf2 (fun x y => decide (¬ x = y)) 109 [true, true, true, true, true, true] 80 [true, true, true, true, true, true])))))),
  (80, (sq (xLA 0) (sq (xLA 1) (sq (xLI 4) (sq (xLI 5) (sq (xLI 2) (sq (xCI 9 5 F_X10_isWord) (tIf1 (fun x => decide (x = 0)) 100 [true, true, true, true, false, true] 93 [true, false, true, true, false, false])))))))),
  (93, (sq (xLA 0) (sq (xLI 2) (sq (xPI 9 2) (sq (xLI 3) tRI))))),
  (100, (sq (xInc 3 1) (sq (xLI 5) (sq (xC (.int 1)) (sq (xI2 (· + ·)) (sq (xSI 4) (tGo 109 [true, true, true, true, true, true]))))))),
  (109, (sq (xInc 5 1) (tGo 60 [true, true, true, true, true, true]))),
  (115, (sq (xC (.int (-1))) tRI))]
set_option maxRecDepth 100000 in
set_option maxHeartbeats 4000000 in
theorem s_X10_passWord : ∀ X : XCtx, XE X → X.2.2.1.1 = cX10_passWord → X.2.2.1.2.1 = 6 → X.2.2.1.2.2.1 = yX10_passWord.cls → X.2.2.1.2.2.2.1 = (some .int) → X.1.2.2.2.1 = { frames := 5, cells := 0, slots := 0, locals := 110 } → SndBs X bs_X10_passWord := by
  rintro ⟨⟨p, l, e, R, s⟩, Y, ⟨cc, nL, own, ret, Ts⟩, Z⟩ hE h1 h2 h3 h4 h5
  dsimp only at h1 h2 h3 h4 h5
  subst h1 h2 h3 h4 h5
  exact ⟨(n_sq (n_aload_n hE dX10_passWord_0) (n_sq (n_cIv hE m_X10_sign vc_X10_35 (show 1 + 1 ≤ 5 ∧ 8 + (1 + 11) + 21 ≤ 110 by decide) dX10_passWord_1) (n_sq (n_pop hE dX10_passWord_4) (n_sq (n_aload_n hE dX10_passWord_5) (n_sq (n_aload_n hE dX10_passWord_6) (n_sq (n_getI hE xk_9 (k := 2) rfl (by decide) rfl wt_39 dX10_passWord_7) (n_sq (n_putI hE xk_9 (k := 3) rfl (by decide) rfl rfl (tyX10_ok 3 (by decide)) wt_42 dX10_passWord_10) (n_sq (n_aload_n hE dX10_passWord_13) (n_sq (n_getI hE xk_9 (k := 2) rfl (by decide) rfl wt_39 dX10_passWord_14) (n_sq (n_istore_n hE (show (2 : Nat) < 6 by decide) dX10_passWord_17) n_fall)))))))))),
    (n_sq (n_iload_n hE dX10_passWord_18) (n_sq (n_aload_n hE dX10_passWord_19) (n_sq (n_getI hE xk_9 (k := 1) rfl (by decide) rfl wt_37 dX10_passWord_20) (n_ifcge hE (by decide) dX10_passWord_23)))),
    (n_sq (n_aload_n hE dX10_passWord_26) (n_sq (n_iload_n hE dX10_passWord_27) (n_sq (n_cIv hE m_X10_byteAt vc_X10_31 (show 0 + 1 ≤ 5 ∧ 8 + (2 + 11) + 0 ≤ 110 by decide) dX10_passWord_28) (n_sq (n_bipush hE (by decide) dX10_passWord_31) (n_ifclt hE (by decide) dX10_passWord_33))))),
    (n_sq (n_aload_n hE dX10_passWord_36) (n_sq (n_iload_n hE dX10_passWord_37) (n_sq (n_cIv hE m_X10_byteAt vc_X10_31 (show 0 + 1 ≤ 5 ∧ 8 + (2 + 11) + 0 ≤ 110 by decide) dX10_passWord_38) (n_sq (n_bipush hE (by decide) dX10_passWord_41) (n_ifcgt hE (by decide) dX10_passWord_43))))),
    (n_sq (n_iinc hE (by decide) (show (2 : Nat) < 6 by decide) dX10_passWord_46) (n_goto hE (by decide) dX10_passWord_49)),
    (n_sq (n_iconst hE (by decide) dX10_passWord_52) (n_sq (n_istore_n hE (show (3 : Nat) < 6 by decide) dX10_passWord_53) (n_sq (n_iconst hE (by decide) dX10_passWord_54) (n_sq (n_istore hE (show (4 : Nat) < 6 by decide) dX10_passWord_55) (n_sq (n_iconst hE (by decide) dX10_passWord_57) (n_sq (n_istore hE (show (5 : Nat) < 6 by decide) dX10_passWord_58) n_fall)))))),
    (n_sq (n_iload hE dX10_passWord_60) (n_sq (n_aload_n hE dX10_passWord_62) (n_sq (n_cIt hE m_J0_length_8abf5 vc_X10_43 (show 1 + 1 ≤ 5 ∧ 8 + (1 + 11) + 20 ≤ 110 by decide) dX10_passWord_63) (n_ifcge hE (by decide) dX10_passWord_66)))),
    (n_sq (n_aload_n hE dX10_passWord_69) (n_sq (n_iload hE dX10_passWord_70) (n_sq (n_cIt hE m_J0_charAt_5068e vc_X10_47 (show 3 + 1 ≤ 5 ∧ 8 + (2 + 11) + 64 ≤ 110 by decide) dX10_passWord_72) (n_sq (n_bipush hE (by decide) dX10_passWord_75) (n_ifcne hE (by decide) dX10_passWord_77))))),
    (n_sq (n_aload_n hE dX10_passWord_80) (n_sq (n_aload_n hE dX10_passWord_81) (n_sq (n_iload hE dX10_passWord_82) (n_sq (n_iload hE dX10_passWord_84) (n_sq (n_iload_n hE dX10_passWord_86) (n_sq (n_cIv hE m_X10_isWord vc_X10_51 (show 4 + 1 ≤ 5 ∧ 8 + (6 + 11) + 85 ≤ 110 by decide) dX10_passWord_87) (n_ifeq hE (by decide) dX10_passWord_90))))))),
    (n_sq (n_aload_n hE dX10_passWord_93) (n_sq (n_iload_n hE dX10_passWord_94) (n_sq (n_putI hE xk_9 (k := 2) rfl (by decide) rfl rfl (tyX10_ok 2 (by decide)) wt_39 dX10_passWord_95) (n_sq (n_iload_n hE dX10_passWord_98) (n_ireturn hE rfl dX10_passWord_99))))),
    (n_sq (n_iinc hE (by decide) (show (3 : Nat) < 6 by decide) dX10_passWord_100) (n_sq (n_iload hE dX10_passWord_103) (n_sq (n_iconst hE (by decide) dX10_passWord_105) (n_sq (n_iadd hE dX10_passWord_106) (n_sq (n_istore hE (show (4 : Nat) < 6 by decide) dX10_passWord_107) n_fall))))),
    (n_sq (n_iinc hE (by decide) (show (5 : Nat) < 6 by decide) dX10_passWord_109) (n_goto hE (by decide) dX10_passWord_112)),
    (n_sq (n_iconst hE (by decide) dX10_passWord_115) (n_ireturn hE rfl dX10_passWord_116)), trivial⟩
noncomputable def F_X10_passWord (as : List XV) (w : XW) : Option (Int32 × XW) := (xF 6 bs_X10_passWord as w).bind pI
theorem m_X10_passWord : XM yX10_passWord cX10_passWord 6 (some .int) 5 110 (eI F_X10_passWord) := xm_I (xm_of (by decide) s_X10_passWord)
noncomputable def q_X10_passWord_0 (i1 : Nat) (w : XW) : Option XR := ev bs_X10_passWord 0 ([some (.inr (9, 0)), some (.inr (65, i1)), none, none, none, none], [], w)
noncomputable def q_X10_passWord_18 (i1 : Nat) (x2 : Int32) (w : XW) : Option XR := ev bs_X10_passWord 18 ([some (.inr (9, 0)), some (.inr (65, i1)), some (.inl (.int x2)), none, none, none], [], w)
noncomputable def q_X10_passWord_26 (i1 : Nat) (x2 : Int32) (w : XW) : Option XR := ev bs_X10_passWord 26 ([some (.inr (9, 0)), some (.inr (65, i1)), some (.inl (.int x2)), none, none, none], [], w)
noncomputable def q_X10_passWord_36 (i1 : Nat) (x2 : Int32) (w : XW) : Option XR := ev bs_X10_passWord 36 ([some (.inr (9, 0)), some (.inr (65, i1)), some (.inl (.int x2)), none, none, none], [], w)
noncomputable def q_X10_passWord_46 (i1 : Nat) (x2 : Int32) (w : XW) : Option XR := ev bs_X10_passWord 46 ([some (.inr (9, 0)), some (.inr (65, i1)), some (.inl (.int x2)), none, none, none], [], w)
noncomputable def q_X10_passWord_52 (i1 : Nat) (x2 : Int32) (w : XW) : Option XR := ev bs_X10_passWord 52 ([some (.inr (9, 0)), some (.inr (65, i1)), some (.inl (.int x2)), none, none, none], [], w)
noncomputable def q_X10_passWord_60 (i1 : Nat) (x2 : Int32) (x3 : Int32) (x4 : Int32) (x5 : Int32) (w : XW) : Option XR := ev bs_X10_passWord 60 ([some (.inr (9, 0)), some (.inr (65, i1)), some (.inl (.int x2)), some (.inl (.int x3)), some (.inl (.int x4)), some (.inl (.int x5))], [], w)
noncomputable def q_X10_passWord_69 (i1 : Nat) (x2 : Int32) (x3 : Int32) (x4 : Int32) (x5 : Int32) (w : XW) : Option XR := ev bs_X10_passWord 69 ([some (.inr (9, 0)), some (.inr (65, i1)), some (.inl (.int x2)), some (.inl (.int x3)), some (.inl (.int x4)), some (.inl (.int x5))], [], w)
noncomputable def q_X10_passWord_80 (i1 : Nat) (x2 : Int32) (x3 : Int32) (x4 : Int32) (x5 : Int32) (w : XW) : Option XR := ev bs_X10_passWord 80 ([some (.inr (9, 0)), some (.inr (65, i1)), some (.inl (.int x2)), some (.inl (.int x3)), some (.inl (.int x4)), some (.inl (.int x5))], [], w)
noncomputable def q_X10_passWord_93 (x2 : Int32) (x3 : Int32) (w : XW) : Option XR := ev bs_X10_passWord 93 ([some (.inr (9, 0)), none, some (.inl (.int x2)), some (.inl (.int x3)), none, none], [], w)
noncomputable def q_X10_passWord_100 (i1 : Nat) (x2 : Int32) (x3 : Int32) (x5 : Int32) (w : XW) : Option XR := ev bs_X10_passWord 100 ([some (.inr (9, 0)), some (.inr (65, i1)), some (.inl (.int x2)), some (.inl (.int x3)), none, some (.inl (.int x5))], [], w)
noncomputable def q_X10_passWord_109 (i1 : Nat) (x2 : Int32) (x3 : Int32) (x4 : Int32) (x5 : Int32) (w : XW) : Option XR := ev bs_X10_passWord 109 ([some (.inr (9, 0)), some (.inr (65, i1)), some (.inl (.int x2)), some (.inl (.int x3)), some (.inl (.int x4)), some (.inl (.int x5))], [], w)
noncomputable def q_X10_passWord_115 (w : XW) : Option XR := ev bs_X10_passWord 115 ([none, none, none, none, none, none], [], w)
theorem e_X10_passWord_0 (i1 : Nat) (w : XW) : q_X10_passWord_0 i1 w = ((F_X10_sign [.inr (9, 0)] w).bind fun r0 => (q_X10_passWord_18 i1 (gI (sI r0.2 9 0 3 (gI r0.2 9 0 2)) 9 0 2) (sI r0.2 9 0 3 (gI r0.2 9 0 2)))) := (ev_eq _ _ _).trans rfl
theorem e_X10_passWord_18 (i1 : Nat) (x2 : Int32) (w : XW) : q_X10_passWord_18 i1 x2 w = (bif decide ((gI w 9 0 1) ≤ x2) then (q_X10_passWord_52 i1 x2 w) else (q_X10_passWord_26 i1 x2 w)) := (ev_eq _ _ _).trans rfl
theorem e_X10_passWord_26 (i1 : Nat) (x2 : Int32) (w : XW) : q_X10_passWord_26 i1 x2 w = ((F_X10_byteAt [.inr (9, 0), .inl (.int x2)] w).bind fun r0 => (bif decide (r0.1 < 97) then (q_X10_passWord_52 i1 x2 r0.2) else (q_X10_passWord_36 i1 x2 r0.2))) := (ev_eq _ _ _).trans rfl
theorem e_X10_passWord_36 (i1 : Nat) (x2 : Int32) (w : XW) : q_X10_passWord_36 i1 x2 w = ((F_X10_byteAt [.inr (9, 0), .inl (.int x2)] w).bind fun r0 => (bif decide (122 < r0.1) then (q_X10_passWord_52 i1 x2 r0.2) else (q_X10_passWord_46 i1 x2 r0.2))) := (ev_eq _ _ _).trans rfl
theorem e_X10_passWord_46 (i1 : Nat) (x2 : Int32) (w : XW) : q_X10_passWord_46 i1 x2 w = (q_X10_passWord_18 i1 (x2 + 1) w) := (ev_eq _ _ _).trans rfl
theorem e_X10_passWord_52 (i1 : Nat) (x2 : Int32) (w : XW) : q_X10_passWord_52 i1 x2 w = (q_X10_passWord_60 i1 x2 0 0 0 w) := (ev_eq _ _ _).trans rfl
theorem e_X10_passWord_60 (i1 : Nat) (x2 : Int32) (x3 : Int32) (x4 : Int32) (x5 : Int32) (w : XW) : q_X10_passWord_60 i1 x2 x3 x4 x5 w = ((F_J0_length_8abf5 [.inr (65, i1)] w).bind fun r0 => (bif decide (r0.1 ≤ x5) then (q_X10_passWord_115 r0.2) else (q_X10_passWord_69 i1 x2 x3 x4 x5 r0.2))) := (ev_eq _ _ _).trans rfl
theorem e_X10_passWord_69 (i1 : Nat) (x2 : Int32) (x3 : Int32) (x4 : Int32) (x5 : Int32) (w : XW) : q_X10_passWord_69 i1 x2 x3 x4 x5 w = ((F_J0_charAt_5068e [.inr (65, i1), .inl (.int x5)] w).bind fun r0 => (bif decide (¬ r0.1 = 32) then (q_X10_passWord_109 i1 x2 x3 x4 x5 r0.2) else (q_X10_passWord_80 i1 x2 x3 x4 x5 r0.2))) := (ev_eq _ _ _).trans rfl
theorem e_X10_passWord_80 (i1 : Nat) (x2 : Int32) (x3 : Int32) (x4 : Int32) (x5 : Int32) (w : XW) : q_X10_passWord_80 i1 x2 x3 x4 x5 w = ((F_X10_isWord [.inr (9, 0), .inr (65, i1), .inl (.int x4), .inl (.int x5), .inl (.int x2)] w).bind fun r0 => (bif decide (r0.1 = 0) then (q_X10_passWord_100 i1 x2 x3 x5 r0.2) else (q_X10_passWord_93 x2 x3 r0.2))) := (ev_eq _ _ _).trans rfl
theorem e_X10_passWord_93 (x2 : Int32) (x3 : Int32) (w : XW) : q_X10_passWord_93 x2 x3 w = (some (some (.inl (.int x3)), sI w 9 0 2 x2)) := (ev_eq _ _ _).trans rfl
theorem e_X10_passWord_100 (i1 : Nat) (x2 : Int32) (x3 : Int32) (x5 : Int32) (w : XW) : q_X10_passWord_100 i1 x2 x3 x5 w = (q_X10_passWord_109 i1 x2 (x3 + 1) (x5 + 1) x5 w) := (ev_eq _ _ _).trans rfl
theorem e_X10_passWord_109 (i1 : Nat) (x2 : Int32) (x3 : Int32) (x4 : Int32) (x5 : Int32) (w : XW) : q_X10_passWord_109 i1 x2 x3 x4 x5 w = (q_X10_passWord_60 i1 x2 x3 x4 (x5 + 1) w) := (ev_eq _ _ _).trans rfl
theorem e_X10_passWord_115 (w : XW) : q_X10_passWord_115 w = (some (some (.inl (.int (-1))), w)) := (ev_eq _ _ _).trans rfl
theorem f_X10_passWord (i1 : Nat) (w : XW) : F_X10_passWord [.inr (9, 0), .inr (65, i1)] w = (q_X10_passWord_0 i1 w).bind pI := rfl

-- WinterKeep$Tape.fail(II)Z
theorem dX10_fail_0 : decode cX10_fail 0 = .ok (.aload_n 0, 1) := by decide +kernel
theorem dX10_fail_1 : decode cX10_fail 1 = .ok (.iconst 1, 1) := by decide +kernel
theorem dX10_fail_2 : decode cX10_fail 2 = .ok (.bipush 8, 2) := by decide +kernel
theorem dX10_fail_4 : decode cX10_fail 4 = .ok (.iload_n 1, 1) := by decide +kernel
theorem dX10_fail_5 : decode cX10_fail 5 = .ok (.imul, 1) := by decide +kernel
theorem dX10_fail_6 : decode cX10_fail 6 = .ok (.iadd, 1) := by decide +kernel
theorem dX10_fail_7 : decode cX10_fail 7 = .ok (.iload_n 2, 1) := by decide +kernel
theorem dX10_fail_8 : decode cX10_fail 8 = .ok (.iadd, 1) := by decide +kernel
theorem dX10_fail_9 : decode cX10_fail 9 = .ok (.putfield 28, 3) := by decide +kernel
theorem dX10_fail_12 : decode cX10_fail 12 = .ok (.iconst 0, 1) := by decide +kernel
theorem dX10_fail_13 : decode cX10_fail 13 = .ok (.ireturn, 1) := by decide +kernel
noncomputable def bs_X10_fail : List (Nat × XB) := [
  (0, (sq (xLA 0) (sq (xC (.int 1)) (sq (xC (.int 8)) (sq (xLI 1) (sq (xI2 (· * ·)) (sq (xI2 (· + ·)) (sq (xLI 2) (sq (xI2 (· + ·)) (sq (xPI 9 5) (sq (xC (.int 0)) tRZ)))))))))))]
set_option maxRecDepth 100000 in
set_option maxHeartbeats 4000000 in
theorem s_X10_fail : ∀ X : XCtx, XE X → X.2.2.1.1 = cX10_fail → X.2.2.1.2.1 = 3 → X.2.2.1.2.2.1 = yX10_fail.cls → X.2.2.1.2.2.2.1 = (some .boolean) → X.1.2.2.2.1 = { frames := 0, cells := 0, slots := 0, locals := 0 } → SndBs X bs_X10_fail := by
  rintro ⟨⟨p, l, e, R, s⟩, Y, ⟨cc, nL, own, ret, Ts⟩, Z⟩ hE h1 h2 h3 h4 h5
  dsimp only at h1 h2 h3 h4 h5
  subst h1 h2 h3 h4 h5
  exact ⟨(n_sq (n_aload_n hE dX10_fail_0) (n_sq (n_iconst hE (by decide) dX10_fail_1) (n_sq (n_bipush hE (by decide) dX10_fail_2) (n_sq (n_iload_n hE dX10_fail_4) (n_sq (n_imul hE dX10_fail_5) (n_sq (n_iadd hE dX10_fail_6) (n_sq (n_iload_n hE dX10_fail_7) (n_sq (n_iadd hE dX10_fail_8) (n_sq (n_putI hE xk_9 (k := 5) rfl (by decide) rfl rfl (tyX10_ok 5 (by decide)) wt_48 dX10_fail_9) (n_sq (n_iconst hE (by decide) dX10_fail_12) (n_zreturn hE rfl dX10_fail_13))))))))))), trivial⟩
noncomputable def F_X10_fail (as : List XV) (w : XW) : Option (Int32 × XW) := (xF 3 bs_X10_fail as w).bind pI
theorem m_X10_fail : XM yX10_fail cX10_fail 3 (some .boolean) 0 0 (eI F_X10_fail) := xm_I (xm_of (by decide) s_X10_fail)
noncomputable def q_X10_fail_0 (x1 : Int32) (x2 : Int32) (w : XW) : Option XR := ev bs_X10_fail 0 ([some (.inr (9, 0)), some (.inl (.int x1)), some (.inl (.int x2))], [], w)
theorem e_X10_fail_0 (x1 : Int32) (x2 : Int32) (w : XW) : q_X10_fail_0 x1 x2 w = (some (some (.inl (.int 0)), sI w 9 0 5 ((1 + (8 * x1)) + x2))) := (ev_eq _ _ _).trans rfl
theorem f_X10_fail (x1 : Int32) (x2 : Int32) (w : XW) : F_X10_fail [.inr (9, 0), .inl (.int x1), .inl (.int x2)] w = (q_X10_fail_0 x1 x2 w).bind pI := rfl

-- WinterKeep$DaleReader.hasRoomFor(LWinterKeep$Dale;I)Z
theorem dX2_hasRoomFor_0 : decode cX2_hasRoomFor 0 = .ok (.iload_n 1, 1) := by decide +kernel
theorem dX2_hasRoomFor_1 : decode cX2_hasRoomFor 1 = .ok (.tableswitch 70 1 3 #[27, 42, 56], 27) := by decide +kernel
theorem dX2_hasRoomFor_28 : decode cX2_hasRoomFor 28 = .ok (.aload_n 0, 1) := by decide +kernel
theorem dX2_hasRoomFor_29 : decode cX2_hasRoomFor 29 = .ok (.getfield 65, 3) := by decide +kernel
theorem dX2_hasRoomFor_32 : decode cX2_hasRoomFor 32 = .ok (.bipush 6, 2) := by decide +kernel
theorem dX2_hasRoomFor_34 : decode cX2_hasRoomFor 34 = .ok (.if_icmp .ge 7, 3) := by decide +kernel
theorem dX2_hasRoomFor_37 : decode cX2_hasRoomFor 37 = .ok (.iconst 1, 1) := by decide +kernel
theorem dX2_hasRoomFor_38 : decode cX2_hasRoomFor 38 = .ok (.goto 4, 3) := by decide +kernel
theorem dX2_hasRoomFor_41 : decode cX2_hasRoomFor 41 = .ok (.iconst 0, 1) := by decide +kernel
theorem dX2_hasRoomFor_42 : decode cX2_hasRoomFor 42 = .ok (.ireturn, 1) := by decide +kernel
theorem dX2_hasRoomFor_43 : decode cX2_hasRoomFor 43 = .ok (.aload_n 0, 1) := by decide +kernel
theorem dX2_hasRoomFor_44 : decode cX2_hasRoomFor 44 = .ok (.getfield 70, 3) := by decide +kernel
theorem dX2_hasRoomFor_47 : decode cX2_hasRoomFor 47 = .ok (.iconst 5, 1) := by decide +kernel
theorem dX2_hasRoomFor_48 : decode cX2_hasRoomFor 48 = .ok (.if_icmp .ge 7, 3) := by decide +kernel
theorem dX2_hasRoomFor_51 : decode cX2_hasRoomFor 51 = .ok (.iconst 1, 1) := by decide +kernel
theorem dX2_hasRoomFor_52 : decode cX2_hasRoomFor 52 = .ok (.goto 4, 3) := by decide +kernel
theorem dX2_hasRoomFor_55 : decode cX2_hasRoomFor 55 = .ok (.iconst 0, 1) := by decide +kernel
theorem dX2_hasRoomFor_56 : decode cX2_hasRoomFor 56 = .ok (.ireturn, 1) := by decide +kernel
theorem dX2_hasRoomFor_57 : decode cX2_hasRoomFor 57 = .ok (.aload_n 0, 1) := by decide +kernel
theorem dX2_hasRoomFor_58 : decode cX2_hasRoomFor 58 = .ok (.getfield 73, 3) := by decide +kernel
theorem dX2_hasRoomFor_61 : decode cX2_hasRoomFor 61 = .ok (.iconst 4, 1) := by decide +kernel
theorem dX2_hasRoomFor_62 : decode cX2_hasRoomFor 62 = .ok (.if_icmp .ge 7, 3) := by decide +kernel
theorem dX2_hasRoomFor_65 : decode cX2_hasRoomFor 65 = .ok (.iconst 1, 1) := by decide +kernel
theorem dX2_hasRoomFor_66 : decode cX2_hasRoomFor 66 = .ok (.goto 4, 3) := by decide +kernel
theorem dX2_hasRoomFor_69 : decode cX2_hasRoomFor 69 = .ok (.iconst 0, 1) := by decide +kernel
theorem dX2_hasRoomFor_70 : decode cX2_hasRoomFor 70 = .ok (.ireturn, 1) := by decide +kernel
theorem dX2_hasRoomFor_71 : decode cX2_hasRoomFor 71 = .ok (.iconst 1, 1) := by decide +kernel
theorem dX2_hasRoomFor_72 : decode cX2_hasRoomFor 72 = .ok (.ireturn, 1) := by decide +kernel
noncomputable def bs_X2_hasRoomFor : List (Nat × XB) := [
  (0, (sq (xLI 1) (tSw [(1, 28), (2, 43), (3, 57)] 71 [true, false]))),
  (28, (sq (xLA 0) (sq (xGI 1 3) (sq (xC (.int 6)) (tIf2 (fun x y => decide (y ≤ x)) 41 [false, false] 37 [false, false]))))),
  (37, (sq (xC (.int 1)) (tGo 42 [false, false]))),
  (41, (sq (xC (.int 0)) (tGo 42 [false, false]))),
  (42, tRZ),
  (43, (sq (xLA 0) (sq (xGI 1 4) (sq (xC (.int 5)) (tIf2 (fun x y => decide (y ≤ x)) 55 [false, false] 51 [false, false]))))),
  (51, (sq (xC (.int 1)) (tGo 56 [false, false]))),
  (55, (sq (xC (.int 0)) (tGo 56 [false, false]))),
  (56, tRZ),
  (57, (sq (xLA 0) (sq (xGI 1 5) (sq (xC (.int 4)) (tIf2 (fun x y => decide (y ≤ x)) 69 [false, false] 65 [false, false]))))),
  (65, (sq (xC (.int 1)) (tGo 70 [false, false]))),
  (69, (sq (xC (.int 0)) (tGo 70 [false, false]))),
  (70, tRZ),
  (71, (sq (xC (.int 1)) tRZ))]
set_option maxRecDepth 100000 in
set_option maxHeartbeats 4000000 in
theorem s_X2_hasRoomFor : ∀ X : XCtx, XE X → X.2.2.1.1 = cX2_hasRoomFor → X.2.2.1.2.1 = 2 → X.2.2.1.2.2.1 = yX2_hasRoomFor.cls → X.2.2.1.2.2.2.1 = (some .boolean) → X.1.2.2.2.1 = { frames := 0, cells := 0, slots := 0, locals := 0 } → SndBs X bs_X2_hasRoomFor := by
  rintro ⟨⟨p, l, e, R, s⟩, Y, ⟨cc, nL, own, ret, Ts⟩, Z⟩ hE h1 h2 h3 h4 h5
  dsimp only at h1 h2 h3 h4 h5
  subst h1 h2 h3 h4 h5
  exact ⟨(n_sq (n_iload_n hE dX2_hasRoomFor_0) (n_switch hE (lo32 := 1) (ts := [28, 43, 57]) (by decide) (by decide) (by decide) (by decide) (by decide) (by decide) dX2_hasRoomFor_1)),
    (n_sq (n_aload_n hE dX2_hasRoomFor_28) (n_sq (n_getI hE xk_1 (k := 3) rfl (by decide) rfl wt_108 dX2_hasRoomFor_29) (n_sq (n_bipush hE (by decide) dX2_hasRoomFor_32) (n_ifcge hE (by decide) dX2_hasRoomFor_34)))),
    (n_sq (n_iconst hE (by decide) dX2_hasRoomFor_37) (n_goto hE (by decide) dX2_hasRoomFor_38)),
    (n_sq (n_iconst hE (by decide) dX2_hasRoomFor_41) n_fall),
    (n_zreturn hE rfl dX2_hasRoomFor_42),
    (n_sq (n_aload_n hE dX2_hasRoomFor_43) (n_sq (n_getI hE xk_1 (k := 4) rfl (by decide) rfl wt_113 dX2_hasRoomFor_44) (n_sq (n_iconst hE (by decide) dX2_hasRoomFor_47) (n_ifcge hE (by decide) dX2_hasRoomFor_48)))),
    (n_sq (n_iconst hE (by decide) dX2_hasRoomFor_51) (n_goto hE (by decide) dX2_hasRoomFor_52)),
    (n_sq (n_iconst hE (by decide) dX2_hasRoomFor_55) n_fall),
    (n_zreturn hE rfl dX2_hasRoomFor_56),
    (n_sq (n_aload_n hE dX2_hasRoomFor_57) (n_sq (n_getI hE xk_1 (k := 5) rfl (by decide) rfl wt_117 dX2_hasRoomFor_58) (n_sq (n_iconst hE (by decide) dX2_hasRoomFor_61) (n_ifcge hE (by decide) dX2_hasRoomFor_62)))),
    (n_sq (n_iconst hE (by decide) dX2_hasRoomFor_65) (n_goto hE (by decide) dX2_hasRoomFor_66)),
    (n_sq (n_iconst hE (by decide) dX2_hasRoomFor_69) n_fall),
    (n_zreturn hE rfl dX2_hasRoomFor_70),
    (n_sq (n_iconst hE (by decide) dX2_hasRoomFor_71) (n_zreturn hE rfl dX2_hasRoomFor_72)), trivial⟩
noncomputable def F_X2_hasRoomFor (as : List XV) (w : XW) : Option (Int32 × XW) := (xF 2 bs_X2_hasRoomFor as w).bind pI
theorem m_X2_hasRoomFor : XM yX2_hasRoomFor cX2_hasRoomFor 2 (some .boolean) 0 0 (eI F_X2_hasRoomFor) := xm_I (xm_of (by decide) s_X2_hasRoomFor)
noncomputable def q_X2_hasRoomFor_0 (i0 : Nat) (x1 : Int32) (w : XW) : Option XR := ev bs_X2_hasRoomFor 0 ([some (.inr (1, i0)), some (.inl (.int x1))], [], w)
noncomputable def q_X2_hasRoomFor_28 (i0 : Nat) (w : XW) : Option XR := ev bs_X2_hasRoomFor 28 ([some (.inr (1, i0)), none], [], w)
noncomputable def q_X2_hasRoomFor_37 (w : XW) : Option XR := ev bs_X2_hasRoomFor 37 ([none, none], [], w)
noncomputable def q_X2_hasRoomFor_41 (w : XW) : Option XR := ev bs_X2_hasRoomFor 41 ([none, none], [], w)
noncomputable def q_X2_hasRoomFor_42 (s0 : Int32) (w : XW) : Option XR := ev bs_X2_hasRoomFor 42 ([none, none], [.inl (.int s0)], w)
noncomputable def q_X2_hasRoomFor_43 (i0 : Nat) (w : XW) : Option XR := ev bs_X2_hasRoomFor 43 ([some (.inr (1, i0)), none], [], w)
noncomputable def q_X2_hasRoomFor_51 (w : XW) : Option XR := ev bs_X2_hasRoomFor 51 ([none, none], [], w)
noncomputable def q_X2_hasRoomFor_55 (w : XW) : Option XR := ev bs_X2_hasRoomFor 55 ([none, none], [], w)
noncomputable def q_X2_hasRoomFor_56 (s0 : Int32) (w : XW) : Option XR := ev bs_X2_hasRoomFor 56 ([none, none], [.inl (.int s0)], w)
noncomputable def q_X2_hasRoomFor_57 (i0 : Nat) (w : XW) : Option XR := ev bs_X2_hasRoomFor 57 ([some (.inr (1, i0)), none], [], w)
noncomputable def q_X2_hasRoomFor_65 (w : XW) : Option XR := ev bs_X2_hasRoomFor 65 ([none, none], [], w)
noncomputable def q_X2_hasRoomFor_69 (w : XW) : Option XR := ev bs_X2_hasRoomFor 69 ([none, none], [], w)
noncomputable def q_X2_hasRoomFor_70 (s0 : Int32) (w : XW) : Option XR := ev bs_X2_hasRoomFor 70 ([none, none], [.inl (.int s0)], w)
noncomputable def q_X2_hasRoomFor_71 (i0 : Nat) (w : XW) : Option XR := ev bs_X2_hasRoomFor 71 ([some (.inr (1, i0)), none], [], w)
theorem e_X2_hasRoomFor_0 (i0 : Nat) (x1 : Int32) (w : XW) : q_X2_hasRoomFor_0 i0 x1 w = (bif x1 == 1 then (q_X2_hasRoomFor_28 i0 w) else (bif x1 == 2 then (q_X2_hasRoomFor_43 i0 w) else (bif x1 == 3 then (q_X2_hasRoomFor_57 i0 w) else (q_X2_hasRoomFor_71 i0 w)))) := (ev_eq _ _ _).trans rfl
theorem e_X2_hasRoomFor_28 (i0 : Nat) (w : XW) : q_X2_hasRoomFor_28 i0 w = (bif decide (6 ≤ (gI w 1 i0 3)) then (q_X2_hasRoomFor_41 w) else (q_X2_hasRoomFor_37 w)) := (ev_eq _ _ _).trans rfl
theorem e_X2_hasRoomFor_37 (w : XW) : q_X2_hasRoomFor_37 w = (q_X2_hasRoomFor_42 1 w) := (ev_eq _ _ _).trans rfl
theorem e_X2_hasRoomFor_41 (w : XW) : q_X2_hasRoomFor_41 w = (q_X2_hasRoomFor_42 0 w) := (ev_eq _ _ _).trans rfl
theorem e_X2_hasRoomFor_42 (s0 : Int32) (w : XW) : q_X2_hasRoomFor_42 s0 w = (if s0 = 0 ∨ s0 = 1 then some (some (.inl (.int s0)), w) else none) := (ev_eq _ _ _).trans rfl
theorem e_X2_hasRoomFor_43 (i0 : Nat) (w : XW) : q_X2_hasRoomFor_43 i0 w = (bif decide (5 ≤ (gI w 1 i0 4)) then (q_X2_hasRoomFor_55 w) else (q_X2_hasRoomFor_51 w)) := (ev_eq _ _ _).trans rfl
theorem e_X2_hasRoomFor_51 (w : XW) : q_X2_hasRoomFor_51 w = (q_X2_hasRoomFor_56 1 w) := (ev_eq _ _ _).trans rfl
theorem e_X2_hasRoomFor_55 (w : XW) : q_X2_hasRoomFor_55 w = (q_X2_hasRoomFor_56 0 w) := (ev_eq _ _ _).trans rfl
theorem e_X2_hasRoomFor_56 (s0 : Int32) (w : XW) : q_X2_hasRoomFor_56 s0 w = (if s0 = 0 ∨ s0 = 1 then some (some (.inl (.int s0)), w) else none) := (ev_eq _ _ _).trans rfl
theorem e_X2_hasRoomFor_57 (i0 : Nat) (w : XW) : q_X2_hasRoomFor_57 i0 w = (bif decide (4 ≤ (gI w 1 i0 5)) then (q_X2_hasRoomFor_69 w) else (q_X2_hasRoomFor_65 w)) := (ev_eq _ _ _).trans rfl
theorem e_X2_hasRoomFor_65 (w : XW) : q_X2_hasRoomFor_65 w = (q_X2_hasRoomFor_70 1 w) := (ev_eq _ _ _).trans rfl
theorem e_X2_hasRoomFor_69 (w : XW) : q_X2_hasRoomFor_69 w = (q_X2_hasRoomFor_70 0 w) := (ev_eq _ _ _).trans rfl
theorem e_X2_hasRoomFor_70 (s0 : Int32) (w : XW) : q_X2_hasRoomFor_70 s0 w = (if s0 = 0 ∨ s0 = 1 then some (some (.inl (.int s0)), w) else none) := (ev_eq _ _ _).trans rfl
theorem e_X2_hasRoomFor_71 (i0 : Nat) (w : XW) : q_X2_hasRoomFor_71 i0 w = (some (some (.inl (.int 1)), w)) := (ev_eq _ _ _).trans rfl
theorem f_X2_hasRoomFor (i0 : Nat) (x1 : Int32) (w : XW) : F_X2_hasRoomFor [.inr (1, i0), .inl (.int x1)] w = (q_X2_hasRoomFor_0 i0 x1 w).bind pI := rfl
