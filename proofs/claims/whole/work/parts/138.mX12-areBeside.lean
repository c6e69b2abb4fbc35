-- WinterKeepModel.areBeside(I)Z
theorem dX12_areBeside_0 : decode cX12_areBeside 0 = .ok (.iconst 0, 1) := by decide +kernel
theorem dX12_areBeside_1 : decode cX12_areBeside 1 = .ok (.istore_n 2, 1) := by decide +kernel
theorem dX12_areBeside_2 : decode cX12_areBeside 2 = .ok (.iload_n 2, 1) := by decide +kernel
theorem dX12_areBeside_3 : decode cX12_areBeside 3 = .ok (.aload_n 0, 1) := by decide +kernel
theorem dX12_areBeside_4 : decode cX12_areBeside 4 = .ok (.getfield 39, 3) := by decide +kernel
theorem dX12_areBeside_7 : decode cX12_areBeside 7 = .ok (.iconst 3, 1) := by decide +kernel
theorem dX12_areBeside_8 : decode cX12_areBeside 8 = .ok (.iaload, 1) := by decide +kernel
theorem dX12_areBeside_9 : decode cX12_areBeside 9 = .ok (.if_icmp .ge 45, 3) := by decide +kernel
theorem dX12_areBeside_12 : decode cX12_areBeside 12 = .ok (.iload_n 1, 1) := by decide +kernel
theorem dX12_areBeside_13 : decode cX12_areBeside 13 = .ok (.iload_n 2, 1) := by decide +kernel
theorem dX12_areBeside_14 : decode cX12_areBeside 14 = .ok (.invokestatic 92, 3) := by decide +kernel
theorem dX12_areBeside_17 : decode cX12_areBeside 17 = .ok (.ifCond .eq 31, 3) := by decide +kernel
theorem dX12_areBeside_20 : decode cX12_areBeside 20 = .ok (.aload_n 0, 1) := by decide +kernel
theorem dX12_areBeside_21 : decode cX12_areBeside 21 = .ok (.iload_n 2, 1) := by decide +kernel
theorem dX12_areBeside_22 : decode cX12_areBeside 22 = .ok (.invokevirtual 351, 3) := by decide +kernel
theorem dX12_areBeside_25 : decode cX12_areBeside 25 = .ok (.ifCond .ne 21, 3) := by decide +kernel
theorem dX12_areBeside_28 : decode cX12_areBeside 28 = .ok (.iload_n 1, 1) := by decide +kernel
theorem dX12_areBeside_29 : decode cX12_areBeside 29 = .ok (.iconst 1, 1) := by decide +kernel
theorem dX12_areBeside_30 : decode cX12_areBeside 30 = .ok (.iload_n 2, 1) := by decide +kernel
theorem dX12_areBeside_31 : decode cX12_areBeside 31 = .ok (.ishl, 1) := by decide +kernel
theorem dX12_areBeside_32 : decode cX12_areBeside 32 = .ok (.iconst (-1), 1) := by decide +kernel
theorem dX12_areBeside_33 : decode cX12_areBeside 33 = .ok (.ixor, 1) := by decide +kernel
theorem dX12_areBeside_34 : decode cX12_areBeside 34 = .ok (.iand, 1) := by decide +kernel
theorem dX12_areBeside_35 : decode cX12_areBeside 35 = .ok (.aload_n 0, 1) := by decide +kernel
theorem dX12_areBeside_36 : decode cX12_areBeside 36 = .ok (.iload_n 2, 1) := by decide +kernel
theorem dX12_areBeside_37 : decode cX12_areBeside 37 = .ok (.invokevirtual 317, 3) := by decide +kernel
theorem dX12_areBeside_40 : decode cX12_areBeside 40 = .ok (.iconst (-1), 1) := by decide +kernel
theorem dX12_areBeside_41 : decode cX12_areBeside 41 = .ok (.ixor, 1) := by decide +kernel
theorem dX12_areBeside_42 : decode cX12_areBeside 42 = .ok (.iand, 1) := by decide +kernel
theorem dX12_areBeside_43 : decode cX12_areBeside 43 = .ok (.ifCond .eq 5, 3) := by decide +kernel
theorem dX12_areBeside_46 : decode cX12_areBeside 46 = .ok (.iconst 0, 1) := by decide +kernel
theorem dX12_areBeside_47 : decode cX12_areBeside 47 = .ok (.ireturn, 1) := by decide +kernel
theorem dX12_areBeside_48 : decode cX12_areBeside 48 = .ok (.iinc 2 1, 3) := by decide +kernel
theorem dX12_areBeside_51 : decode cX12_areBeside 51 = .ok (.goto (-49), 3) := by decide +kernel
theorem dX12_areBeside_54 : decode cX12_areBeside 54 = .ok (.iconst 1, 1) := by decide +kernel
theorem dX12_areBeside_55 : decode cX12_areBeside 55 = .ok (.ireturn, 1) := by decide +kernel
noncomputable def bs_X12_areBeside : List (Nat × XB) := [
  (0, (sq (xC (.int 0)) (sq (xSI 2) (tGo 2 [true, true, true])))),
  (2, (sq (xLI 2) (sq (xLA 0) (sq (xGS 11 50 1 0) (sq (xC (.int 3)) (sq (xAI 50 98) (tIf2 (fun x y => decide (y ≤ x)) 54 [false, false, false] 12 [true, true, true]))))))),
  (12, (sq (xLI 1) (sq (xLI 2) (sq (xCI 99 2 F_X12_isOf) (tIf1 (fun x => decide (x = 0)) 48 [true, true, true] 20 [true, true, true]))))),
  (20, (sq (xLA 0) (sq (xLI 2) (sq (xCI 11 2 F_X12_isBurnt) (tIf1 (fun x => decide (¬ x = 0)) 46 [false, false, false] 28 [true, true, true]))))),
  (28, (sq (xLI 1) (sq (xC (.int 1)) (sq (xLI 2) (sq (xI2 (fun x y => x <<< (y &&& 31))) (sq (xC (.int (-1))) (sq (xI2 (· ^^^ ·)) (sq (xI2 (· &&& ·)) (sq (xLA 0) (sq (xLI 2) (sq (xCI 11 2 F_X12_besideOf) (sq (xC (.int (-1))) (sq (xI2 (· ^^^ ·)) (sq (xI2 (· &&& ·)) (tIf1 (fun x => decide (x = 0)) 48 [true, true, true] 46 [false, false, false]))))))))))))))),
  (46, (sq (xC (.int 0)) tRZ)),
  (48, (sq (xInc 2 1) (tGo 2 [true, true, true]))),
  (54, (sq (xC (.int 1)) tRZ))]
set_option maxRecDepth 100000 in
set_option maxHeartbeats 4000000 in
theorem s_X12_areBeside : ∀ X : XCtx, XE X → X.2.2.1.1 = cX12_areBeside → X.2.2.1.2.1 = 3 → X.2.2.1.2.2.1 = yX12_areBeside.cls → X.2.2.1.2.2.2.1 = (some .boolean) → X.1.2.2.2.1 = { frames := 2, cells := 0, slots := 0, locals := 42 } → SndBs X bs_X12_areBeside := by
  rintro ⟨⟨p, l, e, R, s⟩, Y, ⟨cc, nL, own, ret, Ts⟩, Z⟩ hE h1 h2 h3 h4 h5
  dsimp only at h1 h2 h3 h4 h5
  subst h1 h2 h3 h4 h5
  exact ⟨(n_sq (n_iconst hE (by decide) dX12_areBeside_0) (n_sq (n_istore_n hE (show (2 : Nat) < 3 by decide) dX12_areBeside_1) n_fall)),
    (n_sq (n_iload_n hE dX12_areBeside_2) (n_sq (n_aload_n hE dX12_areBeside_3) (n_sq (n_getS hE xk_11 (k := 20) rfl (by decide) rfl wt_980 dX12_areBeside_4) (n_sq (n_iconst hE (by decide) dX12_areBeside_7) (n_sq (n_iald hE rfl (by decide) dX12_areBeside_8) (n_ifcge hE (by decide) dX12_areBeside_9)))))),
    (n_sq (n_iload_n hE dX12_areBeside_12) (n_sq (n_iload_n hE dX12_areBeside_13) (n_sq (n_cIs hE m_X12_isOf vc_X12_92 (show 0 + 1 ≤ 2 ∧ 8 + (2 + 11) + 0 ≤ 42 by decide) dX12_areBeside_14) (n_ifeq hE (by decide) dX12_areBeside_17)))),
    (n_sq (n_aload_n hE dX12_areBeside_20) (n_sq (n_iload_n hE dX12_areBeside_21) (n_sq (n_cIv hE m_X12_isBurnt vc_X12_351 (show 1 + 1 ≤ 2 ∧ 8 + (2 + 11) + 21 ≤ 42 by decide) dX12_areBeside_22) (n_ifne hE (by decide) dX12_areBeside_25)))),
    (n_sq (n_iload_n hE dX12_areBeside_28) (n_sq (n_iconst hE (by decide) dX12_areBeside_29) (n_sq (n_iload_n hE dX12_areBeside_30) (n_sq (n_ishl hE dX12_areBeside_31) (n_sq (n_iconst hE (by decide) dX12_areBeside_32) (n_sq (n_ixor hE dX12_areBeside_33) (n_sq (n_iand hE dX12_areBeside_34) (n_sq (n_aload_n hE dX12_areBeside_35) (n_sq (n_iload_n hE dX12_areBeside_36) (n_sq (n_cIv hE m_X12_besideOf vc_X12_317 (show 0 + 1 ≤ 2 ∧ 8 + (2 + 11) + 0 ≤ 42 by decide) dX12_areBeside_37) (n_sq (n_iconst hE (by decide) dX12_areBeside_40) (n_sq (n_ixor hE dX12_areBeside_41) (n_sq (n_iand hE dX12_areBeside_42) (n_ifeq hE (by decide) dX12_areBeside_43)))))))))))))),
    (n_sq (n_iconst hE (by decide) dX12_areBeside_46) (n_zreturn hE rfl dX12_areBeside_47)),
    (n_sq (n_iinc hE (by decide) (show (2 : Nat) < 3 by decide) dX12_areBeside_48) (n_goto hE (by decide) dX12_areBeside_51)),
    (n_sq (n_iconst hE (by decide) dX12_areBeside_54) (n_zreturn hE rfl dX12_areBeside_55)), trivial⟩
noncomputable def F_X12_areBeside (as : List XV) (w : XW) : Option (Int32 × XW) := (xF 3 bs_X12_areBeside as w).bind pI
theorem m_X12_areBeside : XM yX12_areBeside cX12_areBeside 3 (some .boolean) 2 42 (eI F_X12_areBeside) := xm_I (xm_of (by decide) s_X12_areBeside)
noncomputable def q_X12_areBeside_0 (x1 : Int32) (w : XW) : Option XR := ev bs_X12_areBeside 0 ([some (.inr (11, 0)), some (.inl (.int x1)), none], [], w)
noncomputable def q_X12_areBeside_2 (x1 : Int32) (x2 : Int32) (w : XW) : Option XR := ev bs_X12_areBeside 2 ([some (.inr (11, 0)), some (.inl (.int x1)), some (.inl (.int x2))], [], w)
noncomputable def q_X12_areBeside_12 (x1 : Int32) (x2 : Int32) (w : XW) : Option XR := ev bs_X12_areBeside 12 ([some (.inr (11, 0)), some (.inl (.int x1)), some (.inl (.int x2))], [], w)
noncomputable def q_X12_areBeside_20 (x1 : Int32) (x2 : Int32) (w : XW) : Option XR := ev bs_X12_areBeside 20 ([some (.inr (11, 0)), some (.inl (.int x1)), some (.inl (.int x2))], [], w)
noncomputable def q_X12_areBeside_28 (x1 : Int32) (x2 : Int32) (w : XW) : Option XR := ev bs_X12_areBeside 28 ([some (.inr (11, 0)), some (.inl (.int x1)), some (.inl (.int x2))], [], w)
noncomputable def q_X12_areBeside_46 (w : XW) : Option XR := ev bs_X12_areBeside 46 ([none, none, none], [], w)
noncomputable def q_X12_areBeside_48 (x1 : Int32) (x2 : Int32) (w : XW) : Option XR := ev bs_X12_areBeside 48 ([some (.inr (11, 0)), some (.inl (.int x1)), some (.inl (.int x2))], [], w)
noncomputable def q_X12_areBeside_54 (w : XW) : Option XR := ev bs_X12_areBeside 54 ([none, none, none], [], w)
theorem e_X12_areBeside_0 (x1 : Int32) (w : XW) : q_X12_areBeside_0 x1 w = (q_X12_areBeside_2 x1 0 w) := (ev_eq _ _ _).trans rfl
theorem e_X12_areBeside_2 (x1 : Int32) (x2 : Int32) (w : XW) : q_X12_areBeside_2 x1 x2 w = (bif decide ((gI w 50 0 3) ≤ x2) then (q_X12_areBeside_54 w) else (q_X12_areBeside_12 x1 x2 w)) := (ev_eq _ _ _).trans rfl
theorem e_X12_areBeside_12 (x1 : Int32) (x2 : Int32) (w : XW) : q_X12_areBeside_12 x1 x2 w = ((F_X12_isOf [.inl (.int x1), .inl (.int x2)] w).bind fun r0 => (bif decide (r0.1 = 0) then (q_X12_areBeside_48 x1 x2 r0.2) else (q_X12_areBeside_20 x1 x2 r0.2))) := (ev_eq _ _ _).trans rfl
theorem e_X12_areBeside_20 (x1 : Int32) (x2 : Int32) (w : XW) : q_X12_areBeside_20 x1 x2 w = ((F_X12_isBurnt [.inr (11, 0), .inl (.int x2)] w).bind fun r0 => (bif decide (¬ r0.1 = 0) then (q_X12_areBeside_46 r0.2) else (q_X12_areBeside_28 x1 x2 r0.2))) := (ev_eq _ _ _).trans rfl
theorem e_X12_areBeside_28 (x1 : Int32) (x2 : Int32) (w : XW) : q_X12_areBeside_28 x1 x2 w = ((F_X12_besideOf [.inr (11, 0), .inl (.int x2)] w).bind fun r0 => (bif decide (((x1 &&& (((1 : Int32) <<< ((x2 : Int32) &&& 31)) ^^^ (-1))) &&& (r0.1 ^^^ (-1))) = 0) then (q_X12_areBeside_48 x1 x2 r0.2) else (q_X12_areBeside_46 r0.2))) := (ev_eq _ _ _).trans rfl
theorem e_X12_areBeside_46 (w : XW) : q_X12_areBeside_46 w = (some (some (.inl (.int 0)), w)) := (ev_eq _ _ _).trans rfl
theorem e_X12_areBeside_48 (x1 : Int32) (x2 : Int32) (w : XW) : q_X12_areBeside_48 x1 x2 w = (q_X12_areBeside_2 x1 (x2 + 1) w) := (ev_eq _ _ _).trans rfl
theorem e_X12_areBeside_54 (w : XW) : q_X12_areBeside_54 w = (some (some (.inl (.int 1)), w)) := (ev_eq _ _ _).trans rfl
theorem f_X12_areBeside (x1 : Int32) (w : XW) : F_X12_areBeside [.inr (11, 0), .inl (.int x1)] w = (q_X12_areBeside_0 x1 w).bind pI := rfl

-- WinterKeepModel.clash(I)I
theorem dX12_clash_0 : decode cX12_clash 0 = .ok (.aload_n 0, 1) := by decide +kernel
theorem dX12_clash_1 : decode cX12_clash 1 = .ok (.invokevirtual 369, 3) := by decide +kernel
theorem dX12_clash_4 : decode cX12_clash 4 = .ok (.ifCond .eq 13, 3) := by decide +kernel
theorem dX12_clash_7 : decode cX12_clash 7 = .ok (.iload_n 1, 1) := by decide +kernel
theorem dX12_clash_8 : decode cX12_clash 8 = .ok (.i2l, 1) := by decide +kernel
theorem dX12_clash_9 : decode cX12_clash 9 = .ok (.lconst 0, 1) := by decide +kernel
theorem dX12_clash_10 : decode cX12_clash 10 = .ok (.lconst 1, 1) := by decide +kernel
theorem dX12_clash_11 : decode cX12_clash 11 = .ok (.invokestatic 133, 3) := by decide +kernel
theorem dX12_clash_14 : decode cX12_clash 14 = .ok (.ifCond .ne 5, 3) := by decide +kernel
theorem dX12_clash_17 : decode cX12_clash 17 = .ok (.iconst (-1), 1) := by decide +kernel
theorem dX12_clash_18 : decode cX12_clash 18 = .ok (.ireturn, 1) := by decide +kernel
theorem dX12_clash_19 : decode cX12_clash 19 = .ok (.iconst 0, 1) := by decide +kernel
theorem dX12_clash_20 : decode cX12_clash 20 = .ok (.istore_n 2, 1) := by decide +kernel
theorem dX12_clash_21 : decode cX12_clash 21 = .ok (.iconst 1, 1) := by decide +kernel
theorem dX12_clash_22 : decode cX12_clash 22 = .ok (.istore_n 3, 1) := by decide +kernel
theorem dX12_clash_23 : decode cX12_clash 23 = .ok (.iload_n 3, 1) := by decide +kernel
theorem dX12_clash_24 : decode cX12_clash 24 = .ok (.iconst 1, 1) := by decide +kernel
theorem dX12_clash_25 : decode cX12_clash 25 = .ok (.aload_n 0, 1) := by decide +kernel
theorem dX12_clash_26 : decode cX12_clash 26 = .ok (.getfield 39, 3) := by decide +kernel
theorem dX12_clash_29 : decode cX12_clash 29 = .ok (.iconst 3, 1) := by decide +kernel
theorem dX12_clash_30 : decode cX12_clash 30 = .ok (.iaload, 1) := by decide +kernel
theorem dX12_clash_31 : decode cX12_clash 31 = .ok (.ishl, 1) := by decide +kernel
theorem dX12_clash_32 : decode cX12_clash 32 = .ok (.if_icmp .ge 30, 3) := by decide +kernel
theorem dX12_clash_35 : decode cX12_clash 35 = .ok (.iload_n 3, 1) := by decide +kernel
theorem dX12_clash_36 : decode cX12_clash 36 = .ok (.invokestatic 338, 3) := by decide +kernel
theorem dX12_clash_39 : decode cX12_clash 39 = .ok (.iload_n 2, 1) := by decide +kernel
theorem dX12_clash_40 : decode cX12_clash 40 = .ok (.invokestatic 338, 3) := by decide +kernel
theorem dX12_clash_43 : decode cX12_clash 43 = .ok (.if_icmp .le 13, 3) := by decide +kernel
theorem dX12_clash_46 : decode cX12_clash 46 = .ok (.aload_n 0, 1) := by decide +kernel
theorem dX12_clash_47 : decode cX12_clash 47 = .ok (.iload_n 3, 1) := by decide +kernel
theorem dX12_clash_48 : decode cX12_clash 48 = .ok (.invokevirtual 410, 3) := by decide +kernel
theorem dX12_clash_51 : decode cX12_clash 51 = .ok (.ifCond .eq 5, 3) := by decide +kernel
theorem dX12_clash_54 : decode cX12_clash 54 = .ok (.iload_n 3, 1) := by decide +kernel
theorem dX12_clash_55 : decode cX12_clash 55 = .ok (.istore_n 2, 1) := by decide +kernel
theorem dX12_clash_56 : decode cX12_clash 56 = .ok (.iinc 3 1, 3) := by decide +kernel
theorem dX12_clash_59 : decode cX12_clash 59 = .ok (.goto (-36), 3) := by decide +kernel
theorem dX12_clash_62 : decode cX12_clash 62 = .ok (.iload_n 1, 1) := by decide +kernel
theorem dX12_clash_63 : decode cX12_clash 63 = .ok (.ifCond .ne 10, 3) := by decide +kernel
theorem dX12_clash_66 : decode cX12_clash 66 = .ok (.iload_n 2, 1) := by decide +kernel
theorem dX12_clash_67 : decode cX12_clash 67 = .ok (.invokestatic 338, 3) := by decide +kernel
theorem dX12_clash_70 : decode cX12_clash 70 = .ok (.goto 4, 3) := by decide +kernel
theorem dX12_clash_73 : decode cX12_clash 73 = .ok (.iload_n 2, 1) := by decide +kernel
theorem dX12_clash_74 : decode cX12_clash 74 = .ok (.ireturn, 1) := by decide +kernel
theorem vc_X12_410 : XVw RX12 410 1 11 3 yX12_areBeside cX12_areBeside (some .boolean) := ⟨RX12, TX12, tyX12, 43, xk_11, rfl, ⟨by decide, by decide⟩, by decide +kernel, wt_1485, wt_1487, ws_105, wt_11, wt_1488⟩
noncomputable def bs_X12_clash : List (Nat × XB) := [
  (0, (sq (xLA 0) (sq (xCI 11 1 F_X12_isDale) (tIf1 (fun x => decide (x = 0)) 17 [false, false, false, false] 7 [true, true, false, false])))),
  (7, (sq (xLI 1) (sq (xI2L) (sq (xC (.long 0)) (sq (xC (.long 1)) (sq (xCI 99 3 F_X12_in) (tIf1 (fun x => decide (¬ x = 0)) 19 [true, true, false, false] 17 [false, false, false, false]))))))),
  (17, (sq (xC (.int (-1))) tRI)),
  (19, (sq (xC (.int 0)) (sq (xSI 2) (sq (xC (.int 1)) (sq (xSI 3) (tGo 23 [true, true, true, true])))))),
  (23, (sq (xLI 3) (sq (xC (.int 1)) (sq (xLA 0) (sq (xGS 11 50 1 0) (sq (xC (.int 3)) (sq (xAI 50 98) (sq (xI2 (fun x y => x <<< (y &&& 31))) (tIf2 (fun x y => decide (y ≤ x)) 62 [false, true, true, false] 35 [true, true, true, true]))))))))),
  (35, (sq (xLI 3) (sq (xCI 99 1 F_X12_bits) (sq (xLI 2) (sq (xCI 99 1 F_X12_bits) (tIf2 (fun x y => decide (x ≤ y)) 56 [true, true, true, true] 46 [true, true, true, true])))))),
  (46, (sq (xLA 0) (sq (xLI 3) (sq (xCI 11 2 F_X12_areBeside) (tIf1 (fun x => decide (x = 0)) 56 [true, true, true, true] 54 [true, true, false, true]))))),
  (54, (sq (xLI 3) (sq (xSI 2) (tGo 56 [true, true, true, true])))),
  (56, (sq (xInc 3 1) (tGo 23 [true, true, true, true]))),
  (62, (sq (xLI 1) (tIf1 (fun x => decide (¬ x = 0)) 73 [false, false, true, false] 66 [false, false, true, false]))),
  (66, (sq (xLI 2) (sq (xCI 99 1 F_X12_bits) (tGo 74 [false, false, false, false])))),
  (73, (sq (xLI 2) (tGo 74 [false, false, false, false]))),
  (74, tRI)]
set_option maxRecDepth 100000 in
set_option maxHeartbeats 4000000 in
theorem s_X12_clash : ∀ X : XCtx, XE X → X.2.2.1.1 = cX12_clash → X.2.2.1.2.1 = 4 → X.2.2.1.2.2.1 = yX12_clash.cls → X.2.2.1.2.2.2.1 = (some .int) → X.1.2.2.2.1 = { frames := 3, cells := 0, slots := 0, locals := 64 } → SndBs X bs_X12_clash := by
  rintro ⟨⟨p, l, e, R, s⟩, Y, ⟨cc, nL, own, ret, Ts⟩, Z⟩ hE h1 h2 h3 h4 h5
  dsimp only at h1 h2 h3 h4 h5
  subst h1 h2 h3 h4 h5
  exact ⟨(n_sq (n_aload_n hE dX12_clash_0) (n_sq (n_cIv hE m_X12_isDale vc_X12_369 (show 0 + 1 ≤ 3 ∧ 8 + (1 + 11) + 0 ≤ 64 by decide) dX12_clash_1) (n_ifeq hE (by decide) dX12_clash_4))),
    (n_sq (n_iload_n hE dX12_clash_7) (n_sq (n_i2l hE dX12_clash_8) (n_sq (n_lconst hE (by decide) dX12_clash_9) (n_sq (n_lconst hE (by decide) dX12_clash_10) (n_sq (n_cIs hE m_X12_in vc_X12_133 (show 0 + 1 ≤ 3 ∧ 8 + (6 + 11) + 0 ≤ 64 by decide) dX12_clash_11) (n_ifne hE (by decide) dX12_clash_14)))))),
    (n_sq (n_iconst hE (by decide) dX12_clash_17) (n_ireturn hE rfl dX12_clash_18)),
    (n_sq (n_iconst hE (by decide) dX12_clash_19) (n_sq (n_istore_n hE (show (2 : Nat) < 4 by decide) dX12_clash_20) (n_sq (n_iconst hE (by decide) dX12_clash_21) (n_sq (n_istore_n hE (show (3 : Nat) < 4 by decide) dX12_clash_22) n_fall)))),
    (n_sq (n_iload_n hE dX12_clash_23) (n_sq (n_iconst hE (by decide) dX12_clash_24) (n_sq (n_aload_n hE dX12_clash_25) (n_sq (n_getS hE xk_11 (k := 20) rfl (by decide) rfl wt_980 dX12_clash_26) (n_sq (n_iconst hE (by decide) dX12_clash_29) (n_sq (n_iald hE rfl (by decide) dX12_clash_30) (n_sq (n_ishl hE dX12_clash_31) (n_ifcge hE (by decide) dX12_clash_32)))))))),
    (n_sq (n_iload_n hE dX12_clash_35) (n_sq (n_cIs hE m_X12_bits vc_X12_338 (show 0 + 1 ≤ 3 ∧ 8 + (3 + 11) + 0 ≤ 64 by decide) dX12_clash_36) (n_sq (n_iload_n hE dX12_clash_39) (n_sq (n_cIs hE m_X12_bits vc_X12_338 (show 0 + 1 ≤ 3 ∧ 8 + (3 + 11) + 0 ≤ 64 by decide) dX12_clash_40) (n_ifcle hE (by decide) dX12_clash_43))))),
    (n_sq (n_aload_n hE dX12_clash_46) (n_sq (n_iload_n hE dX12_clash_47) (n_sq (n_cIv hE m_X12_areBeside vc_X12_410 (show 2 + 1 ≤ 3 ∧ 8 + (3 + 11) + 42 ≤ 64 by decide) dX12_clash_48) (n_ifeq hE (by decide) dX12_clash_51)))),
    (n_sq (n_iload_n hE dX12_clash_54) (n_sq (n_istore_n hE (show (2 : Nat) < 4 by decide) dX12_clash_55) n_fall)),
    (n_sq (n_iinc hE (by decide) (show (3 : Nat) < 4 by decide) dX12_clash_56) (n_goto hE (by decide) dX12_clash_59)),
    (n_sq (n_iload_n hE dX12_clash_62) (n_ifne hE (by decide) dX12_clash_63)),
    (n_sq (n_iload_n hE dX12_clash_66) (n_sq (n_cIs hE m_X12_bits vc_X12_338 (show 0 + 1 ≤ 3 ∧ 8 + (3 + 11) + 0 ≤ 64 by decide) dX12_clash_67) (n_goto hE (by decide) dX12_clash_70))),
    (n_sq (n_iload_n hE dX12_clash_73) n_fall),
    (n_ireturn hE rfl dX12_clash_74), trivial⟩
noncomputable def F_X12_clash (as : List XV) (w : XW) : Option (Int32 × XW) := (xF 4 bs_X12_clash as w).bind pI
theorem m_X12_clash : XM yX12_clash cX12_clash 4 (some .int) 3 64 (eI F_X12_clash) := xm_I (xm_of (by decide) s_X12_clash)
noncomputable def q_X12_clash_0 (x1 : Int32) (w : XW) : Option XR := ev bs_X12_clash 0 ([some (.inr (11, 0)), some (.inl (.int x1)), none, none], [], w)
noncomputable def q_X12_clash_7 (x1 : Int32) (w : XW) : Option XR := ev bs_X12_clash 7 ([some (.inr (11, 0)), some (.inl (.int x1)), none, none], [], w)
noncomputable def q_X12_clash_17 (w : XW) : Option XR := ev bs_X12_clash 17 ([none, none, none, none], [], w)
noncomputable def q_X12_clash_19 (x1 : Int32) (w : XW) : Option XR := ev bs_X12_clash 19 ([some (.inr (11, 0)), some (.inl (.int x1)), none, none], [], w)
noncomputable def q_X12_clash_23 (x1 : Int32) (x2 : Int32) (x3 : Int32) (w : XW) : Option XR := ev bs_X12_clash 23 ([some (.inr (11, 0)), some (.inl (.int x1)), some (.inl (.int x2)), some (.inl (.int x3))], [], w)
noncomputable def q_X12_clash_35 (x1 : Int32) (x2 : Int32) (x3 : Int32) (w : XW) : Option XR := ev bs_X12_clash 35 ([some (.inr (11, 0)), some (.inl (.int x1)), some (.inl (.int x2)), some (.inl (.int x3))], [], w)
noncomputable def q_X12_clash_46 (x1 : Int32) (x2 : Int32) (x3 : Int32) (w : XW) : Option XR := ev bs_X12_clash 46 ([some (.inr (11, 0)), some (.inl (.int x1)), some (.inl (.int x2)), some (.inl (.int x3))], [], w)
noncomputable def q_X12_clash_54 (x1 : Int32) (x3 : Int32) (w : XW) : Option XR := ev bs_X12_clash 54 ([some (.inr (11, 0)), some (.inl (.int x1)), none, some (.inl (.int x3))], [], w)
noncomputable def q_X12_clash_56 (x1 : Int32) (x2 : Int32) (x3 : Int32) (w : XW) : Option XR := ev bs_X12_clash 56 ([some (.inr (11, 0)), some (.inl (.int x1)), some (.inl (.int x2)), some (.inl (.int x3))], [], w)
noncomputable def q_X12_clash_62 (x1 : Int32) (x2 : Int32) (w : XW) : Option XR := ev bs_X12_clash 62 ([none, some (.inl (.int x1)), some (.inl (.int x2)), none], [], w)
noncomputable def q_X12_clash_66 (x2 : Int32) (w : XW) : Option XR := ev bs_X12_clash 66 ([none, none, some (.inl (.int x2)), none], [], w)
noncomputable def q_X12_clash_73 (x2 : Int32) (w : XW) : Option XR := ev bs_X12_clash 73 ([none, none, some (.inl (.int x2)), none], [], w)
noncomputable def q_X12_clash_74 (s0 : Int32) (w : XW) : Option XR := ev bs_X12_clash 74 ([none, none, none, none], [.inl (.int s0)], w)
theorem e_X12_clash_0 (x1 : Int32) (w : XW) : q_X12_clash_0 x1 w = ((F_X12_isDale [.inr (11, 0)] w).bind fun r0 => (bif decide (r0.1 = 0) then (q_X12_clash_17 r0.2) else (q_X12_clash_7 x1 r0.2))) := (ev_eq _ _ _).trans rfl
theorem e_X12_clash_7 (x1 : Int32) (w : XW) : q_X12_clash_7 x1 w = ((F_X12_in [.inl (.long (x1 : Int32).toInt64), .inl (.long 0), .inl (.long 1)] w).bind fun r0 => (bif decide (¬ r0.1 = 0) then (q_X12_clash_19 x1 r0.2) else (q_X12_clash_17 r0.2))) := (ev_eq _ _ _).trans rfl
theorem e_X12_clash_17 (w : XW) : q_X12_clash_17 w = (some (some (.inl (.int (-1))), w)) := (ev_eq _ _ _).trans rfl
theorem e_X12_clash_19 (x1 : Int32) (w : XW) : q_X12_clash_19 x1 w = (q_X12_clash_23 x1 0 1 w) := (ev_eq _ _ _).trans rfl
theorem e_X12_clash_23 (x1 : Int32) (x2 : Int32) (x3 : Int32) (w : XW) : q_X12_clash_23 x1 x2 x3 w = (bif decide (((1 : Int32) <<< (((gI w 50 0 3) : Int32) &&& 31)) ≤ x3) then (q_X12_clash_62 x1 x2 w) else (q_X12_clash_35 x1 x2 x3 w)) := (ev_eq _ _ _).trans rfl
theorem e_X12_clash_35 (x1 : Int32) (x2 : Int32) (x3 : Int32) (w : XW) : q_X12_clash_35 x1 x2 x3 w = ((F_X12_bits [.inl (.int x3)] w).bind fun r0 => ((F_X12_bits [.inl (.int x2)] r0.2).bind fun r1 => (bif decide (r0.1 ≤ r1.1) then (q_X12_clash_56 x1 x2 x3 r1.2) else (q_X12_clash_46 x1 x2 x3 r1.2)))) := (ev_eq _ _ _).trans rfl
theorem e_X12_clash_46 (x1 : Int32) (x2 : Int32) (x3 : Int32) (w : XW) : q_X12_clash_46 x1 x2 x3 w = ((F_X12_areBeside [.inr (11, 0), .inl (.int x3)] w).bind fun r0 => (bif decide (r0.1 = 0) then (q_X12_clash_56 x1 x2 x3 r0.2) else (q_X12_clash_54 x1 x3 r0.2))) := (ev_eq _ _ _).trans rfl
theorem e_X12_clash_54 (x1 : Int32) (x3 : Int32) (w : XW) : q_X12_clash_54 x1 x3 w = (q_X12_clash_56 x1 x3 x3 w) := (ev_eq _ _ _).trans rfl
theorem e_X12_clash_56 (x1 : Int32) (x2 : Int32) (x3 : Int32) (w : XW) : q_X12_clash_56 x1 x2 x3 w = (q_X12_clash_23 x1 x2 (x3 + 1) w) := (ev_eq _ _ _).trans rfl
theorem e_X12_clash_62 (x1 : Int32) (x2 : Int32) (w : XW) : q_X12_clash_62 x1 x2 w = (bif decide (¬ x1 = 0) then (q_X12_clash_73 x2 w) else (q_X12_clash_66 x2 w)) := (ev_eq _ _ _).trans rfl
theorem e_X12_clash_66 (x2 : Int32) (w : XW) : q_X12_clash_66 x2 w = ((F_X12_bits [.inl (.int x2)] w).bind fun r0 => (q_X12_clash_74 r0.1 r0.2)) := (ev_eq _ _ _).trans rfl
theorem e_X12_clash_73 (x2 : Int32) (w : XW) : q_X12_clash_73 x2 w = (q_X12_clash_74 x2 w) := (ev_eq _ _ _).trans rfl
theorem e_X12_clash_74 (s0 : Int32) (w : XW) : q_X12_clash_74 s0 w = (some (some (.inl (.int s0)), w)) := (ev_eq _ _ _).trans rfl
theorem f_X12_clash (x1 : Int32) (w : XW) : F_X12_clash [.inr (11, 0), .inl (.int x1)] w = (q_X12_clash_0 x1 w).bind pI := rfl

-- WinterKeepModel.weighs(II)V
theorem dX12_weighs_0 : decode cX12_weighs 0 = .ok (.aload_n 0, 1) := by decide +kernel
theorem dX12_weighs_1 : decode cX12_weighs 1 = .ok (.iload_n 2, 1) := by decide +kernel
theorem dX12_weighs_2 : decode cX12_weighs 2 = .ok (.putfield 46, 3) := by decide +kernel
theorem dX12_weighs_5 : decode cX12_weighs 5 = .ok (.aload_n 0, 1) := by decide +kernel
theorem dX12_weighs_6 : decode cX12_weighs 6 = .ok (.iload_n 1, 1) := by decide +kernel
theorem dX12_weighs_7 : decode cX12_weighs 7 = .ok (.invokevirtual 380, 3) := by decide +kernel
theorem dX12_weighs_10 : decode cX12_weighs 10 = .ok (.aload_n 0, 1) := by decide +kernel
theorem dX12_weighs_11 : decode cX12_weighs 11 = .ok (.iconst (-1), 1) := by decide +kernel
theorem dX12_weighs_12 : decode cX12_weighs 12 = .ok (.putfield 46, 3) := by decide +kernel
theorem dX12_weighs_15 : decode cX12_weighs 15 = .ok (.aload_n 0, 1) := by decide +kernel
theorem dX12_weighs_16 : decode cX12_weighs 16 = .ok (.bipush (-2), 2) := by decide +kernel
theorem dX12_weighs_18 : decode cX12_weighs 18 = .ok (.invokevirtual 335, 3) := by decide +kernel
theorem dX12_weighs_21 : decode cX12_weighs 21 = .ok (.invokestatic 338, 3) := by decide +kernel
theorem dX12_weighs_24 : decode cX12_weighs 24 = .ok (.istore_n 3, 1) := by decide +kernel
theorem dX12_weighs_25 : decode cX12_weighs 25 = .ok (.aload_n 0, 1) := by decide +kernel
theorem dX12_weighs_26 : decode cX12_weighs 26 = .ok (.invokevirtual 413, 3) := by decide +kernel
theorem dX12_weighs_29 : decode cX12_weighs 29 = .ok (.istore 4, 2) := by decide +kernel
theorem dX12_weighs_31 : decode cX12_weighs 31 = .ok (.aload_n 0, 1) := by decide +kernel
theorem dX12_weighs_32 : decode cX12_weighs 32 = .ok (.invokevirtual 383, 3) := by decide +kernel
theorem dX12_weighs_35 : decode cX12_weighs 35 = .ok (.iload_n 2, 1) := by decide +kernel
theorem dX12_weighs_36 : decode cX12_weighs 36 = .ok (.ifCond .lt 29, 3) := by decide +kernel
theorem dX12_weighs_39 : decode cX12_weighs 39 = .ok (.iload_n 3, 1) := by decide +kernel
theorem dX12_weighs_40 : decode cX12_weighs 40 = .ok (.aload_n 0, 1) := by decide +kernel
theorem dX12_weighs_41 : decode cX12_weighs 41 = .ok (.getfield 416, 3) := by decide +kernel
theorem dX12_weighs_44 : decode cX12_weighs 44 = .ok (.if_icmp .gt 20, 3) := by decide +kernel
theorem dX12_weighs_47 : decode cX12_weighs 47 = .ok (.iload_n 3, 1) := by decide +kernel
theorem dX12_weighs_48 : decode cX12_weighs 48 = .ok (.aload_n 0, 1) := by decide +kernel
theorem dX12_weighs_49 : decode cX12_weighs 49 = .ok (.getfield 416, 3) := by decide +kernel
theorem dX12_weighs_52 : decode cX12_weighs 52 = .ok (.if_icmp .ne 13, 3) := by decide +kernel
theorem dX12_weighs_55 : decode cX12_weighs 55 = .ok (.iload 4, 2) := by decide +kernel
theorem dX12_weighs_57 : decode cX12_weighs 57 = .ok (.aload_n 0, 1) := by decide +kernel
theorem dX12_weighs_58 : decode cX12_weighs 58 = .ok (.getfield 419, 3) := by decide +kernel
theorem dX12_weighs_61 : decode cX12_weighs 61 = .ok (.if_icmp .gt 4, 3) := by decide +kernel
theorem dX12_weighs_64 : decode cX12_weighs 64 = .ok (.return_, 1) := by decide +kernel
theorem dX12_weighs_65 : decode cX12_weighs 65 = .ok (.aload_n 0, 1) := by decide +kernel
theorem dX12_weighs_66 : decode cX12_weighs 66 = .ok (.iload_n 2, 1) := by decide +kernel
theorem dX12_weighs_67 : decode cX12_weighs 67 = .ok (.putfield 422, 3) := by decide +kernel
theorem dX12_weighs_70 : decode cX12_weighs 70 = .ok (.aload_n 0, 1) := by decide +kernel
theorem dX12_weighs_71 : decode cX12_weighs 71 = .ok (.iload_n 3, 1) := by decide +kernel
theorem dX12_weighs_72 : decode cX12_weighs 72 = .ok (.putfield 416, 3) := by decide +kernel
theorem dX12_weighs_75 : decode cX12_weighs 75 = .ok (.aload_n 0, 1) := by decide +kernel
theorem dX12_weighs_76 : decode cX12_weighs 76 = .ok (.iload 4, 2) := by decide +kernel
theorem dX12_weighs_78 : decode cX12_weighs 78 = .ok (.putfield 419, 3) := by decide +kernel
theorem dX12_weighs_81 : decode cX12_weighs 81 = .ok (.return_, 1) := by decide +kernel
theorem vc_X12_413 : XVw RX12 413 0 11 3 yX12_fullAll cX12_fullAll (some .int) := ⟨RX12, TX12, tyX12, 43, xk_11, rfl, ⟨by decide, by decide⟩, by decide +kernel, wt_1498, wt_1500, ws_107, wt_11, wt_1501⟩
noncomputable def bs_X12_weighs : List (Nat × XB) := [
  (0, (sq (xLA 0) (sq (xLI 2) (sq (xPI 11 23) (sq (xLA 0) (sq (xLI 1) (sq (xCV 11 2 F_X12_passesAll) (sq (xLA 0) (sq (xC (.int (-1))) (sq (xPI 11 23) (sq (xLA 0) (sq (xC (.int (-2))) (sq (xCI 11 2 F_X12_onesThat) (sq (xCI 99 1 F_X12_bits) (sq (xSI 3) (sq (xLA 0) (sq (xCI 11 1 F_X12_fullAll) (sq (xSI 4) (sq (xLA 0) (sq (xCV 11 1 F_X12_laysBack) (sq (xLI 2) (tIf1 (fun x => decide (x < 0)) 65 [true, false, true, true, true] 39 [true, false, true, true, true])))))))))))))))))))))),
  (39, (sq (xLI 3) (sq (xLA 0) (sq (xGI 11 32) (tIf2 (fun x y => decide (y < x)) 64 [false, false, false, false, false] 47 [true, false, true, true, true]))))),
  (47, (sq (xLI 3) (sq (xLA 0) (sq (xGI 11 32) (tIf2 (fun x y => decide (¬ x = y)) 65 [true, false, true, true, true] 55 [true, false, true, true, true]))))),
  (55, (sq (xLI 4) (sq (xLA 0) (sq (xGI 11 33) (tIf2 (fun x y => decide (y < x)) 65 [true, false, true, true, true] 64 [false, false, false, false, false]))))),
  (64, tRV),
  (65, (sq (xLA 0) (sq (xLI 2) (sq (xPI 11 31) (sq (xLA 0) (sq (xLI 3) (sq (xPI 11 32) (sq (xLA 0) (sq (xLI 4) (sq (xPI 11 33) tRV))))))))))]
set_option maxRecDepth 100000 in
set_option maxHeartbeats 4000000 in
theorem s_X12_weighs : ∀ X : XCtx, XE X → X.2.2.1.1 = cX12_weighs → X.2.2.1.2.1 = 5 → X.2.2.1.2.2.1 = yX12_weighs.cls → X.2.2.1.2.2.2.1 = none → X.1.2.2.2.1 = { frames := 6, cells := 0, slots := 0, locals := 145 } → SndBs X bs_X12_weighs := by
  rintro ⟨⟨p, l, e, R, s⟩, Y, ⟨cc, nL, own, ret, Ts⟩, Z⟩ hE h1 h2 h3 h4 h5
  dsimp only at h1 h2 h3 h4 h5
  subst h1 h2 h3 h4 h5
  exact ⟨(n_sq (n_aload_n hE dX12_weighs_0) (n_sq (n_iload_n hE dX12_weighs_1) (n_sq (n_putI hE xk_11 (k := 23) rfl (by decide) rfl rfl (tyX12_ok 23 (by decide)) wt_983 dX12_weighs_2) (n_sq (n_aload_n hE dX12_weighs_5) (n_sq (n_iload_n hE dX12_weighs_6) (n_sq (n_cVv hE m_X12_passesAll vc_X12_380 (show 5 + 1 ≤ 6 ∧ 8 + (3 + 11) + 123 ≤ 145 by decide) dX12_weighs_7) (n_sq (n_aload_n hE dX12_weighs_10) (n_sq (n_iconst hE (by decide) dX12_weighs_11) (n_sq (n_putI hE xk_11 (k := 23) rfl (by decide) rfl rfl (tyX12_ok 23 (by decide)) wt_983 dX12_weighs_12) (n_sq (n_aload_n hE dX12_weighs_15) (n_sq (n_bipush hE (by decide) dX12_weighs_16) (n_sq (n_cIv hE m_X12_onesThat vc_X12_335 (show 1 + 1 ≤ 6 ∧ 8 + (4 + 11) + 21 ≤ 145 by decide) dX12_weighs_18) (n_sq (n_cIs hE m_X12_bits vc_X12_338 (show 0 + 1 ≤ 6 ∧ 8 + (3 + 11) + 0 ≤ 145 by decide) dX12_weighs_21) (n_sq (n_istore_n hE (show (3 : Nat) < 5 by decide) dX12_weighs_24) (n_sq (n_aload_n hE dX12_weighs_25) (n_sq (n_cIv hE m_X12_fullAll vc_X12_413 (show 1 + 1 ≤ 6 ∧ 8 + (3 + 11) + 21 ≤ 145 by decide) dX12_weighs_26) (n_sq (n_istore hE (show (4 : Nat) < 5 by decide) dX12_weighs_29) (n_sq (n_aload_n hE dX12_weighs_31) (n_sq (n_cVv hE m_X12_laysBack vc_X12_383 (show 0 + 1 ≤ 6 ∧ 8 + (2 + 11) + 0 ≤ 145 by decide) dX12_weighs_32) (n_sq (n_iload_n hE dX12_weighs_35) (n_iflt hE (by decide) dX12_weighs_36))))))))))))))))))))),
    (n_sq (n_iload_n hE dX12_weighs_39) (n_sq (n_aload_n hE dX12_weighs_40) (n_sq (n_getI hE xk_11 (k := 32) rfl (by decide) rfl wt_992 dX12_weighs_41) (n_ifcgt hE (by decide) dX12_weighs_44)))),
    (n_sq (n_iload_n hE dX12_weighs_47) (n_sq (n_aload_n hE dX12_weighs_48) (n_sq (n_getI hE xk_11 (k := 32) rfl (by decide) rfl wt_992 dX12_weighs_49) (n_ifcne hE (by decide) dX12_weighs_52)))),
    (n_sq (n_iload hE dX12_weighs_55) (n_sq (n_aload_n hE dX12_weighs_57) (n_sq (n_getI hE xk_11 (k := 33) rfl (by decide) rfl wt_993 dX12_weighs_58) (n_ifcgt hE (by decide) dX12_weighs_61)))),
    (n_vreturn hE rfl dX12_weighs_64),
    (n_sq (n_aload_n hE dX12_weighs_65) (n_sq (n_iload_n hE dX12_weighs_66) (n_sq (n_putI hE xk_11 (k := 31) rfl (by decide) rfl rfl (tyX12_ok 31 (by decide)) wt_991 dX12_weighs_67) (n_sq (n_aload_n hE dX12_weighs_70) (n_sq (n_iload_n hE dX12_weighs_71) (n_sq (n_putI hE xk_11 (k := 32) rfl (by decide) rfl rfl (tyX12_ok 32 (by decide)) wt_992 dX12_weighs_72) (n_sq (n_aload_n hE dX12_weighs_75) (n_sq (n_iload hE dX12_weighs_76) (n_sq (n_putI hE xk_11 (k := 33) rfl (by decide) rfl rfl (tyX12_ok 33 (by decide)) wt_993 dX12_weighs_78) (n_vreturn hE rfl dX12_weighs_81)))))))))), trivial⟩
noncomputable def F_X12_weighs (as : List XV) (w : XW) : Option XW := (xF 5 bs_X12_weighs as w).bind pV
theorem m_X12_weighs : XM yX12_weighs cX12_weighs 5 none 6 145 (eV F_X12_weighs) := xm_V (xm_of (by decide) s_X12_weighs)
noncomputable def q_X12_weighs_0 (x1 : Int32) (x2 : Int32) (w : XW) : Option XR := ev bs_X12_weighs 0 ([some (.inr (11, 0)), some (.inl (.int x1)), some (.inl (.int x2)), none, none], [], w)
noncomputable def q_X12_weighs_39 (x2 : Int32) (x3 : Int32) (x4 : Int32) (w : XW) : Option XR := ev bs_X12_weighs 39 ([some (.inr (11, 0)), none, some (.inl (.int x2)), some (.inl (.int x3)), some (.inl (.int x4))], [], w)
noncomputable def q_X12_weighs_47 (x2 : Int32) (x3 : Int32) (x4 : Int32) (w : XW) : Option XR := ev bs_X12_weighs 47 ([some (.inr (11, 0)), none, some (.inl (.int x2)), some (.inl (.int x3)), some (.inl (.int x4))], [], w)
noncomputable def q_X12_weighs_55 (x2 : Int32) (x3 : Int32) (x4 : Int32) (w : XW) : Option XR := ev bs_X12_weighs 55 ([some (.inr (11, 0)), none, some (.inl (.int x2)), some (.inl (.int x3)), some (.inl (.int x4))], [], w)
noncomputable def q_X12_weighs_64 (w : XW) : Option XR := ev bs_X12_weighs 64 ([none, none, none, none, none], [], w)
noncomputable def q_X12_weighs_65 (x2 : Int32) (x3 : Int32) (x4 : Int32) (w : XW) : Option XR := ev bs_X12_weighs 65 ([some (.inr (11, 0)), none, some (.inl (.int x2)), some (.inl (.int x3)), some (.inl (.int x4))], [], w)
theorem e_X12_weighs_0 (x1 : Int32) (x2 : Int32) (w : XW) : q_X12_weighs_0 x1 x2 w = ((F_X12_passesAll [.inr (11, 0), .inl (.int x1)] (sI w 11 0 23 x2)).bind fun r0 => ((F_X12_onesThat [.inr (11, 0), .inl (.int (-2))] (sI r0 11 0 23 (-1))).bind fun r1 => ((F_X12_bits [.inl (.int r1.1)] r1.2).bind fun r2 => ((F_X12_fullAll [.inr (11, 0)] r2.2).bind fun r3 => ((F_X12_laysBack [.inr (11, 0)] r3.2).bind fun r4 => (bif decide (x2 < 0) then (q_X12_weighs_65 x2 r2.1 r3.1 r4) else (q_X12_weighs_39 x2 r2.1 r3.1 r4))))))) := (ev_eq _ _ _).trans rfl
theorem e_X12_weighs_39 (x2 : Int32) (x3 : Int32) (x4 : Int32) (w : XW) : q_X12_weighs_39 x2 x3 x4 w = (bif decide ((gI w 11 0 32) < x3) then (q_X12_weighs_64 w) else (q_X12_weighs_47 x2 x3 x4 w)) := (ev_eq _ _ _).trans rfl
theorem e_X12_weighs_47 (x2 : Int32) (x3 : Int32) (x4 : Int32) (w : XW) : q_X12_weighs_47 x2 x3 x4 w = (bif decide (¬ x3 = (gI w 11 0 32)) then (q_X12_weighs_65 x2 x3 x4 w) else (q_X12_weighs_55 x2 x3 x4 w)) := (ev_eq _ _ _).trans rfl
theorem e_X12_weighs_55 (x2 : Int32) (x3 : Int32) (x4 : Int32) (w : XW) : q_X12_weighs_55 x2 x3 x4 w = (bif decide ((gI w 11 0 33) < x4) then (q_X12_weighs_65 x2 x3 x4 w) else (q_X12_weighs_64 w)) := (ev_eq _ _ _).trans rfl
theorem e_X12_weighs_64 (w : XW) : q_X12_weighs_64 w = (some (none, w)) := (ev_eq _ _ _).trans rfl
theorem e_X12_weighs_65 (x2 : Int32) (x3 : Int32) (x4 : Int32) (w : XW) : q_X12_weighs_65 x2 x3 x4 w = (some (none, sI (sI (sI w 11 0 31 x2) 11 0 32 x3) 11 0 33 x4)) := (ev_eq _ _ _).trans rfl
theorem f_X12_weighs (x1 : Int32) (x2 : Int32) (w : XW) : F_X12_weighs [.inr (11, 0), .inl (.int x1), .inl (.int x2)] w = (q_X12_weighs_0 x1 x2 w).bind pV := rfl

-- WinterKeepModel.silent(II)I
theorem dX12_silent_0 : decode cX12_silent 0 = .ok (.aload_n 0, 1) := by decide +kernel
theorem dX12_silent_1 : decode cX12_silent 1 = .ok (.invokevirtual 369, 3) := by decide +kernel
theorem dX12_silent_4 : decode cX12_silent 4 = .ok (.ifCond .eq 27, 3) := by decide +kernel
theorem dX12_silent_7 : decode cX12_silent 7 = .ok (.iload_n 1, 1) := by decide +kernel
theorem dX12_silent_8 : decode cX12_silent 8 = .ok (.i2l, 1) := by decide +kernel
theorem dX12_silent_9 : decode cX12_silent 9 = .ok (.lconst 1, 1) := by decide +kernel
theorem dX12_silent_10 : decode cX12_silent 10 = .ok (.ldc2_w 425, 3) := by decide +kernel
theorem dX12_silent_13 : decode cX12_silent 13 = .ok (.invokestatic 133, 3) := by decide +kernel
theorem dX12_silent_16 : decode cX12_silent 16 = .ok (.ifCond .eq 15, 3) := by decide +kernel
theorem dX12_silent_19 : decode cX12_silent 19 = .ok (.iload_n 2, 1) := by decide +kernel
theorem dX12_silent_20 : decode cX12_silent 20 = .ok (.i2l, 1) := by decide +kernel
theorem dX12_silent_21 : decode cX12_silent 21 = .ok (.lconst 0, 1) := by decide +kernel
theorem dX12_silent_22 : decode cX12_silent 22 = .ok (.ldc2_w 326, 3) := by decide +kernel
theorem dX12_silent_25 : decode cX12_silent 25 = .ok (.invokestatic 133, 3) := by decide +kernel
theorem dX12_silent_28 : decode cX12_silent 28 = .ok (.ifCond .ne 6, 3) := by decide +kernel
theorem dX12_silent_31 : decode cX12_silent 31 = .ok (.bipush (-2), 2) := by decide +kernel
theorem dX12_silent_33 : decode cX12_silent 33 = .ok (.ireturn, 1) := by decide +kernel
theorem dX12_silent_34 : decode cX12_silent 34 = .ok (.aload_n 0, 1) := by decide +kernel
theorem dX12_silent_35 : decode cX12_silent 35 = .ok (.invokevirtual 377, 3) := by decide +kernel
theorem dX12_silent_38 : decode cX12_silent 38 = .ok (.iconst (-1), 1) := by decide +kernel
theorem dX12_silent_39 : decode cX12_silent 39 = .ok (.istore_n 3, 1) := by decide +kernel
theorem dX12_silent_40 : decode cX12_silent 40 = .ok (.iload_n 3, 1) := by decide +kernel
theorem dX12_silent_41 : decode cX12_silent 41 = .ok (.aload_n 0, 1) := by decide +kernel
theorem dX12_silent_42 : decode cX12_silent 42 = .ok (.getfield 39, 3) := by decide +kernel
theorem dX12_silent_45 : decode cX12_silent 45 = .ok (.iconst 4, 1) := by decide +kernel
theorem dX12_silent_46 : decode cX12_silent 46 = .ok (.iaload, 1) := by decide +kernel
theorem dX12_silent_47 : decode cX12_silent 47 = .ok (.if_icmp .ge 15, 3) := by decide +kernel
theorem dX12_silent_50 : decode cX12_silent 50 = .ok (.aload_n 0, 1) := by decide +kernel
theorem dX12_silent_51 : decode cX12_silent 51 = .ok (.iload_n 1, 1) := by decide +kernel
theorem dX12_silent_52 : decode cX12_silent 52 = .ok (.iload_n 3, 1) := by decide +kernel
theorem dX12_silent_53 : decode cX12_silent 53 = .ok (.invokevirtual 427, 3) := by decide +kernel
theorem dX12_silent_56 : decode cX12_silent 56 = .ok (.iinc 3 1, 3) := by decide +kernel
theorem dX12_silent_59 : decode cX12_silent 59 = .ok (.goto (-19), 3) := by decide +kernel
theorem dX12_silent_62 : decode cX12_silent 62 = .ok (.iload_n 2, 1) := by decide +kernel
theorem dX12_silent_63 : decode cX12_silent 63 = .ok (.ifCond .ne 10, 3) := by decide +kernel
theorem dX12_silent_66 : decode cX12_silent 66 = .ok (.aload_n 0, 1) := by decide +kernel
theorem dX12_silent_67 : decode cX12_silent 67 = .ok (.getfield 422, 3) := by decide +kernel
theorem dX12_silent_70 : decode cX12_silent 70 = .ok (.goto 19, 3) := by decide +kernel
theorem dX12_silent_73 : decode cX12_silent 73 = .ok (.iload_n 2, 1) := by decide +kernel
theorem dX12_silent_74 : decode cX12_silent 74 = .ok (.iconst 1, 1) := by decide +kernel
theorem dX12_silent_75 : decode cX12_silent 75 = .ok (.if_icmp .ne 10, 3) := by decide +kernel
theorem dX12_silent_78 : decode cX12_silent 78 = .ok (.aload_n 0, 1) := by decide +kernel
theorem dX12_silent_79 : decode cX12_silent 79 = .ok (.getfield 416, 3) := by decide +kernel
theorem dX12_silent_82 : decode cX12_silent 82 = .ok (.goto 7, 3) := by decide +kernel
theorem dX12_silent_85 : decode cX12_silent 85 = .ok (.aload_n 0, 1) := by decide +kernel
theorem dX12_silent_86 : decode cX12_silent 86 = .ok (.getfield 419, 3) := by decide +kernel
theorem dX12_silent_89 : decode cX12_silent 89 = .ok (.ireturn, 1) := by decide +kernel
theorem vc_X12_427 : XVw RX12 427 2 11 5 yX12_weighs cX12_weighs none := ⟨RX12, TX12, tyX12, 43, xk_11, rfl, ⟨by decide, by decide⟩, by decide +kernel, wt_1494, wt_1496, ws_106, wt_11, wt_1497⟩
noncomputable def bs_X12_silent : List (Nat × XB) := [
  (0, (sq (xLA 0) (sq (xCI 11 1 F_X12_isDale) (tIf1 (fun x => decide (x = 0)) 31 [false, false, false, false] 7 [true, true, true, false])))),
  (7, (sq (xLI 1) (sq (xI2L) (sq (xC (.long 1)) (sq (xC (.long 40)) (sq (xCI 99 3 F_X12_in) (tIf1 (fun x => decide (x = 0)) 31 [false, false, false, false] 19 [true, true, true, false]))))))),
  (19, (sq (xLI 2) (sq (xI2L) (sq (xC (.long 0)) (sq (xC (.long 2)) (sq (xCI 99 3 F_X12_in) (tIf1 (fun x => decide (¬ x = 0)) 34 [true, true, true, false] 31 [false, false, false, false]))))))),
  (31, (sq (xC (.int (-2))) tRI)),
  (34, (sq (xLA 0) (sq (xCV 11 1 F_X12_keeps) (sq (xC (.int (-1))) (sq (xSI 3) (tGo 40 [true, true, true, true])))))),
  (40, (sq (xLI 3) (sq (xLA 0) (sq (xGS 11 50 1 0) (sq (xC (.int 4)) (sq (xAI 50 98) (tIf2 (fun x y => decide (y ≤ x)) 62 [true, false, true, false] 50 [true, true, true, true]))))))),
  (50, (sq (xLA 0) (sq (xLI 1) (sq (xLI 3) (sq (xCV 11 3 F_X12_weighs) (sq (xInc 3 1) (tGo 40 [true, true, true, true]))))))),
  (62, (sq (xLI 2) (tIf1 (fun x => decide (¬ x = 0)) 73 [true, false, true, false] 66 [true, false, false, false]))),
  (66, (sq (xLA 0) (sq (xGI 11 31) (tGo 89 [false, false, false, false])))),
  (73, (sq (xLI 2) (sq (xC (.int 1)) (tIf2 (fun x y => decide (¬ x = y)) 85 [true, false, false, false] 78 [true, false, false, false])))),
  (78, (sq (xLA 0) (sq (xGI 11 32) (tGo 89 [false, false, false, false])))),
  (85, (sq (xLA 0) (sq (xGI 11 33) (tGo 89 [false, false, false, false])))),
  (89, tRI)]
set_option maxRecDepth 100000 in
set_option maxHeartbeats 4000000 in
theorem s_X12_silent : ∀ X : XCtx, XE X → X.2.2.1.1 = cX12_silent → X.2.2.1.2.1 = 4 → X.2.2.1.2.2.1 = yX12_silent.cls → X.2.2.1.2.2.2.1 = (some .int) → X.1.2.2.2.1 = { frames := 7, cells := 0, slots := 0, locals := 169 } → SndBs X bs_X12_silent := by
  rintro ⟨⟨p, l, e, R, s⟩, Y, ⟨cc, nL, own, ret, Ts⟩, Z⟩ hE h1 h2 h3 h4 h5
  dsimp only at h1 h2 h3 h4 h5
  subst h1 h2 h3 h4 h5
  exact ⟨(n_sq (n_aload_n hE dX12_silent_0) (n_sq (n_cIv hE m_X12_isDale vc_X12_369 (show 0 + 1 ≤ 7 ∧ 8 + (1 + 11) + 0 ≤ 169 by decide) dX12_silent_1) (n_ifeq hE (by decide) dX12_silent_4))),
    (n_sq (n_iload_n hE dX12_silent_7) (n_sq (n_i2l hE dX12_silent_8) (n_sq (n_lconst hE (by decide) dX12_silent_9) (n_sq (n_ldc2 hE wt_1493 dX12_silent_10) (n_sq (n_cIs hE m_X12_in vc_X12_133 (show 0 + 1 ≤ 7 ∧ 8 + (6 + 11) + 0 ≤ 169 by decide) dX12_silent_13) (n_ifeq hE (by decide) dX12_silent_16)))))),
    (n_sq (n_iload_n hE dX12_silent_19) (n_sq (n_i2l hE dX12_silent_20) (n_sq (n_lconst hE (by decide) dX12_silent_21) (n_sq (n_ldc2 hE wt_1316 dX12_silent_22) (n_sq (n_cIs hE m_X12_in vc_X12_133 (show 0 + 1 ≤ 7 ∧ 8 + (6 + 11) + 0 ≤ 169 by decide) dX12_silent_25) (n_ifne hE (by decide) dX12_silent_28)))))),
    (n_sq (n_bipush hE (by decide) dX12_silent_31) (n_ireturn hE rfl dX12_silent_33)),
    (n_sq (n_aload_n hE dX12_silent_34) (n_sq (n_cVv hE m_X12_keeps vc_X12_377 (show 0 + 1 ≤ 7 ∧ 8 + (2 + 11) + 0 ≤ 169 by decide) dX12_silent_35) (n_sq (n_iconst hE (by decide) dX12_silent_38) (n_sq (n_istore_n hE (show (3 : Nat) < 4 by decide) dX12_silent_39) n_fall)))),
    (n_sq (n_iload_n hE dX12_silent_40) (n_sq (n_aload_n hE dX12_silent_41) (n_sq (n_getS hE xk_11 (k := 20) rfl (by decide) rfl wt_980 dX12_silent_42) (n_sq (n_iconst hE (by decide) dX12_silent_45) (n_sq (n_iald hE rfl (by decide) dX12_silent_46) (n_ifcge hE (by decide) dX12_silent_47)))))),
    (n_sq (n_aload_n hE dX12_silent_50) (n_sq (n_iload_n hE dX12_silent_51) (n_sq (n_iload_n hE dX12_silent_52) (n_sq (n_cVv hE m_X12_weighs vc_X12_427 (show 6 + 1 ≤ 7 ∧ 8 + (5 + 11) + 145 ≤ 169 by decide) dX12_silent_53) (n_sq (n_iinc hE (by decide) (show (3 : Nat) < 4 by decide) dX12_silent_56) (n_goto hE (by decide) dX12_silent_59)))))),
    (n_sq (n_iload_n hE dX12_silent_62) (n_ifne hE (by decide) dX12_silent_63)),
    (n_sq (n_aload_n hE dX12_silent_66) (n_sq (n_getI hE xk_11 (k := 31) rfl (by decide) rfl wt_991 dX12_silent_67) (n_goto hE (by decide) dX12_silent_70))),
    (n_sq (n_iload_n hE dX12_silent_73) (n_sq (n_iconst hE (by decide) dX12_silent_74) (n_ifcne hE (by decide) dX12_silent_75))),
    (n_sq (n_aload_n hE dX12_silent_78) (n_sq (n_getI hE xk_11 (k := 32) rfl (by decide) rfl wt_992 dX12_silent_79) (n_goto hE (by decide) dX12_silent_82))),
    (n_sq (n_aload_n hE dX12_silent_85) (n_sq (n_getI hE xk_11 (k := 33) rfl (by decide) rfl wt_993 dX12_silent_86) n_fall)),
    (n_ireturn hE rfl dX12_silent_89), trivial⟩
noncomputable def F_X12_silent (as : List XV) (w : XW) : Option (Int32 × XW) := (xF 4 bs_X12_silent as w).bind pI
theorem m_X12_silent : XM yX12_silent cX12_silent 4 (some .int) 7 169 (eI F_X12_silent) := xm_I (xm_of (by decide) s_X12_silent)
noncomputable def q_X12_silent_0 (x1 : Int32) (x2 : Int32) (w : XW) : Option XR := ev bs_X12_silent 0 ([some (.inr (11, 0)), some (.inl (.int x1)), some (.inl (.int x2)), none], [], w)
noncomputable def q_X12_silent_7 (x1 : Int32) (x2 : Int32) (w : XW) : Option XR := ev bs_X12_silent 7 ([some (.inr (11, 0)), some (.inl (.int x1)), some (.inl (.int x2)), none], [], w)
noncomputable def q_X12_silent_19 (x1 : Int32) (x2 : Int32) (w : XW) : Option XR := ev bs_X12_silent 19 ([some (.inr (11, 0)), some (.inl (.int x1)), some (.inl (.int x2)), none], [], w)
noncomputable def q_X12_silent_31 (w : XW) : Option XR := ev bs_X12_silent 31 ([none, none, none, none], [], w)
noncomputable def q_X12_silent_34 (x1 : Int32) (x2 : Int32) (w : XW) : Option XR := ev bs_X12_silent 34 ([some (.inr (11, 0)), some (.inl (.int x1)), some (.inl (.int x2)), none], [], w)
noncomputable def q_X12_silent_40 (x1 : Int32) (x2 : Int32) (x3 : Int32) (w : XW) : Option XR := ev bs_X12_silent 40 ([some (.inr (11, 0)), some (.inl (.int x1)), some (.inl (.int x2)), some (.inl (.int x3))], [], w)
noncomputable def q_X12_silent_50 (x1 : Int32) (x2 : Int32) (x3 : Int32) (w : XW) : Option XR := ev bs_X12_silent 50 ([some (.inr (11, 0)), some (.inl (.int x1)), some (.inl (.int x2)), some (.inl (.int x3))], [], w)
noncomputable def q_X12_silent_62 (x2 : Int32) (w : XW) : Option XR := ev bs_X12_silent 62 ([some (.inr (11, 0)), none, some (.inl (.int x2)), none], [], w)
noncomputable def q_X12_silent_66 (w : XW) : Option XR := ev bs_X12_silent 66 ([some (.inr (11, 0)), none, none, none], [], w)
noncomputable def q_X12_silent_73 (x2 : Int32) (w : XW) : Option XR := ev bs_X12_silent 73 ([some (.inr (11, 0)), none, some (.inl (.int x2)), none], [], w)
noncomputable def q_X12_silent_78 (w : XW) : Option XR := ev bs_X12_silent 78 ([some (.inr (11, 0)), none, none, none], [], w)
noncomputable def q_X12_silent_85 (w : XW) : Option XR := ev bs_X12_silent 85 ([some (.inr (11, 0)), none, none, none], [], w)
noncomputable def q_X12_silent_89 (s0 : Int32) (w : XW) : Option XR := ev bs_X12_silent 89 ([none, none, none, none], [.inl (.int s0)], w)
theorem e_X12_silent_0 (x1 : Int32) (x2 : Int32) (w : XW) : q_X12_silent_0 x1 x2 w = ((F_X12_isDale [.inr (11, 0)] w).bind fun r0 => (bif decide (r0.1 = 0) then (q_X12_silent_31 r0.2) else (q_X12_silent_7 x1 x2 r0.2))) := (ev_eq _ _ _).trans rfl
theorem e_X12_silent_7 (x1 : Int32) (x2 : Int32) (w : XW) : q_X12_silent_7 x1 x2 w = ((F_X12_in [.inl (.long (x1 : Int32).toInt64), .inl (.long 1), .inl (.long 40)] w).bind fun r0 => (bif decide (r0.1 = 0) then (q_X12_silent_31 r0.2) else (q_X12_silent_19 x1 x2 r0.2))) := (ev_eq _ _ _).trans rfl
theorem e_X12_silent_19 (x1 : Int32) (x2 : Int32) (w : XW) : q_X12_silent_19 x1 x2 w = ((F_X12_in [.inl (.long (x2 : Int32).toInt64), .inl (.long 0), .inl (.long 2)] w).bind fun r0 => (bif decide (¬ r0.1 = 0) then (q_X12_silent_34 x1 x2 r0.2) else (q_X12_silent_31 r0.2))) := (ev_eq _ _ _).trans rfl
theorem e_X12_silent_31 (w : XW) : q_X12_silent_31 w = (some (some (.inl (.int (-2))), w)) := (ev_eq _ _ _).trans rfl
theorem e_X12_silent_34 (x1 : Int32) (x2 : Int32) (w : XW) : q_X12_silent_34 x1 x2 w = ((F_X12_keeps [.inr (11, 0)] w).bind fun r0 => (q_X12_silent_40 x1 x2 (-1) r0)) := (ev_eq _ _ _).trans rfl
theorem e_X12_silent_40 (x1 : Int32) (x2 : Int32) (x3 : Int32) (w : XW) : q_X12_silent_40 x1 x2 x3 w = (bif decide ((gI w 50 0 4) ≤ x3) then (q_X12_silent_62 x2 w) else (q_X12_silent_50 x1 x2 x3 w)) := (ev_eq _ _ _).trans rfl
theorem e_X12_silent_50 (x1 : Int32) (x2 : Int32) (x3 : Int32) (w : XW) : q_X12_silent_50 x1 x2 x3 w = ((F_X12_weighs [.inr (11, 0), .inl (.int x1), .inl (.int x3)] w).bind fun r0 => (q_X12_silent_40 x1 x2 (x3 + 1) r0)) := (ev_eq _ _ _).trans rfl
theorem e_X12_silent_62 (x2 : Int32) (w : XW) : q_X12_silent_62 x2 w = (bif decide (¬ x2 = 0) then (q_X12_silent_73 x2 w) else (q_X12_silent_66 w)) := (ev_eq _ _ _).trans rfl
theorem e_X12_silent_66 (w : XW) : q_X12_silent_66 w = (q_X12_silent_89 (gI w 11 0 31) w) := (ev_eq _ _ _).trans rfl
theorem e_X12_silent_73 (x2 : Int32) (w : XW) : q_X12_silent_73 x2 w = (bif decide (¬ x2 = 1) then (q_X12_silent_85 w) else (q_X12_silent_78 w)) := (ev_eq _ _ _).trans rfl
theorem e_X12_silent_78 (w : XW) : q_X12_silent_78 w = (q_X12_silent_89 (gI w 11 0 32) w) := (ev_eq _ _ _).trans rfl
theorem e_X12_silent_85 (w : XW) : q_X12_silent_85 w = (q_X12_silent_89 (gI w 11 0 33) w) := (ev_eq _ _ _).trans rfl
theorem e_X12_silent_89 (s0 : Int32) (w : XW) : q_X12_silent_89 s0 w = (some (some (.inl (.int s0)), w)) := (ev_eq _ _ _).trans rfl
theorem f_X12_silent (x1 : Int32) (x2 : Int32) (w : XW) : F_X12_silent [.inr (11, 0), .inl (.int x1), .inl (.int x2)] w = (q_X12_silent_0 x1 x2 w).bind pI := rfl
