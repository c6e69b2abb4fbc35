-- WinterKeepModel.canGo()Z
theorem dX12_canGo_0 : decode cX12_canGo 0 = .ok (.iconst 0, 1) := by decide +kernel
theorem dX12_canGo_1 : decode cX12_canGo 1 = .ok (.istore_n 1, 1) := by decide +kernel
theorem dX12_canGo_2 : decode cX12_canGo 2 = .ok (.iconst 0, 1) := by decide +kernel
theorem dX12_canGo_3 : decode cX12_canGo 3 = .ok (.istore_n 2, 1) := by decide +kernel
theorem dX12_canGo_4 : decode cX12_canGo 4 = .ok (.iload_n 2, 1) := by decide +kernel
theorem dX12_canGo_5 : decode cX12_canGo 5 = .ok (.aload_n 0, 1) := by decide +kernel
theorem dX12_canGo_6 : decode cX12_canGo 6 = .ok (.getfield 39, 3) := by decide +kernel
theorem dX12_canGo_9 : decode cX12_canGo 9 = .ok (.iconst 3, 1) := by decide +kernel
theorem dX12_canGo_10 : decode cX12_canGo 10 = .ok (.iaload, 1) := by decide +kernel
theorem dX12_canGo_11 : decode cX12_canGo 11 = .ok (.if_icmp .ge 55, 3) := by decide +kernel
theorem dX12_canGo_14 : decode cX12_canGo 14 = .ok (.aload_n 0, 1) := by decide +kernel
theorem dX12_canGo_15 : decode cX12_canGo 15 = .ok (.getfield 58, 3) := by decide +kernel
theorem dX12_canGo_18 : decode cX12_canGo 18 = .ok (.iload_n 2, 1) := by decide +kernel
theorem dX12_canGo_19 : decode cX12_canGo 19 = .ok (.iaload, 1) := by decide +kernel
theorem dX12_canGo_20 : decode cX12_canGo 20 = .ok (.istore_n 3, 1) := by decide +kernel
theorem dX12_canGo_21 : decode cX12_canGo 21 = .ok (.iload_n 3, 1) := by decide +kernel
theorem dX12_canGo_22 : decode cX12_canGo 22 = .ok (.ifCond .ge 6, 3) := by decide +kernel
theorem dX12_canGo_25 : decode cX12_canGo 25 = .ok (.goto 35, 3) := by decide +kernel
theorem dX12_canGo_28 : decode cX12_canGo 28 = .ok (.aload_n 0, 1) := by decide +kernel
theorem dX12_canGo_29 : decode cX12_canGo 29 = .ok (.iload_n 2, 1) := by decide +kernel
theorem dX12_canGo_30 : decode cX12_canGo 30 = .ok (.invokevirtual 345, 3) := by decide +kernel
theorem dX12_canGo_33 : decode cX12_canGo 33 = .ok (.ifCond .eq 19, 3) := by decide +kernel
theorem dX12_canGo_36 : decode cX12_canGo 36 = .ok (.aload_n 0, 1) := by decide +kernel
theorem dX12_canGo_37 : decode cX12_canGo 37 = .ok (.iload_n 3, 1) := by decide +kernel
theorem dX12_canGo_38 : decode cX12_canGo 38 = .ok (.invokevirtual 328, 3) := by decide +kernel
theorem dX12_canGo_41 : decode cX12_canGo 41 = .ok (.ifCond .ge 11, 3) := by decide +kernel
theorem dX12_canGo_44 : decode cX12_canGo 44 = .ok (.iload_n 1, 1) := by decide +kernel
theorem dX12_canGo_45 : decode cX12_canGo 45 = .ok (.iload_n 3, 1) := by decide +kernel
theorem dX12_canGo_46 : decode cX12_canGo 46 = .ok (.invokestatic 92, 3) := by decide +kernel
theorem dX12_canGo_49 : decode cX12_canGo 49 = .ok (.ifCond .eq 5, 3) := by decide +kernel
theorem dX12_canGo_52 : decode cX12_canGo 52 = .ok (.iconst 0, 1) := by decide +kernel
theorem dX12_canGo_53 : decode cX12_canGo 53 = .ok (.ireturn, 1) := by decide +kernel
theorem dX12_canGo_54 : decode cX12_canGo 54 = .ok (.iload_n 1, 1) := by decide +kernel
theorem dX12_canGo_55 : decode cX12_canGo 55 = .ok (.iconst 1, 1) := by decide +kernel
theorem dX12_canGo_56 : decode cX12_canGo 56 = .ok (.iload_n 3, 1) := by decide +kernel
theorem dX12_canGo_57 : decode cX12_canGo 57 = .ok (.ishl, 1) := by decide +kernel
theorem dX12_canGo_58 : decode cX12_canGo 58 = .ok (.ior, 1) := by decide +kernel
theorem dX12_canGo_59 : decode cX12_canGo 59 = .ok (.istore_n 1, 1) := by decide +kernel
theorem dX12_canGo_60 : decode cX12_canGo 60 = .ok (.iinc 2 1, 3) := by decide +kernel
theorem dX12_canGo_63 : decode cX12_canGo 63 = .ok (.goto (-59), 3) := by decide +kernel
theorem dX12_canGo_66 : decode cX12_canGo 66 = .ok (.iconst 1, 1) := by decide +kernel
theorem dX12_canGo_67 : decode cX12_canGo 67 = .ok (.ireturn, 1) := by decide +kernel
noncomputable def bs_X12_canGo : List (Nat × XB) := [
  (0, (sq (xC (.int 0)) (sq (xSI 1) (sq (xC (.int 0)) (sq (xSI 2) (tGo 4 [true, true, true, false])))))),
  (4, (sq (xLI 2) (sq (xLA 0) (sq (xGS 11 50 1 0) (sq (xC (.int 3)) (sq (xAI 50 98) (tIf2 (fun x y => decide (y ≤ x)) 66 [false, false, false, false] 14 [true, true, true, false]))))))),
  (14, (sq (xLA 0) (sq (xGS 11 54 1 0) (sq (xLI 2) (sq (xAI 54 6) (sq (xSI 3) (sq (xLI 3) (tIf1 (fun x => decide (0 ≤ x)) 28 [true, true, true, true] 25 [true, true, true, false])))))))),
  (25, (tGo 60 [true, true, true, false])),
  (28, (sq (xLA 0) (sq (xLI 2) (sq (xCI 11 2 F_X12_isHome) (tIf1 (fun x => decide (x = 0)) 52 [false, false, false, false] 36 [true, true, true, true]))))),
  (36, (sq (xLA 0) (sq (xLI 3) (sq (xCI 11 2 F_X12_keepIn) (tIf1 (fun x => decide (0 ≤ x)) 52 [false, false, false, false] 44 [true, true, true, true]))))),
  (44, (sq (xLI 1) (sq (xLI 3) (sq (xCI 99 2 F_X12_isOf) (tIf1 (fun x => decide (x = 0)) 54 [true, true, true, true] 52 [false, false, false, false]))))),
  (52, (sq (xC (.int 0)) tRZ)),
  (54, (sq (xLI 1) (sq (xC (.int 1)) (sq (xLI 3) (sq (xI2 (fun x y => x <<< (y &&& 31))) (sq (xI2 (· ||| ·)) (sq (xSI 1) (tGo 60 [true, true, true, false])))))))),
  (60, (sq (xInc 2 1) (tGo 4 [true, true, true, false]))),
  (66, (sq (xC (.int 1)) tRZ))]
set_option maxRecDepth 100000 in
set_option maxHeartbeats 4000000 in
theorem s_X12_canGo : ∀ X : XCtx, XE X → X.2.2.1.1 = cX12_canGo → X.2.2.1.2.1 = 4 → X.2.2.1.2.2.1 = yX12_canGo.cls → X.2.2.1.2.2.2.1 = (some .boolean) → X.1.2.2.2.1 = { frames := 2, cells := 0, slots := 0, locals := 43 } → SndBs X bs_X12_canGo := by
  rintro ⟨⟨p, l, e, R, s⟩, Y, ⟨cc, nL, own, ret, Ts⟩, Z⟩ hE h1 h2 h3 h4 h5
  dsimp only at h1 h2 h3 h4 h5
  subst h1 h2 h3 h4 h5
  exact ⟨(n_sq (n_iconst hE (by decide) dX12_canGo_0) (n_sq (n_istore_n hE (show (1 : Nat) < 4 by decide) dX12_canGo_1) (n_sq (n_iconst hE (by decide) dX12_canGo_2) (n_sq (n_istore_n hE (show (2 : Nat) < 4 by decide) dX12_canGo_3) n_fall)))),
    (n_sq (n_iload_n hE dX12_canGo_4) (n_sq (n_aload_n hE dX12_canGo_5) (n_sq (n_getS hE xk_11 (k := 20) rfl (by decide) rfl wt_980 dX12_canGo_6) (n_sq (n_iconst hE (by decide) dX12_canGo_9) (n_sq (n_iald hE rfl (by decide) dX12_canGo_10) (n_ifcge hE (by decide) dX12_canGo_11)))))),
    (n_sq (n_aload_n hE dX12_canGo_14) (n_sq (n_getS hE xk_11 (k := 28) rfl (by decide) rfl wt_988 dX12_canGo_15) (n_sq (n_iload_n hE dX12_canGo_18) (n_sq (n_iald hE rfl (by decide) dX12_canGo_19) (n_sq (n_istore_n hE (show (3 : Nat) < 4 by decide) dX12_canGo_20) (n_sq (n_iload_n hE dX12_canGo_21) (n_ifge hE (by decide) dX12_canGo_22))))))),
    (n_goto hE (by decide) dX12_canGo_25),
    (n_sq (n_aload_n hE dX12_canGo_28) (n_sq (n_iload_n hE dX12_canGo_29) (n_sq (n_cIv hE m_X12_isHome vc_X12_345 (show 1 + 1 ≤ 2 ∧ 8 + (2 + 11) + 21 ≤ 43 by decide) dX12_canGo_30) (n_ifeq hE (by decide) dX12_canGo_33)))),
    (n_sq (n_aload_n hE dX12_canGo_36) (n_sq (n_iload_n hE dX12_canGo_37) (n_sq (n_cIv hE m_X12_keepIn vc_X12_328 (show 1 + 1 ≤ 2 ∧ 8 + (3 + 11) + 21 ≤ 43 by decide) dX12_canGo_38) (n_ifge hE (by decide) dX12_canGo_41)))),
    (n_sq (n_iload_n hE dX12_canGo_44) (n_sq (n_iload_n hE dX12_canGo_45) (n_sq (n_cIs hE m_X12_isOf vc_X12_92 (show 0 + 1 ≤ 2 ∧ 8 + (2 + 11) + 0 ≤ 43 by decide) dX12_canGo_46) (n_ifeq hE (by decide) dX12_canGo_49)))),
    (n_sq (n_iconst hE (by decide) dX12_canGo_52) (n_zreturn hE rfl dX12_canGo_53)),
    (n_sq (n_iload_n hE dX12_canGo_54) (n_sq (n_iconst hE (by decide) dX12_canGo_55) (n_sq (n_iload_n hE dX12_canGo_56) (n_sq (n_ishl hE dX12_canGo_57) (n_sq (n_ior hE dX12_canGo_58) (n_sq (n_istore_n hE (show (1 : Nat) < 4 by decide) dX12_canGo_59) n_fall)))))),
    (n_sq (n_iinc hE (by decide) (show (2 : Nat) < 4 by decide) dX12_canGo_60) (n_goto hE (by decide) dX12_canGo_63)),
    (n_sq (n_iconst hE (by decide) dX12_canGo_66) (n_zreturn hE rfl dX12_canGo_67)), trivial⟩
noncomputable def F_X12_canGo (as : List XV) (w : XW) : Option (Int32 × XW) := (xF 4 bs_X12_canGo as w).bind pI
theorem m_X12_canGo : XM yX12_canGo cX12_canGo 4 (some .boolean) 2 43 (eI F_X12_canGo) := xm_I (xm_of (by decide) s_X12_canGo)
noncomputable def q_X12_canGo_0 (w : XW) : Option XR := ev bs_X12_canGo 0 ([some (.inr (11, 0)), none, none, none], [], w)
noncomputable def q_X12_canGo_4 (x1 : Int32) (x2 : Int32) (w : XW) : Option XR := ev bs_X12_canGo 4 ([some (.inr (11, 0)), some (.inl (.int x1)), some (.inl (.int x2)), none], [], w)
noncomputable def q_X12_canGo_14 (x1 : Int32) (x2 : Int32) (w : XW) : Option XR := ev bs_X12_canGo 14 ([some (.inr (11, 0)), some (.inl (.int x1)), some (.inl (.int x2)), none], [], w)
noncomputable def q_X12_canGo_25 (x1 : Int32) (x2 : Int32) (w : XW) : Option XR := ev bs_X12_canGo 25 ([some (.inr (11, 0)), some (.inl (.int x1)), some (.inl (.int x2)), none], [], w)
noncomputable def q_X12_canGo_28 (x1 : Int32) (x2 : Int32) (x3 : Int32) (w : XW) : Option XR := ev bs_X12_canGo 28 ([some (.inr (11, 0)), some (.inl (.int x1)), some (.inl (.int x2)), some (.inl (.int x3))], [], w)
noncomputable def q_X12_canGo_36 (x1 : Int32) (x2 : Int32) (x3 : Int32) (w : XW) : Option XR := ev bs_X12_canGo 36 ([some (.inr (11, 0)), some (.inl (.int x1)), some (.inl (.int x2)), some (.inl (.int x3))], [], w)
noncomputable def q_X12_canGo_44 (x1 : Int32) (x2 : Int32) (x3 : Int32) (w : XW) : Option XR := ev bs_X12_canGo 44 ([some (.inr (11, 0)), some (.inl (.int x1)), some (.inl (.int x2)), some (.inl (.int x3))], [], w)
noncomputable def q_X12_canGo_52 (w : XW) : Option XR := ev bs_X12_canGo 52 ([none, none, none, none], [], w)
noncomputable def q_X12_canGo_54 (x1 : Int32) (x2 : Int32) (x3 : Int32) (w : XW) : Option XR := ev bs_X12_canGo 54 ([some (.inr (11, 0)), some (.inl (.int x1)), some (.inl (.int x2)), some (.inl (.int x3))], [], w)
noncomputable def q_X12_canGo_60 (x1 : Int32) (x2 : Int32) (w : XW) : Option XR := ev bs_X12_canGo 60 ([some (.inr (11, 0)), some (.inl (.int x1)), some (.inl (.int x2)), none], [], w)
noncomputable def q_X12_canGo_66 (w : XW) : Option XR := ev bs_X12_canGo 66 ([none, none, none, none], [], w)
theorem e_X12_canGo_0 (w : XW) : q_X12_canGo_0 w = (q_X12_canGo_4 0 0 w) := (ev_eq _ _ _).trans rfl
theorem e_X12_canGo_4 (x1 : Int32) (x2 : Int32) (w : XW) : q_X12_canGo_4 x1 x2 w = (bif decide ((gI w 50 0 3) ≤ x2) then (q_X12_canGo_66 w) else (q_X12_canGo_14 x1 x2 w)) := (ev_eq _ _ _).trans rfl
theorem e_X12_canGo_14 (x1 : Int32) (x2 : Int32) (w : XW) : q_X12_canGo_14 x1 x2 w = (if x2 < 0 ∨ 6 ≤ x2.toNatClampNeg then none else (bif decide (0 ≤ (gI w 54 0 x2.toNatClampNeg)) then (q_X12_canGo_28 x1 x2 (gI w 54 0 x2.toNatClampNeg) w) else (q_X12_canGo_25 x1 x2 w))) := (ev_eq _ _ _).trans rfl
theorem e_X12_canGo_25 (x1 : Int32) (x2 : Int32) (w : XW) : q_X12_canGo_25 x1 x2 w = (q_X12_canGo_60 x1 x2 w) := (ev_eq _ _ _).trans rfl
theorem e_X12_canGo_28 (x1 : Int32) (x2 : Int32) (x3 : Int32) (w : XW) : q_X12_canGo_28 x1 x2 x3 w = ((F_X12_isHome [.inr (11, 0), .inl (.int x2)] w).bind fun r0 => (bif decide (r0.1 = 0) then (q_X12_canGo_52 r0.2) else (q_X12_canGo_36 x1 x2 x3 r0.2))) := (ev_eq _ _ _).trans rfl
theorem e_X12_canGo_36 (x1 : Int32) (x2 : Int32) (x3 : Int32) (w : XW) : q_X12_canGo_36 x1 x2 x3 w = ((F_X12_keepIn [.inr (11, 0), .inl (.int x3)] w).bind fun r0 => (bif decide (0 ≤ r0.1) then (q_X12_canGo_52 r0.2) else (q_X12_canGo_44 x1 x2 x3 r0.2))) := (ev_eq _ _ _).trans rfl
theorem e_X12_canGo_44 (x1 : Int32) (x2 : Int32) (x3 : Int32) (w : XW) : q_X12_canGo_44 x1 x2 x3 w = ((F_X12_isOf [.inl (.int x1), .inl (.int x3)] w).bind fun r0 => (bif decide (r0.1 = 0) then (q_X12_canGo_54 x1 x2 x3 r0.2) else (q_X12_canGo_52 r0.2))) := (ev_eq _ _ _).trans rfl
theorem e_X12_canGo_52 (w : XW) : q_X12_canGo_52 w = (some (some (.inl (.int 0)), w)) := (ev_eq _ _ _).trans rfl
theorem e_X12_canGo_54 (x1 : Int32) (x2 : Int32) (x3 : Int32) (w : XW) : q_X12_canGo_54 x1 x2 x3 w = (q_X12_canGo_60 (x1 ||| ((1 : Int32) <<< ((x3 : Int32) &&& 31))) x2 w) := (ev_eq _ _ _).trans rfl
theorem e_X12_canGo_60 (x1 : Int32) (x2 : Int32) (w : XW) : q_X12_canGo_60 x1 x2 w = (q_X12_canGo_4 x1 (x2 + 1) w) := (ev_eq _ _ _).trans rfl
theorem e_X12_canGo_66 (w : XW) : q_X12_canGo_66 w = (some (some (.inl (.int 1)), w)) := (ev_eq _ _ _).trans rfl
theorem f_X12_canGo (w : XW) : F_X12_canGo [.inr (11, 0)] w = (q_X12_canGo_0 w).bind pI := rfl

-- WinterKeepModel.bestPlacing()I
theorem dX12_bestPlacing_0 : decode cX12_bestPlacing 0 = .ok (.iconst 0, 1) := by decide +kernel
theorem dX12_bestPlacing_1 : decode cX12_bestPlacing 1 = .ok (.istore_n 1, 1) := by decide +kernel
theorem dX12_bestPlacing_2 : decode cX12_bestPlacing 2 = .ok (.iconst 0, 1) := by decide +kernel
theorem dX12_bestPlacing_3 : decode cX12_bestPlacing 3 = .ok (.istore_n 2, 1) := by decide +kernel
theorem dX12_bestPlacing_4 : decode cX12_bestPlacing 4 = .ok (.iconst 0, 1) := by decide +kernel
theorem dX12_bestPlacing_5 : decode cX12_bestPlacing 5 = .ok (.istore_n 3, 1) := by decide +kernel
theorem dX12_bestPlacing_6 : decode cX12_bestPlacing 6 = .ok (.iload_n 3, 1) := by decide +kernel
theorem dX12_bestPlacing_7 : decode cX12_bestPlacing 7 = .ok (.bipush 6, 2) := by decide +kernel
theorem dX12_bestPlacing_9 : decode cX12_bestPlacing 9 = .ok (.if_icmp .ge 23, 3) := by decide +kernel
theorem dX12_bestPlacing_12 : decode cX12_bestPlacing 12 = .ok (.aload_n 0, 1) := by decide +kernel
theorem dX12_bestPlacing_13 : decode cX12_bestPlacing 13 = .ok (.getfield 58, 3) := by decide +kernel
theorem dX12_bestPlacing_16 : decode cX12_bestPlacing 16 = .ok (.iload_n 3, 1) := by decide +kernel
theorem dX12_bestPlacing_17 : decode cX12_bestPlacing 17 = .ok (.iconst (-1), 1) := by decide +kernel
theorem dX12_bestPlacing_18 : decode cX12_bestPlacing 18 = .ok (.iastore, 1) := by decide +kernel
theorem dX12_bestPlacing_19 : decode cX12_bestPlacing 19 = .ok (.aload_n 0, 1) := by decide +kernel
theorem dX12_bestPlacing_20 : decode cX12_bestPlacing 20 = .ok (.getfield 61, 3) := by decide +kernel
theorem dX12_bestPlacing_23 : decode cX12_bestPlacing 23 = .ok (.iload_n 3, 1) := by decide +kernel
theorem dX12_bestPlacing_24 : decode cX12_bestPlacing 24 = .ok (.iconst (-1), 1) := by decide +kernel
theorem dX12_bestPlacing_25 : decode cX12_bestPlacing 25 = .ok (.iastore, 1) := by decide +kernel
theorem dX12_bestPlacing_26 : decode cX12_bestPlacing 26 = .ok (.iinc 3 1, 3) := by decide +kernel
theorem dX12_bestPlacing_29 : decode cX12_bestPlacing 29 = .ok (.goto (-23), 3) := by decide +kernel
theorem dX12_bestPlacing_32 : decode cX12_bestPlacing 32 = .ok (.aload_n 0, 1) := by decide +kernel
theorem dX12_bestPlacing_33 : decode cX12_bestPlacing 33 = .ok (.invokevirtual 389, 3) := by decide +kernel
theorem dX12_bestPlacing_36 : decode cX12_bestPlacing 36 = .ok (.ifCond .eq 127, 3) := by decide +kernel
theorem dX12_bestPlacing_39 : decode cX12_bestPlacing 39 = .ok (.aload_n 0, 1) := by decide +kernel
theorem dX12_bestPlacing_40 : decode cX12_bestPlacing 40 = .ok (.invokevirtual 392, 3) := by decide +kernel
theorem dX12_bestPlacing_43 : decode cX12_bestPlacing 43 = .ok (.ifCond .ne 6, 3) := by decide +kernel
theorem dX12_bestPlacing_46 : decode cX12_bestPlacing 46 = .ok (.goto (-14), 3) := by decide +kernel
theorem dX12_bestPlacing_49 : decode cX12_bestPlacing 49 = .ok (.iconst 0, 1) := by decide +kernel
theorem dX12_bestPlacing_50 : decode cX12_bestPlacing 50 = .ok (.istore_n 3, 1) := by decide +kernel
theorem dX12_bestPlacing_51 : decode cX12_bestPlacing 51 = .ok (.iconst 0, 1) := by decide +kernel
theorem dX12_bestPlacing_52 : decode cX12_bestPlacing 52 = .ok (.istore 4, 2) := by decide +kernel
theorem dX12_bestPlacing_54 : decode cX12_bestPlacing 54 = .ok (.iconst 0, 1) := by decide +kernel
theorem dX12_bestPlacing_55 : decode cX12_bestPlacing 55 = .ok (.istore 5, 2) := by decide +kernel
theorem dX12_bestPlacing_57 : decode cX12_bestPlacing 57 = .ok (.iload 5, 2) := by decide +kernel
theorem dX12_bestPlacing_59 : decode cX12_bestPlacing 59 = .ok (.aload_n 0, 1) := by decide +kernel
theorem dX12_bestPlacing_60 : decode cX12_bestPlacing 60 = .ok (.getfield 39, 3) := by decide +kernel
theorem dX12_bestPlacing_63 : decode cX12_bestPlacing 63 = .ok (.iconst 3, 1) := by decide +kernel
theorem dX12_bestPlacing_64 : decode cX12_bestPlacing 64 = .ok (.iaload, 1) := by decide +kernel
theorem dX12_bestPlacing_65 : decode cX12_bestPlacing 65 = .ok (.if_icmp .ge 41, 3) := by decide +kernel
theorem dX12_bestPlacing_68 : decode cX12_bestPlacing 68 = .ok (.aload_n 0, 1) := by decide +kernel
theorem dX12_bestPlacing_69 : decode cX12_bestPlacing 69 = .ok (.getfield 58, 3) := by decide +kernel
theorem dX12_bestPlacing_72 : decode cX12_bestPlacing 72 = .ok (.iload 5, 2) := by decide +kernel
theorem dX12_bestPlacing_74 : decode cX12_bestPlacing 74 = .ok (.iaload, 1) := by decide +kernel
theorem dX12_bestPlacing_75 : decode cX12_bestPlacing 75 = .ok (.ifCond .ge 6, 3) := by decide +kernel
theorem dX12_bestPlacing_78 : decode cX12_bestPlacing 78 = .ok (.goto 22, 3) := by decide +kernel
theorem dX12_bestPlacing_81 : decode cX12_bestPlacing 81 = .ok (.iload_n 3, 1) := by decide +kernel
theorem dX12_bestPlacing_82 : decode cX12_bestPlacing 82 = .ok (.aload_n 0, 1) := by decide +kernel
theorem dX12_bestPlacing_83 : decode cX12_bestPlacing 83 = .ok (.iload 5, 2) := by decide +kernel
theorem dX12_bestPlacing_85 : decode cX12_bestPlacing 85 = .ok (.aload_n 0, 1) := by decide +kernel
theorem dX12_bestPlacing_86 : decode cX12_bestPlacing 86 = .ok (.getfield 58, 3) := by decide +kernel
theorem dX12_bestPlacing_89 : decode cX12_bestPlacing 89 = .ok (.iload 5, 2) := by decide +kernel
theorem dX12_bestPlacing_91 : decode cX12_bestPlacing 91 = .ok (.iaload, 1) := by decide +kernel
theorem dX12_bestPlacing_92 : decode cX12_bestPlacing 92 = .ok (.invokevirtual 307, 3) := by decide +kernel
theorem dX12_bestPlacing_95 : decode cX12_bestPlacing 95 = .ok (.iadd, 1) := by decide +kernel
theorem dX12_bestPlacing_96 : decode cX12_bestPlacing 96 = .ok (.istore_n 3, 1) := by decide +kernel
theorem dX12_bestPlacing_97 : decode cX12_bestPlacing 97 = .ok (.iinc 4 1, 3) := by decide +kernel
theorem dX12_bestPlacing_100 : decode cX12_bestPlacing 100 = .ok (.iinc 5 1, 3) := by decide +kernel
theorem dX12_bestPlacing_103 : decode cX12_bestPlacing 103 = .ok (.goto (-46), 3) := by decide +kernel
theorem dX12_bestPlacing_106 : decode cX12_bestPlacing 106 = .ok (.iload_n 3, 1) := by decide +kernel
theorem dX12_bestPlacing_107 : decode cX12_bestPlacing 107 = .ok (.iload_n 1, 1) := by decide +kernel
theorem dX12_bestPlacing_108 : decode cX12_bestPlacing 108 = .ok (.if_icmp .lt (-76), 3) := by decide +kernel
theorem dX12_bestPlacing_111 : decode cX12_bestPlacing 111 = .ok (.iload_n 3, 1) := by decide +kernel
theorem dX12_bestPlacing_112 : decode cX12_bestPlacing 112 = .ok (.iload_n 1, 1) := by decide +kernel
theorem dX12_bestPlacing_113 : decode cX12_bestPlacing 113 = .ok (.if_icmp .ne 12, 3) := by decide +kernel
theorem dX12_bestPlacing_116 : decode cX12_bestPlacing 116 = .ok (.iload 4, 2) := by decide +kernel
theorem dX12_bestPlacing_118 : decode cX12_bestPlacing 118 = .ok (.iload_n 2, 1) := by decide +kernel
theorem dX12_bestPlacing_119 : decode cX12_bestPlacing 119 = .ok (.if_icmp .lt 6, 3) := by decide +kernel
theorem dX12_bestPlacing_122 : decode cX12_bestPlacing 122 = .ok (.goto (-90), 3) := by decide +kernel
theorem dX12_bestPlacing_125 : decode cX12_bestPlacing 125 = .ok (.iload_n 3, 1) := by decide +kernel
theorem dX12_bestPlacing_126 : decode cX12_bestPlacing 126 = .ok (.istore_n 1, 1) := by decide +kernel
theorem dX12_bestPlacing_127 : decode cX12_bestPlacing 127 = .ok (.iload 4, 2) := by decide +kernel
theorem dX12_bestPlacing_129 : decode cX12_bestPlacing 129 = .ok (.istore_n 2, 1) := by decide +kernel
theorem dX12_bestPlacing_130 : decode cX12_bestPlacing 130 = .ok (.iconst 0, 1) := by decide +kernel
theorem dX12_bestPlacing_131 : decode cX12_bestPlacing 131 = .ok (.istore 5, 2) := by decide +kernel
theorem dX12_bestPlacing_133 : decode cX12_bestPlacing 133 = .ok (.iload 5, 2) := by decide +kernel
theorem dX12_bestPlacing_135 : decode cX12_bestPlacing 135 = .ok (.bipush 6, 2) := by decide +kernel
theorem dX12_bestPlacing_137 : decode cX12_bestPlacing 137 = .ok (.if_icmp .ge 23, 3) := by decide +kernel
theorem dX12_bestPlacing_140 : decode cX12_bestPlacing 140 = .ok (.aload_n 0, 1) := by decide +kernel
theorem dX12_bestPlacing_141 : decode cX12_bestPlacing 141 = .ok (.getfield 61, 3) := by decide +kernel
theorem dX12_bestPlacing_144 : decode cX12_bestPlacing 144 = .ok (.iload 5, 2) := by decide +kernel
theorem dX12_bestPlacing_146 : decode cX12_bestPlacing 146 = .ok (.aload_n 0, 1) := by decide +kernel
theorem dX12_bestPlacing_147 : decode cX12_bestPlacing 147 = .ok (.getfield 58, 3) := by decide +kernel
theorem dX12_bestPlacing_150 : decode cX12_bestPlacing 150 = .ok (.iload 5, 2) := by decide +kernel
theorem dX12_bestPlacing_152 : decode cX12_bestPlacing 152 = .ok (.iaload, 1) := by decide +kernel
theorem dX12_bestPlacing_153 : decode cX12_bestPlacing 153 = .ok (.iastore, 1) := by decide +kernel
theorem dX12_bestPlacing_154 : decode cX12_bestPlacing 154 = .ok (.iinc 5 1, 3) := by decide +kernel
theorem dX12_bestPlacing_157 : decode cX12_bestPlacing 157 = .ok (.goto (-24), 3) := by decide +kernel
theorem dX12_bestPlacing_160 : decode cX12_bestPlacing 160 = .ok (.goto (-128), 3) := by decide +kernel
theorem dX12_bestPlacing_163 : decode cX12_bestPlacing 163 = .ok (.iload_n 1, 1) := by decide +kernel
theorem dX12_bestPlacing_164 : decode cX12_bestPlacing 164 = .ok (.ireturn, 1) := by decide +kernel
theorem vc_X12_389 : XVw RX12 389 0 11 2 yX12_nextWay cX12_nextWay (some .boolean) := ⟨RX12, TX12, tyX12, 43, xk_11, rfl, ⟨by decide, by decide⟩, by decide +kernel, wt_1456, wt_1458, ws_101, wt_11, wt_1459⟩
theorem vc_X12_392 : XVw RX12 392 0 11 4 yX12_canGo cX12_canGo (some .boolean) := ⟨RX12, TX12, tyX12, 43, xk_11, rfl, ⟨by decide, by decide⟩, by decide +kernel, wt_1460, wt_1462, ws_102, wt_11, wt_1463⟩
noncomputable def bs_X12_bestPlacing : List (Nat × XB) := [
  (0, (sq (xC (.int 0)) (sq (xSI 1) (sq (xC (.int 0)) (sq (xSI 2) (sq (xC (.int 0)) (sq (xSI 3) (tGo 6 [true, true, true, true, false, false])))))))),
  (6, (sq (xLI 3) (sq (xC (.int 6)) (tIf2 (fun x y => decide (y ≤ x)) 32 [true, true, true, false, false, false] 12 [true, true, true, true, false, false])))),
  (12, (sq (xLA 0) (sq (xGS 11 54 1 0) (sq (xLI 3) (sq (xC (.int (-1))) (sq (xTI 54 6 (fun x => x)) (sq (xLA 0) (sq (xGS 11 55 1 0) (sq (xLI 3) (sq (xC (.int (-1))) (sq (xTI 55 6 (fun x => x)) (sq (xInc 3 1) (tGo 6 [true, true, true, true, false, false]))))))))))))),
  (32, (sq (xLA 0) (sq (xCI 11 1 F_X12_nextWay) (tIf1 (fun x => decide (x = 0)) 163 [false, true, false, false, false, false] 39 [true, true, true, false, false, false])))),
  (39, (sq (xLA 0) (sq (xCI 11 1 F_X12_canGo) (tIf1 (fun x => decide (¬ x = 0)) 49 [true, true, true, false, false, false] 46 [true, true, true, false, false, false])))),
  (46, (tGo 32 [true, true, true, false, false, false])),
  (49, (sq (xC (.int 0)) (sq (xSI 3) (sq (xC (.int 0)) (sq (xSI 4) (sq (xC (.int 0)) (sq (xSI 5) (tGo 57 [true, true, true, true, true, true])))))))),
  (57, (sq (xLI 5) (sq (xLA 0) (sq (xGS 11 50 1 0) (sq (xC (.int 3)) (sq (xAI 50 98) (tIf2 (fun x y => decide (y ≤ x)) 106 [true, true, true, true, true, false] 68 [true, true, true, true, true, true]))))))),
  (68, (sq (xLA 0) (sq (xGS 11 54 1 0) (sq (xLI 5) (sq (xAI 54 6) (tIf1 (fun x => decide (0 ≤ x)) 81 [true, true, true, true, true, true] 78 [true, true, true, true, true, true])))))),
  (78, (tGo 100 [true, true, true, true, true, true])),
  (81, (sq (xLI 3) (sq (xLA 0) (sq (xLI 5) (sq (xLA 0) (sq (xGS 11 54 1 0) (sq (xLI 5) (sq (xAI 54 6) (sq (xCI 11 3 F_X12_keptOffBy) (sq (xI2 (· + ·)) (sq (xSI 3) (sq (xInc 4 1) (tGo 100 [true, true, true, true, true, true]))))))))))))),
  (100, (sq (xInc 5 1) (tGo 57 [true, true, true, true, true, true]))),
  (106, (sq (xLI 3) (sq (xLI 1) (tIf2 (fun x y => decide (x < y)) 32 [true, true, true, false, false, false] 111 [true, true, true, true, true, false])))),
  (111, (sq (xLI 3) (sq (xLI 1) (tIf2 (fun x y => decide (¬ x = y)) 125 [true, false, false, true, true, false] 116 [true, true, true, true, true, false])))),
  (116, (sq (xLI 4) (sq (xLI 2) (tIf2 (fun x y => decide (x < y)) 125 [true, false, false, true, true, false] 122 [true, true, true, false, false, false])))),
  (122, (tGo 32 [true, true, true, false, false, false])),
  (125, (sq (xLI 3) (sq (xSI 1) (sq (xLI 4) (sq (xSI 2) (sq (xC (.int 0)) (sq (xSI 5) (tGo 133 [true, true, true, false, false, true])))))))),
  (133, (sq (xLI 5) (sq (xC (.int 6)) (tIf2 (fun x y => decide (y ≤ x)) 160 [true, true, true, false, false, false] 140 [true, true, true, false, false, true])))),
  (140, (sq (xLA 0) (sq (xGS 11 55 1 0) (sq (xLI 5) (sq (xLA 0) (sq (xGS 11 54 1 0) (sq (xLI 5) (sq (xAI 54 6) (sq (xTI 55 6 (fun x => x)) (sq (xInc 5 1) (tGo 133 [true, true, true, false, false, true]))))))))))),
  (160, (tGo 32 [true, true, true, false, false, false])),
  (163, (sq (xLI 1) tRI))]
set_option maxRecDepth 100000 in
set_option maxHeartbeats 4000000 in
theorem s_X12_bestPlacing : ∀ X : XCtx, XE X → X.2.2.1.1 = cX12_bestPlacing → X.2.2.1.2.1 = 6 → X.2.2.1.2.2.1 = yX12_bestPlacing.cls → X.2.2.1.2.2.2.1 = (some .int) → X.1.2.2.2.1 = { frames := 3, cells := 0, slots := 0, locals := 66 } → SndBs X bs_X12_bestPlacing := by
  rintro ⟨⟨p, l, e, R, s⟩, Y, ⟨cc, nL, own, ret, Ts⟩, Z⟩ hE h1 h2 h3 h4 h5
  dsimp only at h1 h2 h3 h4 h5
  subst h1 h2 h3 h4 h5
  exact ⟨(n_sq (n_iconst hE (by decide) dX12_bestPlacing_0) (n_sq (n_istore_n hE (show (1 : Nat) < 6 by decide) dX12_bestPlacing_1) (n_sq (n_iconst hE (by decide) dX12_bestPlacing_2) (n_sq (n_istore_n hE (show (2 : Nat) < 6 by decide) dX12_bestPlacing_3) (n_sq (n_iconst hE (by decide) dX12_bestPlacing_4) (n_sq (n_istore_n hE (show (3 : Nat) < 6 by decide) dX12_bestPlacing_5) n_fall)))))),
    (n_sq (n_iload_n hE dX12_bestPlacing_6) (n_sq (n_bipush hE (by decide) dX12_bestPlacing_7) (n_ifcge hE (by decide) dX12_bestPlacing_9))),
    (n_sq (n_aload_n hE dX12_bestPlacing_12) (n_sq (n_getS hE xk_11 (k := 28) rfl (by decide) rfl wt_988 dX12_bestPlacing_13) (n_sq (n_iload_n hE dX12_bestPlacing_16) (n_sq (n_iconst hE (by decide) dX12_bestPlacing_17) (n_sq (n_iast hE rfl (by decide) dX12_bestPlacing_18) (n_sq (n_aload_n hE dX12_bestPlacing_19) (n_sq (n_getS hE xk_11 (k := 29) rfl (by decide) rfl wt_989 dX12_bestPlacing_20) (n_sq (n_iload_n hE dX12_bestPlacing_23) (n_sq (n_iconst hE (by decide) dX12_bestPlacing_24) (n_sq (n_iast hE rfl (by decide) dX12_bestPlacing_25) (n_sq (n_iinc hE (by decide) (show (3 : Nat) < 6 by decide) dX12_bestPlacing_26) (n_goto hE (by decide) dX12_bestPlacing_29)))))))))))),
    (n_sq (n_aload_n hE dX12_bestPlacing_32) (n_sq (n_cIv hE m_X12_nextWay vc_X12_389 (show 0 + 1 ≤ 3 ∧ 8 + (2 + 11) + 0 ≤ 66 by decide) dX12_bestPlacing_33) (n_ifeq hE (by decide) dX12_bestPlacing_36))),
    (n_sq (n_aload_n hE dX12_bestPlacing_39) (n_sq (n_cIv hE m_X12_canGo vc_X12_392 (show 2 + 1 ≤ 3 ∧ 8 + (4 + 11) + 43 ≤ 66 by decide) dX12_bestPlacing_40) (n_ifne hE (by decide) dX12_bestPlacing_43))),
    (n_goto hE (by decide) dX12_bestPlacing_46),
    (n_sq (n_iconst hE (by decide) dX12_bestPlacing_49) (n_sq (n_istore_n hE (show (3 : Nat) < 6 by decide) dX12_bestPlacing_50) (n_sq (n_iconst hE (by decide) dX12_bestPlacing_51) (n_sq (n_istore hE (show (4 : Nat) < 6 by decide) dX12_bestPlacing_52) (n_sq (n_iconst hE (by decide) dX12_bestPlacing_54) (n_sq (n_istore hE (show (5 : Nat) < 6 by decide) dX12_bestPlacing_55) n_fall)))))),
    (n_sq (n_iload hE dX12_bestPlacing_57) (n_sq (n_aload_n hE dX12_bestPlacing_59) (n_sq (n_getS hE xk_11 (k := 20) rfl (by decide) rfl wt_980 dX12_bestPlacing_60) (n_sq (n_iconst hE (by decide) dX12_bestPlacing_63) (n_sq (n_iald hE rfl (by decide) dX12_bestPlacing_64) (n_ifcge hE (by decide) dX12_bestPlacing_65)))))),
    (n_sq (n_aload_n hE dX12_bestPlacing_68) (n_sq (n_getS hE xk_11 (k := 28) rfl (by decide) rfl wt_988 dX12_bestPlacing_69) (n_sq (n_iload hE dX12_bestPlacing_72) (n_sq (n_iald hE rfl (by decide) dX12_bestPlacing_74) (n_ifge hE (by decide) dX12_bestPlacing_75))))),
    (n_goto hE (by decide) dX12_bestPlacing_78),
    (n_sq (n_iload_n hE dX12_bestPlacing_81) (n_sq (n_aload_n hE dX12_bestPlacing_82) (n_sq (n_iload hE dX12_bestPlacing_83) (n_sq (n_aload_n hE dX12_bestPlacing_85) (n_sq (n_getS hE xk_11 (k := 28) rfl (by decide) rfl wt_988 dX12_bestPlacing_86) (n_sq (n_iload hE dX12_bestPlacing_89) (n_sq (n_iald hE rfl (by decide) dX12_bestPlacing_91) (n_sq (n_cIv hE m_X12_keptOffBy vc_X12_307 (show 1 + 1 ≤ 3 ∧ 8 + (3 + 11) + 21 ≤ 66 by decide) dX12_bestPlacing_92) (n_sq (n_iadd hE dX12_bestPlacing_95) (n_sq (n_istore_n hE (show (3 : Nat) < 6 by decide) dX12_bestPlacing_96) (n_sq (n_iinc hE (by decide) (show (4 : Nat) < 6 by decide) dX12_bestPlacing_97) n_fall))))))))))),
    (n_sq (n_iinc hE (by decide) (show (5 : Nat) < 6 by decide) dX12_bestPlacing_100) (n_goto hE (by decide) dX12_bestPlacing_103)),
    (n_sq (n_iload_n hE dX12_bestPlacing_106) (n_sq (n_iload_n hE dX12_bestPlacing_107) (n_ifclt hE (by decide) dX12_bestPlacing_108))),
    (n_sq (n_iload_n hE dX12_bestPlacing_111) (n_sq (n_iload_n hE dX12_bestPlacing_112) (n_ifcne hE (by decide) dX12_bestPlacing_113))),
    (n_sq (n_iload hE dX12_bestPlacing_116) (n_sq (n_iload_n hE dX12_bestPlacing_118) (n_ifclt hE (by decide) dX12_bestPlacing_119))),
    (n_goto hE (by decide) dX12_bestPlacing_122),
    (n_sq (n_iload_n hE dX12_bestPlacing_125) (n_sq (n_istore_n hE (show (1 : Nat) < 6 by decide) dX12_bestPlacing_126) (n_sq (n_iload hE dX12_bestPlacing_127) (n_sq (n_istore_n hE (show (2 : Nat) < 6 by decide) dX12_bestPlacing_129) (n_sq (n_iconst hE (by decide) dX12_bestPlacing_130) (n_sq (n_istore hE (show (5 : Nat) < 6 by decide) dX12_bestPlacing_131) n_fall)))))),
    (n_sq (n_iload hE dX12_bestPlacing_133) (n_sq (n_bipush hE (by decide) dX12_bestPlacing_135) (n_ifcge hE (by decide) dX12_bestPlacing_137))),
    (n_sq (n_aload_n hE dX12_bestPlacing_140) (n_sq (n_getS hE xk_11 (k := 29) rfl (by decide) rfl wt_989 dX12_bestPlacing_141) (n_sq (n_iload hE dX12_bestPlacing_144) (n_sq (n_aload_n hE dX12_bestPlacing_146) (n_sq (n_getS hE xk_11 (k := 28) rfl (by decide) rfl wt_988 dX12_bestPlacing_147) (n_sq (n_iload hE dX12_bestPlacing_150) (n_sq (n_iald hE rfl (by decide) dX12_bestPlacing_152) (n_sq (n_iast hE rfl (by decide) dX12_bestPlacing_153) (n_sq (n_iinc hE (by decide) (show (5 : Nat) < 6 by decide) dX12_bestPlacing_154) (n_goto hE (by decide) dX12_bestPlacing_157)))))))))),
    (n_goto hE (by decide) dX12_bestPlacing_160),
    (n_sq (n_iload_n hE dX12_bestPlacing_163) (n_ireturn hE rfl dX12_bestPlacing_164)), trivial⟩
noncomputable def F_X12_bestPlacing (as : List XV) (w : XW) : Option (Int32 × XW) := (xF 6 bs_X12_bestPlacing as w).bind pI
theorem m_X12_bestPlacing : XM yX12_bestPlacing cX12_bestPlacing 6 (some .int) 3 66 (eI F_X12_bestPlacing) := xm_I (xm_of (by decide) s_X12_bestPlacing)
noncomputable def q_X12_bestPlacing_0 (w : XW) : Option XR := ev bs_X12_bestPlacing 0 ([some (.inr (11, 0)), none, none, none, none, none], [], w)
noncomputable def q_X12_bestPlacing_6 (x1 : Int32) (x2 : Int32) (x3 : Int32) (w : XW) : Option XR := ev bs_X12_bestPlacing 6 ([some (.inr (11, 0)), some (.inl (.int x1)), some (.inl (.int x2)), some (.inl (.int x3)), none, none], [], w)
noncomputable def q_X12_bestPlacing_12 (x1 : Int32) (x2 : Int32) (x3 : Int32) (w : XW) : Option XR := ev bs_X12_bestPlacing 12 ([some (.inr (11, 0)), some (.inl (.int x1)), some (.inl (.int x2)), some (.inl (.int x3)), none, none], [], w)
noncomputable def q_X12_bestPlacing_32 (x1 : Int32) (x2 : Int32) (w : XW) : Option XR := ev bs_X12_bestPlacing 32 ([some (.inr (11, 0)), some (.inl (.int x1)), some (.inl (.int x2)), none, none, none], [], w)
noncomputable def q_X12_bestPlacing_39 (x1 : Int32) (x2 : Int32) (w : XW) : Option XR := ev bs_X12_bestPlacing 39 ([some (.inr (11, 0)), some (.inl (.int x1)), some (.inl (.int x2)), none, none, none], [], w)
noncomputable def q_X12_bestPlacing_46 (x1 : Int32) (x2 : Int32) (w : XW) : Option XR := ev bs_X12_bestPlacing 46 ([some (.inr (11, 0)), some (.inl (.int x1)), some (.inl (.int x2)), none, none, none], [], w)
noncomputable def q_X12_bestPlacing_49 (x1 : Int32) (x2 : Int32) (w : XW) : Option XR := ev bs_X12_bestPlacing 49 ([some (.inr (11, 0)), some (.inl (.int x1)), some (.inl (.int x2)), none, none, none], [], w)
noncomputable def q_X12_bestPlacing_57 (x1 : Int32) (x2 : Int32) (x3 : Int32) (x4 : Int32) (x5 : Int32) (w : XW) : Option XR := ev bs_X12_bestPlacing 57 ([some (.inr (11, 0)), some (.inl (.int x1)), some (.inl (.int x2)), some (.inl (.int x3)), some (.inl (.int x4)), some (.inl (.int x5))], [], w)
noncomputable def q_X12_bestPlacing_68 (x1 : Int32) (x2 : Int32) (x3 : Int32) (x4 : Int32) (x5 : Int32) (w : XW) : Option XR := ev bs_X12_bestPlacing 68 ([some (.inr (11, 0)), some (.inl (.int x1)), some (.inl (.int x2)), some (.inl (.int x3)), some (.inl (.int x4)), some (.inl (.int x5))], [], w)
noncomputable def q_X12_bestPlacing_78 (x1 : Int32) (x2 : Int32) (x3 : Int32) (x4 : Int32) (x5 : Int32) (w : XW) : Option XR := ev bs_X12_bestPlacing 78 ([some (.inr (11, 0)), some (.inl (.int x1)), some (.inl (.int x2)), some (.inl (.int x3)), some (.inl (.int x4)), some (.inl (.int x5))], [], w)
noncomputable def q_X12_bestPlacing_81 (x1 : Int32) (x2 : Int32) (x3 : Int32) (x4 : Int32) (x5 : Int32) (w : XW) : Option XR := ev bs_X12_bestPlacing 81 ([some (.inr (11, 0)), some (.inl (.int x1)), some (.inl (.int x2)), some (.inl (.int x3)), some (.inl (.int x4)), some (.inl (.int x5))], [], w)
noncomputable def q_X12_bestPlacing_100 (x1 : Int32) (x2 : Int32) (x3 : Int32) (x4 : Int32) (x5 : Int32) (w : XW) : Option XR := ev bs_X12_bestPlacing 100 ([some (.inr (11, 0)), some (.inl (.int x1)), some (.inl (.int x2)), some (.inl (.int x3)), some (.inl (.int x4)), some (.inl (.int x5))], [], w)
noncomputable def q_X12_bestPlacing_106 (x1 : Int32) (x2 : Int32) (x3 : Int32) (x4 : Int32) (w : XW) : Option XR := ev bs_X12_bestPlacing 106 ([some (.inr (11, 0)), some (.inl (.int x1)), some (.inl (.int x2)), some (.inl (.int x3)), some (.inl (.int x4)), none], [], w)
noncomputable def q_X12_bestPlacing_111 (x1 : Int32) (x2 : Int32) (x3 : Int32) (x4 : Int32) (w : XW) : Option XR := ev bs_X12_bestPlacing 111 ([some (.inr (11, 0)), some (.inl (.int x1)), some (.inl (.int x2)), some (.inl (.int x3)), some (.inl (.int x4)), none], [], w)
noncomputable def q_X12_bestPlacing_116 (x1 : Int32) (x2 : Int32) (x3 : Int32) (x4 : Int32) (w : XW) : Option XR := ev bs_X12_bestPlacing 116 ([some (.inr (11, 0)), some (.inl (.int x1)), some (.inl (.int x2)), some (.inl (.int x3)), some (.inl (.int x4)), none], [], w)
noncomputable def q_X12_bestPlacing_122 (x1 : Int32) (x2 : Int32) (w : XW) : Option XR := ev bs_X12_bestPlacing 122 ([some (.inr (11, 0)), some (.inl (.int x1)), some (.inl (.int x2)), none, none, none], [], w)
noncomputable def q_X12_bestPlacing_125 (x3 : Int32) (x4 : Int32) (w : XW) : Option XR := ev bs_X12_bestPlacing 125 ([some (.inr (11, 0)), none, none, some (.inl (.int x3)), some (.inl (.int x4)), none], [], w)
noncomputable def q_X12_bestPlacing_133 (x1 : Int32) (x2 : Int32) (x5 : Int32) (w : XW) : Option XR := ev bs_X12_bestPlacing 133 ([some (.inr (11, 0)), some (.inl (.int x1)), some (.inl (.int x2)), none, none, some (.inl (.int x5))], [], w)
noncomputable def q_X12_bestPlacing_140 (x1 : Int32) (x2 : Int32) (x5 : Int32) (w : XW) : Option XR := ev bs_X12_bestPlacing 140 ([some (.inr (11, 0)), some (.inl (.int x1)), some (.inl (.int x2)), none, none, some (.inl (.int x5))], [], w)
noncomputable def q_X12_bestPlacing_160 (x1 : Int32) (x2 : Int32) (w : XW) : Option XR := ev bs_X12_bestPlacing 160 ([some (.inr (11, 0)), some (.inl (.int x1)), some (.inl (.int x2)), none, none, none], [], w)
noncomputable def q_X12_bestPlacing_163 (x1 : Int32) (w : XW) : Option XR := ev bs_X12_bestPlacing 163 ([none, some (.inl (.int x1)), none, none, none, none], [], w)
set_option maxRecDepth 100000 in
theorem e_X12_bestPlacing_0 (w : XW) : q_X12_bestPlacing_0 w = (q_X12_bestPlacing_6 0 0 0 w) := (ev_eq _ _ _).trans rfl
set_option maxRecDepth 100000 in
theorem e_X12_bestPlacing_6 (x1 : Int32) (x2 : Int32) (x3 : Int32) (w : XW) : q_X12_bestPlacing_6 x1 x2 x3 w = (bif decide (6 ≤ x3) then (q_X12_bestPlacing_32 x1 x2 w) else (q_X12_bestPlacing_12 x1 x2 x3 w)) := (ev_eq _ _ _).trans rfl
set_option maxRecDepth 100000 in
theorem e_X12_bestPlacing_12 (x1 : Int32) (x2 : Int32) (x3 : Int32) (w : XW) : q_X12_bestPlacing_12 x1 x2 x3 w = (if x3 < 0 ∨ 6 ≤ x3.toNatClampNeg then none else (if x3 < 0 ∨ 6 ≤ x3.toNatClampNeg then none else (q_X12_bestPlacing_6 x1 x2 (x3 + 1) (sI (sI w 54 0 x3.toNatClampNeg (-1)) 55 0 x3.toNatClampNeg (-1))))) := (ev_eq _ _ _).trans rfl
set_option maxRecDepth 100000 in
theorem e_X12_bestPlacing_32 (x1 : Int32) (x2 : Int32) (w : XW) : q_X12_bestPlacing_32 x1 x2 w = ((F_X12_nextWay [.inr (11, 0)] w).bind fun r0 => (bif decide (r0.1 = 0) then (q_X12_bestPlacing_163 x1 r0.2) else (q_X12_bestPlacing_39 x1 x2 r0.2))) := (ev_eq _ _ _).trans rfl
set_option maxRecDepth 100000 in
theorem e_X12_bestPlacing_39 (x1 : Int32) (x2 : Int32) (w : XW) : q_X12_bestPlacing_39 x1 x2 w = ((F_X12_canGo [.inr (11, 0)] w).bind fun r0 => (bif decide (¬ r0.1 = 0) then (q_X12_bestPlacing_49 x1 x2 r0.2) else (q_X12_bestPlacing_46 x1 x2 r0.2))) := (ev_eq _ _ _).trans rfl
set_option maxRecDepth 100000 in
theorem e_X12_bestPlacing_46 (x1 : Int32) (x2 : Int32) (w : XW) : q_X12_bestPlacing_46 x1 x2 w = (q_X12_bestPlacing_32 x1 x2 w) := (ev_eq _ _ _).trans rfl
set_option maxRecDepth 100000 in
theorem e_X12_bestPlacing_49 (x1 : Int32) (x2 : Int32) (w : XW) : q_X12_bestPlacing_49 x1 x2 w = (q_X12_bestPlacing_57 x1 x2 0 0 0 w) := (ev_eq _ _ _).trans rfl
set_option maxRecDepth 100000 in
theorem e_X12_bestPlacing_57 (x1 : Int32) (x2 : Int32) (x3 : Int32) (x4 : Int32) (x5 : Int32) (w : XW) : q_X12_bestPlacing_57 x1 x2 x3 x4 x5 w = (bif decide ((gI w 50 0 3) ≤ x5) then (q_X12_bestPlacing_106 x1 x2 x3 x4 w) else (q_X12_bestPlacing_68 x1 x2 x3 x4 x5 w)) := (ev_eq _ _ _).trans rfl
set_option maxRecDepth 100000 in
theorem e_X12_bestPlacing_68 (x1 : Int32) (x2 : Int32) (x3 : Int32) (x4 : Int32) (x5 : Int32) (w : XW) : q_X12_bestPlacing_68 x1 x2 x3 x4 x5 w = (if x5 < 0 ∨ 6 ≤ x5.toNatClampNeg then none else (bif decide (0 ≤ (gI w 54 0 x5.toNatClampNeg)) then (q_X12_bestPlacing_81 x1 x2 x3 x4 x5 w) else (q_X12_bestPlacing_78 x1 x2 x3 x4 x5 w))) := (ev_eq _ _ _).trans rfl
set_option maxRecDepth 100000 in
theorem e_X12_bestPlacing_78 (x1 : Int32) (x2 : Int32) (x3 : Int32) (x4 : Int32) (x5 : Int32) (w : XW) : q_X12_bestPlacing_78 x1 x2 x3 x4 x5 w = (q_X12_bestPlacing_100 x1 x2 x3 x4 x5 w) := (ev_eq _ _ _).trans rfl
set_option maxRecDepth 100000 in
theorem e_X12_bestPlacing_81 (x1 : Int32) (x2 : Int32) (x3 : Int32) (x4 : Int32) (x5 : Int32) (w : XW) : q_X12_bestPlacing_81 x1 x2 x3 x4 x5 w = (if x5 < 0 ∨ 6 ≤ x5.toNatClampNeg then none else ((F_X12_keptOffBy [.inr (11, 0), .inl (.int x5), .inl (.int (gI w 54 0 x5.toNatClampNeg))] w).bind fun r0 => (q_X12_bestPlacing_100 x1 x2 (x3 + r0.1) (x4 + 1) x5 r0.2))) := (ev_eq _ _ _).trans rfl
set_option maxRecDepth 100000 in
theorem e_X12_bestPlacing_100 (x1 : Int32) (x2 : Int32) (x3 : Int32) (x4 : Int32) (x5 : Int32) (w : XW) : q_X12_bestPlacing_100 x1 x2 x3 x4 x5 w = (q_X12_bestPlacing_57 x1 x2 x3 x4 (x5 + 1) w) := (ev_eq _ _ _).trans rfl
set_option maxRecDepth 100000 in
theorem e_X12_bestPlacing_106 (x1 : Int32) (x2 : Int32) (x3 : Int32) (x4 : Int32) (w : XW) : q_X12_bestPlacing_106 x1 x2 x3 x4 w = (bif decide (x3 < x1) then (q_X12_bestPlacing_32 x1 x2 w) else (q_X12_bestPlacing_111 x1 x2 x3 x4 w)) := (ev_eq _ _ _).trans rfl
set_option maxRecDepth 100000 in
theorem e_X12_bestPlacing_111 (x1 : Int32) (x2 : Int32) (x3 : Int32) (x4 : Int32) (w : XW) : q_X12_bestPlacing_111 x1 x2 x3 x4 w = (bif decide (¬ x3 = x1) then (q_X12_bestPlacing_125 x3 x4 w) else (q_X12_bestPlacing_116 x1 x2 x3 x4 w)) := (ev_eq _ _ _).trans rfl
set_option maxRecDepth 100000 in
theorem e_X12_bestPlacing_116 (x1 : Int32) (x2 : Int32) (x3 : Int32) (x4 : Int32) (w : XW) : q_X12_bestPlacing_116 x1 x2 x3 x4 w = (bif decide (x4 < x2) then (q_X12_bestPlacing_125 x3 x4 w) else (q_X12_bestPlacing_122 x1 x2 w)) := (ev_eq _ _ _).trans rfl
set_option maxRecDepth 100000 in
theorem e_X12_bestPlacing_122 (x1 : Int32) (x2 : Int32) (w : XW) : q_X12_bestPlacing_122 x1 x2 w = (q_X12_bestPlacing_32 x1 x2 w) := (ev_eq _ _ _).trans rfl
set_option maxRecDepth 100000 in
theorem e_X12_bestPlacing_125 (x3 : Int32) (x4 : Int32) (w : XW) : q_X12_bestPlacing_125 x3 x4 w = (q_X12_bestPlacing_133 x3 x4 0 w) := (ev_eq _ _ _).trans rfl
set_option maxRecDepth 100000 in
theorem e_X12_bestPlacing_133 (x1 : Int32) (x2 : Int32) (x5 : Int32) (w : XW) : q_X12_bestPlacing_133 x1 x2 x5 w = (bif decide (6 ≤ x5) then (q_X12_bestPlacing_160 x1 x2 w) else (q_X12_bestPlacing_140 x1 x2 x5 w)) := (ev_eq _ _ _).trans rfl
set_option maxRecDepth 100000 in
theorem e_X12_bestPlacing_140 (x1 : Int32) (x2 : Int32) (x5 : Int32) (w : XW) : q_X12_bestPlacing_140 x1 x2 x5 w = (if x5 < 0 ∨ 6 ≤ x5.toNatClampNeg then none else (if x5 < 0 ∨ 6 ≤ x5.toNatClampNeg then none else (q_X12_bestPlacing_133 x1 x2 (x5 + 1) (sI w 55 0 x5.toNatClampNeg (gI w 54 0 x5.toNatClampNeg))))) := (ev_eq _ _ _).trans rfl
set_option maxRecDepth 100000 in
theorem e_X12_bestPlacing_160 (x1 : Int32) (x2 : Int32) (w : XW) : q_X12_bestPlacing_160 x1 x2 w = (q_X12_bestPlacing_32 x1 x2 w) := (ev_eq _ _ _).trans rfl
set_option maxRecDepth 100000 in
theorem e_X12_bestPlacing_163 (x1 : Int32) (w : XW) : q_X12_bestPlacing_163 x1 w = (some (some (.inl (.int x1)), w)) := (ev_eq _ _ _).trans rfl
theorem f_X12_bestPlacing (w : XW) : F_X12_bestPlacing [.inr (11, 0)] w = (q_X12_bestPlacing_0 w).bind pI := rfl

-- WinterKeepModel.placing(I)I
theorem dX12_placing_0 : decode cX12_placing 0 = .ok (.aload_n 0, 1) := by decide +kernel
theorem dX12_placing_1 : decode cX12_placing 1 = .ok (.invokevirtual 369, 3) := by decide +kernel
theorem dX12_placing_4 : decode cX12_placing 4 = .ok (.ifCond .eq 17, 3) := by decide +kernel
theorem dX12_placing_7 : decode cX12_placing 7 = .ok (.iload_n 1, 1) := by decide +kernel
theorem dX12_placing_8 : decode cX12_placing 8 = .ok (.i2l, 1) := by decide +kernel
theorem dX12_placing_9 : decode cX12_placing 9 = .ok (.ldc2_w 395, 3) := by decide +kernel
theorem dX12_placing_12 : decode cX12_placing 12 = .ok (.ldc2_w 397, 3) := by decide +kernel
theorem dX12_placing_15 : decode cX12_placing 15 = .ok (.invokestatic 133, 3) := by decide +kernel
theorem dX12_placing_18 : decode cX12_placing 18 = .ok (.ifCond .ne 6, 3) := by decide +kernel
theorem dX12_placing_21 : decode cX12_placing 21 = .ok (.bipush (-3), 2) := by decide +kernel
theorem dX12_placing_23 : decode cX12_placing 23 = .ok (.ireturn, 1) := by decide +kernel
theorem dX12_placing_24 : decode cX12_placing 24 = .ok (.aload_n 0, 1) := by decide +kernel
theorem dX12_placing_25 : decode cX12_placing 25 = .ok (.invokevirtual 399, 3) := by decide +kernel
theorem dX12_placing_28 : decode cX12_placing 28 = .ok (.istore_n 2, 1) := by decide +kernel
theorem dX12_placing_29 : decode cX12_placing 29 = .ok (.iload_n 1, 1) := by decide +kernel
theorem dX12_placing_30 : decode cX12_placing 30 = .ok (.iconst (-1), 1) := by decide +kernel
theorem dX12_placing_31 : decode cX12_placing 31 = .ok (.if_icmp .ne 7, 3) := by decide +kernel
theorem dX12_placing_34 : decode cX12_placing 34 = .ok (.iload_n 2, 1) := by decide +kernel
theorem dX12_placing_35 : decode cX12_placing 35 = .ok (.goto 22, 3) := by decide +kernel
theorem dX12_placing_38 : decode cX12_placing 38 = .ok (.aload_n 0, 1) := by decide +kernel
theorem dX12_placing_39 : decode cX12_placing 39 = .ok (.iload_n 1, 1) := by decide +kernel
theorem dX12_placing_40 : decode cX12_placing 40 = .ok (.invokevirtual 298, 3) := by decide +kernel
theorem dX12_placing_43 : decode cX12_placing 43 = .ok (.ifCond .eq 12, 3) := by decide +kernel
theorem dX12_placing_46 : decode cX12_placing 46 = .ok (.aload_n 0, 1) := by decide +kernel
theorem dX12_placing_47 : decode cX12_placing 47 = .ok (.getfield 61, 3) := by decide +kernel
theorem dX12_placing_50 : decode cX12_placing 50 = .ok (.iload_n 1, 1) := by decide +kernel
theorem dX12_placing_51 : decode cX12_placing 51 = .ok (.iaload, 1) := by decide +kernel
theorem dX12_placing_52 : decode cX12_placing 52 = .ok (.goto 5, 3) := by decide +kernel
theorem dX12_placing_55 : decode cX12_placing 55 = .ok (.bipush (-2), 2) := by decide +kernel
theorem dX12_placing_57 : decode cX12_placing 57 = .ok (.ireturn, 1) := by decide +kernel
theorem vc_X12_399 : XVw RX12 399 0 11 6 yX12_bestPlacing cX12_bestPlacing (some .int) := ⟨RX12, TX12, tyX12, 43, xk_11, rfl, ⟨by decide, by decide⟩, by decide +kernel, wt_1452, wt_1454, ws_100, wt_11, wt_1455⟩
noncomputable def bs_X12_placing : List (Nat × XB) := [
  (0, (sq (xLA 0) (sq (xCI 11 1 F_X12_isDale) (tIf1 (fun x => decide (x = 0)) 21 [false, false, false] 7 [true, true, false])))),
  (7, (sq (xLI 1) (sq (xI2L) (sq (xC (.long (-1))) (sq (xC (.long 5)) (sq (xCI 99 3 F_X12_in) (tIf1 (fun x => decide (¬ x = 0)) 24 [true, true, false] 21 [false, false, false]))))))),
  (21, (sq (xC (.int (-3))) tRI)),
  (24, (sq (xLA 0) (sq (xCI 11 1 F_X12_bestPlacing) (sq (xSI 2) (sq (xLI 1) (sq (xC (.int (-1))) (tIf2 (fun x y => decide (¬ x = y)) 38 [true, true, false] 34 [false, false, true]))))))),
  (34, (sq (xLI 2) (tGo 57 [false, false, false]))),
  (38, (sq (xLA 0) (sq (xLI 1) (sq (xCI 11 2 F_X12_isKeep) (tIf1 (fun x => decide (x = 0)) 55 [false, false, false] 46 [true, true, false]))))),
  (46, (sq (xLA 0) (sq (xGS 11 55 1 0) (sq (xLI 1) (sq (xAI 55 6) (tGo 57 [false, false, false])))))),
  (55, (sq (xC (.int (-2))) (tGo 57 [false, false, false]))),
  (57, tRI)]
set_option maxRecDepth 100000 in
set_option maxHeartbeats 4000000 in
theorem s_X12_placing : ∀ X : XCtx, XE X → X.2.2.1.1 = cX12_placing → X.2.2.1.2.1 = 3 → X.2.2.1.2.2.1 = yX12_placing.cls → X.2.2.1.2.2.2.1 = (some .int) → X.1.2.2.2.1 = { frames := 4, cells := 0, slots := 0, locals := 91 } → SndBs X bs_X12_placing := by
  rintro ⟨⟨p, l, e, R, s⟩, Y, ⟨cc, nL, own, ret, Ts⟩, Z⟩ hE h1 h2 h3 h4 h5
  dsimp only at h1 h2 h3 h4 h5
  subst h1 h2 h3 h4 h5
  exact ⟨(n_sq (n_aload_n hE dX12_placing_0) (n_sq (n_cIv hE m_X12_isDale vc_X12_369 (show 0 + 1 ≤ 4 ∧ 8 + (1 + 11) + 0 ≤ 91 by decide) dX12_placing_1) (n_ifeq hE (by decide) dX12_placing_4))),
    (n_sq (n_iload_n hE dX12_placing_7) (n_sq (n_i2l hE dX12_placing_8) (n_sq (n_ldc2 hE wt_1450 dX12_placing_9) (n_sq (n_ldc2 hE wt_1451 dX12_placing_12) (n_sq (n_cIs hE m_X12_in vc_X12_133 (show 0 + 1 ≤ 4 ∧ 8 + (6 + 11) + 0 ≤ 91 by decide) dX12_placing_15) (n_ifne hE (by decide) dX12_placing_18)))))),
    (n_sq (n_bipush hE (by decide) dX12_placing_21) (n_ireturn hE rfl dX12_placing_23)),
    (n_sq (n_aload_n hE dX12_placing_24) (n_sq (n_cIv hE m_X12_bestPlacing vc_X12_399 (show 3 + 1 ≤ 4 ∧ 8 + (6 + 11) + 66 ≤ 91 by decide) dX12_placing_25) (n_sq (n_istore_n hE (show (2 : Nat) < 3 by decide) dX12_placing_28) (n_sq (n_iload_n hE dX12_placing_29) (n_sq (n_iconst hE (by decide) dX12_placing_30) (n_ifcne hE (by decide) dX12_placing_31)))))),
    (n_sq (n_iload_n hE dX12_placing_34) (n_goto hE (by decide) dX12_placing_35)),
    (n_sq (n_aload_n hE dX12_placing_38) (n_sq (n_iload_n hE dX12_placing_39) (n_sq (n_cIv hE m_X12_isKeep vc_X12_298 (show 0 + 1 ≤ 4 ∧ 8 + (2 + 11) + 0 ≤ 91 by decide) dX12_placing_40) (n_ifeq hE (by decide) dX12_placing_43)))),
    (n_sq (n_aload_n hE dX12_placing_46) (n_sq (n_getS hE xk_11 (k := 29) rfl (by decide) rfl wt_989 dX12_placing_47) (n_sq (n_iload_n hE dX12_placing_50) (n_sq (n_iald hE rfl (by decide) dX12_placing_51) (n_goto hE (by decide) dX12_placing_52))))),
    (n_sq (n_bipush hE (by decide) dX12_placing_55) n_fall),
    (n_ireturn hE rfl dX12_placing_57), trivial⟩
noncomputable def F_X12_placing (as : List XV) (w : XW) : Option (Int32 × XW) := (xF 3 bs_X12_placing as w).bind pI
theorem m_X12_placing : XM yX12_placing cX12_placing 3 (some .int) 4 91 (eI F_X12_placing) := xm_I (xm_of (by decide) s_X12_placing)
noncomputable def q_X12_placing_0 (x1 : Int32) (w : XW) : Option XR := ev bs_X12_placing 0 ([some (.inr (11, 0)), some (.inl (.int x1)), none], [], w)
noncomputable def q_X12_placing_7 (x1 : Int32) (w : XW) : Option XR := ev bs_X12_placing 7 ([some (.inr (11, 0)), some (.inl (.int x1)), none], [], w)
noncomputable def q_X12_placing_21 (w : XW) : Option XR := ev bs_X12_placing 21 ([none, none, none], [], w)
noncomputable def q_X12_placing_24 (x1 : Int32) (w : XW) : Option XR := ev bs_X12_placing 24 ([some (.inr (11, 0)), some (.inl (.int x1)), none], [], w)
noncomputable def q_X12_placing_34 (x2 : Int32) (w : XW) : Option XR := ev bs_X12_placing 34 ([none, none, some (.inl (.int x2))], [], w)
noncomputable def q_X12_placing_38 (x1 : Int32) (w : XW) : Option XR := ev bs_X12_placing 38 ([some (.inr (11, 0)), some (.inl (.int x1)), none], [], w)
noncomputable def q_X12_placing_46 (x1 : Int32) (w : XW) : Option XR := ev bs_X12_placing 46 ([some (.inr (11, 0)), some (.inl (.int x1)), none], [], w)
noncomputable def q_X12_placing_55 (w : XW) : Option XR := ev bs_X12_placing 55 ([none, none, none], [], w)
noncomputable def q_X12_placing_57 (s0 : Int32) (w : XW) : Option XR := ev bs_X12_placing 57 ([none, none, none], [.inl (.int s0)], w)
theorem e_X12_placing_0 (x1 : Int32) (w : XW) : q_X12_placing_0 x1 w = ((F_X12_isDale [.inr (11, 0)] w).bind fun r0 => (bif decide (r0.1 = 0) then (q_X12_placing_21 r0.2) else (q_X12_placing_7 x1 r0.2))) := (ev_eq _ _ _).trans rfl
theorem e_X12_placing_7 (x1 : Int32) (w : XW) : q_X12_placing_7 x1 w = ((F_X12_in [.inl (.long (x1 : Int32).toInt64), .inl (.long (-1)), .inl (.long 5)] w).bind fun r0 => (bif decide (¬ r0.1 = 0) then (q_X12_placing_24 x1 r0.2) else (q_X12_placing_21 r0.2))) := (ev_eq _ _ _).trans rfl
theorem e_X12_placing_21 (w : XW) : q_X12_placing_21 w = (some (some (.inl (.int (-3))), w)) := (ev_eq _ _ _).trans rfl
theorem e_X12_placing_24 (x1 : Int32) (w : XW) : q_X12_placing_24 x1 w = ((F_X12_bestPlacing [.inr (11, 0)] w).bind fun r0 => (bif decide (¬ x1 = (-1)) then (q_X12_placing_38 x1 r0.2) else (q_X12_placing_34 r0.1 r0.2))) := (ev_eq _ _ _).trans rfl
theorem e_X12_placing_34 (x2 : Int32) (w : XW) : q_X12_placing_34 x2 w = (q_X12_placing_57 x2 w) := (ev_eq _ _ _).trans rfl
theorem e_X12_placing_38 (x1 : Int32) (w : XW) : q_X12_placing_38 x1 w = ((F_X12_isKeep [.inr (11, 0), .inl (.int x1)] w).bind fun r0 => (bif decide (r0.1 = 0) then (q_X12_placing_55 r0.2) else (q_X12_placing_46 x1 r0.2))) := (ev_eq _ _ _).trans rfl
theorem e_X12_placing_46 (x1 : Int32) (w : XW) : q_X12_placing_46 x1 w = (if x1 < 0 ∨ 6 ≤ x1.toNatClampNeg then none else (q_X12_placing_57 (gI w 55 0 x1.toNatClampNeg) w)) := (ev_eq _ _ _).trans rfl
theorem e_X12_placing_55 (w : XW) : q_X12_placing_55 w = (q_X12_placing_57 (-2) w) := (ev_eq _ _ _).trans rfl
theorem e_X12_placing_57 (s0 : Int32) (w : XW) : q_X12_placing_57 s0 w = (some (some (.inl (.int s0)), w)) := (ev_eq _ _ _).trans rfl
theorem f_X12_placing (x1 : Int32) (w : XW) : F_X12_placing [.inr (11, 0), .inl (.int x1)] w = (q_X12_placing_0 x1 w).bind pI := rfl
