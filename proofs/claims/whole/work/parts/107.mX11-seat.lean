-- WinterKeep.seat(II)I
theorem dX11_seat_0 : decode cX11_seat 0 = .ok (.aload_n 0, 1) := by decide +kernel
theorem dX11_seat_1 : decode cX11_seat 1 = .ok (.iload_n 1, 1) := by decide +kernel
theorem dX11_seat_2 : decode cX11_seat 2 = .ok (.invokevirtual 145, 3) := by decide +kernel
theorem dX11_seat_5 : decode cX11_seat 5 = .ok (.ifCond .eq 16, 3) := by decide +kernel
theorem dX11_seat_8 : decode cX11_seat 8 = .ok (.aload_n 0, 1) := by decide +kernel
theorem dX11_seat_9 : decode cX11_seat 9 = .ok (.iload_n 2, 1) := by decide +kernel
theorem dX11_seat_10 : decode cX11_seat 10 = .ok (.invokevirtual 145, 3) := by decide +kernel
theorem dX11_seat_13 : decode cX11_seat 13 = .ok (.ifCond .eq 8, 3) := by decide +kernel
theorem dX11_seat_16 : decode cX11_seat 16 = .ok (.iload_n 1, 1) := by decide +kernel
theorem dX11_seat_17 : decode cX11_seat 17 = .ok (.iload_n 2, 1) := by decide +kernel
theorem dX11_seat_18 : decode cX11_seat 18 = .ok (.if_icmp .ne 5, 3) := by decide +kernel
theorem dX11_seat_21 : decode cX11_seat 21 = .ok (.iconst (-1), 1) := by decide +kernel
theorem dX11_seat_22 : decode cX11_seat 22 = .ok (.ireturn, 1) := by decide +kernel
theorem dX11_seat_23 : decode cX11_seat 23 = .ok (.aload_n 0, 1) := by decide +kernel
theorem dX11_seat_24 : decode cX11_seat 24 = .ok (.invokevirtual 231, 3) := by decide +kernel
theorem dX11_seat_27 : decode cX11_seat 27 = .ok (.aload_n 0, 1) := by decide +kernel
theorem dX11_seat_28 : decode cX11_seat 28 = .ok (.getfield 46, 3) := by decide +kernel
theorem dX11_seat_31 : decode cX11_seat 31 = .ok (.getfield 164, 3) := by decide +kernel
theorem dX11_seat_34 : decode cX11_seat 34 = .ok (.iload_n 1, 1) := by decide +kernel
theorem dX11_seat_35 : decode cX11_seat 35 = .ok (.dup2, 1) := by decide +kernel
theorem dX11_seat_36 : decode cX11_seat 36 = .ok (.iaload, 1) := by decide +kernel
theorem dX11_seat_37 : decode cX11_seat 37 = .ok (.iconst 1, 1) := by decide +kernel
theorem dX11_seat_38 : decode cX11_seat 38 = .ok (.iload_n 2, 1) := by decide +kernel
theorem dX11_seat_39 : decode cX11_seat 39 = .ok (.ishl, 1) := by decide +kernel
theorem dX11_seat_40 : decode cX11_seat 40 = .ok (.ixor, 1) := by decide +kernel
theorem dX11_seat_41 : decode cX11_seat 41 = .ok (.iastore, 1) := by decide +kernel
theorem dX11_seat_42 : decode cX11_seat 42 = .ok (.aload_n 0, 1) := by decide +kernel
theorem dX11_seat_43 : decode cX11_seat 43 = .ok (.getfield 46, 3) := by decide +kernel
theorem dX11_seat_46 : decode cX11_seat 46 = .ok (.getfield 164, 3) := by decide +kernel
theorem dX11_seat_49 : decode cX11_seat 49 = .ok (.iload_n 2, 1) := by decide +kernel
theorem dX11_seat_50 : decode cX11_seat 50 = .ok (.dup2, 1) := by decide +kernel
theorem dX11_seat_51 : decode cX11_seat 51 = .ok (.iaload, 1) := by decide +kernel
theorem dX11_seat_52 : decode cX11_seat 52 = .ok (.iconst 1, 1) := by decide +kernel
theorem dX11_seat_53 : decode cX11_seat 53 = .ok (.iload_n 1, 1) := by decide +kernel
theorem dX11_seat_54 : decode cX11_seat 54 = .ok (.ishl, 1) := by decide +kernel
theorem dX11_seat_55 : decode cX11_seat 55 = .ok (.ixor, 1) := by decide +kernel
theorem dX11_seat_56 : decode cX11_seat 56 = .ok (.iastore, 1) := by decide +kernel
theorem dX11_seat_57 : decode cX11_seat 57 = .ok (.aload_n 0, 1) := by decide +kernel
theorem dX11_seat_58 : decode cX11_seat 58 = .ok (.getfield 46, 3) := by decide +kernel
theorem dX11_seat_61 : decode cX11_seat 61 = .ok (.getfield 164, 3) := by decide +kernel
theorem dX11_seat_64 : decode cX11_seat 64 = .ok (.iload_n 1, 1) := by decide +kernel
theorem dX11_seat_65 : decode cX11_seat 65 = .ok (.iaload, 1) := by decide +kernel
theorem dX11_seat_66 : decode cX11_seat 66 = .ok (.iload_n 2, 1) := by decide +kernel
theorem dX11_seat_67 : decode cX11_seat 67 = .ok (.ishr, 1) := by decide +kernel
theorem dX11_seat_68 : decode cX11_seat 68 = .ok (.iconst 1, 1) := by decide +kernel
theorem dX11_seat_69 : decode cX11_seat 69 = .ok (.iand, 1) := by decide +kernel
theorem dX11_seat_70 : decode cX11_seat 70 = .ok (.ireturn, 1) := by decide +kernel
noncomputable def bs_X11_seat : List (Nat × XB) := [
  (0, (sq (xLA 0) (sq (xLI 1) (sq (xCI 10 2 F_X11_isKeep) (tIf1 (fun x => decide (x = 0)) 21 [false, false, false] 8 [true, true, true]))))),
  (8, (sq (xLA 0) (sq (xLI 2) (sq (xCI 10 2 F_X11_isKeep) (tIf1 (fun x => decide (x = 0)) 21 [false, false, false] 16 [true, true, true]))))),
  (16, (sq (xLI 1) (sq (xLI 2) (tIf2 (fun x y => decide (¬ x = y)) 23 [true, true, true] 21 [false, false, false])))),
  (21, (sq (xC (.int (-1))) tRI)),
  (23, (sq (xLA 0) (sq (xCV 10 1 F_X11_remember) (sq (xLA 0) (sq (xGS 10 8 1 0) (sq (xGS 8 33 0 0) (sq (xLI 1) (sq (xDup2) (sq (xAI 33 6) (sq (xC (.int 1)) (sq (xLI 2) (sq (xI2 (fun x y => x <<< (y &&& 31))) (sq (xI2 (· ^^^ ·)) (sq (xTI 33 6 (fun x => x)) (sq (xLA 0) (sq (xGS 10 8 1 0) (sq (xGS 8 33 0 0) (sq (xLI 2) (sq (xDup2) (sq (xAI 33 6) (sq (xC (.int 1)) (sq (xLI 1) (sq (xI2 (fun x y => x <<< (y &&& 31))) (sq (xI2 (· ^^^ ·)) (sq (xTI 33 6 (fun x => x)) (sq (xLA 0) (sq (xGS 10 8 1 0) (sq (xGS 8 33 0 0) (sq (xLI 1) (sq (xAI 33 6) (sq (xLI 2) (sq (xI2 (fun x y => x >>> (y &&& 31))) (sq (xC (.int 1)) (sq (xI2 (· &&& ·)) tRI))))))))))))))))))))))))))))))))))]
set_option maxRecDepth 100000 in
set_option maxHeartbeats 4000000 in
theorem s_X11_seat : ∀ X : XCtx, XE X → X.2.2.1.1 = cX11_seat → X.2.2.1.2.1 = 3 → X.2.2.1.2.2.1 = yX11_seat.cls → X.2.2.1.2.2.2.1 = (some .int) → X.1.2.2.2.1 = { frames := 2, cells := 0, slots := 0, locals := 44 } → SndBs X bs_X11_seat := by
  rintro ⟨⟨p, l, e, R, s⟩, Y, ⟨cc, nL, own, ret, Ts⟩, Z⟩ hE h1 h2 h3 h4 h5
  dsimp only at h1 h2 h3 h4 h5
  subst h1 h2 h3 h4 h5
  exact ⟨(n_sq (n_aload_n hE dX11_seat_0) (n_sq (n_iload_n hE dX11_seat_1) (n_sq (n_cIv hE m_X11_isKeep vc_X11_145 (show 1 + 1 ≤ 2 ∧ 8 + (2 + 11) + 22 ≤ 44 by decide) dX11_seat_2) (n_ifeq hE (by decide) dX11_seat_5)))),
    (n_sq (n_aload_n hE dX11_seat_8) (n_sq (n_iload_n hE dX11_seat_9) (n_sq (n_cIv hE m_X11_isKeep vc_X11_145 (show 1 + 1 ≤ 2 ∧ 8 + (2 + 11) + 22 ≤ 44 by decide) dX11_seat_10) (n_ifeq hE (by decide) dX11_seat_13)))),
    (n_sq (n_iload_n hE dX11_seat_16) (n_sq (n_iload_n hE dX11_seat_17) (n_ifcne hE (by decide) dX11_seat_18))),
    (n_sq (n_iconst hE (by decide) dX11_seat_21) (n_ireturn hE rfl dX11_seat_22)),
    (n_sq (n_aload_n hE dX11_seat_23) (n_sq (n_cVv hE m_X11_remember vc_X11_231 (show 1 + 1 ≤ 2 ∧ 8 + (1 + 11) + 24 ≤ 44 by decide) dX11_seat_24) (n_sq (n_aload_n hE dX11_seat_27) (n_sq (n_getS hE xk_10 (k := 6) rfl (by decide) rfl wt_322 dX11_seat_28) (n_sq (n_getS hE xk_8 (k := 5) rfl (by decide) rfl wt_195 dX11_seat_31) (n_sq (n_iload_n hE dX11_seat_34) (n_sq (n_dup2 hE dX11_seat_35) (n_sq (n_iald hE rfl (by decide) dX11_seat_36) (n_sq (n_iconst hE (by decide) dX11_seat_37) (n_sq (n_iload_n hE dX11_seat_38) (n_sq (n_ishl hE dX11_seat_39) (n_sq (n_ixor hE dX11_seat_40) (n_sq (n_iast hE rfl (by decide) dX11_seat_41) (n_sq (n_aload_n hE dX11_seat_42) (n_sq (n_getS hE xk_10 (k := 6) rfl (by decide) rfl wt_322 dX11_seat_43) (n_sq (n_getS hE xk_8 (k := 5) rfl (by decide) rfl wt_195 dX11_seat_46) (n_sq (n_iload_n hE dX11_seat_49) (n_sq (n_dup2 hE dX11_seat_50) (n_sq (n_iald hE rfl (by decide) dX11_seat_51) (n_sq (n_iconst hE (by decide) dX11_seat_52) (n_sq (n_iload_n hE dX11_seat_53) (n_sq (n_ishl hE dX11_seat_54) (n_sq (n_ixor hE dX11_seat_55) (n_sq (n_iast hE rfl (by decide) dX11_seat_56) (n_sq (n_aload_n hE dX11_seat_57) (n_sq (n_getS hE xk_10 (k := 6) rfl (by decide) rfl wt_322 dX11_seat_58) (n_sq (n_getS hE xk_8 (k := 5) rfl (by decide) rfl wt_195 dX11_seat_61) (n_sq (n_iload_n hE dX11_seat_64) (n_sq (n_iald hE rfl (by decide) dX11_seat_65) (n_sq (n_iload_n hE dX11_seat_66) (n_sq (n_ishr hE dX11_seat_67) (n_sq (n_iconst hE (by decide) dX11_seat_68) (n_sq (n_iand hE dX11_seat_69) (n_ireturn hE rfl dX11_seat_70)))))))))))))))))))))))))))))))))), trivial⟩
noncomputable def F_X11_seat (as : List XV) (w : XW) : Option (Int32 × XW) := (xF 3 bs_X11_seat as w).bind pI
theorem m_X11_seat : XM yX11_seat cX11_seat 3 (some .int) 2 44 (eI F_X11_seat) := xm_I (xm_of (by decide) s_X11_seat)
noncomputable def q_X11_seat_0 (x1 : Int32) (x2 : Int32) (w : XW) : Option XR := ev bs_X11_seat 0 ([some (.inr (10, 0)), some (.inl (.int x1)), some (.inl (.int x2))], [], w)
noncomputable def q_X11_seat_8 (x1 : Int32) (x2 : Int32) (w : XW) : Option XR := ev bs_X11_seat 8 ([some (.inr (10, 0)), some (.inl (.int x1)), some (.inl (.int x2))], [], w)
noncomputable def q_X11_seat_16 (x1 : Int32) (x2 : Int32) (w : XW) : Option XR := ev bs_X11_seat 16 ([some (.inr (10, 0)), some (.inl (.int x1)), some (.inl (.int x2))], [], w)
noncomputable def q_X11_seat_21 (w : XW) : Option XR := ev bs_X11_seat 21 ([none, none, none], [], w)
noncomputable def q_X11_seat_23 (x1 : Int32) (x2 : Int32) (w : XW) : Option XR := ev bs_X11_seat 23 ([some (.inr (10, 0)), some (.inl (.int x1)), some (.inl (.int x2))], [], w)
theorem e_X11_seat_0 (x1 : Int32) (x2 : Int32) (w : XW) : q_X11_seat_0 x1 x2 w = ((F_X11_isKeep [.inr (10, 0), .inl (.int x1)] w).bind fun r0 => (bif decide (r0.1 = 0) then (q_X11_seat_21 r0.2) else (q_X11_seat_8 x1 x2 r0.2))) := (ev_eq _ _ _).trans rfl
theorem e_X11_seat_8 (x1 : Int32) (x2 : Int32) (w : XW) : q_X11_seat_8 x1 x2 w = ((F_X11_isKeep [.inr (10, 0), .inl (.int x2)] w).bind fun r0 => (bif decide (r0.1 = 0) then (q_X11_seat_21 r0.2) else (q_X11_seat_16 x1 x2 r0.2))) := (ev_eq _ _ _).trans rfl
theorem e_X11_seat_16 (x1 : Int32) (x2 : Int32) (w : XW) : q_X11_seat_16 x1 x2 w = (bif decide (¬ x1 = x2) then (q_X11_seat_23 x1 x2 w) else (q_X11_seat_21 w)) := (ev_eq _ _ _).trans rfl
theorem e_X11_seat_21 (w : XW) : q_X11_seat_21 w = (some (some (.inl (.int (-1))), w)) := (ev_eq _ _ _).trans rfl
theorem e_X11_seat_23 (x1 : Int32) (x2 : Int32) (w : XW) : q_X11_seat_23 x1 x2 w = ((F_X11_remember [.inr (10, 0)] w).bind fun r0 => (if x1 < 0 ∨ 6 ≤ x1.toNatClampNeg then none else (if x1 < 0 ∨ 6 ≤ x1.toNatClampNeg then none else (if x2 < 0 ∨ 6 ≤ x2.toNatClampNeg then none else (if x2 < 0 ∨ 6 ≤ x2.toNatClampNeg then none else (if x1 < 0 ∨ 6 ≤ x1.toNatClampNeg then none else (some (some (.inl (.int ((((gI (sI (sI r0 33 0 x1.toNatClampNeg ((gI r0 33 0 x1.toNatClampNeg) ^^^ ((1 : Int32) <<< ((x2 : Int32) &&& 31)))) 33 0 x2.toNatClampNeg ((gI (sI r0 33 0 x1.toNatClampNeg ((gI r0 33 0 x1.toNatClampNeg) ^^^ ((1 : Int32) <<< ((x2 : Int32) &&& 31)))) 33 0 x2.toNatClampNeg) ^^^ ((1 : Int32) <<< ((x1 : Int32) &&& 31)))) 33 0 x1.toNatClampNeg) : Int32) >>> ((x2 : Int32) &&& 31)) &&& 1))), sI (sI r0 33 0 x1.toNatClampNeg ((gI r0 33 0 x1.toNatClampNeg) ^^^ ((1 : Int32) <<< ((x2 : Int32) &&& 31)))) 33 0 x2.toNatClampNeg ((gI (sI r0 33 0 x1.toNatClampNeg ((gI r0 33 0 x1.toNatClampNeg) ^^^ ((1 : Int32) <<< ((x2 : Int32) &&& 31)))) 33 0 x2.toNatClampNeg) ^^^ ((1 : Int32) <<< ((x1 : Int32) &&& 31))))))))))) := (ev_eq _ _ _).trans rfl
theorem f_X11_seat (x1 : Int32) (x2 : Int32) (w : XW) : F_X11_seat [.inr (10, 0), .inl (.int x1), .inl (.int x2)] w = (q_X11_seat_0 x1 x2 w).bind pI := rfl

-- WinterKeep.undo()I
theorem dX11_undo_0 : decode cX11_undo 0 = .ok (.aload_n 0, 1) := by decide +kernel
theorem dX11_undo_1 : decode cX11_undo 1 = .ok (.getfield 97, 3) := by decide +kernel
theorem dX11_undo_4 : decode cX11_undo 4 = .ok (.ifCond .gt 5, 3) := by decide +kernel
theorem dX11_undo_7 : decode cX11_undo 7 = .ok (.iconst (-1), 1) := by decide +kernel
theorem dX11_undo_8 : decode cX11_undo 8 = .ok (.ireturn, 1) := by decide +kernel
theorem dX11_undo_9 : decode cX11_undo 9 = .ok (.aload_n 0, 1) := by decide +kernel
theorem dX11_undo_10 : decode cX11_undo 10 = .ok (.dup, 1) := by decide +kernel
theorem dX11_undo_11 : decode cX11_undo 11 = .ok (.getfield 97, 3) := by decide +kernel
theorem dX11_undo_14 : decode cX11_undo 14 = .ok (.iconst 1, 1) := by decide +kernel
theorem dX11_undo_15 : decode cX11_undo 15 = .ok (.isub, 1) := by decide +kernel
theorem dX11_undo_16 : decode cX11_undo 16 = .ok (.putfield 97, 3) := by decide +kernel
theorem dX11_undo_19 : decode cX11_undo 19 = .ok (.aload_n 0, 1) := by decide +kernel
theorem dX11_undo_20 : decode cX11_undo 20 = .ok (.aload_n 0, 1) := by decide +kernel
theorem dX11_undo_21 : decode cX11_undo 21 = .ok (.getfield 94, 3) := by decide +kernel
theorem dX11_undo_24 : decode cX11_undo 24 = .ok (.bipush 20, 2) := by decide +kernel
theorem dX11_undo_26 : decode cX11_undo 26 = .ok (.iadd, 1) := by decide +kernel
theorem dX11_undo_27 : decode cX11_undo 27 = .ok (.iconst 1, 1) := by decide +kernel
theorem dX11_undo_28 : decode cX11_undo 28 = .ok (.isub, 1) := by decide +kernel
theorem dX11_undo_29 : decode cX11_undo 29 = .ok (.bipush 20, 2) := by decide +kernel
theorem dX11_undo_31 : decode cX11_undo 31 = .ok (.irem, 1) := by decide +kernel
theorem dX11_undo_32 : decode cX11_undo 32 = .ok (.putfield 94, 3) := by decide +kernel
theorem dX11_undo_35 : decode cX11_undo 35 = .ok (.aload_n 0, 1) := by decide +kernel
theorem dX11_undo_36 : decode cX11_undo 36 = .ok (.getfield 46, 3) := by decide +kernel
theorem dX11_undo_39 : decode cX11_undo 39 = .ok (.aload_n 0, 1) := by decide +kernel
theorem dX11_undo_40 : decode cX11_undo 40 = .ok (.getfield 90, 3) := by decide +kernel
theorem dX11_undo_43 : decode cX11_undo 43 = .ok (.aload_n 0, 1) := by decide +kernel
theorem dX11_undo_44 : decode cX11_undo 44 = .ok (.getfield 94, 3) := by decide +kernel
theorem dX11_undo_47 : decode cX11_undo 47 = .ok (.aaload, 1) := by decide +kernel
theorem dX11_undo_48 : decode cX11_undo 48 = .ok (.invokevirtual 246, 3) := by decide +kernel
theorem dX11_undo_51 : decode cX11_undo 51 = .ok (.aload_n 0, 1) := by decide +kernel
theorem dX11_undo_52 : decode cX11_undo 52 = .ok (.getfield 97, 3) := by decide +kernel
theorem dX11_undo_55 : decode cX11_undo 55 = .ok (.ireturn, 1) := by decide +kernel
noncomputable def bs_X11_undo : List (Nat × XB) := [
  (0, (sq (xLA 0) (sq (xGI 10 16) (tIf1 (fun x => decide (0 < x)) 9 [true] 7 [false])))),
  (7, (sq (xC (.int (-1))) tRI)),
  (9, (sq (xLA 0) (sq (xDup) (sq (xGI 10 16) (sq (xC (.int 1)) (sq (xI2 (· - ·)) (sq (xPI 10 16) (sq (xLA 0) (sq (xLA 0) (sq (xGI 10 15) (sq (xC (.int 20)) (sq (xI2 (· + ·)) (sq (xC (.int 1)) (sq (xI2 (· - ·)) (sq (xC (.int 20)) (sq (xI2z (fun x y => x - x / y * y)) (sq (xPI 10 15) (sq (xLA 0) (sq (xGS 10 8 1 0) (sq (xLA 0) (sq (xGS 10 37 1 0) (sq (xLA 0) (sq (xGI 10 15) (sq (xAR 37 20 8) (sq (xCV 8 2 F_X9_copy) (sq (xLA 0) (sq (xGI 10 16) tRI)))))))))))))))))))))))))))]
set_option maxRecDepth 100000 in
set_option maxHeartbeats 4000000 in
theorem s_X11_undo : ∀ X : XCtx, XE X → X.2.2.1.1 = cX11_undo → X.2.2.1.2.1 = 1 → X.2.2.1.2.2.1 = yX11_undo.cls → X.2.2.1.2.2.2.1 = (some .int) → X.1.2.2.2.1 = { frames := 1, cells := 0, slots := 0, locals := 22 } → SndBs X bs_X11_undo := by
  rintro ⟨⟨p, l, e, R, s⟩, Y, ⟨cc, nL, own, ret, Ts⟩, Z⟩ hE h1 h2 h3 h4 h5
  dsimp only at h1 h2 h3 h4 h5
  subst h1 h2 h3 h4 h5
  exact ⟨(n_sq (n_aload_n hE dX11_undo_0) (n_sq (n_getI hE xk_10 (k := 16) rfl (by decide) rfl wt_332 dX11_undo_1) (n_ifgt hE (by decide) dX11_undo_4))),
    (n_sq (n_iconst hE (by decide) dX11_undo_7) (n_ireturn hE rfl dX11_undo_8)),
    (n_sq (n_aload_n hE dX11_undo_9) (n_sq (n_dup hE dX11_undo_10) (n_sq (n_getI hE xk_10 (k := 16) rfl (by decide) rfl wt_332 dX11_undo_11) (n_sq (n_iconst hE (by decide) dX11_undo_14) (n_sq (n_isub hE dX11_undo_15) (n_sq (n_putI hE xk_10 (k := 16) rfl (by decide) rfl rfl (tyX11_ok 16 (by decide)) wt_332 dX11_undo_16) (n_sq (n_aload_n hE dX11_undo_19) (n_sq (n_aload_n hE dX11_undo_20) (n_sq (n_getI hE xk_10 (k := 15) rfl (by decide) rfl wt_331 dX11_undo_21) (n_sq (n_bipush hE (by decide) dX11_undo_24) (n_sq (n_iadd hE dX11_undo_26) (n_sq (n_iconst hE (by decide) dX11_undo_27) (n_sq (n_isub hE dX11_undo_28) (n_sq (n_bipush hE (by decide) dX11_undo_29) (n_sq (n_irem hE dX11_undo_31) (n_sq (n_putI hE xk_10 (k := 15) rfl (by decide) rfl rfl (tyX11_ok 15 (by decide)) wt_331 dX11_undo_32) (n_sq (n_aload_n hE dX11_undo_35) (n_sq (n_getS hE xk_10 (k := 6) rfl (by decide) rfl wt_322 dX11_undo_36) (n_sq (n_aload_n hE dX11_undo_39) (n_sq (n_getS hE xk_10 (k := 14) rfl (by decide) rfl wt_330 dX11_undo_40) (n_sq (n_aload_n hE dX11_undo_43) (n_sq (n_getI hE xk_10 (k := 15) rfl (by decide) rfl wt_331 dX11_undo_44) (n_sq (n_aald6 hE rfl (by decide) dX11_undo_47) (n_sq (n_cVv hE m_X9_copy vc_X11_246 (show 0 + 1 ≤ 1 ∧ 8 + (3 + 11) + 0 ≤ 22 by decide) dX11_undo_48) (n_sq (n_aload_n hE dX11_undo_51) (n_sq (n_getI hE xk_10 (k := 16) rfl (by decide) rfl wt_332 dX11_undo_52) (n_ireturn hE rfl dX11_undo_55))))))))))))))))))))))))))), trivial⟩
noncomputable def F_X11_undo (as : List XV) (w : XW) : Option (Int32 × XW) := (xF 1 bs_X11_undo as w).bind pI
theorem m_X11_undo : XM yX11_undo cX11_undo 1 (some .int) 1 22 (eI F_X11_undo) := xm_I (xm_of (by decide) s_X11_undo)
noncomputable def q_X11_undo_0 (w : XW) : Option XR := ev bs_X11_undo 0 ([some (.inr (10, 0))], [], w)
noncomputable def q_X11_undo_7 (w : XW) : Option XR := ev bs_X11_undo 7 ([none], [], w)
noncomputable def q_X11_undo_9 (w : XW) : Option XR := ev bs_X11_undo 9 ([some (.inr (10, 0))], [], w)
theorem e_X11_undo_0 (w : XW) : q_X11_undo_0 w = (bif decide (0 < (gI w 10 0 16)) then (q_X11_undo_9 w) else (q_X11_undo_7 w)) := (ev_eq _ _ _).trans rfl
theorem e_X11_undo_7 (w : XW) : q_X11_undo_7 w = (some (some (.inl (.int (-1))), w)) := (ev_eq _ _ _).trans rfl
theorem e_X11_undo_9 (w : XW) : q_X11_undo_9 w = (if (gI (sI (sI w 10 0 16 ((gI w 10 0 16) - 1)) 10 0 15 ((((gI (sI w 10 0 16 ((gI w 10 0 16) - 1)) 10 0 15) + 20) - 1) - (((gI (sI w 10 0 16 ((gI w 10 0 16) - 1)) 10 0 15) + 20) - 1) / 20 * 20)) 10 0 15) < 0 ∨ 20 ≤ (gI (sI (sI w 10 0 16 ((gI w 10 0 16) - 1)) 10 0 15 ((((gI (sI w 10 0 16 ((gI w 10 0 16) - 1)) 10 0 15) + 20) - 1) - (((gI (sI w 10 0 16 ((gI w 10 0 16) - 1)) 10 0 15) + 20) - 1) / 20 * 20)) 10 0 15).toNatClampNeg then none else ((gR (sI (sI w 10 0 16 ((gI w 10 0 16) - 1)) 10 0 15 ((((gI (sI w 10 0 16 ((gI w 10 0 16) - 1)) 10 0 15) + 20) - 1) - (((gI (sI w 10 0 16 ((gI w 10 0 16) - 1)) 10 0 15) + 20) - 1) / 20 * 20)) 37 0 (gI (sI (sI w 10 0 16 ((gI w 10 0 16) - 1)) 10 0 15 ((((gI (sI w 10 0 16 ((gI w 10 0 16) - 1)) 10 0 15) + 20) - 1) - (((gI (sI w 10 0 16 ((gI w 10 0 16) - 1)) 10 0 15) + 20) - 1) / 20 * 20)) 10 0 15).toNatClampNeg).bind fun j0 => ((F_X9_copy [.inr (8, 0), .inr (8, j0)] (sI (sI w 10 0 16 ((gI w 10 0 16) - 1)) 10 0 15 ((((gI (sI w 10 0 16 ((gI w 10 0 16) - 1)) 10 0 15) + 20) - 1) - (((gI (sI w 10 0 16 ((gI w 10 0 16) - 1)) 10 0 15) + 20) - 1) / 20 * 20))).bind fun r1 => (some (some (.inl (.int (gI r1 10 0 16))), r1))))) := (ev_eq _ _ _).trans rfl
theorem f_X11_undo (w : XW) : F_X11_undo [.inr (10, 0)] w = (q_X11_undo_0 w).bind pI := rfl

-- WinterKeep.startFromNow()V
theorem dX11_startFromNow_0 : decode cX11_startFromNow 0 = .ok (.aload_n 0, 1) := by decide +kernel
theorem dX11_startFromNow_1 : decode cX11_startFromNow 1 = .ok (.getfield 56, 3) := by decide +kernel
theorem dX11_startFromNow_4 : decode cX11_startFromNow 4 = .ok (.aload_n 0, 1) := by decide +kernel
theorem dX11_startFromNow_5 : decode cX11_startFromNow 5 = .ok (.getfield 39, 3) := by decide +kernel
theorem dX11_startFromNow_8 : decode cX11_startFromNow 8 = .ok (.aload_n 0, 1) := by decide +kernel
theorem dX11_startFromNow_9 : decode cX11_startFromNow 9 = .ok (.aload_n 0, 1) := by decide +kernel
theorem dX11_startFromNow_10 : decode cX11_startFromNow 10 = .ok (.getfield 33, 3) := by decide +kernel
theorem dX11_startFromNow_13 : decode cX11_startFromNow 13 = .ok (.invokevirtual 234, 3) := by decide +kernel
theorem dX11_startFromNow_16 : decode cX11_startFromNow 16 = .ok (.invokevirtual 238, 3) := by decide +kernel
theorem dX11_startFromNow_19 : decode cX11_startFromNow 19 = .ok (.aload_n 0, 1) := by decide +kernel
theorem dX11_startFromNow_20 : decode cX11_startFromNow 20 = .ok (.getfield 50, 3) := by decide +kernel
theorem dX11_startFromNow_23 : decode cX11_startFromNow 23 = .ok (.aload_n 0, 1) := by decide +kernel
theorem dX11_startFromNow_24 : decode cX11_startFromNow 24 = .ok (.getfield 46, 3) := by decide +kernel
theorem dX11_startFromNow_27 : decode cX11_startFromNow 27 = .ok (.invokevirtual 246, 3) := by decide +kernel
theorem dX11_startFromNow_30 : decode cX11_startFromNow 30 = .ok (.return_, 1) := by decide +kernel
noncomputable def bs_X11_startFromNow : List (Nat × XB) := [
  (0, (sq (xLA 0) (sq (xGS 10 3 1 0) (sq (xLA 0) (sq (xGD 10 5 1) (sq (xLA 0) (sq (xLA 0) (sq (xGI 10 4) (sq (xCR 10 2 6 F_X11_ruleAt) (sq (xCV 3 3 F_X4_take) (sq (xLA 0) (sq (xGS 10 8 1 1) (sq (xLA 0) (sq (xGS 10 8 1 0) (sq (xCV 8 2 F_X9_copy) tRV)))))))))))))))]
set_option maxRecDepth 100000 in
set_option maxHeartbeats 4000000 in
theorem s_X11_startFromNow : ∀ X : XCtx, XE X → X.2.2.1.1 = cX11_startFromNow → X.2.2.1.2.1 = 1 → X.2.2.1.2.2.1 = yX11_startFromNow.cls → X.2.2.1.2.2.2.1 = none → X.1.2.2.2.1 = { frames := 2, cells := 0, slots := 0, locals := 43 } → SndBs X bs_X11_startFromNow := by
  rintro ⟨⟨p, l, e, R, s⟩, Y, ⟨cc, nL, own, ret, Ts⟩, Z⟩ hE h1 h2 h3 h4 h5
  dsimp only at h1 h2 h3 h4 h5
  subst h1 h2 h3 h4 h5
  exact ⟨(n_sq (n_aload_n hE dX11_startFromNow_0) (n_sq (n_getS hE xk_10 (k := 8) rfl (by decide) rfl wt_324 dX11_startFromNow_1) (n_sq (n_aload_n hE dX11_startFromNow_4) (n_sq (n_getD hE xk_10 (k := 5) rfl (by decide) rfl wt_321 dX11_startFromNow_5) (n_sq (n_aload_n hE dX11_startFromNow_8) (n_sq (n_aload_n hE dX11_startFromNow_9) (n_sq (n_getI hE xk_10 (k := 4) rfl (by decide) rfl wt_320 dX11_startFromNow_10) (n_sq (n_cRv hE m_X11_ruleAt vc_X11_234 (show 1 + 1 ≤ 2 ∧ 8 + (2 + 11) + 22 ≤ 43 by decide) dX11_startFromNow_13) (n_sq (n_cVv hE m_X4_take vc_X11_238 (show 0 + 1 ≤ 2 ∧ 8 + (4 + 11) + 0 ≤ 43 by decide) dX11_startFromNow_16) (n_sq (n_aload_n hE dX11_startFromNow_19) (n_sq (n_getS hE xk_10 (k := 7) rfl (by decide) rfl wt_323 dX11_startFromNow_20) (n_sq (n_aload_n hE dX11_startFromNow_23) (n_sq (n_getS hE xk_10 (k := 6) rfl (by decide) rfl wt_322 dX11_startFromNow_24) (n_sq (n_cVv hE m_X9_copy vc_X11_246 (show 0 + 1 ≤ 2 ∧ 8 + (3 + 11) + 0 ≤ 43 by decide) dX11_startFromNow_27) (n_vreturn hE rfl dX11_startFromNow_30))))))))))))))), trivial⟩
noncomputable def F_X11_startFromNow (as : List XV) (w : XW) : Option XW := (xF 1 bs_X11_startFromNow as w).bind pV
theorem m_X11_startFromNow : XM yX11_startFromNow cX11_startFromNow 1 none 2 43 (eV F_X11_startFromNow) := xm_V (xm_of (by decide) s_X11_startFromNow)
noncomputable def q_X11_startFromNow_0 (w : XW) : Option XR := ev bs_X11_startFromNow 0 ([some (.inr (10, 0))], [], w)
theorem e_X11_startFromNow_0 (w : XW) : q_X11_startFromNow_0 w = ((gR w 10 0 5).bind fun j0 => ((F_X11_ruleAt [.inr (10, 0), .inl (.int (gI w 10 0 4))] w).bind fun r1 => (oR r1.1 ((F_X4_take [.inr (3, 0), .inr (1, j0), .inl .null] r1.2).bind fun r3 => ((F_X9_copy [.inr (8, 1), .inr (8, 0)] r3).bind fun r4 => (some (none, r4)))) fun j2 => ((F_X4_take [.inr (3, 0), .inr (1, j0), .inr (6, j2)] r1.2).bind fun r3 => ((F_X9_copy [.inr (8, 1), .inr (8, 0)] r3).bind fun r4 => (some (none, r4))))))) := (ev_eq _ _ _).trans rfl
theorem f_X11_startFromNow (w : XW) : F_X11_startFromNow [.inr (10, 0)] w = (q_X11_startFromNow_0 w).bind pV := rfl

-- WinterKeep.goOn(I)V
theorem dX11_goOn_0 : decode cX11_goOn 0 = .ok (.iconst 0, 1) := by decide +kernel
theorem dX11_goOn_1 : decode cX11_goOn 1 = .ok (.istore_n 2, 1) := by decide +kernel
theorem dX11_goOn_2 : decode cX11_goOn 2 = .ok (.iload_n 2, 1) := by decide +kernel
theorem dX11_goOn_3 : decode cX11_goOn 3 = .ok (.iload_n 1, 1) := by decide +kernel
theorem dX11_goOn_4 : decode cX11_goOn 4 = .ok (.if_icmp .ge 21, 3) := by decide +kernel
theorem dX11_goOn_7 : decode cX11_goOn 7 = .ok (.aload_n 0, 1) := by decide +kernel
theorem dX11_goOn_8 : decode cX11_goOn 8 = .ok (.getfield 56, 3) := by decide +kernel
theorem dX11_goOn_11 : decode cX11_goOn 11 = .ok (.aload_n 0, 1) := by decide +kernel
theorem dX11_goOn_12 : decode cX11_goOn 12 = .ok (.getfield 50, 3) := by decide +kernel
theorem dX11_goOn_15 : decode cX11_goOn 15 = .ok (.invokevirtual 242, 3) := by decide +kernel
theorem dX11_goOn_18 : decode cX11_goOn 18 = .ok (.pop, 1) := by decide +kernel
theorem dX11_goOn_19 : decode cX11_goOn 19 = .ok (.iinc 2 1, 3) := by decide +kernel
theorem dX11_goOn_22 : decode cX11_goOn 22 = .ok (.goto (-20), 3) := by decide +kernel
theorem dX11_goOn_25 : decode cX11_goOn 25 = .ok (.return_, 1) := by decide +kernel
noncomputable def bs_X11_goOn : List (Nat × XB) := [
  (0, (sq (xC (.int 0)) (sq (xSI 2) (tGo 2 [true, true, true])))),
  (2, (sq (xLI 2) (sq (xLI 1) (tIf2 (fun x y => decide (y ≤ x)) 25 [false, false, false] 7 [true, true, true])))),
  (7, (sq (xLA 0) (sq (xGS 10 3 1 0) (sq (xLA 0) (sq (xGS 10 8 1 1) (sq (xCI 3 2 F_X4_pass) (sq (xPop) (sq (xInc 2 1) (tGo 2 [true, true, true]))))))))),
  (25, tRV)]
set_option maxRecDepth 100000 in
set_option maxHeartbeats 4000000 in
theorem s_X11_goOn : ∀ X : XCtx, XE X → X.2.2.1.1 = cX11_goOn → X.2.2.1.2.1 = 3 → X.2.2.1.2.2.1 = yX11_goOn.cls → X.2.2.1.2.2.2.1 = none → X.1.2.2.2.1 = { frames := 5, cells := 0, slots := 0, locals := 123 } → SndBs X bs_X11_goOn := by
  rintro ⟨⟨p, l, e, R, s⟩, Y, ⟨cc, nL, own, ret, Ts⟩, Z⟩ hE h1 h2 h3 h4 h5
  dsimp only at h1 h2 h3 h4 h5
  subst h1 h2 h3 h4 h5
  exact ⟨(n_sq (n_iconst hE (by decide) dX11_goOn_0) (n_sq (n_istore_n hE (show (2 : Nat) < 3 by decide) dX11_goOn_1) n_fall)),
    (n_sq (n_iload_n hE dX11_goOn_2) (n_sq (n_iload_n hE dX11_goOn_3) (n_ifcge hE (by decide) dX11_goOn_4))),
    (n_sq (n_aload_n hE dX11_goOn_7) (n_sq (n_getS hE xk_10 (k := 8) rfl (by decide) rfl wt_324 dX11_goOn_8) (n_sq (n_aload_n hE dX11_goOn_11) (n_sq (n_getS hE xk_10 (k := 7) rfl (by decide) rfl wt_323 dX11_goOn_12) (n_sq (n_cIv hE m_X4_pass vc_X11_242 (show 4 + 1 ≤ 5 ∧ 8 + (4 + 11) + 100 ≤ 123 by decide) dX11_goOn_15) (n_sq (n_pop hE dX11_goOn_18) (n_sq (n_iinc hE (by decide) (show (2 : Nat) < 3 by decide) dX11_goOn_19) (n_goto hE (by decide) dX11_goOn_22)))))))),
    (n_vreturn hE rfl dX11_goOn_25), trivial⟩
noncomputable def F_X11_goOn (as : List XV) (w : XW) : Option XW := (xF 3 bs_X11_goOn as w).bind pV
theorem m_X11_goOn : XM yX11_goOn cX11_goOn 3 none 5 123 (eV F_X11_goOn) := xm_V (xm_of (by decide) s_X11_goOn)
noncomputable def q_X11_goOn_0 (x1 : Int32) (w : XW) : Option XR := ev bs_X11_goOn 0 ([some (.inr (10, 0)), some (.inl (.int x1)), none], [], w)
noncomputable def q_X11_goOn_2 (x1 : Int32) (x2 : Int32) (w : XW) : Option XR := ev bs_X11_goOn 2 ([some (.inr (10, 0)), some (.inl (.int x1)), some (.inl (.int x2))], [], w)
noncomputable def q_X11_goOn_7 (x1 : Int32) (x2 : Int32) (w : XW) : Option XR := ev bs_X11_goOn 7 ([some (.inr (10, 0)), some (.inl (.int x1)), some (.inl (.int x2))], [], w)
noncomputable def q_X11_goOn_25 (w : XW) : Option XR := ev bs_X11_goOn 25 ([none, none, none], [], w)
theorem e_X11_goOn_0 (x1 : Int32) (w : XW) : q_X11_goOn_0 x1 w = (q_X11_goOn_2 x1 0 w) := (ev_eq _ _ _).trans rfl
theorem e_X11_goOn_2 (x1 : Int32) (x2 : Int32) (w : XW) : q_X11_goOn_2 x1 x2 w = (bif decide (x1 ≤ x2) then (q_X11_goOn_25 w) else (q_X11_goOn_7 x1 x2 w)) := (ev_eq _ _ _).trans rfl
theorem e_X11_goOn_7 (x1 : Int32) (x2 : Int32) (w : XW) : q_X11_goOn_7 x1 x2 w = ((F_X4_pass [.inr (3, 0), .inr (8, 1)] w).bind fun r0 => (q_X11_goOn_2 x1 (x2 + 1) r0.2)) := (ev_eq _ _ _).trans rfl
theorem e_X11_goOn_25 (w : XW) : q_X11_goOn_25 w = (some (none, w)) := (ev_eq _ _ _).trans rfl
theorem f_X11_goOn (x1 : Int32) (w : XW) : F_X11_goOn [.inr (10, 0), .inl (.int x1)] w = (q_X11_goOn_0 x1 w).bind pV := rfl

-- WinterKeep.ahead(III)I
theorem dX11_ahead_0 : decode cX11_ahead 0 = .ok (.aload_n 0, 1) := by decide +kernel
theorem dX11_ahead_1 : decode cX11_ahead 1 = .ok (.getfield 39, 3) := by decide +kernel
theorem dX11_ahead_4 : decode cX11_ahead 4 = .ok (.getfield 227, 3) := by decide +kernel
theorem dX11_ahead_7 : decode cX11_ahead 7 = .ok (.ifCond .eq 22, 3) := by decide +kernel
theorem dX11_ahead_10 : decode cX11_ahead 10 = .ok (.iload_n 2, 1) := by decide +kernel
theorem dX11_ahead_11 : decode cX11_ahead 11 = .ok (.iconst 0, 1) := by decide +kernel
theorem dX11_ahead_12 : decode cX11_ahead 12 = .ok (.bipush 100, 2) := by decide +kernel
theorem dX11_ahead_14 : decode cX11_ahead 14 = .ok (.invokestatic 170, 3) := by decide +kernel
theorem dX11_ahead_17 : decode cX11_ahead 17 = .ok (.ifCond .eq 12, 3) := by decide +kernel
theorem dX11_ahead_20 : decode cX11_ahead 20 = .ok (.iload_n 3, 1) := by decide +kernel
theorem dX11_ahead_21 : decode cX11_ahead 21 = .ok (.iconst 0, 1) := by decide +kernel
theorem dX11_ahead_22 : decode cX11_ahead 22 = .ok (.iconst 2, 1) := by decide +kernel
theorem dX11_ahead_23 : decode cX11_ahead 23 = .ok (.invokestatic 170, 3) := by decide +kernel
theorem dX11_ahead_26 : decode cX11_ahead 26 = .ok (.ifCond .ne 5, 3) := by decide +kernel
theorem dX11_ahead_29 : decode cX11_ahead 29 = .ok (.iconst (-1), 1) := by decide +kernel
theorem dX11_ahead_30 : decode cX11_ahead 30 = .ok (.ireturn, 1) := by decide +kernel
theorem dX11_ahead_31 : decode cX11_ahead 31 = .ok (.iload_n 3, 1) := by decide +kernel
theorem dX11_ahead_32 : decode cX11_ahead 32 = .ok (.iconst 2, 1) := by decide +kernel
theorem dX11_ahead_33 : decode cX11_ahead 33 = .ok (.if_icmp .eq 13, 3) := by decide +kernel
theorem dX11_ahead_36 : decode cX11_ahead 36 = .ok (.aload_n 0, 1) := by decide +kernel
theorem dX11_ahead_37 : decode cX11_ahead 37 = .ok (.iload_n 1, 1) := by decide +kernel
theorem dX11_ahead_38 : decode cX11_ahead 38 = .ok (.invokevirtual 145, 3) := by decide +kernel
theorem dX11_ahead_41 : decode cX11_ahead 41 = .ok (.ifCond .ne 5, 3) := by decide +kernel
theorem dX11_ahead_44 : decode cX11_ahead 44 = .ok (.iconst (-1), 1) := by decide +kernel
theorem dX11_ahead_45 : decode cX11_ahead 45 = .ok (.ireturn, 1) := by decide +kernel
theorem dX11_ahead_46 : decode cX11_ahead 46 = .ok (.aload_n 0, 1) := by decide +kernel
theorem dX11_ahead_47 : decode cX11_ahead 47 = .ok (.invokevirtual 250, 3) := by decide +kernel
theorem dX11_ahead_50 : decode cX11_ahead 50 = .ok (.aload_n 0, 1) := by decide +kernel
theorem dX11_ahead_51 : decode cX11_ahead 51 = .ok (.iload_n 2, 1) := by decide +kernel
theorem dX11_ahead_52 : decode cX11_ahead 52 = .ok (.invokevirtual 253, 3) := by decide +kernel
theorem dX11_ahead_55 : decode cX11_ahead 55 = .ok (.iload_n 3, 1) := by decide +kernel
theorem dX11_ahead_56 : decode cX11_ahead 56 = .ok (.iconst 2, 1) := by decide +kernel
theorem dX11_ahead_57 : decode cX11_ahead 57 = .ok (.if_icmp .ne 11, 3) := by decide +kernel
theorem dX11_ahead_60 : decode cX11_ahead 60 = .ok (.aload_n 0, 1) := by decide +kernel
theorem dX11_ahead_61 : decode cX11_ahead 61 = .ok (.getfield 50, 3) := by decide +kernel
theorem dX11_ahead_64 : decode cX11_ahead 64 = .ok (.invokevirtual 213, 3) := by decide +kernel
theorem dX11_ahead_67 : decode cX11_ahead 67 = .ok (.ireturn, 1) := by decide +kernel
theorem dX11_ahead_68 : decode cX11_ahead 68 = .ok (.iload_n 3, 1) := by decide +kernel
theorem dX11_ahead_69 : decode cX11_ahead 69 = .ok (.ifCond .ne 15, 3) := by decide +kernel
theorem dX11_ahead_72 : decode cX11_ahead 72 = .ok (.aload_n 0, 1) := by decide +kernel
theorem dX11_ahead_73 : decode cX11_ahead 73 = .ok (.getfield 50, 3) := by decide +kernel
theorem dX11_ahead_76 : decode cX11_ahead 76 = .ok (.getfield 155, 3) := by decide +kernel
theorem dX11_ahead_79 : decode cX11_ahead 79 = .ok (.iload_n 1, 1) := by decide +kernel
theorem dX11_ahead_80 : decode cX11_ahead 80 = .ok (.iaload, 1) := by decide +kernel
theorem dX11_ahead_81 : decode cX11_ahead 81 = .ok (.goto 12, 3) := by decide +kernel
theorem dX11_ahead_84 : decode cX11_ahead 84 = .ok (.aload_n 0, 1) := by decide +kernel
theorem dX11_ahead_85 : decode cX11_ahead 85 = .ok (.getfield 50, 3) := by decide +kernel
theorem dX11_ahead_88 : decode cX11_ahead 88 = .ok (.getfield 158, 3) := by decide +kernel
theorem dX11_ahead_91 : decode cX11_ahead 91 = .ok (.iload_n 1, 1) := by decide +kernel
theorem dX11_ahead_92 : decode cX11_ahead 92 = .ok (.iaload, 1) := by decide +kernel
theorem dX11_ahead_93 : decode cX11_ahead 93 = .ok (.ireturn, 1) := by decide +kernel
theorem vc_X11_250 : XVw RX11 250 0 10 1 yX11_startFromNow cX11_startFromNow none := ⟨RX11, TX11, tyX11, 20, xk_10, rfl, ⟨by decide, by decide⟩, by decide +kernel, wt_750, wt_752, ws_21, wt_1, wt_753⟩
theorem vc_X11_253 : XVw RX11 253 1 10 3 yX11_goOn cX11_goOn none := ⟨RX11, TX11, tyX11, 20, xk_10, rfl, ⟨by decide, by decide⟩, by decide +kernel, wt_754, wt_756, ws_22, wt_1, wt_757⟩
noncomputable def bs_X11_ahead : List (Nat × XB) := [
  (0, (sq (xLA 0) (sq (xGD 10 5 1) (sq (xGI 1 0) (tIf1 (fun x => decide (x = 0)) 29 [false, false, false, false] 10 [true, true, true, true]))))),
  (10, (sq (xLI 2) (sq (xC (.int 0)) (sq (xC (.int 100)) (sq (xCI 99 3 F_X11_within) (tIf1 (fun x => decide (x = 0)) 29 [false, false, false, false] 20 [true, true, true, true])))))),
  (20, (sq (xLI 3) (sq (xC (.int 0)) (sq (xC (.int 2)) (sq (xCI 99 3 F_X11_within) (tIf1 (fun x => decide (¬ x = 0)) 31 [true, true, true, true] 29 [false, false, false, false])))))),
  (29, (sq (xC (.int (-1))) tRI)),
  (31, (sq (xLI 3) (sq (xC (.int 2)) (tIf2 (fun x y => decide (x = y)) 46 [true, true, true, true] 36 [true, true, true, true])))),
  (36, (sq (xLA 0) (sq (xLI 1) (sq (xCI 10 2 F_X11_isKeep) (tIf1 (fun x => decide (¬ x = 0)) 46 [true, true, true, true] 44 [false, false, false, false]))))),
  (44, (sq (xC (.int (-1))) tRI)),
  (46, (sq (xLA 0) (sq (xCV 10 1 F_X11_startFromNow) (sq (xLA 0) (sq (xLI 2) (sq (xCV 10 2 F_X11_goOn) (sq (xLI 3) (sq (xC (.int 2)) (tIf2 (fun x y => decide (¬ x = y)) 68 [true, true, false, true] 60 [true, false, false, false]))))))))),
  (60, (sq (xLA 0) (sq (xGS 10 8 1 1) (sq (xCI 8 1 F_X9_burntBits) tRI)))),
  (68, (sq (xLI 3) (tIf1 (fun x => decide (¬ x = 0)) 84 [true, true, false, false] 72 [true, true, false, false]))),
  (72, (sq (xLA 0) (sq (xGS 10 8 1 1) (sq (xGS 8 30 0 0) (sq (xLI 1) (sq (xAI 30 6) (tGo 93 [false, false, false, false]))))))),
  (84, (sq (xLA 0) (sq (xGS 10 8 1 1) (sq (xGS 8 31 0 0) (sq (xLI 1) (sq (xAI 31 6) (tGo 93 [false, false, false, false]))))))),
  (93, tRI)]
set_option maxRecDepth 100000 in
set_option maxHeartbeats 4000000 in
theorem s_X11_ahead : ∀ X : XCtx, XE X → X.2.2.1.1 = cX11_ahead → X.2.2.1.2.1 = 4 → X.2.2.1.2.2.1 = yX11_ahead.cls → X.2.2.1.2.2.2.1 = (some .int) → X.1.2.2.2.1 = { frames := 6, cells := 0, slots := 0, locals := 145 } → SndBs X bs_X11_ahead := by
  rintro ⟨⟨p, l, e, R, s⟩, Y, ⟨cc, nL, own, ret, Ts⟩, Z⟩ hE h1 h2 h3 h4 h5
  dsimp only at h1 h2 h3 h4 h5
  subst h1 h2 h3 h4 h5
  exact ⟨(n_sq (n_aload_n hE dX11_ahead_0) (n_sq (n_getD hE xk_10 (k := 5) rfl (by decide) rfl wt_321 dX11_ahead_1) (n_sq (n_getI hE xk_1 (k := 0) rfl (by decide) rfl wt_96 dX11_ahead_4) (n_ifeq hE (by decide) dX11_ahead_7)))),
    (n_sq (n_iload_n hE dX11_ahead_10) (n_sq (n_iconst hE (by decide) dX11_ahead_11) (n_sq (n_bipush hE (by decide) dX11_ahead_12) (n_sq (n_cIs hE m_X11_within vc_X11_170 (show 0 + 1 ≤ 6 ∧ 8 + (3 + 11) + 0 ≤ 145 by decide) dX11_ahead_14) (n_ifeq hE (by decide) dX11_ahead_17))))),
    (n_sq (n_iload_n hE dX11_ahead_20) (n_sq (n_iconst hE (by decide) dX11_ahead_21) (n_sq (n_iconst hE (by decide) dX11_ahead_22) (n_sq (n_cIs hE m_X11_within vc_X11_170 (show 0 + 1 ≤ 6 ∧ 8 + (3 + 11) + 0 ≤ 145 by decide) dX11_ahead_23) (n_ifne hE (by decide) dX11_ahead_26))))),
    (n_sq (n_iconst hE (by decide) dX11_ahead_29) (n_ireturn hE rfl dX11_ahead_30)),
    (n_sq (n_iload_n hE dX11_ahead_31) (n_sq (n_iconst hE (by decide) dX11_ahead_32) (n_ifceq hE (by decide) dX11_ahead_33))),
    (n_sq (n_aload_n hE dX11_ahead_36) (n_sq (n_iload_n hE dX11_ahead_37) (n_sq (n_cIv hE m_X11_isKeep vc_X11_145 (show 1 + 1 ≤ 6 ∧ 8 + (2 + 11) + 22 ≤ 145 by decide) dX11_ahead_38) (n_ifne hE (by decide) dX11_ahead_41)))),
    (n_sq (n_iconst hE (by decide) dX11_ahead_44) (n_ireturn hE rfl dX11_ahead_45)),
    (n_sq (n_aload_n hE dX11_ahead_46) (n_sq (n_cVv hE m_X11_startFromNow vc_X11_250 (show 2 + 1 ≤ 6 ∧ 8 + (1 + 11) + 43 ≤ 145 by decide) dX11_ahead_47) (n_sq (n_aload_n hE dX11_ahead_50) (n_sq (n_iload_n hE dX11_ahead_51) (n_sq (n_cVv hE m_X11_goOn vc_X11_253 (show 5 + 1 ≤ 6 ∧ 8 + (3 + 11) + 123 ≤ 145 by decide) dX11_ahead_52) (n_sq (n_iload_n hE dX11_ahead_55) (n_sq (n_iconst hE (by decide) dX11_ahead_56) (n_ifcne hE (by decide) dX11_ahead_57)))))))),
    (n_sq (n_aload_n hE dX11_ahead_60) (n_sq (n_getS hE xk_10 (k := 7) rfl (by decide) rfl wt_323 dX11_ahead_61) (n_sq (n_cIv hE m_X9_burntBits vc_X11_213 (show 1 + 1 ≤ 6 ∧ 8 + (1 + 11) + 23 ≤ 145 by decide) dX11_ahead_64) (n_ireturn hE rfl dX11_ahead_67)))),
    (n_sq (n_iload_n hE dX11_ahead_68) (n_ifne hE (by decide) dX11_ahead_69)),
    (n_sq (n_aload_n hE dX11_ahead_72) (n_sq (n_getS hE xk_10 (k := 7) rfl (by decide) rfl wt_323 dX11_ahead_73) (n_sq (n_getS hE xk_8 (k := 2) rfl (by decide) rfl wt_183 dX11_ahead_76) (n_sq (n_iload_n hE dX11_ahead_79) (n_sq (n_iald hE rfl (by decide) dX11_ahead_80) (n_goto hE (by decide) dX11_ahead_81)))))),
    (n_sq (n_aload_n hE dX11_ahead_84) (n_sq (n_getS hE xk_10 (k := 7) rfl (by decide) rfl wt_323 dX11_ahead_85) (n_sq (n_getS hE xk_8 (k := 3) rfl (by decide) rfl wt_186 dX11_ahead_88) (n_sq (n_iload_n hE dX11_ahead_91) (n_sq (n_iald hE rfl (by decide) dX11_ahead_92) n_fall))))),
    (n_ireturn hE rfl dX11_ahead_93), trivial⟩
noncomputable def F_X11_ahead (as : List XV) (w : XW) : Option (Int32 × XW) := (xF 4 bs_X11_ahead as w).bind pI
theorem m_X11_ahead : XM yX11_ahead cX11_ahead 4 (some .int) 6 145 (eI F_X11_ahead) := xm_I (xm_of (by decide) s_X11_ahead)
noncomputable def q_X11_ahead_0 (x1 : Int32) (x2 : Int32) (x3 : Int32) (w : XW) : Option XR := ev bs_X11_ahead 0 ([some (.inr (10, 0)), some (.inl (.int x1)), some (.inl (.int x2)), some (.inl (.int x3))], [], w)
noncomputable def q_X11_ahead_10 (x1 : Int32) (x2 : Int32) (x3 : Int32) (w : XW) : Option XR := ev bs_X11_ahead 10 ([some (.inr (10, 0)), some (.inl (.int x1)), some (.inl (.int x2)), some (.inl (.int x3))], [], w)
noncomputable def q_X11_ahead_20 (x1 : Int32) (x2 : Int32) (x3 : Int32) (w : XW) : Option XR := ev bs_X11_ahead 20 ([some (.inr (10, 0)), some (.inl (.int x1)), some (.inl (.int x2)), some (.inl (.int x3))], [], w)
noncomputable def q_X11_ahead_29 (w : XW) : Option XR := ev bs_X11_ahead 29 ([none, none, none, none], [], w)
noncomputable def q_X11_ahead_31 (x1 : Int32) (x2 : Int32) (x3 : Int32) (w : XW) : Option XR := ev bs_X11_ahead 31 ([some (.inr (10, 0)), some (.inl (.int x1)), some (.inl (.int x2)), some (.inl (.int x3))], [], w)
noncomputable def q_X11_ahead_36 (x1 : Int32) (x2 : Int32) (x3 : Int32) (w : XW) : Option XR := ev bs_X11_ahead 36 ([some (.inr (10, 0)), some (.inl (.int x1)), some (.inl (.int x2)), some (.inl (.int x3))], [], w)
noncomputable def q_X11_ahead_44 (w : XW) : Option XR := ev bs_X11_ahead 44 ([none, none, none, none], [], w)
noncomputable def q_X11_ahead_46 (x1 : Int32) (x2 : Int32) (x3 : Int32) (w : XW) : Option XR := ev bs_X11_ahead 46 ([some (.inr (10, 0)), some (.inl (.int x1)), some (.inl (.int x2)), some (.inl (.int x3))], [], w)
noncomputable def q_X11_ahead_60 (w : XW) : Option XR := ev bs_X11_ahead 60 ([some (.inr (10, 0)), none, none, none], [], w)
noncomputable def q_X11_ahead_68 (x1 : Int32) (x3 : Int32) (w : XW) : Option XR := ev bs_X11_ahead 68 ([some (.inr (10, 0)), some (.inl (.int x1)), none, some (.inl (.int x3))], [], w)
noncomputable def q_X11_ahead_72 (x1 : Int32) (w : XW) : Option XR := ev bs_X11_ahead 72 ([some (.inr (10, 0)), some (.inl (.int x1)), none, none], [], w)
noncomputable def q_X11_ahead_84 (x1 : Int32) (w : XW) : Option XR := ev bs_X11_ahead 84 ([some (.inr (10, 0)), some (.inl (.int x1)), none, none], [], w)
noncomputable def q_X11_ahead_93 (s0 : Int32) (w : XW) : Option XR := ev bs_X11_ahead 93 ([none, none, none, none], [.inl (.int s0)], w)
theorem e_X11_ahead_0 (x1 : Int32) (x2 : Int32) (x3 : Int32) (w : XW) : q_X11_ahead_0 x1 x2 x3 w = ((gR w 10 0 5).bind fun j0 => (bif decide ((gI w 1 j0 0) = 0) then (q_X11_ahead_29 w) else (q_X11_ahead_10 x1 x2 x3 w))) := (ev_eq _ _ _).trans rfl
theorem e_X11_ahead_10 (x1 : Int32) (x2 : Int32) (x3 : Int32) (w : XW) : q_X11_ahead_10 x1 x2 x3 w = ((F_X11_within [.inl (.int x2), .inl (.int 0), .inl (.int 100)] w).bind fun r0 => (bif decide (r0.1 = 0) then (q_X11_ahead_29 r0.2) else (q_X11_ahead_20 x1 x2 x3 r0.2))) := (ev_eq _ _ _).trans rfl
theorem e_X11_ahead_20 (x1 : Int32) (x2 : Int32) (x3 : Int32) (w : XW) : q_X11_ahead_20 x1 x2 x3 w = ((F_X11_within [.inl (.int x3), .inl (.int 0), .inl (.int 2)] w).bind fun r0 => (bif decide (¬ r0.1 = 0) then (q_X11_ahead_31 x1 x2 x3 r0.2) else (q_X11_ahead_29 r0.2))) := (ev_eq _ _ _).trans rfl
theorem e_X11_ahead_29 (w : XW) : q_X11_ahead_29 w = (some (some (.inl (.int (-1))), w)) := (ev_eq _ _ _).trans rfl
theorem e_X11_ahead_31 (x1 : Int32) (x2 : Int32) (x3 : Int32) (w : XW) : q_X11_ahead_31 x1 x2 x3 w = (bif decide (x3 = 2) then (q_X11_ahead_46 x1 x2 x3 w) else (q_X11_ahead_36 x1 x2 x3 w)) := (ev_eq _ _ _).trans rfl
theorem e_X11_ahead_36 (x1 : Int32) (x2 : Int32) (x3 : Int32) (w : XW) : q_X11_ahead_36 x1 x2 x3 w = ((F_X11_isKeep [.inr (10, 0), .inl (.int x1)] w).bind fun r0 => (bif decide (¬ r0.1 = 0) then (q_X11_ahead_46 x1 x2 x3 r0.2) else (q_X11_ahead_44 r0.2))) := (ev_eq _ _ _).trans rfl
theorem e_X11_ahead_44 (w : XW) : q_X11_ahead_44 w = (some (some (.inl (.int (-1))), w)) := (ev_eq _ _ _).trans rfl
theorem e_X11_ahead_46 (x1 : Int32) (x2 : Int32) (x3 : Int32) (w : XW) : q_X11_ahead_46 x1 x2 x3 w = ((F_X11_startFromNow [.inr (10, 0)] w).bind fun r0 => ((F_X11_goOn [.inr (10, 0), .inl (.int x2)] r0).bind fun r1 => (bif decide (¬ x3 = 2) then (q_X11_ahead_68 x1 x3 r1) else (q_X11_ahead_60 r1)))) := (ev_eq _ _ _).trans rfl
theorem e_X11_ahead_60 (w : XW) : q_X11_ahead_60 w = ((F_X9_burntBits [.inr (8, 1)] w).bind fun r0 => (some (some (.inl (.int r0.1)), r0.2))) := (ev_eq _ _ _).trans rfl
theorem e_X11_ahead_68 (x1 : Int32) (x3 : Int32) (w : XW) : q_X11_ahead_68 x1 x3 w = (bif decide (¬ x3 = 0) then (q_X11_ahead_84 x1 w) else (q_X11_ahead_72 x1 w)) := (ev_eq _ _ _).trans rfl
theorem e_X11_ahead_72 (x1 : Int32) (w : XW) : q_X11_ahead_72 x1 w = (if x1 < 0 ∨ 6 ≤ x1.toNatClampNeg then none else (q_X11_ahead_93 (gI w 30 1 x1.toNatClampNeg) w)) := (ev_eq _ _ _).trans rfl
theorem e_X11_ahead_84 (x1 : Int32) (w : XW) : q_X11_ahead_84 x1 w = (if x1 < 0 ∨ 6 ≤ x1.toNatClampNeg then none else (q_X11_ahead_93 (gI w 31 1 x1.toNatClampNeg) w)) := (ev_eq _ _ _).trans rfl
theorem e_X11_ahead_93 (s0 : Int32) (w : XW) : q_X11_ahead_93 s0 w = (some (some (.inl (.int s0)), w)) := (ev_eq _ _ _).trans rfl
theorem f_X11_ahead (x1 : Int32) (x2 : Int32) (x3 : Int32) (w : XW) : F_X11_ahead [.inr (10, 0), .inl (.int x1), .inl (.int x2), .inl (.int x3)] w = (q_X11_ahead_0 x1 x2 x3 w).bind pI := rfl

-- WinterKeep.leastOf(I)I
theorem dX11_leastOf_0 : decode cX11_leastOf 0 = .ok (.iconst 0, 1) := by decide +kernel
theorem dX11_leastOf_1 : decode cX11_leastOf 1 = .ok (.istore_n 1, 1) := by decide +kernel
theorem dX11_leastOf_2 : decode cX11_leastOf 2 = .ok (.iload_n 1, 1) := by decide +kernel
theorem dX11_leastOf_3 : decode cX11_leastOf 3 = .ok (.bipush 6, 2) := by decide +kernel
theorem dX11_leastOf_5 : decode cX11_leastOf 5 = .ok (.if_icmp .ge 19, 3) := by decide +kernel
theorem dX11_leastOf_8 : decode cX11_leastOf 8 = .ok (.iload_n 0, 1) := by decide +kernel
theorem dX11_leastOf_9 : decode cX11_leastOf 9 = .ok (.iload_n 1, 1) := by decide +kernel
theorem dX11_leastOf_10 : decode cX11_leastOf 10 = .ok (.ishr, 1) := by decide +kernel
theorem dX11_leastOf_11 : decode cX11_leastOf 11 = .ok (.iconst 1, 1) := by decide +kernel
theorem dX11_leastOf_12 : decode cX11_leastOf 12 = .ok (.iand, 1) := by decide +kernel
theorem dX11_leastOf_13 : decode cX11_leastOf 13 = .ok (.ifCond .eq 5, 3) := by decide +kernel
theorem dX11_leastOf_16 : decode cX11_leastOf 16 = .ok (.iload_n 1, 1) := by decide +kernel
theorem dX11_leastOf_17 : decode cX11_leastOf 17 = .ok (.ireturn, 1) := by decide +kernel
theorem dX11_leastOf_18 : decode cX11_leastOf 18 = .ok (.iinc 1 1, 3) := by decide +kernel
theorem dX11_leastOf_21 : decode cX11_leastOf 21 = .ok (.goto (-19), 3) := by decide +kernel
theorem dX11_leastOf_24 : decode cX11_leastOf 24 = .ok (.iconst (-1), 1) := by decide +kernel
theorem dX11_leastOf_25 : decode cX11_leastOf 25 = .ok (.ireturn, 1) := by decide +kernel
noncomputable def bs_X11_leastOf : List (Nat × XB) := [
  (0, (sq (xC (.int 0)) (sq (xSI 1) (tGo 2 [true, true])))),
  (2, (sq (xLI 1) (sq (xC (.int 6)) (tIf2 (fun x y => decide (y ≤ x)) 24 [false, false] 8 [true, true])))),
  (8, (sq (xLI 0) (sq (xLI 1) (sq (xI2 (fun x y => x >>> (y &&& 31))) (sq (xC (.int 1)) (sq (xI2 (· &&& ·)) (tIf1 (fun x => decide (x = 0)) 18 [true, true] 16 [false, true]))))))),
  (16, (sq (xLI 1) tRI)),
  (18, (sq (xInc 1 1) (tGo 2 [true, true]))),
  (24, (sq (xC (.int (-1))) tRI))]
set_option maxRecDepth 100000 in
set_option maxHeartbeats 4000000 in
theorem s_X11_leastOf : ∀ X : XCtx, XE X → X.2.2.1.1 = cX11_leastOf → X.2.2.1.2.1 = 2 → X.2.2.1.2.2.1 = yX11_leastOf.cls → X.2.2.1.2.2.2.1 = (some .int) → X.1.2.2.2.1 = { frames := 0, cells := 0, slots := 0, locals := 0 } → SndBs X bs_X11_leastOf := by
  rintro ⟨⟨p, l, e, R, s⟩, Y, ⟨cc, nL, own, ret, Ts⟩, Z⟩ hE h1 h2 h3 h4 h5
  dsimp only at h1 h2 h3 h4 h5
  subst h1 h2 h3 h4 h5
  exact ⟨(n_sq (n_iconst hE (by decide) dX11_leastOf_0) (n_sq (n_istore_n hE (show (1 : Nat) < 2 by decide) dX11_leastOf_1) n_fall)),
    (n_sq (n_iload_n hE dX11_leastOf_2) (n_sq (n_bipush hE (by decide) dX11_leastOf_3) (n_ifcge hE (by decide) dX11_leastOf_5))),
    (n_sq (n_iload_n hE dX11_leastOf_8) (n_sq (n_iload_n hE dX11_leastOf_9) (n_sq (n_ishr hE dX11_leastOf_10) (n_sq (n_iconst hE (by decide) dX11_leastOf_11) (n_sq (n_iand hE dX11_leastOf_12) (n_ifeq hE (by decide) dX11_leastOf_13)))))),
    (n_sq (n_iload_n hE dX11_leastOf_16) (n_ireturn hE rfl dX11_leastOf_17)),
    (n_sq (n_iinc hE (by decide) (show (1 : Nat) < 2 by decide) dX11_leastOf_18) (n_goto hE (by decide) dX11_leastOf_21)),
    (n_sq (n_iconst hE (by decide) dX11_leastOf_24) (n_ireturn hE rfl dX11_leastOf_25)), trivial⟩
noncomputable def F_X11_leastOf (as : List XV) (w : XW) : Option (Int32 × XW) := (xF 2 bs_X11_leastOf as w).bind pI
theorem m_X11_leastOf : XM yX11_leastOf cX11_leastOf 2 (some .int) 0 0 (eI F_X11_leastOf) := xm_I (xm_of (by decide) s_X11_leastOf)
noncomputable def q_X11_leastOf_0 (x0 : Int32) (w : XW) : Option XR := ev bs_X11_leastOf 0 ([some (.inl (.int x0)), none], [], w)
noncomputable def q_X11_leastOf_2 (x0 : Int32) (x1 : Int32) (w : XW) : Option XR := ev bs_X11_leastOf 2 ([some (.inl (.int x0)), some (.inl (.int x1))], [], w)
noncomputable def q_X11_leastOf_8 (x0 : Int32) (x1 : Int32) (w : XW) : Option XR := ev bs_X11_leastOf 8 ([some (.inl (.int x0)), some (.inl (.int x1))], [], w)
noncomputable def q_X11_leastOf_16 (x1 : Int32) (w : XW) : Option XR := ev bs_X11_leastOf 16 ([none, some (.inl (.int x1))], [], w)
noncomputable def q_X11_leastOf_18 (x0 : Int32) (x1 : Int32) (w : XW) : Option XR := ev bs_X11_leastOf 18 ([some (.inl (.int x0)), some (.inl (.int x1))], [], w)
noncomputable def q_X11_leastOf_24 (w : XW) : Option XR := ev bs_X11_leastOf 24 ([none, none], [], w)
theorem e_X11_leastOf_0 (x0 : Int32) (w : XW) : q_X11_leastOf_0 x0 w = (q_X11_leastOf_2 x0 0 w) := (ev_eq _ _ _).trans rfl
theorem e_X11_leastOf_2 (x0 : Int32) (x1 : Int32) (w : XW) : q_X11_leastOf_2 x0 x1 w = (bif decide (6 ≤ x1) then (q_X11_leastOf_24 w) else (q_X11_leastOf_8 x0 x1 w)) := (ev_eq _ _ _).trans rfl
theorem e_X11_leastOf_8 (x0 : Int32) (x1 : Int32) (w : XW) : q_X11_leastOf_8 x0 x1 w = (bif decide ((((x0 : Int32) >>> ((x1 : Int32) &&& 31)) &&& 1) = 0) then (q_X11_leastOf_18 x0 x1 w) else (q_X11_leastOf_16 x1 w)) := (ev_eq _ _ _).trans rfl
theorem e_X11_leastOf_16 (x1 : Int32) (w : XW) : q_X11_leastOf_16 x1 w = (some (some (.inl (.int x1)), w)) := (ev_eq _ _ _).trans rfl
theorem e_X11_leastOf_18 (x0 : Int32) (x1 : Int32) (w : XW) : q_X11_leastOf_18 x0 x1 w = (q_X11_leastOf_2 x0 (x1 + 1) w) := (ev_eq _ _ _).trans rfl
theorem e_X11_leastOf_24 (w : XW) : q_X11_leastOf_24 w = (some (some (.inl (.int (-1))), w)) := (ev_eq _ _ _).trans rfl
theorem f_X11_leastOf (x0 : Int32) (w : XW) : F_X11_leastOf [.inl (.int x0)] w = (q_X11_leastOf_0 x0 w).bind pI := rfl
