-- WinterKeepModel.isField(I)Z
theorem dX12_isField_0 : decode cX12_isField 0 = .ok (.iload_n 1, 1) := by decide +kernel
theorem dX12_isField_1 : decode cX12_isField 1 = .ok (.ifCond .lt 17, 3) := by decide +kernel
theorem dX12_isField_4 : decode cX12_isField 4 = .ok (.iload_n 1, 1) := by decide +kernel
theorem dX12_isField_5 : decode cX12_isField 5 = .ok (.aload_n 0, 1) := by decide +kernel
theorem dX12_isField_6 : decode cX12_isField 6 = .ok (.getfield 39, 3) := by decide +kernel
theorem dX12_isField_9 : decode cX12_isField 9 = .ok (.iconst 5, 1) := by decide +kernel
theorem dX12_isField_10 : decode cX12_isField 10 = .ok (.iaload, 1) := by decide +kernel
theorem dX12_isField_11 : decode cX12_isField 11 = .ok (.if_icmp .ge 7, 3) := by decide +kernel
theorem dX12_isField_14 : decode cX12_isField 14 = .ok (.iconst 1, 1) := by decide +kernel
theorem dX12_isField_15 : decode cX12_isField 15 = .ok (.goto 4, 3) := by decide +kernel
theorem dX12_isField_18 : decode cX12_isField 18 = .ok (.iconst 0, 1) := by decide +kernel
theorem dX12_isField_19 : decode cX12_isField 19 = .ok (.ireturn, 1) := by decide +kernel
noncomputable def bs_X12_isField : List (Nat × XB) := [
  (0, (sq (xLI 1) (tIf1 (fun x => decide (x < 0)) 18 [false, false] 4 [true, true]))),
  (4, (sq (xLI 1) (sq (xLA 0) (sq (xGS 11 50 1 0) (sq (xC (.int 5)) (sq (xAI 50 98) (tIf2 (fun x y => decide (y ≤ x)) 18 [false, false] 14 [false, false]))))))),
  (14, (sq (xC (.int 1)) (tGo 19 [false, false]))),
  (18, (sq (xC (.int 0)) (tGo 19 [false, false]))),
  (19, tRZ)]
set_option maxRecDepth 100000 in
set_option maxHeartbeats 4000000 in
theorem s_X12_isField : ∀ X : XCtx, XE X → X.2.2.1.1 = cX12_isField → X.2.2.1.2.1 = 2 → X.2.2.1.2.2.1 = yX12_isField.cls → X.2.2.1.2.2.2.1 = (some .boolean) → X.1.2.2.2.1 = { frames := 0, cells := 0, slots := 0, locals := 0 } → SndBs X bs_X12_isField := by
  rintro ⟨⟨p, l, e, R, s⟩, Y, ⟨cc, nL, own, ret, Ts⟩, Z⟩ hE h1 h2 h3 h4 h5
  dsimp only at h1 h2 h3 h4 h5
  subst h1 h2 h3 h4 h5
  exact ⟨(n_sq (n_iload_n hE dX12_isField_0) (n_iflt hE (by decide) dX12_isField_1)),
    (n_sq (n_iload_n hE dX12_isField_4) (n_sq (n_aload_n hE dX12_isField_5) (n_sq (n_getS hE xk_11 (k := 20) rfl (by decide) rfl wt_980 dX12_isField_6) (n_sq (n_iconst hE (by decide) dX12_isField_9) (n_sq (n_iald hE rfl (by decide) dX12_isField_10) (n_ifcge hE (by decide) dX12_isField_11)))))),
    (n_sq (n_iconst hE (by decide) dX12_isField_14) (n_goto hE (by decide) dX12_isField_15)),
    (n_sq (n_iconst hE (by decide) dX12_isField_18) n_fall),
    (n_zreturn hE rfl dX12_isField_19), trivial⟩
noncomputable def F_X12_isField (as : List XV) (w : XW) : Option (Int32 × XW) := (xF 2 bs_X12_isField as w).bind pI
theorem m_X12_isField : XM yX12_isField cX12_isField 2 (some .boolean) 0 0 (eI F_X12_isField) := xm_I (xm_of (by decide) s_X12_isField)
noncomputable def q_X12_isField_0 (x1 : Int32) (w : XW) : Option XR := ev bs_X12_isField 0 ([some (.inr (11, 0)), some (.inl (.int x1))], [], w)
noncomputable def q_X12_isField_4 (x1 : Int32) (w : XW) : Option XR := ev bs_X12_isField 4 ([some (.inr (11, 0)), some (.inl (.int x1))], [], w)
noncomputable def q_X12_isField_14 (w : XW) : Option XR := ev bs_X12_isField 14 ([none, none], [], w)
noncomputable def q_X12_isField_18 (w : XW) : Option XR := ev bs_X12_isField 18 ([none, none], [], w)
noncomputable def q_X12_isField_19 (s0 : Int32) (w : XW) : Option XR := ev bs_X12_isField 19 ([none, none], [.inl (.int s0)], w)
theorem e_X12_isField_0 (x1 : Int32) (w : XW) : q_X12_isField_0 x1 w = (bif decide (x1 < 0) then (q_X12_isField_18 w) else (q_X12_isField_4 x1 w)) := (ev_eq _ _ _).trans rfl
theorem e_X12_isField_4 (x1 : Int32) (w : XW) : q_X12_isField_4 x1 w = (bif decide ((gI w 50 0 5) ≤ x1) then (q_X12_isField_18 w) else (q_X12_isField_14 w)) := (ev_eq _ _ _).trans rfl
theorem e_X12_isField_14 (w : XW) : q_X12_isField_14 w = (q_X12_isField_19 1 w) := (ev_eq _ _ _).trans rfl
theorem e_X12_isField_18 (w : XW) : q_X12_isField_18 w = (q_X12_isField_19 0 w) := (ev_eq _ _ _).trans rfl
theorem e_X12_isField_19 (s0 : Int32) (w : XW) : q_X12_isField_19 s0 w = (if s0 = 0 ∨ s0 = 1 then some (some (.inl (.int s0)), w) else none) := (ev_eq _ _ _).trans rfl
theorem f_X12_isField (x1 : Int32) (w : XW) : F_X12_isField [.inr (11, 0), .inl (.int x1)] w = (q_X12_isField_0 x1 w).bind pI := rfl

-- WinterKeepModel.fullOf(I)I
theorem dX12_fullOf_0 : decode cX12_fullOf 0 = .ok (.aload_n 0, 1) := by decide +kernel
theorem dX12_fullOf_1 : decode cX12_fullOf 1 = .ok (.getfield 39, 3) := by decide +kernel
theorem dX12_fullOf_4 : decode cX12_fullOf 4 = .ok (.bipush 11, 2) := by decide +kernel
theorem dX12_fullOf_6 : decode cX12_fullOf 6 = .ok (.iconst 4, 1) := by decide +kernel
theorem dX12_fullOf_7 : decode cX12_fullOf 7 = .ok (.iload_n 1, 1) := by decide +kernel
theorem dX12_fullOf_8 : decode cX12_fullOf 8 = .ok (.imul, 1) := by decide +kernel
theorem dX12_fullOf_9 : decode cX12_fullOf 9 = .ok (.iadd, 1) := by decide +kernel
theorem dX12_fullOf_10 : decode cX12_fullOf 10 = .ok (.iaload, 1) := by decide +kernel
theorem dX12_fullOf_11 : decode cX12_fullOf 11 = .ok (.ireturn, 1) := by decide +kernel
noncomputable def bs_X12_fullOf : List (Nat × XB) := [
  (0, (sq (xLA 0) (sq (xGS 11 50 1 0) (sq (xC (.int 11)) (sq (xC (.int 4)) (sq (xLI 1) (sq (xI2 (· * ·)) (sq (xI2 (· + ·)) (sq (xAI 50 98) tRI)))))))))]
set_option maxRecDepth 100000 in
set_option maxHeartbeats 4000000 in
theorem s_X12_fullOf : ∀ X : XCtx, XE X → X.2.2.1.1 = cX12_fullOf → X.2.2.1.2.1 = 2 → X.2.2.1.2.2.1 = yX12_fullOf.cls → X.2.2.1.2.2.2.1 = (some .int) → X.1.2.2.2.1 = { frames := 0, cells := 0, slots := 0, locals := 0 } → SndBs X bs_X12_fullOf := by
  rintro ⟨⟨p, l, e, R, s⟩, Y, ⟨cc, nL, own, ret, Ts⟩, Z⟩ hE h1 h2 h3 h4 h5
  dsimp only at h1 h2 h3 h4 h5
  subst h1 h2 h3 h4 h5
  exact ⟨(n_sq (n_aload_n hE dX12_fullOf_0) (n_sq (n_getS hE xk_11 (k := 20) rfl (by decide) rfl wt_980 dX12_fullOf_1) (n_sq (n_bipush hE (by decide) dX12_fullOf_4) (n_sq (n_iconst hE (by decide) dX12_fullOf_6) (n_sq (n_iload_n hE dX12_fullOf_7) (n_sq (n_imul hE dX12_fullOf_8) (n_sq (n_iadd hE dX12_fullOf_9) (n_sq (n_iald hE rfl (by decide) dX12_fullOf_10) (n_ireturn hE rfl dX12_fullOf_11))))))))), trivial⟩
noncomputable def F_X12_fullOf (as : List XV) (w : XW) : Option (Int32 × XW) := (xF 2 bs_X12_fullOf as w).bind pI
theorem m_X12_fullOf : XM yX12_fullOf cX12_fullOf 2 (some .int) 0 0 (eI F_X12_fullOf) := xm_I (xm_of (by decide) s_X12_fullOf)
noncomputable def q_X12_fullOf_0 (x1 : Int32) (w : XW) : Option XR := ev bs_X12_fullOf 0 ([some (.inr (11, 0)), some (.inl (.int x1))], [], w)
theorem e_X12_fullOf_0 (x1 : Int32) (w : XW) : q_X12_fullOf_0 x1 w = (if (11 + (4 * x1)) < 0 ∨ 98 ≤ (11 + (4 * x1)).toNatClampNeg then none else (some (some (.inl (.int (gI w 50 0 (11 + (4 * x1)).toNatClampNeg))), w))) := (ev_eq _ _ _).trans rfl
theorem f_X12_fullOf (x1 : Int32) (w : XW) : F_X12_fullOf [.inr (11, 0), .inl (.int x1)] w = (q_X12_fullOf_0 x1 w).bind pI := rfl

-- WinterKeepModel.heatOf(I)I
theorem dX12_heatOf_0 : decode cX12_heatOf 0 = .ok (.aload_n 0, 1) := by decide +kernel
theorem dX12_heatOf_1 : decode cX12_heatOf 1 = .ok (.getfield 39, 3) := by decide +kernel
theorem dX12_heatOf_4 : decode cX12_heatOf 4 = .ok (.bipush 11, 2) := by decide +kernel
theorem dX12_heatOf_6 : decode cX12_heatOf 6 = .ok (.iconst 4, 1) := by decide +kernel
theorem dX12_heatOf_7 : decode cX12_heatOf 7 = .ok (.iload_n 1, 1) := by decide +kernel
theorem dX12_heatOf_8 : decode cX12_heatOf 8 = .ok (.imul, 1) := by decide +kernel
theorem dX12_heatOf_9 : decode cX12_heatOf 9 = .ok (.iadd, 1) := by decide +kernel
theorem dX12_heatOf_10 : decode cX12_heatOf 10 = .ok (.iconst 1, 1) := by decide +kernel
theorem dX12_heatOf_11 : decode cX12_heatOf 11 = .ok (.iadd, 1) := by decide +kernel
theorem dX12_heatOf_12 : decode cX12_heatOf 12 = .ok (.iaload, 1) := by decide +kernel
theorem dX12_heatOf_13 : decode cX12_heatOf 13 = .ok (.ireturn, 1) := by decide +kernel
noncomputable def bs_X12_heatOf : List (Nat × XB) := [
  (0, (sq (xLA 0) (sq (xGS 11 50 1 0) (sq (xC (.int 11)) (sq (xC (.int 4)) (sq (xLI 1) (sq (xI2 (· * ·)) (sq (xI2 (· + ·)) (sq (xC (.int 1)) (sq (xI2 (· + ·)) (sq (xAI 50 98) tRI)))))))))))]
set_option maxRecDepth 100000 in
set_option maxHeartbeats 4000000 in
theorem s_X12_heatOf : ∀ X : XCtx, XE X → X.2.2.1.1 = cX12_heatOf → X.2.2.1.2.1 = 2 → X.2.2.1.2.2.1 = yX12_heatOf.cls → X.2.2.1.2.2.2.1 = (some .int) → X.1.2.2.2.1 = { frames := 0, cells := 0, slots := 0, locals := 0 } → SndBs X bs_X12_heatOf := by
  rintro ⟨⟨p, l, e, R, s⟩, Y, ⟨cc, nL, own, ret, Ts⟩, Z⟩ hE h1 h2 h3 h4 h5
  dsimp only at h1 h2 h3 h4 h5
  subst h1 h2 h3 h4 h5
  exact ⟨(n_sq (n_aload_n hE dX12_heatOf_0) (n_sq (n_getS hE xk_11 (k := 20) rfl (by decide) rfl wt_980 dX12_heatOf_1) (n_sq (n_bipush hE (by decide) dX12_heatOf_4) (n_sq (n_iconst hE (by decide) dX12_heatOf_6) (n_sq (n_iload_n hE dX12_heatOf_7) (n_sq (n_imul hE dX12_heatOf_8) (n_sq (n_iadd hE dX12_heatOf_9) (n_sq (n_iconst hE (by decide) dX12_heatOf_10) (n_sq (n_iadd hE dX12_heatOf_11) (n_sq (n_iald hE rfl (by decide) dX12_heatOf_12) (n_ireturn hE rfl dX12_heatOf_13))))))))))), trivial⟩
noncomputable def F_X12_heatOf (as : List XV) (w : XW) : Option (Int32 × XW) := (xF 2 bs_X12_heatOf as w).bind pI
theorem m_X12_heatOf : XM yX12_heatOf cX12_heatOf 2 (some .int) 0 0 (eI F_X12_heatOf) := xm_I (xm_of (by decide) s_X12_heatOf)
noncomputable def q_X12_heatOf_0 (x1 : Int32) (w : XW) : Option XR := ev bs_X12_heatOf 0 ([some (.inr (11, 0)), some (.inl (.int x1))], [], w)
theorem e_X12_heatOf_0 (x1 : Int32) (w : XW) : q_X12_heatOf_0 x1 w = (if ((11 + (4 * x1)) + 1) < 0 ∨ 98 ≤ ((11 + (4 * x1)) + 1).toNatClampNeg then none else (some (some (.inl (.int (gI w 50 0 ((11 + (4 * x1)) + 1).toNatClampNeg))), w))) := (ev_eq _ _ _).trans rfl
theorem f_X12_heatOf (x1 : Int32) (w : XW) : F_X12_heatOf [.inr (11, 0), .inl (.int x1)] w = (q_X12_heatOf_0 x1 w).bind pI := rfl

-- WinterKeepModel.whereIs(I)I
theorem dX12_whereIs_0 : decode cX12_whereIs 0 = .ok (.aload_n 0, 1) := by decide +kernel
theorem dX12_whereIs_1 : decode cX12_whereIs 1 = .ok (.getfield 39, 3) := by decide +kernel
theorem dX12_whereIs_4 : decode cX12_whereIs 4 = .ok (.bipush 11, 2) := by decide +kernel
theorem dX12_whereIs_6 : decode cX12_whereIs 6 = .ok (.iconst 4, 1) := by decide +kernel
theorem dX12_whereIs_7 : decode cX12_whereIs 7 = .ok (.iload_n 1, 1) := by decide +kernel
theorem dX12_whereIs_8 : decode cX12_whereIs 8 = .ok (.imul, 1) := by decide +kernel
theorem dX12_whereIs_9 : decode cX12_whereIs 9 = .ok (.iadd, 1) := by decide +kernel
theorem dX12_whereIs_10 : decode cX12_whereIs 10 = .ok (.iconst 2, 1) := by decide +kernel
theorem dX12_whereIs_11 : decode cX12_whereIs 11 = .ok (.iadd, 1) := by decide +kernel
theorem dX12_whereIs_12 : decode cX12_whereIs 12 = .ok (.iaload, 1) := by decide +kernel
theorem dX12_whereIs_13 : decode cX12_whereIs 13 = .ok (.ireturn, 1) := by decide +kernel
noncomputable def bs_X12_whereIs : List (Nat × XB) := [
  (0, (sq (xLA 0) (sq (xGS 11 50 1 0) (sq (xC (.int 11)) (sq (xC (.int 4)) (sq (xLI 1) (sq (xI2 (· * ·)) (sq (xI2 (· + ·)) (sq (xC (.int 2)) (sq (xI2 (· + ·)) (sq (xAI 50 98) tRI)))))))))))]
set_option maxRecDepth 100000 in
set_option maxHeartbeats 4000000 in
theorem s_X12_whereIs : ∀ X : XCtx, XE X → X.2.2.1.1 = cX12_whereIs → X.2.2.1.2.1 = 2 → X.2.2.1.2.2.1 = yX12_whereIs.cls → X.2.2.1.2.2.2.1 = (some .int) → X.1.2.2.2.1 = { frames := 0, cells := 0, slots := 0, locals := 0 } → SndBs X bs_X12_whereIs := by
  rintro ⟨⟨p, l, e, R, s⟩, Y, ⟨cc, nL, own, ret, Ts⟩, Z⟩ hE h1 h2 h3 h4 h5
  dsimp only at h1 h2 h3 h4 h5
  subst h1 h2 h3 h4 h5
  exact ⟨(n_sq (n_aload_n hE dX12_whereIs_0) (n_sq (n_getS hE xk_11 (k := 20) rfl (by decide) rfl wt_980 dX12_whereIs_1) (n_sq (n_bipush hE (by decide) dX12_whereIs_4) (n_sq (n_iconst hE (by decide) dX12_whereIs_6) (n_sq (n_iload_n hE dX12_whereIs_7) (n_sq (n_imul hE dX12_whereIs_8) (n_sq (n_iadd hE dX12_whereIs_9) (n_sq (n_iconst hE (by decide) dX12_whereIs_10) (n_sq (n_iadd hE dX12_whereIs_11) (n_sq (n_iald hE rfl (by decide) dX12_whereIs_12) (n_ireturn hE rfl dX12_whereIs_13))))))))))), trivial⟩
noncomputable def F_X12_whereIs (as : List XV) (w : XW) : Option (Int32 × XW) := (xF 2 bs_X12_whereIs as w).bind pI
theorem m_X12_whereIs : XM yX12_whereIs cX12_whereIs 2 (some .int) 0 0 (eI F_X12_whereIs) := xm_I (xm_of (by decide) s_X12_whereIs)
noncomputable def q_X12_whereIs_0 (x1 : Int32) (w : XW) : Option XR := ev bs_X12_whereIs 0 ([some (.inr (11, 0)), some (.inl (.int x1))], [], w)
theorem e_X12_whereIs_0 (x1 : Int32) (w : XW) : q_X12_whereIs_0 x1 w = (if ((11 + (4 * x1)) + 2) < 0 ∨ 98 ≤ ((11 + (4 * x1)) + 2).toNatClampNeg then none else (some (some (.inl (.int (gI w 50 0 ((11 + (4 * x1)) + 2).toNatClampNeg))), w))) := (ev_eq _ _ _).trans rfl
theorem f_X12_whereIs (x1 : Int32) (w : XW) : F_X12_whereIs [.inr (11, 0), .inl (.int x1)] w = (q_X12_whereIs_0 x1 w).bind pI := rfl

-- WinterKeepModel.besideOf(I)I
theorem dX12_besideOf_0 : decode cX12_besideOf 0 = .ok (.aload_n 0, 1) := by decide +kernel
theorem dX12_besideOf_1 : decode cX12_besideOf 1 = .ok (.getfield 39, 3) := by decide +kernel
theorem dX12_besideOf_4 : decode cX12_besideOf 4 = .ok (.bipush 11, 2) := by decide +kernel
theorem dX12_besideOf_6 : decode cX12_besideOf 6 = .ok (.iconst 4, 1) := by decide +kernel
theorem dX12_besideOf_7 : decode cX12_besideOf 7 = .ok (.iload_n 1, 1) := by decide +kernel
theorem dX12_besideOf_8 : decode cX12_besideOf 8 = .ok (.imul, 1) := by decide +kernel
theorem dX12_besideOf_9 : decode cX12_besideOf 9 = .ok (.iadd, 1) := by decide +kernel
theorem dX12_besideOf_10 : decode cX12_besideOf 10 = .ok (.iconst 3, 1) := by decide +kernel
theorem dX12_besideOf_11 : decode cX12_besideOf 11 = .ok (.iadd, 1) := by decide +kernel
theorem dX12_besideOf_12 : decode cX12_besideOf 12 = .ok (.iaload, 1) := by decide +kernel
theorem dX12_besideOf_13 : decode cX12_besideOf 13 = .ok (.ireturn, 1) := by decide +kernel
noncomputable def bs_X12_besideOf : List (Nat × XB) := [
  (0, (sq (xLA 0) (sq (xGS 11 50 1 0) (sq (xC (.int 11)) (sq (xC (.int 4)) (sq (xLI 1) (sq (xI2 (· * ·)) (sq (xI2 (· + ·)) (sq (xC (.int 3)) (sq (xI2 (· + ·)) (sq (xAI 50 98) tRI)))))))))))]
set_option maxRecDepth 100000 in
set_option maxHeartbeats 4000000 in
theorem s_X12_besideOf : ∀ X : XCtx, XE X → X.2.2.1.1 = cX12_besideOf → X.2.2.1.2.1 = 2 → X.2.2.1.2.2.1 = yX12_besideOf.cls → X.2.2.1.2.2.2.1 = (some .int) → X.1.2.2.2.1 = { frames := 0, cells := 0, slots := 0, locals := 0 } → SndBs X bs_X12_besideOf := by
  rintro ⟨⟨p, l, e, R, s⟩, Y, ⟨cc, nL, own, ret, Ts⟩, Z⟩ hE h1 h2 h3 h4 h5
  dsimp only at h1 h2 h3 h4 h5
  subst h1 h2 h3 h4 h5
  exact ⟨(n_sq (n_aload_n hE dX12_besideOf_0) (n_sq (n_getS hE xk_11 (k := 20) rfl (by decide) rfl wt_980 dX12_besideOf_1) (n_sq (n_bipush hE (by decide) dX12_besideOf_4) (n_sq (n_iconst hE (by decide) dX12_besideOf_6) (n_sq (n_iload_n hE dX12_besideOf_7) (n_sq (n_imul hE dX12_besideOf_8) (n_sq (n_iadd hE dX12_besideOf_9) (n_sq (n_iconst hE (by decide) dX12_besideOf_10) (n_sq (n_iadd hE dX12_besideOf_11) (n_sq (n_iald hE rfl (by decide) dX12_besideOf_12) (n_ireturn hE rfl dX12_besideOf_13))))))))))), trivial⟩
noncomputable def F_X12_besideOf (as : List XV) (w : XW) : Option (Int32 × XW) := (xF 2 bs_X12_besideOf as w).bind pI
theorem m_X12_besideOf : XM yX12_besideOf cX12_besideOf 2 (some .int) 0 0 (eI F_X12_besideOf) := xm_I (xm_of (by decide) s_X12_besideOf)
noncomputable def q_X12_besideOf_0 (x1 : Int32) (w : XW) : Option XR := ev bs_X12_besideOf 0 ([some (.inr (11, 0)), some (.inl (.int x1))], [], w)
theorem e_X12_besideOf_0 (x1 : Int32) (w : XW) : q_X12_besideOf_0 x1 w = (if ((11 + (4 * x1)) + 3) < 0 ∨ 98 ≤ ((11 + (4 * x1)) + 3).toNatClampNeg then none else (some (some (.inl (.int (gI w 50 0 ((11 + (4 * x1)) + 3).toNatClampNeg))), w))) := (ev_eq _ _ _).trans rfl
theorem f_X12_besideOf (x1 : Int32) (w : XW) : F_X12_besideOf [.inr (11, 0), .inl (.int x1)] w = (q_X12_besideOf_0 x1 w).bind pI := rfl

-- WinterKeepModel.isHome(I)Z
theorem dX12_isHome_0 : decode cX12_isHome 0 = .ok (.aload_n 0, 1) := by decide +kernel
theorem dX12_isHome_1 : decode cX12_isHome 1 = .ok (.iload_n 1, 1) := by decide +kernel
theorem dX12_isHome_2 : decode cX12_isHome 2 = .ok (.invokevirtual 298, 3) := by decide +kernel
theorem dX12_isHome_5 : decode cX12_isHome 5 = .ok (.ifCond .eq 16, 3) := by decide +kernel
theorem dX12_isHome_8 : decode cX12_isHome 8 = .ok (.aload_n 0, 1) := by decide +kernel
theorem dX12_isHome_9 : decode cX12_isHome 9 = .ok (.iload_n 1, 1) := by decide +kernel
theorem dX12_isHome_10 : decode cX12_isHome 10 = .ok (.invokevirtual 301, 3) := by decide +kernel
theorem dX12_isHome_13 : decode cX12_isHome 13 = .ok (.iconst (-1), 1) := by decide +kernel
theorem dX12_isHome_14 : decode cX12_isHome 14 = .ok (.if_icmp .ne 7, 3) := by decide +kernel
theorem dX12_isHome_17 : decode cX12_isHome 17 = .ok (.iconst 1, 1) := by decide +kernel
theorem dX12_isHome_18 : decode cX12_isHome 18 = .ok (.goto 4, 3) := by decide +kernel
theorem dX12_isHome_21 : decode cX12_isHome 21 = .ok (.iconst 0, 1) := by decide +kernel
theorem dX12_isHome_22 : decode cX12_isHome 22 = .ok (.ireturn, 1) := by decide +kernel
theorem vc_X12_298 : XVw RX12 298 1 11 2 yX12_isKeep cX12_isKeep (some .boolean) := ⟨RX12, TX12, tyX12, 43, xk_11, rfl, ⟨by decide, by decide⟩, by decide +kernel, wt_1280, wt_1282, ws_73, wt_11, wt_1283⟩
theorem vc_X12_301 : XVw RX12 301 1 11 2 yX12_whereIs cX12_whereIs (some .int) := ⟨RX12, TX12, tyX12, 43, xk_11, rfl, ⟨by decide, by decide⟩, by decide +kernel, wt_1292, wt_1294, ws_76, wt_11, wt_1295⟩
noncomputable def bs_X12_isHome : List (Nat × XB) := [
  (0, (sq (xLA 0) (sq (xLI 1) (sq (xCI 11 2 F_X12_isKeep) (tIf1 (fun x => decide (x = 0)) 21 [false, false] 8 [true, true]))))),
  (8, (sq (xLA 0) (sq (xLI 1) (sq (xCI 11 2 F_X12_whereIs) (sq (xC (.int (-1))) (tIf2 (fun x y => decide (¬ x = y)) 21 [false, false] 17 [false, false])))))),
  (17, (sq (xC (.int 1)) (tGo 22 [false, false]))),
  (21, (sq (xC (.int 0)) (tGo 22 [false, false]))),
  (22, tRZ)]
set_option maxRecDepth 100000 in
set_option maxHeartbeats 4000000 in
theorem s_X12_isHome : ∀ X : XCtx, XE X → X.2.2.1.1 = cX12_isHome → X.2.2.1.2.1 = 2 → X.2.2.1.2.2.1 = yX12_isHome.cls → X.2.2.1.2.2.2.1 = (some .boolean) → X.1.2.2.2.1 = { frames := 1, cells := 0, slots := 0, locals := 21 } → SndBs X bs_X12_isHome := by
  rintro ⟨⟨p, l, e, R, s⟩, Y, ⟨cc, nL, own, ret, Ts⟩, Z⟩ hE h1 h2 h3 h4 h5
  dsimp only at h1 h2 h3 h4 h5
  subst h1 h2 h3 h4 h5
  exact ⟨(n_sq (n_aload_n hE dX12_isHome_0) (n_sq (n_iload_n hE dX12_isHome_1) (n_sq (n_cIv hE m_X12_isKeep vc_X12_298 (show 0 + 1 ≤ 1 ∧ 8 + (2 + 11) + 0 ≤ 21 by decide) dX12_isHome_2) (n_ifeq hE (by decide) dX12_isHome_5)))),
    (n_sq (n_aload_n hE dX12_isHome_8) (n_sq (n_iload_n hE dX12_isHome_9) (n_sq (n_cIv hE m_X12_whereIs vc_X12_301 (show 0 + 1 ≤ 1 ∧ 8 + (2 + 11) + 0 ≤ 21 by decide) dX12_isHome_10) (n_sq (n_iconst hE (by decide) dX12_isHome_13) (n_ifcne hE (by decide) dX12_isHome_14))))),
    (n_sq (n_iconst hE (by decide) dX12_isHome_17) (n_goto hE (by decide) dX12_isHome_18)),
    (n_sq (n_iconst hE (by decide) dX12_isHome_21) n_fall),
    (n_zreturn hE rfl dX12_isHome_22), trivial⟩
noncomputable def F_X12_isHome (as : List XV) (w : XW) : Option (Int32 × XW) := (xF 2 bs_X12_isHome as w).bind pI
theorem m_X12_isHome : XM yX12_isHome cX12_isHome 2 (some .boolean) 1 21 (eI F_X12_isHome) := xm_I (xm_of (by decide) s_X12_isHome)
noncomputable def q_X12_isHome_0 (x1 : Int32) (w : XW) : Option XR := ev bs_X12_isHome 0 ([some (.inr (11, 0)), some (.inl (.int x1))], [], w)
noncomputable def q_X12_isHome_8 (x1 : Int32) (w : XW) : Option XR := ev bs_X12_isHome 8 ([some (.inr (11, 0)), some (.inl (.int x1))], [], w)
noncomputable def q_X12_isHome_17 (w : XW) : Option XR := ev bs_X12_isHome 17 ([none, none], [], w)
noncomputable def q_X12_isHome_21 (w : XW) : Option XR := ev bs_X12_isHome 21 ([none, none], [], w)
noncomputable def q_X12_isHome_22 (s0 : Int32) (w : XW) : Option XR := ev bs_X12_isHome 22 ([none, none], [.inl (.int s0)], w)
theorem e_X12_isHome_0 (x1 : Int32) (w : XW) : q_X12_isHome_0 x1 w = ((F_X12_isKeep [.inr (11, 0), .inl (.int x1)] w).bind fun r0 => (bif decide (r0.1 = 0) then (q_X12_isHome_21 r0.2) else (q_X12_isHome_8 x1 r0.2))) := (ev_eq _ _ _).trans rfl
theorem e_X12_isHome_8 (x1 : Int32) (w : XW) : q_X12_isHome_8 x1 w = ((F_X12_whereIs [.inr (11, 0), .inl (.int x1)] w).bind fun r0 => (bif decide (¬ r0.1 = (-1)) then (q_X12_isHome_21 r0.2) else (q_X12_isHome_17 r0.2))) := (ev_eq _ _ _).trans rfl
theorem e_X12_isHome_17 (w : XW) : q_X12_isHome_17 w = (q_X12_isHome_22 1 w) := (ev_eq _ _ _).trans rfl
theorem e_X12_isHome_21 (w : XW) : q_X12_isHome_21 w = (q_X12_isHome_22 0 w) := (ev_eq _ _ _).trans rfl
theorem e_X12_isHome_22 (s0 : Int32) (w : XW) : q_X12_isHome_22 s0 w = (if s0 = 0 ∨ s0 = 1 then some (some (.inl (.int s0)), w) else none) := (ev_eq _ _ _).trans rfl
theorem f_X12_isHome (x1 : Int32) (w : XW) : F_X12_isHome [.inr (11, 0), .inl (.int x1)] w = (q_X12_isHome_0 x1 w).bind pI := rfl

-- WinterKeepModel.isBurnt(I)Z
theorem dX12_isBurnt_0 : decode cX12_isBurnt 0 = .ok (.aload_n 0, 1) := by decide +kernel
theorem dX12_isBurnt_1 : decode cX12_isBurnt 1 = .ok (.iload_n 1, 1) := by decide +kernel
theorem dX12_isBurnt_2 : decode cX12_isBurnt 2 = .ok (.invokevirtual 301, 3) := by decide +kernel
theorem dX12_isBurnt_5 : decode cX12_isBurnt 5 = .ok (.bipush (-2), 2) := by decide +kernel
theorem dX12_isBurnt_7 : decode cX12_isBurnt 7 = .ok (.if_icmp .ne 7, 3) := by decide +kernel
theorem dX12_isBurnt_10 : decode cX12_isBurnt 10 = .ok (.iconst 1, 1) := by decide +kernel
theorem dX12_isBurnt_11 : decode cX12_isBurnt 11 = .ok (.goto 4, 3) := by decide +kernel
theorem dX12_isBurnt_14 : decode cX12_isBurnt 14 = .ok (.iconst 0, 1) := by decide +kernel
theorem dX12_isBurnt_15 : decode cX12_isBurnt 15 = .ok (.ireturn, 1) := by decide +kernel
noncomputable def bs_X12_isBurnt : List (Nat × XB) := [
  (0, (sq (xLA 0) (sq (xLI 1) (sq (xCI 11 2 F_X12_whereIs) (sq (xC (.int (-2))) (tIf2 (fun x y => decide (¬ x = y)) 14 [false, false] 10 [false, false])))))),
  (10, (sq (xC (.int 1)) (tGo 15 [false, false]))),
  (14, (sq (xC (.int 0)) (tGo 15 [false, false]))),
  (15, tRZ)]
set_option maxRecDepth 100000 in
set_option maxHeartbeats 4000000 in
theorem s_X12_isBurnt : ∀ X : XCtx, XE X → X.2.2.1.1 = cX12_isBurnt → X.2.2.1.2.1 = 2 → X.2.2.1.2.2.1 = yX12_isBurnt.cls → X.2.2.1.2.2.2.1 = (some .boolean) → X.1.2.2.2.1 = { frames := 1, cells := 0, slots := 0, locals := 21 } → SndBs X bs_X12_isBurnt := by
  rintro ⟨⟨p, l, e, R, s⟩, Y, ⟨cc, nL, own, ret, Ts⟩, Z⟩ hE h1 h2 h3 h4 h5
  dsimp only at h1 h2 h3 h4 h5
  subst h1 h2 h3 h4 h5
  exact ⟨(n_sq (n_aload_n hE dX12_isBurnt_0) (n_sq (n_iload_n hE dX12_isBurnt_1) (n_sq (n_cIv hE m_X12_whereIs vc_X12_301 (show 0 + 1 ≤ 1 ∧ 8 + (2 + 11) + 0 ≤ 21 by decide) dX12_isBurnt_2) (n_sq (n_bipush hE (by decide) dX12_isBurnt_5) (n_ifcne hE (by decide) dX12_isBurnt_7))))),
    (n_sq (n_iconst hE (by decide) dX12_isBurnt_10) (n_goto hE (by decide) dX12_isBurnt_11)),
    (n_sq (n_iconst hE (by decide) dX12_isBurnt_14) n_fall),
    (n_zreturn hE rfl dX12_isBurnt_15), trivial⟩
noncomputable def F_X12_isBurnt (as : List XV) (w : XW) : Option (Int32 × XW) := (xF 2 bs_X12_isBurnt as w).bind pI
theorem m_X12_isBurnt : XM yX12_isBurnt cX12_isBurnt 2 (some .boolean) 1 21 (eI F_X12_isBurnt) := xm_I (xm_of (by decide) s_X12_isBurnt)
noncomputable def q_X12_isBurnt_0 (x1 : Int32) (w : XW) : Option XR := ev bs_X12_isBurnt 0 ([some (.inr (11, 0)), some (.inl (.int x1))], [], w)
noncomputable def q_X12_isBurnt_10 (w : XW) : Option XR := ev bs_X12_isBurnt 10 ([none, none], [], w)
noncomputable def q_X12_isBurnt_14 (w : XW) : Option XR := ev bs_X12_isBurnt 14 ([none, none], [], w)
noncomputable def q_X12_isBurnt_15 (s0 : Int32) (w : XW) : Option XR := ev bs_X12_isBurnt 15 ([none, none], [.inl (.int s0)], w)
theorem e_X12_isBurnt_0 (x1 : Int32) (w : XW) : q_X12_isBurnt_0 x1 w = ((F_X12_whereIs [.inr (11, 0), .inl (.int x1)] w).bind fun r0 => (bif decide (¬ r0.1 = (-2)) then (q_X12_isBurnt_14 r0.2) else (q_X12_isBurnt_10 r0.2))) := (ev_eq _ _ _).trans rfl
theorem e_X12_isBurnt_10 (w : XW) : q_X12_isBurnt_10 w = (q_X12_isBurnt_15 1 w) := (ev_eq _ _ _).trans rfl
theorem e_X12_isBurnt_14 (w : XW) : q_X12_isBurnt_14 w = (q_X12_isBurnt_15 0 w) := (ev_eq _ _ _).trans rfl
theorem e_X12_isBurnt_15 (s0 : Int32) (w : XW) : q_X12_isBurnt_15 s0 w = (if s0 = 0 ∨ s0 = 1 then some (some (.inl (.int s0)), w) else none) := (ev_eq _ _ _).trans rfl
theorem f_X12_isBurnt (x1 : Int32) (w : XW) : F_X12_isBurnt [.inr (11, 0), .inl (.int x1)] w = (q_X12_isBurnt_0 x1 w).bind pI := rfl

-- WinterKeepModel.onesThat(I)I
theorem dX12_onesThat_0 : decode cX12_onesThat 0 = .ok (.iconst 0, 1) := by decide +kernel
theorem dX12_onesThat_1 : decode cX12_onesThat 1 = .ok (.istore_n 2, 1) := by decide +kernel
theorem dX12_onesThat_2 : decode cX12_onesThat 2 = .ok (.iconst 0, 1) := by decide +kernel
theorem dX12_onesThat_3 : decode cX12_onesThat 3 = .ok (.istore_n 3, 1) := by decide +kernel
theorem dX12_onesThat_4 : decode cX12_onesThat 4 = .ok (.iload_n 3, 1) := by decide +kernel
theorem dX12_onesThat_5 : decode cX12_onesThat 5 = .ok (.aload_n 0, 1) := by decide +kernel
theorem dX12_onesThat_6 : decode cX12_onesThat 6 = .ok (.getfield 39, 3) := by decide +kernel
theorem dX12_onesThat_9 : decode cX12_onesThat 9 = .ok (.iconst 3, 1) := by decide +kernel
theorem dX12_onesThat_10 : decode cX12_onesThat 10 = .ok (.iaload, 1) := by decide +kernel
theorem dX12_onesThat_11 : decode cX12_onesThat 11 = .ok (.if_icmp .ge 28, 3) := by decide +kernel
theorem dX12_onesThat_14 : decode cX12_onesThat 14 = .ok (.iload_n 2, 1) := by decide +kernel
theorem dX12_onesThat_15 : decode cX12_onesThat 15 = .ok (.aload_n 0, 1) := by decide +kernel
theorem dX12_onesThat_16 : decode cX12_onesThat 16 = .ok (.iload_n 3, 1) := by decide +kernel
theorem dX12_onesThat_17 : decode cX12_onesThat 17 = .ok (.invokevirtual 301, 3) := by decide +kernel
theorem dX12_onesThat_20 : decode cX12_onesThat 20 = .ok (.iload_n 1, 1) := by decide +kernel
theorem dX12_onesThat_21 : decode cX12_onesThat 21 = .ok (.if_icmp .ne 9, 3) := by decide +kernel
theorem dX12_onesThat_24 : decode cX12_onesThat 24 = .ok (.iconst 1, 1) := by decide +kernel
theorem dX12_onesThat_25 : decode cX12_onesThat 25 = .ok (.iload_n 3, 1) := by decide +kernel
theorem dX12_onesThat_26 : decode cX12_onesThat 26 = .ok (.ishl, 1) := by decide +kernel
theorem dX12_onesThat_27 : decode cX12_onesThat 27 = .ok (.goto 4, 3) := by decide +kernel
theorem dX12_onesThat_30 : decode cX12_onesThat 30 = .ok (.iconst 0, 1) := by decide +kernel
theorem dX12_onesThat_31 : decode cX12_onesThat 31 = .ok (.ior, 1) := by decide +kernel
theorem dX12_onesThat_32 : decode cX12_onesThat 32 = .ok (.istore_n 2, 1) := by decide +kernel
theorem dX12_onesThat_33 : decode cX12_onesThat 33 = .ok (.iinc 3 1, 3) := by decide +kernel
theorem dX12_onesThat_36 : decode cX12_onesThat 36 = .ok (.goto (-32), 3) := by decide +kernel
theorem dX12_onesThat_39 : decode cX12_onesThat 39 = .ok (.iload_n 2, 1) := by decide +kernel
theorem dX12_onesThat_40 : decode cX12_onesThat 40 = .ok (.ireturn, 1) := by decide +kernel
noncomputable def bs_X12_onesThat : List (Nat × XB) := [
  (0, (sq (xC (.int 0)) (sq (xSI 2) (sq (xC (.int 0)) (sq (xSI 3) (tGo 4 [true, true, true, true])))))),
  (4, (sq (xLI 3) (sq (xLA 0) (sq (xGS 11 50 1 0) (sq (xC (.int 3)) (sq (xAI 50 98) (tIf2 (fun x y => decide (y ≤ x)) 39 [false, false, true, false] 14 [true, true, true, true]))))))),
  (14, (sq (xLI 2) (sq (xLA 0) (sq (xLI 3) (sq (xCI 11 2 F_X12_whereIs) (sq (xLI 1) (tIf2 (fun x y => decide (¬ x = y)) 30 [true, true, false, true] 24 [true, true, false, true]))))))),
  (24, (sq (xC (.int 1)) (sq (xLI 3) (sq (xI2 (fun x y => x <<< (y &&& 31))) (tGo 31 [true, true, false, true]))))),
  (30, (sq (xC (.int 0)) (tGo 31 [true, true, false, true]))),
  (31, (sq (xI2 (· ||| ·)) (sq (xSI 2) (sq (xInc 3 1) (tGo 4 [true, true, true, true]))))),
  (39, (sq (xLI 2) tRI))]
set_option maxRecDepth 100000 in
set_option maxHeartbeats 4000000 in
theorem s_X12_onesThat : ∀ X : XCtx, XE X → X.2.2.1.1 = cX12_onesThat → X.2.2.1.2.1 = 4 → X.2.2.1.2.2.1 = yX12_onesThat.cls → X.2.2.1.2.2.2.1 = (some .int) → X.1.2.2.2.1 = { frames := 1, cells := 0, slots := 0, locals := 21 } → SndBs X bs_X12_onesThat := by
  rintro ⟨⟨p, l, e, R, s⟩, Y, ⟨cc, nL, own, ret, Ts⟩, Z⟩ hE h1 h2 h3 h4 h5
  dsimp only at h1 h2 h3 h4 h5
  subst h1 h2 h3 h4 h5
  exact ⟨(n_sq (n_iconst hE (by decide) dX12_onesThat_0) (n_sq (n_istore_n hE (show (2 : Nat) < 4 by decide) dX12_onesThat_1) (n_sq (n_iconst hE (by decide) dX12_onesThat_2) (n_sq (n_istore_n hE (show (3 : Nat) < 4 by decide) dX12_onesThat_3) n_fall)))),
    (n_sq (n_iload_n hE dX12_onesThat_4) (n_sq (n_aload_n hE dX12_onesThat_5) (n_sq (n_getS hE xk_11 (k := 20) rfl (by decide) rfl wt_980 dX12_onesThat_6) (n_sq (n_iconst hE (by decide) dX12_onesThat_9) (n_sq (n_iald hE rfl (by decide) dX12_onesThat_10) (n_ifcge hE (by decide) dX12_onesThat_11)))))),
    (n_sq (n_iload_n hE dX12_onesThat_14) (n_sq (n_aload_n hE dX12_onesThat_15) (n_sq (n_iload_n hE dX12_onesThat_16) (n_sq (n_cIv hE m_X12_whereIs vc_X12_301 (show 0 + 1 ≤ 1 ∧ 8 + (2 + 11) + 0 ≤ 21 by decide) dX12_onesThat_17) (n_sq (n_iload_n hE dX12_onesThat_20) (n_ifcne hE (by decide) dX12_onesThat_21)))))),
    (n_sq (n_iconst hE (by decide) dX12_onesThat_24) (n_sq (n_iload_n hE dX12_onesThat_25) (n_sq (n_ishl hE dX12_onesThat_26) (n_goto hE (by decide) dX12_onesThat_27)))),
    (n_sq (n_iconst hE (by decide) dX12_onesThat_30) n_fall),
    (n_sq (n_ior hE dX12_onesThat_31) (n_sq (n_istore_n hE (show (2 : Nat) < 4 by decide) dX12_onesThat_32) (n_sq (n_iinc hE (by decide) (show (3 : Nat) < 4 by decide) dX12_onesThat_33) (n_goto hE (by decide) dX12_onesThat_36)))),
    (n_sq (n_iload_n hE dX12_onesThat_39) (n_ireturn hE rfl dX12_onesThat_40)), trivial⟩
noncomputable def F_X12_onesThat (as : List XV) (w : XW) : Option (Int32 × XW) := (xF 4 bs_X12_onesThat as w).bind pI
theorem m_X12_onesThat : XM yX12_onesThat cX12_onesThat 4 (some .int) 1 21 (eI F_X12_onesThat) := xm_I (xm_of (by decide) s_X12_onesThat)
noncomputable def q_X12_onesThat_0 (x1 : Int32) (w : XW) : Option XR := ev bs_X12_onesThat 0 ([some (.inr (11, 0)), some (.inl (.int x1)), none, none], [], w)
noncomputable def q_X12_onesThat_4 (x1 : Int32) (x2 : Int32) (x3 : Int32) (w : XW) : Option XR := ev bs_X12_onesThat 4 ([some (.inr (11, 0)), some (.inl (.int x1)), some (.inl (.int x2)), some (.inl (.int x3))], [], w)
noncomputable def q_X12_onesThat_14 (x1 : Int32) (x2 : Int32) (x3 : Int32) (w : XW) : Option XR := ev bs_X12_onesThat 14 ([some (.inr (11, 0)), some (.inl (.int x1)), some (.inl (.int x2)), some (.inl (.int x3))], [], w)
noncomputable def q_X12_onesThat_24 (x1 : Int32) (x3 : Int32) (s0 : Int32) (w : XW) : Option XR := ev bs_X12_onesThat 24 ([some (.inr (11, 0)), some (.inl (.int x1)), none, some (.inl (.int x3))], [.inl (.int s0)], w)
noncomputable def q_X12_onesThat_30 (x1 : Int32) (x3 : Int32) (s0 : Int32) (w : XW) : Option XR := ev bs_X12_onesThat 30 ([some (.inr (11, 0)), some (.inl (.int x1)), none, some (.inl (.int x3))], [.inl (.int s0)], w)
noncomputable def q_X12_onesThat_31 (x1 : Int32) (x3 : Int32) (s0 : Int32) (s1 : Int32) (w : XW) : Option XR := ev bs_X12_onesThat 31 ([some (.inr (11, 0)), some (.inl (.int x1)), none, some (.inl (.int x3))], [.inl (.int s1), .inl (.int s0)], w)
noncomputable def q_X12_onesThat_39 (x2 : Int32) (w : XW) : Option XR := ev bs_X12_onesThat 39 ([none, none, some (.inl (.int x2)), none], [], w)
theorem e_X12_onesThat_0 (x1 : Int32) (w : XW) : q_X12_onesThat_0 x1 w = (q_X12_onesThat_4 x1 0 0 w) := (ev_eq _ _ _).trans rfl
theorem e_X12_onesThat_4 (x1 : Int32) (x2 : Int32) (x3 : Int32) (w : XW) : q_X12_onesThat_4 x1 x2 x3 w = (bif decide ((gI w 50 0 3) ≤ x3) then (q_X12_onesThat_39 x2 w) else (q_X12_onesThat_14 x1 x2 x3 w)) := (ev_eq _ _ _).trans rfl
theorem e_X12_onesThat_14 (x1 : Int32) (x2 : Int32) (x3 : Int32) (w : XW) : q_X12_onesThat_14 x1 x2 x3 w = ((F_X12_whereIs [.inr (11, 0), .inl (.int x3)] w).bind fun r0 => (bif decide (¬ r0.1 = x1) then (q_X12_onesThat_30 x1 x3 x2 r0.2) else (q_X12_onesThat_24 x1 x3 x2 r0.2))) := (ev_eq _ _ _).trans rfl
theorem e_X12_onesThat_24 (x1 : Int32) (x3 : Int32) (s0 : Int32) (w : XW) : q_X12_onesThat_24 x1 x3 s0 w = (q_X12_onesThat_31 x1 x3 s0 ((1 : Int32) <<< ((x3 : Int32) &&& 31)) w) := (ev_eq _ _ _).trans rfl
theorem e_X12_onesThat_30 (x1 : Int32) (x3 : Int32) (s0 : Int32) (w : XW) : q_X12_onesThat_30 x1 x3 s0 w = (q_X12_onesThat_31 x1 x3 s0 0 w) := (ev_eq _ _ _).trans rfl
theorem e_X12_onesThat_31 (x1 : Int32) (x3 : Int32) (s0 : Int32) (s1 : Int32) (w : XW) : q_X12_onesThat_31 x1 x3 s0 s1 w = (q_X12_onesThat_4 x1 (s0 ||| s1) (x3 + 1) w) := (ev_eq _ _ _).trans rfl
theorem e_X12_onesThat_39 (x2 : Int32) (w : XW) : q_X12_onesThat_39 x2 w = (some (some (.inl (.int x2)), w)) := (ev_eq _ _ _).trans rfl
theorem f_X12_onesThat (x1 : Int32) (w : XW) : F_X12_onesThat [.inr (11, 0), .inl (.int x1)] w = (q_X12_onesThat_0 x1 w).bind pI := rfl

-- WinterKeepModel.fullAll()I
theorem dX12_fullAll_0 : decode cX12_fullAll 0 = .ok (.iconst 0, 1) := by decide +kernel
theorem dX12_fullAll_1 : decode cX12_fullAll 1 = .ok (.istore_n 1, 1) := by decide +kernel
theorem dX12_fullAll_2 : decode cX12_fullAll 2 = .ok (.iconst 0, 1) := by decide +kernel
theorem dX12_fullAll_3 : decode cX12_fullAll 3 = .ok (.istore_n 2, 1) := by decide +kernel
theorem dX12_fullAll_4 : decode cX12_fullAll 4 = .ok (.iload_n 2, 1) := by decide +kernel
theorem dX12_fullAll_5 : decode cX12_fullAll 5 = .ok (.aload_n 0, 1) := by decide +kernel
theorem dX12_fullAll_6 : decode cX12_fullAll 6 = .ok (.getfield 39, 3) := by decide +kernel
theorem dX12_fullAll_9 : decode cX12_fullAll 9 = .ok (.iconst 3, 1) := by decide +kernel
theorem dX12_fullAll_10 : decode cX12_fullAll 10 = .ok (.iaload, 1) := by decide +kernel
theorem dX12_fullAll_11 : decode cX12_fullAll 11 = .ok (.if_icmp .ge 17, 3) := by decide +kernel
theorem dX12_fullAll_14 : decode cX12_fullAll 14 = .ok (.iload_n 1, 1) := by decide +kernel
theorem dX12_fullAll_15 : decode cX12_fullAll 15 = .ok (.aload_n 0, 1) := by decide +kernel
theorem dX12_fullAll_16 : decode cX12_fullAll 16 = .ok (.iload_n 2, 1) := by decide +kernel
theorem dX12_fullAll_17 : decode cX12_fullAll 17 = .ok (.invokevirtual 304, 3) := by decide +kernel
theorem dX12_fullAll_20 : decode cX12_fullAll 20 = .ok (.iadd, 1) := by decide +kernel
theorem dX12_fullAll_21 : decode cX12_fullAll 21 = .ok (.istore_n 1, 1) := by decide +kernel
theorem dX12_fullAll_22 : decode cX12_fullAll 22 = .ok (.iinc 2 1, 3) := by decide +kernel
theorem dX12_fullAll_25 : decode cX12_fullAll 25 = .ok (.goto (-21), 3) := by decide +kernel
theorem dX12_fullAll_28 : decode cX12_fullAll 28 = .ok (.iload_n 1, 1) := by decide +kernel
theorem dX12_fullAll_29 : decode cX12_fullAll 29 = .ok (.ireturn, 1) := by decide +kernel
theorem vc_X12_304 : XVw RX12 304 1 11 2 yX12_fullOf cX12_fullOf (some .int) := ⟨RX12, TX12, tyX12, 43, xk_11, rfl, ⟨by decide, by decide⟩, by decide +kernel, wt_1284, wt_1286, ws_74, wt_11, wt_1287⟩
noncomputable def bs_X12_fullAll : List (Nat × XB) := [
  (0, (sq (xC (.int 0)) (sq (xSI 1) (sq (xC (.int 0)) (sq (xSI 2) (tGo 4 [true, true, true])))))),
  (4, (sq (xLI 2) (sq (xLA 0) (sq (xGS 11 50 1 0) (sq (xC (.int 3)) (sq (xAI 50 98) (tIf2 (fun x y => decide (y ≤ x)) 28 [false, true, false] 14 [true, true, true]))))))),
  (14, (sq (xLI 1) (sq (xLA 0) (sq (xLI 2) (sq (xCI 11 2 F_X12_fullOf) (sq (xI2 (· + ·)) (sq (xSI 1) (sq (xInc 2 1) (tGo 4 [true, true, true]))))))))),
  (28, (sq (xLI 1) tRI))]
set_option maxRecDepth 100000 in
set_option maxHeartbeats 4000000 in
theorem s_X12_fullAll : ∀ X : XCtx, XE X → X.2.2.1.1 = cX12_fullAll → X.2.2.1.2.1 = 3 → X.2.2.1.2.2.1 = yX12_fullAll.cls → X.2.2.1.2.2.2.1 = (some .int) → X.1.2.2.2.1 = { frames := 1, cells := 0, slots := 0, locals := 21 } → SndBs X bs_X12_fullAll := by
  rintro ⟨⟨p, l, e, R, s⟩, Y, ⟨cc, nL, own, ret, Ts⟩, Z⟩ hE h1 h2 h3 h4 h5
  dsimp only at h1 h2 h3 h4 h5
  subst h1 h2 h3 h4 h5
  exact ⟨(n_sq (n_iconst hE (by decide) dX12_fullAll_0) (n_sq (n_istore_n hE (show (1 : Nat) < 3 by decide) dX12_fullAll_1) (n_sq (n_iconst hE (by decide) dX12_fullAll_2) (n_sq (n_istore_n hE (show (2 : Nat) < 3 by decide) dX12_fullAll_3) n_fall)))),
    (n_sq (n_iload_n hE dX12_fullAll_4) (n_sq (n_aload_n hE dX12_fullAll_5) (n_sq (n_getS hE xk_11 (k := 20) rfl (by decide) rfl wt_980 dX12_fullAll_6) (n_sq (n_iconst hE (by decide) dX12_fullAll_9) (n_sq (n_iald hE rfl (by decide) dX12_fullAll_10) (n_ifcge hE (by decide) dX12_fullAll_11)))))),
    (n_sq (n_iload_n hE dX12_fullAll_14) (n_sq (n_aload_n hE dX12_fullAll_15) (n_sq (n_iload_n hE dX12_fullAll_16) (n_sq (n_cIv hE m_X12_fullOf vc_X12_304 (show 0 + 1 ≤ 1 ∧ 8 + (2 + 11) + 0 ≤ 21 by decide) dX12_fullAll_17) (n_sq (n_iadd hE dX12_fullAll_20) (n_sq (n_istore_n hE (show (1 : Nat) < 3 by decide) dX12_fullAll_21) (n_sq (n_iinc hE (by decide) (show (2 : Nat) < 3 by decide) dX12_fullAll_22) (n_goto hE (by decide) dX12_fullAll_25)))))))),
    (n_sq (n_iload_n hE dX12_fullAll_28) (n_ireturn hE rfl dX12_fullAll_29)), trivial⟩
noncomputable def F_X12_fullAll (as : List XV) (w : XW) : Option (Int32 × XW) := (xF 3 bs_X12_fullAll as w).bind pI
theorem m_X12_fullAll : XM yX12_fullAll cX12_fullAll 3 (some .int) 1 21 (eI F_X12_fullAll) := xm_I (xm_of (by decide) s_X12_fullAll)
noncomputable def q_X12_fullAll_0 (w : XW) : Option XR := ev bs_X12_fullAll 0 ([some (.inr (11, 0)), none, none], [], w)
noncomputable def q_X12_fullAll_4 (x1 : Int32) (x2 : Int32) (w : XW) : Option XR := ev bs_X12_fullAll 4 ([some (.inr (11, 0)), some (.inl (.int x1)), some (.inl (.int x2))], [], w)
noncomputable def q_X12_fullAll_14 (x1 : Int32) (x2 : Int32) (w : XW) : Option XR := ev bs_X12_fullAll 14 ([some (.inr (11, 0)), some (.inl (.int x1)), some (.inl (.int x2))], [], w)
noncomputable def q_X12_fullAll_28 (x1 : Int32) (w : XW) : Option XR := ev bs_X12_fullAll 28 ([none, some (.inl (.int x1)), none], [], w)
theorem e_X12_fullAll_0 (w : XW) : q_X12_fullAll_0 w = (q_X12_fullAll_4 0 0 w) := (ev_eq _ _ _).trans rfl
theorem e_X12_fullAll_4 (x1 : Int32) (x2 : Int32) (w : XW) : q_X12_fullAll_4 x1 x2 w = (bif decide ((gI w 50 0 3) ≤ x2) then (q_X12_fullAll_28 x1 w) else (q_X12_fullAll_14 x1 x2 w)) := (ev_eq _ _ _).trans rfl
theorem e_X12_fullAll_14 (x1 : Int32) (x2 : Int32) (w : XW) : q_X12_fullAll_14 x1 x2 w = ((F_X12_fullOf [.inr (11, 0), .inl (.int x2)] w).bind fun r0 => (q_X12_fullAll_4 (x1 + r0.1) (x2 + 1) r0.2)) := (ev_eq _ _ _).trans rfl
theorem e_X12_fullAll_28 (x1 : Int32) (w : XW) : q_X12_fullAll_28 x1 w = (some (some (.inl (.int x1)), w)) := (ev_eq _ _ _).trans rfl
theorem f_X12_fullAll (w : XW) : F_X12_fullAll [.inr (11, 0)] w = (q_X12_fullAll_0 w).bind pI := rfl

-- WinterKeepModel.keepIn(I)I
theorem dX12_keepIn_0 : decode cX12_keepIn 0 = .ok (.iconst 0, 1) := by decide +kernel
theorem dX12_keepIn_1 : decode cX12_keepIn 1 = .ok (.istore_n 2, 1) := by decide +kernel
theorem dX12_keepIn_2 : decode cX12_keepIn 2 = .ok (.iload_n 2, 1) := by decide +kernel
theorem dX12_keepIn_3 : decode cX12_keepIn 3 = .ok (.aload_n 0, 1) := by decide +kernel
theorem dX12_keepIn_4 : decode cX12_keepIn 4 = .ok (.getfield 39, 3) := by decide +kernel
theorem dX12_keepIn_7 : decode cX12_keepIn 7 = .ok (.iconst 3, 1) := by decide +kernel
theorem dX12_keepIn_8 : decode cX12_keepIn 8 = .ok (.iaload, 1) := by decide +kernel
theorem dX12_keepIn_9 : decode cX12_keepIn 9 = .ok (.if_icmp .ge 20, 3) := by decide +kernel
theorem dX12_keepIn_12 : decode cX12_keepIn 12 = .ok (.aload_n 0, 1) := by decide +kernel
theorem dX12_keepIn_13 : decode cX12_keepIn 13 = .ok (.iload_n 2, 1) := by decide +kernel
theorem dX12_keepIn_14 : decode cX12_keepIn 14 = .ok (.invokevirtual 301, 3) := by decide +kernel
theorem dX12_keepIn_17 : decode cX12_keepIn 17 = .ok (.iload_n 1, 1) := by decide +kernel
theorem dX12_keepIn_18 : decode cX12_keepIn 18 = .ok (.if_icmp .ne 5, 3) := by decide +kernel
theorem dX12_keepIn_21 : decode cX12_keepIn 21 = .ok (.iload_n 2, 1) := by decide +kernel
theorem dX12_keepIn_22 : decode cX12_keepIn 22 = .ok (.ireturn, 1) := by decide +kernel
theorem dX12_keepIn_23 : decode cX12_keepIn 23 = .ok (.iinc 2 1, 3) := by decide +kernel
theorem dX12_keepIn_26 : decode cX12_keepIn 26 = .ok (.goto (-24), 3) := by decide +kernel
theorem dX12_keepIn_29 : decode cX12_keepIn 29 = .ok (.iconst (-1), 1) := by decide +kernel
theorem dX12_keepIn_30 : decode cX12_keepIn 30 = .ok (.ireturn, 1) := by decide +kernel
noncomputable def bs_X12_keepIn : List (Nat × XB) := [
  (0, (sq (xC (.int 0)) (sq (xSI 2) (tGo 2 [true, true, true])))),
  (2, (sq (xLI 2) (sq (xLA 0) (sq (xGS 11 50 1 0) (sq (xC (.int 3)) (sq (xAI 50 98) (tIf2 (fun x y => decide (y ≤ x)) 29 [false, false, false] 12 [true, true, true]))))))),
  (12, (sq (xLA 0) (sq (xLI 2) (sq (xCI 11 2 F_X12_whereIs) (sq (xLI 1) (tIf2 (fun x y => decide (¬ x = y)) 23 [true, true, true] 21 [false, false, true])))))),
  (21, (sq (xLI 2) tRI)),
  (23, (sq (xInc 2 1) (tGo 2 [true, true, true]))),
  (29, (sq (xC (.int (-1))) tRI))]
set_option maxRecDepth 100000 in
set_option maxHeartbeats 4000000 in
theorem s_X12_keepIn : ∀ X : XCtx, XE X → X.2.2.1.1 = cX12_keepIn → X.2.2.1.2.1 = 3 → X.2.2.1.2.2.1 = yX12_keepIn.cls → X.2.2.1.2.2.2.1 = (some .int) → X.1.2.2.2.1 = { frames := 1, cells := 0, slots := 0, locals := 21 } → SndBs X bs_X12_keepIn := by
  rintro ⟨⟨p, l, e, R, s⟩, Y, ⟨cc, nL, own, ret, Ts⟩, Z⟩ hE h1 h2 h3 h4 h5
  dsimp only at h1 h2 h3 h4 h5
  subst h1 h2 h3 h4 h5
  exact ⟨(n_sq (n_iconst hE (by decide) dX12_keepIn_0) (n_sq (n_istore_n hE (show (2 : Nat) < 3 by decide) dX12_keepIn_1) n_fall)),
    (n_sq (n_iload_n hE dX12_keepIn_2) (n_sq (n_aload_n hE dX12_keepIn_3) (n_sq (n_getS hE xk_11 (k := 20) rfl (by decide) rfl wt_980 dX12_keepIn_4) (n_sq (n_iconst hE (by decide) dX12_keepIn_7) (n_sq (n_iald hE rfl (by decide) dX12_keepIn_8) (n_ifcge hE (by decide) dX12_keepIn_9)))))),
    (n_sq (n_aload_n hE dX12_keepIn_12) (n_sq (n_iload_n hE dX12_keepIn_13) (n_sq (n_cIv hE m_X12_whereIs vc_X12_301 (show 0 + 1 ≤ 1 ∧ 8 + (2 + 11) + 0 ≤ 21 by decide) dX12_keepIn_14) (n_sq (n_iload_n hE dX12_keepIn_17) (n_ifcne hE (by decide) dX12_keepIn_18))))),
    (n_sq (n_iload_n hE dX12_keepIn_21) (n_ireturn hE rfl dX12_keepIn_22)),
    (n_sq (n_iinc hE (by decide) (show (2 : Nat) < 3 by decide) dX12_keepIn_23) (n_goto hE (by decide) dX12_keepIn_26)),
    (n_sq (n_iconst hE (by decide) dX12_keepIn_29) (n_ireturn hE rfl dX12_keepIn_30)), trivial⟩
noncomputable def F_X12_keepIn (as : List XV) (w : XW) : Option (Int32 × XW) := (xF 3 bs_X12_keepIn as w).bind pI
theorem m_X12_keepIn : XM yX12_keepIn cX12_keepIn 3 (some .int) 1 21 (eI F_X12_keepIn) := xm_I (xm_of (by decide) s_X12_keepIn)
noncomputable def q_X12_keepIn_0 (x1 : Int32) (w : XW) : Option XR := ev bs_X12_keepIn 0 ([some (.inr (11, 0)), some (.inl (.int x1)), none], [], w)
noncomputable def q_X12_keepIn_2 (x1 : Int32) (x2 : Int32) (w : XW) : Option XR := ev bs_X12_keepIn 2 ([some (.inr (11, 0)), some (.inl (.int x1)), some (.inl (.int x2))], [], w)
noncomputable def q_X12_keepIn_12 (x1 : Int32) (x2 : Int32) (w : XW) : Option XR := ev bs_X12_keepIn 12 ([some (.inr (11, 0)), some (.inl (.int x1)), some (.inl (.int x2))], [], w)
noncomputable def q_X12_keepIn_21 (x2 : Int32) (w : XW) : Option XR := ev bs_X12_keepIn 21 ([none, none, some (.inl (.int x2))], [], w)
noncomputable def q_X12_keepIn_23 (x1 : Int32) (x2 : Int32) (w : XW) : Option XR := ev bs_X12_keepIn 23 ([some (.inr (11, 0)), some (.inl (.int x1)), some (.inl (.int x2))], [], w)
noncomputable def q_X12_keepIn_29 (w : XW) : Option XR := ev bs_X12_keepIn 29 ([none, none, none], [], w)
theorem e_X12_keepIn_0 (x1 : Int32) (w : XW) : q_X12_keepIn_0 x1 w = (q_X12_keepIn_2 x1 0 w) := (ev_eq _ _ _).trans rfl
theorem e_X12_keepIn_2 (x1 : Int32) (x2 : Int32) (w : XW) : q_X12_keepIn_2 x1 x2 w = (bif decide ((gI w 50 0 3) ≤ x2) then (q_X12_keepIn_29 w) else (q_X12_keepIn_12 x1 x2 w)) := (ev_eq _ _ _).trans rfl
theorem e_X12_keepIn_12 (x1 : Int32) (x2 : Int32) (w : XW) : q_X12_keepIn_12 x1 x2 w = ((F_X12_whereIs [.inr (11, 0), .inl (.int x2)] w).bind fun r0 => (bif decide (¬ r0.1 = x1) then (q_X12_keepIn_23 x1 x2 r0.2) else (q_X12_keepIn_21 x2 r0.2))) := (ev_eq _ _ _).trans rfl
theorem e_X12_keepIn_21 (x2 : Int32) (w : XW) : q_X12_keepIn_21 x2 w = (some (some (.inl (.int x2)), w)) := (ev_eq _ _ _).trans rfl
theorem e_X12_keepIn_23 (x1 : Int32) (x2 : Int32) (w : XW) : q_X12_keepIn_23 x1 x2 w = (q_X12_keepIn_2 x1 (x2 + 1) w) := (ev_eq _ _ _).trans rfl
theorem e_X12_keepIn_29 (w : XW) : q_X12_keepIn_29 w = (some (some (.inl (.int (-1))), w)) := (ev_eq _ _ _).trans rfl
theorem f_X12_keepIn (x1 : Int32) (w : XW) : F_X12_keepIn [.inr (11, 0), .inl (.int x1)] w = (q_X12_keepIn_0 x1 w).bind pI := rfl

-- WinterKeepModel.keptOffBy(II)I
theorem dX12_keptOffBy_0 : decode cX12_keptOffBy 0 = .ok (.aload_n 0, 1) := by decide +kernel
theorem dX12_keptOffBy_1 : decode cX12_keptOffBy 1 = .ok (.iload_n 1, 1) := by decide +kernel
theorem dX12_keptOffBy_2 : decode cX12_keptOffBy 2 = .ok (.invokevirtual 304, 3) := by decide +kernel
theorem dX12_keptOffBy_5 : decode cX12_keptOffBy 5 = .ok (.aload_n 0, 1) := by decide +kernel
theorem dX12_keptOffBy_6 : decode cX12_keptOffBy 6 = .ok (.getfield 39, 3) := by decide +kernel
theorem dX12_keptOffBy_9 : decode cX12_keptOffBy 9 = .ok (.bipush 57, 2) := by decide +kernel
theorem dX12_keptOffBy_11 : decode cX12_keptOffBy 11 = .ok (.iload_n 2, 1) := by decide +kernel
theorem dX12_keptOffBy_12 : decode cX12_keptOffBy 12 = .ok (.iadd, 1) := by decide +kernel
theorem dX12_keptOffBy_13 : decode cX12_keptOffBy 13 = .ok (.iaload, 1) := by decide +kernel
theorem dX12_keptOffBy_14 : decode cX12_keptOffBy 14 = .ok (.if_icmp .ge 11, 3) := by decide +kernel
theorem dX12_keptOffBy_17 : decode cX12_keptOffBy 17 = .ok (.aload_n 0, 1) := by decide +kernel
theorem dX12_keptOffBy_18 : decode cX12_keptOffBy 18 = .ok (.iload_n 1, 1) := by decide +kernel
theorem dX12_keptOffBy_19 : decode cX12_keptOffBy 19 = .ok (.invokevirtual 304, 3) := by decide +kernel
theorem dX12_keptOffBy_22 : decode cX12_keptOffBy 22 = .ok (.goto 12, 3) := by decide +kernel
theorem dX12_keptOffBy_25 : decode cX12_keptOffBy 25 = .ok (.aload_n 0, 1) := by decide +kernel
theorem dX12_keptOffBy_26 : decode cX12_keptOffBy 26 = .ok (.getfield 39, 3) := by decide +kernel
theorem dX12_keptOffBy_29 : decode cX12_keptOffBy 29 = .ok (.bipush 57, 2) := by decide +kernel
theorem dX12_keptOffBy_31 : decode cX12_keptOffBy 31 = .ok (.iload_n 2, 1) := by decide +kernel
theorem dX12_keptOffBy_32 : decode cX12_keptOffBy 32 = .ok (.iadd, 1) := by decide +kernel
theorem dX12_keptOffBy_33 : decode cX12_keptOffBy 33 = .ok (.iaload, 1) := by decide +kernel
theorem dX12_keptOffBy_34 : decode cX12_keptOffBy 34 = .ok (.ireturn, 1) := by decide +kernel
noncomputable def bs_X12_keptOffBy : List (Nat × XB) := [
  (0, (sq (xLA 0) (sq (xLI 1) (sq (xCI 11 2 F_X12_fullOf) (sq (xLA 0) (sq (xGS 11 50 1 0) (sq (xC (.int 57)) (sq (xLI 2) (sq (xI2 (· + ·)) (sq (xAI 50 98) (tIf2 (fun x y => decide (y ≤ x)) 25 [true, false, true] 17 [true, true, false]))))))))))),
  (17, (sq (xLA 0) (sq (xLI 1) (sq (xCI 11 2 F_X12_fullOf) (tGo 34 [false, false, false]))))),
  (25, (sq (xLA 0) (sq (xGS 11 50 1 0) (sq (xC (.int 57)) (sq (xLI 2) (sq (xI2 (· + ·)) (sq (xAI 50 98) (tGo 34 [false, false, false])))))))),
  (34, tRI)]
set_option maxRecDepth 100000 in
set_option maxHeartbeats 4000000 in
theorem s_X12_keptOffBy : ∀ X : XCtx, XE X → X.2.2.1.1 = cX12_keptOffBy → X.2.2.1.2.1 = 3 → X.2.2.1.2.2.1 = yX12_keptOffBy.cls → X.2.2.1.2.2.2.1 = (some .int) → X.1.2.2.2.1 = { frames := 1, cells := 0, slots := 0, locals := 21 } → SndBs X bs_X12_keptOffBy := by
  rintro ⟨⟨p, l, e, R, s⟩, Y, ⟨cc, nL, own, ret, Ts⟩, Z⟩ hE h1 h2 h3 h4 h5
  dsimp only at h1 h2 h3 h4 h5
  subst h1 h2 h3 h4 h5
  exact ⟨(n_sq (n_aload_n hE dX12_keptOffBy_0) (n_sq (n_iload_n hE dX12_keptOffBy_1) (n_sq (n_cIv hE m_X12_fullOf vc_X12_304 (show 0 + 1 ≤ 1 ∧ 8 + (2 + 11) + 0 ≤ 21 by decide) dX12_keptOffBy_2) (n_sq (n_aload_n hE dX12_keptOffBy_5) (n_sq (n_getS hE xk_11 (k := 20) rfl (by decide) rfl wt_980 dX12_keptOffBy_6) (n_sq (n_bipush hE (by decide) dX12_keptOffBy_9) (n_sq (n_iload_n hE dX12_keptOffBy_11) (n_sq (n_iadd hE dX12_keptOffBy_12) (n_sq (n_iald hE rfl (by decide) dX12_keptOffBy_13) (n_ifcge hE (by decide) dX12_keptOffBy_14)))))))))),
    (n_sq (n_aload_n hE dX12_keptOffBy_17) (n_sq (n_iload_n hE dX12_keptOffBy_18) (n_sq (n_cIv hE m_X12_fullOf vc_X12_304 (show 0 + 1 ≤ 1 ∧ 8 + (2 + 11) + 0 ≤ 21 by decide) dX12_keptOffBy_19) (n_goto hE (by decide) dX12_keptOffBy_22)))),
    (n_sq (n_aload_n hE dX12_keptOffBy_25) (n_sq (n_getS hE xk_11 (k := 20) rfl (by decide) rfl wt_980 dX12_keptOffBy_26) (n_sq (n_bipush hE (by decide) dX12_keptOffBy_29) (n_sq (n_iload_n hE dX12_keptOffBy_31) (n_sq (n_iadd hE dX12_keptOffBy_32) (n_sq (n_iald hE rfl (by decide) dX12_keptOffBy_33) n_fall)))))),
    (n_ireturn hE rfl dX12_keptOffBy_34), trivial⟩
noncomputable def F_X12_keptOffBy (as : List XV) (w : XW) : Option (Int32 × XW) := (xF 3 bs_X12_keptOffBy as w).bind pI
theorem m_X12_keptOffBy : XM yX12_keptOffBy cX12_keptOffBy 3 (some .int) 1 21 (eI F_X12_keptOffBy) := xm_I (xm_of (by decide) s_X12_keptOffBy)
noncomputable def q_X12_keptOffBy_0 (x1 : Int32) (x2 : Int32) (w : XW) : Option XR := ev bs_X12_keptOffBy 0 ([some (.inr (11, 0)), some (.inl (.int x1)), some (.inl (.int x2))], [], w)
noncomputable def q_X12_keptOffBy_17 (x1 : Int32) (w : XW) : Option XR := ev bs_X12_keptOffBy 17 ([some (.inr (11, 0)), some (.inl (.int x1)), none], [], w)
noncomputable def q_X12_keptOffBy_25 (x2 : Int32) (w : XW) : Option XR := ev bs_X12_keptOffBy 25 ([some (.inr (11, 0)), none, some (.inl (.int x2))], [], w)
noncomputable def q_X12_keptOffBy_34 (s0 : Int32) (w : XW) : Option XR := ev bs_X12_keptOffBy 34 ([none, none, none], [.inl (.int s0)], w)
theorem e_X12_keptOffBy_0 (x1 : Int32) (x2 : Int32) (w : XW) : q_X12_keptOffBy_0 x1 x2 w = ((F_X12_fullOf [.inr (11, 0), .inl (.int x1)] w).bind fun r0 => (if (57 + x2) < 0 ∨ 98 ≤ (57 + x2).toNatClampNeg then none else (bif decide ((gI r0.2 50 0 (57 + x2).toNatClampNeg) ≤ r0.1) then (q_X12_keptOffBy_25 x2 r0.2) else (q_X12_keptOffBy_17 x1 r0.2)))) := (ev_eq _ _ _).trans rfl
theorem e_X12_keptOffBy_17 (x1 : Int32) (w : XW) : q_X12_keptOffBy_17 x1 w = ((F_X12_fullOf [.inr (11, 0), .inl (.int x1)] w).bind fun r0 => (q_X12_keptOffBy_34 r0.1 r0.2)) := (ev_eq _ _ _).trans rfl
theorem e_X12_keptOffBy_25 (x2 : Int32) (w : XW) : q_X12_keptOffBy_25 x2 w = (if (57 + x2) < 0 ∨ 98 ≤ (57 + x2).toNatClampNeg then none else (q_X12_keptOffBy_34 (gI w 50 0 (57 + x2).toNatClampNeg) w)) := (ev_eq _ _ _).trans rfl
theorem e_X12_keptOffBy_34 (s0 : Int32) (w : XW) : q_X12_keptOffBy_34 s0 w = (some (some (.inl (.int s0)), w)) := (ev_eq _ _ _).trans rfl
theorem f_X12_keptOffBy (x1 : Int32) (x2 : Int32) (w : XW) : F_X12_keptOffBy [.inr (11, 0), .inl (.int x1), .inl (.int x2)] w = (q_X12_keptOffBy_0 x1 x2 w).bind pI := rfl
