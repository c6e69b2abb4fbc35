-- WinterKeepModel.isDigit(I)Z
theorem dX12_isDigit_0 : decode cX12_isDigit 0 = .ok (.iload_n 1, 1) := by decide +kernel
theorem dX12_isDigit_1 : decode cX12_isDigit 1 = .ok (.aload_n 0, 1) := by decide +kernel
theorem dX12_isDigit_2 : decode cX12_isDigit 2 = .ok (.getfield 96, 3) := by decide +kernel
theorem dX12_isDigit_5 : decode cX12_isDigit 5 = .ok (.if_icmp .ge 29, 3) := by decide +kernel
theorem dX12_isDigit_8 : decode cX12_isDigit 8 = .ok (.aload_n 0, 1) := by decide +kernel
theorem dX12_isDigit_9 : decode cX12_isDigit 9 = .ok (.getfield 7, 3) := by decide +kernel
theorem dX12_isDigit_12 : decode cX12_isDigit 12 = .ok (.iload_n 1, 1) := by decide +kernel
theorem dX12_isDigit_13 : decode cX12_isDigit 13 = .ok (.baload, 1) := by decide +kernel
theorem dX12_isDigit_14 : decode cX12_isDigit 14 = .ok (.bipush 48, 2) := by decide +kernel
theorem dX12_isDigit_16 : decode cX12_isDigit 16 = .ok (.if_icmp .lt 18, 3) := by decide +kernel
theorem dX12_isDigit_19 : decode cX12_isDigit 19 = .ok (.aload_n 0, 1) := by decide +kernel
theorem dX12_isDigit_20 : decode cX12_isDigit 20 = .ok (.getfield 7, 3) := by decide +kernel
theorem dX12_isDigit_23 : decode cX12_isDigit 23 = .ok (.iload_n 1, 1) := by decide +kernel
theorem dX12_isDigit_24 : decode cX12_isDigit 24 = .ok (.baload, 1) := by decide +kernel
theorem dX12_isDigit_25 : decode cX12_isDigit 25 = .ok (.bipush 57, 2) := by decide +kernel
theorem dX12_isDigit_27 : decode cX12_isDigit 27 = .ok (.if_icmp .gt 7, 3) := by decide +kernel
theorem dX12_isDigit_30 : decode cX12_isDigit 30 = .ok (.iconst 1, 1) := by decide +kernel
theorem dX12_isDigit_31 : decode cX12_isDigit 31 = .ok (.goto 4, 3) := by decide +kernel
theorem dX12_isDigit_34 : decode cX12_isDigit 34 = .ok (.iconst 0, 1) := by decide +kernel
theorem dX12_isDigit_35 : decode cX12_isDigit 35 = .ok (.ireturn, 1) := by decide +kernel
noncomputable def bs_X12_isDigit : List (Nat × XB) := [
  (0, (sq (xLI 1) (sq (xLA 0) (sq (xGI 11 1) (tIf2 (fun x y => decide (y ≤ x)) 34 [false, false] 8 [true, true]))))),
  (8, (sq (xLA 0) (sq (xGS 11 41 1 0) (sq (xLI 1) (sq (xAI 41 400) (sq (xC (.int 48)) (tIf2 (fun x y => decide (x < y)) 34 [false, false] 19 [true, true]))))))),
  (19, (sq (xLA 0) (sq (xGS 11 41 1 0) (sq (xLI 1) (sq (xAI 41 400) (sq (xC (.int 57)) (tIf2 (fun x y => decide (y < x)) 34 [false, false] 30 [false, false]))))))),
  (30, (sq (xC (.int 1)) (tGo 35 [false, false]))),
  (34, (sq (xC (.int 0)) (tGo 35 [false, false]))),
  (35, tRZ)]
set_option maxRecDepth 100000 in
set_option maxHeartbeats 4000000 in
theorem s_X12_isDigit : ∀ X : XCtx, XE X → X.2.2.1.1 = cX12_isDigit → X.2.2.1.2.1 = 2 → X.2.2.1.2.2.1 = yX12_isDigit.cls → X.2.2.1.2.2.2.1 = (some .boolean) → X.1.2.2.2.1 = { frames := 0, cells := 0, slots := 0, locals := 0 } → SndBs X bs_X12_isDigit := by
  rintro ⟨⟨p, l, e, R, s⟩, Y, ⟨cc, nL, own, ret, Ts⟩, Z⟩ hE h1 h2 h3 h4 h5
  dsimp only at h1 h2 h3 h4 h5
  subst h1 h2 h3 h4 h5
  exact ⟨(n_sq (n_iload_n hE dX12_isDigit_0) (n_sq (n_aload_n hE dX12_isDigit_1) (n_sq (n_getI hE xk_11 (k := 1) rfl (by decide) rfl wt_961 dX12_isDigit_2) (n_ifcge hE (by decide) dX12_isDigit_5)))),
    (n_sq (n_aload_n hE dX12_isDigit_8) (n_sq (n_getS hE xk_11 (k := 0) rfl (by decide) rfl wt_960 dX12_isDigit_9) (n_sq (n_iload_n hE dX12_isDigit_12) (n_sq (n_bald hE rfl (by decide) dX12_isDigit_13) (n_sq (n_bipush hE (by decide) dX12_isDigit_14) (n_ifclt hE (by decide) dX12_isDigit_16)))))),
    (n_sq (n_aload_n hE dX12_isDigit_19) (n_sq (n_getS hE xk_11 (k := 0) rfl (by decide) rfl wt_960 dX12_isDigit_20) (n_sq (n_iload_n hE dX12_isDigit_23) (n_sq (n_bald hE rfl (by decide) dX12_isDigit_24) (n_sq (n_bipush hE (by decide) dX12_isDigit_25) (n_ifcgt hE (by decide) dX12_isDigit_27)))))),
    (n_sq (n_iconst hE (by decide) dX12_isDigit_30) (n_goto hE (by decide) dX12_isDigit_31)),
    (n_sq (n_iconst hE (by decide) dX12_isDigit_34) n_fall),
    (n_zreturn hE rfl dX12_isDigit_35), trivial⟩
noncomputable def F_X12_isDigit (as : List XV) (w : XW) : Option (Int32 × XW) := (xF 2 bs_X12_isDigit as w).bind pI
theorem m_X12_isDigit : XM yX12_isDigit cX12_isDigit 2 (some .boolean) 0 0 (eI F_X12_isDigit) := xm_I (xm_of (by decide) s_X12_isDigit)
noncomputable def q_X12_isDigit_0 (x1 : Int32) (w : XW) : Option XR := ev bs_X12_isDigit 0 ([some (.inr (11, 0)), some (.inl (.int x1))], [], w)
noncomputable def q_X12_isDigit_8 (x1 : Int32) (w : XW) : Option XR := ev bs_X12_isDigit 8 ([some (.inr (11, 0)), some (.inl (.int x1))], [], w)
noncomputable def q_X12_isDigit_19 (x1 : Int32) (w : XW) : Option XR := ev bs_X12_isDigit 19 ([some (.inr (11, 0)), some (.inl (.int x1))], [], w)
noncomputable def q_X12_isDigit_30 (w : XW) : Option XR := ev bs_X12_isDigit 30 ([none, none], [], w)
noncomputable def q_X12_isDigit_34 (w : XW) : Option XR := ev bs_X12_isDigit 34 ([none, none], [], w)
noncomputable def q_X12_isDigit_35 (s0 : Int32) (w : XW) : Option XR := ev bs_X12_isDigit 35 ([none, none], [.inl (.int s0)], w)
theorem e_X12_isDigit_0 (x1 : Int32) (w : XW) : q_X12_isDigit_0 x1 w = (bif decide ((gI w 11 0 1) ≤ x1) then (q_X12_isDigit_34 w) else (q_X12_isDigit_8 x1 w)) := (ev_eq _ _ _).trans rfl
theorem e_X12_isDigit_8 (x1 : Int32) (w : XW) : q_X12_isDigit_8 x1 w = (if x1 < 0 ∨ 400 ≤ x1.toNatClampNeg then none else (bif decide ((gI w 41 0 x1.toNatClampNeg) < 48) then (q_X12_isDigit_34 w) else (q_X12_isDigit_19 x1 w))) := (ev_eq _ _ _).trans rfl
theorem e_X12_isDigit_19 (x1 : Int32) (w : XW) : q_X12_isDigit_19 x1 w = (if x1 < 0 ∨ 400 ≤ x1.toNatClampNeg then none else (bif decide (57 < (gI w 41 0 x1.toNatClampNeg)) then (q_X12_isDigit_34 w) else (q_X12_isDigit_30 w))) := (ev_eq _ _ _).trans rfl
theorem e_X12_isDigit_30 (w : XW) : q_X12_isDigit_30 w = (q_X12_isDigit_35 1 w) := (ev_eq _ _ _).trans rfl
theorem e_X12_isDigit_34 (w : XW) : q_X12_isDigit_34 w = (q_X12_isDigit_35 0 w) := (ev_eq _ _ _).trans rfl
theorem e_X12_isDigit_35 (s0 : Int32) (w : XW) : q_X12_isDigit_35 s0 w = (if s0 = 0 ∨ s0 = 1 then some (some (.inl (.int s0)), w) else none) := (ev_eq _ _ _).trans rfl
theorem f_X12_isDigit (x1 : Int32) (w : XW) : F_X12_isDigit [.inr (11, 0), .inl (.int x1)] w = (q_X12_isDigit_0 x1 w).bind pI := rfl

-- WinterKeepModel.isLetter(I)Z
theorem dX12_isLetter_0 : decode cX12_isLetter 0 = .ok (.iload_n 1, 1) := by decide +kernel
theorem dX12_isLetter_1 : decode cX12_isLetter 1 = .ok (.aload_n 0, 1) := by decide +kernel
theorem dX12_isLetter_2 : decode cX12_isLetter 2 = .ok (.getfield 96, 3) := by decide +kernel
theorem dX12_isLetter_5 : decode cX12_isLetter 5 = .ok (.if_icmp .ge 29, 3) := by decide +kernel
theorem dX12_isLetter_8 : decode cX12_isLetter 8 = .ok (.aload_n 0, 1) := by decide +kernel
theorem dX12_isLetter_9 : decode cX12_isLetter 9 = .ok (.getfield 7, 3) := by decide +kernel
theorem dX12_isLetter_12 : decode cX12_isLetter 12 = .ok (.iload_n 1, 1) := by decide +kernel
theorem dX12_isLetter_13 : decode cX12_isLetter 13 = .ok (.baload, 1) := by decide +kernel
theorem dX12_isLetter_14 : decode cX12_isLetter 14 = .ok (.bipush 97, 2) := by decide +kernel
theorem dX12_isLetter_16 : decode cX12_isLetter 16 = .ok (.if_icmp .lt 18, 3) := by decide +kernel
theorem dX12_isLetter_19 : decode cX12_isLetter 19 = .ok (.aload_n 0, 1) := by decide +kernel
theorem dX12_isLetter_20 : decode cX12_isLetter 20 = .ok (.getfield 7, 3) := by decide +kernel
theorem dX12_isLetter_23 : decode cX12_isLetter 23 = .ok (.iload_n 1, 1) := by decide +kernel
theorem dX12_isLetter_24 : decode cX12_isLetter 24 = .ok (.baload, 1) := by decide +kernel
theorem dX12_isLetter_25 : decode cX12_isLetter 25 = .ok (.bipush 122, 2) := by decide +kernel
theorem dX12_isLetter_27 : decode cX12_isLetter 27 = .ok (.if_icmp .gt 7, 3) := by decide +kernel
theorem dX12_isLetter_30 : decode cX12_isLetter 30 = .ok (.iconst 1, 1) := by decide +kernel
theorem dX12_isLetter_31 : decode cX12_isLetter 31 = .ok (.goto 4, 3) := by decide +kernel
theorem dX12_isLetter_34 : decode cX12_isLetter 34 = .ok (.iconst 0, 1) := by decide +kernel
theorem dX12_isLetter_35 : decode cX12_isLetter 35 = .ok (.ireturn, 1) := by decide +kernel
noncomputable def bs_X12_isLetter : List (Nat × XB) := [
  (0, (sq (xLI 1) (sq (xLA 0) (sq (xGI 11 1) (tIf2 (fun x y => decide (y ≤ x)) 34 [false, false] 8 [true, true]))))),
  (8, (sq (xLA 0) (sq (xGS 11 41 1 0) (sq (xLI 1) (sq (xAI 41 400) (sq (xC (.int 97)) (tIf2 (fun x y => decide (x < y)) 34 [false, false] 19 [true, true]))))))),
  (19, (sq (xLA 0) (sq (xGS 11 41 1 0) (sq (xLI 1) (sq (xAI 41 400) (sq (xC (.int 122)) (tIf2 (fun x y => decide (y < x)) 34 [false, false] 30 [false, false]))))))),
  (30, (sq (xC (.int 1)) (tGo 35 [false, false]))),
  (34, (sq (xC (.int 0)) (tGo 35 [false, false]))),
  (35, tRZ)]
set_option maxRecDepth 100000 in
set_option maxHeartbeats 4000000 in
theorem s_X12_isLetter : ∀ X : XCtx, XE X → X.2.2.1.1 = cX12_isLetter → X.2.2.1.2.1 = 2 → X.2.2.1.2.2.1 = yX12_isLetter.cls → X.2.2.1.2.2.2.1 = (some .boolean) → X.1.2.2.2.1 = { frames := 0, cells := 0, slots := 0, locals := 0 } → SndBs X bs_X12_isLetter := by
  rintro ⟨⟨p, l, e, R, s⟩, Y, ⟨cc, nL, own, ret, Ts⟩, Z⟩ hE h1 h2 h3 h4 h5
  dsimp only at h1 h2 h3 h4 h5
  subst h1 h2 h3 h4 h5
  exact ⟨(n_sq (n_iload_n hE dX12_isLetter_0) (n_sq (n_aload_n hE dX12_isLetter_1) (n_sq (n_getI hE xk_11 (k := 1) rfl (by decide) rfl wt_961 dX12_isLetter_2) (n_ifcge hE (by decide) dX12_isLetter_5)))),
    (n_sq (n_aload_n hE dX12_isLetter_8) (n_sq (n_getS hE xk_11 (k := 0) rfl (by decide) rfl wt_960 dX12_isLetter_9) (n_sq (n_iload_n hE dX12_isLetter_12) (n_sq (n_bald hE rfl (by decide) dX12_isLetter_13) (n_sq (n_bipush hE (by decide) dX12_isLetter_14) (n_ifclt hE (by decide) dX12_isLetter_16)))))),
    (n_sq (n_aload_n hE dX12_isLetter_19) (n_sq (n_getS hE xk_11 (k := 0) rfl (by decide) rfl wt_960 dX12_isLetter_20) (n_sq (n_iload_n hE dX12_isLetter_23) (n_sq (n_bald hE rfl (by decide) dX12_isLetter_24) (n_sq (n_bipush hE (by decide) dX12_isLetter_25) (n_ifcgt hE (by decide) dX12_isLetter_27)))))),
    (n_sq (n_iconst hE (by decide) dX12_isLetter_30) (n_goto hE (by decide) dX12_isLetter_31)),
    (n_sq (n_iconst hE (by decide) dX12_isLetter_34) n_fall),
    (n_zreturn hE rfl dX12_isLetter_35), trivial⟩
noncomputable def F_X12_isLetter (as : List XV) (w : XW) : Option (Int32 × XW) := (xF 2 bs_X12_isLetter as w).bind pI
theorem m_X12_isLetter : XM yX12_isLetter cX12_isLetter 2 (some .boolean) 0 0 (eI F_X12_isLetter) := xm_I (xm_of (by decide) s_X12_isLetter)
noncomputable def q_X12_isLetter_0 (x1 : Int32) (w : XW) : Option XR := ev bs_X12_isLetter 0 ([some (.inr (11, 0)), some (.inl (.int x1))], [], w)
noncomputable def q_X12_isLetter_8 (x1 : Int32) (w : XW) : Option XR := ev bs_X12_isLetter 8 ([some (.inr (11, 0)), some (.inl (.int x1))], [], w)
noncomputable def q_X12_isLetter_19 (x1 : Int32) (w : XW) : Option XR := ev bs_X12_isLetter 19 ([some (.inr (11, 0)), some (.inl (.int x1))], [], w)
noncomputable def q_X12_isLetter_30 (w : XW) : Option XR := ev bs_X12_isLetter 30 ([none, none], [], w)
noncomputable def q_X12_isLetter_34 (w : XW) : Option XR := ev bs_X12_isLetter 34 ([none, none], [], w)
noncomputable def q_X12_isLetter_35 (s0 : Int32) (w : XW) : Option XR := ev bs_X12_isLetter 35 ([none, none], [.inl (.int s0)], w)
theorem e_X12_isLetter_0 (x1 : Int32) (w : XW) : q_X12_isLetter_0 x1 w = (bif decide ((gI w 11 0 1) ≤ x1) then (q_X12_isLetter_34 w) else (q_X12_isLetter_8 x1 w)) := (ev_eq _ _ _).trans rfl
theorem e_X12_isLetter_8 (x1 : Int32) (w : XW) : q_X12_isLetter_8 x1 w = (if x1 < 0 ∨ 400 ≤ x1.toNatClampNeg then none else (bif decide ((gI w 41 0 x1.toNatClampNeg) < 97) then (q_X12_isLetter_34 w) else (q_X12_isLetter_19 x1 w))) := (ev_eq _ _ _).trans rfl
theorem e_X12_isLetter_19 (x1 : Int32) (w : XW) : q_X12_isLetter_19 x1 w = (if x1 < 0 ∨ 400 ≤ x1.toNatClampNeg then none else (bif decide (122 < (gI w 41 0 x1.toNatClampNeg)) then (q_X12_isLetter_34 w) else (q_X12_isLetter_30 w))) := (ev_eq _ _ _).trans rfl
theorem e_X12_isLetter_30 (w : XW) : q_X12_isLetter_30 w = (q_X12_isLetter_35 1 w) := (ev_eq _ _ _).trans rfl
theorem e_X12_isLetter_34 (w : XW) : q_X12_isLetter_34 w = (q_X12_isLetter_35 0 w) := (ev_eq _ _ _).trans rfl
theorem e_X12_isLetter_35 (s0 : Int32) (w : XW) : q_X12_isLetter_35 s0 w = (if s0 = 0 ∨ s0 = 1 then some (some (.inl (.int s0)), w) else none) := (ev_eq _ _ _).trans rfl
theorem f_X12_isLetter (x1 : Int32) (w : XW) : F_X12_isLetter [.inr (11, 0), .inl (.int x1)] w = (q_X12_isLetter_0 x1 w).bind pI := rfl

-- WinterKeepModel.isWord(J)Z
theorem dX12_isWord_0 : decode cX12_isWord 0 = .ok (.aload_n 0, 1) := by decide +kernel
theorem dX12_isWord_1 : decode cX12_isWord 1 = .ok (.invokevirtual 109, 3) := by decide +kernel
theorem dX12_isWord_4 : decode cX12_isWord 4 = .ok (.pop, 1) := by decide +kernel
theorem dX12_isWord_5 : decode cX12_isWord 5 = .ok (.lconst 0, 1) := by decide +kernel
theorem dX12_isWord_6 : decode cX12_isWord 6 = .ok (.lstore_n 3, 1) := by decide +kernel
theorem dX12_isWord_7 : decode cX12_isWord 7 = .ok (.iconst 0, 1) := by decide +kernel
theorem dX12_isWord_8 : decode cX12_isWord 8 = .ok (.istore 5, 2) := by decide +kernel
theorem dX12_isWord_10 : decode cX12_isWord 10 = .ok (.aload_n 0, 1) := by decide +kernel
theorem dX12_isWord_11 : decode cX12_isWord 11 = .ok (.aload_n 0, 1) := by decide +kernel
theorem dX12_isWord_12 : decode cX12_isWord 12 = .ok (.getfield 106, 3) := by decide +kernel
theorem dX12_isWord_15 : decode cX12_isWord 15 = .ok (.iload 5, 2) := by decide +kernel
theorem dX12_isWord_17 : decode cX12_isWord 17 = .ok (.iadd, 1) := by decide +kernel
theorem dX12_isWord_18 : decode cX12_isWord 18 = .ok (.invokevirtual 113, 3) := by decide +kernel
theorem dX12_isWord_21 : decode cX12_isWord 21 = .ok (.ifCond .eq 35, 3) := by decide +kernel
theorem dX12_isWord_24 : decode cX12_isWord 24 = .ok (.iload 5, 2) := by decide +kernel
theorem dX12_isWord_26 : decode cX12_isWord 26 = .ok (.bipush 8, 2) := by decide +kernel
theorem dX12_isWord_28 : decode cX12_isWord 28 = .ok (.if_icmp .ge 22, 3) := by decide +kernel
theorem dX12_isWord_31 : decode cX12_isWord 31 = .ok (.lload_n 3, 1) := by decide +kernel
theorem dX12_isWord_32 : decode cX12_isWord 32 = .ok (.bipush 8, 2) := by decide +kernel
theorem dX12_isWord_34 : decode cX12_isWord 34 = .ok (.lshl, 1) := by decide +kernel
theorem dX12_isWord_35 : decode cX12_isWord 35 = .ok (.aload_n 0, 1) := by decide +kernel
theorem dX12_isWord_36 : decode cX12_isWord 36 = .ok (.getfield 7, 3) := by decide +kernel
theorem dX12_isWord_39 : decode cX12_isWord 39 = .ok (.aload_n 0, 1) := by decide +kernel
theorem dX12_isWord_40 : decode cX12_isWord 40 = .ok (.getfield 106, 3) := by decide +kernel
theorem dX12_isWord_43 : decode cX12_isWord 43 = .ok (.iload 5, 2) := by decide +kernel
theorem dX12_isWord_45 : decode cX12_isWord 45 = .ok (.iadd, 1) := by decide +kernel
theorem dX12_isWord_46 : decode cX12_isWord 46 = .ok (.baload, 1) := by decide +kernel
theorem dX12_isWord_47 : decode cX12_isWord 47 = .ok (.i2l, 1) := by decide +kernel
theorem dX12_isWord_48 : decode cX12_isWord 48 = .ok (.lor, 1) := by decide +kernel
theorem dX12_isWord_49 : decode cX12_isWord 49 = .ok (.lstore_n 3, 1) := by decide +kernel
theorem dX12_isWord_50 : decode cX12_isWord 50 = .ok (.iinc 5 1, 3) := by decide +kernel
theorem dX12_isWord_53 : decode cX12_isWord 53 = .ok (.goto (-43), 3) := by decide +kernel
theorem dX12_isWord_56 : decode cX12_isWord 56 = .ok (.iload 5, 2) := by decide +kernel
theorem dX12_isWord_58 : decode cX12_isWord 58 = .ok (.ifCond .le 20, 3) := by decide +kernel
theorem dX12_isWord_61 : decode cX12_isWord 61 = .ok (.iload 5, 2) := by decide +kernel
theorem dX12_isWord_63 : decode cX12_isWord 63 = .ok (.bipush 8, 2) := by decide +kernel
theorem dX12_isWord_65 : decode cX12_isWord 65 = .ok (.if_icmp .ge 13, 3) := by decide +kernel
theorem dX12_isWord_68 : decode cX12_isWord 68 = .ok (.lload_n 3, 1) := by decide +kernel
theorem dX12_isWord_69 : decode cX12_isWord 69 = .ok (.lload_n 1, 1) := by decide +kernel
theorem dX12_isWord_70 : decode cX12_isWord 70 = .ok (.lcmp, 1) := by decide +kernel
theorem dX12_isWord_71 : decode cX12_isWord 71 = .ok (.ifCond .ne 7, 3) := by decide +kernel
theorem dX12_isWord_74 : decode cX12_isWord 74 = .ok (.iconst 1, 1) := by decide +kernel
theorem dX12_isWord_75 : decode cX12_isWord 75 = .ok (.goto 4, 3) := by decide +kernel
theorem dX12_isWord_78 : decode cX12_isWord 78 = .ok (.iconst 0, 1) := by decide +kernel
theorem dX12_isWord_79 : decode cX12_isWord 79 = .ok (.ireturn, 1) := by decide +kernel
theorem vc_X12_109 : XVw RX12 109 0 11 1 yX12_see cX12_see (some .int) := ⟨RX12, TX12, tyX12, 43, xk_11, rfl, ⟨by decide, by decide⟩, by decide +kernel, wt_1115, wt_1117, ws_41, wt_11, wt_1118⟩
theorem vc_X12_113 : XVw RX12 113 1 11 2 yX12_isLetter cX12_isLetter (some .boolean) := ⟨RX12, TX12, tyX12, 43, xk_11, rfl, ⟨by decide, by decide⟩, by decide +kernel, wt_1128, wt_1130, ws_44, wt_11, wt_1131⟩
noncomputable def bs_X12_isWord : List (Nat × XB) := [
  (0, (sq (xLA 0) (sq (xCI 11 1 F_X12_see) (sq (xPop) (sq (xC (.long 0)) (sq (xSJ 3) (sq (xC (.int 0)) (sq (xSI 5) (tGo 10 [true, true, false, true, false, true]))))))))),
  (10, (sq (xLA 0) (sq (xLA 0) (sq (xGI 11 8) (sq (xLI 5) (sq (xI2 (· + ·)) (sq (xCI 11 2 F_X12_isLetter) (tIf1 (fun x => decide (x = 0)) 56 [false, true, false, true, false, true] 24 [true, true, false, true, false, true])))))))),
  (24, (sq (xLI 5) (sq (xC (.int 8)) (tIf2 (fun x y => decide (y ≤ x)) 50 [true, true, false, true, false, true] 31 [true, true, false, true, false, true])))),
  (31, (sq (xLJ 3) (sq (xC (.int 8)) (sq (xJI (fun x y => x <<< (y.toInt64 &&& 63))) (sq (xLA 0) (sq (xGS 11 41 1 0) (sq (xLA 0) (sq (xGI 11 8) (sq (xLI 5) (sq (xI2 (· + ·)) (sq (xAI 41 400) (sq (xI2L) (sq (xJ2 (· ||| ·)) (sq (xSJ 3) (tGo 50 [true, true, false, true, false, true]))))))))))))))),
  (50, (sq (xInc 5 1) (tGo 10 [true, true, false, true, false, true]))),
  (56, (sq (xLI 5) (tIf1 (fun x => decide (x ≤ 0)) 78 [false, false, false, false, false, false] 61 [false, true, false, true, false, true]))),
  (61, (sq (xLI 5) (sq (xC (.int 8)) (tIf2 (fun x y => decide (y ≤ x)) 78 [false, false, false, false, false, false] 68 [false, true, false, true, false, false])))),
  (68, (sq (xLJ 3) (sq (xLJ 1) (sq (xJcmp) (tIf1 (fun x => decide (¬ x = 0)) 78 [false, false, false, false, false, false] 74 [false, false, false, false, false, false]))))),
  (74, (sq (xC (.int 1)) (tGo 79 [false, false, false, false, false, false]))),
  (78, (sq (xC (.int 0)) (tGo 79 [false, false, false, false, false, false]))),
  (79, tRZ)]
set_option maxRecDepth 100000 in
set_option maxHeartbeats 4000000 in
theorem s_X12_isWord : ∀ X : XCtx, XE X → X.2.2.1.1 = cX12_isWord → X.2.2.1.2.1 = 6 → X.2.2.1.2.2.1 = yX12_isWord.cls → X.2.2.1.2.2.2.1 = (some .boolean) → X.1.2.2.2.1 = { frames := 1, cells := 0, slots := 0, locals := 21 } → SndBs X bs_X12_isWord := by
  rintro ⟨⟨p, l, e, R, s⟩, Y, ⟨cc, nL, own, ret, Ts⟩, Z⟩ hE h1 h2 h3 h4 h5
  dsimp only at h1 h2 h3 h4 h5
  subst h1 h2 h3 h4 h5
  exact ⟨(n_sq (n_aload_n hE dX12_isWord_0) (n_sq (n_cIv hE m_X12_see vc_X12_109 (show 0 + 1 ≤ 1 ∧ 8 + (1 + 11) + 0 ≤ 21 by decide) dX12_isWord_1) (n_sq (n_pop hE dX12_isWord_4) (n_sq (n_lconst hE (by decide) dX12_isWord_5) (n_sq (n_lstore_n hE (show (3 : Nat) + 1 < 6 by decide) dX12_isWord_6) (n_sq (n_iconst hE (by decide) dX12_isWord_7) (n_sq (n_istore hE (show (5 : Nat) < 6 by decide) dX12_isWord_8) n_fall))))))),
    (n_sq (n_aload_n hE dX12_isWord_10) (n_sq (n_aload_n hE dX12_isWord_11) (n_sq (n_getI hE xk_11 (k := 8) rfl (by decide) rfl wt_968 dX12_isWord_12) (n_sq (n_iload hE dX12_isWord_15) (n_sq (n_iadd hE dX12_isWord_17) (n_sq (n_cIv hE m_X12_isLetter vc_X12_113 (show 0 + 1 ≤ 1 ∧ 8 + (2 + 11) + 0 ≤ 21 by decide) dX12_isWord_18) (n_ifeq hE (by decide) dX12_isWord_21))))))),
    (n_sq (n_iload hE dX12_isWord_24) (n_sq (n_bipush hE (by decide) dX12_isWord_26) (n_ifcge hE (by decide) dX12_isWord_28))),
    (n_sq (n_lload_n hE dX12_isWord_31) (n_sq (n_bipush hE (by decide) dX12_isWord_32) (n_sq (n_lshl hE dX12_isWord_34) (n_sq (n_aload_n hE dX12_isWord_35) (n_sq (n_getS hE xk_11 (k := 0) rfl (by decide) rfl wt_960 dX12_isWord_36) (n_sq (n_aload_n hE dX12_isWord_39) (n_sq (n_getI hE xk_11 (k := 8) rfl (by decide) rfl wt_968 dX12_isWord_40) (n_sq (n_iload hE dX12_isWord_43) (n_sq (n_iadd hE dX12_isWord_45) (n_sq (n_bald hE rfl (by decide) dX12_isWord_46) (n_sq (n_i2l hE dX12_isWord_47) (n_sq (n_lor hE dX12_isWord_48) (n_sq (n_lstore_n hE (show (3 : Nat) + 1 < 6 by decide) dX12_isWord_49) n_fall))))))))))))),
    (n_sq (n_iinc hE (by decide) (show (5 : Nat) < 6 by decide) dX12_isWord_50) (n_goto hE (by decide) dX12_isWord_53)),
    (n_sq (n_iload hE dX12_isWord_56) (n_ifle hE (by decide) dX12_isWord_58)),
    (n_sq (n_iload hE dX12_isWord_61) (n_sq (n_bipush hE (by decide) dX12_isWord_63) (n_ifcge hE (by decide) dX12_isWord_65))),
    (n_sq (n_lload_n hE dX12_isWord_68) (n_sq (n_lload_n hE dX12_isWord_69) (n_sq (n_lcmp hE dX12_isWord_70) (n_ifne hE (by decide) dX12_isWord_71)))),
    (n_sq (n_iconst hE (by decide) dX12_isWord_74) (n_goto hE (by decide) dX12_isWord_75)),
    (n_sq (n_iconst hE (by decide) dX12_isWord_78) n_fall),
    (n_zreturn hE rfl dX12_isWord_79), trivial⟩
noncomputable def F_X12_isWord (as : List XV) (w : XW) : Option (Int32 × XW) := (xF 6 bs_X12_isWord as w).bind pI
theorem m_X12_isWord : XM yX12_isWord cX12_isWord 6 (some .boolean) 1 21 (eI F_X12_isWord) := xm_I (xm_of (by decide) s_X12_isWord)
noncomputable def q_X12_isWord_0 (y1 : Int64) (w : XW) : Option XR := ev bs_X12_isWord 0 ([some (.inr (11, 0)), some (.inl (.long y1)), none, none, none, none], [], w)
noncomputable def q_X12_isWord_10 (y1 : Int64) (y3 : Int64) (x5 : Int32) (w : XW) : Option XR := ev bs_X12_isWord 10 ([some (.inr (11, 0)), some (.inl (.long y1)), none, some (.inl (.long y3)), none, some (.inl (.int x5))], [], w)
noncomputable def q_X12_isWord_24 (y1 : Int64) (y3 : Int64) (x5 : Int32) (w : XW) : Option XR := ev bs_X12_isWord 24 ([some (.inr (11, 0)), some (.inl (.long y1)), none, some (.inl (.long y3)), none, some (.inl (.int x5))], [], w)
noncomputable def q_X12_isWord_31 (y1 : Int64) (y3 : Int64) (x5 : Int32) (w : XW) : Option XR := ev bs_X12_isWord 31 ([some (.inr (11, 0)), some (.inl (.long y1)), none, some (.inl (.long y3)), none, some (.inl (.int x5))], [], w)
noncomputable def q_X12_isWord_50 (y1 : Int64) (y3 : Int64) (x5 : Int32) (w : XW) : Option XR := ev bs_X12_isWord 50 ([some (.inr (11, 0)), some (.inl (.long y1)), none, some (.inl (.long y3)), none, some (.inl (.int x5))], [], w)
noncomputable def q_X12_isWord_56 (y1 : Int64) (y3 : Int64) (x5 : Int32) (w : XW) : Option XR := ev bs_X12_isWord 56 ([none, some (.inl (.long y1)), none, some (.inl (.long y3)), none, some (.inl (.int x5))], [], w)
noncomputable def q_X12_isWord_61 (y1 : Int64) (y3 : Int64) (x5 : Int32) (w : XW) : Option XR := ev bs_X12_isWord 61 ([none, some (.inl (.long y1)), none, some (.inl (.long y3)), none, some (.inl (.int x5))], [], w)
noncomputable def q_X12_isWord_68 (y1 : Int64) (y3 : Int64) (w : XW) : Option XR := ev bs_X12_isWord 68 ([none, some (.inl (.long y1)), none, some (.inl (.long y3)), none, none], [], w)
noncomputable def q_X12_isWord_74 (w : XW) : Option XR := ev bs_X12_isWord 74 ([none, none, none, none, none, none], [], w)
noncomputable def q_X12_isWord_78 (w : XW) : Option XR := ev bs_X12_isWord 78 ([none, none, none, none, none, none], [], w)
noncomputable def q_X12_isWord_79 (s0 : Int32) (w : XW) : Option XR := ev bs_X12_isWord 79 ([none, none, none, none, none, none], [.inl (.int s0)], w)
theorem e_X12_isWord_0 (y1 : Int64) (w : XW) : q_X12_isWord_0 y1 w = ((F_X12_see [.inr (11, 0)] w).bind fun r0 => (q_X12_isWord_10 y1 0 0 r0.2)) := (ev_eq _ _ _).trans rfl
theorem e_X12_isWord_10 (y1 : Int64) (y3 : Int64) (x5 : Int32) (w : XW) : q_X12_isWord_10 y1 y3 x5 w = ((F_X12_isLetter [.inr (11, 0), .inl (.int ((gI w 11 0 8) + x5))] w).bind fun r0 => (bif decide (r0.1 = 0) then (q_X12_isWord_56 y1 y3 x5 r0.2) else (q_X12_isWord_24 y1 y3 x5 r0.2))) := (ev_eq _ _ _).trans rfl
theorem e_X12_isWord_24 (y1 : Int64) (y3 : Int64) (x5 : Int32) (w : XW) : q_X12_isWord_24 y1 y3 x5 w = (bif decide (8 ≤ x5) then (q_X12_isWord_50 y1 y3 x5 w) else (q_X12_isWord_31 y1 y3 x5 w)) := (ev_eq _ _ _).trans rfl
theorem e_X12_isWord_31 (y1 : Int64) (y3 : Int64) (x5 : Int32) (w : XW) : q_X12_isWord_31 y1 y3 x5 w = (if ((gI w 11 0 8) + x5) < 0 ∨ 400 ≤ ((gI w 11 0 8) + x5).toNatClampNeg then none else (q_X12_isWord_50 y1 (((y3 : Int64) <<< ((8 : Int32).toInt64 &&& 63)) ||| (gI w 41 0 ((gI w 11 0 8) + x5).toNatClampNeg).toInt64) x5 w)) := (ev_eq _ _ _).trans rfl
theorem e_X12_isWord_50 (y1 : Int64) (y3 : Int64) (x5 : Int32) (w : XW) : q_X12_isWord_50 y1 y3 x5 w = (q_X12_isWord_10 y1 y3 (x5 + 1) w) := (ev_eq _ _ _).trans rfl
theorem e_X12_isWord_56 (y1 : Int64) (y3 : Int64) (x5 : Int32) (w : XW) : q_X12_isWord_56 y1 y3 x5 w = (bif decide (x5 ≤ 0) then (q_X12_isWord_78 w) else (q_X12_isWord_61 y1 y3 x5 w)) := (ev_eq _ _ _).trans rfl
theorem e_X12_isWord_61 (y1 : Int64) (y3 : Int64) (x5 : Int32) (w : XW) : q_X12_isWord_61 y1 y3 x5 w = (bif decide (8 ≤ x5) then (q_X12_isWord_78 w) else (q_X12_isWord_68 y1 y3 w)) := (ev_eq _ _ _).trans rfl
theorem e_X12_isWord_68 (y1 : Int64) (y3 : Int64) (w : XW) : q_X12_isWord_68 y1 y3 w = (bif decide (¬ (lg_cmp y3 y1) = 0) then (q_X12_isWord_78 w) else (q_X12_isWord_74 w)) := (ev_eq _ _ _).trans rfl
theorem e_X12_isWord_74 (w : XW) : q_X12_isWord_74 w = (q_X12_isWord_79 1 w) := (ev_eq _ _ _).trans rfl
theorem e_X12_isWord_78 (w : XW) : q_X12_isWord_78 w = (q_X12_isWord_79 0 w) := (ev_eq _ _ _).trans rfl
theorem e_X12_isWord_79 (s0 : Int32) (w : XW) : q_X12_isWord_79 s0 w = (if s0 = 0 ∨ s0 = 1 then some (some (.inl (.int s0)), w) else none) := (ev_eq _ _ _).trans rfl
theorem f_X12_isWord (y1 : Int64) (w : XW) : F_X12_isWord [.inr (11, 0), .inl (.long y1)] w = (q_X12_isWord_0 y1 w).bind pI := rfl

-- WinterKeepModel.passWord()V
theorem dX12_passWord_0 : decode cX12_passWord 0 = .ok (.aload_n 0, 1) := by decide +kernel
theorem dX12_passWord_1 : decode cX12_passWord 1 = .ok (.aload_n 0, 1) := by decide +kernel
theorem dX12_passWord_2 : decode cX12_passWord 2 = .ok (.getfield 106, 3) := by decide +kernel
theorem dX12_passWord_5 : decode cX12_passWord 5 = .ok (.invokevirtual 113, 3) := by decide +kernel
theorem dX12_passWord_8 : decode cX12_passWord 8 = .ok (.ifCond .eq 16, 3) := by decide +kernel
theorem dX12_passWord_11 : decode cX12_passWord 11 = .ok (.aload_n 0, 1) := by decide +kernel
theorem dX12_passWord_12 : decode cX12_passWord 12 = .ok (.dup, 1) := by decide +kernel
theorem dX12_passWord_13 : decode cX12_passWord 13 = .ok (.getfield 106, 3) := by decide +kernel
theorem dX12_passWord_16 : decode cX12_passWord 16 = .ok (.iconst 1, 1) := by decide +kernel
theorem dX12_passWord_17 : decode cX12_passWord 17 = .ok (.iadd, 1) := by decide +kernel
theorem dX12_passWord_18 : decode cX12_passWord 18 = .ok (.putfield 106, 3) := by decide +kernel
theorem dX12_passWord_21 : decode cX12_passWord 21 = .ok (.goto (-21), 3) := by decide +kernel
theorem dX12_passWord_24 : decode cX12_passWord 24 = .ok (.return_, 1) := by decide +kernel
noncomputable def bs_X12_passWord : List (Nat × XB) := [
  (0, (sq (xLA 0) (sq (xLA 0) (sq (xGI 11 8) (sq (xCI 11 2 F_X12_isLetter) (tIf1 (fun x => decide (x = 0)) 24 [false] 11 [true])))))),
  (11, (sq (xLA 0) (sq (xDup) (sq (xGI 11 8) (sq (xC (.int 1)) (sq (xI2 (· + ·)) (sq (xPI 11 8) (tGo 0 [true])))))))),
  (24, tRV)]
set_option maxRecDepth 100000 in
set_option maxHeartbeats 4000000 in
theorem s_X12_passWord : ∀ X : XCtx, XE X → X.2.2.1.1 = cX12_passWord → X.2.2.1.2.1 = 1 → X.2.2.1.2.2.1 = yX12_passWord.cls → X.2.2.1.2.2.2.1 = none → X.1.2.2.2.1 = { frames := 1, cells := 0, slots := 0, locals := 21 } → SndBs X bs_X12_passWord := by
  rintro ⟨⟨p, l, e, R, s⟩, Y, ⟨cc, nL, own, ret, Ts⟩, Z⟩ hE h1 h2 h3 h4 h5
  dsimp only at h1 h2 h3 h4 h5
  subst h1 h2 h3 h4 h5
  exact ⟨(n_sq (n_aload_n hE dX12_passWord_0) (n_sq (n_aload_n hE dX12_passWord_1) (n_sq (n_getI hE xk_11 (k := 8) rfl (by decide) rfl wt_968 dX12_passWord_2) (n_sq (n_cIv hE m_X12_isLetter vc_X12_113 (show 0 + 1 ≤ 1 ∧ 8 + (2 + 11) + 0 ≤ 21 by decide) dX12_passWord_5) (n_ifeq hE (by decide) dX12_passWord_8))))),
    (n_sq (n_aload_n hE dX12_passWord_11) (n_sq (n_dup hE dX12_passWord_12) (n_sq (n_getI hE xk_11 (k := 8) rfl (by decide) rfl wt_968 dX12_passWord_13) (n_sq (n_iconst hE (by decide) dX12_passWord_16) (n_sq (n_iadd hE dX12_passWord_17) (n_sq (n_putI hE xk_11 (k := 8) rfl (by decide) rfl rfl (tyX12_ok 8 (by decide)) wt_968 dX12_passWord_18) (n_goto hE (by decide) dX12_passWord_21))))))),
    (n_vreturn hE rfl dX12_passWord_24), trivial⟩
noncomputable def F_X12_passWord (as : List XV) (w : XW) : Option XW := (xF 1 bs_X12_passWord as w).bind pV
theorem m_X12_passWord : XM yX12_passWord cX12_passWord 1 none 1 21 (eV F_X12_passWord) := xm_V (xm_of (by decide) s_X12_passWord)
noncomputable def q_X12_passWord_0 (w : XW) : Option XR := ev bs_X12_passWord 0 ([some (.inr (11, 0))], [], w)
noncomputable def q_X12_passWord_11 (w : XW) : Option XR := ev bs_X12_passWord 11 ([some (.inr (11, 0))], [], w)
noncomputable def q_X12_passWord_24 (w : XW) : Option XR := ev bs_X12_passWord 24 ([none], [], w)
theorem e_X12_passWord_0 (w : XW) : q_X12_passWord_0 w = ((F_X12_isLetter [.inr (11, 0), .inl (.int (gI w 11 0 8))] w).bind fun r0 => (bif decide (r0.1 = 0) then (q_X12_passWord_24 r0.2) else (q_X12_passWord_11 r0.2))) := (ev_eq _ _ _).trans rfl
theorem e_X12_passWord_11 (w : XW) : q_X12_passWord_11 w = (q_X12_passWord_0 (sI w 11 0 8 ((gI w 11 0 8) + 1))) := (ev_eq _ _ _).trans rfl
theorem e_X12_passWord_24 (w : XW) : q_X12_passWord_24 w = (some (none, w)) := (ev_eq _ _ _).trans rfl
theorem f_X12_passWord (w : XW) : F_X12_passWord [.inr (11, 0)] w = (q_X12_passWord_0 w).bind pV := rfl

-- WinterKeepModel.takesWord(J)Z
theorem dX12_takesWord_0 : decode cX12_takesWord 0 = .ok (.aload_n 0, 1) := by decide +kernel
theorem dX12_takesWord_1 : decode cX12_takesWord 1 = .ok (.lload_n 1, 1) := by decide +kernel
theorem dX12_takesWord_2 : decode cX12_takesWord 2 = .ok (.invokevirtual 117, 3) := by decide +kernel
theorem dX12_takesWord_5 : decode cX12_takesWord 5 = .ok (.ifCond .ne 5, 3) := by decide +kernel
theorem dX12_takesWord_8 : decode cX12_takesWord 8 = .ok (.iconst 0, 1) := by decide +kernel
theorem dX12_takesWord_9 : decode cX12_takesWord 9 = .ok (.ireturn, 1) := by decide +kernel
theorem dX12_takesWord_10 : decode cX12_takesWord 10 = .ok (.aload_n 0, 1) := by decide +kernel
theorem dX12_takesWord_11 : decode cX12_takesWord 11 = .ok (.invokevirtual 121, 3) := by decide +kernel
theorem dX12_takesWord_14 : decode cX12_takesWord 14 = .ok (.iconst 1, 1) := by decide +kernel
theorem dX12_takesWord_15 : decode cX12_takesWord 15 = .ok (.ireturn, 1) := by decide +kernel
theorem vc_X12_117 : XVw RX12 117 1 11 6 yX12_isWord cX12_isWord (some .boolean) := ⟨RX12, TX12, tyX12, 43, xk_11, rfl, ⟨by decide, by decide⟩, by decide +kernel, wt_1124, wt_1126, ws_43, wt_11, wt_1127⟩
theorem vc_X12_121 : XVw RX12 121 0 11 1 yX12_passWord cX12_passWord none := ⟨RX12, TX12, tyX12, 43, xk_11, rfl, ⟨by decide, by decide⟩, by decide +kernel, wt_1149, wt_1151, ws_48, wt_11, wt_1152⟩
noncomputable def bs_X12_takesWord : List (Nat × XB) := [
  (0, (sq (xLA 0) (sq (xLJ 1) (sq (xCI 11 2 F_X12_isWord) (tIf1 (fun x => decide (¬ x = 0)) 10 [true, false, false] 8 [false, false, false]))))),
  (8, (sq (xC (.int 0)) tRZ)),
  (10, (sq (xLA 0) (sq (xCV 11 1 F_X12_passWord) (sq (xC (.int 1)) tRZ))))]
set_option maxRecDepth 100000 in
set_option maxHeartbeats 4000000 in
theorem s_X12_takesWord : ∀ X : XCtx, XE X → X.2.2.1.1 = cX12_takesWord → X.2.2.1.2.1 = 3 → X.2.2.1.2.2.1 = yX12_takesWord.cls → X.2.2.1.2.2.2.1 = (some .boolean) → X.1.2.2.2.1 = { frames := 2, cells := 0, slots := 0, locals := 46 } → SndBs X bs_X12_takesWord := by
  rintro ⟨⟨p, l, e, R, s⟩, Y, ⟨cc, nL, own, ret, Ts⟩, Z⟩ hE h1 h2 h3 h4 h5
  dsimp only at h1 h2 h3 h4 h5
  subst h1 h2 h3 h4 h5
  exact ⟨(n_sq (n_aload_n hE dX12_takesWord_0) (n_sq (n_lload_n hE dX12_takesWord_1) (n_sq (n_cIv hE m_X12_isWord vc_X12_117 (show 1 + 1 ≤ 2 ∧ 8 + (6 + 11) + 21 ≤ 46 by decide) dX12_takesWord_2) (n_ifne hE (by decide) dX12_takesWord_5)))),
    (n_sq (n_iconst hE (by decide) dX12_takesWord_8) (n_zreturn hE rfl dX12_takesWord_9)),
    (n_sq (n_aload_n hE dX12_takesWord_10) (n_sq (n_cVv hE m_X12_passWord vc_X12_121 (show 1 + 1 ≤ 2 ∧ 8 + (1 + 11) + 21 ≤ 46 by decide) dX12_takesWord_11) (n_sq (n_iconst hE (by decide) dX12_takesWord_14) (n_zreturn hE rfl dX12_takesWord_15)))), trivial⟩
noncomputable def F_X12_takesWord (as : List XV) (w : XW) : Option (Int32 × XW) := (xF 3 bs_X12_takesWord as w).bind pI
theorem m_X12_takesWord : XM yX12_takesWord cX12_takesWord 3 (some .boolean) 2 46 (eI F_X12_takesWord) := xm_I (xm_of (by decide) s_X12_takesWord)
noncomputable def q_X12_takesWord_0 (y1 : Int64) (w : XW) : Option XR := ev bs_X12_takesWord 0 ([some (.inr (11, 0)), some (.inl (.long y1)), none], [], w)
noncomputable def q_X12_takesWord_8 (w : XW) : Option XR := ev bs_X12_takesWord 8 ([none, none, none], [], w)
noncomputable def q_X12_takesWord_10 (w : XW) : Option XR := ev bs_X12_takesWord 10 ([some (.inr (11, 0)), none, none], [], w)
theorem e_X12_takesWord_0 (y1 : Int64) (w : XW) : q_X12_takesWord_0 y1 w = ((F_X12_isWord [.inr (11, 0), .inl (.long y1)] w).bind fun r0 => (bif decide (¬ r0.1 = 0) then (q_X12_takesWord_10 r0.2) else (q_X12_takesWord_8 r0.2))) := (ev_eq _ _ _).trans rfl
theorem e_X12_takesWord_8 (w : XW) : q_X12_takesWord_8 w = (some (some (.inl (.int 0)), w)) := (ev_eq _ _ _).trans rfl
theorem e_X12_takesWord_10 (w : XW) : q_X12_takesWord_10 w = ((F_X12_passWord [.inr (11, 0)] w).bind fun r0 => (some (some (.inl (.int 1)), r0))) := (ev_eq _ _ _).trans rfl
theorem f_X12_takesWord (y1 : Int64) (w : XW) : F_X12_takesWord [.inr (11, 0), .inl (.long y1)] w = (q_X12_takesWord_0 y1 w).bind pI := rfl

-- WinterKeepModel.numberHere(II)Z
theorem dX12_numberHere_0 : decode cX12_numberHere 0 = .ok (.aload_n 0, 1) := by decide +kernel
theorem dX12_numberHere_1 : decode cX12_numberHere 1 = .ok (.invokevirtual 109, 3) := by decide +kernel
theorem dX12_numberHere_4 : decode cX12_numberHere 4 = .ok (.pop, 1) := by decide +kernel
theorem dX12_numberHere_5 : decode cX12_numberHere 5 = .ok (.aload_n 0, 1) := by decide +kernel
theorem dX12_numberHere_6 : decode cX12_numberHere 6 = .ok (.aload_n 0, 1) := by decide +kernel
theorem dX12_numberHere_7 : decode cX12_numberHere 7 = .ok (.getfield 106, 3) := by decide +kernel
theorem dX12_numberHere_10 : decode cX12_numberHere 10 = .ok (.invokevirtual 124, 3) := by decide +kernel
theorem dX12_numberHere_13 : decode cX12_numberHere 13 = .ok (.ifCond .ne 13, 3) := by decide +kernel
theorem dX12_numberHere_16 : decode cX12_numberHere 16 = .ok (.aload_n 0, 1) := by decide +kernel
theorem dX12_numberHere_17 : decode cX12_numberHere 17 = .ok (.iconst 0, 1) := by decide +kernel
theorem dX12_numberHere_18 : decode cX12_numberHere 18 = .ok (.aload_n 0, 1) := by decide +kernel
theorem dX12_numberHere_19 : decode cX12_numberHere 19 = .ok (.getfield 106, 3) := by decide +kernel
theorem dX12_numberHere_22 : decode cX12_numberHere 22 = .ok (.invokevirtual 127, 3) := by decide +kernel
theorem dX12_numberHere_25 : decode cX12_numberHere 25 = .ok (.ireturn, 1) := by decide +kernel
theorem dX12_numberHere_26 : decode cX12_numberHere 26 = .ok (.aload_n 0, 1) := by decide +kernel
theorem dX12_numberHere_27 : decode cX12_numberHere 27 = .ok (.getfield 106, 3) := by decide +kernel
theorem dX12_numberHere_30 : decode cX12_numberHere 30 = .ok (.istore_n 3, 1) := by decide +kernel
theorem dX12_numberHere_31 : decode cX12_numberHere 31 = .ok (.iconst 0, 1) := by decide +kernel
theorem dX12_numberHere_32 : decode cX12_numberHere 32 = .ok (.istore 4, 2) := by decide +kernel
theorem dX12_numberHere_34 : decode cX12_numberHere 34 = .ok (.aload_n 0, 1) := by decide +kernel
theorem dX12_numberHere_35 : decode cX12_numberHere 35 = .ok (.aload_n 0, 1) := by decide +kernel
theorem dX12_numberHere_36 : decode cX12_numberHere 36 = .ok (.getfield 106, 3) := by decide +kernel
theorem dX12_numberHere_39 : decode cX12_numberHere 39 = .ok (.invokevirtual 124, 3) := by decide +kernel
theorem dX12_numberHere_42 : decode cX12_numberHere 42 = .ok (.ifCond .eq 46, 3) := by decide +kernel
theorem dX12_numberHere_45 : decode cX12_numberHere 45 = .ok (.aload_n 0, 1) := by decide +kernel
theorem dX12_numberHere_46 : decode cX12_numberHere 46 = .ok (.getfield 106, 3) := by decide +kernel
theorem dX12_numberHere_49 : decode cX12_numberHere 49 = .ok (.iload_n 3, 1) := by decide +kernel
theorem dX12_numberHere_50 : decode cX12_numberHere 50 = .ok (.isub, 1) := by decide +kernel
theorem dX12_numberHere_51 : decode cX12_numberHere 51 = .ok (.iconst 5, 1) := by decide +kernel
theorem dX12_numberHere_52 : decode cX12_numberHere 52 = .ok (.if_icmp .ge 23, 3) := by decide +kernel
theorem dX12_numberHere_55 : decode cX12_numberHere 55 = .ok (.bipush 10, 2) := by decide +kernel
theorem dX12_numberHere_57 : decode cX12_numberHere 57 = .ok (.iload 4, 2) := by decide +kernel
theorem dX12_numberHere_59 : decode cX12_numberHere 59 = .ok (.imul, 1) := by decide +kernel
theorem dX12_numberHere_60 : decode cX12_numberHere 60 = .ok (.aload_n 0, 1) := by decide +kernel
theorem dX12_numberHere_61 : decode cX12_numberHere 61 = .ok (.getfield 7, 3) := by decide +kernel
theorem dX12_numberHere_64 : decode cX12_numberHere 64 = .ok (.aload_n 0, 1) := by decide +kernel
theorem dX12_numberHere_65 : decode cX12_numberHere 65 = .ok (.getfield 106, 3) := by decide +kernel
theorem dX12_numberHere_68 : decode cX12_numberHere 68 = .ok (.baload, 1) := by decide +kernel
theorem dX12_numberHere_69 : decode cX12_numberHere 69 = .ok (.iadd, 1) := by decide +kernel
theorem dX12_numberHere_70 : decode cX12_numberHere 70 = .ok (.bipush 48, 2) := by decide +kernel
theorem dX12_numberHere_72 : decode cX12_numberHere 72 = .ok (.isub, 1) := by decide +kernel
theorem dX12_numberHere_73 : decode cX12_numberHere 73 = .ok (.istore 4, 2) := by decide +kernel
theorem dX12_numberHere_75 : decode cX12_numberHere 75 = .ok (.aload_n 0, 1) := by decide +kernel
theorem dX12_numberHere_76 : decode cX12_numberHere 76 = .ok (.dup, 1) := by decide +kernel
theorem dX12_numberHere_77 : decode cX12_numberHere 77 = .ok (.getfield 106, 3) := by decide +kernel
theorem dX12_numberHere_80 : decode cX12_numberHere 80 = .ok (.iconst 1, 1) := by decide +kernel
theorem dX12_numberHere_81 : decode cX12_numberHere 81 = .ok (.iadd, 1) := by decide +kernel
theorem dX12_numberHere_82 : decode cX12_numberHere 82 = .ok (.putfield 106, 3) := by decide +kernel
theorem dX12_numberHere_85 : decode cX12_numberHere 85 = .ok (.goto (-51), 3) := by decide +kernel
theorem dX12_numberHere_88 : decode cX12_numberHere 88 = .ok (.aload_n 0, 1) := by decide +kernel
theorem dX12_numberHere_89 : decode cX12_numberHere 89 = .ok (.iload 4, 2) := by decide +kernel
theorem dX12_numberHere_91 : decode cX12_numberHere 91 = .ok (.putfield 130, 3) := by decide +kernel
theorem dX12_numberHere_94 : decode cX12_numberHere 94 = .ok (.aload_n 0, 1) := by decide +kernel
theorem dX12_numberHere_95 : decode cX12_numberHere 95 = .ok (.getfield 106, 3) := by decide +kernel
theorem dX12_numberHere_98 : decode cX12_numberHere 98 = .ok (.iload_n 3, 1) := by decide +kernel
theorem dX12_numberHere_99 : decode cX12_numberHere 99 = .ok (.isub, 1) := by decide +kernel
theorem dX12_numberHere_100 : decode cX12_numberHere 100 = .ok (.iconst 5, 1) := by decide +kernel
theorem dX12_numberHere_101 : decode cX12_numberHere 101 = .ok (.if_icmp .gt 16, 3) := by decide +kernel
theorem dX12_numberHere_104 : decode cX12_numberHere 104 = .ok (.iload 4, 2) := by decide +kernel
theorem dX12_numberHere_106 : decode cX12_numberHere 106 = .ok (.i2l, 1) := by decide +kernel
theorem dX12_numberHere_107 : decode cX12_numberHere 107 = .ok (.iload_n 1, 1) := by decide +kernel
theorem dX12_numberHere_108 : decode cX12_numberHere 108 = .ok (.i2l, 1) := by decide +kernel
theorem dX12_numberHere_109 : decode cX12_numberHere 109 = .ok (.iload_n 2, 1) := by decide +kernel
theorem dX12_numberHere_110 : decode cX12_numberHere 110 = .ok (.i2l, 1) := by decide +kernel
theorem dX12_numberHere_111 : decode cX12_numberHere 111 = .ok (.invokestatic 133, 3) := by decide +kernel
theorem dX12_numberHere_114 : decode cX12_numberHere 114 = .ok (.ifCond .ne 12, 3) := by decide +kernel
theorem dX12_numberHere_117 : decode cX12_numberHere 117 = .ok (.aload_n 0, 1) := by decide +kernel
theorem dX12_numberHere_118 : decode cX12_numberHere 118 = .ok (.iconst 1, 1) := by decide +kernel
theorem dX12_numberHere_119 : decode cX12_numberHere 119 = .ok (.iload_n 3, 1) := by decide +kernel
theorem dX12_numberHere_120 : decode cX12_numberHere 120 = .ok (.invokevirtual 127, 3) := by decide +kernel
theorem dX12_numberHere_123 : decode cX12_numberHere 123 = .ok (.ifCond .eq 7, 3) := by decide +kernel
theorem dX12_numberHere_126 : decode cX12_numberHere 126 = .ok (.iconst 1, 1) := by decide +kernel
theorem dX12_numberHere_127 : decode cX12_numberHere 127 = .ok (.goto 4, 3) := by decide +kernel
theorem dX12_numberHere_130 : decode cX12_numberHere 130 = .ok (.iconst 0, 1) := by decide +kernel
theorem dX12_numberHere_131 : decode cX12_numberHere 131 = .ok (.ireturn, 1) := by decide +kernel
theorem vc_X12_124 : XVw RX12 124 1 11 2 yX12_isDigit cX12_isDigit (some .boolean) := ⟨RX12, TX12, tyX12, 43, xk_11, rfl, ⟨by decide, by decide⟩, by decide +kernel, wt_1161, wt_1163, ws_51, wt_11, wt_1164⟩
theorem vc_X12_127 : XVw RX12 127 2 11 3 yX12_fails cX12_fails (some .boolean) := ⟨RX12, TX12, tyX12, 43, xk_11, rfl, ⟨by decide, by decide⟩, by decide +kernel, wt_1137, wt_1139, ws_45, wt_11, wt_1140⟩
theorem vc_X12_133 : XSw RX12 133 3 6 yX12_in cX12_in (some .boolean) := ⟨⟨by decide, by decide⟩, by decide +kernel, wt_1165, wt_1166, wt_11, wt_1167⟩
noncomputable def bs_X12_numberHere : List (Nat × XB) := [
  (0, (sq (xLA 0) (sq (xCI 11 1 F_X12_see) (sq (xPop) (sq (xLA 0) (sq (xLA 0) (sq (xGI 11 8) (sq (xCI 11 2 F_X12_isDigit) (tIf1 (fun x => decide (¬ x = 0)) 26 [true, true, true, false, false] 16 [true, false, false, false, false]))))))))),
  (16, (sq (xLA 0) (sq (xC (.int 0)) (sq (xLA 0) (sq (xGI 11 8) (sq (xCI 11 3 F_X12_fails) tRZ)))))),
  (26, (sq (xLA 0) (sq (xGI 11 8) (sq (xSI 3) (sq (xC (.int 0)) (sq (xSI 4) (tGo 34 [true, true, true, true, true]))))))),
  (34, (sq (xLA 0) (sq (xLA 0) (sq (xGI 11 8) (sq (xCI 11 2 F_X12_isDigit) (tIf1 (fun x => decide (x = 0)) 88 [true, true, true, true, true] 45 [true, true, true, true, true])))))),
  (45, (sq (xLA 0) (sq (xGI 11 8) (sq (xLI 3) (sq (xI2 (· - ·)) (sq (xC (.int 5)) (tIf2 (fun x y => decide (y ≤ x)) 75 [true, true, true, true, true] 55 [true, true, true, true, true]))))))),
  (55, (sq (xC (.int 10)) (sq (xLI 4) (sq (xI2 (· * ·)) (sq (xLA 0) (sq (xGS 11 41 1 0) (sq (xLA 0) (sq (xGI 11 8) (sq (xAI 41 400) (sq (xI2 (· + ·)) (sq (xC (.int 48)) (sq (xI2 (· - ·)) (sq (xSI 4) (tGo 75 [true, true, true, true, true])))))))))))))),
  (75, (sq (xLA 0) (sq (xDup) (sq (xGI 11 8) (sq (xC (.int 1)) (sq (xI2 (· + ·)) (sq (xPI 11 8) (tGo 34 [true, true, true, true, true])))))))),
  (88, (sq (xLA 0) (sq (xLI 4) (sq (xPI 11 10) (sq (xLA 0) (sq (xGI 11 8) (sq (xLI 3) (sq (xI2 (· - ·)) (sq (xC (.int 5)) (tIf2 (fun x y => decide (y < x)) 117 [true, false, false, true, false] 104 [true, true, true, true, true])))))))))),
  (104, (sq (xLI 4) (sq (xI2L) (sq (xLI 1) (sq (xI2L) (sq (xLI 2) (sq (xI2L) (sq (xCI 99 3 F_X12_in) (tIf1 (fun x => decide (¬ x = 0)) 126 [false, false, false, false, false] 117 [true, false, false, true, false]))))))))),
  (117, (sq (xLA 0) (sq (xC (.int 1)) (sq (xLI 3) (sq (xCI 11 3 F_X12_fails) (tIf1 (fun x => decide (x = 0)) 130 [false, false, false, false, false] 126 [false, false, false, false, false])))))),
  (126, (sq (xC (.int 1)) (tGo 131 [false, false, false, false, false]))),
  (130, (sq (xC (.int 0)) (tGo 131 [false, false, false, false, false]))),
  (131, tRZ)]
set_option maxRecDepth 100000 in
set_option maxHeartbeats 4000000 in
theorem s_X12_numberHere : ∀ X : XCtx, XE X → X.2.2.1.1 = cX12_numberHere → X.2.2.1.2.1 = 5 → X.2.2.1.2.2.1 = yX12_numberHere.cls → X.2.2.1.2.2.2.1 = (some .boolean) → X.1.2.2.2.1 = { frames := 1, cells := 0, slots := 0, locals := 25 } → SndBs X bs_X12_numberHere := by
  rintro ⟨⟨p, l, e, R, s⟩, Y, ⟨cc, nL, own, ret, Ts⟩, Z⟩ hE h1 h2 h3 h4 h5
  dsimp only at h1 h2 h3 h4 h5
  subst h1 h2 h3 h4 h5
  exact ⟨(n_sq (n_aload_n hE dX12_numberHere_0) (n_sq (n_cIv hE m_X12_see vc_X12_109 (show 0 + 1 ≤ 1 ∧ 8 + (1 + 11) + 0 ≤ 25 by decide) dX12_numberHere_1) (n_sq (n_pop hE dX12_numberHere_4) (n_sq (n_aload_n hE dX12_numberHere_5) (n_sq (n_aload_n hE dX12_numberHere_6) (n_sq (n_getI hE xk_11 (k := 8) rfl (by decide) rfl wt_968 dX12_numberHere_7) (n_sq (n_cIv hE m_X12_isDigit vc_X12_124 (show 0 + 1 ≤ 1 ∧ 8 + (2 + 11) + 0 ≤ 25 by decide) dX12_numberHere_10) (n_ifne hE (by decide) dX12_numberHere_13)))))))),
    (n_sq (n_aload_n hE dX12_numberHere_16) (n_sq (n_iconst hE (by decide) dX12_numberHere_17) (n_sq (n_aload_n hE dX12_numberHere_18) (n_sq (n_getI hE xk_11 (k := 8) rfl (by decide) rfl wt_968 dX12_numberHere_19) (n_sq (n_cIv hE m_X12_fails vc_X12_127 (show 0 + 1 ≤ 1 ∧ 8 + (3 + 11) + 0 ≤ 25 by decide) dX12_numberHere_22) (n_zreturn hE rfl dX12_numberHere_25)))))),
    (n_sq (n_aload_n hE dX12_numberHere_26) (n_sq (n_getI hE xk_11 (k := 8) rfl (by decide) rfl wt_968 dX12_numberHere_27) (n_sq (n_istore_n hE (show (3 : Nat) < 5 by decide) dX12_numberHere_30) (n_sq (n_iconst hE (by decide) dX12_numberHere_31) (n_sq (n_istore hE (show (4 : Nat) < 5 by decide) dX12_numberHere_32) n_fall))))),
    (n_sq (n_aload_n hE dX12_numberHere_34) (n_sq (n_aload_n hE dX12_numberHere_35) (n_sq (n_getI hE xk_11 (k := 8) rfl (by decide) rfl wt_968 dX12_numberHere_36) (n_sq (n_cIv hE m_X12_isDigit vc_X12_124 (show 0 + 1 ≤ 1 ∧ 8 + (2 + 11) + 0 ≤ 25 by decide) dX12_numberHere_39) (n_ifeq hE (by decide) dX12_numberHere_42))))),
    (n_sq (n_aload_n hE dX12_numberHere_45) (n_sq (n_getI hE xk_11 (k := 8) rfl (by decide) rfl wt_968 dX12_numberHere_46) (n_sq (n_iload_n hE dX12_numberHere_49) (n_sq (n_isub hE dX12_numberHere_50) (n_sq (n_iconst hE (by decide) dX12_numberHere_51) (n_ifcge hE (by decide) dX12_numberHere_52)))))),
    (n_sq (n_bipush hE (by decide) dX12_numberHere_55) (n_sq (n_iload hE dX12_numberHere_57) (n_sq (n_imul hE dX12_numberHere_59) (n_sq (n_aload_n hE dX12_numberHere_60) (n_sq (n_getS hE xk_11 (k := 0) rfl (by decide) rfl wt_960 dX12_numberHere_61) (n_sq (n_aload_n hE dX12_numberHere_64) (n_sq (n_getI hE xk_11 (k := 8) rfl (by decide) rfl wt_968 dX12_numberHere_65) (n_sq (n_bald hE rfl (by decide) dX12_numberHere_68) (n_sq (n_iadd hE dX12_numberHere_69) (n_sq (n_bipush hE (by decide) dX12_numberHere_70) (n_sq (n_isub hE dX12_numberHere_72) (n_sq (n_istore hE (show (4 : Nat) < 5 by decide) dX12_numberHere_73) n_fall)))))))))))),
    (n_sq (n_aload_n hE dX12_numberHere_75) (n_sq (n_dup hE dX12_numberHere_76) (n_sq (n_getI hE xk_11 (k := 8) rfl (by decide) rfl wt_968 dX12_numberHere_77) (n_sq (n_iconst hE (by decide) dX12_numberHere_80) (n_sq (n_iadd hE dX12_numberHere_81) (n_sq (n_putI hE xk_11 (k := 8) rfl (by decide) rfl rfl (tyX12_ok 8 (by decide)) wt_968 dX12_numberHere_82) (n_goto hE (by decide) dX12_numberHere_85))))))),
    (n_sq (n_aload_n hE dX12_numberHere_88) (n_sq (n_iload hE dX12_numberHere_89) (n_sq (n_putI hE xk_11 (k := 10) rfl (by decide) rfl rfl (tyX12_ok 10 (by decide)) wt_970 dX12_numberHere_91) (n_sq (n_aload_n hE dX12_numberHere_94) (n_sq (n_getI hE xk_11 (k := 8) rfl (by decide) rfl wt_968 dX12_numberHere_95) (n_sq (n_iload_n hE dX12_numberHere_98) (n_sq (n_isub hE dX12_numberHere_99) (n_sq (n_iconst hE (by decide) dX12_numberHere_100) (n_ifcgt hE (by decide) dX12_numberHere_101))))))))),
    (n_sq (n_iload hE dX12_numberHere_104) (n_sq (n_i2l hE dX12_numberHere_106) (n_sq (n_iload_n hE dX12_numberHere_107) (n_sq (n_i2l hE dX12_numberHere_108) (n_sq (n_iload_n hE dX12_numberHere_109) (n_sq (n_i2l hE dX12_numberHere_110) (n_sq (n_cIs hE m_X12_in vc_X12_133 (show 0 + 1 ≤ 1 ∧ 8 + (6 + 11) + 0 ≤ 25 by decide) dX12_numberHere_111) (n_ifne hE (by decide) dX12_numberHere_114)))))))),
    (n_sq (n_aload_n hE dX12_numberHere_117) (n_sq (n_iconst hE (by decide) dX12_numberHere_118) (n_sq (n_iload_n hE dX12_numberHere_119) (n_sq (n_cIv hE m_X12_fails vc_X12_127 (show 0 + 1 ≤ 1 ∧ 8 + (3 + 11) + 0 ≤ 25 by decide) dX12_numberHere_120) (n_ifeq hE (by decide) dX12_numberHere_123))))),
    (n_sq (n_iconst hE (by decide) dX12_numberHere_126) (n_goto hE (by decide) dX12_numberHere_127)),
    (n_sq (n_iconst hE (by decide) dX12_numberHere_130) n_fall),
    (n_zreturn hE rfl dX12_numberHere_131), trivial⟩
noncomputable def F_X12_numberHere (as : List XV) (w : XW) : Option (Int32 × XW) := (xF 5 bs_X12_numberHere as w).bind pI
theorem m_X12_numberHere : XM yX12_numberHere cX12_numberHere 5 (some .boolean) 1 25 (eI F_X12_numberHere) := xm_I (xm_of (by decide) s_X12_numberHere)
noncomputable def q_X12_numberHere_0 (x1 : Int32) (x2 : Int32) (w : XW) : Option XR := ev bs_X12_numberHere 0 ([some (.inr (11, 0)), some (.inl (.int x1)), some (.inl (.int x2)), none, none], [], w)
noncomputable def q_X12_numberHere_16 (w : XW) : Option XR := ev bs_X12_numberHere 16 ([some (.inr (11, 0)), none, none, none, none], [], w)
noncomputable def q_X12_numberHere_26 (x1 : Int32) (x2 : Int32) (w : XW) : Option XR := ev bs_X12_numberHere 26 ([some (.inr (11, 0)), some (.inl (.int x1)), some (.inl (.int x2)), none, none], [], w)
noncomputable def q_X12_numberHere_34 (x1 : Int32) (x2 : Int32) (x3 : Int32) (x4 : Int32) (w : XW) : Option XR := ev bs_X12_numberHere 34 ([some (.inr (11, 0)), some (.inl (.int x1)), some (.inl (.int x2)), some (.inl (.int x3)), some (.inl (.int x4))], [], w)
noncomputable def q_X12_numberHere_45 (x1 : Int32) (x2 : Int32) (x3 : Int32) (x4 : Int32) (w : XW) : Option XR := ev bs_X12_numberHere 45 ([some (.inr (11, 0)), some (.inl (.int x1)), some (.inl (.int x2)), some (.inl (.int x3)), some (.inl (.int x4))], [], w)
noncomputable def q_X12_numberHere_55 (x1 : Int32) (x2 : Int32) (x3 : Int32) (x4 : Int32) (w : XW) : Option XR := ev bs_X12_numberHere 55 ([some (.inr (11, 0)), some (.inl (.int x1)), some (.inl (.int x2)), some (.inl (.int x3)), some (.inl (.int x4))], [], w)
noncomputable def q_X12_numberHere_75 (x1 : Int32) (x2 : Int32) (x3 : Int32) (x4 : Int32) (w : XW) : Option XR := ev bs_X12_numberHere 75 ([some (.inr (11, 0)), some (.inl (.int x1)), some (.inl (.int x2)), some (.inl (.int x3)), some (.inl (.int x4))], [], w)
noncomputable def q_X12_numberHere_88 (x1 : Int32) (x2 : Int32) (x3 : Int32) (x4 : Int32) (w : XW) : Option XR := ev bs_X12_numberHere 88 ([some (.inr (11, 0)), some (.inl (.int x1)), some (.inl (.int x2)), some (.inl (.int x3)), some (.inl (.int x4))], [], w)
noncomputable def q_X12_numberHere_104 (x1 : Int32) (x2 : Int32) (x3 : Int32) (x4 : Int32) (w : XW) : Option XR := ev bs_X12_numberHere 104 ([some (.inr (11, 0)), some (.inl (.int x1)), some (.inl (.int x2)), some (.inl (.int x3)), some (.inl (.int x4))], [], w)
noncomputable def q_X12_numberHere_117 (x3 : Int32) (w : XW) : Option XR := ev bs_X12_numberHere 117 ([some (.inr (11, 0)), none, none, some (.inl (.int x3)), none], [], w)
noncomputable def q_X12_numberHere_126 (w : XW) : Option XR := ev bs_X12_numberHere 126 ([none, none, none, none, none], [], w)
noncomputable def q_X12_numberHere_130 (w : XW) : Option XR := ev bs_X12_numberHere 130 ([none, none, none, none, none], [], w)
noncomputable def q_X12_numberHere_131 (s0 : Int32) (w : XW) : Option XR := ev bs_X12_numberHere 131 ([none, none, none, none, none], [.inl (.int s0)], w)
theorem e_X12_numberHere_0 (x1 : Int32) (x2 : Int32) (w : XW) : q_X12_numberHere_0 x1 x2 w = ((F_X12_see [.inr (11, 0)] w).bind fun r0 => ((F_X12_isDigit [.inr (11, 0), .inl (.int (gI r0.2 11 0 8))] r0.2).bind fun r1 => (bif decide (¬ r1.1 = 0) then (q_X12_numberHere_26 x1 x2 r1.2) else (q_X12_numberHere_16 r1.2)))) := (ev_eq _ _ _).trans rfl
theorem e_X12_numberHere_16 (w : XW) : q_X12_numberHere_16 w = ((F_X12_fails [.inr (11, 0), .inl (.int 0), .inl (.int (gI w 11 0 8))] w).bind fun r0 => (if r0.1 = 0 ∨ r0.1 = 1 then some (some (.inl (.int r0.1)), r0.2) else none)) := (ev_eq _ _ _).trans rfl
theorem e_X12_numberHere_26 (x1 : Int32) (x2 : Int32) (w : XW) : q_X12_numberHere_26 x1 x2 w = (q_X12_numberHere_34 x1 x2 (gI w 11 0 8) 0 w) := (ev_eq _ _ _).trans rfl
theorem e_X12_numberHere_34 (x1 : Int32) (x2 : Int32) (x3 : Int32) (x4 : Int32) (w : XW) : q_X12_numberHere_34 x1 x2 x3 x4 w = ((F_X12_isDigit [.inr (11, 0), .inl (.int (gI w 11 0 8))] w).bind fun r0 => (bif decide (r0.1 = 0) then (q_X12_numberHere_88 x1 x2 x3 x4 r0.2) else (q_X12_numberHere_45 x1 x2 x3 x4 r0.2))) := (ev_eq _ _ _).trans rfl
theorem e_X12_numberHere_45 (x1 : Int32) (x2 : Int32) (x3 : Int32) (x4 : Int32) (w : XW) : q_X12_numberHere_45 x1 x2 x3 x4 w = (bif decide (5 ≤ ((gI w 11 0 8) - x3)) then (q_X12_numberHere_75 x1 x2 x3 x4 w) else (q_X12_numberHere_55 x1 x2 x3 x4 w)) := (ev_eq _ _ _).trans rfl
theorem e_X12_numberHere_55 (x1 : Int32) (x2 : Int32) (x3 : Int32) (x4 : Int32) (w : XW) : q_X12_numberHere_55 x1 x2 x3 x4 w = (if (gI w 11 0 8) < 0 ∨ 400 ≤ (gI w 11 0 8).toNatClampNeg then none else (q_X12_numberHere_75 x1 x2 x3 (((10 * x4) + (gI w 41 0 (gI w 11 0 8).toNatClampNeg)) - 48) w)) := (ev_eq _ _ _).trans rfl
theorem e_X12_numberHere_75 (x1 : Int32) (x2 : Int32) (x3 : Int32) (x4 : Int32) (w : XW) : q_X12_numberHere_75 x1 x2 x3 x4 w = (q_X12_numberHere_34 x1 x2 x3 x4 (sI w 11 0 8 ((gI w 11 0 8) + 1))) := (ev_eq _ _ _).trans rfl
theorem e_X12_numberHere_88 (x1 : Int32) (x2 : Int32) (x3 : Int32) (x4 : Int32) (w : XW) : q_X12_numberHere_88 x1 x2 x3 x4 w = (bif decide (5 < ((gI (sI w 11 0 10 x4) 11 0 8) - x3)) then (q_X12_numberHere_117 x3 (sI w 11 0 10 x4)) else (q_X12_numberHere_104 x1 x2 x3 x4 (sI w 11 0 10 x4))) := (ev_eq _ _ _).trans rfl
theorem e_X12_numberHere_104 (x1 : Int32) (x2 : Int32) (x3 : Int32) (x4 : Int32) (w : XW) : q_X12_numberHere_104 x1 x2 x3 x4 w = ((F_X12_in [.inl (.long (x4 : Int32).toInt64), .inl (.long (x1 : Int32).toInt64), .inl (.long (x2 : Int32).toInt64)] w).bind fun r0 => (bif decide (¬ r0.1 = 0) then (q_X12_numberHere_126 r0.2) else (q_X12_numberHere_117 x3 r0.2))) := (ev_eq _ _ _).trans rfl
theorem e_X12_numberHere_117 (x3 : Int32) (w : XW) : q_X12_numberHere_117 x3 w = ((F_X12_fails [.inr (11, 0), .inl (.int 1), .inl (.int x3)] w).bind fun r0 => (bif decide (r0.1 = 0) then (q_X12_numberHere_130 r0.2) else (q_X12_numberHere_126 r0.2))) := (ev_eq _ _ _).trans rfl
theorem e_X12_numberHere_126 (w : XW) : q_X12_numberHere_126 w = (q_X12_numberHere_131 1 w) := (ev_eq _ _ _).trans rfl
theorem e_X12_numberHere_130 (w : XW) : q_X12_numberHere_130 w = (q_X12_numberHere_131 0 w) := (ev_eq _ _ _).trans rfl
theorem e_X12_numberHere_131 (s0 : Int32) (w : XW) : q_X12_numberHere_131 s0 w = (if s0 = 0 ∨ s0 = 1 then some (some (.inl (.int s0)), w) else none) := (ev_eq _ _ _).trans rfl
theorem f_X12_numberHere (x1 : Int32) (x2 : Int32) (w : XW) : F_X12_numberHere [.inr (11, 0), .inl (.int x1), .inl (.int x2)] w = (q_X12_numberHere_0 x1 x2 w).bind pI := rfl
