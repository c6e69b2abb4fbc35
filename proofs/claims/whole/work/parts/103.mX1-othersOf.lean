-- WinterKeep$Dale.othersOf(I)I
theorem dX1_othersOf_0 : decode cX1_othersOf 0 = .ok (.iconst 0, 1) := by decide +kernel
theorem dX1_othersOf_1 : decode cX1_othersOf 1 = .ok (.istore_n 2, 1) := by decide +kernel
theorem dX1_othersOf_2 : decode cX1_othersOf 2 = .ok (.iconst 0, 1) := by decide +kernel
theorem dX1_othersOf_3 : decode cX1_othersOf 3 = .ok (.istore_n 3, 1) := by decide +kernel
theorem dX1_othersOf_4 : decode cX1_othersOf 4 = .ok (.iload_n 3, 1) := by decide +kernel
theorem dX1_othersOf_5 : decode cX1_othersOf 5 = .ok (.aload_n 0, 1) := by decide +kernel
theorem dX1_othersOf_6 : decode cX1_othersOf 6 = .ok (.getfield 25, 3) := by decide +kernel
theorem dX1_othersOf_9 : decode cX1_othersOf 9 = .ok (.if_icmp .ge 32, 3) := by decide +kernel
theorem dX1_othersOf_12 : decode cX1_othersOf 12 = .ok (.iload_n 3, 1) := by decide +kernel
theorem dX1_othersOf_13 : decode cX1_othersOf 13 = .ok (.iload_n 1, 1) := by decide +kernel
theorem dX1_othersOf_14 : decode cX1_othersOf 14 = .ok (.if_icmp .eq 21, 3) := by decide +kernel
theorem dX1_othersOf_17 : decode cX1_othersOf 17 = .ok (.aload_n 0, 1) := by decide +kernel
theorem dX1_othersOf_18 : decode cX1_othersOf 18 = .ok (.getfield 41, 3) := by decide +kernel
theorem dX1_othersOf_21 : decode cX1_othersOf 21 = .ok (.iload_n 3, 1) := by decide +kernel
theorem dX1_othersOf_22 : decode cX1_othersOf 22 = .ok (.iaload, 1) := by decide +kernel
theorem dX1_othersOf_23 : decode cX1_othersOf 23 = .ok (.aload_n 0, 1) := by decide +kernel
theorem dX1_othersOf_24 : decode cX1_othersOf 24 = .ok (.getfield 41, 3) := by decide +kernel
theorem dX1_othersOf_27 : decode cX1_othersOf 27 = .ok (.iload_n 1, 1) := by decide +kernel
theorem dX1_othersOf_28 : decode cX1_othersOf 28 = .ok (.iaload, 1) := by decide +kernel
theorem dX1_othersOf_29 : decode cX1_othersOf 29 = .ok (.if_icmp .ne 6, 3) := by decide +kernel
theorem dX1_othersOf_32 : decode cX1_othersOf 32 = .ok (.iinc 2 1, 3) := by decide +kernel
theorem dX1_othersOf_35 : decode cX1_othersOf 35 = .ok (.iinc 3 1, 3) := by decide +kernel
theorem dX1_othersOf_38 : decode cX1_othersOf 38 = .ok (.goto (-34), 3) := by decide +kernel
theorem dX1_othersOf_41 : decode cX1_othersOf 41 = .ok (.iload_n 2, 1) := by decide +kernel
theorem dX1_othersOf_42 : decode cX1_othersOf 42 = .ok (.ireturn, 1) := by decide +kernel
noncomputable def bs_X1_othersOf : List (Nat × XB) := [
  (0, (sq (xC (.int 0)) (sq (xSI 2) (sq (xC (.int 0)) (sq (xSI 3) (tGo 4 [true, true, true, true])))))),
  (4, (sq (xLI 3) (sq (xLA 0) (sq (xGI 1 4) (tIf2 (fun x y => decide (y ≤ x)) 41 [false, false, true, false] 12 [true, true, true, true]))))),
  (12, (sq (xLI 3) (sq (xLI 1) (tIf2 (fun x y => decide (x = y)) 35 [true, true, true, true] 17 [true, true, true, true])))),
  (17, (sq (xLA 0) (sq (xGS 1 16 0 0) (sq (xLI 3) (sq (xAI 16 5) (sq (xLA 0) (sq (xGS 1 16 0 0) (sq (xLI 1) (sq (xAI 16 5) (tIf2 (fun x y => decide (¬ x = y)) 35 [true, true, true, true] 32 [true, true, true, true])))))))))),
  (32, (sq (xInc 2 1) (tGo 35 [true, true, true, true]))),
  (35, (sq (xInc 3 1) (tGo 4 [true, true, true, true]))),
  (41, (sq (xLI 2) tRI))]
set_option maxRecDepth 100000 in
set_option maxHeartbeats 4000000 in
theorem s_X1_othersOf : ∀ X : XCtx, XE X → X.2.2.1.1 = cX1_othersOf → X.2.2.1.2.1 = 4 → X.2.2.1.2.2.1 = yX1_othersOf.cls → X.2.2.1.2.2.2.1 = (some .int) → X.1.2.2.2.1 = { frames := 0, cells := 0, slots := 0, locals := 0 } → SndBs X bs_X1_othersOf := by
  rintro ⟨⟨p, l, e, R, s⟩, Y, ⟨cc, nL, own, ret, Ts⟩, Z⟩ hE h1 h2 h3 h4 h5
  dsimp only at h1 h2 h3 h4 h5
  subst h1 h2 h3 h4 h5
  exact ⟨(n_sq (n_iconst hE (by decide) dX1_othersOf_0) (n_sq (n_istore_n hE (show (2 : Nat) < 4 by decide) dX1_othersOf_1) (n_sq (n_iconst hE (by decide) dX1_othersOf_2) (n_sq (n_istore_n hE (show (3 : Nat) < 4 by decide) dX1_othersOf_3) n_fall)))),
    (n_sq (n_iload_n hE dX1_othersOf_4) (n_sq (n_aload_n hE dX1_othersOf_5) (n_sq (n_getI hE xk_1 (k := 4) rfl (by decide) rfl wt_111 dX1_othersOf_6) (n_ifcge hE (by decide) dX1_othersOf_9)))),
    (n_sq (n_iload_n hE dX1_othersOf_12) (n_sq (n_iload_n hE dX1_othersOf_13) (n_ifceq hE (by decide) dX1_othersOf_14))),
    (n_sq (n_aload_n hE dX1_othersOf_17) (n_sq (n_getS hE xk_1 (k := 9) rfl (by decide) rfl wt_130 dX1_othersOf_18) (n_sq (n_iload_n hE dX1_othersOf_21) (n_sq (n_iald hE rfl (by decide) dX1_othersOf_22) (n_sq (n_aload_n hE dX1_othersOf_23) (n_sq (n_getS hE xk_1 (k := 9) rfl (by decide) rfl wt_130 dX1_othersOf_24) (n_sq (n_iload_n hE dX1_othersOf_27) (n_sq (n_iald hE rfl (by decide) dX1_othersOf_28) (n_ifcne hE (by decide) dX1_othersOf_29))))))))),
    (n_sq (n_iinc hE (by decide) (show (2 : Nat) < 4 by decide) dX1_othersOf_32) n_fall),
    (n_sq (n_iinc hE (by decide) (show (3 : Nat) < 4 by decide) dX1_othersOf_35) (n_goto hE (by decide) dX1_othersOf_38)),
    (n_sq (n_iload_n hE dX1_othersOf_41) (n_ireturn hE rfl dX1_othersOf_42)), trivial⟩
noncomputable def F_X1_othersOf (as : List XV) (w : XW) : Option (Int32 × XW) := (xF 4 bs_X1_othersOf as w).bind pI
theorem m_X1_othersOf : XM yX1_othersOf cX1_othersOf 4 (some .int) 0 0 (eI F_X1_othersOf) := xm_I (xm_of (by decide) s_X1_othersOf)
noncomputable def q_X1_othersOf_0 (i0 : Nat) (x1 : Int32) (w : XW) : Option XR := ev bs_X1_othersOf 0 ([some (.inr (1, i0)), some (.inl (.int x1)), none, none], [], w)
noncomputable def q_X1_othersOf_4 (i0 : Nat) (x1 : Int32) (x2 : Int32) (x3 : Int32) (w : XW) : Option XR := ev bs_X1_othersOf 4 ([some (.inr (1, i0)), some (.inl (.int x1)), some (.inl (.int x2)), some (.inl (.int x3))], [], w)
noncomputable def q_X1_othersOf_12 (i0 : Nat) (x1 : Int32) (x2 : Int32) (x3 : Int32) (w : XW) : Option XR := ev bs_X1_othersOf 12 ([some (.inr (1, i0)), some (.inl (.int x1)), some (.inl (.int x2)), some (.inl (.int x3))], [], w)
noncomputable def q_X1_othersOf_17 (i0 : Nat) (x1 : Int32) (x2 : Int32) (x3 : Int32) (w : XW) : Option XR := ev bs_X1_othersOf 17 ([some (.inr (1, i0)), some (.inl (.int x1)), some (.inl (.int x2)), some (.inl (.int x3))], [], w)
noncomputable def q_X1_othersOf_32 (i0 : Nat) (x1 : Int32) (x2 : Int32) (x3 : Int32) (w : XW) : Option XR := ev bs_X1_othersOf 32 ([some (.inr (1, i0)), some (.inl (.int x1)), some (.inl (.int x2)), some (.inl (.int x3))], [], w)
noncomputable def q_X1_othersOf_35 (i0 : Nat) (x1 : Int32) (x2 : Int32) (x3 : Int32) (w : XW) : Option XR := ev bs_X1_othersOf 35 ([some (.inr (1, i0)), some (.inl (.int x1)), some (.inl (.int x2)), some (.inl (.int x3))], [], w)
noncomputable def q_X1_othersOf_41 (x2 : Int32) (w : XW) : Option XR := ev bs_X1_othersOf 41 ([none, none, some (.inl (.int x2)), none], [], w)
theorem e_X1_othersOf_0 (i0 : Nat) (x1 : Int32) (w : XW) : q_X1_othersOf_0 i0 x1 w = (q_X1_othersOf_4 i0 x1 0 0 w) := (ev_eq _ _ _).trans rfl
theorem e_X1_othersOf_4 (i0 : Nat) (x1 : Int32) (x2 : Int32) (x3 : Int32) (w : XW) : q_X1_othersOf_4 i0 x1 x2 x3 w = (bif decide ((gI w 1 i0 4) ≤ x3) then (q_X1_othersOf_41 x2 w) else (q_X1_othersOf_12 i0 x1 x2 x3 w)) := (ev_eq _ _ _).trans rfl
theorem e_X1_othersOf_12 (i0 : Nat) (x1 : Int32) (x2 : Int32) (x3 : Int32) (w : XW) : q_X1_othersOf_12 i0 x1 x2 x3 w = (bif decide (x3 = x1) then (q_X1_othersOf_35 i0 x1 x2 x3 w) else (q_X1_othersOf_17 i0 x1 x2 x3 w)) := (ev_eq _ _ _).trans rfl
theorem e_X1_othersOf_17 (i0 : Nat) (x1 : Int32) (x2 : Int32) (x3 : Int32) (w : XW) : q_X1_othersOf_17 i0 x1 x2 x3 w = (if x3 < 0 ∨ 5 ≤ x3.toNatClampNeg then none else (if x1 < 0 ∨ 5 ≤ x1.toNatClampNeg then none else (bif decide (¬ (gI w 16 i0 x3.toNatClampNeg) = (gI w 16 i0 x1.toNatClampNeg)) then (q_X1_othersOf_35 i0 x1 x2 x3 w) else (q_X1_othersOf_32 i0 x1 x2 x3 w)))) := (ev_eq _ _ _).trans rfl
theorem e_X1_othersOf_32 (i0 : Nat) (x1 : Int32) (x2 : Int32) (x3 : Int32) (w : XW) : q_X1_othersOf_32 i0 x1 x2 x3 w = (q_X1_othersOf_35 i0 x1 (x2 + 1) x3 w) := (ev_eq _ _ _).trans rfl
theorem e_X1_othersOf_35 (i0 : Nat) (x1 : Int32) (x2 : Int32) (x3 : Int32) (w : XW) : q_X1_othersOf_35 i0 x1 x2 x3 w = (q_X1_othersOf_4 i0 x1 x2 (x3 + 1) w) := (ev_eq _ _ _).trans rfl
theorem e_X1_othersOf_41 (x2 : Int32) (w : XW) : q_X1_othersOf_41 x2 w = (some (some (.inl (.int x2)), w)) := (ev_eq _ _ _).trans rfl
theorem f_X1_othersOf (i0 : Nat) (x1 : Int32) (w : XW) : F_X1_othersOf [.inr (1, i0), .inl (.int x1)] w = (q_X1_othersOf_0 i0 x1 w).bind pI := rfl

-- WinterKeep$Nights.wordOf(LWinterKeep$Scene;II)J
theorem dX4_wordOf_0 : decode cX4_wordOf 0 = .ok (.aload_n 0, 1) := by decide +kernel
theorem dX4_wordOf_1 : decode cX4_wordOf 1 = .ok (.getfield 9, 3) := by decide +kernel
theorem dX4_wordOf_4 : decode cX4_wordOf 4 = .ok (.getfield 58, 3) := by decide +kernel
theorem dX4_wordOf_7 : decode cX4_wordOf 7 = .ok (.iload_n 2, 1) := by decide +kernel
theorem dX4_wordOf_8 : decode cX4_wordOf 8 = .ok (.iaload, 1) := by decide +kernel
theorem dX4_wordOf_9 : decode cX4_wordOf 9 = .ok (.istore 4, 2) := by decide +kernel
theorem dX4_wordOf_11 : decode cX4_wordOf 11 = .ok (.iload_n 3, 1) := by decide +kernel
theorem dX4_wordOf_12 : decode cX4_wordOf 12 = .ok (.tableswitch 146 0 9 #[56, 59, 63, 71, 80, 92, 101, 113, 130, 140], 56) := by decide +kernel
theorem dX4_wordOf_68 : decode cX4_wordOf 68 = .ok (.iload_n 2, 1) := by decide +kernel
theorem dX4_wordOf_69 : decode cX4_wordOf 69 = .ok (.i2l, 1) := by decide +kernel
theorem dX4_wordOf_70 : decode cX4_wordOf 70 = .ok (.lreturn, 1) := by decide +kernel
theorem dX4_wordOf_71 : decode cX4_wordOf 71 = .ok (.iload 4, 2) := by decide +kernel
theorem dX4_wordOf_73 : decode cX4_wordOf 73 = .ok (.i2l, 1) := by decide +kernel
theorem dX4_wordOf_74 : decode cX4_wordOf 74 = .ok (.lreturn, 1) := by decide +kernel
theorem dX4_wordOf_75 : decode cX4_wordOf 75 = .ok (.aload_n 0, 1) := by decide +kernel
theorem dX4_wordOf_76 : decode cX4_wordOf 76 = .ok (.getfield 19, 3) := by decide +kernel
theorem dX4_wordOf_79 : decode cX4_wordOf 79 = .ok (.iload_n 2, 1) := by decide +kernel
theorem dX4_wordOf_80 : decode cX4_wordOf 80 = .ok (.iaload, 1) := by decide +kernel
theorem dX4_wordOf_81 : decode cX4_wordOf 81 = .ok (.i2l, 1) := by decide +kernel
theorem dX4_wordOf_82 : decode cX4_wordOf 82 = .ok (.lreturn, 1) := by decide +kernel
theorem dX4_wordOf_83 : decode cX4_wordOf 83 = .ok (.aload_n 1, 1) := by decide +kernel
theorem dX4_wordOf_84 : decode cX4_wordOf 84 = .ok (.getfield 65, 3) := by decide +kernel
theorem dX4_wordOf_87 : decode cX4_wordOf 87 = .ok (.iload 4, 2) := by decide +kernel
theorem dX4_wordOf_89 : decode cX4_wordOf 89 = .ok (.iaload, 1) := by decide +kernel
theorem dX4_wordOf_90 : decode cX4_wordOf 90 = .ok (.i2l, 1) := by decide +kernel
theorem dX4_wordOf_91 : decode cX4_wordOf 91 = .ok (.lreturn, 1) := by decide +kernel
theorem dX4_wordOf_92 : decode cX4_wordOf 92 = .ok (.aload_n 0, 1) := by decide +kernel
theorem dX4_wordOf_93 : decode cX4_wordOf 93 = .ok (.getfield 9, 3) := by decide +kernel
theorem dX4_wordOf_96 : decode cX4_wordOf 96 = .ok (.getfield 68, 3) := by decide +kernel
theorem dX4_wordOf_99 : decode cX4_wordOf 99 = .ok (.iload 4, 2) := by decide +kernel
theorem dX4_wordOf_101 : decode cX4_wordOf 101 = .ok (.iaload, 1) := by decide +kernel
theorem dX4_wordOf_102 : decode cX4_wordOf 102 = .ok (.i2l, 1) := by decide +kernel
theorem dX4_wordOf_103 : decode cX4_wordOf 103 = .ok (.lreturn, 1) := by decide +kernel
theorem dX4_wordOf_104 : decode cX4_wordOf 104 = .ok (.aload_n 1, 1) := by decide +kernel
theorem dX4_wordOf_105 : decode cX4_wordOf 105 = .ok (.getfield 103, 3) := by decide +kernel
theorem dX4_wordOf_108 : decode cX4_wordOf 108 = .ok (.iload 4, 2) := by decide +kernel
theorem dX4_wordOf_110 : decode cX4_wordOf 110 = .ok (.iaload, 1) := by decide +kernel
theorem dX4_wordOf_111 : decode cX4_wordOf 111 = .ok (.i2l, 1) := by decide +kernel
theorem dX4_wordOf_112 : decode cX4_wordOf 112 = .ok (.lreturn, 1) := by decide +kernel
theorem dX4_wordOf_113 : decode cX4_wordOf 113 = .ok (.aload_n 0, 1) := by decide +kernel
theorem dX4_wordOf_114 : decode cX4_wordOf 114 = .ok (.getfield 9, 3) := by decide +kernel
theorem dX4_wordOf_117 : decode cX4_wordOf 117 = .ok (.getfield 100, 3) := by decide +kernel
theorem dX4_wordOf_120 : decode cX4_wordOf 120 = .ok (.iload 4, 2) := by decide +kernel
theorem dX4_wordOf_122 : decode cX4_wordOf 122 = .ok (.iaload, 1) := by decide +kernel
theorem dX4_wordOf_123 : decode cX4_wordOf 123 = .ok (.i2l, 1) := by decide +kernel
theorem dX4_wordOf_124 : decode cX4_wordOf 124 = .ok (.lreturn, 1) := by decide +kernel
theorem dX4_wordOf_125 : decode cX4_wordOf 125 = .ok (.aload_n 1, 1) := by decide +kernel
theorem dX4_wordOf_126 : decode cX4_wordOf 126 = .ok (.getfield 91, 3) := by decide +kernel
theorem dX4_wordOf_129 : decode cX4_wordOf 129 = .ok (.iload 4, 2) := by decide +kernel
theorem dX4_wordOf_131 : decode cX4_wordOf 131 = .ok (.iaload, 1) := by decide +kernel
theorem dX4_wordOf_132 : decode cX4_wordOf 132 = .ok (.aload_n 0, 1) := by decide +kernel
theorem dX4_wordOf_133 : decode cX4_wordOf 133 = .ok (.getfield 30, 3) := by decide +kernel
theorem dX4_wordOf_136 : decode cX4_wordOf 136 = .ok (.iand, 1) := by decide +kernel
theorem dX4_wordOf_137 : decode cX4_wordOf 137 = .ok (.invokestatic 49, 3) := by decide +kernel
theorem dX4_wordOf_140 : decode cX4_wordOf 140 = .ok (.i2l, 1) := by decide +kernel
theorem dX4_wordOf_141 : decode cX4_wordOf 141 = .ok (.lreturn, 1) := by decide +kernel
theorem dX4_wordOf_142 : decode cX4_wordOf 142 = .ok (.aload_n 0, 1) := by decide +kernel
theorem dX4_wordOf_143 : decode cX4_wordOf 143 = .ok (.getfield 9, 3) := by decide +kernel
theorem dX4_wordOf_146 : decode cX4_wordOf 146 = .ok (.iload_n 2, 1) := by decide +kernel
theorem dX4_wordOf_147 : decode cX4_wordOf 147 = .ok (.invokevirtual 135, 3) := by decide +kernel
theorem dX4_wordOf_150 : decode cX4_wordOf 150 = .ok (.i2l, 1) := by decide +kernel
theorem dX4_wordOf_151 : decode cX4_wordOf 151 = .ok (.lreturn, 1) := by decide +kernel
theorem dX4_wordOf_152 : decode cX4_wordOf 152 = .ok (.aload_n 0, 1) := by decide +kernel
theorem dX4_wordOf_153 : decode cX4_wordOf 153 = .ok (.getfield 34, 3) := by decide +kernel
theorem dX4_wordOf_156 : decode cX4_wordOf 156 = .ok (.i2l, 1) := by decide +kernel
theorem dX4_wordOf_157 : decode cX4_wordOf 157 = .ok (.lreturn, 1) := by decide +kernel
theorem dX4_wordOf_158 : decode cX4_wordOf 158 = .ok (.aload_n 1, 1) := by decide +kernel
theorem dX4_wordOf_159 : decode cX4_wordOf 159 = .ok (.getfield 81, 3) := by decide +kernel
theorem dX4_wordOf_162 : decode cX4_wordOf 162 = .ok (.i2l, 1) := by decide +kernel
theorem dX4_wordOf_163 : decode cX4_wordOf 163 = .ok (.lreturn, 1) := by decide +kernel
theorem vc_X4_49 : XSw RX4 49 1 1 yJ6_bitCount_0f7a4 cJ6_bitCount_0f7a4 (some .int) := ⟨⟨by decide, by decide⟩, by decide +kernel, wt_689, wt_690, wt_21, wt_691⟩
theorem vc_X4_135 : XVw RX4 135 1 1 4 yX1_othersOf cX1_othersOf (some .int) := ⟨RX1, TX1, tyX1, 12, xk_1, rfl, ⟨by decide, by decide⟩, by decide +kernel, wt_707, wt_708, wt_709, wt_4, wt_710⟩
noncomputable def bs_X4_wordOf : List (Nat × XB) := [
  (0, (sq (xLA 0) (sq (xGD 3 0 1) (sq (xGS 1 16 0 0) (sq (xLI 2) (sq (xAI 16 5) (sq (xSI 4) (sq (xLI 3) (tSw [(0, 68), (1, 71), (2, 75), (3, 83), (4, 92), (5, 104), (6, 113), (7, 125), (8, 142), (9, 152)] 158 [true, true, true, false, true]))))))))),
  (68, (sq (xLI 2) (sq (xI2L) tRJ))),
  (71, (sq (xLI 4) (sq (xI2L) tRJ))),
  (75, (sq (xLA 0) (sq (xGS 3 19 0 0) (sq (xLI 2) (sq (xAI 19 5) (sq (xI2L) tRJ)))))),
  (83, (sq (xLA 1) (sq (xGS 8 30 0 0) (sq (xLI 4) (sq (xAI 30 6) (sq (xI2L) tRJ)))))),
  (92, (sq (xLA 0) (sq (xGD 3 0 1) (sq (xGS 1 13 0 0) (sq (xLI 4) (sq (xAI 13 6) (sq (xI2L) tRJ))))))),
  (104, (sq (xLA 1) (sq (xGS 8 31 0 0) (sq (xLI 4) (sq (xAI 31 6) (sq (xI2L) tRJ)))))),
  (113, (sq (xLA 0) (sq (xGD 3 0 1) (sq (xGS 1 14 0 0) (sq (xLI 4) (sq (xAI 14 6) (sq (xI2L) tRJ))))))),
  (125, (sq (xLA 1) (sq (xGS 8 33 0 0) (sq (xLI 4) (sq (xAI 33 6) (sq (xLA 0) (sq (xGI 3 5) (sq (xI2 (· &&& ·)) (sq (xCI 99 1 F_J6_bitCount_0f7a4) (sq (xI2L) tRJ)))))))))),
  (142, (sq (xLA 0) (sq (xGD 3 0 1) (sq (xLI 2) (sq (xCI 1 2 F_X1_othersOf) (sq (xI2L) tRJ)))))),
  (152, (sq (xLA 0) (sq (xGI 3 6) (sq (xI2L) tRJ)))),
  (158, (sq (xLA 1) (sq (xGI 8 1) (sq (xI2L) tRJ))))]
set_option maxRecDepth 100000 in
set_option maxHeartbeats 4000000 in
theorem s_X4_wordOf : ∀ X : XCtx, XE X → X.2.2.1.1 = cX4_wordOf → X.2.2.1.2.1 = 5 → X.2.2.1.2.2.1 = yX4_wordOf.cls → X.2.2.1.2.2.2.1 = (some .long) → X.1.2.2.2.1 = { frames := 1, cells := 0, slots := 0, locals := 23 } → SndBs X bs_X4_wordOf := by
  rintro ⟨⟨p, l, e, R, s⟩, Y, ⟨cc, nL, own, ret, Ts⟩, Z⟩ hE h1 h2 h3 h4 h5
  dsimp only at h1 h2 h3 h4 h5
  subst h1 h2 h3 h4 h5
  exact ⟨(n_sq (n_aload_n hE dX4_wordOf_0) (n_sq (n_getD hE xk_3 (k := 0) rfl (by decide) rfl wt_215 dX4_wordOf_1) (n_sq (n_getS hE xk_1 (k := 9) rfl (by decide) rfl wt_131 dX4_wordOf_4) (n_sq (n_iload_n hE dX4_wordOf_7) (n_sq (n_iald hE rfl (by decide) dX4_wordOf_8) (n_sq (n_istore hE (show (4 : Nat) < 5 by decide) dX4_wordOf_9) (n_sq (n_iload_n hE dX4_wordOf_11) (n_switch hE (lo32 := 0) (ts := [68, 71, 75, 83, 92, 104, 113, 125, 142, 152]) (by decide) (by decide) (by decide) (by decide) (by decide) (by decide) dX4_wordOf_12)))))))),
    (n_sq (n_iload_n hE dX4_wordOf_68) (n_sq (n_i2l hE dX4_wordOf_69) (n_lreturn hE rfl dX4_wordOf_70))),
    (n_sq (n_iload hE dX4_wordOf_71) (n_sq (n_i2l hE dX4_wordOf_73) (n_lreturn hE rfl dX4_wordOf_74))),
    (n_sq (n_aload_n hE dX4_wordOf_75) (n_sq (n_getS hE xk_3 (k := 2) rfl (by decide) rfl wt_217 dX4_wordOf_76) (n_sq (n_iload_n hE dX4_wordOf_79) (n_sq (n_iald hE rfl (by decide) dX4_wordOf_80) (n_sq (n_i2l hE dX4_wordOf_81) (n_lreturn hE rfl dX4_wordOf_82)))))),
    (n_sq (n_aload_n hE dX4_wordOf_83) (n_sq (n_getS hE xk_8 (k := 2) rfl (by decide) rfl wt_180 dX4_wordOf_84) (n_sq (n_iload hE dX4_wordOf_87) (n_sq (n_iald hE rfl (by decide) dX4_wordOf_89) (n_sq (n_i2l hE dX4_wordOf_90) (n_lreturn hE rfl dX4_wordOf_91)))))),
    (n_sq (n_aload_n hE dX4_wordOf_92) (n_sq (n_getD hE xk_3 (k := 0) rfl (by decide) rfl wt_215 dX4_wordOf_93) (n_sq (n_getS hE xk_1 (k := 6) rfl (by decide) rfl wt_120 dX4_wordOf_96) (n_sq (n_iload hE dX4_wordOf_99) (n_sq (n_iald hE rfl (by decide) dX4_wordOf_101) (n_sq (n_i2l hE dX4_wordOf_102) (n_lreturn hE rfl dX4_wordOf_103))))))),
    (n_sq (n_aload_n hE dX4_wordOf_104) (n_sq (n_getS hE xk_8 (k := 3) rfl (by decide) rfl wt_185 dX4_wordOf_105) (n_sq (n_iload hE dX4_wordOf_108) (n_sq (n_iald hE rfl (by decide) dX4_wordOf_110) (n_sq (n_i2l hE dX4_wordOf_111) (n_lreturn hE rfl dX4_wordOf_112)))))),
    (n_sq (n_aload_n hE dX4_wordOf_113) (n_sq (n_getD hE xk_3 (k := 0) rfl (by decide) rfl wt_215 dX4_wordOf_114) (n_sq (n_getS hE xk_1 (k := 7) rfl (by decide) rfl wt_124 dX4_wordOf_117) (n_sq (n_iload hE dX4_wordOf_120) (n_sq (n_iald hE rfl (by decide) dX4_wordOf_122) (n_sq (n_i2l hE dX4_wordOf_123) (n_lreturn hE rfl dX4_wordOf_124))))))),
    (n_sq (n_aload_n hE dX4_wordOf_125) (n_sq (n_getS hE xk_8 (k := 5) rfl (by decide) rfl wt_194 dX4_wordOf_126) (n_sq (n_iload hE dX4_wordOf_129) (n_sq (n_iald hE rfl (by decide) dX4_wordOf_131) (n_sq (n_aload_n hE dX4_wordOf_132) (n_sq (n_getI hE xk_3 (k := 5) rfl (by decide) rfl wt_220 dX4_wordOf_133) (n_sq (n_iand hE dX4_wordOf_136) (n_sq (n_cIs hE m_J6_bitCount_0f7a4 vc_X4_49 (show 0 + 1 ≤ 1 ∧ 8 + (1 + 11) + 0 ≤ 23 by decide) dX4_wordOf_137) (n_sq (n_i2l hE dX4_wordOf_140) (n_lreturn hE rfl dX4_wordOf_141)))))))))),
    (n_sq (n_aload_n hE dX4_wordOf_142) (n_sq (n_getD hE xk_3 (k := 0) rfl (by decide) rfl wt_215 dX4_wordOf_143) (n_sq (n_iload_n hE dX4_wordOf_146) (n_sq (n_cIv hE m_X1_othersOf vc_X4_135 (show 0 + 1 ≤ 1 ∧ 8 + (4 + 11) + 0 ≤ 23 by decide) dX4_wordOf_147) (n_sq (n_i2l hE dX4_wordOf_150) (n_lreturn hE rfl dX4_wordOf_151)))))),
    (n_sq (n_aload_n hE dX4_wordOf_152) (n_sq (n_getI hE xk_3 (k := 6) rfl (by decide) rfl wt_221 dX4_wordOf_153) (n_sq (n_i2l hE dX4_wordOf_156) (n_lreturn hE rfl dX4_wordOf_157)))),
    (n_sq (n_aload_n hE dX4_wordOf_158) (n_sq (n_getI hE xk_8 (k := 1) rfl (by decide) rfl wt_176 dX4_wordOf_159) (n_sq (n_i2l hE dX4_wordOf_162) (n_lreturn hE rfl dX4_wordOf_163)))), trivial⟩
noncomputable def F_X4_wordOf (as : List XV) (w : XW) : Option (Int64 × XW) := (xF 5 bs_X4_wordOf as w).bind pJ
theorem m_X4_wordOf : XM yX4_wordOf cX4_wordOf 5 (some .long) 1 23 (eJ F_X4_wordOf) := xm_J (xm_of (by decide) s_X4_wordOf)
noncomputable def q_X4_wordOf_0 (i1 : Nat) (x2 : Int32) (x3 : Int32) (w : XW) : Option XR := ev bs_X4_wordOf 0 ([some (.inr (3, 0)), some (.inr (8, i1)), some (.inl (.int x2)), some (.inl (.int x3)), none], [], w)
noncomputable def q_X4_wordOf_68 (i1 : Nat) (x2 : Int32) (x4 : Int32) (w : XW) : Option XR := ev bs_X4_wordOf 68 ([some (.inr (3, 0)), some (.inr (8, i1)), some (.inl (.int x2)), none, some (.inl (.int x4))], [], w)
noncomputable def q_X4_wordOf_71 (i1 : Nat) (x2 : Int32) (x4 : Int32) (w : XW) : Option XR := ev bs_X4_wordOf 71 ([some (.inr (3, 0)), some (.inr (8, i1)), some (.inl (.int x2)), none, some (.inl (.int x4))], [], w)
noncomputable def q_X4_wordOf_75 (i1 : Nat) (x2 : Int32) (x4 : Int32) (w : XW) : Option XR := ev bs_X4_wordOf 75 ([some (.inr (3, 0)), some (.inr (8, i1)), some (.inl (.int x2)), none, some (.inl (.int x4))], [], w)
noncomputable def q_X4_wordOf_83 (i1 : Nat) (x2 : Int32) (x4 : Int32) (w : XW) : Option XR := ev bs_X4_wordOf 83 ([some (.inr (3, 0)), some (.inr (8, i1)), some (.inl (.int x2)), none, some (.inl (.int x4))], [], w)
noncomputable def q_X4_wordOf_92 (i1 : Nat) (x2 : Int32) (x4 : Int32) (w : XW) : Option XR := ev bs_X4_wordOf 92 ([some (.inr (3, 0)), some (.inr (8, i1)), some (.inl (.int x2)), none, some (.inl (.int x4))], [], w)
noncomputable def q_X4_wordOf_104 (i1 : Nat) (x2 : Int32) (x4 : Int32) (w : XW) : Option XR := ev bs_X4_wordOf 104 ([some (.inr (3, 0)), some (.inr (8, i1)), some (.inl (.int x2)), none, some (.inl (.int x4))], [], w)
noncomputable def q_X4_wordOf_113 (i1 : Nat) (x2 : Int32) (x4 : Int32) (w : XW) : Option XR := ev bs_X4_wordOf 113 ([some (.inr (3, 0)), some (.inr (8, i1)), some (.inl (.int x2)), none, some (.inl (.int x4))], [], w)
noncomputable def q_X4_wordOf_125 (i1 : Nat) (x2 : Int32) (x4 : Int32) (w : XW) : Option XR := ev bs_X4_wordOf 125 ([some (.inr (3, 0)), some (.inr (8, i1)), some (.inl (.int x2)), none, some (.inl (.int x4))], [], w)
noncomputable def q_X4_wordOf_142 (i1 : Nat) (x2 : Int32) (x4 : Int32) (w : XW) : Option XR := ev bs_X4_wordOf 142 ([some (.inr (3, 0)), some (.inr (8, i1)), some (.inl (.int x2)), none, some (.inl (.int x4))], [], w)
noncomputable def q_X4_wordOf_152 (i1 : Nat) (x2 : Int32) (x4 : Int32) (w : XW) : Option XR := ev bs_X4_wordOf 152 ([some (.inr (3, 0)), some (.inr (8, i1)), some (.inl (.int x2)), none, some (.inl (.int x4))], [], w)
noncomputable def q_X4_wordOf_158 (i1 : Nat) (x2 : Int32) (x4 : Int32) (w : XW) : Option XR := ev bs_X4_wordOf 158 ([some (.inr (3, 0)), some (.inr (8, i1)), some (.inl (.int x2)), none, some (.inl (.int x4))], [], w)
theorem e_X4_wordOf_0 (i1 : Nat) (x2 : Int32) (x3 : Int32) (w : XW) : q_X4_wordOf_0 i1 x2 x3 w = ((gR w 3 0 0).bind fun j0 => (if x2 < 0 ∨ 5 ≤ x2.toNatClampNeg then none else (bif x3 == 0 then (q_X4_wordOf_68 i1 x2 (gI w 16 j0 x2.toNatClampNeg) w) else (bif x3 == 1 then (q_X4_wordOf_71 i1 x2 (gI w 16 j0 x2.toNatClampNeg) w) else (bif x3 == 2 then (q_X4_wordOf_75 i1 x2 (gI w 16 j0 x2.toNatClampNeg) w) else (bif x3 == 3 then (q_X4_wordOf_83 i1 x2 (gI w 16 j0 x2.toNatClampNeg) w) else (bif x3 == 4 then (q_X4_wordOf_92 i1 x2 (gI w 16 j0 x2.toNatClampNeg) w) else (bif x3 == 5 then (q_X4_wordOf_104 i1 x2 (gI w 16 j0 x2.toNatClampNeg) w) else (bif x3 == 6 then (q_X4_wordOf_113 i1 x2 (gI w 16 j0 x2.toNatClampNeg) w) else (bif x3 == 7 then (q_X4_wordOf_125 i1 x2 (gI w 16 j0 x2.toNatClampNeg) w) else (bif x3 == 8 then (q_X4_wordOf_142 i1 x2 (gI w 16 j0 x2.toNatClampNeg) w) else (bif x3 == 9 then (q_X4_wordOf_152 i1 x2 (gI w 16 j0 x2.toNatClampNeg) w) else (q_X4_wordOf_158 i1 x2 (gI w 16 j0 x2.toNatClampNeg) w))))))))))))) := (ev_eq _ _ _).trans rfl
theorem e_X4_wordOf_68 (i1 : Nat) (x2 : Int32) (x4 : Int32) (w : XW) : q_X4_wordOf_68 i1 x2 x4 w = (some (some (.inl (.long (x2 : Int32).toInt64)), w)) := (ev_eq _ _ _).trans rfl
theorem e_X4_wordOf_71 (i1 : Nat) (x2 : Int32) (x4 : Int32) (w : XW) : q_X4_wordOf_71 i1 x2 x4 w = (some (some (.inl (.long (x4 : Int32).toInt64)), w)) := (ev_eq _ _ _).trans rfl
theorem e_X4_wordOf_75 (i1 : Nat) (x2 : Int32) (x4 : Int32) (w : XW) : q_X4_wordOf_75 i1 x2 x4 w = (if x2 < 0 ∨ 5 ≤ x2.toNatClampNeg then none else (some (some (.inl (.long (gI w 19 0 x2.toNatClampNeg).toInt64)), w))) := (ev_eq _ _ _).trans rfl
theorem e_X4_wordOf_83 (i1 : Nat) (x2 : Int32) (x4 : Int32) (w : XW) : q_X4_wordOf_83 i1 x2 x4 w = (if x4 < 0 ∨ 6 ≤ x4.toNatClampNeg then none else (some (some (.inl (.long (gI w 30 i1 x4.toNatClampNeg).toInt64)), w))) := (ev_eq _ _ _).trans rfl
theorem e_X4_wordOf_92 (i1 : Nat) (x2 : Int32) (x4 : Int32) (w : XW) : q_X4_wordOf_92 i1 x2 x4 w = ((gR w 3 0 0).bind fun j0 => (if x4 < 0 ∨ 6 ≤ x4.toNatClampNeg then none else (some (some (.inl (.long (gI w 13 j0 x4.toNatClampNeg).toInt64)), w)))) := (ev_eq _ _ _).trans rfl
theorem e_X4_wordOf_104 (i1 : Nat) (x2 : Int32) (x4 : Int32) (w : XW) : q_X4_wordOf_104 i1 x2 x4 w = (if x4 < 0 ∨ 6 ≤ x4.toNatClampNeg then none else (some (some (.inl (.long (gI w 31 i1 x4.toNatClampNeg).toInt64)), w))) := (ev_eq _ _ _).trans rfl
theorem e_X4_wordOf_113 (i1 : Nat) (x2 : Int32) (x4 : Int32) (w : XW) : q_X4_wordOf_113 i1 x2 x4 w = ((gR w 3 0 0).bind fun j0 => (if x4 < 0 ∨ 6 ≤ x4.toNatClampNeg then none else (some (some (.inl (.long (gI w 14 j0 x4.toNatClampNeg).toInt64)), w)))) := (ev_eq _ _ _).trans rfl
theorem e_X4_wordOf_125 (i1 : Nat) (x2 : Int32) (x4 : Int32) (w : XW) : q_X4_wordOf_125 i1 x2 x4 w = (if x4 < 0 ∨ 6 ≤ x4.toNatClampNeg then none else ((F_J6_bitCount_0f7a4 [.inl (.int ((gI w 33 i1 x4.toNatClampNeg) &&& (gI w 3 0 5)))] w).bind fun r0 => (some (some (.inl (.long (r0.1 : Int32).toInt64)), r0.2)))) := (ev_eq _ _ _).trans rfl
theorem e_X4_wordOf_142 (i1 : Nat) (x2 : Int32) (x4 : Int32) (w : XW) : q_X4_wordOf_142 i1 x2 x4 w = ((gR w 3 0 0).bind fun j0 => ((F_X1_othersOf [.inr (1, j0), .inl (.int x2)] w).bind fun r1 => (some (some (.inl (.long (r1.1 : Int32).toInt64)), r1.2)))) := (ev_eq _ _ _).trans rfl
theorem e_X4_wordOf_152 (i1 : Nat) (x2 : Int32) (x4 : Int32) (w : XW) : q_X4_wordOf_152 i1 x2 x4 w = (some (some (.inl (.long (gI w 3 0 6).toInt64)), w)) := (ev_eq _ _ _).trans rfl
theorem e_X4_wordOf_158 (i1 : Nat) (x2 : Int32) (x4 : Int32) (w : XW) : q_X4_wordOf_158 i1 x2 x4 w = (some (some (.inl (.long (gI w 8 i1 1).toInt64)), w)) := (ev_eq _ _ _).trans rfl
theorem f_X4_wordOf (i1 : Nat) (x2 : Int32) (x3 : Int32) (w : XW) : F_X4_wordOf [.inr (3, 0), .inr (8, i1), .inl (.int x2), .inl (.int x3)] w = (q_X4_wordOf_0 i1 x2 x3 w).bind pJ := rfl

-- WinterKeep$Nights.done(IJJ)J
theorem dX4_done_0 : decode cX4_done 0 = .ok (.iload_n 0, 1) := by decide +kernel
theorem dX4_done_1 : decode cX4_done 1 = .ok (.tableswitch 167 (-31) (-20) #[163, 167, 151, 139, 127, 115, 103, 89, 75, 71, 67, 63], 63) := by decide +kernel
theorem dX4_done_64 : decode cX4_done 64 = .ok (.lload_n 1, 1) := by decide +kernel
theorem dX4_done_65 : decode cX4_done 65 = .ok (.lload_n 3, 1) := by decide +kernel
theorem dX4_done_66 : decode cX4_done 66 = .ok (.ladd, 1) := by decide +kernel
theorem dX4_done_67 : decode cX4_done 67 = .ok (.lreturn, 1) := by decide +kernel
theorem dX4_done_68 : decode cX4_done 68 = .ok (.lload_n 1, 1) := by decide +kernel
theorem dX4_done_69 : decode cX4_done 69 = .ok (.lload_n 3, 1) := by decide +kernel
theorem dX4_done_70 : decode cX4_done 70 = .ok (.lsub, 1) := by decide +kernel
theorem dX4_done_71 : decode cX4_done 71 = .ok (.lreturn, 1) := by decide +kernel
theorem dX4_done_72 : decode cX4_done 72 = .ok (.lload_n 1, 1) := by decide +kernel
theorem dX4_done_73 : decode cX4_done 73 = .ok (.lload_n 3, 1) := by decide +kernel
theorem dX4_done_74 : decode cX4_done 74 = .ok (.lmul, 1) := by decide +kernel
theorem dX4_done_75 : decode cX4_done 75 = .ok (.lreturn, 1) := by decide +kernel
theorem dX4_done_76 : decode cX4_done 76 = .ok (.lload_n 3, 1) := by decide +kernel
theorem dX4_done_77 : decode cX4_done 77 = .ok (.lconst 0, 1) := by decide +kernel
theorem dX4_done_78 : decode cX4_done 78 = .ok (.lcmp, 1) := by decide +kernel
theorem dX4_done_79 : decode cX4_done 79 = .ok (.ifCond .ne 7, 3) := by decide +kernel
theorem dX4_done_82 : decode cX4_done 82 = .ok (.lconst 0, 1) := by decide +kernel
theorem dX4_done_83 : decode cX4_done 83 = .ok (.goto 6, 3) := by decide +kernel
theorem dX4_done_86 : decode cX4_done 86 = .ok (.lload_n 1, 1) := by decide +kernel
theorem dX4_done_87 : decode cX4_done 87 = .ok (.lload_n 3, 1) := by decide +kernel
theorem dX4_done_88 : decode cX4_done 88 = .ok (.ldiv, 1) := by decide +kernel
theorem dX4_done_89 : decode cX4_done 89 = .ok (.lreturn, 1) := by decide +kernel
theorem dX4_done_90 : decode cX4_done 90 = .ok (.lload_n 3, 1) := by decide +kernel
theorem dX4_done_91 : decode cX4_done 91 = .ok (.lconst 0, 1) := by decide +kernel
theorem dX4_done_92 : decode cX4_done 92 = .ok (.lcmp, 1) := by decide +kernel
theorem dX4_done_93 : decode cX4_done 93 = .ok (.ifCond .ne 7, 3) := by decide +kernel
theorem dX4_done_96 : decode cX4_done 96 = .ok (.lconst 0, 1) := by decide +kernel
theorem dX4_done_97 : decode cX4_done 97 = .ok (.goto 6, 3) := by decide +kernel
theorem dX4_done_100 : decode cX4_done 100 = .ok (.lload_n 1, 1) := by decide +kernel
theorem dX4_done_101 : decode cX4_done 101 = .ok (.lload_n 3, 1) := by decide +kernel
theorem dX4_done_102 : decode cX4_done 102 = .ok (.lrem, 1) := by decide +kernel
theorem dX4_done_103 : decode cX4_done 103 = .ok (.lreturn, 1) := by decide +kernel
theorem dX4_done_104 : decode cX4_done 104 = .ok (.lload_n 1, 1) := by decide +kernel
theorem dX4_done_105 : decode cX4_done 105 = .ok (.lload_n 3, 1) := by decide +kernel
theorem dX4_done_106 : decode cX4_done 106 = .ok (.lcmp, 1) := by decide +kernel
theorem dX4_done_107 : decode cX4_done 107 = .ok (.ifCond .ge 7, 3) := by decide +kernel
theorem dX4_done_110 : decode cX4_done 110 = .ok (.lconst 1, 1) := by decide +kernel
theorem dX4_done_111 : decode cX4_done 111 = .ok (.goto 4, 3) := by decide +kernel
theorem dX4_done_114 : decode cX4_done 114 = .ok (.lconst 0, 1) := by decide +kernel
theorem dX4_done_115 : decode cX4_done 115 = .ok (.lreturn, 1) := by decide +kernel
theorem dX4_done_116 : decode cX4_done 116 = .ok (.lload_n 1, 1) := by decide +kernel
theorem dX4_done_117 : decode cX4_done 117 = .ok (.lload_n 3, 1) := by decide +kernel
theorem dX4_done_118 : decode cX4_done 118 = .ok (.lcmp, 1) := by decide +kernel
theorem dX4_done_119 : decode cX4_done 119 = .ok (.ifCond .gt 7, 3) := by decide +kernel
theorem dX4_done_122 : decode cX4_done 122 = .ok (.lconst 1, 1) := by decide +kernel
theorem dX4_done_123 : decode cX4_done 123 = .ok (.goto 4, 3) := by decide +kernel
theorem dX4_done_126 : decode cX4_done 126 = .ok (.lconst 0, 1) := by decide +kernel
theorem dX4_done_127 : decode cX4_done 127 = .ok (.lreturn, 1) := by decide +kernel
theorem dX4_done_128 : decode cX4_done 128 = .ok (.lload_n 1, 1) := by decide +kernel
theorem dX4_done_129 : decode cX4_done 129 = .ok (.lload_n 3, 1) := by decide +kernel
theorem dX4_done_130 : decode cX4_done 130 = .ok (.lcmp, 1) := by decide +kernel
theorem dX4_done_131 : decode cX4_done 131 = .ok (.ifCond .ne 7, 3) := by decide +kernel
theorem dX4_done_134 : decode cX4_done 134 = .ok (.lconst 1, 1) := by decide +kernel
theorem dX4_done_135 : decode cX4_done 135 = .ok (.goto 4, 3) := by decide +kernel
theorem dX4_done_138 : decode cX4_done 138 = .ok (.lconst 0, 1) := by decide +kernel
theorem dX4_done_139 : decode cX4_done 139 = .ok (.lreturn, 1) := by decide +kernel
theorem dX4_done_140 : decode cX4_done 140 = .ok (.lload_n 1, 1) := by decide +kernel
theorem dX4_done_141 : decode cX4_done 141 = .ok (.lload_n 3, 1) := by decide +kernel
theorem dX4_done_142 : decode cX4_done 142 = .ok (.lcmp, 1) := by decide +kernel
theorem dX4_done_143 : decode cX4_done 143 = .ok (.ifCond .lt 7, 3) := by decide +kernel
theorem dX4_done_146 : decode cX4_done 146 = .ok (.lconst 1, 1) := by decide +kernel
theorem dX4_done_147 : decode cX4_done 147 = .ok (.goto 4, 3) := by decide +kernel
theorem dX4_done_150 : decode cX4_done 150 = .ok (.lconst 0, 1) := by decide +kernel
theorem dX4_done_151 : decode cX4_done 151 = .ok (.lreturn, 1) := by decide +kernel
theorem dX4_done_152 : decode cX4_done 152 = .ok (.lload_n 1, 1) := by decide +kernel
theorem dX4_done_153 : decode cX4_done 153 = .ok (.lload_n 3, 1) := by decide +kernel
theorem dX4_done_154 : decode cX4_done 154 = .ok (.lcmp, 1) := by decide +kernel
theorem dX4_done_155 : decode cX4_done 155 = .ok (.ifCond .le 7, 3) := by decide +kernel
theorem dX4_done_158 : decode cX4_done 158 = .ok (.lconst 1, 1) := by decide +kernel
theorem dX4_done_159 : decode cX4_done 159 = .ok (.goto 4, 3) := by decide +kernel
theorem dX4_done_162 : decode cX4_done 162 = .ok (.lconst 0, 1) := by decide +kernel
theorem dX4_done_163 : decode cX4_done 163 = .ok (.lreturn, 1) := by decide +kernel
theorem dX4_done_164 : decode cX4_done 164 = .ok (.lload_n 1, 1) := by decide +kernel
theorem dX4_done_165 : decode cX4_done 165 = .ok (.lload_n 3, 1) := by decide +kernel
theorem dX4_done_166 : decode cX4_done 166 = .ok (.land, 1) := by decide +kernel
theorem dX4_done_167 : decode cX4_done 167 = .ok (.lreturn, 1) := by decide +kernel
theorem dX4_done_168 : decode cX4_done 168 = .ok (.lload_n 1, 1) := by decide +kernel
theorem dX4_done_169 : decode cX4_done 169 = .ok (.lload_n 3, 1) := by decide +kernel
theorem dX4_done_170 : decode cX4_done 170 = .ok (.lor, 1) := by decide +kernel
theorem dX4_done_171 : decode cX4_done 171 = .ok (.lreturn, 1) := by decide +kernel
noncomputable def bs_X4_done : List (Nat × XB) := [
  (0, (sq (xLI 0) (tSw [((-31), 164), ((-30), 168), ((-29), 152), ((-28), 140), ((-27), 128), ((-26), 116), ((-25), 104), ((-24), 90), ((-23), 76), ((-22), 72), ((-21), 68), ((-20), 64)] 168 [false, true, false, true, false]))),
  (64, (sq (xLJ 1) (sq (xLJ 3) (sq (xJ2 (· + ·)) tRJ)))),
  (68, (sq (xLJ 1) (sq (xLJ 3) (sq (xJ2 (· - ·)) tRJ)))),
  (72, (sq (xLJ 1) (sq (xLJ 3) (sq (xJ2 (· * ·)) tRJ)))),
  (76, (sq (xLJ 3) (sq (xC (.long 0)) (sq (xJcmp) (tIf1 (fun x => decide (¬ x = 0)) 86 [false, true, false, true, false] 82 [false, false, false, false, false]))))),
  (82, (sq (xC (.long 0)) (tGo 89 [false, false, false, false, false]))),
  (86, (sq (xLJ 1) (sq (xLJ 3) (sq (xJ2z (· / ·)) (tGo 89 [false, false, false, false, false]))))),
  (89, tRJ),
  (90, (sq (xLJ 3) (sq (xC (.long 0)) (sq (xJcmp) (tIf1 (fun x => decide (¬ x = 0)) 100 [false, true, false, true, false] 96 [false, false, false, false, false]))))),
  (96, (sq (xC (.long 0)) (tGo 103 [false, false, false, false, false]))),
  (100, (sq (xLJ 1) (sq (xLJ 3) (sq (xJ2z (fun x y => x - x / y * y)) (tGo 103 [false, false, false, false, false]))))),
  (103, tRJ),
  (104, (sq (xLJ 1) (sq (xLJ 3) (sq (xJcmp) (tIf1 (fun x => decide (0 ≤ x)) 114 [false, false, false, false, false] 110 [false, false, false, false, false]))))),
  (110, (sq (xC (.long 1)) (tGo 115 [false, false, false, false, false]))),
  (114, (sq (xC (.long 0)) (tGo 115 [false, false, false, false, false]))),
  (115, tRJ),
  (116, (sq (xLJ 1) (sq (xLJ 3) (sq (xJcmp) (tIf1 (fun x => decide (0 < x)) 126 [false, false, false, false, false] 122 [false, false, false, false, false]))))),
  (122, (sq (xC (.long 1)) (tGo 127 [false, false, false, false, false]))),
  (126, (sq (xC (.long 0)) (tGo 127 [false, false, false, false, false]))),
  (127, tRJ),
  (128, (sq (xLJ 1) (sq (xLJ 3) (sq (xJcmp) (tIf1 (fun x => decide (¬ x = 0)) 138 [false, false, false, false, false] 134 [false, false, false, false, false]))))),
  (134, (sq (xC (.long 1)) (tGo 139 [false, false, false, false, false]))),
  (138, (sq (xC (.long 0)) (tGo 139 [false, false, false, false, false]))),
  (139, tRJ),
  (140, (sq (xLJ 1) (sq (xLJ 3) (sq (xJcmp) (tIf1 (fun x => decide (x < 0)) 150 [false, false, false, false, false] 146 [false, false, false, false, false]))))),
  (146, (sq (xC (.long 1)) (tGo 151 [false, false, false, false, false]))),
  (150, (sq (xC (.long 0)) (tGo 151 [false, false, false, false, false]))),
  (151, tRJ),
  (152, (sq (xLJ 1) (sq (xLJ 3) (sq (xJcmp) (tIf1 (fun x => decide (x ≤ 0)) 162 [false, false, false, false, false] 158 [false, false, false, false, false]))))),
  (158, (sq (xC (.long 1)) (tGo 163 [false, false, false, false, false]))),
  (162, (sq (xC (.long 0)) (tGo 163 [false, false, false, false, false]))),
  (163, tRJ),
  (164, (sq (xLJ 1) (sq (xLJ 3) (sq (xJ2 (· &&& ·)) tRJ)))),
  (168, (sq (xLJ 1) (sq (xLJ 3) (sq (xJ2 (· ||| ·)) tRJ))))]
set_option maxRecDepth 100000 in
set_option maxHeartbeats 4000000 in
theorem s_X4_done : ∀ X : XCtx, XE X → X.2.2.1.1 = cX4_done → X.2.2.1.2.1 = 5 → X.2.2.1.2.2.1 = yX4_done.cls → X.2.2.1.2.2.2.1 = (some .long) → X.1.2.2.2.1 = { frames := 0, cells := 0, slots := 0, locals := 0 } → SndBs X bs_X4_done := by
  rintro ⟨⟨p, l, e, R, s⟩, Y, ⟨cc, nL, own, ret, Ts⟩, Z⟩ hE h1 h2 h3 h4 h5
  dsimp only at h1 h2 h3 h4 h5
  subst h1 h2 h3 h4 h5
  exact ⟨(n_sq (n_iload_n hE dX4_done_0) (n_switch hE (lo32 := (-31)) (ts := [164, 168, 152, 140, 128, 116, 104, 90, 76, 72, 68, 64]) (by decide) (by decide) (by decide) (by decide) (by decide) (by decide) dX4_done_1)),
    (n_sq (n_lload_n hE dX4_done_64) (n_sq (n_lload_n hE dX4_done_65) (n_sq (n_ladd hE dX4_done_66) (n_lreturn hE rfl dX4_done_67)))),
    (n_sq (n_lload_n hE dX4_done_68) (n_sq (n_lload_n hE dX4_done_69) (n_sq (n_lsub hE dX4_done_70) (n_lreturn hE rfl dX4_done_71)))),
    (n_sq (n_lload_n hE dX4_done_72) (n_sq (n_lload_n hE dX4_done_73) (n_sq (n_lmul hE dX4_done_74) (n_lreturn hE rfl dX4_done_75)))),
    (n_sq (n_lload_n hE dX4_done_76) (n_sq (n_lconst hE (by decide) dX4_done_77) (n_sq (n_lcmp hE dX4_done_78) (n_ifne hE (by decide) dX4_done_79)))),
    (n_sq (n_lconst hE (by decide) dX4_done_82) (n_goto hE (by decide) dX4_done_83)),
    (n_sq (n_lload_n hE dX4_done_86) (n_sq (n_lload_n hE dX4_done_87) (n_sq (n_ldiv hE dX4_done_88) n_fall))),
    (n_lreturn hE rfl dX4_done_89),
    (n_sq (n_lload_n hE dX4_done_90) (n_sq (n_lconst hE (by decide) dX4_done_91) (n_sq (n_lcmp hE dX4_done_92) (n_ifne hE (by decide) dX4_done_93)))),
    (n_sq (n_lconst hE (by decide) dX4_done_96) (n_goto hE (by decide) dX4_done_97)),
    (n_sq (n_lload_n hE dX4_done_100) (n_sq (n_lload_n hE dX4_done_101) (n_sq (n_lrem hE dX4_done_102) n_fall))),
    (n_lreturn hE rfl dX4_done_103),
    (n_sq (n_lload_n hE dX4_done_104) (n_sq (n_lload_n hE dX4_done_105) (n_sq (n_lcmp hE dX4_done_106) (n_ifge hE (by decide) dX4_done_107)))),
    (n_sq (n_lconst hE (by decide) dX4_done_110) (n_goto hE (by decide) dX4_done_111)),
    (n_sq (n_lconst hE (by decide) dX4_done_114) n_fall),
    (n_lreturn hE rfl dX4_done_115),
    (n_sq (n_lload_n hE dX4_done_116) (n_sq (n_lload_n hE dX4_done_117) (n_sq (n_lcmp hE dX4_done_118) (n_ifgt hE (by decide) dX4_done_119)))),
    (n_sq (n_lconst hE (by decide) dX4_done_122) (n_goto hE (by decide) dX4_done_123)),
    (n_sq (n_lconst hE (by decide) dX4_done_126) n_fall),
    (n_lreturn hE rfl dX4_done_127),
    (n_sq (n_lload_n hE dX4_done_128) (n_sq (n_lload_n hE dX4_done_129) (n_sq (n_lcmp hE dX4_done_130) (n_ifne hE (by decide) dX4_done_131)))),
    (n_sq (n_lconst hE (by decide) dX4_done_134) (n_goto hE (by decide) dX4_done_135)),
    (n_sq (n_lconst hE (by decide) dX4_done_138) n_fall),
    (n_lreturn hE rfl dX4_done_139),
    (n_sq (n_lload_n hE dX4_done_140) (n_sq (n_lload_n hE dX4_done_141) (n_sq (n_lcmp hE dX4_done_142) (n_iflt hE (by decide) dX4_done_143)))),
    (n_sq (n_lconst hE (by decide) dX4_done_146) (n_goto hE (by decide) dX4_done_147)),
    (n_sq (n_lconst hE (by decide) dX4_done_150) n_fall),
    (n_lreturn hE rfl dX4_done_151),
    (n_sq (n_lload_n hE dX4_done_152) (n_sq (n_lload_n hE dX4_done_153) (n_sq (n_lcmp hE dX4_done_154) (n_ifle hE (by decide) dX4_done_155)))),
    (n_sq (n_lconst hE (by decide) dX4_done_158) (n_goto hE (by decide) dX4_done_159)),
    (n_sq (n_lconst hE (by decide) dX4_done_162) n_fall),
    (n_lreturn hE rfl dX4_done_163),
    (n_sq (n_lload_n hE dX4_done_164) (n_sq (n_lload_n hE dX4_done_165) (n_sq (n_land hE dX4_done_166) (n_lreturn hE rfl dX4_done_167)))),
    (n_sq (n_lload_n hE dX4_done_168) (n_sq (n_lload_n hE dX4_done_169) (n_sq (n_lor hE dX4_done_170) (n_lreturn hE rfl dX4_done_171)))), trivial⟩
noncomputable def F_X4_done (as : List XV) (w : XW) : Option (Int64 × XW) := (xF 5 bs_X4_done as w).bind pJ
theorem m_X4_done : XM yX4_done cX4_done 5 (some .long) 0 0 (eJ F_X4_done) := xm_J (xm_of (by decide) s_X4_done)
noncomputable def q_X4_done_0 (x0 : Int32) (y1 : Int64) (y3 : Int64) (w : XW) : Option XR := ev bs_X4_done 0 ([some (.inl (.int x0)), some (.inl (.long y1)), none, some (.inl (.long y3)), none], [], w)
noncomputable def q_X4_done_64 (y1 : Int64) (y3 : Int64) (w : XW) : Option XR := ev bs_X4_done 64 ([none, some (.inl (.long y1)), none, some (.inl (.long y3)), none], [], w)
noncomputable def q_X4_done_68 (y1 : Int64) (y3 : Int64) (w : XW) : Option XR := ev bs_X4_done 68 ([none, some (.inl (.long y1)), none, some (.inl (.long y3)), none], [], w)
noncomputable def q_X4_done_72 (y1 : Int64) (y3 : Int64) (w : XW) : Option XR := ev bs_X4_done 72 ([none, some (.inl (.long y1)), none, some (.inl (.long y3)), none], [], w)
noncomputable def q_X4_done_76 (y1 : Int64) (y3 : Int64) (w : XW) : Option XR := ev bs_X4_done 76 ([none, some (.inl (.long y1)), none, some (.inl (.long y3)), none], [], w)
noncomputable def q_X4_done_82 (w : XW) : Option XR := ev bs_X4_done 82 ([none, none, none, none, none], [], w)
noncomputable def q_X4_done_86 (y1 : Int64) (y3 : Int64) (w : XW) : Option XR := ev bs_X4_done 86 ([none, some (.inl (.long y1)), none, some (.inl (.long y3)), none], [], w)
noncomputable def q_X4_done_89 (s0 : Int64) (w : XW) : Option XR := ev bs_X4_done 89 ([none, none, none, none, none], [.inl (.long s0)], w)
noncomputable def q_X4_done_90 (y1 : Int64) (y3 : Int64) (w : XW) : Option XR := ev bs_X4_done 90 ([none, some (.inl (.long y1)), none, some (.inl (.long y3)), none], [], w)
noncomputable def q_X4_done_96 (w : XW) : Option XR := ev bs_X4_done 96 ([none, none, none, none, none], [], w)
noncomputable def q_X4_done_100 (y1 : Int64) (y3 : Int64) (w : XW) : Option XR := ev bs_X4_done 100 ([none, some (.inl (.long y1)), none, some (.inl (.long y3)), none], [], w)
noncomputable def q_X4_done_103 (s0 : Int64) (w : XW) : Option XR := ev bs_X4_done 103 ([none, none, none, none, none], [.inl (.long s0)], w)
noncomputable def q_X4_done_104 (y1 : Int64) (y3 : Int64) (w : XW) : Option XR := ev bs_X4_done 104 ([none, some (.inl (.long y1)), none, some (.inl (.long y3)), none], [], w)
noncomputable def q_X4_done_110 (w : XW) : Option XR := ev bs_X4_done 110 ([none, none, none, none, none], [], w)
noncomputable def q_X4_done_114 (w : XW) : Option XR := ev bs_X4_done 114 ([none, none, none, none, none], [], w)
noncomputable def q_X4_done_115 (s0 : Int64) (w : XW) : Option XR := ev bs_X4_done 115 ([none, none, none, none, none], [.inl (.long s0)], w)
noncomputable def q_X4_done_116 (y1 : Int64) (y3 : Int64) (w : XW) : Option XR := ev bs_X4_done 116 ([none, some (.inl (.long y1)), none, some (.inl (.long y3)), none], [], w)
noncomputable def q_X4_done_122 (w : XW) : Option XR := ev bs_X4_done 122 ([none, none, none, none, none], [], w)
noncomputable def q_X4_done_126 (w : XW) : Option XR := ev bs_X4_done 126 ([none, none, none, none, none], [], w)
noncomputable def q_X4_done_127 (s0 : Int64) (w : XW) : Option XR := ev bs_X4_done 127 ([none, none, none, none, none], [.inl (.long s0)], w)
noncomputable def q_X4_done_128 (y1 : Int64) (y3 : Int64) (w : XW) : Option XR := ev bs_X4_done 128 ([none, some (.inl (.long y1)), none, some (.inl (.long y3)), none], [], w)
noncomputable def q_X4_done_134 (w : XW) : Option XR := ev bs_X4_done 134 ([none, none, none, none, none], [], w)
noncomputable def q_X4_done_138 (w : XW) : Option XR := ev bs_X4_done 138 ([none, none, none, none, none], [], w)
noncomputable def q_X4_done_139 (s0 : Int64) (w : XW) : Option XR := ev bs_X4_done 139 ([none, none, none, none, none], [.inl (.long s0)], w)
noncomputable def q_X4_done_140 (y1 : Int64) (y3 : Int64) (w : XW) : Option XR := ev bs_X4_done 140 ([none, some (.inl (.long y1)), none, some (.inl (.long y3)), none], [], w)
noncomputable def q_X4_done_146 (w : XW) : Option XR := ev bs_X4_done 146 ([none, none, none, none, none], [], w)
noncomputable def q_X4_done_150 (w : XW) : Option XR := ev bs_X4_done 150 ([none, none, none, none, none], [], w)
noncomputable def q_X4_done_151 (s0 : Int64) (w : XW) : Option XR := ev bs_X4_done 151 ([none, none, none, none, none], [.inl (.long s0)], w)
noncomputable def q_X4_done_152 (y1 : Int64) (y3 : Int64) (w : XW) : Option XR := ev bs_X4_done 152 ([none, some (.inl (.long y1)), none, some (.inl (.long y3)), none], [], w)
noncomputable def q_X4_done_158 (w : XW) : Option XR := ev bs_X4_done 158 ([none, none, none, none, none], [], w)
noncomputable def q_X4_done_162 (w : XW) : Option XR := ev bs_X4_done 162 ([none, none, none, none, none], [], w)
noncomputable def q_X4_done_163 (s0 : Int64) (w : XW) : Option XR := ev bs_X4_done 163 ([none, none, none, none, none], [.inl (.long s0)], w)
noncomputable def q_X4_done_164 (y1 : Int64) (y3 : Int64) (w : XW) : Option XR := ev bs_X4_done 164 ([none, some (.inl (.long y1)), none, some (.inl (.long y3)), none], [], w)
noncomputable def q_X4_done_168 (y1 : Int64) (y3 : Int64) (w : XW) : Option XR := ev bs_X4_done 168 ([none, some (.inl (.long y1)), none, some (.inl (.long y3)), none], [], w)
theorem e_X4_done_0 (x0 : Int32) (y1 : Int64) (y3 : Int64) (w : XW) : q_X4_done_0 x0 y1 y3 w = (bif x0 == (-31) then (q_X4_done_164 y1 y3 w) else (bif x0 == (-30) then (q_X4_done_168 y1 y3 w) else (bif x0 == (-29) then (q_X4_done_152 y1 y3 w) else (bif x0 == (-28) then (q_X4_done_140 y1 y3 w) else (bif x0 == (-27) then (q_X4_done_128 y1 y3 w) else (bif x0 == (-26) then (q_X4_done_116 y1 y3 w) else (bif x0 == (-25) then (q_X4_done_104 y1 y3 w) else (bif x0 == (-24) then (q_X4_done_90 y1 y3 w) else (bif x0 == (-23) then (q_X4_done_76 y1 y3 w) else (bif x0 == (-22) then (q_X4_done_72 y1 y3 w) else (bif x0 == (-21) then (q_X4_done_68 y1 y3 w) else (bif x0 == (-20) then (q_X4_done_64 y1 y3 w) else (q_X4_done_168 y1 y3 w))))))))))))) := (ev_eq _ _ _).trans rfl
theorem e_X4_done_64 (y1 : Int64) (y3 : Int64) (w : XW) : q_X4_done_64 y1 y3 w = (some (some (.inl (.long (y1 + y3))), w)) := (ev_eq _ _ _).trans rfl
theorem e_X4_done_68 (y1 : Int64) (y3 : Int64) (w : XW) : q_X4_done_68 y1 y3 w = (some (some (.inl (.long (y1 - y3))), w)) := (ev_eq _ _ _).trans rfl
theorem e_X4_done_72 (y1 : Int64) (y3 : Int64) (w : XW) : q_X4_done_72 y1 y3 w = (some (some (.inl (.long (y1 * y3))), w)) := (ev_eq _ _ _).trans rfl
theorem e_X4_done_76 (y1 : Int64) (y3 : Int64) (w : XW) : q_X4_done_76 y1 y3 w = (bif decide (¬ (lg_cmp y3 0) = 0) then (q_X4_done_86 y1 y3 w) else (q_X4_done_82 w)) := (ev_eq _ _ _).trans rfl
theorem e_X4_done_82 (w : XW) : q_X4_done_82 w = (q_X4_done_89 0 w) := (ev_eq _ _ _).trans rfl
theorem e_X4_done_86 (y1 : Int64) (y3 : Int64) (w : XW) : q_X4_done_86 y1 y3 w = (if y3 = 0 then none else (q_X4_done_89 (y1 / y3) w)) := (ev_eq _ _ _).trans rfl
theorem e_X4_done_89 (s0 : Int64) (w : XW) : q_X4_done_89 s0 w = (some (some (.inl (.long s0)), w)) := (ev_eq _ _ _).trans rfl
theorem e_X4_done_90 (y1 : Int64) (y3 : Int64) (w : XW) : q_X4_done_90 y1 y3 w = (bif decide (¬ (lg_cmp y3 0) = 0) then (q_X4_done_100 y1 y3 w) else (q_X4_done_96 w)) := (ev_eq _ _ _).trans rfl
theorem e_X4_done_96 (w : XW) : q_X4_done_96 w = (q_X4_done_103 0 w) := (ev_eq _ _ _).trans rfl
theorem e_X4_done_100 (y1 : Int64) (y3 : Int64) (w : XW) : q_X4_done_100 y1 y3 w = (if y3 = 0 then none else (q_X4_done_103 (y1 - y1 / y3 * y3) w)) := (ev_eq _ _ _).trans rfl
theorem e_X4_done_103 (s0 : Int64) (w : XW) : q_X4_done_103 s0 w = (some (some (.inl (.long s0)), w)) := (ev_eq _ _ _).trans rfl
theorem e_X4_done_104 (y1 : Int64) (y3 : Int64) (w : XW) : q_X4_done_104 y1 y3 w = (bif decide (0 ≤ (lg_cmp y1 y3)) then (q_X4_done_114 w) else (q_X4_done_110 w)) := (ev_eq _ _ _).trans rfl
theorem e_X4_done_110 (w : XW) : q_X4_done_110 w = (q_X4_done_115 1 w) := (ev_eq _ _ _).trans rfl
theorem e_X4_done_114 (w : XW) : q_X4_done_114 w = (q_X4_done_115 0 w) := (ev_eq _ _ _).trans rfl
theorem e_X4_done_115 (s0 : Int64) (w : XW) : q_X4_done_115 s0 w = (some (some (.inl (.long s0)), w)) := (ev_eq _ _ _).trans rfl
theorem e_X4_done_116 (y1 : Int64) (y3 : Int64) (w : XW) : q_X4_done_116 y1 y3 w = (bif decide (0 < (lg_cmp y1 y3)) then (q_X4_done_126 w) else (q_X4_done_122 w)) := (ev_eq _ _ _).trans rfl
theorem e_X4_done_122 (w : XW) : q_X4_done_122 w = (q_X4_done_127 1 w) := (ev_eq _ _ _).trans rfl
theorem e_X4_done_126 (w : XW) : q_X4_done_126 w = (q_X4_done_127 0 w) := (ev_eq _ _ _).trans rfl
theorem e_X4_done_127 (s0 : Int64) (w : XW) : q_X4_done_127 s0 w = (some (some (.inl (.long s0)), w)) := (ev_eq _ _ _).trans rfl
theorem e_X4_done_128 (y1 : Int64) (y3 : Int64) (w : XW) : q_X4_done_128 y1 y3 w = (bif decide (¬ (lg_cmp y1 y3) = 0) then (q_X4_done_138 w) else (q_X4_done_134 w)) := (ev_eq _ _ _).trans rfl
theorem e_X4_done_134 (w : XW) : q_X4_done_134 w = (q_X4_done_139 1 w) := (ev_eq _ _ _).trans rfl
theorem e_X4_done_138 (w : XW) : q_X4_done_138 w = (q_X4_done_139 0 w) := (ev_eq _ _ _).trans rfl
theorem e_X4_done_139 (s0 : Int64) (w : XW) : q_X4_done_139 s0 w = (some (some (.inl (.long s0)), w)) := (ev_eq _ _ _).trans rfl
theorem e_X4_done_140 (y1 : Int64) (y3 : Int64) (w : XW) : q_X4_done_140 y1 y3 w = (bif decide ((lg_cmp y1 y3) < 0) then (q_X4_done_150 w) else (q_X4_done_146 w)) := (ev_eq _ _ _).trans rfl
theorem e_X4_done_146 (w : XW) : q_X4_done_146 w = (q_X4_done_151 1 w) := (ev_eq _ _ _).trans rfl
theorem e_X4_done_150 (w : XW) : q_X4_done_150 w = (q_X4_done_151 0 w) := (ev_eq _ _ _).trans rfl
theorem e_X4_done_151 (s0 : Int64) (w : XW) : q_X4_done_151 s0 w = (some (some (.inl (.long s0)), w)) := (ev_eq _ _ _).trans rfl
theorem e_X4_done_152 (y1 : Int64) (y3 : Int64) (w : XW) : q_X4_done_152 y1 y3 w = (bif decide ((lg_cmp y1 y3) ≤ 0) then (q_X4_done_162 w) else (q_X4_done_158 w)) := (ev_eq _ _ _).trans rfl
theorem e_X4_done_158 (w : XW) : q_X4_done_158 w = (q_X4_done_163 1 w) := (ev_eq _ _ _).trans rfl
theorem e_X4_done_162 (w : XW) : q_X4_done_162 w = (q_X4_done_163 0 w) := (ev_eq _ _ _).trans rfl
theorem e_X4_done_163 (s0 : Int64) (w : XW) : q_X4_done_163 s0 w = (some (some (.inl (.long s0)), w)) := (ev_eq _ _ _).trans rfl
theorem e_X4_done_164 (y1 : Int64) (y3 : Int64) (w : XW) : q_X4_done_164 y1 y3 w = (some (some (.inl (.long (y1 &&& y3))), w)) := (ev_eq _ _ _).trans rfl
theorem e_X4_done_168 (y1 : Int64) (y3 : Int64) (w : XW) : q_X4_done_168 y1 y3 w = (some (some (.inl (.long (y1 ||| y3))), w)) := (ev_eq _ _ _).trans rfl
theorem f_X4_done (x0 : Int32) (y1 : Int64) (y3 : Int64) (w : XW) : F_X4_done [.inl (.int x0), .inl (.long y1), .inl (.long y3)] w = (q_X4_done_0 x0 y1 y3 w).bind pJ := rfl
