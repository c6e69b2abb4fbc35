-- WinterKeepModel.hasThen(I)I
theorem dX12_hasThen_0 : decode cX12_hasThen 0 = .ok (.aload_n 0, 1) := by decide +kernel
theorem dX12_hasThen_1 : decode cX12_hasThen 1 = .ok (.aload_n 0, 1) := by decide +kernel
theorem dX12_hasThen_2 : decode cX12_hasThen 2 = .ok (.getfield 39, 3) := by decide +kernel
theorem dX12_hasThen_5 : decode cX12_hasThen 5 = .ok (.bipush 47, 2) := by decide +kernel
theorem dX12_hasThen_7 : decode cX12_hasThen 7 = .ok (.iload_n 1, 1) := by decide +kernel
theorem dX12_hasThen_8 : decode cX12_hasThen 8 = .ok (.iadd, 1) := by decide +kernel
theorem dX12_hasThen_9 : decode cX12_hasThen 9 = .ok (.iaload, 1) := by decide +kernel
theorem dX12_hasThen_10 : decode cX12_hasThen 10 = .ok (.invokevirtual 304, 3) := by decide +kernel
theorem dX12_hasThen_13 : decode cX12_hasThen 13 = .ok (.aload_n 0, 1) := by decide +kernel
theorem dX12_hasThen_14 : decode cX12_hasThen 14 = .ok (.aload_n 0, 1) := by decide +kernel
theorem dX12_hasThen_15 : decode cX12_hasThen 15 = .ok (.getfield 39, 3) := by decide +kernel
theorem dX12_hasThen_18 : decode cX12_hasThen 18 = .ok (.bipush 47, 2) := by decide +kernel
theorem dX12_hasThen_20 : decode cX12_hasThen 20 = .ok (.iload_n 1, 1) := by decide +kernel
theorem dX12_hasThen_21 : decode cX12_hasThen 21 = .ok (.iadd, 1) := by decide +kernel
theorem dX12_hasThen_22 : decode cX12_hasThen 22 = .ok (.iaload, 1) := by decide +kernel
theorem dX12_hasThen_23 : decode cX12_hasThen 23 = .ok (.invokevirtual 351, 3) := by decide +kernel
theorem dX12_hasThen_26 : decode cX12_hasThen 26 = .ok (.ifCond .eq 8, 3) := by decide +kernel
theorem dX12_hasThen_29 : decode cX12_hasThen 29 = .ok (.bipush 20, 2) := by decide +kernel
theorem dX12_hasThen_31 : decode cX12_hasThen 31 = .ok (.goto 4, 3) := by decide +kernel
theorem dX12_hasThen_34 : decode cX12_hasThen 34 = .ok (.iconst 0, 1) := by decide +kernel
theorem dX12_hasThen_35 : decode cX12_hasThen 35 = .ok (.isub, 1) := by decide +kernel
theorem dX12_hasThen_36 : decode cX12_hasThen 36 = .ok (.ireturn, 1) := by decide +kernel
noncomputable def bs_X12_hasThen : List (Nat × XB) := [
  (0, (sq (xLA 0) (sq (xLA 0) (sq (xGS 11 50 1 0) (sq (xC (.int 47)) (sq (xLI 1) (sq (xI2 (· + ·)) (sq (xAI 50 98) (sq (xCI 11 2 F_X12_fullOf) (sq (xLA 0) (sq (xLA 0) (sq (xGS 11 50 1 0) (sq (xC (.int 47)) (sq (xLI 1) (sq (xI2 (· + ·)) (sq (xAI 50 98) (sq (xCI 11 2 F_X12_isBurnt) (tIf1 (fun x => decide (x = 0)) 34 [false, false] 29 [false, false])))))))))))))))))),
  (29, (sq (xC (.int 20)) (tGo 35 [false, false]))),
  (34, (sq (xC (.int 0)) (tGo 35 [false, false]))),
  (35, (sq (xI2 (· - ·)) tRI))]
set_option maxRecDepth 100000 in
set_option maxHeartbeats 4000000 in
theorem s_X12_hasThen : ∀ X : XCtx, XE X → X.2.2.1.1 = cX12_hasThen → X.2.2.1.2.1 = 2 → X.2.2.1.2.2.1 = yX12_hasThen.cls → X.2.2.1.2.2.2.1 = (some .int) → X.1.2.2.2.1 = { frames := 2, cells := 0, slots := 0, locals := 42 } → SndBs X bs_X12_hasThen := by
  rintro ⟨⟨p, l, e, R, s⟩, Y, ⟨cc, nL, own, ret, Ts⟩, Z⟩ hE h1 h2 h3 h4 h5
  dsimp only at h1 h2 h3 h4 h5
  subst h1 h2 h3 h4 h5
  exact ⟨(n_sq (n_aload_n hE dX12_hasThen_0) (n_sq (n_aload_n hE dX12_hasThen_1) (n_sq (n_getS hE xk_11 (k := 20) rfl (by decide) rfl wt_980 dX12_hasThen_2) (n_sq (n_bipush hE (by decide) dX12_hasThen_5) (n_sq (n_iload_n hE dX12_hasThen_7) (n_sq (n_iadd hE dX12_hasThen_8) (n_sq (n_iald hE rfl (by decide) dX12_hasThen_9) (n_sq (n_cIv hE m_X12_fullOf vc_X12_304 (show 0 + 1 ≤ 2 ∧ 8 + (2 + 11) + 0 ≤ 42 by decide) dX12_hasThen_10) (n_sq (n_aload_n hE dX12_hasThen_13) (n_sq (n_aload_n hE dX12_hasThen_14) (n_sq (n_getS hE xk_11 (k := 20) rfl (by decide) rfl wt_980 dX12_hasThen_15) (n_sq (n_bipush hE (by decide) dX12_hasThen_18) (n_sq (n_iload_n hE dX12_hasThen_20) (n_sq (n_iadd hE dX12_hasThen_21) (n_sq (n_iald hE rfl (by decide) dX12_hasThen_22) (n_sq (n_cIv hE m_X12_isBurnt vc_X12_351 (show 1 + 1 ≤ 2 ∧ 8 + (2 + 11) + 21 ≤ 42 by decide) dX12_hasThen_23) (n_ifeq hE (by decide) dX12_hasThen_26))))))))))))))))),
    (n_sq (n_bipush hE (by decide) dX12_hasThen_29) (n_goto hE (by decide) dX12_hasThen_31)),
    (n_sq (n_iconst hE (by decide) dX12_hasThen_34) n_fall),
    (n_sq (n_isub hE dX12_hasThen_35) (n_ireturn hE rfl dX12_hasThen_36)), trivial⟩
noncomputable def F_X12_hasThen (as : List XV) (w : XW) : Option (Int32 × XW) := (xF 2 bs_X12_hasThen as w).bind pI
theorem m_X12_hasThen : XM yX12_hasThen cX12_hasThen 2 (some .int) 2 42 (eI F_X12_hasThen) := xm_I (xm_of (by decide) s_X12_hasThen)
noncomputable def q_X12_hasThen_0 (x1 : Int32) (w : XW) : Option XR := ev bs_X12_hasThen 0 ([some (.inr (11, 0)), some (.inl (.int x1))], [], w)
noncomputable def q_X12_hasThen_29 (s0 : Int32) (w : XW) : Option XR := ev bs_X12_hasThen 29 ([none, none], [.inl (.int s0)], w)
noncomputable def q_X12_hasThen_34 (s0 : Int32) (w : XW) : Option XR := ev bs_X12_hasThen 34 ([none, none], [.inl (.int s0)], w)
noncomputable def q_X12_hasThen_35 (s0 : Int32) (s1 : Int32) (w : XW) : Option XR := ev bs_X12_hasThen 35 ([none, none], [.inl (.int s1), .inl (.int s0)], w)
set_option maxRecDepth 100000 in
theorem e_X12_hasThen_0 (x1 : Int32) (w : XW) : q_X12_hasThen_0 x1 w = (if (47 + x1) < 0 ∨ 98 ≤ (47 + x1).toNatClampNeg then none else ((F_X12_fullOf [.inr (11, 0), .inl (.int (gI w 50 0 (47 + x1).toNatClampNeg))] w).bind fun r0 => (if (47 + x1) < 0 ∨ 98 ≤ (47 + x1).toNatClampNeg then none else ((F_X12_isBurnt [.inr (11, 0), .inl (.int (gI r0.2 50 0 (47 + x1).toNatClampNeg))] r0.2).bind fun r1 => (bif decide (r1.1 = 0) then (q_X12_hasThen_34 r0.1 r1.2) else (q_X12_hasThen_29 r0.1 r1.2)))))) := (ev_eq _ _ _).trans rfl
set_option maxRecDepth 100000 in
theorem e_X12_hasThen_29 (s0 : Int32) (w : XW) : q_X12_hasThen_29 s0 w = (q_X12_hasThen_35 s0 20 w) := (ev_eq _ _ _).trans rfl
set_option maxRecDepth 100000 in
theorem e_X12_hasThen_34 (s0 : Int32) (w : XW) : q_X12_hasThen_34 s0 w = (q_X12_hasThen_35 s0 0 w) := (ev_eq _ _ _).trans rfl
set_option maxRecDepth 100000 in
theorem e_X12_hasThen_35 (s0 : Int32) (s1 : Int32) (w : XW) : q_X12_hasThen_35 s0 s1 w = (some (some (.inl (.int (s0 - s1))), w)) := (ev_eq _ _ _).trans rfl
theorem f_X12_hasThen (x1 : Int32) (w : XW) : F_X12_hasThen [.inr (11, 0), .inl (.int x1)] w = (q_X12_hasThen_0 x1 w).bind pI := rfl

-- WinterKeepModel.rests(IIII)I
theorem dX12_rests_0 : decode cX12_rests 0 = .ok (.aload_n 0, 1) := by decide +kernel
theorem dX12_rests_1 : decode cX12_rests 1 = .ok (.iload_n 1, 1) := by decide +kernel
theorem dX12_rests_2 : decode cX12_rests 2 = .ok (.invokevirtual 320, 3) := by decide +kernel
theorem dX12_rests_5 : decode cX12_rests 5 = .ok (.ifCond .eq 41, 3) := by decide +kernel
theorem dX12_rests_8 : decode cX12_rests 8 = .ok (.aload_n 0, 1) := by decide +kernel
theorem dX12_rests_9 : decode cX12_rests 9 = .ok (.iload_n 2, 1) := by decide +kernel
theorem dX12_rests_10 : decode cX12_rests 10 = .ok (.invokevirtual 320, 3) := by decide +kernel
theorem dX12_rests_13 : decode cX12_rests 13 = .ok (.ifCond .eq 33, 3) := by decide +kernel
theorem dX12_rests_16 : decode cX12_rests 16 = .ok (.iload_n 1, 1) := by decide +kernel
theorem dX12_rests_17 : decode cX12_rests 17 = .ok (.iload_n 2, 1) := by decide +kernel
theorem dX12_rests_18 : decode cX12_rests 18 = .ok (.if_icmp .eq 28, 3) := by decide +kernel
theorem dX12_rests_21 : decode cX12_rests 21 = .ok (.iload_n 3, 1) := by decide +kernel
theorem dX12_rests_22 : decode cX12_rests 22 = .ok (.i2l, 1) := by decide +kernel
theorem dX12_rests_23 : decode cX12_rests 23 = .ok (.lconst 1, 1) := by decide +kernel
theorem dX12_rests_24 : decode cX12_rests 24 = .ok (.ldc2_w 430, 3) := by decide +kernel
theorem dX12_rests_27 : decode cX12_rests 27 = .ok (.invokestatic 133, 3) := by decide +kernel
theorem dX12_rests_30 : decode cX12_rests 30 = .ok (.ifCond .eq 16, 3) := by decide +kernel
theorem dX12_rests_33 : decode cX12_rests 33 = .ok (.iload 4, 2) := by decide +kernel
theorem dX12_rests_35 : decode cX12_rests 35 = .ok (.i2l, 1) := by decide +kernel
theorem dX12_rests_36 : decode cX12_rests 36 = .ok (.lconst 0, 1) := by decide +kernel
theorem dX12_rests_37 : decode cX12_rests 37 = .ok (.ldc2_w 326, 3) := by decide +kernel
theorem dX12_rests_40 : decode cX12_rests 40 = .ok (.invokestatic 133, 3) := by decide +kernel
theorem dX12_rests_43 : decode cX12_rests 43 = .ok (.ifCond .ne 5, 3) := by decide +kernel
theorem dX12_rests_46 : decode cX12_rests 46 = .ok (.iconst (-1), 1) := by decide +kernel
theorem dX12_rests_47 : decode cX12_rests 47 = .ok (.ireturn, 1) := by decide +kernel
theorem dX12_rests_48 : decode cX12_rests 48 = .ok (.aload_n 0, 1) := by decide +kernel
theorem dX12_rests_49 : decode cX12_rests 49 = .ok (.getfield 39, 3) := by decide +kernel
theorem dX12_rests_52 : decode cX12_rests 52 = .ok (.bipush 52, 2) := by decide +kernel
theorem dX12_rests_54 : decode cX12_rests 54 = .ok (.iload_n 1, 1) := by decide +kernel
theorem dX12_rests_55 : decode cX12_rests 55 = .ok (.iadd, 1) := by decide +kernel
theorem dX12_rests_56 : decode cX12_rests 56 = .ok (.iaload, 1) := by decide +kernel
theorem dX12_rests_57 : decode cX12_rests 57 = .ok (.istore 5, 2) := by decide +kernel
theorem dX12_rests_59 : decode cX12_rests 59 = .ok (.aload_n 0, 1) := by decide +kernel
theorem dX12_rests_60 : decode cX12_rests 60 = .ok (.getfield 39, 3) := by decide +kernel
theorem dX12_rests_63 : decode cX12_rests 63 = .ok (.bipush 52, 2) := by decide +kernel
theorem dX12_rests_65 : decode cX12_rests 65 = .ok (.iload_n 2, 1) := by decide +kernel
theorem dX12_rests_66 : decode cX12_rests 66 = .ok (.iadd, 1) := by decide +kernel
theorem dX12_rests_67 : decode cX12_rests 67 = .ok (.iaload, 1) := by decide +kernel
theorem dX12_rests_68 : decode cX12_rests 68 = .ok (.istore 6, 2) := by decide +kernel
theorem dX12_rests_70 : decode cX12_rests 70 = .ok (.aload_n 0, 1) := by decide +kernel
theorem dX12_rests_71 : decode cX12_rests 71 = .ok (.invokevirtual 377, 3) := by decide +kernel
theorem dX12_rests_74 : decode cX12_rests 74 = .ok (.iconst 0, 1) := by decide +kernel
theorem dX12_rests_75 : decode cX12_rests 75 = .ok (.istore 7, 2) := by decide +kernel
theorem dX12_rests_77 : decode cX12_rests 77 = .ok (.iload 7, 2) := by decide +kernel
theorem dX12_rests_79 : decode cX12_rests 79 = .ok (.bipush 16, 2) := by decide +kernel
theorem dX12_rests_81 : decode cX12_rests 81 = .ok (.if_icmp .ge 78, 3) := by decide +kernel
theorem dX12_rests_84 : decode cX12_rests 84 = .ok (.aload_n 0, 1) := by decide +kernel
theorem dX12_rests_85 : decode cX12_rests 85 = .ok (.getfield 39, 3) := by decide +kernel
theorem dX12_rests_88 : decode cX12_rests 88 = .ok (.bipush 52, 2) := by decide +kernel
theorem dX12_rests_90 : decode cX12_rests 90 = .ok (.iload_n 1, 1) := by decide +kernel
theorem dX12_rests_91 : decode cX12_rests 91 = .ok (.iadd, 1) := by decide +kernel
theorem dX12_rests_92 : decode cX12_rests 92 = .ok (.iconst 3, 1) := by decide +kernel
theorem dX12_rests_93 : decode cX12_rests 93 = .ok (.iload 7, 2) := by decide +kernel
theorem dX12_rests_95 : decode cX12_rests 95 = .ok (.iconst 4, 1) := by decide +kernel
theorem dX12_rests_96 : decode cX12_rests 96 = .ok (.idiv, 1) := by decide +kernel
theorem dX12_rests_97 : decode cX12_rests 97 = .ok (.imul, 1) := by decide +kernel
theorem dX12_rests_98 : decode cX12_rests 98 = .ok (.iastore, 1) := by decide +kernel
theorem dX12_rests_99 : decode cX12_rests 99 = .ok (.aload_n 0, 1) := by decide +kernel
theorem dX12_rests_100 : decode cX12_rests 100 = .ok (.getfield 39, 3) := by decide +kernel
theorem dX12_rests_103 : decode cX12_rests 103 = .ok (.bipush 52, 2) := by decide +kernel
theorem dX12_rests_105 : decode cX12_rests 105 = .ok (.iload_n 2, 1) := by decide +kernel
theorem dX12_rests_106 : decode cX12_rests 106 = .ok (.iadd, 1) := by decide +kernel
theorem dX12_rests_107 : decode cX12_rests 107 = .ok (.iconst 3, 1) := by decide +kernel
theorem dX12_rests_108 : decode cX12_rests 108 = .ok (.iload 7, 2) := by decide +kernel
theorem dX12_rests_110 : decode cX12_rests 110 = .ok (.iconst 4, 1) := by decide +kernel
theorem dX12_rests_111 : decode cX12_rests 111 = .ok (.irem, 1) := by decide +kernel
theorem dX12_rests_112 : decode cX12_rests 112 = .ok (.imul, 1) := by decide +kernel
theorem dX12_rests_113 : decode cX12_rests 113 = .ok (.iastore, 1) := by decide +kernel
theorem dX12_rests_114 : decode cX12_rests 114 = .ok (.aload_n 0, 1) := by decide +kernel
theorem dX12_rests_115 : decode cX12_rests 115 = .ok (.iload_n 3, 1) := by decide +kernel
theorem dX12_rests_116 : decode cX12_rests 116 = .ok (.invokevirtual 380, 3) := by decide +kernel
theorem dX12_rests_119 : decode cX12_rests 119 = .ok (.aload_n 0, 1) := by decide +kernel
theorem dX12_rests_120 : decode cX12_rests 120 = .ok (.getfield 67, 3) := by decide +kernel
theorem dX12_rests_123 : decode cX12_rests 123 = .ok (.iconst 2, 1) := by decide +kernel
theorem dX12_rests_124 : decode cX12_rests 124 = .ok (.iload 7, 2) := by decide +kernel
theorem dX12_rests_126 : decode cX12_rests 126 = .ok (.imul, 1) := by decide +kernel
theorem dX12_rests_127 : decode cX12_rests 127 = .ok (.aload_n 0, 1) := by decide +kernel
theorem dX12_rests_128 : decode cX12_rests 128 = .ok (.iload_n 1, 1) := by decide +kernel
theorem dX12_rests_129 : decode cX12_rests 129 = .ok (.invokevirtual 432, 3) := by decide +kernel
theorem dX12_rests_132 : decode cX12_rests 132 = .ok (.iastore, 1) := by decide +kernel
theorem dX12_rests_133 : decode cX12_rests 133 = .ok (.aload_n 0, 1) := by decide +kernel
theorem dX12_rests_134 : decode cX12_rests 134 = .ok (.getfield 67, 3) := by decide +kernel
theorem dX12_rests_137 : decode cX12_rests 137 = .ok (.iconst 2, 1) := by decide +kernel
theorem dX12_rests_138 : decode cX12_rests 138 = .ok (.iload 7, 2) := by decide +kernel
theorem dX12_rests_140 : decode cX12_rests 140 = .ok (.imul, 1) := by decide +kernel
theorem dX12_rests_141 : decode cX12_rests 141 = .ok (.iconst 1, 1) := by decide +kernel
theorem dX12_rests_142 : decode cX12_rests 142 = .ok (.iadd, 1) := by decide +kernel
theorem dX12_rests_143 : decode cX12_rests 143 = .ok (.aload_n 0, 1) := by decide +kernel
theorem dX12_rests_144 : decode cX12_rests 144 = .ok (.iload_n 2, 1) := by decide +kernel
theorem dX12_rests_145 : decode cX12_rests 145 = .ok (.invokevirtual 432, 3) := by decide +kernel
theorem dX12_rests_148 : decode cX12_rests 148 = .ok (.iastore, 1) := by decide +kernel
theorem dX12_rests_149 : decode cX12_rests 149 = .ok (.aload_n 0, 1) := by decide +kernel
theorem dX12_rests_150 : decode cX12_rests 150 = .ok (.invokevirtual 383, 3) := by decide +kernel
theorem dX12_rests_153 : decode cX12_rests 153 = .ok (.iinc 7 1, 3) := by decide +kernel
theorem dX12_rests_156 : decode cX12_rests 156 = .ok (.goto (-79), 3) := by decide +kernel
theorem dX12_rests_159 : decode cX12_rests 159 = .ok (.aload_n 0, 1) := by decide +kernel
theorem dX12_rests_160 : decode cX12_rests 160 = .ok (.getfield 39, 3) := by decide +kernel
theorem dX12_rests_163 : decode cX12_rests 163 = .ok (.bipush 52, 2) := by decide +kernel
theorem dX12_rests_165 : decode cX12_rests 165 = .ok (.iload_n 1, 1) := by decide +kernel
theorem dX12_rests_166 : decode cX12_rests 166 = .ok (.iadd, 1) := by decide +kernel
theorem dX12_rests_167 : decode cX12_rests 167 = .ok (.iload 5, 2) := by decide +kernel
theorem dX12_rests_169 : decode cX12_rests 169 = .ok (.iastore, 1) := by decide +kernel
theorem dX12_rests_170 : decode cX12_rests 170 = .ok (.aload_n 0, 1) := by decide +kernel
theorem dX12_rests_171 : decode cX12_rests 171 = .ok (.getfield 39, 3) := by decide +kernel
theorem dX12_rests_174 : decode cX12_rests 174 = .ok (.bipush 52, 2) := by decide +kernel
theorem dX12_rests_176 : decode cX12_rests 176 = .ok (.iload_n 2, 1) := by decide +kernel
theorem dX12_rests_177 : decode cX12_rests 177 = .ok (.iadd, 1) := by decide +kernel
theorem dX12_rests_178 : decode cX12_rests 178 = .ok (.iload 6, 2) := by decide +kernel
theorem dX12_rests_180 : decode cX12_rests 180 = .ok (.iastore, 1) := by decide +kernel
theorem dX12_rests_181 : decode cX12_rests 181 = .ok (.iconst 0, 1) := by decide +kernel
theorem dX12_rests_182 : decode cX12_rests 182 = .ok (.istore 7, 2) := by decide +kernel
theorem dX12_rests_184 : decode cX12_rests 184 = .ok (.iconst (-1), 1) := by decide +kernel
theorem dX12_rests_185 : decode cX12_rests 185 = .ok (.istore 8, 2) := by decide +kernel
theorem dX12_rests_187 : decode cX12_rests 187 = .ok (.bipush 15, 2) := by decide +kernel
theorem dX12_rests_189 : decode cX12_rests 189 = .ok (.istore 9, 2) := by decide +kernel
theorem dX12_rests_191 : decode cX12_rests 191 = .ok (.iload 9, 2) := by decide +kernel
theorem dX12_rests_193 : decode cX12_rests 193 = .ok (.ifCond .lt 34, 3) := by decide +kernel
theorem dX12_rests_196 : decode cX12_rests 196 = .ok (.aload_n 0, 1) := by decide +kernel
theorem dX12_rests_197 : decode cX12_rests 197 = .ok (.iload 9, 2) := by decide +kernel
theorem dX12_rests_199 : decode cX12_rests 199 = .ok (.iconst 4, 1) := by decide +kernel
theorem dX12_rests_200 : decode cX12_rests 200 = .ok (.idiv, 1) := by decide +kernel
theorem dX12_rests_201 : decode cX12_rests 201 = .ok (.iload 9, 2) := by decide +kernel
theorem dX12_rests_203 : decode cX12_rests 203 = .ok (.iconst 4, 1) := by decide +kernel
theorem dX12_rests_204 : decode cX12_rests 204 = .ok (.irem, 1) := by decide +kernel
theorem dX12_rests_205 : decode cX12_rests 205 = .ok (.invokevirtual 435, 3) := by decide +kernel
theorem dX12_rests_208 : decode cX12_rests 208 = .ok (.ifCond .ne 6, 3) := by decide +kernel
theorem dX12_rests_211 : decode cX12_rests 211 = .ok (.goto 10, 3) := by decide +kernel
theorem dX12_rests_214 : decode cX12_rests 214 = .ok (.iload 9, 2) := by decide +kernel
theorem dX12_rests_216 : decode cX12_rests 216 = .ok (.istore 8, 2) := by decide +kernel
theorem dX12_rests_218 : decode cX12_rests 218 = .ok (.iinc 7 1, 3) := by decide +kernel
theorem dX12_rests_221 : decode cX12_rests 221 = .ok (.iinc 9 (-1), 3) := by decide +kernel
theorem dX12_rests_224 : decode cX12_rests 224 = .ok (.goto (-33), 3) := by decide +kernel
theorem dX12_rests_227 : decode cX12_rests 227 = .ok (.iload 4, 2) := by decide +kernel
theorem dX12_rests_229 : decode cX12_rests 229 = .ok (.ifCond .ne 6, 3) := by decide +kernel
theorem dX12_rests_232 : decode cX12_rests 232 = .ok (.iload 7, 2) := by decide +kernel
theorem dX12_rests_234 : decode cX12_rests 234 = .ok (.ireturn, 1) := by decide +kernel
theorem dX12_rests_235 : decode cX12_rests 235 = .ok (.iload 8, 2) := by decide +kernel
theorem dX12_rests_237 : decode cX12_rests 237 = .ok (.ifCond .ge 8, 3) := by decide +kernel
theorem dX12_rests_240 : decode cX12_rests 240 = .ok (.bipush (-2), 2) := by decide +kernel
theorem dX12_rests_242 : decode cX12_rests 242 = .ok (.goto 24, 3) := by decide +kernel
theorem dX12_rests_245 : decode cX12_rests 245 = .ok (.iload 4, 2) := by decide +kernel
theorem dX12_rests_247 : decode cX12_rests 247 = .ok (.iconst 1, 1) := by decide +kernel
theorem dX12_rests_248 : decode cX12_rests 248 = .ok (.if_icmp .ne 12, 3) := by decide +kernel
theorem dX12_rests_251 : decode cX12_rests 251 = .ok (.iconst 3, 1) := by decide +kernel
theorem dX12_rests_252 : decode cX12_rests 252 = .ok (.iload 8, 2) := by decide +kernel
theorem dX12_rests_254 : decode cX12_rests 254 = .ok (.iconst 4, 1) := by decide +kernel
theorem dX12_rests_255 : decode cX12_rests 255 = .ok (.idiv, 1) := by decide +kernel
theorem dX12_rests_256 : decode cX12_rests 256 = .ok (.imul, 1) := by decide +kernel
theorem dX12_rests_257 : decode cX12_rests 257 = .ok (.goto 9, 3) := by decide +kernel
theorem dX12_rests_260 : decode cX12_rests 260 = .ok (.iconst 3, 1) := by decide +kernel
theorem dX12_rests_261 : decode cX12_rests 261 = .ok (.iload 8, 2) := by decide +kernel
theorem dX12_rests_263 : decode cX12_rests 263 = .ok (.iconst 4, 1) := by decide +kernel
theorem dX12_rests_264 : decode cX12_rests 264 = .ok (.irem, 1) := by decide +kernel
theorem dX12_rests_265 : decode cX12_rests 265 = .ok (.imul, 1) := by decide +kernel
theorem dX12_rests_266 : decode cX12_rests 266 = .ok (.ireturn, 1) := by decide +kernel
theorem vc_X12_432 : XVw RX12 432 1 11 2 yX12_hasThen cX12_hasThen (some .int) := ⟨RX12, TX12, tyX12, 43, xk_11, rfl, ⟨by decide, by decide⟩, by decide +kernel, wt_1515, wt_1517, ws_108, wt_11, wt_1518⟩
theorem vc_X12_435 : XVw RX12 435 2 11 4 yX12_isRest cX12_isRest (some .boolean) := ⟨RX12, TX12, tyX12, 43, xk_11, rfl, ⟨by decide, by decide⟩, by decide +kernel, wt_1519, wt_1521, ws_109, wt_11, wt_1522⟩
noncomputable def bs_X12_rests : List (Nat × XB) := [
  (0, (sq (xLA 0) (sq (xLI 1) (sq (xCI 11 2 F_X12_isPerson) (tIf1 (fun x => decide (x = 0)) 46 [false, false, false, false, false, false, false, false, false, false] 8 [true, true, true, true, true, false, false, false, false, false]))))),
  (8, (sq (xLA 0) (sq (xLI 2) (sq (xCI 11 2 F_X12_isPerson) (tIf1 (fun x => decide (x = 0)) 46 [false, false, false, false, false, false, false, false, false, false] 16 [true, true, true, true, true, false, false, false, false, false]))))),
  (16, (sq (xLI 1) (sq (xLI 2) (tIf2 (fun x y => decide (x = y)) 46 [false, false, false, false, false, false, false, false, false, false] 21 [true, true, true, true, true, false, false, false, false, false])))),
  (21, (sq (xLI 3) (sq (xI2L) (sq (xC (.long 1)) (sq (xC (.long 20)) (sq (xCI 99 3 F_X12_in) (tIf1 (fun x => decide (x = 0)) 46 [false, false, false, false, false, false, false, false, false, false] 33 [true, true, true, true, true, false, false, false, false, false]))))))),
  (33, (sq (xLI 4) (sq (xI2L) (sq (xC (.long 0)) (sq (xC (.long 2)) (sq (xCI 99 3 F_X12_in) (tIf1 (fun x => decide (¬ x = 0)) 48 [true, true, true, true, true, false, false, false, false, false] 46 [false, false, false, false, false, false, false, false, false, false]))))))),
  (46, (sq (xC (.int (-1))) tRI)),
  (48, (sq (xLA 0) (sq (xGS 11 50 1 0) (sq (xC (.int 52)) (sq (xLI 1) (sq (xI2 (· + ·)) (sq (xAI 50 98) (sq (xSI 5) (sq (xLA 0) (sq (xGS 11 50 1 0) (sq (xC (.int 52)) (sq (xLI 2) (sq (xI2 (· + ·)) (sq (xAI 50 98) (sq (xSI 6) (sq (xLA 0) (sq (xCV 11 1 F_X12_keeps) (sq (xC (.int 0)) (sq (xSI 7) (tGo 77 [true, true, true, true, true, true, true, true, false, false])))))))))))))))))))),
  (77, (sq (xLI 7) (sq (xC (.int 16)) (tIf2 (fun x y => decide (y ≤ x)) 159 [true, true, true, false, true, true, true, false, false, false] 84 [true, true, true, true, true, true, true, true, false, false])))),
  (84, (sq (xLA 0) (sq (xGS 11 50 1 0) (sq (xC (.int 52)) (sq (xLI 1) (sq (xI2 (· + ·)) (sq (xC (.int 3)) (sq (xLI 7) (sq (xC (.int 4)) (sq (xI2z (· / ·)) (sq (xI2 (· * ·)) (sq (xTI 50 98 (fun x => x)) (sq (xLA 0) (sq (xGS 11 50 1 0) (sq (xC (.int 52)) (sq (xLI 2) (sq (xI2 (· + ·)) (sq (xC (.int 3)) (sq (xLI 7) (sq (xC (.int 4)) (sq (xI2z (fun x y => x - x / y * y)) (sq (xI2 (· * ·)) (sq (xTI 50 98 (fun x => x)) (sq (xLA 0) (sq (xLI 3) (sq (xCV 11 2 F_X12_passesAll) (sq (xLA 0) (sq (xGS 11 57 1 0) (sq (xC (.int 2)) (sq (xLI 7) (sq (xI2 (· * ·)) (sq (xLA 0) (sq (xLI 1) (sq (xCI 11 2 F_X12_hasThen) (sq (xTI 57 32 (fun x => x)) (sq (xLA 0) (sq (xGS 11 57 1 0) (sq (xC (.int 2)) (sq (xLI 7) (sq (xI2 (· * ·)) (sq (xC (.int 1)) (sq (xI2 (· + ·)) (sq (xLA 0) (sq (xLI 2) (sq (xCI 11 2 F_X12_hasThen) (sq (xTI 57 32 (fun x => x)) (sq (xLA 0) (sq (xCV 11 1 F_X12_laysBack) (sq (xInc 7 1) (tGo 77 [true, true, true, true, true, true, true, true, false, false])))))))))))))))))))))))))))))))))))))))))))))))))),
  (159, (sq (xLA 0) (sq (xGS 11 50 1 0) (sq (xC (.int 52)) (sq (xLI 1) (sq (xI2 (· + ·)) (sq (xLI 5) (sq (xTI 50 98 (fun x => x)) (sq (xLA 0) (sq (xGS 11 50 1 0) (sq (xC (.int 52)) (sq (xLI 2) (sq (xI2 (· + ·)) (sq (xLI 6) (sq (xTI 50 98 (fun x => x)) (sq (xC (.int 0)) (sq (xSI 7) (sq (xC (.int (-1))) (sq (xSI 8) (sq (xC (.int 15)) (sq (xSI 9) (tGo 191 [true, false, false, false, true, false, false, true, true, true])))))))))))))))))))))),
  (191, (sq (xLI 9) (tIf1 (fun x => decide (x < 0)) 227 [false, false, false, false, true, false, false, true, true, false] 196 [true, false, false, false, true, false, false, true, true, true]))),
  (196, (sq (xLA 0) (sq (xLI 9) (sq (xC (.int 4)) (sq (xI2z (· / ·)) (sq (xLI 9) (sq (xC (.int 4)) (sq (xI2z (fun x y => x - x / y * y)) (sq (xCI 11 3 F_X12_isRest) (tIf1 (fun x => decide (¬ x = 0)) 214 [true, false, false, false, true, false, false, true, false, true] 211 [true, false, false, false, true, false, false, true, true, true])))))))))),
  (211, (tGo 221 [true, false, false, false, true, false, false, true, true, true])),
  (214, (sq (xLI 9) (sq (xSI 8) (sq (xInc 7 1) (tGo 221 [true, false, false, false, true, false, false, true, true, true]))))),
  (221, (sq (xInc 9 (-1)) (tGo 191 [true, false, false, false, true, false, false, true, true, true]))),
  (227, (sq (xLI 4) (tIf1 (fun x => decide (¬ x = 0)) 235 [false, false, false, false, true, false, false, false, true, false] 232 [false, false, false, false, false, false, false, true, false, false]))),
  (232, (sq (xLI 7) tRI)),
  (235, (sq (xLI 8) (tIf1 (fun x => decide (0 ≤ x)) 245 [false, false, false, false, true, false, false, false, true, false] 240 [false, false, false, false, false, false, false, false, false, false]))),
  (240, (sq (xC (.int (-2))) (tGo 266 [false, false, false, false, false, false, false, false, false, false]))),
  (245, (sq (xLI 4) (sq (xC (.int 1)) (tIf2 (fun x y => decide (¬ x = y)) 260 [false, false, false, false, false, false, false, false, true, false] 251 [false, false, false, false, false, false, false, false, true, false])))),
  (251, (sq (xC (.int 3)) (sq (xLI 8) (sq (xC (.int 4)) (sq (xI2z (· / ·)) (sq (xI2 (· * ·)) (tGo 266 [false, false, false, false, false, false, false, false, false, false]))))))),
  (260, (sq (xC (.int 3)) (sq (xLI 8) (sq (xC (.int 4)) (sq (xI2z (fun x y => x - x / y * y)) (sq (xI2 (· * ·)) (tGo 266 [false, false, false, false, false, false, false, false, false, false]))))))),
  (266, tRI)]
set_option maxRecDepth 100000 in
set_option maxHeartbeats 4000000 in
theorem s_X12_rests : ∀ X : XCtx, XE X → X.2.2.1.1 = cX12_rests → X.2.2.1.2.1 = 10 → X.2.2.1.2.2.1 = yX12_rests.cls → X.2.2.1.2.2.2.1 = (some .int) → X.1.2.2.2.1 = { frames := 6, cells := 0, slots := 0, locals := 145 } → SndBs X bs_X12_rests := by
  rintro ⟨⟨p, l, e, R, s⟩, Y, ⟨cc, nL, own, ret, Ts⟩, Z⟩ hE h1 h2 h3 h4 h5
  dsimp only at h1 h2 h3 h4 h5
  subst h1 h2 h3 h4 h5
  exact ⟨(n_sq (n_aload_n hE dX12_rests_0) (n_sq (n_iload_n hE dX12_rests_1) (n_sq (n_cIv hE m_X12_isPerson vc_X12_320 (show 0 + 1 ≤ 6 ∧ 8 + (2 + 11) + 0 ≤ 145 by decide) dX12_rests_2) (n_ifeq hE (by decide) dX12_rests_5)))),
    (n_sq (n_aload_n hE dX12_rests_8) (n_sq (n_iload_n hE dX12_rests_9) (n_sq (n_cIv hE m_X12_isPerson vc_X12_320 (show 0 + 1 ≤ 6 ∧ 8 + (2 + 11) + 0 ≤ 145 by decide) dX12_rests_10) (n_ifeq hE (by decide) dX12_rests_13)))),
    (n_sq (n_iload_n hE dX12_rests_16) (n_sq (n_iload_n hE dX12_rests_17) (n_ifceq hE (by decide) dX12_rests_18))),
    (n_sq (n_iload_n hE dX12_rests_21) (n_sq (n_i2l hE dX12_rests_22) (n_sq (n_lconst hE (by decide) dX12_rests_23) (n_sq (n_ldc2 hE wt_1514 dX12_rests_24) (n_sq (n_cIs hE m_X12_in vc_X12_133 (show 0 + 1 ≤ 6 ∧ 8 + (6 + 11) + 0 ≤ 145 by decide) dX12_rests_27) (n_ifeq hE (by decide) dX12_rests_30)))))),
    (n_sq (n_iload hE dX12_rests_33) (n_sq (n_i2l hE dX12_rests_35) (n_sq (n_lconst hE (by decide) dX12_rests_36) (n_sq (n_ldc2 hE wt_1316 dX12_rests_37) (n_sq (n_cIs hE m_X12_in vc_X12_133 (show 0 + 1 ≤ 6 ∧ 8 + (6 + 11) + 0 ≤ 145 by decide) dX12_rests_40) (n_ifne hE (by decide) dX12_rests_43)))))),
    (n_sq (n_iconst hE (by decide) dX12_rests_46) (n_ireturn hE rfl dX12_rests_47)),
    (n_sq (n_aload_n hE dX12_rests_48) (n_sq (n_getS hE xk_11 (k := 20) rfl (by decide) rfl wt_980 dX12_rests_49) (n_sq (n_bipush hE (by decide) dX12_rests_52) (n_sq (n_iload_n hE dX12_rests_54) (n_sq (n_iadd hE dX12_rests_55) (n_sq (n_iald hE rfl (by decide) dX12_rests_56) (n_sq (n_istore hE (show (5 : Nat) < 10 by decide) dX12_rests_57) (n_sq (n_aload_n hE dX12_rests_59) (n_sq (n_getS hE xk_11 (k := 20) rfl (by decide) rfl wt_980 dX12_rests_60) (n_sq (n_bipush hE (by decide) dX12_rests_63) (n_sq (n_iload_n hE dX12_rests_65) (n_sq (n_iadd hE dX12_rests_66) (n_sq (n_iald hE rfl (by decide) dX12_rests_67) (n_sq (n_istore hE (show (6 : Nat) < 10 by decide) dX12_rests_68) (n_sq (n_aload_n hE dX12_rests_70) (n_sq (n_cVv hE m_X12_keeps vc_X12_377 (show 0 + 1 ≤ 6 ∧ 8 + (2 + 11) + 0 ≤ 145 by decide) dX12_rests_71) (n_sq (n_iconst hE (by decide) dX12_rests_74) (n_sq (n_istore hE (show (7 : Nat) < 10 by decide) dX12_rests_75) n_fall)))))))))))))))))),
    (n_sq (n_iload hE dX12_rests_77) (n_sq (n_bipush hE (by decide) dX12_rests_79) (n_ifcge hE (by decide) dX12_rests_81))),
    (n_sq (n_aload_n hE dX12_rests_84) (n_sq (n_getS hE xk_11 (k := 20) rfl (by decide) rfl wt_980 dX12_rests_85) (n_sq (n_bipush hE (by decide) dX12_rests_88) (n_sq (n_iload_n hE dX12_rests_90) (n_sq (n_iadd hE dX12_rests_91) (n_sq (n_iconst hE (by decide) dX12_rests_92) (n_sq (n_iload hE dX12_rests_93) (n_sq (n_iconst hE (by decide) dX12_rests_95) (n_sq (n_idiv hE dX12_rests_96) (n_sq (n_imul hE dX12_rests_97) (n_sq (n_iast hE rfl (by decide) dX12_rests_98) (n_sq (n_aload_n hE dX12_rests_99) (n_sq (n_getS hE xk_11 (k := 20) rfl (by decide) rfl wt_980 dX12_rests_100) (n_sq (n_bipush hE (by decide) dX12_rests_103) (n_sq (n_iload_n hE dX12_rests_105) (n_sq (n_iadd hE dX12_rests_106) (n_sq (n_iconst hE (by decide) dX12_rests_107) (n_sq (n_iload hE dX12_rests_108) (n_sq (n_iconst hE (by decide) dX12_rests_110) (n_sq (n_irem hE dX12_rests_111) (n_sq (n_imul hE dX12_rests_112) (n_sq (n_iast hE rfl (by decide) dX12_rests_113) (n_sq (n_aload_n hE dX12_rests_114) (n_sq (n_iload_n hE dX12_rests_115) (n_sq (n_cVv hE m_X12_passesAll vc_X12_380 (show 5 + 1 ≤ 6 ∧ 8 + (3 + 11) + 123 ≤ 145 by decide) dX12_rests_116) (n_sq (n_aload_n hE dX12_rests_119) (n_sq (n_getS hE xk_11 (k := 34) rfl (by decide) rfl wt_994 dX12_rests_120) (n_sq (n_iconst hE (by decide) dX12_rests_123) (n_sq (n_iload hE dX12_rests_124) (n_sq (n_imul hE dX12_rests_126) (n_sq (n_aload_n hE dX12_rests_127) (n_sq (n_iload_n hE dX12_rests_128) (n_sq (n_cIv hE m_X12_hasThen vc_X12_432 (show 2 + 1 ≤ 6 ∧ 8 + (2 + 11) + 42 ≤ 145 by decide) dX12_rests_129) (n_sq (n_iast hE rfl (by decide) dX12_rests_132) (n_sq (n_aload_n hE dX12_rests_133) (n_sq (n_getS hE xk_11 (k := 34) rfl (by decide) rfl wt_994 dX12_rests_134) (n_sq (n_iconst hE (by decide) dX12_rests_137) (n_sq (n_iload hE dX12_rests_138) (n_sq (n_imul hE dX12_rests_140) (n_sq (n_iconst hE (by decide) dX12_rests_141) (n_sq (n_iadd hE dX12_rests_142) (n_sq (n_aload_n hE dX12_rests_143) (n_sq (n_iload_n hE dX12_rests_144) (n_sq (n_cIv hE m_X12_hasThen vc_X12_432 (show 2 + 1 ≤ 6 ∧ 8 + (2 + 11) + 42 ≤ 145 by decide) dX12_rests_145) (n_sq (n_iast hE rfl (by decide) dX12_rests_148) (n_sq (n_aload_n hE dX12_rests_149) (n_sq (n_cVv hE m_X12_laysBack vc_X12_383 (show 0 + 1 ≤ 6 ∧ 8 + (2 + 11) + 0 ≤ 145 by decide) dX12_rests_150) (n_sq (n_iinc hE (by decide) (show (7 : Nat) < 10 by decide) dX12_rests_153) (n_goto hE (by decide) dX12_rests_156))))))))))))))))))))))))))))))))))))))))))))))))),
    (n_sq (n_aload_n hE dX12_rests_159) (n_sq (n_getS hE xk_11 (k := 20) rfl (by decide) rfl wt_980 dX12_rests_160) (n_sq (n_bipush hE (by decide) dX12_rests_163) (n_sq (n_iload_n hE dX12_rests_165) (n_sq (n_iadd hE dX12_rests_166) (n_sq (n_iload hE dX12_rests_167) (n_sq (n_iast hE rfl (by decide) dX12_rests_169) (n_sq (n_aload_n hE dX12_rests_170) (n_sq (n_getS hE xk_11 (k := 20) rfl (by decide) rfl wt_980 dX12_rests_171) (n_sq (n_bipush hE (by decide) dX12_rests_174) (n_sq (n_iload_n hE dX12_rests_176) (n_sq (n_iadd hE dX12_rests_177) (n_sq (n_iload hE dX12_rests_178) (n_sq (n_iast hE rfl (by decide) dX12_rests_180) (n_sq (n_iconst hE (by decide) dX12_rests_181) (n_sq (n_istore hE (show (7 : Nat) < 10 by decide) dX12_rests_182) (n_sq (n_iconst hE (by decide) dX12_rests_184) (n_sq (n_istore hE (show (8 : Nat) < 10 by decide) dX12_rests_185) (n_sq (n_bipush hE (by decide) dX12_rests_187) (n_sq (n_istore hE (show (9 : Nat) < 10 by decide) dX12_rests_189) n_fall)))))))))))))))))))),
    (n_sq (n_iload hE dX12_rests_191) (n_iflt hE (by decide) dX12_rests_193)),
    (n_sq (n_aload_n hE dX12_rests_196) (n_sq (n_iload hE dX12_rests_197) (n_sq (n_iconst hE (by decide) dX12_rests_199) (n_sq (n_idiv hE dX12_rests_200) (n_sq (n_iload hE dX12_rests_201) (n_sq (n_iconst hE (by decide) dX12_rests_203) (n_sq (n_irem hE dX12_rests_204) (n_sq (n_cIv hE m_X12_isRest vc_X12_435 (show 0 + 1 ≤ 6 ∧ 8 + (4 + 11) + 0 ≤ 145 by decide) dX12_rests_205) (n_ifne hE (by decide) dX12_rests_208))))))))),
    (n_goto hE (by decide) dX12_rests_211),
    (n_sq (n_iload hE dX12_rests_214) (n_sq (n_istore hE (show (8 : Nat) < 10 by decide) dX12_rests_216) (n_sq (n_iinc hE (by decide) (show (7 : Nat) < 10 by decide) dX12_rests_218) n_fall))),
    (n_sq (n_iinc hE (by decide) (show (9 : Nat) < 10 by decide) dX12_rests_221) (n_goto hE (by decide) dX12_rests_224)),
    (n_sq (n_iload hE dX12_rests_227) (n_ifne hE (by decide) dX12_rests_229)),
    (n_sq (n_iload hE dX12_rests_232) (n_ireturn hE rfl dX12_rests_234)),
    (n_sq (n_iload hE dX12_rests_235) (n_ifge hE (by decide) dX12_rests_237)),
    (n_sq (n_bipush hE (by decide) dX12_rests_240) (n_goto hE (by decide) dX12_rests_242)),
    (n_sq (n_iload hE dX12_rests_245) (n_sq (n_iconst hE (by decide) dX12_rests_247) (n_ifcne hE (by decide) dX12_rests_248))),
    (n_sq (n_iconst hE (by decide) dX12_rests_251) (n_sq (n_iload hE dX12_rests_252) (n_sq (n_iconst hE (by decide) dX12_rests_254) (n_sq (n_idiv hE dX12_rests_255) (n_sq (n_imul hE dX12_rests_256) (n_goto hE (by decide) dX12_rests_257)))))),
    (n_sq (n_iconst hE (by decide) dX12_rests_260) (n_sq (n_iload hE dX12_rests_261) (n_sq (n_iconst hE (by decide) dX12_rests_263) (n_sq (n_irem hE dX12_rests_264) (n_sq (n_imul hE dX12_rests_265) n_fall))))),
    (n_ireturn hE rfl dX12_rests_266), trivial⟩
noncomputable def F_X12_rests (as : List XV) (w : XW) : Option (Int32 × XW) := (xF 10 bs_X12_rests as w).bind pI
theorem m_X12_rests : XM yX12_rests cX12_rests 10 (some .int) 6 145 (eI F_X12_rests) := xm_I (xm_of (by decide) s_X12_rests)
noncomputable def q_X12_rests_0 (x1 : Int32) (x2 : Int32) (x3 : Int32) (x4 : Int32) (w : XW) : Option XR := ev bs_X12_rests 0 ([some (.inr (11, 0)), some (.inl (.int x1)), some (.inl (.int x2)), some (.inl (.int x3)), some (.inl (.int x4)), none, none, none, none, none], [], w)
noncomputable def q_X12_rests_8 (x1 : Int32) (x2 : Int32) (x3 : Int32) (x4 : Int32) (w : XW) : Option XR := ev bs_X12_rests 8 ([some (.inr (11, 0)), some (.inl (.int x1)), some (.inl (.int x2)), some (.inl (.int x3)), some (.inl (.int x4)), none, none, none, none, none], [], w)
noncomputable def q_X12_rests_16 (x1 : Int32) (x2 : Int32) (x3 : Int32) (x4 : Int32) (w : XW) : Option XR := ev bs_X12_rests 16 ([some (.inr (11, 0)), some (.inl (.int x1)), some (.inl (.int x2)), some (.inl (.int x3)), some (.inl (.int x4)), none, none, none, none, none], [], w)
noncomputable def q_X12_rests_21 (x1 : Int32) (x2 : Int32) (x3 : Int32) (x4 : Int32) (w : XW) : Option XR := ev bs_X12_rests 21 ([some (.inr (11, 0)), some (.inl (.int x1)), some (.inl (.int x2)), some (.inl (.int x3)), some (.inl (.int x4)), none, none, none, none, none], [], w)
noncomputable def q_X12_rests_33 (x1 : Int32) (x2 : Int32) (x3 : Int32) (x4 : Int32) (w : XW) : Option XR := ev bs_X12_rests 33 ([some (.inr (11, 0)), some (.inl (.int x1)), some (.inl (.int x2)), some (.inl (.int x3)), some (.inl (.int x4)), none, none, none, none, none], [], w)
noncomputable def q_X12_rests_46 (w : XW) : Option XR := ev bs_X12_rests 46 ([none, none, none, none, none, none, none, none, none, none], [], w)
noncomputable def q_X12_rests_48 (x1 : Int32) (x2 : Int32) (x3 : Int32) (x4 : Int32) (w : XW) : Option XR := ev bs_X12_rests 48 ([some (.inr (11, 0)), some (.inl (.int x1)), some (.inl (.int x2)), some (.inl (.int x3)), some (.inl (.int x4)), none, none, none, none, none], [], w)
noncomputable def q_X12_rests_77 (x1 : Int32) (x2 : Int32) (x3 : Int32) (x4 : Int32) (x5 : Int32) (x6 : Int32) (x7 : Int32) (w : XW) : Option XR := ev bs_X12_rests 77 ([some (.inr (11, 0)), some (.inl (.int x1)), some (.inl (.int x2)), some (.inl (.int x3)), some (.inl (.int x4)), some (.inl (.int x5)), some (.inl (.int x6)), some (.inl (.int x7)), none, none], [], w)
noncomputable def q_X12_rests_84 (x1 : Int32) (x2 : Int32) (x3 : Int32) (x4 : Int32) (x5 : Int32) (x6 : Int32) (x7 : Int32) (w : XW) : Option XR := ev bs_X12_rests 84 ([some (.inr (11, 0)), some (.inl (.int x1)), some (.inl (.int x2)), some (.inl (.int x3)), some (.inl (.int x4)), some (.inl (.int x5)), some (.inl (.int x6)), some (.inl (.int x7)), none, none], [], w)
noncomputable def q_X12_rests_159 (x1 : Int32) (x2 : Int32) (x4 : Int32) (x5 : Int32) (x6 : Int32) (w : XW) : Option XR := ev bs_X12_rests 159 ([some (.inr (11, 0)), some (.inl (.int x1)), some (.inl (.int x2)), none, some (.inl (.int x4)), some (.inl (.int x5)), some (.inl (.int x6)), none, none, none], [], w)
noncomputable def q_X12_rests_191 (x4 : Int32) (x7 : Int32) (x8 : Int32) (x9 : Int32) (w : XW) : Option XR := ev bs_X12_rests 191 ([some (.inr (11, 0)), none, none, none, some (.inl (.int x4)), none, none, some (.inl (.int x7)), some (.inl (.int x8)), some (.inl (.int x9))], [], w)
noncomputable def q_X12_rests_196 (x4 : Int32) (x7 : Int32) (x8 : Int32) (x9 : Int32) (w : XW) : Option XR := ev bs_X12_rests 196 ([some (.inr (11, 0)), none, none, none, some (.inl (.int x4)), none, none, some (.inl (.int x7)), some (.inl (.int x8)), some (.inl (.int x9))], [], w)
noncomputable def q_X12_rests_211 (x4 : Int32) (x7 : Int32) (x8 : Int32) (x9 : Int32) (w : XW) : Option XR := ev bs_X12_rests 211 ([some (.inr (11, 0)), none, none, none, some (.inl (.int x4)), none, none, some (.inl (.int x7)), some (.inl (.int x8)), some (.inl (.int x9))], [], w)
noncomputable def q_X12_rests_214 (x4 : Int32) (x7 : Int32) (x9 : Int32) (w : XW) : Option XR := ev bs_X12_rests 214 ([some (.inr (11, 0)), none, none, none, some (.inl (.int x4)), none, none, some (.inl (.int x7)), none, some (.inl (.int x9))], [], w)
noncomputable def q_X12_rests_221 (x4 : Int32) (x7 : Int32) (x8 : Int32) (x9 : Int32) (w : XW) : Option XR := ev bs_X12_rests 221 ([some (.inr (11, 0)), none, none, none, some (.inl (.int x4)), none, none, some (.inl (.int x7)), some (.inl (.int x8)), some (.inl (.int x9))], [], w)
noncomputable def q_X12_rests_227 (x4 : Int32) (x7 : Int32) (x8 : Int32) (w : XW) : Option XR := ev bs_X12_rests 227 ([none, none, none, none, some (.inl (.int x4)), none, none, some (.inl (.int x7)), some (.inl (.int x8)), none], [], w)
noncomputable def q_X12_rests_232 (x7 : Int32) (w : XW) : Option XR := ev bs_X12_rests 232 ([none, none, none, none, none, none, none, some (.inl (.int x7)), none, none], [], w)
noncomputable def q_X12_rests_235 (x4 : Int32) (x8 : Int32) (w : XW) : Option XR := ev bs_X12_rests 235 ([none, none, none, none, some (.inl (.int x4)), none, none, none, some (.inl (.int x8)), none], [], w)
noncomputable def q_X12_rests_240 (w : XW) : Option XR := ev bs_X12_rests 240 ([none, none, none, none, none, none, none, none, none, none], [], w)
noncomputable def q_X12_rests_245 (x4 : Int32) (x8 : Int32) (w : XW) : Option XR := ev bs_X12_rests 245 ([none, none, none, none, some (.inl (.int x4)), none, none, none, some (.inl (.int x8)), none], [], w)
noncomputable def q_X12_rests_251 (x8 : Int32) (w : XW) : Option XR := ev bs_X12_rests 251 ([none, none, none, none, none, none, none, none, some (.inl (.int x8)), none], [], w)
noncomputable def q_X12_rests_260 (x8 : Int32) (w : XW) : Option XR := ev bs_X12_rests 260 ([none, none, none, none, none, none, none, none, some (.inl (.int x8)), none], [], w)
noncomputable def q_X12_rests_266 (s0 : Int32) (w : XW) : Option XR := ev bs_X12_rests 266 ([none, none, none, none, none, none, none, none, none, none], [.inl (.int s0)], w)
set_option maxRecDepth 100000 in
theorem e_X12_rests_0 (x1 : Int32) (x2 : Int32) (x3 : Int32) (x4 : Int32) (w : XW) : q_X12_rests_0 x1 x2 x3 x4 w = ((F_X12_isPerson [.inr (11, 0), .inl (.int x1)] w).bind fun r0 => (bif decide (r0.1 = 0) then (q_X12_rests_46 r0.2) else (q_X12_rests_8 x1 x2 x3 x4 r0.2))) := (ev_eq _ _ _).trans rfl
set_option maxRecDepth 100000 in
theorem e_X12_rests_8 (x1 : Int32) (x2 : Int32) (x3 : Int32) (x4 : Int32) (w : XW) : q_X12_rests_8 x1 x2 x3 x4 w = ((F_X12_isPerson [.inr (11, 0), .inl (.int x2)] w).bind fun r0 => (bif decide (r0.1 = 0) then (q_X12_rests_46 r0.2) else (q_X12_rests_16 x1 x2 x3 x4 r0.2))) := (ev_eq _ _ _).trans rfl
set_option maxRecDepth 100000 in
theorem e_X12_rests_16 (x1 : Int32) (x2 : Int32) (x3 : Int32) (x4 : Int32) (w : XW) : q_X12_rests_16 x1 x2 x3 x4 w = (bif decide (x1 = x2) then (q_X12_rests_46 w) else (q_X12_rests_21 x1 x2 x3 x4 w)) := (ev_eq _ _ _).trans rfl
set_option maxRecDepth 100000 in
theorem e_X12_rests_21 (x1 : Int32) (x2 : Int32) (x3 : Int32) (x4 : Int32) (w : XW) : q_X12_rests_21 x1 x2 x3 x4 w = ((F_X12_in [.inl (.long (x3 : Int32).toInt64), .inl (.long 1), .inl (.long 20)] w).bind fun r0 => (bif decide (r0.1 = 0) then (q_X12_rests_46 r0.2) else (q_X12_rests_33 x1 x2 x3 x4 r0.2))) := (ev_eq _ _ _).trans rfl
set_option maxRecDepth 100000 in
theorem e_X12_rests_33 (x1 : Int32) (x2 : Int32) (x3 : Int32) (x4 : Int32) (w : XW) : q_X12_rests_33 x1 x2 x3 x4 w = ((F_X12_in [.inl (.long (x4 : Int32).toInt64), .inl (.long 0), .inl (.long 2)] w).bind fun r0 => (bif decide (¬ r0.1 = 0) then (q_X12_rests_48 x1 x2 x3 x4 r0.2) else (q_X12_rests_46 r0.2))) := (ev_eq _ _ _).trans rfl
set_option maxRecDepth 100000 in
theorem e_X12_rests_46 (w : XW) : q_X12_rests_46 w = (some (some (.inl (.int (-1))), w)) := (ev_eq _ _ _).trans rfl
set_option maxRecDepth 100000 in
theorem e_X12_rests_48 (x1 : Int32) (x2 : Int32) (x3 : Int32) (x4 : Int32) (w : XW) : q_X12_rests_48 x1 x2 x3 x4 w = (if (52 + x1) < 0 ∨ 98 ≤ (52 + x1).toNatClampNeg then none else (if (52 + x2) < 0 ∨ 98 ≤ (52 + x2).toNatClampNeg then none else ((F_X12_keeps [.inr (11, 0)] w).bind fun r0 => (q_X12_rests_77 x1 x2 x3 x4 (gI w 50 0 (52 + x1).toNatClampNeg) (gI w 50 0 (52 + x2).toNatClampNeg) 0 r0)))) := (ev_eq _ _ _).trans rfl
set_option maxRecDepth 100000 in
theorem e_X12_rests_77 (x1 : Int32) (x2 : Int32) (x3 : Int32) (x4 : Int32) (x5 : Int32) (x6 : Int32) (x7 : Int32) (w : XW) : q_X12_rests_77 x1 x2 x3 x4 x5 x6 x7 w = (bif decide (16 ≤ x7) then (q_X12_rests_159 x1 x2 x4 x5 x6 w) else (q_X12_rests_84 x1 x2 x3 x4 x5 x6 x7 w)) := (ev_eq _ _ _).trans rfl
set_option maxRecDepth 100000 in
theorem e_X12_rests_84 (x1 : Int32) (x2 : Int32) (x3 : Int32) (x4 : Int32) (x5 : Int32) (x6 : Int32) (x7 : Int32) (w : XW) : q_X12_rests_84 x1 x2 x3 x4 x5 x6 x7 w = (if (52 + x1) < 0 ∨ 98 ≤ (52 + x1).toNatClampNeg then none else (if (52 + x2) < 0 ∨ 98 ≤ (52 + x2).toNatClampNeg then none else ((F_X12_passesAll [.inr (11, 0), .inl (.int x3)] (sI (sI w 50 0 ((52 + x1).toNatClampNeg) (3 * (x7 / 4))) 50 0 ((52 + x2).toNatClampNeg) (3 * (x7 - x7 / 4 * 4)))).bind fun r0 => ((F_X12_hasThen [.inr (11, 0), .inl (.int x1)] r0).bind fun r1 => (if (2 * x7) < 0 ∨ 32 ≤ (2 * x7).toNatClampNeg then none else ((F_X12_hasThen [.inr (11, 0), .inl (.int x2)] (sI r1.2 57 0 ((2 * x7).toNatClampNeg) r1.1)).bind fun r2 => (if ((2 * x7) + 1) < 0 ∨ 32 ≤ ((2 * x7) + 1).toNatClampNeg then none else ((F_X12_laysBack [.inr (11, 0)] (sI r2.2 57 0 (((2 * x7) + 1).toNatClampNeg) r2.1)).bind fun r3 => (q_X12_rests_77 x1 x2 x3 x4 x5 x6 (x7 + 1) r3))))))))) := (ev_eq _ _ _).trans rfl
set_option maxRecDepth 100000 in
theorem e_X12_rests_159 (x1 : Int32) (x2 : Int32) (x4 : Int32) (x5 : Int32) (x6 : Int32) (w : XW) : q_X12_rests_159 x1 x2 x4 x5 x6 w = (if (52 + x1) < 0 ∨ 98 ≤ (52 + x1).toNatClampNeg then none else (if (52 + x2) < 0 ∨ 98 ≤ (52 + x2).toNatClampNeg then none else (q_X12_rests_191 x4 0 (-1) 15 (sI (sI w 50 0 ((52 + x1).toNatClampNeg) x5) 50 0 ((52 + x2).toNatClampNeg) x6)))) := (ev_eq _ _ _).trans rfl
set_option maxRecDepth 100000 in
theorem e_X12_rests_191 (x4 : Int32) (x7 : Int32) (x8 : Int32) (x9 : Int32) (w : XW) : q_X12_rests_191 x4 x7 x8 x9 w = (bif decide (x9 < 0) then (q_X12_rests_227 x4 x7 x8 w) else (q_X12_rests_196 x4 x7 x8 x9 w)) := (ev_eq _ _ _).trans rfl
set_option maxRecDepth 100000 in
theorem e_X12_rests_196 (x4 : Int32) (x7 : Int32) (x8 : Int32) (x9 : Int32) (w : XW) : q_X12_rests_196 x4 x7 x8 x9 w = ((F_X12_isRest [.inr (11, 0), .inl (.int (x9 / 4)), .inl (.int (x9 - x9 / 4 * 4))] w).bind fun r0 => (bif decide (¬ r0.1 = 0) then (q_X12_rests_214 x4 x7 x9 r0.2) else (q_X12_rests_211 x4 x7 x8 x9 r0.2))) := (ev_eq _ _ _).trans rfl
set_option maxRecDepth 100000 in
theorem e_X12_rests_211 (x4 : Int32) (x7 : Int32) (x8 : Int32) (x9 : Int32) (w : XW) : q_X12_rests_211 x4 x7 x8 x9 w = (q_X12_rests_221 x4 x7 x8 x9 w) := (ev_eq _ _ _).trans rfl
set_option maxRecDepth 100000 in
theorem e_X12_rests_214 (x4 : Int32) (x7 : Int32) (x9 : Int32) (w : XW) : q_X12_rests_214 x4 x7 x9 w = (q_X12_rests_221 x4 (x7 + 1) x9 x9 w) := (ev_eq _ _ _).trans rfl
set_option maxRecDepth 100000 in
theorem e_X12_rests_221 (x4 : Int32) (x7 : Int32) (x8 : Int32) (x9 : Int32) (w : XW) : q_X12_rests_221 x4 x7 x8 x9 w = (q_X12_rests_191 x4 x7 x8 (x9 + (-1)) w) := (ev_eq _ _ _).trans rfl
set_option maxRecDepth 100000 in
theorem e_X12_rests_227 (x4 : Int32) (x7 : Int32) (x8 : Int32) (w : XW) : q_X12_rests_227 x4 x7 x8 w = (bif decide (¬ x4 = 0) then (q_X12_rests_235 x4 x8 w) else (q_X12_rests_232 x7 w)) := (ev_eq _ _ _).trans rfl
set_option maxRecDepth 100000 in
theorem e_X12_rests_232 (x7 : Int32) (w : XW) : q_X12_rests_232 x7 w = (some (some (.inl (.int x7)), w)) := (ev_eq _ _ _).trans rfl
set_option maxRecDepth 100000 in
theorem e_X12_rests_235 (x4 : Int32) (x8 : Int32) (w : XW) : q_X12_rests_235 x4 x8 w = (bif decide (0 ≤ x8) then (q_X12_rests_245 x4 x8 w) else (q_X12_rests_240 w)) := (ev_eq _ _ _).trans rfl
set_option maxRecDepth 100000 in
theorem e_X12_rests_240 (w : XW) : q_X12_rests_240 w = (q_X12_rests_266 (-2) w) := (ev_eq _ _ _).trans rfl
set_option maxRecDepth 100000 in
theorem e_X12_rests_245 (x4 : Int32) (x8 : Int32) (w : XW) : q_X12_rests_245 x4 x8 w = (bif decide (¬ x4 = 1) then (q_X12_rests_260 x8 w) else (q_X12_rests_251 x8 w)) := (ev_eq _ _ _).trans rfl
set_option maxRecDepth 100000 in
theorem e_X12_rests_251 (x8 : Int32) (w : XW) : q_X12_rests_251 x8 w = (q_X12_rests_266 (3 * (x8 / 4)) w) := (ev_eq _ _ _).trans rfl
set_option maxRecDepth 100000 in
theorem e_X12_rests_260 (x8 : Int32) (w : XW) : q_X12_rests_260 x8 w = (q_X12_rests_266 (3 * (x8 - x8 / 4 * 4)) w) := (ev_eq _ _ _).trans rfl
set_option maxRecDepth 100000 in
theorem e_X12_rests_266 (s0 : Int32) (w : XW) : q_X12_rests_266 s0 w = (some (some (.inl (.int s0)), w)) := (ev_eq _ _ _).trans rfl
theorem f_X12_rests (x1 : Int32) (x2 : Int32) (x3 : Int32) (x4 : Int32) (w : XW) : F_X12_rests [.inr (11, 0), .inl (.int x1), .inl (.int x2), .inl (.int x3), .inl (.int x4)] w = (q_X12_rests_0 x1 x2 x3 x4 w).bind pI := rfl

-- WinterKeepModel.areAlike(II)Z
theorem dX12_areAlike_0 : decode cX12_areAlike 0 = .ok (.iconst 0, 1) := by decide +kernel
theorem dX12_areAlike_1 : decode cX12_areAlike 1 = .ok (.istore_n 3, 1) := by decide +kernel
theorem dX12_areAlike_2 : decode cX12_areAlike 2 = .ok (.iload_n 3, 1) := by decide +kernel
theorem dX12_areAlike_3 : decode cX12_areAlike 3 = .ok (.bipush 18, 2) := by decide +kernel
theorem dX12_areAlike_5 : decode cX12_areAlike 5 = .ok (.if_icmp .ge 36, 3) := by decide +kernel
theorem dX12_areAlike_8 : decode cX12_areAlike 8 = .ok (.aload_n 0, 1) := by decide +kernel
theorem dX12_areAlike_9 : decode cX12_areAlike 9 = .ok (.getfield 70, 3) := by decide +kernel
theorem dX12_areAlike_12 : decode cX12_areAlike 12 = .ok (.bipush 18, 2) := by decide +kernel
theorem dX12_areAlike_14 : decode cX12_areAlike 14 = .ok (.iload_n 1, 1) := by decide +kernel
theorem dX12_areAlike_15 : decode cX12_areAlike 15 = .ok (.imul, 1) := by decide +kernel
theorem dX12_areAlike_16 : decode cX12_areAlike 16 = .ok (.iload_n 3, 1) := by decide +kernel
theorem dX12_areAlike_17 : decode cX12_areAlike 17 = .ok (.iadd, 1) := by decide +kernel
theorem dX12_areAlike_18 : decode cX12_areAlike 18 = .ok (.iaload, 1) := by decide +kernel
theorem dX12_areAlike_19 : decode cX12_areAlike 19 = .ok (.aload_n 0, 1) := by decide +kernel
theorem dX12_areAlike_20 : decode cX12_areAlike 20 = .ok (.getfield 70, 3) := by decide +kernel
theorem dX12_areAlike_23 : decode cX12_areAlike 23 = .ok (.bipush 18, 2) := by decide +kernel
theorem dX12_areAlike_25 : decode cX12_areAlike 25 = .ok (.iload_n 2, 1) := by decide +kernel
theorem dX12_areAlike_26 : decode cX12_areAlike 26 = .ok (.imul, 1) := by decide +kernel
theorem dX12_areAlike_27 : decode cX12_areAlike 27 = .ok (.iload_n 3, 1) := by decide +kernel
theorem dX12_areAlike_28 : decode cX12_areAlike 28 = .ok (.iadd, 1) := by decide +kernel
theorem dX12_areAlike_29 : decode cX12_areAlike 29 = .ok (.iaload, 1) := by decide +kernel
theorem dX12_areAlike_30 : decode cX12_areAlike 30 = .ok (.if_icmp .eq 5, 3) := by decide +kernel
theorem dX12_areAlike_33 : decode cX12_areAlike 33 = .ok (.iconst 0, 1) := by decide +kernel
theorem dX12_areAlike_34 : decode cX12_areAlike 34 = .ok (.ireturn, 1) := by decide +kernel
theorem dX12_areAlike_35 : decode cX12_areAlike 35 = .ok (.iinc 3 1, 3) := by decide +kernel
theorem dX12_areAlike_38 : decode cX12_areAlike 38 = .ok (.goto (-36), 3) := by decide +kernel
theorem dX12_areAlike_41 : decode cX12_areAlike 41 = .ok (.iconst 1, 1) := by decide +kernel
theorem dX12_areAlike_42 : decode cX12_areAlike 42 = .ok (.ireturn, 1) := by decide +kernel
noncomputable def bs_X12_areAlike : List (Nat × XB) := [
  (0, (sq (xC (.int 0)) (sq (xSI 3) (tGo 2 [true, true, true, true])))),
  (2, (sq (xLI 3) (sq (xC (.int 18)) (tIf2 (fun x y => decide (y ≤ x)) 41 [false, false, false, false] 8 [true, true, true, true])))),
  (8, (sq (xLA 0) (sq (xGS 11 58 1 0) (sq (xC (.int 18)) (sq (xLI 1) (sq (xI2 (· * ·)) (sq (xLI 3) (sq (xI2 (· + ·)) (sq (xAI 58 1098) (sq (xLA 0) (sq (xGS 11 58 1 0) (sq (xC (.int 18)) (sq (xLI 2) (sq (xI2 (· * ·)) (sq (xLI 3) (sq (xI2 (· + ·)) (sq (xAI 58 1098) (tIf2 (fun x y => decide (x = y)) 35 [true, true, true, true] 33 [false, false, false, false])))))))))))))))))),
  (33, (sq (xC (.int 0)) tRZ)),
  (35, (sq (xInc 3 1) (tGo 2 [true, true, true, true]))),
  (41, (sq (xC (.int 1)) tRZ))]
set_option maxRecDepth 100000 in
set_option maxHeartbeats 4000000 in
theorem s_X12_areAlike : ∀ X : XCtx, XE X → X.2.2.1.1 = cX12_areAlike → X.2.2.1.2.1 = 4 → X.2.2.1.2.2.1 = yX12_areAlike.cls → X.2.2.1.2.2.2.1 = (some .boolean) → X.1.2.2.2.1 = { frames := 0, cells := 0, slots := 0, locals := 0 } → SndBs X bs_X12_areAlike := by
  rintro ⟨⟨p, l, e, R, s⟩, Y, ⟨cc, nL, own, ret, Ts⟩, Z⟩ hE h1 h2 h3 h4 h5
  dsimp only at h1 h2 h3 h4 h5
  subst h1 h2 h3 h4 h5
  exact ⟨(n_sq (n_iconst hE (by decide) dX12_areAlike_0) (n_sq (n_istore_n hE (show (3 : Nat) < 4 by decide) dX12_areAlike_1) n_fall)),
    (n_sq (n_iload_n hE dX12_areAlike_2) (n_sq (n_bipush hE (by decide) dX12_areAlike_3) (n_ifcge hE (by decide) dX12_areAlike_5))),
    (n_sq (n_aload_n hE dX12_areAlike_8) (n_sq (n_getS hE xk_11 (k := 35) rfl (by decide) rfl wt_995 dX12_areAlike_9) (n_sq (n_bipush hE (by decide) dX12_areAlike_12) (n_sq (n_iload_n hE dX12_areAlike_14) (n_sq (n_imul hE dX12_areAlike_15) (n_sq (n_iload_n hE dX12_areAlike_16) (n_sq (n_iadd hE dX12_areAlike_17) (n_sq (n_iald hE rfl (by decide) dX12_areAlike_18) (n_sq (n_aload_n hE dX12_areAlike_19) (n_sq (n_getS hE xk_11 (k := 35) rfl (by decide) rfl wt_995 dX12_areAlike_20) (n_sq (n_bipush hE (by decide) dX12_areAlike_23) (n_sq (n_iload_n hE dX12_areAlike_25) (n_sq (n_imul hE dX12_areAlike_26) (n_sq (n_iload_n hE dX12_areAlike_27) (n_sq (n_iadd hE dX12_areAlike_28) (n_sq (n_iald hE rfl (by decide) dX12_areAlike_29) (n_ifceq hE (by decide) dX12_areAlike_30))))))))))))))))),
    (n_sq (n_iconst hE (by decide) dX12_areAlike_33) (n_zreturn hE rfl dX12_areAlike_34)),
    (n_sq (n_iinc hE (by decide) (show (3 : Nat) < 4 by decide) dX12_areAlike_35) (n_goto hE (by decide) dX12_areAlike_38)),
    (n_sq (n_iconst hE (by decide) dX12_areAlike_41) (n_zreturn hE rfl dX12_areAlike_42)), trivial⟩
noncomputable def F_X12_areAlike (as : List XV) (w : XW) : Option (Int32 × XW) := (xF 4 bs_X12_areAlike as w).bind pI
theorem m_X12_areAlike : XM yX12_areAlike cX12_areAlike 4 (some .boolean) 0 0 (eI F_X12_areAlike) := xm_I (xm_of (by decide) s_X12_areAlike)
noncomputable def q_X12_areAlike_0 (x1 : Int32) (x2 : Int32) (w : XW) : Option XR := ev bs_X12_areAlike 0 ([some (.inr (11, 0)), some (.inl (.int x1)), some (.inl (.int x2)), none], [], w)
noncomputable def q_X12_areAlike_2 (x1 : Int32) (x2 : Int32) (x3 : Int32) (w : XW) : Option XR := ev bs_X12_areAlike 2 ([some (.inr (11, 0)), some (.inl (.int x1)), some (.inl (.int x2)), some (.inl (.int x3))], [], w)
noncomputable def q_X12_areAlike_8 (x1 : Int32) (x2 : Int32) (x3 : Int32) (w : XW) : Option XR := ev bs_X12_areAlike 8 ([some (.inr (11, 0)), some (.inl (.int x1)), some (.inl (.int x2)), some (.inl (.int x3))], [], w)
noncomputable def q_X12_areAlike_33 (w : XW) : Option XR := ev bs_X12_areAlike 33 ([none, none, none, none], [], w)
noncomputable def q_X12_areAlike_35 (x1 : Int32) (x2 : Int32) (x3 : Int32) (w : XW) : Option XR := ev bs_X12_areAlike 35 ([some (.inr (11, 0)), some (.inl (.int x1)), some (.inl (.int x2)), some (.inl (.int x3))], [], w)
noncomputable def q_X12_areAlike_41 (w : XW) : Option XR := ev bs_X12_areAlike 41 ([none, none, none, none], [], w)
theorem e_X12_areAlike_0 (x1 : Int32) (x2 : Int32) (w : XW) : q_X12_areAlike_0 x1 x2 w = (q_X12_areAlike_2 x1 x2 0 w) := (ev_eq _ _ _).trans rfl
theorem e_X12_areAlike_2 (x1 : Int32) (x2 : Int32) (x3 : Int32) (w : XW) : q_X12_areAlike_2 x1 x2 x3 w = (bif decide (18 ≤ x3) then (q_X12_areAlike_41 w) else (q_X12_areAlike_8 x1 x2 x3 w)) := (ev_eq _ _ _).trans rfl
theorem e_X12_areAlike_8 (x1 : Int32) (x2 : Int32) (x3 : Int32) (w : XW) : q_X12_areAlike_8 x1 x2 x3 w = (if ((18 * x1) + x3) < 0 ∨ 1098 ≤ ((18 * x1) + x3).toNatClampNeg then none else (if ((18 * x2) + x3) < 0 ∨ 1098 ≤ ((18 * x2) + x3).toNatClampNeg then none else (bif decide ((gI w 58 0 ((18 * x1) + x3).toNatClampNeg) = (gI w 58 0 ((18 * x2) + x3).toNatClampNeg)) then (q_X12_areAlike_35 x1 x2 x3 w) else (q_X12_areAlike_33 w)))) := (ev_eq _ _ _).trans rfl
theorem e_X12_areAlike_33 (w : XW) : q_X12_areAlike_33 w = (some (some (.inl (.int 0)), w)) := (ev_eq _ _ _).trans rfl
theorem e_X12_areAlike_35 (x1 : Int32) (x2 : Int32) (x3 : Int32) (w : XW) : q_X12_areAlike_35 x1 x2 x3 w = (q_X12_areAlike_2 x1 x2 (x3 + 1) w) := (ev_eq _ _ _).trans rfl
theorem e_X12_areAlike_41 (w : XW) : q_X12_areAlike_41 w = (some (some (.inl (.int 1)), w)) := (ev_eq _ _ _).trans rfl
theorem f_X12_areAlike (x1 : Int32) (x2 : Int32) (w : XW) : F_X12_areAlike [.inr (11, 0), .inl (.int x1), .inl (.int x2)] w = (q_X12_areAlike_0 x1 x2 w).bind pI := rfl
