-- WinterKeep$Nights.overhear(LWinterKeep$Scene;)V
theorem dX4_overhear_0 : decode cX4_overhear 0 = .ok (.iconst 0, 1) := by decide +kernel
theorem dX4_overhear_1 : decode cX4_overhear 1 = .ok (.istore_n 2, 1) := by decide +kernel
theorem dX4_overhear_2 : decode cX4_overhear 2 = .ok (.iload_n 2, 1) := by decide +kernel
theorem dX4_overhear_3 : decode cX4_overhear 3 = .ok (.aload_n 0, 1) := by decide +kernel
theorem dX4_overhear_4 : decode cX4_overhear 4 = .ok (.getfield 9, 3) := by decide +kernel
theorem dX4_overhear_7 : decode cX4_overhear 7 = .ok (.getfield 88, 3) := by decide +kernel
theorem dX4_overhear_10 : decode cX4_overhear 10 = .ok (.if_icmp .ge 21, 3) := by decide +kernel
theorem dX4_overhear_13 : decode cX4_overhear 13 = .ok (.aload_n 0, 1) := by decide +kernel
theorem dX4_overhear_14 : decode cX4_overhear 14 = .ok (.getfield 23, 3) := by decide +kernel
theorem dX4_overhear_17 : decode cX4_overhear 17 = .ok (.iload_n 2, 1) := by decide +kernel
theorem dX4_overhear_18 : decode cX4_overhear 18 = .ok (.aload_n 1, 1) := by decide +kernel
theorem dX4_overhear_19 : decode cX4_overhear 19 = .ok (.getfield 65, 3) := by decide +kernel
theorem dX4_overhear_22 : decode cX4_overhear 22 = .ok (.iload_n 2, 1) := by decide +kernel
theorem dX4_overhear_23 : decode cX4_overhear 23 = .ok (.iaload, 1) := by decide +kernel
theorem dX4_overhear_24 : decode cX4_overhear 24 = .ok (.iastore, 1) := by decide +kernel
theorem dX4_overhear_25 : decode cX4_overhear 25 = .ok (.iinc 2 1, 3) := by decide +kernel
theorem dX4_overhear_28 : decode cX4_overhear 28 = .ok (.goto (-26), 3) := by decide +kernel
theorem dX4_overhear_31 : decode cX4_overhear 31 = .ok (.iconst 0, 1) := by decide +kernel
theorem dX4_overhear_32 : decode cX4_overhear 32 = .ok (.istore_n 2, 1) := by decide +kernel
theorem dX4_overhear_33 : decode cX4_overhear 33 = .ok (.iload_n 2, 1) := by decide +kernel
theorem dX4_overhear_34 : decode cX4_overhear 34 = .ok (.aload_n 0, 1) := by decide +kernel
theorem dX4_overhear_35 : decode cX4_overhear 35 = .ok (.getfield 9, 3) := by decide +kernel
theorem dX4_overhear_38 : decode cX4_overhear 38 = .ok (.getfield 88, 3) := by decide +kernel
theorem dX4_overhear_41 : decode cX4_overhear 41 = .ok (.if_icmp .ge 129, 3) := by decide +kernel
theorem dX4_overhear_44 : decode cX4_overhear 44 = .ok (.aload_n 0, 1) := by decide +kernel
theorem dX4_overhear_45 : decode cX4_overhear 45 = .ok (.getfield 30, 3) := by decide +kernel
theorem dX4_overhear_48 : decode cX4_overhear 48 = .ok (.iload_n 2, 1) := by decide +kernel
theorem dX4_overhear_49 : decode cX4_overhear 49 = .ok (.ishr, 1) := by decide +kernel
theorem dX4_overhear_50 : decode cX4_overhear 50 = .ok (.iconst 1, 1) := by decide +kernel
theorem dX4_overhear_51 : decode cX4_overhear 51 = .ok (.iand, 1) := by decide +kernel
theorem dX4_overhear_52 : decode cX4_overhear 52 = .ok (.ifCond .eq 17, 3) := by decide +kernel
theorem dX4_overhear_55 : decode cX4_overhear 55 = .ok (.aload_n 1, 1) := by decide +kernel
theorem dX4_overhear_56 : decode cX4_overhear 56 = .ok (.getfield 91, 3) := by decide +kernel
theorem dX4_overhear_59 : decode cX4_overhear 59 = .ok (.iload_n 2, 1) := by decide +kernel
theorem dX4_overhear_60 : decode cX4_overhear 60 = .ok (.iaload, 1) := by decide +kernel
theorem dX4_overhear_61 : decode cX4_overhear 61 = .ok (.aload_n 0, 1) := by decide +kernel
theorem dX4_overhear_62 : decode cX4_overhear 62 = .ok (.getfield 30, 3) := by decide +kernel
theorem dX4_overhear_65 : decode cX4_overhear 65 = .ok (.iand, 1) := by decide +kernel
theorem dX4_overhear_66 : decode cX4_overhear 66 = .ok (.goto 4, 3) := by decide +kernel
theorem dX4_overhear_69 : decode cX4_overhear 69 = .ok (.iconst 0, 1) := by decide +kernel
theorem dX4_overhear_70 : decode cX4_overhear 70 = .ok (.istore_n 3, 1) := by decide +kernel
theorem dX4_overhear_71 : decode cX4_overhear 71 = .ok (.iconst 0, 1) := by decide +kernel
theorem dX4_overhear_72 : decode cX4_overhear 72 = .ok (.istore 4, 2) := by decide +kernel
theorem dX4_overhear_74 : decode cX4_overhear 74 = .ok (.iload 4, 2) := by decide +kernel
theorem dX4_overhear_76 : decode cX4_overhear 76 = .ok (.aload_n 0, 1) := by decide +kernel
theorem dX4_overhear_77 : decode cX4_overhear 77 = .ok (.getfield 9, 3) := by decide +kernel
theorem dX4_overhear_80 : decode cX4_overhear 80 = .ok (.getfield 88, 3) := by decide +kernel
theorem dX4_overhear_83 : decode cX4_overhear 83 = .ok (.if_icmp .ge 81, 3) := by decide +kernel
theorem dX4_overhear_86 : decode cX4_overhear 86 = .ok (.iload_n 3, 1) := by decide +kernel
theorem dX4_overhear_87 : decode cX4_overhear 87 = .ok (.iload 4, 2) := by decide +kernel
theorem dX4_overhear_89 : decode cX4_overhear 89 = .ok (.ishr, 1) := by decide +kernel
theorem dX4_overhear_90 : decode cX4_overhear 90 = .ok (.ifCond .eq 74, 3) := by decide +kernel
theorem dX4_overhear_93 : decode cX4_overhear 93 = .ok (.iload_n 3, 1) := by decide +kernel
theorem dX4_overhear_94 : decode cX4_overhear 94 = .ok (.iload 4, 2) := by decide +kernel
theorem dX4_overhear_96 : decode cX4_overhear 96 = .ok (.ishr, 1) := by decide +kernel
theorem dX4_overhear_97 : decode cX4_overhear 97 = .ok (.iconst 1, 1) := by decide +kernel
theorem dX4_overhear_98 : decode cX4_overhear 98 = .ok (.iand, 1) := by decide +kernel
theorem dX4_overhear_99 : decode cX4_overhear 99 = .ok (.ifCond .eq 59, 3) := by decide +kernel
theorem dX4_overhear_102 : decode cX4_overhear 102 = .ok (.aload_n 0, 1) := by decide +kernel
theorem dX4_overhear_103 : decode cX4_overhear 103 = .ok (.getfield 23, 3) := by decide +kernel
theorem dX4_overhear_106 : decode cX4_overhear 106 = .ok (.iload 4, 2) := by decide +kernel
theorem dX4_overhear_108 : decode cX4_overhear 108 = .ok (.iaload, 1) := by decide +kernel
theorem dX4_overhear_109 : decode cX4_overhear 109 = .ok (.aload_n 0, 1) := by decide +kernel
theorem dX4_overhear_110 : decode cX4_overhear 110 = .ok (.getfield 23, 3) := by decide +kernel
theorem dX4_overhear_113 : decode cX4_overhear 113 = .ok (.iload_n 2, 1) := by decide +kernel
theorem dX4_overhear_114 : decode cX4_overhear 114 = .ok (.iaload, 1) := by decide +kernel
theorem dX4_overhear_115 : decode cX4_overhear 115 = .ok (.isub, 1) := by decide +kernel
theorem dX4_overhear_116 : decode cX4_overhear 116 = .ok (.aload_n 0, 1) := by decide +kernel
theorem dX4_overhear_117 : decode cX4_overhear 117 = .ok (.getfield 9, 3) := by decide +kernel
theorem dX4_overhear_120 : decode cX4_overhear 120 = .ok (.getfield 94, 3) := by decide +kernel
theorem dX4_overhear_123 : decode cX4_overhear 123 = .ok (.if_icmp .le 35, 3) := by decide +kernel
theorem dX4_overhear_126 : decode cX4_overhear 126 = .ok (.aload_n 1, 1) := by decide +kernel
theorem dX4_overhear_127 : decode cX4_overhear 127 = .ok (.getfield 65, 3) := by decide +kernel
theorem dX4_overhear_130 : decode cX4_overhear 130 = .ok (.iload_n 2, 1) := by decide +kernel
theorem dX4_overhear_131 : decode cX4_overhear 131 = .ok (.aload_n 0, 1) := by decide +kernel
theorem dX4_overhear_132 : decode cX4_overhear 132 = .ok (.getfield 9, 3) := by decide +kernel
theorem dX4_overhear_135 : decode cX4_overhear 135 = .ok (.getfield 68, 3) := by decide +kernel
theorem dX4_overhear_138 : decode cX4_overhear 138 = .ok (.iload_n 2, 1) := by decide +kernel
theorem dX4_overhear_139 : decode cX4_overhear 139 = .ok (.iaload, 1) := by decide +kernel
theorem dX4_overhear_140 : decode cX4_overhear 140 = .ok (.aload_n 1, 1) := by decide +kernel
theorem dX4_overhear_141 : decode cX4_overhear 141 = .ok (.getfield 65, 3) := by decide +kernel
theorem dX4_overhear_144 : decode cX4_overhear 144 = .ok (.iload_n 2, 1) := by decide +kernel
theorem dX4_overhear_145 : decode cX4_overhear 145 = .ok (.iaload, 1) := by decide +kernel
theorem dX4_overhear_146 : decode cX4_overhear 146 = .ok (.aload_n 0, 1) := by decide +kernel
theorem dX4_overhear_147 : decode cX4_overhear 147 = .ok (.getfield 9, 3) := by decide +kernel
theorem dX4_overhear_150 : decode cX4_overhear 150 = .ok (.getfield 94, 3) := by decide +kernel
theorem dX4_overhear_153 : decode cX4_overhear 153 = .ok (.iadd, 1) := by decide +kernel
theorem dX4_overhear_154 : decode cX4_overhear 154 = .ok (.invokestatic 71, 3) := by decide +kernel
theorem dX4_overhear_157 : decode cX4_overhear 157 = .ok (.iastore, 1) := by decide +kernel
theorem dX4_overhear_158 : decode cX4_overhear 158 = .ok (.iinc 4 1, 3) := by decide +kernel
theorem dX4_overhear_161 : decode cX4_overhear 161 = .ok (.goto (-87), 3) := by decide +kernel
theorem dX4_overhear_164 : decode cX4_overhear 164 = .ok (.iinc 2 1, 3) := by decide +kernel
theorem dX4_overhear_167 : decode cX4_overhear 167 = .ok (.goto (-134), 3) := by decide +kernel
theorem dX4_overhear_170 : decode cX4_overhear 170 = .ok (.return_, 1) := by decide +kernel
noncomputable def bs_X4_overhear : List (Nat × XB) := [
  (0, (sq (xC (.int 0)) (sq (xSI 2) (tGo 2 [true, true, true, false, false])))),
  (2, (sq (xLI 2) (sq (xLA 0) (sq (xGD 3 0 1) (sq (xGI 1 3) (tIf2 (fun x y => decide (y ≤ x)) 31 [true, true, false, false, false] 13 [true, true, true, false, false])))))),
  (13, (sq (xLA 0) (sq (xGS 3 20 0 0) (sq (xLI 2) (sq (xLA 1) (sq (xGS 8 30 0 0) (sq (xLI 2) (sq (xAI 30 6) (sq (xTI 20 6 (fun x => x)) (sq (xInc 2 1) (tGo 2 [true, true, true, false, false]))))))))))),
  (31, (sq (xC (.int 0)) (sq (xSI 2) (tGo 33 [true, true, true, false, false])))),
  (33, (sq (xLI 2) (sq (xLA 0) (sq (xGD 3 0 1) (sq (xGI 1 3) (tIf2 (fun x y => decide (y ≤ x)) 170 [false, false, false, false, false] 44 [true, true, true, false, false])))))),
  (44, (sq (xLA 0) (sq (xGI 3 5) (sq (xLI 2) (sq (xI2 (fun x y => x >>> (y &&& 31))) (sq (xC (.int 1)) (sq (xI2 (· &&& ·)) (tIf1 (fun x => decide (x = 0)) 69 [true, true, true, false, false] 55 [true, true, true, false, false])))))))),
  (55, (sq (xLA 1) (sq (xGS 8 33 0 0) (sq (xLI 2) (sq (xAI 33 6) (sq (xLA 0) (sq (xGI 3 5) (sq (xI2 (· &&& ·)) (tGo 70 [true, true, true, false, false]))))))))),
  (69, (sq (xC (.int 0)) (tGo 70 [true, true, true, false, false]))),
  (70, (sq (xSI 3) (sq (xC (.int 0)) (sq (xSI 4) (tGo 74 [true, true, true, true, true]))))),
  (74, (sq (xLI 4) (sq (xLA 0) (sq (xGD 3 0 1) (sq (xGI 1 3) (tIf2 (fun x y => decide (y ≤ x)) 164 [true, true, true, false, false] 86 [true, true, true, true, true])))))),
  (86, (sq (xLI 3) (sq (xLI 4) (sq (xI2 (fun x y => x >>> (y &&& 31))) (tIf1 (fun x => decide (x = 0)) 164 [true, true, true, false, false] 93 [true, true, true, true, true]))))),
  (93, (sq (xLI 3) (sq (xLI 4) (sq (xI2 (fun x y => x >>> (y &&& 31))) (sq (xC (.int 1)) (sq (xI2 (· &&& ·)) (tIf1 (fun x => decide (x = 0)) 158 [true, true, true, true, true] 102 [true, true, true, true, true]))))))),
  (102, (sq (xLA 0) (sq (xGS 3 20 0 0) (sq (xLI 4) (sq (xAI 20 6) (sq (xLA 0) (sq (xGS 3 20 0 0) (sq (xLI 2) (sq (xAI 20 6) (sq (xI2 (· - ·)) (sq (xLA 0) (sq (xGD 3 0 1) (sq (xGI 1 1) (tIf2 (fun x y => decide (x ≤ y)) 158 [true, true, true, true, true] 126 [true, true, true, true, true])))))))))))))),
  (126, (sq (xLA 1) (sq (xGS 8 30 0 0) (sq (xLI 2) (sq (xLA 0) (sq (xGD 3 0 1) (sq (xGS 1 13 0 0) (sq (xLI 2) (sq (xAI 13 6) (sq (xLA 1) (sq (xGS 8 30 0 0) (sq (xLI 2) (sq (xAI 30 6) (sq (xLA 0) (sq (xGD 3 0 1) (sq (xGI 1 1) (sq (xI2 (· + ·)) (sq (xM2 (fun x y => if y < x then y else x)) (sq (xTI 30 6 (fun x => x)) (tGo 158 [true, true, true, true, true])))))))))))))))))))),
  (158, (sq (xInc 4 1) (tGo 74 [true, true, true, true, true]))),
  (164, (sq (xInc 2 1) (tGo 33 [true, true, true, false, false]))),
  (170, tRV)]
set_option maxRecDepth 100000 in
set_option maxHeartbeats 4000000 in
theorem s_X4_overhear : ∀ X : XCtx, XE X → X.2.2.1.1 = cX4_overhear → X.2.2.1.2.1 = 5 → X.2.2.1.2.2.1 = yX4_overhear.cls → X.2.2.1.2.2.2.1 = none → X.1.2.2.2.1 = { frames := 1, cells := 0, slots := 0, locals := 24 } → SndBs X bs_X4_overhear := by
  rintro ⟨⟨p, l, e, R, s⟩, Y, ⟨cc, nL, own, ret, Ts⟩, Z⟩ hE h1 h2 h3 h4 h5
  dsimp only at h1 h2 h3 h4 h5
  subst h1 h2 h3 h4 h5
  exact ⟨(n_sq (n_iconst hE (by decide) dX4_overhear_0) (n_sq (n_istore_n hE (show (2 : Nat) < 5 by decide) dX4_overhear_1) n_fall)),
    (n_sq (n_iload_n hE dX4_overhear_2) (n_sq (n_aload_n hE dX4_overhear_3) (n_sq (n_getD hE xk_3 (k := 0) rfl (by decide) rfl wt_215 dX4_overhear_4) (n_sq (n_getI hE xk_1 (k := 3) rfl (by decide) rfl wt_110 dX4_overhear_7) (n_ifcge hE (by decide) dX4_overhear_10))))),
    (n_sq (n_aload_n hE dX4_overhear_13) (n_sq (n_getS hE xk_3 (k := 3) rfl (by decide) rfl wt_218 dX4_overhear_14) (n_sq (n_iload_n hE dX4_overhear_17) (n_sq (n_aload_n hE dX4_overhear_18) (n_sq (n_getS hE xk_8 (k := 2) rfl (by decide) rfl wt_180 dX4_overhear_19) (n_sq (n_iload_n hE dX4_overhear_22) (n_sq (n_iald hE rfl (by decide) dX4_overhear_23) (n_sq (n_iast hE rfl (by decide) dX4_overhear_24) (n_sq (n_iinc hE (by decide) (show (2 : Nat) < 5 by decide) dX4_overhear_25) (n_goto hE (by decide) dX4_overhear_28)))))))))),
    (n_sq (n_iconst hE (by decide) dX4_overhear_31) (n_sq (n_istore_n hE (show (2 : Nat) < 5 by decide) dX4_overhear_32) n_fall)),
    (n_sq (n_iload_n hE dX4_overhear_33) (n_sq (n_aload_n hE dX4_overhear_34) (n_sq (n_getD hE xk_3 (k := 0) rfl (by decide) rfl wt_215 dX4_overhear_35) (n_sq (n_getI hE xk_1 (k := 3) rfl (by decide) rfl wt_110 dX4_overhear_38) (n_ifcge hE (by decide) dX4_overhear_41))))),
    (n_sq (n_aload_n hE dX4_overhear_44) (n_sq (n_getI hE xk_3 (k := 5) rfl (by decide) rfl wt_220 dX4_overhear_45) (n_sq (n_iload_n hE dX4_overhear_48) (n_sq (n_ishr hE dX4_overhear_49) (n_sq (n_iconst hE (by decide) dX4_overhear_50) (n_sq (n_iand hE dX4_overhear_51) (n_ifeq hE (by decide) dX4_overhear_52))))))),
    (n_sq (n_aload_n hE dX4_overhear_55) (n_sq (n_getS hE xk_8 (k := 5) rfl (by decide) rfl wt_194 dX4_overhear_56) (n_sq (n_iload_n hE dX4_overhear_59) (n_sq (n_iald hE rfl (by decide) dX4_overhear_60) (n_sq (n_aload_n hE dX4_overhear_61) (n_sq (n_getI hE xk_3 (k := 5) rfl (by decide) rfl wt_220 dX4_overhear_62) (n_sq (n_iand hE dX4_overhear_65) (n_goto hE (by decide) dX4_overhear_66)))))))),
    (n_sq (n_iconst hE (by decide) dX4_overhear_69) n_fall),
    (n_sq (n_istore_n hE (show (3 : Nat) < 5 by decide) dX4_overhear_70) (n_sq (n_iconst hE (by decide) dX4_overhear_71) (n_sq (n_istore hE (show (4 : Nat) < 5 by decide) dX4_overhear_72) n_fall))),
    (n_sq (n_iload hE dX4_overhear_74) (n_sq (n_aload_n hE dX4_overhear_76) (n_sq (n_getD hE xk_3 (k := 0) rfl (by decide) rfl wt_215 dX4_overhear_77) (n_sq (n_getI hE xk_1 (k := 3) rfl (by decide) rfl wt_110 dX4_overhear_80) (n_ifcge hE (by decide) dX4_overhear_83))))),
    (n_sq (n_iload_n hE dX4_overhear_86) (n_sq (n_iload hE dX4_overhear_87) (n_sq (n_ishr hE dX4_overhear_89) (n_ifeq hE (by decide) dX4_overhear_90)))),
    (n_sq (n_iload_n hE dX4_overhear_93) (n_sq (n_iload hE dX4_overhear_94) (n_sq (n_ishr hE dX4_overhear_96) (n_sq (n_iconst hE (by decide) dX4_overhear_97) (n_sq (n_iand hE dX4_overhear_98) (n_ifeq hE (by decide) dX4_overhear_99)))))),
    (n_sq (n_aload_n hE dX4_overhear_102) (n_sq (n_getS hE xk_3 (k := 3) rfl (by decide) rfl wt_218 dX4_overhear_103) (n_sq (n_iload hE dX4_overhear_106) (n_sq (n_iald hE rfl (by decide) dX4_overhear_108) (n_sq (n_aload_n hE dX4_overhear_109) (n_sq (n_getS hE xk_3 (k := 3) rfl (by decide) rfl wt_218 dX4_overhear_110) (n_sq (n_iload_n hE dX4_overhear_113) (n_sq (n_iald hE rfl (by decide) dX4_overhear_114) (n_sq (n_isub hE dX4_overhear_115) (n_sq (n_aload_n hE dX4_overhear_116) (n_sq (n_getD hE xk_3 (k := 0) rfl (by decide) rfl wt_215 dX4_overhear_117) (n_sq (n_getI hE xk_1 (k := 1) rfl (by decide) rfl wt_99 dX4_overhear_120) (n_ifcle hE (by decide) dX4_overhear_123))))))))))))),
    (n_sq (n_aload_n hE dX4_overhear_126) (n_sq (n_getS hE xk_8 (k := 2) rfl (by decide) rfl wt_180 dX4_overhear_127) (n_sq (n_iload_n hE dX4_overhear_130) (n_sq (n_aload_n hE dX4_overhear_131) (n_sq (n_getD hE xk_3 (k := 0) rfl (by decide) rfl wt_215 dX4_overhear_132) (n_sq (n_getS hE xk_1 (k := 6) rfl (by decide) rfl wt_120 dX4_overhear_135) (n_sq (n_iload_n hE dX4_overhear_138) (n_sq (n_iald hE rfl (by decide) dX4_overhear_139) (n_sq (n_aload_n hE dX4_overhear_140) (n_sq (n_getS hE xk_8 (k := 2) rfl (by decide) rfl wt_180 dX4_overhear_141) (n_sq (n_iload_n hE dX4_overhear_144) (n_sq (n_iald hE rfl (by decide) dX4_overhear_145) (n_sq (n_aload_n hE dX4_overhear_146) (n_sq (n_getD hE xk_3 (k := 0) rfl (by decide) rfl wt_215 dX4_overhear_147) (n_sq (n_getI hE xk_1 (k := 1) rfl (by decide) rfl wt_99 dX4_overhear_150) (n_sq (n_iadd hE dX4_overhear_153) (n_sq (n_mmin hE wt_714 wt_577 wt_19 wt_578 (show 1 ≤ 1 ∧ 24 ≤ 24 by decide) dX4_overhear_154) (n_sq (n_iast hE rfl (by decide) dX4_overhear_157) n_fall)))))))))))))))))),
    (n_sq (n_iinc hE (by decide) (show (4 : Nat) < 5 by decide) dX4_overhear_158) (n_goto hE (by decide) dX4_overhear_161)),
    (n_sq (n_iinc hE (by decide) (show (2 : Nat) < 5 by decide) dX4_overhear_164) (n_goto hE (by decide) dX4_overhear_167)),
    (n_vreturn hE rfl dX4_overhear_170), trivial⟩
noncomputable def F_X4_overhear (as : List XV) (w : XW) : Option XW := (xF 5 bs_X4_overhear as w).bind pV
theorem m_X4_overhear : XM yX4_overhear cX4_overhear 5 none 1 24 (eV F_X4_overhear) := xm_V (xm_of (by decide) s_X4_overhear)
noncomputable def q_X4_overhear_0 (i1 : Nat) (w : XW) : Option XR := ev bs_X4_overhear 0 ([some (.inr (3, 0)), some (.inr (8, i1)), none, none, none], [], w)
noncomputable def q_X4_overhear_2 (i1 : Nat) (x2 : Int32) (w : XW) : Option XR := ev bs_X4_overhear 2 ([some (.inr (3, 0)), some (.inr (8, i1)), some (.inl (.int x2)), none, none], [], w)
noncomputable def q_X4_overhear_13 (i1 : Nat) (x2 : Int32) (w : XW) : Option XR := ev bs_X4_overhear 13 ([some (.inr (3, 0)), some (.inr (8, i1)), some (.inl (.int x2)), none, none], [], w)
noncomputable def q_X4_overhear_31 (i1 : Nat) (w : XW) : Option XR := ev bs_X4_overhear 31 ([some (.inr (3, 0)), some (.inr (8, i1)), none, none, none], [], w)
noncomputable def q_X4_overhear_33 (i1 : Nat) (x2 : Int32) (w : XW) : Option XR := ev bs_X4_overhear 33 ([some (.inr (3, 0)), some (.inr (8, i1)), some (.inl (.int x2)), none, none], [], w)
noncomputable def q_X4_overhear_44 (i1 : Nat) (x2 : Int32) (w : XW) : Option XR := ev bs_X4_overhear 44 ([some (.inr (3, 0)), some (.inr (8, i1)), some (.inl (.int x2)), none, none], [], w)
noncomputable def q_X4_overhear_55 (i1 : Nat) (x2 : Int32) (w : XW) : Option XR := ev bs_X4_overhear 55 ([some (.inr (3, 0)), some (.inr (8, i1)), some (.inl (.int x2)), none, none], [], w)
noncomputable def q_X4_overhear_69 (i1 : Nat) (x2 : Int32) (w : XW) : Option XR := ev bs_X4_overhear 69 ([some (.inr (3, 0)), some (.inr (8, i1)), some (.inl (.int x2)), none, none], [], w)
noncomputable def q_X4_overhear_70 (i1 : Nat) (x2 : Int32) (s0 : Int32) (w : XW) : Option XR := ev bs_X4_overhear 70 ([some (.inr (3, 0)), some (.inr (8, i1)), some (.inl (.int x2)), none, none], [.inl (.int s0)], w)
noncomputable def q_X4_overhear_74 (i1 : Nat) (x2 : Int32) (x3 : Int32) (x4 : Int32) (w : XW) : Option XR := ev bs_X4_overhear 74 ([some (.inr (3, 0)), some (.inr (8, i1)), some (.inl (.int x2)), some (.inl (.int x3)), some (.inl (.int x4))], [], w)
noncomputable def q_X4_overhear_86 (i1 : Nat) (x2 : Int32) (x3 : Int32) (x4 : Int32) (w : XW) : Option XR := ev bs_X4_overhear 86 ([some (.inr (3, 0)), some (.inr (8, i1)), some (.inl (.int x2)), some (.inl (.int x3)), some (.inl (.int x4))], [], w)
noncomputable def q_X4_overhear_93 (i1 : Nat) (x2 : Int32) (x3 : Int32) (x4 : Int32) (w : XW) : Option XR := ev bs_X4_overhear 93 ([some (.inr (3, 0)), some (.inr (8, i1)), some (.inl (.int x2)), some (.inl (.int x3)), some (.inl (.int x4))], [], w)
noncomputable def q_X4_overhear_102 (i1 : Nat) (x2 : Int32) (x3 : Int32) (x4 : Int32) (w : XW) : Option XR := ev bs_X4_overhear 102 ([some (.inr (3, 0)), some (.inr (8, i1)), some (.inl (.int x2)), some (.inl (.int x3)), some (.inl (.int x4))], [], w)
noncomputable def q_X4_overhear_126 (i1 : Nat) (x2 : Int32) (x3 : Int32) (x4 : Int32) (w : XW) : Option XR := ev bs_X4_overhear 126 ([some (.inr (3, 0)), some (.inr (8, i1)), some (.inl (.int x2)), some (.inl (.int x3)), some (.inl (.int x4))], [], w)
noncomputable def q_X4_overhear_158 (i1 : Nat) (x2 : Int32) (x3 : Int32) (x4 : Int32) (w : XW) : Option XR := ev bs_X4_overhear 158 ([some (.inr (3, 0)), some (.inr (8, i1)), some (.inl (.int x2)), some (.inl (.int x3)), some (.inl (.int x4))], [], w)
noncomputable def q_X4_overhear_164 (i1 : Nat) (x2 : Int32) (w : XW) : Option XR := ev bs_X4_overhear 164 ([some (.inr (3, 0)), some (.inr (8, i1)), some (.inl (.int x2)), none, none], [], w)
noncomputable def q_X4_overhear_170 (w : XW) : Option XR := ev bs_X4_overhear 170 ([none, none, none, none, none], [], w)
theorem e_X4_overhear_0 (i1 : Nat) (w : XW) : q_X4_overhear_0 i1 w = (q_X4_overhear_2 i1 0 w) := (ev_eq _ _ _).trans rfl
theorem e_X4_overhear_2 (i1 : Nat) (x2 : Int32) (w : XW) : q_X4_overhear_2 i1 x2 w = ((gR w 3 0 0).bind fun j0 => (bif decide ((gI w 1 j0 3) ≤ x2) then (q_X4_overhear_31 i1 w) else (q_X4_overhear_13 i1 x2 w))) := (ev_eq _ _ _).trans rfl
theorem e_X4_overhear_13 (i1 : Nat) (x2 : Int32) (w : XW) : q_X4_overhear_13 i1 x2 w = (if x2 < 0 ∨ 6 ≤ x2.toNatClampNeg then none else (if x2 < 0 ∨ 6 ≤ x2.toNatClampNeg then none else (q_X4_overhear_2 i1 (x2 + 1) (sI w 20 0 x2.toNatClampNeg (gI w 30 i1 x2.toNatClampNeg))))) := (ev_eq _ _ _).trans rfl
theorem e_X4_overhear_31 (i1 : Nat) (w : XW) : q_X4_overhear_31 i1 w = (q_X4_overhear_33 i1 0 w) := (ev_eq _ _ _).trans rfl
theorem e_X4_overhear_33 (i1 : Nat) (x2 : Int32) (w : XW) : q_X4_overhear_33 i1 x2 w = ((gR w 3 0 0).bind fun j0 => (bif decide ((gI w 1 j0 3) ≤ x2) then (q_X4_overhear_170 w) else (q_X4_overhear_44 i1 x2 w))) := (ev_eq _ _ _).trans rfl
theorem e_X4_overhear_44 (i1 : Nat) (x2 : Int32) (w : XW) : q_X4_overhear_44 i1 x2 w = (bif decide (((((gI w 3 0 5) : Int32) >>> ((x2 : Int32) &&& 31)) &&& 1) = 0) then (q_X4_overhear_69 i1 x2 w) else (q_X4_overhear_55 i1 x2 w)) := (ev_eq _ _ _).trans rfl
theorem e_X4_overhear_55 (i1 : Nat) (x2 : Int32) (w : XW) : q_X4_overhear_55 i1 x2 w = (if x2 < 0 ∨ 6 ≤ x2.toNatClampNeg then none else (q_X4_overhear_70 i1 x2 ((gI w 33 i1 x2.toNatClampNeg) &&& (gI w 3 0 5)) w)) := (ev_eq _ _ _).trans rfl
theorem e_X4_overhear_69 (i1 : Nat) (x2 : Int32) (w : XW) : q_X4_overhear_69 i1 x2 w = (q_X4_overhear_70 i1 x2 0 w) := (ev_eq _ _ _).trans rfl
theorem e_X4_overhear_70 (i1 : Nat) (x2 : Int32) (s0 : Int32) (w : XW) : q_X4_overhear_70 i1 x2 s0 w = (q_X4_overhear_74 i1 x2 s0 0 w) := (ev_eq _ _ _).trans rfl
theorem e_X4_overhear_74 (i1 : Nat) (x2 : Int32) (x3 : Int32) (x4 : Int32) (w : XW) : q_X4_overhear_74 i1 x2 x3 x4 w = ((gR w 3 0 0).bind fun j0 => (bif decide ((gI w 1 j0 3) ≤ x4) then (q_X4_overhear_164 i1 x2 w) else (q_X4_overhear_86 i1 x2 x3 x4 w))) := (ev_eq _ _ _).trans rfl
theorem e_X4_overhear_86 (i1 : Nat) (x2 : Int32) (x3 : Int32) (x4 : Int32) (w : XW) : q_X4_overhear_86 i1 x2 x3 x4 w = (bif decide (((x3 : Int32) >>> ((x4 : Int32) &&& 31)) = 0) then (q_X4_overhear_164 i1 x2 w) else (q_X4_overhear_93 i1 x2 x3 x4 w)) := (ev_eq _ _ _).trans rfl
theorem e_X4_overhear_93 (i1 : Nat) (x2 : Int32) (x3 : Int32) (x4 : Int32) (w : XW) : q_X4_overhear_93 i1 x2 x3 x4 w = (bif decide ((((x3 : Int32) >>> ((x4 : Int32) &&& 31)) &&& 1) = 0) then (q_X4_overhear_158 i1 x2 x3 x4 w) else (q_X4_overhear_102 i1 x2 x3 x4 w)) := (ev_eq _ _ _).trans rfl
theorem e_X4_overhear_102 (i1 : Nat) (x2 : Int32) (x3 : Int32) (x4 : Int32) (w : XW) : q_X4_overhear_102 i1 x2 x3 x4 w = (if x4 < 0 ∨ 6 ≤ x4.toNatClampNeg then none else (if x2 < 0 ∨ 6 ≤ x2.toNatClampNeg then none else ((gR w 3 0 0).bind fun j0 => (bif decide (((gI w 20 0 x4.toNatClampNeg) - (gI w 20 0 x2.toNatClampNeg)) ≤ (gI w 1 j0 1)) then (q_X4_overhear_158 i1 x2 x3 x4 w) else (q_X4_overhear_126 i1 x2 x3 x4 w))))) := (ev_eq _ _ _).trans rfl
theorem e_X4_overhear_126 (i1 : Nat) (x2 : Int32) (x3 : Int32) (x4 : Int32) (w : XW) : q_X4_overhear_126 i1 x2 x3 x4 w = ((gR w 3 0 0).bind fun j0 => (if x2 < 0 ∨ 6 ≤ x2.toNatClampNeg then none else (if x2 < 0 ∨ 6 ≤ x2.toNatClampNeg then none else ((gR w 3 0 0).bind fun j1 => (if x2 < 0 ∨ 6 ≤ x2.toNatClampNeg then none else (q_X4_overhear_158 i1 x2 x3 x4 (sI w 30 i1 x2.toNatClampNeg (if ((gI w 30 i1 x2.toNatClampNeg) + (gI w 1 j1 1)) < (gI w 13 j0 x2.toNatClampNeg) then ((gI w 30 i1 x2.toNatClampNeg) + (gI w 1 j1 1)) else (gI w 13 j0 x2.toNatClampNeg))))))))) := (ev_eq _ _ _).trans rfl
theorem e_X4_overhear_158 (i1 : Nat) (x2 : Int32) (x3 : Int32) (x4 : Int32) (w : XW) : q_X4_overhear_158 i1 x2 x3 x4 w = (q_X4_overhear_74 i1 x2 x3 (x4 + 1) w) := (ev_eq _ _ _).trans rfl
theorem e_X4_overhear_164 (i1 : Nat) (x2 : Int32) (w : XW) : q_X4_overhear_164 i1 x2 w = (q_X4_overhear_33 i1 (x2 + 1) w) := (ev_eq _ _ _).trans rfl
theorem e_X4_overhear_170 (w : XW) : q_X4_overhear_170 w = (some (none, w)) := (ev_eq _ _ _).trans rfl
theorem f_X4_overhear (i1 : Nat) (w : XW) : F_X4_overhear [.inr (3, 0), .inr (8, i1)] w = (q_X4_overhear_0 i1 w).bind pV := rfl

-- WinterKeep$Nights.warm(LWinterKeep$Scene;)I
theorem dX4_warm_0 : decode cX4_warm 0 = .ok (.iconst 0, 1) := by decide +kernel
theorem dX4_warm_1 : decode cX4_warm 1 = .ok (.istore_n 2, 1) := by decide +kernel
theorem dX4_warm_2 : decode cX4_warm 2 = .ok (.iconst 0, 1) := by decide +kernel
theorem dX4_warm_3 : decode cX4_warm 3 = .ok (.istore_n 3, 1) := by decide +kernel
theorem dX4_warm_4 : decode cX4_warm 4 = .ok (.iload_n 3, 1) := by decide +kernel
theorem dX4_warm_5 : decode cX4_warm 5 = .ok (.aload_n 0, 1) := by decide +kernel
theorem dX4_warm_6 : decode cX4_warm 6 = .ok (.getfield 9, 3) := by decide +kernel
theorem dX4_warm_9 : decode cX4_warm 9 = .ok (.getfield 88, 3) := by decide +kernel
theorem dX4_warm_12 : decode cX4_warm 12 = .ok (.if_icmp .ge 115, 3) := by decide +kernel
theorem dX4_warm_15 : decode cX4_warm 15 = .ok (.aload_n 1, 1) := by decide +kernel
theorem dX4_warm_16 : decode cX4_warm 16 = .ok (.getfield 97, 3) := by decide +kernel
theorem dX4_warm_19 : decode cX4_warm 19 = .ok (.iload_n 3, 1) := by decide +kernel
theorem dX4_warm_20 : decode cX4_warm 20 = .ok (.iaload, 1) := by decide +kernel
theorem dX4_warm_21 : decode cX4_warm 21 = .ok (.ifCond .lt 17, 3) := by decide +kernel
theorem dX4_warm_24 : decode cX4_warm 24 = .ok (.iconst 2, 1) := by decide +kernel
theorem dX4_warm_25 : decode cX4_warm 25 = .ok (.aload_n 0, 1) := by decide +kernel
theorem dX4_warm_26 : decode cX4_warm 26 = .ok (.getfield 9, 3) := by decide +kernel
theorem dX4_warm_29 : decode cX4_warm 29 = .ok (.getfield 100, 3) := by decide +kernel
theorem dX4_warm_32 : decode cX4_warm 32 = .ok (.iload_n 3, 1) := by decide +kernel
theorem dX4_warm_33 : decode cX4_warm 33 = .ok (.iaload, 1) := by decide +kernel
theorem dX4_warm_34 : decode cX4_warm 34 = .ok (.imul, 1) := by decide +kernel
theorem dX4_warm_35 : decode cX4_warm 35 = .ok (.goto 12, 3) := by decide +kernel
theorem dX4_warm_38 : decode cX4_warm 38 = .ok (.aload_n 0, 1) := by decide +kernel
theorem dX4_warm_39 : decode cX4_warm 39 = .ok (.getfield 9, 3) := by decide +kernel
theorem dX4_warm_42 : decode cX4_warm 42 = .ok (.getfield 100, 3) := by decide +kernel
theorem dX4_warm_45 : decode cX4_warm 45 = .ok (.iload_n 3, 1) := by decide +kernel
theorem dX4_warm_46 : decode cX4_warm 46 = .ok (.iaload, 1) := by decide +kernel
theorem dX4_warm_47 : decode cX4_warm 47 = .ok (.istore 4, 2) := by decide +kernel
theorem dX4_warm_49 : decode cX4_warm 49 = .ok (.aload_n 1, 1) := by decide +kernel
theorem dX4_warm_50 : decode cX4_warm 50 = .ok (.getfield 103, 3) := by decide +kernel
theorem dX4_warm_53 : decode cX4_warm 53 = .ok (.iload_n 3, 1) := by decide +kernel
theorem dX4_warm_54 : decode cX4_warm 54 = .ok (.iconst 0, 1) := by decide +kernel
theorem dX4_warm_55 : decode cX4_warm 55 = .ok (.aload_n 1, 1) := by decide +kernel
theorem dX4_warm_56 : decode cX4_warm 56 = .ok (.getfield 103, 3) := by decide +kernel
theorem dX4_warm_59 : decode cX4_warm 59 = .ok (.iload_n 3, 1) := by decide +kernel
theorem dX4_warm_60 : decode cX4_warm 60 = .ok (.iaload, 1) := by decide +kernel
theorem dX4_warm_61 : decode cX4_warm 61 = .ok (.aload_n 1, 1) := by decide +kernel
theorem dX4_warm_62 : decode cX4_warm 62 = .ok (.getfield 65, 3) := by decide +kernel
theorem dX4_warm_65 : decode cX4_warm 65 = .ok (.iload_n 3, 1) := by decide +kernel
theorem dX4_warm_66 : decode cX4_warm 66 = .ok (.iaload, 1) := by decide +kernel
theorem dX4_warm_67 : decode cX4_warm 67 = .ok (.iconst 4, 1) := by decide +kernel
theorem dX4_warm_68 : decode cX4_warm 68 = .ok (.idiv, 1) := by decide +kernel
theorem dX4_warm_69 : decode cX4_warm 69 = .ok (.iadd, 1) := by decide +kernel
theorem dX4_warm_70 : decode cX4_warm 70 = .ok (.iload 4, 2) := by decide +kernel
theorem dX4_warm_72 : decode cX4_warm 72 = .ok (.isub, 1) := by decide +kernel
theorem dX4_warm_73 : decode cX4_warm 73 = .ok (.invokestatic 106, 3) := by decide +kernel
theorem dX4_warm_76 : decode cX4_warm 76 = .ok (.iastore, 1) := by decide +kernel
theorem dX4_warm_77 : decode cX4_warm 77 = .ok (.aload_n 1, 1) := by decide +kernel
theorem dX4_warm_78 : decode cX4_warm 78 = .ok (.getfield 103, 3) := by decide +kernel
theorem dX4_warm_81 : decode cX4_warm 81 = .ok (.iload_n 3, 1) := by decide +kernel
theorem dX4_warm_82 : decode cX4_warm 82 = .ok (.iaload, 1) := by decide +kernel
theorem dX4_warm_83 : decode cX4_warm 83 = .ok (.aload_n 0, 1) := by decide +kernel
theorem dX4_warm_84 : decode cX4_warm 84 = .ok (.getfield 9, 3) := by decide +kernel
theorem dX4_warm_87 : decode cX4_warm 87 = .ok (.getfield 109, 3) := by decide +kernel
theorem dX4_warm_90 : decode cX4_warm 90 = .ok (.if_icmp .lt 31, 3) := by decide +kernel
theorem dX4_warm_93 : decode cX4_warm 93 = .ok (.aload_n 1, 1) := by decide +kernel
theorem dX4_warm_94 : decode cX4_warm 94 = .ok (.getfield 65, 3) := by decide +kernel
theorem dX4_warm_97 : decode cX4_warm 97 = .ok (.iload_n 3, 1) := by decide +kernel
theorem dX4_warm_98 : decode cX4_warm 98 = .ok (.iconst 0, 1) := by decide +kernel
theorem dX4_warm_99 : decode cX4_warm 99 = .ok (.iastore, 1) := by decide +kernel
theorem dX4_warm_100 : decode cX4_warm 100 = .ok (.aload_n 1, 1) := by decide +kernel
theorem dX4_warm_101 : decode cX4_warm 101 = .ok (.getfield 103, 3) := by decide +kernel
theorem dX4_warm_104 : decode cX4_warm 104 = .ok (.iload_n 3, 1) := by decide +kernel
theorem dX4_warm_105 : decode cX4_warm 105 = .ok (.iconst 0, 1) := by decide +kernel
theorem dX4_warm_106 : decode cX4_warm 106 = .ok (.iastore, 1) := by decide +kernel
theorem dX4_warm_107 : decode cX4_warm 107 = .ok (.aload_n 1, 1) := by decide +kernel
theorem dX4_warm_108 : decode cX4_warm 108 = .ok (.getfield 97, 3) := by decide +kernel
theorem dX4_warm_111 : decode cX4_warm 111 = .ok (.iload_n 3, 1) := by decide +kernel
theorem dX4_warm_112 : decode cX4_warm 112 = .ok (.bipush (-2), 2) := by decide +kernel
theorem dX4_warm_114 : decode cX4_warm 114 = .ok (.iastore, 1) := by decide +kernel
theorem dX4_warm_115 : decode cX4_warm 115 = .ok (.iload_n 2, 1) := by decide +kernel
theorem dX4_warm_116 : decode cX4_warm 116 = .ok (.iconst 1, 1) := by decide +kernel
theorem dX4_warm_117 : decode cX4_warm 117 = .ok (.iload_n 3, 1) := by decide +kernel
theorem dX4_warm_118 : decode cX4_warm 118 = .ok (.ishl, 1) := by decide +kernel
theorem dX4_warm_119 : decode cX4_warm 119 = .ok (.ior, 1) := by decide +kernel
theorem dX4_warm_120 : decode cX4_warm 120 = .ok (.istore_n 2, 1) := by decide +kernel
theorem dX4_warm_121 : decode cX4_warm 121 = .ok (.iinc 3 1, 3) := by decide +kernel
theorem dX4_warm_124 : decode cX4_warm 124 = .ok (.goto (-120), 3) := by decide +kernel
theorem dX4_warm_127 : decode cX4_warm 127 = .ok (.iload_n 2, 1) := by decide +kernel
theorem dX4_warm_128 : decode cX4_warm 128 = .ok (.ireturn, 1) := by decide +kernel
noncomputable def bs_X4_warm : List (Nat × XB) := [
  (0, (sq (xC (.int 0)) (sq (xSI 2) (sq (xC (.int 0)) (sq (xSI 3) (tGo 4 [true, true, true, true, false])))))),
  (4, (sq (xLI 3) (sq (xLA 0) (sq (xGD 3 0 1) (sq (xGI 1 3) (tIf2 (fun x y => decide (y ≤ x)) 127 [false, false, true, false, false] 15 [true, true, true, true, false])))))),
  (15, (sq (xLA 1) (sq (xGS 8 32 0 0) (sq (xLI 3) (sq (xAI 32 6) (tIf1 (fun x => decide (x < 0)) 38 [true, true, true, true, false] 24 [true, true, true, true, false])))))),
  (24, (sq (xC (.int 2)) (sq (xLA 0) (sq (xGD 3 0 1) (sq (xGS 1 14 0 0) (sq (xLI 3) (sq (xAI 14 6) (sq (xI2 (· * ·)) (tGo 47 [true, true, true, true, false]))))))))),
  (38, (sq (xLA 0) (sq (xGD 3 0 1) (sq (xGS 1 14 0 0) (sq (xLI 3) (sq (xAI 14 6) (tGo 47 [true, true, true, true, false]))))))),
  (47, (sq (xSI 4) (sq (xLA 1) (sq (xGS 8 31 0 0) (sq (xLI 3) (sq (xC (.int 0)) (sq (xLA 1) (sq (xGS 8 31 0 0) (sq (xLI 3) (sq (xAI 31 6) (sq (xLA 1) (sq (xGS 8 30 0 0) (sq (xLI 3) (sq (xAI 30 6) (sq (xC (.int 4)) (sq (xI2z (· / ·)) (sq (xI2 (· + ·)) (sq (xLI 4) (sq (xI2 (· - ·)) (sq (xM2 (fun x y => if x < y then y else x)) (sq (xTI 31 6 (fun x => x)) (sq (xLA 1) (sq (xGS 8 31 0 0) (sq (xLI 3) (sq (xAI 31 6) (sq (xLA 0) (sq (xGD 3 0 1) (sq (xGI 1 2) (tIf2 (fun x y => decide (x < y)) 121 [true, true, true, true, false] 93 [true, true, true, true, false]))))))))))))))))))))))))))))),
  (93, (sq (xLA 1) (sq (xGS 8 30 0 0) (sq (xLI 3) (sq (xC (.int 0)) (sq (xTI 30 6 (fun x => x)) (sq (xLA 1) (sq (xGS 8 31 0 0) (sq (xLI 3) (sq (xC (.int 0)) (sq (xTI 31 6 (fun x => x)) (sq (xLA 1) (sq (xGS 8 32 0 0) (sq (xLI 3) (sq (xC (.int (-2))) (sq (xTI 32 6 (fun x => x)) (sq (xLI 2) (sq (xC (.int 1)) (sq (xLI 3) (sq (xI2 (fun x y => x <<< (y &&& 31))) (sq (xI2 (· ||| ·)) (sq (xSI 2) (tGo 121 [true, true, true, true, false]))))))))))))))))))))))),
  (121, (sq (xInc 3 1) (tGo 4 [true, true, true, true, false]))),
  (127, (sq (xLI 2) tRI))]
set_option maxRecDepth 100000 in
set_option maxHeartbeats 4000000 in
theorem s_X4_warm : ∀ X : XCtx, XE X → X.2.2.1.1 = cX4_warm → X.2.2.1.2.1 = 5 → X.2.2.1.2.2.1 = yX4_warm.cls → X.2.2.1.2.2.2.1 = (some .int) → X.1.2.2.2.1 = { frames := 1, cells := 0, slots := 0, locals := 24 } → SndBs X bs_X4_warm := by
  rintro ⟨⟨p, l, e, R, s⟩, Y, ⟨cc, nL, own, ret, Ts⟩, Z⟩ hE h1 h2 h3 h4 h5
  dsimp only at h1 h2 h3 h4 h5
  subst h1 h2 h3 h4 h5
  exact ⟨(n_sq (n_iconst hE (by decide) dX4_warm_0) (n_sq (n_istore_n hE (show (2 : Nat) < 5 by decide) dX4_warm_1) (n_sq (n_iconst hE (by decide) dX4_warm_2) (n_sq (n_istore_n hE (show (3 : Nat) < 5 by decide) dX4_warm_3) n_fall)))),
    (n_sq (n_iload_n hE dX4_warm_4) (n_sq (n_aload_n hE dX4_warm_5) (n_sq (n_getD hE xk_3 (k := 0) rfl (by decide) rfl wt_215 dX4_warm_6) (n_sq (n_getI hE xk_1 (k := 3) rfl (by decide) rfl wt_110 dX4_warm_9) (n_ifcge hE (by decide) dX4_warm_12))))),
    (n_sq (n_aload_n hE dX4_warm_15) (n_sq (n_getS hE xk_8 (k := 4) rfl (by decide) rfl wt_190 dX4_warm_16) (n_sq (n_iload_n hE dX4_warm_19) (n_sq (n_iald hE rfl (by decide) dX4_warm_20) (n_iflt hE (by decide) dX4_warm_21))))),
    (n_sq (n_iconst hE (by decide) dX4_warm_24) (n_sq (n_aload_n hE dX4_warm_25) (n_sq (n_getD hE xk_3 (k := 0) rfl (by decide) rfl wt_215 dX4_warm_26) (n_sq (n_getS hE xk_1 (k := 7) rfl (by decide) rfl wt_124 dX4_warm_29) (n_sq (n_iload_n hE dX4_warm_32) (n_sq (n_iald hE rfl (by decide) dX4_warm_33) (n_sq (n_imul hE dX4_warm_34) (n_goto hE (by decide) dX4_warm_35)))))))),
    (n_sq (n_aload_n hE dX4_warm_38) (n_sq (n_getD hE xk_3 (k := 0) rfl (by decide) rfl wt_215 dX4_warm_39) (n_sq (n_getS hE xk_1 (k := 7) rfl (by decide) rfl wt_124 dX4_warm_42) (n_sq (n_iload_n hE dX4_warm_45) (n_sq (n_iald hE rfl (by decide) dX4_warm_46) n_fall))))),
    (n_sq (n_istore hE (show (4 : Nat) < 5 by decide) dX4_warm_47) (n_sq (n_aload_n hE dX4_warm_49) (n_sq (n_getS hE xk_8 (k := 3) rfl (by decide) rfl wt_185 dX4_warm_50) (n_sq (n_iload_n hE dX4_warm_53) (n_sq (n_iconst hE (by decide) dX4_warm_54) (n_sq (n_aload_n hE dX4_warm_55) (n_sq (n_getS hE xk_8 (k := 3) rfl (by decide) rfl wt_185 dX4_warm_56) (n_sq (n_iload_n hE dX4_warm_59) (n_sq (n_iald hE rfl (by decide) dX4_warm_60) (n_sq (n_aload_n hE dX4_warm_61) (n_sq (n_getS hE xk_8 (k := 2) rfl (by decide) rfl wt_180 dX4_warm_62) (n_sq (n_iload_n hE dX4_warm_65) (n_sq (n_iald hE rfl (by decide) dX4_warm_66) (n_sq (n_iconst hE (by decide) dX4_warm_67) (n_sq (n_idiv hE dX4_warm_68) (n_sq (n_iadd hE dX4_warm_69) (n_sq (n_iload hE dX4_warm_70) (n_sq (n_isub hE dX4_warm_72) (n_sq (n_mmax hE wt_723 wt_724 wt_19 wt_725 (show 1 ≤ 1 ∧ 24 ≤ 24 by decide) dX4_warm_73) (n_sq (n_iast hE rfl (by decide) dX4_warm_76) (n_sq (n_aload_n hE dX4_warm_77) (n_sq (n_getS hE xk_8 (k := 3) rfl (by decide) rfl wt_185 dX4_warm_78) (n_sq (n_iload_n hE dX4_warm_81) (n_sq (n_iald hE rfl (by decide) dX4_warm_82) (n_sq (n_aload_n hE dX4_warm_83) (n_sq (n_getD hE xk_3 (k := 0) rfl (by decide) rfl wt_215 dX4_warm_84) (n_sq (n_getI hE xk_1 (k := 2) rfl (by decide) rfl wt_103 dX4_warm_87) (n_ifclt hE (by decide) dX4_warm_90)))))))))))))))))))))))))))),
    (n_sq (n_aload_n hE dX4_warm_93) (n_sq (n_getS hE xk_8 (k := 2) rfl (by decide) rfl wt_180 dX4_warm_94) (n_sq (n_iload_n hE dX4_warm_97) (n_sq (n_iconst hE (by decide) dX4_warm_98) (n_sq (n_iast hE rfl (by decide) dX4_warm_99) (n_sq (n_aload_n hE dX4_warm_100) (n_sq (n_getS hE xk_8 (k := 3) rfl (by decide) rfl wt_185 dX4_warm_101) (n_sq (n_iload_n hE dX4_warm_104) (n_sq (n_iconst hE (by decide) dX4_warm_105) (n_sq (n_iast hE rfl (by decide) dX4_warm_106) (n_sq (n_aload_n hE dX4_warm_107) (n_sq (n_getS hE xk_8 (k := 4) rfl (by decide) rfl wt_190 dX4_warm_108) (n_sq (n_iload_n hE dX4_warm_111) (n_sq (n_bipush hE (by decide) dX4_warm_112) (n_sq (n_iast hE rfl (by decide) dX4_warm_114) (n_sq (n_iload_n hE dX4_warm_115) (n_sq (n_iconst hE (by decide) dX4_warm_116) (n_sq (n_iload_n hE dX4_warm_117) (n_sq (n_ishl hE dX4_warm_118) (n_sq (n_ior hE dX4_warm_119) (n_sq (n_istore_n hE (show (2 : Nat) < 5 by decide) dX4_warm_120) n_fall))))))))))))))))))))),
    (n_sq (n_iinc hE (by decide) (show (3 : Nat) < 5 by decide) dX4_warm_121) (n_goto hE (by decide) dX4_warm_124)),
    (n_sq (n_iload_n hE dX4_warm_127) (n_ireturn hE rfl dX4_warm_128)), trivial⟩
noncomputable def F_X4_warm (as : List XV) (w : XW) : Option (Int32 × XW) := (xF 5 bs_X4_warm as w).bind pI
theorem m_X4_warm : XM yX4_warm cX4_warm 5 (some .int) 1 24 (eI F_X4_warm) := xm_I (xm_of (by decide) s_X4_warm)
noncomputable def q_X4_warm_0 (i1 : Nat) (w : XW) : Option XR := ev bs_X4_warm 0 ([some (.inr (3, 0)), some (.inr (8, i1)), none, none, none], [], w)
noncomputable def q_X4_warm_4 (i1 : Nat) (x2 : Int32) (x3 : Int32) (w : XW) : Option XR := ev bs_X4_warm 4 ([some (.inr (3, 0)), some (.inr (8, i1)), some (.inl (.int x2)), some (.inl (.int x3)), none], [], w)
noncomputable def q_X4_warm_15 (i1 : Nat) (x2 : Int32) (x3 : Int32) (w : XW) : Option XR := ev bs_X4_warm 15 ([some (.inr (3, 0)), some (.inr (8, i1)), some (.inl (.int x2)), some (.inl (.int x3)), none], [], w)
noncomputable def q_X4_warm_24 (i1 : Nat) (x2 : Int32) (x3 : Int32) (w : XW) : Option XR := ev bs_X4_warm 24 ([some (.inr (3, 0)), some (.inr (8, i1)), some (.inl (.int x2)), some (.inl (.int x3)), none], [], w)
noncomputable def q_X4_warm_38 (i1 : Nat) (x2 : Int32) (x3 : Int32) (w : XW) : Option XR := ev bs_X4_warm 38 ([some (.inr (3, 0)), some (.inr (8, i1)), some (.inl (.int x2)), some (.inl (.int x3)), none], [], w)
noncomputable def q_X4_warm_47 (i1 : Nat) (x2 : Int32) (x3 : Int32) (s0 : Int32) (w : XW) : Option XR := ev bs_X4_warm 47 ([some (.inr (3, 0)), some (.inr (8, i1)), some (.inl (.int x2)), some (.inl (.int x3)), none], [.inl (.int s0)], w)
noncomputable def q_X4_warm_93 (i1 : Nat) (x2 : Int32) (x3 : Int32) (w : XW) : Option XR := ev bs_X4_warm 93 ([some (.inr (3, 0)), some (.inr (8, i1)), some (.inl (.int x2)), some (.inl (.int x3)), none], [], w)
noncomputable def q_X4_warm_121 (i1 : Nat) (x2 : Int32) (x3 : Int32) (w : XW) : Option XR := ev bs_X4_warm 121 ([some (.inr (3, 0)), some (.inr (8, i1)), some (.inl (.int x2)), some (.inl (.int x3)), none], [], w)
noncomputable def q_X4_warm_127 (x2 : Int32) (w : XW) : Option XR := ev bs_X4_warm 127 ([none, none, some (.inl (.int x2)), none, none], [], w)
theorem e_X4_warm_0 (i1 : Nat) (w : XW) : q_X4_warm_0 i1 w = (q_X4_warm_4 i1 0 0 w) := (ev_eq _ _ _).trans rfl
theorem e_X4_warm_4 (i1 : Nat) (x2 : Int32) (x3 : Int32) (w : XW) : q_X4_warm_4 i1 x2 x3 w = ((gR w 3 0 0).bind fun j0 => (bif decide ((gI w 1 j0 3) ≤ x3) then (q_X4_warm_127 x2 w) else (q_X4_warm_15 i1 x2 x3 w))) := (ev_eq _ _ _).trans rfl
theorem e_X4_warm_15 (i1 : Nat) (x2 : Int32) (x3 : Int32) (w : XW) : q_X4_warm_15 i1 x2 x3 w = (if x3 < 0 ∨ 6 ≤ x3.toNatClampNeg then none else (bif decide ((gI w 32 i1 x3.toNatClampNeg) < 0) then (q_X4_warm_38 i1 x2 x3 w) else (q_X4_warm_24 i1 x2 x3 w))) := (ev_eq _ _ _).trans rfl
theorem e_X4_warm_24 (i1 : Nat) (x2 : Int32) (x3 : Int32) (w : XW) : q_X4_warm_24 i1 x2 x3 w = ((gR w 3 0 0).bind fun j0 => (if x3 < 0 ∨ 6 ≤ x3.toNatClampNeg then none else (q_X4_warm_47 i1 x2 x3 (2 * (gI w 14 j0 x3.toNatClampNeg)) w))) := (ev_eq _ _ _).trans rfl
theorem e_X4_warm_38 (i1 : Nat) (x2 : Int32) (x3 : Int32) (w : XW) : q_X4_warm_38 i1 x2 x3 w = ((gR w 3 0 0).bind fun j0 => (if x3 < 0 ∨ 6 ≤ x3.toNatClampNeg then none else (q_X4_warm_47 i1 x2 x3 (gI w 14 j0 x3.toNatClampNeg) w))) := (ev_eq _ _ _).trans rfl
theorem e_X4_warm_47 (i1 : Nat) (x2 : Int32) (x3 : Int32) (s0 : Int32) (w : XW) : q_X4_warm_47 i1 x2 x3 s0 w = (if x3 < 0 ∨ 6 ≤ x3.toNatClampNeg then none else (if x3 < 0 ∨ 6 ≤ x3.toNatClampNeg then none else (if x3 < 0 ∨ 6 ≤ x3.toNatClampNeg then none else (if x3 < 0 ∨ 6 ≤ x3.toNatClampNeg then none else ((gR (sI w 31 i1 x3.toNatClampNeg (if 0 < (((gI w 31 i1 x3.toNatClampNeg) + ((gI w 30 i1 x3.toNatClampNeg) / 4)) - s0) then (((gI w 31 i1 x3.toNatClampNeg) + ((gI w 30 i1 x3.toNatClampNeg) / 4)) - s0) else 0)) 3 0 0).bind fun j0 => (bif decide ((gI (sI w 31 i1 x3.toNatClampNeg (if 0 < (((gI w 31 i1 x3.toNatClampNeg) + ((gI w 30 i1 x3.toNatClampNeg) / 4)) - s0) then (((gI w 31 i1 x3.toNatClampNeg) + ((gI w 30 i1 x3.toNatClampNeg) / 4)) - s0) else 0)) 31 i1 x3.toNatClampNeg) < (gI (sI w 31 i1 x3.toNatClampNeg (if 0 < (((gI w 31 i1 x3.toNatClampNeg) + ((gI w 30 i1 x3.toNatClampNeg) / 4)) - s0) then (((gI w 31 i1 x3.toNatClampNeg) + ((gI w 30 i1 x3.toNatClampNeg) / 4)) - s0) else 0)) 1 j0 2)) then (q_X4_warm_121 i1 x2 x3 (sI w 31 i1 x3.toNatClampNeg (if 0 < (((gI w 31 i1 x3.toNatClampNeg) + ((gI w 30 i1 x3.toNatClampNeg) / 4)) - s0) then (((gI w 31 i1 x3.toNatClampNeg) + ((gI w 30 i1 x3.toNatClampNeg) / 4)) - s0) else 0))) else (q_X4_warm_93 i1 x2 x3 (sI w 31 i1 x3.toNatClampNeg (if 0 < (((gI w 31 i1 x3.toNatClampNeg) + ((gI w 30 i1 x3.toNatClampNeg) / 4)) - s0) then (((gI w 31 i1 x3.toNatClampNeg) + ((gI w 30 i1 x3.toNatClampNeg) / 4)) - s0) else 0))))))))) := (ev_eq _ _ _).trans rfl
theorem e_X4_warm_93 (i1 : Nat) (x2 : Int32) (x3 : Int32) (w : XW) : q_X4_warm_93 i1 x2 x3 w = (if x3 < 0 ∨ 6 ≤ x3.toNatClampNeg then none else (if x3 < 0 ∨ 6 ≤ x3.toNatClampNeg then none else (if x3 < 0 ∨ 6 ≤ x3.toNatClampNeg then none else (q_X4_warm_121 i1 (x2 ||| ((1 : Int32) <<< ((x3 : Int32) &&& 31))) x3 (sI (sI (sI w 30 i1 x3.toNatClampNeg 0) 31 i1 x3.toNatClampNeg 0) 32 i1 x3.toNatClampNeg (-2)))))) := (ev_eq _ _ _).trans rfl
theorem e_X4_warm_121 (i1 : Nat) (x2 : Int32) (x3 : Int32) (w : XW) : q_X4_warm_121 i1 x2 x3 w = (q_X4_warm_4 i1 x2 (x3 + 1) w) := (ev_eq _ _ _).trans rfl
theorem e_X4_warm_127 (x2 : Int32) (w : XW) : q_X4_warm_127 x2 w = (some (some (.inl (.int x2)), w)) := (ev_eq _ _ _).trans rfl
theorem f_X4_warm (i1 : Nat) (w : XW) : F_X4_warm [.inr (3, 0), .inr (8, i1)] w = (q_X4_warm_0 i1 w).bind pI := rfl
