-- WinterKeep$Nights.worth(LWinterKeep$Scene;III)J
theorem dX4_worth_0 : decode cX4_worth 0 = .ok (.iconst 0, 1) := by decide +kernel
theorem dX4_worth_1 : decode cX4_worth 1 = .ok (.istore 5, 2) := by decide +kernel
theorem dX4_worth_3 : decode cX4_worth 3 = .ok (.iload_n 3, 1) := by decide +kernel
theorem dX4_worth_4 : decode cX4_worth 4 = .ok (.istore 6, 2) := by decide +kernel
theorem dX4_worth_6 : decode cX4_worth 6 = .ok (.iload 6, 2) := by decide +kernel
theorem dX4_worth_8 : decode cX4_worth 8 = .ok (.iload 4, 2) := by decide +kernel
theorem dX4_worth_10 : decode cX4_worth 10 = .ok (.if_icmp .ge 162, 3) := by decide +kernel
theorem dX4_worth_13 : decode cX4_worth 13 = .ok (.iload 6, 2) := by decide +kernel
theorem dX4_worth_15 : decode cX4_worth 15 = .ok (.aload_n 0, 1) := by decide +kernel
theorem dX4_worth_16 : decode cX4_worth 16 = .ok (.getfield 15, 3) := by decide +kernel
theorem dX4_worth_19 : decode cX4_worth 19 = .ok (.getfield 124, 3) := by decide +kernel
theorem dX4_worth_22 : decode cX4_worth 22 = .ok (.arraylength, 1) := by decide +kernel
theorem dX4_worth_23 : decode cX4_worth 23 = .ok (.if_icmp .ge 149, 3) := by decide +kernel
theorem dX4_worth_26 : decode cX4_worth 26 = .ok (.aload_n 0, 1) := by decide +kernel
theorem dX4_worth_27 : decode cX4_worth 27 = .ok (.getfield 15, 3) := by decide +kernel
theorem dX4_worth_30 : decode cX4_worth 30 = .ok (.getfield 124, 3) := by decide +kernel
theorem dX4_worth_33 : decode cX4_worth 33 = .ok (.iload 6, 2) := by decide +kernel
theorem dX4_worth_35 : decode cX4_worth 35 = .ok (.iaload, 1) := by decide +kernel
theorem dX4_worth_36 : decode cX4_worth 36 = .ok (.istore 7, 2) := by decide +kernel
theorem dX4_worth_38 : decode cX4_worth 38 = .ok (.iload 7, 2) := by decide +kernel
theorem dX4_worth_40 : decode cX4_worth 40 = .ok (.bipush (-20), 2) := by decide +kernel
theorem dX4_worth_42 : decode cX4_worth 42 = .ok (.if_icmp .le 47, 3) := by decide +kernel
theorem dX4_worth_45 : decode cX4_worth 45 = .ok (.iload 5, 2) := by decide +kernel
theorem dX4_worth_47 : decode cX4_worth 47 = .ok (.aload_n 0, 1) := by decide +kernel
theorem dX4_worth_48 : decode cX4_worth 48 = .ok (.getfield 26, 3) := by decide +kernel
theorem dX4_worth_51 : decode cX4_worth 51 = .ok (.arraylength, 1) := by decide +kernel
theorem dX4_worth_52 : decode cX4_worth 52 = .ok (.if_icmp .ge 114, 3) := by decide +kernel
theorem dX4_worth_55 : decode cX4_worth 55 = .ok (.aload_n 0, 1) := by decide +kernel
theorem dX4_worth_56 : decode cX4_worth 56 = .ok (.getfield 26, 3) := by decide +kernel
theorem dX4_worth_59 : decode cX4_worth 59 = .ok (.iload 5, 2) := by decide +kernel
theorem dX4_worth_61 : decode cX4_worth 61 = .ok (.iload 7, 2) := by decide +kernel
theorem dX4_worth_63 : decode cX4_worth 63 = .ok (.ifCond .lt 9, 3) := by decide +kernel
theorem dX4_worth_66 : decode cX4_worth 66 = .ok (.iload 7, 2) := by decide +kernel
theorem dX4_worth_68 : decode cX4_worth 68 = .ok (.i2l, 1) := by decide +kernel
theorem dX4_worth_69 : decode cX4_worth 69 = .ok (.goto 13, 3) := by decide +kernel
theorem dX4_worth_72 : decode cX4_worth 72 = .ok (.aload_n 0, 1) := by decide +kernel
theorem dX4_worth_73 : decode cX4_worth 73 = .ok (.aload_n 1, 1) := by decide +kernel
theorem dX4_worth_74 : decode cX4_worth 74 = .ok (.iload_n 2, 1) := by decide +kernel
theorem dX4_worth_75 : decode cX4_worth 75 = .ok (.iconst (-1), 1) := by decide +kernel
theorem dX4_worth_76 : decode cX4_worth 76 = .ok (.iload 7, 2) := by decide +kernel
theorem dX4_worth_78 : decode cX4_worth 78 = .ok (.isub, 1) := by decide +kernel
theorem dX4_worth_79 : decode cX4_worth 79 = .ok (.invokevirtual 127, 3) := by decide +kernel
theorem dX4_worth_82 : decode cX4_worth 82 = .ok (.lastore, 1) := by decide +kernel
theorem dX4_worth_83 : decode cX4_worth 83 = .ok (.iinc 5 1, 3) := by decide +kernel
theorem dX4_worth_86 : decode cX4_worth 86 = .ok (.goto 80, 3) := by decide +kernel
theorem dX4_worth_89 : decode cX4_worth 89 = .ok (.iload 7, 2) := by decide +kernel
theorem dX4_worth_91 : decode cX4_worth 91 = .ok (.bipush (-30), 2) := by decide +kernel
theorem dX4_worth_93 : decode cX4_worth 93 = .ok (.if_icmp .ne 32, 3) := by decide +kernel
theorem dX4_worth_96 : decode cX4_worth 96 = .ok (.iload 5, 2) := by decide +kernel
theorem dX4_worth_98 : decode cX4_worth 98 = .ok (.iconst 1, 1) := by decide +kernel
theorem dX4_worth_99 : decode cX4_worth 99 = .ok (.if_icmp .lt 67, 3) := by decide +kernel
theorem dX4_worth_102 : decode cX4_worth 102 = .ok (.aload_n 0, 1) := by decide +kernel
theorem dX4_worth_103 : decode cX4_worth 103 = .ok (.getfield 26, 3) := by decide +kernel
theorem dX4_worth_106 : decode cX4_worth 106 = .ok (.iload 5, 2) := by decide +kernel
theorem dX4_worth_108 : decode cX4_worth 108 = .ok (.iconst 1, 1) := by decide +kernel
theorem dX4_worth_109 : decode cX4_worth 109 = .ok (.isub, 1) := by decide +kernel
theorem dX4_worth_110 : decode cX4_worth 110 = .ok (.lconst 1, 1) := by decide +kernel
theorem dX4_worth_111 : decode cX4_worth 111 = .ok (.aload_n 0, 1) := by decide +kernel
theorem dX4_worth_112 : decode cX4_worth 112 = .ok (.getfield 26, 3) := by decide +kernel
theorem dX4_worth_115 : decode cX4_worth 115 = .ok (.iload 5, 2) := by decide +kernel
theorem dX4_worth_117 : decode cX4_worth 117 = .ok (.iconst 1, 1) := by decide +kernel
theorem dX4_worth_118 : decode cX4_worth 118 = .ok (.isub, 1) := by decide +kernel
theorem dX4_worth_119 : decode cX4_worth 119 = .ok (.laload, 1) := by decide +kernel
theorem dX4_worth_120 : decode cX4_worth 120 = .ok (.lsub, 1) := by decide +kernel
theorem dX4_worth_121 : decode cX4_worth 121 = .ok (.lastore, 1) := by decide +kernel
theorem dX4_worth_122 : decode cX4_worth 122 = .ok (.goto 44, 3) := by decide +kernel
theorem dX4_worth_125 : decode cX4_worth 125 = .ok (.iload 5, 2) := by decide +kernel
theorem dX4_worth_127 : decode cX4_worth 127 = .ok (.iconst 2, 1) := by decide +kernel
theorem dX4_worth_128 : decode cX4_worth 128 = .ok (.if_icmp .lt 38, 3) := by decide +kernel
theorem dX4_worth_131 : decode cX4_worth 131 = .ok (.aload_n 0, 1) := by decide +kernel
theorem dX4_worth_132 : decode cX4_worth 132 = .ok (.getfield 26, 3) := by decide +kernel
theorem dX4_worth_135 : decode cX4_worth 135 = .ok (.iload 5, 2) := by decide +kernel
theorem dX4_worth_137 : decode cX4_worth 137 = .ok (.iconst 2, 1) := by decide +kernel
theorem dX4_worth_138 : decode cX4_worth 138 = .ok (.isub, 1) := by decide +kernel
theorem dX4_worth_139 : decode cX4_worth 139 = .ok (.iload 7, 2) := by decide +kernel
theorem dX4_worth_141 : decode cX4_worth 141 = .ok (.aload_n 0, 1) := by decide +kernel
theorem dX4_worth_142 : decode cX4_worth 142 = .ok (.getfield 26, 3) := by decide +kernel
theorem dX4_worth_145 : decode cX4_worth 145 = .ok (.iload 5, 2) := by decide +kernel
theorem dX4_worth_147 : decode cX4_worth 147 = .ok (.iconst 2, 1) := by decide +kernel
theorem dX4_worth_148 : decode cX4_worth 148 = .ok (.isub, 1) := by decide +kernel
theorem dX4_worth_149 : decode cX4_worth 149 = .ok (.laload, 1) := by decide +kernel
theorem dX4_worth_150 : decode cX4_worth 150 = .ok (.aload_n 0, 1) := by decide +kernel
theorem dX4_worth_151 : decode cX4_worth 151 = .ok (.getfield 26, 3) := by decide +kernel
theorem dX4_worth_154 : decode cX4_worth 154 = .ok (.iload 5, 2) := by decide +kernel
theorem dX4_worth_156 : decode cX4_worth 156 = .ok (.iconst 1, 1) := by decide +kernel
theorem dX4_worth_157 : decode cX4_worth 157 = .ok (.isub, 1) := by decide +kernel
theorem dX4_worth_158 : decode cX4_worth 158 = .ok (.laload, 1) := by decide +kernel
theorem dX4_worth_159 : decode cX4_worth 159 = .ok (.invokestatic 131, 3) := by decide +kernel
theorem dX4_worth_162 : decode cX4_worth 162 = .ok (.lastore, 1) := by decide +kernel
theorem dX4_worth_163 : decode cX4_worth 163 = .ok (.iinc 5 (-1), 3) := by decide +kernel
theorem dX4_worth_166 : decode cX4_worth 166 = .ok (.iinc 6 1, 3) := by decide +kernel
theorem dX4_worth_169 : decode cX4_worth 169 = .ok (.goto (-163), 3) := by decide +kernel
theorem dX4_worth_172 : decode cX4_worth 172 = .ok (.aload_n 0, 1) := by decide +kernel
theorem dX4_worth_173 : decode cX4_worth 173 = .ok (.getfield 26, 3) := by decide +kernel
theorem dX4_worth_176 : decode cX4_worth 176 = .ok (.iconst 0, 1) := by decide +kernel
theorem dX4_worth_177 : decode cX4_worth 177 = .ok (.laload, 1) := by decide +kernel
theorem dX4_worth_178 : decode cX4_worth 178 = .ok (.lreturn, 1) := by decide +kernel
theorem vc_X4_127 : XVw RX4 127 3 3 5 yX4_wordOf cX4_wordOf (some .long) := ⟨RX4, TX4, tyX4, 7, xk_3, rfl, ⟨by decide, by decide⟩, by decide +kernel, wt_703, wt_705, ws_18, wt_6, wt_706⟩
theorem vc_X4_131 : XSw RX4 131 3 5 yX4_done cX4_done (some .long) := ⟨⟨by decide, by decide⟩, by decide +kernel, wt_711, wt_712, wt_6, wt_713⟩
noncomputable def bs_X4_worth : List (Nat × XB) := [
  (0, (sq (xC (.int 0)) (sq (xSI 5) (sq (xLI 3) (sq (xSI 6) (tGo 6 [true, true, true, false, true, true, true, false])))))),
  (6, (sq (xLI 6) (sq (xLI 4) (tIf2 (fun x y => decide (y ≤ x)) 172 [true, false, false, false, false, false, false, false] 13 [true, true, true, false, true, true, true, false])))),
  (13, (sq (xLI 6) (sq (xLA 0) (sq (xGD 3 1 6) (sq (xGS 6 26 0 0) (sq (xLend 26) (tIf2 (fun x y => decide (y ≤ x)) 172 [true, false, false, false, false, false, false, false] 26 [true, true, true, false, true, true, true, false]))))))),
  (26, (sq (xLA 0) (sq (xGD 3 1 6) (sq (xGS 6 26 0 0) (sq (xLI 6) (sq (xAId 26) (sq (xSI 7) (sq (xLI 7) (sq (xC (.int (-20))) (tIf2 (fun x y => decide (x ≤ y)) 89 [true, true, true, false, true, true, true, true] 45 [true, true, true, false, true, true, true, true])))))))))),
  (45, (sq (xLI 5) (sq (xLA 0) (sq (xGS 3 21 0 0) (sq (xLen 21 64) (tIf2 (fun x y => decide (y ≤ x)) 166 [true, true, true, false, true, true, true, false] 55 [true, true, true, false, true, true, true, true])))))),
  (55, (sq (xLA 0) (sq (xGS 3 21 0 0) (sq (xLI 5) (sq (xLI 7) (tIf1 (fun x => decide (x < 0)) 72 [true, true, true, false, true, true, true, true] 66 [true, true, true, false, true, true, true, true])))))),
  (66, (sq (xLI 7) (sq (xI2L) (tGo 82 [true, true, true, false, true, true, true, false])))),
  (72, (sq (xLA 0) (sq (xLA 1) (sq (xLI 2) (sq (xC (.int (-1))) (sq (xLI 7) (sq (xI2 (· - ·)) (sq (xCJ 3 4 F_X4_wordOf) (tGo 82 [true, true, true, false, true, true, true, false]))))))))),
  (82, (sq (xTJ 21 64) (sq (xInc 5 1) (tGo 166 [true, true, true, false, true, true, true, false])))),
  (89, (sq (xLI 7) (sq (xC (.int (-30))) (tIf2 (fun x y => decide (¬ x = y)) 125 [true, true, true, false, true, true, true, true] 96 [true, true, true, false, true, true, true, false])))),
  (96, (sq (xLI 5) (sq (xC (.int 1)) (tIf2 (fun x y => decide (x < y)) 166 [true, true, true, false, true, true, true, false] 102 [true, true, true, false, true, true, true, false])))),
  (102, (sq (xLA 0) (sq (xGS 3 21 0 0) (sq (xLI 5) (sq (xC (.int 1)) (sq (xI2 (· - ·)) (sq (xC (.long 1)) (sq (xLA 0) (sq (xGS 3 21 0 0) (sq (xLI 5) (sq (xC (.int 1)) (sq (xI2 (· - ·)) (sq (xAJ 21 64) (sq (xJ2 (· - ·)) (sq (xTJ 21 64) (tGo 166 [true, true, true, false, true, true, true, false])))))))))))))))),
  (125, (sq (xLI 5) (sq (xC (.int 2)) (tIf2 (fun x y => decide (x < y)) 166 [true, true, true, false, true, true, true, false] 131 [true, true, true, false, true, true, true, true])))),
  (131, (sq (xLA 0) (sq (xGS 3 21 0 0) (sq (xLI 5) (sq (xC (.int 2)) (sq (xI2 (· - ·)) (sq (xLI 7) (sq (xLA 0) (sq (xGS 3 21 0 0) (sq (xLI 5) (sq (xC (.int 2)) (sq (xI2 (· - ·)) (sq (xAJ 21 64) (sq (xLA 0) (sq (xGS 3 21 0 0) (sq (xLI 5) (sq (xC (.int 1)) (sq (xI2 (· - ·)) (sq (xAJ 21 64) (sq (xCJ 99 3 F_X4_done) (sq (xTJ 21 64) (sq (xInc 5 (-1)) (tGo 166 [true, true, true, false, true, true, true, false]))))))))))))))))))))))),
  (166, (sq (xInc 6 1) (tGo 6 [true, true, true, false, true, true, true, false]))),
  (172, (sq (xLA 0) (sq (xGS 3 21 0 0) (sq (xC (.int 0)) (sq (xAJ 21 64) tRJ)))))]
set_option maxRecDepth 100000 in
set_option maxHeartbeats 4000000 in
theorem s_X4_worth : ∀ X : XCtx, XE X → X.2.2.1.1 = cX4_worth → X.2.2.1.2.1 = 8 → X.2.2.1.2.2.1 = yX4_worth.cls → X.2.2.1.2.2.2.1 = (some .long) → X.1.2.2.2.1 = { frames := 2, cells := 0, slots := 0, locals := 47 } → SndBs X bs_X4_worth := by
  rintro ⟨⟨p, l, e, R, s⟩, Y, ⟨cc, nL, own, ret, Ts⟩, Z⟩ hE h1 h2 h3 h4 h5
  dsimp only at h1 h2 h3 h4 h5
  subst h1 h2 h3 h4 h5
  exact ⟨(n_sq (n_iconst hE (by decide) dX4_worth_0) (n_sq (n_istore hE (show (5 : Nat) < 8 by decide) dX4_worth_1) (n_sq (n_iload_n hE dX4_worth_3) (n_sq (n_istore hE (show (6 : Nat) < 8 by decide) dX4_worth_4) n_fall)))),
    (n_sq (n_iload hE dX4_worth_6) (n_sq (n_iload hE dX4_worth_8) (n_ifcge hE (by decide) dX4_worth_10))),
    (n_sq (n_iload hE dX4_worth_13) (n_sq (n_aload_n hE dX4_worth_15) (n_sq (n_getD hE xk_3 (k := 1) rfl (by decide) rfl wt_216 dX4_worth_16) (n_sq (n_getS hE xk_6 (k := 0) rfl (by decide) rfl wt_587 dX4_worth_19) (n_sq (n_alen_d hE rfl dX4_worth_22) (n_ifcge hE (by decide) dX4_worth_23)))))),
    (n_sq (n_aload_n hE dX4_worth_26) (n_sq (n_getD hE xk_3 (k := 1) rfl (by decide) rfl wt_216 dX4_worth_27) (n_sq (n_getS hE xk_6 (k := 0) rfl (by decide) rfl wt_587 dX4_worth_30) (n_sq (n_iload hE dX4_worth_33) (n_sq (n_iald_d hE rfl dX4_worth_35) (n_sq (n_istore hE (show (7 : Nat) < 8 by decide) dX4_worth_36) (n_sq (n_iload hE dX4_worth_38) (n_sq (n_bipush hE (by decide) dX4_worth_40) (n_ifcle hE (by decide) dX4_worth_42))))))))),
    (n_sq (n_iload hE dX4_worth_45) (n_sq (n_aload_n hE dX4_worth_47) (n_sq (n_getS hE xk_3 (k := 4) rfl (by decide) rfl wt_219 dX4_worth_48) (n_sq (n_alen_j hE rfl (by decide) dX4_worth_51) (n_ifcge hE (by decide) dX4_worth_52))))),
    (n_sq (n_aload_n hE dX4_worth_55) (n_sq (n_getS hE xk_3 (k := 4) rfl (by decide) rfl wt_219 dX4_worth_56) (n_sq (n_iload hE dX4_worth_59) (n_sq (n_iload hE dX4_worth_61) (n_iflt hE (by decide) dX4_worth_63))))),
    (n_sq (n_iload hE dX4_worth_66) (n_sq (n_i2l hE dX4_worth_68) (n_goto hE (by decide) dX4_worth_69))),
    (n_sq (n_aload_n hE dX4_worth_72) (n_sq (n_aload_n hE dX4_worth_73) (n_sq (n_iload_n hE dX4_worth_74) (n_sq (n_iconst hE (by decide) dX4_worth_75) (n_sq (n_iload hE dX4_worth_76) (n_sq (n_isub hE dX4_worth_78) (n_sq (n_cJv hE m_X4_wordOf vc_X4_127 (show 1 + 1 ≤ 2 ∧ 8 + (5 + 11) + 23 ≤ 47 by decide) dX4_worth_79) n_fall))))))),
    (n_sq (n_last hE rfl (by decide) dX4_worth_82) (n_sq (n_iinc hE (by decide) (show (5 : Nat) < 8 by decide) dX4_worth_83) (n_goto hE (by decide) dX4_worth_86))),
    (n_sq (n_iload hE dX4_worth_89) (n_sq (n_bipush hE (by decide) dX4_worth_91) (n_ifcne hE (by decide) dX4_worth_93))),
    (n_sq (n_iload hE dX4_worth_96) (n_sq (n_iconst hE (by decide) dX4_worth_98) (n_ifclt hE (by decide) dX4_worth_99))),
    (n_sq (n_aload_n hE dX4_worth_102) (n_sq (n_getS hE xk_3 (k := 4) rfl (by decide) rfl wt_219 dX4_worth_103) (n_sq (n_iload hE dX4_worth_106) (n_sq (n_iconst hE (by decide) dX4_worth_108) (n_sq (n_isub hE dX4_worth_109) (n_sq (n_lconst hE (by decide) dX4_worth_110) (n_sq (n_aload_n hE dX4_worth_111) (n_sq (n_getS hE xk_3 (k := 4) rfl (by decide) rfl wt_219 dX4_worth_112) (n_sq (n_iload hE dX4_worth_115) (n_sq (n_iconst hE (by decide) dX4_worth_117) (n_sq (n_isub hE dX4_worth_118) (n_sq (n_lald hE rfl (by decide) dX4_worth_119) (n_sq (n_lsub hE dX4_worth_120) (n_sq (n_last hE rfl (by decide) dX4_worth_121) (n_goto hE (by decide) dX4_worth_122))))))))))))))),
    (n_sq (n_iload hE dX4_worth_125) (n_sq (n_iconst hE (by decide) dX4_worth_127) (n_ifclt hE (by decide) dX4_worth_128))),
    (n_sq (n_aload_n hE dX4_worth_131) (n_sq (n_getS hE xk_3 (k := 4) rfl (by decide) rfl wt_219 dX4_worth_132) (n_sq (n_iload hE dX4_worth_135) (n_sq (n_iconst hE (by decide) dX4_worth_137) (n_sq (n_isub hE dX4_worth_138) (n_sq (n_iload hE dX4_worth_139) (n_sq (n_aload_n hE dX4_worth_141) (n_sq (n_getS hE xk_3 (k := 4) rfl (by decide) rfl wt_219 dX4_worth_142) (n_sq (n_iload hE dX4_worth_145) (n_sq (n_iconst hE (by decide) dX4_worth_147) (n_sq (n_isub hE dX4_worth_148) (n_sq (n_lald hE rfl (by decide) dX4_worth_149) (n_sq (n_aload_n hE dX4_worth_150) (n_sq (n_getS hE xk_3 (k := 4) rfl (by decide) rfl wt_219 dX4_worth_151) (n_sq (n_iload hE dX4_worth_154) (n_sq (n_iconst hE (by decide) dX4_worth_156) (n_sq (n_isub hE dX4_worth_157) (n_sq (n_lald hE rfl (by decide) dX4_worth_158) (n_sq (n_cJs hE m_X4_done vc_X4_131 (show 0 + 1 ≤ 2 ∧ 8 + (5 + 11) + 0 ≤ 47 by decide) dX4_worth_159) (n_sq (n_last hE rfl (by decide) dX4_worth_162) (n_sq (n_iinc hE (by decide) (show (5 : Nat) < 8 by decide) dX4_worth_163) n_fall))))))))))))))))))))),
    (n_sq (n_iinc hE (by decide) (show (6 : Nat) < 8 by decide) dX4_worth_166) (n_goto hE (by decide) dX4_worth_169)),
    (n_sq (n_aload_n hE dX4_worth_172) (n_sq (n_getS hE xk_3 (k := 4) rfl (by decide) rfl wt_219 dX4_worth_173) (n_sq (n_iconst hE (by decide) dX4_worth_176) (n_sq (n_lald hE rfl (by decide) dX4_worth_177) (n_lreturn hE rfl dX4_worth_178))))), trivial⟩
noncomputable def F_X4_worth (as : List XV) (w : XW) : Option (Int64 × XW) := (xF 8 bs_X4_worth as w).bind pJ
theorem m_X4_worth : XM yX4_worth cX4_worth 8 (some .long) 2 47 (eJ F_X4_worth) := xm_J (xm_of (by decide) s_X4_worth)
noncomputable def q_X4_worth_0 (i1 : Nat) (x2 : Int32) (x3 : Int32) (x4 : Int32) (w : XW) : Option XR := ev bs_X4_worth 0 ([some (.inr (3, 0)), some (.inr (8, i1)), some (.inl (.int x2)), some (.inl (.int x3)), some (.inl (.int x4)), none, none, none], [], w)
noncomputable def q_X4_worth_6 (i1 : Nat) (x2 : Int32) (x4 : Int32) (x5 : Int32) (x6 : Int32) (w : XW) : Option XR := ev bs_X4_worth 6 ([some (.inr (3, 0)), some (.inr (8, i1)), some (.inl (.int x2)), none, some (.inl (.int x4)), some (.inl (.int x5)), some (.inl (.int x6)), none], [], w)
noncomputable def q_X4_worth_13 (i1 : Nat) (x2 : Int32) (x4 : Int32) (x5 : Int32) (x6 : Int32) (w : XW) : Option XR := ev bs_X4_worth 13 ([some (.inr (3, 0)), some (.inr (8, i1)), some (.inl (.int x2)), none, some (.inl (.int x4)), some (.inl (.int x5)), some (.inl (.int x6)), none], [], w)
noncomputable def q_X4_worth_26 (i1 : Nat) (x2 : Int32) (x4 : Int32) (x5 : Int32) (x6 : Int32) (w : XW) : Option XR := ev bs_X4_worth 26 ([some (.inr (3, 0)), some (.inr (8, i1)), some (.inl (.int x2)), none, some (.inl (.int x4)), some (.inl (.int x5)), some (.inl (.int x6)), none], [], w)
noncomputable def q_X4_worth_45 (i1 : Nat) (x2 : Int32) (x4 : Int32) (x5 : Int32) (x6 : Int32) (x7 : Int32) (w : XW) : Option XR := ev bs_X4_worth 45 ([some (.inr (3, 0)), some (.inr (8, i1)), some (.inl (.int x2)), none, some (.inl (.int x4)), some (.inl (.int x5)), some (.inl (.int x6)), some (.inl (.int x7))], [], w)
noncomputable def q_X4_worth_55 (i1 : Nat) (x2 : Int32) (x4 : Int32) (x5 : Int32) (x6 : Int32) (x7 : Int32) (w : XW) : Option XR := ev bs_X4_worth 55 ([some (.inr (3, 0)), some (.inr (8, i1)), some (.inl (.int x2)), none, some (.inl (.int x4)), some (.inl (.int x5)), some (.inl (.int x6)), some (.inl (.int x7))], [], w)
noncomputable def q_X4_worth_66 (i1 : Nat) (x2 : Int32) (x4 : Int32) (x5 : Int32) (x6 : Int32) (x7 : Int32) (s1 : Int32) (w : XW) : Option XR := ev bs_X4_worth 66 ([some (.inr (3, 0)), some (.inr (8, i1)), some (.inl (.int x2)), none, some (.inl (.int x4)), some (.inl (.int x5)), some (.inl (.int x6)), some (.inl (.int x7))], [.inl (.int s1), .inr (21, 0)], w)
noncomputable def q_X4_worth_72 (i1 : Nat) (x2 : Int32) (x4 : Int32) (x5 : Int32) (x6 : Int32) (x7 : Int32) (s1 : Int32) (w : XW) : Option XR := ev bs_X4_worth 72 ([some (.inr (3, 0)), some (.inr (8, i1)), some (.inl (.int x2)), none, some (.inl (.int x4)), some (.inl (.int x5)), some (.inl (.int x6)), some (.inl (.int x7))], [.inl (.int s1), .inr (21, 0)], w)
noncomputable def q_X4_worth_82 (i1 : Nat) (x2 : Int32) (x4 : Int32) (x5 : Int32) (x6 : Int32) (s1 : Int32) (s2 : Int64) (w : XW) : Option XR := ev bs_X4_worth 82 ([some (.inr (3, 0)), some (.inr (8, i1)), some (.inl (.int x2)), none, some (.inl (.int x4)), some (.inl (.int x5)), some (.inl (.int x6)), none], [.inl (.long s2), .inl (.int s1), .inr (21, 0)], w)
noncomputable def q_X4_worth_89 (i1 : Nat) (x2 : Int32) (x4 : Int32) (x5 : Int32) (x6 : Int32) (x7 : Int32) (w : XW) : Option XR := ev bs_X4_worth 89 ([some (.inr (3, 0)), some (.inr (8, i1)), some (.inl (.int x2)), none, some (.inl (.int x4)), some (.inl (.int x5)), some (.inl (.int x6)), some (.inl (.int x7))], [], w)
noncomputable def q_X4_worth_96 (i1 : Nat) (x2 : Int32) (x4 : Int32) (x5 : Int32) (x6 : Int32) (w : XW) : Option XR := ev bs_X4_worth 96 ([some (.inr (3, 0)), some (.inr (8, i1)), some (.inl (.int x2)), none, some (.inl (.int x4)), some (.inl (.int x5)), some (.inl (.int x6)), none], [], w)
noncomputable def q_X4_worth_102 (i1 : Nat) (x2 : Int32) (x4 : Int32) (x5 : Int32) (x6 : Int32) (w : XW) : Option XR := ev bs_X4_worth 102 ([some (.inr (3, 0)), some (.inr (8, i1)), some (.inl (.int x2)), none, some (.inl (.int x4)), some (.inl (.int x5)), some (.inl (.int x6)), none], [], w)
noncomputable def q_X4_worth_125 (i1 : Nat) (x2 : Int32) (x4 : Int32) (x5 : Int32) (x6 : Int32) (x7 : Int32) (w : XW) : Option XR := ev bs_X4_worth 125 ([some (.inr (3, 0)), some (.inr (8, i1)), some (.inl (.int x2)), none, some (.inl (.int x4)), some (.inl (.int x5)), some (.inl (.int x6)), some (.inl (.int x7))], [], w)
noncomputable def q_X4_worth_131 (i1 : Nat) (x2 : Int32) (x4 : Int32) (x5 : Int32) (x6 : Int32) (x7 : Int32) (w : XW) : Option XR := ev bs_X4_worth 131 ([some (.inr (3, 0)), some (.inr (8, i1)), some (.inl (.int x2)), none, some (.inl (.int x4)), some (.inl (.int x5)), some (.inl (.int x6)), some (.inl (.int x7))], [], w)
noncomputable def q_X4_worth_166 (i1 : Nat) (x2 : Int32) (x4 : Int32) (x5 : Int32) (x6 : Int32) (w : XW) : Option XR := ev bs_X4_worth 166 ([some (.inr (3, 0)), some (.inr (8, i1)), some (.inl (.int x2)), none, some (.inl (.int x4)), some (.inl (.int x5)), some (.inl (.int x6)), none], [], w)
noncomputable def q_X4_worth_172 (w : XW) : Option XR := ev bs_X4_worth 172 ([some (.inr (3, 0)), none, none, none, none, none, none, none], [], w)
theorem e_X4_worth_0 (i1 : Nat) (x2 : Int32) (x3 : Int32) (x4 : Int32) (w : XW) : q_X4_worth_0 i1 x2 x3 x4 w = (q_X4_worth_6 i1 x2 x4 0 x3 w) := (ev_eq _ _ _).trans rfl
theorem e_X4_worth_6 (i1 : Nat) (x2 : Int32) (x4 : Int32) (x5 : Int32) (x6 : Int32) (w : XW) : q_X4_worth_6 i1 x2 x4 x5 x6 w = (bif decide (x4 ≤ x6) then (q_X4_worth_172 w) else (q_X4_worth_13 i1 x2 x4 x5 x6 w)) := (ev_eq _ _ _).trans rfl
theorem e_X4_worth_13 (i1 : Nat) (x2 : Int32) (x4 : Int32) (x5 : Int32) (x6 : Int32) (w : XW) : q_X4_worth_13 i1 x2 x4 x5 x6 w = ((gR w 3 0 1).bind fun j0 => (bif decide ((Int32.ofNat (gZ w 26 j0)) ≤ x6) then (q_X4_worth_172 w) else (q_X4_worth_26 i1 x2 x4 x5 x6 w))) := (ev_eq _ _ _).trans rfl
theorem e_X4_worth_26 (i1 : Nat) (x2 : Int32) (x4 : Int32) (x5 : Int32) (x6 : Int32) (w : XW) : q_X4_worth_26 i1 x2 x4 x5 x6 w = ((gR w 3 0 1).bind fun j0 => (if x6 < 0 ∨ (gZ w 26 j0) ≤ x6.toNatClampNeg then none else (bif decide ((gI w 26 j0 x6.toNatClampNeg) ≤ (-20)) then (q_X4_worth_89 i1 x2 x4 x5 x6 (gI w 26 j0 x6.toNatClampNeg) w) else (q_X4_worth_45 i1 x2 x4 x5 x6 (gI w 26 j0 x6.toNatClampNeg) w)))) := (ev_eq _ _ _).trans rfl
theorem e_X4_worth_45 (i1 : Nat) (x2 : Int32) (x4 : Int32) (x5 : Int32) (x6 : Int32) (x7 : Int32) (w : XW) : q_X4_worth_45 i1 x2 x4 x5 x6 x7 w = (bif decide ((Int32.ofNat 64) ≤ x5) then (q_X4_worth_166 i1 x2 x4 x5 x6 w) else (q_X4_worth_55 i1 x2 x4 x5 x6 x7 w)) := (ev_eq _ _ _).trans rfl
theorem e_X4_worth_55 (i1 : Nat) (x2 : Int32) (x4 : Int32) (x5 : Int32) (x6 : Int32) (x7 : Int32) (w : XW) : q_X4_worth_55 i1 x2 x4 x5 x6 x7 w = (bif decide (x7 < 0) then (q_X4_worth_72 i1 x2 x4 x5 x6 x7 x5 w) else (q_X4_worth_66 i1 x2 x4 x5 x6 x7 x5 w)) := (ev_eq _ _ _).trans rfl
theorem e_X4_worth_66 (i1 : Nat) (x2 : Int32) (x4 : Int32) (x5 : Int32) (x6 : Int32) (x7 : Int32) (s1 : Int32) (w : XW) : q_X4_worth_66 i1 x2 x4 x5 x6 x7 s1 w = (q_X4_worth_82 i1 x2 x4 x5 x6 s1 ((x7 : Int32).toInt64) w) := (ev_eq _ _ _).trans rfl
theorem e_X4_worth_72 (i1 : Nat) (x2 : Int32) (x4 : Int32) (x5 : Int32) (x6 : Int32) (x7 : Int32) (s1 : Int32) (w : XW) : q_X4_worth_72 i1 x2 x4 x5 x6 x7 s1 w = ((F_X4_wordOf [.inr (3, 0), .inr (8, i1), .inl (.int x2), .inl (.int ((-1) - x7))] w).bind fun r0 => (q_X4_worth_82 i1 x2 x4 x5 x6 s1 r0.1 r0.2)) := (ev_eq _ _ _).trans rfl
theorem e_X4_worth_82 (i1 : Nat) (x2 : Int32) (x4 : Int32) (x5 : Int32) (x6 : Int32) (s1 : Int32) (s2 : Int64) (w : XW) : q_X4_worth_82 i1 x2 x4 x5 x6 s1 s2 w = (if s1 < 0 ∨ 64 ≤ s1.toNatClampNeg then none else (q_X4_worth_166 i1 x2 x4 (x5 + 1) x6 (sJ w 21 0 s1.toNatClampNeg s2))) := (ev_eq _ _ _).trans rfl
theorem e_X4_worth_89 (i1 : Nat) (x2 : Int32) (x4 : Int32) (x5 : Int32) (x6 : Int32) (x7 : Int32) (w : XW) : q_X4_worth_89 i1 x2 x4 x5 x6 x7 w = (bif decide (¬ x7 = (-30)) then (q_X4_worth_125 i1 x2 x4 x5 x6 x7 w) else (q_X4_worth_96 i1 x2 x4 x5 x6 w)) := (ev_eq _ _ _).trans rfl
theorem e_X4_worth_96 (i1 : Nat) (x2 : Int32) (x4 : Int32) (x5 : Int32) (x6 : Int32) (w : XW) : q_X4_worth_96 i1 x2 x4 x5 x6 w = (bif decide (x5 < 1) then (q_X4_worth_166 i1 x2 x4 x5 x6 w) else (q_X4_worth_102 i1 x2 x4 x5 x6 w)) := (ev_eq _ _ _).trans rfl
theorem e_X4_worth_102 (i1 : Nat) (x2 : Int32) (x4 : Int32) (x5 : Int32) (x6 : Int32) (w : XW) : q_X4_worth_102 i1 x2 x4 x5 x6 w = (if (x5 - 1) < 0 ∨ 64 ≤ (x5 - 1).toNatClampNeg then none else (if (x5 - 1) < 0 ∨ 64 ≤ (x5 - 1).toNatClampNeg then none else (q_X4_worth_166 i1 x2 x4 x5 x6 (sJ w 21 0 ((x5 - 1).toNatClampNeg) (1 - (gJ w 21 0 (x5 - 1).toNatClampNeg)))))) := (ev_eq _ _ _).trans rfl
theorem e_X4_worth_125 (i1 : Nat) (x2 : Int32) (x4 : Int32) (x5 : Int32) (x6 : Int32) (x7 : Int32) (w : XW) : q_X4_worth_125 i1 x2 x4 x5 x6 x7 w = (bif decide (x5 < 2) then (q_X4_worth_166 i1 x2 x4 x5 x6 w) else (q_X4_worth_131 i1 x2 x4 x5 x6 x7 w)) := (ev_eq _ _ _).trans rfl
theorem e_X4_worth_131 (i1 : Nat) (x2 : Int32) (x4 : Int32) (x5 : Int32) (x6 : Int32) (x7 : Int32) (w : XW) : q_X4_worth_131 i1 x2 x4 x5 x6 x7 w = (if (x5 - 2) < 0 ∨ 64 ≤ (x5 - 2).toNatClampNeg then none else (if (x5 - 1) < 0 ∨ 64 ≤ (x5 - 1).toNatClampNeg then none else ((F_X4_done [.inl (.int x7), .inl (.long (gJ w 21 0 (x5 - 2).toNatClampNeg)), .inl (.long (gJ w 21 0 (x5 - 1).toNatClampNeg))] w).bind fun r0 => (if (x5 - 2) < 0 ∨ 64 ≤ (x5 - 2).toNatClampNeg then none else (q_X4_worth_166 i1 x2 x4 (x5 + (-1)) x6 (sJ r0.2 21 0 ((x5 - 2).toNatClampNeg) r0.1)))))) := (ev_eq _ _ _).trans rfl
theorem e_X4_worth_166 (i1 : Nat) (x2 : Int32) (x4 : Int32) (x5 : Int32) (x6 : Int32) (w : XW) : q_X4_worth_166 i1 x2 x4 x5 x6 w = (q_X4_worth_6 i1 x2 x4 x5 (x6 + 1) w) := (ev_eq _ _ _).trans rfl
theorem e_X4_worth_172 (w : XW) : q_X4_worth_172 w = (some (some (.inl (.long (gJ w 21 0 0))), w)) := (ev_eq _ _ _).trans rfl
theorem f_X4_worth (i1 : Nat) (x2 : Int32) (x3 : Int32) (x4 : Int32) (w : XW) : F_X4_worth [.inr (3, 0), .inr (8, i1), .inl (.int x2), .inl (.int x3), .inl (.int x4)] w = (q_X4_worth_0 i1 x2 x3 x4 w).bind pJ := rfl

-- WinterKeep$Nights.sumFor(LWinterKeep$Scene;I)J
theorem dX4_sumFor_0 : decode cX4_sumFor 0 = .ok (.iconst 0, 1) := by decide +kernel
theorem dX4_sumFor_1 : decode cX4_sumFor 1 = .ok (.istore_n 3, 1) := by decide +kernel
theorem dX4_sumFor_2 : decode cX4_sumFor 2 = .ok (.iload_n 3, 1) := by decide +kernel
theorem dX4_sumFor_3 : decode cX4_sumFor 3 = .ok (.aload_n 0, 1) := by decide +kernel
theorem dX4_sumFor_4 : decode cX4_sumFor 4 = .ok (.getfield 15, 3) := by decide +kernel
theorem dX4_sumFor_7 : decode cX4_sumFor 7 = .ok (.getfield 112, 3) := by decide +kernel
theorem dX4_sumFor_10 : decode cX4_sumFor 10 = .ok (.if_icmp .ge 85, 3) := by decide +kernel
theorem dX4_sumFor_13 : decode cX4_sumFor 13 = .ok (.aload_n 0, 1) := by decide +kernel
theorem dX4_sumFor_14 : decode cX4_sumFor 14 = .ok (.getfield 15, 3) := by decide +kernel
theorem dX4_sumFor_17 : decode cX4_sumFor 17 = .ok (.getfield 117, 3) := by decide +kernel
theorem dX4_sumFor_20 : decode cX4_sumFor 20 = .ok (.iconst 3, 1) := by decide +kernel
theorem dX4_sumFor_21 : decode cX4_sumFor 21 = .ok (.iload_n 3, 1) := by decide +kernel
theorem dX4_sumFor_22 : decode cX4_sumFor 22 = .ok (.imul, 1) := by decide +kernel
theorem dX4_sumFor_23 : decode cX4_sumFor 23 = .ok (.iaload, 1) := by decide +kernel
theorem dX4_sumFor_24 : decode cX4_sumFor 24 = .ok (.istore 4, 2) := by decide +kernel
theorem dX4_sumFor_26 : decode cX4_sumFor 26 = .ok (.aload_n 0, 1) := by decide +kernel
theorem dX4_sumFor_27 : decode cX4_sumFor 27 = .ok (.getfield 15, 3) := by decide +kernel
theorem dX4_sumFor_30 : decode cX4_sumFor 30 = .ok (.getfield 117, 3) := by decide +kernel
theorem dX4_sumFor_33 : decode cX4_sumFor 33 = .ok (.iconst 3, 1) := by decide +kernel
theorem dX4_sumFor_34 : decode cX4_sumFor 34 = .ok (.iload_n 3, 1) := by decide +kernel
theorem dX4_sumFor_35 : decode cX4_sumFor 35 = .ok (.imul, 1) := by decide +kernel
theorem dX4_sumFor_36 : decode cX4_sumFor 36 = .ok (.iconst 1, 1) := by decide +kernel
theorem dX4_sumFor_37 : decode cX4_sumFor 37 = .ok (.iadd, 1) := by decide +kernel
theorem dX4_sumFor_38 : decode cX4_sumFor 38 = .ok (.iaload, 1) := by decide +kernel
theorem dX4_sumFor_39 : decode cX4_sumFor 39 = .ok (.istore 5, 2) := by decide +kernel
theorem dX4_sumFor_41 : decode cX4_sumFor 41 = .ok (.aload_n 0, 1) := by decide +kernel
theorem dX4_sumFor_42 : decode cX4_sumFor 42 = .ok (.getfield 15, 3) := by decide +kernel
theorem dX4_sumFor_45 : decode cX4_sumFor 45 = .ok (.getfield 117, 3) := by decide +kernel
theorem dX4_sumFor_48 : decode cX4_sumFor 48 = .ok (.iconst 3, 1) := by decide +kernel
theorem dX4_sumFor_49 : decode cX4_sumFor 49 = .ok (.iload_n 3, 1) := by decide +kernel
theorem dX4_sumFor_50 : decode cX4_sumFor 50 = .ok (.imul, 1) := by decide +kernel
theorem dX4_sumFor_51 : decode cX4_sumFor 51 = .ok (.iconst 2, 1) := by decide +kernel
theorem dX4_sumFor_52 : decode cX4_sumFor 52 = .ok (.iadd, 1) := by decide +kernel
theorem dX4_sumFor_53 : decode cX4_sumFor 53 = .ok (.iaload, 1) := by decide +kernel
theorem dX4_sumFor_54 : decode cX4_sumFor 54 = .ok (.istore 6, 2) := by decide +kernel
theorem dX4_sumFor_56 : decode cX4_sumFor 56 = .ok (.iload 5, 2) := by decide +kernel
theorem dX4_sumFor_58 : decode cX4_sumFor 58 = .ok (.iload 6, 2) := by decide +kernel
theorem dX4_sumFor_60 : decode cX4_sumFor 60 = .ok (.if_icmp .eq 18, 3) := by decide +kernel
theorem dX4_sumFor_63 : decode cX4_sumFor 63 = .ok (.aload_n 0, 1) := by decide +kernel
theorem dX4_sumFor_64 : decode cX4_sumFor 64 = .ok (.aload_n 1, 1) := by decide +kernel
theorem dX4_sumFor_65 : decode cX4_sumFor 65 = .ok (.iload_n 2, 1) := by decide +kernel
theorem dX4_sumFor_66 : decode cX4_sumFor 66 = .ok (.iload 5, 2) := by decide +kernel
theorem dX4_sumFor_68 : decode cX4_sumFor 68 = .ok (.iload 6, 2) := by decide +kernel
theorem dX4_sumFor_70 : decode cX4_sumFor 70 = .ok (.invokevirtual 120, 3) := by decide +kernel
theorem dX4_sumFor_73 : decode cX4_sumFor 73 = .ok (.lconst 0, 1) := by decide +kernel
theorem dX4_sumFor_74 : decode cX4_sumFor 74 = .ok (.lcmp, 1) := by decide +kernel
theorem dX4_sumFor_75 : decode cX4_sumFor 75 = .ok (.ifCond .eq 14, 3) := by decide +kernel
theorem dX4_sumFor_78 : decode cX4_sumFor 78 = .ok (.aload_n 0, 1) := by decide +kernel
theorem dX4_sumFor_79 : decode cX4_sumFor 79 = .ok (.aload_n 1, 1) := by decide +kernel
theorem dX4_sumFor_80 : decode cX4_sumFor 80 = .ok (.iload_n 2, 1) := by decide +kernel
theorem dX4_sumFor_81 : decode cX4_sumFor 81 = .ok (.iload 4, 2) := by decide +kernel
theorem dX4_sumFor_83 : decode cX4_sumFor 83 = .ok (.iload 5, 2) := by decide +kernel
theorem dX4_sumFor_85 : decode cX4_sumFor 85 = .ok (.invokevirtual 120, 3) := by decide +kernel
theorem dX4_sumFor_88 : decode cX4_sumFor 88 = .ok (.lreturn, 1) := by decide +kernel
theorem dX4_sumFor_89 : decode cX4_sumFor 89 = .ok (.iinc 3 1, 3) := by decide +kernel
theorem dX4_sumFor_92 : decode cX4_sumFor 92 = .ok (.goto (-90), 3) := by decide +kernel
theorem dX4_sumFor_95 : decode cX4_sumFor 95 = .ok (.lconst 0, 1) := by decide +kernel
theorem dX4_sumFor_96 : decode cX4_sumFor 96 = .ok (.lreturn, 1) := by decide +kernel
theorem vc_X4_120 : XVw RX4 120 4 3 8 yX4_worth cX4_worth (some .long) := ⟨RX4, TX4, tyX4, 7, xk_3, rfl, ⟨by decide, by decide⟩, by decide +kernel, wt_699, wt_701, ws_17, wt_6, wt_702⟩
noncomputable def bs_X4_sumFor : List (Nat × XB) := [
  (0, (sq (xC (.int 0)) (sq (xSI 3) (tGo 2 [true, true, true, true, false, false, false])))),
  (2, (sq (xLI 3) (sq (xLA 0) (sq (xGD 3 1 6) (sq (xGI 6 2) (tIf2 (fun x y => decide (y ≤ x)) 95 [false, false, false, false, false, false, false] 13 [true, true, true, true, false, false, false])))))),
  (13, (sq (xLA 0) (sq (xGD 3 1 6) (sq (xGS 6 27 0 0) (sq (xC (.int 3)) (sq (xLI 3) (sq (xI2 (· * ·)) (sq (xAId 27) (sq (xSI 4) (sq (xLA 0) (sq (xGD 3 1 6) (sq (xGS 6 27 0 0) (sq (xC (.int 3)) (sq (xLI 3) (sq (xI2 (· * ·)) (sq (xC (.int 1)) (sq (xI2 (· + ·)) (sq (xAId 27) (sq (xSI 5) (sq (xLA 0) (sq (xGD 3 1 6) (sq (xGS 6 27 0 0) (sq (xC (.int 3)) (sq (xLI 3) (sq (xI2 (· * ·)) (sq (xC (.int 2)) (sq (xI2 (· + ·)) (sq (xAId 27) (sq (xSI 6) (sq (xLI 5) (sq (xLI 6) (tIf2 (fun x y => decide (x = y)) 78 [true, true, true, false, true, true, false] 63 [true, true, true, true, true, true, true])))))))))))))))))))))))))))))))),
  (63, (sq (xLA 0) (sq (xLA 1) (sq (xLI 2) (sq (xLI 5) (sq (xLI 6) (sq (xCJ 3 5 F_X4_worth) (sq (xC (.long 0)) (sq (xJcmp) (tIf1 (fun x => decide (x = 0)) 89 [true, true, true, true, false, false, false] 78 [true, true, true, false, true, true, false])))))))))),
  (78, (sq (xLA 0) (sq (xLA 1) (sq (xLI 2) (sq (xLI 4) (sq (xLI 5) (sq (xCJ 3 5 F_X4_worth) tRJ))))))),
  (89, (sq (xInc 3 1) (tGo 2 [true, true, true, true, false, false, false]))),
  (95, (sq (xC (.long 0)) tRJ))]
set_option maxRecDepth 100000 in
set_option maxHeartbeats 4000000 in
theorem s_X4_sumFor : ∀ X : XCtx, XE X → X.2.2.1.1 = cX4_sumFor → X.2.2.1.2.1 = 7 → X.2.2.1.2.2.1 = yX4_sumFor.cls → X.2.2.1.2.2.2.1 = (some .long) → X.1.2.2.2.1 = { frames := 3, cells := 0, slots := 0, locals := 74 } → SndBs X bs_X4_sumFor := by
  rintro ⟨⟨p, l, e, R, s⟩, Y, ⟨cc, nL, own, ret, Ts⟩, Z⟩ hE h1 h2 h3 h4 h5
  dsimp only at h1 h2 h3 h4 h5
  subst h1 h2 h3 h4 h5
  exact ⟨(n_sq (n_iconst hE (by decide) dX4_sumFor_0) (n_sq (n_istore_n hE (show (3 : Nat) < 7 by decide) dX4_sumFor_1) n_fall)),
    (n_sq (n_iload_n hE dX4_sumFor_2) (n_sq (n_aload_n hE dX4_sumFor_3) (n_sq (n_getD hE xk_3 (k := 1) rfl (by decide) rfl wt_216 dX4_sumFor_4) (n_sq (n_getI hE xk_6 (k := 2) rfl (by decide) rfl wt_591 dX4_sumFor_7) (n_ifcge hE (by decide) dX4_sumFor_10))))),
    (n_sq (n_aload_n hE dX4_sumFor_13) (n_sq (n_getD hE xk_3 (k := 1) rfl (by decide) rfl wt_216 dX4_sumFor_14) (n_sq (n_getS hE xk_6 (k := 1) rfl (by decide) rfl wt_589 dX4_sumFor_17) (n_sq (n_iconst hE (by decide) dX4_sumFor_20) (n_sq (n_iload_n hE dX4_sumFor_21) (n_sq (n_imul hE dX4_sumFor_22) (n_sq (n_iald_d hE rfl dX4_sumFor_23) (n_sq (n_istore hE (show (4 : Nat) < 7 by decide) dX4_sumFor_24) (n_sq (n_aload_n hE dX4_sumFor_26) (n_sq (n_getD hE xk_3 (k := 1) rfl (by decide) rfl wt_216 dX4_sumFor_27) (n_sq (n_getS hE xk_6 (k := 1) rfl (by decide) rfl wt_589 dX4_sumFor_30) (n_sq (n_iconst hE (by decide) dX4_sumFor_33) (n_sq (n_iload_n hE dX4_sumFor_34) (n_sq (n_imul hE dX4_sumFor_35) (n_sq (n_iconst hE (by decide) dX4_sumFor_36) (n_sq (n_iadd hE dX4_sumFor_37) (n_sq (n_iald_d hE rfl dX4_sumFor_38) (n_sq (n_istore hE (show (5 : Nat) < 7 by decide) dX4_sumFor_39) (n_sq (n_aload_n hE dX4_sumFor_41) (n_sq (n_getD hE xk_3 (k := 1) rfl (by decide) rfl wt_216 dX4_sumFor_42) (n_sq (n_getS hE xk_6 (k := 1) rfl (by decide) rfl wt_589 dX4_sumFor_45) (n_sq (n_iconst hE (by decide) dX4_sumFor_48) (n_sq (n_iload_n hE dX4_sumFor_49) (n_sq (n_imul hE dX4_sumFor_50) (n_sq (n_iconst hE (by decide) dX4_sumFor_51) (n_sq (n_iadd hE dX4_sumFor_52) (n_sq (n_iald_d hE rfl dX4_sumFor_53) (n_sq (n_istore hE (show (6 : Nat) < 7 by decide) dX4_sumFor_54) (n_sq (n_iload hE dX4_sumFor_56) (n_sq (n_iload hE dX4_sumFor_58) (n_ifceq hE (by decide) dX4_sumFor_60))))))))))))))))))))))))))))))),
    (n_sq (n_aload_n hE dX4_sumFor_63) (n_sq (n_aload_n hE dX4_sumFor_64) (n_sq (n_iload_n hE dX4_sumFor_65) (n_sq (n_iload hE dX4_sumFor_66) (n_sq (n_iload hE dX4_sumFor_68) (n_sq (n_cJv hE m_X4_worth vc_X4_120 (show 2 + 1 ≤ 3 ∧ 8 + (8 + 11) + 47 ≤ 74 by decide) dX4_sumFor_70) (n_sq (n_lconst hE (by decide) dX4_sumFor_73) (n_sq (n_lcmp hE dX4_sumFor_74) (n_ifeq hE (by decide) dX4_sumFor_75))))))))),
    (n_sq (n_aload_n hE dX4_sumFor_78) (n_sq (n_aload_n hE dX4_sumFor_79) (n_sq (n_iload_n hE dX4_sumFor_80) (n_sq (n_iload hE dX4_sumFor_81) (n_sq (n_iload hE dX4_sumFor_83) (n_sq (n_cJv hE m_X4_worth vc_X4_120 (show 2 + 1 ≤ 3 ∧ 8 + (8 + 11) + 47 ≤ 74 by decide) dX4_sumFor_85) (n_lreturn hE rfl dX4_sumFor_88))))))),
    (n_sq (n_iinc hE (by decide) (show (3 : Nat) < 7 by decide) dX4_sumFor_89) (n_goto hE (by decide) dX4_sumFor_92)),
    (n_sq (n_lconst hE (by decide) dX4_sumFor_95) (n_lreturn hE rfl dX4_sumFor_96)), trivial⟩
noncomputable def F_X4_sumFor (as : List XV) (w : XW) : Option (Int64 × XW) := (xF 7 bs_X4_sumFor as w).bind pJ
theorem m_X4_sumFor : XM yX4_sumFor cX4_sumFor 7 (some .long) 3 74 (eJ F_X4_sumFor) := xm_J (xm_of (by decide) s_X4_sumFor)
noncomputable def q_X4_sumFor_0 (i1 : Nat) (x2 : Int32) (w : XW) : Option XR := ev bs_X4_sumFor 0 ([some (.inr (3, 0)), some (.inr (8, i1)), some (.inl (.int x2)), none, none, none, none], [], w)
noncomputable def q_X4_sumFor_2 (i1 : Nat) (x2 : Int32) (x3 : Int32) (w : XW) : Option XR := ev bs_X4_sumFor 2 ([some (.inr (3, 0)), some (.inr (8, i1)), some (.inl (.int x2)), some (.inl (.int x3)), none, none, none], [], w)
noncomputable def q_X4_sumFor_13 (i1 : Nat) (x2 : Int32) (x3 : Int32) (w : XW) : Option XR := ev bs_X4_sumFor 13 ([some (.inr (3, 0)), some (.inr (8, i1)), some (.inl (.int x2)), some (.inl (.int x3)), none, none, none], [], w)
noncomputable def q_X4_sumFor_63 (i1 : Nat) (x2 : Int32) (x3 : Int32) (x4 : Int32) (x5 : Int32) (x6 : Int32) (w : XW) : Option XR := ev bs_X4_sumFor 63 ([some (.inr (3, 0)), some (.inr (8, i1)), some (.inl (.int x2)), some (.inl (.int x3)), some (.inl (.int x4)), some (.inl (.int x5)), some (.inl (.int x6))], [], w)
noncomputable def q_X4_sumFor_78 (i1 : Nat) (x2 : Int32) (x4 : Int32) (x5 : Int32) (w : XW) : Option XR := ev bs_X4_sumFor 78 ([some (.inr (3, 0)), some (.inr (8, i1)), some (.inl (.int x2)), none, some (.inl (.int x4)), some (.inl (.int x5)), none], [], w)
noncomputable def q_X4_sumFor_89 (i1 : Nat) (x2 : Int32) (x3 : Int32) (w : XW) : Option XR := ev bs_X4_sumFor 89 ([some (.inr (3, 0)), some (.inr (8, i1)), some (.inl (.int x2)), some (.inl (.int x3)), none, none, none], [], w)
noncomputable def q_X4_sumFor_95 (w : XW) : Option XR := ev bs_X4_sumFor 95 ([none, none, none, none, none, none, none], [], w)
theorem e_X4_sumFor_0 (i1 : Nat) (x2 : Int32) (w : XW) : q_X4_sumFor_0 i1 x2 w = (q_X4_sumFor_2 i1 x2 0 w) := (ev_eq _ _ _).trans rfl
theorem e_X4_sumFor_2 (i1 : Nat) (x2 : Int32) (x3 : Int32) (w : XW) : q_X4_sumFor_2 i1 x2 x3 w = ((gR w 3 0 1).bind fun j0 => (bif decide ((gI w 6 j0 2) ≤ x3) then (q_X4_sumFor_95 w) else (q_X4_sumFor_13 i1 x2 x3 w))) := (ev_eq _ _ _).trans rfl
theorem e_X4_sumFor_13 (i1 : Nat) (x2 : Int32) (x3 : Int32) (w : XW) : q_X4_sumFor_13 i1 x2 x3 w = ((gR w 3 0 1).bind fun j0 => (if (3 * x3) < 0 ∨ (gZ w 27 j0) ≤ (3 * x3).toNatClampNeg then none else ((gR w 3 0 1).bind fun j1 => (if ((3 * x3) + 1) < 0 ∨ (gZ w 27 j1) ≤ ((3 * x3) + 1).toNatClampNeg then none else ((gR w 3 0 1).bind fun j2 => (if ((3 * x3) + 2) < 0 ∨ (gZ w 27 j2) ≤ ((3 * x3) + 2).toNatClampNeg then none else (bif decide ((gI w 27 j1 ((3 * x3) + 1).toNatClampNeg) = (gI w 27 j2 ((3 * x3) + 2).toNatClampNeg)) then (q_X4_sumFor_78 i1 x2 (gI w 27 j0 (3 * x3).toNatClampNeg) (gI w 27 j1 ((3 * x3) + 1).toNatClampNeg) w) else (q_X4_sumFor_63 i1 x2 x3 (gI w 27 j0 (3 * x3).toNatClampNeg) (gI w 27 j1 ((3 * x3) + 1).toNatClampNeg) (gI w 27 j2 ((3 * x3) + 2).toNatClampNeg) w)))))))) := (ev_eq _ _ _).trans rfl
theorem e_X4_sumFor_63 (i1 : Nat) (x2 : Int32) (x3 : Int32) (x4 : Int32) (x5 : Int32) (x6 : Int32) (w : XW) : q_X4_sumFor_63 i1 x2 x3 x4 x5 x6 w = ((F_X4_worth [.inr (3, 0), .inr (8, i1), .inl (.int x2), .inl (.int x5), .inl (.int x6)] w).bind fun r0 => (bif decide ((lg_cmp r0.1 0) = 0) then (q_X4_sumFor_89 i1 x2 x3 r0.2) else (q_X4_sumFor_78 i1 x2 x4 x5 r0.2))) := (ev_eq _ _ _).trans rfl
theorem e_X4_sumFor_78 (i1 : Nat) (x2 : Int32) (x4 : Int32) (x5 : Int32) (w : XW) : q_X4_sumFor_78 i1 x2 x4 x5 w = ((F_X4_worth [.inr (3, 0), .inr (8, i1), .inl (.int x2), .inl (.int x4), .inl (.int x5)] w).bind fun r0 => (some (some (.inl (.long r0.1)), r0.2))) := (ev_eq _ _ _).trans rfl
theorem e_X4_sumFor_89 (i1 : Nat) (x2 : Int32) (x3 : Int32) (w : XW) : q_X4_sumFor_89 i1 x2 x3 w = (q_X4_sumFor_2 i1 x2 (x3 + 1) w) := (ev_eq _ _ _).trans rfl
theorem e_X4_sumFor_95 (w : XW) : q_X4_sumFor_95 w = (some (some (.inl (.long 0)), w)) := (ev_eq _ _ _).trans rfl
theorem f_X4_sumFor (i1 : Nat) (x2 : Int32) (w : XW) : F_X4_sumFor [.inr (3, 0), .inr (8, i1), .inl (.int x2)] w = (q_X4_sumFor_0 i1 x2 w).bind pJ := rfl
