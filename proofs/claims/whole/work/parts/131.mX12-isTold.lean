-- WinterKeepModel.isTold(I)Z
theorem dX12_isTold_0 : decode cX12_isTold 0 = .ok (.aload_n 0, 1) := by decide +kernel
theorem dX12_isTold_1 : decode cX12_isTold 1 = .ok (.getfield 42, 3) := by decide +kernel
theorem dX12_isTold_4 : decode cX12_isTold 4 = .ok (.ifCond .ge 5, 3) := by decide +kernel
theorem dX12_isTold_7 : decode cX12_isTold 7 = .ok (.iconst 1, 1) := by decide +kernel
theorem dX12_isTold_8 : decode cX12_isTold 8 = .ok (.ireturn, 1) := by decide +kernel
theorem dX12_isTold_9 : decode cX12_isTold 9 = .ok (.aload_n 0, 1) := by decide +kernel
theorem dX12_isTold_10 : decode cX12_isTold 10 = .ok (.getfield 39, 3) := by decide +kernel
theorem dX12_isTold_13 : decode cX12_isTold 13 = .ok (.bipush 47, 2) := by decide +kernel
theorem dX12_isTold_15 : decode cX12_isTold 15 = .ok (.iload_n 1, 1) := by decide +kernel
theorem dX12_isTold_16 : decode cX12_isTold 16 = .ok (.iadd, 1) := by decide +kernel
theorem dX12_isTold_17 : decode cX12_isTold 17 = .ok (.iaload, 1) := by decide +kernel
theorem dX12_isTold_18 : decode cX12_isTold 18 = .ok (.istore_n 2, 1) := by decide +kernel
theorem dX12_isTold_19 : decode cX12_isTold 19 = .ok (.iconst 0, 1) := by decide +kernel
theorem dX12_isTold_20 : decode cX12_isTold 20 = .ok (.istore_n 3, 1) := by decide +kernel
theorem dX12_isTold_21 : decode cX12_isTold 21 = .ok (.iconst 0, 1) := by decide +kernel
theorem dX12_isTold_22 : decode cX12_isTold 22 = .ok (.istore 4, 2) := by decide +kernel
theorem dX12_isTold_24 : decode cX12_isTold 24 = .ok (.iload 4, 2) := by decide +kernel
theorem dX12_isTold_26 : decode cX12_isTold 26 = .ok (.aload_n 0, 1) := by decide +kernel
theorem dX12_isTold_27 : decode cX12_isTold 27 = .ok (.getfield 39, 3) := by decide +kernel
theorem dX12_isTold_30 : decode cX12_isTold 30 = .ok (.iconst 4, 1) := by decide +kernel
theorem dX12_isTold_31 : decode cX12_isTold 31 = .ok (.iaload, 1) := by decide +kernel
theorem dX12_isTold_32 : decode cX12_isTold 32 = .ok (.if_icmp .ge 37, 3) := by decide +kernel
theorem dX12_isTold_35 : decode cX12_isTold 35 = .ok (.iload_n 3, 1) := by decide +kernel
theorem dX12_isTold_36 : decode cX12_isTold 36 = .ok (.iload 4, 2) := by decide +kernel
theorem dX12_isTold_38 : decode cX12_isTold 38 = .ok (.iload_n 1, 1) := by decide +kernel
theorem dX12_isTold_39 : decode cX12_isTold 39 = .ok (.if_icmp .eq 21, 3) := by decide +kernel
theorem dX12_isTold_42 : decode cX12_isTold 42 = .ok (.aload_n 0, 1) := by decide +kernel
theorem dX12_isTold_43 : decode cX12_isTold 43 = .ok (.getfield 39, 3) := by decide +kernel
theorem dX12_isTold_46 : decode cX12_isTold 46 = .ok (.bipush 47, 2) := by decide +kernel
theorem dX12_isTold_48 : decode cX12_isTold 48 = .ok (.iload 4, 2) := by decide +kernel
theorem dX12_isTold_50 : decode cX12_isTold 50 = .ok (.iadd, 1) := by decide +kernel
theorem dX12_isTold_51 : decode cX12_isTold 51 = .ok (.iaload, 1) := by decide +kernel
theorem dX12_isTold_52 : decode cX12_isTold 52 = .ok (.iload_n 2, 1) := by decide +kernel
theorem dX12_isTold_53 : decode cX12_isTold 53 = .ok (.if_icmp .ne 7, 3) := by decide +kernel
theorem dX12_isTold_56 : decode cX12_isTold 56 = .ok (.iconst 1, 1) := by decide +kernel
theorem dX12_isTold_57 : decode cX12_isTold 57 = .ok (.goto 4, 3) := by decide +kernel
theorem dX12_isTold_60 : decode cX12_isTold 60 = .ok (.iconst 0, 1) := by decide +kernel
theorem dX12_isTold_61 : decode cX12_isTold 61 = .ok (.iadd, 1) := by decide +kernel
theorem dX12_isTold_62 : decode cX12_isTold 62 = .ok (.istore_n 3, 1) := by decide +kernel
theorem dX12_isTold_63 : decode cX12_isTold 63 = .ok (.iinc 4 1, 3) := by decide +kernel
theorem dX12_isTold_66 : decode cX12_isTold 66 = .ok (.goto (-42), 3) := by decide +kernel
theorem dX12_isTold_69 : decode cX12_isTold 69 = .ok (.aload_n 0, 1) := by decide +kernel
theorem dX12_isTold_70 : decode cX12_isTold 70 = .ok (.getfield 36, 3) := by decide +kernel
theorem dX12_isTold_73 : decode cX12_isTold 73 = .ok (.iconst 0, 1) := by decide +kernel
theorem dX12_isTold_74 : decode cX12_isTold 74 = .ok (.iload_n 1, 1) := by decide +kernel
theorem dX12_isTold_75 : decode cX12_isTold 75 = .ok (.i2l, 1) := by decide +kernel
theorem dX12_isTold_76 : decode cX12_isTold 76 = .ok (.lastore, 1) := by decide +kernel
theorem dX12_isTold_77 : decode cX12_isTold 77 = .ok (.aload_n 0, 1) := by decide +kernel
theorem dX12_isTold_78 : decode cX12_isTold 78 = .ok (.getfield 36, 3) := by decide +kernel
theorem dX12_isTold_81 : decode cX12_isTold 81 = .ok (.iconst 1, 1) := by decide +kernel
theorem dX12_isTold_82 : decode cX12_isTold 82 = .ok (.iload_n 2, 1) := by decide +kernel
theorem dX12_isTold_83 : decode cX12_isTold 83 = .ok (.i2l, 1) := by decide +kernel
theorem dX12_isTold_84 : decode cX12_isTold 84 = .ok (.lastore, 1) := by decide +kernel
theorem dX12_isTold_85 : decode cX12_isTold 85 = .ok (.aload_n 0, 1) := by decide +kernel
theorem dX12_isTold_86 : decode cX12_isTold 86 = .ok (.getfield 36, 3) := by decide +kernel
theorem dX12_isTold_89 : decode cX12_isTold 89 = .ok (.iconst 2, 1) := by decide +kernel
theorem dX12_isTold_90 : decode cX12_isTold 90 = .ok (.aload_n 0, 1) := by decide +kernel
theorem dX12_isTold_91 : decode cX12_isTold 91 = .ok (.getfield 39, 3) := by decide +kernel
theorem dX12_isTold_94 : decode cX12_isTold 94 = .ok (.bipush 52, 2) := by decide +kernel
theorem dX12_isTold_96 : decode cX12_isTold 96 = .ok (.iload_n 1, 1) := by decide +kernel
theorem dX12_isTold_97 : decode cX12_isTold 97 = .ok (.iadd, 1) := by decide +kernel
theorem dX12_isTold_98 : decode cX12_isTold 98 = .ok (.iaload, 1) := by decide +kernel
theorem dX12_isTold_99 : decode cX12_isTold 99 = .ok (.i2l, 1) := by decide +kernel
theorem dX12_isTold_100 : decode cX12_isTold 100 = .ok (.lastore, 1) := by decide +kernel
theorem dX12_isTold_101 : decode cX12_isTold 101 = .ok (.aload_n 0, 1) := by decide +kernel
theorem dX12_isTold_102 : decode cX12_isTold 102 = .ok (.getfield 36, 3) := by decide +kernel
theorem dX12_isTold_105 : decode cX12_isTold 105 = .ok (.iconst 3, 1) := by decide +kernel
theorem dX12_isTold_106 : decode cX12_isTold 106 = .ok (.aload_n 0, 1) := by decide +kernel
theorem dX12_isTold_107 : decode cX12_isTold 107 = .ok (.iload_n 2, 1) := by decide +kernel
theorem dX12_isTold_108 : decode cX12_isTold 108 = .ok (.invokevirtual 304, 3) := by decide +kernel
theorem dX12_isTold_111 : decode cX12_isTold 111 = .ok (.i2l, 1) := by decide +kernel
theorem dX12_isTold_112 : decode cX12_isTold 112 = .ok (.lastore, 1) := by decide +kernel
theorem dX12_isTold_113 : decode cX12_isTold 113 = .ok (.aload_n 0, 1) := by decide +kernel
theorem dX12_isTold_114 : decode cX12_isTold 114 = .ok (.getfield 36, 3) := by decide +kernel
theorem dX12_isTold_117 : decode cX12_isTold 117 = .ok (.iconst 4, 1) := by decide +kernel
theorem dX12_isTold_118 : decode cX12_isTold 118 = .ok (.aload_n 0, 1) := by decide +kernel
theorem dX12_isTold_119 : decode cX12_isTold 119 = .ok (.getfield 39, 3) := by decide +kernel
theorem dX12_isTold_122 : decode cX12_isTold 122 = .ok (.bipush 35, 2) := by decide +kernel
theorem dX12_isTold_124 : decode cX12_isTold 124 = .ok (.iload_n 2, 1) := by decide +kernel
theorem dX12_isTold_125 : decode cX12_isTold 125 = .ok (.iadd, 1) := by decide +kernel
theorem dX12_isTold_126 : decode cX12_isTold 126 = .ok (.iaload, 1) := by decide +kernel
theorem dX12_isTold_127 : decode cX12_isTold 127 = .ok (.i2l, 1) := by decide +kernel
theorem dX12_isTold_128 : decode cX12_isTold 128 = .ok (.lastore, 1) := by decide +kernel
theorem dX12_isTold_129 : decode cX12_isTold 129 = .ok (.aload_n 0, 1) := by decide +kernel
theorem dX12_isTold_130 : decode cX12_isTold 130 = .ok (.getfield 36, 3) := by decide +kernel
theorem dX12_isTold_133 : decode cX12_isTold 133 = .ok (.iconst 5, 1) := by decide +kernel
theorem dX12_isTold_134 : decode cX12_isTold 134 = .ok (.aload_n 0, 1) := by decide +kernel
theorem dX12_isTold_135 : decode cX12_isTold 135 = .ok (.iload_n 2, 1) := by decide +kernel
theorem dX12_isTold_136 : decode cX12_isTold 136 = .ok (.invokevirtual 314, 3) := by decide +kernel
theorem dX12_isTold_139 : decode cX12_isTold 139 = .ok (.i2l, 1) := by decide +kernel
theorem dX12_isTold_140 : decode cX12_isTold 140 = .ok (.lastore, 1) := by decide +kernel
theorem dX12_isTold_141 : decode cX12_isTold 141 = .ok (.aload_n 0, 1) := by decide +kernel
theorem dX12_isTold_142 : decode cX12_isTold 142 = .ok (.getfield 36, 3) := by decide +kernel
theorem dX12_isTold_145 : decode cX12_isTold 145 = .ok (.bipush 6, 2) := by decide +kernel
theorem dX12_isTold_147 : decode cX12_isTold 147 = .ok (.aload_n 0, 1) := by decide +kernel
theorem dX12_isTold_148 : decode cX12_isTold 148 = .ok (.getfield 39, 3) := by decide +kernel
theorem dX12_isTold_151 : decode cX12_isTold 151 = .ok (.bipush 41, 2) := by decide +kernel
theorem dX12_isTold_153 : decode cX12_isTold 153 = .ok (.iload_n 2, 1) := by decide +kernel
theorem dX12_isTold_154 : decode cX12_isTold 154 = .ok (.iadd, 1) := by decide +kernel
theorem dX12_isTold_155 : decode cX12_isTold 155 = .ok (.iaload, 1) := by decide +kernel
theorem dX12_isTold_156 : decode cX12_isTold 156 = .ok (.i2l, 1) := by decide +kernel
theorem dX12_isTold_157 : decode cX12_isTold 157 = .ok (.lastore, 1) := by decide +kernel
theorem dX12_isTold_158 : decode cX12_isTold 158 = .ok (.aload_n 0, 1) := by decide +kernel
theorem dX12_isTold_159 : decode cX12_isTold 159 = .ok (.getfield 36, 3) := by decide +kernel
theorem dX12_isTold_162 : decode cX12_isTold 162 = .ok (.bipush 7, 2) := by decide +kernel
theorem dX12_isTold_164 : decode cX12_isTold 164 = .ok (.aload_n 0, 1) := by decide +kernel
theorem dX12_isTold_165 : decode cX12_isTold 165 = .ok (.iload_n 2, 1) := by decide +kernel
theorem dX12_isTold_166 : decode cX12_isTold 166 = .ok (.invokevirtual 317, 3) := by decide +kernel
theorem dX12_isTold_169 : decode cX12_isTold 169 = .ok (.aload_n 0, 1) := by decide +kernel
theorem dX12_isTold_170 : decode cX12_isTold 170 = .ok (.iconst (-1), 1) := by decide +kernel
theorem dX12_isTold_171 : decode cX12_isTold 171 = .ok (.invokevirtual 335, 3) := by decide +kernel
theorem dX12_isTold_174 : decode cX12_isTold 174 = .ok (.iand, 1) := by decide +kernel
theorem dX12_isTold_175 : decode cX12_isTold 175 = .ok (.invokestatic 338, 3) := by decide +kernel
theorem dX12_isTold_178 : decode cX12_isTold 178 = .ok (.i2l, 1) := by decide +kernel
theorem dX12_isTold_179 : decode cX12_isTold 179 = .ok (.lastore, 1) := by decide +kernel
theorem dX12_isTold_180 : decode cX12_isTold 180 = .ok (.aload_n 0, 1) := by decide +kernel
theorem dX12_isTold_181 : decode cX12_isTold 181 = .ok (.getfield 36, 3) := by decide +kernel
theorem dX12_isTold_184 : decode cX12_isTold 184 = .ok (.bipush 8, 2) := by decide +kernel
theorem dX12_isTold_186 : decode cX12_isTold 186 = .ok (.iload_n 3, 1) := by decide +kernel
theorem dX12_isTold_187 : decode cX12_isTold 187 = .ok (.i2l, 1) := by decide +kernel
theorem dX12_isTold_188 : decode cX12_isTold 188 = .ok (.lastore, 1) := by decide +kernel
theorem dX12_isTold_189 : decode cX12_isTold 189 = .ok (.aload_n 0, 1) := by decide +kernel
theorem dX12_isTold_190 : decode cX12_isTold 190 = .ok (.getfield 36, 3) := by decide +kernel
theorem dX12_isTold_193 : decode cX12_isTold 193 = .ok (.bipush 9, 2) := by decide +kernel
theorem dX12_isTold_195 : decode cX12_isTold 195 = .ok (.aload_n 0, 1) := by decide +kernel
theorem dX12_isTold_196 : decode cX12_isTold 196 = .ok (.bipush (-2), 2) := by decide +kernel
theorem dX12_isTold_198 : decode cX12_isTold 198 = .ok (.invokevirtual 335, 3) := by decide +kernel
theorem dX12_isTold_201 : decode cX12_isTold 201 = .ok (.invokestatic 338, 3) := by decide +kernel
theorem dX12_isTold_204 : decode cX12_isTold 204 = .ok (.i2l, 1) := by decide +kernel
theorem dX12_isTold_205 : decode cX12_isTold 205 = .ok (.lastore, 1) := by decide +kernel
theorem dX12_isTold_206 : decode cX12_isTold 206 = .ok (.aload_n 0, 1) := by decide +kernel
theorem dX12_isTold_207 : decode cX12_isTold 207 = .ok (.getfield 36, 3) := by decide +kernel
theorem dX12_isTold_210 : decode cX12_isTold 210 = .ok (.bipush 10, 2) := by decide +kernel
theorem dX12_isTold_212 : decode cX12_isTold 212 = .ok (.aload_n 0, 1) := by decide +kernel
theorem dX12_isTold_213 : decode cX12_isTold 213 = .ok (.getfield 39, 3) := by decide +kernel
theorem dX12_isTold_216 : decode cX12_isTold 216 = .ok (.bipush 10, 2) := by decide +kernel
theorem dX12_isTold_218 : decode cX12_isTold 218 = .ok (.iaload, 1) := by decide +kernel
theorem dX12_isTold_219 : decode cX12_isTold 219 = .ok (.i2l, 1) := by decide +kernel
theorem dX12_isTold_220 : decode cX12_isTold 220 = .ok (.lastore, 1) := by decide +kernel
theorem dX12_isTold_221 : decode cX12_isTold 221 = .ok (.aload_n 0, 1) := by decide +kernel
theorem dX12_isTold_222 : decode cX12_isTold 222 = .ok (.aload_n 0, 1) := by decide +kernel
theorem dX12_isTold_223 : decode cX12_isTold 223 = .ok (.getfield 42, 3) := by decide +kernel
theorem dX12_isTold_226 : decode cX12_isTold 226 = .ok (.invokevirtual 341, 3) := by decide +kernel
theorem dX12_isTold_229 : decode cX12_isTold 229 = .ok (.lconst 0, 1) := by decide +kernel
theorem dX12_isTold_230 : decode cX12_isTold 230 = .ok (.lcmp, 1) := by decide +kernel
theorem dX12_isTold_231 : decode cX12_isTold 231 = .ok (.ifCond .le 7, 3) := by decide +kernel
theorem dX12_isTold_234 : decode cX12_isTold 234 = .ok (.iconst 1, 1) := by decide +kernel
theorem dX12_isTold_235 : decode cX12_isTold 235 = .ok (.goto 4, 3) := by decide +kernel
theorem dX12_isTold_238 : decode cX12_isTold 238 = .ok (.iconst 0, 1) := by decide +kernel
theorem dX12_isTold_239 : decode cX12_isTold 239 = .ok (.ireturn, 1) := by decide +kernel
theorem vc_X12_335 : XVw RX12 335 1 11 4 yX12_onesThat cX12_onesThat (some .int) := ⟨RX12, TX12, tyX12, 43, xk_11, rfl, ⟨by decide, by decide⟩, by decide +kernel, wt_1353, wt_1355, ws_87, wt_11, wt_1356⟩
theorem vc_X12_338 : XSw RX12 338 1 3 yX12_bits cX12_bits (some .int) := ⟨⟨by decide, by decide⟩, by decide +kernel, wt_1357, wt_1358, wt_11, wt_1359⟩
theorem vc_X12_341 : XVw RX12 341 1 11 4 yX12_summedBy cX12_summedBy (some .long) := ⟨RX12, TX12, tyX12, 43, xk_11, rfl, ⟨by decide, by decide⟩, by decide +kernel, wt_1360, wt_1362, ws_88, wt_11, wt_1363⟩
noncomputable def bs_X12_isTold : List (Nat × XB) := [
  (0, (sq (xLA 0) (sq (xGI 11 21) (tIf1 (fun x => decide (0 ≤ x)) 9 [true, true, false, false, false] 7 [false, false, false, false, false])))),
  (7, (sq (xC (.int 1)) tRZ)),
  (9, (sq (xLA 0) (sq (xGS 11 50 1 0) (sq (xC (.int 47)) (sq (xLI 1) (sq (xI2 (· + ·)) (sq (xAI 50 98) (sq (xSI 2) (sq (xC (.int 0)) (sq (xSI 3) (sq (xC (.int 0)) (sq (xSI 4) (tGo 24 [true, true, true, true, true]))))))))))))),
  (24, (sq (xLI 4) (sq (xLA 0) (sq (xGS 11 50 1 0) (sq (xC (.int 4)) (sq (xAI 50 98) (tIf2 (fun x y => decide (y ≤ x)) 69 [true, true, true, true, false] 35 [true, true, true, true, true]))))))),
  (35, (sq (xLI 3) (sq (xLI 4) (sq (xLI 1) (tIf2 (fun x y => decide (x = y)) 60 [true, true, true, false, true] 42 [true, true, true, false, true]))))),
  (42, (sq (xLA 0) (sq (xGS 11 50 1 0) (sq (xC (.int 47)) (sq (xLI 4) (sq (xI2 (· + ·)) (sq (xAI 50 98) (sq (xLI 2) (tIf2 (fun x y => decide (¬ x = y)) 60 [true, true, true, false, true] 56 [true, true, true, false, true]))))))))),
  (56, (sq (xC (.int 1)) (tGo 61 [true, true, true, false, true]))),
  (60, (sq (xC (.int 0)) (tGo 61 [true, true, true, false, true]))),
  (61, (sq (xI2 (· + ·)) (sq (xSI 3) (sq (xInc 4 1) (tGo 24 [true, true, true, true, true]))))),
  (69, (sq (xLA 0) (sq (xGS 11 49 1 0) (sq (xC (.int 0)) (sq (xLI 1) (sq (xI2L) (sq (xTJ 49 11) (sq (xLA 0) (sq (xGS 11 49 1 0) (sq (xC (.int 1)) (sq (xLI 2) (sq (xI2L) (sq (xTJ 49 11) (sq (xLA 0) (sq (xGS 11 49 1 0) (sq (xC (.int 2)) (sq (xLA 0) (sq (xGS 11 50 1 0) (sq (xC (.int 52)) (sq (xLI 1) (sq (xI2 (· + ·)) (sq (xAI 50 98) (sq (xI2L) (sq (xTJ 49 11) (sq (xLA 0) (sq (xGS 11 49 1 0) (sq (xC (.int 3)) (sq (xLA 0) (sq (xLI 2) (sq (xCI 11 2 F_X12_fullOf) (sq (xI2L) (sq (xTJ 49 11) (sq (xLA 0) (sq (xGS 11 49 1 0) (sq (xC (.int 4)) (sq (xLA 0) (sq (xGS 11 50 1 0) (sq (xC (.int 35)) (sq (xLI 2) (sq (xI2 (· + ·)) (sq (xAI 50 98) (sq (xI2L) (sq (xTJ 49 11) (sq (xLA 0) (sq (xGS 11 49 1 0) (sq (xC (.int 5)) (sq (xLA 0) (sq (xLI 2) (sq (xCI 11 2 F_X12_heatOf) (sq (xI2L) (sq (xTJ 49 11) (sq (xLA 0) (sq (xGS 11 49 1 0) (sq (xC (.int 6)) (sq (xLA 0) (sq (xGS 11 50 1 0) (sq (xC (.int 41)) (sq (xLI 2) (sq (xI2 (· + ·)) (sq (xAI 50 98) (sq (xI2L) (sq (xTJ 49 11) (sq (xLA 0) (sq (xGS 11 49 1 0) (sq (xC (.int 7)) (sq (xLA 0) (sq (xLI 2) (sq (xCI 11 2 F_X12_besideOf) (sq (xLA 0) (sq (xC (.int (-1))) (sq (xCI 11 2 F_X12_onesThat) (sq (xI2 (· &&& ·)) (sq (xCI 99 1 F_X12_bits) (sq (xI2L) (sq (xTJ 49 11) (sq (xLA 0) (sq (xGS 11 49 1 0) (sq (xC (.int 8)) (sq (xLI 3) (sq (xI2L) (sq (xTJ 49 11) (sq (xLA 0) (sq (xGS 11 49 1 0) (sq (xC (.int 9)) (sq (xLA 0) (sq (xC (.int (-2))) (sq (xCI 11 2 F_X12_onesThat) (sq (xCI 99 1 F_X12_bits) (sq (xI2L) (sq (xTJ 49 11) (sq (xLA 0) (sq (xGS 11 49 1 0) (sq (xC (.int 10)) (sq (xLA 0) (sq (xGS 11 50 1 0) (sq (xC (.int 10)) (sq (xAI 50 98) (sq (xI2L) (sq (xTJ 49 11) (sq (xLA 0) (sq (xLA 0) (sq (xGI 11 21) (sq (xCJ 11 2 F_X12_summedBy) (sq (xC (.long 0)) (sq (xJcmp) (tIf1 (fun x => decide (x ≤ 0)) 238 [false, false, false, false, false] 234 [false, false, false, false, false])))))))))))))))))))))))))))))))))))))))))))))))))))))))))))))))))))))))))))))))))))))))))))))))))))))))))),
  (234, (sq (xC (.int 1)) (tGo 239 [false, false, false, false, false]))),
  (238, (sq (xC (.int 0)) (tGo 239 [false, false, false, false, false]))),
  (239, tRZ)]
set_option maxRecDepth 100000 in
set_option maxHeartbeats 4000000 in
theorem s_X12_isTold : ∀ X : XCtx, XE X → X.2.2.1.1 = cX12_isTold → X.2.2.1.2.1 = 5 → X.2.2.1.2.2.1 = yX12_isTold.cls → X.2.2.1.2.2.2.1 = (some .boolean) → X.1.2.2.2.1 = { frames := 3, cells := 0, slots := 0, locals := 77 } → SndBs X bs_X12_isTold := by
  rintro ⟨⟨p, l, e, R, s⟩, Y, ⟨cc, nL, own, ret, Ts⟩, Z⟩ hE h1 h2 h3 h4 h5
  dsimp only at h1 h2 h3 h4 h5
  subst h1 h2 h3 h4 h5
  exact ⟨(n_sq (n_aload_n hE dX12_isTold_0) (n_sq (n_getI hE xk_11 (k := 21) rfl (by decide) rfl wt_981 dX12_isTold_1) (n_ifge hE (by decide) dX12_isTold_4))),
    (n_sq (n_iconst hE (by decide) dX12_isTold_7) (n_zreturn hE rfl dX12_isTold_8)),
    (n_sq (n_aload_n hE dX12_isTold_9) (n_sq (n_getS hE xk_11 (k := 20) rfl (by decide) rfl wt_980 dX12_isTold_10) (n_sq (n_bipush hE (by decide) dX12_isTold_13) (n_sq (n_iload_n hE dX12_isTold_15) (n_sq (n_iadd hE dX12_isTold_16) (n_sq (n_iald hE rfl (by decide) dX12_isTold_17) (n_sq (n_istore_n hE (show (2 : Nat) < 5 by decide) dX12_isTold_18) (n_sq (n_iconst hE (by decide) dX12_isTold_19) (n_sq (n_istore_n hE (show (3 : Nat) < 5 by decide) dX12_isTold_20) (n_sq (n_iconst hE (by decide) dX12_isTold_21) (n_sq (n_istore hE (show (4 : Nat) < 5 by decide) dX12_isTold_22) n_fall))))))))))),
    (n_sq (n_iload hE dX12_isTold_24) (n_sq (n_aload_n hE dX12_isTold_26) (n_sq (n_getS hE xk_11 (k := 20) rfl (by decide) rfl wt_980 dX12_isTold_27) (n_sq (n_iconst hE (by decide) dX12_isTold_30) (n_sq (n_iald hE rfl (by decide) dX12_isTold_31) (n_ifcge hE (by decide) dX12_isTold_32)))))),
    (n_sq (n_iload_n hE dX12_isTold_35) (n_sq (n_iload hE dX12_isTold_36) (n_sq (n_iload_n hE dX12_isTold_38) (n_ifceq hE (by decide) dX12_isTold_39)))),
    (n_sq (n_aload_n hE dX12_isTold_42) (n_sq (n_getS hE xk_11 (k := 20) rfl (by decide) rfl wt_980 dX12_isTold_43) (n_sq (n_bipush hE (by decide) dX12_isTold_46) (n_sq (n_iload hE dX12_isTold_48) (n_sq (n_iadd hE dX12_isTold_50) (n_sq (n_iald hE rfl (by decide) dX12_isTold_51) (n_sq (n_iload_n hE dX12_isTold_52) (n_ifcne hE (by decide) dX12_isTold_53)))))))),
    (n_sq (n_iconst hE (by decide) dX12_isTold_56) (n_goto hE (by decide) dX12_isTold_57)),
    (n_sq (n_iconst hE (by decide) dX12_isTold_60) n_fall),
    (n_sq (n_iadd hE dX12_isTold_61) (n_sq (n_istore_n hE (show (3 : Nat) < 5 by decide) dX12_isTold_62) (n_sq (n_iinc hE (by decide) (show (4 : Nat) < 5 by decide) dX12_isTold_63) (n_goto hE (by decide) dX12_isTold_66)))),
    (n_sq (n_aload_n hE dX12_isTold_69) (n_sq (n_getS hE xk_11 (k := 19) rfl (by decide) rfl wt_979 dX12_isTold_70) (n_sq (n_iconst hE (by decide) dX12_isTold_73) (n_sq (n_iload_n hE dX12_isTold_74) (n_sq (n_i2l hE dX12_isTold_75) (n_sq (n_last hE rfl (by decide) dX12_isTold_76) (n_sq (n_aload_n hE dX12_isTold_77) (n_sq (n_getS hE xk_11 (k := 19) rfl (by decide) rfl wt_979 dX12_isTold_78) (n_sq (n_iconst hE (by decide) dX12_isTold_81) (n_sq (n_iload_n hE dX12_isTold_82) (n_sq (n_i2l hE dX12_isTold_83) (n_sq (n_last hE rfl (by decide) dX12_isTold_84) (n_sq (n_aload_n hE dX12_isTold_85) (n_sq (n_getS hE xk_11 (k := 19) rfl (by decide) rfl wt_979 dX12_isTold_86) (n_sq (n_iconst hE (by decide) dX12_isTold_89) (n_sq (n_aload_n hE dX12_isTold_90) (n_sq (n_getS hE xk_11 (k := 20) rfl (by decide) rfl wt_980 dX12_isTold_91) (n_sq (n_bipush hE (by decide) dX12_isTold_94) (n_sq (n_iload_n hE dX12_isTold_96) (n_sq (n_iadd hE dX12_isTold_97) (n_sq (n_iald hE rfl (by decide) dX12_isTold_98) (n_sq (n_i2l hE dX12_isTold_99) (n_sq (n_last hE rfl (by decide) dX12_isTold_100) (n_sq (n_aload_n hE dX12_isTold_101) (n_sq (n_getS hE xk_11 (k := 19) rfl (by decide) rfl wt_979 dX12_isTold_102) (n_sq (n_iconst hE (by decide) dX12_isTold_105) (n_sq (n_aload_n hE dX12_isTold_106) (n_sq (n_iload_n hE dX12_isTold_107) (n_sq (n_cIv hE m_X12_fullOf vc_X12_304 (show 0 + 1 ≤ 3 ∧ 8 + (2 + 11) + 0 ≤ 77 by decide) dX12_isTold_108) (n_sq (n_i2l hE dX12_isTold_111) (n_sq (n_last hE rfl (by decide) dX12_isTold_112) (n_sq (n_aload_n hE dX12_isTold_113) (n_sq (n_getS hE xk_11 (k := 19) rfl (by decide) rfl wt_979 dX12_isTold_114) (n_sq (n_iconst hE (by decide) dX12_isTold_117) (n_sq (n_aload_n hE dX12_isTold_118) (n_sq (n_getS hE xk_11 (k := 20) rfl (by decide) rfl wt_980 dX12_isTold_119) (n_sq (n_bipush hE (by decide) dX12_isTold_122) (n_sq (n_iload_n hE dX12_isTold_124) (n_sq (n_iadd hE dX12_isTold_125) (n_sq (n_iald hE rfl (by decide) dX12_isTold_126) (n_sq (n_i2l hE dX12_isTold_127) (n_sq (n_last hE rfl (by decide) dX12_isTold_128) (n_sq (n_aload_n hE dX12_isTold_129) (n_sq (n_getS hE xk_11 (k := 19) rfl (by decide) rfl wt_979 dX12_isTold_130) (n_sq (n_iconst hE (by decide) dX12_isTold_133) (n_sq (n_aload_n hE dX12_isTold_134) (n_sq (n_iload_n hE dX12_isTold_135) (n_sq (n_cIv hE m_X12_heatOf vc_X12_314 (show 0 + 1 ≤ 3 ∧ 8 + (2 + 11) + 0 ≤ 77 by decide) dX12_isTold_136) (n_sq (n_i2l hE dX12_isTold_139) (n_sq (n_last hE rfl (by decide) dX12_isTold_140) (n_sq (n_aload_n hE dX12_isTold_141) (n_sq (n_getS hE xk_11 (k := 19) rfl (by decide) rfl wt_979 dX12_isTold_142) (n_sq (n_bipush hE (by decide) dX12_isTold_145) (n_sq (n_aload_n hE dX12_isTold_147) (n_sq (n_getS hE xk_11 (k := 20) rfl (by decide) rfl wt_980 dX12_isTold_148) (n_sq (n_bipush hE (by decide) dX12_isTold_151) (n_sq (n_iload_n hE dX12_isTold_153) (n_sq (n_iadd hE dX12_isTold_154) (n_sq (n_iald hE rfl (by decide) dX12_isTold_155) (n_sq (n_i2l hE dX12_isTold_156) (n_sq (n_last hE rfl (by decide) dX12_isTold_157) (n_sq (n_aload_n hE dX12_isTold_158) (n_sq (n_getS hE xk_11 (k := 19) rfl (by decide) rfl wt_979 dX12_isTold_159) (n_sq (n_bipush hE (by decide) dX12_isTold_162) (n_sq (n_aload_n hE dX12_isTold_164) (n_sq (n_iload_n hE dX12_isTold_165) (n_sq (n_cIv hE m_X12_besideOf vc_X12_317 (show 0 + 1 ≤ 3 ∧ 8 + (2 + 11) + 0 ≤ 77 by decide) dX12_isTold_166) (n_sq (n_aload_n hE dX12_isTold_169) (n_sq (n_iconst hE (by decide) dX12_isTold_170) (n_sq (n_cIv hE m_X12_onesThat vc_X12_335 (show 1 + 1 ≤ 3 ∧ 8 + (4 + 11) + 21 ≤ 77 by decide) dX12_isTold_171) (n_sq (n_iand hE dX12_isTold_174) (n_sq (n_cIs hE m_X12_bits vc_X12_338 (show 0 + 1 ≤ 3 ∧ 8 + (3 + 11) + 0 ≤ 77 by decide) dX12_isTold_175) (n_sq (n_i2l hE dX12_isTold_178) (n_sq (n_last hE rfl (by decide) dX12_isTold_179) (n_sq (n_aload_n hE dX12_isTold_180) (n_sq (n_getS hE xk_11 (k := 19) rfl (by decide) rfl wt_979 dX12_isTold_181) (n_sq (n_bipush hE (by decide) dX12_isTold_184) (n_sq (n_iload_n hE dX12_isTold_186) (n_sq (n_i2l hE dX12_isTold_187) (n_sq (n_last hE rfl (by decide) dX12_isTold_188) (n_sq (n_aload_n hE dX12_isTold_189) (n_sq (n_getS hE xk_11 (k := 19) rfl (by decide) rfl wt_979 dX12_isTold_190) (n_sq (n_bipush hE (by decide) dX12_isTold_193) (n_sq (n_aload_n hE dX12_isTold_195) (n_sq (n_bipush hE (by decide) dX12_isTold_196) (n_sq (n_cIv hE m_X12_onesThat vc_X12_335 (show 1 + 1 ≤ 3 ∧ 8 + (4 + 11) + 21 ≤ 77 by decide) dX12_isTold_198) (n_sq (n_cIs hE m_X12_bits vc_X12_338 (show 0 + 1 ≤ 3 ∧ 8 + (3 + 11) + 0 ≤ 77 by decide) dX12_isTold_201) (n_sq (n_i2l hE dX12_isTold_204) (n_sq (n_last hE rfl (by decide) dX12_isTold_205) (n_sq (n_aload_n hE dX12_isTold_206) (n_sq (n_getS hE xk_11 (k := 19) rfl (by decide) rfl wt_979 dX12_isTold_207) (n_sq (n_bipush hE (by decide) dX12_isTold_210) (n_sq (n_aload_n hE dX12_isTold_212) (n_sq (n_getS hE xk_11 (k := 20) rfl (by decide) rfl wt_980 dX12_isTold_213) (n_sq (n_bipush hE (by decide) dX12_isTold_216) (n_sq (n_iald hE rfl (by decide) dX12_isTold_218) (n_sq (n_i2l hE dX12_isTold_219) (n_sq (n_last hE rfl (by decide) dX12_isTold_220) (n_sq (n_aload_n hE dX12_isTold_221) (n_sq (n_aload_n hE dX12_isTold_222) (n_sq (n_getI hE xk_11 (k := 21) rfl (by decide) rfl wt_981 dX12_isTold_223) (n_sq (n_cJv hE m_X12_summedBy vc_X12_341 (show 2 + 1 ≤ 3 ∧ 8 + (4 + 11) + 54 ≤ 77 by decide) dX12_isTold_226) (n_sq (n_lconst hE (by decide) dX12_isTold_229) (n_sq (n_lcmp hE dX12_isTold_230) (n_ifle hE (by decide) dX12_isTold_231))))))))))))))))))))))))))))))))))))))))))))))))))))))))))))))))))))))))))))))))))))))))))))))))))))))))),
    (n_sq (n_iconst hE (by decide) dX12_isTold_234) (n_goto hE (by decide) dX12_isTold_235)),
    (n_sq (n_iconst hE (by decide) dX12_isTold_238) n_fall),
    (n_zreturn hE rfl dX12_isTold_239), trivial⟩
noncomputable def F_X12_isTold (as : List XV) (w : XW) : Option (Int32 × XW) := (xF 5 bs_X12_isTold as w).bind pI
theorem m_X12_isTold : XM yX12_isTold cX12_isTold 5 (some .boolean) 3 77 (eI F_X12_isTold) := xm_I (xm_of (by decide) s_X12_isTold)
noncomputable def q_X12_isTold_0 (x1 : Int32) (w : XW) : Option XR := ev bs_X12_isTold 0 ([some (.inr (11, 0)), some (.inl (.int x1)), none, none, none], [], w)
noncomputable def q_X12_isTold_7 (w : XW) : Option XR := ev bs_X12_isTold 7 ([none, none, none, none, none], [], w)
noncomputable def q_X12_isTold_9 (x1 : Int32) (w : XW) : Option XR := ev bs_X12_isTold 9 ([some (.inr (11, 0)), some (.inl (.int x1)), none, none, none], [], w)
noncomputable def q_X12_isTold_24 (x1 : Int32) (x2 : Int32) (x3 : Int32) (x4 : Int32) (w : XW) : Option XR := ev bs_X12_isTold 24 ([some (.inr (11, 0)), some (.inl (.int x1)), some (.inl (.int x2)), some (.inl (.int x3)), some (.inl (.int x4))], [], w)
noncomputable def q_X12_isTold_35 (x1 : Int32) (x2 : Int32) (x3 : Int32) (x4 : Int32) (w : XW) : Option XR := ev bs_X12_isTold 35 ([some (.inr (11, 0)), some (.inl (.int x1)), some (.inl (.int x2)), some (.inl (.int x3)), some (.inl (.int x4))], [], w)
noncomputable def q_X12_isTold_42 (x1 : Int32) (x2 : Int32) (x4 : Int32) (s0 : Int32) (w : XW) : Option XR := ev bs_X12_isTold 42 ([some (.inr (11, 0)), some (.inl (.int x1)), some (.inl (.int x2)), none, some (.inl (.int x4))], [.inl (.int s0)], w)
noncomputable def q_X12_isTold_56 (x1 : Int32) (x2 : Int32) (x4 : Int32) (s0 : Int32) (w : XW) : Option XR := ev bs_X12_isTold 56 ([some (.inr (11, 0)), some (.inl (.int x1)), some (.inl (.int x2)), none, some (.inl (.int x4))], [.inl (.int s0)], w)
noncomputable def q_X12_isTold_60 (x1 : Int32) (x2 : Int32) (x4 : Int32) (s0 : Int32) (w : XW) : Option XR := ev bs_X12_isTold 60 ([some (.inr (11, 0)), some (.inl (.int x1)), some (.inl (.int x2)), none, some (.inl (.int x4))], [.inl (.int s0)], w)
noncomputable def q_X12_isTold_61 (x1 : Int32) (x2 : Int32) (x4 : Int32) (s0 : Int32) (s1 : Int32) (w : XW) : Option XR := ev bs_X12_isTold 61 ([some (.inr (11, 0)), some (.inl (.int x1)), some (.inl (.int x2)), none, some (.inl (.int x4))], [.inl (.int s1), .inl (.int s0)], w)
noncomputable def q_X12_isTold_69 (x1 : Int32) (x2 : Int32) (x3 : Int32) (w : XW) : Option XR := ev bs_X12_isTold 69 ([some (.inr (11, 0)), some (.inl (.int x1)), some (.inl (.int x2)), some (.inl (.int x3)), none], [], w)
noncomputable def q_X12_isTold_234 (w : XW) : Option XR := ev bs_X12_isTold 234 ([none, none, none, none, none], [], w)
noncomputable def q_X12_isTold_238 (w : XW) : Option XR := ev bs_X12_isTold 238 ([none, none, none, none, none], [], w)
noncomputable def q_X12_isTold_239 (s0 : Int32) (w : XW) : Option XR := ev bs_X12_isTold 239 ([none, none, none, none, none], [.inl (.int s0)], w)
set_option maxRecDepth 100000 in
theorem e_X12_isTold_0 (x1 : Int32) (w : XW) : q_X12_isTold_0 x1 w = (bif decide (0 ≤ (gI w 11 0 21)) then (q_X12_isTold_9 x1 w) else (q_X12_isTold_7 w)) := (ev_eq _ _ _).trans rfl
set_option maxRecDepth 100000 in
theorem e_X12_isTold_7 (w : XW) : q_X12_isTold_7 w = (some (some (.inl (.int 1)), w)) := (ev_eq _ _ _).trans rfl
set_option maxRecDepth 100000 in
theorem e_X12_isTold_9 (x1 : Int32) (w : XW) : q_X12_isTold_9 x1 w = (if (47 + x1) < 0 ∨ 98 ≤ (47 + x1).toNatClampNeg then none else (q_X12_isTold_24 x1 (gI w 50 0 (47 + x1).toNatClampNeg) 0 0 w)) := (ev_eq _ _ _).trans rfl
set_option maxRecDepth 100000 in
theorem e_X12_isTold_24 (x1 : Int32) (x2 : Int32) (x3 : Int32) (x4 : Int32) (w : XW) : q_X12_isTold_24 x1 x2 x3 x4 w = (bif decide ((gI w 50 0 4) ≤ x4) then (q_X12_isTold_69 x1 x2 x3 w) else (q_X12_isTold_35 x1 x2 x3 x4 w)) := (ev_eq _ _ _).trans rfl
set_option maxRecDepth 100000 in
theorem e_X12_isTold_35 (x1 : Int32) (x2 : Int32) (x3 : Int32) (x4 : Int32) (w : XW) : q_X12_isTold_35 x1 x2 x3 x4 w = (bif decide (x4 = x1) then (q_X12_isTold_60 x1 x2 x4 x3 w) else (q_X12_isTold_42 x1 x2 x4 x3 w)) := (ev_eq _ _ _).trans rfl
set_option maxRecDepth 100000 in
theorem e_X12_isTold_42 (x1 : Int32) (x2 : Int32) (x4 : Int32) (s0 : Int32) (w : XW) : q_X12_isTold_42 x1 x2 x4 s0 w = (if (47 + x4) < 0 ∨ 98 ≤ (47 + x4).toNatClampNeg then none else (bif decide (¬ (gI w 50 0 (47 + x4).toNatClampNeg) = x2) then (q_X12_isTold_60 x1 x2 x4 s0 w) else (q_X12_isTold_56 x1 x2 x4 s0 w))) := (ev_eq _ _ _).trans rfl
set_option maxRecDepth 100000 in
theorem e_X12_isTold_56 (x1 : Int32) (x2 : Int32) (x4 : Int32) (s0 : Int32) (w : XW) : q_X12_isTold_56 x1 x2 x4 s0 w = (q_X12_isTold_61 x1 x2 x4 s0 1 w) := (ev_eq _ _ _).trans rfl
set_option maxRecDepth 100000 in
theorem e_X12_isTold_60 (x1 : Int32) (x2 : Int32) (x4 : Int32) (s0 : Int32) (w : XW) : q_X12_isTold_60 x1 x2 x4 s0 w = (q_X12_isTold_61 x1 x2 x4 s0 0 w) := (ev_eq _ _ _).trans rfl
set_option maxRecDepth 100000 in
theorem e_X12_isTold_61 (x1 : Int32) (x2 : Int32) (x4 : Int32) (s0 : Int32) (s1 : Int32) (w : XW) : q_X12_isTold_61 x1 x2 x4 s0 s1 w = (q_X12_isTold_24 x1 x2 (s0 + s1) (x4 + 1) w) := (ev_eq _ _ _).trans rfl
set_option maxRecDepth 100000 in
theorem e_X12_isTold_69 (x1 : Int32) (x2 : Int32) (x3 : Int32) (w : XW) : q_X12_isTold_69 x1 x2 x3 w = (if (52 + x1) < 0 ∨ 98 ≤ (52 + x1).toNatClampNeg then none else ((F_X12_fullOf [.inr (11, 0), .inl (.int x2)] (sJ (sJ (sJ w 49 0 0 ((x1 : Int32).toInt64)) 49 0 1 ((x2 : Int32).toInt64)) 49 0 2 ((gI (sJ (sJ w 49 0 0 ((x1 : Int32).toInt64)) 49 0 1 ((x2 : Int32).toInt64)) 50 0 (52 + x1).toNatClampNeg).toInt64))).bind fun r0 => (if (35 + x2) < 0 ∨ 98 ≤ (35 + x2).toNatClampNeg then none else ((F_X12_heatOf [.inr (11, 0), .inl (.int x2)] (sJ (sJ r0.2 49 0 3 ((r0.1 : Int32).toInt64)) 49 0 4 ((gI (sJ r0.2 49 0 3 ((r0.1 : Int32).toInt64)) 50 0 (35 + x2).toNatClampNeg).toInt64))).bind fun r1 => (if (41 + x2) < 0 ∨ 98 ≤ (41 + x2).toNatClampNeg then none else ((F_X12_besideOf [.inr (11, 0), .inl (.int x2)] (sJ (sJ r1.2 49 0 5 ((r1.1 : Int32).toInt64)) 49 0 6 ((gI (sJ r1.2 49 0 5 ((r1.1 : Int32).toInt64)) 50 0 (41 + x2).toNatClampNeg).toInt64))).bind fun r2 => ((F_X12_onesThat [.inr (11, 0), .inl (.int (-1))] r2.2).bind fun r3 => ((F_X12_bits [.inl (.int (r2.1 &&& r3.1))] r3.2).bind fun r4 => ((F_X12_onesThat [.inr (11, 0), .inl (.int (-2))] (sJ (sJ r4.2 49 0 7 ((r4.1 : Int32).toInt64)) 49 0 8 ((x3 : Int32).toInt64))).bind fun r5 => ((F_X12_bits [.inl (.int r5.1)] r5.2).bind fun r6 => ((F_X12_summedBy [.inr (11, 0), .inl (.int (gI (sJ (sJ r6.2 49 0 9 ((r6.1 : Int32).toInt64)) 49 0 10 ((gI (sJ r6.2 49 0 9 ((r6.1 : Int32).toInt64)) 50 0 10).toInt64)) 11 0 21))] (sJ (sJ r6.2 49 0 9 ((r6.1 : Int32).toInt64)) 49 0 10 ((gI (sJ r6.2 49 0 9 ((r6.1 : Int32).toInt64)) 50 0 10).toInt64))).bind fun r7 => (bif decide ((lg_cmp r7.1 0) ≤ 0) then (q_X12_isTold_238 r7.2) else (q_X12_isTold_234 r7.2))))))))))))) := (ev_eq _ _ _).trans rfl
set_option maxRecDepth 100000 in
theorem e_X12_isTold_234 (w : XW) : q_X12_isTold_234 w = (q_X12_isTold_239 1 w) := (ev_eq _ _ _).trans rfl
set_option maxRecDepth 100000 in
theorem e_X12_isTold_238 (w : XW) : q_X12_isTold_238 w = (q_X12_isTold_239 0 w) := (ev_eq _ _ _).trans rfl
set_option maxRecDepth 100000 in
theorem e_X12_isTold_239 (s0 : Int32) (w : XW) : q_X12_isTold_239 s0 w = (if s0 = 0 ∨ s0 = 1 then some (some (.inl (.int s0)), w) else none) := (ev_eq _ _ _).trans rfl
theorem f_X12_isTold (x1 : Int32) (w : XW) : F_X12_isTold [.inr (11, 0), .inl (.int x1)] w = (q_X12_isTold_0 x1 w).bind pI := rfl

-- WinterKeepModel.fills(II)V
theorem dX12_fills_0 : decode cX12_fills 0 = .ok (.aload_n 0, 1) := by decide +kernel
theorem dX12_fills_1 : decode cX12_fills 1 = .ok (.iload_n 1, 1) := by decide +kernel
theorem dX12_fills_2 : decode cX12_fills 2 = .ok (.invokevirtual 304, 3) := by decide +kernel
theorem dX12_fills_5 : decode cX12_fills 5 = .ok (.iload_n 2, 1) := by decide +kernel
theorem dX12_fills_6 : decode cX12_fills 6 = .ok (.iadd, 1) := by decide +kernel
theorem dX12_fills_7 : decode cX12_fills 7 = .ok (.istore_n 3, 1) := by decide +kernel
theorem dX12_fills_8 : decode cX12_fills 8 = .ok (.aload_n 0, 1) := by decide +kernel
theorem dX12_fills_9 : decode cX12_fills 9 = .ok (.getfield 39, 3) := by decide +kernel
theorem dX12_fills_12 : decode cX12_fills 12 = .ok (.bipush 11, 2) := by decide +kernel
theorem dX12_fills_14 : decode cX12_fills 14 = .ok (.iconst 4, 1) := by decide +kernel
theorem dX12_fills_15 : decode cX12_fills 15 = .ok (.iload_n 1, 1) := by decide +kernel
theorem dX12_fills_16 : decode cX12_fills 16 = .ok (.imul, 1) := by decide +kernel
theorem dX12_fills_17 : decode cX12_fills 17 = .ok (.iadd, 1) := by decide +kernel
theorem dX12_fills_18 : decode cX12_fills 18 = .ok (.iload_n 3, 1) := by decide +kernel
theorem dX12_fills_19 : decode cX12_fills 19 = .ok (.aload_n 0, 1) := by decide +kernel
theorem dX12_fills_20 : decode cX12_fills 20 = .ok (.getfield 39, 3) := by decide +kernel
theorem dX12_fills_23 : decode cX12_fills 23 = .ok (.bipush 35, 2) := by decide +kernel
theorem dX12_fills_25 : decode cX12_fills 25 = .ok (.iload_n 1, 1) := by decide +kernel
theorem dX12_fills_26 : decode cX12_fills 26 = .ok (.iadd, 1) := by decide +kernel
theorem dX12_fills_27 : decode cX12_fills 27 = .ok (.iaload, 1) := by decide +kernel
theorem dX12_fills_28 : decode cX12_fills 28 = .ok (.if_icmp .le 15, 3) := by decide +kernel
theorem dX12_fills_31 : decode cX12_fills 31 = .ok (.aload_n 0, 1) := by decide +kernel
theorem dX12_fills_32 : decode cX12_fills 32 = .ok (.getfield 39, 3) := by decide +kernel
theorem dX12_fills_35 : decode cX12_fills 35 = .ok (.bipush 35, 2) := by decide +kernel
theorem dX12_fills_37 : decode cX12_fills 37 = .ok (.iload_n 1, 1) := by decide +kernel
theorem dX12_fills_38 : decode cX12_fills 38 = .ok (.iadd, 1) := by decide +kernel
theorem dX12_fills_39 : decode cX12_fills 39 = .ok (.iaload, 1) := by decide +kernel
theorem dX12_fills_40 : decode cX12_fills 40 = .ok (.goto 4, 3) := by decide +kernel
theorem dX12_fills_43 : decode cX12_fills 43 = .ok (.iload_n 3, 1) := by decide +kernel
theorem dX12_fills_44 : decode cX12_fills 44 = .ok (.iastore, 1) := by decide +kernel
theorem dX12_fills_45 : decode cX12_fills 45 = .ok (.return_, 1) := by decide +kernel
noncomputable def bs_X12_fills : List (Nat × XB) := [
  (0, (sq (xLA 0) (sq (xLI 1) (sq (xCI 11 2 F_X12_fullOf) (sq (xLI 2) (sq (xI2 (· + ·)) (sq (xSI 3) (sq (xLA 0) (sq (xGS 11 50 1 0) (sq (xC (.int 11)) (sq (xC (.int 4)) (sq (xLI 1) (sq (xI2 (· * ·)) (sq (xI2 (· + ·)) (sq (xLI 3) (sq (xLA 0) (sq (xGS 11 50 1 0) (sq (xC (.int 35)) (sq (xLI 1) (sq (xI2 (· + ·)) (sq (xAI 50 98) (tIf2 (fun x y => decide (x ≤ y)) 43 [false, false, false, true] 31 [true, true, false, false])))))))))))))))))))))),
  (31, (sq (xLA 0) (sq (xGS 11 50 1 0) (sq (xC (.int 35)) (sq (xLI 1) (sq (xI2 (· + ·)) (sq (xAI 50 98) (tGo 44 [false, false, false, false])))))))),
  (43, (sq (xLI 3) (tGo 44 [false, false, false, false]))),
  (44, (sq (xTI 50 98 (fun x => x)) tRV))]
set_option maxRecDepth 100000 in
set_option maxHeartbeats 4000000 in
theorem s_X12_fills : ∀ X : XCtx, XE X → X.2.2.1.1 = cX12_fills → X.2.2.1.2.1 = 4 → X.2.2.1.2.2.1 = yX12_fills.cls → X.2.2.1.2.2.2.1 = none → X.1.2.2.2.1 = { frames := 1, cells := 0, slots := 0, locals := 21 } → SndBs X bs_X12_fills := by
  rintro ⟨⟨p, l, e, R, s⟩, Y, ⟨cc, nL, own, ret, Ts⟩, Z⟩ hE h1 h2 h3 h4 h5
  dsimp only at h1 h2 h3 h4 h5
  subst h1 h2 h3 h4 h5
  exact ⟨(n_sq (n_aload_n hE dX12_fills_0) (n_sq (n_iload_n hE dX12_fills_1) (n_sq (n_cIv hE m_X12_fullOf vc_X12_304 (show 0 + 1 ≤ 1 ∧ 8 + (2 + 11) + 0 ≤ 21 by decide) dX12_fills_2) (n_sq (n_iload_n hE dX12_fills_5) (n_sq (n_iadd hE dX12_fills_6) (n_sq (n_istore_n hE (show (3 : Nat) < 4 by decide) dX12_fills_7) (n_sq (n_aload_n hE dX12_fills_8) (n_sq (n_getS hE xk_11 (k := 20) rfl (by decide) rfl wt_980 dX12_fills_9) (n_sq (n_bipush hE (by decide) dX12_fills_12) (n_sq (n_iconst hE (by decide) dX12_fills_14) (n_sq (n_iload_n hE dX12_fills_15) (n_sq (n_imul hE dX12_fills_16) (n_sq (n_iadd hE dX12_fills_17) (n_sq (n_iload_n hE dX12_fills_18) (n_sq (n_aload_n hE dX12_fills_19) (n_sq (n_getS hE xk_11 (k := 20) rfl (by decide) rfl wt_980 dX12_fills_20) (n_sq (n_bipush hE (by decide) dX12_fills_23) (n_sq (n_iload_n hE dX12_fills_25) (n_sq (n_iadd hE dX12_fills_26) (n_sq (n_iald hE rfl (by decide) dX12_fills_27) (n_ifcle hE (by decide) dX12_fills_28))))))))))))))))))))),
    (n_sq (n_aload_n hE dX12_fills_31) (n_sq (n_getS hE xk_11 (k := 20) rfl (by decide) rfl wt_980 dX12_fills_32) (n_sq (n_bipush hE (by decide) dX12_fills_35) (n_sq (n_iload_n hE dX12_fills_37) (n_sq (n_iadd hE dX12_fills_38) (n_sq (n_iald hE rfl (by decide) dX12_fills_39) (n_goto hE (by decide) dX12_fills_40))))))),
    (n_sq (n_iload_n hE dX12_fills_43) n_fall),
    (n_sq (n_iast hE rfl (by decide) dX12_fills_44) (n_vreturn hE rfl dX12_fills_45)), trivial⟩
noncomputable def F_X12_fills (as : List XV) (w : XW) : Option XW := (xF 4 bs_X12_fills as w).bind pV
theorem m_X12_fills : XM yX12_fills cX12_fills 4 none 1 21 (eV F_X12_fills) := xm_V (xm_of (by decide) s_X12_fills)
noncomputable def q_X12_fills_0 (x1 : Int32) (x2 : Int32) (w : XW) : Option XR := ev bs_X12_fills 0 ([some (.inr (11, 0)), some (.inl (.int x1)), some (.inl (.int x2)), none], [], w)
noncomputable def q_X12_fills_31 (x1 : Int32) (s1 : Int32) (w : XW) : Option XR := ev bs_X12_fills 31 ([some (.inr (11, 0)), some (.inl (.int x1)), none, none], [.inl (.int s1), .inr (50, 0)], w)
noncomputable def q_X12_fills_43 (x3 : Int32) (s1 : Int32) (w : XW) : Option XR := ev bs_X12_fills 43 ([none, none, none, some (.inl (.int x3))], [.inl (.int s1), .inr (50, 0)], w)
noncomputable def q_X12_fills_44 (s1 : Int32) (s2 : Int32) (w : XW) : Option XR := ev bs_X12_fills 44 ([none, none, none, none], [.inl (.int s2), .inl (.int s1), .inr (50, 0)], w)
theorem e_X12_fills_0 (x1 : Int32) (x2 : Int32) (w : XW) : q_X12_fills_0 x1 x2 w = ((F_X12_fullOf [.inr (11, 0), .inl (.int x1)] w).bind fun r0 => (if (35 + x1) < 0 ∨ 98 ≤ (35 + x1).toNatClampNeg then none else (bif decide ((r0.1 + x2) ≤ (gI r0.2 50 0 (35 + x1).toNatClampNeg)) then (q_X12_fills_43 (r0.1 + x2) (11 + (4 * x1)) r0.2) else (q_X12_fills_31 x1 (11 + (4 * x1)) r0.2)))) := (ev_eq _ _ _).trans rfl
theorem e_X12_fills_31 (x1 : Int32) (s1 : Int32) (w : XW) : q_X12_fills_31 x1 s1 w = (if (35 + x1) < 0 ∨ 98 ≤ (35 + x1).toNatClampNeg then none else (q_X12_fills_44 s1 (gI w 50 0 (35 + x1).toNatClampNeg) w)) := (ev_eq _ _ _).trans rfl
theorem e_X12_fills_43 (x3 : Int32) (s1 : Int32) (w : XW) : q_X12_fills_43 x3 s1 w = (q_X12_fills_44 s1 x3 w) := (ev_eq _ _ _).trans rfl
theorem e_X12_fills_44 (s1 : Int32) (s2 : Int32) (w : XW) : q_X12_fills_44 s1 s2 w = (if s1 < 0 ∨ 98 ≤ s1.toNatClampNeg then none else (some (none, sI w 50 0 s1.toNatClampNeg s2))) := (ev_eq _ _ _).trans rfl
theorem f_X12_fills (x1 : Int32) (x2 : Int32) (w : XW) : F_X12_fills [.inr (11, 0), .inl (.int x1), .inl (.int x2)] w = (q_X12_fills_0 x1 x2 w).bind pV := rfl
