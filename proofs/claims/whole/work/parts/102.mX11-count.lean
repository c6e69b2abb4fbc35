-- WinterKeep.count(I)I
theorem dX11_count_0 : decode cX11_count 0 = .ok (.iload_n 1, 1) := by decide +kernel
theorem dX11_count_1 : decode cX11_count 1 = .ok (.tableswitch 192 0 15 #[79, 87, 95, 103, 111, 119, 124, 129, 137, 145, 153, 161, 166, 174, 179, 184], 79) := by decide +kernel
theorem dX11_count_80 : decode cX11_count 80 = .ok (.aload_n 0, 1) := by decide +kernel
theorem dX11_count_81 : decode cX11_count 81 = .ok (.getfield 39, 3) := by decide +kernel
theorem dX11_count_84 : decode cX11_count 84 = .ok (.getfield 194, 3) := by decide +kernel
theorem dX11_count_87 : decode cX11_count 87 = .ok (.ireturn, 1) := by decide +kernel
theorem dX11_count_88 : decode cX11_count 88 = .ok (.aload_n 0, 1) := by decide +kernel
theorem dX11_count_89 : decode cX11_count 89 = .ok (.getfield 39, 3) := by decide +kernel
theorem dX11_count_92 : decode cX11_count 92 = .ok (.getfield 197, 3) := by decide +kernel
theorem dX11_count_95 : decode cX11_count 95 = .ok (.ireturn, 1) := by decide +kernel
theorem dX11_count_96 : decode cX11_count 96 = .ok (.aload_n 0, 1) := by decide +kernel
theorem dX11_count_97 : decode cX11_count 97 = .ok (.getfield 39, 3) := by decide +kernel
theorem dX11_count_100 : decode cX11_count 100 = .ok (.getfield 135, 3) := by decide +kernel
theorem dX11_count_103 : decode cX11_count 103 = .ok (.ireturn, 1) := by decide +kernel
theorem dX11_count_104 : decode cX11_count 104 = .ok (.aload_n 0, 1) := by decide +kernel
theorem dX11_count_105 : decode cX11_count 105 = .ok (.getfield 39, 3) := by decide +kernel
theorem dX11_count_108 : decode cX11_count 108 = .ok (.getfield 200, 3) := by decide +kernel
theorem dX11_count_111 : decode cX11_count 111 = .ok (.ireturn, 1) := by decide +kernel
theorem dX11_count_112 : decode cX11_count 112 = .ok (.aload_n 0, 1) := by decide +kernel
theorem dX11_count_113 : decode cX11_count 113 = .ok (.getfield 39, 3) := by decide +kernel
theorem dX11_count_116 : decode cX11_count 116 = .ok (.getfield 203, 3) := by decide +kernel
theorem dX11_count_119 : decode cX11_count 119 = .ok (.ireturn, 1) := by decide +kernel
theorem dX11_count_120 : decode cX11_count 120 = .ok (.aload_n 0, 1) := by decide +kernel
theorem dX11_count_121 : decode cX11_count 121 = .ok (.getfield 29, 3) := by decide +kernel
theorem dX11_count_124 : decode cX11_count 124 = .ok (.ireturn, 1) := by decide +kernel
theorem dX11_count_125 : decode cX11_count 125 = .ok (.aload_n 0, 1) := by decide +kernel
theorem dX11_count_126 : decode cX11_count 126 = .ok (.getfield 33, 3) := by decide +kernel
theorem dX11_count_129 : decode cX11_count 129 = .ok (.ireturn, 1) := by decide +kernel
theorem dX11_count_130 : decode cX11_count 130 = .ok (.aload_n 0, 1) := by decide +kernel
theorem dX11_count_131 : decode cX11_count 131 = .ok (.getfield 46, 3) := by decide +kernel
theorem dX11_count_134 : decode cX11_count 134 = .ok (.getfield 206, 3) := by decide +kernel
theorem dX11_count_137 : decode cX11_count 137 = .ok (.ireturn, 1) := by decide +kernel
theorem dX11_count_138 : decode cX11_count 138 = .ok (.aload_n 0, 1) := by decide +kernel
theorem dX11_count_139 : decode cX11_count 139 = .ok (.getfield 46, 3) := by decide +kernel
theorem dX11_count_142 : decode cX11_count 142 = .ok (.invokevirtual 209, 3) := by decide +kernel
theorem dX11_count_145 : decode cX11_count 145 = .ok (.ireturn, 1) := by decide +kernel
theorem dX11_count_146 : decode cX11_count 146 = .ok (.aload_n 0, 1) := by decide +kernel
theorem dX11_count_147 : decode cX11_count 147 = .ok (.getfield 46, 3) := by decide +kernel
theorem dX11_count_150 : decode cX11_count 150 = .ok (.invokevirtual 213, 3) := by decide +kernel
theorem dX11_count_153 : decode cX11_count 153 = .ok (.ireturn, 1) := by decide +kernel
theorem dX11_count_154 : decode cX11_count 154 = .ok (.aload_n 0, 1) := by decide +kernel
theorem dX11_count_155 : decode cX11_count 155 = .ok (.getfield 46, 3) := by decide +kernel
theorem dX11_count_158 : decode cX11_count 158 = .ok (.invokevirtual 216, 3) := by decide +kernel
theorem dX11_count_161 : decode cX11_count 161 = .ok (.ireturn, 1) := by decide +kernel
theorem dX11_count_162 : decode cX11_count 162 = .ok (.aload_n 0, 1) := by decide +kernel
theorem dX11_count_163 : decode cX11_count 163 = .ok (.invokevirtual 219, 3) := by decide +kernel
theorem dX11_count_166 : decode cX11_count 166 = .ok (.ireturn, 1) := by decide +kernel
theorem dX11_count_167 : decode cX11_count 167 = .ok (.aload_n 0, 1) := by decide +kernel
theorem dX11_count_168 : decode cX11_count 168 = .ok (.getfield 77, 3) := by decide +kernel
theorem dX11_count_171 : decode cX11_count 171 = .ok (.getfield 132, 3) := by decide +kernel
theorem dX11_count_174 : decode cX11_count 174 = .ok (.ireturn, 1) := by decide +kernel
theorem dX11_count_175 : decode cX11_count 175 = .ok (.aload_n 0, 1) := by decide +kernel
theorem dX11_count_176 : decode cX11_count 176 = .ok (.getfield 97, 3) := by decide +kernel
theorem dX11_count_179 : decode cX11_count 179 = .ok (.ireturn, 1) := by decide +kernel
theorem dX11_count_180 : decode cX11_count 180 = .ok (.aload_n 0, 1) := by decide +kernel
theorem dX11_count_181 : decode cX11_count 181 = .ok (.getfield 81, 3) := by decide +kernel
theorem dX11_count_184 : decode cX11_count 184 = .ok (.ireturn, 1) := by decide +kernel
theorem dX11_count_185 : decode cX11_count 185 = .ok (.aload_n 0, 1) := by decide +kernel
theorem dX11_count_186 : decode cX11_count 186 = .ok (.getfield 10, 3) := by decide +kernel
theorem dX11_count_189 : decode cX11_count 189 = .ok (.getfield 112, 3) := by decide +kernel
theorem dX11_count_192 : decode cX11_count 192 = .ok (.ireturn, 1) := by decide +kernel
theorem dX11_count_193 : decode cX11_count 193 = .ok (.iconst (-1), 1) := by decide +kernel
theorem dX11_count_194 : decode cX11_count 194 = .ok (.ireturn, 1) := by decide +kernel
theorem vc_X11_209 : XVw RX11 209 0 8 3 yX9_fullAll cX9_fullAll (some .int) := ⟨RX9, TX9, tyX9, 6, xk_8, rfl, ⟨by decide, by decide⟩, by decide +kernel, wt_643, wt_644, wt_645, wt_5, wt_646⟩
theorem vc_X11_213 : XVw RX11 213 0 8 1 yX9_burntBits cX9_burntBits (some .int) := ⟨RX9, TX9, tyX9, 6, xk_8, rfl, ⟨by decide, by decide⟩, by decide +kernel, wt_647, wt_648, wt_649, wt_5, wt_650⟩
theorem vc_X11_216 : XVw RX11 216 0 8 1 yX9_homeBits cX9_homeBits (some .int) := ⟨RX9, TX9, tyX9, 6, xk_8, rfl, ⟨by decide, by decide⟩, by decide +kernel, wt_655, wt_656, wt_657, wt_5, wt_658⟩
theorem vc_X11_219 : XVw RX11 219 0 10 3 yX11_keptOffAll cX11_keptOffAll (some .int) := ⟨RX11, TX11, tyX11, 20, xk_10, rfl, ⟨by decide, by decide⟩, by decide +kernel, wt_659, wt_661, ws_13, wt_1, wt_662⟩
noncomputable def bs_X11_count : List (Nat × XB) := [
  (0, (sq (xLI 1) (tSw [(0, 80), (1, 88), (2, 96), (3, 104), (4, 112), (5, 120), (6, 125), (7, 130), (8, 138), (9, 146), (10, 154), (11, 162), (12, 167), (13, 175), (14, 180), (15, 185)] 193 [true, false]))),
  (80, (sq (xLA 0) (sq (xGD 10 5 1) (sq (xGI 1 1) tRI)))),
  (88, (sq (xLA 0) (sq (xGD 10 5 1) (sq (xGI 1 2) tRI)))),
  (96, (sq (xLA 0) (sq (xGD 10 5 1) (sq (xGI 1 3) tRI)))),
  (104, (sq (xLA 0) (sq (xGD 10 5 1) (sq (xGI 1 4) tRI)))),
  (112, (sq (xLA 0) (sq (xGD 10 5 1) (sq (xGI 1 5) tRI)))),
  (120, (sq (xLA 0) (sq (xGI 10 3) tRI))),
  (125, (sq (xLA 0) (sq (xGI 10 4) tRI))),
  (130, (sq (xLA 0) (sq (xGS 10 8 1 0) (sq (xGI 8 1) tRI)))),
  (138, (sq (xLA 0) (sq (xGS 10 8 1 0) (sq (xCI 8 1 F_X9_fullAll) tRI)))),
  (146, (sq (xLA 0) (sq (xGS 10 8 1 0) (sq (xCI 8 1 F_X9_burntBits) tRI)))),
  (154, (sq (xLA 0) (sq (xGS 10 8 1 0) (sq (xCI 8 1 F_X9_homeBits) tRI)))),
  (162, (sq (xLA 0) (sq (xCI 10 1 F_X11_keptOffAll) tRI))),
  (167, (sq (xLA 0) (sq (xGS 10 4 1 0) (sq (xGI 4 0) tRI)))),
  (175, (sq (xLA 0) (sq (xGI 10 16) tRI))),
  (180, (sq (xLA 0) (sq (xGI 10 12) tRI))),
  (185, (sq (xLA 0) (sq (xGS 10 9 1 0) (sq (xGI 9 1) tRI)))),
  (193, (sq (xC (.int (-1))) tRI))]
set_option maxRecDepth 100000 in
set_option maxHeartbeats 4000000 in
theorem s_X11_count : ∀ X : XCtx, XE X → X.2.2.1.1 = cX11_count → X.2.2.1.2.1 = 2 → X.2.2.1.2.2.1 = yX11_count.cls → X.2.2.1.2.2.2.1 = (some .int) → X.1.2.2.2.1 = { frames := 4, cells := 0, slots := 0, locals := 87 } → SndBs X bs_X11_count := by
  rintro ⟨⟨p, l, e, R, s⟩, Y, ⟨cc, nL, own, ret, Ts⟩, Z⟩ hE h1 h2 h3 h4 h5
  dsimp only at h1 h2 h3 h4 h5
  subst h1 h2 h3 h4 h5
  exact ⟨(n_sq (n_iload_n hE dX11_count_0) (n_switch hE (lo32 := 0) (ts := [80, 88, 96, 104, 112, 120, 125, 130, 138, 146, 154, 162, 167, 175, 180, 185]) (by decide) (by decide) (by decide) (by decide) (by decide) (by decide) dX11_count_1)),
    (n_sq (n_aload_n hE dX11_count_80) (n_sq (n_getD hE xk_10 (k := 5) rfl (by decide) rfl wt_321 dX11_count_81) (n_sq (n_getI hE xk_1 (k := 1) rfl (by decide) rfl wt_100 dX11_count_84) (n_ireturn hE rfl dX11_count_87)))),
    (n_sq (n_aload_n hE dX11_count_88) (n_sq (n_getD hE xk_10 (k := 5) rfl (by decide) rfl wt_321 dX11_count_89) (n_sq (n_getI hE xk_1 (k := 2) rfl (by decide) rfl wt_104 dX11_count_92) (n_ireturn hE rfl dX11_count_95)))),
    (n_sq (n_aload_n hE dX11_count_96) (n_sq (n_getD hE xk_10 (k := 5) rfl (by decide) rfl wt_321 dX11_count_97) (n_sq (n_getI hE xk_1 (k := 3) rfl (by decide) rfl wt_109 dX11_count_100) (n_ireturn hE rfl dX11_count_103)))),
    (n_sq (n_aload_n hE dX11_count_104) (n_sq (n_getD hE xk_10 (k := 5) rfl (by decide) rfl wt_321 dX11_count_105) (n_sq (n_getI hE xk_1 (k := 4) rfl (by decide) rfl wt_114 dX11_count_108) (n_ireturn hE rfl dX11_count_111)))),
    (n_sq (n_aload_n hE dX11_count_112) (n_sq (n_getD hE xk_10 (k := 5) rfl (by decide) rfl wt_321 dX11_count_113) (n_sq (n_getI hE xk_1 (k := 5) rfl (by decide) rfl wt_118 dX11_count_116) (n_ireturn hE rfl dX11_count_119)))),
    (n_sq (n_aload_n hE dX11_count_120) (n_sq (n_getI hE xk_10 (k := 3) rfl (by decide) rfl wt_319 dX11_count_121) (n_ireturn hE rfl dX11_count_124))),
    (n_sq (n_aload_n hE dX11_count_125) (n_sq (n_getI hE xk_10 (k := 4) rfl (by decide) rfl wt_320 dX11_count_126) (n_ireturn hE rfl dX11_count_129))),
    (n_sq (n_aload_n hE dX11_count_130) (n_sq (n_getS hE xk_10 (k := 6) rfl (by decide) rfl wt_322 dX11_count_131) (n_sq (n_getI hE xk_8 (k := 1) rfl (by decide) rfl wt_178 dX11_count_134) (n_ireturn hE rfl dX11_count_137)))),
    (n_sq (n_aload_n hE dX11_count_138) (n_sq (n_getS hE xk_10 (k := 6) rfl (by decide) rfl wt_322 dX11_count_139) (n_sq (n_cIv hE m_X9_fullAll vc_X11_209 (show 0 + 1 ≤ 4 ∧ 8 + (3 + 11) + 0 ≤ 87 by decide) dX11_count_142) (n_ireturn hE rfl dX11_count_145)))),
    (n_sq (n_aload_n hE dX11_count_146) (n_sq (n_getS hE xk_10 (k := 6) rfl (by decide) rfl wt_322 dX11_count_147) (n_sq (n_cIv hE m_X9_burntBits vc_X11_213 (show 1 + 1 ≤ 4 ∧ 8 + (1 + 11) + 23 ≤ 87 by decide) dX11_count_150) (n_ireturn hE rfl dX11_count_153)))),
    (n_sq (n_aload_n hE dX11_count_154) (n_sq (n_getS hE xk_10 (k := 6) rfl (by decide) rfl wt_322 dX11_count_155) (n_sq (n_cIv hE m_X9_homeBits vc_X11_216 (show 1 + 1 ≤ 4 ∧ 8 + (1 + 11) + 23 ≤ 87 by decide) dX11_count_158) (n_ireturn hE rfl dX11_count_161)))),
    (n_sq (n_aload_n hE dX11_count_162) (n_sq (n_cIv hE m_X11_keptOffAll vc_X11_219 (show 3 + 1 ≤ 4 ∧ 8 + (3 + 11) + 65 ≤ 87 by decide) dX11_count_163) (n_ireturn hE rfl dX11_count_166))),
    (n_sq (n_aload_n hE dX11_count_167) (n_sq (n_getS hE xk_10 (k := 11) rfl (by decide) rfl wt_327 dX11_count_168) (n_sq (n_getI hE xk_4 (k := 0) rfl (by decide) rfl wt_266 dX11_count_171) (n_ireturn hE rfl dX11_count_174)))),
    (n_sq (n_aload_n hE dX11_count_175) (n_sq (n_getI hE xk_10 (k := 16) rfl (by decide) rfl wt_332 dX11_count_176) (n_ireturn hE rfl dX11_count_179))),
    (n_sq (n_aload_n hE dX11_count_180) (n_sq (n_getI hE xk_10 (k := 12) rfl (by decide) rfl wt_328 dX11_count_181) (n_ireturn hE rfl dX11_count_184))),
    (n_sq (n_aload_n hE dX11_count_185) (n_sq (n_getS hE xk_10 (k := 0) rfl (by decide) rfl wt_316 dX11_count_186) (n_sq (n_getI hE xk_9 (k := 1) rfl (by decide) rfl wt_38 dX11_count_189) (n_ireturn hE rfl dX11_count_192)))),
    (n_sq (n_iconst hE (by decide) dX11_count_193) (n_ireturn hE rfl dX11_count_194)), trivial⟩
noncomputable def F_X11_count (as : List XV) (w : XW) : Option (Int32 × XW) := (xF 2 bs_X11_count as w).bind pI
theorem m_X11_count : XM yX11_count cX11_count 2 (some .int) 4 87 (eI F_X11_count) := xm_I (xm_of (by decide) s_X11_count)
noncomputable def q_X11_count_0 (x1 : Int32) (w : XW) : Option XR := ev bs_X11_count 0 ([some (.inr (10, 0)), some (.inl (.int x1))], [], w)
noncomputable def q_X11_count_80 (w : XW) : Option XR := ev bs_X11_count 80 ([some (.inr (10, 0)), none], [], w)
noncomputable def q_X11_count_88 (w : XW) : Option XR := ev bs_X11_count 88 ([some (.inr (10, 0)), none], [], w)
noncomputable def q_X11_count_96 (w : XW) : Option XR := ev bs_X11_count 96 ([some (.inr (10, 0)), none], [], w)
noncomputable def q_X11_count_104 (w : XW) : Option XR := ev bs_X11_count 104 ([some (.inr (10, 0)), none], [], w)
noncomputable def q_X11_count_112 (w : XW) : Option XR := ev bs_X11_count 112 ([some (.inr (10, 0)), none], [], w)
noncomputable def q_X11_count_120 (w : XW) : Option XR := ev bs_X11_count 120 ([some (.inr (10, 0)), none], [], w)
noncomputable def q_X11_count_125 (w : XW) : Option XR := ev bs_X11_count 125 ([some (.inr (10, 0)), none], [], w)
noncomputable def q_X11_count_130 (w : XW) : Option XR := ev bs_X11_count 130 ([some (.inr (10, 0)), none], [], w)
noncomputable def q_X11_count_138 (w : XW) : Option XR := ev bs_X11_count 138 ([some (.inr (10, 0)), none], [], w)
noncomputable def q_X11_count_146 (w : XW) : Option XR := ev bs_X11_count 146 ([some (.inr (10, 0)), none], [], w)
noncomputable def q_X11_count_154 (w : XW) : Option XR := ev bs_X11_count 154 ([some (.inr (10, 0)), none], [], w)
noncomputable def q_X11_count_162 (w : XW) : Option XR := ev bs_X11_count 162 ([some (.inr (10, 0)), none], [], w)
noncomputable def q_X11_count_167 (w : XW) : Option XR := ev bs_X11_count 167 ([some (.inr (10, 0)), none], [], w)
noncomputable def q_X11_count_175 (w : XW) : Option XR := ev bs_X11_count 175 ([some (.inr (10, 0)), none], [], w)
noncomputable def q_X11_count_180 (w : XW) : Option XR := ev bs_X11_count 180 ([some (.inr (10, 0)), none], [], w)
noncomputable def q_X11_count_185 (w : XW) : Option XR := ev bs_X11_count 185 ([some (.inr (10, 0)), none], [], w)
noncomputable def q_X11_count_193 (w : XW) : Option XR := ev bs_X11_count 193 ([some (.inr (10, 0)), none], [], w)
theorem e_X11_count_0 (x1 : Int32) (w : XW) : q_X11_count_0 x1 w = (bif x1 == 0 then (q_X11_count_80 w) else (bif x1 == 1 then (q_X11_count_88 w) else (bif x1 == 2 then (q_X11_count_96 w) else (bif x1 == 3 then (q_X11_count_104 w) else (bif x1 == 4 then (q_X11_count_112 w) else (bif x1 == 5 then (q_X11_count_120 w) else (bif x1 == 6 then (q_X11_count_125 w) else (bif x1 == 7 then (q_X11_count_130 w) else (bif x1 == 8 then (q_X11_count_138 w) else (bif x1 == 9 then (q_X11_count_146 w) else (bif x1 == 10 then (q_X11_count_154 w) else (bif x1 == 11 then (q_X11_count_162 w) else (bif x1 == 12 then (q_X11_count_167 w) else (bif x1 == 13 then (q_X11_count_175 w) else (bif x1 == 14 then (q_X11_count_180 w) else (bif x1 == 15 then (q_X11_count_185 w) else (q_X11_count_193 w))))))))))))))))) := (ev_eq _ _ _).trans rfl
theorem e_X11_count_80 (w : XW) : q_X11_count_80 w = ((gR w 10 0 5).bind fun j0 => (some (some (.inl (.int (gI w 1 j0 1))), w))) := (ev_eq _ _ _).trans rfl
theorem e_X11_count_88 (w : XW) : q_X11_count_88 w = ((gR w 10 0 5).bind fun j0 => (some (some (.inl (.int (gI w 1 j0 2))), w))) := (ev_eq _ _ _).trans rfl
theorem e_X11_count_96 (w : XW) : q_X11_count_96 w = ((gR w 10 0 5).bind fun j0 => (some (some (.inl (.int (gI w 1 j0 3))), w))) := (ev_eq _ _ _).trans rfl
theorem e_X11_count_104 (w : XW) : q_X11_count_104 w = ((gR w 10 0 5).bind fun j0 => (some (some (.inl (.int (gI w 1 j0 4))), w))) := (ev_eq _ _ _).trans rfl
theorem e_X11_count_112 (w : XW) : q_X11_count_112 w = ((gR w 10 0 5).bind fun j0 => (some (some (.inl (.int (gI w 1 j0 5))), w))) := (ev_eq _ _ _).trans rfl
theorem e_X11_count_120 (w : XW) : q_X11_count_120 w = (some (some (.inl (.int (gI w 10 0 3))), w)) := (ev_eq _ _ _).trans rfl
theorem e_X11_count_125 (w : XW) : q_X11_count_125 w = (some (some (.inl (.int (gI w 10 0 4))), w)) := (ev_eq _ _ _).trans rfl
theorem e_X11_count_130 (w : XW) : q_X11_count_130 w = (some (some (.inl (.int (gI w 8 0 1))), w)) := (ev_eq _ _ _).trans rfl
theorem e_X11_count_138 (w : XW) : q_X11_count_138 w = ((F_X9_fullAll [.inr (8, 0)] w).bind fun r0 => (some (some (.inl (.int r0.1)), r0.2))) := (ev_eq _ _ _).trans rfl
theorem e_X11_count_146 (w : XW) : q_X11_count_146 w = ((F_X9_burntBits [.inr (8, 0)] w).bind fun r0 => (some (some (.inl (.int r0.1)), r0.2))) := (ev_eq _ _ _).trans rfl
theorem e_X11_count_154 (w : XW) : q_X11_count_154 w = ((F_X9_homeBits [.inr (8, 0)] w).bind fun r0 => (some (some (.inl (.int r0.1)), r0.2))) := (ev_eq _ _ _).trans rfl
theorem e_X11_count_162 (w : XW) : q_X11_count_162 w = ((F_X11_keptOffAll [.inr (10, 0)] w).bind fun r0 => (some (some (.inl (.int r0.1)), r0.2))) := (ev_eq _ _ _).trans rfl
theorem e_X11_count_167 (w : XW) : q_X11_count_167 w = (some (some (.inl (.int (gI w 4 0 0))), w)) := (ev_eq _ _ _).trans rfl
theorem e_X11_count_175 (w : XW) : q_X11_count_175 w = (some (some (.inl (.int (gI w 10 0 16))), w)) := (ev_eq _ _ _).trans rfl
theorem e_X11_count_180 (w : XW) : q_X11_count_180 w = (some (some (.inl (.int (gI w 10 0 12))), w)) := (ev_eq _ _ _).trans rfl
theorem e_X11_count_185 (w : XW) : q_X11_count_185 w = (some (some (.inl (.int (gI w 9 0 1))), w)) := (ev_eq _ _ _).trans rfl
theorem e_X11_count_193 (w : XW) : q_X11_count_193 w = (some (some (.inl (.int (-1))), w)) := (ev_eq _ _ _).trans rfl
theorem f_X11_count (x1 : Int32) (w : XW) : F_X11_count [.inr (10, 0), .inl (.int x1)] w = (q_X11_count_0 x1 w).bind pI := rfl

-- WinterKeep.ruleAt(I)LWinterKeep$Rule;
theorem dX11_ruleAt_0 : decode cX11_ruleAt 0 = .ok (.iload_n 1, 1) := by decide +kernel
theorem dX11_ruleAt_1 : decode cX11_ruleAt 1 = .ok (.iconst 0, 1) := by decide +kernel
theorem dX11_ruleAt_2 : decode cX11_ruleAt 2 = .ok (.aload_n 0, 1) := by decide +kernel
theorem dX11_ruleAt_3 : decode cX11_ruleAt 3 = .ok (.getfield 29, 3) := by decide +kernel
theorem dX11_ruleAt_6 : decode cX11_ruleAt 6 = .ok (.iconst 1, 1) := by decide +kernel
theorem dX11_ruleAt_7 : decode cX11_ruleAt 7 = .ok (.isub, 1) := by decide +kernel
theorem dX11_ruleAt_8 : decode cX11_ruleAt 8 = .ok (.invokestatic 170, 3) := by decide +kernel
theorem dX11_ruleAt_11 : decode cX11_ruleAt 11 = .ok (.ifCond .eq 12, 3) := by decide +kernel
theorem dX11_ruleAt_14 : decode cX11_ruleAt 14 = .ok (.aload_n 0, 1) := by decide +kernel
theorem dX11_ruleAt_15 : decode cX11_ruleAt 15 = .ok (.getfield 25, 3) := by decide +kernel
theorem dX11_ruleAt_18 : decode cX11_ruleAt 18 = .ok (.iload_n 1, 1) := by decide +kernel
theorem dX11_ruleAt_19 : decode cX11_ruleAt 19 = .ok (.aaload, 1) := by decide +kernel
theorem dX11_ruleAt_20 : decode cX11_ruleAt 20 = .ok (.goto 4, 3) := by decide +kernel
theorem dX11_ruleAt_23 : decode cX11_ruleAt 23 = .ok (.aconst_null, 1) := by decide +kernel
theorem dX11_ruleAt_24 : decode cX11_ruleAt 24 = .ok (.areturn, 1) := by decide +kernel
noncomputable def bs_X11_ruleAt : List (Nat × XB) := [
  (0, (sq (xLI 1) (sq (xC (.int 0)) (sq (xLA 0) (sq (xGI 10 3) (sq (xC (.int 1)) (sq (xI2 (· - ·)) (sq (xCI 99 3 F_X11_within) (tIf1 (fun x => decide (x = 0)) 23 [false, false] 14 [true, true]))))))))),
  (14, (sq (xLA 0) (sq (xGS 10 35 1 0) (sq (xLI 1) (sq (xARn 35 6 6) (tGo 24 [false, false])))))),
  (23, (sq (xC .null) (tGo 24 [false, false]))),
  (24, tRA)]
set_option maxRecDepth 100000 in
set_option maxHeartbeats 4000000 in
theorem s_X11_ruleAt : ∀ X : XCtx, XE X → X.2.2.1.1 = cX11_ruleAt → X.2.2.1.2.1 = 2 → X.2.2.1.2.2.1 = yX11_ruleAt.cls → X.2.2.1.2.2.2.1 = (some (.object "WinterKeep$Rule")) → X.1.2.2.2.1 = { frames := 1, cells := 0, slots := 0, locals := 22 } → SndBs X bs_X11_ruleAt := by
  rintro ⟨⟨p, l, e, R, s⟩, Y, ⟨cc, nL, own, ret, Ts⟩, Z⟩ hE h1 h2 h3 h4 h5
  dsimp only at h1 h2 h3 h4 h5
  subst h1 h2 h3 h4 h5
  exact ⟨(n_sq (n_iload_n hE dX11_ruleAt_0) (n_sq (n_iconst hE (by decide) dX11_ruleAt_1) (n_sq (n_aload_n hE dX11_ruleAt_2) (n_sq (n_getI hE xk_10 (k := 3) rfl (by decide) rfl wt_319 dX11_ruleAt_3) (n_sq (n_iconst hE (by decide) dX11_ruleAt_6) (n_sq (n_isub hE dX11_ruleAt_7) (n_sq (n_cIs hE m_X11_within vc_X11_170 (show 0 + 1 ≤ 1 ∧ 8 + (3 + 11) + 0 ≤ 22 by decide) dX11_ruleAt_8) (n_ifeq hE (by decide) dX11_ruleAt_11)))))))),
    (n_sq (n_aload_n hE dX11_ruleAt_14) (n_sq (n_getS hE xk_10 (k := 2) rfl (by decide) rfl wt_318 dX11_ruleAt_15) (n_sq (n_iload_n hE dX11_ruleAt_18) (n_sq (n_aald5n hE rfl (by decide) dX11_ruleAt_19) (n_goto hE (by decide) dX11_ruleAt_20))))),
    (n_sq (n_null hE dX11_ruleAt_23) n_fall),
    (n_areturn hE rfl dX11_ruleAt_24), trivial⟩
noncomputable def F_X11_ruleAt (as : List XV) (w : XW) : Option (Option Nat × XW) := (xF 2 bs_X11_ruleAt as w).bind (pR 6)
theorem m_X11_ruleAt : XM yX11_ruleAt cX11_ruleAt 2 (some (.object "WinterKeep$Rule")) 1 22 (eR 6 F_X11_ruleAt) := xm_R (xm_of (by decide) s_X11_ruleAt)
noncomputable def q_X11_ruleAt_0 (x1 : Int32) (w : XW) : Option XR := ev bs_X11_ruleAt 0 ([some (.inr (10, 0)), some (.inl (.int x1))], [], w)
noncomputable def q_X11_ruleAt_14 (x1 : Int32) (w : XW) : Option XR := ev bs_X11_ruleAt 14 ([some (.inr (10, 0)), some (.inl (.int x1))], [], w)
noncomputable def q_X11_ruleAt_23 (w : XW) : Option XR := ev bs_X11_ruleAt 23 ([none, none], [], w)
noncomputable def q_X11_ruleAt_24 (w : XW) : Option XR := ev bs_X11_ruleAt 24 ([none, none], [.inl .null], w)
noncomputable def q_X11_ruleAt_24a (s0 : Nat) (w : XW) : Option XR := ev bs_X11_ruleAt 24 ([none, none], [.inr (6, s0)], w)
theorem e_X11_ruleAt_0 (x1 : Int32) (w : XW) : q_X11_ruleAt_0 x1 w = ((F_X11_within [.inl (.int x1), .inl (.int 0), .inl (.int ((gI w 10 0 3) - 1))] w).bind fun r0 => (bif decide (r0.1 = 0) then (q_X11_ruleAt_23 r0.2) else (q_X11_ruleAt_14 x1 r0.2))) := (ev_eq _ _ _).trans rfl
theorem e_X11_ruleAt_14 (x1 : Int32) (w : XW) : q_X11_ruleAt_14 x1 w = (if x1 < 0 ∨ 6 ≤ x1.toNatClampNeg then none else (oR (gR w 35 0 x1.toNatClampNeg) (q_X11_ruleAt_24 w) fun j0 => (q_X11_ruleAt_24a j0 w))) := (ev_eq _ _ _).trans rfl
theorem e_X11_ruleAt_23 (w : XW) : q_X11_ruleAt_23 w = (q_X11_ruleAt_24 w) := (ev_eq _ _ _).trans rfl
theorem e_X11_ruleAt_24 (w : XW) : q_X11_ruleAt_24 w = (some (some (.inl .null), w)) := (ev_eq _ _ _).trans rfl
theorem e_X11_ruleAt_24a (s0 : Nat) (w : XW) : q_X11_ruleAt_24a s0 w = (some (some (.inr (6, s0)), w)) := (ev_eq _ _ _).trans rfl
theorem f_X11_ruleAt (x1 : Int32) (w : XW) : F_X11_ruleAt [.inr (10, 0), .inl (.int x1)] w = (q_X11_ruleAt_0 x1 w).bind (pR 6) := rfl

-- WinterKeep$Scene.copy(LWinterKeep$Scene;)V
theorem dX9_copy_0 : decode cX9_copy 0 = .ok (.aload_n 0, 1) := by decide +kernel
theorem dX9_copy_1 : decode cX9_copy 1 = .ok (.aload_n 1, 1) := by decide +kernel
theorem dX9_copy_2 : decode cX9_copy 2 = .ok (.getfield 9, 3) := by decide +kernel
theorem dX9_copy_5 : decode cX9_copy 5 = .ok (.putfield 9, 3) := by decide +kernel
theorem dX9_copy_8 : decode cX9_copy 8 = .ok (.aload_n 0, 1) := by decide +kernel
theorem dX9_copy_9 : decode cX9_copy 9 = .ok (.aload_n 1, 1) := by decide +kernel
theorem dX9_copy_10 : decode cX9_copy 10 = .ok (.getfield 15, 3) := by decide +kernel
theorem dX9_copy_13 : decode cX9_copy 13 = .ok (.putfield 15, 3) := by decide +kernel
theorem dX9_copy_16 : decode cX9_copy 16 = .ok (.iconst 0, 1) := by decide +kernel
theorem dX9_copy_17 : decode cX9_copy 17 = .ok (.istore_n 2, 1) := by decide +kernel
theorem dX9_copy_18 : decode cX9_copy 18 = .ok (.iload_n 2, 1) := by decide +kernel
theorem dX9_copy_19 : decode cX9_copy 19 = .ok (.bipush 6, 2) := by decide +kernel
theorem dX9_copy_21 : decode cX9_copy 21 = .ok (.if_icmp .ge 57, 3) := by decide +kernel
theorem dX9_copy_24 : decode cX9_copy 24 = .ok (.aload_n 0, 1) := by decide +kernel
theorem dX9_copy_25 : decode cX9_copy 25 = .ok (.getfield 18, 3) := by decide +kernel
theorem dX9_copy_28 : decode cX9_copy 28 = .ok (.iload_n 2, 1) := by decide +kernel
theorem dX9_copy_29 : decode cX9_copy 29 = .ok (.aload_n 1, 1) := by decide +kernel
theorem dX9_copy_30 : decode cX9_copy 30 = .ok (.getfield 18, 3) := by decide +kernel
theorem dX9_copy_33 : decode cX9_copy 33 = .ok (.iload_n 2, 1) := by decide +kernel
theorem dX9_copy_34 : decode cX9_copy 34 = .ok (.iaload, 1) := by decide +kernel
theorem dX9_copy_35 : decode cX9_copy 35 = .ok (.iastore, 1) := by decide +kernel
theorem dX9_copy_36 : decode cX9_copy 36 = .ok (.aload_n 0, 1) := by decide +kernel
theorem dX9_copy_37 : decode cX9_copy 37 = .ok (.getfield 22, 3) := by decide +kernel
theorem dX9_copy_40 : decode cX9_copy 40 = .ok (.iload_n 2, 1) := by decide +kernel
theorem dX9_copy_41 : decode cX9_copy 41 = .ok (.aload_n 1, 1) := by decide +kernel
theorem dX9_copy_42 : decode cX9_copy 42 = .ok (.getfield 22, 3) := by decide +kernel
theorem dX9_copy_45 : decode cX9_copy 45 = .ok (.iload_n 2, 1) := by decide +kernel
theorem dX9_copy_46 : decode cX9_copy 46 = .ok (.iaload, 1) := by decide +kernel
theorem dX9_copy_47 : decode cX9_copy 47 = .ok (.iastore, 1) := by decide +kernel
theorem dX9_copy_48 : decode cX9_copy 48 = .ok (.aload_n 0, 1) := by decide +kernel
theorem dX9_copy_49 : decode cX9_copy 49 = .ok (.getfield 25, 3) := by decide +kernel
theorem dX9_copy_52 : decode cX9_copy 52 = .ok (.iload_n 2, 1) := by decide +kernel
theorem dX9_copy_53 : decode cX9_copy 53 = .ok (.aload_n 1, 1) := by decide +kernel
theorem dX9_copy_54 : decode cX9_copy 54 = .ok (.getfield 25, 3) := by decide +kernel
theorem dX9_copy_57 : decode cX9_copy 57 = .ok (.iload_n 2, 1) := by decide +kernel
theorem dX9_copy_58 : decode cX9_copy 58 = .ok (.iaload, 1) := by decide +kernel
theorem dX9_copy_59 : decode cX9_copy 59 = .ok (.iastore, 1) := by decide +kernel
theorem dX9_copy_60 : decode cX9_copy 60 = .ok (.aload_n 0, 1) := by decide +kernel
theorem dX9_copy_61 : decode cX9_copy 61 = .ok (.getfield 28, 3) := by decide +kernel
theorem dX9_copy_64 : decode cX9_copy 64 = .ok (.iload_n 2, 1) := by decide +kernel
theorem dX9_copy_65 : decode cX9_copy 65 = .ok (.aload_n 1, 1) := by decide +kernel
theorem dX9_copy_66 : decode cX9_copy 66 = .ok (.getfield 28, 3) := by decide +kernel
theorem dX9_copy_69 : decode cX9_copy 69 = .ok (.iload_n 2, 1) := by decide +kernel
theorem dX9_copy_70 : decode cX9_copy 70 = .ok (.iaload, 1) := by decide +kernel
theorem dX9_copy_71 : decode cX9_copy 71 = .ok (.iastore, 1) := by decide +kernel
theorem dX9_copy_72 : decode cX9_copy 72 = .ok (.iinc 2 1, 3) := by decide +kernel
theorem dX9_copy_75 : decode cX9_copy 75 = .ok (.goto (-57), 3) := by decide +kernel
theorem dX9_copy_78 : decode cX9_copy 78 = .ok (.return_, 1) := by decide +kernel
noncomputable def bs_X9_copy : List (Nat × XB) := [
  (0, (sq (xLA 0) (sq (xLA 1) (sq (xGI 8 0) (sq (xPI 8 0) (sq (xLA 0) (sq (xLA 1) (sq (xGI 8 1) (sq (xPI 8 1) (sq (xC (.int 0)) (sq (xSI 2) (tGo 18 [true, true, true])))))))))))),
  (18, (sq (xLI 2) (sq (xC (.int 6)) (tIf2 (fun x y => decide (y ≤ x)) 78 [false, false, false] 24 [true, true, true])))),
  (24, (sq (xLA 0) (sq (xGS 8 30 0 0) (sq (xLI 2) (sq (xLA 1) (sq (xGS 8 30 0 0) (sq (xLI 2) (sq (xAI 30 6) (sq (xTI 30 6 (fun x => x)) (sq (xLA 0) (sq (xGS 8 31 0 0) (sq (xLI 2) (sq (xLA 1) (sq (xGS 8 31 0 0) (sq (xLI 2) (sq (xAI 31 6) (sq (xTI 31 6 (fun x => x)) (sq (xLA 0) (sq (xGS 8 32 0 0) (sq (xLI 2) (sq (xLA 1) (sq (xGS 8 32 0 0) (sq (xLI 2) (sq (xAI 32 6) (sq (xTI 32 6 (fun x => x)) (sq (xLA 0) (sq (xGS 8 33 0 0) (sq (xLI 2) (sq (xLA 1) (sq (xGS 8 33 0 0) (sq (xLI 2) (sq (xAI 33 6) (sq (xTI 33 6 (fun x => x)) (sq (xInc 2 1) (tGo 18 [true, true, true]))))))))))))))))))))))))))))))))))),
  (78, tRV)]
set_option maxRecDepth 100000 in
set_option maxHeartbeats 4000000 in
theorem s_X9_copy : ∀ X : XCtx, XE X → X.2.2.1.1 = cX9_copy → X.2.2.1.2.1 = 3 → X.2.2.1.2.2.1 = yX9_copy.cls → X.2.2.1.2.2.2.1 = none → X.1.2.2.2.1 = { frames := 0, cells := 0, slots := 0, locals := 0 } → SndBs X bs_X9_copy := by
  rintro ⟨⟨p, l, e, R, s⟩, Y, ⟨cc, nL, own, ret, Ts⟩, Z⟩ hE h1 h2 h3 h4 h5
  dsimp only at h1 h2 h3 h4 h5
  subst h1 h2 h3 h4 h5
  exact ⟨(n_sq (n_aload_n hE dX9_copy_0) (n_sq (n_aload_n hE dX9_copy_1) (n_sq (n_getI hE xk_8 (k := 0) rfl (by decide) rfl wt_173 dX9_copy_2) (n_sq (n_putI hE xk_8 (k := 0) rfl (by decide) rfl rfl (tyX9_ok 0 (by decide)) wt_173 dX9_copy_5) (n_sq (n_aload_n hE dX9_copy_8) (n_sq (n_aload_n hE dX9_copy_9) (n_sq (n_getI hE xk_8 (k := 1) rfl (by decide) rfl wt_175 dX9_copy_10) (n_sq (n_putI hE xk_8 (k := 1) rfl (by decide) rfl rfl (tyX9_ok 1 (by decide)) wt_175 dX9_copy_13) (n_sq (n_iconst hE (by decide) dX9_copy_16) (n_sq (n_istore_n hE (show (2 : Nat) < 3 by decide) dX9_copy_17) n_fall)))))))))),
    (n_sq (n_iload_n hE dX9_copy_18) (n_sq (n_bipush hE (by decide) dX9_copy_19) (n_ifcge hE (by decide) dX9_copy_21))),
    (n_sq (n_aload_n hE dX9_copy_24) (n_sq (n_getS hE xk_8 (k := 2) rfl (by decide) rfl wt_179 dX9_copy_25) (n_sq (n_iload_n hE dX9_copy_28) (n_sq (n_aload_n hE dX9_copy_29) (n_sq (n_getS hE xk_8 (k := 2) rfl (by decide) rfl wt_179 dX9_copy_30) (n_sq (n_iload_n hE dX9_copy_33) (n_sq (n_iald hE rfl (by decide) dX9_copy_34) (n_sq (n_iast hE rfl (by decide) dX9_copy_35) (n_sq (n_aload_n hE dX9_copy_36) (n_sq (n_getS hE xk_8 (k := 3) rfl (by decide) rfl wt_184 dX9_copy_37) (n_sq (n_iload_n hE dX9_copy_40) (n_sq (n_aload_n hE dX9_copy_41) (n_sq (n_getS hE xk_8 (k := 3) rfl (by decide) rfl wt_184 dX9_copy_42) (n_sq (n_iload_n hE dX9_copy_45) (n_sq (n_iald hE rfl (by decide) dX9_copy_46) (n_sq (n_iast hE rfl (by decide) dX9_copy_47) (n_sq (n_aload_n hE dX9_copy_48) (n_sq (n_getS hE xk_8 (k := 4) rfl (by decide) rfl wt_187 dX9_copy_49) (n_sq (n_iload_n hE dX9_copy_52) (n_sq (n_aload_n hE dX9_copy_53) (n_sq (n_getS hE xk_8 (k := 4) rfl (by decide) rfl wt_187 dX9_copy_54) (n_sq (n_iload_n hE dX9_copy_57) (n_sq (n_iald hE rfl (by decide) dX9_copy_58) (n_sq (n_iast hE rfl (by decide) dX9_copy_59) (n_sq (n_aload_n hE dX9_copy_60) (n_sq (n_getS hE xk_8 (k := 5) rfl (by decide) rfl wt_192 dX9_copy_61) (n_sq (n_iload_n hE dX9_copy_64) (n_sq (n_aload_n hE dX9_copy_65) (n_sq (n_getS hE xk_8 (k := 5) rfl (by decide) rfl wt_192 dX9_copy_66) (n_sq (n_iload_n hE dX9_copy_69) (n_sq (n_iald hE rfl (by decide) dX9_copy_70) (n_sq (n_iast hE rfl (by decide) dX9_copy_71) (n_sq (n_iinc hE (by decide) (show (2 : Nat) < 3 by decide) dX9_copy_72) (n_goto hE (by decide) dX9_copy_75)))))))))))))))))))))))))))))))))),
    (n_vreturn hE rfl dX9_copy_78), trivial⟩
noncomputable def F_X9_copy (as : List XV) (w : XW) : Option XW := (xF 3 bs_X9_copy as w).bind pV
theorem m_X9_copy : XM yX9_copy cX9_copy 3 none 0 0 (eV F_X9_copy) := xm_V (xm_of (by decide) s_X9_copy)
noncomputable def q_X9_copy_0 (i0 : Nat) (i1 : Nat) (w : XW) : Option XR := ev bs_X9_copy 0 ([some (.inr (8, i0)), some (.inr (8, i1)), none], [], w)
noncomputable def q_X9_copy_18 (i0 : Nat) (i1 : Nat) (x2 : Int32) (w : XW) : Option XR := ev bs_X9_copy 18 ([some (.inr (8, i0)), some (.inr (8, i1)), some (.inl (.int x2))], [], w)
noncomputable def q_X9_copy_24 (i0 : Nat) (i1 : Nat) (x2 : Int32) (w : XW) : Option XR := ev bs_X9_copy 24 ([some (.inr (8, i0)), some (.inr (8, i1)), some (.inl (.int x2))], [], w)
noncomputable def q_X9_copy_78 (w : XW) : Option XR := ev bs_X9_copy 78 ([none, none, none], [], w)
theorem e_X9_copy_0 (i0 : Nat) (i1 : Nat) (w : XW) : q_X9_copy_0 i0 i1 w = (q_X9_copy_18 i0 i1 0 (sI (sI w 8 i0 0 (gI w 8 i1 0)) 8 i0 1 (gI (sI w 8 i0 0 (gI w 8 i1 0)) 8 i1 1))) := (ev_eq _ _ _).trans rfl
theorem e_X9_copy_18 (i0 : Nat) (i1 : Nat) (x2 : Int32) (w : XW) : q_X9_copy_18 i0 i1 x2 w = (bif decide (6 ≤ x2) then (q_X9_copy_78 w) else (q_X9_copy_24 i0 i1 x2 w)) := (ev_eq _ _ _).trans rfl
theorem e_X9_copy_24 (i0 : Nat) (i1 : Nat) (x2 : Int32) (w : XW) : q_X9_copy_24 i0 i1 x2 w = (if x2 < 0 ∨ 6 ≤ x2.toNatClampNeg then none else (if x2 < 0 ∨ 6 ≤ x2.toNatClampNeg then none else (if x2 < 0 ∨ 6 ≤ x2.toNatClampNeg then none else (if x2 < 0 ∨ 6 ≤ x2.toNatClampNeg then none else (if x2 < 0 ∨ 6 ≤ x2.toNatClampNeg then none else (if x2 < 0 ∨ 6 ≤ x2.toNatClampNeg then none else (if x2 < 0 ∨ 6 ≤ x2.toNatClampNeg then none else (if x2 < 0 ∨ 6 ≤ x2.toNatClampNeg then none else (q_X9_copy_18 i0 i1 (x2 + 1) (sI (sI (sI (sI w 30 i0 x2.toNatClampNeg (gI w 30 i1 x2.toNatClampNeg)) 31 i0 x2.toNatClampNeg (gI (sI w 30 i0 x2.toNatClampNeg (gI w 30 i1 x2.toNatClampNeg)) 31 i1 x2.toNatClampNeg)) 32 i0 x2.toNatClampNeg (gI (sI (sI w 30 i0 x2.toNatClampNeg (gI w 30 i1 x2.toNatClampNeg)) 31 i0 x2.toNatClampNeg (gI (sI w 30 i0 x2.toNatClampNeg (gI w 30 i1 x2.toNatClampNeg)) 31 i1 x2.toNatClampNeg)) 32 i1 x2.toNatClampNeg)) 33 i0 x2.toNatClampNeg (gI (sI (sI (sI w 30 i0 x2.toNatClampNeg (gI w 30 i1 x2.toNatClampNeg)) 31 i0 x2.toNatClampNeg (gI (sI w 30 i0 x2.toNatClampNeg (gI w 30 i1 x2.toNatClampNeg)) 31 i1 x2.toNatClampNeg)) 32 i0 x2.toNatClampNeg (gI (sI (sI w 30 i0 x2.toNatClampNeg (gI w 30 i1 x2.toNatClampNeg)) 31 i0 x2.toNatClampNeg (gI (sI w 30 i0 x2.toNatClampNeg (gI w 30 i1 x2.toNatClampNeg)) 31 i1 x2.toNatClampNeg)) 32 i1 x2.toNatClampNeg)) 33 i1 x2.toNatClampNeg))))))))))) := (ev_eq _ _ _).trans rfl
theorem e_X9_copy_78 (w : XW) : q_X9_copy_78 w = (some (none, w)) := (ev_eq _ _ _).trans rfl
theorem f_X9_copy (i0 : Nat) (i1 : Nat) (w : XW) : F_X9_copy [.inr (8, i0), .inr (8, i1)] w = (q_X9_copy_0 i0 i1 w).bind pV := rfl

-- WinterKeep.remember()V
theorem dX11_remember_0 : decode cX11_remember 0 = .ok (.aload_n 0, 1) := by decide +kernel
theorem dX11_remember_1 : decode cX11_remember 1 = .ok (.getfield 90, 3) := by decide +kernel
theorem dX11_remember_4 : decode cX11_remember 4 = .ok (.aload_n 0, 1) := by decide +kernel
theorem dX11_remember_5 : decode cX11_remember 5 = .ok (.getfield 94, 3) := by decide +kernel
theorem dX11_remember_8 : decode cX11_remember 8 = .ok (.aaload, 1) := by decide +kernel
theorem dX11_remember_9 : decode cX11_remember 9 = .ok (.aload_n 0, 1) := by decide +kernel
theorem dX11_remember_10 : decode cX11_remember 10 = .ok (.getfield 46, 3) := by decide +kernel
theorem dX11_remember_13 : decode cX11_remember 13 = .ok (.invokevirtual 246, 3) := by decide +kernel
theorem dX11_remember_16 : decode cX11_remember 16 = .ok (.aload_n 0, 1) := by decide +kernel
theorem dX11_remember_17 : decode cX11_remember 17 = .ok (.aload_n 0, 1) := by decide +kernel
theorem dX11_remember_18 : decode cX11_remember 18 = .ok (.getfield 94, 3) := by decide +kernel
theorem dX11_remember_21 : decode cX11_remember 21 = .ok (.iconst 1, 1) := by decide +kernel
theorem dX11_remember_22 : decode cX11_remember 22 = .ok (.iadd, 1) := by decide +kernel
theorem dX11_remember_23 : decode cX11_remember 23 = .ok (.bipush 20, 2) := by decide +kernel
theorem dX11_remember_25 : decode cX11_remember 25 = .ok (.irem, 1) := by decide +kernel
theorem dX11_remember_26 : decode cX11_remember 26 = .ok (.putfield 94, 3) := by decide +kernel
theorem dX11_remember_29 : decode cX11_remember 29 = .ok (.aload_n 0, 1) := by decide +kernel
theorem dX11_remember_30 : decode cX11_remember 30 = .ok (.aload_n 0, 1) := by decide +kernel
theorem dX11_remember_31 : decode cX11_remember 31 = .ok (.getfield 97, 3) := by decide +kernel
theorem dX11_remember_34 : decode cX11_remember 34 = .ok (.iconst 1, 1) := by decide +kernel
theorem dX11_remember_35 : decode cX11_remember 35 = .ok (.iadd, 1) := by decide +kernel
theorem dX11_remember_36 : decode cX11_remember 36 = .ok (.bipush 20, 2) := by decide +kernel
theorem dX11_remember_38 : decode cX11_remember 38 = .ok (.invokestatic 222, 3) := by decide +kernel
theorem dX11_remember_41 : decode cX11_remember 41 = .ok (.putfield 97, 3) := by decide +kernel
theorem dX11_remember_44 : decode cX11_remember 44 = .ok (.return_, 1) := by decide +kernel
theorem vc_X11_246 : XVw RX11 246 1 8 3 yX9_copy cX9_copy none := ⟨RX9, TX9, tyX9, 6, xk_8, rfl, ⟨by decide, by decide⟩, by decide +kernel, wt_671, wt_672, wt_673, wt_5, wt_674⟩
noncomputable def bs_X11_remember : List (Nat × XB) := [
  (0, (sq (xLA 0) (sq (xGS 10 37 1 0) (sq (xLA 0) (sq (xGI 10 15) (sq (xAR 37 20 8) (sq (xLA 0) (sq (xGS 10 8 1 0) (sq (xCV 8 2 F_X9_copy) (sq (xLA 0) (sq (xLA 0) (sq (xGI 10 15) (sq (xC (.int 1)) (sq (xI2 (· + ·)) (sq (xC (.int 20)) (sq (xI2z (fun x y => x - x / y * y)) (sq (xPI 10 15) (sq (xLA 0) (sq (xLA 0) (sq (xGI 10 16) (sq (xC (.int 1)) (sq (xI2 (· + ·)) (sq (xC (.int 20)) (sq (xM2 (fun x y => if y < x then y else x)) (sq (xPI 10 16) tRV)))))))))))))))))))))))))]
set_option maxRecDepth 100000 in
set_option maxHeartbeats 4000000 in
theorem s_X11_remember : ∀ X : XCtx, XE X → X.2.2.1.1 = cX11_remember → X.2.2.1.2.1 = 1 → X.2.2.1.2.2.1 = yX11_remember.cls → X.2.2.1.2.2.2.1 = none → X.1.2.2.2.1 = { frames := 1, cells := 0, slots := 0, locals := 24 } → SndBs X bs_X11_remember := by
  rintro ⟨⟨p, l, e, R, s⟩, Y, ⟨cc, nL, own, ret, Ts⟩, Z⟩ hE h1 h2 h3 h4 h5
  dsimp only at h1 h2 h3 h4 h5
  subst h1 h2 h3 h4 h5
  exact ⟨(n_sq (n_aload_n hE dX11_remember_0) (n_sq (n_getS hE xk_10 (k := 14) rfl (by decide) rfl wt_330 dX11_remember_1) (n_sq (n_aload_n hE dX11_remember_4) (n_sq (n_getI hE xk_10 (k := 15) rfl (by decide) rfl wt_331 dX11_remember_5) (n_sq (n_aald6 hE rfl (by decide) dX11_remember_8) (n_sq (n_aload_n hE dX11_remember_9) (n_sq (n_getS hE xk_10 (k := 6) rfl (by decide) rfl wt_322 dX11_remember_10) (n_sq (n_cVv hE m_X9_copy vc_X11_246 (show 0 + 1 ≤ 1 ∧ 8 + (3 + 11) + 0 ≤ 24 by decide) dX11_remember_13) (n_sq (n_aload_n hE dX11_remember_16) (n_sq (n_aload_n hE dX11_remember_17) (n_sq (n_getI hE xk_10 (k := 15) rfl (by decide) rfl wt_331 dX11_remember_18) (n_sq (n_iconst hE (by decide) dX11_remember_21) (n_sq (n_iadd hE dX11_remember_22) (n_sq (n_bipush hE (by decide) dX11_remember_23) (n_sq (n_irem hE dX11_remember_25) (n_sq (n_putI hE xk_10 (k := 15) rfl (by decide) rfl rfl (tyX11_ok 15 (by decide)) wt_331 dX11_remember_26) (n_sq (n_aload_n hE dX11_remember_29) (n_sq (n_aload_n hE dX11_remember_30) (n_sq (n_getI hE xk_10 (k := 16) rfl (by decide) rfl wt_332 dX11_remember_31) (n_sq (n_iconst hE (by decide) dX11_remember_34) (n_sq (n_iadd hE dX11_remember_35) (n_sq (n_bipush hE (by decide) dX11_remember_36) (n_sq (n_mmin hE wt_638 wt_577 wt_19 wt_578 (show 1 ≤ 1 ∧ 24 ≤ 24 by decide) dX11_remember_38) (n_sq (n_putI hE xk_10 (k := 16) rfl (by decide) rfl rfl (tyX11_ok 16 (by decide)) wt_332 dX11_remember_41) (n_vreturn hE rfl dX11_remember_44))))))))))))))))))))))))), trivial⟩
noncomputable def F_X11_remember (as : List XV) (w : XW) : Option XW := (xF 1 bs_X11_remember as w).bind pV
theorem m_X11_remember : XM yX11_remember cX11_remember 1 none 1 24 (eV F_X11_remember) := xm_V (xm_of (by decide) s_X11_remember)
noncomputable def q_X11_remember_0 (w : XW) : Option XR := ev bs_X11_remember 0 ([some (.inr (10, 0))], [], w)
theorem e_X11_remember_0 (w : XW) : q_X11_remember_0 w = (if (gI w 10 0 15) < 0 ∨ 20 ≤ (gI w 10 0 15).toNatClampNeg then none else ((gR w 37 0 (gI w 10 0 15).toNatClampNeg).bind fun j0 => ((F_X9_copy [.inr (8, j0), .inr (8, 0)] w).bind fun r1 => (some (none, sI (sI r1 10 0 15 (((gI r1 10 0 15) + 1) - ((gI r1 10 0 15) + 1) / 20 * 20)) 10 0 16 (if 20 < ((gI (sI r1 10 0 15 (((gI r1 10 0 15) + 1) - ((gI r1 10 0 15) + 1) / 20 * 20)) 10 0 16) + 1) then 20 else ((gI (sI r1 10 0 15 (((gI r1 10 0 15) + 1) - ((gI r1 10 0 15) + 1) / 20 * 20)) 10 0 16) + 1))))))) := (ev_eq _ _ _).trans rfl
theorem f_X11_remember (w : XW) : F_X11_remember [.inr (10, 0)] w = (q_X11_remember_0 w).bind pV := rfl

-- WinterKeep$Nights.take(LWinterKeep$Dale;LWinterKeep$Rule;)V
theorem dX4_take_0 : decode cX4_take 0 = .ok (.aload_n 0, 1) := by decide +kernel
theorem dX4_take_1 : decode cX4_take 1 = .ok (.aload_n 1, 1) := by decide +kernel
theorem dX4_take_2 : decode cX4_take 2 = .ok (.putfield 9, 3) := by decide +kernel
theorem dX4_take_5 : decode cX4_take 5 = .ok (.aload_n 0, 1) := by decide +kernel
theorem dX4_take_6 : decode cX4_take 6 = .ok (.aload_n 2, 1) := by decide +kernel
theorem dX4_take_7 : decode cX4_take 7 = .ok (.putfield 15, 3) := by decide +kernel
theorem dX4_take_10 : decode cX4_take 10 = .ok (.iconst 0, 1) := by decide +kernel
theorem dX4_take_11 : decode cX4_take 11 = .ok (.istore_n 3, 1) := by decide +kernel
theorem dX4_take_12 : decode cX4_take 12 = .ok (.iload_n 3, 1) := by decide +kernel
theorem dX4_take_13 : decode cX4_take 13 = .ok (.iconst 5, 1) := by decide +kernel
theorem dX4_take_14 : decode cX4_take 14 = .ok (.if_icmp .ge 21, 3) := by decide +kernel
theorem dX4_take_17 : decode cX4_take 17 = .ok (.aload_n 0, 1) := by decide +kernel
theorem dX4_take_18 : decode cX4_take 18 = .ok (.getfield 19, 3) := by decide +kernel
theorem dX4_take_21 : decode cX4_take 21 = .ok (.iload_n 3, 1) := by decide +kernel
theorem dX4_take_22 : decode cX4_take 22 = .ok (.aload_n 1, 1) := by decide +kernel
theorem dX4_take_23 : decode cX4_take 23 = .ok (.getfield 37, 3) := by decide +kernel
theorem dX4_take_26 : decode cX4_take 26 = .ok (.iload_n 3, 1) := by decide +kernel
theorem dX4_take_27 : decode cX4_take 27 = .ok (.iaload, 1) := by decide +kernel
theorem dX4_take_28 : decode cX4_take 28 = .ok (.iastore, 1) := by decide +kernel
theorem dX4_take_29 : decode cX4_take 29 = .ok (.iinc 3 1, 3) := by decide +kernel
theorem dX4_take_32 : decode cX4_take 32 = .ok (.goto (-20), 3) := by decide +kernel
theorem dX4_take_35 : decode cX4_take 35 = .ok (.return_, 1) := by decide +kernel
noncomputable def bs_X4_take : List (Nat × XB) := [
  (0, (sq (xLA 0) (sq (xLA 1) (sq (xPD 3 0 1) (sq (xLA 0) (sq (xLA 2) (sq (xPD 3 1 6) (sq (xC (.int 0)) (sq (xSI 3) (tGo 12 [true, true, false, true])))))))))),
  (12, (sq (xLI 3) (sq (xC (.int 5)) (tIf2 (fun x y => decide (y ≤ x)) 35 [false, false, false, false] 17 [true, true, false, true])))),
  (17, (sq (xLA 0) (sq (xGS 3 19 0 0) (sq (xLI 3) (sq (xLA 1) (sq (xGS 1 17 0 0) (sq (xLI 3) (sq (xAI 17 5) (sq (xTI 19 5 (fun x => x)) (sq (xInc 3 1) (tGo 12 [true, true, false, true]))))))))))),
  (35, tRV)]
set_option maxRecDepth 100000 in
set_option maxHeartbeats 4000000 in
theorem s_X4_take : ∀ X : XCtx, XE X → X.2.2.1.1 = cX4_take → X.2.2.1.2.1 = 4 → X.2.2.1.2.2.1 = yX4_take.cls → X.2.2.1.2.2.2.1 = none → X.1.2.2.2.1 = { frames := 0, cells := 0, slots := 0, locals := 0 } → SndBs X bs_X4_take := by
  rintro ⟨⟨p, l, e, R, s⟩, Y, ⟨cc, nL, own, ret, Ts⟩, Z⟩ hE h1 h2 h3 h4 h5
  dsimp only at h1 h2 h3 h4 h5
  subst h1 h2 h3 h4 h5
  exact ⟨(n_sq (n_aload_n hE dX4_take_0) (n_sq (n_aload_n hE dX4_take_1) (n_sq (n_putD hE xk_3 (k := 0) rfl (by decide) rfl rfl (tyX4_ok 0 (by decide)) wt_215 dX4_take_2) (n_sq (n_aload_n hE dX4_take_5) (n_sq (n_aload_n hE dX4_take_6) (n_sq (n_putD hE xk_3 (k := 1) rfl (by decide) rfl rfl (tyX4_ok 1 (by decide)) wt_216 dX4_take_7) (n_sq (n_iconst hE (by decide) dX4_take_10) (n_sq (n_istore_n hE (show (3 : Nat) < 4 by decide) dX4_take_11) n_fall)))))))),
    (n_sq (n_iload_n hE dX4_take_12) (n_sq (n_iconst hE (by decide) dX4_take_13) (n_ifcge hE (by decide) dX4_take_14))),
    (n_sq (n_aload_n hE dX4_take_17) (n_sq (n_getS hE xk_3 (k := 2) rfl (by decide) rfl wt_217 dX4_take_18) (n_sq (n_iload_n hE dX4_take_21) (n_sq (n_aload_n hE dX4_take_22) (n_sq (n_getS hE xk_1 (k := 10) rfl (by decide) rfl wt_135 dX4_take_23) (n_sq (n_iload_n hE dX4_take_26) (n_sq (n_iald hE rfl (by decide) dX4_take_27) (n_sq (n_iast hE rfl (by decide) dX4_take_28) (n_sq (n_iinc hE (by decide) (show (3 : Nat) < 4 by decide) dX4_take_29) (n_goto hE (by decide) dX4_take_32)))))))))),
    (n_vreturn hE rfl dX4_take_35), trivial⟩
noncomputable def F_X4_take (as : List XV) (w : XW) : Option XW := (xF 4 bs_X4_take as w).bind pV
theorem m_X4_take : XM yX4_take cX4_take 4 none 0 0 (eV F_X4_take) := xm_V (xm_of (by decide) s_X4_take)
noncomputable def q_X4_take_0 (i1 : Nat) (i2 : Nat) (w : XW) : Option XR := ev bs_X4_take 0 ([some (.inr (3, 0)), some (.inr (1, i1)), some (.inr (6, i2)), none], [], w)
noncomputable def q_X4_take_0a (i1 : Nat) (w : XW) : Option XR := ev bs_X4_take 0 ([some (.inr (3, 0)), some (.inr (1, i1)), some (.inl .null), none], [], w)
noncomputable def q_X4_take_12 (i1 : Nat) (x3 : Int32) (w : XW) : Option XR := ev bs_X4_take 12 ([some (.inr (3, 0)), some (.inr (1, i1)), none, some (.inl (.int x3))], [], w)
noncomputable def q_X4_take_17 (i1 : Nat) (x3 : Int32) (w : XW) : Option XR := ev bs_X4_take 17 ([some (.inr (3, 0)), some (.inr (1, i1)), none, some (.inl (.int x3))], [], w)
noncomputable def q_X4_take_35 (w : XW) : Option XR := ev bs_X4_take 35 ([none, none, none, none], [], w)
theorem e_X4_take_0 (i1 : Nat) (i2 : Nat) (w : XW) : q_X4_take_0 i1 i2 w = (q_X4_take_12 i1 0 (sR (sR w 3 0 0 (some i1)) 3 0 1 (some i2))) := (ev_eq _ _ _).trans rfl
theorem e_X4_take_0a (i1 : Nat) (w : XW) : q_X4_take_0a i1 w = (q_X4_take_12 i1 0 (sR (sR w 3 0 0 (some i1)) 3 0 1 none)) := (ev_eq _ _ _).trans rfl
theorem e_X4_take_12 (i1 : Nat) (x3 : Int32) (w : XW) : q_X4_take_12 i1 x3 w = (bif decide (5 ≤ x3) then (q_X4_take_35 w) else (q_X4_take_17 i1 x3 w)) := (ev_eq _ _ _).trans rfl
theorem e_X4_take_17 (i1 : Nat) (x3 : Int32) (w : XW) : q_X4_take_17 i1 x3 w = (if x3 < 0 ∨ 5 ≤ x3.toNatClampNeg then none else (if x3 < 0 ∨ 5 ≤ x3.toNatClampNeg then none else (q_X4_take_12 i1 (x3 + 1) (sI w 19 0 x3.toNatClampNeg (gI w 17 i1 x3.toNatClampNeg))))) := (ev_eq _ _ _).trans rfl
theorem e_X4_take_35 (w : XW) : q_X4_take_35 w = (some (none, w)) := (ev_eq _ _ _).trans rfl
theorem f_X4_take (i1 : Nat) (i2 : Nat) (w : XW) : F_X4_take [.inr (3, 0), .inr (1, i1), .inr (6, i2)] w = (q_X4_take_0 i1 i2 w).bind pV := rfl
theorem f_X4_takea (i1 : Nat) (w : XW) : F_X4_take [.inr (3, 0), .inr (1, i1), .inl .null] w = (q_X4_take_0a i1 w).bind pV := rfl

-- java/lang/Integer.bitCount(I)I
theorem dJ6_bitCount_0f7a4_0 : decode cJ6_bitCount_0f7a4 0 = .ok (.iload_n 0, 1) := by decide +kernel
theorem dJ6_bitCount_0f7a4_1 : decode cJ6_bitCount_0f7a4 1 = .ok (.iload_n 0, 1) := by decide +kernel
theorem dJ6_bitCount_0f7a4_2 : decode cJ6_bitCount_0f7a4 2 = .ok (.iconst 1, 1) := by decide +kernel
theorem dJ6_bitCount_0f7a4_3 : decode cJ6_bitCount_0f7a4 3 = .ok (.iushr, 1) := by decide +kernel
theorem dJ6_bitCount_0f7a4_4 : decode cJ6_bitCount_0f7a4 4 = .ok (.ldc_w 265, 3) := by decide +kernel
theorem dJ6_bitCount_0f7a4_7 : decode cJ6_bitCount_0f7a4 7 = .ok (.iand, 1) := by decide +kernel
theorem dJ6_bitCount_0f7a4_8 : decode cJ6_bitCount_0f7a4 8 = .ok (.isub, 1) := by decide +kernel
theorem dJ6_bitCount_0f7a4_9 : decode cJ6_bitCount_0f7a4 9 = .ok (.istore_n 0, 1) := by decide +kernel
theorem dJ6_bitCount_0f7a4_10 : decode cJ6_bitCount_0f7a4 10 = .ok (.iload_n 0, 1) := by decide +kernel
theorem dJ6_bitCount_0f7a4_11 : decode cJ6_bitCount_0f7a4 11 = .ok (.ldc_w 266, 3) := by decide +kernel
theorem dJ6_bitCount_0f7a4_14 : decode cJ6_bitCount_0f7a4 14 = .ok (.iand, 1) := by decide +kernel
theorem dJ6_bitCount_0f7a4_15 : decode cJ6_bitCount_0f7a4 15 = .ok (.iload_n 0, 1) := by decide +kernel
theorem dJ6_bitCount_0f7a4_16 : decode cJ6_bitCount_0f7a4 16 = .ok (.iconst 2, 1) := by decide +kernel
theorem dJ6_bitCount_0f7a4_17 : decode cJ6_bitCount_0f7a4 17 = .ok (.iushr, 1) := by decide +kernel
theorem dJ6_bitCount_0f7a4_18 : decode cJ6_bitCount_0f7a4 18 = .ok (.ldc_w 266, 3) := by decide +kernel
theorem dJ6_bitCount_0f7a4_21 : decode cJ6_bitCount_0f7a4 21 = .ok (.iand, 1) := by decide +kernel
theorem dJ6_bitCount_0f7a4_22 : decode cJ6_bitCount_0f7a4 22 = .ok (.iadd, 1) := by decide +kernel
theorem dJ6_bitCount_0f7a4_23 : decode cJ6_bitCount_0f7a4 23 = .ok (.istore_n 0, 1) := by decide +kernel
theorem dJ6_bitCount_0f7a4_24 : decode cJ6_bitCount_0f7a4 24 = .ok (.iload_n 0, 1) := by decide +kernel
theorem dJ6_bitCount_0f7a4_25 : decode cJ6_bitCount_0f7a4 25 = .ok (.iload_n 0, 1) := by decide +kernel
theorem dJ6_bitCount_0f7a4_26 : decode cJ6_bitCount_0f7a4 26 = .ok (.iconst 4, 1) := by decide +kernel
theorem dJ6_bitCount_0f7a4_27 : decode cJ6_bitCount_0f7a4 27 = .ok (.iushr, 1) := by decide +kernel
theorem dJ6_bitCount_0f7a4_28 : decode cJ6_bitCount_0f7a4 28 = .ok (.iadd, 1) := by decide +kernel
theorem dJ6_bitCount_0f7a4_29 : decode cJ6_bitCount_0f7a4 29 = .ok (.ldc_w 267, 3) := by decide +kernel
theorem dJ6_bitCount_0f7a4_32 : decode cJ6_bitCount_0f7a4 32 = .ok (.iand, 1) := by decide +kernel
theorem dJ6_bitCount_0f7a4_33 : decode cJ6_bitCount_0f7a4 33 = .ok (.istore_n 0, 1) := by decide +kernel
theorem dJ6_bitCount_0f7a4_34 : decode cJ6_bitCount_0f7a4 34 = .ok (.iload_n 0, 1) := by decide +kernel
theorem dJ6_bitCount_0f7a4_35 : decode cJ6_bitCount_0f7a4 35 = .ok (.iload_n 0, 1) := by decide +kernel
theorem dJ6_bitCount_0f7a4_36 : decode cJ6_bitCount_0f7a4 36 = .ok (.bipush 8, 2) := by decide +kernel
theorem dJ6_bitCount_0f7a4_38 : decode cJ6_bitCount_0f7a4 38 = .ok (.iushr, 1) := by decide +kernel
theorem dJ6_bitCount_0f7a4_39 : decode cJ6_bitCount_0f7a4 39 = .ok (.iadd, 1) := by decide +kernel
theorem dJ6_bitCount_0f7a4_40 : decode cJ6_bitCount_0f7a4 40 = .ok (.istore_n 0, 1) := by decide +kernel
theorem dJ6_bitCount_0f7a4_41 : decode cJ6_bitCount_0f7a4 41 = .ok (.iload_n 0, 1) := by decide +kernel
theorem dJ6_bitCount_0f7a4_42 : decode cJ6_bitCount_0f7a4 42 = .ok (.iload_n 0, 1) := by decide +kernel
theorem dJ6_bitCount_0f7a4_43 : decode cJ6_bitCount_0f7a4 43 = .ok (.bipush 16, 2) := by decide +kernel
theorem dJ6_bitCount_0f7a4_45 : decode cJ6_bitCount_0f7a4 45 = .ok (.iushr, 1) := by decide +kernel
theorem dJ6_bitCount_0f7a4_46 : decode cJ6_bitCount_0f7a4 46 = .ok (.iadd, 1) := by decide +kernel
theorem dJ6_bitCount_0f7a4_47 : decode cJ6_bitCount_0f7a4 47 = .ok (.istore_n 0, 1) := by decide +kernel
theorem dJ6_bitCount_0f7a4_48 : decode cJ6_bitCount_0f7a4 48 = .ok (.iload_n 0, 1) := by decide +kernel
theorem dJ6_bitCount_0f7a4_49 : decode cJ6_bitCount_0f7a4 49 = .ok (.bipush 63, 2) := by decide +kernel
theorem dJ6_bitCount_0f7a4_51 : decode cJ6_bitCount_0f7a4 51 = .ok (.iand, 1) := by decide +kernel
theorem dJ6_bitCount_0f7a4_52 : decode cJ6_bitCount_0f7a4 52 = .ok (.ireturn, 1) := by decide +kernel
noncomputable def bs_J6_bitCount_0f7a4 : List (Nat × XB) := [
  (0, (sq (xLI 0) (sq (xLI 0) (sq (xC (.int 1)) (sq (xI2 (fun x y => (x.toUInt32 >>> (y.toUInt32 &&& Int32.toUInt32 31)).toInt32)) (sq (xC (.int 1431655765)) (sq (xI2 (· &&& ·)) (sq (xI2 (· - ·)) (sq (xSI 0) (sq (xLI 0) (sq (xC (.int 858993459)) (sq (xI2 (· &&& ·)) (sq (xLI 0) (sq (xC (.int 2)) (sq (xI2 (fun x y => (x.toUInt32 >>> (y.toUInt32 &&& Int32.toUInt32 31)).toInt32)) (sq (xC (.int 858993459)) (sq (xI2 (· &&& ·)) (sq (xI2 (· + ·)) (sq (xSI 0) (sq (xLI 0) (sq (xLI 0) (sq (xC (.int 4)) (sq (xI2 (fun x y => (x.toUInt32 >>> (y.toUInt32 &&& Int32.toUInt32 31)).toInt32)) (sq (xI2 (· + ·)) (sq (xC (.int 252645135)) (sq (xI2 (· &&& ·)) (sq (xSI 0) (sq (xLI 0) (sq (xLI 0) (sq (xC (.int 8)) (sq (xI2 (fun x y => (x.toUInt32 >>> (y.toUInt32 &&& Int32.toUInt32 31)).toInt32)) (sq (xI2 (· + ·)) (sq (xSI 0) (sq (xLI 0) (sq (xLI 0) (sq (xC (.int 16)) (sq (xI2 (fun x y => (x.toUInt32 >>> (y.toUInt32 &&& Int32.toUInt32 31)).toInt32)) (sq (xI2 (· + ·)) (sq (xSI 0) (sq (xLI 0) (sq (xC (.int 63)) (sq (xI2 (· &&& ·)) tRI))))))))))))))))))))))))))))))))))))))))))]
set_option maxRecDepth 100000 in
set_option maxHeartbeats 4000000 in
theorem s_J6_bitCount_0f7a4 : ∀ X : XCtx, XE X → X.2.2.1.1 = cJ6_bitCount_0f7a4 → X.2.2.1.2.1 = 1 → X.2.2.1.2.2.1 = yJ6_bitCount_0f7a4.cls → X.2.2.1.2.2.2.1 = (some .int) → X.1.2.2.2.1 = { frames := 0, cells := 0, slots := 0, locals := 0 } → SndBs X bs_J6_bitCount_0f7a4 := by
  rintro ⟨⟨p, l, e, R, s⟩, Y, ⟨cc, nL, own, ret, Ts⟩, Z⟩ hE h1 h2 h3 h4 h5
  dsimp only at h1 h2 h3 h4 h5
  subst h1 h2 h3 h4 h5
  exact ⟨(n_sq (n_iload_n hE dJ6_bitCount_0f7a4_0) (n_sq (n_iload_n hE dJ6_bitCount_0f7a4_1) (n_sq (n_iconst hE (by decide) dJ6_bitCount_0f7a4_2) (n_sq (n_iushr hE dJ6_bitCount_0f7a4_3) (n_sq (n_ldcw hE wt_692 dJ6_bitCount_0f7a4_4) (n_sq (n_iand hE dJ6_bitCount_0f7a4_7) (n_sq (n_isub hE dJ6_bitCount_0f7a4_8) (n_sq (n_istore_n hE (show (0 : Nat) < 1 by decide) dJ6_bitCount_0f7a4_9) (n_sq (n_iload_n hE dJ6_bitCount_0f7a4_10) (n_sq (n_ldcw hE wt_693 dJ6_bitCount_0f7a4_11) (n_sq (n_iand hE dJ6_bitCount_0f7a4_14) (n_sq (n_iload_n hE dJ6_bitCount_0f7a4_15) (n_sq (n_iconst hE (by decide) dJ6_bitCount_0f7a4_16) (n_sq (n_iushr hE dJ6_bitCount_0f7a4_17) (n_sq (n_ldcw hE wt_693 dJ6_bitCount_0f7a4_18) (n_sq (n_iand hE dJ6_bitCount_0f7a4_21) (n_sq (n_iadd hE dJ6_bitCount_0f7a4_22) (n_sq (n_istore_n hE (show (0 : Nat) < 1 by decide) dJ6_bitCount_0f7a4_23) (n_sq (n_iload_n hE dJ6_bitCount_0f7a4_24) (n_sq (n_iload_n hE dJ6_bitCount_0f7a4_25) (n_sq (n_iconst hE (by decide) dJ6_bitCount_0f7a4_26) (n_sq (n_iushr hE dJ6_bitCount_0f7a4_27) (n_sq (n_iadd hE dJ6_bitCount_0f7a4_28) (n_sq (n_ldcw hE wt_694 dJ6_bitCount_0f7a4_29) (n_sq (n_iand hE dJ6_bitCount_0f7a4_32) (n_sq (n_istore_n hE (show (0 : Nat) < 1 by decide) dJ6_bitCount_0f7a4_33) (n_sq (n_iload_n hE dJ6_bitCount_0f7a4_34) (n_sq (n_iload_n hE dJ6_bitCount_0f7a4_35) (n_sq (n_bipush hE (by decide) dJ6_bitCount_0f7a4_36) (n_sq (n_iushr hE dJ6_bitCount_0f7a4_38) (n_sq (n_iadd hE dJ6_bitCount_0f7a4_39) (n_sq (n_istore_n hE (show (0 : Nat) < 1 by decide) dJ6_bitCount_0f7a4_40) (n_sq (n_iload_n hE dJ6_bitCount_0f7a4_41) (n_sq (n_iload_n hE dJ6_bitCount_0f7a4_42) (n_sq (n_bipush hE (by decide) dJ6_bitCount_0f7a4_43) (n_sq (n_iushr hE dJ6_bitCount_0f7a4_45) (n_sq (n_iadd hE dJ6_bitCount_0f7a4_46) (n_sq (n_istore_n hE (show (0 : Nat) < 1 by decide) dJ6_bitCount_0f7a4_47) (n_sq (n_iload_n hE dJ6_bitCount_0f7a4_48) (n_sq (n_bipush hE (by decide) dJ6_bitCount_0f7a4_49) (n_sq (n_iand hE dJ6_bitCount_0f7a4_51) (n_ireturn hE rfl dJ6_bitCount_0f7a4_52)))))))))))))))))))))))))))))))))))))))))), trivial⟩
noncomputable def F_J6_bitCount_0f7a4 (as : List XV) (w : XW) : Option (Int32 × XW) := (xF 1 bs_J6_bitCount_0f7a4 as w).bind pI
theorem m_J6_bitCount_0f7a4 : XM yJ6_bitCount_0f7a4 cJ6_bitCount_0f7a4 1 (some .int) 0 0 (eI F_J6_bitCount_0f7a4) := xm_I (xm_of (by decide) s_J6_bitCount_0f7a4)
noncomputable def q_J6_bitCount_0f7a4_0 (x0 : Int32) (w : XW) : Option XR := ev bs_J6_bitCount_0f7a4 0 ([some (.inl (.int x0))], [], w)
theorem e_J6_bitCount_0f7a4_0 (x0 : Int32) (w : XW) : q_J6_bitCount_0f7a4_0 x0 w = (some (some (.inl (.int ((((((((x0 - (((x0 : Int32).toUInt32 >>> ((1 : Int32).toUInt32 &&& Int32.toUInt32 31)).toInt32 &&& 1431655765)) &&& 858993459) + ((((x0 - (((x0 : Int32).toUInt32 >>> ((1 : Int32).toUInt32 &&& Int32.toUInt32 31)).toInt32 &&& 1431655765)) : Int32).toUInt32 >>> ((2 : Int32).toUInt32 &&& Int32.toUInt32 31)).toInt32 &&& 858993459)) + (((((x0 - (((x0 : Int32).toUInt32 >>> ((1 : Int32).toUInt32 &&& Int32.toUInt32 31)).toInt32 &&& 1431655765)) &&& 858993459) + ((((x0 - (((x0 : Int32).toUInt32 >>> ((1 : Int32).toUInt32 &&& Int32.toUInt32 31)).toInt32 &&& 1431655765)) : Int32).toUInt32 >>> ((2 : Int32).toUInt32 &&& Int32.toUInt32 31)).toInt32 &&& 858993459)) : Int32).toUInt32 >>> ((4 : Int32).toUInt32 &&& Int32.toUInt32 31)).toInt32) &&& 252645135) + (((((((x0 - (((x0 : Int32).toUInt32 >>> ((1 : Int32).toUInt32 &&& Int32.toUInt32 31)).toInt32 &&& 1431655765)) &&& 858993459) + ((((x0 - (((x0 : Int32).toUInt32 >>> ((1 : Int32).toUInt32 &&& Int32.toUInt32 31)).toInt32 &&& 1431655765)) : Int32).toUInt32 >>> ((2 : Int32).toUInt32 &&& Int32.toUInt32 31)).toInt32 &&& 858993459)) + (((((x0 - (((x0 : Int32).toUInt32 >>> ((1 : Int32).toUInt32 &&& Int32.toUInt32 31)).toInt32 &&& 1431655765)) &&& 858993459) + ((((x0 - (((x0 : Int32).toUInt32 >>> ((1 : Int32).toUInt32 &&& Int32.toUInt32 31)).toInt32 &&& 1431655765)) : Int32).toUInt32 >>> ((2 : Int32).toUInt32 &&& Int32.toUInt32 31)).toInt32 &&& 858993459)) : Int32).toUInt32 >>> ((4 : Int32).toUInt32 &&& Int32.toUInt32 31)).toInt32) &&& 252645135) : Int32).toUInt32 >>> ((8 : Int32).toUInt32 &&& Int32.toUInt32 31)).toInt32) + ((((((((x0 - (((x0 : Int32).toUInt32 >>> ((1 : Int32).toUInt32 &&& Int32.toUInt32 31)).toInt32 &&& 1431655765)) &&& 858993459) + ((((x0 - (((x0 : Int32).toUInt32 >>> ((1 : Int32).toUInt32 &&& Int32.toUInt32 31)).toInt32 &&& 1431655765)) : Int32).toUInt32 >>> ((2 : Int32).toUInt32 &&& Int32.toUInt32 31)).toInt32 &&& 858993459)) + (((((x0 - (((x0 : Int32).toUInt32 >>> ((1 : Int32).toUInt32 &&& Int32.toUInt32 31)).toInt32 &&& 1431655765)) &&& 858993459) + ((((x0 - (((x0 : Int32).toUInt32 >>> ((1 : Int32).toUInt32 &&& Int32.toUInt32 31)).toInt32 &&& 1431655765)) : Int32).toUInt32 >>> ((2 : Int32).toUInt32 &&& Int32.toUInt32 31)).toInt32 &&& 858993459)) : Int32).toUInt32 >>> ((4 : Int32).toUInt32 &&& Int32.toUInt32 31)).toInt32) &&& 252645135) + (((((((x0 - (((x0 : Int32).toUInt32 >>> ((1 : Int32).toUInt32 &&& Int32.toUInt32 31)).toInt32 &&& 1431655765)) &&& 858993459) + ((((x0 - (((x0 : Int32).toUInt32 >>> ((1 : Int32).toUInt32 &&& Int32.toUInt32 31)).toInt32 &&& 1431655765)) : Int32).toUInt32 >>> ((2 : Int32).toUInt32 &&& Int32.toUInt32 31)).toInt32 &&& 858993459)) + (((((x0 - (((x0 : Int32).toUInt32 >>> ((1 : Int32).toUInt32 &&& Int32.toUInt32 31)).toInt32 &&& 1431655765)) &&& 858993459) + ((((x0 - (((x0 : Int32).toUInt32 >>> ((1 : Int32).toUInt32 &&& Int32.toUInt32 31)).toInt32 &&& 1431655765)) : Int32).toUInt32 >>> ((2 : Int32).toUInt32 &&& Int32.toUInt32 31)).toInt32 &&& 858993459)) : Int32).toUInt32 >>> ((4 : Int32).toUInt32 &&& Int32.toUInt32 31)).toInt32) &&& 252645135) : Int32).toUInt32 >>> ((8 : Int32).toUInt32 &&& Int32.toUInt32 31)).toInt32) : Int32).toUInt32 >>> ((16 : Int32).toUInt32 &&& Int32.toUInt32 31)).toInt32) &&& 63))), w)) := (ev_eq _ _ _).trans rfl
theorem f_J6_bitCount_0f7a4 (x0 : Int32) (w : XW) : F_J6_bitCount_0f7a4 [.inl (.int x0)] w = (q_J6_bitCount_0f7a4_0 x0 w).bind pI := rfl
