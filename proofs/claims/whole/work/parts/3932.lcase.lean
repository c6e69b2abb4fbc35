/-! ===== the law, call by call ===== -/
theorem law_feed {p : Program} {l : Launch} {e : Env} {s : State} {m : MethodId} {below : List Frame} {meth : Method} {c : Code} {b L k : Nat} {xs : Nat → Int32} {D : va_G} {cy : Nat → ClassId} {ad : Nat → Nat → Nat} {cnt : Nat → Nat} {w : XW} {H : Heap} {locs : List Loc} {ls : Array Slot} {cs sl : Nat} {Q : State → Prop} (hC : LwC p s m c b L xs D cy) (hk : 6 * k + 6 ≤ L) (hs : LwS s D cy b k ad cnt w H locs ls) (hcs : cs ≤ 600000) (hsl : sl ≤ 7302250)
    (kk : ∀ (w2 : XW) (H1 : Heap) (locs1 : List Loc), LwS s D cy b k ad cnt w2 H1 locs1 ls → W p l e room_1 s m #[Value.ref b] below meth c H1 locs1 cs sl Q (F0 m 1223 ls [])) : W p l e room_1 s m #[Value.ref b] below meth c H locs cs sl Q (F0 m 188 ls []) := by
  obtain ⟨hx, hb, hml, hown, hts, hX, hbl, hK, hL⟩ := hC
  obtain ⟨hH, hO, hG, hZ, hS, hl, hR, hc⟩ := hs
  have hbA : ¬ lA s b := Nat.not_le.mpr hbl
  obtain ⟨a, w1, w2, x1, x2, hR2⟩ := st_feed hR (xs (6 * k + 1)) (xs (6 * k + 2)) (xs (6 * k + 3)) (xs (6 * k + 4)) (xs (6 * k + 5))
  refine lv_aload_n hx hb dL_188 rfl (lv_at hl 2 rfl) ?_
  refine w_arg (j := 1) (v := 1) hx hb hX hbl hbA hS hl hk hL (by decide) rfl (by decide) dL_189 dL_190 dL_191 dL_192 dL_193 ?_
  refine w_arg (j := 2) (v := 2) hx hb hX hbl hbA hS hl hk hL (by decide) rfl (by decide) dL_194 dL_195 dL_196 dL_197 dL_198 ?_
  refine w_arg (j := 3) (v := 3) hx hb hX hbl hbA hS hl hk hL (by decide) rfl (by decide) dL_199 dL_200 dL_201 dL_202 dL_203 ?_
  refine w_arg (j := 4) (v := 4) hx hb hX hbl hbA hS hl hk hL (by decide) rfl (by decide) dL_204 dL_205 dL_206 dL_207 dL_208 ?_
  refine w_arg (j := 5) (v := 5) hx hb hX hbl hbA hS hl hk hL (by decide) rfl (by decide) dL_209 dL_210 dL_211 dL_212 dL_213 ?_
  refine y_vcall (nL := 4) (as := [.inl (.int (xs (6 * k + 1))), .inl (.int (xs (6 * k + 2))), .inl (.int (xs (6 * k + 3))), .inl (.int (xs (6 * k + 4))), .inl (.int (xs (6 * k + 5)))]) (i := 0) (rest := []) (rr := (some (.inl (.int a)), w1)) hx hb hml hown hts lw_oki hK hG hZ hH hO hS hl.1 hcs hsl m_X11_feed vL_13 ⟨Nat.le_of_ble_eq_true rfl, Nat.le_of_ble_eq_true rfl⟩ dL_214 rfl ⟨hc.2.2.2.1, trivial, trivial, trivial, trivial, trivial, trivial⟩ (Nat.le_of_ble_eq_true rfl) (by unfold eI; rw [x1]; rfl) (fun H locs hH hO _ hS => ?_)
  refine lv_aload_n hx hb dL_217 rfl (lv_at hl 1 rfl) ?_
  refine w_arg (j := 1) (v := 1) hx hb hX hbl hbA hS hl hk hL (by decide) rfl (by decide) dL_218 dL_219 dL_220 dL_221 dL_222 ?_
  refine w_arg (j := 2) (v := 2) hx hb hX hbl hbA hS hl hk hL (by decide) rfl (by decide) dL_223 dL_224 dL_225 dL_226 dL_227 ?_
  refine w_arg (j := 3) (v := 3) hx hb hX hbl hbA hS hl hk hL (by decide) rfl (by decide) dL_228 dL_229 dL_230 dL_231 dL_232 ?_
  refine w_arg (j := 4) (v := 4) hx hb hX hbl hbA hS hl hk hL (by decide) rfl (by decide) dL_233 dL_234 dL_235 dL_236 dL_237 ?_
  refine w_arg (j := 5) (v := 5) hx hb hX hbl hbA hS hl hk hL (by decide) rfl (by decide) dL_238 dL_239 dL_240 dL_241 dL_242 ?_
  refine y_vcall (nL := 4) (as := [.inl (.int (xs (6 * k + 1))), .inl (.int (xs (6 * k + 2))), .inl (.int (xs (6 * k + 3))), .inl (.int (xs (6 * k + 4))), .inl (.int (xs (6 * k + 5)))]) (i := 0) (rest := [.int a]) (rr := (some (.inl (.int a)), w2)) hx hb hml hown hts lw_oki hK hG hZ hH hO hS hl.1 hcs hsl m_X12_feed vL_17 ⟨Nat.le_of_ble_eq_true rfl, Nat.le_of_ble_eq_true rfl⟩ dL_243 rfl ⟨hc.2.2.2.2, trivial, trivial, trivial, trivial, trivial, trivial⟩ (Nat.le_of_ble_eq_true rfl) (by unfold eI; rw [x2]; rfl) (fun H locs hH hO _ hS => ?_)
  exact lv_icmp_eq (tgt := 1223) hx hb dL_246 (by decide) (fun _ => kk w2 H locs ⟨hH, hO, hG, hZ, hS, hl, hR2, hc⟩) (fun cb => absurd rfl cb)
theorem law_end {p : Program} {l : Launch} {e : Env} {s : State} {m : MethodId} {below : List Frame} {meth : Method} {c : Code} {b L k : Nat} {xs : Nat → Int32} {D : va_G} {cy : Nat → ClassId} {ad : Nat → Nat → Nat} {cnt : Nat → Nat} {w : XW} {H : Heap} {locs : List Loc} {ls : Array Slot} {cs sl : Nat} {Q : State → Prop} (hC : LwC p s m c b L xs D cy) (hk : 6 * k + 6 ≤ L) (hs : LwS s D cy b k ad cnt w H locs ls) (hcs : cs ≤ 600000) (hsl : sl ≤ 7302250)
    (kk : ∀ (w2 : XW) (H1 : Heap) (locs1 : List Loc), LwS s D cy b k ad cnt w2 H1 locs1 ls → W p l e room_1 s m #[Value.ref b] below meth c H1 locs1 cs sl Q (F0 m 1223 ls [])) : W p l e room_1 s m #[Value.ref b] below meth c H locs cs sl Q (F0 m 251 ls []) := by
  obtain ⟨hx, hb, hml, hown, hts, hX, hbl, hK, hL⟩ := hC
  obtain ⟨hH, hO, hG, hZ, hS, hl, hR, hc⟩ := hs
  have hbA : ¬ lA s b := Nat.not_le.mpr hbl
  obtain ⟨a, w1, w2, x1, x2, hR2⟩ := st_end hR (xs (6 * k + 1))
  refine lv_aload_n hx hb dL_251 rfl (lv_at hl 2 rfl) ?_
  refine w_arg (j := 1) (v := 1) hx hb hX hbl hbA hS hl hk hL (by decide) rfl (by decide) dL_252 dL_253 dL_254 dL_255 dL_256 ?_
  refine y_vcall (nL := 4) (as := [.inl (.int (xs (6 * k + 1)))]) (i := 0) (rest := []) (rr := (some (.inl (.int a)), w1)) hx hb hml hown hts lw_oki hK hG hZ hH hO hS hl.1 hcs hsl m_X11_end vL_18 ⟨Nat.le_of_ble_eq_true rfl, Nat.le_of_ble_eq_true rfl⟩ dL_257 rfl ⟨hc.2.2.2.1, trivial, trivial⟩ (Nat.le_of_ble_eq_true rfl) (by unfold eI; rw [x1]; rfl) (fun H locs hH hO _ hS => ?_)
  refine lv_aload_n hx hb dL_260 rfl (lv_at hl 1 rfl) ?_
  refine w_arg (j := 1) (v := 1) hx hb hX hbl hbA hS hl hk hL (by decide) rfl (by decide) dL_261 dL_262 dL_263 dL_264 dL_265 ?_
  refine y_vcall (nL := 4) (as := [.inl (.int (xs (6 * k + 1)))]) (i := 0) (rest := [.int a]) (rr := (some (.inl (.int a)), w2)) hx hb hml hown hts lw_oki hK hG hZ hH hO hS hl.1 hcs hsl m_X12_end vL_22 ⟨Nat.le_of_ble_eq_true rfl, Nat.le_of_ble_eq_true rfl⟩ dL_266 rfl ⟨hc.2.2.2.2, trivial, trivial⟩ (Nat.le_of_ble_eq_true rfl) (by unfold eI; rw [x2]; rfl) (fun H locs hH hO _ hS => ?_)
  exact lv_icmp_eq (tgt := 1223) hx hb dL_269 (by decide) (fun _ => kk w2 H locs ⟨hH, hO, hG, hZ, hS, hl, hR2, hc⟩) (fun cb => absurd rfl cb)
theorem law_force {p : Program} {l : Launch} {e : Env} {s : State} {m : MethodId} {below : List Frame} {meth : Method} {c : Code} {b L k : Nat} {xs : Nat → Int32} {D : va_G} {cy : Nat → ClassId} {ad : Nat → Nat → Nat} {cnt : Nat → Nat} {w : XW} {H : Heap} {locs : List Loc} {ls : Array Slot} {cs sl : Nat} {Q : State → Prop} (hC : LwC p s m c b L xs D cy) (hk : 6 * k + 6 ≤ L) (hs : LwS s D cy b k ad cnt w H locs ls) (hcs : cs ≤ 600000) (hsl : sl ≤ 7302250)
    (kk : ∀ (w2 : XW) (H1 : Heap) (locs1 : List Loc), LwS s D cy b k ad cnt w2 H1 locs1 ls → W p l e room_1 s m #[Value.ref b] below meth c H1 locs1 cs sl Q (F0 m 1223 ls [])) : W p l e room_1 s m #[Value.ref b] below meth c H locs cs sl Q (F0 m 300 ls []) := by
  obtain ⟨hx, hb, hml, hown, hts, hX, hbl, hK, hL⟩ := hC
  obtain ⟨hH, hO, hG, hZ, hS, hl, hR, hc⟩ := hs
  have hbA : ¬ lA s b := Nat.not_le.mpr hbl
  obtain ⟨a, w1, w2, x1, x2, hR2⟩ := st_force hR (xs (6 * k + 1))
  refine lv_aload_n hx hb dL_300 rfl (lv_at hl 2 rfl) ?_
  refine w_arg (j := 1) (v := 1) hx hb hX hbl hbA hS hl hk hL (by decide) rfl (by decide) dL_301 dL_302 dL_303 dL_304 dL_305 ?_
  refine y_vcall (nL := 4) (as := [.inl (.int (xs (6 * k + 1)))]) (i := 0) (rest := []) (rr := (some (.inl (.int a)), w1)) hx hb hml hown hts lw_oki hK hG hZ hH hO hS hl.1 hcs hsl m_X11_force vL_32 ⟨Nat.le_of_ble_eq_true rfl, Nat.le_of_ble_eq_true rfl⟩ dL_306 rfl ⟨hc.2.2.2.1, trivial, trivial⟩ (Nat.le_of_ble_eq_true rfl) (by unfold eI; rw [x1]; rfl) (fun H locs hH hO _ hS => ?_)
  refine lv_aload_n hx hb dL_309 rfl (lv_at hl 1 rfl) ?_
  refine w_arg (j := 1) (v := 1) hx hb hX hbl hbA hS hl hk hL (by decide) rfl (by decide) dL_310 dL_311 dL_312 dL_313 dL_314 ?_
  refine y_vcall (nL := 4) (as := [.inl (.int (xs (6 * k + 1)))]) (i := 0) (rest := [.int a]) (rr := (some (.inl (.int a)), w2)) hx hb hml hown hts lw_oki hK hG hZ hH hO hS hl.1 hcs hsl m_X12_force vL_35 ⟨Nat.le_of_ble_eq_true rfl, Nat.le_of_ble_eq_true rfl⟩ dL_315 rfl ⟨hc.2.2.2.2, trivial, trivial⟩ (Nat.le_of_ble_eq_true rfl) (by unfold eI; rw [x2]; rfl) (fun H locs hH hO _ hS => ?_)
  exact lv_icmp_eq (tgt := 1223) hx hb dL_318 (by decide) (fun _ => kk w2 H locs ⟨hH, hO, hG, hZ, hS, hl, hR2, hc⟩) (fun cb => absurd rfl cb)
theorem law_keep {p : Program} {l : Launch} {e : Env} {s : State} {m : MethodId} {below : List Frame} {meth : Method} {c : Code} {b L k : Nat} {xs : Nat → Int32} {D : va_G} {cy : Nat → ClassId} {ad : Nat → Nat → Nat} {cnt : Nat → Nat} {w : XW} {H : Heap} {locs : List Loc} {ls : Array Slot} {cs sl : Nat} {Q : State → Prop} (hC : LwC p s m c b L xs D cy) (hk : 6 * k + 6 ≤ L) (hs : LwS s D cy b k ad cnt w H locs ls) (hcs : cs ≤ 600000) (hsl : sl ≤ 7302250)
    (kk : ∀ (w2 : XW) (H1 : Heap) (locs1 : List Loc), LwS s D cy b k ad cnt w2 H1 locs1 ls → W p l e room_1 s m #[Value.ref b] below meth c H1 locs1 cs sl Q (F0 m 1223 ls [])) : W p l e room_1 s m #[Value.ref b] below meth c H locs cs sl Q (F0 m 323 ls []) := by
  obtain ⟨hx, hb, hml, hown, hts, hX, hbl, hK, hL⟩ := hC
  obtain ⟨hH, hO, hG, hZ, hS, hl, hR, hc⟩ := hs
  have hbA : ¬ lA s b := Nat.not_le.mpr hbl
  obtain ⟨a, w1, w2, x1, x2, hR2⟩ := st_keep hR (xs (6 * k + 1)) (xs (6 * k + 2))
  refine lv_aload_n hx hb dL_323 rfl (lv_at hl 2 rfl) ?_
  refine w_arg (j := 1) (v := 1) hx hb hX hbl hbA hS hl hk hL (by decide) rfl (by decide) dL_324 dL_325 dL_326 dL_327 dL_328 ?_
  refine w_arg (j := 2) (v := 2) hx hb hX hbl hbA hS hl hk hL (by decide) rfl (by decide) dL_329 dL_330 dL_331 dL_332 dL_333 ?_
  refine y_vcall (nL := 4) (as := [.inl (.int (xs (6 * k + 1))), .inl (.int (xs (6 * k + 2)))]) (i := 0) (rest := []) (rr := (some (.inl (.int a)), w1)) hx hb hml hown hts lw_oki hK hG hZ hH hO hS hl.1 hcs hsl m_X11_keep vL_36 ⟨Nat.le_of_ble_eq_true rfl, Nat.le_of_ble_eq_true rfl⟩ dL_334 rfl ⟨hc.2.2.2.1, trivial, trivial, trivial⟩ (Nat.le_of_ble_eq_true rfl) (by unfold eI; rw [x1]; rfl) (fun H locs hH hO _ hS => ?_)
  refine lv_aload_n hx hb dL_337 rfl (lv_at hl 1 rfl) ?_
  refine w_arg (j := 1) (v := 1) hx hb hX hbl hbA hS hl hk hL (by decide) rfl (by decide) dL_338 dL_339 dL_340 dL_341 dL_342 ?_
  refine w_arg (j := 2) (v := 2) hx hb hX hbl hbA hS hl hk hL (by decide) rfl (by decide) dL_343 dL_344 dL_345 dL_346 dL_347 ?_
  refine y_vcall (nL := 4) (as := [.inl (.int (xs (6 * k + 1))), .inl (.int (xs (6 * k + 2)))]) (i := 0) (rest := [.int a]) (rr := (some (.inl (.int a)), w2)) hx hb hml hown hts lw_oki hK hG hZ hH hO hS hl.1 hcs hsl m_X12_keep vL_40 ⟨Nat.le_of_ble_eq_true rfl, Nat.le_of_ble_eq_true rfl⟩ dL_348 rfl ⟨hc.2.2.2.2, trivial, trivial, trivial⟩ (Nat.le_of_ble_eq_true rfl) (by unfold eI; rw [x2]; rfl) (fun H locs hH hO _ hS => ?_)
  exact lv_icmp_eq (tgt := 1223) hx hb dL_351 (by decide) (fun _ => kk w2 H locs ⟨hH, hO, hG, hZ, hS, hl, hR2, hc⟩) (fun cb => absurd rfl cb)
theorem law_person {p : Program} {l : Launch} {e : Env} {s : State} {m : MethodId} {below : List Frame} {meth : Method} {c : Code} {b L k : Nat} {xs : Nat → Int32} {D : va_G} {cy : Nat → ClassId} {ad : Nat → Nat → Nat} {cnt : Nat → Nat} {w : XW} {H : Heap} {locs : List Loc} {ls : Array Slot} {cs sl : Nat} {Q : State → Prop} (hC : LwC p s m c b L xs D cy) (hk : 6 * k + 6 ≤ L) (hs : LwS s D cy b k ad cnt w H locs ls) (hcs : cs ≤ 600000) (hsl : sl ≤ 7302250)
    (kk : ∀ (w2 : XW) (H1 : Heap) (locs1 : List Loc), LwS s D cy b k ad cnt w2 H1 locs1 ls → W p l e room_1 s m #[Value.ref b] below meth c H1 locs1 cs sl Q (F0 m 1223 ls [])) : W p l e room_1 s m #[Value.ref b] below meth c H locs cs sl Q (F0 m 356 ls []) := by
  obtain ⟨hx, hb, hml, hown, hts, hX, hbl, hK, hL⟩ := hC
  obtain ⟨hH, hO, hG, hZ, hS, hl, hR, hc⟩ := hs
  have hbA : ¬ lA s b := Nat.not_le.mpr hbl
  obtain ⟨a, w1, w2, x1, x2, hR2⟩ := st_person hR (xs (6 * k + 1)) (xs (6 * k + 2))
  refine lv_aload_n hx hb dL_356 rfl (lv_at hl 2 rfl) ?_
  refine w_arg (j := 1) (v := 1) hx hb hX hbl hbA hS hl hk hL (by decide) rfl (by decide) dL_357 dL_358 dL_359 dL_360 dL_361 ?_
  refine w_arg (j := 2) (v := 2) hx hb hX hbl hbA hS hl hk hL (by decide) rfl (by decide) dL_362 dL_363 dL_364 dL_365 dL_366 ?_
  refine y_vcall (nL := 4) (as := [.inl (.int (xs (6 * k + 1))), .inl (.int (xs (6 * k + 2)))]) (i := 0) (rest := []) (rr := (some (.inl (.int a)), w1)) hx hb hml hown hts lw_oki hK hG hZ hH hO hS hl.1 hcs hsl m_X11_person vL_41 ⟨Nat.le_of_ble_eq_true rfl, Nat.le_of_ble_eq_true rfl⟩ dL_367 rfl ⟨hc.2.2.2.1, trivial, trivial, trivial⟩ (Nat.le_of_ble_eq_true rfl) (by unfold eI; rw [x1]; rfl) (fun H locs hH hO _ hS => ?_)
  refine lv_aload_n hx hb dL_370 rfl (lv_at hl 1 rfl) ?_
  refine w_arg (j := 1) (v := 1) hx hb hX hbl hbA hS hl hk hL (by decide) rfl (by decide) dL_371 dL_372 dL_373 dL_374 dL_375 ?_
  refine w_arg (j := 2) (v := 2) hx hb hX hbl hbA hS hl hk hL (by decide) rfl (by decide) dL_376 dL_377 dL_378 dL_379 dL_380 ?_
  refine y_vcall (nL := 4) (as := [.inl (.int (xs (6 * k + 1))), .inl (.int (xs (6 * k + 2)))]) (i := 0) (rest := [.int a]) (rr := (some (.inl (.int a)), w2)) hx hb hml hown hts lw_oki hK hG hZ hH hO hS hl.1 hcs hsl m_X12_person vL_44 ⟨Nat.le_of_ble_eq_true rfl, Nat.le_of_ble_eq_true rfl⟩ dL_381 rfl ⟨hc.2.2.2.2, trivial, trivial, trivial⟩ (Nat.le_of_ble_eq_true rfl) (by unfold eI; rw [x2]; rfl) (fun H locs hH hO _ hS => ?_)
  exact lv_icmp_eq (tgt := 1223) hx hb dL_384 (by decide) (fun _ => kk w2 H locs ⟨hH, hO, hG, hZ, hS, hl, hR2, hc⟩) (fun cb => absurd rfl cb)
theorem law_field {p : Program} {l : Launch} {e : Env} {s : State} {m : MethodId} {below : List Frame} {meth : Method} {c : Code} {b L k : Nat} {xs : Nat → Int32} {D : va_G} {cy : Nat → ClassId} {ad : Nat → Nat → Nat} {cnt : Nat → Nat} {w : XW} {H : Heap} {locs : List Loc} {ls : Array Slot} {cs sl : Nat} {Q : State → Prop} (hC : LwC p s m c b L xs D cy) (hk : 6 * k + 6 ≤ L) (hs : LwS s D cy b k ad cnt w H locs ls) (hcs : cs ≤ 600000) (hsl : sl ≤ 7302250)
    (kk : ∀ (w2 : XW) (H1 : Heap) (locs1 : List Loc), LwS s D cy b k ad cnt w2 H1 locs1 ls → W p l e room_1 s m #[Value.ref b] below meth c H1 locs1 cs sl Q (F0 m 1223 ls [])) : W p l e room_1 s m #[Value.ref b] below meth c H locs cs sl Q (F0 m 389 ls []) := by
  obtain ⟨hx, hb, hml, hown, hts, hX, hbl, hK, hL⟩ := hC
  obtain ⟨hH, hO, hG, hZ, hS, hl, hR, hc⟩ := hs
  have hbA : ¬ lA s b := Nat.not_le.mpr hbl
  obtain ⟨a, w1, w2, x1, x2, hR2⟩ := st_field hR (xs (6 * k + 1)) (xs (6 * k + 2))
  refine lv_aload_n hx hb dL_389 rfl (lv_at hl 2 rfl) ?_
  refine w_arg (j := 1) (v := 1) hx hb hX hbl hbA hS hl hk hL (by decide) rfl (by decide) dL_390 dL_391 dL_392 dL_393 dL_394 ?_
  refine w_arg (j := 2) (v := 2) hx hb hX hbl hbA hS hl hk hL (by decide) rfl (by decide) dL_395 dL_396 dL_397 dL_398 dL_399 ?_
  refine y_vcall (nL := 4) (as := [.inl (.int (xs (6 * k + 1))), .inl (.int (xs (6 * k + 2)))]) (i := 0) (rest := []) (rr := (some (.inl (.int a)), w1)) hx hb hml hown hts lw_oki hK hG hZ hH hO hS hl.1 hcs hsl m_X11_field vL_45 ⟨Nat.le_of_ble_eq_true rfl, Nat.le_of_ble_eq_true rfl⟩ dL_400 rfl ⟨hc.2.2.2.1, trivial, trivial, trivial⟩ (Nat.le_of_ble_eq_true rfl) (by unfold eI; rw [x1]; rfl) (fun H locs hH hO _ hS => ?_)
  refine lv_aload_n hx hb dL_403 rfl (lv_at hl 1 rfl) ?_
  refine w_arg (j := 1) (v := 1) hx hb hX hbl hbA hS hl hk hL (by decide) rfl (by decide) dL_404 dL_405 dL_406 dL_407 dL_408 ?_
  refine w_arg (j := 2) (v := 2) hx hb hX hbl hbA hS hl hk hL (by decide) rfl (by decide) dL_409 dL_410 dL_411 dL_412 dL_413 ?_
  refine y_vcall (nL := 4) (as := [.inl (.int (xs (6 * k + 1))), .inl (.int (xs (6 * k + 2)))]) (i := 0) (rest := [.int a]) (rr := (some (.inl (.int a)), w2)) hx hb hml hown hts lw_oki hK hG hZ hH hO hS hl.1 hcs hsl m_X12_field vL_48 ⟨Nat.le_of_ble_eq_true rfl, Nat.le_of_ble_eq_true rfl⟩ dL_414 rfl ⟨hc.2.2.2.2, trivial, trivial, trivial⟩ (Nat.le_of_ble_eq_true rfl) (by unfold eI; rw [x2]; rfl) (fun H locs hH hO _ hS => ?_)
  exact lv_icmp_eq (tgt := 1223) hx hb dL_417 (by decide) (fun _ => kk w2 H locs ⟨hH, hO, hG, hZ, hS, hl, hR2, hc⟩) (fun cb => absurd rfl cb)
theorem law_night {p : Program} {l : Launch} {e : Env} {s : State} {m : MethodId} {below : List Frame} {meth : Method} {c : Code} {b L k : Nat} {xs : Nat → Int32} {D : va_G} {cy : Nat → ClassId} {ad : Nat → Nat → Nat} {cnt : Nat → Nat} {w : XW} {H : Heap} {locs : List Loc} {ls : Array Slot} {cs sl : Nat} {Q : State → Prop} (hC : LwC p s m c b L xs D cy) (hk : 6 * k + 6 ≤ L) (hs : LwS s D cy b k ad cnt w H locs ls) (hcs : cs ≤ 600000) (hsl : sl ≤ 7302250)
    (kk : ∀ (w2 : XW) (H1 : Heap) (locs1 : List Loc), LwS s D cy b k ad cnt w2 H1 locs1 ls → W p l e room_1 s m #[Value.ref b] below meth c H1 locs1 cs sl Q (F0 m 1223 ls [])) : W p l e room_1 s m #[Value.ref b] below meth c H locs cs sl Q (F0 m 422 ls []) := by
  obtain ⟨hx, hb, hml, hown, hts, hX, hbl, hK, hL⟩ := hC
  obtain ⟨hH, hO, hG, hZ, hS, hl, hR, hc⟩ := hs
  have hbA : ¬ lA s b := Nat.not_le.mpr hbl
  obtain ⟨a, w1, w2, x1, x2, hR2⟩ := st_night hR
  refine lv_aload_n hx hb dL_422 rfl (lv_at hl 2 rfl) ?_
  refine y_vcall (nL := 4) (as := []) (i := 0) (rest := []) (rr := (some (.inl (.int a)), w1)) hx hb hml hown hts lw_oki hK hG hZ hH hO hS hl.1 hcs hsl m_X11_night vL_49 ⟨Nat.le_of_ble_eq_true rfl, Nat.le_of_ble_eq_true rfl⟩ dL_423 rfl ⟨hc.2.2.2.1, trivial⟩ (Nat.le_of_ble_eq_true rfl) (by unfold eI; rw [x1]; rfl) (fun H locs hH hO _ hS => ?_)
  refine lv_aload_n hx hb dL_426 rfl (lv_at hl 1 rfl) ?_
  refine y_vcall (nL := 4) (as := []) (i := 0) (rest := [.int a]) (rr := (some (.inl (.int a)), w2)) hx hb hml hown hts lw_oki hK hG hZ hH hO hS hl.1 hcs hsl m_X12_night vL_52 ⟨Nat.le_of_ble_eq_true rfl, Nat.le_of_ble_eq_true rfl⟩ dL_427 rfl ⟨hc.2.2.2.2, trivial⟩ (Nat.le_of_ble_eq_true rfl) (by unfold eI; rw [x2]; rfl) (fun H locs hH hO _ hS => ?_)
  exact lv_icmp_eq (tgt := 1223) hx hb dL_430 (by decide) (fun _ => kk w2 H locs ⟨hH, hO, hG, hZ, hS, hl, hR2, hc⟩) (fun cb => absurd rfl cb)
theorem law_air {p : Program} {l : Launch} {e : Env} {s : State} {m : MethodId} {below : List Frame} {meth : Method} {c : Code} {b L k : Nat} {xs : Nat → Int32} {D : va_G} {cy : Nat → ClassId} {ad : Nat → Nat → Nat} {cnt : Nat → Nat} {w : XW} {H : Heap} {locs : List Loc} {ls : Array Slot} {cs sl : Nat} {Q : State → Prop} (hC : LwC p s m c b L xs D cy) (hk : 6 * k + 6 ≤ L) (hs : LwS s D cy b k ad cnt w H locs ls) (hcs : cs ≤ 600000) (hsl : sl ≤ 7302250)
    (kk : ∀ (w2 : XW) (H1 : Heap) (locs1 : List Loc), LwS s D cy b k ad cnt w2 H1 locs1 ls → W p l e room_1 s m #[Value.ref b] below meth c H1 locs1 cs sl Q (F0 m 1223 ls [])) : W p l e room_1 s m #[Value.ref b] below meth c H locs cs sl Q (F0 m 435 ls []) := by
  obtain ⟨hx, hb, hml, hown, hts, hX, hbl, hK, hL⟩ := hC
  obtain ⟨hH, hO, hG, hZ, hS, hl, hR, hc⟩ := hs
  have hbA : ¬ lA s b := Nat.not_le.mpr hbl
  obtain ⟨a, w1, w2, x1, x2, hR2⟩ := st_air hR (xs (6 * k + 1))
  refine lv_aload_n hx hb dL_435 rfl (lv_at hl 2 rfl) ?_
  refine w_arg (j := 1) (v := 1) hx hb hX hbl hbA hS hl hk hL (by decide) rfl (by decide) dL_436 dL_437 dL_438 dL_439 dL_440 ?_
  refine y_vcall (nL := 4) (as := [.inl (.int (xs (6 * k + 1)))]) (i := 0) (rest := []) (rr := (some (.inl (.int a)), w1)) hx hb hml hown hts lw_oki hK hG hZ hH hO hS hl.1 hcs hsl m_X11_air vL_53 ⟨Nat.le_of_ble_eq_true rfl, Nat.le_of_ble_eq_true rfl⟩ dL_441 rfl ⟨hc.2.2.2.1, trivial, trivial⟩ (Nat.le_of_ble_eq_true rfl) (by unfold eI; rw [x1]; rfl) (fun H locs hH hO _ hS => ?_)
  refine lv_aload_n hx hb dL_444 rfl (lv_at hl 1 rfl) ?_
  refine w_arg (j := 1) (v := 1) hx hb hX hbl hbA hS hl hk hL (by decide) rfl (by decide) dL_445 dL_446 dL_447 dL_448 dL_449 ?_
  refine y_vcall (nL := 4) (as := [.inl (.int (xs (6 * k + 1)))]) (i := 0) (rest := [.int a]) (rr := (some (.inl (.int a)), w2)) hx hb hml hown hts lw_oki hK hG hZ hH hO hS hl.1 hcs hsl m_X12_air vL_56 ⟨Nat.le_of_ble_eq_true rfl, Nat.le_of_ble_eq_true rfl⟩ dL_450 rfl ⟨hc.2.2.2.2, trivial, trivial⟩ (Nat.le_of_ble_eq_true rfl) (by unfold eI; rw [x2]; rfl) (fun H locs hH hO _ hS => ?_)
  exact lv_icmp_eq (tgt := 1223) hx hb dL_453 (by decide) (fun _ => kk w2 H locs ⟨hH, hO, hG, hZ, hS, hl, hR2, hc⟩) (fun cb => absurd rfl cb)
theorem law_carry {p : Program} {l : Launch} {e : Env} {s : State} {m : MethodId} {below : List Frame} {meth : Method} {c : Code} {b L k : Nat} {xs : Nat → Int32} {D : va_G} {cy : Nat → ClassId} {ad : Nat → Nat → Nat} {cnt : Nat → Nat} {w : XW} {H : Heap} {locs : List Loc} {ls : Array Slot} {cs sl : Nat} {Q : State → Prop} (hC : LwC p s m c b L xs D cy) (hk : 6 * k + 6 ≤ L) (hs : LwS s D cy b k ad cnt w H locs ls) (hcs : cs ≤ 600000) (hsl : sl ≤ 7302250)
    (kk : ∀ (w2 : XW) (H1 : Heap) (locs1 : List Loc), LwS s D cy b k ad cnt w2 H1 locs1 ls → W p l e room_1 s m #[Value.ref b] below meth c H1 locs1 cs sl Q (F0 m 1223 ls [])) : W p l e room_1 s m #[Value.ref b] below meth c H locs cs sl Q (F0 m 458 ls []) := by
  obtain ⟨hx, hb, hml, hown, hts, hX, hbl, hK, hL⟩ := hC
  obtain ⟨hH, hO, hG, hZ, hS, hl, hR, hc⟩ := hs
  have hbA : ¬ lA s b := Nat.not_le.mpr hbl
  obtain ⟨a, w1, w2, x1, x2, hR2⟩ := st_carry hR (xs (6 * k + 1)) (xs (6 * k + 2))
  refine lv_aload_n hx hb dL_458 rfl (lv_at hl 2 rfl) ?_
  refine w_arg (j := 1) (v := 1) hx hb hX hbl hbA hS hl hk hL (by decide) rfl (by decide) dL_459 dL_460 dL_461 dL_462 dL_463 ?_
  refine w_arg (j := 2) (v := 2) hx hb hX hbl hbA hS hl hk hL (by decide) rfl (by decide) dL_464 dL_465 dL_466 dL_467 dL_468 ?_
  refine y_vcall (nL := 4) (as := [.inl (.int (xs (6 * k + 1))), .inl (.int (xs (6 * k + 2)))]) (i := 0) (rest := []) (rr := (some (.inl (.int a)), w1)) hx hb hml hown hts lw_oki hK hG hZ hH hO hS hl.1 hcs hsl m_X11_carry vL_57 ⟨Nat.le_of_ble_eq_true rfl, Nat.le_of_ble_eq_true rfl⟩ dL_469 rfl ⟨hc.2.2.2.1, trivial, trivial, trivial⟩ (Nat.le_of_ble_eq_true rfl) (by unfold eI; rw [x1]; rfl) (fun H locs hH hO _ hS => ?_)
  refine lv_aload_n hx hb dL_472 rfl (lv_at hl 1 rfl) ?_
  refine w_arg (j := 1) (v := 1) hx hb hX hbl hbA hS hl hk hL (by decide) rfl (by decide) dL_473 dL_474 dL_475 dL_476 dL_477 ?_
  refine w_arg (j := 2) (v := 2) hx hb hX hbl hbA hS hl hk hL (by decide) rfl (by decide) dL_478 dL_479 dL_480 dL_481 dL_482 ?_
  refine y_vcall (nL := 4) (as := [.inl (.int (xs (6 * k + 1))), .inl (.int (xs (6 * k + 2)))]) (i := 0) (rest := [.int a]) (rr := (some (.inl (.int a)), w2)) hx hb hml hown hts lw_oki hK hG hZ hH hO hS hl.1 hcs hsl m_X12_carry vL_60 ⟨Nat.le_of_ble_eq_true rfl, Nat.le_of_ble_eq_true rfl⟩ dL_483 rfl ⟨hc.2.2.2.2, trivial, trivial, trivial⟩ (Nat.le_of_ble_eq_true rfl) (by unfold eI; rw [x2]; rfl) (fun H locs hH hO _ hS => ?_)
  exact lv_icmp_eq (tgt := 1223) hx hb dL_486 (by decide) (fun _ => kk w2 H locs ⟨hH, hO, hG, hZ, hS, hl, hR2, hc⟩) (fun cb => absurd rfl cb)
theorem law_fetch {p : Program} {l : Launch} {e : Env} {s : State} {m : MethodId} {below : List Frame} {meth : Method} {c : Code} {b L k : Nat} {xs : Nat → Int32} {D : va_G} {cy : Nat → ClassId} {ad : Nat → Nat → Nat} {cnt : Nat → Nat} {w : XW} {H : Heap} {locs : List Loc} {ls : Array Slot} {cs sl : Nat} {Q : State → Prop} (hC : LwC p s m c b L xs D cy) (hk : 6 * k + 6 ≤ L) (hs : LwS s D cy b k ad cnt w H locs ls) (hcs : cs ≤ 600000) (hsl : sl ≤ 7302250)
    (kk : ∀ (w2 : XW) (H1 : Heap) (locs1 : List Loc), LwS s D cy b k ad cnt w2 H1 locs1 ls → W p l e room_1 s m #[Value.ref b] below meth c H1 locs1 cs sl Q (F0 m 1223 ls [])) : W p l e room_1 s m #[Value.ref b] below meth c H locs cs sl Q (F0 m 491 ls []) := by
  obtain ⟨hx, hb, hml, hown, hts, hX, hbl, hK, hL⟩ := hC
  obtain ⟨hH, hO, hG, hZ, hS, hl, hR, hc⟩ := hs
  have hbA : ¬ lA s b := Nat.not_le.mpr hbl
  obtain ⟨a, w1, w2, x1, x2, hR2⟩ := st_fetch hR (xs (6 * k + 1))
  refine lv_aload_n hx hb dL_491 rfl (lv_at hl 2 rfl) ?_
  refine w_arg (j := 1) (v := 1) hx hb hX hbl hbA hS hl hk hL (by decide) rfl (by decide) dL_492 dL_493 dL_494 dL_495 dL_496 ?_
  refine y_vcall (nL := 4) (as := [.inl (.int (xs (6 * k + 1)))]) (i := 0) (rest := []) (rr := (some (.inl (.int a)), w1)) hx hb hml hown hts lw_oki hK hG hZ hH hO hS hl.1 hcs hsl m_X11_fetch vL_61 ⟨Nat.le_of_ble_eq_true rfl, Nat.le_of_ble_eq_true rfl⟩ dL_497 rfl ⟨hc.2.2.2.1, trivial, trivial⟩ (Nat.le_of_ble_eq_true rfl) (by unfold eI; rw [x1]; rfl) (fun H locs hH hO _ hS => ?_)
  refine lv_aload_n hx hb dL_500 rfl (lv_at hl 1 rfl) ?_
  refine w_arg (j := 1) (v := 1) hx hb hX hbl hbA hS hl hk hL (by decide) rfl (by decide) dL_501 dL_502 dL_503 dL_504 dL_505 ?_
  refine y_vcall (nL := 4) (as := [.inl (.int (xs (6 * k + 1)))]) (i := 0) (rest := [.int a]) (rr := (some (.inl (.int a)), w2)) hx hb hml hown hts lw_oki hK hG hZ hH hO hS hl.1 hcs hsl m_X12_fetch vL_64 ⟨Nat.le_of_ble_eq_true rfl, Nat.le_of_ble_eq_true rfl⟩ dL_506 rfl ⟨hc.2.2.2.2, trivial, trivial⟩ (Nat.le_of_ble_eq_true rfl) (by unfold eI; rw [x2]; rfl) (fun H locs hH hO _ hS => ?_)
  exact lv_icmp_eq (tgt := 1223) hx hb dL_509 (by decide) (fun _ => kk w2 H locs ⟨hH, hO, hG, hZ, hS, hl, hR2, hc⟩) (fun cb => absurd rfl cb)
theorem law_seat {p : Program} {l : Launch} {e : Env} {s : State} {m : MethodId} {below : List Frame} {meth : Method} {c : Code} {b L k : Nat} {xs : Nat → Int32} {D : va_G} {cy : Nat → ClassId} {ad : Nat → Nat → Nat} {cnt : Nat → Nat} {w : XW} {H : Heap} {locs : List Loc} {ls : Array Slot} {cs sl : Nat} {Q : State → Prop} (hC : LwC p s m c b L xs D cy) (hk : 6 * k + 6 ≤ L) (hs : LwS s D cy b k ad cnt w H locs ls) (hcs : cs ≤ 600000) (hsl : sl ≤ 7302250)
    (kk : ∀ (w2 : XW) (H1 : Heap) (locs1 : List Loc), LwS s D cy b k ad cnt w2 H1 locs1 ls → W p l e room_1 s m #[Value.ref b] below meth c H1 locs1 cs sl Q (F0 m 1223 ls [])) : W p l e room_1 s m #[Value.ref b] below meth c H locs cs sl Q (F0 m 514 ls []) := by
  obtain ⟨hx, hb, hml, hown, hts, hX, hbl, hK, hL⟩ := hC
  obtain ⟨hH, hO, hG, hZ, hS, hl, hR, hc⟩ := hs
  have hbA : ¬ lA s b := Nat.not_le.mpr hbl
  obtain ⟨a, w1, w2, x1, x2, hR2⟩ := st_seat hR (xs (6 * k + 1)) (xs (6 * k + 2))
  refine lv_aload_n hx hb dL_514 rfl (lv_at hl 2 rfl) ?_
  refine w_arg (j := 1) (v := 1) hx hb hX hbl hbA hS hl hk hL (by decide) rfl (by decide) dL_515 dL_516 dL_517 dL_518 dL_519 ?_
  refine w_arg (j := 2) (v := 2) hx hb hX hbl hbA hS hl hk hL (by decide) rfl (by decide) dL_520 dL_521 dL_522 dL_523 dL_524 ?_
  refine y_vcall (nL := 4) (as := [.inl (.int (xs (6 * k + 1))), .inl (.int (xs (6 * k + 2)))]) (i := 0) (rest := []) (rr := (some (.inl (.int a)), w1)) hx hb hml hown hts lw_oki hK hG hZ hH hO hS hl.1 hcs hsl m_X11_seat vL_65 ⟨Nat.le_of_ble_eq_true rfl, Nat.le_of_ble_eq_true rfl⟩ dL_525 rfl ⟨hc.2.2.2.1, trivial, trivial, trivial⟩ (Nat.le_of_ble_eq_true rfl) (by unfold eI; rw [x1]; rfl) (fun H locs hH hO _ hS => ?_)
  refine lv_aload_n hx hb dL_528 rfl (lv_at hl 1 rfl) ?_
  refine w_arg (j := 1) (v := 1) hx hb hX hbl hbA hS hl hk hL (by decide) rfl (by decide) dL_529 dL_530 dL_531 dL_532 dL_533 ?_
  refine w_arg (j := 2) (v := 2) hx hb hX hbl hbA hS hl hk hL (by decide) rfl (by decide) dL_534 dL_535 dL_536 dL_537 dL_538 ?_
  refine y_vcall (nL := 4) (as := [.inl (.int (xs (6 * k + 1))), .inl (.int (xs (6 * k + 2)))]) (i := 0) (rest := [.int a]) (rr := (some (.inl (.int a)), w2)) hx hb hml hown hts lw_oki hK hG hZ hH hO hS hl.1 hcs hsl m_X12_seat vL_68 ⟨Nat.le_of_ble_eq_true rfl, Nat.le_of_ble_eq_true rfl⟩ dL_539 rfl ⟨hc.2.2.2.2, trivial, trivial, trivial⟩ (Nat.le_of_ble_eq_true rfl) (by unfold eI; rw [x2]; rfl) (fun H locs hH hO _ hS => ?_)
  exact lv_icmp_eq (tgt := 1223) hx hb dL_542 (by decide) (fun _ => kk w2 H locs ⟨hH, hO, hG, hZ, hS, hl, hR2, hc⟩) (fun cb => absurd rfl cb)
