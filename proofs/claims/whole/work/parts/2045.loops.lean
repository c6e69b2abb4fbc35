theorem dX11_init_0 : decode cX11_init 0 = .ok (.aload_n 0, 1) := by decide +kernel
theorem dX11_init_1 : decode cX11_init 1 = .ok (.invokespecial 1, 3) := by decide +kernel
theorem dX11_init_4 : decode cX11_init 4 = .ok (.aload_n 0, 1) := by decide +kernel
theorem dX11_init_5 : decode cX11_init 5 = .ok (.new 7, 3) := by decide +kernel
theorem dX11_init_8 : decode cX11_init 8 = .ok (.dup, 1) := by decide +kernel
theorem dX11_init_9 : decode cX11_init 9 = .ok (.invokespecial 9, 3) := by decide +kernel
theorem dX11_init_12 : decode cX11_init 12 = .ok (.putfield 10, 3) := by decide +kernel
theorem dX11_init_15 : decode cX11_init 15 = .ok (.aload_n 0, 1) := by decide +kernel
theorem dX11_init_16 : decode cX11_init 16 = .ok (.new 16, 3) := by decide +kernel
theorem dX11_init_19 : decode cX11_init 19 = .ok (.dup, 1) := by decide +kernel
theorem dX11_init_20 : decode cX11_init 20 = .ok (.invokespecial 18, 3) := by decide +kernel
theorem dX11_init_23 : decode cX11_init 23 = .ok (.putfield 19, 3) := by decide +kernel
theorem dX11_init_26 : decode cX11_init 26 = .ok (.aload_n 0, 1) := by decide +kernel
theorem dX11_init_27 : decode cX11_init 27 = .ok (.bipush 6, 2) := by decide +kernel
theorem dX11_init_29 : decode cX11_init 29 = .ok (.anewarray 23, 3) := by decide +kernel
theorem dX11_init_32 : decode cX11_init 32 = .ok (.putfield 25, 3) := by decide +kernel
theorem dX11_init_35 : decode cX11_init 35 = .ok (.aload_n 0, 1) := by decide +kernel
theorem dX11_init_36 : decode cX11_init 36 = .ok (.iconst 0, 1) := by decide +kernel
theorem dX11_init_37 : decode cX11_init 37 = .ok (.putfield 29, 3) := by decide +kernel
theorem dX11_init_40 : decode cX11_init 40 = .ok (.aload_n 0, 1) := by decide +kernel
theorem dX11_init_41 : decode cX11_init 41 = .ok (.iconst (-1), 1) := by decide +kernel
theorem dX11_init_42 : decode cX11_init 42 = .ok (.putfield 33, 3) := by decide +kernel
theorem dX11_init_45 : decode cX11_init 45 = .ok (.aload_n 0, 1) := by decide +kernel
theorem dX11_init_46 : decode cX11_init 46 = .ok (.new 36, 3) := by decide +kernel
theorem dX11_init_49 : decode cX11_init 49 = .ok (.dup, 1) := by decide +kernel
theorem dX11_init_50 : decode cX11_init 50 = .ok (.invokespecial 38, 3) := by decide +kernel
theorem dX11_init_53 : decode cX11_init 53 = .ok (.putfield 39, 3) := by decide +kernel
theorem dX11_init_56 : decode cX11_init 56 = .ok (.aload_n 0, 1) := by decide +kernel
theorem dX11_init_57 : decode cX11_init 57 = .ok (.new 43, 3) := by decide +kernel
theorem dX11_init_60 : decode cX11_init 60 = .ok (.dup, 1) := by decide +kernel
theorem dX11_init_61 : decode cX11_init 61 = .ok (.invokespecial 45, 3) := by decide +kernel
theorem dX11_init_64 : decode cX11_init 64 = .ok (.putfield 46, 3) := by decide +kernel
theorem dX11_init_67 : decode cX11_init 67 = .ok (.aload_n 0, 1) := by decide +kernel
theorem dX11_init_68 : decode cX11_init 68 = .ok (.new 43, 3) := by decide +kernel
theorem dX11_init_71 : decode cX11_init 71 = .ok (.dup, 1) := by decide +kernel
theorem dX11_init_72 : decode cX11_init 72 = .ok (.invokespecial 45, 3) := by decide +kernel
theorem dX11_init_75 : decode cX11_init 75 = .ok (.putfield 50, 3) := by decide +kernel
theorem dX11_init_78 : decode cX11_init 78 = .ok (.aload_n 0, 1) := by decide +kernel
theorem dX11_init_79 : decode cX11_init 79 = .ok (.new 53, 3) := by decide +kernel
theorem dX11_init_82 : decode cX11_init 82 = .ok (.dup, 1) := by decide +kernel
theorem dX11_init_83 : decode cX11_init 83 = .ok (.invokespecial 55, 3) := by decide +kernel
theorem dX11_init_86 : decode cX11_init 86 = .ok (.putfield 56, 3) := by decide +kernel
theorem dX11_init_89 : decode cX11_init 89 = .ok (.aload_n 0, 1) := by decide +kernel
theorem dX11_init_90 : decode cX11_init 90 = .ok (.new 60, 3) := by decide +kernel
theorem dX11_init_93 : decode cX11_init 93 = .ok (.dup, 1) := by decide +kernel
theorem dX11_init_94 : decode cX11_init 94 = .ok (.invokespecial 62, 3) := by decide +kernel
theorem dX11_init_97 : decode cX11_init 97 = .ok (.putfield 63, 3) := by decide +kernel
theorem dX11_init_100 : decode cX11_init 100 = .ok (.aload_n 0, 1) := by decide +kernel
theorem dX11_init_101 : decode cX11_init 101 = .ok (.new 67, 3) := by decide +kernel
theorem dX11_init_104 : decode cX11_init 104 = .ok (.dup, 1) := by decide +kernel
theorem dX11_init_105 : decode cX11_init 105 = .ok (.invokespecial 69, 3) := by decide +kernel
theorem dX11_init_108 : decode cX11_init 108 = .ok (.putfield 70, 3) := by decide +kernel
theorem dX11_init_111 : decode cX11_init 111 = .ok (.aload_n 0, 1) := by decide +kernel
theorem dX11_init_112 : decode cX11_init 112 = .ok (.new 74, 3) := by decide +kernel
theorem dX11_init_115 : decode cX11_init 115 = .ok (.dup, 1) := by decide +kernel
theorem dX11_init_116 : decode cX11_init 116 = .ok (.invokespecial 76, 3) := by decide +kernel
theorem dX11_init_119 : decode cX11_init 119 = .ok (.putfield 77, 3) := by decide +kernel
theorem dX11_init_122 : decode cX11_init 122 = .ok (.aload_n 0, 1) := by decide +kernel
theorem dX11_init_123 : decode cX11_init 123 = .ok (.iconst 0, 1) := by decide +kernel
theorem dX11_init_124 : decode cX11_init 124 = .ok (.putfield 81, 3) := by decide +kernel
theorem dX11_init_127 : decode cX11_init 127 = .ok (.aload_n 0, 1) := by decide +kernel
theorem dX11_init_128 : decode cX11_init 128 = .ok (.iconst 4, 1) := by decide +kernel
theorem dX11_init_129 : decode cX11_init 129 = .ok (.anewarray 84, 3) := by decide +kernel
theorem dX11_init_132 : decode cX11_init 132 = .ok (.putfield 86, 3) := by decide +kernel
theorem dX11_init_135 : decode cX11_init 135 = .ok (.aload_n 0, 1) := by decide +kernel
theorem dX11_init_136 : decode cX11_init 136 = .ok (.bipush 20, 2) := by decide +kernel
theorem dX11_init_138 : decode cX11_init 138 = .ok (.anewarray 43, 3) := by decide +kernel
theorem dX11_init_141 : decode cX11_init 141 = .ok (.putfield 90, 3) := by decide +kernel
theorem dX11_init_144 : decode cX11_init 144 = .ok (.aload_n 0, 1) := by decide +kernel
theorem dX11_init_145 : decode cX11_init 145 = .ok (.iconst 0, 1) := by decide +kernel
theorem dX11_init_146 : decode cX11_init 146 = .ok (.putfield 94, 3) := by decide +kernel
theorem dX11_init_149 : decode cX11_init 149 = .ok (.aload_n 0, 1) := by decide +kernel
theorem dX11_init_150 : decode cX11_init 150 = .ok (.iconst 0, 1) := by decide +kernel
theorem dX11_init_151 : decode cX11_init 151 = .ok (.putfield 97, 3) := by decide +kernel
theorem dX11_init_154 : decode cX11_init 154 = .ok (.aload_n 0, 1) := by decide +kernel
theorem dX11_init_155 : decode cX11_init 155 = .ok (.bipush 122, 2) := by decide +kernel
theorem dX11_init_157 : decode cX11_init 157 = .ok (.newarray .long, 2) := by decide +kernel
theorem dX11_init_159 : decode cX11_init 159 = .ok (.putfield 100, 3) := by decide +kernel
theorem dX11_init_162 : decode cX11_init 162 = .ok (.aload_n 0, 1) := by decide +kernel
theorem dX11_init_163 : decode cX11_init 163 = .ok (.bipush 32, 2) := by decide +kernel
theorem dX11_init_165 : decode cX11_init 165 = .ok (.newarray .int, 2) := by decide +kernel
theorem dX11_init_167 : decode cX11_init 167 = .ok (.putfield 104, 3) := by decide +kernel
theorem dX11_init_170 : decode cX11_init 170 = .ok (.aload_n 0, 1) := by decide +kernel
theorem dX11_init_171 : decode cX11_init 171 = .ok (.bipush 42, 2) := by decide +kernel
theorem dX11_init_173 : decode cX11_init 173 = .ok (.newarray .int, 2) := by decide +kernel
theorem dX11_init_175 : decode cX11_init 175 = .ok (.putfield 108, 3) := by decide +kernel
theorem dX11_init_178 : decode cX11_init 178 = .ok (.iconst 0, 1) := by decide +kernel
theorem dX11_init_179 : decode cX11_init 179 = .ok (.istore_n 1, 1) := by decide +kernel
theorem dX11_init_180 : decode cX11_init 180 = .ok (.iload_n 1, 1) := by decide +kernel
theorem dX11_init_181 : decode cX11_init 181 = .ok (.bipush 20, 2) := by decide +kernel
theorem dX11_init_183 : decode cX11_init 183 = .ok (.if_icmp .ge 22, 3) := by decide +kernel
theorem dX11_init_186 : decode cX11_init 186 = .ok (.aload_n 0, 1) := by decide +kernel
theorem dX11_init_187 : decode cX11_init 187 = .ok (.getfield 90, 3) := by decide +kernel
theorem dX11_init_190 : decode cX11_init 190 = .ok (.iload_n 1, 1) := by decide +kernel
theorem dX11_init_191 : decode cX11_init 191 = .ok (.new 43, 3) := by decide +kernel
theorem dX11_init_194 : decode cX11_init 194 = .ok (.dup, 1) := by decide +kernel
theorem dX11_init_195 : decode cX11_init 195 = .ok (.invokespecial 45, 3) := by decide +kernel
theorem dX11_init_198 : decode cX11_init 198 = .ok (.aastore, 1) := by decide +kernel
theorem dX11_init_199 : decode cX11_init 199 = .ok (.iinc 1 1, 3) := by decide +kernel
theorem dX11_init_202 : decode cX11_init 202 = .ok (.goto (-22), 3) := by decide +kernel
theorem dX11_init_205 : decode cX11_init 205 = .ok (.iconst 0, 1) := by decide +kernel
theorem dX11_init_206 : decode cX11_init 206 = .ok (.istore_n 1, 1) := by decide +kernel
theorem dX11_init_207 : decode cX11_init 207 = .ok (.iload_n 1, 1) := by decide +kernel
theorem dX11_init_208 : decode cX11_init 208 = .ok (.iconst 4, 1) := by decide +kernel
theorem dX11_init_209 : decode cX11_init 209 = .ok (.if_icmp .ge 22, 3) := by decide +kernel
theorem dX11_init_212 : decode cX11_init 212 = .ok (.aload_n 0, 1) := by decide +kernel
theorem dX11_init_213 : decode cX11_init 213 = .ok (.getfield 86, 3) := by decide +kernel
theorem dX11_init_216 : decode cX11_init 216 = .ok (.iload_n 1, 1) := by decide +kernel
theorem dX11_init_217 : decode cX11_init 217 = .ok (.new 84, 3) := by decide +kernel
theorem dX11_init_220 : decode cX11_init 220 = .ok (.dup, 1) := by decide +kernel
theorem dX11_init_221 : decode cX11_init 221 = .ok (.invokespecial 111, 3) := by decide +kernel
theorem dX11_init_224 : decode cX11_init 224 = .ok (.aastore, 1) := by decide +kernel
theorem dX11_init_225 : decode cX11_init 225 = .ok (.iinc 1 1, 3) := by decide +kernel
theorem dX11_init_228 : decode cX11_init 228 = .ok (.goto (-21), 3) := by decide +kernel
theorem dX11_init_231 : decode cX11_init 231 = .ok (.return_, 1) := by decide +kernel
set_option maxRecDepth 100000 in
set_option maxHeartbeats 4000000 in
theorem kA_0 {p : Program} {l : Launch} {e : Env} {s : State} {m : MethodId} {args : Array Value} {below : List Frame} {meth : Method} {c : Code} {H : Heap} {locs : List Loc} {Q : State → Prop} {ls : Array Slot} {D : va_G} {A : Nat → Prop} {ad : Nat → Nat → Nat} {cy : Nat → ClassId} {Y : va_W} {a : Nat} (hx : p.tables.exec = Jvm.exec) (hb : c.code = cX11_init) (hml : c.maxLocals = 2) (hown : s.vm.findClass RX11 = some m.cls) (hts : ∀ w ∈ (Cond.code yX11_init cX11_init 2 none :: lw_ok), w.before args s = true) (hin : ∀ w ∈ lw_ok, w ∈ (Cond.code yX11_init cX11_init 2 none :: lw_ok)) (hK : va_K D vwCl (xty cy) s) (hZ : XZ A ad s) (hA : ∀ q, s.heap.size ≤ q → A q)
    (hX : XX D A ad cy (lk LQ16) Y (wA 0) H) (hG : XG ad (lk LQ16)) (hO : XD (lk LQ16) (wA 0)) (hS : va_S A s.heap H locs) (hl : lv_has ls 2 [(1, .int 0), (0, .ref a)]) (hq0 : ad 10 0 = a)
    (kk : ∀ (ad' : Nat → Nat → Nat) (H : Heap) (locs : List Loc) (ls : Array Slot), XX D A ad' cy (lk LQ17) Y (wA 1) H → XG ad' (lk LQ17) → XD (lk LQ17) (wA 1) → va_S A s.heap H locs → lv_has ls 2 [(1, .int 1), (0, .ref a)] → ad' 10 0 = a → XT0 ad (lk LQ16) ad' → W p l e { frames := 3, cells := 180, slots := 2293, locals := 52 } s m args below meth c H locs 45 1443 Q (F0 m 180 ls [])) : W p l e { frames := 3, cells := 180, slots := 2293, locals := 52 } s m args below meth c H locs 40 1413 Q (F0 m 180 ls []) := by
  refine lv_iload_n hx hb dX11_init_180 rfl (lv_at hl 0 rfl) ?_
  refine lv_bipush (v := 20) hx hb dX11_init_181 (by decide) ?_
  refine lv_icmp_ge (tgt := 205) hx hb dX11_init_183 (by decide) (fun cb => ?_) (fun cb => ?_)
  · exact absurd cb (by decide)
  refine lv_aload_n hx hb dX11_init_186 rfl (lv_at hl 1 rfl) ?_
  refine r_getSa (hq0) hx hb hts hin xk_10 hown hK hX (i := 0) (k := 14) (show 0 < lk LQ16 10 by decide +kernel) rfl (by decide) rfl wt_330 dX11_init_187 ?_
  refine lv_iload_n hx hb dX11_init_190 rfl (lv_at hl 0 rfl) ?_
  refine r_new hx hb hts hin xk_8 hown wt_167 wt_168 wt_5 hK hX hS hA (fs := [.int 0, .int 0, .null, .null, .null, .null]) (by decide +kernel) (Nat.le_of_ble_eq_true rfl) (Nat.le_of_ble_eq_true rfl) dX11_init_191 (fun b1 H hX hS => ?_)
  refine lv_dup hx hb dX11_init_194 rfl ?_
  refine ri_call (va_runIN (As := []) (rest := [.ref b1, .int 0, .ref (ad 37 (xser 1 0 0))]) (b := b1) (g := F0 m 195 ls (.ref b1 :: [.ref b1, .int 0, .ref (ad 37 (xser 1 0 0))])) (nL := 2) (host := "WinterKeep") ⟨hx, hb, hml, hown, hts⟩ (i_X9_init l D A ad cy (lk LQ16) Y (wA 0) b1 rfl rfl rfl rfl) ⟨va_cnB 0 hts (lw_okg wt_171) rfl rfl rfl (hZ.2.2.2.2 (RX11, 45, yX9_init) (List.mem_of_getElem? (i := 3) rfl)) (hts _ (hin _ wt_5)) (by decide +kernel) ⟨Nat.le_of_ble_eq_true rfl, Nat.le_of_ble_eq_true rfl⟩, rfl, hts _ (hin _ wt_170)⟩ ⟨xip_blind, fun U hU hW => ⟨rfl, fun q h => hA q (Nat.le_trans hS.1 (by rw [← hU]; exact h)), by rw [hU]; exact hX, hO, va_K.moved hW.alike hK, hG, xz_to (xz_ad (cnt := fun _ => 0) hZ ⟨fun _ _ h => absurd h (Nat.not_lt_zero _), rfl, rfl⟩) hU hW hS⟩⟩ rfl rfl hl.1 rfl (lv_room (Nat.le_of_ble_eq_true rfl)) dX11_init_195 ⟨Nat.le_of_ble_eq_true rfl, Nat.le_of_ble_eq_true rfl⟩) hS (fun ad1 H locs hT1 hq1 hX hG hO hS => ?_)
  rw [cup_lk (k := 30) (v := 2) rfl rfl] at hX hG hO
  rw [cup_lk (k := 31) (v := 2) rfl rfl] at hX hG hO
  rw [cup_lk (k := 32) (v := 2) rfl rfl] at hX hG hO
  rw [cup_lk (k := 33) (v := 2) rfl rfl] at hX hG hO
  rw [cup_lk (k := 8) (v := 2) rfl rfl] at hX hG hO
  rw [show wz (wA 0) 30 ((lk LQ16) 8) = (wA 0) from wz_id rfl rfl rfl] at hX hO
  rw [show wz (wA 0) 31 ((lk LQ16) 8) = (wA 0) from wz_id rfl rfl rfl] at hX hO
  rw [show wz (wA 0) 32 ((lk LQ16) 8) = (wA 0) from wz_id rfl rfl rfl] at hX hO
  rw [show wz (wA 0) 33 ((lk LQ16) 8) = (wA 0) from wz_id rfl rfl rfl] at hX hO
  rw [show wz (wA 0) 8 ((lk LQ16) 8) = (wA 0) from wz_id rfl rfl rfl] at hX hO
  have hX : XX D A ad1 cy (lk LQ17) Y (wA 0) H := hX
  have hG : XG ad1 (lk LQ17) := hG
  have hO : XD (lk LQ17) (wA 0) := hO
  rw [show b1 = ad1 8 2 from (hq1).symm]
  rw [show ad 37 (xser 1 0 0) = ad1 37 0 from (hT1.1 37 0 (show 0 < lk LQ16 37 by decide)).symm]
  refine r_aast hx hb xk_8 hK hX hG hO hS (t := 6) rfl rfl (by decide) (by decide) (show 0 < lk LQ17 37 by decide) (show 2 < lk LQ17 8 by decide +kernel) (vp_in_lit (by decide)) dX11_init_198 (fun H locs hX hO hS => ?_)
  have hX : XX D A ad1 cy (lk LQ17) Y (wA 1) H := hX
  have hO : XD (lk LQ17) (wA 1) := hO
  refine lv_iinc (v := 1) (lv' := [(1, .int 1), (0, .ref a)]) hx hb dX11_init_199 hl (k := 0) rfl (by decide) (by decide) rfl (fun ls hl => ?_)
  have hl : lv_has ls 2 [(1, .int 1), (0, .ref a)] := hl
  refine lv_goto (tgt := 180) hx hb dX11_init_202 (by decide) ?_
  exact kk _ H locs ls hX hG hO hS hl (((hT1.1 10 0 (show 0 < lk LQ16 10 by decide +kernel)).trans hq0)) (hT1)

set_option maxRecDepth 100000 in
set_option maxHeartbeats 4000000 in
theorem kA_1 {p : Program} {l : Launch} {e : Env} {s : State} {m : MethodId} {args : Array Value} {below : List Frame} {meth : Method} {c : Code} {H : Heap} {locs : List Loc} {Q : State → Prop} {ls : Array Slot} {D : va_G} {A : Nat → Prop} {ad : Nat → Nat → Nat} {cy : Nat → ClassId} {Y : va_W} {a : Nat} (hx : p.tables.exec = Jvm.exec) (hb : c.code = cX11_init) (hml : c.maxLocals = 2) (hown : s.vm.findClass RX11 = some m.cls) (hts : ∀ w ∈ (Cond.code yX11_init cX11_init 2 none :: lw_ok), w.before args s = true) (hin : ∀ w ∈ lw_ok, w ∈ (Cond.code yX11_init cX11_init 2 none :: lw_ok)) (hK : va_K D vwCl (xty cy) s) (hZ : XZ A ad s) (hA : ∀ q, s.heap.size ≤ q → A q)
    (hX : XX D A ad cy (lk LQ17) Y (wA 1) H) (hG : XG ad (lk LQ17)) (hO : XD (lk LQ17) (wA 1)) (hS : va_S A s.heap H locs) (hl : lv_has ls 2 [(1, .int 1), (0, .ref a)]) (hq0 : ad 10 0 = a)
    (kk : ∀ (ad' : Nat → Nat → Nat) (H : Heap) (locs : List Loc) (ls : Array Slot), XX D A ad' cy (lk LQ18) Y (wA 2) H → XG ad' (lk LQ18) → XD (lk LQ18) (wA 2) → va_S A s.heap H locs → lv_has ls 2 [(1, .int 2), (0, .ref a)] → ad' 10 0 = a → XT0 ad (lk LQ17) ad' → W p l e { frames := 3, cells := 180, slots := 2293, locals := 52 } s m args below meth c H locs 50 1473 Q (F0 m 180 ls [])) : W p l e { frames := 3, cells := 180, slots := 2293, locals := 52 } s m args below meth c H locs 45 1443 Q (F0 m 180 ls []) := by
  refine lv_iload_n hx hb dX11_init_180 rfl (lv_at hl 0 rfl) ?_
  refine lv_bipush (v := 20) hx hb dX11_init_181 (by decide) ?_
  refine lv_icmp_ge (tgt := 205) hx hb dX11_init_183 (by decide) (fun cb => ?_) (fun cb => ?_)
  · exact absurd cb (by decide)
  refine lv_aload_n hx hb dX11_init_186 rfl (lv_at hl 1 rfl) ?_
  refine r_getSa (hq0) hx hb hts hin xk_10 hown hK hX (i := 0) (k := 14) (show 0 < lk LQ17 10 by decide +kernel) rfl (by decide) rfl wt_330 dX11_init_187 ?_
  refine lv_iload_n hx hb dX11_init_190 rfl (lv_at hl 0 rfl) ?_
  refine r_new hx hb hts hin xk_8 hown wt_167 wt_168 wt_5 hK hX hS hA (fs := [.int 0, .int 0, .null, .null, .null, .null]) (by decide +kernel) (Nat.le_of_ble_eq_true rfl) (Nat.le_of_ble_eq_true rfl) dX11_init_191 (fun b1 H hX hS => ?_)
  refine lv_dup hx hb dX11_init_194 rfl ?_
  refine ri_call (va_runIN (As := []) (rest := [.ref b1, .int 1, .ref (ad 37 (xser 1 0 0))]) (b := b1) (g := F0 m 195 ls (.ref b1 :: [.ref b1, .int 1, .ref (ad 37 (xser 1 0 0))])) (nL := 2) (host := "WinterKeep") ⟨hx, hb, hml, hown, hts⟩ (i_X9_init l D A ad cy (lk LQ17) Y (wA 1) b1 rfl rfl rfl rfl) ⟨va_cnB 0 hts (lw_okg wt_171) rfl rfl rfl (hZ.2.2.2.2 (RX11, 45, yX9_init) (List.mem_of_getElem? (i := 3) rfl)) (hts _ (hin _ wt_5)) (by decide +kernel) ⟨Nat.le_of_ble_eq_true rfl, Nat.le_of_ble_eq_true rfl⟩, rfl, hts _ (hin _ wt_170)⟩ ⟨xip_blind, fun U hU hW => ⟨rfl, fun q h => hA q (Nat.le_trans hS.1 (by rw [← hU]; exact h)), by rw [hU]; exact hX, hO, va_K.moved hW.alike hK, hG, xz_to (xz_ad (cnt := fun _ => 0) hZ ⟨fun _ _ h => absurd h (Nat.not_lt_zero _), rfl, rfl⟩) hU hW hS⟩⟩ rfl rfl hl.1 rfl (lv_room (Nat.le_of_ble_eq_true rfl)) dX11_init_195 ⟨Nat.le_of_ble_eq_true rfl, Nat.le_of_ble_eq_true rfl⟩) hS (fun ad1 H locs hT1 hq1 hX hG hO hS => ?_)
  rw [cup_lk (k := 30) (v := 3) rfl rfl] at hX hG hO
  rw [cup_lk (k := 31) (v := 3) rfl rfl] at hX hG hO
  rw [cup_lk (k := 32) (v := 3) rfl rfl] at hX hG hO
  rw [cup_lk (k := 33) (v := 3) rfl rfl] at hX hG hO
  rw [cup_lk (k := 8) (v := 3) rfl rfl] at hX hG hO
  rw [show wz (wA 1) 30 ((lk LQ17) 8) = (wA 1) from wz_id rfl rfl rfl] at hX hO
  rw [show wz (wA 1) 31 ((lk LQ17) 8) = (wA 1) from wz_id rfl rfl rfl] at hX hO
  rw [show wz (wA 1) 32 ((lk LQ17) 8) = (wA 1) from wz_id rfl rfl rfl] at hX hO
  rw [show wz (wA 1) 33 ((lk LQ17) 8) = (wA 1) from wz_id rfl rfl rfl] at hX hO
  rw [show wz (wA 1) 8 ((lk LQ17) 8) = (wA 1) from wz_id rfl rfl rfl] at hX hO
  have hX : XX D A ad1 cy (lk LQ18) Y (wA 1) H := hX
  have hG : XG ad1 (lk LQ18) := hG
  have hO : XD (lk LQ18) (wA 1) := hO
  rw [show b1 = ad1 8 3 from (hq1).symm]
  rw [show ad 37 (xser 1 0 0) = ad1 37 0 from (hT1.1 37 0 (show 0 < lk LQ17 37 by decide)).symm]
  refine r_aast hx hb xk_8 hK hX hG hO hS (t := 6) rfl rfl (by decide) (by decide) (show 0 < lk LQ18 37 by decide) (show 3 < lk LQ18 8 by decide +kernel) (vp_in_lit (by decide)) dX11_init_198 (fun H locs hX hO hS => ?_)
  have hX : XX D A ad1 cy (lk LQ18) Y (wA 2) H := hX
  have hO : XD (lk LQ18) (wA 2) := hO
  refine lv_iinc (v := 2) (lv' := [(1, .int 2), (0, .ref a)]) hx hb dX11_init_199 hl (k := 0) rfl (by decide) (by decide) rfl (fun ls hl => ?_)
  have hl : lv_has ls 2 [(1, .int 2), (0, .ref a)] := hl
  refine lv_goto (tgt := 180) hx hb dX11_init_202 (by decide) ?_
  exact kk _ H locs ls hX hG hO hS hl (((hT1.1 10 0 (show 0 < lk LQ17 10 by decide +kernel)).trans hq0)) (hT1)

set_option maxRecDepth 100000 in
set_option maxHeartbeats 4000000 in
theorem kA_2 {p : Program} {l : Launch} {e : Env} {s : State} {m : MethodId} {args : Array Value} {below : List Frame} {meth : Method} {c : Code} {H : Heap} {locs : List Loc} {Q : State → Prop} {ls : Array Slot} {D : va_G} {A : Nat → Prop} {ad : Nat → Nat → Nat} {cy : Nat → ClassId} {Y : va_W} {a : Nat} (hx : p.tables.exec = Jvm.exec) (hb : c.code = cX11_init) (hml : c.maxLocals = 2) (hown : s.vm.findClass RX11 = some m.cls) (hts : ∀ w ∈ (Cond.code yX11_init cX11_init 2 none :: lw_ok), w.before args s = true) (hin : ∀ w ∈ lw_ok, w ∈ (Cond.code yX11_init cX11_init 2 none :: lw_ok)) (hK : va_K D vwCl (xty cy) s) (hZ : XZ A ad s) (hA : ∀ q, s.heap.size ≤ q → A q)
    (hX : XX D A ad cy (lk LQ18) Y (wA 2) H) (hG : XG ad (lk LQ18)) (hO : XD (lk LQ18) (wA 2)) (hS : va_S A s.heap H locs) (hl : lv_has ls 2 [(1, .int 2), (0, .ref a)]) (hq0 : ad 10 0 = a)
    (kk : ∀ (ad' : Nat → Nat → Nat) (H : Heap) (locs : List Loc) (ls : Array Slot), XX D A ad' cy (lk LQ19) Y (wA 3) H → XG ad' (lk LQ19) → XD (lk LQ19) (wA 3) → va_S A s.heap H locs → lv_has ls 2 [(1, .int 3), (0, .ref a)] → ad' 10 0 = a → XT0 ad (lk LQ18) ad' → W p l e { frames := 3, cells := 180, slots := 2293, locals := 52 } s m args below meth c H locs 55 1503 Q (F0 m 180 ls [])) : W p l e { frames := 3, cells := 180, slots := 2293, locals := 52 } s m args below meth c H locs 50 1473 Q (F0 m 180 ls []) := by
  refine lv_iload_n hx hb dX11_init_180 rfl (lv_at hl 0 rfl) ?_
  refine lv_bipush (v := 20) hx hb dX11_init_181 (by decide) ?_
  refine lv_icmp_ge (tgt := 205) hx hb dX11_init_183 (by decide) (fun cb => ?_) (fun cb => ?_)
  · exact absurd cb (by decide)
  refine lv_aload_n hx hb dX11_init_186 rfl (lv_at hl 1 rfl) ?_
  refine r_getSa (hq0) hx hb hts hin xk_10 hown hK hX (i := 0) (k := 14) (show 0 < lk LQ18 10 by decide +kernel) rfl (by decide) rfl wt_330 dX11_init_187 ?_
  refine lv_iload_n hx hb dX11_init_190 rfl (lv_at hl 0 rfl) ?_
  refine r_new hx hb hts hin xk_8 hown wt_167 wt_168 wt_5 hK hX hS hA (fs := [.int 0, .int 0, .null, .null, .null, .null]) (by decide +kernel) (Nat.le_of_ble_eq_true rfl) (Nat.le_of_ble_eq_true rfl) dX11_init_191 (fun b1 H hX hS => ?_)
  refine lv_dup hx hb dX11_init_194 rfl ?_
  refine ri_call (va_runIN (As := []) (rest := [.ref b1, .int 2, .ref (ad 37 (xser 1 0 0))]) (b := b1) (g := F0 m 195 ls (.ref b1 :: [.ref b1, .int 2, .ref (ad 37 (xser 1 0 0))])) (nL := 2) (host := "WinterKeep") ⟨hx, hb, hml, hown, hts⟩ (i_X9_init l D A ad cy (lk LQ18) Y (wA 2) b1 rfl rfl rfl rfl) ⟨va_cnB 0 hts (lw_okg wt_171) rfl rfl rfl (hZ.2.2.2.2 (RX11, 45, yX9_init) (List.mem_of_getElem? (i := 3) rfl)) (hts _ (hin _ wt_5)) (by decide +kernel) ⟨Nat.le_of_ble_eq_true rfl, Nat.le_of_ble_eq_true rfl⟩, rfl, hts _ (hin _ wt_170)⟩ ⟨xip_blind, fun U hU hW => ⟨rfl, fun q h => hA q (Nat.le_trans hS.1 (by rw [← hU]; exact h)), by rw [hU]; exact hX, hO, va_K.moved hW.alike hK, hG, xz_to (xz_ad (cnt := fun _ => 0) hZ ⟨fun _ _ h => absurd h (Nat.not_lt_zero _), rfl, rfl⟩) hU hW hS⟩⟩ rfl rfl hl.1 rfl (lv_room (Nat.le_of_ble_eq_true rfl)) dX11_init_195 ⟨Nat.le_of_ble_eq_true rfl, Nat.le_of_ble_eq_true rfl⟩) hS (fun ad1 H locs hT1 hq1 hX hG hO hS => ?_)
  rw [cup_lk (k := 30) (v := 4) rfl rfl] at hX hG hO
  rw [cup_lk (k := 31) (v := 4) rfl rfl] at hX hG hO
  rw [cup_lk (k := 32) (v := 4) rfl rfl] at hX hG hO
  rw [cup_lk (k := 33) (v := 4) rfl rfl] at hX hG hO
  rw [cup_lk (k := 8) (v := 4) rfl rfl] at hX hG hO
  rw [show wz (wA 2) 30 ((lk LQ18) 8) = (wA 2) from wz_id rfl rfl rfl] at hX hO
  rw [show wz (wA 2) 31 ((lk LQ18) 8) = (wA 2) from wz_id rfl rfl rfl] at hX hO
  rw [show wz (wA 2) 32 ((lk LQ18) 8) = (wA 2) from wz_id rfl rfl rfl] at hX hO
  rw [show wz (wA 2) 33 ((lk LQ18) 8) = (wA 2) from wz_id rfl rfl rfl] at hX hO
  rw [show wz (wA 2) 8 ((lk LQ18) 8) = (wA 2) from wz_id rfl rfl rfl] at hX hO
  have hX : XX D A ad1 cy (lk LQ19) Y (wA 2) H := hX
  have hG : XG ad1 (lk LQ19) := hG
  have hO : XD (lk LQ19) (wA 2) := hO
  rw [show b1 = ad1 8 4 from (hq1).symm]
  rw [show ad 37 (xser 1 0 0) = ad1 37 0 from (hT1.1 37 0 (show 0 < lk LQ18 37 by decide)).symm]
  refine r_aast hx hb xk_8 hK hX hG hO hS (t := 6) rfl rfl (by decide) (by decide) (show 0 < lk LQ19 37 by decide) (show 4 < lk LQ19 8 by decide +kernel) (vp_in_lit (by decide)) dX11_init_198 (fun H locs hX hO hS => ?_)
  have hX : XX D A ad1 cy (lk LQ19) Y (wA 3) H := hX
  have hO : XD (lk LQ19) (wA 3) := hO
  refine lv_iinc (v := 3) (lv' := [(1, .int 3), (0, .ref a)]) hx hb dX11_init_199 hl (k := 0) rfl (by decide) (by decide) rfl (fun ls hl => ?_)
  have hl : lv_has ls 2 [(1, .int 3), (0, .ref a)] := hl
  refine lv_goto (tgt := 180) hx hb dX11_init_202 (by decide) ?_
  exact kk _ H locs ls hX hG hO hS hl (((hT1.1 10 0 (show 0 < lk LQ18 10 by decide +kernel)).trans hq0)) (hT1)

set_option maxRecDepth 100000 in
set_option maxHeartbeats 4000000 in
theorem kA_3 {p : Program} {l : Launch} {e : Env} {s : State} {m : MethodId} {args : Array Value} {below : List Frame} {meth : Method} {c : Code} {H : Heap} {locs : List Loc} {Q : State → Prop} {ls : Array Slot} {D : va_G} {A : Nat → Prop} {ad : Nat → Nat → Nat} {cy : Nat → ClassId} {Y : va_W} {a : Nat} (hx : p.tables.exec = Jvm.exec) (hb : c.code = cX11_init) (hml : c.maxLocals = 2) (hown : s.vm.findClass RX11 = some m.cls) (hts : ∀ w ∈ (Cond.code yX11_init cX11_init 2 none :: lw_ok), w.before args s = true) (hin : ∀ w ∈ lw_ok, w ∈ (Cond.code yX11_init cX11_init 2 none :: lw_ok)) (hK : va_K D vwCl (xty cy) s) (hZ : XZ A ad s) (hA : ∀ q, s.heap.size ≤ q → A q)
    (hX : XX D A ad cy (lk LQ19) Y (wA 3) H) (hG : XG ad (lk LQ19)) (hO : XD (lk LQ19) (wA 3)) (hS : va_S A s.heap H locs) (hl : lv_has ls 2 [(1, .int 3), (0, .ref a)]) (hq0 : ad 10 0 = a)
    (kk : ∀ (ad' : Nat → Nat → Nat) (H : Heap) (locs : List Loc) (ls : Array Slot), XX D A ad' cy (lk LQ20) Y (wA 4) H → XG ad' (lk LQ20) → XD (lk LQ20) (wA 4) → va_S A s.heap H locs → lv_has ls 2 [(1, .int 4), (0, .ref a)] → ad' 10 0 = a → XT0 ad (lk LQ19) ad' → W p l e { frames := 3, cells := 180, slots := 2293, locals := 52 } s m args below meth c H locs 60 1533 Q (F0 m 180 ls [])) : W p l e { frames := 3, cells := 180, slots := 2293, locals := 52 } s m args below meth c H locs 55 1503 Q (F0 m 180 ls []) := by
  refine lv_iload_n hx hb dX11_init_180 rfl (lv_at hl 0 rfl) ?_
  refine lv_bipush (v := 20) hx hb dX11_init_181 (by decide) ?_
  refine lv_icmp_ge (tgt := 205) hx hb dX11_init_183 (by decide) (fun cb => ?_) (fun cb => ?_)
  · exact absurd cb (by decide)
  refine lv_aload_n hx hb dX11_init_186 rfl (lv_at hl 1 rfl) ?_
  refine r_getSa (hq0) hx hb hts hin xk_10 hown hK hX (i := 0) (k := 14) (show 0 < lk LQ19 10 by decide +kernel) rfl (by decide) rfl wt_330 dX11_init_187 ?_
  refine lv_iload_n hx hb dX11_init_190 rfl (lv_at hl 0 rfl) ?_
  refine r_new hx hb hts hin xk_8 hown wt_167 wt_168 wt_5 hK hX hS hA (fs := [.int 0, .int 0, .null, .null, .null, .null]) (by decide +kernel) (Nat.le_of_ble_eq_true rfl) (Nat.le_of_ble_eq_true rfl) dX11_init_191 (fun b1 H hX hS => ?_)
  refine lv_dup hx hb dX11_init_194 rfl ?_
  refine ri_call (va_runIN (As := []) (rest := [.ref b1, .int 3, .ref (ad 37 (xser 1 0 0))]) (b := b1) (g := F0 m 195 ls (.ref b1 :: [.ref b1, .int 3, .ref (ad 37 (xser 1 0 0))])) (nL := 2) (host := "WinterKeep") ⟨hx, hb, hml, hown, hts⟩ (i_X9_init l D A ad cy (lk LQ19) Y (wA 3) b1 rfl rfl rfl rfl) ⟨va_cnB 0 hts (lw_okg wt_171) rfl rfl rfl (hZ.2.2.2.2 (RX11, 45, yX9_init) (List.mem_of_getElem? (i := 3) rfl)) (hts _ (hin _ wt_5)) (by decide +kernel) ⟨Nat.le_of_ble_eq_true rfl, Nat.le_of_ble_eq_true rfl⟩, rfl, hts _ (hin _ wt_170)⟩ ⟨xip_blind, fun U hU hW => ⟨rfl, fun q h => hA q (Nat.le_trans hS.1 (by rw [← hU]; exact h)), by rw [hU]; exact hX, hO, va_K.moved hW.alike hK, hG, xz_to (xz_ad (cnt := fun _ => 0) hZ ⟨fun _ _ h => absurd h (Nat.not_lt_zero _), rfl, rfl⟩) hU hW hS⟩⟩ rfl rfl hl.1 rfl (lv_room (Nat.le_of_ble_eq_true rfl)) dX11_init_195 ⟨Nat.le_of_ble_eq_true rfl, Nat.le_of_ble_eq_true rfl⟩) hS (fun ad1 H locs hT1 hq1 hX hG hO hS => ?_)
  rw [cup_lk (k := 30) (v := 5) rfl rfl] at hX hG hO
  rw [cup_lk (k := 31) (v := 5) rfl rfl] at hX hG hO
  rw [cup_lk (k := 32) (v := 5) rfl rfl] at hX hG hO
  rw [cup_lk (k := 33) (v := 5) rfl rfl] at hX hG hO
  rw [cup_lk (k := 8) (v := 5) rfl rfl] at hX hG hO
  rw [show wz (wA 3) 30 ((lk LQ19) 8) = (wA 3) from wz_id rfl rfl rfl] at hX hO
  rw [show wz (wA 3) 31 ((lk LQ19) 8) = (wA 3) from wz_id rfl rfl rfl] at hX hO
  rw [show wz (wA 3) 32 ((lk LQ19) 8) = (wA 3) from wz_id rfl rfl rfl] at hX hO
  rw [show wz (wA 3) 33 ((lk LQ19) 8) = (wA 3) from wz_id rfl rfl rfl] at hX hO
  rw [show wz (wA 3) 8 ((lk LQ19) 8) = (wA 3) from wz_id rfl rfl rfl] at hX hO
  have hX : XX D A ad1 cy (lk LQ20) Y (wA 3) H := hX
  have hG : XG ad1 (lk LQ20) := hG
  have hO : XD (lk LQ20) (wA 3) := hO
  rw [show b1 = ad1 8 5 from (hq1).symm]
  rw [show ad 37 (xser 1 0 0) = ad1 37 0 from (hT1.1 37 0 (show 0 < lk LQ19 37 by decide)).symm]
  refine r_aast hx hb xk_8 hK hX hG hO hS (t := 6) rfl rfl (by decide) (by decide) (show 0 < lk LQ20 37 by decide) (show 5 < lk LQ20 8 by decide +kernel) (vp_in_lit (by decide)) dX11_init_198 (fun H locs hX hO hS => ?_)
  have hX : XX D A ad1 cy (lk LQ20) Y (wA 4) H := hX
  have hO : XD (lk LQ20) (wA 4) := hO
  refine lv_iinc (v := 4) (lv' := [(1, .int 4), (0, .ref a)]) hx hb dX11_init_199 hl (k := 0) rfl (by decide) (by decide) rfl (fun ls hl => ?_)
  have hl : lv_has ls 2 [(1, .int 4), (0, .ref a)] := hl
  refine lv_goto (tgt := 180) hx hb dX11_init_202 (by decide) ?_
  exact kk _ H locs ls hX hG hO hS hl (((hT1.1 10 0 (show 0 < lk LQ19 10 by decide +kernel)).trans hq0)) (hT1)

set_option maxRecDepth 100000 in
set_option maxHeartbeats 4000000 in
theorem kA_4 {p : Program} {l : Launch} {e : Env} {s : State} {m : MethodId} {args : Array Value} {below : List Frame} {meth : Method} {c : Code} {H : Heap} {locs : List Loc} {Q : State → Prop} {ls : Array Slot} {D : va_G} {A : Nat → Prop} {ad : Nat → Nat → Nat} {cy : Nat → ClassId} {Y : va_W} {a : Nat} (hx : p.tables.exec = Jvm.exec) (hb : c.code = cX11_init) (hml : c.maxLocals = 2) (hown : s.vm.findClass RX11 = some m.cls) (hts : ∀ w ∈ (Cond.code yX11_init cX11_init 2 none :: lw_ok), w.before args s = true) (hin : ∀ w ∈ lw_ok, w ∈ (Cond.code yX11_init cX11_init 2 none :: lw_ok)) (hK : va_K D vwCl (xty cy) s) (hZ : XZ A ad s) (hA : ∀ q, s.heap.size ≤ q → A q)
    (hX : XX D A ad cy (lk LQ20) Y (wA 4) H) (hG : XG ad (lk LQ20)) (hO : XD (lk LQ20) (wA 4)) (hS : va_S A s.heap H locs) (hl : lv_has ls 2 [(1, .int 4), (0, .ref a)]) (hq0 : ad 10 0 = a)
    (kk : ∀ (ad' : Nat → Nat → Nat) (H : Heap) (locs : List Loc) (ls : Array Slot), XX D A ad' cy (lk LQ21) Y (wA 5) H → XG ad' (lk LQ21) → XD (lk LQ21) (wA 5) → va_S A s.heap H locs → lv_has ls 2 [(1, .int 5), (0, .ref a)] → ad' 10 0 = a → XT0 ad (lk LQ20) ad' → W p l e { frames := 3, cells := 180, slots := 2293, locals := 52 } s m args below meth c H locs 65 1563 Q (F0 m 180 ls [])) : W p l e { frames := 3, cells := 180, slots := 2293, locals := 52 } s m args below meth c H locs 60 1533 Q (F0 m 180 ls []) := by
  refine lv_iload_n hx hb dX11_init_180 rfl (lv_at hl 0 rfl) ?_
  refine lv_bipush (v := 20) hx hb dX11_init_181 (by decide) ?_
  refine lv_icmp_ge (tgt := 205) hx hb dX11_init_183 (by decide) (fun cb => ?_) (fun cb => ?_)
  · exact absurd cb (by decide)
  refine lv_aload_n hx hb dX11_init_186 rfl (lv_at hl 1 rfl) ?_
  refine r_getSa (hq0) hx hb hts hin xk_10 hown hK hX (i := 0) (k := 14) (show 0 < lk LQ20 10 by decide +kernel) rfl (by decide) rfl wt_330 dX11_init_187 ?_
  refine lv_iload_n hx hb dX11_init_190 rfl (lv_at hl 0 rfl) ?_
  refine r_new hx hb hts hin xk_8 hown wt_167 wt_168 wt_5 hK hX hS hA (fs := [.int 0, .int 0, .null, .null, .null, .null]) (by decide +kernel) (Nat.le_of_ble_eq_true rfl) (Nat.le_of_ble_eq_true rfl) dX11_init_191 (fun b1 H hX hS => ?_)
  refine lv_dup hx hb dX11_init_194 rfl ?_
  refine ri_call (va_runIN (As := []) (rest := [.ref b1, .int 4, .ref (ad 37 (xser 1 0 0))]) (b := b1) (g := F0 m 195 ls (.ref b1 :: [.ref b1, .int 4, .ref (ad 37 (xser 1 0 0))])) (nL := 2) (host := "WinterKeep") ⟨hx, hb, hml, hown, hts⟩ (i_X9_init l D A ad cy (lk LQ20) Y (wA 4) b1 rfl rfl rfl rfl) ⟨va_cnB 0 hts (lw_okg wt_171) rfl rfl rfl (hZ.2.2.2.2 (RX11, 45, yX9_init) (List.mem_of_getElem? (i := 3) rfl)) (hts _ (hin _ wt_5)) (by decide +kernel) ⟨Nat.le_of_ble_eq_true rfl, Nat.le_of_ble_eq_true rfl⟩, rfl, hts _ (hin _ wt_170)⟩ ⟨xip_blind, fun U hU hW => ⟨rfl, fun q h => hA q (Nat.le_trans hS.1 (by rw [← hU]; exact h)), by rw [hU]; exact hX, hO, va_K.moved hW.alike hK, hG, xz_to (xz_ad (cnt := fun _ => 0) hZ ⟨fun _ _ h => absurd h (Nat.not_lt_zero _), rfl, rfl⟩) hU hW hS⟩⟩ rfl rfl hl.1 rfl (lv_room (Nat.le_of_ble_eq_true rfl)) dX11_init_195 ⟨Nat.le_of_ble_eq_true rfl, Nat.le_of_ble_eq_true rfl⟩) hS (fun ad1 H locs hT1 hq1 hX hG hO hS => ?_)
  rw [cup_lk (k := 30) (v := 6) rfl rfl] at hX hG hO
  rw [cup_lk (k := 31) (v := 6) rfl rfl] at hX hG hO
  rw [cup_lk (k := 32) (v := 6) rfl rfl] at hX hG hO
  rw [cup_lk (k := 33) (v := 6) rfl rfl] at hX hG hO
  rw [cup_lk (k := 8) (v := 6) rfl rfl] at hX hG hO
  rw [show wz (wA 4) 30 ((lk LQ20) 8) = (wA 4) from wz_id rfl rfl rfl] at hX hO
  rw [show wz (wA 4) 31 ((lk LQ20) 8) = (wA 4) from wz_id rfl rfl rfl] at hX hO
  rw [show wz (wA 4) 32 ((lk LQ20) 8) = (wA 4) from wz_id rfl rfl rfl] at hX hO
  rw [show wz (wA 4) 33 ((lk LQ20) 8) = (wA 4) from wz_id rfl rfl rfl] at hX hO
  rw [show wz (wA 4) 8 ((lk LQ20) 8) = (wA 4) from wz_id rfl rfl rfl] at hX hO
  have hX : XX D A ad1 cy (lk LQ21) Y (wA 4) H := hX
  have hG : XG ad1 (lk LQ21) := hG
  have hO : XD (lk LQ21) (wA 4) := hO
  rw [show b1 = ad1 8 6 from (hq1).symm]
  rw [show ad 37 (xser 1 0 0) = ad1 37 0 from (hT1.1 37 0 (show 0 < lk LQ20 37 by decide)).symm]
  refine r_aast hx hb xk_8 hK hX hG hO hS (t := 6) rfl rfl (by decide) (by decide) (show 0 < lk LQ21 37 by decide) (show 6 < lk LQ21 8 by decide +kernel) (vp_in_lit (by decide)) dX11_init_198 (fun H locs hX hO hS => ?_)
  have hX : XX D A ad1 cy (lk LQ21) Y (wA 5) H := hX
  have hO : XD (lk LQ21) (wA 5) := hO
  refine lv_iinc (v := 5) (lv' := [(1, .int 5), (0, .ref a)]) hx hb dX11_init_199 hl (k := 0) rfl (by decide) (by decide) rfl (fun ls hl => ?_)
  have hl : lv_has ls 2 [(1, .int 5), (0, .ref a)] := hl
  refine lv_goto (tgt := 180) hx hb dX11_init_202 (by decide) ?_
  exact kk _ H locs ls hX hG hO hS hl (((hT1.1 10 0 (show 0 < lk LQ20 10 by decide +kernel)).trans hq0)) (hT1)

set_option maxRecDepth 100000 in
set_option maxHeartbeats 4000000 in
theorem kA_5 {p : Program} {l : Launch} {e : Env} {s : State} {m : MethodId} {args : Array Value} {below : List Frame} {meth : Method} {c : Code} {H : Heap} {locs : List Loc} {Q : State → Prop} {ls : Array Slot} {D : va_G} {A : Nat → Prop} {ad : Nat → Nat → Nat} {cy : Nat → ClassId} {Y : va_W} {a : Nat} (hx : p.tables.exec = Jvm.exec) (hb : c.code = cX11_init) (hml : c.maxLocals = 2) (hown : s.vm.findClass RX11 = some m.cls) (hts : ∀ w ∈ (Cond.code yX11_init cX11_init 2 none :: lw_ok), w.before args s = true) (hin : ∀ w ∈ lw_ok, w ∈ (Cond.code yX11_init cX11_init 2 none :: lw_ok)) (hK : va_K D vwCl (xty cy) s) (hZ : XZ A ad s) (hA : ∀ q, s.heap.size ≤ q → A q)
    (hX : XX D A ad cy (lk LQ21) Y (wA 5) H) (hG : XG ad (lk LQ21)) (hO : XD (lk LQ21) (wA 5)) (hS : va_S A s.heap H locs) (hl : lv_has ls 2 [(1, .int 5), (0, .ref a)]) (hq0 : ad 10 0 = a)
    (kk : ∀ (ad' : Nat → Nat → Nat) (H : Heap) (locs : List Loc) (ls : Array Slot), XX D A ad' cy (lk LQ22) Y (wA 6) H → XG ad' (lk LQ22) → XD (lk LQ22) (wA 6) → va_S A s.heap H locs → lv_has ls 2 [(1, .int 6), (0, .ref a)] → ad' 10 0 = a → XT0 ad (lk LQ21) ad' → W p l e { frames := 3, cells := 180, slots := 2293, locals := 52 } s m args below meth c H locs 70 1593 Q (F0 m 180 ls [])) : W p l e { frames := 3, cells := 180, slots := 2293, locals := 52 } s m args below meth c H locs 65 1563 Q (F0 m 180 ls []) := by
  refine lv_iload_n hx hb dX11_init_180 rfl (lv_at hl 0 rfl) ?_
  refine lv_bipush (v := 20) hx hb dX11_init_181 (by decide) ?_
  refine lv_icmp_ge (tgt := 205) hx hb dX11_init_183 (by decide) (fun cb => ?_) (fun cb => ?_)
  · exact absurd cb (by decide)
  refine lv_aload_n hx hb dX11_init_186 rfl (lv_at hl 1 rfl) ?_
  refine r_getSa (hq0) hx hb hts hin xk_10 hown hK hX (i := 0) (k := 14) (show 0 < lk LQ21 10 by decide +kernel) rfl (by decide) rfl wt_330 dX11_init_187 ?_
  refine lv_iload_n hx hb dX11_init_190 rfl (lv_at hl 0 rfl) ?_
  refine r_new hx hb hts hin xk_8 hown wt_167 wt_168 wt_5 hK hX hS hA (fs := [.int 0, .int 0, .null, .null, .null, .null]) (by decide +kernel) (Nat.le_of_ble_eq_true rfl) (Nat.le_of_ble_eq_true rfl) dX11_init_191 (fun b1 H hX hS => ?_)
  refine lv_dup hx hb dX11_init_194 rfl ?_
  refine ri_call (va_runIN (As := []) (rest := [.ref b1, .int 5, .ref (ad 37 (xser 1 0 0))]) (b := b1) (g := F0 m 195 ls (.ref b1 :: [.ref b1, .int 5, .ref (ad 37 (xser 1 0 0))])) (nL := 2) (host := "WinterKeep") ⟨hx, hb, hml, hown, hts⟩ (i_X9_init l D A ad cy (lk LQ21) Y (wA 5) b1 rfl rfl rfl rfl) ⟨va_cnB 0 hts (lw_okg wt_171) rfl rfl rfl (hZ.2.2.2.2 (RX11, 45, yX9_init) (List.mem_of_getElem? (i := 3) rfl)) (hts _ (hin _ wt_5)) (by decide +kernel) ⟨Nat.le_of_ble_eq_true rfl, Nat.le_of_ble_eq_true rfl⟩, rfl, hts _ (hin _ wt_170)⟩ ⟨xip_blind, fun U hU hW => ⟨rfl, fun q h => hA q (Nat.le_trans hS.1 (by rw [← hU]; exact h)), by rw [hU]; exact hX, hO, va_K.moved hW.alike hK, hG, xz_to (xz_ad (cnt := fun _ => 0) hZ ⟨fun _ _ h => absurd h (Nat.not_lt_zero _), rfl, rfl⟩) hU hW hS⟩⟩ rfl rfl hl.1 rfl (lv_room (Nat.le_of_ble_eq_true rfl)) dX11_init_195 ⟨Nat.le_of_ble_eq_true rfl, Nat.le_of_ble_eq_true rfl⟩) hS (fun ad1 H locs hT1 hq1 hX hG hO hS => ?_)
  rw [cup_lk (k := 30) (v := 7) rfl rfl] at hX hG hO
  rw [cup_lk (k := 31) (v := 7) rfl rfl] at hX hG hO
  rw [cup_lk (k := 32) (v := 7) rfl rfl] at hX hG hO
  rw [cup_lk (k := 33) (v := 7) rfl rfl] at hX hG hO
  rw [cup_lk (k := 8) (v := 7) rfl rfl] at hX hG hO
  rw [show wz (wA 5) 30 ((lk LQ21) 8) = (wA 5) from wz_id rfl rfl rfl] at hX hO
  rw [show wz (wA 5) 31 ((lk LQ21) 8) = (wA 5) from wz_id rfl rfl rfl] at hX hO
  rw [show wz (wA 5) 32 ((lk LQ21) 8) = (wA 5) from wz_id rfl rfl rfl] at hX hO
  rw [show wz (wA 5) 33 ((lk LQ21) 8) = (wA 5) from wz_id rfl rfl rfl] at hX hO
  rw [show wz (wA 5) 8 ((lk LQ21) 8) = (wA 5) from wz_id rfl rfl rfl] at hX hO
  have hX : XX D A ad1 cy (lk LQ22) Y (wA 5) H := hX
  have hG : XG ad1 (lk LQ22) := hG
  have hO : XD (lk LQ22) (wA 5) := hO
  rw [show b1 = ad1 8 7 from (hq1).symm]
  rw [show ad 37 (xser 1 0 0) = ad1 37 0 from (hT1.1 37 0 (show 0 < lk LQ21 37 by decide)).symm]
  refine r_aast hx hb xk_8 hK hX hG hO hS (t := 6) rfl rfl (by decide) (by decide) (show 0 < lk LQ22 37 by decide) (show 7 < lk LQ22 8 by decide +kernel) (vp_in_lit (by decide)) dX11_init_198 (fun H locs hX hO hS => ?_)
  have hX : XX D A ad1 cy (lk LQ22) Y (wA 6) H := hX
  have hO : XD (lk LQ22) (wA 6) := hO
  refine lv_iinc (v := 6) (lv' := [(1, .int 6), (0, .ref a)]) hx hb dX11_init_199 hl (k := 0) rfl (by decide) (by decide) rfl (fun ls hl => ?_)
  have hl : lv_has ls 2 [(1, .int 6), (0, .ref a)] := hl
  refine lv_goto (tgt := 180) hx hb dX11_init_202 (by decide) ?_
  exact kk _ H locs ls hX hG hO hS hl (((hT1.1 10 0 (show 0 < lk LQ21 10 by decide +kernel)).trans hq0)) (hT1)

set_option maxRecDepth 100000 in
set_option maxHeartbeats 4000000 in
theorem kA_6 {p : Program} {l : Launch} {e : Env} {s : State} {m : MethodId} {args : Array Value} {below : List Frame} {meth : Method} {c : Code} {H : Heap} {locs : List Loc} {Q : State → Prop} {ls : Array Slot} {D : va_G} {A : Nat → Prop} {ad : Nat → Nat → Nat} {cy : Nat → ClassId} {Y : va_W} {a : Nat} (hx : p.tables.exec = Jvm.exec) (hb : c.code = cX11_init) (hml : c.maxLocals = 2) (hown : s.vm.findClass RX11 = some m.cls) (hts : ∀ w ∈ (Cond.code yX11_init cX11_init 2 none :: lw_ok), w.before args s = true) (hin : ∀ w ∈ lw_ok, w ∈ (Cond.code yX11_init cX11_init 2 none :: lw_ok)) (hK : va_K D vwCl (xty cy) s) (hZ : XZ A ad s) (hA : ∀ q, s.heap.size ≤ q → A q)
    (hX : XX D A ad cy (lk LQ22) Y (wA 6) H) (hG : XG ad (lk LQ22)) (hO : XD (lk LQ22) (wA 6)) (hS : va_S A s.heap H locs) (hl : lv_has ls 2 [(1, .int 6), (0, .ref a)]) (hq0 : ad 10 0 = a)
    (kk : ∀ (ad' : Nat → Nat → Nat) (H : Heap) (locs : List Loc) (ls : Array Slot), XX D A ad' cy (lk LQ23) Y (wA 7) H → XG ad' (lk LQ23) → XD (lk LQ23) (wA 7) → va_S A s.heap H locs → lv_has ls 2 [(1, .int 7), (0, .ref a)] → ad' 10 0 = a → XT0 ad (lk LQ22) ad' → W p l e { frames := 3, cells := 180, slots := 2293, locals := 52 } s m args below meth c H locs 75 1623 Q (F0 m 180 ls [])) : W p l e { frames := 3, cells := 180, slots := 2293, locals := 52 } s m args below meth c H locs 70 1593 Q (F0 m 180 ls []) := by
  refine lv_iload_n hx hb dX11_init_180 rfl (lv_at hl 0 rfl) ?_
  refine lv_bipush (v := 20) hx hb dX11_init_181 (by decide) ?_
  refine lv_icmp_ge (tgt := 205) hx hb dX11_init_183 (by decide) (fun cb => ?_) (fun cb => ?_)
  · exact absurd cb (by decide)
  refine lv_aload_n hx hb dX11_init_186 rfl (lv_at hl 1 rfl) ?_
  refine r_getSa (hq0) hx hb hts hin xk_10 hown hK hX (i := 0) (k := 14) (show 0 < lk LQ22 10 by decide +kernel) rfl (by decide) rfl wt_330 dX11_init_187 ?_
  refine lv_iload_n hx hb dX11_init_190 rfl (lv_at hl 0 rfl) ?_
  refine r_new hx hb hts hin xk_8 hown wt_167 wt_168 wt_5 hK hX hS hA (fs := [.int 0, .int 0, .null, .null, .null, .null]) (by decide +kernel) (Nat.le_of_ble_eq_true rfl) (Nat.le_of_ble_eq_true rfl) dX11_init_191 (fun b1 H hX hS => ?_)
  refine lv_dup hx hb dX11_init_194 rfl ?_
  refine ri_call (va_runIN (As := []) (rest := [.ref b1, .int 6, .ref (ad 37 (xser 1 0 0))]) (b := b1) (g := F0 m 195 ls (.ref b1 :: [.ref b1, .int 6, .ref (ad 37 (xser 1 0 0))])) (nL := 2) (host := "WinterKeep") ⟨hx, hb, hml, hown, hts⟩ (i_X9_init l D A ad cy (lk LQ22) Y (wA 6) b1 rfl rfl rfl rfl) ⟨va_cnB 0 hts (lw_okg wt_171) rfl rfl rfl (hZ.2.2.2.2 (RX11, 45, yX9_init) (List.mem_of_getElem? (i := 3) rfl)) (hts _ (hin _ wt_5)) (by decide +kernel) ⟨Nat.le_of_ble_eq_true rfl, Nat.le_of_ble_eq_true rfl⟩, rfl, hts _ (hin _ wt_170)⟩ ⟨xip_blind, fun U hU hW => ⟨rfl, fun q h => hA q (Nat.le_trans hS.1 (by rw [← hU]; exact h)), by rw [hU]; exact hX, hO, va_K.moved hW.alike hK, hG, xz_to (xz_ad (cnt := fun _ => 0) hZ ⟨fun _ _ h => absurd h (Nat.not_lt_zero _), rfl, rfl⟩) hU hW hS⟩⟩ rfl rfl hl.1 rfl (lv_room (Nat.le_of_ble_eq_true rfl)) dX11_init_195 ⟨Nat.le_of_ble_eq_true rfl, Nat.le_of_ble_eq_true rfl⟩) hS (fun ad1 H locs hT1 hq1 hX hG hO hS => ?_)
  rw [cup_lk (k := 30) (v := 8) rfl rfl] at hX hG hO
  rw [cup_lk (k := 31) (v := 8) rfl rfl] at hX hG hO
  rw [cup_lk (k := 32) (v := 8) rfl rfl] at hX hG hO
  rw [cup_lk (k := 33) (v := 8) rfl rfl] at hX hG hO
  rw [cup_lk (k := 8) (v := 8) rfl rfl] at hX hG hO
  rw [show wz (wA 6) 30 ((lk LQ22) 8) = (wA 6) from wz_id rfl rfl rfl] at hX hO
  rw [show wz (wA 6) 31 ((lk LQ22) 8) = (wA 6) from wz_id rfl rfl rfl] at hX hO
  rw [show wz (wA 6) 32 ((lk LQ22) 8) = (wA 6) from wz_id rfl rfl rfl] at hX hO
  rw [show wz (wA 6) 33 ((lk LQ22) 8) = (wA 6) from wz_id rfl rfl rfl] at hX hO
  rw [show wz (wA 6) 8 ((lk LQ22) 8) = (wA 6) from wz_id rfl rfl rfl] at hX hO
  have hX : XX D A ad1 cy (lk LQ23) Y (wA 6) H := hX
  have hG : XG ad1 (lk LQ23) := hG
  have hO : XD (lk LQ23) (wA 6) := hO
  rw [show b1 = ad1 8 8 from (hq1).symm]
  rw [show ad 37 (xser 1 0 0) = ad1 37 0 from (hT1.1 37 0 (show 0 < lk LQ22 37 by decide)).symm]
  refine r_aast hx hb xk_8 hK hX hG hO hS (t := 6) rfl rfl (by decide) (by decide) (show 0 < lk LQ23 37 by decide) (show 8 < lk LQ23 8 by decide +kernel) (vp_in_lit (by decide)) dX11_init_198 (fun H locs hX hO hS => ?_)
  have hX : XX D A ad1 cy (lk LQ23) Y (wA 7) H := hX
  have hO : XD (lk LQ23) (wA 7) := hO
  refine lv_iinc (v := 7) (lv' := [(1, .int 7), (0, .ref a)]) hx hb dX11_init_199 hl (k := 0) rfl (by decide) (by decide) rfl (fun ls hl => ?_)
  have hl : lv_has ls 2 [(1, .int 7), (0, .ref a)] := hl
  refine lv_goto (tgt := 180) hx hb dX11_init_202 (by decide) ?_
  exact kk _ H locs ls hX hG hO hS hl (((hT1.1 10 0 (show 0 < lk LQ22 10 by decide +kernel)).trans hq0)) (hT1)

set_option maxRecDepth 100000 in
set_option maxHeartbeats 4000000 in
theorem kA_7 {p : Program} {l : Launch} {e : Env} {s : State} {m : MethodId} {args : Array Value} {below : List Frame} {meth : Method} {c : Code} {H : Heap} {locs : List Loc} {Q : State → Prop} {ls : Array Slot} {D : va_G} {A : Nat → Prop} {ad : Nat → Nat → Nat} {cy : Nat → ClassId} {Y : va_W} {a : Nat} (hx : p.tables.exec = Jvm.exec) (hb : c.code = cX11_init) (hml : c.maxLocals = 2) (hown : s.vm.findClass RX11 = some m.cls) (hts : ∀ w ∈ (Cond.code yX11_init cX11_init 2 none :: lw_ok), w.before args s = true) (hin : ∀ w ∈ lw_ok, w ∈ (Cond.code yX11_init cX11_init 2 none :: lw_ok)) (hK : va_K D vwCl (xty cy) s) (hZ : XZ A ad s) (hA : ∀ q, s.heap.size ≤ q → A q)
    (hX : XX D A ad cy (lk LQ23) Y (wA 7) H) (hG : XG ad (lk LQ23)) (hO : XD (lk LQ23) (wA 7)) (hS : va_S A s.heap H locs) (hl : lv_has ls 2 [(1, .int 7), (0, .ref a)]) (hq0 : ad 10 0 = a)
    (kk : ∀ (ad' : Nat → Nat → Nat) (H : Heap) (locs : List Loc) (ls : Array Slot), XX D A ad' cy (lk LQ24) Y (wA 8) H → XG ad' (lk LQ24) → XD (lk LQ24) (wA 8) → va_S A s.heap H locs → lv_has ls 2 [(1, .int 8), (0, .ref a)] → ad' 10 0 = a → XT0 ad (lk LQ23) ad' → W p l e { frames := 3, cells := 180, slots := 2293, locals := 52 } s m args below meth c H locs 80 1653 Q (F0 m 180 ls [])) : W p l e { frames := 3, cells := 180, slots := 2293, locals := 52 } s m args below meth c H locs 75 1623 Q (F0 m 180 ls []) := by
  refine lv_iload_n hx hb dX11_init_180 rfl (lv_at hl 0 rfl) ?_
  refine lv_bipush (v := 20) hx hb dX11_init_181 (by decide) ?_
  refine lv_icmp_ge (tgt := 205) hx hb dX11_init_183 (by decide) (fun cb => ?_) (fun cb => ?_)
  · exact absurd cb (by decide)
  refine lv_aload_n hx hb dX11_init_186 rfl (lv_at hl 1 rfl) ?_
  refine r_getSa (hq0) hx hb hts hin xk_10 hown hK hX (i := 0) (k := 14) (show 0 < lk LQ23 10 by decide +kernel) rfl (by decide) rfl wt_330 dX11_init_187 ?_
  refine lv_iload_n hx hb dX11_init_190 rfl (lv_at hl 0 rfl) ?_
  refine r_new hx hb hts hin xk_8 hown wt_167 wt_168 wt_5 hK hX hS hA (fs := [.int 0, .int 0, .null, .null, .null, .null]) (by decide +kernel) (Nat.le_of_ble_eq_true rfl) (Nat.le_of_ble_eq_true rfl) dX11_init_191 (fun b1 H hX hS => ?_)
  refine lv_dup hx hb dX11_init_194 rfl ?_
  refine ri_call (va_runIN (As := []) (rest := [.ref b1, .int 7, .ref (ad 37 (xser 1 0 0))]) (b := b1) (g := F0 m 195 ls (.ref b1 :: [.ref b1, .int 7, .ref (ad 37 (xser 1 0 0))])) (nL := 2) (host := "WinterKeep") ⟨hx, hb, hml, hown, hts⟩ (i_X9_init l D A ad cy (lk LQ23) Y (wA 7) b1 rfl rfl rfl rfl) ⟨va_cnB 0 hts (lw_okg wt_171) rfl rfl rfl (hZ.2.2.2.2 (RX11, 45, yX9_init) (List.mem_of_getElem? (i := 3) rfl)) (hts _ (hin _ wt_5)) (by decide +kernel) ⟨Nat.le_of_ble_eq_true rfl, Nat.le_of_ble_eq_true rfl⟩, rfl, hts _ (hin _ wt_170)⟩ ⟨xip_blind, fun U hU hW => ⟨rfl, fun q h => hA q (Nat.le_trans hS.1 (by rw [← hU]; exact h)), by rw [hU]; exact hX, hO, va_K.moved hW.alike hK, hG, xz_to (xz_ad (cnt := fun _ => 0) hZ ⟨fun _ _ h => absurd h (Nat.not_lt_zero _), rfl, rfl⟩) hU hW hS⟩⟩ rfl rfl hl.1 rfl (lv_room (Nat.le_of_ble_eq_true rfl)) dX11_init_195 ⟨Nat.le_of_ble_eq_true rfl, Nat.le_of_ble_eq_true rfl⟩) hS (fun ad1 H locs hT1 hq1 hX hG hO hS => ?_)
  rw [cup_lk (k := 30) (v := 9) rfl rfl] at hX hG hO
  rw [cup_lk (k := 31) (v := 9) rfl rfl] at hX hG hO
  rw [cup_lk (k := 32) (v := 9) rfl rfl] at hX hG hO
  rw [cup_lk (k := 33) (v := 9) rfl rfl] at hX hG hO
  rw [cup_lk (k := 8) (v := 9) rfl rfl] at hX hG hO
  rw [show wz (wA 7) 30 ((lk LQ23) 8) = (wA 7) from wz_id rfl rfl rfl] at hX hO
  rw [show wz (wA 7) 31 ((lk LQ23) 8) = (wA 7) from wz_id rfl rfl rfl] at hX hO
  rw [show wz (wA 7) 32 ((lk LQ23) 8) = (wA 7) from wz_id rfl rfl rfl] at hX hO
  rw [show wz (wA 7) 33 ((lk LQ23) 8) = (wA 7) from wz_id rfl rfl rfl] at hX hO
  rw [show wz (wA 7) 8 ((lk LQ23) 8) = (wA 7) from wz_id rfl rfl rfl] at hX hO
  have hX : XX D A ad1 cy (lk LQ24) Y (wA 7) H := hX
  have hG : XG ad1 (lk LQ24) := hG
  have hO : XD (lk LQ24) (wA 7) := hO
  rw [show b1 = ad1 8 9 from (hq1).symm]
  rw [show ad 37 (xser 1 0 0) = ad1 37 0 from (hT1.1 37 0 (show 0 < lk LQ23 37 by decide)).symm]
  refine r_aast hx hb xk_8 hK hX hG hO hS (t := 6) rfl rfl (by decide) (by decide) (show 0 < lk LQ24 37 by decide) (show 9 < lk LQ24 8 by decide +kernel) (vp_in_lit (by decide)) dX11_init_198 (fun H locs hX hO hS => ?_)
  have hX : XX D A ad1 cy (lk LQ24) Y (wA 8) H := hX
  have hO : XD (lk LQ24) (wA 8) := hO
  refine lv_iinc (v := 8) (lv' := [(1, .int 8), (0, .ref a)]) hx hb dX11_init_199 hl (k := 0) rfl (by decide) (by decide) rfl (fun ls hl => ?_)
  have hl : lv_has ls 2 [(1, .int 8), (0, .ref a)] := hl
  refine lv_goto (tgt := 180) hx hb dX11_init_202 (by decide) ?_
  exact kk _ H locs ls hX hG hO hS hl (((hT1.1 10 0 (show 0 < lk LQ23 10 by decide +kernel)).trans hq0)) (hT1)

set_option maxRecDepth 100000 in
set_option maxHeartbeats 4000000 in
theorem kA_8 {p : Program} {l : Launch} {e : Env} {s : State} {m : MethodId} {args : Array Value} {below : List Frame} {meth : Method} {c : Code} {H : Heap} {locs : List Loc} {Q : State → Prop} {ls : Array Slot} {D : va_G} {A : Nat → Prop} {ad : Nat → Nat → Nat} {cy : Nat → ClassId} {Y : va_W} {a : Nat} (hx : p.tables.exec = Jvm.exec) (hb : c.code = cX11_init) (hml : c.maxLocals = 2) (hown : s.vm.findClass RX11 = some m.cls) (hts : ∀ w ∈ (Cond.code yX11_init cX11_init 2 none :: lw_ok), w.before args s = true) (hin : ∀ w ∈ lw_ok, w ∈ (Cond.code yX11_init cX11_init 2 none :: lw_ok)) (hK : va_K D vwCl (xty cy) s) (hZ : XZ A ad s) (hA : ∀ q, s.heap.size ≤ q → A q)
    (hX : XX D A ad cy (lk LQ24) Y (wA 8) H) (hG : XG ad (lk LQ24)) (hO : XD (lk LQ24) (wA 8)) (hS : va_S A s.heap H locs) (hl : lv_has ls 2 [(1, .int 8), (0, .ref a)]) (hq0 : ad 10 0 = a)
    (kk : ∀ (ad' : Nat → Nat → Nat) (H : Heap) (locs : List Loc) (ls : Array Slot), XX D A ad' cy (lk LQ25) Y (wA 9) H → XG ad' (lk LQ25) → XD (lk LQ25) (wA 9) → va_S A s.heap H locs → lv_has ls 2 [(1, .int 9), (0, .ref a)] → ad' 10 0 = a → XT0 ad (lk LQ24) ad' → W p l e { frames := 3, cells := 180, slots := 2293, locals := 52 } s m args below meth c H locs 85 1683 Q (F0 m 180 ls [])) : W p l e { frames := 3, cells := 180, slots := 2293, locals := 52 } s m args below meth c H locs 80 1653 Q (F0 m 180 ls []) := by
  refine lv_iload_n hx hb dX11_init_180 rfl (lv_at hl 0 rfl) ?_
  refine lv_bipush (v := 20) hx hb dX11_init_181 (by decide) ?_
  refine lv_icmp_ge (tgt := 205) hx hb dX11_init_183 (by decide) (fun cb => ?_) (fun cb => ?_)
  · exact absurd cb (by decide)
  refine lv_aload_n hx hb dX11_init_186 rfl (lv_at hl 1 rfl) ?_
  refine r_getSa (hq0) hx hb hts hin xk_10 hown hK hX (i := 0) (k := 14) (show 0 < lk LQ24 10 by decide +kernel) rfl (by decide) rfl wt_330 dX11_init_187 ?_
  refine lv_iload_n hx hb dX11_init_190 rfl (lv_at hl 0 rfl) ?_
  refine r_new hx hb hts hin xk_8 hown wt_167 wt_168 wt_5 hK hX hS hA (fs := [.int 0, .int 0, .null, .null, .null, .null]) (by decide +kernel) (Nat.le_of_ble_eq_true rfl) (Nat.le_of_ble_eq_true rfl) dX11_init_191 (fun b1 H hX hS => ?_)
  refine lv_dup hx hb dX11_init_194 rfl ?_
  refine ri_call (va_runIN (As := []) (rest := [.ref b1, .int 8, .ref (ad 37 (xser 1 0 0))]) (b := b1) (g := F0 m 195 ls (.ref b1 :: [.ref b1, .int 8, .ref (ad 37 (xser 1 0 0))])) (nL := 2) (host := "WinterKeep") ⟨hx, hb, hml, hown, hts⟩ (i_X9_init l D A ad cy (lk LQ24) Y (wA 8) b1 rfl rfl rfl rfl) ⟨va_cnB 0 hts (lw_okg wt_171) rfl rfl rfl (hZ.2.2.2.2 (RX11, 45, yX9_init) (List.mem_of_getElem? (i := 3) rfl)) (hts _ (hin _ wt_5)) (by decide +kernel) ⟨Nat.le_of_ble_eq_true rfl, Nat.le_of_ble_eq_true rfl⟩, rfl, hts _ (hin _ wt_170)⟩ ⟨xip_blind, fun U hU hW => ⟨rfl, fun q h => hA q (Nat.le_trans hS.1 (by rw [← hU]; exact h)), by rw [hU]; exact hX, hO, va_K.moved hW.alike hK, hG, xz_to (xz_ad (cnt := fun _ => 0) hZ ⟨fun _ _ h => absurd h (Nat.not_lt_zero _), rfl, rfl⟩) hU hW hS⟩⟩ rfl rfl hl.1 rfl (lv_room (Nat.le_of_ble_eq_true rfl)) dX11_init_195 ⟨Nat.le_of_ble_eq_true rfl, Nat.le_of_ble_eq_true rfl⟩) hS (fun ad1 H locs hT1 hq1 hX hG hO hS => ?_)
  rw [cup_lk (k := 30) (v := 10) rfl rfl] at hX hG hO
  rw [cup_lk (k := 31) (v := 10) rfl rfl] at hX hG hO
  rw [cup_lk (k := 32) (v := 10) rfl rfl] at hX hG hO
  rw [cup_lk (k := 33) (v := 10) rfl rfl] at hX hG hO
  rw [cup_lk (k := 8) (v := 10) rfl rfl] at hX hG hO
  rw [show wz (wA 8) 30 ((lk LQ24) 8) = (wA 8) from wz_id rfl rfl rfl] at hX hO
  rw [show wz (wA 8) 31 ((lk LQ24) 8) = (wA 8) from wz_id rfl rfl rfl] at hX hO
  rw [show wz (wA 8) 32 ((lk LQ24) 8) = (wA 8) from wz_id rfl rfl rfl] at hX hO
  rw [show wz (wA 8) 33 ((lk LQ24) 8) = (wA 8) from wz_id rfl rfl rfl] at hX hO
  rw [show wz (wA 8) 8 ((lk LQ24) 8) = (wA 8) from wz_id rfl rfl rfl] at hX hO
  have hX : XX D A ad1 cy (lk LQ25) Y (wA 8) H := hX
  have hG : XG ad1 (lk LQ25) := hG
  have hO : XD (lk LQ25) (wA 8) := hO
  rw [show b1 = ad1 8 10 from (hq1).symm]
  rw [show ad 37 (xser 1 0 0) = ad1 37 0 from (hT1.1 37 0 (show 0 < lk LQ24 37 by decide)).symm]
  refine r_aast hx hb xk_8 hK hX hG hO hS (t := 6) rfl rfl (by decide) (by decide) (show 0 < lk LQ25 37 by decide) (show 10 < lk LQ25 8 by decide +kernel) (vp_in_lit (by decide)) dX11_init_198 (fun H locs hX hO hS => ?_)
  have hX : XX D A ad1 cy (lk LQ25) Y (wA 9) H := hX
  have hO : XD (lk LQ25) (wA 9) := hO
  refine lv_iinc (v := 9) (lv' := [(1, .int 9), (0, .ref a)]) hx hb dX11_init_199 hl (k := 0) rfl (by decide) (by decide) rfl (fun ls hl => ?_)
  have hl : lv_has ls 2 [(1, .int 9), (0, .ref a)] := hl
  refine lv_goto (tgt := 180) hx hb dX11_init_202 (by decide) ?_
  exact kk _ H locs ls hX hG hO hS hl (((hT1.1 10 0 (show 0 < lk LQ24 10 by decide +kernel)).trans hq0)) (hT1)

set_option maxRecDepth 100000 in
set_option maxHeartbeats 4000000 in
theorem kA_9 {p : Program} {l : Launch} {e : Env} {s : State} {m : MethodId} {args : Array Value} {below : List Frame} {meth : Method} {c : Code} {H : Heap} {locs : List Loc} {Q : State → Prop} {ls : Array Slot} {D : va_G} {A : Nat → Prop} {ad : Nat → Nat → Nat} {cy : Nat → ClassId} {Y : va_W} {a : Nat} (hx : p.tables.exec = Jvm.exec) (hb : c.code = cX11_init) (hml : c.maxLocals = 2) (hown : s.vm.findClass RX11 = some m.cls) (hts : ∀ w ∈ (Cond.code yX11_init cX11_init 2 none :: lw_ok), w.before args s = true) (hin : ∀ w ∈ lw_ok, w ∈ (Cond.code yX11_init cX11_init 2 none :: lw_ok)) (hK : va_K D vwCl (xty cy) s) (hZ : XZ A ad s) (hA : ∀ q, s.heap.size ≤ q → A q)
    (hX : XX D A ad cy (lk LQ25) Y (wA 9) H) (hG : XG ad (lk LQ25)) (hO : XD (lk LQ25) (wA 9)) (hS : va_S A s.heap H locs) (hl : lv_has ls 2 [(1, .int 9), (0, .ref a)]) (hq0 : ad 10 0 = a)
    (kk : ∀ (ad' : Nat → Nat → Nat) (H : Heap) (locs : List Loc) (ls : Array Slot), XX D A ad' cy (lk LQ26) Y (wA 10) H → XG ad' (lk LQ26) → XD (lk LQ26) (wA 10) → va_S A s.heap H locs → lv_has ls 2 [(1, .int 10), (0, .ref a)] → ad' 10 0 = a → XT0 ad (lk LQ25) ad' → W p l e { frames := 3, cells := 180, slots := 2293, locals := 52 } s m args below meth c H locs 90 1713 Q (F0 m 180 ls [])) : W p l e { frames := 3, cells := 180, slots := 2293, locals := 52 } s m args below meth c H locs 85 1683 Q (F0 m 180 ls []) := by
  refine lv_iload_n hx hb dX11_init_180 rfl (lv_at hl 0 rfl) ?_
  refine lv_bipush (v := 20) hx hb dX11_init_181 (by decide) ?_
  refine lv_icmp_ge (tgt := 205) hx hb dX11_init_183 (by decide) (fun cb => ?_) (fun cb => ?_)
  · exact absurd cb (by decide)
  refine lv_aload_n hx hb dX11_init_186 rfl (lv_at hl 1 rfl) ?_
  refine r_getSa (hq0) hx hb hts hin xk_10 hown hK hX (i := 0) (k := 14) (show 0 < lk LQ25 10 by decide +kernel) rfl (by decide) rfl wt_330 dX11_init_187 ?_
  refine lv_iload_n hx hb dX11_init_190 rfl (lv_at hl 0 rfl) ?_
  refine r_new hx hb hts hin xk_8 hown wt_167 wt_168 wt_5 hK hX hS hA (fs := [.int 0, .int 0, .null, .null, .null, .null]) (by decide +kernel) (Nat.le_of_ble_eq_true rfl) (Nat.le_of_ble_eq_true rfl) dX11_init_191 (fun b1 H hX hS => ?_)
  refine lv_dup hx hb dX11_init_194 rfl ?_
  refine ri_call (va_runIN (As := []) (rest := [.ref b1, .int 9, .ref (ad 37 (xser 1 0 0))]) (b := b1) (g := F0 m 195 ls (.ref b1 :: [.ref b1, .int 9, .ref (ad 37 (xser 1 0 0))])) (nL := 2) (host := "WinterKeep") ⟨hx, hb, hml, hown, hts⟩ (i_X9_init l D A ad cy (lk LQ25) Y (wA 9) b1 rfl rfl rfl rfl) ⟨va_cnB 0 hts (lw_okg wt_171) rfl rfl rfl (hZ.2.2.2.2 (RX11, 45, yX9_init) (List.mem_of_getElem? (i := 3) rfl)) (hts _ (hin _ wt_5)) (by decide +kernel) ⟨Nat.le_of_ble_eq_true rfl, Nat.le_of_ble_eq_true rfl⟩, rfl, hts _ (hin _ wt_170)⟩ ⟨xip_blind, fun U hU hW => ⟨rfl, fun q h => hA q (Nat.le_trans hS.1 (by rw [← hU]; exact h)), by rw [hU]; exact hX, hO, va_K.moved hW.alike hK, hG, xz_to (xz_ad (cnt := fun _ => 0) hZ ⟨fun _ _ h => absurd h (Nat.not_lt_zero _), rfl, rfl⟩) hU hW hS⟩⟩ rfl rfl hl.1 rfl (lv_room (Nat.le_of_ble_eq_true rfl)) dX11_init_195 ⟨Nat.le_of_ble_eq_true rfl, Nat.le_of_ble_eq_true rfl⟩) hS (fun ad1 H locs hT1 hq1 hX hG hO hS => ?_)
  rw [cup_lk (k := 30) (v := 11) rfl rfl] at hX hG hO
  rw [cup_lk (k := 31) (v := 11) rfl rfl] at hX hG hO
  rw [cup_lk (k := 32) (v := 11) rfl rfl] at hX hG hO
  rw [cup_lk (k := 33) (v := 11) rfl rfl] at hX hG hO
  rw [cup_lk (k := 8) (v := 11) rfl rfl] at hX hG hO
  rw [show wz (wA 9) 30 ((lk LQ25) 8) = (wA 9) from wz_id rfl rfl rfl] at hX hO
  rw [show wz (wA 9) 31 ((lk LQ25) 8) = (wA 9) from wz_id rfl rfl rfl] at hX hO
  rw [show wz (wA 9) 32 ((lk LQ25) 8) = (wA 9) from wz_id rfl rfl rfl] at hX hO
  rw [show wz (wA 9) 33 ((lk LQ25) 8) = (wA 9) from wz_id rfl rfl rfl] at hX hO
  rw [show wz (wA 9) 8 ((lk LQ25) 8) = (wA 9) from wz_id rfl rfl rfl] at hX hO
  have hX : XX D A ad1 cy (lk LQ26) Y (wA 9) H := hX
  have hG : XG ad1 (lk LQ26) := hG
  have hO : XD (lk LQ26) (wA 9) := hO
  rw [show b1 = ad1 8 11 from (hq1).symm]
  rw [show ad 37 (xser 1 0 0) = ad1 37 0 from (hT1.1 37 0 (show 0 < lk LQ25 37 by decide)).symm]
  refine r_aast hx hb xk_8 hK hX hG hO hS (t := 6) rfl rfl (by decide) (by decide) (show 0 < lk LQ26 37 by decide) (show 11 < lk LQ26 8 by decide +kernel) (vp_in_lit (by decide)) dX11_init_198 (fun H locs hX hO hS => ?_)
  have hX : XX D A ad1 cy (lk LQ26) Y (wA 10) H := hX
  have hO : XD (lk LQ26) (wA 10) := hO
  refine lv_iinc (v := 10) (lv' := [(1, .int 10), (0, .ref a)]) hx hb dX11_init_199 hl (k := 0) rfl (by decide) (by decide) rfl (fun ls hl => ?_)
  have hl : lv_has ls 2 [(1, .int 10), (0, .ref a)] := hl
  refine lv_goto (tgt := 180) hx hb dX11_init_202 (by decide) ?_
  exact kk _ H locs ls hX hG hO hS hl (((hT1.1 10 0 (show 0 < lk LQ25 10 by decide +kernel)).trans hq0)) (hT1)

set_option maxRecDepth 100000 in
set_option maxHeartbeats 4000000 in
theorem kA_10 {p : Program} {l : Launch} {e : Env} {s : State} {m : MethodId} {args : Array Value} {below : List Frame} {meth : Method} {c : Code} {H : Heap} {locs : List Loc} {Q : State → Prop} {ls : Array Slot} {D : va_G} {A : Nat → Prop} {ad : Nat → Nat → Nat} {cy : Nat → ClassId} {Y : va_W} {a : Nat} (hx : p.tables.exec = Jvm.exec) (hb : c.code = cX11_init) (hml : c.maxLocals = 2) (hown : s.vm.findClass RX11 = some m.cls) (hts : ∀ w ∈ (Cond.code yX11_init cX11_init 2 none :: lw_ok), w.before args s = true) (hin : ∀ w ∈ lw_ok, w ∈ (Cond.code yX11_init cX11_init 2 none :: lw_ok)) (hK : va_K D vwCl (xty cy) s) (hZ : XZ A ad s) (hA : ∀ q, s.heap.size ≤ q → A q)
    (hX : XX D A ad cy (lk LQ26) Y (wA 10) H) (hG : XG ad (lk LQ26)) (hO : XD (lk LQ26) (wA 10)) (hS : va_S A s.heap H locs) (hl : lv_has ls 2 [(1, .int 10), (0, .ref a)]) (hq0 : ad 10 0 = a)
    (kk : ∀ (ad' : Nat → Nat → Nat) (H : Heap) (locs : List Loc) (ls : Array Slot), XX D A ad' cy (lk LQ27) Y (wA 11) H → XG ad' (lk LQ27) → XD (lk LQ27) (wA 11) → va_S A s.heap H locs → lv_has ls 2 [(1, .int 11), (0, .ref a)] → ad' 10 0 = a → XT0 ad (lk LQ26) ad' → W p l e { frames := 3, cells := 180, slots := 2293, locals := 52 } s m args below meth c H locs 95 1743 Q (F0 m 180 ls [])) : W p l e { frames := 3, cells := 180, slots := 2293, locals := 52 } s m args below meth c H locs 90 1713 Q (F0 m 180 ls []) := by
  refine lv_iload_n hx hb dX11_init_180 rfl (lv_at hl 0 rfl) ?_
  refine lv_bipush (v := 20) hx hb dX11_init_181 (by decide) ?_
  refine lv_icmp_ge (tgt := 205) hx hb dX11_init_183 (by decide) (fun cb => ?_) (fun cb => ?_)
  · exact absurd cb (by decide)
  refine lv_aload_n hx hb dX11_init_186 rfl (lv_at hl 1 rfl) ?_
  refine r_getSa (hq0) hx hb hts hin xk_10 hown hK hX (i := 0) (k := 14) (show 0 < lk LQ26 10 by decide +kernel) rfl (by decide) rfl wt_330 dX11_init_187 ?_
  refine lv_iload_n hx hb dX11_init_190 rfl (lv_at hl 0 rfl) ?_
  refine r_new hx hb hts hin xk_8 hown wt_167 wt_168 wt_5 hK hX hS hA (fs := [.int 0, .int 0, .null, .null, .null, .null]) (by decide +kernel) (Nat.le_of_ble_eq_true rfl) (Nat.le_of_ble_eq_true rfl) dX11_init_191 (fun b1 H hX hS => ?_)
  refine lv_dup hx hb dX11_init_194 rfl ?_
  refine ri_call (va_runIN (As := []) (rest := [.ref b1, .int 10, .ref (ad 37 (xser 1 0 0))]) (b := b1) (g := F0 m 195 ls (.ref b1 :: [.ref b1, .int 10, .ref (ad 37 (xser 1 0 0))])) (nL := 2) (host := "WinterKeep") ⟨hx, hb, hml, hown, hts⟩ (i_X9_init l D A ad cy (lk LQ26) Y (wA 10) b1 rfl rfl rfl rfl) ⟨va_cnB 0 hts (lw_okg wt_171) rfl rfl rfl (hZ.2.2.2.2 (RX11, 45, yX9_init) (List.mem_of_getElem? (i := 3) rfl)) (hts _ (hin _ wt_5)) (by decide +kernel) ⟨Nat.le_of_ble_eq_true rfl, Nat.le_of_ble_eq_true rfl⟩, rfl, hts _ (hin _ wt_170)⟩ ⟨xip_blind, fun U hU hW => ⟨rfl, fun q h => hA q (Nat.le_trans hS.1 (by rw [← hU]; exact h)), by rw [hU]; exact hX, hO, va_K.moved hW.alike hK, hG, xz_to (xz_ad (cnt := fun _ => 0) hZ ⟨fun _ _ h => absurd h (Nat.not_lt_zero _), rfl, rfl⟩) hU hW hS⟩⟩ rfl rfl hl.1 rfl (lv_room (Nat.le_of_ble_eq_true rfl)) dX11_init_195 ⟨Nat.le_of_ble_eq_true rfl, Nat.le_of_ble_eq_true rfl⟩) hS (fun ad1 H locs hT1 hq1 hX hG hO hS => ?_)
  rw [cup_lk (k := 30) (v := 12) rfl rfl] at hX hG hO
  rw [cup_lk (k := 31) (v := 12) rfl rfl] at hX hG hO
  rw [cup_lk (k := 32) (v := 12) rfl rfl] at hX hG hO
  rw [cup_lk (k := 33) (v := 12) rfl rfl] at hX hG hO
  rw [cup_lk (k := 8) (v := 12) rfl rfl] at hX hG hO
  rw [show wz (wA 10) 30 ((lk LQ26) 8) = (wA 10) from wz_id rfl rfl rfl] at hX hO
  rw [show wz (wA 10) 31 ((lk LQ26) 8) = (wA 10) from wz_id rfl rfl rfl] at hX hO
  rw [show wz (wA 10) 32 ((lk LQ26) 8) = (wA 10) from wz_id rfl rfl rfl] at hX hO
  rw [show wz (wA 10) 33 ((lk LQ26) 8) = (wA 10) from wz_id rfl rfl rfl] at hX hO
  rw [show wz (wA 10) 8 ((lk LQ26) 8) = (wA 10) from wz_id rfl rfl rfl] at hX hO
  have hX : XX D A ad1 cy (lk LQ27) Y (wA 10) H := hX
  have hG : XG ad1 (lk LQ27) := hG
  have hO : XD (lk LQ27) (wA 10) := hO
  rw [show b1 = ad1 8 12 from (hq1).symm]
  rw [show ad 37 (xser 1 0 0) = ad1 37 0 from (hT1.1 37 0 (show 0 < lk LQ26 37 by decide)).symm]
  refine r_aast hx hb xk_8 hK hX hG hO hS (t := 6) rfl rfl (by decide) (by decide) (show 0 < lk LQ27 37 by decide) (show 12 < lk LQ27 8 by decide +kernel) (vp_in_lit (by decide)) dX11_init_198 (fun H locs hX hO hS => ?_)
  have hX : XX D A ad1 cy (lk LQ27) Y (wA 11) H := hX
  have hO : XD (lk LQ27) (wA 11) := hO
  refine lv_iinc (v := 11) (lv' := [(1, .int 11), (0, .ref a)]) hx hb dX11_init_199 hl (k := 0) rfl (by decide) (by decide) rfl (fun ls hl => ?_)
  have hl : lv_has ls 2 [(1, .int 11), (0, .ref a)] := hl
  refine lv_goto (tgt := 180) hx hb dX11_init_202 (by decide) ?_
  exact kk _ H locs ls hX hG hO hS hl (((hT1.1 10 0 (show 0 < lk LQ26 10 by decide +kernel)).trans hq0)) (hT1)

set_option maxRecDepth 100000 in
set_option maxHeartbeats 4000000 in
theorem kA_11 {p : Program} {l : Launch} {e : Env} {s : State} {m : MethodId} {args : Array Value} {below : List Frame} {meth : Method} {c : Code} {H : Heap} {locs : List Loc} {Q : State → Prop} {ls : Array Slot} {D : va_G} {A : Nat → Prop} {ad : Nat → Nat → Nat} {cy : Nat → ClassId} {Y : va_W} {a : Nat} (hx : p.tables.exec = Jvm.exec) (hb : c.code = cX11_init) (hml : c.maxLocals = 2) (hown : s.vm.findClass RX11 = some m.cls) (hts : ∀ w ∈ (Cond.code yX11_init cX11_init 2 none :: lw_ok), w.before args s = true) (hin : ∀ w ∈ lw_ok, w ∈ (Cond.code yX11_init cX11_init 2 none :: lw_ok)) (hK : va_K D vwCl (xty cy) s) (hZ : XZ A ad s) (hA : ∀ q, s.heap.size ≤ q → A q)
    (hX : XX D A ad cy (lk LQ27) Y (wA 11) H) (hG : XG ad (lk LQ27)) (hO : XD (lk LQ27) (wA 11)) (hS : va_S A s.heap H locs) (hl : lv_has ls 2 [(1, .int 11), (0, .ref a)]) (hq0 : ad 10 0 = a)
    (kk : ∀ (ad' : Nat → Nat → Nat) (H : Heap) (locs : List Loc) (ls : Array Slot), XX D A ad' cy (lk LQ28) Y (wA 12) H → XG ad' (lk LQ28) → XD (lk LQ28) (wA 12) → va_S A s.heap H locs → lv_has ls 2 [(1, .int 12), (0, .ref a)] → ad' 10 0 = a → XT0 ad (lk LQ27) ad' → W p l e { frames := 3, cells := 180, slots := 2293, locals := 52 } s m args below meth c H locs 100 1773 Q (F0 m 180 ls [])) : W p l e { frames := 3, cells := 180, slots := 2293, locals := 52 } s m args below meth c H locs 95 1743 Q (F0 m 180 ls []) := by
  refine lv_iload_n hx hb dX11_init_180 rfl (lv_at hl 0 rfl) ?_
  refine lv_bipush (v := 20) hx hb dX11_init_181 (by decide) ?_
  refine lv_icmp_ge (tgt := 205) hx hb dX11_init_183 (by decide) (fun cb => ?_) (fun cb => ?_)
  · exact absurd cb (by decide)
  refine lv_aload_n hx hb dX11_init_186 rfl (lv_at hl 1 rfl) ?_
  refine r_getSa (hq0) hx hb hts hin xk_10 hown hK hX (i := 0) (k := 14) (show 0 < lk LQ27 10 by decide +kernel) rfl (by decide) rfl wt_330 dX11_init_187 ?_
  refine lv_iload_n hx hb dX11_init_190 rfl (lv_at hl 0 rfl) ?_
  refine r_new hx hb hts hin xk_8 hown wt_167 wt_168 wt_5 hK hX hS hA (fs := [.int 0, .int 0, .null, .null, .null, .null]) (by decide +kernel) (Nat.le_of_ble_eq_true rfl) (Nat.le_of_ble_eq_true rfl) dX11_init_191 (fun b1 H hX hS => ?_)
  refine lv_dup hx hb dX11_init_194 rfl ?_
  refine ri_call (va_runIN (As := []) (rest := [.ref b1, .int 11, .ref (ad 37 (xser 1 0 0))]) (b := b1) (g := F0 m 195 ls (.ref b1 :: [.ref b1, .int 11, .ref (ad 37 (xser 1 0 0))])) (nL := 2) (host := "WinterKeep") ⟨hx, hb, hml, hown, hts⟩ (i_X9_init l D A ad cy (lk LQ27) Y (wA 11) b1 rfl rfl rfl rfl) ⟨va_cnB 0 hts (lw_okg wt_171) rfl rfl rfl (hZ.2.2.2.2 (RX11, 45, yX9_init) (List.mem_of_getElem? (i := 3) rfl)) (hts _ (hin _ wt_5)) (by decide +kernel) ⟨Nat.le_of_ble_eq_true rfl, Nat.le_of_ble_eq_true rfl⟩, rfl, hts _ (hin _ wt_170)⟩ ⟨xip_blind, fun U hU hW => ⟨rfl, fun q h => hA q (Nat.le_trans hS.1 (by rw [← hU]; exact h)), by rw [hU]; exact hX, hO, va_K.moved hW.alike hK, hG, xz_to (xz_ad (cnt := fun _ => 0) hZ ⟨fun _ _ h => absurd h (Nat.not_lt_zero _), rfl, rfl⟩) hU hW hS⟩⟩ rfl rfl hl.1 rfl (lv_room (Nat.le_of_ble_eq_true rfl)) dX11_init_195 ⟨Nat.le_of_ble_eq_true rfl, Nat.le_of_ble_eq_true rfl⟩) hS (fun ad1 H locs hT1 hq1 hX hG hO hS => ?_)
  rw [cup_lk (k := 30) (v := 13) rfl rfl] at hX hG hO
  rw [cup_lk (k := 31) (v := 13) rfl rfl] at hX hG hO
  rw [cup_lk (k := 32) (v := 13) rfl rfl] at hX hG hO
  rw [cup_lk (k := 33) (v := 13) rfl rfl] at hX hG hO
  rw [cup_lk (k := 8) (v := 13) rfl rfl] at hX hG hO
  rw [show wz (wA 11) 30 ((lk LQ27) 8) = (wA 11) from wz_id rfl rfl rfl] at hX hO
  rw [show wz (wA 11) 31 ((lk LQ27) 8) = (wA 11) from wz_id rfl rfl rfl] at hX hO
  rw [show wz (wA 11) 32 ((lk LQ27) 8) = (wA 11) from wz_id rfl rfl rfl] at hX hO
  rw [show wz (wA 11) 33 ((lk LQ27) 8) = (wA 11) from wz_id rfl rfl rfl] at hX hO
  rw [show wz (wA 11) 8 ((lk LQ27) 8) = (wA 11) from wz_id rfl rfl rfl] at hX hO
  have hX : XX D A ad1 cy (lk LQ28) Y (wA 11) H := hX
  have hG : XG ad1 (lk LQ28) := hG
  have hO : XD (lk LQ28) (wA 11) := hO
  rw [show b1 = ad1 8 13 from (hq1).symm]
  rw [show ad 37 (xser 1 0 0) = ad1 37 0 from (hT1.1 37 0 (show 0 < lk LQ27 37 by decide)).symm]
  refine r_aast hx hb xk_8 hK hX hG hO hS (t := 6) rfl rfl (by decide) (by decide) (show 0 < lk LQ28 37 by decide) (show 13 < lk LQ28 8 by decide +kernel) (vp_in_lit (by decide)) dX11_init_198 (fun H locs hX hO hS => ?_)
  have hX : XX D A ad1 cy (lk LQ28) Y (wA 12) H := hX
  have hO : XD (lk LQ28) (wA 12) := hO
  refine lv_iinc (v := 12) (lv' := [(1, .int 12), (0, .ref a)]) hx hb dX11_init_199 hl (k := 0) rfl (by decide) (by decide) rfl (fun ls hl => ?_)
  have hl : lv_has ls 2 [(1, .int 12), (0, .ref a)] := hl
  refine lv_goto (tgt := 180) hx hb dX11_init_202 (by decide) ?_
  exact kk _ H locs ls hX hG hO hS hl (((hT1.1 10 0 (show 0 < lk LQ27 10 by decide +kernel)).trans hq0)) (hT1)

set_option maxRecDepth 100000 in
set_option maxHeartbeats 4000000 in
theorem kA_12 {p : Program} {l : Launch} {e : Env} {s : State} {m : MethodId} {args : Array Value} {below : List Frame} {meth : Method} {c : Code} {H : Heap} {locs : List Loc} {Q : State → Prop} {ls : Array Slot} {D : va_G} {A : Nat → Prop} {ad : Nat → Nat → Nat} {cy : Nat → ClassId} {Y : va_W} {a : Nat} (hx : p.tables.exec = Jvm.exec) (hb : c.code = cX11_init) (hml : c.maxLocals = 2) (hown : s.vm.findClass RX11 = some m.cls) (hts : ∀ w ∈ (Cond.code yX11_init cX11_init 2 none :: lw_ok), w.before args s = true) (hin : ∀ w ∈ lw_ok, w ∈ (Cond.code yX11_init cX11_init 2 none :: lw_ok)) (hK : va_K D vwCl (xty cy) s) (hZ : XZ A ad s) (hA : ∀ q, s.heap.size ≤ q → A q)
    (hX : XX D A ad cy (lk LQ28) Y (wA 12) H) (hG : XG ad (lk LQ28)) (hO : XD (lk LQ28) (wA 12)) (hS : va_S A s.heap H locs) (hl : lv_has ls 2 [(1, .int 12), (0, .ref a)]) (hq0 : ad 10 0 = a)
    (kk : ∀ (ad' : Nat → Nat → Nat) (H : Heap) (locs : List Loc) (ls : Array Slot), XX D A ad' cy (lk LQ29) Y (wA 13) H → XG ad' (lk LQ29) → XD (lk LQ29) (wA 13) → va_S A s.heap H locs → lv_has ls 2 [(1, .int 13), (0, .ref a)] → ad' 10 0 = a → XT0 ad (lk LQ28) ad' → W p l e { frames := 3, cells := 180, slots := 2293, locals := 52 } s m args below meth c H locs 105 1803 Q (F0 m 180 ls [])) : W p l e { frames := 3, cells := 180, slots := 2293, locals := 52 } s m args below meth c H locs 100 1773 Q (F0 m 180 ls []) := by
  refine lv_iload_n hx hb dX11_init_180 rfl (lv_at hl 0 rfl) ?_
  refine lv_bipush (v := 20) hx hb dX11_init_181 (by decide) ?_
  refine lv_icmp_ge (tgt := 205) hx hb dX11_init_183 (by decide) (fun cb => ?_) (fun cb => ?_)
  · exact absurd cb (by decide)
  refine lv_aload_n hx hb dX11_init_186 rfl (lv_at hl 1 rfl) ?_
  refine r_getSa (hq0) hx hb hts hin xk_10 hown hK hX (i := 0) (k := 14) (show 0 < lk LQ28 10 by decide +kernel) rfl (by decide) rfl wt_330 dX11_init_187 ?_
  refine lv_iload_n hx hb dX11_init_190 rfl (lv_at hl 0 rfl) ?_
  refine r_new hx hb hts hin xk_8 hown wt_167 wt_168 wt_5 hK hX hS hA (fs := [.int 0, .int 0, .null, .null, .null, .null]) (by decide +kernel) (Nat.le_of_ble_eq_true rfl) (Nat.le_of_ble_eq_true rfl) dX11_init_191 (fun b1 H hX hS => ?_)
  refine lv_dup hx hb dX11_init_194 rfl ?_
  refine ri_call (va_runIN (As := []) (rest := [.ref b1, .int 12, .ref (ad 37 (xser 1 0 0))]) (b := b1) (g := F0 m 195 ls (.ref b1 :: [.ref b1, .int 12, .ref (ad 37 (xser 1 0 0))])) (nL := 2) (host := "WinterKeep") ⟨hx, hb, hml, hown, hts⟩ (i_X9_init l D A ad cy (lk LQ28) Y (wA 12) b1 rfl rfl rfl rfl) ⟨va_cnB 0 hts (lw_okg wt_171) rfl rfl rfl (hZ.2.2.2.2 (RX11, 45, yX9_init) (List.mem_of_getElem? (i := 3) rfl)) (hts _ (hin _ wt_5)) (by decide +kernel) ⟨Nat.le_of_ble_eq_true rfl, Nat.le_of_ble_eq_true rfl⟩, rfl, hts _ (hin _ wt_170)⟩ ⟨xip_blind, fun U hU hW => ⟨rfl, fun q h => hA q (Nat.le_trans hS.1 (by rw [← hU]; exact h)), by rw [hU]; exact hX, hO, va_K.moved hW.alike hK, hG, xz_to (xz_ad (cnt := fun _ => 0) hZ ⟨fun _ _ h => absurd h (Nat.not_lt_zero _), rfl, rfl⟩) hU hW hS⟩⟩ rfl rfl hl.1 rfl (lv_room (Nat.le_of_ble_eq_true rfl)) dX11_init_195 ⟨Nat.le_of_ble_eq_true rfl, Nat.le_of_ble_eq_true rfl⟩) hS (fun ad1 H locs hT1 hq1 hX hG hO hS => ?_)
  rw [cup_lk (k := 30) (v := 14) rfl rfl] at hX hG hO
  rw [cup_lk (k := 31) (v := 14) rfl rfl] at hX hG hO
  rw [cup_lk (k := 32) (v := 14) rfl rfl] at hX hG hO
  rw [cup_lk (k := 33) (v := 14) rfl rfl] at hX hG hO
  rw [cup_lk (k := 8) (v := 14) rfl rfl] at hX hG hO
  rw [show wz (wA 12) 30 ((lk LQ28) 8) = (wA 12) from wz_id rfl rfl rfl] at hX hO
  rw [show wz (wA 12) 31 ((lk LQ28) 8) = (wA 12) from wz_id rfl rfl rfl] at hX hO
  rw [show wz (wA 12) 32 ((lk LQ28) 8) = (wA 12) from wz_id rfl rfl rfl] at hX hO
  rw [show wz (wA 12) 33 ((lk LQ28) 8) = (wA 12) from wz_id rfl rfl rfl] at hX hO
  rw [show wz (wA 12) 8 ((lk LQ28) 8) = (wA 12) from wz_id rfl rfl rfl] at hX hO
  have hX : XX D A ad1 cy (lk LQ29) Y (wA 12) H := hX
  have hG : XG ad1 (lk LQ29) := hG
  have hO : XD (lk LQ29) (wA 12) := hO
  rw [show b1 = ad1 8 14 from (hq1).symm]
  rw [show ad 37 (xser 1 0 0) = ad1 37 0 from (hT1.1 37 0 (show 0 < lk LQ28 37 by decide)).symm]
  refine r_aast hx hb xk_8 hK hX hG hO hS (t := 6) rfl rfl (by decide) (by decide) (show 0 < lk LQ29 37 by decide) (show 14 < lk LQ29 8 by decide +kernel) (vp_in_lit (by decide)) dX11_init_198 (fun H locs hX hO hS => ?_)
  have hX : XX D A ad1 cy (lk LQ29) Y (wA 13) H := hX
  have hO : XD (lk LQ29) (wA 13) := hO
  refine lv_iinc (v := 13) (lv' := [(1, .int 13), (0, .ref a)]) hx hb dX11_init_199 hl (k := 0) rfl (by decide) (by decide) rfl (fun ls hl => ?_)
  have hl : lv_has ls 2 [(1, .int 13), (0, .ref a)] := hl
  refine lv_goto (tgt := 180) hx hb dX11_init_202 (by decide) ?_
  exact kk _ H locs ls hX hG hO hS hl (((hT1.1 10 0 (show 0 < lk LQ28 10 by decide +kernel)).trans hq0)) (hT1)

set_option maxRecDepth 100000 in
set_option maxHeartbeats 4000000 in
theorem kA_13 {p : Program} {l : Launch} {e : Env} {s : State} {m : MethodId} {args : Array Value} {below : List Frame} {meth : Method} {c : Code} {H : Heap} {locs : List Loc} {Q : State → Prop} {ls : Array Slot} {D : va_G} {A : Nat → Prop} {ad : Nat → Nat → Nat} {cy : Nat → ClassId} {Y : va_W} {a : Nat} (hx : p.tables.exec = Jvm.exec) (hb : c.code = cX11_init) (hml : c.maxLocals = 2) (hown : s.vm.findClass RX11 = some m.cls) (hts : ∀ w ∈ (Cond.code yX11_init cX11_init 2 none :: lw_ok), w.before args s = true) (hin : ∀ w ∈ lw_ok, w ∈ (Cond.code yX11_init cX11_init 2 none :: lw_ok)) (hK : va_K D vwCl (xty cy) s) (hZ : XZ A ad s) (hA : ∀ q, s.heap.size ≤ q → A q)
    (hX : XX D A ad cy (lk LQ29) Y (wA 13) H) (hG : XG ad (lk LQ29)) (hO : XD (lk LQ29) (wA 13)) (hS : va_S A s.heap H locs) (hl : lv_has ls 2 [(1, .int 13), (0, .ref a)]) (hq0 : ad 10 0 = a)
    (kk : ∀ (ad' : Nat → Nat → Nat) (H : Heap) (locs : List Loc) (ls : Array Slot), XX D A ad' cy (lk LQ30) Y (wA 14) H → XG ad' (lk LQ30) → XD (lk LQ30) (wA 14) → va_S A s.heap H locs → lv_has ls 2 [(1, .int 14), (0, .ref a)] → ad' 10 0 = a → XT0 ad (lk LQ29) ad' → W p l e { frames := 3, cells := 180, slots := 2293, locals := 52 } s m args below meth c H locs 110 1833 Q (F0 m 180 ls [])) : W p l e { frames := 3, cells := 180, slots := 2293, locals := 52 } s m args below meth c H locs 105 1803 Q (F0 m 180 ls []) := by
  refine lv_iload_n hx hb dX11_init_180 rfl (lv_at hl 0 rfl) ?_
  refine lv_bipush (v := 20) hx hb dX11_init_181 (by decide) ?_
  refine lv_icmp_ge (tgt := 205) hx hb dX11_init_183 (by decide) (fun cb => ?_) (fun cb => ?_)
  · exact absurd cb (by decide)
  refine lv_aload_n hx hb dX11_init_186 rfl (lv_at hl 1 rfl) ?_
  refine r_getSa (hq0) hx hb hts hin xk_10 hown hK hX (i := 0) (k := 14) (show 0 < lk LQ29 10 by decide +kernel) rfl (by decide) rfl wt_330 dX11_init_187 ?_
  refine lv_iload_n hx hb dX11_init_190 rfl (lv_at hl 0 rfl) ?_
  refine r_new hx hb hts hin xk_8 hown wt_167 wt_168 wt_5 hK hX hS hA (fs := [.int 0, .int 0, .null, .null, .null, .null]) (by decide +kernel) (Nat.le_of_ble_eq_true rfl) (Nat.le_of_ble_eq_true rfl) dX11_init_191 (fun b1 H hX hS => ?_)
  refine lv_dup hx hb dX11_init_194 rfl ?_
  refine ri_call (va_runIN (As := []) (rest := [.ref b1, .int 13, .ref (ad 37 (xser 1 0 0))]) (b := b1) (g := F0 m 195 ls (.ref b1 :: [.ref b1, .int 13, .ref (ad 37 (xser 1 0 0))])) (nL := 2) (host := "WinterKeep") ⟨hx, hb, hml, hown, hts⟩ (i_X9_init l D A ad cy (lk LQ29) Y (wA 13) b1 rfl rfl rfl rfl) ⟨va_cnB 0 hts (lw_okg wt_171) rfl rfl rfl (hZ.2.2.2.2 (RX11, 45, yX9_init) (List.mem_of_getElem? (i := 3) rfl)) (hts _ (hin _ wt_5)) (by decide +kernel) ⟨Nat.le_of_ble_eq_true rfl, Nat.le_of_ble_eq_true rfl⟩, rfl, hts _ (hin _ wt_170)⟩ ⟨xip_blind, fun U hU hW => ⟨rfl, fun q h => hA q (Nat.le_trans hS.1 (by rw [← hU]; exact h)), by rw [hU]; exact hX, hO, va_K.moved hW.alike hK, hG, xz_to (xz_ad (cnt := fun _ => 0) hZ ⟨fun _ _ h => absurd h (Nat.not_lt_zero _), rfl, rfl⟩) hU hW hS⟩⟩ rfl rfl hl.1 rfl (lv_room (Nat.le_of_ble_eq_true rfl)) dX11_init_195 ⟨Nat.le_of_ble_eq_true rfl, Nat.le_of_ble_eq_true rfl⟩) hS (fun ad1 H locs hT1 hq1 hX hG hO hS => ?_)
  rw [cup_lk (k := 30) (v := 15) rfl rfl] at hX hG hO
  rw [cup_lk (k := 31) (v := 15) rfl rfl] at hX hG hO
  rw [cup_lk (k := 32) (v := 15) rfl rfl] at hX hG hO
  rw [cup_lk (k := 33) (v := 15) rfl rfl] at hX hG hO
  rw [cup_lk (k := 8) (v := 15) rfl rfl] at hX hG hO
  rw [show wz (wA 13) 30 ((lk LQ29) 8) = (wA 13) from wz_id rfl rfl rfl] at hX hO
  rw [show wz (wA 13) 31 ((lk LQ29) 8) = (wA 13) from wz_id rfl rfl rfl] at hX hO
  rw [show wz (wA 13) 32 ((lk LQ29) 8) = (wA 13) from wz_id rfl rfl rfl] at hX hO
  rw [show wz (wA 13) 33 ((lk LQ29) 8) = (wA 13) from wz_id rfl rfl rfl] at hX hO
  rw [show wz (wA 13) 8 ((lk LQ29) 8) = (wA 13) from wz_id rfl rfl rfl] at hX hO
  have hX : XX D A ad1 cy (lk LQ30) Y (wA 13) H := hX
  have hG : XG ad1 (lk LQ30) := hG
  have hO : XD (lk LQ30) (wA 13) := hO
  rw [show b1 = ad1 8 15 from (hq1).symm]
  rw [show ad 37 (xser 1 0 0) = ad1 37 0 from (hT1.1 37 0 (show 0 < lk LQ29 37 by decide)).symm]
  refine r_aast hx hb xk_8 hK hX hG hO hS (t := 6) rfl rfl (by decide) (by decide) (show 0 < lk LQ30 37 by decide) (show 15 < lk LQ30 8 by decide +kernel) (vp_in_lit (by decide)) dX11_init_198 (fun H locs hX hO hS => ?_)
  have hX : XX D A ad1 cy (lk LQ30) Y (wA 14) H := hX
  have hO : XD (lk LQ30) (wA 14) := hO
  refine lv_iinc (v := 14) (lv' := [(1, .int 14), (0, .ref a)]) hx hb dX11_init_199 hl (k := 0) rfl (by decide) (by decide) rfl (fun ls hl => ?_)
  have hl : lv_has ls 2 [(1, .int 14), (0, .ref a)] := hl
  refine lv_goto (tgt := 180) hx hb dX11_init_202 (by decide) ?_
  exact kk _ H locs ls hX hG hO hS hl (((hT1.1 10 0 (show 0 < lk LQ29 10 by decide +kernel)).trans hq0)) (hT1)

set_option maxRecDepth 100000 in
set_option maxHeartbeats 4000000 in
theorem kA_14 {p : Program} {l : Launch} {e : Env} {s : State} {m : MethodId} {args : Array Value} {below : List Frame} {meth : Method} {c : Code} {H : Heap} {locs : List Loc} {Q : State → Prop} {ls : Array Slot} {D : va_G} {A : Nat → Prop} {ad : Nat → Nat → Nat} {cy : Nat → ClassId} {Y : va_W} {a : Nat} (hx : p.tables.exec = Jvm.exec) (hb : c.code = cX11_init) (hml : c.maxLocals = 2) (hown : s.vm.findClass RX11 = some m.cls) (hts : ∀ w ∈ (Cond.code yX11_init cX11_init 2 none :: lw_ok), w.before args s = true) (hin : ∀ w ∈ lw_ok, w ∈ (Cond.code yX11_init cX11_init 2 none :: lw_ok)) (hK : va_K D vwCl (xty cy) s) (hZ : XZ A ad s) (hA : ∀ q, s.heap.size ≤ q → A q)
    (hX : XX D A ad cy (lk LQ30) Y (wA 14) H) (hG : XG ad (lk LQ30)) (hO : XD (lk LQ30) (wA 14)) (hS : va_S A s.heap H locs) (hl : lv_has ls 2 [(1, .int 14), (0, .ref a)]) (hq0 : ad 10 0 = a)
    (kk : ∀ (ad' : Nat → Nat → Nat) (H : Heap) (locs : List Loc) (ls : Array Slot), XX D A ad' cy (lk LQ31) Y (wA 15) H → XG ad' (lk LQ31) → XD (lk LQ31) (wA 15) → va_S A s.heap H locs → lv_has ls 2 [(1, .int 15), (0, .ref a)] → ad' 10 0 = a → XT0 ad (lk LQ30) ad' → W p l e { frames := 3, cells := 180, slots := 2293, locals := 52 } s m args below meth c H locs 115 1863 Q (F0 m 180 ls [])) : W p l e { frames := 3, cells := 180, slots := 2293, locals := 52 } s m args below meth c H locs 110 1833 Q (F0 m 180 ls []) := by
  refine lv_iload_n hx hb dX11_init_180 rfl (lv_at hl 0 rfl) ?_
  refine lv_bipush (v := 20) hx hb dX11_init_181 (by decide) ?_
  refine lv_icmp_ge (tgt := 205) hx hb dX11_init_183 (by decide) (fun cb => ?_) (fun cb => ?_)
  · exact absurd cb (by decide)
  refine lv_aload_n hx hb dX11_init_186 rfl (lv_at hl 1 rfl) ?_
  refine r_getSa (hq0) hx hb hts hin xk_10 hown hK hX (i := 0) (k := 14) (show 0 < lk LQ30 10 by decide +kernel) rfl (by decide) rfl wt_330 dX11_init_187 ?_
  refine lv_iload_n hx hb dX11_init_190 rfl (lv_at hl 0 rfl) ?_
  refine r_new hx hb hts hin xk_8 hown wt_167 wt_168 wt_5 hK hX hS hA (fs := [.int 0, .int 0, .null, .null, .null, .null]) (by decide +kernel) (Nat.le_of_ble_eq_true rfl) (Nat.le_of_ble_eq_true rfl) dX11_init_191 (fun b1 H hX hS => ?_)
  refine lv_dup hx hb dX11_init_194 rfl ?_
  refine ri_call (va_runIN (As := []) (rest := [.ref b1, .int 14, .ref (ad 37 (xser 1 0 0))]) (b := b1) (g := F0 m 195 ls (.ref b1 :: [.ref b1, .int 14, .ref (ad 37 (xser 1 0 0))])) (nL := 2) (host := "WinterKeep") ⟨hx, hb, hml, hown, hts⟩ (i_X9_init l D A ad cy (lk LQ30) Y (wA 14) b1 rfl rfl rfl rfl) ⟨va_cnB 0 hts (lw_okg wt_171) rfl rfl rfl (hZ.2.2.2.2 (RX11, 45, yX9_init) (List.mem_of_getElem? (i := 3) rfl)) (hts _ (hin _ wt_5)) (by decide +kernel) ⟨Nat.le_of_ble_eq_true rfl, Nat.le_of_ble_eq_true rfl⟩, rfl, hts _ (hin _ wt_170)⟩ ⟨xip_blind, fun U hU hW => ⟨rfl, fun q h => hA q (Nat.le_trans hS.1 (by rw [← hU]; exact h)), by rw [hU]; exact hX, hO, va_K.moved hW.alike hK, hG, xz_to (xz_ad (cnt := fun _ => 0) hZ ⟨fun _ _ h => absurd h (Nat.not_lt_zero _), rfl, rfl⟩) hU hW hS⟩⟩ rfl rfl hl.1 rfl (lv_room (Nat.le_of_ble_eq_true rfl)) dX11_init_195 ⟨Nat.le_of_ble_eq_true rfl, Nat.le_of_ble_eq_true rfl⟩) hS (fun ad1 H locs hT1 hq1 hX hG hO hS => ?_)
  rw [cup_lk (k := 30) (v := 16) rfl rfl] at hX hG hO
  rw [cup_lk (k := 31) (v := 16) rfl rfl] at hX hG hO
  rw [cup_lk (k := 32) (v := 16) rfl rfl] at hX hG hO
  rw [cup_lk (k := 33) (v := 16) rfl rfl] at hX hG hO
  rw [cup_lk (k := 8) (v := 16) rfl rfl] at hX hG hO
  rw [show wz (wA 14) 30 ((lk LQ30) 8) = (wA 14) from wz_id rfl rfl rfl] at hX hO
  rw [show wz (wA 14) 31 ((lk LQ30) 8) = (wA 14) from wz_id rfl rfl rfl] at hX hO
  rw [show wz (wA 14) 32 ((lk LQ30) 8) = (wA 14) from wz_id rfl rfl rfl] at hX hO
  rw [show wz (wA 14) 33 ((lk LQ30) 8) = (wA 14) from wz_id rfl rfl rfl] at hX hO
  rw [show wz (wA 14) 8 ((lk LQ30) 8) = (wA 14) from wz_id rfl rfl rfl] at hX hO
  have hX : XX D A ad1 cy (lk LQ31) Y (wA 14) H := hX
  have hG : XG ad1 (lk LQ31) := hG
  have hO : XD (lk LQ31) (wA 14) := hO
  rw [show b1 = ad1 8 16 from (hq1).symm]
  rw [show ad 37 (xser 1 0 0) = ad1 37 0 from (hT1.1 37 0 (show 0 < lk LQ30 37 by decide)).symm]
  refine r_aast hx hb xk_8 hK hX hG hO hS (t := 6) rfl rfl (by decide) (by decide) (show 0 < lk LQ31 37 by decide) (show 16 < lk LQ31 8 by decide +kernel) (vp_in_lit (by decide)) dX11_init_198 (fun H locs hX hO hS => ?_)
  have hX : XX D A ad1 cy (lk LQ31) Y (wA 15) H := hX
  have hO : XD (lk LQ31) (wA 15) := hO
  refine lv_iinc (v := 15) (lv' := [(1, .int 15), (0, .ref a)]) hx hb dX11_init_199 hl (k := 0) rfl (by decide) (by decide) rfl (fun ls hl => ?_)
  have hl : lv_has ls 2 [(1, .int 15), (0, .ref a)] := hl
  refine lv_goto (tgt := 180) hx hb dX11_init_202 (by decide) ?_
  exact kk _ H locs ls hX hG hO hS hl (((hT1.1 10 0 (show 0 < lk LQ30 10 by decide +kernel)).trans hq0)) (hT1)

set_option maxRecDepth 100000 in
set_option maxHeartbeats 4000000 in
theorem kA_15 {p : Program} {l : Launch} {e : Env} {s : State} {m : MethodId} {args : Array Value} {below : List Frame} {meth : Method} {c : Code} {H : Heap} {locs : List Loc} {Q : State → Prop} {ls : Array Slot} {D : va_G} {A : Nat → Prop} {ad : Nat → Nat → Nat} {cy : Nat → ClassId} {Y : va_W} {a : Nat} (hx : p.tables.exec = Jvm.exec) (hb : c.code = cX11_init) (hml : c.maxLocals = 2) (hown : s.vm.findClass RX11 = some m.cls) (hts : ∀ w ∈ (Cond.code yX11_init cX11_init 2 none :: lw_ok), w.before args s = true) (hin : ∀ w ∈ lw_ok, w ∈ (Cond.code yX11_init cX11_init 2 none :: lw_ok)) (hK : va_K D vwCl (xty cy) s) (hZ : XZ A ad s) (hA : ∀ q, s.heap.size ≤ q → A q)
    (hX : XX D A ad cy (lk LQ31) Y (wA 15) H) (hG : XG ad (lk LQ31)) (hO : XD (lk LQ31) (wA 15)) (hS : va_S A s.heap H locs) (hl : lv_has ls 2 [(1, .int 15), (0, .ref a)]) (hq0 : ad 10 0 = a)
    (kk : ∀ (ad' : Nat → Nat → Nat) (H : Heap) (locs : List Loc) (ls : Array Slot), XX D A ad' cy (lk LQ32) Y (wA 16) H → XG ad' (lk LQ32) → XD (lk LQ32) (wA 16) → va_S A s.heap H locs → lv_has ls 2 [(1, .int 16), (0, .ref a)] → ad' 10 0 = a → XT0 ad (lk LQ31) ad' → W p l e { frames := 3, cells := 180, slots := 2293, locals := 52 } s m args below meth c H locs 120 1893 Q (F0 m 180 ls [])) : W p l e { frames := 3, cells := 180, slots := 2293, locals := 52 } s m args below meth c H locs 115 1863 Q (F0 m 180 ls []) := by
  refine lv_iload_n hx hb dX11_init_180 rfl (lv_at hl 0 rfl) ?_
  refine lv_bipush (v := 20) hx hb dX11_init_181 (by decide) ?_
  refine lv_icmp_ge (tgt := 205) hx hb dX11_init_183 (by decide) (fun cb => ?_) (fun cb => ?_)
  · exact absurd cb (by decide)
  refine lv_aload_n hx hb dX11_init_186 rfl (lv_at hl 1 rfl) ?_
  refine r_getSa (hq0) hx hb hts hin xk_10 hown hK hX (i := 0) (k := 14) (show 0 < lk LQ31 10 by decide +kernel) rfl (by decide) rfl wt_330 dX11_init_187 ?_
  refine lv_iload_n hx hb dX11_init_190 rfl (lv_at hl 0 rfl) ?_
  refine r_new hx hb hts hin xk_8 hown wt_167 wt_168 wt_5 hK hX hS hA (fs := [.int 0, .int 0, .null, .null, .null, .null]) (by decide +kernel) (Nat.le_of_ble_eq_true rfl) (Nat.le_of_ble_eq_true rfl) dX11_init_191 (fun b1 H hX hS => ?_)
  refine lv_dup hx hb dX11_init_194 rfl ?_
  refine ri_call (va_runIN (As := []) (rest := [.ref b1, .int 15, .ref (ad 37 (xser 1 0 0))]) (b := b1) (g := F0 m 195 ls (.ref b1 :: [.ref b1, .int 15, .ref (ad 37 (xser 1 0 0))])) (nL := 2) (host := "WinterKeep") ⟨hx, hb, hml, hown, hts⟩ (i_X9_init l D A ad cy (lk LQ31) Y (wA 15) b1 rfl rfl rfl rfl) ⟨va_cnB 0 hts (lw_okg wt_171) rfl rfl rfl (hZ.2.2.2.2 (RX11, 45, yX9_init) (List.mem_of_getElem? (i := 3) rfl)) (hts _ (hin _ wt_5)) (by decide +kernel) ⟨Nat.le_of_ble_eq_true rfl, Nat.le_of_ble_eq_true rfl⟩, rfl, hts _ (hin _ wt_170)⟩ ⟨xip_blind, fun U hU hW => ⟨rfl, fun q h => hA q (Nat.le_trans hS.1 (by rw [← hU]; exact h)), by rw [hU]; exact hX, hO, va_K.moved hW.alike hK, hG, xz_to (xz_ad (cnt := fun _ => 0) hZ ⟨fun _ _ h => absurd h (Nat.not_lt_zero _), rfl, rfl⟩) hU hW hS⟩⟩ rfl rfl hl.1 rfl (lv_room (Nat.le_of_ble_eq_true rfl)) dX11_init_195 ⟨Nat.le_of_ble_eq_true rfl, Nat.le_of_ble_eq_true rfl⟩) hS (fun ad1 H locs hT1 hq1 hX hG hO hS => ?_)
  rw [cup_lk (k := 30) (v := 17) rfl rfl] at hX hG hO
  rw [cup_lk (k := 31) (v := 17) rfl rfl] at hX hG hO
  rw [cup_lk (k := 32) (v := 17) rfl rfl] at hX hG hO
  rw [cup_lk (k := 33) (v := 17) rfl rfl] at hX hG hO
  rw [cup_lk (k := 8) (v := 17) rfl rfl] at hX hG hO
  rw [show wz (wA 15) 30 ((lk LQ31) 8) = (wA 15) from wz_id rfl rfl rfl] at hX hO
  rw [show wz (wA 15) 31 ((lk LQ31) 8) = (wA 15) from wz_id rfl rfl rfl] at hX hO
  rw [show wz (wA 15) 32 ((lk LQ31) 8) = (wA 15) from wz_id rfl rfl rfl] at hX hO
  rw [show wz (wA 15) 33 ((lk LQ31) 8) = (wA 15) from wz_id rfl rfl rfl] at hX hO
  rw [show wz (wA 15) 8 ((lk LQ31) 8) = (wA 15) from wz_id rfl rfl rfl] at hX hO
  have hX : XX D A ad1 cy (lk LQ32) Y (wA 15) H := hX
  have hG : XG ad1 (lk LQ32) := hG
  have hO : XD (lk LQ32) (wA 15) := hO
  rw [show b1 = ad1 8 17 from (hq1).symm]
  rw [show ad 37 (xser 1 0 0) = ad1 37 0 from (hT1.1 37 0 (show 0 < lk LQ31 37 by decide)).symm]
  refine r_aast hx hb xk_8 hK hX hG hO hS (t := 6) rfl rfl (by decide) (by decide) (show 0 < lk LQ32 37 by decide) (show 17 < lk LQ32 8 by decide +kernel) (vp_in_lit (by decide)) dX11_init_198 (fun H locs hX hO hS => ?_)
  have hX : XX D A ad1 cy (lk LQ32) Y (wA 16) H := hX
  have hO : XD (lk LQ32) (wA 16) := hO
  refine lv_iinc (v := 16) (lv' := [(1, .int 16), (0, .ref a)]) hx hb dX11_init_199 hl (k := 0) rfl (by decide) (by decide) rfl (fun ls hl => ?_)
  have hl : lv_has ls 2 [(1, .int 16), (0, .ref a)] := hl
  refine lv_goto (tgt := 180) hx hb dX11_init_202 (by decide) ?_
  exact kk _ H locs ls hX hG hO hS hl (((hT1.1 10 0 (show 0 < lk LQ31 10 by decide +kernel)).trans hq0)) (hT1)

set_option maxRecDepth 100000 in
set_option maxHeartbeats 4000000 in
theorem kA_16 {p : Program} {l : Launch} {e : Env} {s : State} {m : MethodId} {args : Array Value} {below : List Frame} {meth : Method} {c : Code} {H : Heap} {locs : List Loc} {Q : State → Prop} {ls : Array Slot} {D : va_G} {A : Nat → Prop} {ad : Nat → Nat → Nat} {cy : Nat → ClassId} {Y : va_W} {a : Nat} (hx : p.tables.exec = Jvm.exec) (hb : c.code = cX11_init) (hml : c.maxLocals = 2) (hown : s.vm.findClass RX11 = some m.cls) (hts : ∀ w ∈ (Cond.code yX11_init cX11_init 2 none :: lw_ok), w.before args s = true) (hin : ∀ w ∈ lw_ok, w ∈ (Cond.code yX11_init cX11_init 2 none :: lw_ok)) (hK : va_K D vwCl (xty cy) s) (hZ : XZ A ad s) (hA : ∀ q, s.heap.size ≤ q → A q)
    (hX : XX D A ad cy (lk LQ32) Y (wA 16) H) (hG : XG ad (lk LQ32)) (hO : XD (lk LQ32) (wA 16)) (hS : va_S A s.heap H locs) (hl : lv_has ls 2 [(1, .int 16), (0, .ref a)]) (hq0 : ad 10 0 = a)
    (kk : ∀ (ad' : Nat → Nat → Nat) (H : Heap) (locs : List Loc) (ls : Array Slot), XX D A ad' cy (lk LQ33) Y (wA 17) H → XG ad' (lk LQ33) → XD (lk LQ33) (wA 17) → va_S A s.heap H locs → lv_has ls 2 [(1, .int 17), (0, .ref a)] → ad' 10 0 = a → XT0 ad (lk LQ32) ad' → W p l e { frames := 3, cells := 180, slots := 2293, locals := 52 } s m args below meth c H locs 125 1923 Q (F0 m 180 ls [])) : W p l e { frames := 3, cells := 180, slots := 2293, locals := 52 } s m args below meth c H locs 120 1893 Q (F0 m 180 ls []) := by
  refine lv_iload_n hx hb dX11_init_180 rfl (lv_at hl 0 rfl) ?_
  refine lv_bipush (v := 20) hx hb dX11_init_181 (by decide) ?_
  refine lv_icmp_ge (tgt := 205) hx hb dX11_init_183 (by decide) (fun cb => ?_) (fun cb => ?_)
  · exact absurd cb (by decide)
  refine lv_aload_n hx hb dX11_init_186 rfl (lv_at hl 1 rfl) ?_
  refine r_getSa (hq0) hx hb hts hin xk_10 hown hK hX (i := 0) (k := 14) (show 0 < lk LQ32 10 by decide +kernel) rfl (by decide) rfl wt_330 dX11_init_187 ?_
  refine lv_iload_n hx hb dX11_init_190 rfl (lv_at hl 0 rfl) ?_
  refine r_new hx hb hts hin xk_8 hown wt_167 wt_168 wt_5 hK hX hS hA (fs := [.int 0, .int 0, .null, .null, .null, .null]) (by decide +kernel) (Nat.le_of_ble_eq_true rfl) (Nat.le_of_ble_eq_true rfl) dX11_init_191 (fun b1 H hX hS => ?_)
  refine lv_dup hx hb dX11_init_194 rfl ?_
  refine ri_call (va_runIN (As := []) (rest := [.ref b1, .int 16, .ref (ad 37 (xser 1 0 0))]) (b := b1) (g := F0 m 195 ls (.ref b1 :: [.ref b1, .int 16, .ref (ad 37 (xser 1 0 0))])) (nL := 2) (host := "WinterKeep") ⟨hx, hb, hml, hown, hts⟩ (i_X9_init l D A ad cy (lk LQ32) Y (wA 16) b1 rfl rfl rfl rfl) ⟨va_cnB 0 hts (lw_okg wt_171) rfl rfl rfl (hZ.2.2.2.2 (RX11, 45, yX9_init) (List.mem_of_getElem? (i := 3) rfl)) (hts _ (hin _ wt_5)) (by decide +kernel) ⟨Nat.le_of_ble_eq_true rfl, Nat.le_of_ble_eq_true rfl⟩, rfl, hts _ (hin _ wt_170)⟩ ⟨xip_blind, fun U hU hW => ⟨rfl, fun q h => hA q (Nat.le_trans hS.1 (by rw [← hU]; exact h)), by rw [hU]; exact hX, hO, va_K.moved hW.alike hK, hG, xz_to (xz_ad (cnt := fun _ => 0) hZ ⟨fun _ _ h => absurd h (Nat.not_lt_zero _), rfl, rfl⟩) hU hW hS⟩⟩ rfl rfl hl.1 rfl (lv_room (Nat.le_of_ble_eq_true rfl)) dX11_init_195 ⟨Nat.le_of_ble_eq_true rfl, Nat.le_of_ble_eq_true rfl⟩) hS (fun ad1 H locs hT1 hq1 hX hG hO hS => ?_)
  rw [cup_lk (k := 30) (v := 18) rfl rfl] at hX hG hO
  rw [cup_lk (k := 31) (v := 18) rfl rfl] at hX hG hO
  rw [cup_lk (k := 32) (v := 18) rfl rfl] at hX hG hO
  rw [cup_lk (k := 33) (v := 18) rfl rfl] at hX hG hO
  rw [cup_lk (k := 8) (v := 18) rfl rfl] at hX hG hO
  rw [show wz (wA 16) 30 ((lk LQ32) 8) = (wA 16) from wz_id rfl rfl rfl] at hX hO
  rw [show wz (wA 16) 31 ((lk LQ32) 8) = (wA 16) from wz_id rfl rfl rfl] at hX hO
  rw [show wz (wA 16) 32 ((lk LQ32) 8) = (wA 16) from wz_id rfl rfl rfl] at hX hO
  rw [show wz (wA 16) 33 ((lk LQ32) 8) = (wA 16) from wz_id rfl rfl rfl] at hX hO
  rw [show wz (wA 16) 8 ((lk LQ32) 8) = (wA 16) from wz_id rfl rfl rfl] at hX hO
  have hX : XX D A ad1 cy (lk LQ33) Y (wA 16) H := hX
  have hG : XG ad1 (lk LQ33) := hG
  have hO : XD (lk LQ33) (wA 16) := hO
  rw [show b1 = ad1 8 18 from (hq1).symm]
  rw [show ad 37 (xser 1 0 0) = ad1 37 0 from (hT1.1 37 0 (show 0 < lk LQ32 37 by decide)).symm]
  refine r_aast hx hb xk_8 hK hX hG hO hS (t := 6) rfl rfl (by decide) (by decide) (show 0 < lk LQ33 37 by decide) (show 18 < lk LQ33 8 by decide +kernel) (vp_in_lit (by decide)) dX11_init_198 (fun H locs hX hO hS => ?_)
  have hX : XX D A ad1 cy (lk LQ33) Y (wA 17) H := hX
  have hO : XD (lk LQ33) (wA 17) := hO
  refine lv_iinc (v := 17) (lv' := [(1, .int 17), (0, .ref a)]) hx hb dX11_init_199 hl (k := 0) rfl (by decide) (by decide) rfl (fun ls hl => ?_)
  have hl : lv_has ls 2 [(1, .int 17), (0, .ref a)] := hl
  refine lv_goto (tgt := 180) hx hb dX11_init_202 (by decide) ?_
  exact kk _ H locs ls hX hG hO hS hl (((hT1.1 10 0 (show 0 < lk LQ32 10 by decide +kernel)).trans hq0)) (hT1)

set_option maxRecDepth 100000 in
set_option maxHeartbeats 4000000 in
theorem kA_17 {p : Program} {l : Launch} {e : Env} {s : State} {m : MethodId} {args : Array Value} {below : List Frame} {meth : Method} {c : Code} {H : Heap} {locs : List Loc} {Q : State → Prop} {ls : Array Slot} {D : va_G} {A : Nat → Prop} {ad : Nat → Nat → Nat} {cy : Nat → ClassId} {Y : va_W} {a : Nat} (hx : p.tables.exec = Jvm.exec) (hb : c.code = cX11_init) (hml : c.maxLocals = 2) (hown : s.vm.findClass RX11 = some m.cls) (hts : ∀ w ∈ (Cond.code yX11_init cX11_init 2 none :: lw_ok), w.before args s = true) (hin : ∀ w ∈ lw_ok, w ∈ (Cond.code yX11_init cX11_init 2 none :: lw_ok)) (hK : va_K D vwCl (xty cy) s) (hZ : XZ A ad s) (hA : ∀ q, s.heap.size ≤ q → A q)
    (hX : XX D A ad cy (lk LQ33) Y (wA 17) H) (hG : XG ad (lk LQ33)) (hO : XD (lk LQ33) (wA 17)) (hS : va_S A s.heap H locs) (hl : lv_has ls 2 [(1, .int 17), (0, .ref a)]) (hq0 : ad 10 0 = a)
    (kk : ∀ (ad' : Nat → Nat → Nat) (H : Heap) (locs : List Loc) (ls : Array Slot), XX D A ad' cy (lk LQ34) Y (wA 18) H → XG ad' (lk LQ34) → XD (lk LQ34) (wA 18) → va_S A s.heap H locs → lv_has ls 2 [(1, .int 18), (0, .ref a)] → ad' 10 0 = a → XT0 ad (lk LQ33) ad' → W p l e { frames := 3, cells := 180, slots := 2293, locals := 52 } s m args below meth c H locs 130 1953 Q (F0 m 180 ls [])) : W p l e { frames := 3, cells := 180, slots := 2293, locals := 52 } s m args below meth c H locs 125 1923 Q (F0 m 180 ls []) := by
  refine lv_iload_n hx hb dX11_init_180 rfl (lv_at hl 0 rfl) ?_
  refine lv_bipush (v := 20) hx hb dX11_init_181 (by decide) ?_
  refine lv_icmp_ge (tgt := 205) hx hb dX11_init_183 (by decide) (fun cb => ?_) (fun cb => ?_)
  · exact absurd cb (by decide)
  refine lv_aload_n hx hb dX11_init_186 rfl (lv_at hl 1 rfl) ?_
  refine r_getSa (hq0) hx hb hts hin xk_10 hown hK hX (i := 0) (k := 14) (show 0 < lk LQ33 10 by decide +kernel) rfl (by decide) rfl wt_330 dX11_init_187 ?_
  refine lv_iload_n hx hb dX11_init_190 rfl (lv_at hl 0 rfl) ?_
  refine r_new hx hb hts hin xk_8 hown wt_167 wt_168 wt_5 hK hX hS hA (fs := [.int 0, .int 0, .null, .null, .null, .null]) (by decide +kernel) (Nat.le_of_ble_eq_true rfl) (Nat.le_of_ble_eq_true rfl) dX11_init_191 (fun b1 H hX hS => ?_)
  refine lv_dup hx hb dX11_init_194 rfl ?_
  refine ri_call (va_runIN (As := []) (rest := [.ref b1, .int 17, .ref (ad 37 (xser 1 0 0))]) (b := b1) (g := F0 m 195 ls (.ref b1 :: [.ref b1, .int 17, .ref (ad 37 (xser 1 0 0))])) (nL := 2) (host := "WinterKeep") ⟨hx, hb, hml, hown, hts⟩ (i_X9_init l D A ad cy (lk LQ33) Y (wA 17) b1 rfl rfl rfl rfl) ⟨va_cnB 0 hts (lw_okg wt_171) rfl rfl rfl (hZ.2.2.2.2 (RX11, 45, yX9_init) (List.mem_of_getElem? (i := 3) rfl)) (hts _ (hin _ wt_5)) (by decide +kernel) ⟨Nat.le_of_ble_eq_true rfl, Nat.le_of_ble_eq_true rfl⟩, rfl, hts _ (hin _ wt_170)⟩ ⟨xip_blind, fun U hU hW => ⟨rfl, fun q h => hA q (Nat.le_trans hS.1 (by rw [← hU]; exact h)), by rw [hU]; exact hX, hO, va_K.moved hW.alike hK, hG, xz_to (xz_ad (cnt := fun _ => 0) hZ ⟨fun _ _ h => absurd h (Nat.not_lt_zero _), rfl, rfl⟩) hU hW hS⟩⟩ rfl rfl hl.1 rfl (lv_room (Nat.le_of_ble_eq_true rfl)) dX11_init_195 ⟨Nat.le_of_ble_eq_true rfl, Nat.le_of_ble_eq_true rfl⟩) hS (fun ad1 H locs hT1 hq1 hX hG hO hS => ?_)
  rw [cup_lk (k := 30) (v := 19) rfl rfl] at hX hG hO
  rw [cup_lk (k := 31) (v := 19) rfl rfl] at hX hG hO
  rw [cup_lk (k := 32) (v := 19) rfl rfl] at hX hG hO
  rw [cup_lk (k := 33) (v := 19) rfl rfl] at hX hG hO
  rw [cup_lk (k := 8) (v := 19) rfl rfl] at hX hG hO
  rw [show wz (wA 17) 30 ((lk LQ33) 8) = (wA 17) from wz_id rfl rfl rfl] at hX hO
  rw [show wz (wA 17) 31 ((lk LQ33) 8) = (wA 17) from wz_id rfl rfl rfl] at hX hO
  rw [show wz (wA 17) 32 ((lk LQ33) 8) = (wA 17) from wz_id rfl rfl rfl] at hX hO
  rw [show wz (wA 17) 33 ((lk LQ33) 8) = (wA 17) from wz_id rfl rfl rfl] at hX hO
  rw [show wz (wA 17) 8 ((lk LQ33) 8) = (wA 17) from wz_id rfl rfl rfl] at hX hO
  have hX : XX D A ad1 cy (lk LQ34) Y (wA 17) H := hX
  have hG : XG ad1 (lk LQ34) := hG
  have hO : XD (lk LQ34) (wA 17) := hO
  rw [show b1 = ad1 8 19 from (hq1).symm]
  rw [show ad 37 (xser 1 0 0) = ad1 37 0 from (hT1.1 37 0 (show 0 < lk LQ33 37 by decide)).symm]
  refine r_aast hx hb xk_8 hK hX hG hO hS (t := 6) rfl rfl (by decide) (by decide) (show 0 < lk LQ34 37 by decide) (show 19 < lk LQ34 8 by decide +kernel) (vp_in_lit (by decide)) dX11_init_198 (fun H locs hX hO hS => ?_)
  have hX : XX D A ad1 cy (lk LQ34) Y (wA 18) H := hX
  have hO : XD (lk LQ34) (wA 18) := hO
  refine lv_iinc (v := 18) (lv' := [(1, .int 18), (0, .ref a)]) hx hb dX11_init_199 hl (k := 0) rfl (by decide) (by decide) rfl (fun ls hl => ?_)
  have hl : lv_has ls 2 [(1, .int 18), (0, .ref a)] := hl
  refine lv_goto (tgt := 180) hx hb dX11_init_202 (by decide) ?_
  exact kk _ H locs ls hX hG hO hS hl (((hT1.1 10 0 (show 0 < lk LQ33 10 by decide +kernel)).trans hq0)) (hT1)

set_option maxRecDepth 100000 in
set_option maxHeartbeats 4000000 in
theorem kA_18 {p : Program} {l : Launch} {e : Env} {s : State} {m : MethodId} {args : Array Value} {below : List Frame} {meth : Method} {c : Code} {H : Heap} {locs : List Loc} {Q : State → Prop} {ls : Array Slot} {D : va_G} {A : Nat → Prop} {ad : Nat → Nat → Nat} {cy : Nat → ClassId} {Y : va_W} {a : Nat} (hx : p.tables.exec = Jvm.exec) (hb : c.code = cX11_init) (hml : c.maxLocals = 2) (hown : s.vm.findClass RX11 = some m.cls) (hts : ∀ w ∈ (Cond.code yX11_init cX11_init 2 none :: lw_ok), w.before args s = true) (hin : ∀ w ∈ lw_ok, w ∈ (Cond.code yX11_init cX11_init 2 none :: lw_ok)) (hK : va_K D vwCl (xty cy) s) (hZ : XZ A ad s) (hA : ∀ q, s.heap.size ≤ q → A q)
    (hX : XX D A ad cy (lk LQ34) Y (wA 18) H) (hG : XG ad (lk LQ34)) (hO : XD (lk LQ34) (wA 18)) (hS : va_S A s.heap H locs) (hl : lv_has ls 2 [(1, .int 18), (0, .ref a)]) (hq0 : ad 10 0 = a)
    (kk : ∀ (ad' : Nat → Nat → Nat) (H : Heap) (locs : List Loc) (ls : Array Slot), XX D A ad' cy (lk LQ35) Y (wA 19) H → XG ad' (lk LQ35) → XD (lk LQ35) (wA 19) → va_S A s.heap H locs → lv_has ls 2 [(1, .int 19), (0, .ref a)] → ad' 10 0 = a → XT0 ad (lk LQ34) ad' → W p l e { frames := 3, cells := 180, slots := 2293, locals := 52 } s m args below meth c H locs 135 1983 Q (F0 m 180 ls [])) : W p l e { frames := 3, cells := 180, slots := 2293, locals := 52 } s m args below meth c H locs 130 1953 Q (F0 m 180 ls []) := by
  refine lv_iload_n hx hb dX11_init_180 rfl (lv_at hl 0 rfl) ?_
  refine lv_bipush (v := 20) hx hb dX11_init_181 (by decide) ?_
  refine lv_icmp_ge (tgt := 205) hx hb dX11_init_183 (by decide) (fun cb => ?_) (fun cb => ?_)
  · exact absurd cb (by decide)
  refine lv_aload_n hx hb dX11_init_186 rfl (lv_at hl 1 rfl) ?_
  refine r_getSa (hq0) hx hb hts hin xk_10 hown hK hX (i := 0) (k := 14) (show 0 < lk LQ34 10 by decide +kernel) rfl (by decide) rfl wt_330 dX11_init_187 ?_
  refine lv_iload_n hx hb dX11_init_190 rfl (lv_at hl 0 rfl) ?_
  refine r_new hx hb hts hin xk_8 hown wt_167 wt_168 wt_5 hK hX hS hA (fs := [.int 0, .int 0, .null, .null, .null, .null]) (by decide +kernel) (Nat.le_of_ble_eq_true rfl) (Nat.le_of_ble_eq_true rfl) dX11_init_191 (fun b1 H hX hS => ?_)
  refine lv_dup hx hb dX11_init_194 rfl ?_
  refine ri_call (va_runIN (As := []) (rest := [.ref b1, .int 18, .ref (ad 37 (xser 1 0 0))]) (b := b1) (g := F0 m 195 ls (.ref b1 :: [.ref b1, .int 18, .ref (ad 37 (xser 1 0 0))])) (nL := 2) (host := "WinterKeep") ⟨hx, hb, hml, hown, hts⟩ (i_X9_init l D A ad cy (lk LQ34) Y (wA 18) b1 rfl rfl rfl rfl) ⟨va_cnB 0 hts (lw_okg wt_171) rfl rfl rfl (hZ.2.2.2.2 (RX11, 45, yX9_init) (List.mem_of_getElem? (i := 3) rfl)) (hts _ (hin _ wt_5)) (by decide +kernel) ⟨Nat.le_of_ble_eq_true rfl, Nat.le_of_ble_eq_true rfl⟩, rfl, hts _ (hin _ wt_170)⟩ ⟨xip_blind, fun U hU hW => ⟨rfl, fun q h => hA q (Nat.le_trans hS.1 (by rw [← hU]; exact h)), by rw [hU]; exact hX, hO, va_K.moved hW.alike hK, hG, xz_to (xz_ad (cnt := fun _ => 0) hZ ⟨fun _ _ h => absurd h (Nat.not_lt_zero _), rfl, rfl⟩) hU hW hS⟩⟩ rfl rfl hl.1 rfl (lv_room (Nat.le_of_ble_eq_true rfl)) dX11_init_195 ⟨Nat.le_of_ble_eq_true rfl, Nat.le_of_ble_eq_true rfl⟩) hS (fun ad1 H locs hT1 hq1 hX hG hO hS => ?_)
  rw [cup_lk (k := 30) (v := 20) rfl rfl] at hX hG hO
  rw [cup_lk (k := 31) (v := 20) rfl rfl] at hX hG hO
  rw [cup_lk (k := 32) (v := 20) rfl rfl] at hX hG hO
  rw [cup_lk (k := 33) (v := 20) rfl rfl] at hX hG hO
  rw [cup_lk (k := 8) (v := 20) rfl rfl] at hX hG hO
  rw [show wz (wA 18) 30 ((lk LQ34) 8) = (wA 18) from wz_id rfl rfl rfl] at hX hO
  rw [show wz (wA 18) 31 ((lk LQ34) 8) = (wA 18) from wz_id rfl rfl rfl] at hX hO
  rw [show wz (wA 18) 32 ((lk LQ34) 8) = (wA 18) from wz_id rfl rfl rfl] at hX hO
  rw [show wz (wA 18) 33 ((lk LQ34) 8) = (wA 18) from wz_id rfl rfl rfl] at hX hO
  rw [show wz (wA 18) 8 ((lk LQ34) 8) = (wA 18) from wz_id rfl rfl rfl] at hX hO
  have hX : XX D A ad1 cy (lk LQ35) Y (wA 18) H := hX
  have hG : XG ad1 (lk LQ35) := hG
  have hO : XD (lk LQ35) (wA 18) := hO
  rw [show b1 = ad1 8 20 from (hq1).symm]
  rw [show ad 37 (xser 1 0 0) = ad1 37 0 from (hT1.1 37 0 (show 0 < lk LQ34 37 by decide)).symm]
  refine r_aast hx hb xk_8 hK hX hG hO hS (t := 6) rfl rfl (by decide) (by decide) (show 0 < lk LQ35 37 by decide) (show 20 < lk LQ35 8 by decide +kernel) (vp_in_lit (by decide)) dX11_init_198 (fun H locs hX hO hS => ?_)
  have hX : XX D A ad1 cy (lk LQ35) Y (wA 19) H := hX
  have hO : XD (lk LQ35) (wA 19) := hO
  refine lv_iinc (v := 19) (lv' := [(1, .int 19), (0, .ref a)]) hx hb dX11_init_199 hl (k := 0) rfl (by decide) (by decide) rfl (fun ls hl => ?_)
  have hl : lv_has ls 2 [(1, .int 19), (0, .ref a)] := hl
  refine lv_goto (tgt := 180) hx hb dX11_init_202 (by decide) ?_
  exact kk _ H locs ls hX hG hO hS hl (((hT1.1 10 0 (show 0 < lk LQ34 10 by decide +kernel)).trans hq0)) (hT1)

set_option maxRecDepth 100000 in
set_option maxHeartbeats 4000000 in
theorem kA_19 {p : Program} {l : Launch} {e : Env} {s : State} {m : MethodId} {args : Array Value} {below : List Frame} {meth : Method} {c : Code} {H : Heap} {locs : List Loc} {Q : State → Prop} {ls : Array Slot} {D : va_G} {A : Nat → Prop} {ad : Nat → Nat → Nat} {cy : Nat → ClassId} {Y : va_W} {a : Nat} (hx : p.tables.exec = Jvm.exec) (hb : c.code = cX11_init) (hml : c.maxLocals = 2) (hown : s.vm.findClass RX11 = some m.cls) (hts : ∀ w ∈ (Cond.code yX11_init cX11_init 2 none :: lw_ok), w.before args s = true) (hin : ∀ w ∈ lw_ok, w ∈ (Cond.code yX11_init cX11_init 2 none :: lw_ok)) (hK : va_K D vwCl (xty cy) s) (hZ : XZ A ad s) (hA : ∀ q, s.heap.size ≤ q → A q)
    (hX : XX D A ad cy (lk LQ35) Y (wA 19) H) (hG : XG ad (lk LQ35)) (hO : XD (lk LQ35) (wA 19)) (hS : va_S A s.heap H locs) (hl : lv_has ls 2 [(1, .int 19), (0, .ref a)]) (hq0 : ad 10 0 = a)
    (kk : ∀ (ad' : Nat → Nat → Nat) (H : Heap) (locs : List Loc) (ls : Array Slot), XX D A ad' cy (lk LQ36) Y (wA 20) H → XG ad' (lk LQ36) → XD (lk LQ36) (wA 20) → va_S A s.heap H locs → lv_has ls 2 [(1, .int 20), (0, .ref a)] → ad' 10 0 = a → XT0 ad (lk LQ35) ad' → W p l e { frames := 3, cells := 180, slots := 2293, locals := 52 } s m args below meth c H locs 140 2013 Q (F0 m 180 ls [])) : W p l e { frames := 3, cells := 180, slots := 2293, locals := 52 } s m args below meth c H locs 135 1983 Q (F0 m 180 ls []) := by
  refine lv_iload_n hx hb dX11_init_180 rfl (lv_at hl 0 rfl) ?_
  refine lv_bipush (v := 20) hx hb dX11_init_181 (by decide) ?_
  refine lv_icmp_ge (tgt := 205) hx hb dX11_init_183 (by decide) (fun cb => ?_) (fun cb => ?_)
  · exact absurd cb (by decide)
  refine lv_aload_n hx hb dX11_init_186 rfl (lv_at hl 1 rfl) ?_
  refine r_getSa (hq0) hx hb hts hin xk_10 hown hK hX (i := 0) (k := 14) (show 0 < lk LQ35 10 by decide +kernel) rfl (by decide) rfl wt_330 dX11_init_187 ?_
  refine lv_iload_n hx hb dX11_init_190 rfl (lv_at hl 0 rfl) ?_
  refine r_new hx hb hts hin xk_8 hown wt_167 wt_168 wt_5 hK hX hS hA (fs := [.int 0, .int 0, .null, .null, .null, .null]) (by decide +kernel) (Nat.le_of_ble_eq_true rfl) (Nat.le_of_ble_eq_true rfl) dX11_init_191 (fun b1 H hX hS => ?_)
  refine lv_dup hx hb dX11_init_194 rfl ?_
  refine ri_call (va_runIN (As := []) (rest := [.ref b1, .int 19, .ref (ad 37 (xser 1 0 0))]) (b := b1) (g := F0 m 195 ls (.ref b1 :: [.ref b1, .int 19, .ref (ad 37 (xser 1 0 0))])) (nL := 2) (host := "WinterKeep") ⟨hx, hb, hml, hown, hts⟩ (i_X9_init l D A ad cy (lk LQ35) Y (wA 19) b1 rfl rfl rfl rfl) ⟨va_cnB 0 hts (lw_okg wt_171) rfl rfl rfl (hZ.2.2.2.2 (RX11, 45, yX9_init) (List.mem_of_getElem? (i := 3) rfl)) (hts _ (hin _ wt_5)) (by decide +kernel) ⟨Nat.le_of_ble_eq_true rfl, Nat.le_of_ble_eq_true rfl⟩, rfl, hts _ (hin _ wt_170)⟩ ⟨xip_blind, fun U hU hW => ⟨rfl, fun q h => hA q (Nat.le_trans hS.1 (by rw [← hU]; exact h)), by rw [hU]; exact hX, hO, va_K.moved hW.alike hK, hG, xz_to (xz_ad (cnt := fun _ => 0) hZ ⟨fun _ _ h => absurd h (Nat.not_lt_zero _), rfl, rfl⟩) hU hW hS⟩⟩ rfl rfl hl.1 rfl (lv_room (Nat.le_of_ble_eq_true rfl)) dX11_init_195 ⟨Nat.le_of_ble_eq_true rfl, Nat.le_of_ble_eq_true rfl⟩) hS (fun ad1 H locs hT1 hq1 hX hG hO hS => ?_)
  rw [cup_lk (k := 30) (v := 21) rfl rfl] at hX hG hO
  rw [cup_lk (k := 31) (v := 21) rfl rfl] at hX hG hO
  rw [cup_lk (k := 32) (v := 21) rfl rfl] at hX hG hO
  rw [cup_lk (k := 33) (v := 21) rfl rfl] at hX hG hO
  rw [cup_lk (k := 8) (v := 21) rfl rfl] at hX hG hO
  rw [show wz (wA 19) 30 ((lk LQ35) 8) = (wA 19) from wz_id rfl rfl rfl] at hX hO
  rw [show wz (wA 19) 31 ((lk LQ35) 8) = (wA 19) from wz_id rfl rfl rfl] at hX hO
  rw [show wz (wA 19) 32 ((lk LQ35) 8) = (wA 19) from wz_id rfl rfl rfl] at hX hO
  rw [show wz (wA 19) 33 ((lk LQ35) 8) = (wA 19) from wz_id rfl rfl rfl] at hX hO
  rw [show wz (wA 19) 8 ((lk LQ35) 8) = (wA 19) from wz_id rfl rfl rfl] at hX hO
  have hX : XX D A ad1 cy (lk LQ36) Y (wA 19) H := hX
  have hG : XG ad1 (lk LQ36) := hG
  have hO : XD (lk LQ36) (wA 19) := hO
  rw [show b1 = ad1 8 21 from (hq1).symm]
  rw [show ad 37 (xser 1 0 0) = ad1 37 0 from (hT1.1 37 0 (show 0 < lk LQ35 37 by decide)).symm]
  refine r_aast hx hb xk_8 hK hX hG hO hS (t := 6) rfl rfl (by decide) (by decide) (show 0 < lk LQ36 37 by decide) (show 21 < lk LQ36 8 by decide +kernel) (vp_in_lit (by decide)) dX11_init_198 (fun H locs hX hO hS => ?_)
  have hX : XX D A ad1 cy (lk LQ36) Y (wA 20) H := hX
  have hO : XD (lk LQ36) (wA 20) := hO
  refine lv_iinc (v := 20) (lv' := [(1, .int 20), (0, .ref a)]) hx hb dX11_init_199 hl (k := 0) rfl (by decide) (by decide) rfl (fun ls hl => ?_)
  have hl : lv_has ls 2 [(1, .int 20), (0, .ref a)] := hl
  refine lv_goto (tgt := 180) hx hb dX11_init_202 (by decide) ?_
  exact kk _ H locs ls hX hG hO hS hl (((hT1.1 10 0 (show 0 < lk LQ35 10 by decide +kernel)).trans hq0)) (hT1)

set_option maxRecDepth 100000 in
set_option maxHeartbeats 4000000 in
theorem kB_0 {p : Program} {l : Launch} {e : Env} {s : State} {m : MethodId} {args : Array Value} {below : List Frame} {meth : Method} {c : Code} {H : Heap} {locs : List Loc} {Q : State → Prop} {ls : Array Slot} {D : va_G} {A : Nat → Prop} {ad : Nat → Nat → Nat} {cy : Nat → ClassId} {Y : va_W} {a : Nat} (hx : p.tables.exec = Jvm.exec) (hb : c.code = cX11_init) (hml : c.maxLocals = 2) (hown : s.vm.findClass RX11 = some m.cls) (hts : ∀ w ∈ (Cond.code yX11_init cX11_init 2 none :: lw_ok), w.before args s = true) (hin : ∀ w ∈ lw_ok, w ∈ (Cond.code yX11_init cX11_init 2 none :: lw_ok)) (hK : va_K D vwCl (xty cy) s) (hZ : XZ A ad s) (hA : ∀ q, s.heap.size ≤ q → A q)
    (hX : XX D A ad cy (lk LQ36) Y (wB 0) H) (hG : XG ad (lk LQ36)) (hO : XD (lk LQ36) (wB 0)) (hS : va_S A s.heap H locs) (hl : lv_has ls 2 [(1, .int 0), (0, .ref a)]) (hq0 : ad 10 0 = a)
    (kk : ∀ (ad' : Nat → Nat → Nat) (H : Heap) (locs : List Loc) (ls : Array Slot), XX D A ad' cy (lk LQ39) Y (wB 1) H → XG ad' (lk LQ39) → XD (lk LQ39) (wB 1) → va_S A s.heap H locs → lv_has ls 2 [(1, .int 1), (0, .ref a)] → ad' 10 0 = a → XT0 ad (lk LQ36) ad' → W p l e { frames := 3, cells := 180, slots := 2293, locals := 52 } s m args below meth c H locs 150 2083 Q (F0 m 207 ls [])) : W p l e { frames := 3, cells := 180, slots := 2293, locals := 52 } s m args below meth c H locs 140 2013 Q (F0 m 207 ls []) := by
  refine lv_iload_n hx hb dX11_init_207 rfl (lv_at hl 0 rfl) ?_
  refine lv_iconst (v := 4) hx hb dX11_init_208 (by decide) ?_
  refine lv_icmp_ge (tgt := 231) hx hb dX11_init_209 (by decide) (fun cb => ?_) (fun cb => ?_)
  · exact absurd cb (by decide)
  refine lv_aload_n hx hb dX11_init_212 rfl (lv_at hl 1 rfl) ?_
  refine r_getSa (hq0) hx hb hts hin xk_10 hown hK hX (i := 0) (k := 13) (show 0 < lk LQ36 10 by decide +kernel) rfl (by decide) rfl wt_329 dX11_init_213 ?_
  refine lv_iload_n hx hb dX11_init_216 rfl (lv_at hl 0 rfl) ?_
  refine r_new hx hb hts hin xk_2 hown wt_279 wt_282 wt_10 hK hX hS hA (fs := [.int 0, .null, .null, .int 0, .null, .int 0]) (by decide +kernel) (Nat.le_of_ble_eq_true rfl) (Nat.le_of_ble_eq_true rfl) dX11_init_217 (fun b1 H hX hS => ?_)
  refine lv_dup hx hb dX11_init_220 rfl ?_
  refine ri_call (va_runIN (As := []) (rest := [.ref b1, .int 0, .ref (ad 36 (xser 1 0 0))]) (b := b1) (g := F0 m 221 ls (.ref b1 :: [.ref b1, .int 0, .ref (ad 36 (xser 1 0 0))])) (nL := 2) (host := "WinterKeep") ⟨hx, hb, hml, hown, hts⟩ (i_X3_init_0 l D A ad cy Y b1) ⟨va_cnB 0 hts (lw_okg wt_285) rfl rfl rfl (hZ.2.2.2.2 (RX11, 111, yX3_init) (List.mem_of_getElem? (i := 8) rfl)) (hts _ (hin _ wt_10)) (by decide +kernel) ⟨Nat.le_of_ble_eq_true rfl, Nat.le_of_ble_eq_true rfl⟩, rfl, hts _ (hin _ wt_284)⟩ ⟨xip_blind, fun U hU hW => ⟨rfl, fun q h => hA q (Nat.le_trans hS.1 (by rw [← hU]; exact h)), by rw [hU]; exact hX, hO, va_K.moved hW.alike hK, hG, xz_to (xz_ad (cnt := fun _ => 0) hZ ⟨fun _ _ h => absurd h (Nat.not_lt_zero _), rfl, rfl⟩) hU hW hS⟩⟩ rfl rfl hl.1 rfl (lv_room (Nat.le_of_ble_eq_true rfl)) dX11_init_221 ⟨Nat.le_of_ble_eq_true rfl, Nat.le_of_ble_eq_true rfl⟩) hS (fun ad1 H locs hT1 hq1 hX hG hO hS => ?_)
  have hX : XX D A ad1 cy (lk LQ39) Y (sI (wB 0) 2 0 3 (-1)) H := hX
  have hG : XG ad1 (lk LQ39) := hG
  have hO : XD (lk LQ39) (sI (wB 0) 2 0 3 (-1)) := hO
  rw [show b1 = ad1 2 0 from (hq1).symm]
  rw [show ad 36 (xser 1 0 0) = ad1 36 0 from (hT1.1 36 0 (show 0 < lk LQ36 36 by decide)).symm]
  refine r_aast hx hb xk_2 hK hX hG hO hS (t := 4) rfl rfl (by decide) (by decide) (show 0 < lk LQ39 36 by decide) (show 0 < lk LQ39 2 by decide +kernel) (vp_in_lit (by decide)) dX11_init_224 (fun H locs hX hO hS => ?_)
  have hX : XX D A ad1 cy (lk LQ39) Y (wB 1) H := hX
  have hO : XD (lk LQ39) (wB 1) := hO
  refine lv_iinc (v := 1) (lv' := [(1, .int 1), (0, .ref a)]) hx hb dX11_init_225 hl (k := 0) rfl (by decide) (by decide) rfl (fun ls hl => ?_)
  have hl : lv_has ls 2 [(1, .int 1), (0, .ref a)] := hl
  refine lv_goto (tgt := 207) hx hb dX11_init_228 (by decide) ?_
  exact kk _ H locs ls hX hG hO hS hl (((hT1.1 10 0 (show 0 < lk LQ36 10 by decide +kernel)).trans hq0)) (hT1)

set_option maxRecDepth 100000 in
set_option maxHeartbeats 4000000 in
theorem kB_1 {p : Program} {l : Launch} {e : Env} {s : State} {m : MethodId} {args : Array Value} {below : List Frame} {meth : Method} {c : Code} {H : Heap} {locs : List Loc} {Q : State → Prop} {ls : Array Slot} {D : va_G} {A : Nat → Prop} {ad : Nat → Nat → Nat} {cy : Nat → ClassId} {Y : va_W} {a : Nat} (hx : p.tables.exec = Jvm.exec) (hb : c.code = cX11_init) (hml : c.maxLocals = 2) (hown : s.vm.findClass RX11 = some m.cls) (hts : ∀ w ∈ (Cond.code yX11_init cX11_init 2 none :: lw_ok), w.before args s = true) (hin : ∀ w ∈ lw_ok, w ∈ (Cond.code yX11_init cX11_init 2 none :: lw_ok)) (hK : va_K D vwCl (xty cy) s) (hZ : XZ A ad s) (hA : ∀ q, s.heap.size ≤ q → A q)
    (hX : XX D A ad cy (lk LQ39) Y (wB 1) H) (hG : XG ad (lk LQ39)) (hO : XD (lk LQ39) (wB 1)) (hS : va_S A s.heap H locs) (hl : lv_has ls 2 [(1, .int 1), (0, .ref a)]) (hq0 : ad 10 0 = a)
    (kk : ∀ (ad' : Nat → Nat → Nat) (H : Heap) (locs : List Loc) (ls : Array Slot), XX D A ad' cy (lk LQ42) Y (wB 2) H → XG ad' (lk LQ42) → XD (lk LQ42) (wB 2) → va_S A s.heap H locs → lv_has ls 2 [(1, .int 2), (0, .ref a)] → ad' 10 0 = a → XT0 ad (lk LQ39) ad' → W p l e { frames := 3, cells := 180, slots := 2293, locals := 52 } s m args below meth c H locs 160 2153 Q (F0 m 207 ls [])) : W p l e { frames := 3, cells := 180, slots := 2293, locals := 52 } s m args below meth c H locs 150 2083 Q (F0 m 207 ls []) := by
  refine lv_iload_n hx hb dX11_init_207 rfl (lv_at hl 0 rfl) ?_
  refine lv_iconst (v := 4) hx hb dX11_init_208 (by decide) ?_
  refine lv_icmp_ge (tgt := 231) hx hb dX11_init_209 (by decide) (fun cb => ?_) (fun cb => ?_)
  · exact absurd cb (by decide)
  refine lv_aload_n hx hb dX11_init_212 rfl (lv_at hl 1 rfl) ?_
  refine r_getSa (hq0) hx hb hts hin xk_10 hown hK hX (i := 0) (k := 13) (show 0 < lk LQ39 10 by decide +kernel) rfl (by decide) rfl wt_329 dX11_init_213 ?_
  refine lv_iload_n hx hb dX11_init_216 rfl (lv_at hl 0 rfl) ?_
  refine r_new hx hb hts hin xk_2 hown wt_279 wt_282 wt_10 hK hX hS hA (fs := [.int 0, .null, .null, .int 0, .null, .int 0]) (by decide +kernel) (Nat.le_of_ble_eq_true rfl) (Nat.le_of_ble_eq_true rfl) dX11_init_217 (fun b1 H hX hS => ?_)
  refine lv_dup hx hb dX11_init_220 rfl ?_
  refine ri_call (va_runIN (As := []) (rest := [.ref b1, .int 1, .ref (ad 36 (xser 1 0 0))]) (b := b1) (g := F0 m 221 ls (.ref b1 :: [.ref b1, .int 1, .ref (ad 36 (xser 1 0 0))])) (nL := 2) (host := "WinterKeep") ⟨hx, hb, hml, hown, hts⟩ (i_X3_init_1 l D A ad cy Y b1) ⟨va_cnB 0 hts (lw_okg wt_285) rfl rfl rfl (hZ.2.2.2.2 (RX11, 111, yX3_init) (List.mem_of_getElem? (i := 8) rfl)) (hts _ (hin _ wt_10)) (by decide +kernel) ⟨Nat.le_of_ble_eq_true rfl, Nat.le_of_ble_eq_true rfl⟩, rfl, hts _ (hin _ wt_284)⟩ ⟨xip_blind, fun U hU hW => ⟨rfl, fun q h => hA q (Nat.le_trans hS.1 (by rw [← hU]; exact h)), by rw [hU]; exact hX, hO, va_K.moved hW.alike hK, hG, xz_to (xz_ad (cnt := fun _ => 0) hZ ⟨fun _ _ h => absurd h (Nat.not_lt_zero _), rfl, rfl⟩) hU hW hS⟩⟩ rfl rfl hl.1 rfl (lv_room (Nat.le_of_ble_eq_true rfl)) dX11_init_221 ⟨Nat.le_of_ble_eq_true rfl, Nat.le_of_ble_eq_true rfl⟩) hS (fun ad1 H locs hT1 hq1 hX hG hO hS => ?_)
  have hX : XX D A ad1 cy (lk LQ42) Y (sI (wB 1) 2 1 3 (-1)) H := hX
  have hG : XG ad1 (lk LQ42) := hG
  have hO : XD (lk LQ42) (sI (wB 1) 2 1 3 (-1)) := hO
  rw [show b1 = ad1 2 1 from (hq1).symm]
  rw [show ad 36 (xser 1 0 0) = ad1 36 0 from (hT1.1 36 0 (show 0 < lk LQ39 36 by decide)).symm]
  refine r_aast hx hb xk_2 hK hX hG hO hS (t := 4) rfl rfl (by decide) (by decide) (show 0 < lk LQ42 36 by decide) (show 1 < lk LQ42 2 by decide +kernel) (vp_in_lit (by decide)) dX11_init_224 (fun H locs hX hO hS => ?_)
  have hX : XX D A ad1 cy (lk LQ42) Y (wB 2) H := hX
  have hO : XD (lk LQ42) (wB 2) := hO
  refine lv_iinc (v := 2) (lv' := [(1, .int 2), (0, .ref a)]) hx hb dX11_init_225 hl (k := 0) rfl (by decide) (by decide) rfl (fun ls hl => ?_)
  have hl : lv_has ls 2 [(1, .int 2), (0, .ref a)] := hl
  refine lv_goto (tgt := 207) hx hb dX11_init_228 (by decide) ?_
  exact kk _ H locs ls hX hG hO hS hl (((hT1.1 10 0 (show 0 < lk LQ39 10 by decide +kernel)).trans hq0)) (hT1)

set_option maxRecDepth 100000 in
set_option maxHeartbeats 4000000 in
theorem kB_2 {p : Program} {l : Launch} {e : Env} {s : State} {m : MethodId} {args : Array Value} {below : List Frame} {meth : Method} {c : Code} {H : Heap} {locs : List Loc} {Q : State → Prop} {ls : Array Slot} {D : va_G} {A : Nat → Prop} {ad : Nat → Nat → Nat} {cy : Nat → ClassId} {Y : va_W} {a : Nat} (hx : p.tables.exec = Jvm.exec) (hb : c.code = cX11_init) (hml : c.maxLocals = 2) (hown : s.vm.findClass RX11 = some m.cls) (hts : ∀ w ∈ (Cond.code yX11_init cX11_init 2 none :: lw_ok), w.before args s = true) (hin : ∀ w ∈ lw_ok, w ∈ (Cond.code yX11_init cX11_init 2 none :: lw_ok)) (hK : va_K D vwCl (xty cy) s) (hZ : XZ A ad s) (hA : ∀ q, s.heap.size ≤ q → A q)
    (hX : XX D A ad cy (lk LQ42) Y (wB 2) H) (hG : XG ad (lk LQ42)) (hO : XD (lk LQ42) (wB 2)) (hS : va_S A s.heap H locs) (hl : lv_has ls 2 [(1, .int 2), (0, .ref a)]) (hq0 : ad 10 0 = a)
    (kk : ∀ (ad' : Nat → Nat → Nat) (H : Heap) (locs : List Loc) (ls : Array Slot), XX D A ad' cy (lk LQ45) Y (wB 3) H → XG ad' (lk LQ45) → XD (lk LQ45) (wB 3) → va_S A s.heap H locs → lv_has ls 2 [(1, .int 3), (0, .ref a)] → ad' 10 0 = a → XT0 ad (lk LQ42) ad' → W p l e { frames := 3, cells := 180, slots := 2293, locals := 52 } s m args below meth c H locs 170 2223 Q (F0 m 207 ls [])) : W p l e { frames := 3, cells := 180, slots := 2293, locals := 52 } s m args below meth c H locs 160 2153 Q (F0 m 207 ls []) := by
  refine lv_iload_n hx hb dX11_init_207 rfl (lv_at hl 0 rfl) ?_
  refine lv_iconst (v := 4) hx hb dX11_init_208 (by decide) ?_
  refine lv_icmp_ge (tgt := 231) hx hb dX11_init_209 (by decide) (fun cb => ?_) (fun cb => ?_)
  · exact absurd cb (by decide)
  refine lv_aload_n hx hb dX11_init_212 rfl (lv_at hl 1 rfl) ?_
  refine r_getSa (hq0) hx hb hts hin xk_10 hown hK hX (i := 0) (k := 13) (show 0 < lk LQ42 10 by decide +kernel) rfl (by decide) rfl wt_329 dX11_init_213 ?_
  refine lv_iload_n hx hb dX11_init_216 rfl (lv_at hl 0 rfl) ?_
  refine r_new hx hb hts hin xk_2 hown wt_279 wt_282 wt_10 hK hX hS hA (fs := [.int 0, .null, .null, .int 0, .null, .int 0]) (by decide +kernel) (Nat.le_of_ble_eq_true rfl) (Nat.le_of_ble_eq_true rfl) dX11_init_217 (fun b1 H hX hS => ?_)
  refine lv_dup hx hb dX11_init_220 rfl ?_
  refine ri_call (va_runIN (As := []) (rest := [.ref b1, .int 2, .ref (ad 36 (xser 1 0 0))]) (b := b1) (g := F0 m 221 ls (.ref b1 :: [.ref b1, .int 2, .ref (ad 36 (xser 1 0 0))])) (nL := 2) (host := "WinterKeep") ⟨hx, hb, hml, hown, hts⟩ (i_X3_init_2 l D A ad cy Y b1) ⟨va_cnB 0 hts (lw_okg wt_285) rfl rfl rfl (hZ.2.2.2.2 (RX11, 111, yX3_init) (List.mem_of_getElem? (i := 8) rfl)) (hts _ (hin _ wt_10)) (by decide +kernel) ⟨Nat.le_of_ble_eq_true rfl, Nat.le_of_ble_eq_true rfl⟩, rfl, hts _ (hin _ wt_284)⟩ ⟨xip_blind, fun U hU hW => ⟨rfl, fun q h => hA q (Nat.le_trans hS.1 (by rw [← hU]; exact h)), by rw [hU]; exact hX, hO, va_K.moved hW.alike hK, hG, xz_to (xz_ad (cnt := fun _ => 0) hZ ⟨fun _ _ h => absurd h (Nat.not_lt_zero _), rfl, rfl⟩) hU hW hS⟩⟩ rfl rfl hl.1 rfl (lv_room (Nat.le_of_ble_eq_true rfl)) dX11_init_221 ⟨Nat.le_of_ble_eq_true rfl, Nat.le_of_ble_eq_true rfl⟩) hS (fun ad1 H locs hT1 hq1 hX hG hO hS => ?_)
  have hX : XX D A ad1 cy (lk LQ45) Y (sI (wB 2) 2 2 3 (-1)) H := hX
  have hG : XG ad1 (lk LQ45) := hG
  have hO : XD (lk LQ45) (sI (wB 2) 2 2 3 (-1)) := hO
  rw [show b1 = ad1 2 2 from (hq1).symm]
  rw [show ad 36 (xser 1 0 0) = ad1 36 0 from (hT1.1 36 0 (show 0 < lk LQ42 36 by decide)).symm]
  refine r_aast hx hb xk_2 hK hX hG hO hS (t := 4) rfl rfl (by decide) (by decide) (show 0 < lk LQ45 36 by decide) (show 2 < lk LQ45 2 by decide +kernel) (vp_in_lit (by decide)) dX11_init_224 (fun H locs hX hO hS => ?_)
  have hX : XX D A ad1 cy (lk LQ45) Y (wB 3) H := hX
  have hO : XD (lk LQ45) (wB 3) := hO
  refine lv_iinc (v := 3) (lv' := [(1, .int 3), (0, .ref a)]) hx hb dX11_init_225 hl (k := 0) rfl (by decide) (by decide) rfl (fun ls hl => ?_)
  have hl : lv_has ls 2 [(1, .int 3), (0, .ref a)] := hl
  refine lv_goto (tgt := 207) hx hb dX11_init_228 (by decide) ?_
  exact kk _ H locs ls hX hG hO hS hl (((hT1.1 10 0 (show 0 < lk LQ42 10 by decide +kernel)).trans hq0)) (hT1)

set_option maxRecDepth 100000 in
set_option maxHeartbeats 4000000 in
theorem kB_3 {p : Program} {l : Launch} {e : Env} {s : State} {m : MethodId} {args : Array Value} {below : List Frame} {meth : Method} {c : Code} {H : Heap} {locs : List Loc} {Q : State → Prop} {ls : Array Slot} {D : va_G} {A : Nat → Prop} {ad : Nat → Nat → Nat} {cy : Nat → ClassId} {Y : va_W} {a : Nat} (hx : p.tables.exec = Jvm.exec) (hb : c.code = cX11_init) (hml : c.maxLocals = 2) (hown : s.vm.findClass RX11 = some m.cls) (hts : ∀ w ∈ (Cond.code yX11_init cX11_init 2 none :: lw_ok), w.before args s = true) (hin : ∀ w ∈ lw_ok, w ∈ (Cond.code yX11_init cX11_init 2 none :: lw_ok)) (hK : va_K D vwCl (xty cy) s) (hZ : XZ A ad s) (hA : ∀ q, s.heap.size ≤ q → A q)
    (hX : XX D A ad cy (lk LQ45) Y (wB 3) H) (hG : XG ad (lk LQ45)) (hO : XD (lk LQ45) (wB 3)) (hS : va_S A s.heap H locs) (hl : lv_has ls 2 [(1, .int 3), (0, .ref a)]) (hq0 : ad 10 0 = a)
    (kk : ∀ (ad' : Nat → Nat → Nat) (H : Heap) (locs : List Loc) (ls : Array Slot), XX D A ad' cy (lk LQ48) Y (wB 4) H → XG ad' (lk LQ48) → XD (lk LQ48) (wB 4) → va_S A s.heap H locs → lv_has ls 2 [(1, .int 4), (0, .ref a)] → ad' 10 0 = a → XT0 ad (lk LQ45) ad' → W p l e { frames := 3, cells := 180, slots := 2293, locals := 52 } s m args below meth c H locs 180 2293 Q (F0 m 207 ls [])) : W p l e { frames := 3, cells := 180, slots := 2293, locals := 52 } s m args below meth c H locs 170 2223 Q (F0 m 207 ls []) := by
  refine lv_iload_n hx hb dX11_init_207 rfl (lv_at hl 0 rfl) ?_
  refine lv_iconst (v := 4) hx hb dX11_init_208 (by decide) ?_
  refine lv_icmp_ge (tgt := 231) hx hb dX11_init_209 (by decide) (fun cb => ?_) (fun cb => ?_)
  · exact absurd cb (by decide)
  refine lv_aload_n hx hb dX11_init_212 rfl (lv_at hl 1 rfl) ?_
  refine r_getSa (hq0) hx hb hts hin xk_10 hown hK hX (i := 0) (k := 13) (show 0 < lk LQ45 10 by decide +kernel) rfl (by decide) rfl wt_329 dX11_init_213 ?_
  refine lv_iload_n hx hb dX11_init_216 rfl (lv_at hl 0 rfl) ?_
  refine r_new hx hb hts hin xk_2 hown wt_279 wt_282 wt_10 hK hX hS hA (fs := [.int 0, .null, .null, .int 0, .null, .int 0]) (by decide +kernel) (Nat.le_of_ble_eq_true rfl) (Nat.le_of_ble_eq_true rfl) dX11_init_217 (fun b1 H hX hS => ?_)
  refine lv_dup hx hb dX11_init_220 rfl ?_
  refine ri_call (va_runIN (As := []) (rest := [.ref b1, .int 3, .ref (ad 36 (xser 1 0 0))]) (b := b1) (g := F0 m 221 ls (.ref b1 :: [.ref b1, .int 3, .ref (ad 36 (xser 1 0 0))])) (nL := 2) (host := "WinterKeep") ⟨hx, hb, hml, hown, hts⟩ (i_X3_init_3 l D A ad cy Y b1) ⟨va_cnB 0 hts (lw_okg wt_285) rfl rfl rfl (hZ.2.2.2.2 (RX11, 111, yX3_init) (List.mem_of_getElem? (i := 8) rfl)) (hts _ (hin _ wt_10)) (by decide +kernel) ⟨Nat.le_of_ble_eq_true rfl, Nat.le_of_ble_eq_true rfl⟩, rfl, hts _ (hin _ wt_284)⟩ ⟨xip_blind, fun U hU hW => ⟨rfl, fun q h => hA q (Nat.le_trans hS.1 (by rw [← hU]; exact h)), by rw [hU]; exact hX, hO, va_K.moved hW.alike hK, hG, xz_to (xz_ad (cnt := fun _ => 0) hZ ⟨fun _ _ h => absurd h (Nat.not_lt_zero _), rfl, rfl⟩) hU hW hS⟩⟩ rfl rfl hl.1 rfl (lv_room (Nat.le_of_ble_eq_true rfl)) dX11_init_221 ⟨Nat.le_of_ble_eq_true rfl, Nat.le_of_ble_eq_true rfl⟩) hS (fun ad1 H locs hT1 hq1 hX hG hO hS => ?_)
  have hX : XX D A ad1 cy (lk LQ48) Y (sI (wB 3) 2 3 3 (-1)) H := hX
  have hG : XG ad1 (lk LQ48) := hG
  have hO : XD (lk LQ48) (sI (wB 3) 2 3 3 (-1)) := hO
  rw [show b1 = ad1 2 3 from (hq1).symm]
  rw [show ad 36 (xser 1 0 0) = ad1 36 0 from (hT1.1 36 0 (show 0 < lk LQ45 36 by decide)).symm]
  refine r_aast hx hb xk_2 hK hX hG hO hS (t := 4) rfl rfl (by decide) (by decide) (show 0 < lk LQ48 36 by decide) (show 3 < lk LQ48 2 by decide +kernel) (vp_in_lit (by decide)) dX11_init_224 (fun H locs hX hO hS => ?_)
  have hX : XX D A ad1 cy (lk LQ48) Y (wB 4) H := hX
  have hO : XD (lk LQ48) (wB 4) := hO
  refine lv_iinc (v := 4) (lv' := [(1, .int 4), (0, .ref a)]) hx hb dX11_init_225 hl (k := 0) rfl (by decide) (by decide) rfl (fun ls hl => ?_)
  have hl : lv_has ls 2 [(1, .int 4), (0, .ref a)] := hl
  refine lv_goto (tgt := 207) hx hb dX11_init_228 (by decide) ?_
  exact kk _ H locs ls hX hG hO hS hl (((hT1.1 10 0 (show 0 < lk LQ45 10 by decide +kernel)).trans hq0)) (hT1)
