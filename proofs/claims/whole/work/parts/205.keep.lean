set_option maxRecDepth 100000 in
set_option maxHeartbeats 40000000 in
theorem i_X11_init (l : Launch) (D : va_G) (A : Nat → Prop) (ad : Nat → Nat → Nat) (cy : Nat → ClassId) (Y : va_W) (a : Nat) : Met l yX11_init (.code yX11_init cX11_init 2 none :: lw_ok) { frames := 3, cells := 180, slots := 2293, locals := 52 } (va_Pc [.ref a] (fun U => XIp D A ad cy (lk LQ0) Y wZ a 10 [.null, .null, .null, .int 0, .int 0, .null, .null, .null, .null, .null, .null, .null, .int 0, .null, .null, .int 0, .int 0, .null, .null, .null] U ∧ va_AO RX3 U ∧ va_AO RX7 U ∧ va_AO RX9 U)) (XIq D A ad cy (lk LQ0) Y a 10 0 (lk LQ48) (wB 4)) 180 2293 A := by
  refine Met.ofW (cc := cX11_init) (maxL := 2) (ret := none) (by decide) rfl ?_
  intro p e s m args below meth c s₁ B hml hv
  obtain ⟨rfl, ⟨hA, hX, hO, hK, hG, hZ⟩, hAO4, hAO5, hAO6⟩ := hv
  have hx := B.exec
  have hb := B.bytes
  have hr := B.returns
  have hts := atoms_spec (ws := .code yX11_init cX11_init 2 none :: lw_ok) B.pre
  have hin : ∀ w ∈ lw_ok, w ∈ (Cond.code yX11_init cX11_init 2 none :: lw_ok) := fun w h => List.mem_cons_of_mem _ h
  have hown : s.vm.findClass RX11 = some m.cls := findClass_of_methodNamed B.named
  have hlocks := B.notSynchronized
  have hin2 : meth.name = "<init>" := (name_of_methodNamed B.named B.method).1
  have hS : va_S A s.heap s.heap [] := va_S.rf
  have hl := lv_entry ([.ref a]) (n := 2) (Nat.le_of_ble_eq_true rfl)
  rw [lg_entry_eq]
  generalize (lg_sl ([.ref a]) ++ List.replicate (2 - (lg_sl ([.ref a])).length) Slot.unset).toArray = ls at hl ⊢
  have hl : lv_has ls 2 [(0, .ref a)] := hl
  refine lv_aload_n hx hb dX11_init_0 rfl (lv_at hl 0 rfl) ?_
  refine W.objInit hx hb hown (hts _ (hin _ wt_27)) (hts _ (hin _ wt_28)) (hts _ (hin _ wobj)) rfl (by rw [hml]; exact hl.1) rfl dX11_init_1 (Nat.le_of_ble_eq_true rfl) (Nat.le_of_ble_eq_true rfl) ?_
  refine W.eq (g2 := F0 m 4 ls []) rfl ?_
  refine lv_aload_n hx hb dX11_init_4 rfl (lv_at hl 0 rfl) ?_
  refine r_new hx hb hts hin xk_9 hown wt_30 wt_31 wt_2 hK hX hS hA (fs := [.null, .int 0, .int 0, .int 0, .int 0, .int 0]) (by decide +kernel) (Nat.le_of_ble_eq_true rfl) (Nat.le_of_ble_eq_true rfl) dX11_init_5 (fun b1 H hX hS => ?_)
  refine lv_dup hx hb dX11_init_8 rfl ?_
  refine ri_call (va_runIN (As := []) (rest := [.ref b1, .ref a]) (b := b1) (g := F0 m 9 ls (.ref b1 :: [.ref b1, .ref a])) (nL := 2) (host := "WinterKeep") ⟨hx, hb, hml, hown, hts⟩ (i_X10_init l D A ad cy (lk LQ0) ((a, .inr (10, [.null, .null, .null, .int 0, .int 0, .null, .null, .null, .null, .null, .null, .null, .int 0, .null, .null, .int 0, .int 0, .null, .null, .null])) :: Y) wZ b1 rfl rfl) ⟨va_cnB 0 hts (lw_okg wt_34) rfl rfl rfl (hZ.2.2.2.2 (RX11, 9, yX10_init) (List.mem_of_getElem? (i := 0) rfl)) (hts _ (hin _ wt_2)) (by decide +kernel) ⟨Nat.le_of_ble_eq_true rfl, Nat.le_of_ble_eq_true rfl⟩, rfl, hts _ (hin _ wt_33)⟩ ⟨xip_blind, fun U hU hW => ⟨rfl, fun q h => hA q (Nat.le_trans hS.1 (by rw [← hU]; exact h)), by rw [hU]; exact hX, hO, va_K.moved hW.alike hK, hG, xz_to (xz_ad (cnt := fun _ => 0) hZ ⟨fun _ _ h => absurd h (Nat.not_lt_zero _), rfl, rfl⟩) hU hW hS⟩⟩ rfl rfl hl.1 rfl (lv_room (Nat.le_of_ble_eq_true rfl)) dX11_init_9 ⟨Nat.le_of_ble_eq_true rfl, Nat.le_of_ble_eq_true rfl⟩) hS (fun ad1 H locs hT1 hq1 hX hG hO hS => ?_)
  rw [cup_lk (k := 34) (v := 0) rfl rfl] at hX hG hO
  rw [cup_lk (k := 9) (v := 0) rfl rfl] at hX hG hO
  rw [show wz wZ 34 0 = wZ from wz_id rfl rfl rfl] at hX hO
  rw [show wz wZ 9 0 = wZ from wz_id rfl rfl rfl] at hX hO
  have hX : XX D A ad1 cy (lk LQ1) ((a, .inr (10, [.null, .null, .null, .int 0, .int 0, .null, .null, .null, .null, .null, .null, .null, .int 0, .null, .null, .int 0, .int 0, .null, .null, .null])) :: Y) wZ H := hX
  have hG : XG ad1 (lk LQ1) := hG
  have hO : XD (lk LQ1) wZ := hO
  refine r_putF hx hb hts hin xk_10 hown hK hX hS (k := 0) (v := .ref b1) (by decide) rfl wt_316 rfl hin2 rfl (tyX11_ok 0 (by decide)) rfl rfl (Nat.le_of_ble_eq_true rfl) dX11_init_12 (fun H locs hX hS => ?_)
  have hX : XX D A ad1 cy (lk LQ1) ((a, .inr (10, [.ref b1, .null, .null, .int 0, .int 0, .null, .null, .null, .null, .null, .null, .null, .int 0, .null, .null, .int 0, .int 0, .null, .null, .null])) :: Y) wZ H := hX
  refine lv_aload_n hx hb dX11_init_15 rfl (lv_at hl 0 rfl) ?_
  refine r_new hx hb hts hin xk_7 hown wt_64 wt_65 wt_3 hK hX hS hA (fs := [.null, .null, .int 0, .int 0, .int 0]) (by decide +kernel) (Nat.le_of_ble_eq_true rfl) (Nat.le_of_ble_eq_true rfl) dX11_init_16 (fun b2 H hX hS => ?_)
  refine lv_dup hx hb dX11_init_19 rfl ?_
  refine ri_call (va_runIN (As := []) (rest := [.ref b2, .ref a]) (b := b2) (g := F0 m 20 ls (.ref b2 :: [.ref b2, .ref a])) (nL := 2) (host := "WinterKeep") ⟨hx, hb, hml, hown, hts⟩ (i_X8_init l D A ad1 cy (lk LQ1) ((a, .inr (10, [.ref b1, .null, .null, .int 0, .int 0, .null, .null, .null, .null, .null, .null, .null, .int 0, .null, .null, .int 0, .int 0, .null, .null, .null])) :: Y) wZ b2 rfl rfl rfl) ⟨va_cnB 0 hts (lw_okg wt_68) rfl rfl rfl (hZ.2.2.2.2 (RX11, 18, yX8_init) (List.mem_of_getElem? (i := 1) rfl)) (hts _ (hin _ wt_3)) (by decide +kernel) ⟨Nat.le_of_ble_eq_true rfl, Nat.le_of_ble_eq_true rfl⟩, rfl, hts _ (hin _ wt_67)⟩ ⟨xip_blind, fun U hU hW => ⟨rfl, fun q h => hA q (Nat.le_trans hS.1 (by rw [← hU]; exact h)), by rw [hU]; exact hX, hO, va_K.moved hW.alike hK, hG, xz_to (xz_ad (cnt := fun _ => 0) hZ ⟨fun _ _ h => absurd h (Nat.not_lt_zero _), hT1.2.1, hT1.2.2⟩) hU hW hS⟩⟩ rfl rfl hl.1 rfl (lv_room (Nat.le_of_ble_eq_true rfl)) dX11_init_20 ⟨Nat.le_of_ble_eq_true rfl, Nat.le_of_ble_eq_true rfl⟩) hS (fun ad2 H locs hT2 hq2 hX hG hO hS => ?_)
  rw [cup_lk (k := 28) (v := 0) rfl rfl] at hX hG hO
  rw [cup_lk (k := 29) (v := 0) rfl rfl] at hX hG hO
  rw [cup_lk (k := 7) (v := 0) rfl rfl] at hX hG hO
  rw [show wz wZ 28 0 = wZ from wz_id rfl rfl rfl] at hX hO
  rw [show wz wZ 29 0 = wZ from wz_id rfl rfl rfl] at hX hO
  rw [show wz wZ 7 0 = wZ from wz_id rfl rfl rfl] at hX hO
  have hX : XX D A ad2 cy (lk LQ2) ((a, .inr (10, [.ref b1, .null, .null, .int 0, .int 0, .null, .null, .null, .null, .null, .null, .null, .int 0, .null, .null, .int 0, .int 0, .null, .null, .null])) :: Y) wZ H := hX
  have hG : XG ad2 (lk LQ2) := hG
  have hO : XD (lk LQ2) wZ := hO
  refine r_putF hx hb hts hin xk_10 hown hK hX hS (k := 1) (v := .ref b2) (by decide) rfl wt_317 rfl hin2 rfl (tyX11_ok 1 (by decide)) rfl rfl (Nat.le_of_ble_eq_true rfl) dX11_init_23 (fun H locs hX hS => ?_)
  have hX : XX D A ad2 cy (lk LQ2) ((a, .inr (10, [.ref b1, .ref b2, .null, .int 0, .int 0, .null, .null, .null, .null, .null, .null, .null, .int 0, .null, .null, .int 0, .int 0, .null, .null, .null])) :: Y) wZ H := hX
  refine lv_aload_n hx hb dX11_init_26 rfl (lv_at hl 0 rfl) ?_
  refine lv_bipush (v := 6) hx hb dX11_init_27 (by decide) ?_
  refine r_newq hx hb hown (hts _ (hin _ wt_86)) (hAO5) hK hX hG hO hS hA 35 5 6 6 0 rfl rfl (by decide) rfl (by decide) (by decide) (by decide) (by decide) (Nat.le_of_ble_eq_true rfl) (Nat.le_of_ble_eq_true rfl) dX11_init_29 (fun q3 ad3 H hT3 hq3 hX hG hO hS => ?_)
  rw [cup_lk (k := 35) (v := 0) rfl rfl] at hX hG hO
  rw [show wz wZ 35 0 = wZ from wz_id rfl rfl rfl] at hX hO
  have hX : XX D A ad3 cy (lk LQ3) ((a, .inr (10, [.ref b1, .ref b2, .null, .int 0, .int 0, .null, .null, .null, .null, .null, .null, .null, .int 0, .null, .null, .int 0, .int 0, .null, .null, .null])) :: Y) wZ H := hX
  have hG : XG ad3 (lk LQ3) := hG
  have hO : XD (lk LQ3) wZ := hO
  refine r_putF hx hb hts hin xk_10 hown hK hX hS (k := 2) (v := .ref q3) (by decide) rfl wt_318 rfl hin2 rfl (tyX11_ok 2 (by decide)) rfl rfl (Nat.le_of_ble_eq_true rfl) dX11_init_32 (fun H locs hX hS => ?_)
  have hX : XX D A ad3 cy (lk LQ3) ((a, .inr (10, [.ref b1, .ref b2, .ref q3, .int 0, .int 0, .null, .null, .null, .null, .null, .null, .null, .int 0, .null, .null, .int 0, .int 0, .null, .null, .null])) :: Y) wZ H := hX
  refine lv_aload_n hx hb dX11_init_35 rfl (lv_at hl 0 rfl) ?_
  refine lv_iconst (v := 0) hx hb dX11_init_36 (by decide) ?_
  refine r_put hx hb hts hin xk_10 hown hK hX hS (k := 3) (v := .int 0) (by decide) rfl wt_319 rfl (tyX11_ok 3 (by decide)) rfl rfl (Nat.le_of_ble_eq_true rfl) dX11_init_37 (fun H locs hX hS => ?_)
  have hX : XX D A ad3 cy (lk LQ3) ((a, .inr (10, [.ref b1, .ref b2, .ref q3, .int 0, .int 0, .null, .null, .null, .null, .null, .null, .null, .int 0, .null, .null, .int 0, .int 0, .null, .null, .null])) :: Y) wZ H := hX
  refine lv_aload_n hx hb dX11_init_40 rfl (lv_at hl 0 rfl) ?_
  refine lv_iconst (v := (-1)) hx hb dX11_init_41 (by decide) ?_
  refine r_put hx hb hts hin xk_10 hown hK hX hS (k := 4) (v := .int (-1)) (by decide) rfl wt_320 rfl (tyX11_ok 4 (by decide)) rfl rfl (Nat.le_of_ble_eq_true rfl) dX11_init_42 (fun H locs hX hS => ?_)
  have hX : XX D A ad3 cy (lk LQ3) ((a, .inr (10, [.ref b1, .ref b2, .ref q3, .int 0, .int (-1), .null, .null, .null, .null, .null, .null, .null, .int 0, .null, .null, .int 0, .int 0, .null, .null, .null])) :: Y) wZ H := hX
  refine lv_aload_n hx hb dX11_init_45 rfl (lv_at hl 0 rfl) ?_
  refine r_new hx hb hts hin xk_1 hown wt_88 wt_89 wt_4 hK hX hS hA (fs := [.int 0, .int 0, .int 0, .int 0, .int 0, .int 0, .null, .null, .null, .null, .null, .null]) (by decide +kernel) (Nat.le_of_ble_eq_true rfl) (Nat.le_of_ble_eq_true rfl) dX11_init_46 (fun b4 H hX hS => ?_)
  refine lv_dup hx hb dX11_init_49 rfl ?_
  refine ri_call (va_runIN (As := []) (rest := [.ref b4, .ref a]) (b := b4) (g := F0 m 50 ls (.ref b4 :: [.ref b4, .ref a])) (nL := 2) (host := "WinterKeep") ⟨hx, hb, hml, hown, hts⟩ (i_X1_init l D A ad3 cy (lk LQ3) ((a, .inr (10, [.ref b1, .ref b2, .ref q3, .int 0, .int (-1), .null, .null, .null, .null, .null, .null, .null, .int 0, .null, .null, .int 0, .int 0, .null, .null, .null])) :: Y) wZ b4 rfl rfl rfl rfl rfl rfl) ⟨va_cnB 0 hts (lw_okg wt_92) rfl rfl rfl (hZ.2.2.2.2 (RX11, 38, yX1_init) (List.mem_of_getElem? (i := 2) rfl)) (hts _ (hin _ wt_4)) (by decide +kernel) ⟨Nat.le_of_ble_eq_true rfl, Nat.le_of_ble_eq_true rfl⟩, rfl, hts _ (hin _ wt_91)⟩ ⟨xip_blind, fun U hU hW => ⟨rfl, fun q h => hA q (Nat.le_trans hS.1 (by rw [← hU]; exact h)), by rw [hU]; exact hX, hO, va_K.moved hW.alike hK, hG, xz_to (xz_ad (cnt := fun _ => 0) hZ ⟨fun _ _ h => absurd h (Nat.not_lt_zero _), (hT3.2.1.trans (hT2.2.1.trans hT1.2.1)), (hT3.2.2.trans (hT2.2.2.trans hT1.2.2))⟩) hU hW hS⟩⟩ rfl rfl hl.1 rfl (lv_room (Nat.le_of_ble_eq_true rfl)) dX11_init_50 ⟨Nat.le_of_ble_eq_true rfl, Nat.le_of_ble_eq_true rfl⟩) hS (fun ad4 H locs hT4 hq4 hX hG hO hS => ?_)
  rw [cup_lk (k := 13) (v := 0) rfl rfl] at hX hG hO
  rw [cup_lk (k := 14) (v := 0) rfl rfl] at hX hG hO
  rw [cup_lk (k := 15) (v := 0) rfl rfl] at hX hG hO
  rw [cup_lk (k := 16) (v := 0) rfl rfl] at hX hG hO
  rw [cup_lk (k := 17) (v := 0) rfl rfl] at hX hG hO
  rw [cup_lk (k := 18) (v := 0) rfl rfl] at hX hG hO
  rw [cup_lk (k := 1) (v := 0) rfl rfl] at hX hG hO
  rw [show wz wZ 13 ((lk LQ3) 1) = wZ from wz_id rfl rfl rfl] at hX hO
  rw [show wz wZ 14 ((lk LQ3) 1) = wZ from wz_id rfl rfl rfl] at hX hO
  rw [show wz wZ 15 ((lk LQ3) 1) = wZ from wz_id rfl rfl rfl] at hX hO
  rw [show wz wZ 16 ((lk LQ3) 1) = wZ from wz_id rfl rfl rfl] at hX hO
  rw [show wz wZ 17 ((lk LQ3) 1) = wZ from wz_id rfl rfl rfl] at hX hO
  rw [show wz wZ 18 ((lk LQ3) 1) = wZ from wz_id rfl rfl rfl] at hX hO
  rw [show wz wZ 1 ((lk LQ3) 1) = wZ from wz_id rfl rfl rfl] at hX hO
  have hX : XX D A ad4 cy (lk LQ4) ((a, .inr (10, [.ref b1, .ref b2, .ref q3, .int 0, .int (-1), .null, .null, .null, .null, .null, .null, .null, .int 0, .null, .null, .int 0, .int 0, .null, .null, .null])) :: Y) wZ H := hX
  have hG : XG ad4 (lk LQ4) := hG
  have hO : XD (lk LQ4) wZ := hO
  refine r_put hx hb hts hin xk_10 hown hK hX hS (k := 5) (v := .ref b4) (by decide) rfl wt_321 rfl (tyX11_ok 5 (by decide)) rfl rfl (Nat.le_of_ble_eq_true rfl) dX11_init_53 (fun H locs hX hS => ?_)
  have hX : XX D A ad4 cy (lk LQ4) ((a, .inr (10, [.ref b1, .ref b2, .ref q3, .int 0, .int (-1), .ref b4, .null, .null, .null, .null, .null, .null, .int 0, .null, .null, .int 0, .int 0, .null, .null, .null])) :: Y) wZ H := hX
  refine lv_aload_n hx hb dX11_init_56 rfl (lv_at hl 0 rfl) ?_
  refine r_new hx hb hts hin xk_8 hown wt_167 wt_168 wt_5 hK hX hS hA (fs := [.int 0, .int 0, .null, .null, .null, .null]) (by decide +kernel) (Nat.le_of_ble_eq_true rfl) (Nat.le_of_ble_eq_true rfl) dX11_init_57 (fun b5 H hX hS => ?_)
  refine lv_dup hx hb dX11_init_60 rfl ?_
  refine ri_call (va_runIN (As := []) (rest := [.ref b5, .ref a]) (b := b5) (g := F0 m 61 ls (.ref b5 :: [.ref b5, .ref a])) (nL := 2) (host := "WinterKeep") ⟨hx, hb, hml, hown, hts⟩ (i_X9_init l D A ad4 cy (lk LQ4) ((a, .inr (10, [.ref b1, .ref b2, .ref q3, .int 0, .int (-1), .ref b4, .null, .null, .null, .null, .null, .null, .int 0, .null, .null, .int 0, .int 0, .null, .null, .null])) :: Y) wZ b5 rfl rfl rfl rfl) ⟨va_cnB 0 hts (lw_okg wt_171) rfl rfl rfl (hZ.2.2.2.2 (RX11, 45, yX9_init) (List.mem_of_getElem? (i := 3) rfl)) (hts _ (hin _ wt_5)) (by decide +kernel) ⟨Nat.le_of_ble_eq_true rfl, Nat.le_of_ble_eq_true rfl⟩, rfl, hts _ (hin _ wt_170)⟩ ⟨xip_blind, fun U hU hW => ⟨rfl, fun q h => hA q (Nat.le_trans hS.1 (by rw [← hU]; exact h)), by rw [hU]; exact hX, hO, va_K.moved hW.alike hK, hG, xz_to (xz_ad (cnt := fun _ => 0) hZ ⟨fun _ _ h => absurd h (Nat.not_lt_zero _), (hT4.2.1.trans (hT3.2.1.trans (hT2.2.1.trans hT1.2.1))), (hT4.2.2.trans (hT3.2.2.trans (hT2.2.2.trans hT1.2.2)))⟩) hU hW hS⟩⟩ rfl rfl hl.1 rfl (lv_room (Nat.le_of_ble_eq_true rfl)) dX11_init_61 ⟨Nat.le_of_ble_eq_true rfl, Nat.le_of_ble_eq_true rfl⟩) hS (fun ad5 H locs hT5 hq5 hX hG hO hS => ?_)
  rw [cup_lk (k := 30) (v := 0) rfl rfl] at hX hG hO
  rw [cup_lk (k := 31) (v := 0) rfl rfl] at hX hG hO
  rw [cup_lk (k := 32) (v := 0) rfl rfl] at hX hG hO
  rw [cup_lk (k := 33) (v := 0) rfl rfl] at hX hG hO
  rw [cup_lk (k := 8) (v := 0) rfl rfl] at hX hG hO
  rw [show wz wZ 30 ((lk LQ4) 8) = wZ from wz_id rfl rfl rfl] at hX hO
  rw [show wz wZ 31 ((lk LQ4) 8) = wZ from wz_id rfl rfl rfl] at hX hO
  rw [show wz wZ 32 ((lk LQ4) 8) = wZ from wz_id rfl rfl rfl] at hX hO
  rw [show wz wZ 33 ((lk LQ4) 8) = wZ from wz_id rfl rfl rfl] at hX hO
  rw [show wz wZ 8 ((lk LQ4) 8) = wZ from wz_id rfl rfl rfl] at hX hO
  have hX : XX D A ad5 cy (lk LQ5) ((a, .inr (10, [.ref b1, .ref b2, .ref q3, .int 0, .int (-1), .ref b4, .null, .null, .null, .null, .null, .null, .int 0, .null, .null, .int 0, .int 0, .null, .null, .null])) :: Y) wZ H := hX
  have hG : XG ad5 (lk LQ5) := hG
  have hO : XD (lk LQ5) wZ := hO
  refine r_putF hx hb hts hin xk_10 hown hK hX hS (k := 6) (v := .ref b5) (by decide) rfl wt_322 rfl hin2 rfl (tyX11_ok 6 (by decide)) rfl rfl (Nat.le_of_ble_eq_true rfl) dX11_init_64 (fun H locs hX hS => ?_)
  have hX : XX D A ad5 cy (lk LQ5) ((a, .inr (10, [.ref b1, .ref b2, .ref q3, .int 0, .int (-1), .ref b4, .ref b5, .null, .null, .null, .null, .null, .int 0, .null, .null, .int 0, .int 0, .null, .null, .null])) :: Y) wZ H := hX
  refine lv_aload_n hx hb dX11_init_67 rfl (lv_at hl 0 rfl) ?_
  refine r_new hx hb hts hin xk_8 hown wt_167 wt_168 wt_5 hK hX hS hA (fs := [.int 0, .int 0, .null, .null, .null, .null]) (by decide +kernel) (Nat.le_of_ble_eq_true rfl) (Nat.le_of_ble_eq_true rfl) dX11_init_68 (fun b6 H hX hS => ?_)
  refine lv_dup hx hb dX11_init_71 rfl ?_
  refine ri_call (va_runIN (As := []) (rest := [.ref b6, .ref a]) (b := b6) (g := F0 m 72 ls (.ref b6 :: [.ref b6, .ref a])) (nL := 2) (host := "WinterKeep") ⟨hx, hb, hml, hown, hts⟩ (i_X9_init l D A ad5 cy (lk LQ5) ((a, .inr (10, [.ref b1, .ref b2, .ref q3, .int 0, .int (-1), .ref b4, .ref b5, .null, .null, .null, .null, .null, .int 0, .null, .null, .int 0, .int 0, .null, .null, .null])) :: Y) wZ b6 rfl rfl rfl rfl) ⟨va_cnB 0 hts (lw_okg wt_171) rfl rfl rfl (hZ.2.2.2.2 (RX11, 45, yX9_init) (List.mem_of_getElem? (i := 3) rfl)) (hts _ (hin _ wt_5)) (by decide +kernel) ⟨Nat.le_of_ble_eq_true rfl, Nat.le_of_ble_eq_true rfl⟩, rfl, hts _ (hin _ wt_170)⟩ ⟨xip_blind, fun U hU hW => ⟨rfl, fun q h => hA q (Nat.le_trans hS.1 (by rw [← hU]; exact h)), by rw [hU]; exact hX, hO, va_K.moved hW.alike hK, hG, xz_to (xz_ad (cnt := fun _ => 0) hZ ⟨fun _ _ h => absurd h (Nat.not_lt_zero _), (hT5.2.1.trans (hT4.2.1.trans (hT3.2.1.trans (hT2.2.1.trans hT1.2.1)))), (hT5.2.2.trans (hT4.2.2.trans (hT3.2.2.trans (hT2.2.2.trans hT1.2.2))))⟩) hU hW hS⟩⟩ rfl rfl hl.1 rfl (lv_room (Nat.le_of_ble_eq_true rfl)) dX11_init_72 ⟨Nat.le_of_ble_eq_true rfl, Nat.le_of_ble_eq_true rfl⟩) hS (fun ad6 H locs hT6 hq6 hX hG hO hS => ?_)
  rw [cup_lk (k := 30) (v := 1) rfl rfl] at hX hG hO
  rw [cup_lk (k := 31) (v := 1) rfl rfl] at hX hG hO
  rw [cup_lk (k := 32) (v := 1) rfl rfl] at hX hG hO
  rw [cup_lk (k := 33) (v := 1) rfl rfl] at hX hG hO
  rw [cup_lk (k := 8) (v := 1) rfl rfl] at hX hG hO
  rw [show wz wZ 30 ((lk LQ5) 8) = wZ from wz_id rfl rfl rfl] at hX hO
  rw [show wz wZ 31 ((lk LQ5) 8) = wZ from wz_id rfl rfl rfl] at hX hO
  rw [show wz wZ 32 ((lk LQ5) 8) = wZ from wz_id rfl rfl rfl] at hX hO
  rw [show wz wZ 33 ((lk LQ5) 8) = wZ from wz_id rfl rfl rfl] at hX hO
  rw [show wz wZ 8 ((lk LQ5) 8) = wZ from wz_id rfl rfl rfl] at hX hO
  have hX : XX D A ad6 cy (lk LQ6) ((a, .inr (10, [.ref b1, .ref b2, .ref q3, .int 0, .int (-1), .ref b4, .ref b5, .null, .null, .null, .null, .null, .int 0, .null, .null, .int 0, .int 0, .null, .null, .null])) :: Y) wZ H := hX
  have hG : XG ad6 (lk LQ6) := hG
  have hO : XD (lk LQ6) wZ := hO
  refine r_putF hx hb hts hin xk_10 hown hK hX hS (k := 7) (v := .ref b6) (by decide) rfl wt_323 rfl hin2 rfl (tyX11_ok 7 (by decide)) rfl rfl (Nat.le_of_ble_eq_true rfl) dX11_init_75 (fun H locs hX hS => ?_)
  have hX : XX D A ad6 cy (lk LQ6) ((a, .inr (10, [.ref b1, .ref b2, .ref q3, .int 0, .int (-1), .ref b4, .ref b5, .ref b6, .null, .null, .null, .null, .int 0, .null, .null, .int 0, .int 0, .null, .null, .null])) :: Y) wZ H := hX
  refine lv_aload_n hx hb dX11_init_78 rfl (lv_at hl 0 rfl) ?_
  refine r_new hx hb hts hin xk_3 hown wt_209 wt_210 wt_6 hK hX hS hA (fs := [.null, .null, .null, .null, .null, .int 0, .int 0]) (by decide +kernel) (Nat.le_of_ble_eq_true rfl) (Nat.le_of_ble_eq_true rfl) dX11_init_79 (fun b7 H hX hS => ?_)
  refine lv_dup hx hb dX11_init_82 rfl ?_
  refine ri_call (va_runIN (As := []) (rest := [.ref b7, .ref a]) (b := b7) (g := F0 m 83 ls (.ref b7 :: [.ref b7, .ref a])) (nL := 2) (host := "WinterKeep") ⟨hx, hb, hml, hown, hts⟩ (i_X4_init l D A ad6 cy (lk LQ6) ((a, .inr (10, [.ref b1, .ref b2, .ref q3, .int 0, .int (-1), .ref b4, .ref b5, .ref b6, .null, .null, .null, .null, .int 0, .null, .null, .int 0, .int 0, .null, .null, .null])) :: Y) wZ b7 rfl rfl rfl rfl) ⟨va_cnB 0 hts (lw_okg wt_213) rfl rfl rfl (hZ.2.2.2.2 (RX11, 55, yX4_init) (List.mem_of_getElem? (i := 4) rfl)) (hts _ (hin _ wt_6)) (by decide +kernel) ⟨Nat.le_of_ble_eq_true rfl, Nat.le_of_ble_eq_true rfl⟩, rfl, hts _ (hin _ wt_212)⟩ ⟨xip_blind, fun U hU hW => ⟨rfl, fun q h => hA q (Nat.le_trans hS.1 (by rw [← hU]; exact h)), by rw [hU]; exact hX, hO, va_K.moved hW.alike hK, hG, xz_to (xz_ad (cnt := fun _ => 0) hZ ⟨fun _ _ h => absurd h (Nat.not_lt_zero _), (hT6.2.1.trans (hT5.2.1.trans (hT4.2.1.trans (hT3.2.1.trans (hT2.2.1.trans hT1.2.1))))), (hT6.2.2.trans (hT5.2.2.trans (hT4.2.2.trans (hT3.2.2.trans (hT2.2.2.trans hT1.2.2)))))⟩) hU hW hS⟩⟩ rfl rfl hl.1 rfl (lv_room (Nat.le_of_ble_eq_true rfl)) dX11_init_83 ⟨Nat.le_of_ble_eq_true rfl, Nat.le_of_ble_eq_true rfl⟩) hS (fun ad7 H locs hT7 hq7 hX hG hO hS => ?_)
  rw [cup_lk (k := 19) (v := 0) rfl rfl] at hX hG hO
  rw [cup_lk (k := 20) (v := 0) rfl rfl] at hX hG hO
  rw [cup_lk (k := 21) (v := 0) rfl rfl] at hX hG hO
  rw [cup_lk (k := 3) (v := 0) rfl rfl] at hX hG hO
  rw [show wz wZ 19 0 = wZ from wz_id rfl rfl rfl] at hX hO
  rw [show wz wZ 20 0 = wZ from wz_id rfl rfl rfl] at hX hO
  rw [show wz wZ 21 0 = wZ from wz_id rfl rfl rfl] at hX hO
  rw [show wz wZ 3 0 = wZ from wz_id rfl rfl rfl] at hX hO
  have hX : XX D A ad7 cy (lk LQ7) ((a, .inr (10, [.ref b1, .ref b2, .ref q3, .int 0, .int (-1), .ref b4, .ref b5, .ref b6, .null, .null, .null, .null, .int 0, .null, .null, .int 0, .int 0, .null, .null, .null])) :: Y) wZ H := hX
  have hG : XG ad7 (lk LQ7) := hG
  have hO : XD (lk LQ7) wZ := hO
  refine r_putF hx hb hts hin xk_10 hown hK hX hS (k := 8) (v := .ref b7) (by decide) rfl wt_324 rfl hin2 rfl (tyX11_ok 8 (by decide)) rfl rfl (Nat.le_of_ble_eq_true rfl) dX11_init_86 (fun H locs hX hS => ?_)
  have hX : XX D A ad7 cy (lk LQ7) ((a, .inr (10, [.ref b1, .ref b2, .ref q3, .int 0, .int (-1), .ref b4, .ref b5, .ref b6, .ref b7, .null, .null, .null, .int 0, .null, .null, .int 0, .int 0, .null, .null, .null])) :: Y) wZ H := hX
  refine lv_aload_n hx hb dX11_init_89 rfl (lv_at hl 0 rfl) ?_
  refine r_new hx hb hts hin xk_5 hown wt_238 wt_239 wt_7 hK hX hS hA (fs := [.null]) (by decide +kernel) (Nat.le_of_ble_eq_true rfl) (Nat.le_of_ble_eq_true rfl) dX11_init_90 (fun b8 H hX hS => ?_)
  refine lv_dup hx hb dX11_init_93 rfl ?_
  refine ri_call (va_runIN (As := []) (rest := [.ref b8, .ref a]) (b := b8) (g := F0 m 94 ls (.ref b8 :: [.ref b8, .ref a])) (nL := 2) (host := "WinterKeep") ⟨hx, hb, hml, hown, hts⟩ (i_X6_init l D A ad7 cy (lk LQ7) ((a, .inr (10, [.ref b1, .ref b2, .ref q3, .int 0, .int (-1), .ref b4, .ref b5, .ref b6, .ref b7, .null, .null, .null, .int 0, .null, .null, .int 0, .int 0, .null, .null, .null])) :: Y) wZ b8 rfl rfl) ⟨va_cnB 0 hts (lw_okg wt_242) rfl rfl rfl (hZ.2.2.2.2 (RX11, 62, yX6_init) (List.mem_of_getElem? (i := 5) rfl)) (hts _ (hin _ wt_7)) (by decide +kernel) ⟨Nat.le_of_ble_eq_true rfl, Nat.le_of_ble_eq_true rfl⟩, rfl, hts _ (hin _ wt_241)⟩ ⟨xip_blind, fun U hU hW => ⟨rfl, fun q h => hA q (Nat.le_trans hS.1 (by rw [← hU]; exact h)), by rw [hU]; exact hX, hO, va_K.moved hW.alike hK, hG, xz_to (xz_ad (cnt := fun _ => 0) hZ ⟨fun _ _ h => absurd h (Nat.not_lt_zero _), (hT7.2.1.trans (hT6.2.1.trans (hT5.2.1.trans (hT4.2.1.trans (hT3.2.1.trans (hT2.2.1.trans hT1.2.1)))))), (hT7.2.2.trans (hT6.2.2.trans (hT5.2.2.trans (hT4.2.2.trans (hT3.2.2.trans (hT2.2.2.trans hT1.2.2))))))⟩) hU hW hS⟩⟩ rfl rfl hl.1 rfl (lv_room (Nat.le_of_ble_eq_true rfl)) dX11_init_94 ⟨Nat.le_of_ble_eq_true rfl, Nat.le_of_ble_eq_true rfl⟩) hS (fun ad8 H locs hT8 hq8 hX hG hO hS => ?_)
  rw [cup_lk (k := 25) (v := 0) rfl rfl] at hX hG hO
  rw [cup_lk (k := 5) (v := 0) rfl rfl] at hX hG hO
  rw [show wz wZ 25 0 = wZ from wz_id rfl rfl rfl] at hX hO
  rw [show wz wZ 5 0 = wZ from wz_id rfl rfl rfl] at hX hO
  have hX : XX D A ad8 cy (lk LQ8) ((a, .inr (10, [.ref b1, .ref b2, .ref q3, .int 0, .int (-1), .ref b4, .ref b5, .ref b6, .ref b7, .null, .null, .null, .int 0, .null, .null, .int 0, .int 0, .null, .null, .null])) :: Y) wZ H := hX
  have hG : XG ad8 (lk LQ8) := hG
  have hO : XD (lk LQ8) wZ := hO
  refine r_putF hx hb hts hin xk_10 hown hK hX hS (k := 9) (v := .ref b8) (by decide) rfl wt_325 rfl hin2 rfl (tyX11_ok 9 (by decide)) rfl rfl (Nat.le_of_ble_eq_true rfl) dX11_init_97 (fun H locs hX hS => ?_)
  have hX : XX D A ad8 cy (lk LQ8) ((a, .inr (10, [.ref b1, .ref b2, .ref q3, .int 0, .int (-1), .ref b4, .ref b5, .ref b6, .ref b7, .ref b8, .null, .null, .int 0, .null, .null, .int 0, .int 0, .null, .null, .null])) :: Y) wZ H := hX
  refine lv_aload_n hx hb dX11_init_100 rfl (lv_at hl 0 rfl) ?_
  refine r_new hx hb hts hin xk_0 hown wt_248 wt_249 wt_8 hK hX hS hA (fs := [.null]) (by decide +kernel) (Nat.le_of_ble_eq_true rfl) (Nat.le_of_ble_eq_true rfl) dX11_init_101 (fun b9 H hX hS => ?_)
  refine lv_dup hx hb dX11_init_104 rfl ?_
  refine ri_call (va_runIN (As := []) (rest := [.ref b9, .ref a]) (b := b9) (g := F0 m 105 ls (.ref b9 :: [.ref b9, .ref a])) (nL := 2) (host := "WinterKeep") ⟨hx, hb, hml, hown, hts⟩ (i_X0_init l D A ad8 cy (lk LQ8) ((a, .inr (10, [.ref b1, .ref b2, .ref q3, .int 0, .int (-1), .ref b4, .ref b5, .ref b6, .ref b7, .ref b8, .null, .null, .int 0, .null, .null, .int 0, .int 0, .null, .null, .null])) :: Y) wZ b9 rfl rfl) ⟨va_cnB 0 hts (lw_okg wt_252) rfl rfl rfl (hZ.2.2.2.2 (RX11, 69, yX0_init) (List.mem_of_getElem? (i := 6) rfl)) (hts _ (hin _ wt_8)) (by decide +kernel) ⟨Nat.le_of_ble_eq_true rfl, Nat.le_of_ble_eq_true rfl⟩, rfl, hts _ (hin _ wt_251)⟩ ⟨xip_blind, fun U hU hW => ⟨rfl, fun q h => hA q (Nat.le_trans hS.1 (by rw [← hU]; exact h)), by rw [hU]; exact hX, hO, va_K.moved hW.alike hK, hG, xz_to (xz_ad (cnt := fun _ => 0) hZ ⟨fun _ _ h => absurd h (Nat.not_lt_zero _), (hT8.2.1.trans (hT7.2.1.trans (hT6.2.1.trans (hT5.2.1.trans (hT4.2.1.trans (hT3.2.1.trans (hT2.2.1.trans hT1.2.1))))))), (hT8.2.2.trans (hT7.2.2.trans (hT6.2.2.trans (hT5.2.2.trans (hT4.2.2.trans (hT3.2.2.trans (hT2.2.2.trans hT1.2.2)))))))⟩) hU hW hS⟩⟩ rfl rfl hl.1 rfl (lv_room (Nat.le_of_ble_eq_true rfl)) dX11_init_105 ⟨Nat.le_of_ble_eq_true rfl, Nat.le_of_ble_eq_true rfl⟩) hS (fun ad9 H locs hT9 hq9 hX hG hO hS => ?_)
  rw [cup_lk (k := 12) (v := 0) rfl rfl] at hX hG hO
  rw [cup_lk (k := 0) (v := 0) rfl rfl] at hX hG hO
  rw [show wz wZ 12 0 = wZ from wz_id rfl rfl rfl] at hX hO
  rw [show wz wZ 0 0 = wZ from wz_id rfl rfl rfl] at hX hO
  have hX : XX D A ad9 cy (lk LQ9) ((a, .inr (10, [.ref b1, .ref b2, .ref q3, .int 0, .int (-1), .ref b4, .ref b5, .ref b6, .ref b7, .ref b8, .null, .null, .int 0, .null, .null, .int 0, .int 0, .null, .null, .null])) :: Y) wZ H := hX
  have hG : XG ad9 (lk LQ9) := hG
  have hO : XD (lk LQ9) wZ := hO
  refine r_putF hx hb hts hin xk_10 hown hK hX hS (k := 10) (v := .ref b9) (by decide) rfl wt_326 rfl hin2 rfl (tyX11_ok 10 (by decide)) rfl rfl (Nat.le_of_ble_eq_true rfl) dX11_init_108 (fun H locs hX hS => ?_)
  have hX : XX D A ad9 cy (lk LQ9) ((a, .inr (10, [.ref b1, .ref b2, .ref q3, .int 0, .int (-1), .ref b4, .ref b5, .ref b6, .ref b7, .ref b8, .ref b9, .null, .int 0, .null, .null, .int 0, .int 0, .null, .null, .null])) :: Y) wZ H := hX
  refine lv_aload_n hx hb dX11_init_111 rfl (lv_at hl 0 rfl) ?_
  refine r_new hx hb hts hin xk_4 hown wt_259 wt_260 wt_9 hK hX hS hA (fs := [.int 0, .null, .null, .null]) (by decide +kernel) (Nat.le_of_ble_eq_true rfl) (Nat.le_of_ble_eq_true rfl) dX11_init_112 (fun b10 H hX hS => ?_)
  refine lv_dup hx hb dX11_init_115 rfl ?_
  refine ri_call (va_runIN (As := []) (rest := [.ref b10, .ref a]) (b := b10) (g := F0 m 116 ls (.ref b10 :: [.ref b10, .ref a])) (nL := 2) (host := "WinterKeep") ⟨hx, hb, hml, hown, hts⟩ (i_X5_init l D A ad9 cy (lk LQ9) ((a, .inr (10, [.ref b1, .ref b2, .ref q3, .int 0, .int (-1), .ref b4, .ref b5, .ref b6, .ref b7, .ref b8, .ref b9, .null, .int 0, .null, .null, .int 0, .int 0, .null, .null, .null])) :: Y) wZ b10 rfl rfl rfl) ⟨va_cnB 0 hts (lw_okg wt_263) rfl rfl rfl (hZ.2.2.2.2 (RX11, 76, yX5_init) (List.mem_of_getElem? (i := 7) rfl)) (hts _ (hin _ wt_9)) (by decide +kernel) ⟨Nat.le_of_ble_eq_true rfl, Nat.le_of_ble_eq_true rfl⟩, rfl, hts _ (hin _ wt_262)⟩ ⟨xip_blind, fun U hU hW => ⟨rfl, fun q h => hA q (Nat.le_trans hS.1 (by rw [← hU]; exact h)), by rw [hU]; exact hX, hO, va_K.moved hW.alike hK, hG, xz_to (xz_ad (cnt := fun _ => 0) hZ ⟨fun _ _ h => absurd h (Nat.not_lt_zero _), (hT9.2.1.trans (hT8.2.1.trans (hT7.2.1.trans (hT6.2.1.trans (hT5.2.1.trans (hT4.2.1.trans (hT3.2.1.trans (hT2.2.1.trans hT1.2.1)))))))), (hT9.2.2.trans (hT8.2.2.trans (hT7.2.2.trans (hT6.2.2.trans (hT5.2.2.trans (hT4.2.2.trans (hT3.2.2.trans (hT2.2.2.trans hT1.2.2))))))))⟩) hU hW hS⟩⟩ rfl rfl hl.1 rfl (lv_room (Nat.le_of_ble_eq_true rfl)) dX11_init_116 ⟨Nat.le_of_ble_eq_true rfl, Nat.le_of_ble_eq_true rfl⟩) hS (fun ad10 H locs hT10 hq10 hX hG hO hS => ?_)
  rw [cup_lk (k := 22) (v := 0) rfl rfl] at hX hG hO
  rw [cup_lk (k := 23) (v := 0) rfl rfl] at hX hG hO
  rw [cup_lk (k := 24) (v := 0) rfl rfl] at hX hG hO
  rw [cup_lk (k := 4) (v := 0) rfl rfl] at hX hG hO
  rw [show wz wZ 22 ((lk LQ9) 4) = wZ from wz_id rfl rfl rfl] at hX hO
  rw [show wz wZ 23 ((lk LQ9) 4) = wZ from wz_id rfl rfl rfl] at hX hO
  rw [show wz wZ 24 ((lk LQ9) 4) = wZ from wz_id rfl rfl rfl] at hX hO
  rw [show wz wZ 4 ((lk LQ9) 4) = wZ from wz_id rfl rfl rfl] at hX hO
  have hX : XX D A ad10 cy (lk LQ10) ((a, .inr (10, [.ref b1, .ref b2, .ref q3, .int 0, .int (-1), .ref b4, .ref b5, .ref b6, .ref b7, .ref b8, .ref b9, .null, .int 0, .null, .null, .int 0, .int 0, .null, .null, .null])) :: Y) wZ H := hX
  have hG : XG ad10 (lk LQ10) := hG
  have hO : XD (lk LQ10) wZ := hO
  refine r_putF hx hb hts hin xk_10 hown hK hX hS (k := 11) (v := .ref b10) (by decide) rfl wt_327 rfl hin2 rfl (tyX11_ok 11 (by decide)) rfl rfl (Nat.le_of_ble_eq_true rfl) dX11_init_119 (fun H locs hX hS => ?_)
  have hX : XX D A ad10 cy (lk LQ10) ((a, .inr (10, [.ref b1, .ref b2, .ref q3, .int 0, .int (-1), .ref b4, .ref b5, .ref b6, .ref b7, .ref b8, .ref b9, .ref b10, .int 0, .null, .null, .int 0, .int 0, .null, .null, .null])) :: Y) wZ H := hX
  refine lv_aload_n hx hb dX11_init_122 rfl (lv_at hl 0 rfl) ?_
  refine lv_iconst (v := 0) hx hb dX11_init_123 (by decide) ?_
  refine r_put hx hb hts hin xk_10 hown hK hX hS (k := 12) (v := .int 0) (by decide) rfl wt_328 rfl (tyX11_ok 12 (by decide)) rfl rfl (Nat.le_of_ble_eq_true rfl) dX11_init_124 (fun H locs hX hS => ?_)
  have hX : XX D A ad10 cy (lk LQ10) ((a, .inr (10, [.ref b1, .ref b2, .ref q3, .int 0, .int (-1), .ref b4, .ref b5, .ref b6, .ref b7, .ref b8, .ref b9, .ref b10, .int 0, .null, .null, .int 0, .int 0, .null, .null, .null])) :: Y) wZ H := hX
  refine lv_aload_n hx hb dX11_init_127 rfl (lv_at hl 0 rfl) ?_
  refine lv_iconst (v := 4) hx hb dX11_init_128 (by decide) ?_
  refine r_newq hx hb hown (hts _ (hin _ wt_279)) (hAO4) hK hX hG hO hS hA 36 4 4 2 0 rfl rfl (by decide) rfl (by decide) (by decide) (by decide) (by decide) (Nat.le_of_ble_eq_true rfl) (Nat.le_of_ble_eq_true rfl) dX11_init_129 (fun q11 ad11 H hT11 hq11 hX hG hO hS => ?_)
  rw [cup_lk (k := 36) (v := 0) rfl rfl] at hX hG hO
  rw [show wz wZ 36 0 = wZ from wz_id rfl rfl rfl] at hX hO
  have hX : XX D A ad11 cy (lk LQ11) ((a, .inr (10, [.ref b1, .ref b2, .ref q3, .int 0, .int (-1), .ref b4, .ref b5, .ref b6, .ref b7, .ref b8, .ref b9, .ref b10, .int 0, .null, .null, .int 0, .int 0, .null, .null, .null])) :: Y) wZ H := hX
  have hG : XG ad11 (lk LQ11) := hG
  have hO : XD (lk LQ11) wZ := hO
  refine r_putF hx hb hts hin xk_10 hown hK hX hS (k := 13) (v := .ref q11) (by decide) rfl wt_329 rfl hin2 rfl (tyX11_ok 13 (by decide)) rfl rfl (Nat.le_of_ble_eq_true rfl) dX11_init_132 (fun H locs hX hS => ?_)
  have hX : XX D A ad11 cy (lk LQ11) ((a, .inr (10, [.ref b1, .ref b2, .ref q3, .int 0, .int (-1), .ref b4, .ref b5, .ref b6, .ref b7, .ref b8, .ref b9, .ref b10, .int 0, .ref q11, .null, .int 0, .int 0, .null, .null, .null])) :: Y) wZ H := hX
  refine lv_aload_n hx hb dX11_init_135 rfl (lv_at hl 0 rfl) ?_
  refine lv_bipush (v := 20) hx hb dX11_init_136 (by decide) ?_
  refine r_newq hx hb hown (hts _ (hin _ wt_167)) (hAO6) hK hX hG hO hS hA 37 6 20 8 0 rfl rfl (by decide) rfl (by decide) (by decide) (by decide) (by decide) (Nat.le_of_ble_eq_true rfl) (Nat.le_of_ble_eq_true rfl) dX11_init_138 (fun q12 ad12 H hT12 hq12 hX hG hO hS => ?_)
  rw [cup_lk (k := 37) (v := 0) rfl rfl] at hX hG hO
  rw [show wz wZ 37 0 = wZ from wz_id rfl rfl rfl] at hX hO
  have hX : XX D A ad12 cy (lk LQ12) ((a, .inr (10, [.ref b1, .ref b2, .ref q3, .int 0, .int (-1), .ref b4, .ref b5, .ref b6, .ref b7, .ref b8, .ref b9, .ref b10, .int 0, .ref q11, .null, .int 0, .int 0, .null, .null, .null])) :: Y) wZ H := hX
  have hG : XG ad12 (lk LQ12) := hG
  have hO : XD (lk LQ12) wZ := hO
  refine r_putF hx hb hts hin xk_10 hown hK hX hS (k := 14) (v := .ref q12) (by decide) rfl wt_330 rfl hin2 rfl (tyX11_ok 14 (by decide)) rfl rfl (Nat.le_of_ble_eq_true rfl) dX11_init_141 (fun H locs hX hS => ?_)
  have hX : XX D A ad12 cy (lk LQ12) ((a, .inr (10, [.ref b1, .ref b2, .ref q3, .int 0, .int (-1), .ref b4, .ref b5, .ref b6, .ref b7, .ref b8, .ref b9, .ref b10, .int 0, .ref q11, .ref q12, .int 0, .int 0, .null, .null, .null])) :: Y) wZ H := hX
  refine lv_aload_n hx hb dX11_init_144 rfl (lv_at hl 0 rfl) ?_
  refine lv_iconst (v := 0) hx hb dX11_init_145 (by decide) ?_
  refine r_put hx hb hts hin xk_10 hown hK hX hS (k := 15) (v := .int 0) (by decide) rfl wt_331 rfl (tyX11_ok 15 (by decide)) rfl rfl (Nat.le_of_ble_eq_true rfl) dX11_init_146 (fun H locs hX hS => ?_)
  have hX : XX D A ad12 cy (lk LQ12) ((a, .inr (10, [.ref b1, .ref b2, .ref q3, .int 0, .int (-1), .ref b4, .ref b5, .ref b6, .ref b7, .ref b8, .ref b9, .ref b10, .int 0, .ref q11, .ref q12, .int 0, .int 0, .null, .null, .null])) :: Y) wZ H := hX
  refine lv_aload_n hx hb dX11_init_149 rfl (lv_at hl 0 rfl) ?_
  refine lv_iconst (v := 0) hx hb dX11_init_150 (by decide) ?_
  refine r_put hx hb hts hin xk_10 hown hK hX hS (k := 16) (v := .int 0) (by decide) rfl wt_332 rfl (tyX11_ok 16 (by decide)) rfl rfl (Nat.le_of_ble_eq_true rfl) dX11_init_151 (fun H locs hX hS => ?_)
  have hX : XX D A ad12 cy (lk LQ12) ((a, .inr (10, [.ref b1, .ref b2, .ref q3, .int 0, .int (-1), .ref b4, .ref b5, .ref b6, .ref b7, .ref b8, .ref b9, .ref b10, .int 0, .ref q11, .ref q12, .int 0, .int 0, .null, .null, .null])) :: Y) wZ H := hX
  refine lv_aload_n hx hb dX11_init_154 rfl (lv_at hl 0 rfl) ?_
  refine lv_bipush (v := 122) hx hb dX11_init_155 (by decide) ?_
  refine r_newaJ hx hb (hts _ (hin _ wt_237)) hK hX hG hO hS hA 38 122 0 rfl rfl (by decide) (by decide) (by decide) (by decide) (Nat.le_of_ble_eq_true rfl) (Nat.le_of_ble_eq_true rfl) dX11_init_157 (fun q13 ad13 H hT13 hq13 hX hG hO hS => ?_)
  rw [cup_lk (k := 38) (v := 0) rfl rfl] at hX hG hO
  rw [show wz wZ 38 0 = wZ from wz_id rfl rfl rfl] at hX hO
  have hX : XX D A ad13 cy (lk LQ13) ((a, .inr (10, [.ref b1, .ref b2, .ref q3, .int 0, .int (-1), .ref b4, .ref b5, .ref b6, .ref b7, .ref b8, .ref b9, .ref b10, .int 0, .ref q11, .ref q12, .int 0, .int 0, .null, .null, .null])) :: Y) wZ H := hX
  have hG : XG ad13 (lk LQ13) := hG
  have hO : XD (lk LQ13) wZ := hO
  refine r_putF hx hb hts hin xk_10 hown hK hX hS (k := 17) (v := .ref q13) (by decide) rfl wt_333 rfl hin2 rfl (tyX11_ok 17 (by decide)) rfl rfl (Nat.le_of_ble_eq_true rfl) dX11_init_159 (fun H locs hX hS => ?_)
  have hX : XX D A ad13 cy (lk LQ13) ((a, .inr (10, [.ref b1, .ref b2, .ref q3, .int 0, .int (-1), .ref b4, .ref b5, .ref b6, .ref b7, .ref b8, .ref b9, .ref b10, .int 0, .ref q11, .ref q12, .int 0, .int 0, .ref q13, .null, .null])) :: Y) wZ H := hX
  refine lv_aload_n hx hb dX11_init_162 rfl (lv_at hl 0 rfl) ?_
  refine lv_bipush (v := 32) hx hb dX11_init_163 (by decide) ?_
  refine r_newaI hx hb (hts _ (hin _ wt_63)) hK hX hG hO hS hA 39 32 0 rfl rfl (by decide) (by decide) (by decide) (by decide) (Nat.le_of_ble_eq_true rfl) (Nat.le_of_ble_eq_true rfl) dX11_init_165 (fun q14 ad14 H hT14 hq14 hX hG hO hS => ?_)
  rw [cup_lk (k := 39) (v := 0) rfl rfl] at hX hG hO
  rw [show wz wZ 39 0 = wZ from wz_id rfl rfl rfl] at hX hO
  have hX : XX D A ad14 cy (lk LQ14) ((a, .inr (10, [.ref b1, .ref b2, .ref q3, .int 0, .int (-1), .ref b4, .ref b5, .ref b6, .ref b7, .ref b8, .ref b9, .ref b10, .int 0, .ref q11, .ref q12, .int 0, .int 0, .ref q13, .null, .null])) :: Y) wZ H := hX
  have hG : XG ad14 (lk LQ14) := hG
  have hO : XD (lk LQ14) wZ := hO
  refine r_putF hx hb hts hin xk_10 hown hK hX hS (k := 18) (v := .ref q14) (by decide) rfl wt_334 rfl hin2 rfl (tyX11_ok 18 (by decide)) rfl rfl (Nat.le_of_ble_eq_true rfl) dX11_init_167 (fun H locs hX hS => ?_)
  have hX : XX D A ad14 cy (lk LQ14) ((a, .inr (10, [.ref b1, .ref b2, .ref q3, .int 0, .int (-1), .ref b4, .ref b5, .ref b6, .ref b7, .ref b8, .ref b9, .ref b10, .int 0, .ref q11, .ref q12, .int 0, .int 0, .ref q13, .ref q14, .null])) :: Y) wZ H := hX
  refine lv_aload_n hx hb dX11_init_170 rfl (lv_at hl 0 rfl) ?_
  refine lv_bipush (v := 42) hx hb dX11_init_171 (by decide) ?_
  refine r_newaI hx hb (hts _ (hin _ wt_63)) hK hX hG hO hS hA 40 42 0 rfl rfl (by decide) (by decide) (by decide) (by decide) (Nat.le_of_ble_eq_true rfl) (Nat.le_of_ble_eq_true rfl) dX11_init_173 (fun q15 ad15 H hT15 hq15 hX hG hO hS => ?_)
  rw [cup_lk (k := 40) (v := 0) rfl rfl] at hX hG hO
  rw [show wz wZ 40 0 = wZ from wz_id rfl rfl rfl] at hX hO
  have hX : XX D A ad15 cy (lk LQ15) ((a, .inr (10, [.ref b1, .ref b2, .ref q3, .int 0, .int (-1), .ref b4, .ref b5, .ref b6, .ref b7, .ref b8, .ref b9, .ref b10, .int 0, .ref q11, .ref q12, .int 0, .int 0, .ref q13, .ref q14, .null])) :: Y) wZ H := hX
  have hG : XG ad15 (lk LQ15) := hG
  have hO : XD (lk LQ15) wZ := hO
  refine r_putF hx hb hts hin xk_10 hown hK hX hS (k := 19) (v := .ref q15) (by decide) rfl wt_335 rfl hin2 rfl (tyX11_ok 19 (by decide)) rfl rfl (Nat.le_of_ble_eq_true rfl) dX11_init_175 (fun H locs hX hS => ?_)
  have hX : XX D A ad15 cy (lk LQ15) ((a, .inr (10, [.ref b1, .ref b2, .ref q3, .int 0, .int (-1), .ref b4, .ref b5, .ref b6, .ref b7, .ref b8, .ref b9, .ref b10, .int 0, .ref q11, .ref q12, .int 0, .int 0, .ref q13, .ref q14, .ref q15])) :: Y) wZ H := hX
  have qq1 : ad15 9 0 = b1 := ((hT15.1 9 0 (show 0 < lk LQ14 9 by decide +kernel)).trans ((hT14.1 9 0 (show 0 < lk LQ13 9 by decide +kernel)).trans ((hT13.1 9 0 (show 0 < lk LQ12 9 by decide +kernel)).trans ((hT12.1 9 0 (show 0 < lk LQ11 9 by decide +kernel)).trans ((hT11.1 9 0 (show 0 < lk LQ10 9 by decide +kernel)).trans ((hT10.1 9 0 (show 0 < lk LQ9 9 by decide +kernel)).trans ((hT9.1 9 0 (show 0 < lk LQ8 9 by decide +kernel)).trans ((hT8.1 9 0 (show 0 < lk LQ7 9 by decide +kernel)).trans ((hT7.1 9 0 (show 0 < lk LQ6 9 by decide +kernel)).trans ((hT6.1 9 0 (show 0 < lk LQ5 9 by decide +kernel)).trans ((hT5.1 9 0 (show 0 < lk LQ4 9 by decide +kernel)).trans ((hT4.1 9 0 (show 0 < lk LQ3 9 by decide +kernel)).trans ((hT3.1 9 0 (show 0 < lk LQ2 9 by decide +kernel)).trans ((hT2.1 9 0 (show 0 < lk LQ1 9 by decide +kernel)).trans hq1))))))))))))))
  have qq2 : ad15 7 0 = b2 := ((hT15.1 7 0 (show 0 < lk LQ14 7 by decide +kernel)).trans ((hT14.1 7 0 (show 0 < lk LQ13 7 by decide +kernel)).trans ((hT13.1 7 0 (show 0 < lk LQ12 7 by decide +kernel)).trans ((hT12.1 7 0 (show 0 < lk LQ11 7 by decide +kernel)).trans ((hT11.1 7 0 (show 0 < lk LQ10 7 by decide +kernel)).trans ((hT10.1 7 0 (show 0 < lk LQ9 7 by decide +kernel)).trans ((hT9.1 7 0 (show 0 < lk LQ8 7 by decide +kernel)).trans ((hT8.1 7 0 (show 0 < lk LQ7 7 by decide +kernel)).trans ((hT7.1 7 0 (show 0 < lk LQ6 7 by decide +kernel)).trans ((hT6.1 7 0 (show 0 < lk LQ5 7 by decide +kernel)).trans ((hT5.1 7 0 (show 0 < lk LQ4 7 by decide +kernel)).trans ((hT4.1 7 0 (show 0 < lk LQ3 7 by decide +kernel)).trans ((hT3.1 7 0 (show 0 < lk LQ2 7 by decide +kernel)).trans hq2)))))))))))))
  have qq3 : ad15 35 0 = q3 := ((hT15.1 35 0 (show 0 < lk LQ14 35 by decide +kernel)).trans ((hT14.1 35 0 (show 0 < lk LQ13 35 by decide +kernel)).trans ((hT13.1 35 0 (show 0 < lk LQ12 35 by decide +kernel)).trans ((hT12.1 35 0 (show 0 < lk LQ11 35 by decide +kernel)).trans ((hT11.1 35 0 (show 0 < lk LQ10 35 by decide +kernel)).trans ((hT10.1 35 0 (show 0 < lk LQ9 35 by decide +kernel)).trans ((hT9.1 35 0 (show 0 < lk LQ8 35 by decide +kernel)).trans ((hT8.1 35 0 (show 0 < lk LQ7 35 by decide +kernel)).trans ((hT7.1 35 0 (show 0 < lk LQ6 35 by decide +kernel)).trans ((hT6.1 35 0 (show 0 < lk LQ5 35 by decide +kernel)).trans ((hT5.1 35 0 (show 0 < lk LQ4 35 by decide +kernel)).trans ((hT4.1 35 0 (show 0 < lk LQ3 35 by decide +kernel)).trans hq3))))))))))))
  have qq4 : ad15 1 0 = b4 := ((hT15.1 1 0 (show 0 < lk LQ14 1 by decide +kernel)).trans ((hT14.1 1 0 (show 0 < lk LQ13 1 by decide +kernel)).trans ((hT13.1 1 0 (show 0 < lk LQ12 1 by decide +kernel)).trans ((hT12.1 1 0 (show 0 < lk LQ11 1 by decide +kernel)).trans ((hT11.1 1 0 (show 0 < lk LQ10 1 by decide +kernel)).trans ((hT10.1 1 0 (show 0 < lk LQ9 1 by decide +kernel)).trans ((hT9.1 1 0 (show 0 < lk LQ8 1 by decide +kernel)).trans ((hT8.1 1 0 (show 0 < lk LQ7 1 by decide +kernel)).trans ((hT7.1 1 0 (show 0 < lk LQ6 1 by decide +kernel)).trans ((hT6.1 1 0 (show 0 < lk LQ5 1 by decide +kernel)).trans ((hT5.1 1 0 (show 0 < lk LQ4 1 by decide +kernel)).trans hq4)))))))))))
  have qq5 : ad15 8 0 = b5 := ((hT15.1 8 0 (show 0 < lk LQ14 8 by decide +kernel)).trans ((hT14.1 8 0 (show 0 < lk LQ13 8 by decide +kernel)).trans ((hT13.1 8 0 (show 0 < lk LQ12 8 by decide +kernel)).trans ((hT12.1 8 0 (show 0 < lk LQ11 8 by decide +kernel)).trans ((hT11.1 8 0 (show 0 < lk LQ10 8 by decide +kernel)).trans ((hT10.1 8 0 (show 0 < lk LQ9 8 by decide +kernel)).trans ((hT9.1 8 0 (show 0 < lk LQ8 8 by decide +kernel)).trans ((hT8.1 8 0 (show 0 < lk LQ7 8 by decide +kernel)).trans ((hT7.1 8 0 (show 0 < lk LQ6 8 by decide +kernel)).trans ((hT6.1 8 0 (show 0 < lk LQ5 8 by decide +kernel)).trans hq5))))))))))
  have qq6 : ad15 8 1 = b6 := ((hT15.1 8 1 (show 1 < lk LQ14 8 by decide +kernel)).trans ((hT14.1 8 1 (show 1 < lk LQ13 8 by decide +kernel)).trans ((hT13.1 8 1 (show 1 < lk LQ12 8 by decide +kernel)).trans ((hT12.1 8 1 (show 1 < lk LQ11 8 by decide +kernel)).trans ((hT11.1 8 1 (show 1 < lk LQ10 8 by decide +kernel)).trans ((hT10.1 8 1 (show 1 < lk LQ9 8 by decide +kernel)).trans ((hT9.1 8 1 (show 1 < lk LQ8 8 by decide +kernel)).trans ((hT8.1 8 1 (show 1 < lk LQ7 8 by decide +kernel)).trans ((hT7.1 8 1 (show 1 < lk LQ6 8 by decide +kernel)).trans hq6)))))))))
  have qq7 : ad15 3 0 = b7 := ((hT15.1 3 0 (show 0 < lk LQ14 3 by decide +kernel)).trans ((hT14.1 3 0 (show 0 < lk LQ13 3 by decide +kernel)).trans ((hT13.1 3 0 (show 0 < lk LQ12 3 by decide +kernel)).trans ((hT12.1 3 0 (show 0 < lk LQ11 3 by decide +kernel)).trans ((hT11.1 3 0 (show 0 < lk LQ10 3 by decide +kernel)).trans ((hT10.1 3 0 (show 0 < lk LQ9 3 by decide +kernel)).trans ((hT9.1 3 0 (show 0 < lk LQ8 3 by decide +kernel)).trans ((hT8.1 3 0 (show 0 < lk LQ7 3 by decide +kernel)).trans hq7))))))))
  have qq8 : ad15 5 0 = b8 := ((hT15.1 5 0 (show 0 < lk LQ14 5 by decide +kernel)).trans ((hT14.1 5 0 (show 0 < lk LQ13 5 by decide +kernel)).trans ((hT13.1 5 0 (show 0 < lk LQ12 5 by decide +kernel)).trans ((hT12.1 5 0 (show 0 < lk LQ11 5 by decide +kernel)).trans ((hT11.1 5 0 (show 0 < lk LQ10 5 by decide +kernel)).trans ((hT10.1 5 0 (show 0 < lk LQ9 5 by decide +kernel)).trans ((hT9.1 5 0 (show 0 < lk LQ8 5 by decide +kernel)).trans hq8)))))))
  have qq9 : ad15 0 0 = b9 := ((hT15.1 0 0 (show 0 < lk LQ14 0 by decide +kernel)).trans ((hT14.1 0 0 (show 0 < lk LQ13 0 by decide +kernel)).trans ((hT13.1 0 0 (show 0 < lk LQ12 0 by decide +kernel)).trans ((hT12.1 0 0 (show 0 < lk LQ11 0 by decide +kernel)).trans ((hT11.1 0 0 (show 0 < lk LQ10 0 by decide +kernel)).trans ((hT10.1 0 0 (show 0 < lk LQ9 0 by decide +kernel)).trans hq9))))))
  have qq10 : ad15 4 0 = b10 := ((hT15.1 4 0 (show 0 < lk LQ14 4 by decide +kernel)).trans ((hT14.1 4 0 (show 0 < lk LQ13 4 by decide +kernel)).trans ((hT13.1 4 0 (show 0 < lk LQ12 4 by decide +kernel)).trans ((hT12.1 4 0 (show 0 < lk LQ11 4 by decide +kernel)).trans ((hT11.1 4 0 (show 0 < lk LQ10 4 by decide +kernel)).trans hq10)))))
  have qq11 : ad15 36 0 = q11 := ((hT15.1 36 0 (show 0 < lk LQ14 36 by decide +kernel)).trans ((hT14.1 36 0 (show 0 < lk LQ13 36 by decide +kernel)).trans ((hT13.1 36 0 (show 0 < lk LQ12 36 by decide +kernel)).trans ((hT12.1 36 0 (show 0 < lk LQ11 36 by decide +kernel)).trans hq11))))
  have qq12 : ad15 37 0 = q12 := ((hT15.1 37 0 (show 0 < lk LQ14 37 by decide +kernel)).trans ((hT14.1 37 0 (show 0 < lk LQ13 37 by decide +kernel)).trans ((hT13.1 37 0 (show 0 < lk LQ12 37 by decide +kernel)).trans hq12)))
  have qq13 : ad15 38 0 = q13 := ((hT15.1 38 0 (show 0 < lk LQ14 38 by decide +kernel)).trans ((hT14.1 38 0 (show 0 < lk LQ13 38 by decide +kernel)).trans hq13))
  have qq14 : ad15 39 0 = q14 := ((hT15.1 39 0 (show 0 < lk LQ14 39 by decide +kernel)).trans hq14)
  have qq15 : ad15 40 0 = q15 := hq15
  obtain ⟨hX1, hfr⟩ := xx_sealn (κ := 10) (n0 := 0) (w' := (sR (sI wZ 10 0 4 (-1)) 10 0 5 (some 0))) (cnt := (lk LQ15)) rfl hG hO hX (by
      rw [xcell_o (by decide)]
      generalize hwv : (sR (sI wZ 10 0 4 (-1)) 10 0 5 (some 0)) = wv
      generalize hav : adup ad15 10 0 a = av
      refine congrArg (fun z => Sum.inr (10, z)) ?_
      show ([.ref b1, .ref b2, .ref q3, .int 0, .int (-1), .ref b4, .ref b5, .ref b6, .ref b7, .ref b8, .ref b9, .ref b10, .int 0, .ref q11, .ref q12, .int 0, .int 0, .ref q13, .ref q14, .ref q15] : List Value) = [.ref (av 9 0), .ref (av 7 0), .ref (av 35 0), .int (gI wv 10 0 3), .int (gI wv 10 0 4), va_rf ((gR wv 10 0 5).map (av 1)), .ref (av 8 0), .ref (av 8 1), .ref (av 3 0), .ref (av 5 0), .ref (av 0 0), .ref (av 4 0), .int (gI wv 10 0 12), .ref (av 36 0), .ref (av 37 0), .int (gI wv 10 0 15), .int (gI wv 10 0 16), .ref (av 38 0), .ref (av 39 0), .ref (av 40 0)]
      have ev1 : av 9 0 = b1 := by rw [← hav]; exact (adup_ne (fun h => absurd h.1 (by decide))).trans qq1
      have ev2 : av 7 0 = b2 := by rw [← hav]; exact (adup_ne (fun h => absurd h.1 (by decide))).trans qq2
      have ev3 : av 35 0 = q3 := by rw [← hav]; exact (adup_ne (fun h => absurd h.1 (by decide))).trans qq3
      have ev4 : av 1 0 = b4 := by rw [← hav]; exact (adup_ne (fun h => absurd h.1 (by decide))).trans qq4
      have ev5 : av 8 0 = b5 := by rw [← hav]; exact (adup_ne (fun h => absurd h.1 (by decide))).trans qq5
      have ev6 : av 8 1 = b6 := by rw [← hav]; exact (adup_ne (fun h => absurd h.1 (by decide))).trans qq6
      have ev7 : av 3 0 = b7 := by rw [← hav]; exact (adup_ne (fun h => absurd h.1 (by decide))).trans qq7
      have ev8 : av 5 0 = b8 := by rw [← hav]; exact (adup_ne (fun h => absurd h.1 (by decide))).trans qq8
      have ev9 : av 0 0 = b9 := by rw [← hav]; exact (adup_ne (fun h => absurd h.1 (by decide))).trans qq9
      have ev10 : av 4 0 = b10 := by rw [← hav]; exact (adup_ne (fun h => absurd h.1 (by decide))).trans qq10
      have ev11 : av 36 0 = q11 := by rw [← hav]; exact (adup_ne (fun h => absurd h.1 (by decide))).trans qq11
      have ev12 : av 37 0 = q12 := by rw [← hav]; exact (adup_ne (fun h => absurd h.1 (by decide))).trans qq12
      have ev13 : av 38 0 = q13 := by rw [← hav]; exact (adup_ne (fun h => absurd h.1 (by decide))).trans qq13
      have ev14 : av 39 0 = q14 := by rw [← hav]; exact (adup_ne (fun h => absurd h.1 (by decide))).trans qq14
      have ev15 : av 40 0 = q15 := by rw [← hav]; exact (adup_ne (fun h => absurd h.1 (by decide))).trans qq15
      have hI3 : gI wv 10 0 3 = 0 := by rw [← hwv]; rfl
      have hI4 : gI wv 10 0 4 = (-1) := by rw [← hwv]; rfl
      have hI12 : gI wv 10 0 12 = 0 := by rw [← hwv]; rfl
      have hI15 : gI wv 10 0 15 = 0 := by rw [← hwv]; rfl
      have hI16 : gI wv 10 0 16 = 0 := by rw [← hwv]; rfl
      have hR5 : gR wv 10 0 5 = some 0 := by rw [← hwv]; rfl
      simp only [ev1, ev2, ev3, ev4, ev5, ev6, ev7, ev8, ev9, ev10, ev11, ev12, ev13, ev14, ev15, hI3, hI4, hI12, hI15, hI16, hR5, Option.map_some, Option.map_none]
      try rfl) (fun κ' i' h => by
        have hne : ¬ (κ' = 10 ∧ i' = 0) := fun z => by rw [z.1, z.2] at h; exact absurd h (by decide)
        refine ⟨?_, rfl, ?_, rfl⟩
        · first | rfl | (rw [gI_sI_ne hne]) | (rw [gI_sI_ne hne, gI_sI_ne hne]) | (simp only [gI_sR]; first | rfl | rw [gI_sI_ne hne] | rw [gI_sI_ne hne, gI_sI_ne hne])
        · first | rfl | (rw [gR_sR_ne hne]; rfl))
  have hG1 : XG (adup ad15 10 0 a) (cup (lk LQ15) 10) := xg_cup (κ := 10) (q := a) (cnt := (lk LQ15)) hG (by decide) hfr (fun k c0 h1 h2 => by
    have hm : c0 ∈ ((xcl[10]?).getD []) := List.mem_of_getElem? (xfc_at h1)
    have hall : ∀ c0 ∈ ((xcl[10]?).getD []), c0.1 = 3 → xser c0.2.2.1 c0.2.2.2 0 < (lk LQ16) c0.2.1 := by decide +kernel
    rw [cup_lk (k := 10) (v := 0) rfl rfl]
    exact hall c0 hm h2)
  have hO1 : XD (cup (lk LQ15) 10) (sR (sI wZ 10 0 4 (-1)) 10 0 5 (some 0)) := xd_cup hO (fun κ' i' h => by
      have hne : ¬ (κ' = 10 ∧ i' = 0) := fun z => by rw [z.1, z.2] at h; exact absurd h (by decide)
      first | rfl | (rw [gR_sR_ne hne]; rfl)) (fun k c0 j h1 h2 h3 => by
      have h4 : gR (sR (sI wZ 10 0 4 (-1)) 10 0 5 (some 0)) 10 0 k = if k = 5 then some 0 else none := by
        rw [gR_sR_eq]
        by_cases hk : k = 5
        · subst hk; rw [va_up_self, if_pos rfl]
        · rw [va_up_ne _ _ hk, if_neg hk]; rfl
      rw [cup_lk (k := 10) (v := 0) rfl rfl]
      have h3 : gR (sR (sI wZ 10 0 4 (-1)) 10 0 5 (some 0)) 10 0 k = some j := h3
      rw [h4] at h3
      split at h3
      · rename_i hk; subst hk; cases h3; cases h1; decide
      · cases h3) (fun a0 k j h1 h2 h3 => by
      exact absurd h1 (by unfold xac; rw [if_pos (by decide)]; exact fun h => by cases h))
  have hT16 : XT0 ad15 (lk LQ15) (adup ad15 10 0 a) := xt0_up (cnt := (lk LQ15)) (κ := 10) (by decide)
  have hq16 : adup ad15 10 0 a 10 0 = a := adup_self
  rw [cup_lk (k := 10) (v := 0) rfl rfl] at hX1 hG1 hO1
  generalize had16 : adup ad15 10 0 a = ad16 at hX1 hG1 hO1 hT16 hq16
  have hX : XX D A ad16 cy (lk LQ16) Y (wA 0) H := hX1
  have hG : XG ad16 (lk LQ16) := hG1
  have hO : XD (lk LQ16) (wA 0) := hO1
  refine lv_iconst (v := 0) hx hb dX11_init_178 (by decide) ?_
  refine lv_istore_n (lv' := [(1, .int 0), (0, .ref a)]) hx hb dX11_init_179 rfl hl (by decide) rfl (fun ls hl => ?_)
  have hl : lv_has ls 2 [(1, .int 0), (0, .ref a)] := hl
  have hTF : XT0 ad (lk LQ0) ad16 := (xt0_tr (lk_le (by decide +kernel)) (xt0_tr (lk_le (by decide +kernel)) (xt0_tr (lk_le (by decide +kernel)) (xt0_tr (lk_le (by decide +kernel)) (xt0_tr (lk_le (by decide +kernel)) (xt0_tr (lk_le (by decide +kernel)) (xt0_tr (lk_le (by decide +kernel)) (xt0_tr (lk_le (by decide +kernel)) (xt0_tr (lk_le (by decide +kernel)) (xt0_tr (lk_le (by decide +kernel)) (xt0_tr (lk_le (by decide +kernel)) (xt0_tr (lk_le (by decide +kernel)) (xt0_tr (lk_le (by decide +kernel)) (xt0_tr (lk_le (by decide +kernel)) (xt0_tr (lk_le (by decide +kernel)) hT1 hT2) hT3) hT4) hT5) hT6) hT7) hT8) hT9) hT10) hT11) hT12) hT13) hT14) hT15) hT16)
  have hqa : ad16 10 0 = a := hq16
  generalize ad16 = adx at hX hG hO hTF hqa
  refine kA_0 hx hb hml hown hts hin hK (xz_ad hZ hTF) hA hX hG hO hS hl hqa (fun ad2 H locs ls hX hG hO hS hl hqa hT2 => ?_)
  have hTF : XT0 ad (lk LQ0) ad2 := xt0_tr (lk_le (by decide +kernel)) hTF hT2
  clear hT2
  refine kA_1 hx hb hml hown hts hin hK (xz_ad hZ hTF) hA hX hG hO hS hl hqa (fun ad2 H locs ls hX hG hO hS hl hqa hT2 => ?_)
  have hTF : XT0 ad (lk LQ0) ad2 := xt0_tr (lk_le (by decide +kernel)) hTF hT2
  clear hT2
  refine kA_2 hx hb hml hown hts hin hK (xz_ad hZ hTF) hA hX hG hO hS hl hqa (fun ad2 H locs ls hX hG hO hS hl hqa hT2 => ?_)
  have hTF : XT0 ad (lk LQ0) ad2 := xt0_tr (lk_le (by decide +kernel)) hTF hT2
  clear hT2
  refine kA_3 hx hb hml hown hts hin hK (xz_ad hZ hTF) hA hX hG hO hS hl hqa (fun ad2 H locs ls hX hG hO hS hl hqa hT2 => ?_)
  have hTF : XT0 ad (lk LQ0) ad2 := xt0_tr (lk_le (by decide +kernel)) hTF hT2
  clear hT2
  refine kA_4 hx hb hml hown hts hin hK (xz_ad hZ hTF) hA hX hG hO hS hl hqa (fun ad2 H locs ls hX hG hO hS hl hqa hT2 => ?_)
  have hTF : XT0 ad (lk LQ0) ad2 := xt0_tr (lk_le (by decide +kernel)) hTF hT2
  clear hT2
  refine kA_5 hx hb hml hown hts hin hK (xz_ad hZ hTF) hA hX hG hO hS hl hqa (fun ad2 H locs ls hX hG hO hS hl hqa hT2 => ?_)
  have hTF : XT0 ad (lk LQ0) ad2 := xt0_tr (lk_le (by decide +kernel)) hTF hT2
  clear hT2
  refine kA_6 hx hb hml hown hts hin hK (xz_ad hZ hTF) hA hX hG hO hS hl hqa (fun ad2 H locs ls hX hG hO hS hl hqa hT2 => ?_)
  have hTF : XT0 ad (lk LQ0) ad2 := xt0_tr (lk_le (by decide +kernel)) hTF hT2
  clear hT2
  refine kA_7 hx hb hml hown hts hin hK (xz_ad hZ hTF) hA hX hG hO hS hl hqa (fun ad2 H locs ls hX hG hO hS hl hqa hT2 => ?_)
  have hTF : XT0 ad (lk LQ0) ad2 := xt0_tr (lk_le (by decide +kernel)) hTF hT2
  clear hT2
  refine kA_8 hx hb hml hown hts hin hK (xz_ad hZ hTF) hA hX hG hO hS hl hqa (fun ad2 H locs ls hX hG hO hS hl hqa hT2 => ?_)
  have hTF : XT0 ad (lk LQ0) ad2 := xt0_tr (lk_le (by decide +kernel)) hTF hT2
  clear hT2
  refine kA_9 hx hb hml hown hts hin hK (xz_ad hZ hTF) hA hX hG hO hS hl hqa (fun ad2 H locs ls hX hG hO hS hl hqa hT2 => ?_)
  have hTF : XT0 ad (lk LQ0) ad2 := xt0_tr (lk_le (by decide +kernel)) hTF hT2
  clear hT2
  refine kA_10 hx hb hml hown hts hin hK (xz_ad hZ hTF) hA hX hG hO hS hl hqa (fun ad2 H locs ls hX hG hO hS hl hqa hT2 => ?_)
  have hTF : XT0 ad (lk LQ0) ad2 := xt0_tr (lk_le (by decide +kernel)) hTF hT2
  clear hT2
  refine kA_11 hx hb hml hown hts hin hK (xz_ad hZ hTF) hA hX hG hO hS hl hqa (fun ad2 H locs ls hX hG hO hS hl hqa hT2 => ?_)
  have hTF : XT0 ad (lk LQ0) ad2 := xt0_tr (lk_le (by decide +kernel)) hTF hT2
  clear hT2
  refine kA_12 hx hb hml hown hts hin hK (xz_ad hZ hTF) hA hX hG hO hS hl hqa (fun ad2 H locs ls hX hG hO hS hl hqa hT2 => ?_)
  have hTF : XT0 ad (lk LQ0) ad2 := xt0_tr (lk_le (by decide +kernel)) hTF hT2
  clear hT2
  refine kA_13 hx hb hml hown hts hin hK (xz_ad hZ hTF) hA hX hG hO hS hl hqa (fun ad2 H locs ls hX hG hO hS hl hqa hT2 => ?_)
  have hTF : XT0 ad (lk LQ0) ad2 := xt0_tr (lk_le (by decide +kernel)) hTF hT2
  clear hT2
  refine kA_14 hx hb hml hown hts hin hK (xz_ad hZ hTF) hA hX hG hO hS hl hqa (fun ad2 H locs ls hX hG hO hS hl hqa hT2 => ?_)
  have hTF : XT0 ad (lk LQ0) ad2 := xt0_tr (lk_le (by decide +kernel)) hTF hT2
  clear hT2
  refine kA_15 hx hb hml hown hts hin hK (xz_ad hZ hTF) hA hX hG hO hS hl hqa (fun ad2 H locs ls hX hG hO hS hl hqa hT2 => ?_)
  have hTF : XT0 ad (lk LQ0) ad2 := xt0_tr (lk_le (by decide +kernel)) hTF hT2
  clear hT2
  refine kA_16 hx hb hml hown hts hin hK (xz_ad hZ hTF) hA hX hG hO hS hl hqa (fun ad2 H locs ls hX hG hO hS hl hqa hT2 => ?_)
  have hTF : XT0 ad (lk LQ0) ad2 := xt0_tr (lk_le (by decide +kernel)) hTF hT2
  clear hT2
  refine kA_17 hx hb hml hown hts hin hK (xz_ad hZ hTF) hA hX hG hO hS hl hqa (fun ad2 H locs ls hX hG hO hS hl hqa hT2 => ?_)
  have hTF : XT0 ad (lk LQ0) ad2 := xt0_tr (lk_le (by decide +kernel)) hTF hT2
  clear hT2
  refine kA_18 hx hb hml hown hts hin hK (xz_ad hZ hTF) hA hX hG hO hS hl hqa (fun ad2 H locs ls hX hG hO hS hl hqa hT2 => ?_)
  have hTF : XT0 ad (lk LQ0) ad2 := xt0_tr (lk_le (by decide +kernel)) hTF hT2
  clear hT2
  refine kA_19 hx hb hml hown hts hin hK (xz_ad hZ hTF) hA hX hG hO hS hl hqa (fun ad2 H locs ls hX hG hO hS hl hqa hT2 => ?_)
  have hTF : XT0 ad (lk LQ0) ad2 := xt0_tr (lk_le (by decide +kernel)) hTF hT2
  clear hT2
  refine lv_iload_n hx hb dX11_init_180 rfl (lv_at hl 0 rfl) ?_
  refine lv_bipush (v := 20) hx hb dX11_init_181 (by decide) ?_
  refine lv_icmp_ge (tgt := 205) hx hb dX11_init_183 (by decide) (fun cb => ?_) (fun cb => absurd (show (20 : Int32) ≤ 20 by decide) cb)
  refine lv_iconst (v := 0) hx hb dX11_init_205 (by decide) ?_
  refine lv_istore_n (lv' := [(1, .int 0), (0, .ref a)]) hx hb dX11_init_206 rfl hl (by decide) rfl (fun ls hl => ?_)
  have hX : XX D A ad2 cy (lk LQ36) Y (wB 0) H := hX
  have hO : XD (lk LQ36) (wB 0) := hO
  refine kB_0 hx hb hml hown hts hin hK (xz_ad hZ hTF) hA hX hG hO hS hl hqa (fun ad2 H locs ls hX hG hO hS hl hqa hT2 => ?_)
  have hTF : XT0 ad (lk LQ0) ad2 := xt0_tr (lk_le (by decide +kernel)) hTF hT2
  clear hT2
  refine kB_1 hx hb hml hown hts hin hK (xz_ad hZ hTF) hA hX hG hO hS hl hqa (fun ad2 H locs ls hX hG hO hS hl hqa hT2 => ?_)
  have hTF : XT0 ad (lk LQ0) ad2 := xt0_tr (lk_le (by decide +kernel)) hTF hT2
  clear hT2
  refine kB_2 hx hb hml hown hts hin hK (xz_ad hZ hTF) hA hX hG hO hS hl hqa (fun ad2 H locs ls hX hG hO hS hl hqa hT2 => ?_)
  have hTF : XT0 ad (lk LQ0) ad2 := xt0_tr (lk_le (by decide +kernel)) hTF hT2
  clear hT2
  refine kB_3 hx hb hml hown hts hin hK (xz_ad hZ hTF) hA hX hG hO hS hl hqa (fun ad2 H locs ls hX hG hO hS hl hqa hT2 => ?_)
  have hTF : XT0 ad (lk LQ0) ad2 := xt0_tr (lk_le (by decide +kernel)) hTF hT2
  clear hT2
  refine lv_iload_n hx hb dX11_init_207 rfl (lv_at hl 0 rfl) ?_
  refine lv_iconst (v := 4) hx hb dX11_init_208 (by decide) ?_
  refine lv_icmp_ge (tgt := 231) hx hb dX11_init_209 (by decide) (fun cb => ?_) (fun cb => absurd (show (4 : Int32) ≤ 4 by decide) cb)
  exact W.vret hx hb hr (fun t ht hW => ⟨⟨rfl, _, hTF, hqa, by rw [ht]; exact hX, hO, hG⟩, hS.F ht⟩) hS.2.2 dX11_init_231
