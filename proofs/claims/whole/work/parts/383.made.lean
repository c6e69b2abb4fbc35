/-! ===== RuleReader.made ===== -/
def XMp (D : va_G) (A : Nat → Prop) (ad : Nat → Nat → Nat) (cy : Nat → ClassId) (cnt : Nat → Nat) (w : XW) (U : State) : Prop := XCp D A ad cy cnt [] w U ∧ XZ A ad U
theorem xmp_blind {D : va_G} {A : Nat → Prop} {ad : Nat → Nat → Nat} {cy : Nat → ClassId} {cnt : Nat → Nat} {w : XW} {as : List Value} : FrameBlind (va_Pc as (XMp D A ad cy cnt w)) := by
  intro a1 U g mk q
  obtain ⟨q0, ⟨q1, q2, q3, q4, q5, q6⟩, q7⟩ := q
  exact ⟨q0, ⟨q1, q2, q3, va_K.moved (u := U) (U := U.calling g mk a1) (Vm.Alike.refl U.vm) q4, q5, va_Nw.same rfl (u := U) rfl q6⟩, xz_call q7 g mk a1⟩
def cM (cnt : Nat → Nat) : Nat → Nat := cup (cup (cup cnt 26) 27) 6
def wM (n k1 k2 : Nat) (w : XW) : XW := wRu (wcp (wcp w 28 26 n k1) 29 27 n (3 * k2)) n (nI k2)
set_option maxRecDepth 100000 in
set_option maxHeartbeats 4000000 in
theorem m_made (l : Launch) (D : va_G) (A : Nat → Prop) (ad : Nat → Nat → Nat) (cy : Nat → ClassId) (cnt : Nat → Nat) (w : XW) {k1 k2 : Nat} (h26 : cnt 26 = cnt 6) (h27 : cnt 27 = cnt 6) (h7 : 0 < cnt 7) (e1 : gI w 7 0 2 = nI k1) (hk1 : k1 ≤ 400) (e2 : gI w 7 0 3 = nI k2) (hk2 : k2 ≤ 12) :
    Met l yX8_made (.code yX8_made cX8_made 1 (some (.object "WinterKeep$Rule")) :: lw_ok) { frames := 2, cells := 3, slots := 3 + k1 + 3 * k2, locals := 100 } (va_Pc [.ref (ad 7 0)] (XMp D A ad cy cnt w)) (XCq D A ad cy cnt [] 6 (cnt 6) (cM cnt) (wM (cnt 6) k1 k2 w)) 3 (3 + k1 + 3 * k2) A := by
  refine Met.ofW (cc := cX8_made) (maxL := 1) (ret := some (.object "WinterKeep$Rule")) (by decide) rfl ?_
  intro p e s m args below meth c s₁ B hml hv
  obtain ⟨rfl, ⟨hA, hX, hO, hK, hG, hC⟩, hZ⟩ := hv
  have hx := B.exec
  have hb := B.bytes
  have hr := B.returns
  have hts := atoms_spec (ws := .code yX8_made cX8_made 1 (some (.object "WinterKeep$Rule")) :: lw_ok) B.pre
  have hin : ∀ w ∈ lw_ok, w ∈ (Cond.code yX8_made cX8_made 1 (some (.object "WinterKeep$Rule")) :: lw_ok) := fun w h => List.mem_cons_of_mem _ h
  have hown : s.vm.findClass RX8 = some m.cls := findClass_of_methodNamed B.named
  have hlocks := B.notSynchronized
  have hS : va_S A s.heap s.heap [] := va_S.rf
  have hl := lv_entry ([.ref (ad 7 0)]) (n := 1) (Nat.le_of_ble_eq_true rfl)
  rw [lg_entry_eq]
  generalize (lg_sl ([.ref (ad 7 0)]) ++ List.replicate (1 - (lg_sl ([.ref (ad 7 0)])).length) Slot.unset).toArray = ls at hl ⊢
  have hl : lv_has ls 1 [(0, .ref (ad 7 0))] := hl
  have h28 : 0 < cnt 28 := hG.2.2 7 0 (3, 28, 0, 0) 0 rfl rfl h7
  have h29 : 0 < cnt 29 := hG.2.2 7 1 (3, 29, 0, 0) 0 rfl rfl h7
  refine r_new hx hb hts hin xk_6 hown wt_564 wt_565 wt_17 hK hX hS hA (fs := [.null, .null, .int 0]) (by decide +kernel) (Nat.le_of_ble_eq_true rfl) (by show 0 + 3 ≤ 3 + k1 + 3 * k2; omega) dmd_0 (fun b1 H hX hS => ?_)
  refine lv_dup hx hb dmd_3 rfl ?_
  refine lv_aload_n hx hb dmd_4 rfl (lv_at hl 0 rfl) ?_
  refine r_getS hx hb hts hin xk_7 hown hK hX (i := 0) h7 (k := 0) rfl (by decide) rfl wt_70 dmd_5 ?_
  refine lv_aload_n hx hb dmd_8 rfl (lv_at hl 0 rfl) ?_
  refine r_getI hx hb hts hin xk_7 hown hK hX (i := 0) h7 (k := 2) rfl (by decide) rfl wt_72 dmd_9 ?_
  rw [e1]
  refine rc_call (va_runS (As := [.ref (ad 28 0), .int (nI k1)]) (rest := [.ref b1, .ref b1]) (g := F0 m 12 ls (.int (nI k1) :: .ref (ad 28 0) :: [.ref b1, .ref b1])) (nL := 1) ⟨hx, hb, hml, hown, hts⟩ (m_copyOf l D A ad cy cnt [(b1, .inr (6, [.null, .null, .int 0]))] w (κ0 := 28) (κ1 := 26) (N0 := 400) (k := k1) rfl rfl (by decide) (by decide) hk1 h28) ⟨callB_of 2 hts (lw_okg wt_568) rfl rfl rfl (hts _ (hin _ wt_18)) (hts _ (hin _ wt_566)) (by decide +kernel) ⟨Nat.le_of_ble_eq_true rfl, Nat.le_of_ble_eq_true rfl⟩, hts _ (hin _ wt_567)⟩ ⟨xcp_blind, fun U hU hW => ⟨rfl, fun q h => hA q (Nat.le_trans hS.1 (by rw [← hU]; exact h)), by rw [hU]; exact hX, hO, va_K.moved hW.alike hK, hG, va_Nw.warmC hW hC⟩⟩ rfl rfl hl.1 rfl (lv_room (Nat.le_of_ble_eq_true rfl)) dmd_12 ⟨Nat.le_of_ble_eq_true rfl, by show 0 + 3 + k1 ≤ 3 + k1 + 3 * k2; omega⟩) hS (fun q1 ad1 H locs hT1 hq1 hX hG hO hS => ?_)
  have e7 : ad1 7 0 = ad 7 0 := hT1.1 7 0 h7
  have hl : lv_has ls 1 [(0, .ref (ad1 7 0))] := by rw [e7]; exact hl
  have c7 : 0 < cup cnt 26 7 := by rw [cup_ne (by decide)]; exact h7
  have c29 : 0 < cup cnt 26 29 := by rw [cup_ne (by decide)]; exact h29
  have f2 : gI (wcp w 28 26 (cnt 26) k1) 7 0 3 = nI k2 := by rw [(wcp_ne (fun z => absurd z.1 (by decide))).1]; exact e2
  refine lv_aload_n hx hb dmd_15 rfl (lv_at hl 0 rfl) ?_
  refine r_getS hx hb hts hin xk_7 hown hK hX (i := 0) c7 (k := 1) rfl (by decide) rfl wt_71 dmd_16 ?_
  refine lv_iconst (v := 3) hx hb dmd_19 (by decide) ?_
  refine lv_aload_n hx hb dmd_20 rfl (lv_at hl 0 rfl) ?_
  refine r_getI hx hb hts hin xk_7 hown hK hX (i := 0) c7 (k := 3) rfl (by decide) rfl wt_73 dmd_21 ?_
  rw [f2]
  refine lv_imul hx hb dmd_24 ?_
  have e3 : (3 : Int32) * nI k2 = nI (3 * k2) := pk_mul 3 k2
  rw [e3]
  refine rc_call (va_runS (As := [.ref (ad1 29 0), .int (nI (3 * k2))]) (rest := [.ref q1, .ref b1, .ref b1]) (g := F0 m 25 ls (.int (nI (3 * k2)) :: .ref (ad1 29 0) :: [.ref q1, .ref b1, .ref b1])) (nL := 1) ⟨hx, hb, hml, hown, hts⟩ (m_copyOf l D A ad1 cy (cup cnt 26) [(b1, .inr (6, [.null, .null, .int 0]))] (wcp w 28 26 (cnt 26) k1) (κ0 := 29) (κ1 := 27) (N0 := 36) (k := 3 * k2) rfl rfl (by decide) (by decide) (by omega) c29) ⟨callB_of 2 hts (lw_okg wt_568) rfl rfl rfl (hts _ (hin _ wt_18)) (hts _ (hin _ wt_566)) (by decide +kernel) ⟨Nat.le_of_ble_eq_true rfl, Nat.le_of_ble_eq_true rfl⟩, hts _ (hin _ wt_567)⟩ ⟨xcp_blind, fun U hU hW => ⟨rfl, fun q h => hA q (Nat.le_trans hS.1 (by rw [← hU]; exact h)), by rw [hU]; exact hX, hO, va_K.moved hW.alike hK, hG, va_Nw.warmC hW hC⟩⟩ rfl rfl hl.1 rfl (lv_room (Nat.le_of_ble_eq_true rfl)) dmd_25 ⟨Nat.le_of_ble_eq_true rfl, by show 0 + 3 + k1 + 3 * k2 ≤ 3 + k1 + 3 * k2; omega⟩) hS (fun q2 ad2 H locs hT2 hq2 hX hG hO hS => ?_)
  have e72 : ad2 7 0 = ad1 7 0 := hT2.1 7 0 c7
  have hl : lv_has ls 1 [(0, .ref (ad2 7 0))] := by rw [e72]; exact hl
  have cc27 : cup cnt 26 27 = cnt 6 := by rw [cup_ne (by decide)]; exact h27
  have cc6 : cup (cup cnt 26) 27 6 = cnt 6 := by rw [cup_ne (by decide), cup_ne (by decide)]
  have cc26 : cup (cup cnt 26) 27 26 = cnt 6 + 1 := by rw [cup_ne (by decide), cup_self, h26]
  have cc27' : cup (cup cnt 26) 27 27 = cnt 6 + 1 := by rw [cup_self, cc27]
  have c72 : 0 < cup (cup cnt 26) 27 7 := by rw [cup_ne (by decide)]; exact c7
  have qq1 : ad2 26 (cup (cup cnt 26) 27 6) = q1 := by
    rw [cc6, ← h26, ← hq1]
    exact hT2.1 26 (cnt 26) (by rw [cup_self]; exact Nat.lt_succ_self _)
  have qq2 : ad2 27 (cup (cup cnt 26) 27 6) = q2 := by rw [cc6, ← cc27]; exact hq2
  have f3 : gI (wcp (wcp w 28 26 (cnt 26) k1) 29 27 (cup cnt 26 27) (3 * k2)) 7 0 3 = nI k2 := by rw [(wcp_ne (fun z => absurd z.1 (by decide))).1]; exact f2
  refine lv_aload_n hx hb dmd_28 rfl (lv_at hl 0 rfl) ?_
  refine r_getI hx hb hts hin xk_7 hown hK hX (i := 0) c72 (k := 3) rfl (by decide) rfl wt_73 dmd_29 ?_
  rw [f3, ← qq1, ← qq2]
  refine ri_call (va_runI (As := [.ref (ad2 26 (cup (cup cnt 26) 27 6)), .ref (ad2 27 (cup (cup cnt 26) 27 6)), .int (nI k2)]) (rest := [.ref b1]) (b := b1) (g := F0 m 32 ls (.int (nI k2) :: .ref (ad2 27 (cup (cup cnt 26) 27 6)) :: .ref (ad2 26 (cup (cup cnt 26) 27 6)) :: .ref b1 :: [.ref b1])) (nL := 1) ⟨hx, hb, hml, hown, hts⟩ (i_X7_init l D A ad2 cy (cup (cup cnt 26) 27) [] (wcp (wcp w 28 26 (cnt 26) k1) 29 27 (cup cnt 26 27) (3 * k2)) b1 (nI k2) (by rw [cc6, cc26]; exact Nat.lt_succ_self _) (by rw [cc6, cc27']; exact Nat.lt_succ_self _)) (cwI 3 hts (lw_okg wt_584) rfl rfl rfl (hts _ (hin _ wt_17)) (hts _ (hin _ wt_582)) (hts _ (hin _ wt_583)) rfl (by decide +kernel) ⟨Nat.le_of_ble_eq_true rfl, Nat.le_of_ble_eq_true rfl⟩) ⟨xip_blind, fun U hU hW => ⟨rfl, fun q h => hA q (Nat.le_trans hS.1 (by rw [← hU]; exact h)), by rw [hU]; exact hX, hO, va_K.moved hW.alike hK, hG, xz_ad (xz_ad (xz_to hZ hU hW hS) hT1) hT2⟩⟩ rfl rfl hl.1 rfl (lv_room (Nat.le_of_ble_eq_true rfl)) dmd_32 ⟨Nat.le_of_ble_eq_true rfl, by show 0 + 3 + k1 + 3 * k2 + 0 ≤ 3 + k1 + 3 * k2; omega⟩) hS (fun ad3 H locs hT3 hq3 hX hG hO hS => ?_)
  rw [cc6] at hX hO hq3
  rw [cc27, h26] at hX hO
  have hT : XT0 ad cnt ad3 := xt0_tr (fun κ => Nat.le_trans (cup_le _ _ _) (cup_le _ _ _)) (xt0_tr (fun κ => cup_le _ _ _) hT1 hT2) hT3
  refine W.widen (k := 3) (n := 3 + k1 + 3 * k2) (by omega) (by omega) ?_
  exact W.aret hx hb hr (Or.inl ⟨_, rfl⟩) (Or.inr ⟨_, rfl⟩) (fun t ht hW => ⟨⟨b1, ad3, rfl, hT, hq3, by rw [ht]; exact hX, hO, hG⟩, hS.F ht⟩) hS.2.2 dmd_35
