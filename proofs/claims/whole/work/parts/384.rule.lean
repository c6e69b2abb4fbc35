/-! ===== rule(): its contract ===== -/
def MkR (n : Nat) (w : XW) : XW := wRu (wcp (wcp w 28 26 n (gI w 7 0 2).toNatClampNeg) 29 27 n (3 * (gI w 7 0 3).toNatClampNeg)) n (gI w 7 0 3)
theorem mkR_ok (n : Nat) (w : XW) : MadeOk w n (MkR n w) := by
  refine ⟨fun κ i k h => ?_, gIs_eq, ?_, ?_, fun k => ?_, fun k => ?_⟩
  · have h6 : ¬ (κ = 6 ∧ i = n) := fun z => h ⟨Or.inl z.1, z.2⟩
    have h26 : ¬ (κ = 26 ∧ i = n) := fun z => h ⟨Or.inr (Or.inl z.1), z.2⟩
    have h27 : ¬ (κ = 27 ∧ i = n) := fun z => h ⟨Or.inr (Or.inr z.1), z.2⟩
    obtain ⟨a1, a2, a3, a4⟩ := wRu_ne (w := wcp (wcp w 28 26 n (gI w 7 0 2).toNatClampNeg) 29 27 n (3 * (gI w 7 0 3).toNatClampNeg)) (v := gI w 7 0 3) h6
    obtain ⟨b1, b2, b3, b4⟩ := wcp_ne (w := wcp w 28 26 n (gI w 7 0 2).toNatClampNeg) (κ0 := 29) (len := 3 * (gI w 7 0 3).toNatClampNeg) h27
    obtain ⟨c1, c2, c3, c4⟩ := wcp_ne (w := w) (κ0 := 28) (len := (gI w 7 0 2).toNatClampNeg) h26
    unfold MkR
    rw [a1, a2, a3, a4, b1, b2, b3, b4, c1, c2, c3, c4]
    exact ⟨rfl, rfl, rfl, rfl⟩
  · unfold MkR
    rw [(wRu_ne (fun z => absurd z.1 (by decide))).2.2.2, (wcp_ne (fun z => absurd z.1 (by decide))).2.2.2, wcp_Z]
  · unfold MkR
    rw [(wRu_ne (fun z => absurd z.1 (by decide))).2.2.2, wcp_Z]
  · unfold MkR
    rw [(wRu_ne (fun z => absurd z.1 (by decide))).1, (wcp_ne (fun z => absurd z.1 (by decide))).1, wcp_I]
  · unfold MkR
    rw [(wRu_ne (fun z => absurd z.1 (by decide))).1, wcp_I, (wcp_ne (fun z => absurd z.1 (by decide))).1]
theorem mkR_eq {n k1 k2 : Nat} {w : XW} (e1 : gI w 7 0 2 = nI k1) (h1 : k1 ≤ 400) (e2 : gI w 7 0 3 = nI k2) (h2 : k2 ≤ 12) : MkR n w = wM n k1 k2 w := by
  unfold MkR wM
  rw [e1, e2, cl (by omega), cl (by omega)]
section VCall
variable {p : Program} {l : Launch} {e : Env} {R : Room} {s : State} {m : MethodId} {args : Array Value} {below : List Frame} {meth : Method} {c : Code} {H : Heap} {locs : List Loc} {cells slots : Nat} {Q : State → Prop}
variable {cc : ByteArray} {pc nL : Nat} {ls : Array Slot} {rest : List Value} {D : va_G} {A : Nat → Prop} {ad : Nat → Nat → Nat} {cy : Nat → ClassId} {cnt : Nat → Nat} {w : XW} {Ts : List Cond} {own : String}
/-- a call of a method with a contract, anything behind it -/
theorem y_vcall (hx : p.tables.exec = Jvm.exec) (hb : c.code = cc) (hml : c.maxLocals = nL) (hown : s.vm.findClass own = some m.cls) (hts : ∀ w ∈ Ts, w.before args s = true) (hin : ∀ w ∈ lw_ok, w ∈ Ts) (hK : va_K D vwCl (xty cy) s) (hG : XG ad cnt) (hZ : XZ A ad s) (hH : XH D A ad cy cnt w H) (hO : XD cnt w) (hS : va_S A s.heap H locs) (hsz : ls.size = nL) (hcs : cells ≤ R.cells) (hsl : slots ≤ R.slots)
    {idx n κ i mL fr lo : Nat} {y : MethodName} {b : ByteArray} {ret : Option FieldType} {F : List XV → XW → Option XR} (hM : XM y b mL ret fr lo F) (hw : XVw own idx n κ mL y b ret) (hR : fr + 1 ≤ R.frames ∧ 8 + (mL + 11) + lo ≤ R.locals) (hd : decode cc pc = .ok (.invokevirtual idx, 3)) {as : List XV} {rr : XR} (hlen : as.length = n) (hst : XSt cnt (.inr (κ, i) :: as)) (hca : (rest.map fun v => v.category).sum ≤ 8) (hF : F (.inr (κ, i) :: as) w = some rr)
    (kk : ∀ (H1 : Heap) (locs1 : List Loc), XH D A ad cy cnt rr.2 H1 → XD cnt rr.2 → (∀ v, rr.1 = some v → rOK cnt v) → va_S A s.heap H1 locs1 → W p l e R s m args below meth c H1 locs1 cells slots Q (F0 m (pc + 3) ls ((rr.1.map (cv ad)).toList ++ rest))) :
    W p l e R s m args below meth c H locs cells slots Q (F0 m pc ls ((as.map (cv ad)).reverse ++ .ref (ad κ i) :: rest)) := by
  obtain ⟨C, T, ty, N, ⟨h12, hcl, hws, hty, hnm⟩, hyC, hy, hn, h1, h2, h3, h4, h5⟩ := hw
  obtain ⟨L0, f0, k0, hP, hD, hf, hk0, he⟩ := xH_cell hH (Nat.lt_trans h12 (by decide)) hst.1
  rw [he, xcell_o h12] at hk0
  have hwV : GoodIn Ts (wsV own idx C y (.code y b mL ret :: lw_ok)) := by
    intro w0 hw0
    have hw1 : w0 ∈ lw_ok := by
      rcases List.mem_append.mp hw0 with h9 | h9
      · simp only [List.mem_cons, List.not_mem_nil, or_false] at h9
        rcases h9 with rfl | rfl | rfl | rfl
        · exact h1
        · exact h2
        · exact h3
        · exact h4
      · rcases List.mem_cons.mp h9 with rfl | h9
        · exact h5
        · exact h9
    exact ⟨hin _ hw1, good_of_word (List.mem_filter.mp hw1).2⟩
  have hrun := va_runV (p := p) (l := l) (e := e) (R := R) (below := below) (meth := meth) (H := H) (locs := locs) (cells := cells) (slots := slots) (As := as.map (cv ad)) (rest := rest) (b := ad κ i) (g := F0 m pc ls ((as.map (cv ad)).reverse ++ .ref (ad κ i) :: rest)) (nL := nL)
    ⟨hx, hb, hml, hown, hts⟩ (hM l D A ad cy cnt _ w rr hF) (cwV n hts hwV rfl rfl rfl ⟨hyC, hy.1, hy.2, hn⟩ hR)
    ⟨xpc_blind, va_recv hK hP hcl hk0, fun U hU hW => ⟨rfl, by rw [hU]; exact hH, hO, va_K.moved hW.alike hK, hG, hst, xz_to hZ hU hW hS⟩⟩ rfl (by rw [List.length_map]; exact hlen) hsz rfl (lv_room hca) hd ⟨hcs, hsl⟩
  exact x_call hrun hS kk
end VCall
set_option maxRecDepth 100000 in
set_option maxHeartbeats 4000000 in
theorem m_rule_a (l : Launch) (D : va_G) (A : Nat → Prop) (ad : Nat → Nat → Nat) (cy : Nat → ClassId) (cnt : Nat → Nat) (w : XW) (rr : XR) (h10 : 0 < cnt 10) (hF : q_X11_rulet_0 w = some rr) : Met l yX11_rule (.code yX11_rule cX11_rule 2 (some .int) :: lw_ok) { frames := 330, cells := 3, slots := 439, locals := 8000 } (va_Pc [.ref (ad 10 0)] (XMp D A ad cy cnt w)) (XQa D A ad cy cnt cnt rr) 3 439 A := by
  refine Met.ofW (cc := cX11_rule) (maxL := 2) (ret := some .int) (by decide) rfl ?_
  intro p e s m args below meth c s₁ B hml hv
  obtain ⟨rfl, ⟨hA, hX, hO, hK, hG, hC⟩, hZ⟩ := hv
  have hx := B.exec
  have hb := B.bytes
  have hr := B.returns
  have hts := atoms_spec (ws := .code yX11_rule cX11_rule 2 (some .int) :: lw_ok) B.pre
  have hin : ∀ w ∈ lw_ok, w ∈ (Cond.code yX11_rule cX11_rule 2 (some .int) :: lw_ok) := fun w h => List.mem_cons_of_mem _ h
  have hown : s.vm.findClass RX11 = some m.cls := findClass_of_methodNamed B.named
  have hlocks := B.notSynchronized
  have hS : va_S A s.heap s.heap [] := va_S.rf
  have hl := lv_entry ([.ref (ad 10 0)]) (n := 2) (Nat.le_of_ble_eq_true rfl)
  rw [lg_entry_eq]
  generalize (lg_sl ([.ref (ad 10 0)]) ++ List.replicate (2 - (lg_sl ([.ref (ad 10 0)])).length) Slot.unset).toArray = ls at hl ⊢
  have hl : lv_has ls 2 [(0, .ref (ad 10 0))] := hl
  refine W.widen (k := 3) (n := 439) (by omega) (by omega) ?_
  have hE : XE ((p, l, e, { frames := 330, cells := 3, slots := 439, locals := 8000 }, s), (m, ([.ref (ad 10 0)] : List Value).toArray, below, meth, c), (cX11_rule, 2, RX11, some .int, .code yX11_rule cX11_rule 2 (some .int) :: lw_ok), (D, A, ad, cy, cnt, 3, 439)) := ⟨hx, hb, hml, hown, hts, hin, hK, hG, hlocks, hr, hZ, Nat.le_refl _, Nat.le_refl _⟩
  obtain ⟨n, hrun⟩ := ev_to hF
  have hg := sndbs_run (s_X11_rulet 330 8000 3 439 (by omega) (by omega) _ hE rfl rfl rfl rfl rfl) n 0 _ rr hrun
  refine W_mono (fun t ht => ?_) (hg s.heap [] ls (xx_xh.mp hX) hO hS ⟨hl.1, hl.2.1, fun i v hv => ?_⟩ trivial)
  · obtain ⟨o, h1, h2, h3, h4⟩ := ht
    exact ⟨o, h1, h2, ⟨ad, ⟨fun _ _ _ => rfl, rfl, rfl⟩, hG, h3⟩, h4⟩
  · match i, hv with
    | 0, hv =>
      cases hv
      exact ⟨lv_at hl 0 rfl, h10⟩
    | 1, hv => cases hv
    | i + 2, hv => simp at hv
set_option maxRecDepth 100000 in
set_option maxHeartbeats 4000000 in
theorem m_rule_b (l : Launch) (D : va_G) (A : Nat → Prop) (ad : Nat → Nat → Nat) (cy : Nat → ClassId) (cnt : Nat → Nat) (w w1 : XW) (v : Int32) {k1 k2 t : Nat} (h26 : cnt 26 = cnt 6) (h27 : cnt 27 = cnt 6) (h10 : 0 < cnt 10) (ht : t < 6) (e3 : gI w 10 0 3 = nI t) (hrd : F_X8_read [.inr (7, 0), .inr (9, 0)] w = some (v, w1)) (hv0 : ¬ v = 0) (f3 : gI w1 10 0 3 = nI t) (e1 : gI w1 7 0 2 = nI k1) (hk1 : k1 ≤ 400) (e2 : gI w1 7 0 3 = nI k2) (hk2 : k2 ≤ 12) :
    Met l yX11_rule (.code yX11_rule cX11_rule 2 (some .int) :: lw_ok) { frames := 330, cells := 3, slots := 439, locals := 8000 } (va_Pc [.ref (ad 10 0)] (XMp D A ad cy cnt w)) (XQa D A ad cy cnt (cM cnt) (some (.inl (.int (nI t))), sI (sR (wM (cnt 6) k1 k2 (sI w1 9 0 1 0)) 35 0 t (some (cnt 6))) 10 0 3 (nI (t + 1)))) 3 439 A := by
  refine Met.ofW (cc := cX11_rule) (maxL := 2) (ret := some .int) (by decide) rfl ?_
  intro p e s m args below meth c s₁ B hml hv
  obtain ⟨rfl, ⟨hA, hX, hO, hK, hG, hC⟩, hZ⟩ := hv
  have hx := B.exec
  have hb := B.bytes
  have hr := B.returns
  have hts := atoms_spec (ws := .code yX11_rule cX11_rule 2 (some .int) :: lw_ok) B.pre
  have hin : ∀ w ∈ lw_ok, w ∈ (Cond.code yX11_rule cX11_rule 2 (some .int) :: lw_ok) := fun w h => List.mem_cons_of_mem _ h
  have hown : s.vm.findClass RX11 = some m.cls := findClass_of_methodNamed B.named
  have hlocks := B.notSynchronized
  have hS : va_S A s.heap s.heap [] := va_S.rf
  have hl := lv_entry ([.ref (ad 10 0)]) (n := 2) (Nat.le_of_ble_eq_true rfl)
  rw [lg_entry_eq]
  generalize (lg_sl ([.ref (ad 10 0)]) ++ List.replicate (2 - (lg_sl ([.ref (ad 10 0)])).length) Slot.unset).toArray = ls at hl ⊢
  have hl : lv_has ls 2 [(0, .ref (ad 10 0))] := hl
  have h7 : 0 < cnt 7 := hG.2.2 10 1 (3, 7, 1, 0) 0 rfl rfl h10
  have h9 : 0 < cnt 9 := hG.2.2 10 0 (3, 9, 1, 0) 0 rfl rfl h10
  have h35 : 0 < cnt 35 := hG.2.2 10 2 (3, 35, 1, 0) 0 rfl rfl h10
  refine lv_aload_n hx hb dX11_rule_0 rfl (lv_at hl 0 rfl) ?_
  refine r_getI hx hb hts hin xk_10 hown hK hX (i := 0) h10 (k := 3) rfl (by decide) rfl wt_319 dX11_rule_1 ?_
  rw [e3]
  refine lv_bipush (v := 6) hx hb dX11_rule_4 (by decide) ?_
  refine lv_icmp_lt (tgt := 11) hx hb dX11_rule_6 (by decide) (fun cb => ?_) (fun cb => absurd (nI_lt (a := t) (b := 6) (by omega) (by omega)) cb)
  refine lv_aload_n hx hb dX11_rule_11 rfl (lv_at hl 0 rfl) ?_
  refine r_getS hx hb hts hin xk_10 hown hK hX (i := 0) h10 (k := 1) rfl (by decide) rfl wt_317 dX11_rule_12 ?_
  refine lv_aload_n hx hb dX11_rule_15 rfl (lv_at hl 0 rfl) ?_
  refine r_getS hx hb hts hin xk_10 hown hK hX (i := 0) h10 (k := 0) rfl (by decide) rfl wt_316 dX11_rule_16 ?_
  refine y_vcall (nL := 2) (as := [.inr (9, 0)]) (i := 0) (rest := []) (rr := (some (.inl (.int v)), w1)) hx hb hml hown hts hin hK hG hZ (xx_xh.mp hX) hO hS hl.1 (Nat.zero_le _) (Nat.zero_le _) m_X8_read vc_X11_138 ⟨Nat.le_of_ble_eq_true rfl, Nat.le_of_ble_eq_true rfl⟩ dX11_rule_19 rfl ⟨h7, h9, trivial⟩ (Nat.le_of_ble_eq_true rfl) (by unfold eI; rw [hrd]; rfl) (fun H locs hH hO _ hS => ?_)
  refine lv_istore_n (lv' := [(1, .int v), (0, .ref (ad 10 0))]) hx hb dX11_rule_22 rfl hl (by decide) rfl (fun ls hl => ?_)
  refine lv_aload_n hx hb dX11_rule_23 rfl (lv_at hl 1 rfl) ?_
  refine r_getS hx hb hts hin xk_10 hown hK (xx_xh.mpr hH) (i := 0) h10 (k := 0) rfl (by decide) rfl wt_316 dX11_rule_24 ?_
  refine lv_iconst (v := 0) hx hb dX11_rule_27 (by decide) ?_
  refine r_setI hx hb hts hin xk_9 hown hK hH hG hO hS (i := 0) h9 (k := 1) rfl (by decide) rfl rfl (tyX10_ok 1 (by decide)) wt_38 dX11_rule_28 (fun H locs hH hO hS => ?_)
  have g3 : gI (sI w1 9 0 1 0) 10 0 3 = nI t := by rw [gIs_n (by omega)]; exact f3
  have g1 : gI (sI w1 9 0 1 0) 7 0 2 = nI k1 := by rw [gIs_n (by omega)]; exact e1
  have g2 : gI (sI w1 9 0 1 0) 7 0 3 = nI k2 := by rw [gIs_n (by omega)]; exact e2
  refine lv_iload_n hx hb dX11_rule_31 rfl (lv_at hl 0 rfl) ?_
  refine lv_if_ne (tgt := 46) hx hb dX11_rule_32 (by decide) (fun cb => ?_) (fun cb => absurd cb hv0)
  refine lv_aload_n hx hb dX11_rule_46 rfl (lv_at hl 1 rfl) ?_
  refine r_getS hx hb hts hin xk_10 hown hK (xx_xh.mpr hH) (i := 0) h10 (k := 2) rfl (by decide) rfl wt_318 dX11_rule_47 ?_
  refine lv_aload_n hx hb dX11_rule_50 rfl (lv_at hl 1 rfl) ?_
  refine r_getI hx hb hts hin xk_10 hown hK (xx_xh.mpr hH) (i := 0) h10 (k := 3) rfl (by decide) rfl wt_319 dX11_rule_51 ?_
  rw [g3]
  refine lv_aload_n hx hb dX11_rule_54 rfl (lv_at hl 1 rfl) ?_
  refine r_getS hx hb hts hin xk_10 hown hK (xx_xh.mpr hH) (i := 0) h10 (k := 1) rfl (by decide) rfl wt_317 dX11_rule_55 ?_
  have hwV : GoodIn (.code yX11_rule cX11_rule 2 (some .int) :: lw_ok) (wsV RX11 141 RX8 yX8_made (.code yX8_made cX8_made 1 (some (.object "WinterKeep$Rule")) :: lw_ok)) := by
    intro w0 hw0
    have hw1 : w0 ∈ lw_ok := by
      rcases List.mem_append.mp hw0 with h9 | h9
      · simp only [List.mem_cons, List.not_mem_nil, or_false] at h9
        rcases h9 with rfl | rfl | rfl | rfl
        · exact wt_560
        · exact wt_561
        · exact wt_562
        · exact wt_3
      · rcases List.mem_cons.mp h9 with rfl | h9
        · exact wt_563
        · exact h9
    exact ⟨hin _ hw1, good_of_word (List.mem_filter.mp hw1).2⟩
  obtain ⟨L0, f0, k0, hP0, hD0, hf0, hk0, he0⟩ := xH_cell hH (κ := 7) (i := 0) (by decide) h7
  rw [he0, xcell_o (by decide)] at hk0
  refine rc_call (va_runV (As := []) (rest := [.int (nI t), .ref (ad 35 0)]) (b := ad 7 0) (g := F0 m 58 ls (.ref (ad 7 0) :: [.int (nI t), .ref (ad 35 0)])) (nL := 2) ⟨hx, hb, hml, hown, hts⟩ (m_made l D A ad cy cnt (sI w1 9 0 1 0) h26 h27 h7 g1 hk1 g2 hk2) (cwV 0 hts hwV rfl rfl rfl ⟨rfl, by decide, by decide, by decide +kernel⟩ ⟨Nat.le_of_ble_eq_true rfl, Nat.le_of_ble_eq_true rfl⟩) ⟨xmp_blind, va_recv hK hP0 xk_7.2.1 hk0, fun U hU hW => ⟨rfl, ⟨fun q h => hA q (Nat.le_trans hS.1 (by rw [← hU]; exact h)), by rw [hU]; exact xx_xh.mpr hH, hO, va_K.moved hW.alike hK, hG, va_Nw.warmC hW hC⟩, xz_to hZ hU hW hS⟩⟩ rfl rfl hl.1 rfl (lv_room (Nat.le_of_ble_eq_true rfl)) dX11_rule_58 ⟨Nat.le_of_ble_eq_true rfl, by show 0 + (3 + k1 + 3 * k2) ≤ 439; omega⟩) hS (fun q1 ad1 H locs hT1 hq1 hX hG hO hS => ?_)
  have c10 : 0 < cM cnt 10 := by unfold cM; rw [cup_ne (by decide), cup_ne (by decide), cup_ne (by decide)]; exact h10
  have c6 : cnt 6 < cM cnt 6 := by unfold cM; rw [cup_self, cup_ne (by decide), cup_ne (by decide)]; exact Nat.lt_succ_self _
  have c35 : 0 < cM cnt 35 := by unfold cM; rw [cup_ne (by decide), cup_ne (by decide), cup_ne (by decide)]; exact h35
  have a10 : ad1 10 0 = ad 10 0 := hT1.1 10 0 h10
  have a35 : ad1 35 0 = ad 35 0 := hT1.1 35 0 h35
  have hl : lv_has ls 2 [(1, .int v), (0, .ref (ad1 10 0))] := by rw [a10]; exact hl
  have n3 : ∀ u : XW, u = wM (cnt 6) k1 k2 (sI w1 9 0 1 0) → gI u 10 0 3 = nI t := fun u hu => by
    rw [hu]
    unfold wM
    rw [(wRu_ne (fun z => absurd z.1 (by decide))).1, (wcp_ne (fun z => absurd z.1 (by decide))).1, (wcp_ne (fun z => absurd z.1 (by decide))).1]
    exact g3
  rw [← hq1, ← a35]
  have g9 := n3 _ rfl
  generalize wM (cnt 6) k1 k2 (sI w1 9 0 1 0) = u at *
  have eN : (nI t).toNatClampNeg = t := cl (by omega)
  refine r_aast hx hb xk_6 hK hX hG hO hS (t := 5) rfl (κ := 35) (κ' := 6) (n := 6) rfl (by decide) (by decide) c35 c6 (fun z => by rw [eN] at z; exact z.elim (nI_pos (by omega)) (fun y => by omega)) dX11_rule_61 (fun H locs hX hO hS => ?_)
  rw [eN] at hX hO
  refine lv_aload_n hx hb dX11_rule_62 rfl (lv_at hl 1 rfl) ?_
  refine lv_dup hx hb dX11_rule_63 rfl ?_
  refine r_getI hx hb hts hin xk_10 hown hK hX (i := 0) c10 (k := 3) rfl (by decide) rfl wt_319 dX11_rule_64 ?_
  have g4 : gI (sR u 35 0 t (some (cnt 6))) 10 0 3 = nI t := g9
  rw [g4]
  refine lv_iconst (v := 1) hx hb dX11_rule_67 (by decide) ?_
  refine lv_iadd hx hb dX11_rule_68 ?_
  have e11 : nI t + 1 = nI (t + 1) := nI_1 t
  rw [e11]
  refine r_setI hx hb hts hin xk_10 hown hK (xx_xh.mp hX) hG hO hS (i := 0) c10 (k := 3) rfl (by decide) rfl rfl (tyX11_ok 3 (by decide)) wt_319 dX11_rule_69 (fun H locs hH hO hS => ?_)
  refine lv_aload_n hx hb dX11_rule_72 rfl (lv_at hl 1 rfl) ?_
  refine r_getI hx hb hts hin xk_10 hown hK (xx_xh.mpr hH) (i := 0) c10 (k := 3) rfl (by decide) rfl wt_319 dX11_rule_73 ?_
  rw [gIs_eq]
  refine lv_iconst (v := 1) hx hb dX11_rule_76 (by decide) ?_
  refine lv_isub hx hb dX11_rule_77 ?_
  have e12 : nI (t + 1) - 1 = nI t := by rw [show (1 : Int32) = nI 1 from rfl, pk_sub (by omega), Nat.add_sub_cancel]
  rw [e12]
  refine W.widen (k := 3) (n := 439) (by omega) (by omega) ?_
  exact W.iret hx hb hr (fun t ht hW => ⟨ad1, hT1, hG, ⟨rfl, by rw [ht]; exact hH, hO, fun v hv => by cases hv; trivial⟩, hS.F ht⟩) hS.2.2 dX11_rule_78
