/-! ===== a Rule made; RuleReader.made ===== -/
theorem drn_0 : decode cX7_init 0 = .ok (.aload_n 0, 1) := by decide +kernel
theorem drn_1 : decode cX7_init 1 = .ok (.invokespecial 1, 3) := by decide +kernel
theorem drn_4 : decode cX7_init 4 = .ok (.aload_n 0, 1) := by decide +kernel
theorem drn_5 : decode cX7_init 5 = .ok (.aload_n 1, 1) := by decide +kernel
theorem drn_6 : decode cX7_init 6 = .ok (.putfield 7, 3) := by decide +kernel
theorem drn_9 : decode cX7_init 9 = .ok (.aload_n 0, 1) := by decide +kernel
theorem drn_10 : decode cX7_init 10 = .ok (.aload_n 2, 1) := by decide +kernel
theorem drn_11 : decode cX7_init 11 = .ok (.putfield 13, 3) := by decide +kernel
theorem drn_14 : decode cX7_init 14 = .ok (.aload_n 0, 1) := by decide +kernel
theorem drn_15 : decode cX7_init 15 = .ok (.iload_n 3, 1) := by decide +kernel
theorem drn_16 : decode cX7_init 16 = .ok (.putfield 16, 3) := by decide +kernel
theorem drn_19 : decode cX7_init 19 = .ok (.return_, 1) := by decide +kernel
def wRu (w : XW) (n : Nat) (v : Int32) : XW := sI (wz w 6 n) 6 n 2 v
theorem wRu_ne {w : XW} {n : Nat} {v : Int32} {κ' i' : Nat} (h : ¬ (κ' = 6 ∧ i' = n)) : gI (wRu w n v) κ' i' = gI w κ' i' ∧ gJ (wRu w n v) κ' i' = gJ w κ' i' ∧ gR (wRu w n v) κ' i' = gR w κ' i' ∧ gZ (wRu w n v) κ' i' = gZ w κ' i' := by
  obtain ⟨e1, e2, e3, e4⟩ := wz_ne (w := w) h
  exact ⟨by show gI (sI _ _ _ _ _) κ' i' = _; rw [gI_sI_ne h]; exact e1, e2, e3, e4⟩
set_option maxRecDepth 100000 in
set_option maxHeartbeats 4000000 in
theorem i_X7_init (l : Launch) (D : va_G) (A : Nat → Prop) (ad : Nat → Nat → Nat) (cy : Nat → ClassId) (cnt : Nat → Nat) (Y : va_W) (w : XW) (a : Nat) (v : Int32) (h26 : cnt 6 < cnt 26) (h27 : cnt 6 < cnt 27) : Met l yX7_init (.code yX7_init cX7_init 4 none :: lw_ok) { frames := 1, cells := 0, slots := 0, locals := 12 } (va_Pc [.ref a, .ref (ad 26 (cnt 6)), .ref (ad 27 (cnt 6)), .int v] (XIp D A ad cy cnt Y w a 6 [.null, .null, .int 0])) (XIq D A ad cy cnt Y a 6 (cnt 6) (cup cnt 6) (wRu w (cnt 6) v)) 0 0 A := by
  refine Met.ofW (cc := cX7_init) (maxL := 4) (ret := none) (by decide) rfl ?_
  intro p e s m args below meth c s₁ B hml hv
  obtain ⟨rfl, hA, hX, hO, hK, hG, hZ⟩ := hv
  have hx := B.exec
  have hb := B.bytes
  have hr := B.returns
  have hts := atoms_spec (ws := .code yX7_init cX7_init 4 none :: lw_ok) B.pre
  have hin : ∀ w ∈ lw_ok, w ∈ (Cond.code yX7_init cX7_init 4 none :: lw_ok) := fun w h => List.mem_cons_of_mem _ h
  have hown : s.vm.findClass RX7 = some m.cls := findClass_of_methodNamed B.named
  have hlocks := B.notSynchronized
  have hin2 : meth.name = "<init>" := (name_of_methodNamed B.named B.method).1
  have hS : va_S A s.heap s.heap [] := va_S.rf
  have hl := lv_entry ([.ref a, .ref (ad 26 (cnt 6)), .ref (ad 27 (cnt 6)), .int v]) (n := 4) (Nat.le_of_ble_eq_true rfl)
  rw [lg_entry_eq]
  generalize (lg_sl ([.ref a, .ref (ad 26 (cnt 6)), .ref (ad 27 (cnt 6)), .int v]) ++ List.replicate (4 - (lg_sl ([.ref a, .ref (ad 26 (cnt 6)), .ref (ad 27 (cnt 6)), .int v])).length) Slot.unset).toArray = ls at hl ⊢
  have hl : lv_has ls 4 [(0, .ref a), (1, .ref (ad 26 (cnt 6))), (2, .ref (ad 27 (cnt 6))), (3, .int v)] := hl
  refine lv_aload_n hx hb drn_0 rfl (lv_at hl 0 rfl) ?_
  refine W.objInit hx hb hown (hts _ (hin _ wt_585)) (hts _ (hin _ wt_28)) (hts _ (hin _ wobj)) rfl (by rw [hml]; exact hl.1) rfl drn_1 (Nat.le_of_ble_eq_true rfl) (Nat.le_of_ble_eq_true rfl) ?_
  refine W.eq (g2 := F0 m 4 ls []) rfl ?_
  refine lv_aload_n hx hb drn_4 rfl (lv_at hl 0 rfl) ?_
  refine lv_aload_n hx hb drn_5 rfl (lv_at hl 1 rfl) ?_
  refine r_putF hx hb hts hin xk_6 hown hK hX hS (k := 0) (v := .ref (ad 26 (cnt 6))) (by decide) rfl wt_586 rfl hin2 rfl (tyX7_ok 0 (by decide)) rfl rfl (Nat.le_of_ble_eq_true rfl) drn_6 (fun H locs hX hS => ?_)
  have hX : XX D A ad cy cnt ((a, .inr (6, [.ref (ad 26 (cnt 6)), .null, .int 0])) :: Y) w H := hX
  refine lv_aload_n hx hb drn_9 rfl (lv_at hl 0 rfl) ?_
  refine lv_aload_n hx hb drn_10 rfl (lv_at hl 2 rfl) ?_
  refine r_putF hx hb hts hin xk_6 hown hK hX hS (k := 1) (v := .ref (ad 27 (cnt 6))) (by decide) rfl wt_588 rfl hin2 rfl (tyX7_ok 1 (by decide)) rfl rfl (Nat.le_of_ble_eq_true rfl) drn_11 (fun H locs hX hS => ?_)
  have hX : XX D A ad cy cnt ((a, .inr (6, [.ref (ad 26 (cnt 6)), .ref (ad 27 (cnt 6)), .int 0])) :: Y) w H := hX
  refine lv_aload_n hx hb drn_14 rfl (lv_at hl 0 rfl) ?_
  refine lv_iload_n hx hb drn_15 rfl (lv_at hl 3 rfl) ?_
  refine r_putF hx hb hts hin xk_6 hown hK hX hS (k := 2) (v := .int v) (by decide) rfl wt_590 rfl hin2 rfl (tyX7_ok 2 (by decide)) rfl rfl (Nat.le_of_ble_eq_true rfl) drn_16 (fun H locs hX hS => ?_)
  have hX : XX D A ad cy cnt ((a, .inr (6, [.ref (ad 26 (cnt 6)), .ref (ad 27 (cnt 6)), .int v])) :: Y) w H := hX
  obtain ⟨hX1, hfr⟩ := xx_sealn (κ := 6) (n0 := cnt 6) (w' := wRu w (cnt 6) v) rfl hG hO hX (by
      rw [xcell_o (by decide)]
      generalize hwv : wRu w (cnt 6) v = wv
      generalize hav : adup ad 6 (cnt 6) a = av
      refine congrArg (fun z => Sum.inr (6, z)) ?_
      show ([.ref (ad 26 (cnt 6)), .ref (ad 27 (cnt 6)), .int v] : List Value) = [.ref (av 26 (cnt 6)), .ref (av 27 (cnt 6)), .int (gI wv 6 (cnt 6) 2)]
      have ev1 : av 26 (cnt 6) = ad 26 (cnt 6) := by rw [← hav]; exact adup_ne (fun h => absurd h.1 (by decide))
      have ev2 : av 27 (cnt 6) = ad 27 (cnt 6) := by rw [← hav]; exact adup_ne (fun h => absurd h.1 (by decide))
      have hI : gI wv 6 (cnt 6) 2 = v := by rw [← hwv]; exact gIs_eq
      rw [ev1, ev2, hI]) (fun κ' i' h => wRu_ne (fun z => by rw [z.1, z.2] at h; omega))
  have hGF : XG (adup ad 6 (cnt 6) a) (cup cnt 6) := xg_cup (κ := 6) (q := a) hG (by decide) hfr (fun k c0 h1 h2 => by
      have hm : c0 ∈ ((xcl[6]?).getD []) := List.mem_of_getElem? (xfc_at h1)
      have hc2 : c0 ∈ [(3, 26, 0, 0), (3, 27, 0, 0), (0, 0, 0, 0)] := hm
      simp only [List.mem_cons, List.not_mem_nil, or_false] at hc2
      rcases hc2 with rfl | rfl | rfl
      · show cnt 6 < cup cnt 6 26
        rw [cup_ne (by decide)]; exact h26
      · show cnt 6 < cup cnt 6 27
        rw [cup_ne (by decide)]; exact h27
      · exact absurd h2 (by decide))
  have hOF : XD (cup cnt 6) (wRu w (cnt 6) v) := xd_cup hO (fun κ' i' h => (wRu_ne (fun z => by rw [z.1, z.2] at h; omega)).2.2.1) (fun k c0 j h1 h2 h3 => by
      have e : gR (wRu w (cnt 6) v) 6 (cnt 6) = fun _ => none := wz_R
      rw [e] at h3; cases h3) (fun a0 k j h1 h2 h3 => by
      exact absurd h1 (by unfold xac; rw [if_pos (by decide)]; exact fun h => by cases h))
  exact W.vret hx hb hr (fun t ht hW => ⟨⟨rfl, _, xt0_up (by decide), adup_self, by rw [ht]; exact hX1, hOF, hGF⟩, hS.F ht⟩) hS.2.2 drn_19
theorem dmd_0 : decode cX8_made 0 = .ok (.new 45, 3) := by decide +kernel
theorem dmd_3 : decode cX8_made 3 = .ok (.dup, 1) := by decide +kernel
theorem dmd_4 : decode cX8_made 4 = .ok (.aload_n 0, 1) := by decide +kernel
theorem dmd_5 : decode cX8_made 5 = .ok (.getfield 9, 3) := by decide +kernel
theorem dmd_8 : decode cX8_made 8 = .ok (.aload_n 0, 1) := by decide +kernel
theorem dmd_9 : decode cX8_made 9 = .ok (.getfield 18, 3) := by decide +kernel
theorem dmd_12 : decode cX8_made 12 = .ok (.invokestatic 47, 3) := by decide +kernel
theorem dmd_15 : decode cX8_made 15 = .ok (.aload_n 0, 1) := by decide +kernel
theorem dmd_16 : decode cX8_made 16 = .ok (.getfield 15, 3) := by decide +kernel
theorem dmd_19 : decode cX8_made 19 = .ok (.iconst 3, 1) := by decide +kernel
theorem dmd_20 : decode cX8_made 20 = .ok (.aload_n 0, 1) := by decide +kernel
theorem dmd_21 : decode cX8_made 21 = .ok (.getfield 22, 3) := by decide +kernel
theorem dmd_24 : decode cX8_made 24 = .ok (.imul, 1) := by decide +kernel
theorem dmd_25 : decode cX8_made 25 = .ok (.invokestatic 47, 3) := by decide +kernel
theorem dmd_28 : decode cX8_made 28 = .ok (.aload_n 0, 1) := by decide +kernel
theorem dmd_29 : decode cX8_made 29 = .ok (.getfield 22, 3) := by decide +kernel
theorem dmd_32 : decode cX8_made 32 = .ok (.invokespecial 53, 3) := by decide +kernel
theorem dmd_35 : decode cX8_made 35 = .ok (.areturn, 1) := by decide +kernel
section Made
variable {p : Program} {l : Launch} {e : Env} {R : Room} {s : State} {m : MethodId} {args : Array Value} {below : List Frame} {meth : Method} {c : Code} {H : Heap} {locs : List Loc} {cells slots : Nat} {Q : State → Prop}
variable {cc : ByteArray} {pc : Nat} {ls : Array Slot} {rest : List Value} {D : va_G} {A : Nat → Prop} {ad : Nat → Nat → Nat} {cy : Nat → ClassId} {cnt : Nat → Nat} {Y : va_W} {w : XW}
/-- an int, read -/
theorem r_getI (hx : p.tables.exec = Jvm.exec) (hb : c.code = cc) {own C : String} {T : u_T} {ty : Nat → FieldType} {N κ i k index : Nat} {Ts : List Cond} (hts : ∀ w ∈ Ts, w.before args s = true) (hin : ∀ w ∈ lw_ok, w ∈ Ts) (hC : XK κ C T ty N) (hown : s.vm.findClass own = some m.cls) (hK : va_K D vwCl (xty cy) s) (hX : XX D A ad cy cnt Y w H) (hi : i < cnt κ) (hc : xfc κ k = some (0, 0, 0, 0)) (hkN : k < N) (hTC : (T k).1 = C) (hlk : Cond.fieldLink own index C (T k).2.1 (T k).2.2.1 ∈ lw_ok) (hd : decode cc pc = .ok (.getfield index, 3))
    (kk : W p l e R s m args below meth c H locs cells slots Q (F0 m (pc + 3) ls (.int (gI w κ i k) :: rest))) : W p l e R s m args below meth c H locs cells slots Q (F0 m pc ls (.ref (ad κ i) :: rest)) := by
  obtain ⟨L, f, hP, hD, hf⟩ := hX
  obtain ⟨h12, hcl, hws, hty, hnm⟩ := hC
  obtain ⟨g1, g2⟩ := hf κ i (Nat.lt_trans h12 (by decide)) hi
  obtain ⟨k0, hk0⟩ := va_pl_get (X := Y) (f := f) g1
  rw [g2, xcell_o h12] at hk0
  exact va_get (v := .int (gI w κ i k)) hx hb (own := own) (ref := C) (C := C) (T := T) (N := N) hts (fun w1 h1 => hin _ (hws w1 h1)) hown hK hP k0 hk0 hcl k hkN (hts _ (hin _ hlk)) (fun _ h9 => by rw [hTC] at h9; exact h9) (by rw [xfs_get (xfc_at hc)]; simp [xcv]) hd kk
/-- an int of an object of the pool, put -/
theorem r_setI (hx : p.tables.exec = Jvm.exec) (hb : c.code = cc) {own C : String} {T : u_T} {ty : Nat → FieldType} {N κ i k index : Nat} {v : Int32} {Ts : List Cond} (hts : ∀ w ∈ Ts, w.before args s = true) (hin : ∀ w ∈ lw_ok, w ∈ Ts) (hC : XK κ C T ty N) (hown : s.vm.findClass own = some m.cls) (hK : va_K D vwCl (xty cy) s) (hH : XH D A ad cy cnt w H) (hG : XG ad cnt) (hO : XD cnt w) (hS : va_S A s.heap H locs) (hi : i < cnt κ) (hc : xfc κ k = some (0, 0, 0, 0)) (hkN : k < N) (hTC : (T k).1 = C) (hT : (T k).2.2.2 = false) (hty0 : parseFieldDescriptor (T k).2.2.1 = some (.int)) (hlk : Cond.fieldLink own index C (T k).2.1 (T k).2.2.1 ∈ lw_ok) (hd : decode cc pc = .ok (.putfield index, 3))
    (kk : ∀ (H1 : Heap) (locs1 : List Loc), XH D A ad cy cnt (sI w κ i k v) H1 → XD cnt (sI w κ i k v) → va_S A s.heap H1 locs1 → W p l e R s m args below meth c H1 locs1 cells slots Q (F0 m (pc + 3) ls rest)) : W p l e R s m args below meth c H locs cells slots Q (F0 m pc ls (.int v :: .ref (ad κ i) :: rest)) := by
  obtain ⟨h12, hcl, hws, hty, hnm⟩ := hC
  obtain ⟨L0, f0, k0, hP, hD, hf, hk0, he⟩ := xH_cell hH (Nat.lt_trans h12 (by decide)) hi
  have hk1 := hk0
  rw [he, xcell_o h12] at hk1
  refine va_put (v := .int v) hx hb (own := own) (ref := C) (C := C) (T := T) (N := N) hts (fun w1 h1 => hin _ (hws w1 h1)) ty hty hnm hown hK hP hD hS k0 hk1 hcl k hkN (hts _ (hin _ hlk)) (fun _ h9 => by rw [hTC] at h9; exact h9) hT hty0 rfl rfl (by rw [xfs_len]; exact (List.getElem?_eq_some_iff.mp (xfc_at hc)).1) hd (fun H1 locs1 hP1 hD1 hS1 => kk H1 locs1 ?_ ⟨fun κ k c i j a1 a2 a3 a4 => hO.1 κ k c i j a1 a2 a3 a4, fun κ a i k j a1 a2 a3 a4 => hO.2 κ a i k j a1 a2 a3 a4⟩ hS1)
  refine xH_set hG (Nat.lt_trans h12 (by decide)) hi hD hf hk0 hP1 hD1 ?_ ?_
  · rw [xcell_o h12]
    refine congrArg (fun z => Sum.inr (κ, z)) (xfs_set (xfc_at hc) ?_ ?_)
    · simp [xcv, gI_sI_eq, upd]
    · intro j c' hj; unfold xcv; rw [gI_sI_eq, gJ_sI, gR_sI]; simp [upd, hj]
  · intro κ1 i1 hne
    exact xcell_congr (gI_sI_ne hne) rfl rfl rfl
/-- a call that answers something new -/
theorem rc_call {mc ms κ n : Nat} {cnt' : Nat → Nat} {w' : XW} {st0 : List Value} {as : Array Value} (hr : va_Run p l e R s m args below meth c H locs cells slots mc ms (F0 m pc ls st0) rest (XCq D A ad cy cnt Y κ n cnt' w' as) A) (hS : va_S A s.heap H locs)
    (kk : ∀ (q : Nat) (ad' : Nat → Nat → Nat) (H1 : Heap) (locs1 : List Loc), XT0 ad cnt ad' → ad' κ n = q → XX D A ad' cy cnt' Y w' H1 → XG ad' cnt' → XD cnt' w' → va_S A s.heap H1 locs1 → W p l e R s m args below meth c H1 locs1 (cells + mc) (slots + ms) Q (F0 m (pc + 3) ls (.ref q :: rest))) : W p l e R s m args below meth c H locs cells slots Q (F0 m pc ls st0) := by
  intro T hT X
  obtain ⟨v, st₀, t, T', L, h0, X', hL, e1, e2, ⟨⟨q, ad', hv, hT1, ha, hX1, hO1, hG1⟩, hz, hk⟩, st⟩ := hr T hT X
  have hv' : v = some (.ref q) := Outcome.returned.inj hv
  subst hv'
  rw [h0] at hz hk
  obtain ⟨t2, a1, b1⟩ := kk q ad' T'.heap (locs ++ L) hT1 ha (by rw [e1]; exact hX1) hG1 hO1
    ⟨Nat.le_trans hS.1 (by rw [e1]; exact hz), fun q h1 h2 => by rw [e1, hk q (Nat.lt_of_lt_of_le h1 hS.1) h2]; exact hS.2.1 q h1 h2, fun q hq => by
      rcases List.mem_append.mp hq with h | h
      · exact hS.2.2 q h
      · exact hL q h⟩ T' rfl X'
  exact ⟨t2, st t2 a1, b1⟩
end Made
