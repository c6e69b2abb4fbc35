/-! ===== dale(): a new Dale, then what its blocks from 8 on do ===== -/
theorem W_mono {p : Program} {l : Launch} {e : Env} {R : Room} {s : State} {m : MethodId} {args : Array Value} {below : List Frame} {meth : Method} {c : Code} {H : Heap} {locs : List Loc} {cells slots : Nat} {Q Q' : State → Prop} {g : JFrame} (h : ∀ t, Q t → Q' t) (k : W p l e R s m args below meth c H locs cells slots Q g) : W p l e R s m args below meth c H locs cells slots Q' g := fun T hT X => by
  obtain ⟨t, a, b⟩ := k T hT X
  exact ⟨t, a, h t b⟩
def cD (cnt : Nat → Nat) : Nat → Nat := cup (cup (cup (cup (cup (cup (cup cnt 13) 14) 15) 16) 17) 18) 1
def wD (n : Nat) (w : XW) : XW := wz (wz (wz (wz (wz (wz (wz w 13 n) 14 n) 15 n) 16 n) 17 n) 18 n) 1 n
/-- counts of a Dale's rows are its own -/
def cOK1 (cnt : Nat → Nat) : Prop := cnt 13 = cnt 1 ∧ cnt 14 = cnt 1 ∧ cnt 15 = cnt 1 ∧ cnt 16 = cnt 1 ∧ cnt 17 = cnt 1 ∧ cnt 18 = cnt 1
def XPa (D : va_G) (A : Nat → Prop) (ad : Nat → Nat → Nat) (cy : Nat → ClassId) (cnt : Nat → Nat) (w : XW) (U : State) : Prop :=
  (∀ q, U.heap.size ≤ q → A q) ∧ XH D A ad cy cnt w U.heap ∧ XD cnt w ∧ va_K D vwCl (xty cy) U ∧ XG ad cnt ∧ XZ A ad U ∧ 0 < cnt 10
def XQa (D : va_G) (A : Nat → Prop) (ad : Nat → Nat → Nat) (cy : Nat → ClassId) (cnt cnt' : Nat → Nat) (rr : XR) : Array Value → State → Outcome → State → Prop := fun a st oc t => ∃ ad', XT0 ad cnt ad' ∧ XG ad' cnt' ∧ XQ D A ad' cy cnt' rr a st oc t
set_option maxRecDepth 100000 in
set_option maxHeartbeats 4000000 in
theorem m_X11_dale (l : Launch) (D : va_G) (A : Nat → Prop) (ad : Nat → Nat → Nat) (cy : Nat → ClassId) (cnt : Nat → Nat) (w : XW) (rr : XR) (hc : cOK1 cnt) (hF : q_X11_dalet_8 (cnt 1) (wD (cnt 1) w) = some rr) : Met l yX11_dale (.code yX11_dale cX11_dale 3 (some .int) :: lw_ok) { frames := 8, cells := 7, slots := 44, locals := 180 } (va_Pc [.ref (ad 10 0)] (XPa D A ad cy cnt w)) (XQa D A ad cy cnt (cD cnt) rr) 7 44 A := by
  refine Met.ofW (cc := cX11_dale) (maxL := 3) (ret := some .int) (by decide) rfl ?_
  intro p e s m args below meth c s₁ B hml hv
  obtain ⟨rfl, hA, hH, hO, hK, hG, hZ, h0⟩ := hv
  have hx := B.exec
  have hb := B.bytes
  have hr := B.returns
  have hts := atoms_spec (ws := .code yX11_dale cX11_dale 3 (some .int) :: lw_ok) B.pre
  have hin : ∀ w ∈ lw_ok, w ∈ (Cond.code yX11_dale cX11_dale 3 (some .int) :: lw_ok) := fun w h => List.mem_cons_of_mem _ h
  have hown : s.vm.findClass RX11 = some m.cls := findClass_of_methodNamed B.named
  have hlocks := B.notSynchronized
  have hS : va_S A s.heap s.heap [] := va_S.rf
  have hl := lv_entry ([.ref (ad 10 0)]) (n := 3) (Nat.le_of_ble_eq_true rfl)
  rw [lg_entry_eq]
  generalize (lg_sl ([.ref (ad 10 0)]) ++ List.replicate (3 - (lg_sl ([.ref (ad 10 0)])).length) Slot.unset).toArray = ls at hl ⊢
  have hl : lv_has ls 3 [(0, .ref (ad 10 0))] := hl
  refine r_new hx hb hts hin xk_1 hown wt_88 wt_89 wt_4 hK (xx_xh.mpr hH) hS hA (fs := [.int 0, .int 0, .int 0, .int 0, .int 0, .int 0, .null, .null, .null, .null, .null, .null]) (by decide +kernel) (Nat.le_of_ble_eq_true rfl) (Nat.le_of_ble_eq_true rfl) dX11_dale_0 (fun b1 H hX hS => ?_)
  refine lv_dup hx hb dX11_dale_3 rfl ?_
  refine ri_call (va_runIN (As := []) (rest := [.ref b1]) (b := b1) (g := F0 m 4 ls (.ref b1 :: [.ref b1])) (nL := 3) (host := "WinterKeep") ⟨hx, hb, hml, hown, hts⟩ (i_X1_init l D A ad cy cnt [] w b1 hc.1 hc.2.1 hc.2.2.1 hc.2.2.2.1 hc.2.2.2.2.1 hc.2.2.2.2.2) ⟨va_cnB 0 hts (lw_okg wt_92) rfl rfl rfl (hZ.2.2.2.2 (RX11, 38, yX1_init) (List.mem_of_getElem? (i := 2) rfl)) (hts _ (hin _ wt_4)) (by decide +kernel) ⟨Nat.le_of_ble_eq_true rfl, Nat.le_of_ble_eq_true rfl⟩, rfl, hts _ (hin _ wt_91)⟩ ⟨xip_blind, fun U hU hW => ⟨rfl, fun q h => hA q (Nat.le_trans hS.1 (by rw [← hU]; exact h)), by rw [hU]; exact hX, hO, va_K.moved hW.alike hK, hG, xz_to hZ hU hW hS⟩⟩ rfl rfl hl.1 rfl (lv_room (Nat.le_of_ble_eq_true rfl)) dX11_dale_4 ⟨Nat.le_of_ble_eq_true rfl, Nat.le_of_ble_eq_true rfl⟩) hS (fun ad1 H locs hT1 hq1 hX hG hO hS => ?_)
  refine lv_astore_n (lv' := [(1, .ref b1), (0, .ref (ad 10 0))]) hx hb dX11_dale_7 rfl hl (by decide) rfl (fun ls hl => ?_)
  have hE : XE ((p, l, e, { frames := 8, cells := 7, slots := 44, locals := 180 }, s), (m, ([.ref (ad 10 0)] : List Value).toArray, below, meth, c), (cX11_dale, 3, RX11, some .int, .code yX11_dale cX11_dale 3 (some .int) :: lw_ok), (D, A, ad1, cy, cD cnt, 7, 44)) := ⟨hx, hb, hml, hown, hts, hin, hK, hG, hlocks, hr, xz_ad hZ hT1, Nat.le_refl _, Nat.le_refl _⟩
  obtain ⟨n, hrun⟩ := ev_to hF
  have hg := sndbs_run (s_X11_dalet 8 180 7 44 (Nat.le_refl _) (Nat.le_refl _) _ hE rfl rfl rfl rfl rfl) n 8 _ rr hrun
  refine W_mono (fun t ht => ?_) (hg H locs ls (xx_xh.mp hX) hO hS ⟨hl.1, hl.2.1, fun i v hv => ?_⟩ trivial)
  · obtain ⟨o, h1, h2, h3, h4⟩ := ht
    exact ⟨o, h1, h2, ⟨ad1, hT1, hG, h3⟩, h4⟩
  · have e0 : ad1 10 0 = ad 10 0 := hT1.1 10 0 h0
    match i, hv with
    | 0, hv =>
      cases hv
      refine ⟨?_, ?_⟩
      · show ls[0]? = some (.val (.ref (ad1 10 0)))
        rw [e0]
        exact lv_at hl 1 rfl
      · show 0 < cD cnt 10
        unfold cD
        rw [cup_ne (by decide), cup_ne (by decide), cup_ne (by decide), cup_ne (by decide), cup_ne (by decide), cup_ne (by decide), cup_ne (by decide)]
        exact h0
    | 1, hv =>
      cases hv
      refine ⟨?_, ?_⟩
      · show ls[1]? = some (.val (.ref (ad1 1 (cnt 1))))
        rw [hq1]
        exact lv_at hl 0 rfl
      · show cnt 1 < cD cnt 1
        unfold cD
        rw [cup_self, cup_ne (by decide), cup_ne (by decide), cup_ne (by decide), cup_ne (by decide), cup_ne (by decide), cup_ne (by decide)]
        exact Nat.lt_succ_self _
    | 2, hv => cases hv
    | i + 3, hv => simp at hv
