/-! ===== the law's two calls that make something ===== -/
section LMake
variable {p : Program} {l : Launch} {e : Env} {R : Room} {s : State} {m : MethodId} {args : Array Value} {below : List Frame} {meth : Method} {c : Code} {H : Heap} {locs : List Loc} {cells slots : Nat} {Q : State → Prop}
variable {pc : Nat} {ls : Array Slot} {rest : List Value} {D : va_G} {A : Nat → Prop} {ad : Nat → Nat → Nat} {cy : Nat → ClassId} {cnt : Nat → Nat}
theorem xa_call {mc ms : Nat} {cnt' : Nat → Nat} {rr : XR} {st0 : List Value} {as : Array Value} (hr : va_Run p l e R s m args below meth c H locs cells slots mc ms (F0 m pc ls st0) rest (XQa D A ad cy cnt cnt' rr as) A) (hS : va_S A s.heap H locs)
    (kk : ∀ (ad' : Nat → Nat → Nat) (H1 : Heap) (locs1 : List Loc), XT0 ad cnt ad' → XG ad' cnt' → XH D A ad' cy cnt' rr.2 H1 → XD cnt' rr.2 → va_S A s.heap H1 locs1 → W p l e R s m args below meth c H1 locs1 (cells + mc) (slots + ms) Q (F0 m (pc + 3) ls ((rr.1.map (cv ad')).toList ++ rest))) : W p l e R s m args below meth c H locs cells slots Q (F0 m pc ls st0) := by
  intro T hT X
  obtain ⟨v, st₀, t, T', L, h0, X', hL, e1, e2, ⟨ad', hT1, hG1, ⟨hv, hH1, hO1, hok⟩, hz, hk⟩, st⟩ := hr T hT X
  have hv' : v = rr.1.map (cv ad') := Outcome.returned.inj hv
  subst hv'
  rw [h0] at hz hk
  obtain ⟨t2, a1, b1⟩ := kk ad' T'.heap (locs ++ L) hT1 hG1 (by rw [e1]; exact hH1) hO1
    ⟨Nat.le_trans hS.1 (by rw [e1]; exact hz), fun q h1 h2 => by rw [e1, hk q (Nat.lt_of_lt_of_le h1 hS.1) h2]; exact hS.2.1 q h1 h2, fun q hq => by
      rcases List.mem_append.mp hq with h | h
      · exact hS.2.2 q h
      · exact hL q h⟩ T' rfl X'
  exact ⟨t2, st t2 a1, b1⟩
end LMake
theorem xpa_blind {D : va_G} {A : Nat → Prop} {ad : Nat → Nat → Nat} {cy : Nat → ClassId} {cnt : Nat → Nat} {w : XW} {as : List Value} : FrameBlind (va_Pc as (XPa D A ad cy cnt w)) := by
  intro a1 U g mk q
  obtain ⟨q0, q1, q2, q3, q4, q5, q6, q7⟩ := q
  exact ⟨q0, q1, q2, q3, va_K.moved (u := U) (U := U.calling g mk a1) (Vm.Alike.refl U.vm) q4, q5, xz_call q6 g mk a1, q7⟩
theorem lw_cast {s : State} {b : Nat} (hts : ∀ w ∈ lw_tbl, w.before #[Value.ref b] s = true) : va_Nw (.castable "[I" "java/lang/Cloneable") s :=
  va_Nw.of rfl (hts _ (List.mem_append_right _ (List.mem_of_getElem? (i := 574) (by decide +kernel))))
theorem cD_ok {cnt : Nat → Nat} (h : cOk cnt) : cOk (cD cnt) := by
  obtain ⟨⟨a1, a2, a3, a4, a5, a6⟩, ⟨b1, b2⟩, b3, b4, b5⟩ := h
  have n2 : cD cnt 2 = cnt 2 := by unfold cD; rw [cup_ne (by decide), cup_ne (by decide), cup_ne (by decide), cup_ne (by decide), cup_ne (by decide), cup_ne (by decide), cup_ne (by decide)]
  have n6 : cD cnt 6 = cnt 6 := by unfold cD; rw [cup_ne (by decide), cup_ne (by decide), cup_ne (by decide), cup_ne (by decide), cup_ne (by decide), cup_ne (by decide), cup_ne (by decide)]
  have n26 : cD cnt 26 = cnt 26 := by unfold cD; rw [cup_ne (by decide), cup_ne (by decide), cup_ne (by decide), cup_ne (by decide), cup_ne (by decide), cup_ne (by decide), cup_ne (by decide)]
  have n27 : cD cnt 27 = cnt 27 := by unfold cD; rw [cup_ne (by decide), cup_ne (by decide), cup_ne (by decide), cup_ne (by decide), cup_ne (by decide), cup_ne (by decide), cup_ne (by decide)]
  have n10 : cD cnt 10 = cnt 10 := by unfold cD; rw [cup_ne (by decide), cup_ne (by decide), cup_ne (by decide), cup_ne (by decide), cup_ne (by decide), cup_ne (by decide), cup_ne (by decide)]
  have n11 : cD cnt 11 = cnt 11 := by unfold cD; rw [cup_ne (by decide), cup_ne (by decide), cup_ne (by decide), cup_ne (by decide), cup_ne (by decide), cup_ne (by decide), cup_ne (by decide)]
  have m1 : cD cnt 1 = cnt 1 + 1 := by unfold cD; rw [cup_self, cup_ne (by decide), cup_ne (by decide), cup_ne (by decide), cup_ne (by decide), cup_ne (by decide), cup_ne (by decide)]
  have m13 : cD cnt 13 = cnt 13 + 1 := by unfold cD; rw [cup_ne (by decide), cup_ne (by decide), cup_ne (by decide), cup_ne (by decide), cup_ne (by decide), cup_ne (by decide), cup_self]
  have m14 : cD cnt 14 = cnt 14 + 1 := by unfold cD; rw [cup_ne (by decide), cup_ne (by decide), cup_ne (by decide), cup_ne (by decide), cup_ne (by decide), cup_self, cup_ne (by decide)]
  have m15 : cD cnt 15 = cnt 15 + 1 := by unfold cD; rw [cup_ne (by decide), cup_ne (by decide), cup_ne (by decide), cup_ne (by decide), cup_self, cup_ne (by decide), cup_ne (by decide)]
  have m16 : cD cnt 16 = cnt 16 + 1 := by unfold cD; rw [cup_ne (by decide), cup_ne (by decide), cup_ne (by decide), cup_self, cup_ne (by decide), cup_ne (by decide), cup_ne (by decide)]
  have m17 : cD cnt 17 = cnt 17 + 1 := by unfold cD; rw [cup_ne (by decide), cup_ne (by decide), cup_self, cup_ne (by decide), cup_ne (by decide), cup_ne (by decide), cup_ne (by decide)]
  have m18 : cD cnt 18 = cnt 18 + 1 := by unfold cD; rw [cup_ne (by decide), cup_self, cup_ne (by decide), cup_ne (by decide), cup_ne (by decide), cup_ne (by decide), cup_ne (by decide)]
  unfold cOk cOK1
  rw [n2, n6, n26, n27, n10, n11, m1, m13, m14, m15, m16, m17, m18]
  omega
theorem cM_ok {cnt : Nat → Nat} (h : cOk cnt) : cOk (cM cnt) := by
  obtain ⟨⟨a1, a2, a3, a4, a5, a6⟩, ⟨b1, b2⟩, b3, b4, b5⟩ := h
  have z : ∀ κ, κ ≠ 26 → κ ≠ 27 → κ ≠ 6 → cM cnt κ = cnt κ := fun κ h1 h2 h3 => by unfold cM; rw [cup_ne h3, cup_ne h2, cup_ne h1]
  have m6 : cM cnt 6 = cnt 6 + 1 := by unfold cM; rw [cup_self, cup_ne (by decide), cup_ne (by decide)]
  have m26 : cM cnt 26 = cnt 26 + 1 := by unfold cM; rw [cup_ne (by decide), cup_ne (by decide), cup_self]
  have m27 : cM cnt 27 = cnt 27 + 1 := by unfold cM; rw [cup_ne (by decide), cup_self, cup_ne (by decide)]
  unfold cOk cOK1
  rw [m6, m26, m27, z 1 (by decide) (by decide) (by decide), z 2 (by decide) (by decide) (by decide), z 10 (by decide) (by decide) (by decide), z 11 (by decide) (by decide) (by decide), z 13 (by decide) (by decide) (by decide), z 14 (by decide) (by decide) (by decide), z 15 (by decide) (by decide) (by decide), z 16 (by decide) (by decide) (by decide), z 17 (by decide) (by decide) (by decide), z 18 (by decide) (by decide) (by decide)]
  omega
theorem pI_inv {rr : XR} {a : Int32} {w : XW} (h : pI rr = some (a, w)) : rr = (some (.inl (.int a)), w) := by
  unfold pI at h
  split at h
  · cases h; rfl
  · cases h
theorem gv_23 : GoodIn lw_tbl (wsV R_law 23 RX11 yX11_dale (.code yX11_dale cX11_dale 3 (some .int) :: lw_ok)) := by
  intro w0 hw0
  have hw1 : w0 ∈ lw_ok := by
    rcases List.mem_append.mp hw0 with h9 | h9
    · simp only [List.mem_cons, List.not_mem_nil, or_false] at h9
      rcases h9 with rfl | rfl | rfl | rfl
      · exact wt_389
      · exact wt_390
      · exact wt_391
      · exact wt_1
    · rcases List.mem_cons.mp h9 with rfl | h9
      · exact wt_392
      · exact h9
  exact ⟨lw_oki _ hw1, good_of_word (List.mem_filter.mp hw1).2⟩
theorem gv_28 : GoodIn lw_tbl (wsV R_law 28 RX11 yX11_rule (.code yX11_rule cX11_rule 2 (some .int) :: lw_ok)) := by
  intro w0 hw0
  have hw1 : w0 ∈ lw_ok := by
    rcases List.mem_append.mp hw0 with h9 | h9
    · simp only [List.mem_cons, List.not_mem_nil, or_false] at h9
      rcases h9 with rfl | rfl | rfl | rfl
      · exact wt_505
      · exact wt_506
      · exact wt_507
      · exact wt_1
    · rcases List.mem_cons.mp h9 with rfl | h9
      · exact wt_508
      · exact h9
  exact ⟨lw_oki _ hw1, good_of_word (List.mem_filter.mp hw1).2⟩
theorem law_dale {p : Program} {l : Launch} {e : Env} {s : State} {m : MethodId} {below : List Frame} {meth : Method} {c : Code} {b L k : Nat} {xs : Nat → Int32} {D : va_G} {cy : Nat → ClassId} {ad : Nat → Nat → Nat} {cnt : Nat → Nat} {w : XW} {H : Heap} {locs : List Loc} {ls : Array Slot} {cs sl : Nat} {Q : State → Prop} (hC : LwC p s m c b L xs D cy) (hs : LwS s D cy b k ad cnt w H locs ls) (hcs : cs + 7 ≤ 600000) (hsl : sl + 44 ≤ 7302250)
    (kk : ∀ (ad' : Nat → Nat → Nat) (cnt' : Nat → Nat) (w2 : XW) (H1 : Heap) (locs1 : List Loc), LwS s D cy b k ad' cnt' w2 H1 locs1 ls → W p l e room_1 s m #[Value.ref b] below meth c H1 locs1 (cs + 7) (sl + 44) Q (F0 m 1223 ls [])) : W p l e room_1 s m #[Value.ref b] below meth c H locs cs sl Q (F0 m 274 ls []) := by
  obtain ⟨hx, hb, hml, hown, hts, hX, hbl, hK, hL⟩ := hC
  obtain ⟨hH, hO, hG, hZ, hS, hl, hR, hc⟩ := hs
  have h10 := hc.2.2.2.1
  have h11 := hc.2.2.2.2
  have hF1 : Fs1 w (cnt 1) := ⟨fun j hj => hO.1 10 5 _ 0 j rfl rfl h10 hj, fun k j hk hj => hO.1 2 1 _ k j rfl rfl (Nat.lt_of_lt_of_le hk hc.2.1.2) hj⟩
  obtain ⟨a, w1, w2, x1, x2, hR2⟩ := st_dale hR hF1
  have x1 : (q_X11_dalet_8 (cnt 1) (wD (cnt 1) w)).bind pI = some (a, w1) := x1
  obtain ⟨rr, y1, y2⟩ := Option.bind_eq_some_iff.mp x1
  have y3 := pI_inv y2
  subst y3
  refine lv_aload_n hx hb dL_274 rfl (lv_at hl 2 rfl) ?_
  obtain ⟨L0, f0, k0, hP0, hD0, hf0, hk0, he0⟩ := xH_cell hH (κ := 10) (i := 0) (by decide) h10
  rw [he0, xcell_o (by decide)] at hk0
  refine xa_call (va_runV (As := []) (rest := []) (b := ad 10 0) (g := F0 m 275 ls (.ref (ad 10 0) :: [])) (nL := 4) ⟨hx, hb, hml, hown, hts⟩ (m_X11_dale l D (lA s) ad cy cnt w _ hc.1 y1) (cwV 0 hts gv_23 rfl rfl rfl ⟨rfl, by decide, by decide, by decide +kernel⟩ ⟨Nat.le_of_ble_eq_true rfl, Nat.le_of_ble_eq_true rfl⟩) ⟨xpa_blind, va_recv hK hP0 xk_10.2.1 hk0, fun U hU hW => ⟨rfl, fun q h => Nat.le_trans hS.1 (by rw [← hU]; exact h), by rw [hU]; exact hH, hO, va_K.moved hW.alike hK, hG, xz_to hZ hU hW hS, h10⟩⟩ rfl rfl hl.1 rfl (lv_room (Nat.le_of_ble_eq_true rfl)) dL_275 ⟨hcs, hsl⟩) hS (fun ad1 H locs hT1 hG hH hO hS => ?_)
  have hZ := xz_ad hZ hT1
  have e10 : ad1 10 0 = ad 10 0 := hT1.1 10 0 h10
  have e11 : ad1 11 0 = ad 11 0 := hT1.1 11 0 h11
  have hl : lv_has ls 4 [(3, .int (nI (6 * k))), (2, .ref (ad1 11 0)), (1, .ref (ad1 10 0)), (0, .ref b)] := by rw [e10, e11]; exact hl
  have hc := cD_ok hc
  refine lv_aload_n hx hb dL_278 rfl (lv_at hl 1 rfl) ?_
  refine y_vcall (nL := 4) (as := []) (i := 0) (rest := [.int a]) (rr := (some (.inl (.int a)), w2)) hx hb hml hown hts lw_oki hK hG hZ hH hO hS hl.1 hcs hsl m_X12_dale vL_27 ⟨Nat.le_of_ble_eq_true rfl, Nat.le_of_ble_eq_true rfl⟩ dL_279 rfl ⟨hc.2.2.2.2, trivial⟩ (Nat.le_of_ble_eq_true rfl) (by unfold eI; rw [x2]; rfl) (fun H locs hH hO _ hS => ?_)
  exact lv_icmp_eq (tgt := 1223) hx hb dL_282 (by decide) (fun _ => kk ad1 (cD cnt) w2 H locs ⟨hH, hO, hG, hZ, hS, hl, hR2, hc⟩) (fun cb => absurd rfl cb)
/-- rule() of the program, whichever way it goes -/
theorem mm_rule (l : Launch) (D : va_G) (A : Nat → Prop) (ad : Nat → Nat → Nat) (cy : Nat → ClassId) (cnt : Nat → Nat) (w : XW) (hc : cOk cnt) (hR : Rel w) {a : Int32} {w1 : XW} (hF : FRule (MkR (cnt 6)) (cnt 6) w = some (a, w1)) : ∃ cnt', cOk cnt' ∧ Met l yX11_rule (.code yX11_rule cX11_rule 2 (some .int) :: lw_ok) { frames := 330, cells := 3, slots := 439, locals := 8000 } (va_Pc [.ref (ad 10 0)] (XMp D A ad cy cnt w)) (XQa D A ad cy cnt cnt' (some (.inl (.int a)), w1)) 3 439 A := by
  obtain ⟨g, hg, -, ho⟩ := hR
  obtain ⟨⟨d, s, rs, f⟩, hs, no, sx, im, tn, tb⟩ := g
  have hT : TOk2 (tn, tb) := ⟨ho.2.2.2.2.2.1, ho.2.2.2.2.2.2⟩
  have hr6 : rs.length ≤ 6 := ho.1.2.2.2.1
  have g3 : gI w 10 0 3 = nI rs.length := hg.1.2.2.1.1
  by_cases c6 : gI w 10 0 3 < 6
  · have c6' : rs.length < 6 := by
      rcases Nat.lt_or_ge rs.length 6 with h | h
      · exact h
      · have : rs.length = 6 := by omega
        rw [g3, this] at c6
        exact absurd c6 (by decide)
    obtain ⟨w', F1, r1⟩ := c_rule hT (show CT w tn tb from hg.2.2.2.2.2)
    cases hr : rlS (tn, tb) with
    | inl fl =>
      rw [hr] at r1
      obtain ⟨r1, r2⟩ := r1
      refine ⟨cnt, hc, m_rule_a l D A ad cy cnt w _ hc.2.2.2.1 ?_⟩
      unfold FRule at hF
      rw [decide_eq_true c6, cond_true, r1, Option.bind_some] at hF
      have hF : some (-2 - gI w' 9 0 5, sI w' 9 0 1 0) = some (a, w1) := hF
      obtain ⟨ha, hw⟩ := Prod.mk.inj (Option.some.inj hF)
      rw [← ha, ← hw, e_X11_rulet_0, decide_eq_true c6, cond_true, e_X11_rulet_11, r1, Option.bind_some]
      show q_X11_rulet_35 (sI w' 9 0 1 0) = _
      rw [e_X11_rulet_35, gIs_k (by omega)]
    | inr q =>
      have hJ := rr_ok hT 13 _ _ (Jr0 (tn, tb)) q hr
      obtain ⟨sq, rl⟩ := q
      rw [hr] at r1
      obtain ⟨r1, e1, e2, e3, e4⟩ := r1
      have e1 : gI w' 7 0 2 = nI sq.2.2.length := e1
      have e3 : gI w' 7 0 3 = nI rl.length := e3
      obtain ⟨j1, j2, j3, j5, j6, j7⟩ := hJ
      have j1 : sq.1 ≤ tn := j1
      have j3 : sq.2.2.length ≤ sq.1 := j3
      have j6 : rl.length ≤ 12 := j6
      have h400 : tn ≤ 400 := hT.1
      have f3 : gI w' 10 0 3 = nI rs.length := by rw [(F1 10 0 3 (by unfold PCL; omega)).1]; exact g3
      refine ⟨cM cnt, cM_ok hc, ?_⟩
      have hm := m_rule_b l D A ad cy cnt w w' 1 hc.2.1.1 hc.2.2.1 hc.2.2.2.1 c6' g3 r1 (by decide) f3 e1 (by omega) e3 j6
      have hE : (a, w1) = (nI rs.length, sI (sR (wM (cnt 6) sq.2.2.length rl.length (sI w' 9 0 1 0)) 35 0 rs.length (some (cnt 6))) 10 0 3 (nI (rs.length + 1))) := by
        unfold FRule at hF
        rw [decide_eq_true c6, cond_true, r1, Option.bind_some] at hF
        have hF : some (gI w 10 0 3, sI (sR (MkR (cnt 6) (sI w' 9 0 1 0)) 35 0 (gI w 10 0 3).toNatClampNeg (some (cnt 6))) 10 0 3 (gI w 10 0 3 + 1)) = some (a, w1) := hF
        rw [mkR_eq (k1 := sq.2.2.length) (k2 := rl.length) (by rw [gIs_n (by omega)]; exact e1) (by omega) (by rw [gIs_n (by omega)]; exact e3) j6, g3, cl (by omega), nI_1] at hF
        exact (Option.some.inj hF).symm
      cases hE
      exact hm
  · refine ⟨cnt, hc, m_rule_a l D A ad cy cnt w _ hc.2.2.2.1 ?_⟩
    unfold FRule at hF
    rw [decide_eq_false c6, cond_false] at hF
    cases hF
    rw [e_X11_rulet_0, decide_eq_false c6, cond_false, e_X11_rulet_9]
theorem law_rule {p : Program} {l : Launch} {e : Env} {s : State} {m : MethodId} {below : List Frame} {meth : Method} {c : Code} {b L k : Nat} {xs : Nat → Int32} {D : va_G} {cy : Nat → ClassId} {ad : Nat → Nat → Nat} {cnt : Nat → Nat} {w : XW} {H : Heap} {locs : List Loc} {ls : Array Slot} {cs sl : Nat} {Q : State → Prop} (hC : LwC p s m c b L xs D cy) (hs : LwS s D cy b k ad cnt w H locs ls) (hcs : cs + 3 ≤ 600000) (hsl : sl + 439 ≤ 7302250)
    (kk : ∀ (ad' : Nat → Nat → Nat) (cnt' : Nat → Nat) (w2 : XW) (H1 : Heap) (locs1 : List Loc), LwS s D cy b k ad' cnt' w2 H1 locs1 ls → W p l e room_1 s m #[Value.ref b] below meth c H1 locs1 (cs + 3) (sl + 439) Q (F0 m 1223 ls [])) : W p l e room_1 s m #[Value.ref b] below meth c H locs cs sl Q (F0 m 287 ls []) := by
  obtain ⟨hx, hb, hml, hown, hts, hX, hbl, hK, hL⟩ := hC
  obtain ⟨hH, hO, hG, hZ, hS, hl, hR, hc⟩ := hs
  have h10 := hc.2.2.2.1
  have h11 := hc.2.2.2.2
  have h35 : 0 < cnt 35 := hG.2.2 10 2 (3, 35, 1, 0) 0 rfl rfl h10
  have hF6 : Fs6 w (cnt 6) := fun t j _ hj => hO.2 35 _ 0 t j rfl (by decide) h35 hj
  obtain ⟨a, w1, w2, x1, x2, hR2⟩ := st_rule hR hF6 (mkR_ok (cnt 6))
  obtain ⟨cnt', hc', hM⟩ := mm_rule l D (lA s) ad cy cnt w hc hR x1
  refine lv_aload_n hx hb dL_287 rfl (lv_at hl 2 rfl) ?_
  obtain ⟨L0, f0, k0, hP0, hD0, hf0, hk0, he0⟩ := xH_cell hH (κ := 10) (i := 0) (by decide) h10
  rw [he0, xcell_o (by decide)] at hk0
  refine xa_call (va_runV (As := []) (rest := []) (b := ad 10 0) (g := F0 m 288 ls (.ref (ad 10 0) :: [])) (nL := 4) ⟨hx, hb, hml, hown, hts⟩ hM (cwV 0 hts gv_28 rfl rfl rfl ⟨rfl, by decide, by decide, by decide +kernel⟩ ⟨Nat.le_of_ble_eq_true rfl, Nat.le_of_ble_eq_true rfl⟩) ⟨xmp_blind, va_recv hK hP0 xk_10.2.1 hk0, fun U hU hW => ⟨rfl, ⟨fun q h => Nat.le_trans hS.1 (by rw [← hU]; exact h), by rw [hU]; exact xx_xh.mpr hH, hO, va_K.moved hW.alike hK, hG, va_Nw.warmC hW (lw_cast hts)⟩, xz_to hZ hU hW hS⟩⟩ rfl rfl hl.1 rfl (lv_room (Nat.le_of_ble_eq_true rfl)) dL_288 ⟨hcs, hsl⟩) hS (fun ad1 H locs hT1 hG hH hO hS => ?_)
  have hZ := xz_ad hZ hT1
  have e10 : ad1 10 0 = ad 10 0 := hT1.1 10 0 h10
  have e11 : ad1 11 0 = ad 11 0 := hT1.1 11 0 h11
  have hl : lv_has ls 4 [(3, .int (nI (6 * k))), (2, .ref (ad1 11 0)), (1, .ref (ad1 10 0)), (0, .ref b)] := by rw [e10, e11]; exact hl
  refine lv_aload_n hx hb dL_291 rfl (lv_at hl 1 rfl) ?_
  refine y_vcall (nL := 4) (as := []) (i := 0) (rest := [.int a]) (rr := (some (.inl (.int a)), w2)) hx hb hml hown hts lw_oki hK hG hZ hH hO hS hl.1 hcs hsl m_X12_rule vL_31 ⟨Nat.le_of_ble_eq_true rfl, Nat.le_of_ble_eq_true rfl⟩ dL_292 rfl ⟨hc'.2.2.2.2, trivial⟩ (Nat.le_of_ble_eq_true rfl) (by unfold eI; rw [x2]; rfl) (fun H locs hH hO _ hS => ?_)
  exact lv_icmp_eq (tgt := 1223) hx hb dL_295 (by decide) (fun _ => kk ad1 cnt' w2 H locs ⟨hH, hO, hG, hZ, hS, hl, hR2, hc'⟩) (fun cb => absurd rfl cb)
