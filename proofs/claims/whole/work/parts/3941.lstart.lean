/-! ===== the law's start ===== -/
theorem lw_c0 : ∀ κ, κ < 65 → lk LQ0 κ = 0 := fun κ h => (by decide +kernel : ∀ q : Fin 65, lk LQ0 q.1 = 0) ⟨κ, h⟩
theorem lw_XD0 : XD (lk LQ0) wZ := ⟨fun κ k c i j h1 h2 h3 h4 => (by change none = some j at h4; cases h4), fun κ a i k j h1 h2 h3 h4 => (by change none = some j at h4; cases h4)⟩
theorem xfc_lt {κ k : Nat} {c : XC} (h : xfc κ k = some c) : κ < 12 := by
  rcases Nat.lt_or_ge κ 12 with h1 | h1
  · exact h1
  · have e : xcl[κ]? = none := List.getElem?_eq_none (by show 12 ≤ κ; exact h1)
    unfold xfc at h
    rw [e] at h
    cases h
theorem lw_XG0 (ad : Nat → Nat → Nat) : XG ad (lk LQ0) := by
  refine ⟨fun κ i κ' i' h1 h2 h3 h4 _ => ?_, ⟨rfl, rfl⟩, fun κ k c i h1 h2 h3 => ?_⟩
  · rw [lw_c0 κ h1] at h3
    exact absurd h3 (Nat.not_lt_zero _)
  · have h12 : κ < 12 := xfc_lt h1
    rw [lw_c0 κ (by omega)] at h3
    exact absurd h3 (Nat.not_lt_zero _)
theorem lw_XX0 (D : va_G) (A : Nat → Prop) (ad : Nat → Nat → Nat) (cy : Nat → ClassId) (H : Heap) : XX D A ad cy (lk LQ0) [] wZ H := by
  refine ⟨[], fun _ => .inr (0, []), fun k q h => ?_, ⟨fun i j p q h1 h2 _ => ?_, fun k q h => ?_⟩, fun κ i h1 h2 => ?_⟩
  · simp [va_pl] at h
  · simp [va_pl] at h1
  · simp [va_pl] at h
  · rw [lw_c0 κ h1] at h2
    exact absurd h2 (Nat.not_lt_zero _)
theorem lw_okT {c' : Cond} (h : c' ∈ lw_ok) : GoodIn lw_tbl (c' :: lw_ok) := by
  intro w hw
  have h2 : w ∈ lw_ok := by
    rcases List.mem_cons.mp hw with rfl | h3
    · exact h
    · exact h3
  exact ⟨lw_oki _ h2, good_of_word (List.mem_filter.mp h2).2⟩
theorem xip_blind3 {D : va_G} {A : Nat → Prop} {ad : Nat → Nat → Nat} {cy : Nat → ClassId} {cnt : Nat → Nat} {Y : va_W} {w : XW} {a κ : Nat} {raw : List Value} {as : List Value} : FrameBlind (va_Pc as (fun U => XIp D A ad cy cnt Y w a κ raw U ∧ va_AO RX3 U ∧ va_AO RX7 U ∧ va_AO RX9 U)) := by
  intro a1 U g mk q
  obtain ⟨q0, ⟨q1, q2, q3, q4, q5, q6⟩, q7, q8, q9⟩ := q
  have hv : U.vm.Alike (U.calling g mk a1).vm := Vm.Alike.refl U.vm
  exact ⟨q0, ⟨q1, q2, q3, va_K.moved (u := U) (U := U.calling g mk a1) hv q4, q5, xz_call q6 g mk a1⟩, va_AO.moved hv q7, va_AO.moved hv q8, va_AO.moved hv q9⟩
/-- YOUR PART: from the entry, for every script of at most 3072 ints, the law comes to its end with true ('hflags': the launch's flags, for a law that throws: no stack traces) -/
theorem whole_start {p : Program} {e : Env} {s : State} {m : MethodId} {below : List Frame} {meth : Method} {c : Code} (l : Launch) (hflags : l.flags = flags0) {b L : Nat} {xs : Nat → Int32} (hL : L ≤ 3072) (C0 : lw_At p s m meth c b L xs) : W p l e room_1 s m #[Value.ref b] below meth c s.heap [] 0 0 (lw_Z below #[Value.ref b] s) (entryFrame m ([Value.ref b] : List Value).toArray 4) := by
  obtain ⟨hx, hb, hr, hml, hown, hts, hX0, hbl, hlocks, hgv⟩ := C0
  obtain ⟨D, cy, hK⟩ := st_K hts
  obtain ⟨ad, hZ⟩ := st_XZ hgv hts
  have hZ : XZ (lA s) ad s := hZ
  have hC : LwC p s m c b L xs D cy := ⟨hx, hb, hml, hown, hts, hX0, hbl, hK, hL⟩
  have hA3 : va_AO RX3 s := va_AO.of (hts _ (List.mem_append_right _ (List.mem_of_getElem? (i := 280) (by decide +kernel))))
  have hA7 : va_AO RX7 s := va_AO.of (hts _ (List.mem_append_right _ (List.mem_of_getElem? (i := 87) (by decide +kernel))))
  have hA9 : va_AO RX9 s := va_AO.of (hts _ (List.mem_append_right _ (List.mem_of_getElem? (i := 281) (by decide +kernel))))
  have hS : va_S (lA s) s.heap s.heap [] := va_S.rf
  have hA : ∀ q, s.heap.size ≤ q → lA s q := fun _ h => h
  have hl := lv_entry ([.ref b]) (n := 4) (Nat.le_of_ble_eq_true rfl)
  rw [lg_entry_eq]
  generalize (lg_sl ([.ref b]) ++ List.replicate (4 - (lg_sl ([.ref b])).length) Slot.unset).toArray = ls at hl ⊢
  have hl : lv_has ls 4 [(0, .ref b)] := hl
  refine r_new hx hb hts lw_oki xk_10 hown wt_22 wt_23 wt_1 hK (lw_XX0 D (lA s) ad cy s.heap) hS hA (fs := [.null, .null, .null, .int 0, .int 0, .null, .null, .null, .null, .null, .null, .null, .int 0, .null, .null, .int 0, .int 0, .null, .null, .null]) (by decide +kernel) (Nat.le_of_ble_eq_true rfl) (Nat.le_of_ble_eq_true rfl) dL_0 (fun b1 H hX hS => ?_)
  refine lv_dup hx hb dL_3 rfl ?_
  refine ri_call (va_runI (As := []) (rest := [.ref b1]) (b := b1) (g := F0 m 4 ls (.ref b1 :: [.ref b1])) (nL := 4) ⟨hx, hb, hml, hown, hts⟩ (i_X11_init l D (lA s) ad cy [] b1) (cwI 0 hts (lw_okT wt_26) rfl rfl rfl (hts _ (lw_oki _ wt_1)) (hts _ (lw_oki _ wt_24)) (hts _ (lw_oki _ wt_25)) rfl (by decide +kernel) ⟨Nat.le_of_ble_eq_true rfl, Nat.le_of_ble_eq_true rfl⟩) ⟨xip_blind3, fun U hU hW => ⟨rfl, ⟨fun q h => hA q (Nat.le_trans hS.1 (by rw [← hU]; exact h)), by rw [hU]; exact hX, lw_XD0, va_K.moved hW.alike hK, lw_XG0 ad, xz_to hZ hU hW hS⟩, va_AO.moved hW.alike hA3, va_AO.moved hW.alike hA7, va_AO.moved hW.alike hA9⟩⟩ rfl rfl hl.1 rfl (lv_room (Nat.le_of_ble_eq_true rfl)) dL_4 ⟨Nat.le_of_ble_eq_true rfl, Nat.le_of_ble_eq_true rfl⟩) hS (fun ad1 H locs hT1 hq1 hX hG hO hS => ?_)
  have hZ := xz_ad hZ hT1
  refine lv_astore_n (lv' := [(1, .ref b1), (0, .ref b)]) hx hb dL_7 rfl hl (by decide) rfl (fun ls hl => ?_)
  refine r_new hx hb hts lw_oki xk_11 hown wt_954 wt_955 wt_11 hK hX hS hA (fs := [.null, .int 0, .int 0, .null, .null, .null, .null, .null, .int 0, .int 0, .int 0, .int 0, .int 0, .int 0, .int 0, .null, .int 0, .null, .int 0, .null, .null, .int 0, .int 0, .int 0, .null, .null, .int 0, .null, .null, .null, .null, .int 0, .int 0, .int 0, .null, .null, .null, .null, .long 0, .null, .null, .null, .null]) (by decide +kernel) (Nat.le_of_ble_eq_true rfl) (Nat.le_of_ble_eq_true rfl) dL_8 (fun b2 H hX hS => ?_)
  refine lv_dup hx hb dL_11 rfl ?_
  refine ri_call (va_runI (As := []) (rest := [.ref b2]) (b := b2) (g := F0 m 12 ls (.ref b2 :: [.ref b2])) (nL := 4) ⟨hx, hb, hml, hown, hts⟩ (i_X12_init l D (lA s) ad1 cy [] b2) (cwI 0 hts (lw_okT wt_958) rfl rfl rfl (hts _ (lw_oki _ wt_11)) (hts _ (lw_oki _ wt_956)) (hts _ (lw_oki _ wt_957)) rfl (by decide +kernel) ⟨Nat.le_of_ble_eq_true rfl, Nat.le_of_ble_eq_true rfl⟩) ⟨xip_blind, fun U hU hW => ⟨rfl, fun q h => hA q (Nat.le_trans hS.1 (by rw [← hU]; exact h)), by rw [hU]; exact hX, hO, va_K.moved hW.alike hK, hG, xz_to hZ hU hW hS⟩⟩ rfl rfl hl.1 rfl (lv_room (Nat.le_of_ble_eq_true rfl)) dL_12 ⟨Nat.le_of_ble_eq_true rfl, Nat.le_of_ble_eq_true rfl⟩) hS (fun ad2 H locs hT2 hq2 hX hG hO hS => ?_)
  have hZ := xz_ad hZ hT2
  have e10 : ad2 10 0 = b1 := (hT2.1 10 0 (by decide +kernel)).trans hq1
  refine lv_astore_n (lv' := [(2, .ref b2), (1, .ref b1), (0, .ref b)]) hx hb dL_15 rfl hl (by decide) rfl (fun ls hl => ?_)
  refine lv_iconst (v := 0) hx hb dL_16 (by decide) ?_
  refine lv_istore_n (lv' := [(3, .int 0), (2, .ref b2), (1, .ref b1), (0, .ref b)]) hx hb dL_17 rfl hl (by decide) rfl (fun ls hl => ?_)
  refine lw_loop hC hr hlocks 512 0 ad2 (lk LM24) w00 H locs ls _ _ (by omega) (by omega) (Nat.le_of_ble_eq_true rfl) (Nat.le_of_ble_eq_true rfl) ⟨xx_xh.mp hX, hO, hG, hZ, hS, ?_, rel0, ⟨⟨rfl, rfl, rfl, rfl, rfl, rfl⟩, ⟨rfl, Nat.le_of_ble_eq_true rfl⟩, rfl, Nat.lt_of_sub_pos (by decide +kernel), Nat.lt_of_sub_pos (by decide +kernel)⟩⟩
  rw [e10, hq2]
  exact hl
