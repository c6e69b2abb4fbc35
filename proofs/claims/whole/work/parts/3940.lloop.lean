/-! ===== the law's loop ===== -/
theorem lw_sub {L : Nat} (h : L ≤ 3072) : (Int32.ofNat L - 6).toInt = (L : Int) - 6 := by
  rw [Int32.toInt_sub, show (Int32.ofNat L).toInt = (L : Int) from nI_toInt (n := L) (by omega), show (6 : Int32).toInt = 6 from by decide]
  exact Int.bmod_eq_of_le (by omega) (by omega)
theorem lw_loop {p : Program} {l : Launch} {e : Env} {s : State} {m : MethodId} {below : List Frame} {meth : Method} {c : Code} {b L : Nat} {xs : Nat → Int32} {D : va_G} {cy : Nat → ClassId} (hC : LwC p s m c b L xs D cy) (hr : meth.sig.returnType = ret) (hlocks : meth.locks = false) :
    ∀ (n k : Nat) (ad : Nat → Nat → Nat) (cnt : Nat → Nat) (w : XW) (H : Heap) (locs : List Loc) (ls : Array Slot) (cs sl : Nat), L < 6 * (k + n) + 6 → 6 * k ≤ L → cs ≤ 300 + 10 * k → sl ≤ 10000 + 500 * k → LwS s D cy b k ad cnt w H locs ls → W p l e room_1 s m #[Value.ref b] below meth c H locs cs sl (lw_Z below #[Value.ref b] s) (F0 m 18 ls []) := by
  have hC0 := hC
  obtain ⟨hx, hb, hml, hown, hts, hX, hbl, hK, hL⟩ := hC
  have hbA : ¬ lA s b := Nat.not_le.mpr hbl
  intro n
  induction n with
  | zero =>
    intro k ad cnt w H locs ls cs sl h1 h2 h3 h4 hs
    obtain ⟨hH, hO, hG, hZ, hS, hl, hR, hc⟩ := hs
    refine lv_iload_n hx hb dL_18 rfl (lv_at hl 0 rfl) ?_
    refine lv_aload_n hx hb dL_19 rfl (lv_at hl 3 rfl) ?_
    refine va_slen hx hb hX hbl hbA hS dL_20 ?_
    refine lv_bipush (v := 6) hx hb dL_21 (by decide) ?_
    refine lv_isub hx hb dL_23 ?_
    refine lv_icmp_gt (tgt := 1229) hx hb dL_24 (by decide) (fun _ => ?_) (fun cb => absurd (by rw [Int32.lt_iff_toInt_lt, lw_sub hL, nI_toInt (by omega)]; omega) cb)
    refine lv_iconst (v := 1) hx hb dL_1229 (by decide) ?_
    refine va_forget (fun q hq => hS.2.2 q hq) ?_
    exact W.widen (by omega) (by omega) (lw_ret hx hb hr hlocks dL_1230)
  | succ n ih =>
    intro k ad cnt w H locs ls cs sl h1 h2 h3 h4 hs
    have hs0 := hs
    obtain ⟨hH, hO, hG, hZ, hS, hl, hR, hc⟩ := hs
    refine lv_iload_n hx hb dL_18 rfl (lv_at hl 0 rfl) ?_
    refine lv_aload_n hx hb dL_19 rfl (lv_at hl 3 rfl) ?_
    refine va_slen hx hb hX hbl hbA hS dL_20 ?_
    refine lv_bipush (v := 6) hx hb dL_21 (by decide) ?_
    refine lv_isub hx hb dL_23 ?_
    refine lv_icmp_gt (tgt := 1229) hx hb dL_24 (by decide) (fun _ => ?_) (fun cb => ?_)
    · refine lv_iconst (v := 1) hx hb dL_1229 (by decide) ?_
      refine va_forget (fun q hq => hS.2.2 q hq) ?_
      exact W.widen (by omega) (by omega) (lw_ret hx hb hr hlocks dL_1230)
    · have hk : 6 * k + 6 ≤ L := by
        rw [Int32.lt_iff_toInt_lt, lw_sub hL, nI_toInt (by omega)] at cb
        omega
      have on : ∀ (ad' : Nat → Nat → Nat) (cnt' : Nat → Nat) (w' : XW) (H' : Heap) (locs' : List Loc) (cs' sl' : Nat), cs' ≤ 300 + 10 * (k + 1) → sl' ≤ 10000 + 500 * (k + 1) → LwS s D cy b k ad' cnt' w' H' locs' ls → W p l e room_1 s m #[Value.ref b] below meth c H' locs' cs' sl' (lw_Z below #[Value.ref b] s) (F0 m 1223 ls []) := by
        intro ad' cnt' w' H' locs' cs' sl' h5 h6 hs'
        obtain ⟨hH, hO, hG, hZ, hS, hl, hR, hc⟩ := hs'
        refine lv_iinc (k := 0) (v := nI (6 * (k + 1))) (lv' := [(3, .int (nI (6 * (k + 1)))), (2, .ref (ad' 11 0)), (1, .ref (ad' 10 0)), (0, .ref b)]) hx hb dL_1223 hl rfl (by show nI (6 * k) + nI 6 = _; rw [nI_add, show 6 * k + 6 = 6 * (k + 1) by omega]) (by decide) rfl (fun ls1 hl1 => ?_)
        refine lv_goto (tgt := 18) hx hb dL_1226 (by decide) ?_
        exact ih (k + 1) ad' cnt' w' H' locs' ls1 cs' sl' (by omega) (by omega) h5 h6 ⟨hH, hO, hG, hZ, hS, hl1, hR, hc⟩
      refine lv_aload_n hx hb dL_27 rfl (lv_at hl 3 rfl) ?_
      refine lv_iload_n hx hb dL_28 rfl (lv_at hl 0 rfl) ?_
      have e2 : (nI (6 * k)).toNatClampNeg = 6 * k := cl (by omega)
      refine va_sld hx hb hX hbl hbA hS (fun z => by rw [e2] at z; exact z.elim (nI_pos (by omega)) (fun y => by omega)) dL_29 ?_
      rw [e2]
      refine lv_bipush (v := 63) hx hb dL_30 (by decide) ?_
      refine lv_iand hx hb dL_32 ?_
      generalize xs (6 * k) &&& 63 = x
      by_cases hlo : x.toInt < 0
      · exact lv_tableOut (tgt := 1223) hx hb dL_33 (Or.inl hlo) (by decide) (on ad cnt w H locs cs sl (by omega) (by omega) hs0)
      by_cases hhi : 34 < x.toInt
      · exact lv_tableOut (tgt := 1223) hx hb dL_33 (Or.inr hhi) (by decide) (on ad cnt w H locs cs sl (by omega) (by omega) hs0)
      have hj : x.toInt = 0 ∨ x.toInt = 1 ∨ x.toInt = 2 ∨ x.toInt = 3 ∨ x.toInt = 4 ∨ x.toInt = 5 ∨ x.toInt = 6 ∨ x.toInt = 7 ∨ x.toInt = 8 ∨ x.toInt = 9 ∨ x.toInt = 10 ∨ x.toInt = 11 ∨ x.toInt = 12 ∨ x.toInt = 13 ∨ x.toInt = 14 ∨ x.toInt = 15 ∨ x.toInt = 16 ∨ x.toInt = 17 ∨ x.toInt = 18 ∨ x.toInt = 19 ∨ x.toInt = 20 ∨ x.toInt = 21 ∨ x.toInt = 22 ∨ x.toInt = 23 ∨ x.toInt = 24 ∨ x.toInt = 25 ∨ x.toInt = 26 ∨ x.toInt = 27 ∨ x.toInt = 28 ∨ x.toInt = 29 ∨ x.toInt = 30 ∨ x.toInt = 31 ∨ x.toInt = 32 ∨ x.toInt = 33 ∨ x.toInt = 34 := by omega
      rcases hj with hj | hj | hj | hj | hj | hj | hj | hj | hj | hj | hj | hj | hj | hj | hj | hj | hj | hj | hj | hj | hj | hj | hj | hj | hj | hj | hj | hj | hj | hj | hj | hj | hj | hj | hj
      · exact lv_tableIn (tgt := 188) (off := 155) hx hb dL_33 hlo hhi (by rw [hj]; rfl) (by decide) (law_feed hC0 hk hs0 (by omega) (by omega) (fun w2 H2 locs2 h => on ad cnt w2 H2 locs2 _ _ (by omega) (by omega) h))
      · exact lv_tableIn (tgt := 251) (off := 218) hx hb dL_33 hlo hhi (by rw [hj]; rfl) (by decide) (law_end hC0 hk hs0 (by omega) (by omega) (fun w2 H2 locs2 h => on ad cnt w2 H2 locs2 _ _ (by omega) (by omega) h))
      · exact lv_tableIn (tgt := 274) (off := 241) hx hb dL_33 hlo hhi (by rw [hj]; rfl) (by decide) (law_dale hC0 hs0 (by omega) (by omega) (fun ad2 cnt2 w2 H2 locs2 h => on ad2 cnt2 w2 H2 locs2 _ _ (by omega) (by omega) h))
      · exact lv_tableIn (tgt := 287) (off := 254) hx hb dL_33 hlo hhi (by rw [hj]; rfl) (by decide) (law_rule hC0 hs0 (by omega) (by omega) (fun ad2 cnt2 w2 H2 locs2 h => on ad2 cnt2 w2 H2 locs2 _ _ (by omega) (by omega) h))
      · exact lv_tableIn (tgt := 300) (off := 267) hx hb dL_33 hlo hhi (by rw [hj]; rfl) (by decide) (law_force hC0 hk hs0 (by omega) (by omega) (fun w2 H2 locs2 h => on ad cnt w2 H2 locs2 _ _ (by omega) (by omega) h))
      · exact lv_tableIn (tgt := 323) (off := 290) hx hb dL_33 hlo hhi (by rw [hj]; rfl) (by decide) (law_keep hC0 hk hs0 (by omega) (by omega) (fun w2 H2 locs2 h => on ad cnt w2 H2 locs2 _ _ (by omega) (by omega) h))
      · exact lv_tableIn (tgt := 356) (off := 323) hx hb dL_33 hlo hhi (by rw [hj]; rfl) (by decide) (law_person hC0 hk hs0 (by omega) (by omega) (fun w2 H2 locs2 h => on ad cnt w2 H2 locs2 _ _ (by omega) (by omega) h))
      · exact lv_tableIn (tgt := 389) (off := 356) hx hb dL_33 hlo hhi (by rw [hj]; rfl) (by decide) (law_field hC0 hk hs0 (by omega) (by omega) (fun w2 H2 locs2 h => on ad cnt w2 H2 locs2 _ _ (by omega) (by omega) h))
      · exact lv_tableIn (tgt := 422) (off := 389) hx hb dL_33 hlo hhi (by rw [hj]; rfl) (by decide) (law_night hC0 hk hs0 (by omega) (by omega) (fun w2 H2 locs2 h => on ad cnt w2 H2 locs2 _ _ (by omega) (by omega) h))
      · exact lv_tableIn (tgt := 435) (off := 402) hx hb dL_33 hlo hhi (by rw [hj]; rfl) (by decide) (law_air hC0 hk hs0 (by omega) (by omega) (fun w2 H2 locs2 h => on ad cnt w2 H2 locs2 _ _ (by omega) (by omega) h))
      · exact lv_tableIn (tgt := 458) (off := 425) hx hb dL_33 hlo hhi (by rw [hj]; rfl) (by decide) (law_carry hC0 hk hs0 (by omega) (by omega) (fun w2 H2 locs2 h => on ad cnt w2 H2 locs2 _ _ (by omega) (by omega) h))
      · exact lv_tableIn (tgt := 491) (off := 458) hx hb dL_33 hlo hhi (by rw [hj]; rfl) (by decide) (law_fetch hC0 hk hs0 (by omega) (by omega) (fun w2 H2 locs2 h => on ad cnt w2 H2 locs2 _ _ (by omega) (by omega) h))
      · exact lv_tableIn (tgt := 514) (off := 481) hx hb dL_33 hlo hhi (by rw [hj]; rfl) (by decide) (law_seat hC0 hk hs0 (by omega) (by omega) (fun w2 H2 locs2 h => on ad cnt w2 H2 locs2 _ _ (by omega) (by omega) h))
      · exact lv_tableIn (tgt := 547) (off := 514) hx hb dL_33 hlo hhi (by rw [hj]; rfl) (by decide) (law_undo hC0 hk hs0 (by omega) (by omega) (fun w2 H2 locs2 h => on ad cnt w2 H2 locs2 _ _ (by omega) (by omega) h))
      · exact lv_tableIn (tgt := 560) (off := 527) hx hb dL_33 hlo hhi (by rw [hj]; rfl) (by decide) (law_ahead hC0 hk hs0 (by omega) (by omega) (fun w2 H2 locs2 h => on ad cnt w2 H2 locs2 _ _ (by omega) (by omega) h))
      · exact lv_tableIn (tgt := 603) (off := 570) hx hb dL_33 hlo hhi (by rw [hj]; rfl) (by decide) (law_burns hC0 hk hs0 (by omega) (by omega) (fun w2 H2 locs2 h => on ad cnt w2 H2 locs2 _ _ (by omega) (by omega) h))
      · exact lv_tableIn (tgt := 626) (off := 593) hx hb dL_33 hlo hhi (by rw [hj]; rfl) (by decide) (law_full hC0 hk hs0 (by omega) (by omega) (fun w2 H2 locs2 h => on ad cnt w2 H2 locs2 _ _ (by omega) (by omega) h))
      · exact lv_tableIn (tgt := 649) (off := 616) hx hb dL_33 hlo hhi (by rw [hj]; rfl) (by decide) (law_placing hC0 hk hs0 (by omega) (by omega) (fun w2 H2 locs2 h => on ad cnt w2 H2 locs2 _ _ (by omega) (by omega) h))
      · exact lv_tableIn (tgt := 672) (off := 639) hx hb dL_33 hlo hhi (by rw [hj]; rfl) (by decide) (law_spring hC0 hk hs0 (by omega) (by omega) (fun w2 H2 locs2 h => on ad cnt w2 H2 locs2 _ _ (by omega) (by omega) h))
      · exact lv_tableIn (tgt := 705) (off := 672) hx hb dL_33 hlo hhi (by rw [hj]; rfl) (by decide) (law_apart hC0 hk hs0 (by omega) (by omega) (fun w2 H2 locs2 h => on ad cnt w2 H2 locs2 _ _ (by omega) (by omega) h))
      · exact lv_tableIn (tgt := 728) (off := 695) hx hb dL_33 hlo hhi (by rw [hj]; rfl) (by decide) (law_clash hC0 hk hs0 (by omega) (by omega) (fun w2 H2 locs2 h => on ad cnt w2 H2 locs2 _ _ (by omega) (by omega) h))
      · exact lv_tableIn (tgt := 751) (off := 718) hx hb dL_33 hlo hhi (by rw [hj]; rfl) (by decide) (law_silent hC0 hk hs0 (by omega) (by omega) (fun w2 H2 locs2 h => on ad cnt w2 H2 locs2 _ _ (by omega) (by omega) h))
      · exact lv_tableIn (tgt := 784) (off := 751) hx hb dL_33 hlo hhi (by rw [hj]; rfl) (by decide) (law_most hC0 hk hs0 (by omega) (by omega) (fun w2 H2 locs2 h => on ad cnt w2 H2 locs2 _ _ (by omega) (by omega) h))
      · exact lv_tableIn (tgt := 817) (off := 784) hx hb dL_33 hlo hhi (by rw [hj]; rfl) (by decide) (law_had hC0 hk hs0 (by omega) (by omega) (fun w2 H2 locs2 h => on ad cnt w2 H2 locs2 _ _ (by omega) (by omega) h))
      · exact lv_tableIn (tgt := 870) (off := 837) hx hb dL_33 hlo hhi (by rw [hj]; rfl) (by decide) (law_rests hC0 hk hs0 (by omega) (by omega) (fun w2 H2 locs2 h => on ad cnt w2 H2 locs2 _ _ (by omega) (by omega) h))
      · exact lv_tableIn (tgt := 923) (off := 890) hx hb dL_33 hlo hhi (by rw [hj]; rfl) (by decide) (law_ring hC0 hk hs0 (by omega) (by omega) (fun w2 H2 locs2 h => on ad cnt w2 H2 locs2 _ _ (by omega) (by omega) h))
      · exact lv_tableIn (tgt := 946) (off := 913) hx hb dL_33 hlo hhi (by rw [hj]; rfl) (by decide) (law_pence hC0 hk hs0 (by omega) (by omega) (fun w2 H2 locs2 h => on ad cnt w2 H2 locs2 _ _ (by omega) (by omega) h))
      · exact lv_tableIn (tgt := 979) (off := 946) hx hb dL_33 hlo hhi (by rw [hj]; rfl) (by decide) (law_note hC0 hk hs0 (by omega) (by omega) (fun w2 H2 locs2 h => on ad cnt w2 H2 locs2 _ _ (by omega) (by omega) h))
      · exact lv_tableIn (tgt := 1022) (off := 989) hx hb dL_33 hlo hhi (by rw [hj]; rfl) (by decide) (law_ruled hC0 hk hs0 (by omega) (by omega) (fun w2 H2 locs2 h => on ad cnt w2 H2 locs2 _ _ (by omega) (by omega) h))
      · exact lv_tableIn (tgt := 1045) (off := 1012) hx hb dL_33 hlo hhi (by rw [hj]; rfl) (by decide) (law_look hC0 hk hs0 (by omega) (by omega) (fun w2 H2 locs2 h => on ad cnt w2 H2 locs2 _ _ (by omega) (by omega) h))
      · exact lv_tableIn (tgt := 1078) (off := 1045) hx hb dL_33 hlo hhi (by rw [hj]; rfl) (by decide) (law_seed hC0 hk hs0 (by omega) (by omega) (fun w2 H2 locs2 h => on ad cnt w2 H2 locs2 _ _ (by omega) (by omega) h))
      · exact lv_tableIn (tgt := 1101) (off := 1068) hx hb dL_33 hlo hhi (by rw [hj]; rfl) (by decide) (law_frosts hC0 hk hs0 (by omega) (by omega) (fun w2 H2 locs2 h => on ad cnt w2 H2 locs2 _ _ (by omega) (by omega) h))
      · exact lv_tableIn (tgt := 1154) (off := 1121) hx hb dL_33 hlo hhi (by rw [hj]; rfl) (by decide) (law_count hC0 hk hs0 (by omega) (by omega) (fun w2 H2 locs2 h => on ad cnt w2 H2 locs2 _ _ (by omega) (by omega) h))
      · exact lv_tableIn (tgt := 1177) (off := 1144) hx hb dL_33 hlo hhi (by rw [hj]; rfl) (by decide) (law_image hC0 hk hs0 (by omega) (by omega) (fun w2 H2 locs2 h => on ad cnt w2 H2 locs2 _ _ (by omega) (by omega) h))
      · exact lv_tableIn (tgt := 1200) (off := 1167) hx hb dL_33 hlo hhi (by rw [hj]; rfl) (by decide) (law_back hC0 hk hs0 (by omega) (by omega) (fun w2 H2 locs2 h => on ad cnt w2 H2 locs2 _ _ (by omega) (by omega) h))
