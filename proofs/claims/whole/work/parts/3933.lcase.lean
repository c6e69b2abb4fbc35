/-! ===== the law, call by call ===== -/
theorem law_undo {p : Program} {l : Launch} {e : Env} {s : State} {m : MethodId} {below : List Frame} {meth : Method} {c : Code} {b L k : Nat} {xs : Nat → Int32} {D : va_G} {cy : Nat → ClassId} {ad : Nat → Nat → Nat} {cnt : Nat → Nat} {w : XW} {H : Heap} {locs : List Loc} {ls : Array Slot} {cs sl : Nat} {Q : State → Prop} (hC : LwC p s m c b L xs D cy) (hk : 6 * k + 6 ≤ L) (hs : LwS s D cy b k ad cnt w H locs ls) (hcs : cs ≤ 600000) (hsl : sl ≤ 7302250)
    (kk : ∀ (w2 : XW) (H1 : Heap) (locs1 : List Loc), LwS s D cy b k ad cnt w2 H1 locs1 ls → W p l e room_1 s m #[Value.ref b] below meth c H1 locs1 cs sl Q (F0 m 1223 ls [])) : W p l e room_1 s m #[Value.ref b] below meth c H locs cs sl Q (F0 m 547 ls []) := by
  obtain ⟨hx, hb, hml, hown, hts, hX, hbl, hK, hL⟩ := hC
  obtain ⟨hH, hO, hG, hZ, hS, hl, hR, hc⟩ := hs
  have hbA : ¬ lA s b := Nat.not_le.mpr hbl
  obtain ⟨a, w1, w2, x1, x2, hR2⟩ := st_undo hR
  refine lv_aload_n hx hb dL_547 rfl (lv_at hl 2 rfl) ?_
  refine y_vcall (nL := 4) (as := []) (i := 0) (rest := []) (rr := (some (.inl (.int a)), w1)) hx hb hml hown hts lw_oki hK hG hZ hH hO hS hl.1 hcs hsl m_X11_undo vL_69 ⟨Nat.le_of_ble_eq_true rfl, Nat.le_of_ble_eq_true rfl⟩ dL_548 rfl ⟨hc.2.2.2.1, trivial⟩ (Nat.le_of_ble_eq_true rfl) (by unfold eI; rw [x1]; rfl) (fun H locs hH hO _ hS => ?_)
  refine lv_aload_n hx hb dL_551 rfl (lv_at hl 1 rfl) ?_
  refine y_vcall (nL := 4) (as := []) (i := 0) (rest := [.int a]) (rr := (some (.inl (.int a)), w2)) hx hb hml hown hts lw_oki hK hG hZ hH hO hS hl.1 hcs hsl m_X12_undo vL_72 ⟨Nat.le_of_ble_eq_true rfl, Nat.le_of_ble_eq_true rfl⟩ dL_552 rfl ⟨hc.2.2.2.2, trivial⟩ (Nat.le_of_ble_eq_true rfl) (by unfold eI; rw [x2]; rfl) (fun H locs hH hO _ hS => ?_)
  exact lv_icmp_eq (tgt := 1223) hx hb dL_555 (by decide) (fun _ => kk w2 H locs ⟨hH, hO, hG, hZ, hS, hl, hR2, hc⟩) (fun cb => absurd rfl cb)
theorem law_ahead {p : Program} {l : Launch} {e : Env} {s : State} {m : MethodId} {below : List Frame} {meth : Method} {c : Code} {b L k : Nat} {xs : Nat → Int32} {D : va_G} {cy : Nat → ClassId} {ad : Nat → Nat → Nat} {cnt : Nat → Nat} {w : XW} {H : Heap} {locs : List Loc} {ls : Array Slot} {cs sl : Nat} {Q : State → Prop} (hC : LwC p s m c b L xs D cy) (hk : 6 * k + 6 ≤ L) (hs : LwS s D cy b k ad cnt w H locs ls) (hcs : cs ≤ 600000) (hsl : sl ≤ 7302250)
    (kk : ∀ (w2 : XW) (H1 : Heap) (locs1 : List Loc), LwS s D cy b k ad cnt w2 H1 locs1 ls → W p l e room_1 s m #[Value.ref b] below meth c H1 locs1 cs sl Q (F0 m 1223 ls [])) : W p l e room_1 s m #[Value.ref b] below meth c H locs cs sl Q (F0 m 560 ls []) := by
  obtain ⟨hx, hb, hml, hown, hts, hX, hbl, hK, hL⟩ := hC
  obtain ⟨hH, hO, hG, hZ, hS, hl, hR, hc⟩ := hs
  have hbA : ¬ lA s b := Nat.not_le.mpr hbl
  obtain ⟨a, w1, w2, x1, x2, hR2⟩ := st_ahead hR (xs (6 * k + 1)) (xs (6 * k + 2)) (xs (6 * k + 3))
  refine lv_aload_n hx hb dL_560 rfl (lv_at hl 2 rfl) ?_
  refine w_arg (j := 1) (v := 1) hx hb hX hbl hbA hS hl hk hL (by decide) rfl (by decide) dL_561 dL_562 dL_563 dL_564 dL_565 ?_
  refine w_arg (j := 2) (v := 2) hx hb hX hbl hbA hS hl hk hL (by decide) rfl (by decide) dL_566 dL_567 dL_568 dL_569 dL_570 ?_
  refine w_arg (j := 3) (v := 3) hx hb hX hbl hbA hS hl hk hL (by decide) rfl (by decide) dL_571 dL_572 dL_573 dL_574 dL_575 ?_
  refine y_vcall (nL := 4) (as := [.inl (.int (xs (6 * k + 1))), .inl (.int (xs (6 * k + 2))), .inl (.int (xs (6 * k + 3)))]) (i := 0) (rest := []) (rr := (some (.inl (.int a)), w1)) hx hb hml hown hts lw_oki hK hG hZ hH hO hS hl.1 hcs hsl m_X11_ahead vL_73 ⟨Nat.le_of_ble_eq_true rfl, Nat.le_of_ble_eq_true rfl⟩ dL_576 rfl ⟨hc.2.2.2.1, trivial, trivial, trivial, trivial⟩ (Nat.le_of_ble_eq_true rfl) (by unfold eI; rw [x1]; rfl) (fun H locs hH hO _ hS => ?_)
  refine lv_aload_n hx hb dL_579 rfl (lv_at hl 1 rfl) ?_
  refine w_arg (j := 1) (v := 1) hx hb hX hbl hbA hS hl hk hL (by decide) rfl (by decide) dL_580 dL_581 dL_582 dL_583 dL_584 ?_
  refine w_arg (j := 2) (v := 2) hx hb hX hbl hbA hS hl hk hL (by decide) rfl (by decide) dL_585 dL_586 dL_587 dL_588 dL_589 ?_
  refine w_arg (j := 3) (v := 3) hx hb hX hbl hbA hS hl hk hL (by decide) rfl (by decide) dL_590 dL_591 dL_592 dL_593 dL_594 ?_
  refine y_vcall (nL := 4) (as := [.inl (.int (xs (6 * k + 1))), .inl (.int (xs (6 * k + 2))), .inl (.int (xs (6 * k + 3)))]) (i := 0) (rest := [.int a]) (rr := (some (.inl (.int a)), w2)) hx hb hml hown hts lw_oki hK hG hZ hH hO hS hl.1 hcs hsl m_X12_ahead vL_77 ⟨Nat.le_of_ble_eq_true rfl, Nat.le_of_ble_eq_true rfl⟩ dL_595 rfl ⟨hc.2.2.2.2, trivial, trivial, trivial, trivial⟩ (Nat.le_of_ble_eq_true rfl) (by unfold eI; rw [x2]; rfl) (fun H locs hH hO _ hS => ?_)
  exact lv_icmp_eq (tgt := 1223) hx hb dL_598 (by decide) (fun _ => kk w2 H locs ⟨hH, hO, hG, hZ, hS, hl, hR2, hc⟩) (fun cb => absurd rfl cb)
theorem law_burns {p : Program} {l : Launch} {e : Env} {s : State} {m : MethodId} {below : List Frame} {meth : Method} {c : Code} {b L k : Nat} {xs : Nat → Int32} {D : va_G} {cy : Nat → ClassId} {ad : Nat → Nat → Nat} {cnt : Nat → Nat} {w : XW} {H : Heap} {locs : List Loc} {ls : Array Slot} {cs sl : Nat} {Q : State → Prop} (hC : LwC p s m c b L xs D cy) (hk : 6 * k + 6 ≤ L) (hs : LwS s D cy b k ad cnt w H locs ls) (hcs : cs ≤ 600000) (hsl : sl ≤ 7302250)
    (kk : ∀ (w2 : XW) (H1 : Heap) (locs1 : List Loc), LwS s D cy b k ad cnt w2 H1 locs1 ls → W p l e room_1 s m #[Value.ref b] below meth c H1 locs1 cs sl Q (F0 m 1223 ls [])) : W p l e room_1 s m #[Value.ref b] below meth c H locs cs sl Q (F0 m 603 ls []) := by
  obtain ⟨hx, hb, hml, hown, hts, hX, hbl, hK, hL⟩ := hC
  obtain ⟨hH, hO, hG, hZ, hS, hl, hR, hc⟩ := hs
  have hbA : ¬ lA s b := Nat.not_le.mpr hbl
  obtain ⟨a, w1, w2, x1, x2, hR2⟩ := st_burns hR (xs (6 * k + 1))
  refine lv_aload_n hx hb dL_603 rfl (lv_at hl 2 rfl) ?_
  refine w_arg (j := 1) (v := 1) hx hb hX hbl hbA hS hl hk hL (by decide) rfl (by decide) dL_604 dL_605 dL_606 dL_607 dL_608 ?_
  refine y_vcall (nL := 4) (as := [.inl (.int (xs (6 * k + 1)))]) (i := 0) (rest := []) (rr := (some (.inl (.int a)), w1)) hx hb hml hown hts lw_oki hK hG hZ hH hO hS hl.1 hcs hsl m_X11_burns vL_78 ⟨Nat.le_of_ble_eq_true rfl, Nat.le_of_ble_eq_true rfl⟩ dL_609 rfl ⟨hc.2.2.2.1, trivial, trivial⟩ (Nat.le_of_ble_eq_true rfl) (by unfold eI; rw [x1]; rfl) (fun H locs hH hO _ hS => ?_)
  refine lv_aload_n hx hb dL_612 rfl (lv_at hl 1 rfl) ?_
  refine w_arg (j := 1) (v := 1) hx hb hX hbl hbA hS hl hk hL (by decide) rfl (by decide) dL_613 dL_614 dL_615 dL_616 dL_617 ?_
  refine y_vcall (nL := 4) (as := [.inl (.int (xs (6 * k + 1)))]) (i := 0) (rest := [.int a]) (rr := (some (.inl (.int a)), w2)) hx hb hml hown hts lw_oki hK hG hZ hH hO hS hl.1 hcs hsl m_X12_burns vL_81 ⟨Nat.le_of_ble_eq_true rfl, Nat.le_of_ble_eq_true rfl⟩ dL_618 rfl ⟨hc.2.2.2.2, trivial, trivial⟩ (Nat.le_of_ble_eq_true rfl) (by unfold eI; rw [x2]; rfl) (fun H locs hH hO _ hS => ?_)
  exact lv_icmp_eq (tgt := 1223) hx hb dL_621 (by decide) (fun _ => kk w2 H locs ⟨hH, hO, hG, hZ, hS, hl, hR2, hc⟩) (fun cb => absurd rfl cb)
theorem law_full {p : Program} {l : Launch} {e : Env} {s : State} {m : MethodId} {below : List Frame} {meth : Method} {c : Code} {b L k : Nat} {xs : Nat → Int32} {D : va_G} {cy : Nat → ClassId} {ad : Nat → Nat → Nat} {cnt : Nat → Nat} {w : XW} {H : Heap} {locs : List Loc} {ls : Array Slot} {cs sl : Nat} {Q : State → Prop} (hC : LwC p s m c b L xs D cy) (hk : 6 * k + 6 ≤ L) (hs : LwS s D cy b k ad cnt w H locs ls) (hcs : cs ≤ 600000) (hsl : sl ≤ 7302250)
    (kk : ∀ (w2 : XW) (H1 : Heap) (locs1 : List Loc), LwS s D cy b k ad cnt w2 H1 locs1 ls → W p l e room_1 s m #[Value.ref b] below meth c H1 locs1 cs sl Q (F0 m 1223 ls [])) : W p l e room_1 s m #[Value.ref b] below meth c H locs cs sl Q (F0 m 626 ls []) := by
  obtain ⟨hx, hb, hml, hown, hts, hX, hbl, hK, hL⟩ := hC
  obtain ⟨hH, hO, hG, hZ, hS, hl, hR, hc⟩ := hs
  have hbA : ¬ lA s b := Nat.not_le.mpr hbl
  obtain ⟨a, w1, w2, x1, x2, hR2⟩ := st_full hR (xs (6 * k + 1))
  refine lv_aload_n hx hb dL_626 rfl (lv_at hl 2 rfl) ?_
  refine w_arg (j := 1) (v := 1) hx hb hX hbl hbA hS hl hk hL (by decide) rfl (by decide) dL_627 dL_628 dL_629 dL_630 dL_631 ?_
  refine y_vcall (nL := 4) (as := [.inl (.int (xs (6 * k + 1)))]) (i := 0) (rest := []) (rr := (some (.inl (.int a)), w1)) hx hb hml hown hts lw_oki hK hG hZ hH hO hS hl.1 hcs hsl m_X11_full vL_82 ⟨Nat.le_of_ble_eq_true rfl, Nat.le_of_ble_eq_true rfl⟩ dL_632 rfl ⟨hc.2.2.2.1, trivial, trivial⟩ (Nat.le_of_ble_eq_true rfl) (by unfold eI; rw [x1]; rfl) (fun H locs hH hO _ hS => ?_)
  refine lv_aload_n hx hb dL_635 rfl (lv_at hl 1 rfl) ?_
  refine w_arg (j := 1) (v := 1) hx hb hX hbl hbA hS hl hk hL (by decide) rfl (by decide) dL_636 dL_637 dL_638 dL_639 dL_640 ?_
  refine y_vcall (nL := 4) (as := [.inl (.int (xs (6 * k + 1)))]) (i := 0) (rest := [.int a]) (rr := (some (.inl (.int a)), w2)) hx hb hml hown hts lw_oki hK hG hZ hH hO hS hl.1 hcs hsl m_X12_full vL_85 ⟨Nat.le_of_ble_eq_true rfl, Nat.le_of_ble_eq_true rfl⟩ dL_641 rfl ⟨hc.2.2.2.2, trivial, trivial⟩ (Nat.le_of_ble_eq_true rfl) (by unfold eI; rw [x2]; rfl) (fun H locs hH hO _ hS => ?_)
  exact lv_icmp_eq (tgt := 1223) hx hb dL_644 (by decide) (fun _ => kk w2 H locs ⟨hH, hO, hG, hZ, hS, hl, hR2, hc⟩) (fun cb => absurd rfl cb)
theorem law_placing {p : Program} {l : Launch} {e : Env} {s : State} {m : MethodId} {below : List Frame} {meth : Method} {c : Code} {b L k : Nat} {xs : Nat → Int32} {D : va_G} {cy : Nat → ClassId} {ad : Nat → Nat → Nat} {cnt : Nat → Nat} {w : XW} {H : Heap} {locs : List Loc} {ls : Array Slot} {cs sl : Nat} {Q : State → Prop} (hC : LwC p s m c b L xs D cy) (hk : 6 * k + 6 ≤ L) (hs : LwS s D cy b k ad cnt w H locs ls) (hcs : cs ≤ 600000) (hsl : sl ≤ 7302250)
    (kk : ∀ (w2 : XW) (H1 : Heap) (locs1 : List Loc), LwS s D cy b k ad cnt w2 H1 locs1 ls → W p l e room_1 s m #[Value.ref b] below meth c H1 locs1 cs sl Q (F0 m 1223 ls [])) : W p l e room_1 s m #[Value.ref b] below meth c H locs cs sl Q (F0 m 649 ls []) := by
  obtain ⟨hx, hb, hml, hown, hts, hX, hbl, hK, hL⟩ := hC
  obtain ⟨hH, hO, hG, hZ, hS, hl, hR, hc⟩ := hs
  have hbA : ¬ lA s b := Nat.not_le.mpr hbl
  obtain ⟨a, w1, w2, x1, x2, hR2⟩ := st_placing hR (xs (6 * k + 1))
  refine lv_aload_n hx hb dL_649 rfl (lv_at hl 2 rfl) ?_
  refine w_arg (j := 1) (v := 1) hx hb hX hbl hbA hS hl hk hL (by decide) rfl (by decide) dL_650 dL_651 dL_652 dL_653 dL_654 ?_
  refine y_vcall (nL := 4) (as := [.inl (.int (xs (6 * k + 1)))]) (i := 0) (rest := []) (rr := (some (.inl (.int a)), w1)) hx hb hml hown hts lw_oki hK hG hZ hH hO hS hl.1 hcs hsl m_X11_placing vL_86 ⟨Nat.le_of_ble_eq_true rfl, Nat.le_of_ble_eq_true rfl⟩ dL_655 rfl ⟨hc.2.2.2.1, trivial, trivial⟩ (Nat.le_of_ble_eq_true rfl) (by unfold eI; rw [x1]; rfl) (fun H locs hH hO _ hS => ?_)
  refine lv_aload_n hx hb dL_658 rfl (lv_at hl 1 rfl) ?_
  refine w_arg (j := 1) (v := 1) hx hb hX hbl hbA hS hl hk hL (by decide) rfl (by decide) dL_659 dL_660 dL_661 dL_662 dL_663 ?_
  refine y_vcall (nL := 4) (as := [.inl (.int (xs (6 * k + 1)))]) (i := 0) (rest := [.int a]) (rr := (some (.inl (.int a)), w2)) hx hb hml hown hts lw_oki hK hG hZ hH hO hS hl.1 hcs hsl m_X12_placing vL_89 ⟨Nat.le_of_ble_eq_true rfl, Nat.le_of_ble_eq_true rfl⟩ dL_664 rfl ⟨hc.2.2.2.2, trivial, trivial⟩ (Nat.le_of_ble_eq_true rfl) (by unfold eI; rw [x2]; rfl) (fun H locs hH hO _ hS => ?_)
  exact lv_icmp_eq (tgt := 1223) hx hb dL_667 (by decide) (fun _ => kk w2 H locs ⟨hH, hO, hG, hZ, hS, hl, hR2, hc⟩) (fun cb => absurd rfl cb)
theorem law_spring {p : Program} {l : Launch} {e : Env} {s : State} {m : MethodId} {below : List Frame} {meth : Method} {c : Code} {b L k : Nat} {xs : Nat → Int32} {D : va_G} {cy : Nat → ClassId} {ad : Nat → Nat → Nat} {cnt : Nat → Nat} {w : XW} {H : Heap} {locs : List Loc} {ls : Array Slot} {cs sl : Nat} {Q : State → Prop} (hC : LwC p s m c b L xs D cy) (hk : 6 * k + 6 ≤ L) (hs : LwS s D cy b k ad cnt w H locs ls) (hcs : cs ≤ 600000) (hsl : sl ≤ 7302250)
    (kk : ∀ (w2 : XW) (H1 : Heap) (locs1 : List Loc), LwS s D cy b k ad cnt w2 H1 locs1 ls → W p l e room_1 s m #[Value.ref b] below meth c H1 locs1 cs sl Q (F0 m 1223 ls [])) : W p l e room_1 s m #[Value.ref b] below meth c H locs cs sl Q (F0 m 672 ls []) := by
  obtain ⟨hx, hb, hml, hown, hts, hX, hbl, hK, hL⟩ := hC
  obtain ⟨hH, hO, hG, hZ, hS, hl, hR, hc⟩ := hs
  have hbA : ¬ lA s b := Nat.not_le.mpr hbl
  obtain ⟨a, w1, w2, x1, x2, hR2⟩ := st_spring hR (xs (6 * k + 1)) (xs (6 * k + 2))
  refine lv_aload_n hx hb dL_672 rfl (lv_at hl 2 rfl) ?_
  refine w_arg (j := 1) (v := 1) hx hb hX hbl hbA hS hl hk hL (by decide) rfl (by decide) dL_673 dL_674 dL_675 dL_676 dL_677 ?_
  refine w_arg (j := 2) (v := 2) hx hb hX hbl hbA hS hl hk hL (by decide) rfl (by decide) dL_678 dL_679 dL_680 dL_681 dL_682 ?_
  refine y_vcall (nL := 4) (as := [.inl (.int (xs (6 * k + 1))), .inl (.int (xs (6 * k + 2)))]) (i := 0) (rest := []) (rr := (some (.inl (.int a)), w1)) hx hb hml hown hts lw_oki hK hG hZ hH hO hS hl.1 hcs hsl m_X11_spring vL_90 ⟨Nat.le_of_ble_eq_true rfl, Nat.le_of_ble_eq_true rfl⟩ dL_683 rfl ⟨hc.2.2.2.1, trivial, trivial, trivial⟩ (Nat.le_of_ble_eq_true rfl) (by unfold eI; rw [x1]; rfl) (fun H locs hH hO _ hS => ?_)
  refine lv_aload_n hx hb dL_686 rfl (lv_at hl 1 rfl) ?_
  refine w_arg (j := 1) (v := 1) hx hb hX hbl hbA hS hl hk hL (by decide) rfl (by decide) dL_687 dL_688 dL_689 dL_690 dL_691 ?_
  refine w_arg (j := 2) (v := 2) hx hb hX hbl hbA hS hl hk hL (by decide) rfl (by decide) dL_692 dL_693 dL_694 dL_695 dL_696 ?_
  refine y_vcall (nL := 4) (as := [.inl (.int (xs (6 * k + 1))), .inl (.int (xs (6 * k + 2)))]) (i := 0) (rest := [.int a]) (rr := (some (.inl (.int a)), w2)) hx hb hml hown hts lw_oki hK hG hZ hH hO hS hl.1 hcs hsl m_X12_spring vL_93 ⟨Nat.le_of_ble_eq_true rfl, Nat.le_of_ble_eq_true rfl⟩ dL_697 rfl ⟨hc.2.2.2.2, trivial, trivial, trivial⟩ (Nat.le_of_ble_eq_true rfl) (by unfold eI; rw [x2]; rfl) (fun H locs hH hO _ hS => ?_)
  exact lv_icmp_eq (tgt := 1223) hx hb dL_700 (by decide) (fun _ => kk w2 H locs ⟨hH, hO, hG, hZ, hS, hl, hR2, hc⟩) (fun cb => absurd rfl cb)
theorem law_apart {p : Program} {l : Launch} {e : Env} {s : State} {m : MethodId} {below : List Frame} {meth : Method} {c : Code} {b L k : Nat} {xs : Nat → Int32} {D : va_G} {cy : Nat → ClassId} {ad : Nat → Nat → Nat} {cnt : Nat → Nat} {w : XW} {H : Heap} {locs : List Loc} {ls : Array Slot} {cs sl : Nat} {Q : State → Prop} (hC : LwC p s m c b L xs D cy) (hk : 6 * k + 6 ≤ L) (hs : LwS s D cy b k ad cnt w H locs ls) (hcs : cs ≤ 600000) (hsl : sl ≤ 7302250)
    (kk : ∀ (w2 : XW) (H1 : Heap) (locs1 : List Loc), LwS s D cy b k ad cnt w2 H1 locs1 ls → W p l e room_1 s m #[Value.ref b] below meth c H1 locs1 cs sl Q (F0 m 1223 ls [])) : W p l e room_1 s m #[Value.ref b] below meth c H locs cs sl Q (F0 m 705 ls []) := by
  obtain ⟨hx, hb, hml, hown, hts, hX, hbl, hK, hL⟩ := hC
  obtain ⟨hH, hO, hG, hZ, hS, hl, hR, hc⟩ := hs
  have hbA : ¬ lA s b := Nat.not_le.mpr hbl
  obtain ⟨a, w1, w2, x1, x2, hR2⟩ := st_apart hR (xs (6 * k + 1))
  refine lv_aload_n hx hb dL_705 rfl (lv_at hl 2 rfl) ?_
  refine w_arg (j := 1) (v := 1) hx hb hX hbl hbA hS hl hk hL (by decide) rfl (by decide) dL_706 dL_707 dL_708 dL_709 dL_710 ?_
  refine y_vcall (nL := 4) (as := [.inl (.int (xs (6 * k + 1)))]) (i := 0) (rest := []) (rr := (some (.inl (.int a)), w1)) hx hb hml hown hts lw_oki hK hG hZ hH hO hS hl.1 hcs hsl m_X11_apart vL_94 ⟨Nat.le_of_ble_eq_true rfl, Nat.le_of_ble_eq_true rfl⟩ dL_711 rfl ⟨hc.2.2.2.1, trivial, trivial⟩ (Nat.le_of_ble_eq_true rfl) (by unfold eI; rw [x1]; rfl) (fun H locs hH hO _ hS => ?_)
  refine lv_aload_n hx hb dL_714 rfl (lv_at hl 1 rfl) ?_
  refine w_arg (j := 1) (v := 1) hx hb hX hbl hbA hS hl hk hL (by decide) rfl (by decide) dL_715 dL_716 dL_717 dL_718 dL_719 ?_
  refine y_vcall (nL := 4) (as := [.inl (.int (xs (6 * k + 1)))]) (i := 0) (rest := [.int a]) (rr := (some (.inl (.int a)), w2)) hx hb hml hown hts lw_oki hK hG hZ hH hO hS hl.1 hcs hsl m_X12_apart vL_97 ⟨Nat.le_of_ble_eq_true rfl, Nat.le_of_ble_eq_true rfl⟩ dL_720 rfl ⟨hc.2.2.2.2, trivial, trivial⟩ (Nat.le_of_ble_eq_true rfl) (by unfold eI; rw [x2]; rfl) (fun H locs hH hO _ hS => ?_)
  exact lv_icmp_eq (tgt := 1223) hx hb dL_723 (by decide) (fun _ => kk w2 H locs ⟨hH, hO, hG, hZ, hS, hl, hR2, hc⟩) (fun cb => absurd rfl cb)
theorem law_clash {p : Program} {l : Launch} {e : Env} {s : State} {m : MethodId} {below : List Frame} {meth : Method} {c : Code} {b L k : Nat} {xs : Nat → Int32} {D : va_G} {cy : Nat → ClassId} {ad : Nat → Nat → Nat} {cnt : Nat → Nat} {w : XW} {H : Heap} {locs : List Loc} {ls : Array Slot} {cs sl : Nat} {Q : State → Prop} (hC : LwC p s m c b L xs D cy) (hk : 6 * k + 6 ≤ L) (hs : LwS s D cy b k ad cnt w H locs ls) (hcs : cs ≤ 600000) (hsl : sl ≤ 7302250)
    (kk : ∀ (w2 : XW) (H1 : Heap) (locs1 : List Loc), LwS s D cy b k ad cnt w2 H1 locs1 ls → W p l e room_1 s m #[Value.ref b] below meth c H1 locs1 cs sl Q (F0 m 1223 ls [])) : W p l e room_1 s m #[Value.ref b] below meth c H locs cs sl Q (F0 m 728 ls []) := by
  obtain ⟨hx, hb, hml, hown, hts, hX, hbl, hK, hL⟩ := hC
  obtain ⟨hH, hO, hG, hZ, hS, hl, hR, hc⟩ := hs
  have hbA : ¬ lA s b := Nat.not_le.mpr hbl
  obtain ⟨a, w1, w2, x1, x2, hR2⟩ := st_clash hR (xs (6 * k + 1))
  refine lv_aload_n hx hb dL_728 rfl (lv_at hl 2 rfl) ?_
  refine w_arg (j := 1) (v := 1) hx hb hX hbl hbA hS hl hk hL (by decide) rfl (by decide) dL_729 dL_730 dL_731 dL_732 dL_733 ?_
  refine y_vcall (nL := 4) (as := [.inl (.int (xs (6 * k + 1)))]) (i := 0) (rest := []) (rr := (some (.inl (.int a)), w1)) hx hb hml hown hts lw_oki hK hG hZ hH hO hS hl.1 hcs hsl m_X11_clash vL_98 ⟨Nat.le_of_ble_eq_true rfl, Nat.le_of_ble_eq_true rfl⟩ dL_734 rfl ⟨hc.2.2.2.1, trivial, trivial⟩ (Nat.le_of_ble_eq_true rfl) (by unfold eI; rw [x1]; rfl) (fun H locs hH hO _ hS => ?_)
  refine lv_aload_n hx hb dL_737 rfl (lv_at hl 1 rfl) ?_
  refine w_arg (j := 1) (v := 1) hx hb hX hbl hbA hS hl hk hL (by decide) rfl (by decide) dL_738 dL_739 dL_740 dL_741 dL_742 ?_
  refine y_vcall (nL := 4) (as := [.inl (.int (xs (6 * k + 1)))]) (i := 0) (rest := [.int a]) (rr := (some (.inl (.int a)), w2)) hx hb hml hown hts lw_oki hK hG hZ hH hO hS hl.1 hcs hsl m_X12_clash vL_101 ⟨Nat.le_of_ble_eq_true rfl, Nat.le_of_ble_eq_true rfl⟩ dL_743 rfl ⟨hc.2.2.2.2, trivial, trivial⟩ (Nat.le_of_ble_eq_true rfl) (by unfold eI; rw [x2]; rfl) (fun H locs hH hO _ hS => ?_)
  exact lv_icmp_eq (tgt := 1223) hx hb dL_746 (by decide) (fun _ => kk w2 H locs ⟨hH, hO, hG, hZ, hS, hl, hR2, hc⟩) (fun cb => absurd rfl cb)
theorem law_silent {p : Program} {l : Launch} {e : Env} {s : State} {m : MethodId} {below : List Frame} {meth : Method} {c : Code} {b L k : Nat} {xs : Nat → Int32} {D : va_G} {cy : Nat → ClassId} {ad : Nat → Nat → Nat} {cnt : Nat → Nat} {w : XW} {H : Heap} {locs : List Loc} {ls : Array Slot} {cs sl : Nat} {Q : State → Prop} (hC : LwC p s m c b L xs D cy) (hk : 6 * k + 6 ≤ L) (hs : LwS s D cy b k ad cnt w H locs ls) (hcs : cs ≤ 600000) (hsl : sl ≤ 7302250)
    (kk : ∀ (w2 : XW) (H1 : Heap) (locs1 : List Loc), LwS s D cy b k ad cnt w2 H1 locs1 ls → W p l e room_1 s m #[Value.ref b] below meth c H1 locs1 cs sl Q (F0 m 1223 ls [])) : W p l e room_1 s m #[Value.ref b] below meth c H locs cs sl Q (F0 m 751 ls []) := by
  obtain ⟨hx, hb, hml, hown, hts, hX, hbl, hK, hL⟩ := hC
  obtain ⟨hH, hO, hG, hZ, hS, hl, hR, hc⟩ := hs
  have hbA : ¬ lA s b := Nat.not_le.mpr hbl
  obtain ⟨a, w1, w2, x1, x2, hR2⟩ := st_silent hR (xs (6 * k + 1)) (xs (6 * k + 2))
  refine lv_aload_n hx hb dL_751 rfl (lv_at hl 2 rfl) ?_
  refine w_arg (j := 1) (v := 1) hx hb hX hbl hbA hS hl hk hL (by decide) rfl (by decide) dL_752 dL_753 dL_754 dL_755 dL_756 ?_
  refine w_arg (j := 2) (v := 2) hx hb hX hbl hbA hS hl hk hL (by decide) rfl (by decide) dL_757 dL_758 dL_759 dL_760 dL_761 ?_
  refine y_vcall (nL := 4) (as := [.inl (.int (xs (6 * k + 1))), .inl (.int (xs (6 * k + 2)))]) (i := 0) (rest := []) (rr := (some (.inl (.int a)), w1)) hx hb hml hown hts lw_oki hK hG hZ hH hO hS hl.1 hcs hsl m_X11_silent vL_102 ⟨Nat.le_of_ble_eq_true rfl, Nat.le_of_ble_eq_true rfl⟩ dL_762 rfl ⟨hc.2.2.2.1, trivial, trivial, trivial⟩ (Nat.le_of_ble_eq_true rfl) (by unfold eI; rw [x1]; rfl) (fun H locs hH hO _ hS => ?_)
  refine lv_aload_n hx hb dL_765 rfl (lv_at hl 1 rfl) ?_
  refine w_arg (j := 1) (v := 1) hx hb hX hbl hbA hS hl hk hL (by decide) rfl (by decide) dL_766 dL_767 dL_768 dL_769 dL_770 ?_
  refine w_arg (j := 2) (v := 2) hx hb hX hbl hbA hS hl hk hL (by decide) rfl (by decide) dL_771 dL_772 dL_773 dL_774 dL_775 ?_
  refine y_vcall (nL := 4) (as := [.inl (.int (xs (6 * k + 1))), .inl (.int (xs (6 * k + 2)))]) (i := 0) (rest := [.int a]) (rr := (some (.inl (.int a)), w2)) hx hb hml hown hts lw_oki hK hG hZ hH hO hS hl.1 hcs hsl m_X12_silent vL_105 ⟨Nat.le_of_ble_eq_true rfl, Nat.le_of_ble_eq_true rfl⟩ dL_776 rfl ⟨hc.2.2.2.2, trivial, trivial, trivial⟩ (Nat.le_of_ble_eq_true rfl) (by unfold eI; rw [x2]; rfl) (fun H locs hH hO _ hS => ?_)
  exact lv_icmp_eq (tgt := 1223) hx hb dL_779 (by decide) (fun _ => kk w2 H locs ⟨hH, hO, hG, hZ, hS, hl, hR2, hc⟩) (fun cb => absurd rfl cb)
theorem law_most {p : Program} {l : Launch} {e : Env} {s : State} {m : MethodId} {below : List Frame} {meth : Method} {c : Code} {b L k : Nat} {xs : Nat → Int32} {D : va_G} {cy : Nat → ClassId} {ad : Nat → Nat → Nat} {cnt : Nat → Nat} {w : XW} {H : Heap} {locs : List Loc} {ls : Array Slot} {cs sl : Nat} {Q : State → Prop} (hC : LwC p s m c b L xs D cy) (hk : 6 * k + 6 ≤ L) (hs : LwS s D cy b k ad cnt w H locs ls) (hcs : cs ≤ 600000) (hsl : sl ≤ 7302250)
    (kk : ∀ (w2 : XW) (H1 : Heap) (locs1 : List Loc), LwS s D cy b k ad cnt w2 H1 locs1 ls → W p l e room_1 s m #[Value.ref b] below meth c H1 locs1 cs sl Q (F0 m 1223 ls [])) : W p l e room_1 s m #[Value.ref b] below meth c H locs cs sl Q (F0 m 784 ls []) := by
  obtain ⟨hx, hb, hml, hown, hts, hX, hbl, hK, hL⟩ := hC
  obtain ⟨hH, hO, hG, hZ, hS, hl, hR, hc⟩ := hs
  have hbA : ¬ lA s b := Nat.not_le.mpr hbl
  obtain ⟨a, w1, w2, x1, x2, hR2⟩ := st_most hR (xs (6 * k + 1)) (xs (6 * k + 2))
  refine lv_aload_n hx hb dL_784 rfl (lv_at hl 2 rfl) ?_
  refine w_arg (j := 1) (v := 1) hx hb hX hbl hbA hS hl hk hL (by decide) rfl (by decide) dL_785 dL_786 dL_787 dL_788 dL_789 ?_
  refine w_arg (j := 2) (v := 2) hx hb hX hbl hbA hS hl hk hL (by decide) rfl (by decide) dL_790 dL_791 dL_792 dL_793 dL_794 ?_
  refine y_vcall (nL := 4) (as := [.inl (.int (xs (6 * k + 1))), .inl (.int (xs (6 * k + 2)))]) (i := 0) (rest := []) (rr := (some (.inl (.int a)), w1)) hx hb hml hown hts lw_oki hK hG hZ hH hO hS hl.1 hcs hsl m_X11_most vL_106 ⟨Nat.le_of_ble_eq_true rfl, Nat.le_of_ble_eq_true rfl⟩ dL_795 rfl ⟨hc.2.2.2.1, trivial, trivial, trivial⟩ (Nat.le_of_ble_eq_true rfl) (by unfold eI; rw [x1]; rfl) (fun H locs hH hO _ hS => ?_)
  refine lv_aload_n hx hb dL_798 rfl (lv_at hl 1 rfl) ?_
  refine w_arg (j := 1) (v := 1) hx hb hX hbl hbA hS hl hk hL (by decide) rfl (by decide) dL_799 dL_800 dL_801 dL_802 dL_803 ?_
  refine w_arg (j := 2) (v := 2) hx hb hX hbl hbA hS hl hk hL (by decide) rfl (by decide) dL_804 dL_805 dL_806 dL_807 dL_808 ?_
  refine y_vcall (nL := 4) (as := [.inl (.int (xs (6 * k + 1))), .inl (.int (xs (6 * k + 2)))]) (i := 0) (rest := [.int a]) (rr := (some (.inl (.int a)), w2)) hx hb hml hown hts lw_oki hK hG hZ hH hO hS hl.1 hcs hsl m_X12_most vL_109 ⟨Nat.le_of_ble_eq_true rfl, Nat.le_of_ble_eq_true rfl⟩ dL_809 rfl ⟨hc.2.2.2.2, trivial, trivial, trivial⟩ (Nat.le_of_ble_eq_true rfl) (by unfold eI; rw [x2]; rfl) (fun H locs hH hO _ hS => ?_)
  exact lv_icmp_eq (tgt := 1223) hx hb dL_812 (by decide) (fun _ => kk w2 H locs ⟨hH, hO, hG, hZ, hS, hl, hR2, hc⟩) (fun cb => absurd rfl cb)
theorem law_had {p : Program} {l : Launch} {e : Env} {s : State} {m : MethodId} {below : List Frame} {meth : Method} {c : Code} {b L k : Nat} {xs : Nat → Int32} {D : va_G} {cy : Nat → ClassId} {ad : Nat → Nat → Nat} {cnt : Nat → Nat} {w : XW} {H : Heap} {locs : List Loc} {ls : Array Slot} {cs sl : Nat} {Q : State → Prop} (hC : LwC p s m c b L xs D cy) (hk : 6 * k + 6 ≤ L) (hs : LwS s D cy b k ad cnt w H locs ls) (hcs : cs ≤ 600000) (hsl : sl ≤ 7302250)
    (kk : ∀ (w2 : XW) (H1 : Heap) (locs1 : List Loc), LwS s D cy b k ad cnt w2 H1 locs1 ls → W p l e room_1 s m #[Value.ref b] below meth c H1 locs1 cs sl Q (F0 m 1223 ls [])) : W p l e room_1 s m #[Value.ref b] below meth c H locs cs sl Q (F0 m 817 ls []) := by
  obtain ⟨hx, hb, hml, hown, hts, hX, hbl, hK, hL⟩ := hC
  obtain ⟨hH, hO, hG, hZ, hS, hl, hR, hc⟩ := hs
  have hbA : ¬ lA s b := Nat.not_le.mpr hbl
  obtain ⟨a, w1, w2, x1, x2, hR2⟩ := st_had hR (xs (6 * k + 1)) (xs (6 * k + 2)) (xs (6 * k + 3)) (xs (6 * k + 4))
  refine lv_aload_n hx hb dL_817 rfl (lv_at hl 2 rfl) ?_
  refine w_arg (j := 1) (v := 1) hx hb hX hbl hbA hS hl hk hL (by decide) rfl (by decide) dL_818 dL_819 dL_820 dL_821 dL_822 ?_
  refine w_arg (j := 2) (v := 2) hx hb hX hbl hbA hS hl hk hL (by decide) rfl (by decide) dL_823 dL_824 dL_825 dL_826 dL_827 ?_
  refine w_arg (j := 3) (v := 3) hx hb hX hbl hbA hS hl hk hL (by decide) rfl (by decide) dL_828 dL_829 dL_830 dL_831 dL_832 ?_
  refine w_arg (j := 4) (v := 4) hx hb hX hbl hbA hS hl hk hL (by decide) rfl (by decide) dL_833 dL_834 dL_835 dL_836 dL_837 ?_
  refine y_vcall (nL := 4) (as := [.inl (.int (xs (6 * k + 1))), .inl (.int (xs (6 * k + 2))), .inl (.int (xs (6 * k + 3))), .inl (.int (xs (6 * k + 4)))]) (i := 0) (rest := []) (rr := (some (.inl (.int a)), w1)) hx hb hml hown hts lw_oki hK hG hZ hH hO hS hl.1 hcs hsl m_X11_had vL_110 ⟨Nat.le_of_ble_eq_true rfl, Nat.le_of_ble_eq_true rfl⟩ dL_838 rfl ⟨hc.2.2.2.1, trivial, trivial, trivial, trivial, trivial⟩ (Nat.le_of_ble_eq_true rfl) (by unfold eI; rw [x1]; rfl) (fun H locs hH hO _ hS => ?_)
  refine lv_aload_n hx hb dL_841 rfl (lv_at hl 1 rfl) ?_
  refine w_arg (j := 1) (v := 1) hx hb hX hbl hbA hS hl hk hL (by decide) rfl (by decide) dL_842 dL_843 dL_844 dL_845 dL_846 ?_
  refine w_arg (j := 2) (v := 2) hx hb hX hbl hbA hS hl hk hL (by decide) rfl (by decide) dL_847 dL_848 dL_849 dL_850 dL_851 ?_
  refine w_arg (j := 3) (v := 3) hx hb hX hbl hbA hS hl hk hL (by decide) rfl (by decide) dL_852 dL_853 dL_854 dL_855 dL_856 ?_
  refine w_arg (j := 4) (v := 4) hx hb hX hbl hbA hS hl hk hL (by decide) rfl (by decide) dL_857 dL_858 dL_859 dL_860 dL_861 ?_
  refine y_vcall (nL := 4) (as := [.inl (.int (xs (6 * k + 1))), .inl (.int (xs (6 * k + 2))), .inl (.int (xs (6 * k + 3))), .inl (.int (xs (6 * k + 4)))]) (i := 0) (rest := [.int a]) (rr := (some (.inl (.int a)), w2)) hx hb hml hown hts lw_oki hK hG hZ hH hO hS hl.1 hcs hsl m_X12_had vL_114 ⟨Nat.le_of_ble_eq_true rfl, Nat.le_of_ble_eq_true rfl⟩ dL_862 rfl ⟨hc.2.2.2.2, trivial, trivial, trivial, trivial, trivial⟩ (Nat.le_of_ble_eq_true rfl) (by unfold eI; rw [x2]; rfl) (fun H locs hH hO _ hS => ?_)
  exact lv_icmp_eq (tgt := 1223) hx hb dL_865 (by decide) (fun _ => kk w2 H locs ⟨hH, hO, hG, hZ, hS, hl, hR2, hc⟩) (fun cb => absurd rfl cb)
