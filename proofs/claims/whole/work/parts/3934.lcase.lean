/-! ===== the law, call by call ===== -/
theorem law_rests {p : Program} {l : Launch} {e : Env} {s : State} {m : MethodId} {below : List Frame} {meth : Method} {c : Code} {b L k : Nat} {xs : Nat → Int32} {D : va_G} {cy : Nat → ClassId} {ad : Nat → Nat → Nat} {cnt : Nat → Nat} {w : XW} {H : Heap} {locs : List Loc} {ls : Array Slot} {cs sl : Nat} {Q : State → Prop} (hC : LwC p s m c b L xs D cy) (hk : 6 * k + 6 ≤ L) (hs : LwS s D cy b k ad cnt w H locs ls) (hcs : cs ≤ 600000) (hsl : sl ≤ 7302250)
    (kk : ∀ (w2 : XW) (H1 : Heap) (locs1 : List Loc), LwS s D cy b k ad cnt w2 H1 locs1 ls → W p l e room_1 s m #[Value.ref b] below meth c H1 locs1 cs sl Q (F0 m 1223 ls [])) : W p l e room_1 s m #[Value.ref b] below meth c H locs cs sl Q (F0 m 870 ls []) := by
  obtain ⟨hx, hb, hml, hown, hts, hX, hbl, hK, hL⟩ := hC
  obtain ⟨hH, hO, hG, hZ, hS, hl, hR, hc⟩ := hs
  have hbA : ¬ lA s b := Nat.not_le.mpr hbl
  obtain ⟨a, w1, w2, x1, x2, hR2⟩ := st_rests hR (xs (6 * k + 1)) (xs (6 * k + 2)) (xs (6 * k + 3)) (xs (6 * k + 4))
  refine lv_aload_n hx hb dL_870 rfl (lv_at hl 2 rfl) ?_
  refine w_arg (j := 1) (v := 1) hx hb hX hbl hbA hS hl hk hL (by decide) rfl (by decide) dL_871 dL_872 dL_873 dL_874 dL_875 ?_
  refine w_arg (j := 2) (v := 2) hx hb hX hbl hbA hS hl hk hL (by decide) rfl (by decide) dL_876 dL_877 dL_878 dL_879 dL_880 ?_
  refine w_arg (j := 3) (v := 3) hx hb hX hbl hbA hS hl hk hL (by decide) rfl (by decide) dL_881 dL_882 dL_883 dL_884 dL_885 ?_
  refine w_arg (j := 4) (v := 4) hx hb hX hbl hbA hS hl hk hL (by decide) rfl (by decide) dL_886 dL_887 dL_888 dL_889 dL_890 ?_
  refine y_vcall (nL := 4) (as := [.inl (.int (xs (6 * k + 1))), .inl (.int (xs (6 * k + 2))), .inl (.int (xs (6 * k + 3))), .inl (.int (xs (6 * k + 4)))]) (i := 0) (rest := []) (rr := (some (.inl (.int a)), w1)) hx hb hml hown hts lw_oki hK hG hZ hH hO hS hl.1 hcs hsl m_X11_rests vL_115 ⟨Nat.le_of_ble_eq_true rfl, Nat.le_of_ble_eq_true rfl⟩ dL_891 rfl ⟨hc.2.2.2.1, trivial, trivial, trivial, trivial, trivial⟩ (Nat.le_of_ble_eq_true rfl) (by unfold eI; rw [x1]; rfl) (fun H locs hH hO _ hS => ?_)
  refine lv_aload_n hx hb dL_894 rfl (lv_at hl 1 rfl) ?_
  refine w_arg (j := 1) (v := 1) hx hb hX hbl hbA hS hl hk hL (by decide) rfl (by decide) dL_895 dL_896 dL_897 dL_898 dL_899 ?_
  refine w_arg (j := 2) (v := 2) hx hb hX hbl hbA hS hl hk hL (by decide) rfl (by decide) dL_900 dL_901 dL_902 dL_903 dL_904 ?_
  refine w_arg (j := 3) (v := 3) hx hb hX hbl hbA hS hl hk hL (by decide) rfl (by decide) dL_905 dL_906 dL_907 dL_908 dL_909 ?_
  refine w_arg (j := 4) (v := 4) hx hb hX hbl hbA hS hl hk hL (by decide) rfl (by decide) dL_910 dL_911 dL_912 dL_913 dL_914 ?_
  refine y_vcall (nL := 4) (as := [.inl (.int (xs (6 * k + 1))), .inl (.int (xs (6 * k + 2))), .inl (.int (xs (6 * k + 3))), .inl (.int (xs (6 * k + 4)))]) (i := 0) (rest := [.int a]) (rr := (some (.inl (.int a)), w2)) hx hb hml hown hts lw_oki hK hG hZ hH hO hS hl.1 hcs hsl m_X12_rests vL_118 ⟨Nat.le_of_ble_eq_true rfl, Nat.le_of_ble_eq_true rfl⟩ dL_915 rfl ⟨hc.2.2.2.2, trivial, trivial, trivial, trivial, trivial⟩ (Nat.le_of_ble_eq_true rfl) (by unfold eI; rw [x2]; rfl) (fun H locs hH hO _ hS => ?_)
  exact lv_icmp_eq (tgt := 1223) hx hb dL_918 (by decide) (fun _ => kk w2 H locs ⟨hH, hO, hG, hZ, hS, hl, hR2, hc⟩) (fun cb => absurd rfl cb)
theorem law_ring {p : Program} {l : Launch} {e : Env} {s : State} {m : MethodId} {below : List Frame} {meth : Method} {c : Code} {b L k : Nat} {xs : Nat → Int32} {D : va_G} {cy : Nat → ClassId} {ad : Nat → Nat → Nat} {cnt : Nat → Nat} {w : XW} {H : Heap} {locs : List Loc} {ls : Array Slot} {cs sl : Nat} {Q : State → Prop} (hC : LwC p s m c b L xs D cy) (hk : 6 * k + 6 ≤ L) (hs : LwS s D cy b k ad cnt w H locs ls) (hcs : cs ≤ 600000) (hsl : sl ≤ 7302250)
    (kk : ∀ (w2 : XW) (H1 : Heap) (locs1 : List Loc), LwS s D cy b k ad cnt w2 H1 locs1 ls → W p l e room_1 s m #[Value.ref b] below meth c H1 locs1 cs sl Q (F0 m 1223 ls [])) : W p l e room_1 s m #[Value.ref b] below meth c H locs cs sl Q (F0 m 923 ls []) := by
  obtain ⟨hx, hb, hml, hown, hts, hX, hbl, hK, hL⟩ := hC
  obtain ⟨hH, hO, hG, hZ, hS, hl, hR, hc⟩ := hs
  have hbA : ¬ lA s b := Nat.not_le.mpr hbl
  obtain ⟨a, w1, w2, x1, x2, hR2⟩ := st_ring hR (xs (6 * k + 1))
  refine lv_aload_n hx hb dL_923 rfl (lv_at hl 2 rfl) ?_
  refine w_arg (j := 1) (v := 1) hx hb hX hbl hbA hS hl hk hL (by decide) rfl (by decide) dL_924 dL_925 dL_926 dL_927 dL_928 ?_
  refine y_vcall (nL := 4) (as := [.inl (.int (xs (6 * k + 1)))]) (i := 0) (rest := []) (rr := (some (.inl (.int a)), w1)) hx hb hml hown hts lw_oki hK hG hZ hH hO hS hl.1 hcs hsl m_X11_ring vL_119 ⟨Nat.le_of_ble_eq_true rfl, Nat.le_of_ble_eq_true rfl⟩ dL_929 rfl ⟨hc.2.2.2.1, trivial, trivial⟩ (Nat.le_of_ble_eq_true rfl) (by unfold eI; rw [x1]; rfl) (fun H locs hH hO _ hS => ?_)
  refine lv_aload_n hx hb dL_932 rfl (lv_at hl 1 rfl) ?_
  refine w_arg (j := 1) (v := 1) hx hb hX hbl hbA hS hl hk hL (by decide) rfl (by decide) dL_933 dL_934 dL_935 dL_936 dL_937 ?_
  refine y_vcall (nL := 4) (as := [.inl (.int (xs (6 * k + 1)))]) (i := 0) (rest := [.int a]) (rr := (some (.inl (.int a)), w2)) hx hb hml hown hts lw_oki hK hG hZ hH hO hS hl.1 hcs hsl m_X12_ring vL_122 ⟨Nat.le_of_ble_eq_true rfl, Nat.le_of_ble_eq_true rfl⟩ dL_938 rfl ⟨hc.2.2.2.2, trivial, trivial⟩ (Nat.le_of_ble_eq_true rfl) (by unfold eI; rw [x2]; rfl) (fun H locs hH hO _ hS => ?_)
  exact lv_icmp_eq (tgt := 1223) hx hb dL_941 (by decide) (fun _ => kk w2 H locs ⟨hH, hO, hG, hZ, hS, hl, hR2, hc⟩) (fun cb => absurd rfl cb)
theorem law_pence {p : Program} {l : Launch} {e : Env} {s : State} {m : MethodId} {below : List Frame} {meth : Method} {c : Code} {b L k : Nat} {xs : Nat → Int32} {D : va_G} {cy : Nat → ClassId} {ad : Nat → Nat → Nat} {cnt : Nat → Nat} {w : XW} {H : Heap} {locs : List Loc} {ls : Array Slot} {cs sl : Nat} {Q : State → Prop} (hC : LwC p s m c b L xs D cy) (hk : 6 * k + 6 ≤ L) (hs : LwS s D cy b k ad cnt w H locs ls) (hcs : cs ≤ 600000) (hsl : sl ≤ 7302250)
    (kk : ∀ (w2 : XW) (H1 : Heap) (locs1 : List Loc), LwS s D cy b k ad cnt w2 H1 locs1 ls → W p l e room_1 s m #[Value.ref b] below meth c H1 locs1 cs sl Q (F0 m 1223 ls [])) : W p l e room_1 s m #[Value.ref b] below meth c H locs cs sl Q (F0 m 946 ls []) := by
  obtain ⟨hx, hb, hml, hown, hts, hX, hbl, hK, hL⟩ := hC
  obtain ⟨hH, hO, hG, hZ, hS, hl, hR, hc⟩ := hs
  have hbA : ¬ lA s b := Nat.not_le.mpr hbl
  obtain ⟨a, w1, w2, x1, x2, hR2⟩ := st_pence hR (xs (6 * k + 1)) (xs (6 * k + 2))
  refine lv_aload_n hx hb dL_946 rfl (lv_at hl 2 rfl) ?_
  refine w_arg (j := 1) (v := 1) hx hb hX hbl hbA hS hl hk hL (by decide) rfl (by decide) dL_947 dL_948 dL_949 dL_950 dL_951 ?_
  refine w_arg (j := 2) (v := 2) hx hb hX hbl hbA hS hl hk hL (by decide) rfl (by decide) dL_952 dL_953 dL_954 dL_955 dL_956 ?_
  refine y_vcall (nL := 4) (as := [.inl (.int (xs (6 * k + 1))), .inl (.int (xs (6 * k + 2)))]) (i := 0) (rest := []) (rr := (some (.inl (.int a)), w1)) hx hb hml hown hts lw_oki hK hG hZ hH hO hS hl.1 hcs hsl m_X11_pence vL_123 ⟨Nat.le_of_ble_eq_true rfl, Nat.le_of_ble_eq_true rfl⟩ dL_957 rfl ⟨hc.2.2.2.1, trivial, trivial, trivial⟩ (Nat.le_of_ble_eq_true rfl) (by unfold eI; rw [x1]; rfl) (fun H locs hH hO _ hS => ?_)
  refine lv_aload_n hx hb dL_960 rfl (lv_at hl 1 rfl) ?_
  refine w_arg (j := 1) (v := 1) hx hb hX hbl hbA hS hl hk hL (by decide) rfl (by decide) dL_961 dL_962 dL_963 dL_964 dL_965 ?_
  refine w_arg (j := 2) (v := 2) hx hb hX hbl hbA hS hl hk hL (by decide) rfl (by decide) dL_966 dL_967 dL_968 dL_969 dL_970 ?_
  refine y_vcall (nL := 4) (as := [.inl (.int (xs (6 * k + 1))), .inl (.int (xs (6 * k + 2)))]) (i := 0) (rest := [.int a]) (rr := (some (.inl (.int a)), w2)) hx hb hml hown hts lw_oki hK hG hZ hH hO hS hl.1 hcs hsl m_X12_pence vL_126 ⟨Nat.le_of_ble_eq_true rfl, Nat.le_of_ble_eq_true rfl⟩ dL_971 rfl ⟨hc.2.2.2.2, trivial, trivial, trivial⟩ (Nat.le_of_ble_eq_true rfl) (by unfold eI; rw [x2]; rfl) (fun H locs hH hO _ hS => ?_)
  exact lv_icmp_eq (tgt := 1223) hx hb dL_974 (by decide) (fun _ => kk w2 H locs ⟨hH, hO, hG, hZ, hS, hl, hR2, hc⟩) (fun cb => absurd rfl cb)
theorem law_note {p : Program} {l : Launch} {e : Env} {s : State} {m : MethodId} {below : List Frame} {meth : Method} {c : Code} {b L k : Nat} {xs : Nat → Int32} {D : va_G} {cy : Nat → ClassId} {ad : Nat → Nat → Nat} {cnt : Nat → Nat} {w : XW} {H : Heap} {locs : List Loc} {ls : Array Slot} {cs sl : Nat} {Q : State → Prop} (hC : LwC p s m c b L xs D cy) (hk : 6 * k + 6 ≤ L) (hs : LwS s D cy b k ad cnt w H locs ls) (hcs : cs ≤ 600000) (hsl : sl ≤ 7302250)
    (kk : ∀ (w2 : XW) (H1 : Heap) (locs1 : List Loc), LwS s D cy b k ad cnt w2 H1 locs1 ls → W p l e room_1 s m #[Value.ref b] below meth c H1 locs1 cs sl Q (F0 m 1223 ls [])) : W p l e room_1 s m #[Value.ref b] below meth c H locs cs sl Q (F0 m 979 ls []) := by
  obtain ⟨hx, hb, hml, hown, hts, hX, hbl, hK, hL⟩ := hC
  obtain ⟨hH, hO, hG, hZ, hS, hl, hR, hc⟩ := hs
  have hbA : ¬ lA s b := Nat.not_le.mpr hbl
  obtain ⟨a, w1, w2, x1, x2, hR2⟩ := st_note hR (xs (6 * k + 1)) (xs (6 * k + 2)) (xs (6 * k + 3))
  refine lv_aload_n hx hb dL_979 rfl (lv_at hl 2 rfl) ?_
  refine w_arg (j := 1) (v := 1) hx hb hX hbl hbA hS hl hk hL (by decide) rfl (by decide) dL_980 dL_981 dL_982 dL_983 dL_984 ?_
  refine w_arg (j := 2) (v := 2) hx hb hX hbl hbA hS hl hk hL (by decide) rfl (by decide) dL_985 dL_986 dL_987 dL_988 dL_989 ?_
  refine w_arg (j := 3) (v := 3) hx hb hX hbl hbA hS hl hk hL (by decide) rfl (by decide) dL_990 dL_991 dL_992 dL_993 dL_994 ?_
  refine y_vcall (nL := 4) (as := [.inl (.int (xs (6 * k + 1))), .inl (.int (xs (6 * k + 2))), .inl (.int (xs (6 * k + 3)))]) (i := 0) (rest := []) (rr := (some (.inl (.int a)), w1)) hx hb hml hown hts lw_oki hK hG hZ hH hO hS hl.1 hcs hsl m_X11_note vL_127 ⟨Nat.le_of_ble_eq_true rfl, Nat.le_of_ble_eq_true rfl⟩ dL_995 rfl ⟨hc.2.2.2.1, trivial, trivial, trivial, trivial⟩ (Nat.le_of_ble_eq_true rfl) (by unfold eI; rw [x1]; rfl) (fun H locs hH hO _ hS => ?_)
  refine lv_aload_n hx hb dL_998 rfl (lv_at hl 1 rfl) ?_
  refine w_arg (j := 1) (v := 1) hx hb hX hbl hbA hS hl hk hL (by decide) rfl (by decide) dL_999 dL_1000 dL_1001 dL_1002 dL_1003 ?_
  refine w_arg (j := 2) (v := 2) hx hb hX hbl hbA hS hl hk hL (by decide) rfl (by decide) dL_1004 dL_1005 dL_1006 dL_1007 dL_1008 ?_
  refine w_arg (j := 3) (v := 3) hx hb hX hbl hbA hS hl hk hL (by decide) rfl (by decide) dL_1009 dL_1010 dL_1011 dL_1012 dL_1013 ?_
  refine y_vcall (nL := 4) (as := [.inl (.int (xs (6 * k + 1))), .inl (.int (xs (6 * k + 2))), .inl (.int (xs (6 * k + 3)))]) (i := 0) (rest := [.int a]) (rr := (some (.inl (.int a)), w2)) hx hb hml hown hts lw_oki hK hG hZ hH hO hS hl.1 hcs hsl m_X12_note vL_130 ⟨Nat.le_of_ble_eq_true rfl, Nat.le_of_ble_eq_true rfl⟩ dL_1014 rfl ⟨hc.2.2.2.2, trivial, trivial, trivial, trivial⟩ (Nat.le_of_ble_eq_true rfl) (by unfold eI; rw [x2]; rfl) (fun H locs hH hO _ hS => ?_)
  exact lv_icmp_eq (tgt := 1223) hx hb dL_1017 (by decide) (fun _ => kk w2 H locs ⟨hH, hO, hG, hZ, hS, hl, hR2, hc⟩) (fun cb => absurd rfl cb)
theorem law_ruled {p : Program} {l : Launch} {e : Env} {s : State} {m : MethodId} {below : List Frame} {meth : Method} {c : Code} {b L k : Nat} {xs : Nat → Int32} {D : va_G} {cy : Nat → ClassId} {ad : Nat → Nat → Nat} {cnt : Nat → Nat} {w : XW} {H : Heap} {locs : List Loc} {ls : Array Slot} {cs sl : Nat} {Q : State → Prop} (hC : LwC p s m c b L xs D cy) (hk : 6 * k + 6 ≤ L) (hs : LwS s D cy b k ad cnt w H locs ls) (hcs : cs ≤ 600000) (hsl : sl ≤ 7302250)
    (kk : ∀ (w2 : XW) (H1 : Heap) (locs1 : List Loc), LwS s D cy b k ad cnt w2 H1 locs1 ls → W p l e room_1 s m #[Value.ref b] below meth c H1 locs1 cs sl Q (F0 m 1223 ls [])) : W p l e room_1 s m #[Value.ref b] below meth c H locs cs sl Q (F0 m 1022 ls []) := by
  obtain ⟨hx, hb, hml, hown, hts, hX, hbl, hK, hL⟩ := hC
  obtain ⟨hH, hO, hG, hZ, hS, hl, hR, hc⟩ := hs
  have hbA : ¬ lA s b := Nat.not_le.mpr hbl
  obtain ⟨a, w1, w2, x1, x2, hR2⟩ := st_ruled hR (xs (6 * k + 1))
  refine lv_aload_n hx hb dL_1022 rfl (lv_at hl 2 rfl) ?_
  refine w_arg (j := 1) (v := 1) hx hb hX hbl hbA hS hl hk hL (by decide) rfl (by decide) dL_1023 dL_1024 dL_1025 dL_1026 dL_1027 ?_
  refine y_vcall (nL := 4) (as := [.inl (.int (xs (6 * k + 1)))]) (i := 0) (rest := []) (rr := (some (.inl (.int a)), w1)) hx hb hml hown hts lw_oki hK hG hZ hH hO hS hl.1 hcs hsl m_X11_ruled vL_131 ⟨Nat.le_of_ble_eq_true rfl, Nat.le_of_ble_eq_true rfl⟩ dL_1028 rfl ⟨hc.2.2.2.1, trivial, trivial⟩ (Nat.le_of_ble_eq_true rfl) (by unfold eI; rw [x1]; rfl) (fun H locs hH hO _ hS => ?_)
  refine lv_aload_n hx hb dL_1031 rfl (lv_at hl 1 rfl) ?_
  refine w_arg (j := 1) (v := 1) hx hb hX hbl hbA hS hl hk hL (by decide) rfl (by decide) dL_1032 dL_1033 dL_1034 dL_1035 dL_1036 ?_
  refine y_vcall (nL := 4) (as := [.inl (.int (xs (6 * k + 1)))]) (i := 0) (rest := [.int a]) (rr := (some (.inl (.int a)), w2)) hx hb hml hown hts lw_oki hK hG hZ hH hO hS hl.1 hcs hsl m_X12_ruled vL_134 ⟨Nat.le_of_ble_eq_true rfl, Nat.le_of_ble_eq_true rfl⟩ dL_1037 rfl ⟨hc.2.2.2.2, trivial, trivial⟩ (Nat.le_of_ble_eq_true rfl) (by unfold eI; rw [x2]; rfl) (fun H locs hH hO _ hS => ?_)
  exact lv_icmp_eq (tgt := 1223) hx hb dL_1040 (by decide) (fun _ => kk w2 H locs ⟨hH, hO, hG, hZ, hS, hl, hR2, hc⟩) (fun cb => absurd rfl cb)
theorem law_look {p : Program} {l : Launch} {e : Env} {s : State} {m : MethodId} {below : List Frame} {meth : Method} {c : Code} {b L k : Nat} {xs : Nat → Int32} {D : va_G} {cy : Nat → ClassId} {ad : Nat → Nat → Nat} {cnt : Nat → Nat} {w : XW} {H : Heap} {locs : List Loc} {ls : Array Slot} {cs sl : Nat} {Q : State → Prop} (hC : LwC p s m c b L xs D cy) (hk : 6 * k + 6 ≤ L) (hs : LwS s D cy b k ad cnt w H locs ls) (hcs : cs ≤ 600000) (hsl : sl ≤ 7302250)
    (kk : ∀ (w2 : XW) (H1 : Heap) (locs1 : List Loc), LwS s D cy b k ad cnt w2 H1 locs1 ls → W p l e room_1 s m #[Value.ref b] below meth c H1 locs1 cs sl Q (F0 m 1223 ls [])) : W p l e room_1 s m #[Value.ref b] below meth c H locs cs sl Q (F0 m 1045 ls []) := by
  obtain ⟨hx, hb, hml, hown, hts, hX, hbl, hK, hL⟩ := hC
  obtain ⟨hH, hO, hG, hZ, hS, hl, hR, hc⟩ := hs
  have hbA : ¬ lA s b := Nat.not_le.mpr hbl
  obtain ⟨a, w1, w2, x1, x2, hR2⟩ := st_look hR (xs (6 * k + 1)) (xs (6 * k + 2))
  refine lv_aload_n hx hb dL_1045 rfl (lv_at hl 2 rfl) ?_
  refine w_arg (j := 1) (v := 1) hx hb hX hbl hbA hS hl hk hL (by decide) rfl (by decide) dL_1046 dL_1047 dL_1048 dL_1049 dL_1050 ?_
  refine w_arg (j := 2) (v := 2) hx hb hX hbl hbA hS hl hk hL (by decide) rfl (by decide) dL_1051 dL_1052 dL_1053 dL_1054 dL_1055 ?_
  refine y_vcall (nL := 4) (as := [.inl (.int (xs (6 * k + 1))), .inl (.int (xs (6 * k + 2)))]) (i := 0) (rest := []) (rr := (some (.inl (.int a)), w1)) hx hb hml hown hts lw_oki hK hG hZ hH hO hS hl.1 hcs hsl m_X11_look vL_135 ⟨Nat.le_of_ble_eq_true rfl, Nat.le_of_ble_eq_true rfl⟩ dL_1056 rfl ⟨hc.2.2.2.1, trivial, trivial, trivial⟩ (Nat.le_of_ble_eq_true rfl) (by unfold eI; rw [x1]; rfl) (fun H locs hH hO _ hS => ?_)
  refine lv_aload_n hx hb dL_1059 rfl (lv_at hl 1 rfl) ?_
  refine w_arg (j := 1) (v := 1) hx hb hX hbl hbA hS hl hk hL (by decide) rfl (by decide) dL_1060 dL_1061 dL_1062 dL_1063 dL_1064 ?_
  refine w_arg (j := 2) (v := 2) hx hb hX hbl hbA hS hl hk hL (by decide) rfl (by decide) dL_1065 dL_1066 dL_1067 dL_1068 dL_1069 ?_
  refine y_vcall (nL := 4) (as := [.inl (.int (xs (6 * k + 1))), .inl (.int (xs (6 * k + 2)))]) (i := 0) (rest := [.int a]) (rr := (some (.inl (.int a)), w2)) hx hb hml hown hts lw_oki hK hG hZ hH hO hS hl.1 hcs hsl m_X12_look vL_138 ⟨Nat.le_of_ble_eq_true rfl, Nat.le_of_ble_eq_true rfl⟩ dL_1070 rfl ⟨hc.2.2.2.2, trivial, trivial, trivial⟩ (Nat.le_of_ble_eq_true rfl) (by unfold eI; rw [x2]; rfl) (fun H locs hH hO _ hS => ?_)
  exact lv_icmp_eq (tgt := 1223) hx hb dL_1073 (by decide) (fun _ => kk w2 H locs ⟨hH, hO, hG, hZ, hS, hl, hR2, hc⟩) (fun cb => absurd rfl cb)
theorem law_seed {p : Program} {l : Launch} {e : Env} {s : State} {m : MethodId} {below : List Frame} {meth : Method} {c : Code} {b L k : Nat} {xs : Nat → Int32} {D : va_G} {cy : Nat → ClassId} {ad : Nat → Nat → Nat} {cnt : Nat → Nat} {w : XW} {H : Heap} {locs : List Loc} {ls : Array Slot} {cs sl : Nat} {Q : State → Prop} (hC : LwC p s m c b L xs D cy) (hk : 6 * k + 6 ≤ L) (hs : LwS s D cy b k ad cnt w H locs ls) (hcs : cs ≤ 600000) (hsl : sl ≤ 7302250)
    (kk : ∀ (w2 : XW) (H1 : Heap) (locs1 : List Loc), LwS s D cy b k ad cnt w2 H1 locs1 ls → W p l e room_1 s m #[Value.ref b] below meth c H1 locs1 cs sl Q (F0 m 1223 ls [])) : W p l e room_1 s m #[Value.ref b] below meth c H locs cs sl Q (F0 m 1078 ls []) := by
  obtain ⟨hx, hb, hml, hown, hts, hX, hbl, hK, hL⟩ := hC
  obtain ⟨hH, hO, hG, hZ, hS, hl, hR, hc⟩ := hs
  have hbA : ¬ lA s b := Nat.not_le.mpr hbl
  obtain ⟨a, w1, w2, x1, x2, hR2⟩ := st_seed hR (xs (6 * k + 1))
  refine lv_aload_n hx hb dL_1078 rfl (lv_at hl 2 rfl) ?_
  refine w_arg (j := 1) (v := 1) hx hb hX hbl hbA hS hl hk hL (by decide) rfl (by decide) dL_1079 dL_1080 dL_1081 dL_1082 dL_1083 ?_
  refine y_vcall (nL := 4) (as := [.inl (.int (xs (6 * k + 1)))]) (i := 0) (rest := []) (rr := (some (.inl (.int a)), w1)) hx hb hml hown hts lw_oki hK hG hZ hH hO hS hl.1 hcs hsl m_X11_seed vL_139 ⟨Nat.le_of_ble_eq_true rfl, Nat.le_of_ble_eq_true rfl⟩ dL_1084 rfl ⟨hc.2.2.2.1, trivial, trivial⟩ (Nat.le_of_ble_eq_true rfl) (by unfold eI; rw [x1]; rfl) (fun H locs hH hO _ hS => ?_)
  refine lv_aload_n hx hb dL_1087 rfl (lv_at hl 1 rfl) ?_
  refine w_arg (j := 1) (v := 1) hx hb hX hbl hbA hS hl hk hL (by decide) rfl (by decide) dL_1088 dL_1089 dL_1090 dL_1091 dL_1092 ?_
  refine y_vcall (nL := 4) (as := [.inl (.int (xs (6 * k + 1)))]) (i := 0) (rest := [.int a]) (rr := (some (.inl (.int a)), w2)) hx hb hml hown hts lw_oki hK hG hZ hH hO hS hl.1 hcs hsl m_X12_seed vL_142 ⟨Nat.le_of_ble_eq_true rfl, Nat.le_of_ble_eq_true rfl⟩ dL_1093 rfl ⟨hc.2.2.2.2, trivial, trivial⟩ (Nat.le_of_ble_eq_true rfl) (by unfold eI; rw [x2]; rfl) (fun H locs hH hO _ hS => ?_)
  exact lv_icmp_eq (tgt := 1223) hx hb dL_1096 (by decide) (fun _ => kk w2 H locs ⟨hH, hO, hG, hZ, hS, hl, hR2, hc⟩) (fun cb => absurd rfl cb)
theorem law_frosts {p : Program} {l : Launch} {e : Env} {s : State} {m : MethodId} {below : List Frame} {meth : Method} {c : Code} {b L k : Nat} {xs : Nat → Int32} {D : va_G} {cy : Nat → ClassId} {ad : Nat → Nat → Nat} {cnt : Nat → Nat} {w : XW} {H : Heap} {locs : List Loc} {ls : Array Slot} {cs sl : Nat} {Q : State → Prop} (hC : LwC p s m c b L xs D cy) (hk : 6 * k + 6 ≤ L) (hs : LwS s D cy b k ad cnt w H locs ls) (hcs : cs ≤ 600000) (hsl : sl ≤ 7302250)
    (kk : ∀ (w2 : XW) (H1 : Heap) (locs1 : List Loc), LwS s D cy b k ad cnt w2 H1 locs1 ls → W p l e room_1 s m #[Value.ref b] below meth c H1 locs1 cs sl Q (F0 m 1223 ls [])) : W p l e room_1 s m #[Value.ref b] below meth c H locs cs sl Q (F0 m 1101 ls []) := by
  obtain ⟨hx, hb, hml, hown, hts, hX, hbl, hK, hL⟩ := hC
  obtain ⟨hH, hO, hG, hZ, hS, hl, hR, hc⟩ := hs
  have hbA : ¬ lA s b := Nat.not_le.mpr hbl
  obtain ⟨a, w1, w2, x1, x2, hR2⟩ := st_frosts hR (xs (6 * k + 1)) (xs (6 * k + 2)) (xs (6 * k + 3)) (xs (6 * k + 4))
  refine lv_aload_n hx hb dL_1101 rfl (lv_at hl 2 rfl) ?_
  refine w_arg (j := 1) (v := 1) hx hb hX hbl hbA hS hl hk hL (by decide) rfl (by decide) dL_1102 dL_1103 dL_1104 dL_1105 dL_1106 ?_
  refine w_arg (j := 2) (v := 2) hx hb hX hbl hbA hS hl hk hL (by decide) rfl (by decide) dL_1107 dL_1108 dL_1109 dL_1110 dL_1111 ?_
  refine w_arg (j := 3) (v := 3) hx hb hX hbl hbA hS hl hk hL (by decide) rfl (by decide) dL_1112 dL_1113 dL_1114 dL_1115 dL_1116 ?_
  refine w_arg (j := 4) (v := 4) hx hb hX hbl hbA hS hl hk hL (by decide) rfl (by decide) dL_1117 dL_1118 dL_1119 dL_1120 dL_1121 ?_
  refine y_vcall (nL := 4) (as := [.inl (.int (xs (6 * k + 1))), .inl (.int (xs (6 * k + 2))), .inl (.int (xs (6 * k + 3))), .inl (.int (xs (6 * k + 4)))]) (i := 0) (rest := []) (rr := (some (.inl (.int a)), w1)) hx hb hml hown hts lw_oki hK hG hZ hH hO hS hl.1 hcs hsl m_X11_frosts vL_143 ⟨Nat.le_of_ble_eq_true rfl, Nat.le_of_ble_eq_true rfl⟩ dL_1122 rfl ⟨hc.2.2.2.1, trivial, trivial, trivial, trivial, trivial⟩ (Nat.le_of_ble_eq_true rfl) (by unfold eI; rw [x1]; rfl) (fun H locs hH hO _ hS => ?_)
  refine lv_aload_n hx hb dL_1125 rfl (lv_at hl 1 rfl) ?_
  refine w_arg (j := 1) (v := 1) hx hb hX hbl hbA hS hl hk hL (by decide) rfl (by decide) dL_1126 dL_1127 dL_1128 dL_1129 dL_1130 ?_
  refine w_arg (j := 2) (v := 2) hx hb hX hbl hbA hS hl hk hL (by decide) rfl (by decide) dL_1131 dL_1132 dL_1133 dL_1134 dL_1135 ?_
  refine w_arg (j := 3) (v := 3) hx hb hX hbl hbA hS hl hk hL (by decide) rfl (by decide) dL_1136 dL_1137 dL_1138 dL_1139 dL_1140 ?_
  refine w_arg (j := 4) (v := 4) hx hb hX hbl hbA hS hl hk hL (by decide) rfl (by decide) dL_1141 dL_1142 dL_1143 dL_1144 dL_1145 ?_
  refine y_vcall (nL := 4) (as := [.inl (.int (xs (6 * k + 1))), .inl (.int (xs (6 * k + 2))), .inl (.int (xs (6 * k + 3))), .inl (.int (xs (6 * k + 4)))]) (i := 0) (rest := [.int a]) (rr := (some (.inl (.int a)), w2)) hx hb hml hown hts lw_oki hK hG hZ hH hO hS hl.1 hcs hsl m_X12_frosts vL_146 ⟨Nat.le_of_ble_eq_true rfl, Nat.le_of_ble_eq_true rfl⟩ dL_1146 rfl ⟨hc.2.2.2.2, trivial, trivial, trivial, trivial, trivial⟩ (Nat.le_of_ble_eq_true rfl) (by unfold eI; rw [x2]; rfl) (fun H locs hH hO _ hS => ?_)
  exact lv_icmp_eq (tgt := 1223) hx hb dL_1149 (by decide) (fun _ => kk w2 H locs ⟨hH, hO, hG, hZ, hS, hl, hR2, hc⟩) (fun cb => absurd rfl cb)
theorem law_count {p : Program} {l : Launch} {e : Env} {s : State} {m : MethodId} {below : List Frame} {meth : Method} {c : Code} {b L k : Nat} {xs : Nat → Int32} {D : va_G} {cy : Nat → ClassId} {ad : Nat → Nat → Nat} {cnt : Nat → Nat} {w : XW} {H : Heap} {locs : List Loc} {ls : Array Slot} {cs sl : Nat} {Q : State → Prop} (hC : LwC p s m c b L xs D cy) (hk : 6 * k + 6 ≤ L) (hs : LwS s D cy b k ad cnt w H locs ls) (hcs : cs ≤ 600000) (hsl : sl ≤ 7302250)
    (kk : ∀ (w2 : XW) (H1 : Heap) (locs1 : List Loc), LwS s D cy b k ad cnt w2 H1 locs1 ls → W p l e room_1 s m #[Value.ref b] below meth c H1 locs1 cs sl Q (F0 m 1223 ls [])) : W p l e room_1 s m #[Value.ref b] below meth c H locs cs sl Q (F0 m 1154 ls []) := by
  obtain ⟨hx, hb, hml, hown, hts, hX, hbl, hK, hL⟩ := hC
  obtain ⟨hH, hO, hG, hZ, hS, hl, hR, hc⟩ := hs
  have hbA : ¬ lA s b := Nat.not_le.mpr hbl
  obtain ⟨a, w1, w2, x1, x2, hR2⟩ := st_count hR (xs (6 * k + 1))
  refine lv_aload_n hx hb dL_1154 rfl (lv_at hl 2 rfl) ?_
  refine w_arg (j := 1) (v := 1) hx hb hX hbl hbA hS hl hk hL (by decide) rfl (by decide) dL_1155 dL_1156 dL_1157 dL_1158 dL_1159 ?_
  refine y_vcall (nL := 4) (as := [.inl (.int (xs (6 * k + 1)))]) (i := 0) (rest := []) (rr := (some (.inl (.int a)), w1)) hx hb hml hown hts lw_oki hK hG hZ hH hO hS hl.1 hcs hsl m_X11_count vL_147 ⟨Nat.le_of_ble_eq_true rfl, Nat.le_of_ble_eq_true rfl⟩ dL_1160 rfl ⟨hc.2.2.2.1, trivial, trivial⟩ (Nat.le_of_ble_eq_true rfl) (by unfold eI; rw [x1]; rfl) (fun H locs hH hO _ hS => ?_)
  refine lv_aload_n hx hb dL_1163 rfl (lv_at hl 1 rfl) ?_
  refine w_arg (j := 1) (v := 1) hx hb hX hbl hbA hS hl hk hL (by decide) rfl (by decide) dL_1164 dL_1165 dL_1166 dL_1167 dL_1168 ?_
  refine y_vcall (nL := 4) (as := [.inl (.int (xs (6 * k + 1)))]) (i := 0) (rest := [.int a]) (rr := (some (.inl (.int a)), w2)) hx hb hml hown hts lw_oki hK hG hZ hH hO hS hl.1 hcs hsl m_X12_count vL_150 ⟨Nat.le_of_ble_eq_true rfl, Nat.le_of_ble_eq_true rfl⟩ dL_1169 rfl ⟨hc.2.2.2.2, trivial, trivial⟩ (Nat.le_of_ble_eq_true rfl) (by unfold eI; rw [x2]; rfl) (fun H locs hH hO _ hS => ?_)
  exact lv_icmp_eq (tgt := 1223) hx hb dL_1172 (by decide) (fun _ => kk w2 H locs ⟨hH, hO, hG, hZ, hS, hl, hR2, hc⟩) (fun cb => absurd rfl cb)
theorem law_image {p : Program} {l : Launch} {e : Env} {s : State} {m : MethodId} {below : List Frame} {meth : Method} {c : Code} {b L k : Nat} {xs : Nat → Int32} {D : va_G} {cy : Nat → ClassId} {ad : Nat → Nat → Nat} {cnt : Nat → Nat} {w : XW} {H : Heap} {locs : List Loc} {ls : Array Slot} {cs sl : Nat} {Q : State → Prop} (hC : LwC p s m c b L xs D cy) (hk : 6 * k + 6 ≤ L) (hs : LwS s D cy b k ad cnt w H locs ls) (hcs : cs ≤ 600000) (hsl : sl ≤ 7302250)
    (kk : ∀ (w2 : XW) (H1 : Heap) (locs1 : List Loc), LwS s D cy b k ad cnt w2 H1 locs1 ls → W p l e room_1 s m #[Value.ref b] below meth c H1 locs1 cs sl Q (F0 m 1223 ls [])) : W p l e room_1 s m #[Value.ref b] below meth c H locs cs sl Q (F0 m 1177 ls []) := by
  obtain ⟨hx, hb, hml, hown, hts, hX, hbl, hK, hL⟩ := hC
  obtain ⟨hH, hO, hG, hZ, hS, hl, hR, hc⟩ := hs
  have hbA : ¬ lA s b := Nat.not_le.mpr hbl
  obtain ⟨a, w1, w2, x1, x2, hR2⟩ := st_image hR (xs (6 * k + 1))
  refine lv_aload_n hx hb dL_1177 rfl (lv_at hl 2 rfl) ?_
  refine w_arg (j := 1) (v := 1) hx hb hX hbl hbA hS hl hk hL (by decide) rfl (by decide) dL_1178 dL_1179 dL_1180 dL_1181 dL_1182 ?_
  refine y_vcall (nL := 4) (as := [.inl (.int (xs (6 * k + 1)))]) (i := 0) (rest := []) (rr := (some (.inl (.int a)), w1)) hx hb hml hown hts lw_oki hK hG hZ hH hO hS hl.1 hcs hsl m_X11_image vL_151 ⟨Nat.le_of_ble_eq_true rfl, Nat.le_of_ble_eq_true rfl⟩ dL_1183 rfl ⟨hc.2.2.2.1, trivial, trivial⟩ (Nat.le_of_ble_eq_true rfl) (by unfold eI; rw [x1]; rfl) (fun H locs hH hO _ hS => ?_)
  refine lv_aload_n hx hb dL_1186 rfl (lv_at hl 1 rfl) ?_
  refine w_arg (j := 1) (v := 1) hx hb hX hbl hbA hS hl hk hL (by decide) rfl (by decide) dL_1187 dL_1188 dL_1189 dL_1190 dL_1191 ?_
  refine y_vcall (nL := 4) (as := [.inl (.int (xs (6 * k + 1)))]) (i := 0) (rest := [.int a]) (rr := (some (.inl (.int a)), w2)) hx hb hml hown hts lw_oki hK hG hZ hH hO hS hl.1 hcs hsl m_X12_image vL_154 ⟨Nat.le_of_ble_eq_true rfl, Nat.le_of_ble_eq_true rfl⟩ dL_1192 rfl ⟨hc.2.2.2.2, trivial, trivial⟩ (Nat.le_of_ble_eq_true rfl) (by unfold eI; rw [x2]; rfl) (fun H locs hH hO _ hS => ?_)
  exact lv_icmp_eq (tgt := 1223) hx hb dL_1195 (by decide) (fun _ => kk w2 H locs ⟨hH, hO, hG, hZ, hS, hl, hR2, hc⟩) (fun cb => absurd rfl cb)
theorem law_back {p : Program} {l : Launch} {e : Env} {s : State} {m : MethodId} {below : List Frame} {meth : Method} {c : Code} {b L k : Nat} {xs : Nat → Int32} {D : va_G} {cy : Nat → ClassId} {ad : Nat → Nat → Nat} {cnt : Nat → Nat} {w : XW} {H : Heap} {locs : List Loc} {ls : Array Slot} {cs sl : Nat} {Q : State → Prop} (hC : LwC p s m c b L xs D cy) (hk : 6 * k + 6 ≤ L) (hs : LwS s D cy b k ad cnt w H locs ls) (hcs : cs ≤ 600000) (hsl : sl ≤ 7302250)
    (kk : ∀ (w2 : XW) (H1 : Heap) (locs1 : List Loc), LwS s D cy b k ad cnt w2 H1 locs1 ls → W p l e room_1 s m #[Value.ref b] below meth c H1 locs1 cs sl Q (F0 m 1223 ls [])) : W p l e room_1 s m #[Value.ref b] below meth c H locs cs sl Q (F0 m 1200 ls []) := by
  obtain ⟨hx, hb, hml, hown, hts, hX, hbl, hK, hL⟩ := hC
  obtain ⟨hH, hO, hG, hZ, hS, hl, hR, hc⟩ := hs
  have hbA : ¬ lA s b := Nat.not_le.mpr hbl
  obtain ⟨a, w1, w2, x1, x2, hR2⟩ := st_back hR (xs (6 * k + 1))
  refine lv_aload_n hx hb dL_1200 rfl (lv_at hl 2 rfl) ?_
  refine w_arg (j := 1) (v := 1) hx hb hX hbl hbA hS hl hk hL (by decide) rfl (by decide) dL_1201 dL_1202 dL_1203 dL_1204 dL_1205 ?_
  refine y_vcall (nL := 4) (as := [.inl (.int (xs (6 * k + 1)))]) (i := 0) (rest := []) (rr := (some (.inl (.int a)), w1)) hx hb hml hown hts lw_oki hK hG hZ hH hO hS hl.1 hcs hsl m_X11_back vL_155 ⟨Nat.le_of_ble_eq_true rfl, Nat.le_of_ble_eq_true rfl⟩ dL_1206 rfl ⟨hc.2.2.2.1, trivial, trivial⟩ (Nat.le_of_ble_eq_true rfl) (by unfold eI; rw [x1]; rfl) (fun H locs hH hO _ hS => ?_)
  refine lv_aload_n hx hb dL_1209 rfl (lv_at hl 1 rfl) ?_
  refine w_arg (j := 1) (v := 1) hx hb hX hbl hbA hS hl hk hL (by decide) rfl (by decide) dL_1210 dL_1211 dL_1212 dL_1213 dL_1214 ?_
  refine y_vcall (nL := 4) (as := [.inl (.int (xs (6 * k + 1)))]) (i := 0) (rest := [.int a]) (rr := (some (.inl (.int a)), w2)) hx hb hml hown hts lw_oki hK hG hZ hH hO hS hl.1 hcs hsl m_X12_back vL_158 ⟨Nat.le_of_ble_eq_true rfl, Nat.le_of_ble_eq_true rfl⟩ dL_1215 rfl ⟨hc.2.2.2.2, trivial, trivial⟩ (Nat.le_of_ble_eq_true rfl) (by unfold eI; rw [x2]; rfl) (fun H locs hH hO _ hS => ?_)
  exact lv_icmp_eq (tgt := 1223) hx hb dL_1218 (by decide) (fun _ => kk w2 H locs ⟨hH, hO, hG, hZ, hS, hl, hR2, hc⟩) (fun cb => absurd rfl cb)
