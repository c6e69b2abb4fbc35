def xfsR (ad : Nat → Nat → Nat) (w : XW) (κ i : Nat) : Nat → List XC → List Value
  | _, [] => []
  | k, c :: cs => xcv ad w κ i k c :: xfsR ad w κ i (k + 1) cs
theorem xfsR_get (ad : Nat → Nat → Nat) (w : XW) (κ i : Nat) : ∀ (fl : List XC) (k j : Nat), (xfsR ad w κ i k fl)[j]? = (fl[j]?).map (xcv ad w κ i (k + j)) := by
  intro fl
  induction fl with
  | nil => intro k j; rfl
  | cons c cs ih =>
    intro k j
    cases j with
    | zero => rfl
    | succ j =>
      show (xfsR ad w κ i (k + 1) cs)[j]? = (cs[j]?).map (xcv ad w κ i (k + (j + 1)))
      rw [ih, show k + 1 + j = k + (j + 1) by omega]
theorem xfs_R (ad : Nat → Nat → Nat) (w : XW) (κ i : Nat) (fl : List XC) : xfs ad w κ i fl = xfsR ad w κ i 0 fl := by
  apply List.ext_getElem?
  intro j
  rw [xfsR_get, Nat.zero_add]
  unfold xfs
  rw [List.getElem?_mapIdx]
abbrev LM0 : List Nat := [1, 1, 4, 1, 5, 1, 0, 1, 26, 1, 1, 0, 1, 1, 1, 1, 1, 1, 1, 1, 1, 1, 5, 5, 5, 1, 0, 0, 1, 1, 26, 26, 26, 26, 1, 1, 1, 1, 1, 1, 1, 1, 0, 0, 0, 0, 0, 0, 0, 0, 0, 0, 0, 0, 0, 0, 0, 0, 0, 0, 0, 0, 0, 0, 0, 6, 6]
abbrev LM1 : List Nat := [1, 1, 4, 1, 5, 1, 0, 1, 26, 1, 1, 0, 1, 1, 1, 1, 1, 1, 1, 1, 1, 1, 5, 5, 5, 1, 0, 0, 1, 1, 26, 26, 26, 26, 1, 1, 1, 1, 1, 1, 1, 1, 1, 0, 0, 0, 0, 0, 0, 0, 0, 0, 0, 0, 0, 0, 0, 0, 0, 0, 0, 0, 0, 0, 0, 6, 6]
abbrev LM2 : List Nat := [1, 1, 4, 1, 5, 1, 0, 1, 26, 1, 1, 0, 1, 1, 1, 1, 1, 1, 1, 1, 1, 1, 5, 5, 5, 1, 0, 0, 1, 1, 26, 26, 26, 26, 1, 1, 1, 1, 1, 1, 1, 1, 1, 1, 0, 0, 0, 0, 0, 0, 0, 0, 0, 0, 0, 0, 0, 0, 0, 0, 0, 0, 0, 0, 0, 6, 6]
abbrev LM3 : List Nat := [1, 1, 4, 1, 5, 1, 0, 1, 26, 1, 1, 0, 1, 1, 1, 1, 1, 1, 1, 1, 1, 1, 5, 5, 5, 1, 0, 0, 1, 1, 26, 26, 26, 26, 1, 1, 1, 1, 1, 1, 1, 1, 1, 1, 1, 0, 0, 0, 0, 0, 0, 0, 0, 0, 0, 0, 0, 0, 0, 0, 0, 0, 0, 0, 0, 6, 6]
abbrev LM4 : List Nat := [1, 1, 4, 1, 5, 1, 0, 1, 26, 1, 1, 0, 1, 1, 1, 1, 1, 1, 1, 1, 1, 1, 5, 5, 5, 1, 0, 0, 1, 1, 26, 26, 26, 26, 1, 1, 1, 1, 1, 1, 1, 1, 1, 1, 1, 1, 0, 0, 0, 0, 0, 0, 0, 0, 0, 0, 0, 0, 0, 0, 0, 0, 0, 0, 0, 6, 6]
abbrev LM5 : List Nat := [1, 1, 4, 1, 5, 1, 0, 1, 26, 1, 1, 0, 1, 1, 1, 1, 1, 1, 1, 1, 1, 1, 5, 5, 5, 1, 0, 0, 1, 1, 26, 26, 26, 26, 1, 1, 1, 1, 1, 1, 1, 1, 1, 1, 1, 1, 1, 0, 0, 0, 0, 0, 0, 0, 0, 0, 0, 0, 0, 0, 0, 0, 0, 0, 0, 6, 6]
abbrev LM6 : List Nat := [1, 1, 4, 1, 5, 1, 0, 1, 26, 1, 1, 0, 1, 1, 1, 1, 1, 1, 1, 1, 1, 1, 5, 5, 5, 1, 0, 0, 1, 1, 26, 26, 26, 26, 1, 1, 1, 1, 1, 1, 1, 1, 1, 1, 1, 1, 1, 1, 0, 0, 0, 0, 0, 0, 0, 0, 0, 0, 0, 0, 0, 0, 0, 0, 0, 6, 6]
abbrev LM7 : List Nat := [1, 1, 4, 1, 5, 1, 0, 1, 26, 1, 1, 0, 1, 1, 1, 1, 1, 1, 1, 1, 1, 1, 5, 5, 5, 1, 0, 0, 1, 1, 26, 26, 26, 26, 1, 1, 1, 1, 1, 1, 1, 1, 1, 1, 1, 1, 1, 1, 1, 0, 0, 0, 0, 0, 0, 0, 0, 0, 0, 0, 0, 0, 0, 0, 0, 6, 6]
abbrev LM8 : List Nat := [1, 1, 4, 1, 5, 1, 0, 1, 26, 1, 1, 0, 1, 1, 1, 1, 1, 1, 1, 1, 1, 1, 5, 5, 5, 1, 0, 0, 1, 1, 26, 26, 26, 26, 1, 1, 1, 1, 1, 1, 1, 1, 1, 1, 1, 1, 1, 1, 1, 1, 0, 0, 0, 0, 0, 0, 0, 0, 0, 0, 0, 0, 0, 0, 0, 6, 6]
abbrev LM9 : List Nat := [1, 1, 4, 1, 5, 1, 0, 1, 26, 1, 1, 0, 1, 1, 1, 1, 1, 1, 1, 1, 1, 1, 5, 5, 5, 1, 0, 0, 1, 1, 26, 26, 26, 26, 1, 1, 1, 1, 1, 1, 1, 1, 1, 1, 1, 1, 1, 1, 1, 1, 1, 0, 0, 0, 0, 0, 0, 0, 0, 0, 0, 0, 0, 0, 0, 6, 6]
abbrev LM10 : List Nat := [1, 1, 4, 1, 5, 1, 0, 1, 26, 1, 1, 0, 1, 1, 1, 1, 1, 1, 1, 1, 1, 1, 5, 5, 5, 1, 0, 0, 1, 1, 26, 26, 26, 26, 1, 1, 1, 1, 1, 1, 1, 1, 1, 1, 1, 1, 1, 1, 1, 1, 1, 1, 0, 0, 0, 0, 0, 0, 0, 0, 0, 0, 0, 0, 0, 6, 6]
abbrev LM11 : List Nat := [1, 1, 4, 1, 5, 1, 0, 1, 26, 1, 1, 0, 1, 1, 1, 1, 1, 1, 1, 1, 1, 1, 5, 5, 5, 1, 0, 0, 1, 1, 26, 26, 26, 26, 1, 1, 1, 1, 1, 1, 1, 1, 1, 1, 1, 1, 1, 1, 1, 1, 1, 1, 1, 0, 0, 0, 0, 0, 0, 0, 0, 0, 0, 0, 0, 6, 6]
abbrev LM12 : List Nat := [1, 1, 4, 1, 5, 1, 0, 1, 26, 1, 1, 0, 1, 1, 1, 1, 1, 1, 1, 1, 1, 1, 5, 5, 5, 1, 0, 0, 1, 1, 26, 26, 26, 26, 1, 1, 1, 1, 1, 1, 1, 1, 1, 1, 1, 1, 1, 1, 1, 1, 1, 1, 1, 1, 0, 0, 0, 0, 0, 0, 0, 0, 0, 0, 0, 6, 6]
abbrev LM13 : List Nat := [1, 1, 4, 1, 5, 1, 0, 1, 26, 1, 1, 0, 1, 1, 1, 1, 1, 1, 1, 1, 1, 1, 5, 5, 5, 1, 0, 0, 1, 1, 26, 26, 26, 26, 1, 1, 1, 1, 1, 1, 1, 1, 1, 1, 1, 1, 1, 1, 1, 1, 1, 1, 1, 1, 1, 0, 0, 0, 0, 0, 0, 0, 0, 0, 0, 6, 6]
abbrev LM14 : List Nat := [1, 1, 4, 1, 5, 1, 0, 1, 26, 1, 1, 0, 1, 1, 1, 1, 1, 1, 1, 1, 1, 1, 5, 5, 5, 1, 0, 0, 1, 1, 26, 26, 26, 26, 1, 1, 1, 1, 1, 1, 1, 1, 1, 1, 1, 1, 1, 1, 1, 1, 1, 1, 1, 1, 1, 1, 0, 0, 0, 0, 0, 0, 0, 0, 0, 6, 6]
abbrev LM15 : List Nat := [1, 1, 4, 1, 5, 1, 0, 1, 26, 1, 1, 0, 1, 1, 1, 1, 1, 1, 1, 1, 1, 1, 5, 5, 5, 1, 0, 0, 1, 1, 26, 26, 26, 26, 1, 1, 1, 1, 1, 1, 1, 1, 1, 1, 1, 1, 1, 1, 1, 1, 1, 1, 1, 1, 1, 1, 1, 0, 0, 0, 0, 0, 0, 0, 0, 6, 6]
abbrev LM16 : List Nat := [1, 1, 4, 1, 5, 1, 0, 1, 26, 1, 1, 0, 1, 1, 1, 1, 1, 1, 1, 1, 1, 1, 5, 5, 5, 1, 0, 0, 1, 1, 26, 26, 26, 26, 1, 1, 1, 1, 1, 1, 1, 1, 1, 1, 1, 1, 1, 1, 1, 1, 1, 1, 1, 1, 1, 1, 1, 1, 0, 0, 0, 0, 0, 0, 0, 6, 6]
abbrev LM17 : List Nat := [1, 1, 4, 1, 5, 1, 0, 1, 26, 1, 1, 0, 1, 1, 1, 1, 1, 1, 1, 1, 1, 1, 5, 5, 5, 1, 0, 0, 1, 1, 26, 26, 26, 26, 1, 1, 1, 1, 1, 1, 1, 1, 1, 1, 1, 1, 1, 1, 1, 1, 1, 1, 1, 1, 1, 1, 1, 1, 1, 0, 0, 0, 0, 0, 0, 6, 6]
abbrev LM18 : List Nat := [1, 1, 4, 1, 5, 1, 0, 1, 26, 1, 1, 0, 1, 1, 1, 1, 1, 1, 1, 1, 1, 1, 5, 5, 5, 1, 0, 0, 1, 1, 26, 26, 26, 26, 1, 1, 1, 1, 1, 1, 1, 1, 1, 1, 1, 1, 1, 1, 1, 1, 1, 1, 1, 1, 1, 1, 1, 1, 1, 1, 0, 0, 0, 0, 0, 6, 6]
abbrev LM19 : List Nat := [1, 1, 4, 1, 5, 1, 0, 1, 26, 1, 1, 0, 1, 1, 1, 1, 1, 1, 1, 1, 1, 1, 5, 5, 5, 1, 0, 0, 1, 1, 26, 26, 26, 26, 1, 1, 1, 1, 1, 1, 1, 1, 1, 1, 1, 1, 1, 1, 1, 1, 1, 1, 1, 1, 1, 1, 1, 1, 1, 1, 1, 0, 0, 0, 0, 6, 6]
abbrev LM20 : List Nat := [1, 1, 4, 1, 5, 1, 0, 1, 26, 1, 1, 0, 1, 1, 1, 1, 1, 1, 1, 1, 1, 1, 5, 5, 5, 1, 0, 0, 1, 1, 26, 26, 26, 26, 1, 1, 1, 1, 1, 1, 1, 1, 1, 1, 1, 1, 1, 1, 1, 1, 1, 1, 1, 1, 1, 1, 1, 1, 1, 1, 1, 1, 0, 0, 0, 6, 6]
abbrev LM21 : List Nat := [1, 1, 4, 1, 5, 1, 0, 1, 26, 1, 1, 0, 1, 1, 1, 1, 1, 1, 1, 1, 1, 1, 5, 5, 5, 1, 0, 0, 1, 1, 26, 26, 26, 26, 1, 1, 1, 1, 1, 1, 1, 1, 1, 1, 1, 1, 1, 1, 1, 1, 1, 1, 1, 1, 1, 1, 1, 1, 1, 1, 1, 1, 1, 0, 0, 6, 6]
abbrev LM22 : List Nat := [1, 1, 4, 1, 5, 1, 0, 1, 26, 1, 1, 0, 1, 1, 1, 1, 1, 1, 1, 1, 1, 1, 5, 5, 5, 1, 0, 0, 1, 1, 26, 26, 26, 26, 1, 1, 1, 1, 1, 1, 1, 1, 1, 1, 1, 1, 1, 1, 1, 1, 1, 1, 1, 1, 1, 1, 1, 1, 1, 1, 1, 1, 1, 1, 0, 6, 6]
abbrev LM23 : List Nat := [1, 1, 4, 1, 5, 1, 0, 1, 26, 1, 1, 0, 1, 1, 1, 1, 1, 1, 1, 1, 1, 1, 5, 5, 5, 1, 0, 0, 1, 1, 26, 26, 26, 26, 1, 1, 1, 1, 1, 1, 1, 1, 1, 1, 1, 1, 1, 1, 1, 1, 1, 1, 1, 1, 1, 1, 1, 1, 1, 1, 1, 1, 1, 1, 1, 6, 6]
abbrev LM24 : List Nat := [1, 1, 4, 1, 5, 1, 0, 1, 26, 1, 1, 1, 1, 1, 1, 1, 1, 1, 1, 1, 1, 1, 5, 5, 5, 1, 0, 0, 1, 1, 26, 26, 26, 26, 1, 1, 1, 1, 1, 1, 1, 1, 1, 1, 1, 1, 1, 1, 1, 1, 1, 1, 1, 1, 1, 1, 1, 1, 1, 1, 1, 1, 1, 1, 1, 6, 6]
abbrev LM25 : List Nat := [1, 1, 4, 1, 5, 1, 0, 1, 26, 1, 1, 0, 1, 1, 1, 1, 1, 1, 1, 1, 1, 1, 5, 5, 5, 1, 0, 0, 1, 1, 26, 26, 26, 26, 1, 1, 1, 1, 1, 1, 1, 0, 0, 0, 0, 0, 0, 0, 0, 0, 0, 0, 0, 0, 0, 0, 0, 0, 0, 0, 0, 0, 0, 0, 0, 6, 6]
theorem dX12_init_0 : decode cX12_init 0 = .ok (.aload_n 0, 1) := by decide +kernel
theorem dX12_init_1 : decode cX12_init 1 = .ok (.invokespecial 1, 3) := by decide +kernel
theorem dX12_init_4 : decode cX12_init 4 = .ok (.aload_n 0, 1) := by decide +kernel
theorem dX12_init_5 : decode cX12_init 5 = .ok (.sipush 400, 3) := by decide +kernel
theorem dX12_init_8 : decode cX12_init 8 = .ok (.newarray .byte, 2) := by decide +kernel
theorem dX12_init_10 : decode cX12_init 10 = .ok (.putfield 7, 3) := by decide +kernel
theorem dX12_init_13 : decode cX12_init 13 = .ok (.aload_n 0, 1) := by decide +kernel
theorem dX12_init_14 : decode cX12_init 14 = .ok (.sipush 2400, 3) := by decide +kernel
theorem dX12_init_17 : decode cX12_init 17 = .ok (.newarray .int, 2) := by decide +kernel
theorem dX12_init_19 : decode cX12_init 19 = .ok (.putfield 13, 3) := by decide +kernel
theorem dX12_init_22 : decode cX12_init 22 = .ok (.aload_n 0, 1) := by decide +kernel
theorem dX12_init_23 : decode cX12_init 23 = .ok (.bipush 7, 2) := by decide +kernel
theorem dX12_init_25 : decode cX12_init 25 = .ok (.newarray .int, 2) := by decide +kernel
theorem dX12_init_27 : decode cX12_init 27 = .ok (.putfield 17, 3) := by decide +kernel
theorem dX12_init_30 : decode cX12_init 30 = .ok (.aload_n 0, 1) := by decide +kernel
theorem dX12_init_31 : decode cX12_init 31 = .ok (.sipush 288, 3) := by decide +kernel
theorem dX12_init_34 : decode cX12_init 34 = .ok (.newarray .int, 2) := by decide +kernel
theorem dX12_init_36 : decode cX12_init 36 = .ok (.putfield 20, 3) := by decide +kernel
theorem dX12_init_39 : decode cX12_init 39 = .ok (.aload_n 0, 1) := by decide +kernel
theorem dX12_init_40 : decode cX12_init 40 = .ok (.bipush 6, 2) := by decide +kernel
theorem dX12_init_42 : decode cX12_init 42 = .ok (.newarray .int, 2) := by decide +kernel
theorem dX12_init_44 : decode cX12_init 44 = .ok (.putfield 23, 3) := by decide +kernel
theorem dX12_init_47 : decode cX12_init 47 = .ok (.aload_n 0, 1) := by decide +kernel
theorem dX12_init_48 : decode cX12_init 48 = .ok (.bipush 67, 2) := by decide +kernel
theorem dX12_init_50 : decode cX12_init 50 = .ok (.newarray .int, 2) := by decide +kernel
theorem dX12_init_52 : decode cX12_init 52 = .ok (.putfield 26, 3) := by decide +kernel
theorem dX12_init_55 : decode cX12_init 55 = .ok (.aload_n 0, 1) := by decide +kernel
theorem dX12_init_56 : decode cX12_init 56 = .ok (.sipush 400, 3) := by decide +kernel
theorem dX12_init_59 : decode cX12_init 59 = .ok (.newarray .int, 2) := by decide +kernel
theorem dX12_init_61 : decode cX12_init 61 = .ok (.putfield 29, 3) := by decide +kernel
theorem dX12_init_64 : decode cX12_init 64 = .ok (.aload_n 0, 1) := by decide +kernel
theorem dX12_init_65 : decode cX12_init 65 = .ok (.bipush 64, 2) := by decide +kernel
theorem dX12_init_67 : decode cX12_init 67 = .ok (.newarray .long, 2) := by decide +kernel
theorem dX12_init_69 : decode cX12_init 69 = .ok (.putfield 32, 3) := by decide +kernel
theorem dX12_init_72 : decode cX12_init 72 = .ok (.aload_n 0, 1) := by decide +kernel
theorem dX12_init_73 : decode cX12_init 73 = .ok (.bipush 11, 2) := by decide +kernel
theorem dX12_init_75 : decode cX12_init 75 = .ok (.newarray .long, 2) := by decide +kernel
theorem dX12_init_77 : decode cX12_init 77 = .ok (.putfield 36, 3) := by decide +kernel
theorem dX12_init_80 : decode cX12_init 80 = .ok (.aload_n 0, 1) := by decide +kernel
theorem dX12_init_81 : decode cX12_init 81 = .ok (.bipush 98, 2) := by decide +kernel
theorem dX12_init_83 : decode cX12_init 83 = .ok (.newarray .int, 2) := by decide +kernel
theorem dX12_init_85 : decode cX12_init 85 = .ok (.putfield 39, 3) := by decide +kernel
theorem dX12_init_88 : decode cX12_init 88 = .ok (.aload_n 0, 1) := by decide +kernel
theorem dX12_init_89 : decode cX12_init 89 = .ok (.iconst (-1), 1) := by decide +kernel
theorem dX12_init_90 : decode cX12_init 90 = .ok (.putfield 42, 3) := by decide +kernel
theorem dX12_init_93 : decode cX12_init 93 = .ok (.aload_n 0, 1) := by decide +kernel
theorem dX12_init_94 : decode cX12_init 94 = .ok (.iconst (-1), 1) := by decide +kernel
theorem dX12_init_95 : decode cX12_init 95 = .ok (.putfield 46, 3) := by decide +kernel
theorem dX12_init_98 : decode cX12_init 98 = .ok (.aload_n 0, 1) := by decide +kernel
theorem dX12_init_99 : decode cX12_init 99 = .ok (.bipush 6, 2) := by decide +kernel
theorem dX12_init_101 : decode cX12_init 101 = .ok (.newarray .int, 2) := by decide +kernel
theorem dX12_init_103 : decode cX12_init 103 = .ok (.putfield 49, 3) := by decide +kernel
theorem dX12_init_106 : decode cX12_init 106 = .ok (.aload_n 0, 1) := by decide +kernel
theorem dX12_init_107 : decode cX12_init 107 = .ok (.sipush 500, 3) := by decide +kernel
theorem dX12_init_110 : decode cX12_init 110 = .ok (.newarray .int, 2) := by decide +kernel
theorem dX12_init_112 : decode cX12_init 112 = .ok (.putfield 52, 3) := by decide +kernel
theorem dX12_init_115 : decode cX12_init 115 = .ok (.aload_n 0, 1) := by decide +kernel
theorem dX12_init_116 : decode cX12_init 116 = .ok (.bipush 25, 2) := by decide +kernel
theorem dX12_init_118 : decode cX12_init 118 = .ok (.newarray .int, 2) := by decide +kernel
theorem dX12_init_120 : decode cX12_init 120 = .ok (.putfield 55, 3) := by decide +kernel
theorem dX12_init_123 : decode cX12_init 123 = .ok (.aload_n 0, 1) := by decide +kernel
theorem dX12_init_124 : decode cX12_init 124 = .ok (.bipush 6, 2) := by decide +kernel
theorem dX12_init_126 : decode cX12_init 126 = .ok (.newarray .int, 2) := by decide +kernel
theorem dX12_init_128 : decode cX12_init 128 = .ok (.putfield 58, 3) := by decide +kernel
theorem dX12_init_131 : decode cX12_init 131 = .ok (.aload_n 0, 1) := by decide +kernel
theorem dX12_init_132 : decode cX12_init 132 = .ok (.bipush 6, 2) := by decide +kernel
theorem dX12_init_134 : decode cX12_init 134 = .ok (.newarray .int, 2) := by decide +kernel
theorem dX12_init_136 : decode cX12_init 136 = .ok (.putfield 61, 3) := by decide +kernel
theorem dX12_init_139 : decode cX12_init 139 = .ok (.aload_n 0, 1) := by decide +kernel
theorem dX12_init_140 : decode cX12_init 140 = .ok (.bipush 7, 2) := by decide +kernel
theorem dX12_init_142 : decode cX12_init 142 = .ok (.newarray .int, 2) := by decide +kernel
theorem dX12_init_144 : decode cX12_init 144 = .ok (.putfield 64, 3) := by decide +kernel
theorem dX12_init_147 : decode cX12_init 147 = .ok (.aload_n 0, 1) := by decide +kernel
theorem dX12_init_148 : decode cX12_init 148 = .ok (.bipush 32, 2) := by decide +kernel
theorem dX12_init_150 : decode cX12_init 150 = .ok (.newarray .int, 2) := by decide +kernel
theorem dX12_init_152 : decode cX12_init 152 = .ok (.putfield 67, 3) := by decide +kernel
theorem dX12_init_155 : decode cX12_init 155 = .ok (.aload_n 0, 1) := by decide +kernel
theorem dX12_init_156 : decode cX12_init 156 = .ok (.sipush 1098, 3) := by decide +kernel
theorem dX12_init_159 : decode cX12_init 159 = .ok (.newarray .int, 2) := by decide +kernel
theorem dX12_init_161 : decode cX12_init 161 = .ok (.putfield 70, 3) := by decide +kernel
theorem dX12_init_164 : decode cX12_init 164 = .ok (.aload_n 0, 1) := by decide +kernel
theorem dX12_init_165 : decode cX12_init 165 = .ok (.bipush 7, 2) := by decide +kernel
theorem dX12_init_167 : decode cX12_init 167 = .ok (.newarray .boolean, 2) := by decide +kernel
theorem dX12_init_169 : decode cX12_init 169 = .ok (.putfield 73, 3) := by decide +kernel
theorem dX12_init_172 : decode cX12_init 172 = .ok (.aload_n 0, 1) := by decide +kernel
theorem dX12_init_173 : decode cX12_init 173 = .ok (.bipush 42, 2) := by decide +kernel
theorem dX12_init_175 : decode cX12_init 175 = .ok (.newarray .int, 2) := by decide +kernel
theorem dX12_init_177 : decode cX12_init 177 = .ok (.putfield 77, 3) := by decide +kernel
theorem dX12_init_180 : decode cX12_init 180 = .ok (.aload_n 0, 1) := by decide +kernel
theorem dX12_init_181 : decode cX12_init 181 = .ok (.sipush 392, 3) := by decide +kernel
theorem dX12_init_184 : decode cX12_init 184 = .ok (.newarray .int, 2) := by decide +kernel
theorem dX12_init_186 : decode cX12_init 186 = .ok (.putfield 80, 3) := by decide +kernel
theorem dX12_init_189 : decode cX12_init 189 = .ok (.aload_n 0, 1) := by decide +kernel
theorem dX12_init_190 : decode cX12_init 190 = .ok (.iconst 4, 1) := by decide +kernel
theorem dX12_init_191 : decode cX12_init 191 = .ok (.newarray .int, 2) := by decide +kernel
theorem dX12_init_193 : decode cX12_init 193 = .ok (.putfield 83, 3) := by decide +kernel
theorem dX12_init_196 : decode cX12_init 196 = .ok (.aload_n 0, 1) := by decide +kernel
theorem dX12_init_197 : decode cX12_init 197 = .ok (.iconst 4, 1) := by decide +kernel
theorem dX12_init_198 : decode cX12_init 198 = .ok (.newarray .int, 2) := by decide +kernel
theorem dX12_init_200 : decode cX12_init 200 = .ok (.putfield 86, 3) := by decide +kernel
theorem dX12_init_203 : decode cX12_init 203 = .ok (.aload_n 0, 1) := by decide +kernel
theorem dX12_init_204 : decode cX12_init 204 = .ok (.iconst 4, 1) := by decide +kernel
theorem dX12_init_205 : decode cX12_init 205 = .ok (.newarray .boolean, 2) := by decide +kernel
theorem dX12_init_207 : decode cX12_init 207 = .ok (.putfield 89, 3) := by decide +kernel
theorem dX12_init_210 : decode cX12_init 210 = .ok (.return_, 1) := by decide +kernel
set_option maxRecDepth 100000 in
set_option maxHeartbeats 40000000 in
theorem i_X12_init (l : Launch) (D : va_G) (A : Nat → Prop) (ad : Nat → Nat → Nat) (cy : Nat → ClassId) (Y : va_W) (a : Nat) : Met l yX12_init (.code yX12_init cX12_init 1 none :: lw_ok) { frames := 1, cells := 24, slots := 5874, locals := 12 } (va_Pc [.ref a] (XIp D A ad cy (lk LM25) Y (wB 4) a 11 [.null, .int 0, .int 0, .null, .null, .null, .null, .null, .int 0, .int 0, .int 0, .int 0, .int 0, .int 0, .int 0, .null, .int 0, .null, .int 0, .null, .null, .int 0, .int 0, .int 0, .null, .null, .int 0, .null, .null, .null, .null, .int 0, .int 0, .int 0, .null, .null, .null, .null, .long 0, .null, .null, .null, .null])) (XIq D A ad cy (lk LM25) Y a 11 0 (lk LM24) (sI (sI (wB 4) 11 0 21 (-1)) 11 0 23 (-1))) 24 5874 A := by
  refine Met.ofW (cc := cX12_init) (maxL := 1) (ret := none) (by decide) rfl ?_
  intro p e s m args below meth c s₁ B hml hv
  obtain ⟨rfl, hA, hX, hO, hK, hG, hZ⟩ := hv
  have hx := B.exec
  have hb := B.bytes
  have hr := B.returns
  have hts := atoms_spec (ws := .code yX12_init cX12_init 1 none :: lw_ok) B.pre
  have hin : ∀ w ∈ lw_ok, w ∈ (Cond.code yX12_init cX12_init 1 none :: lw_ok) := fun w h => List.mem_cons_of_mem _ h
  have hown : s.vm.findClass RX12 = some m.cls := findClass_of_methodNamed B.named
  have hlocks := B.notSynchronized
  have hin2 : meth.name = "<init>" := (name_of_methodNamed B.named B.method).1
  have hS : va_S A s.heap s.heap [] := va_S.rf
  have hl := lv_entry ([.ref a]) (n := 1) (Nat.le_of_ble_eq_true rfl)
  rw [lg_entry_eq]
  generalize (lg_sl ([.ref a]) ++ List.replicate (1 - (lg_sl ([.ref a])).length) Slot.unset).toArray = ls at hl ⊢
  have hl : lv_has ls 1 [(0, .ref a)] := hl
  refine lv_aload_n hx hb dX12_init_0 rfl (lv_at hl 0 rfl) ?_
  refine W.objInit hx hb hown (hts _ (hin _ wt_959)) (hts _ (hin _ wt_28)) (hts _ (hin _ wobj)) rfl (by rw [hml]; exact hl.1) rfl dX12_init_1 (Nat.le_of_ble_eq_true rfl) (Nat.le_of_ble_eq_true rfl) ?_
  refine W.eq (g2 := F0 m 4 ls []) rfl ?_
  refine lv_aload_n hx hb dX12_init_4 rfl (lv_at hl 0 rfl) ?_
  refine lv_sipush (v := 400) hx hb dX12_init_5 (by decide) ?_
  refine r_newaB hx hb (hts _ (hin _ wt_504)) hK hX hG hO hS hA 41 400 0 rfl rfl (by decide) (by decide) (by decide) (by decide) (Nat.le_of_ble_eq_true rfl) (Nat.le_of_ble_eq_true rfl) dX12_init_8 (fun q1 ad1 H hT1 hq1 hX hG hO hS => ?_)
  rw [cup_lk (k := 41) (v := 0) rfl rfl] at hX hG hO
  rw [show wz (wB 4) 41 0 = (wB 4) from wz_id rfl rfl rfl] at hX hO
  have hX : XX D A ad1 cy (lk LM0) ((a, .inr (11, [.null, .int 0, .int 0, .null, .null, .null, .null, .null, .int 0, .int 0, .int 0, .int 0, .int 0, .int 0, .int 0, .null, .int 0, .null, .int 0, .null, .null, .int 0, .int 0, .int 0, .null, .null, .int 0, .null, .null, .null, .null, .int 0, .int 0, .int 0, .null, .null, .null, .null, .long 0, .null, .null, .null, .null])) :: Y) (wB 4) H := hX
  have hG : XG ad1 (lk LM0) := hG
  have hO : XD (lk LM0) (wB 4) := hO
  refine r_putF hx hb hts hin xk_11 hown hK hX hS (k := 0) (v := .ref q1) (by decide) rfl wt_960 rfl hin2 rfl (tyX12_ok 0 (by decide)) rfl rfl (Nat.le_of_ble_eq_true rfl) dX12_init_10 (fun H locs hX hS => ?_)
  have hX : XX D A ad1 cy (lk LM0) ((a, .inr (11, [.ref q1, .int 0, .int 0, .null, .null, .null, .null, .null, .int 0, .int 0, .int 0, .int 0, .int 0, .int 0, .int 0, .null, .int 0, .null, .int 0, .null, .null, .int 0, .int 0, .int 0, .null, .null, .int 0, .null, .null, .null, .null, .int 0, .int 0, .int 0, .null, .null, .null, .null, .long 0, .null, .null, .null, .null])) :: Y) (wB 4) H := hX
  refine lv_aload_n hx hb dX12_init_13 rfl (lv_at hl 0 rfl) ?_
  refine lv_sipush (v := 2400) hx hb dX12_init_14 (by decide) ?_
  refine r_newaI hx hb (hts _ (hin _ wt_63)) hK hX hG hO hS hA 42 2400 0 rfl rfl (by decide) (by decide) (by decide) (by decide) (Nat.le_of_ble_eq_true rfl) (Nat.le_of_ble_eq_true rfl) dX12_init_17 (fun q2 ad2 H hT2 hq2 hX hG hO hS => ?_)
  rw [cup_lk (k := 42) (v := 0) rfl rfl] at hX hG hO
  rw [show wz (wB 4) 42 0 = (wB 4) from wz_id rfl rfl rfl] at hX hO
  have hX : XX D A ad2 cy (lk LM1) ((a, .inr (11, [.ref q1, .int 0, .int 0, .null, .null, .null, .null, .null, .int 0, .int 0, .int 0, .int 0, .int 0, .int 0, .int 0, .null, .int 0, .null, .int 0, .null, .null, .int 0, .int 0, .int 0, .null, .null, .int 0, .null, .null, .null, .null, .int 0, .int 0, .int 0, .null, .null, .null, .null, .long 0, .null, .null, .null, .null])) :: Y) (wB 4) H := hX
  have hG : XG ad2 (lk LM1) := hG
  have hO : XD (lk LM1) (wB 4) := hO
  refine r_putF hx hb hts hin xk_11 hown hK hX hS (k := 3) (v := .ref q2) (by decide) rfl wt_963 rfl hin2 rfl (tyX12_ok 3 (by decide)) rfl rfl (Nat.le_of_ble_eq_true rfl) dX12_init_19 (fun H locs hX hS => ?_)
  have hX : XX D A ad2 cy (lk LM1) ((a, .inr (11, [.ref q1, .int 0, .int 0, .ref q2, .null, .null, .null, .null, .int 0, .int 0, .int 0, .int 0, .int 0, .int 0, .int 0, .null, .int 0, .null, .int 0, .null, .null, .int 0, .int 0, .int 0, .null, .null, .int 0, .null, .null, .null, .null, .int 0, .int 0, .int 0, .null, .null, .null, .null, .long 0, .null, .null, .null, .null])) :: Y) (wB 4) H := hX
  refine lv_aload_n hx hb dX12_init_22 rfl (lv_at hl 0 rfl) ?_
  refine lv_bipush (v := 7) hx hb dX12_init_23 (by decide) ?_
  refine r_newaI hx hb (hts _ (hin _ wt_63)) hK hX hG hO hS hA 43 7 0 rfl rfl (by decide) (by decide) (by decide) (by decide) (Nat.le_of_ble_eq_true rfl) (Nat.le_of_ble_eq_true rfl) dX12_init_25 (fun q3 ad3 H hT3 hq3 hX hG hO hS => ?_)
  rw [cup_lk (k := 43) (v := 0) rfl rfl] at hX hG hO
  rw [show wz (wB 4) 43 0 = (wB 4) from wz_id rfl rfl rfl] at hX hO
  have hX : XX D A ad3 cy (lk LM2) ((a, .inr (11, [.ref q1, .int 0, .int 0, .ref q2, .null, .null, .null, .null, .int 0, .int 0, .int 0, .int 0, .int 0, .int 0, .int 0, .null, .int 0, .null, .int 0, .null, .null, .int 0, .int 0, .int 0, .null, .null, .int 0, .null, .null, .null, .null, .int 0, .int 0, .int 0, .null, .null, .null, .null, .long 0, .null, .null, .null, .null])) :: Y) (wB 4) H := hX
  have hG : XG ad3 (lk LM2) := hG
  have hO : XD (lk LM2) (wB 4) := hO
  refine r_putF hx hb hts hin xk_11 hown hK hX hS (k := 4) (v := .ref q3) (by decide) rfl wt_964 rfl hin2 rfl (tyX12_ok 4 (by decide)) rfl rfl (Nat.le_of_ble_eq_true rfl) dX12_init_27 (fun H locs hX hS => ?_)
  have hX : XX D A ad3 cy (lk LM2) ((a, .inr (11, [.ref q1, .int 0, .int 0, .ref q2, .ref q3, .null, .null, .null, .int 0, .int 0, .int 0, .int 0, .int 0, .int 0, .int 0, .null, .int 0, .null, .int 0, .null, .null, .int 0, .int 0, .int 0, .null, .null, .int 0, .null, .null, .null, .null, .int 0, .int 0, .int 0, .null, .null, .null, .null, .long 0, .null, .null, .null, .null])) :: Y) (wB 4) H := hX
  refine lv_aload_n hx hb dX12_init_30 rfl (lv_at hl 0 rfl) ?_
  refine lv_sipush (v := 288) hx hb dX12_init_31 (by decide) ?_
  refine r_newaI hx hb (hts _ (hin _ wt_63)) hK hX hG hO hS hA 44 288 0 rfl rfl (by decide) (by decide) (by decide) (by decide) (Nat.le_of_ble_eq_true rfl) (Nat.le_of_ble_eq_true rfl) dX12_init_34 (fun q4 ad4 H hT4 hq4 hX hG hO hS => ?_)
  rw [cup_lk (k := 44) (v := 0) rfl rfl] at hX hG hO
  rw [show wz (wB 4) 44 0 = (wB 4) from wz_id rfl rfl rfl] at hX hO
  have hX : XX D A ad4 cy (lk LM3) ((a, .inr (11, [.ref q1, .int 0, .int 0, .ref q2, .ref q3, .null, .null, .null, .int 0, .int 0, .int 0, .int 0, .int 0, .int 0, .int 0, .null, .int 0, .null, .int 0, .null, .null, .int 0, .int 0, .int 0, .null, .null, .int 0, .null, .null, .null, .null, .int 0, .int 0, .int 0, .null, .null, .null, .null, .long 0, .null, .null, .null, .null])) :: Y) (wB 4) H := hX
  have hG : XG ad4 (lk LM3) := hG
  have hO : XD (lk LM3) (wB 4) := hO
  refine r_putF hx hb hts hin xk_11 hown hK hX hS (k := 5) (v := .ref q4) (by decide) rfl wt_965 rfl hin2 rfl (tyX12_ok 5 (by decide)) rfl rfl (Nat.le_of_ble_eq_true rfl) dX12_init_36 (fun H locs hX hS => ?_)
  have hX : XX D A ad4 cy (lk LM3) ((a, .inr (11, [.ref q1, .int 0, .int 0, .ref q2, .ref q3, .ref q4, .null, .null, .int 0, .int 0, .int 0, .int 0, .int 0, .int 0, .int 0, .null, .int 0, .null, .int 0, .null, .null, .int 0, .int 0, .int 0, .null, .null, .int 0, .null, .null, .null, .null, .int 0, .int 0, .int 0, .null, .null, .null, .null, .long 0, .null, .null, .null, .null])) :: Y) (wB 4) H := hX
  refine lv_aload_n hx hb dX12_init_39 rfl (lv_at hl 0 rfl) ?_
  refine lv_bipush (v := 6) hx hb dX12_init_40 (by decide) ?_
  refine r_newaI hx hb (hts _ (hin _ wt_63)) hK hX hG hO hS hA 45 6 0 rfl rfl (by decide) (by decide) (by decide) (by decide) (Nat.le_of_ble_eq_true rfl) (Nat.le_of_ble_eq_true rfl) dX12_init_42 (fun q5 ad5 H hT5 hq5 hX hG hO hS => ?_)
  rw [cup_lk (k := 45) (v := 0) rfl rfl] at hX hG hO
  rw [show wz (wB 4) 45 0 = (wB 4) from wz_id rfl rfl rfl] at hX hO
  have hX : XX D A ad5 cy (lk LM4) ((a, .inr (11, [.ref q1, .int 0, .int 0, .ref q2, .ref q3, .ref q4, .null, .null, .int 0, .int 0, .int 0, .int 0, .int 0, .int 0, .int 0, .null, .int 0, .null, .int 0, .null, .null, .int 0, .int 0, .int 0, .null, .null, .int 0, .null, .null, .null, .null, .int 0, .int 0, .int 0, .null, .null, .null, .null, .long 0, .null, .null, .null, .null])) :: Y) (wB 4) H := hX
  have hG : XG ad5 (lk LM4) := hG
  have hO : XD (lk LM4) (wB 4) := hO
  refine r_putF hx hb hts hin xk_11 hown hK hX hS (k := 6) (v := .ref q5) (by decide) rfl wt_966 rfl hin2 rfl (tyX12_ok 6 (by decide)) rfl rfl (Nat.le_of_ble_eq_true rfl) dX12_init_44 (fun H locs hX hS => ?_)
  have hX : XX D A ad5 cy (lk LM4) ((a, .inr (11, [.ref q1, .int 0, .int 0, .ref q2, .ref q3, .ref q4, .ref q5, .null, .int 0, .int 0, .int 0, .int 0, .int 0, .int 0, .int 0, .null, .int 0, .null, .int 0, .null, .null, .int 0, .int 0, .int 0, .null, .null, .int 0, .null, .null, .null, .null, .int 0, .int 0, .int 0, .null, .null, .null, .null, .long 0, .null, .null, .null, .null])) :: Y) (wB 4) H := hX
  refine lv_aload_n hx hb dX12_init_47 rfl (lv_at hl 0 rfl) ?_
  refine lv_bipush (v := 67) hx hb dX12_init_48 (by decide) ?_
  refine r_newaI hx hb (hts _ (hin _ wt_63)) hK hX hG hO hS hA 46 67 0 rfl rfl (by decide) (by decide) (by decide) (by decide) (Nat.le_of_ble_eq_true rfl) (Nat.le_of_ble_eq_true rfl) dX12_init_50 (fun q6 ad6 H hT6 hq6 hX hG hO hS => ?_)
  rw [cup_lk (k := 46) (v := 0) rfl rfl] at hX hG hO
  rw [show wz (wB 4) 46 0 = (wB 4) from wz_id rfl rfl rfl] at hX hO
  have hX : XX D A ad6 cy (lk LM5) ((a, .inr (11, [.ref q1, .int 0, .int 0, .ref q2, .ref q3, .ref q4, .ref q5, .null, .int 0, .int 0, .int 0, .int 0, .int 0, .int 0, .int 0, .null, .int 0, .null, .int 0, .null, .null, .int 0, .int 0, .int 0, .null, .null, .int 0, .null, .null, .null, .null, .int 0, .int 0, .int 0, .null, .null, .null, .null, .long 0, .null, .null, .null, .null])) :: Y) (wB 4) H := hX
  have hG : XG ad6 (lk LM5) := hG
  have hO : XD (lk LM5) (wB 4) := hO
  refine r_putF hx hb hts hin xk_11 hown hK hX hS (k := 7) (v := .ref q6) (by decide) rfl wt_967 rfl hin2 rfl (tyX12_ok 7 (by decide)) rfl rfl (Nat.le_of_ble_eq_true rfl) dX12_init_52 (fun H locs hX hS => ?_)
  have hX : XX D A ad6 cy (lk LM5) ((a, .inr (11, [.ref q1, .int 0, .int 0, .ref q2, .ref q3, .ref q4, .ref q5, .ref q6, .int 0, .int 0, .int 0, .int 0, .int 0, .int 0, .int 0, .null, .int 0, .null, .int 0, .null, .null, .int 0, .int 0, .int 0, .null, .null, .int 0, .null, .null, .null, .null, .int 0, .int 0, .int 0, .null, .null, .null, .null, .long 0, .null, .null, .null, .null])) :: Y) (wB 4) H := hX
  refine lv_aload_n hx hb dX12_init_55 rfl (lv_at hl 0 rfl) ?_
  refine lv_sipush (v := 400) hx hb dX12_init_56 (by decide) ?_
  refine r_newaI hx hb (hts _ (hin _ wt_63)) hK hX hG hO hS hA 47 400 0 rfl rfl (by decide) (by decide) (by decide) (by decide) (Nat.le_of_ble_eq_true rfl) (Nat.le_of_ble_eq_true rfl) dX12_init_59 (fun q7 ad7 H hT7 hq7 hX hG hO hS => ?_)
  rw [cup_lk (k := 47) (v := 0) rfl rfl] at hX hG hO
  rw [show wz (wB 4) 47 0 = (wB 4) from wz_id rfl rfl rfl] at hX hO
  have hX : XX D A ad7 cy (lk LM6) ((a, .inr (11, [.ref q1, .int 0, .int 0, .ref q2, .ref q3, .ref q4, .ref q5, .ref q6, .int 0, .int 0, .int 0, .int 0, .int 0, .int 0, .int 0, .null, .int 0, .null, .int 0, .null, .null, .int 0, .int 0, .int 0, .null, .null, .int 0, .null, .null, .null, .null, .int 0, .int 0, .int 0, .null, .null, .null, .null, .long 0, .null, .null, .null, .null])) :: Y) (wB 4) H := hX
  have hG : XG ad7 (lk LM6) := hG
  have hO : XD (lk LM6) (wB 4) := hO
  refine r_putF hx hb hts hin xk_11 hown hK hX hS (k := 15) (v := .ref q7) (by decide) rfl wt_975 rfl hin2 rfl (tyX12_ok 15 (by decide)) rfl rfl (Nat.le_of_ble_eq_true rfl) dX12_init_61 (fun H locs hX hS => ?_)
  have hX : XX D A ad7 cy (lk LM6) ((a, .inr (11, [.ref q1, .int 0, .int 0, .ref q2, .ref q3, .ref q4, .ref q5, .ref q6, .int 0, .int 0, .int 0, .int 0, .int 0, .int 0, .int 0, .ref q7, .int 0, .null, .int 0, .null, .null, .int 0, .int 0, .int 0, .null, .null, .int 0, .null, .null, .null, .null, .int 0, .int 0, .int 0, .null, .null, .null, .null, .long 0, .null, .null, .null, .null])) :: Y) (wB 4) H := hX
  refine lv_aload_n hx hb dX12_init_64 rfl (lv_at hl 0 rfl) ?_
  refine lv_bipush (v := 64) hx hb dX12_init_65 (by decide) ?_
  refine r_newaJ hx hb (hts _ (hin _ wt_237)) hK hX hG hO hS hA 48 64 0 rfl rfl (by decide) (by decide) (by decide) (by decide) (Nat.le_of_ble_eq_true rfl) (Nat.le_of_ble_eq_true rfl) dX12_init_67 (fun q8 ad8 H hT8 hq8 hX hG hO hS => ?_)
  rw [cup_lk (k := 48) (v := 0) rfl rfl] at hX hG hO
  rw [show wz (wB 4) 48 0 = (wB 4) from wz_id rfl rfl rfl] at hX hO
  have hX : XX D A ad8 cy (lk LM7) ((a, .inr (11, [.ref q1, .int 0, .int 0, .ref q2, .ref q3, .ref q4, .ref q5, .ref q6, .int 0, .int 0, .int 0, .int 0, .int 0, .int 0, .int 0, .ref q7, .int 0, .null, .int 0, .null, .null, .int 0, .int 0, .int 0, .null, .null, .int 0, .null, .null, .null, .null, .int 0, .int 0, .int 0, .null, .null, .null, .null, .long 0, .null, .null, .null, .null])) :: Y) (wB 4) H := hX
  have hG : XG ad8 (lk LM7) := hG
  have hO : XD (lk LM7) (wB 4) := hO
  refine r_putF hx hb hts hin xk_11 hown hK hX hS (k := 17) (v := .ref q8) (by decide) rfl wt_977 rfl hin2 rfl (tyX12_ok 17 (by decide)) rfl rfl (Nat.le_of_ble_eq_true rfl) dX12_init_69 (fun H locs hX hS => ?_)
  have hX : XX D A ad8 cy (lk LM7) ((a, .inr (11, [.ref q1, .int 0, .int 0, .ref q2, .ref q3, .ref q4, .ref q5, .ref q6, .int 0, .int 0, .int 0, .int 0, .int 0, .int 0, .int 0, .ref q7, .int 0, .ref q8, .int 0, .null, .null, .int 0, .int 0, .int 0, .null, .null, .int 0, .null, .null, .null, .null, .int 0, .int 0, .int 0, .null, .null, .null, .null, .long 0, .null, .null, .null, .null])) :: Y) (wB 4) H := hX
  refine lv_aload_n hx hb dX12_init_72 rfl (lv_at hl 0 rfl) ?_
  refine lv_bipush (v := 11) hx hb dX12_init_73 (by decide) ?_
  refine r_newaJ hx hb (hts _ (hin _ wt_237)) hK hX hG hO hS hA 49 11 0 rfl rfl (by decide) (by decide) (by decide) (by decide) (Nat.le_of_ble_eq_true rfl) (Nat.le_of_ble_eq_true rfl) dX12_init_75 (fun q9 ad9 H hT9 hq9 hX hG hO hS => ?_)
  rw [cup_lk (k := 49) (v := 0) rfl rfl] at hX hG hO
  rw [show wz (wB 4) 49 0 = (wB 4) from wz_id rfl rfl rfl] at hX hO
  have hX : XX D A ad9 cy (lk LM8) ((a, .inr (11, [.ref q1, .int 0, .int 0, .ref q2, .ref q3, .ref q4, .ref q5, .ref q6, .int 0, .int 0, .int 0, .int 0, .int 0, .int 0, .int 0, .ref q7, .int 0, .ref q8, .int 0, .null, .null, .int 0, .int 0, .int 0, .null, .null, .int 0, .null, .null, .null, .null, .int 0, .int 0, .int 0, .null, .null, .null, .null, .long 0, .null, .null, .null, .null])) :: Y) (wB 4) H := hX
  have hG : XG ad9 (lk LM8) := hG
  have hO : XD (lk LM8) (wB 4) := hO
  refine r_putF hx hb hts hin xk_11 hown hK hX hS (k := 19) (v := .ref q9) (by decide) rfl wt_979 rfl hin2 rfl (tyX12_ok 19 (by decide)) rfl rfl (Nat.le_of_ble_eq_true rfl) dX12_init_77 (fun H locs hX hS => ?_)
  have hX : XX D A ad9 cy (lk LM8) ((a, .inr (11, [.ref q1, .int 0, .int 0, .ref q2, .ref q3, .ref q4, .ref q5, .ref q6, .int 0, .int 0, .int 0, .int 0, .int 0, .int 0, .int 0, .ref q7, .int 0, .ref q8, .int 0, .ref q9, .null, .int 0, .int 0, .int 0, .null, .null, .int 0, .null, .null, .null, .null, .int 0, .int 0, .int 0, .null, .null, .null, .null, .long 0, .null, .null, .null, .null])) :: Y) (wB 4) H := hX
  refine lv_aload_n hx hb dX12_init_80 rfl (lv_at hl 0 rfl) ?_
  refine lv_bipush (v := 98) hx hb dX12_init_81 (by decide) ?_
  refine r_newaI hx hb (hts _ (hin _ wt_63)) hK hX hG hO hS hA 50 98 0 rfl rfl (by decide) (by decide) (by decide) (by decide) (Nat.le_of_ble_eq_true rfl) (Nat.le_of_ble_eq_true rfl) dX12_init_83 (fun q10 ad10 H hT10 hq10 hX hG hO hS => ?_)
  rw [cup_lk (k := 50) (v := 0) rfl rfl] at hX hG hO
  rw [show wz (wB 4) 50 0 = (wB 4) from wz_id rfl rfl rfl] at hX hO
  have hX : XX D A ad10 cy (lk LM9) ((a, .inr (11, [.ref q1, .int 0, .int 0, .ref q2, .ref q3, .ref q4, .ref q5, .ref q6, .int 0, .int 0, .int 0, .int 0, .int 0, .int 0, .int 0, .ref q7, .int 0, .ref q8, .int 0, .ref q9, .null, .int 0, .int 0, .int 0, .null, .null, .int 0, .null, .null, .null, .null, .int 0, .int 0, .int 0, .null, .null, .null, .null, .long 0, .null, .null, .null, .null])) :: Y) (wB 4) H := hX
  have hG : XG ad10 (lk LM9) := hG
  have hO : XD (lk LM9) (wB 4) := hO
  refine r_putF hx hb hts hin xk_11 hown hK hX hS (k := 20) (v := .ref q10) (by decide) rfl wt_980 rfl hin2 rfl (tyX12_ok 20 (by decide)) rfl rfl (Nat.le_of_ble_eq_true rfl) dX12_init_85 (fun H locs hX hS => ?_)
  have hX : XX D A ad10 cy (lk LM9) ((a, .inr (11, [.ref q1, .int 0, .int 0, .ref q2, .ref q3, .ref q4, .ref q5, .ref q6, .int 0, .int 0, .int 0, .int 0, .int 0, .int 0, .int 0, .ref q7, .int 0, .ref q8, .int 0, .ref q9, .ref q10, .int 0, .int 0, .int 0, .null, .null, .int 0, .null, .null, .null, .null, .int 0, .int 0, .int 0, .null, .null, .null, .null, .long 0, .null, .null, .null, .null])) :: Y) (wB 4) H := hX
  refine lv_aload_n hx hb dX12_init_88 rfl (lv_at hl 0 rfl) ?_
  refine lv_iconst (v := (-1)) hx hb dX12_init_89 (by decide) ?_
  refine r_put hx hb hts hin xk_11 hown hK hX hS (k := 21) (v := .int (-1)) (by decide) rfl wt_981 rfl (tyX12_ok 21 (by decide)) rfl rfl (Nat.le_of_ble_eq_true rfl) dX12_init_90 (fun H locs hX hS => ?_)
  have hX : XX D A ad10 cy (lk LM9) ((a, .inr (11, [.ref q1, .int 0, .int 0, .ref q2, .ref q3, .ref q4, .ref q5, .ref q6, .int 0, .int 0, .int 0, .int 0, .int 0, .int 0, .int 0, .ref q7, .int 0, .ref q8, .int 0, .ref q9, .ref q10, .int (-1), .int 0, .int 0, .null, .null, .int 0, .null, .null, .null, .null, .int 0, .int 0, .int 0, .null, .null, .null, .null, .long 0, .null, .null, .null, .null])) :: Y) (wB 4) H := hX
  refine lv_aload_n hx hb dX12_init_93 rfl (lv_at hl 0 rfl) ?_
  refine lv_iconst (v := (-1)) hx hb dX12_init_94 (by decide) ?_
  refine r_put hx hb hts hin xk_11 hown hK hX hS (k := 23) (v := .int (-1)) (by decide) rfl wt_983 rfl (tyX12_ok 23 (by decide)) rfl rfl (Nat.le_of_ble_eq_true rfl) dX12_init_95 (fun H locs hX hS => ?_)
  have hX : XX D A ad10 cy (lk LM9) ((a, .inr (11, [.ref q1, .int 0, .int 0, .ref q2, .ref q3, .ref q4, .ref q5, .ref q6, .int 0, .int 0, .int 0, .int 0, .int 0, .int 0, .int 0, .ref q7, .int 0, .ref q8, .int 0, .ref q9, .ref q10, .int (-1), .int 0, .int (-1), .null, .null, .int 0, .null, .null, .null, .null, .int 0, .int 0, .int 0, .null, .null, .null, .null, .long 0, .null, .null, .null, .null])) :: Y) (wB 4) H := hX
  refine lv_aload_n hx hb dX12_init_98 rfl (lv_at hl 0 rfl) ?_
  refine lv_bipush (v := 6) hx hb dX12_init_99 (by decide) ?_
  refine r_newaI hx hb (hts _ (hin _ wt_63)) hK hX hG hO hS hA 51 6 0 rfl rfl (by decide) (by decide) (by decide) (by decide) (Nat.le_of_ble_eq_true rfl) (Nat.le_of_ble_eq_true rfl) dX12_init_101 (fun q11 ad11 H hT11 hq11 hX hG hO hS => ?_)
  rw [cup_lk (k := 51) (v := 0) rfl rfl] at hX hG hO
  rw [show wz (wB 4) 51 0 = (wB 4) from wz_id rfl rfl rfl] at hX hO
  have hX : XX D A ad11 cy (lk LM10) ((a, .inr (11, [.ref q1, .int 0, .int 0, .ref q2, .ref q3, .ref q4, .ref q5, .ref q6, .int 0, .int 0, .int 0, .int 0, .int 0, .int 0, .int 0, .ref q7, .int 0, .ref q8, .int 0, .ref q9, .ref q10, .int (-1), .int 0, .int (-1), .null, .null, .int 0, .null, .null, .null, .null, .int 0, .int 0, .int 0, .null, .null, .null, .null, .long 0, .null, .null, .null, .null])) :: Y) (wB 4) H := hX
  have hG : XG ad11 (lk LM10) := hG
  have hO : XD (lk LM10) (wB 4) := hO
  refine r_putF hx hb hts hin xk_11 hown hK hX hS (k := 24) (v := .ref q11) (by decide) rfl wt_984 rfl hin2 rfl (tyX12_ok 24 (by decide)) rfl rfl (Nat.le_of_ble_eq_true rfl) dX12_init_103 (fun H locs hX hS => ?_)
  have hX : XX D A ad11 cy (lk LM10) ((a, .inr (11, [.ref q1, .int 0, .int 0, .ref q2, .ref q3, .ref q4, .ref q5, .ref q6, .int 0, .int 0, .int 0, .int 0, .int 0, .int 0, .int 0, .ref q7, .int 0, .ref q8, .int 0, .ref q9, .ref q10, .int (-1), .int 0, .int (-1), .ref q11, .null, .int 0, .null, .null, .null, .null, .int 0, .int 0, .int 0, .null, .null, .null, .null, .long 0, .null, .null, .null, .null])) :: Y) (wB 4) H := hX
  refine lv_aload_n hx hb dX12_init_106 rfl (lv_at hl 0 rfl) ?_
  refine lv_sipush (v := 500) hx hb dX12_init_107 (by decide) ?_
  refine r_newaI hx hb (hts _ (hin _ wt_63)) hK hX hG hO hS hA 52 500 0 rfl rfl (by decide) (by decide) (by decide) (by decide) (Nat.le_of_ble_eq_true rfl) (Nat.le_of_ble_eq_true rfl) dX12_init_110 (fun q12 ad12 H hT12 hq12 hX hG hO hS => ?_)
  rw [cup_lk (k := 52) (v := 0) rfl rfl] at hX hG hO
  rw [show wz (wB 4) 52 0 = (wB 4) from wz_id rfl rfl rfl] at hX hO
  have hX : XX D A ad12 cy (lk LM11) ((a, .inr (11, [.ref q1, .int 0, .int 0, .ref q2, .ref q3, .ref q4, .ref q5, .ref q6, .int 0, .int 0, .int 0, .int 0, .int 0, .int 0, .int 0, .ref q7, .int 0, .ref q8, .int 0, .ref q9, .ref q10, .int (-1), .int 0, .int (-1), .ref q11, .null, .int 0, .null, .null, .null, .null, .int 0, .int 0, .int 0, .null, .null, .null, .null, .long 0, .null, .null, .null, .null])) :: Y) (wB 4) H := hX
  have hG : XG ad12 (lk LM11) := hG
  have hO : XD (lk LM11) (wB 4) := hO
  refine r_putF hx hb hts hin xk_11 hown hK hX hS (k := 25) (v := .ref q12) (by decide) rfl wt_985 rfl hin2 rfl (tyX12_ok 25 (by decide)) rfl rfl (Nat.le_of_ble_eq_true rfl) dX12_init_112 (fun H locs hX hS => ?_)
  have hX : XX D A ad12 cy (lk LM11) ((a, .inr (11, [.ref q1, .int 0, .int 0, .ref q2, .ref q3, .ref q4, .ref q5, .ref q6, .int 0, .int 0, .int 0, .int 0, .int 0, .int 0, .int 0, .ref q7, .int 0, .ref q8, .int 0, .ref q9, .ref q10, .int (-1), .int 0, .int (-1), .ref q11, .ref q12, .int 0, .null, .null, .null, .null, .int 0, .int 0, .int 0, .null, .null, .null, .null, .long 0, .null, .null, .null, .null])) :: Y) (wB 4) H := hX
  refine lv_aload_n hx hb dX12_init_115 rfl (lv_at hl 0 rfl) ?_
  refine lv_bipush (v := 25) hx hb dX12_init_116 (by decide) ?_
  refine r_newaI hx hb (hts _ (hin _ wt_63)) hK hX hG hO hS hA 53 25 0 rfl rfl (by decide) (by decide) (by decide) (by decide) (Nat.le_of_ble_eq_true rfl) (Nat.le_of_ble_eq_true rfl) dX12_init_118 (fun q13 ad13 H hT13 hq13 hX hG hO hS => ?_)
  rw [cup_lk (k := 53) (v := 0) rfl rfl] at hX hG hO
  rw [show wz (wB 4) 53 0 = (wB 4) from wz_id rfl rfl rfl] at hX hO
  have hX : XX D A ad13 cy (lk LM12) ((a, .inr (11, [.ref q1, .int 0, .int 0, .ref q2, .ref q3, .ref q4, .ref q5, .ref q6, .int 0, .int 0, .int 0, .int 0, .int 0, .int 0, .int 0, .ref q7, .int 0, .ref q8, .int 0, .ref q9, .ref q10, .int (-1), .int 0, .int (-1), .ref q11, .ref q12, .int 0, .null, .null, .null, .null, .int 0, .int 0, .int 0, .null, .null, .null, .null, .long 0, .null, .null, .null, .null])) :: Y) (wB 4) H := hX
  have hG : XG ad13 (lk LM12) := hG
  have hO : XD (lk LM12) (wB 4) := hO
  refine r_putF hx hb hts hin xk_11 hown hK hX hS (k := 27) (v := .ref q13) (by decide) rfl wt_987 rfl hin2 rfl (tyX12_ok 27 (by decide)) rfl rfl (Nat.le_of_ble_eq_true rfl) dX12_init_120 (fun H locs hX hS => ?_)
  have hX : XX D A ad13 cy (lk LM12) ((a, .inr (11, [.ref q1, .int 0, .int 0, .ref q2, .ref q3, .ref q4, .ref q5, .ref q6, .int 0, .int 0, .int 0, .int 0, .int 0, .int 0, .int 0, .ref q7, .int 0, .ref q8, .int 0, .ref q9, .ref q10, .int (-1), .int 0, .int (-1), .ref q11, .ref q12, .int 0, .ref q13, .null, .null, .null, .int 0, .int 0, .int 0, .null, .null, .null, .null, .long 0, .null, .null, .null, .null])) :: Y) (wB 4) H := hX
  refine lv_aload_n hx hb dX12_init_123 rfl (lv_at hl 0 rfl) ?_
  refine lv_bipush (v := 6) hx hb dX12_init_124 (by decide) ?_
  refine r_newaI hx hb (hts _ (hin _ wt_63)) hK hX hG hO hS hA 54 6 0 rfl rfl (by decide) (by decide) (by decide) (by decide) (Nat.le_of_ble_eq_true rfl) (Nat.le_of_ble_eq_true rfl) dX12_init_126 (fun q14 ad14 H hT14 hq14 hX hG hO hS => ?_)
  rw [cup_lk (k := 54) (v := 0) rfl rfl] at hX hG hO
  rw [show wz (wB 4) 54 0 = (wB 4) from wz_id rfl rfl rfl] at hX hO
  have hX : XX D A ad14 cy (lk LM13) ((a, .inr (11, [.ref q1, .int 0, .int 0, .ref q2, .ref q3, .ref q4, .ref q5, .ref q6, .int 0, .int 0, .int 0, .int 0, .int 0, .int 0, .int 0, .ref q7, .int 0, .ref q8, .int 0, .ref q9, .ref q10, .int (-1), .int 0, .int (-1), .ref q11, .ref q12, .int 0, .ref q13, .null, .null, .null, .int 0, .int 0, .int 0, .null, .null, .null, .null, .long 0, .null, .null, .null, .null])) :: Y) (wB 4) H := hX
  have hG : XG ad14 (lk LM13) := hG
  have hO : XD (lk LM13) (wB 4) := hO
  refine r_putF hx hb hts hin xk_11 hown hK hX hS (k := 28) (v := .ref q14) (by decide) rfl wt_988 rfl hin2 rfl (tyX12_ok 28 (by decide)) rfl rfl (Nat.le_of_ble_eq_true rfl) dX12_init_128 (fun H locs hX hS => ?_)
  have hX : XX D A ad14 cy (lk LM13) ((a, .inr (11, [.ref q1, .int 0, .int 0, .ref q2, .ref q3, .ref q4, .ref q5, .ref q6, .int 0, .int 0, .int 0, .int 0, .int 0, .int 0, .int 0, .ref q7, .int 0, .ref q8, .int 0, .ref q9, .ref q10, .int (-1), .int 0, .int (-1), .ref q11, .ref q12, .int 0, .ref q13, .ref q14, .null, .null, .int 0, .int 0, .int 0, .null, .null, .null, .null, .long 0, .null, .null, .null, .null])) :: Y) (wB 4) H := hX
  refine lv_aload_n hx hb dX12_init_131 rfl (lv_at hl 0 rfl) ?_
  refine lv_bipush (v := 6) hx hb dX12_init_132 (by decide) ?_
  refine r_newaI hx hb (hts _ (hin _ wt_63)) hK hX hG hO hS hA 55 6 0 rfl rfl (by decide) (by decide) (by decide) (by decide) (Nat.le_of_ble_eq_true rfl) (Nat.le_of_ble_eq_true rfl) dX12_init_134 (fun q15 ad15 H hT15 hq15 hX hG hO hS => ?_)
  rw [cup_lk (k := 55) (v := 0) rfl rfl] at hX hG hO
  rw [show wz (wB 4) 55 0 = (wB 4) from wz_id rfl rfl rfl] at hX hO
  have hX : XX D A ad15 cy (lk LM14) ((a, .inr (11, [.ref q1, .int 0, .int 0, .ref q2, .ref q3, .ref q4, .ref q5, .ref q6, .int 0, .int 0, .int 0, .int 0, .int 0, .int 0, .int 0, .ref q7, .int 0, .ref q8, .int 0, .ref q9, .ref q10, .int (-1), .int 0, .int (-1), .ref q11, .ref q12, .int 0, .ref q13, .ref q14, .null, .null, .int 0, .int 0, .int 0, .null, .null, .null, .null, .long 0, .null, .null, .null, .null])) :: Y) (wB 4) H := hX
  have hG : XG ad15 (lk LM14) := hG
  have hO : XD (lk LM14) (wB 4) := hO
  refine r_putF hx hb hts hin xk_11 hown hK hX hS (k := 29) (v := .ref q15) (by decide) rfl wt_989 rfl hin2 rfl (tyX12_ok 29 (by decide)) rfl rfl (Nat.le_of_ble_eq_true rfl) dX12_init_136 (fun H locs hX hS => ?_)
  have hX : XX D A ad15 cy (lk LM14) ((a, .inr (11, [.ref q1, .int 0, .int 0, .ref q2, .ref q3, .ref q4, .ref q5, .ref q6, .int 0, .int 0, .int 0, .int 0, .int 0, .int 0, .int 0, .ref q7, .int 0, .ref q8, .int 0, .ref q9, .ref q10, .int (-1), .int 0, .int (-1), .ref q11, .ref q12, .int 0, .ref q13, .ref q14, .ref q15, .null, .int 0, .int 0, .int 0, .null, .null, .null, .null, .long 0, .null, .null, .null, .null])) :: Y) (wB 4) H := hX
  refine lv_aload_n hx hb dX12_init_139 rfl (lv_at hl 0 rfl) ?_
  refine lv_bipush (v := 7) hx hb dX12_init_140 (by decide) ?_
  refine r_newaI hx hb (hts _ (hin _ wt_63)) hK hX hG hO hS hA 56 7 0 rfl rfl (by decide) (by decide) (by decide) (by decide) (Nat.le_of_ble_eq_true rfl) (Nat.le_of_ble_eq_true rfl) dX12_init_142 (fun q16 ad16 H hT16 hq16 hX hG hO hS => ?_)
  rw [cup_lk (k := 56) (v := 0) rfl rfl] at hX hG hO
  rw [show wz (wB 4) 56 0 = (wB 4) from wz_id rfl rfl rfl] at hX hO
  have hX : XX D A ad16 cy (lk LM15) ((a, .inr (11, [.ref q1, .int 0, .int 0, .ref q2, .ref q3, .ref q4, .ref q5, .ref q6, .int 0, .int 0, .int 0, .int 0, .int 0, .int 0, .int 0, .ref q7, .int 0, .ref q8, .int 0, .ref q9, .ref q10, .int (-1), .int 0, .int (-1), .ref q11, .ref q12, .int 0, .ref q13, .ref q14, .ref q15, .null, .int 0, .int 0, .int 0, .null, .null, .null, .null, .long 0, .null, .null, .null, .null])) :: Y) (wB 4) H := hX
  have hG : XG ad16 (lk LM15) := hG
  have hO : XD (lk LM15) (wB 4) := hO
  refine r_putF hx hb hts hin xk_11 hown hK hX hS (k := 30) (v := .ref q16) (by decide) rfl wt_990 rfl hin2 rfl (tyX12_ok 30 (by decide)) rfl rfl (Nat.le_of_ble_eq_true rfl) dX12_init_144 (fun H locs hX hS => ?_)
  have hX : XX D A ad16 cy (lk LM15) ((a, .inr (11, [.ref q1, .int 0, .int 0, .ref q2, .ref q3, .ref q4, .ref q5, .ref q6, .int 0, .int 0, .int 0, .int 0, .int 0, .int 0, .int 0, .ref q7, .int 0, .ref q8, .int 0, .ref q9, .ref q10, .int (-1), .int 0, .int (-1), .ref q11, .ref q12, .int 0, .ref q13, .ref q14, .ref q15, .ref q16, .int 0, .int 0, .int 0, .null, .null, .null, .null, .long 0, .null, .null, .null, .null])) :: Y) (wB 4) H := hX
  refine lv_aload_n hx hb dX12_init_147 rfl (lv_at hl 0 rfl) ?_
  refine lv_bipush (v := 32) hx hb dX12_init_148 (by decide) ?_
  refine r_newaI hx hb (hts _ (hin _ wt_63)) hK hX hG hO hS hA 57 32 0 rfl rfl (by decide) (by decide) (by decide) (by decide) (Nat.le_of_ble_eq_true rfl) (Nat.le_of_ble_eq_true rfl) dX12_init_150 (fun q17 ad17 H hT17 hq17 hX hG hO hS => ?_)
  rw [cup_lk (k := 57) (v := 0) rfl rfl] at hX hG hO
  rw [show wz (wB 4) 57 0 = (wB 4) from wz_id rfl rfl rfl] at hX hO
  have hX : XX D A ad17 cy (lk LM16) ((a, .inr (11, [.ref q1, .int 0, .int 0, .ref q2, .ref q3, .ref q4, .ref q5, .ref q6, .int 0, .int 0, .int 0, .int 0, .int 0, .int 0, .int 0, .ref q7, .int 0, .ref q8, .int 0, .ref q9, .ref q10, .int (-1), .int 0, .int (-1), .ref q11, .ref q12, .int 0, .ref q13, .ref q14, .ref q15, .ref q16, .int 0, .int 0, .int 0, .null, .null, .null, .null, .long 0, .null, .null, .null, .null])) :: Y) (wB 4) H := hX
  have hG : XG ad17 (lk LM16) := hG
  have hO : XD (lk LM16) (wB 4) := hO
  refine r_putF hx hb hts hin xk_11 hown hK hX hS (k := 34) (v := .ref q17) (by decide) rfl wt_994 rfl hin2 rfl (tyX12_ok 34 (by decide)) rfl rfl (Nat.le_of_ble_eq_true rfl) dX12_init_152 (fun H locs hX hS => ?_)
  have hX : XX D A ad17 cy (lk LM16) ((a, .inr (11, [.ref q1, .int 0, .int 0, .ref q2, .ref q3, .ref q4, .ref q5, .ref q6, .int 0, .int 0, .int 0, .int 0, .int 0, .int 0, .int 0, .ref q7, .int 0, .ref q8, .int 0, .ref q9, .ref q10, .int (-1), .int 0, .int (-1), .ref q11, .ref q12, .int 0, .ref q13, .ref q14, .ref q15, .ref q16, .int 0, .int 0, .int 0, .ref q17, .null, .null, .null, .long 0, .null, .null, .null, .null])) :: Y) (wB 4) H := hX
  refine lv_aload_n hx hb dX12_init_155 rfl (lv_at hl 0 rfl) ?_
  refine lv_sipush (v := 1098) hx hb dX12_init_156 (by decide) ?_
  refine r_newaI hx hb (hts _ (hin _ wt_63)) hK hX hG hO hS hA 58 1098 0 rfl rfl (by decide) (by decide) (by decide) (by decide) (Nat.le_of_ble_eq_true rfl) (Nat.le_of_ble_eq_true rfl) dX12_init_159 (fun q18 ad18 H hT18 hq18 hX hG hO hS => ?_)
  rw [cup_lk (k := 58) (v := 0) rfl rfl] at hX hG hO
  rw [show wz (wB 4) 58 0 = (wB 4) from wz_id rfl rfl rfl] at hX hO
  have hX : XX D A ad18 cy (lk LM17) ((a, .inr (11, [.ref q1, .int 0, .int 0, .ref q2, .ref q3, .ref q4, .ref q5, .ref q6, .int 0, .int 0, .int 0, .int 0, .int 0, .int 0, .int 0, .ref q7, .int 0, .ref q8, .int 0, .ref q9, .ref q10, .int (-1), .int 0, .int (-1), .ref q11, .ref q12, .int 0, .ref q13, .ref q14, .ref q15, .ref q16, .int 0, .int 0, .int 0, .ref q17, .null, .null, .null, .long 0, .null, .null, .null, .null])) :: Y) (wB 4) H := hX
  have hG : XG ad18 (lk LM17) := hG
  have hO : XD (lk LM17) (wB 4) := hO
  refine r_putF hx hb hts hin xk_11 hown hK hX hS (k := 35) (v := .ref q18) (by decide) rfl wt_995 rfl hin2 rfl (tyX12_ok 35 (by decide)) rfl rfl (Nat.le_of_ble_eq_true rfl) dX12_init_161 (fun H locs hX hS => ?_)
  have hX : XX D A ad18 cy (lk LM17) ((a, .inr (11, [.ref q1, .int 0, .int 0, .ref q2, .ref q3, .ref q4, .ref q5, .ref q6, .int 0, .int 0, .int 0, .int 0, .int 0, .int 0, .int 0, .ref q7, .int 0, .ref q8, .int 0, .ref q9, .ref q10, .int (-1), .int 0, .int (-1), .ref q11, .ref q12, .int 0, .ref q13, .ref q14, .ref q15, .ref q16, .int 0, .int 0, .int 0, .ref q17, .ref q18, .null, .null, .long 0, .null, .null, .null, .null])) :: Y) (wB 4) H := hX
  refine lv_aload_n hx hb dX12_init_164 rfl (lv_at hl 0 rfl) ?_
  refine lv_bipush (v := 7) hx hb dX12_init_165 (by decide) ?_
  refine r_newaZ hx hb (hts _ (hin _ wt_1090)) hK hX hG hO hS hA 59 7 0 rfl rfl (by decide) (by decide) (by decide) (by decide) (Nat.le_of_ble_eq_true rfl) (Nat.le_of_ble_eq_true rfl) dX12_init_167 (fun q19 ad19 H hT19 hq19 hX hG hO hS => ?_)
  rw [cup_lk (k := 59) (v := 0) rfl rfl] at hX hG hO
  rw [show wz (wB 4) 59 0 = (wB 4) from wz_id rfl rfl rfl] at hX hO
  have hX : XX D A ad19 cy (lk LM18) ((a, .inr (11, [.ref q1, .int 0, .int 0, .ref q2, .ref q3, .ref q4, .ref q5, .ref q6, .int 0, .int 0, .int 0, .int 0, .int 0, .int 0, .int 0, .ref q7, .int 0, .ref q8, .int 0, .ref q9, .ref q10, .int (-1), .int 0, .int (-1), .ref q11, .ref q12, .int 0, .ref q13, .ref q14, .ref q15, .ref q16, .int 0, .int 0, .int 0, .ref q17, .ref q18, .null, .null, .long 0, .null, .null, .null, .null])) :: Y) (wB 4) H := hX
  have hG : XG ad19 (lk LM18) := hG
  have hO : XD (lk LM18) (wB 4) := hO
  refine r_putF hx hb hts hin xk_11 hown hK hX hS (k := 36) (v := .ref q19) (by decide) rfl wt_996 rfl hin2 rfl (tyX12_ok 36 (by decide)) rfl rfl (Nat.le_of_ble_eq_true rfl) dX12_init_169 (fun H locs hX hS => ?_)
  have hX : XX D A ad19 cy (lk LM18) ((a, .inr (11, [.ref q1, .int 0, .int 0, .ref q2, .ref q3, .ref q4, .ref q5, .ref q6, .int 0, .int 0, .int 0, .int 0, .int 0, .int 0, .int 0, .ref q7, .int 0, .ref q8, .int 0, .ref q9, .ref q10, .int (-1), .int 0, .int (-1), .ref q11, .ref q12, .int 0, .ref q13, .ref q14, .ref q15, .ref q16, .int 0, .int 0, .int 0, .ref q17, .ref q18, .ref q19, .null, .long 0, .null, .null, .null, .null])) :: Y) (wB 4) H := hX
  refine lv_aload_n hx hb dX12_init_172 rfl (lv_at hl 0 rfl) ?_
  refine lv_bipush (v := 42) hx hb dX12_init_173 (by decide) ?_
  refine r_newaI hx hb (hts _ (hin _ wt_63)) hK hX hG hO hS hA 60 42 0 rfl rfl (by decide) (by decide) (by decide) (by decide) (Nat.le_of_ble_eq_true rfl) (Nat.le_of_ble_eq_true rfl) dX12_init_175 (fun q20 ad20 H hT20 hq20 hX hG hO hS => ?_)
  rw [cup_lk (k := 60) (v := 0) rfl rfl] at hX hG hO
  rw [show wz (wB 4) 60 0 = (wB 4) from wz_id rfl rfl rfl] at hX hO
  have hX : XX D A ad20 cy (lk LM19) ((a, .inr (11, [.ref q1, .int 0, .int 0, .ref q2, .ref q3, .ref q4, .ref q5, .ref q6, .int 0, .int 0, .int 0, .int 0, .int 0, .int 0, .int 0, .ref q7, .int 0, .ref q8, .int 0, .ref q9, .ref q10, .int (-1), .int 0, .int (-1), .ref q11, .ref q12, .int 0, .ref q13, .ref q14, .ref q15, .ref q16, .int 0, .int 0, .int 0, .ref q17, .ref q18, .ref q19, .null, .long 0, .null, .null, .null, .null])) :: Y) (wB 4) H := hX
  have hG : XG ad20 (lk LM19) := hG
  have hO : XD (lk LM19) (wB 4) := hO
  refine r_putF hx hb hts hin xk_11 hown hK hX hS (k := 37) (v := .ref q20) (by decide) rfl wt_997 rfl hin2 rfl (tyX12_ok 37 (by decide)) rfl rfl (Nat.le_of_ble_eq_true rfl) dX12_init_177 (fun H locs hX hS => ?_)
  have hX : XX D A ad20 cy (lk LM19) ((a, .inr (11, [.ref q1, .int 0, .int 0, .ref q2, .ref q3, .ref q4, .ref q5, .ref q6, .int 0, .int 0, .int 0, .int 0, .int 0, .int 0, .int 0, .ref q7, .int 0, .ref q8, .int 0, .ref q9, .ref q10, .int (-1), .int 0, .int (-1), .ref q11, .ref q12, .int 0, .ref q13, .ref q14, .ref q15, .ref q16, .int 0, .int 0, .int 0, .ref q17, .ref q18, .ref q19, .ref q20, .long 0, .null, .null, .null, .null])) :: Y) (wB 4) H := hX
  refine lv_aload_n hx hb dX12_init_180 rfl (lv_at hl 0 rfl) ?_
  refine lv_sipush (v := 392) hx hb dX12_init_181 (by decide) ?_
  refine r_newaI hx hb (hts _ (hin _ wt_63)) hK hX hG hO hS hA 61 392 0 rfl rfl (by decide) (by decide) (by decide) (by decide) (Nat.le_of_ble_eq_true rfl) (Nat.le_of_ble_eq_true rfl) dX12_init_184 (fun q21 ad21 H hT21 hq21 hX hG hO hS => ?_)
  rw [cup_lk (k := 61) (v := 0) rfl rfl] at hX hG hO
  rw [show wz (wB 4) 61 0 = (wB 4) from wz_id rfl rfl rfl] at hX hO
  have hX : XX D A ad21 cy (lk LM20) ((a, .inr (11, [.ref q1, .int 0, .int 0, .ref q2, .ref q3, .ref q4, .ref q5, .ref q6, .int 0, .int 0, .int 0, .int 0, .int 0, .int 0, .int 0, .ref q7, .int 0, .ref q8, .int 0, .ref q9, .ref q10, .int (-1), .int 0, .int (-1), .ref q11, .ref q12, .int 0, .ref q13, .ref q14, .ref q15, .ref q16, .int 0, .int 0, .int 0, .ref q17, .ref q18, .ref q19, .ref q20, .long 0, .null, .null, .null, .null])) :: Y) (wB 4) H := hX
  have hG : XG ad21 (lk LM20) := hG
  have hO : XD (lk LM20) (wB 4) := hO
  refine r_putF hx hb hts hin xk_11 hown hK hX hS (k := 39) (v := .ref q21) (by decide) rfl wt_999 rfl hin2 rfl (tyX12_ok 39 (by decide)) rfl rfl (Nat.le_of_ble_eq_true rfl) dX12_init_186 (fun H locs hX hS => ?_)
  have hX : XX D A ad21 cy (lk LM20) ((a, .inr (11, [.ref q1, .int 0, .int 0, .ref q2, .ref q3, .ref q4, .ref q5, .ref q6, .int 0, .int 0, .int 0, .int 0, .int 0, .int 0, .int 0, .ref q7, .int 0, .ref q8, .int 0, .ref q9, .ref q10, .int (-1), .int 0, .int (-1), .ref q11, .ref q12, .int 0, .ref q13, .ref q14, .ref q15, .ref q16, .int 0, .int 0, .int 0, .ref q17, .ref q18, .ref q19, .ref q20, .long 0, .ref q21, .null, .null, .null])) :: Y) (wB 4) H := hX
  refine lv_aload_n hx hb dX12_init_189 rfl (lv_at hl 0 rfl) ?_
  refine lv_iconst (v := 4) hx hb dX12_init_190 (by decide) ?_
  refine r_newaI hx hb (hts _ (hin _ wt_63)) hK hX hG hO hS hA 62 4 0 rfl rfl (by decide) (by decide) (by decide) (by decide) (Nat.le_of_ble_eq_true rfl) (Nat.le_of_ble_eq_true rfl) dX12_init_191 (fun q22 ad22 H hT22 hq22 hX hG hO hS => ?_)
  rw [cup_lk (k := 62) (v := 0) rfl rfl] at hX hG hO
  rw [show wz (wB 4) 62 0 = (wB 4) from wz_id rfl rfl rfl] at hX hO
  have hX : XX D A ad22 cy (lk LM21) ((a, .inr (11, [.ref q1, .int 0, .int 0, .ref q2, .ref q3, .ref q4, .ref q5, .ref q6, .int 0, .int 0, .int 0, .int 0, .int 0, .int 0, .int 0, .ref q7, .int 0, .ref q8, .int 0, .ref q9, .ref q10, .int (-1), .int 0, .int (-1), .ref q11, .ref q12, .int 0, .ref q13, .ref q14, .ref q15, .ref q16, .int 0, .int 0, .int 0, .ref q17, .ref q18, .ref q19, .ref q20, .long 0, .ref q21, .null, .null, .null])) :: Y) (wB 4) H := hX
  have hG : XG ad22 (lk LM21) := hG
  have hO : XD (lk LM21) (wB 4) := hO
  refine r_putF hx hb hts hin xk_11 hown hK hX hS (k := 40) (v := .ref q22) (by decide) rfl wt_1000 rfl hin2 rfl (tyX12_ok 40 (by decide)) rfl rfl (Nat.le_of_ble_eq_true rfl) dX12_init_193 (fun H locs hX hS => ?_)
  have hX : XX D A ad22 cy (lk LM21) ((a, .inr (11, [.ref q1, .int 0, .int 0, .ref q2, .ref q3, .ref q4, .ref q5, .ref q6, .int 0, .int 0, .int 0, .int 0, .int 0, .int 0, .int 0, .ref q7, .int 0, .ref q8, .int 0, .ref q9, .ref q10, .int (-1), .int 0, .int (-1), .ref q11, .ref q12, .int 0, .ref q13, .ref q14, .ref q15, .ref q16, .int 0, .int 0, .int 0, .ref q17, .ref q18, .ref q19, .ref q20, .long 0, .ref q21, .ref q22, .null, .null])) :: Y) (wB 4) H := hX
  refine lv_aload_n hx hb dX12_init_196 rfl (lv_at hl 0 rfl) ?_
  refine lv_iconst (v := 4) hx hb dX12_init_197 (by decide) ?_
  refine r_newaI hx hb (hts _ (hin _ wt_63)) hK hX hG hO hS hA 63 4 0 rfl rfl (by decide) (by decide) (by decide) (by decide) (Nat.le_of_ble_eq_true rfl) (Nat.le_of_ble_eq_true rfl) dX12_init_198 (fun q23 ad23 H hT23 hq23 hX hG hO hS => ?_)
  rw [cup_lk (k := 63) (v := 0) rfl rfl] at hX hG hO
  rw [show wz (wB 4) 63 0 = (wB 4) from wz_id rfl rfl rfl] at hX hO
  have hX : XX D A ad23 cy (lk LM22) ((a, .inr (11, [.ref q1, .int 0, .int 0, .ref q2, .ref q3, .ref q4, .ref q5, .ref q6, .int 0, .int 0, .int 0, .int 0, .int 0, .int 0, .int 0, .ref q7, .int 0, .ref q8, .int 0, .ref q9, .ref q10, .int (-1), .int 0, .int (-1), .ref q11, .ref q12, .int 0, .ref q13, .ref q14, .ref q15, .ref q16, .int 0, .int 0, .int 0, .ref q17, .ref q18, .ref q19, .ref q20, .long 0, .ref q21, .ref q22, .null, .null])) :: Y) (wB 4) H := hX
  have hG : XG ad23 (lk LM22) := hG
  have hO : XD (lk LM22) (wB 4) := hO
  refine r_putF hx hb hts hin xk_11 hown hK hX hS (k := 41) (v := .ref q23) (by decide) rfl wt_1001 rfl hin2 rfl (tyX12_ok 41 (by decide)) rfl rfl (Nat.le_of_ble_eq_true rfl) dX12_init_200 (fun H locs hX hS => ?_)
  have hX : XX D A ad23 cy (lk LM22) ((a, .inr (11, [.ref q1, .int 0, .int 0, .ref q2, .ref q3, .ref q4, .ref q5, .ref q6, .int 0, .int 0, .int 0, .int 0, .int 0, .int 0, .int 0, .ref q7, .int 0, .ref q8, .int 0, .ref q9, .ref q10, .int (-1), .int 0, .int (-1), .ref q11, .ref q12, .int 0, .ref q13, .ref q14, .ref q15, .ref q16, .int 0, .int 0, .int 0, .ref q17, .ref q18, .ref q19, .ref q20, .long 0, .ref q21, .ref q22, .ref q23, .null])) :: Y) (wB 4) H := hX
  refine lv_aload_n hx hb dX12_init_203 rfl (lv_at hl 0 rfl) ?_
  refine lv_iconst (v := 4) hx hb dX12_init_204 (by decide) ?_
  refine r_newaZ hx hb (hts _ (hin _ wt_1090)) hK hX hG hO hS hA 64 4 0 rfl rfl (by decide) (by decide) (by decide) (by decide) (Nat.le_of_ble_eq_true rfl) (Nat.le_of_ble_eq_true rfl) dX12_init_205 (fun q24 ad24 H hT24 hq24 hX hG hO hS => ?_)
  rw [cup_lk (k := 64) (v := 0) rfl rfl] at hX hG hO
  rw [show wz (wB 4) 64 0 = (wB 4) from wz_id rfl rfl rfl] at hX hO
  have hX : XX D A ad24 cy (lk LM23) ((a, .inr (11, [.ref q1, .int 0, .int 0, .ref q2, .ref q3, .ref q4, .ref q5, .ref q6, .int 0, .int 0, .int 0, .int 0, .int 0, .int 0, .int 0, .ref q7, .int 0, .ref q8, .int 0, .ref q9, .ref q10, .int (-1), .int 0, .int (-1), .ref q11, .ref q12, .int 0, .ref q13, .ref q14, .ref q15, .ref q16, .int 0, .int 0, .int 0, .ref q17, .ref q18, .ref q19, .ref q20, .long 0, .ref q21, .ref q22, .ref q23, .null])) :: Y) (wB 4) H := hX
  have hG : XG ad24 (lk LM23) := hG
  have hO : XD (lk LM23) (wB 4) := hO
  refine r_putF hx hb hts hin xk_11 hown hK hX hS (k := 42) (v := .ref q24) (by decide) rfl wt_1002 rfl hin2 rfl (tyX12_ok 42 (by decide)) rfl rfl (Nat.le_of_ble_eq_true rfl) dX12_init_207 (fun H locs hX hS => ?_)
  have hX : XX D A ad24 cy (lk LM23) ((a, .inr (11, [.ref q1, .int 0, .int 0, .ref q2, .ref q3, .ref q4, .ref q5, .ref q6, .int 0, .int 0, .int 0, .int 0, .int 0, .int 0, .int 0, .ref q7, .int 0, .ref q8, .int 0, .ref q9, .ref q10, .int (-1), .int 0, .int (-1), .ref q11, .ref q12, .int 0, .ref q13, .ref q14, .ref q15, .ref q16, .int 0, .int 0, .int 0, .ref q17, .ref q18, .ref q19, .ref q20, .long 0, .ref q21, .ref q22, .ref q23, .ref q24])) :: Y) (wB 4) H := hX
  have qq1 : ad24 41 0 = q1 := ((hT24.1 41 0 (show 0 < lk LM22 41 by decide +kernel)).trans ((hT23.1 41 0 (show 0 < lk LM21 41 by decide +kernel)).trans ((hT22.1 41 0 (show 0 < lk LM20 41 by decide +kernel)).trans ((hT21.1 41 0 (show 0 < lk LM19 41 by decide +kernel)).trans ((hT20.1 41 0 (show 0 < lk LM18 41 by decide +kernel)).trans ((hT19.1 41 0 (show 0 < lk LM17 41 by decide +kernel)).trans ((hT18.1 41 0 (show 0 < lk LM16 41 by decide +kernel)).trans ((hT17.1 41 0 (show 0 < lk LM15 41 by decide +kernel)).trans ((hT16.1 41 0 (show 0 < lk LM14 41 by decide +kernel)).trans ((hT15.1 41 0 (show 0 < lk LM13 41 by decide +kernel)).trans ((hT14.1 41 0 (show 0 < lk LM12 41 by decide +kernel)).trans ((hT13.1 41 0 (show 0 < lk LM11 41 by decide +kernel)).trans ((hT12.1 41 0 (show 0 < lk LM10 41 by decide +kernel)).trans ((hT11.1 41 0 (show 0 < lk LM9 41 by decide +kernel)).trans ((hT10.1 41 0 (show 0 < lk LM8 41 by decide +kernel)).trans ((hT9.1 41 0 (show 0 < lk LM7 41 by decide +kernel)).trans ((hT8.1 41 0 (show 0 < lk LM6 41 by decide +kernel)).trans ((hT7.1 41 0 (show 0 < lk LM5 41 by decide +kernel)).trans ((hT6.1 41 0 (show 0 < lk LM4 41 by decide +kernel)).trans ((hT5.1 41 0 (show 0 < lk LM3 41 by decide +kernel)).trans ((hT4.1 41 0 (show 0 < lk LM2 41 by decide +kernel)).trans ((hT3.1 41 0 (show 0 < lk LM1 41 by decide +kernel)).trans ((hT2.1 41 0 (show 0 < lk LM0 41 by decide +kernel)).trans hq1)))))))))))))))))))))))
  have qq2 : ad24 42 0 = q2 := ((hT24.1 42 0 (show 0 < lk LM22 42 by decide +kernel)).trans ((hT23.1 42 0 (show 0 < lk LM21 42 by decide +kernel)).trans ((hT22.1 42 0 (show 0 < lk LM20 42 by decide +kernel)).trans ((hT21.1 42 0 (show 0 < lk LM19 42 by decide +kernel)).trans ((hT20.1 42 0 (show 0 < lk LM18 42 by decide +kernel)).trans ((hT19.1 42 0 (show 0 < lk LM17 42 by decide +kernel)).trans ((hT18.1 42 0 (show 0 < lk LM16 42 by decide +kernel)).trans ((hT17.1 42 0 (show 0 < lk LM15 42 by decide +kernel)).trans ((hT16.1 42 0 (show 0 < lk LM14 42 by decide +kernel)).trans ((hT15.1 42 0 (show 0 < lk LM13 42 by decide +kernel)).trans ((hT14.1 42 0 (show 0 < lk LM12 42 by decide +kernel)).trans ((hT13.1 42 0 (show 0 < lk LM11 42 by decide +kernel)).trans ((hT12.1 42 0 (show 0 < lk LM10 42 by decide +kernel)).trans ((hT11.1 42 0 (show 0 < lk LM9 42 by decide +kernel)).trans ((hT10.1 42 0 (show 0 < lk LM8 42 by decide +kernel)).trans ((hT9.1 42 0 (show 0 < lk LM7 42 by decide +kernel)).trans ((hT8.1 42 0 (show 0 < lk LM6 42 by decide +kernel)).trans ((hT7.1 42 0 (show 0 < lk LM5 42 by decide +kernel)).trans ((hT6.1 42 0 (show 0 < lk LM4 42 by decide +kernel)).trans ((hT5.1 42 0 (show 0 < lk LM3 42 by decide +kernel)).trans ((hT4.1 42 0 (show 0 < lk LM2 42 by decide +kernel)).trans ((hT3.1 42 0 (show 0 < lk LM1 42 by decide +kernel)).trans hq2))))))))))))))))))))))
  have qq3 : ad24 43 0 = q3 := ((hT24.1 43 0 (show 0 < lk LM22 43 by decide +kernel)).trans ((hT23.1 43 0 (show 0 < lk LM21 43 by decide +kernel)).trans ((hT22.1 43 0 (show 0 < lk LM20 43 by decide +kernel)).trans ((hT21.1 43 0 (show 0 < lk LM19 43 by decide +kernel)).trans ((hT20.1 43 0 (show 0 < lk LM18 43 by decide +kernel)).trans ((hT19.1 43 0 (show 0 < lk LM17 43 by decide +kernel)).trans ((hT18.1 43 0 (show 0 < lk LM16 43 by decide +kernel)).trans ((hT17.1 43 0 (show 0 < lk LM15 43 by decide +kernel)).trans ((hT16.1 43 0 (show 0 < lk LM14 43 by decide +kernel)).trans ((hT15.1 43 0 (show 0 < lk LM13 43 by decide +kernel)).trans ((hT14.1 43 0 (show 0 < lk LM12 43 by decide +kernel)).trans ((hT13.1 43 0 (show 0 < lk LM11 43 by decide +kernel)).trans ((hT12.1 43 0 (show 0 < lk LM10 43 by decide +kernel)).trans ((hT11.1 43 0 (show 0 < lk LM9 43 by decide +kernel)).trans ((hT10.1 43 0 (show 0 < lk LM8 43 by decide +kernel)).trans ((hT9.1 43 0 (show 0 < lk LM7 43 by decide +kernel)).trans ((hT8.1 43 0 (show 0 < lk LM6 43 by decide +kernel)).trans ((hT7.1 43 0 (show 0 < lk LM5 43 by decide +kernel)).trans ((hT6.1 43 0 (show 0 < lk LM4 43 by decide +kernel)).trans ((hT5.1 43 0 (show 0 < lk LM3 43 by decide +kernel)).trans ((hT4.1 43 0 (show 0 < lk LM2 43 by decide +kernel)).trans hq3)))))))))))))))))))))
  have qq4 : ad24 44 0 = q4 := ((hT24.1 44 0 (show 0 < lk LM22 44 by decide +kernel)).trans ((hT23.1 44 0 (show 0 < lk LM21 44 by decide +kernel)).trans ((hT22.1 44 0 (show 0 < lk LM20 44 by decide +kernel)).trans ((hT21.1 44 0 (show 0 < lk LM19 44 by decide +kernel)).trans ((hT20.1 44 0 (show 0 < lk LM18 44 by decide +kernel)).trans ((hT19.1 44 0 (show 0 < lk LM17 44 by decide +kernel)).trans ((hT18.1 44 0 (show 0 < lk LM16 44 by decide +kernel)).trans ((hT17.1 44 0 (show 0 < lk LM15 44 by decide +kernel)).trans ((hT16.1 44 0 (show 0 < lk LM14 44 by decide +kernel)).trans ((hT15.1 44 0 (show 0 < lk LM13 44 by decide +kernel)).trans ((hT14.1 44 0 (show 0 < lk LM12 44 by decide +kernel)).trans ((hT13.1 44 0 (show 0 < lk LM11 44 by decide +kernel)).trans ((hT12.1 44 0 (show 0 < lk LM10 44 by decide +kernel)).trans ((hT11.1 44 0 (show 0 < lk LM9 44 by decide +kernel)).trans ((hT10.1 44 0 (show 0 < lk LM8 44 by decide +kernel)).trans ((hT9.1 44 0 (show 0 < lk LM7 44 by decide +kernel)).trans ((hT8.1 44 0 (show 0 < lk LM6 44 by decide +kernel)).trans ((hT7.1 44 0 (show 0 < lk LM5 44 by decide +kernel)).trans ((hT6.1 44 0 (show 0 < lk LM4 44 by decide +kernel)).trans ((hT5.1 44 0 (show 0 < lk LM3 44 by decide +kernel)).trans hq4))))))))))))))))))))
  have qq5 : ad24 45 0 = q5 := ((hT24.1 45 0 (show 0 < lk LM22 45 by decide +kernel)).trans ((hT23.1 45 0 (show 0 < lk LM21 45 by decide +kernel)).trans ((hT22.1 45 0 (show 0 < lk LM20 45 by decide +kernel)).trans ((hT21.1 45 0 (show 0 < lk LM19 45 by decide +kernel)).trans ((hT20.1 45 0 (show 0 < lk LM18 45 by decide +kernel)).trans ((hT19.1 45 0 (show 0 < lk LM17 45 by decide +kernel)).trans ((hT18.1 45 0 (show 0 < lk LM16 45 by decide +kernel)).trans ((hT17.1 45 0 (show 0 < lk LM15 45 by decide +kernel)).trans ((hT16.1 45 0 (show 0 < lk LM14 45 by decide +kernel)).trans ((hT15.1 45 0 (show 0 < lk LM13 45 by decide +kernel)).trans ((hT14.1 45 0 (show 0 < lk LM12 45 by decide +kernel)).trans ((hT13.1 45 0 (show 0 < lk LM11 45 by decide +kernel)).trans ((hT12.1 45 0 (show 0 < lk LM10 45 by decide +kernel)).trans ((hT11.1 45 0 (show 0 < lk LM9 45 by decide +kernel)).trans ((hT10.1 45 0 (show 0 < lk LM8 45 by decide +kernel)).trans ((hT9.1 45 0 (show 0 < lk LM7 45 by decide +kernel)).trans ((hT8.1 45 0 (show 0 < lk LM6 45 by decide +kernel)).trans ((hT7.1 45 0 (show 0 < lk LM5 45 by decide +kernel)).trans ((hT6.1 45 0 (show 0 < lk LM4 45 by decide +kernel)).trans hq5)))))))))))))))))))
  have qq6 : ad24 46 0 = q6 := ((hT24.1 46 0 (show 0 < lk LM22 46 by decide +kernel)).trans ((hT23.1 46 0 (show 0 < lk LM21 46 by decide +kernel)).trans ((hT22.1 46 0 (show 0 < lk LM20 46 by decide +kernel)).trans ((hT21.1 46 0 (show 0 < lk LM19 46 by decide +kernel)).trans ((hT20.1 46 0 (show 0 < lk LM18 46 by decide +kernel)).trans ((hT19.1 46 0 (show 0 < lk LM17 46 by decide +kernel)).trans ((hT18.1 46 0 (show 0 < lk LM16 46 by decide +kernel)).trans ((hT17.1 46 0 (show 0 < lk LM15 46 by decide +kernel)).trans ((hT16.1 46 0 (show 0 < lk LM14 46 by decide +kernel)).trans ((hT15.1 46 0 (show 0 < lk LM13 46 by decide +kernel)).trans ((hT14.1 46 0 (show 0 < lk LM12 46 by decide +kernel)).trans ((hT13.1 46 0 (show 0 < lk LM11 46 by decide +kernel)).trans ((hT12.1 46 0 (show 0 < lk LM10 46 by decide +kernel)).trans ((hT11.1 46 0 (show 0 < lk LM9 46 by decide +kernel)).trans ((hT10.1 46 0 (show 0 < lk LM8 46 by decide +kernel)).trans ((hT9.1 46 0 (show 0 < lk LM7 46 by decide +kernel)).trans ((hT8.1 46 0 (show 0 < lk LM6 46 by decide +kernel)).trans ((hT7.1 46 0 (show 0 < lk LM5 46 by decide +kernel)).trans hq6))))))))))))))))))
  have qq7 : ad24 47 0 = q7 := ((hT24.1 47 0 (show 0 < lk LM22 47 by decide +kernel)).trans ((hT23.1 47 0 (show 0 < lk LM21 47 by decide +kernel)).trans ((hT22.1 47 0 (show 0 < lk LM20 47 by decide +kernel)).trans ((hT21.1 47 0 (show 0 < lk LM19 47 by decide +kernel)).trans ((hT20.1 47 0 (show 0 < lk LM18 47 by decide +kernel)).trans ((hT19.1 47 0 (show 0 < lk LM17 47 by decide +kernel)).trans ((hT18.1 47 0 (show 0 < lk LM16 47 by decide +kernel)).trans ((hT17.1 47 0 (show 0 < lk LM15 47 by decide +kernel)).trans ((hT16.1 47 0 (show 0 < lk LM14 47 by decide +kernel)).trans ((hT15.1 47 0 (show 0 < lk LM13 47 by decide +kernel)).trans ((hT14.1 47 0 (show 0 < lk LM12 47 by decide +kernel)).trans ((hT13.1 47 0 (show 0 < lk LM11 47 by decide +kernel)).trans ((hT12.1 47 0 (show 0 < lk LM10 47 by decide +kernel)).trans ((hT11.1 47 0 (show 0 < lk LM9 47 by decide +kernel)).trans ((hT10.1 47 0 (show 0 < lk LM8 47 by decide +kernel)).trans ((hT9.1 47 0 (show 0 < lk LM7 47 by decide +kernel)).trans ((hT8.1 47 0 (show 0 < lk LM6 47 by decide +kernel)).trans hq7)))))))))))))))))
  have qq8 : ad24 48 0 = q8 := ((hT24.1 48 0 (show 0 < lk LM22 48 by decide +kernel)).trans ((hT23.1 48 0 (show 0 < lk LM21 48 by decide +kernel)).trans ((hT22.1 48 0 (show 0 < lk LM20 48 by decide +kernel)).trans ((hT21.1 48 0 (show 0 < lk LM19 48 by decide +kernel)).trans ((hT20.1 48 0 (show 0 < lk LM18 48 by decide +kernel)).trans ((hT19.1 48 0 (show 0 < lk LM17 48 by decide +kernel)).trans ((hT18.1 48 0 (show 0 < lk LM16 48 by decide +kernel)).trans ((hT17.1 48 0 (show 0 < lk LM15 48 by decide +kernel)).trans ((hT16.1 48 0 (show 0 < lk LM14 48 by decide +kernel)).trans ((hT15.1 48 0 (show 0 < lk LM13 48 by decide +kernel)).trans ((hT14.1 48 0 (show 0 < lk LM12 48 by decide +kernel)).trans ((hT13.1 48 0 (show 0 < lk LM11 48 by decide +kernel)).trans ((hT12.1 48 0 (show 0 < lk LM10 48 by decide +kernel)).trans ((hT11.1 48 0 (show 0 < lk LM9 48 by decide +kernel)).trans ((hT10.1 48 0 (show 0 < lk LM8 48 by decide +kernel)).trans ((hT9.1 48 0 (show 0 < lk LM7 48 by decide +kernel)).trans hq8))))))))))))))))
  have qq9 : ad24 49 0 = q9 := ((hT24.1 49 0 (show 0 < lk LM22 49 by decide +kernel)).trans ((hT23.1 49 0 (show 0 < lk LM21 49 by decide +kernel)).trans ((hT22.1 49 0 (show 0 < lk LM20 49 by decide +kernel)).trans ((hT21.1 49 0 (show 0 < lk LM19 49 by decide +kernel)).trans ((hT20.1 49 0 (show 0 < lk LM18 49 by decide +kernel)).trans ((hT19.1 49 0 (show 0 < lk LM17 49 by decide +kernel)).trans ((hT18.1 49 0 (show 0 < lk LM16 49 by decide +kernel)).trans ((hT17.1 49 0 (show 0 < lk LM15 49 by decide +kernel)).trans ((hT16.1 49 0 (show 0 < lk LM14 49 by decide +kernel)).trans ((hT15.1 49 0 (show 0 < lk LM13 49 by decide +kernel)).trans ((hT14.1 49 0 (show 0 < lk LM12 49 by decide +kernel)).trans ((hT13.1 49 0 (show 0 < lk LM11 49 by decide +kernel)).trans ((hT12.1 49 0 (show 0 < lk LM10 49 by decide +kernel)).trans ((hT11.1 49 0 (show 0 < lk LM9 49 by decide +kernel)).trans ((hT10.1 49 0 (show 0 < lk LM8 49 by decide +kernel)).trans hq9)))))))))))))))
  have qq10 : ad24 50 0 = q10 := ((hT24.1 50 0 (show 0 < lk LM22 50 by decide +kernel)).trans ((hT23.1 50 0 (show 0 < lk LM21 50 by decide +kernel)).trans ((hT22.1 50 0 (show 0 < lk LM20 50 by decide +kernel)).trans ((hT21.1 50 0 (show 0 < lk LM19 50 by decide +kernel)).trans ((hT20.1 50 0 (show 0 < lk LM18 50 by decide +kernel)).trans ((hT19.1 50 0 (show 0 < lk LM17 50 by decide +kernel)).trans ((hT18.1 50 0 (show 0 < lk LM16 50 by decide +kernel)).trans ((hT17.1 50 0 (show 0 < lk LM15 50 by decide +kernel)).trans ((hT16.1 50 0 (show 0 < lk LM14 50 by decide +kernel)).trans ((hT15.1 50 0 (show 0 < lk LM13 50 by decide +kernel)).trans ((hT14.1 50 0 (show 0 < lk LM12 50 by decide +kernel)).trans ((hT13.1 50 0 (show 0 < lk LM11 50 by decide +kernel)).trans ((hT12.1 50 0 (show 0 < lk LM10 50 by decide +kernel)).trans ((hT11.1 50 0 (show 0 < lk LM9 50 by decide +kernel)).trans hq10))))))))))))))
  have qq11 : ad24 51 0 = q11 := ((hT24.1 51 0 (show 0 < lk LM22 51 by decide +kernel)).trans ((hT23.1 51 0 (show 0 < lk LM21 51 by decide +kernel)).trans ((hT22.1 51 0 (show 0 < lk LM20 51 by decide +kernel)).trans ((hT21.1 51 0 (show 0 < lk LM19 51 by decide +kernel)).trans ((hT20.1 51 0 (show 0 < lk LM18 51 by decide +kernel)).trans ((hT19.1 51 0 (show 0 < lk LM17 51 by decide +kernel)).trans ((hT18.1 51 0 (show 0 < lk LM16 51 by decide +kernel)).trans ((hT17.1 51 0 (show 0 < lk LM15 51 by decide +kernel)).trans ((hT16.1 51 0 (show 0 < lk LM14 51 by decide +kernel)).trans ((hT15.1 51 0 (show 0 < lk LM13 51 by decide +kernel)).trans ((hT14.1 51 0 (show 0 < lk LM12 51 by decide +kernel)).trans ((hT13.1 51 0 (show 0 < lk LM11 51 by decide +kernel)).trans ((hT12.1 51 0 (show 0 < lk LM10 51 by decide +kernel)).trans hq11)))))))))))))
  have qq12 : ad24 52 0 = q12 := ((hT24.1 52 0 (show 0 < lk LM22 52 by decide +kernel)).trans ((hT23.1 52 0 (show 0 < lk LM21 52 by decide +kernel)).trans ((hT22.1 52 0 (show 0 < lk LM20 52 by decide +kernel)).trans ((hT21.1 52 0 (show 0 < lk LM19 52 by decide +kernel)).trans ((hT20.1 52 0 (show 0 < lk LM18 52 by decide +kernel)).trans ((hT19.1 52 0 (show 0 < lk LM17 52 by decide +kernel)).trans ((hT18.1 52 0 (show 0 < lk LM16 52 by decide +kernel)).trans ((hT17.1 52 0 (show 0 < lk LM15 52 by decide +kernel)).trans ((hT16.1 52 0 (show 0 < lk LM14 52 by decide +kernel)).trans ((hT15.1 52 0 (show 0 < lk LM13 52 by decide +kernel)).trans ((hT14.1 52 0 (show 0 < lk LM12 52 by decide +kernel)).trans ((hT13.1 52 0 (show 0 < lk LM11 52 by decide +kernel)).trans hq12))))))))))))
  have qq13 : ad24 53 0 = q13 := ((hT24.1 53 0 (show 0 < lk LM22 53 by decide +kernel)).trans ((hT23.1 53 0 (show 0 < lk LM21 53 by decide +kernel)).trans ((hT22.1 53 0 (show 0 < lk LM20 53 by decide +kernel)).trans ((hT21.1 53 0 (show 0 < lk LM19 53 by decide +kernel)).trans ((hT20.1 53 0 (show 0 < lk LM18 53 by decide +kernel)).trans ((hT19.1 53 0 (show 0 < lk LM17 53 by decide +kernel)).trans ((hT18.1 53 0 (show 0 < lk LM16 53 by decide +kernel)).trans ((hT17.1 53 0 (show 0 < lk LM15 53 by decide +kernel)).trans ((hT16.1 53 0 (show 0 < lk LM14 53 by decide +kernel)).trans ((hT15.1 53 0 (show 0 < lk LM13 53 by decide +kernel)).trans ((hT14.1 53 0 (show 0 < lk LM12 53 by decide +kernel)).trans hq13)))))))))))
  have qq14 : ad24 54 0 = q14 := ((hT24.1 54 0 (show 0 < lk LM22 54 by decide +kernel)).trans ((hT23.1 54 0 (show 0 < lk LM21 54 by decide +kernel)).trans ((hT22.1 54 0 (show 0 < lk LM20 54 by decide +kernel)).trans ((hT21.1 54 0 (show 0 < lk LM19 54 by decide +kernel)).trans ((hT20.1 54 0 (show 0 < lk LM18 54 by decide +kernel)).trans ((hT19.1 54 0 (show 0 < lk LM17 54 by decide +kernel)).trans ((hT18.1 54 0 (show 0 < lk LM16 54 by decide +kernel)).trans ((hT17.1 54 0 (show 0 < lk LM15 54 by decide +kernel)).trans ((hT16.1 54 0 (show 0 < lk LM14 54 by decide +kernel)).trans ((hT15.1 54 0 (show 0 < lk LM13 54 by decide +kernel)).trans hq14))))))))))
  have qq15 : ad24 55 0 = q15 := ((hT24.1 55 0 (show 0 < lk LM22 55 by decide +kernel)).trans ((hT23.1 55 0 (show 0 < lk LM21 55 by decide +kernel)).trans ((hT22.1 55 0 (show 0 < lk LM20 55 by decide +kernel)).trans ((hT21.1 55 0 (show 0 < lk LM19 55 by decide +kernel)).trans ((hT20.1 55 0 (show 0 < lk LM18 55 by decide +kernel)).trans ((hT19.1 55 0 (show 0 < lk LM17 55 by decide +kernel)).trans ((hT18.1 55 0 (show 0 < lk LM16 55 by decide +kernel)).trans ((hT17.1 55 0 (show 0 < lk LM15 55 by decide +kernel)).trans ((hT16.1 55 0 (show 0 < lk LM14 55 by decide +kernel)).trans hq15)))))))))
  have qq16 : ad24 56 0 = q16 := ((hT24.1 56 0 (show 0 < lk LM22 56 by decide +kernel)).trans ((hT23.1 56 0 (show 0 < lk LM21 56 by decide +kernel)).trans ((hT22.1 56 0 (show 0 < lk LM20 56 by decide +kernel)).trans ((hT21.1 56 0 (show 0 < lk LM19 56 by decide +kernel)).trans ((hT20.1 56 0 (show 0 < lk LM18 56 by decide +kernel)).trans ((hT19.1 56 0 (show 0 < lk LM17 56 by decide +kernel)).trans ((hT18.1 56 0 (show 0 < lk LM16 56 by decide +kernel)).trans ((hT17.1 56 0 (show 0 < lk LM15 56 by decide +kernel)).trans hq16))))))))
  have qq17 : ad24 57 0 = q17 := ((hT24.1 57 0 (show 0 < lk LM22 57 by decide +kernel)).trans ((hT23.1 57 0 (show 0 < lk LM21 57 by decide +kernel)).trans ((hT22.1 57 0 (show 0 < lk LM20 57 by decide +kernel)).trans ((hT21.1 57 0 (show 0 < lk LM19 57 by decide +kernel)).trans ((hT20.1 57 0 (show 0 < lk LM18 57 by decide +kernel)).trans ((hT19.1 57 0 (show 0 < lk LM17 57 by decide +kernel)).trans ((hT18.1 57 0 (show 0 < lk LM16 57 by decide +kernel)).trans hq17)))))))
  have qq18 : ad24 58 0 = q18 := ((hT24.1 58 0 (show 0 < lk LM22 58 by decide +kernel)).trans ((hT23.1 58 0 (show 0 < lk LM21 58 by decide +kernel)).trans ((hT22.1 58 0 (show 0 < lk LM20 58 by decide +kernel)).trans ((hT21.1 58 0 (show 0 < lk LM19 58 by decide +kernel)).trans ((hT20.1 58 0 (show 0 < lk LM18 58 by decide +kernel)).trans ((hT19.1 58 0 (show 0 < lk LM17 58 by decide +kernel)).trans hq18))))))
  have qq19 : ad24 59 0 = q19 := ((hT24.1 59 0 (show 0 < lk LM22 59 by decide +kernel)).trans ((hT23.1 59 0 (show 0 < lk LM21 59 by decide +kernel)).trans ((hT22.1 59 0 (show 0 < lk LM20 59 by decide +kernel)).trans ((hT21.1 59 0 (show 0 < lk LM19 59 by decide +kernel)).trans ((hT20.1 59 0 (show 0 < lk LM18 59 by decide +kernel)).trans hq19)))))
  have qq20 : ad24 60 0 = q20 := ((hT24.1 60 0 (show 0 < lk LM22 60 by decide +kernel)).trans ((hT23.1 60 0 (show 0 < lk LM21 60 by decide +kernel)).trans ((hT22.1 60 0 (show 0 < lk LM20 60 by decide +kernel)).trans ((hT21.1 60 0 (show 0 < lk LM19 60 by decide +kernel)).trans hq20))))
  have qq21 : ad24 61 0 = q21 := ((hT24.1 61 0 (show 0 < lk LM22 61 by decide +kernel)).trans ((hT23.1 61 0 (show 0 < lk LM21 61 by decide +kernel)).trans ((hT22.1 61 0 (show 0 < lk LM20 61 by decide +kernel)).trans hq21)))
  have qq22 : ad24 62 0 = q22 := ((hT24.1 62 0 (show 0 < lk LM22 62 by decide +kernel)).trans ((hT23.1 62 0 (show 0 < lk LM21 62 by decide +kernel)).trans hq22))
  have qq23 : ad24 63 0 = q23 := ((hT24.1 63 0 (show 0 < lk LM22 63 by decide +kernel)).trans hq23)
  have qq24 : ad24 64 0 = q24 := hq24
  obtain ⟨hX1, hfr⟩ := xx_sealn (κ := 11) (n0 := 0) (w' := (sI (sI (wB 4) 11 0 21 (-1)) 11 0 23 (-1))) (cnt := (lk LM23)) rfl hG hO hX (by
      rw [xcell_o (by decide)]
      generalize hwv : (sI (sI (wB 4) 11 0 21 (-1)) 11 0 23 (-1)) = wv
      generalize hav : adup ad24 11 0 a = av
      refine congrArg (fun z => Sum.inr (11, z)) ?_
      rw [xfs_R]
      show ([.ref q1, .int 0, .int 0, .ref q2, .ref q3, .ref q4, .ref q5, .ref q6, .int 0, .int 0, .int 0, .int 0, .int 0, .int 0, .int 0, .ref q7, .int 0, .ref q8, .int 0, .ref q9, .ref q10, .int (-1), .int 0, .int (-1), .ref q11, .ref q12, .int 0, .ref q13, .ref q14, .ref q15, .ref q16, .int 0, .int 0, .int 0, .ref q17, .ref q18, .ref q19, .ref q20, .long 0, .ref q21, .ref q22, .ref q23, .ref q24] : List Value) = [.ref (av 41 0), .int (gI wv 11 0 1), .int (gI wv 11 0 2), .ref (av 42 0), .ref (av 43 0), .ref (av 44 0), .ref (av 45 0), .ref (av 46 0), .int (gI wv 11 0 8), .int (gI wv 11 0 9), .int (gI wv 11 0 10), .int (gI wv 11 0 11), .int (gI wv 11 0 12), .int (gI wv 11 0 13), .int (gI wv 11 0 14), .ref (av 47 0), .int (gI wv 11 0 16), .ref (av 48 0), .int (gI wv 11 0 18), .ref (av 49 0), .ref (av 50 0), .int (gI wv 11 0 21), .int (gI wv 11 0 22), .int (gI wv 11 0 23), .ref (av 51 0), .ref (av 52 0), .int (gI wv 11 0 26), .ref (av 53 0), .ref (av 54 0), .ref (av 55 0), .ref (av 56 0), .int (gI wv 11 0 31), .int (gI wv 11 0 32), .int (gI wv 11 0 33), .ref (av 57 0), .ref (av 58 0), .ref (av 59 0), .ref (av 60 0), .long (gJ wv 11 0 38), .ref (av 61 0), .ref (av 62 0), .ref (av 63 0), .ref (av 64 0)]
      have ev1 : av 41 0 = q1 := by rw [← hav]; exact (adup_ne (fun h => absurd h.1 (by decide))).trans qq1
      have ev2 : av 42 0 = q2 := by rw [← hav]; exact (adup_ne (fun h => absurd h.1 (by decide))).trans qq2
      have ev3 : av 43 0 = q3 := by rw [← hav]; exact (adup_ne (fun h => absurd h.1 (by decide))).trans qq3
      have ev4 : av 44 0 = q4 := by rw [← hav]; exact (adup_ne (fun h => absurd h.1 (by decide))).trans qq4
      have ev5 : av 45 0 = q5 := by rw [← hav]; exact (adup_ne (fun h => absurd h.1 (by decide))).trans qq5
      have ev6 : av 46 0 = q6 := by rw [← hav]; exact (adup_ne (fun h => absurd h.1 (by decide))).trans qq6
      have ev7 : av 47 0 = q7 := by rw [← hav]; exact (adup_ne (fun h => absurd h.1 (by decide))).trans qq7
      have ev8 : av 48 0 = q8 := by rw [← hav]; exact (adup_ne (fun h => absurd h.1 (by decide))).trans qq8
      have ev9 : av 49 0 = q9 := by rw [← hav]; exact (adup_ne (fun h => absurd h.1 (by decide))).trans qq9
      have ev10 : av 50 0 = q10 := by rw [← hav]; exact (adup_ne (fun h => absurd h.1 (by decide))).trans qq10
      have ev11 : av 51 0 = q11 := by rw [← hav]; exact (adup_ne (fun h => absurd h.1 (by decide))).trans qq11
      have ev12 : av 52 0 = q12 := by rw [← hav]; exact (adup_ne (fun h => absurd h.1 (by decide))).trans qq12
      have ev13 : av 53 0 = q13 := by rw [← hav]; exact (adup_ne (fun h => absurd h.1 (by decide))).trans qq13
      have ev14 : av 54 0 = q14 := by rw [← hav]; exact (adup_ne (fun h => absurd h.1 (by decide))).trans qq14
      have ev15 : av 55 0 = q15 := by rw [← hav]; exact (adup_ne (fun h => absurd h.1 (by decide))).trans qq15
      have ev16 : av 56 0 = q16 := by rw [← hav]; exact (adup_ne (fun h => absurd h.1 (by decide))).trans qq16
      have ev17 : av 57 0 = q17 := by rw [← hav]; exact (adup_ne (fun h => absurd h.1 (by decide))).trans qq17
      have ev18 : av 58 0 = q18 := by rw [← hav]; exact (adup_ne (fun h => absurd h.1 (by decide))).trans qq18
      have ev19 : av 59 0 = q19 := by rw [← hav]; exact (adup_ne (fun h => absurd h.1 (by decide))).trans qq19
      have ev20 : av 60 0 = q20 := by rw [← hav]; exact (adup_ne (fun h => absurd h.1 (by decide))).trans qq20
      have ev21 : av 61 0 = q21 := by rw [← hav]; exact (adup_ne (fun h => absurd h.1 (by decide))).trans qq21
      have ev22 : av 62 0 = q22 := by rw [← hav]; exact (adup_ne (fun h => absurd h.1 (by decide))).trans qq22
      have ev23 : av 63 0 = q23 := by rw [← hav]; exact (adup_ne (fun h => absurd h.1 (by decide))).trans qq23
      have ev24 : av 64 0 = q24 := by rw [← hav]; exact (adup_ne (fun h => absurd h.1 (by decide))).trans qq24
      have hI1 : gI wv 11 0 1 = 0 := by rw [← hwv]; rfl
      have hI2 : gI wv 11 0 2 = 0 := by rw [← hwv]; rfl
      have hI8 : gI wv 11 0 8 = 0 := by rw [← hwv]; rfl
      have hI9 : gI wv 11 0 9 = 0 := by rw [← hwv]; rfl
      have hI10 : gI wv 11 0 10 = 0 := by rw [← hwv]; rfl
      have hI11 : gI wv 11 0 11 = 0 := by rw [← hwv]; rfl
      have hI12 : gI wv 11 0 12 = 0 := by rw [← hwv]; rfl
      have hI13 : gI wv 11 0 13 = 0 := by rw [← hwv]; rfl
      have hI14 : gI wv 11 0 14 = 0 := by rw [← hwv]; rfl
      have hI16 : gI wv 11 0 16 = 0 := by rw [← hwv]; rfl
      have hI18 : gI wv 11 0 18 = 0 := by rw [← hwv]; rfl
      have hI21 : gI wv 11 0 21 = (-1) := by rw [← hwv]; rfl
      have hI22 : gI wv 11 0 22 = 0 := by rw [← hwv]; rfl
      have hI23 : gI wv 11 0 23 = (-1) := by rw [← hwv]; rfl
      have hI26 : gI wv 11 0 26 = 0 := by rw [← hwv]; rfl
      have hI31 : gI wv 11 0 31 = 0 := by rw [← hwv]; rfl
      have hI32 : gI wv 11 0 32 = 0 := by rw [← hwv]; rfl
      have hI33 : gI wv 11 0 33 = 0 := by rw [← hwv]; rfl
      have hJ38 : gJ wv 11 0 38 = 0 := by rw [← hwv]; rfl
      simp only [ev1, ev2, ev3, ev4, ev5, ev6, ev7, ev8, ev9, ev10, ev11, ev12, ev13, ev14, ev15, ev16, ev17, ev18, ev19, ev20, ev21, ev22, ev23, ev24, hI1, hI2, hI8, hI9, hI10, hI11, hI12, hI13, hI14, hI16, hI18, hI21, hI22, hI23, hI26, hI31, hI32, hI33, hJ38, Option.map_some, Option.map_none]
      try rfl) (fun κ' i' h => by
        have hne : ¬ (κ' = 11 ∧ i' = 0) := fun z => by rw [z.1, z.2] at h; exact absurd h (by decide)
        exact ⟨by rw [gI_sI_ne hne, gI_sI_ne hne], by simp only [gJ_sI], by simp only [gR_sI], by simp only [gZ_sI]⟩)
  have hG1 : XG (adup ad24 11 0 a) (cup (lk LM23) 11) := xg_cup (κ := 11) (q := a) (cnt := (lk LM23)) hG (by decide) hfr (fun k c0 h1 h2 => by
    have hm : c0 ∈ ((xcl[11]?).getD []) := List.mem_of_getElem? (xfc_at h1)
    have hall : ∀ c0 ∈ ((xcl[11]?).getD []), c0.1 = 3 → xser c0.2.2.1 c0.2.2.2 0 < (lk LM24) c0.2.1 := by decide +kernel
    rw [cup_lk (k := 11) (v := 0) rfl rfl]
    exact hall c0 hm h2)
  have hO1 : XD (cup (lk LM23) 11) (sI (sI (wB 4) 11 0 21 (-1)) 11 0 23 (-1)) := xd_cup hO (fun κ' i' h => by
      have hne : ¬ (κ' = 11 ∧ i' = 0) := fun z => by rw [z.1, z.2] at h; exact absurd h (by decide)
      simp only [gR_sI]) (fun k c0 j h1 h2 h3 => by
      exact absurd (show (none : Option Nat) = some j from h3) (fun h => by cases h)) (fun a0 k j h1 h2 h3 => by
      exact absurd h1 (by unfold xac; rw [if_pos (by decide)]; exact fun h => by cases h))
  have hT25 : XT0 ad24 (lk LM23) (adup ad24 11 0 a) := xt0_up (cnt := (lk LM23)) (κ := 11) (by decide)
  have hq25 : adup ad24 11 0 a 11 0 = a := adup_self
  rw [cup_lk (k := 11) (v := 0) rfl rfl] at hX1 hG1 hO1
  generalize had25 : adup ad24 11 0 a = ad25 at hX1 hG1 hO1 hT25 hq25
  have hX : XX D A ad25 cy (lk LM24) Y (sI (sI (wB 4) 11 0 21 (-1)) 11 0 23 (-1)) H := hX1
  have hG : XG ad25 (lk LM24) := hG1
  have hO : XD (lk LM24) (sI (sI (wB 4) 11 0 21 (-1)) 11 0 23 (-1)) := hO1
  have hTF : XT0 ad (lk LM25) ad25 := (xt0_tr (lk_le (by decide +kernel)) (xt0_tr (lk_le (by decide +kernel)) (xt0_tr (lk_le (by decide +kernel)) (xt0_tr (lk_le (by decide +kernel)) (xt0_tr (lk_le (by decide +kernel)) (xt0_tr (lk_le (by decide +kernel)) (xt0_tr (lk_le (by decide +kernel)) (xt0_tr (lk_le (by decide +kernel)) (xt0_tr (lk_le (by decide +kernel)) (xt0_tr (lk_le (by decide +kernel)) (xt0_tr (lk_le (by decide +kernel)) (xt0_tr (lk_le (by decide +kernel)) (xt0_tr (lk_le (by decide +kernel)) (xt0_tr (lk_le (by decide +kernel)) (xt0_tr (lk_le (by decide +kernel)) (xt0_tr (lk_le (by decide +kernel)) (xt0_tr (lk_le (by decide +kernel)) (xt0_tr (lk_le (by decide +kernel)) (xt0_tr (lk_le (by decide +kernel)) (xt0_tr (lk_le (by decide +kernel)) (xt0_tr (lk_le (by decide +kernel)) (xt0_tr (lk_le (by decide +kernel)) (xt0_tr (lk_le (by decide +kernel)) (xt0_tr (lk_le (by decide +kernel)) hT1 hT2) hT3) hT4) hT5) hT6) hT7) hT8) hT9) hT10) hT11) hT12) hT13) hT14) hT15) hT16) hT17) hT18) hT19) hT20) hT21) hT22) hT23) hT24) hT25)
  exact W.vret hx hb hr (fun t ht hW => ⟨⟨rfl, _, hTF, hq25, by rw [ht]; exact hX, hO, hG⟩, hS.F ht⟩) hS.2.2 dX12_init_210
