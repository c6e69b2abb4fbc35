/-! ===== the law's start: strings, statics, classes ===== -/
def tmS (i : Nat) : Term := match i with
  | 0 => .string "WinterKeep$DaleReader" 28
  | 1 => .string "WinterKeep$RuleReader" 109
  | 2 => .string "WinterKeep$RuleReader" 56
  | 3 => .string "WinterKeep$RuleReader" 75
  | 4 => .string "WinterKeep$RuleReader" 84
  | _ => .string "WinterKeep$RuleReader" 90
def fgv : List Cond := flatC (Jvm.Cond.and given_1 narrow_1)
set_option maxRecDepth 100000 in
theorem fg_ex : ∀ i : Fin 6, Cond.exactly (tmS i.val) "java/lang/String" ∈ fgv := by decide +kernel
set_option maxRecDepth 100000 in
theorem fg_co : ∀ i : Fin 6, Cond.eq (.field (tmS i.val) "java/lang/String" "coder" "B") (.int 0) ∈ fgv := by decide +kernel
set_option maxRecDepth 100000 in
theorem fg_ar : ∀ i : Fin 6, Cond.arrayOf (.field (tmS i.val) "java/lang/String" "value" "[B") .byte ∈ fgv := by decide +kernel
set_option maxRecDepth 100000 in
theorem fg_le : ∀ i : Fin 6, Cond.eq (.length (.field (tmS i.val) "java/lang/String" "value" "[B")) (.int (Int32.ofNat (xsln.getD i.val 0))) ∈ fgv := by decide +kernel
set_option maxRecDepth 100000 in
theorem fg_el : ∀ i : Fin 6, ∀ j : Fin 65, j.val < xsln.getD i.val 0 → Cond.eq (.elem (.field (tmS i.val) "java/lang/String" "value" "[B") (.int (Int32.ofNat j.val))) (.int ((xsby.getD i.val []).getD j.val 0)) ∈ fgv := by decide +kernel
set_option maxRecDepth 100000 in
theorem fg_ne : ∀ i j : Fin 6, i ≠ j → Cond.not (Cond.eq (tmS i.val) (tmS j.val)) ∈ fgv ∨ Cond.not (Cond.eq (tmS j.val) (tmS i.val)) ∈ fgv := by decide +kernel
set_option maxRecDepth 100000 in
theorem fg_cs : Cond.eq (.static "java/lang/String" "COMPACT_STRINGS" "Z") (.int 1) ∈ fgv := by decide +kernel
set_option maxRecDepth 100000 in
theorem fg_si : Cond.isRef (.static "jdk/internal/util/Preconditions" "SIOOBE_FORMATTER" "Ljava/util/function/BiFunction;") ∈ fgv := by decide +kernel
theorem xs_ln : ∀ i : Fin 6, xsln.getD i.val 0 ≤ 65 := by decide
theorem xnest_t : ∀ q ∈ xnest, Cond.methodLinkNest q.1 q.2.1 q.2.2 "WinterKeep" ∈ tables_1 := by decide +kernel
theorem xstr_t : ∀ k q, xstr[k]? = some q → Cond.stringRef q.1 q.2.1 q.2.2 ∈ tables_1 ∧ k < 6 ∧ tmS k = .string q.1 q.2.1 := by
  intro k q h
  match k, h with
  | 0, h => cases h; exact ⟨List.mem_of_getElem? (i := 403) (by decide +kernel), by decide, rfl⟩
  | 1, h => cases h; exact ⟨List.mem_of_getElem? (i := 530) (by decide +kernel), by decide, rfl⟩
  | 2, h => cases h; exact ⟨List.mem_of_getElem? (i := 518) (by decide +kernel), by decide, rfl⟩
  | 3, h => cases h; exact ⟨List.mem_of_getElem? (i := 544) (by decide +kernel), by decide, rfl⟩
  | 4, h => cases h; exact ⟨List.mem_of_getElem? (i := 559) (by decide +kernel), by decide, rfl⟩
  | 5, h => cases h; exact ⟨List.mem_of_getElem? (i := 554) (by decide +kernel), by decide, rfl⟩
  | k + 6, h => simp [xstr] at h
theorem st_XZ {s : State} {args : Array Value} (hgv : (Jvm.Cond.and given_1 narrow_1).before args s = true) (hts : ∀ w ∈ lw_tbl, w.before args s = true) : ∃ ad : Nat → Nat → Nat, XZ (fun q : Nat => s.heap.size ≤ q) ad s := by
  have hs := flat_of_before _ hgv
  have hA : ∀ a : Nat, a < s.heap.size → ¬ (fun q : Nat => s.heap.size ≤ q) a := fun a h => Nat.not_le.mpr h
  have htb : ∀ w ∈ tables_1, w.before args s = true := fun w h => hts w (List.mem_append_right _ h)
  obtain ⟨adK, adV, h1, h2⟩ := vk_Sof (args := args) (s := s) (N := 6) (tm := tmS) (len := xsln) (byt := xsby) (A := fun q : Nat => s.heap.size ≤ q)
    (fun i hi => Nat.lt_of_le_of_lt (xs_ln ⟨i, hi⟩) (by decide)) (fun i hi => hs _ (fg_ex ⟨i, hi⟩)) (fun i hi => hs _ (fg_co ⟨i, hi⟩)) (fun i hi => hs _ (fg_ar ⟨i, hi⟩)) (fun i hi => hs _ (fg_le ⟨i, hi⟩)) (fun i hi j hj => hs _ (fg_el ⟨i, hi⟩ ⟨j, Nat.lt_of_lt_of_le hj (xs_ln ⟨i, hi⟩)⟩ hj)) (fun i j hi hj hne => by
      rcases fg_ne ⟨i, hi⟩ ⟨j, hj⟩ (fun z => hne (congrArg Fin.val z)) with z | z
      · exact Or.inl (hs _ z)
      · exact Or.inr (hs _ z)) hA
  refine ⟨fun κ => if κ = 65 then adK else adV, h1, fun k q hq => ?_, va_Zof (htb _ (List.mem_of_getElem? (i := 425) (by decide +kernel))) (htb _ (List.mem_of_getElem? (i := 13) (by decide +kernel))) (va_eqt (hs _ fg_cs)) hA, va_Zqof (htb _ (List.mem_of_getElem? (i := 441) (by decide +kernel))) (htb _ (List.mem_of_getElem? (i := 15) (by decide +kernel))) (hs _ fg_si) hA, fun q hq => va_Nw.of rfl (htb _ (xnest_t q hq))⟩
  obtain ⟨t1, t2, t3⟩ := xstr_t k q hq
  have h3 := h2 k t2
  rw [t3] at h3
  exact vk_R.of (htb _ t1) h3
theorem arr_p {s : State} {args : Array Value} {ty : FieldType} (h : (Cond.arrayClass ty).before args s = true) : ∃ cA, ArrOfT s cA ty ∧ s.vm.findClass ("[" ++ ty.toString) = some cA := by
  obtain ⟨c, k, comp, h1, h2, h3⟩ := Cond.arrayClass_spec (args := args) (first := s) (o := none) (idx := []) h
  exact ⟨c, fun n z => ⟨(fun k h => by cases h), k, h2, comp, h3⟩, h1⟩
theorem arr_o {s : State} {args : Array Value} {C : String} (h : (Cond.arrayOver (.object C)).before args s = true) : ∃ cA, ArrOfT s cA (.object C) ∧ va_RA s cA (.object C) := by
  obtain ⟨comp, c, k, h1, h2, h3, h4, h5⟩ := Cond.arrayOver_spec (args := args) (first := s) (o := none) (idx := []) h
  exact ⟨c, fun n z => ⟨(fun k h => by cases h), k, h3, comp, h4⟩, k, comp, h3, h4, h1, h5⟩
theorem st_K {s : State} {args : Array Value} (hts : ∀ w ∈ lw_tbl, w.before args s = true) : ∃ (D : va_G) (cy : Nat → ClassId), va_K D vwCl (xty cy) s := by
  have htb : ∀ w ∈ tables_1, w.before args s = true := fun w h => hts w (List.mem_append_right _ h)
  obtain ⟨c0, i0, k0⟩ := u_known (C := RX0) (T := TX0) (N := 1) (n := 1) htb xw_0 (htb (.instantiable RX0 1) (List.mem_of_getElem? (i := 249) (by decide +kernel)))
  obtain ⟨c1, i1, k1⟩ := u_known (C := RX1) (T := TX1) (N := 12) (n := 12) htb xw_1 (htb (.instantiable RX1 12) (List.mem_of_getElem? (i := 89) (by decide +kernel)))
  obtain ⟨c2, i2, k2⟩ := u_known (C := RX3) (T := TX3) (N := 6) (n := 6) htb xw_2 (htb (.instantiable RX3 6) (List.mem_of_getElem? (i := 282) (by decide +kernel)))
  obtain ⟨c3, i3, k3⟩ := u_known (C := RX4) (T := TX4) (N := 7) (n := 7) htb xw_3 (htb (.instantiable RX4 7) (List.mem_of_getElem? (i := 210) (by decide +kernel)))
  obtain ⟨c4, i4, k4⟩ := u_known (C := RX5) (T := TX5) (N := 4) (n := 4) htb xw_4 (htb (.instantiable RX5 4) (List.mem_of_getElem? (i := 260) (by decide +kernel)))
  obtain ⟨c5, i5, k5⟩ := u_known (C := RX6) (T := TX6) (N := 1) (n := 1) htb xw_5 (htb (.instantiable RX6 1) (List.mem_of_getElem? (i := 239) (by decide +kernel)))
  obtain ⟨c6, i6, k6⟩ := u_known (C := RX7) (T := TX7) (N := 3) (n := 3) htb xw_6 (htb (.instantiable RX7 3) (List.mem_of_getElem? (i := 565) (by decide +kernel)))
  obtain ⟨c7, i7, k7⟩ := u_known (C := RX8) (T := TX8) (N := 5) (n := 5) htb xw_7 (htb (.instantiable RX8 5) (List.mem_of_getElem? (i := 65) (by decide +kernel)))
  obtain ⟨c8, i8, k8⟩ := u_known (C := RX9) (T := TX9) (N := 6) (n := 6) htb xw_8 (htb (.instantiable RX9 6) (List.mem_of_getElem? (i := 168) (by decide +kernel)))
  obtain ⟨c9, i9, k9⟩ := u_known (C := RX10) (T := TX10) (N := 6) (n := 6) htb xw_9 (htb (.instantiable RX10 6) (List.mem_of_getElem? (i := 31) (by decide +kernel)))
  obtain ⟨c10, i10, k10⟩ := u_known (C := RX11) (T := TX11) (N := 20) (n := 20) htb xw_10 (htb (.instantiable RX11 20) (List.mem_of_getElem? (i := 23) (by decide +kernel)))
  obtain ⟨c11, i11, k11⟩ := u_known (C := RX12) (T := TX12) (N := 43) (n := 43) htb xw_11 (htb (.instantiable RX12 43) (List.mem_of_getElem? (i := 955) (by decide +kernel)))
  obtain ⟨a0, p0, q0⟩ := arr_p (htb (.arrayClass .int) (List.mem_of_getElem? (i := 63) (by decide +kernel)))
  obtain ⟨a1, p1, q1⟩ := arr_p (htb (.arrayClass .byte) (List.mem_of_getElem? (i := 504) (by decide +kernel)))
  obtain ⟨a2, p2, q2⟩ := arr_p (htb (.arrayClass .boolean) (List.mem_of_getElem? (i := 1090) (by decide +kernel)))
  obtain ⟨a3, p3, q3⟩ := arr_p (htb (.arrayClass .long) (List.mem_of_getElem? (i := 237) (by decide +kernel)))
  obtain ⟨a4, p4, q4⟩ := arr_o (htb (.arrayOver (.object RX3)) (List.mem_of_getElem? (i := 280) (by decide +kernel)))
  obtain ⟨a5, p5, q5⟩ := arr_o (htb (.arrayOver (.object RX7)) (List.mem_of_getElem? (i := 87) (by decide +kernel)))
  obtain ⟨a6, p6, q6⟩ := arr_o (htb (.arrayOver (.object RX9)) (List.mem_of_getElem? (i := 281) (by decide +kernel)))
  refine ⟨(fun k => [c0, c1, c2, c3, c4, c5, c6, c7, c8, c9, c10, c11].getD k c0, fun k => [i0, i1, i2, i3, i4, i5, i6, i7, i8, i9, i10, i11].getD k i0), fun k => [a0, a1, a2, a3, a4, a5, a6].getD k a0, fun k q hq => ?_, fun k q hq => ?_⟩
  · match k, hq with
    | 0, hq => cases hq; exact k0
    | 1, hq => cases hq; exact k1
    | 2, hq => cases hq; exact k2
    | 3, hq => cases hq; exact k3
    | 4, hq => cases hq; exact k4
    | 5, hq => cases hq; exact k5
    | 6, hq => cases hq; exact k6
    | 7, hq => cases hq; exact k7
    | 8, hq => cases hq; exact k8
    | 9, hq => cases hq; exact k9
    | 10, hq => cases hq; exact k10
    | 11, hq => cases hq; exact k11
    | k + 12, hq => simp [vwCl] at hq
  · match k, hq with
    | 0, hq => cases hq; exact ⟨p0, q0⟩
    | 1, hq => cases hq; exact ⟨p1, q1⟩
    | 2, hq => cases hq; exact ⟨p2, q2⟩
    | 3, hq => cases hq; exact ⟨p3, q3⟩
    | 4, hq => cases hq; exact ⟨p4, q4⟩
    | 5, hq => cases hq; exact ⟨p5, q5⟩
    | 6, hq => cases hq; exact ⟨p6, q6⟩
    | k + 7, hq => simp [xty] at hq
