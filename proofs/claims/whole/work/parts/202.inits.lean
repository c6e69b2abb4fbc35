theorem xx_sealn {D : va_G} {A : Nat → Prop} {ad : Nat → Nat → Nat} {cy : Nat → ClassId} {cnt : Nat → Nat} {Y : va_W} {w w' : XW} {H : Heap} {κ n0 a : Nat} {e : va_E} (hn : cnt κ = n0) (hG : XG ad cnt) (hO : XD cnt w) (h : XX D A ad cy cnt ((a, e) :: Y) w H)
    (he : e = xcell (adup ad κ n0 a) cy w' κ n0) (hw : ∀ κ' i', i' < cnt κ' → gI w' κ' i' = gI w κ' i' ∧ gJ w' κ' i' = gJ w κ' i' ∧ gR w' κ' i' = gR w κ' i' ∧ gZ w' κ' i' = gZ w κ' i') :
    XX D A (adup ad κ n0 a) cy (cup cnt κ) Y w' H ∧ ∀ κ' i', κ' < 65 → i' < cnt κ' → ad κ' i' ≠ a := by
  subst hn
  exact xx_seal hG hO h he hw
theorem wobj : Cond.code Lib.objectInit ⟨#[0xb1]⟩ 1 none ∈ lw_ok := lw_okt 29 (by decide +kernel) (by decide +kernel)
theorem wt_28 : (Jvm.Cond.instanceMethod ({ cls := "java/lang/Object", name := "<init>", desc := "()V" } : Jvm.MethodName)) ∈ lw_ok := lw_okt 28 (by decide +kernel) (by decide +kernel)
theorem wt_35 : (Jvm.Cond.methodLink "WinterKeep$Tape" (3 : Nat) ({ cls := "java/lang/Object", name := "<init>", desc := "()V" } : Jvm.MethodName)) ∈ lw_ok := lw_okt 35 (by decide +kernel) (by decide +kernel)
theorem wt_63 : (Jvm.Cond.arrayClass Jvm.ClassFile.FieldType.int) ∈ lw_ok := lw_okt 63 (by decide +kernel) (by decide +kernel)
theorem wt_69 : (Jvm.Cond.methodLink "WinterKeep$RuleReader" (3 : Nat) ({ cls := "java/lang/Object", name := "<init>", desc := "()V" } : Jvm.MethodName)) ∈ lw_ok := lw_okt 69 (by decide +kernel) (by decide +kernel)
theorem wt_93 : (Jvm.Cond.methodLink "WinterKeep$Dale" (3 : Nat) ({ cls := "java/lang/Object", name := "<init>", desc := "()V" } : Jvm.MethodName)) ∈ lw_ok := lw_okt 93 (by decide +kernel) (by decide +kernel)
theorem wt_94 : (Jvm.Cond.fieldLink "WinterKeep$Dale" (9 : Nat) "WinterKeep$Dale" "isTold" "Z") ∈ lw_ok := lw_okt 94 (by decide +kernel) (by decide +kernel)
theorem wt_97 : (Jvm.Cond.fieldLink "WinterKeep$Dale" (15 : Nat) "WinterKeep$Dale" "leak" "I") ∈ lw_ok := lw_okt 97 (by decide +kernel) (by decide +kernel)
theorem wt_101 : (Jvm.Cond.fieldLink "WinterKeep$Dale" (19 : Nat) "WinterKeep$Dale" "hot" "I") ∈ lw_ok := lw_okt 101 (by decide +kernel) (by decide +kernel)
theorem wt_105 : (Jvm.Cond.fieldLink "WinterKeep$Dale" (22 : Nat) "WinterKeep$Dale" "keeps" "I") ∈ lw_ok := lw_okt 105 (by decide +kernel) (by decide +kernel)
theorem wt_115 : (Jvm.Cond.fieldLink "WinterKeep$Dale" (28 : Nat) "WinterKeep$Dale" "fields" "I") ∈ lw_ok := lw_okt 115 (by decide +kernel) (by decide +kernel)
theorem wt_119 : (Jvm.Cond.fieldLink "WinterKeep$Dale" (31 : Nat) "WinterKeep$Dale" "room" "[I") ∈ lw_ok := lw_okt 119 (by decide +kernel) (by decide +kernel)
theorem wt_123 : (Jvm.Cond.fieldLink "WinterKeep$Dale" (35 : Nat) "WinterKeep$Dale" "cools" "[I") ∈ lw_ok := lw_okt 123 (by decide +kernel) (by decide +kernel)
theorem wt_127 : (Jvm.Cond.fieldLink "WinterKeep$Dale" (38 : Nat) "WinterKeep$Dale" "beside" "[I") ∈ lw_ok := lw_okt 127 (by decide +kernel) (by decide +kernel)
theorem wt_134 : (Jvm.Cond.fieldLink "WinterKeep$Dale" (44 : Nat) "WinterKeep$Dale" "tells" "[I") ∈ lw_ok := lw_okt 134 (by decide +kernel) (by decide +kernel)
theorem wt_138 : (Jvm.Cond.fieldLink "WinterKeep$Dale" (47 : Nat) "WinterKeep$Dale" "crows" "[I") ∈ lw_ok := lw_okt 138 (by decide +kernel) (by decide +kernel)
theorem wt_172 : (Jvm.Cond.methodLink "WinterKeep$Scene" (3 : Nat) ({ cls := "java/lang/Object", name := "<init>", desc := "()V" } : Jvm.MethodName)) ∈ lw_ok := lw_okt 172 (by decide +kernel) (by decide +kernel)
theorem wt_214 : (Jvm.Cond.methodLink "WinterKeep$Nights" (3 : Nat) ({ cls := "java/lang/Object", name := "<init>", desc := "()V" } : Jvm.MethodName)) ∈ lw_ok := lw_okt 214 (by decide +kernel) (by decide +kernel)
theorem wt_237 : (Jvm.Cond.arrayClass Jvm.ClassFile.FieldType.long) ∈ lw_ok := lw_okt 237 (by decide +kernel) (by decide +kernel)
theorem wt_243 : (Jvm.Cond.methodLink "WinterKeep$Placings" (3 : Nat) ({ cls := "java/lang/Object", name := "<init>", desc := "()V" } : Jvm.MethodName)) ∈ lw_ok := lw_okt 243 (by decide +kernel) (by decide +kernel)
theorem wt_253 : (Jvm.Cond.methodLink "WinterKeep$Benches" (3 : Nat) ({ cls := "java/lang/Object", name := "<init>", desc := "()V" } : Jvm.MethodName)) ∈ lw_ok := lw_okt 253 (by decide +kernel) (by decide +kernel)
theorem wt_264 : (Jvm.Cond.methodLink "WinterKeep$Notes" (3 : Nat) ({ cls := "java/lang/Object", name := "<init>", desc := "()V" } : Jvm.MethodName)) ∈ lw_ok := lw_okt 264 (by decide +kernel) (by decide +kernel)
theorem wt_504 : (Jvm.Cond.arrayClass Jvm.ClassFile.FieldType.byte) ∈ lw_ok := lw_okt 504 (by decide +kernel) (by decide +kernel)
theorem wt_959 : (Jvm.Cond.methodLink "WinterKeepModel" (1 : Nat) ({ cls := "java/lang/Object", name := "<init>", desc := "()V" } : Jvm.MethodName)) ∈ lw_ok := lw_okt 959 (by decide +kernel) (by decide +kernel)
theorem wt_1090 : (Jvm.Cond.arrayClass Jvm.ClassFile.FieldType.boolean) ∈ lw_ok := lw_okt 1090 (by decide +kernel) (by decide +kernel)
theorem dX9_init_0 : decode cX9_init 0 = .ok (.aload_n 0, 1) := by decide +kernel
theorem dX9_init_1 : decode cX9_init 1 = .ok (.invokespecial 3, 3) := by decide +kernel
theorem dX9_init_4 : decode cX9_init 4 = .ok (.aload_n 0, 1) := by decide +kernel
theorem dX9_init_5 : decode cX9_init 5 = .ok (.iconst 0, 1) := by decide +kernel
theorem dX9_init_6 : decode cX9_init 6 = .ok (.putfield 9, 3) := by decide +kernel
theorem dX9_init_9 : decode cX9_init 9 = .ok (.aload_n 0, 1) := by decide +kernel
theorem dX9_init_10 : decode cX9_init 10 = .ok (.iconst 0, 1) := by decide +kernel
theorem dX9_init_11 : decode cX9_init 11 = .ok (.putfield 15, 3) := by decide +kernel
theorem dX9_init_14 : decode cX9_init 14 = .ok (.aload_n 0, 1) := by decide +kernel
theorem dX9_init_15 : decode cX9_init 15 = .ok (.bipush 6, 2) := by decide +kernel
theorem dX9_init_17 : decode cX9_init 17 = .ok (.newarray .int, 2) := by decide +kernel
theorem dX9_init_19 : decode cX9_init 19 = .ok (.putfield 18, 3) := by decide +kernel
theorem dX9_init_22 : decode cX9_init 22 = .ok (.aload_n 0, 1) := by decide +kernel
theorem dX9_init_23 : decode cX9_init 23 = .ok (.bipush 6, 2) := by decide +kernel
theorem dX9_init_25 : decode cX9_init 25 = .ok (.newarray .int, 2) := by decide +kernel
theorem dX9_init_27 : decode cX9_init 27 = .ok (.putfield 22, 3) := by decide +kernel
theorem dX9_init_30 : decode cX9_init 30 = .ok (.aload_n 0, 1) := by decide +kernel
theorem dX9_init_31 : decode cX9_init 31 = .ok (.bipush 6, 2) := by decide +kernel
theorem dX9_init_33 : decode cX9_init 33 = .ok (.newarray .int, 2) := by decide +kernel
theorem dX9_init_35 : decode cX9_init 35 = .ok (.putfield 25, 3) := by decide +kernel
theorem dX9_init_38 : decode cX9_init 38 = .ok (.aload_n 0, 1) := by decide +kernel
theorem dX9_init_39 : decode cX9_init 39 = .ok (.bipush 6, 2) := by decide +kernel
theorem dX9_init_41 : decode cX9_init 41 = .ok (.newarray .int, 2) := by decide +kernel
theorem dX9_init_43 : decode cX9_init 43 = .ok (.putfield 28, 3) := by decide +kernel
theorem dX9_init_46 : decode cX9_init 46 = .ok (.return_, 1) := by decide +kernel
set_option maxRecDepth 100000 in
set_option maxHeartbeats 4000000 in
theorem i_X9_init (l : Launch) (D : va_G) (A : Nat → Prop) (ad : Nat → Nat → Nat) (cy : Nat → ClassId) (cnt : Nat → Nat) (Y : va_W) (w : XW) (a : Nat) (hc30 : cnt 30 = (cnt 8)) (hc31 : cnt 31 = (cnt 8)) (hc32 : cnt 32 = (cnt 8)) (hc33 : cnt 33 = (cnt 8)) : Met l yX9_init (.code yX9_init cX9_init 1 none :: lw_ok) { frames := 1, cells := 4, slots := 24, locals := 12 } (va_Pc [.ref a] (XIp D A ad cy cnt Y w a 8 [.int 0, .int 0, .null, .null, .null, .null])) (XIq D A ad cy cnt Y a 8 (cnt 8) (cup (cup (cup (cup (cup cnt 30) 31) 32) 33) 8) (wz (wz (wz (wz (wz w 30 (cnt 8)) 31 (cnt 8)) 32 (cnt 8)) 33 (cnt 8)) 8 (cnt 8))) 4 24 A := by
  refine Met.ofW (cc := cX9_init) (maxL := 1) (ret := none) (by decide) rfl ?_
  intro p e s m args below meth c s₁ B hml hv
  obtain ⟨rfl, hA, hX, hO, hK, hG, hZ⟩ := hv
  have hx := B.exec
  have hb := B.bytes
  have hr := B.returns
  have hts := atoms_spec (ws := .code yX9_init cX9_init 1 none :: lw_ok) B.pre
  have hin : ∀ w ∈ lw_ok, w ∈ (Cond.code yX9_init cX9_init 1 none :: lw_ok) := fun w h => List.mem_cons_of_mem _ h
  have hown : s.vm.findClass RX9 = some m.cls := findClass_of_methodNamed B.named
  have hlocks := B.notSynchronized
  have hin2 : meth.name = "<init>" := (name_of_methodNamed B.named B.method).1
  have hS : va_S A s.heap s.heap [] := va_S.rf
  have hl := lv_entry ([.ref a]) (n := 1) (Nat.le_of_ble_eq_true rfl)
  rw [lg_entry_eq]
  generalize (lg_sl ([.ref a]) ++ List.replicate (1 - (lg_sl ([.ref a])).length) Slot.unset).toArray = ls at hl ⊢
  have hl : lv_has ls 1 [(0, .ref a)] := hl
  refine lv_aload_n hx hb dX9_init_0 rfl (lv_at hl 0 rfl) ?_
  refine W.objInit hx hb hown (hts _ (hin _ wt_172)) (hts _ (hin _ wt_28)) (hts _ (hin _ wobj)) rfl (by rw [hml]; exact hl.1) rfl dX9_init_1 (Nat.le_of_ble_eq_true rfl) (Nat.le_of_ble_eq_true rfl) ?_
  refine W.eq (g2 := F0 m 4 ls []) rfl ?_
  refine lv_aload_n hx hb dX9_init_4 rfl (lv_at hl 0 rfl) ?_
  refine lv_iconst (v := 0) hx hb dX9_init_5 (by decide) ?_
  refine r_put hx hb hts hin xk_8 hown hK hX hS (k := 0) (v := .int 0) (by decide) rfl wt_173 rfl (tyX9_ok 0 (by decide)) rfl rfl (Nat.le_of_ble_eq_true rfl) dX9_init_6 (fun H locs hX hS => ?_)
  have hX : XX D A ad cy cnt ((a, .inr (8, [.int 0, .int 0, .null, .null, .null, .null])) :: Y) w H := hX
  refine lv_aload_n hx hb dX9_init_9 rfl (lv_at hl 0 rfl) ?_
  refine lv_iconst (v := 0) hx hb dX9_init_10 (by decide) ?_
  refine r_put hx hb hts hin xk_8 hown hK hX hS (k := 1) (v := .int 0) (by decide) rfl wt_175 rfl (tyX9_ok 1 (by decide)) rfl rfl (Nat.le_of_ble_eq_true rfl) dX9_init_11 (fun H locs hX hS => ?_)
  have hX : XX D A ad cy cnt ((a, .inr (8, [.int 0, .int 0, .null, .null, .null, .null])) :: Y) w H := hX
  refine lv_aload_n hx hb dX9_init_14 rfl (lv_at hl 0 rfl) ?_
  refine lv_bipush (v := 6) hx hb dX9_init_15 (by decide) ?_
  have hs1 : cnt 30 = (cnt 8) := by simp [cup, va_up, hc30]
  refine r_newaI hx hb (hts _ (hin _ wt_63)) hK hX hG hO hS hA 30 6 (cnt 8) hs1 rfl (by decide) (by decide) (by decide) (by decide) (Nat.le_of_ble_eq_true rfl) (Nat.le_of_ble_eq_true rfl) dX9_init_17 (fun q1 ad1 H hT1 hq1 hX hG hO hS => ?_)
  refine r_putF hx hb hts hin xk_8 hown hK hX hS (k := 2) (v := .ref q1) (by decide) rfl wt_179 rfl hin2 rfl (tyX9_ok 2 (by decide)) rfl rfl (Nat.le_of_ble_eq_true rfl) dX9_init_19 (fun H locs hX hS => ?_)
  have hX : XX D A ad1 cy (cup cnt 30) ((a, .inr (8, [.int 0, .int 0, .ref q1, .null, .null, .null])) :: Y) (wz w 30 (cnt 8)) H := hX
  refine lv_aload_n hx hb dX9_init_22 rfl (lv_at hl 0 rfl) ?_
  refine lv_bipush (v := 6) hx hb dX9_init_23 (by decide) ?_
  have hs2 : (cup cnt 30) 31 = (cnt 8) := by simp [cup, va_up, hc31]
  refine r_newaI hx hb (hts _ (hin _ wt_63)) hK hX hG hO hS hA 31 6 (cnt 8) hs2 rfl (by decide) (by decide) (by decide) (by decide) (Nat.le_of_ble_eq_true rfl) (Nat.le_of_ble_eq_true rfl) dX9_init_25 (fun q2 ad2 H hT2 hq2 hX hG hO hS => ?_)
  refine r_putF hx hb hts hin xk_8 hown hK hX hS (k := 3) (v := .ref q2) (by decide) rfl wt_184 rfl hin2 rfl (tyX9_ok 3 (by decide)) rfl rfl (Nat.le_of_ble_eq_true rfl) dX9_init_27 (fun H locs hX hS => ?_)
  have hX : XX D A ad2 cy (cup (cup cnt 30) 31) ((a, .inr (8, [.int 0, .int 0, .ref q1, .ref q2, .null, .null])) :: Y) (wz (wz w 30 (cnt 8)) 31 (cnt 8)) H := hX
  refine lv_aload_n hx hb dX9_init_30 rfl (lv_at hl 0 rfl) ?_
  refine lv_bipush (v := 6) hx hb dX9_init_31 (by decide) ?_
  have hs3 : (cup (cup cnt 30) 31) 32 = (cnt 8) := by simp [cup, va_up, hc32]
  refine r_newaI hx hb (hts _ (hin _ wt_63)) hK hX hG hO hS hA 32 6 (cnt 8) hs3 rfl (by decide) (by decide) (by decide) (by decide) (Nat.le_of_ble_eq_true rfl) (Nat.le_of_ble_eq_true rfl) dX9_init_33 (fun q3 ad3 H hT3 hq3 hX hG hO hS => ?_)
  refine r_putF hx hb hts hin xk_8 hown hK hX hS (k := 4) (v := .ref q3) (by decide) rfl wt_187 rfl hin2 rfl (tyX9_ok 4 (by decide)) rfl rfl (Nat.le_of_ble_eq_true rfl) dX9_init_35 (fun H locs hX hS => ?_)
  have hX : XX D A ad3 cy (cup (cup (cup cnt 30) 31) 32) ((a, .inr (8, [.int 0, .int 0, .ref q1, .ref q2, .ref q3, .null])) :: Y) (wz (wz (wz w 30 (cnt 8)) 31 (cnt 8)) 32 (cnt 8)) H := hX
  refine lv_aload_n hx hb dX9_init_38 rfl (lv_at hl 0 rfl) ?_
  refine lv_bipush (v := 6) hx hb dX9_init_39 (by decide) ?_
  have hs4 : (cup (cup (cup cnt 30) 31) 32) 33 = (cnt 8) := by simp [cup, va_up, hc33]
  refine r_newaI hx hb (hts _ (hin _ wt_63)) hK hX hG hO hS hA 33 6 (cnt 8) hs4 rfl (by decide) (by decide) (by decide) (by decide) (Nat.le_of_ble_eq_true rfl) (Nat.le_of_ble_eq_true rfl) dX9_init_41 (fun q4 ad4 H hT4 hq4 hX hG hO hS => ?_)
  refine r_putF hx hb hts hin xk_8 hown hK hX hS (k := 5) (v := .ref q4) (by decide) rfl wt_192 rfl hin2 rfl (tyX9_ok 5 (by decide)) rfl rfl (Nat.le_of_ble_eq_true rfl) dX9_init_43 (fun H locs hX hS => ?_)
  have hX : XX D A ad4 cy (cup (cup (cup (cup cnt 30) 31) 32) 33) ((a, .inr (8, [.int 0, .int 0, .ref q1, .ref q2, .ref q3, .ref q4])) :: Y) (wz (wz (wz (wz w 30 (cnt 8)) 31 (cnt 8)) 32 (cnt 8)) 33 (cnt 8)) H := hX
  have qq1 : ad4 30 (cnt 8) = q1 := ((hT4.1 30 (cnt 8) (by simp [cup, va_up, hc30, hc31, hc32, hc33])).trans ((hT3.1 30 (cnt 8) (by simp [cup, va_up, hc30, hc31, hc32, hc33])).trans ((hT2.1 30 (cnt 8) (by simp [cup, va_up, hc30, hc31, hc32, hc33])).trans hq1)))
  have qq2 : ad4 31 (cnt 8) = q2 := ((hT4.1 31 (cnt 8) (by simp [cup, va_up, hc30, hc31, hc32, hc33])).trans ((hT3.1 31 (cnt 8) (by simp [cup, va_up, hc30, hc31, hc32, hc33])).trans hq2))
  have qq3 : ad4 32 (cnt 8) = q3 := ((hT4.1 32 (cnt 8) (by simp [cup, va_up, hc30, hc31, hc32, hc33])).trans hq3)
  have qq4 : ad4 33 (cnt 8) = q4 := hq4
  have hs : (cup (cup (cup (cup cnt 30) 31) 32) 33) 8 = (cnt 8) := by simp [cup, va_up]
  obtain ⟨hX1, hfr⟩ := xx_sealn (κ := 8) (n0 := (cnt 8)) (w' := (wz (wz (wz (wz (wz w 30 (cnt 8)) 31 (cnt 8)) 32 (cnt 8)) 33 (cnt 8)) 8 (cnt 8))) hs hG hO hX (by
      rw [xcell_o (by decide)]
      generalize hwv : (wz (wz (wz (wz (wz w 30 (cnt 8)) 31 (cnt 8)) 32 (cnt 8)) 33 (cnt 8)) 8 (cnt 8)) = wv
      generalize hav : adup ad4 8 (cnt 8) a = av
      refine congrArg (fun z => Sum.inr (8, z)) ?_
      show ([.int 0, .int 0, .ref q1, .ref q2, .ref q3, .ref q4] : List Value) = [.int (gI wv 8 (cnt 8) 0), .int (gI wv 8 (cnt 8) 1), .ref (av 30 (cnt 8)), .ref (av 31 (cnt 8)), .ref (av 32 (cnt 8)), .ref (av 33 (cnt 8))]
      have ev1 : av 30 (cnt 8) = q1 := by rw [← hav]; exact (adup_ne (fun h => absurd h.1 (by decide))).trans qq1
      have ev2 : av 31 (cnt 8) = q2 := by rw [← hav]; exact (adup_ne (fun h => absurd h.1 (by decide))).trans qq2
      have ev3 : av 32 (cnt 8) = q3 := by rw [← hav]; exact (adup_ne (fun h => absurd h.1 (by decide))).trans qq3
      have ev4 : av 33 (cnt 8) = q4 := by rw [← hav]; exact (adup_ne (fun h => absurd h.1 (by decide))).trans qq4
      have hI : ∀ k, gI wv 8 (cnt 8) k = 0 := fun k => by rw [← hwv, wz_I]
      have hR : ∀ k, gR wv 8 (cnt 8) k = none := fun k => by rw [← hwv]; first | rw [wz_R] | (simp only [gR_sI]; rw [wz_R])
      have hJ : ∀ k, gJ wv 8 (cnt 8) k = 0 := fun k => by rw [← hwv]; first | rw [wz_J] | (simp only [gJ_sI]; rw [wz_J])
      simp only [hI, hR, hJ, ev1, ev2, ev3, ev4]
      try rfl) (fun κ' i' h => by
        have hne : ¬ (κ' = 8 ∧ i' = (cnt 8)) := fun z => by rw [z.1, z.2, hs] at h; omega
        exact wz_ne hne)
  have hGF : XG (adup ad4 8 (cnt 8) a) (cup (cup (cup (cup (cup cnt 30) 31) 32) 33) 8) := by
    have h9 := xg_cup (κ := 8) (q := a) hG (by decide) hfr (fun k c0 h1 h2 => by
      have hm : c0 ∈ ((xcl[8]?).getD []) := List.mem_of_getElem? (xfc_at h1)
      rw [hs]
      have hall : ∀ c0 ∈ ((xcl[8]?).getD []), c0.1 = 3 → xser c0.2.2.1 c0.2.2.2 (cnt 8) < (cup (cup (cup (cup (cup cnt 30) 31) 32) 33) 8) c0.2.1 := by
        intro c1 hc1 hc3
        have hc2 : c1 ∈ [(0, 0, 0, 0), (0, 0, 0, 0), (3, 30, 0, 0), (3, 31, 0, 0), (3, 32, 0, 0), (3, 33, 0, 0)] := hc1
        simp only [List.mem_cons, List.not_mem_nil, or_false] at hc2
        rcases hc2 with rfl | rfl | rfl | rfl | rfl | rfl <;> first | (exact absurd hc3 (by decide)) | (simp [cup, va_up, xser, hc30, hc31, hc32, hc33]; done) | (simp [cup, va_up, xser, hc30, hc31, hc32, hc33]; omega)
      exact hall c0 hm h2)
    rw [hs] at h9
    exact h9
  have hOF : XD (cup (cup (cup (cup (cup cnt 30) 31) 32) 33) 8) (wz (wz (wz (wz (wz w 30 (cnt 8)) 31 (cnt 8)) 32 (cnt 8)) 33 (cnt 8)) 8 (cnt 8)) := xd_cup hO (fun κ' i' h => by
      have hne : ¬ (κ' = 8 ∧ i' = (cnt 8)) := fun z => by rw [z.1, z.2, hs] at h; omega
      first | exact (wz_ne hne).2.2.1 | (simp only [gR_sI]; exact (wz_ne hne).2.2.1)) (fun k c0 j h1 h2 h3 => by
      rw [hs] at h3
      first | (rw [wz_R] at h3; cases h3) | (simp only [gR_sI] at h3; rw [wz_R] at h3; cases h3)) (fun a0 k j h1 h2 h3 => by
      exact absurd h1 (by unfold xac; rw [if_pos (by decide)]; exact fun h => by cases h))
  have hTF : XT0 ad cnt (adup ad4 8 (cnt 8) a) := (xt0_tr (fun κ => (Nat.le_trans (Nat.le_trans (Nat.le_trans (cup_le _ _ _) (cup_le _ _ _)) (cup_le _ _ _)) (cup_le _ _ _))) (xt0_tr (fun κ => (Nat.le_trans (Nat.le_trans (cup_le _ _ _) (cup_le _ _ _)) (cup_le _ _ _))) (xt0_tr (fun κ => (Nat.le_trans (cup_le _ _ _) (cup_le _ _ _))) (xt0_tr (fun κ => (cup_le _ _ _)) hT1 hT2) hT3) hT4) (hs ▸ xt0_up (cnt := (cup (cup (cup (cup cnt 30) 31) 32) 33)) (κ := 8) (by decide)))
  exact W.vret hx hb hr (fun t ht hW => ⟨⟨rfl, _, hTF, adup_self, by rw [ht]; exact hX1, hOF, hGF⟩, hS.F ht⟩) hS.2.2 dX9_init_46

theorem dX0_init_0 : decode cX0_init 0 = .ok (.aload_n 0, 1) := by decide +kernel
theorem dX0_init_1 : decode cX0_init 1 = .ok (.invokespecial 3, 3) := by decide +kernel
theorem dX0_init_4 : decode cX0_init 4 = .ok (.aload_n 0, 1) := by decide +kernel
theorem dX0_init_5 : decode cX0_init 5 = .ok (.bipush 6, 2) := by decide +kernel
theorem dX0_init_7 : decode cX0_init 7 = .ok (.newarray .int, 2) := by decide +kernel
theorem dX0_init_9 : decode cX0_init 9 = .ok (.putfield 9, 3) := by decide +kernel
theorem dX0_init_12 : decode cX0_init 12 = .ok (.return_, 1) := by decide +kernel
set_option maxRecDepth 100000 in
set_option maxHeartbeats 4000000 in
theorem i_X0_init (l : Launch) (D : va_G) (A : Nat → Prop) (ad : Nat → Nat → Nat) (cy : Nat → ClassId) (cnt : Nat → Nat) (Y : va_W) (w : XW) (a : Nat) (hc12 : cnt 12 = 0) (hc0 : cnt 0 = 0) : Met l yX0_init (.code yX0_init cX0_init 1 none :: lw_ok) { frames := 1, cells := 1, slots := 6, locals := 12 } (va_Pc [.ref a] (XIp D A ad cy cnt Y w a 0 [.null])) (XIq D A ad cy cnt Y a 0 0 (cup (cup cnt 12) 0) (wz (wz w 12 0) 0 0)) 1 6 A := by
  refine Met.ofW (cc := cX0_init) (maxL := 1) (ret := none) (by decide) rfl ?_
  intro p e s m args below meth c s₁ B hml hv
  obtain ⟨rfl, hA, hX, hO, hK, hG, hZ⟩ := hv
  have hx := B.exec
  have hb := B.bytes
  have hr := B.returns
  have hts := atoms_spec (ws := .code yX0_init cX0_init 1 none :: lw_ok) B.pre
  have hin : ∀ w ∈ lw_ok, w ∈ (Cond.code yX0_init cX0_init 1 none :: lw_ok) := fun w h => List.mem_cons_of_mem _ h
  have hown : s.vm.findClass RX0 = some m.cls := findClass_of_methodNamed B.named
  have hlocks := B.notSynchronized
  have hin2 : meth.name = "<init>" := (name_of_methodNamed B.named B.method).1
  have hS : va_S A s.heap s.heap [] := va_S.rf
  have hl := lv_entry ([.ref a]) (n := 1) (Nat.le_of_ble_eq_true rfl)
  rw [lg_entry_eq]
  generalize (lg_sl ([.ref a]) ++ List.replicate (1 - (lg_sl ([.ref a])).length) Slot.unset).toArray = ls at hl ⊢
  have hl : lv_has ls 1 [(0, .ref a)] := hl
  refine lv_aload_n hx hb dX0_init_0 rfl (lv_at hl 0 rfl) ?_
  refine W.objInit hx hb hown (hts _ (hin _ wt_253)) (hts _ (hin _ wt_28)) (hts _ (hin _ wobj)) rfl (by rw [hml]; exact hl.1) rfl dX0_init_1 (Nat.le_of_ble_eq_true rfl) (Nat.le_of_ble_eq_true rfl) ?_
  refine W.eq (g2 := F0 m 4 ls []) rfl ?_
  refine lv_aload_n hx hb dX0_init_4 rfl (lv_at hl 0 rfl) ?_
  refine lv_bipush (v := 6) hx hb dX0_init_5 (by decide) ?_
  have hs1 : cnt 12 = 0 := by simp [cup, va_up, hc12]
  refine r_newaI hx hb (hts _ (hin _ wt_63)) hK hX hG hO hS hA 12 6 0 hs1 rfl (by decide) (by decide) (by decide) (by decide) (Nat.le_of_ble_eq_true rfl) (Nat.le_of_ble_eq_true rfl) dX0_init_7 (fun q1 ad1 H hT1 hq1 hX hG hO hS => ?_)
  refine r_putF hx hb hts hin xk_0 hown hK hX hS (k := 0) (v := .ref q1) (by decide) rfl wt_254 rfl hin2 rfl (tyX0_ok 0 (by decide)) rfl rfl (Nat.le_of_ble_eq_true rfl) dX0_init_9 (fun H locs hX hS => ?_)
  have hX : XX D A ad1 cy (cup cnt 12) ((a, .inr (0, [.ref q1])) :: Y) (wz w 12 0) H := hX
  have qq1 : ad1 12 0 = q1 := hq1
  have hs : (cup cnt 12) 0 = 0 := by simp [cup, va_up, hc0]
  obtain ⟨hX1, hfr⟩ := xx_sealn (κ := 0) (n0 := 0) (w' := (wz (wz w 12 0) 0 0)) hs hG hO hX (by
      rw [xcell_o (by decide)]
      generalize hwv : (wz (wz w 12 0) 0 0) = wv
      generalize hav : adup ad1 0 0 a = av
      refine congrArg (fun z => Sum.inr (0, z)) ?_
      show ([.ref q1] : List Value) = [.ref (av 12 0)]
      have ev1 : av 12 0 = q1 := by rw [← hav]; exact (adup_ne (fun h => absurd h.1 (by decide))).trans qq1
      have hI : ∀ k, gI wv 0 0 k = 0 := fun k => by rw [← hwv, wz_I]
      have hR : ∀ k, gR wv 0 0 k = none := fun k => by rw [← hwv]; first | rw [wz_R] | (simp only [gR_sI]; rw [wz_R])
      have hJ : ∀ k, gJ wv 0 0 k = 0 := fun k => by rw [← hwv]; first | rw [wz_J] | (simp only [gJ_sI]; rw [wz_J])
      simp only [hI, hR, hJ, ev1]
      try rfl) (fun κ' i' h => by
        have hne : ¬ (κ' = 0 ∧ i' = 0) := fun z => by rw [z.1, z.2, hs] at h; omega
        exact wz_ne hne)
  have hGF : XG (adup ad1 0 0 a) (cup (cup cnt 12) 0) := by
    have h9 := xg_cup (κ := 0) (q := a) hG (by decide) hfr (fun k c0 h1 h2 => by
      have hm : c0 ∈ ((xcl[0]?).getD []) := List.mem_of_getElem? (xfc_at h1)
      rw [hs]
      have hall : ∀ c0 ∈ ((xcl[0]?).getD []), c0.1 = 3 → xser c0.2.2.1 c0.2.2.2 0 < (cup (cup cnt 12) 0) c0.2.1 := by
        intro c1 hc1 hc3
        have hc2 : c1 ∈ [(3, 12, 0, 0)] := hc1
        simp only [List.mem_cons, List.not_mem_nil, or_false] at hc2
        rcases hc2 with rfl <;> first | (exact absurd hc3 (by decide)) | (simp [cup, va_up, xser, hc12]; done) | (simp [cup, va_up, xser, hc12]; omega)
      exact hall c0 hm h2)
    rw [hs] at h9
    exact h9
  have hOF : XD (cup (cup cnt 12) 0) (wz (wz w 12 0) 0 0) := xd_cup hO (fun κ' i' h => by
      have hne : ¬ (κ' = 0 ∧ i' = 0) := fun z => by rw [z.1, z.2, hs] at h; omega
      first | exact (wz_ne hne).2.2.1 | (simp only [gR_sI]; exact (wz_ne hne).2.2.1)) (fun k c0 j h1 h2 h3 => by
      rw [hs] at h3
      first | (rw [wz_R] at h3; cases h3) | (simp only [gR_sI] at h3; rw [wz_R] at h3; cases h3)) (fun a0 k j h1 h2 h3 => by
      exact absurd h1 (by unfold xac; rw [if_pos (by decide)]; exact fun h => by cases h))
  have hTF : XT0 ad cnt (adup ad1 0 0 a) := (xt0_tr (fun κ => (cup_le _ _ _)) hT1 (hs ▸ xt0_up (cnt := (cup cnt 12)) (κ := 0) (by decide)))
  exact W.vret hx hb hr (fun t ht hW => ⟨⟨rfl, _, hTF, adup_self, by rw [ht]; exact hX1, hOF, hGF⟩, hS.F ht⟩) hS.2.2 dX0_init_12

theorem dX1_init_0 : decode cX1_init 0 = .ok (.aload_n 0, 1) := by decide +kernel
theorem dX1_init_1 : decode cX1_init 1 = .ok (.invokespecial 3, 3) := by decide +kernel
theorem dX1_init_4 : decode cX1_init 4 = .ok (.aload_n 0, 1) := by decide +kernel
theorem dX1_init_5 : decode cX1_init 5 = .ok (.iconst 0, 1) := by decide +kernel
theorem dX1_init_6 : decode cX1_init 6 = .ok (.putfield 9, 3) := by decide +kernel
theorem dX1_init_9 : decode cX1_init 9 = .ok (.aload_n 0, 1) := by decide +kernel
theorem dX1_init_10 : decode cX1_init 10 = .ok (.iconst 0, 1) := by decide +kernel
theorem dX1_init_11 : decode cX1_init 11 = .ok (.putfield 15, 3) := by decide +kernel
theorem dX1_init_14 : decode cX1_init 14 = .ok (.aload_n 0, 1) := by decide +kernel
theorem dX1_init_15 : decode cX1_init 15 = .ok (.iconst 0, 1) := by decide +kernel
theorem dX1_init_16 : decode cX1_init 16 = .ok (.putfield 19, 3) := by decide +kernel
theorem dX1_init_19 : decode cX1_init 19 = .ok (.aload_n 0, 1) := by decide +kernel
theorem dX1_init_20 : decode cX1_init 20 = .ok (.iconst 0, 1) := by decide +kernel
theorem dX1_init_21 : decode cX1_init 21 = .ok (.putfield 22, 3) := by decide +kernel
theorem dX1_init_24 : decode cX1_init 24 = .ok (.aload_n 0, 1) := by decide +kernel
theorem dX1_init_25 : decode cX1_init 25 = .ok (.iconst 0, 1) := by decide +kernel
theorem dX1_init_26 : decode cX1_init 26 = .ok (.putfield 25, 3) := by decide +kernel
theorem dX1_init_29 : decode cX1_init 29 = .ok (.aload_n 0, 1) := by decide +kernel
theorem dX1_init_30 : decode cX1_init 30 = .ok (.iconst 0, 1) := by decide +kernel
theorem dX1_init_31 : decode cX1_init 31 = .ok (.putfield 28, 3) := by decide +kernel
theorem dX1_init_34 : decode cX1_init 34 = .ok (.aload_n 0, 1) := by decide +kernel
theorem dX1_init_35 : decode cX1_init 35 = .ok (.bipush 6, 2) := by decide +kernel
theorem dX1_init_37 : decode cX1_init 37 = .ok (.newarray .int, 2) := by decide +kernel
theorem dX1_init_39 : decode cX1_init 39 = .ok (.putfield 31, 3) := by decide +kernel
theorem dX1_init_42 : decode cX1_init 42 = .ok (.aload_n 0, 1) := by decide +kernel
theorem dX1_init_43 : decode cX1_init 43 = .ok (.bipush 6, 2) := by decide +kernel
theorem dX1_init_45 : decode cX1_init 45 = .ok (.newarray .int, 2) := by decide +kernel
theorem dX1_init_47 : decode cX1_init 47 = .ok (.putfield 35, 3) := by decide +kernel
theorem dX1_init_50 : decode cX1_init 50 = .ok (.aload_n 0, 1) := by decide +kernel
theorem dX1_init_51 : decode cX1_init 51 = .ok (.bipush 6, 2) := by decide +kernel
theorem dX1_init_53 : decode cX1_init 53 = .ok (.newarray .int, 2) := by decide +kernel
theorem dX1_init_55 : decode cX1_init 55 = .ok (.putfield 38, 3) := by decide +kernel
theorem dX1_init_58 : decode cX1_init 58 = .ok (.aload_n 0, 1) := by decide +kernel
theorem dX1_init_59 : decode cX1_init 59 = .ok (.iconst 5, 1) := by decide +kernel
theorem dX1_init_60 : decode cX1_init 60 = .ok (.newarray .int, 2) := by decide +kernel
theorem dX1_init_62 : decode cX1_init 62 = .ok (.putfield 41, 3) := by decide +kernel
theorem dX1_init_65 : decode cX1_init 65 = .ok (.aload_n 0, 1) := by decide +kernel
theorem dX1_init_66 : decode cX1_init 66 = .ok (.iconst 5, 1) := by decide +kernel
theorem dX1_init_67 : decode cX1_init 67 = .ok (.newarray .int, 2) := by decide +kernel
theorem dX1_init_69 : decode cX1_init 69 = .ok (.putfield 44, 3) := by decide +kernel
theorem dX1_init_72 : decode cX1_init 72 = .ok (.aload_n 0, 1) := by decide +kernel
theorem dX1_init_73 : decode cX1_init 73 = .ok (.iconst 4, 1) := by decide +kernel
theorem dX1_init_74 : decode cX1_init 74 = .ok (.newarray .int, 2) := by decide +kernel
theorem dX1_init_76 : decode cX1_init 76 = .ok (.putfield 47, 3) := by decide +kernel
theorem dX1_init_79 : decode cX1_init 79 = .ok (.return_, 1) := by decide +kernel
set_option maxRecDepth 100000 in
set_option maxHeartbeats 4000000 in
theorem i_X1_init (l : Launch) (D : va_G) (A : Nat → Prop) (ad : Nat → Nat → Nat) (cy : Nat → ClassId) (cnt : Nat → Nat) (Y : va_W) (w : XW) (a : Nat) (hc13 : cnt 13 = (cnt 1)) (hc14 : cnt 14 = (cnt 1)) (hc15 : cnt 15 = (cnt 1)) (hc16 : cnt 16 = (cnt 1)) (hc17 : cnt 17 = (cnt 1)) (hc18 : cnt 18 = (cnt 1)) : Met l yX1_init (.code yX1_init cX1_init 1 none :: lw_ok) { frames := 1, cells := 6, slots := 32, locals := 12 } (va_Pc [.ref a] (XIp D A ad cy cnt Y w a 1 [.int 0, .int 0, .int 0, .int 0, .int 0, .int 0, .null, .null, .null, .null, .null, .null])) (XIq D A ad cy cnt Y a 1 (cnt 1) (cup (cup (cup (cup (cup (cup (cup cnt 13) 14) 15) 16) 17) 18) 1) (wz (wz (wz (wz (wz (wz (wz w 13 (cnt 1)) 14 (cnt 1)) 15 (cnt 1)) 16 (cnt 1)) 17 (cnt 1)) 18 (cnt 1)) 1 (cnt 1))) 6 32 A := by
  refine Met.ofW (cc := cX1_init) (maxL := 1) (ret := none) (by decide) rfl ?_
  intro p e s m args below meth c s₁ B hml hv
  obtain ⟨rfl, hA, hX, hO, hK, hG, hZ⟩ := hv
  have hx := B.exec
  have hb := B.bytes
  have hr := B.returns
  have hts := atoms_spec (ws := .code yX1_init cX1_init 1 none :: lw_ok) B.pre
  have hin : ∀ w ∈ lw_ok, w ∈ (Cond.code yX1_init cX1_init 1 none :: lw_ok) := fun w h => List.mem_cons_of_mem _ h
  have hown : s.vm.findClass RX1 = some m.cls := findClass_of_methodNamed B.named
  have hlocks := B.notSynchronized
  have hin2 : meth.name = "<init>" := (name_of_methodNamed B.named B.method).1
  have hS : va_S A s.heap s.heap [] := va_S.rf
  have hl := lv_entry ([.ref a]) (n := 1) (Nat.le_of_ble_eq_true rfl)
  rw [lg_entry_eq]
  generalize (lg_sl ([.ref a]) ++ List.replicate (1 - (lg_sl ([.ref a])).length) Slot.unset).toArray = ls at hl ⊢
  have hl : lv_has ls 1 [(0, .ref a)] := hl
  refine lv_aload_n hx hb dX1_init_0 rfl (lv_at hl 0 rfl) ?_
  refine W.objInit hx hb hown (hts _ (hin _ wt_93)) (hts _ (hin _ wt_28)) (hts _ (hin _ wobj)) rfl (by rw [hml]; exact hl.1) rfl dX1_init_1 (Nat.le_of_ble_eq_true rfl) (Nat.le_of_ble_eq_true rfl) ?_
  refine W.eq (g2 := F0 m 4 ls []) rfl ?_
  refine lv_aload_n hx hb dX1_init_4 rfl (lv_at hl 0 rfl) ?_
  refine lv_iconst (v := 0) hx hb dX1_init_5 (by decide) ?_
  refine r_put hx hb hts hin xk_1 hown hK hX hS (k := 0) (v := .int 0) (by decide) rfl wt_94 rfl (tyX1_ok 0 (by decide)) rfl rfl (Nat.le_of_ble_eq_true rfl) dX1_init_6 (fun H locs hX hS => ?_)
  have hX : XX D A ad cy cnt ((a, .inr (1, [.int 0, .int 0, .int 0, .int 0, .int 0, .int 0, .null, .null, .null, .null, .null, .null])) :: Y) w H := hX
  refine lv_aload_n hx hb dX1_init_9 rfl (lv_at hl 0 rfl) ?_
  refine lv_iconst (v := 0) hx hb dX1_init_10 (by decide) ?_
  refine r_put hx hb hts hin xk_1 hown hK hX hS (k := 1) (v := .int 0) (by decide) rfl wt_97 rfl (tyX1_ok 1 (by decide)) rfl rfl (Nat.le_of_ble_eq_true rfl) dX1_init_11 (fun H locs hX hS => ?_)
  have hX : XX D A ad cy cnt ((a, .inr (1, [.int 0, .int 0, .int 0, .int 0, .int 0, .int 0, .null, .null, .null, .null, .null, .null])) :: Y) w H := hX
  refine lv_aload_n hx hb dX1_init_14 rfl (lv_at hl 0 rfl) ?_
  refine lv_iconst (v := 0) hx hb dX1_init_15 (by decide) ?_
  refine r_put hx hb hts hin xk_1 hown hK hX hS (k := 2) (v := .int 0) (by decide) rfl wt_101 rfl (tyX1_ok 2 (by decide)) rfl rfl (Nat.le_of_ble_eq_true rfl) dX1_init_16 (fun H locs hX hS => ?_)
  have hX : XX D A ad cy cnt ((a, .inr (1, [.int 0, .int 0, .int 0, .int 0, .int 0, .int 0, .null, .null, .null, .null, .null, .null])) :: Y) w H := hX
  refine lv_aload_n hx hb dX1_init_19 rfl (lv_at hl 0 rfl) ?_
  refine lv_iconst (v := 0) hx hb dX1_init_20 (by decide) ?_
  refine r_put hx hb hts hin xk_1 hown hK hX hS (k := 3) (v := .int 0) (by decide) rfl wt_105 rfl (tyX1_ok 3 (by decide)) rfl rfl (Nat.le_of_ble_eq_true rfl) dX1_init_21 (fun H locs hX hS => ?_)
  have hX : XX D A ad cy cnt ((a, .inr (1, [.int 0, .int 0, .int 0, .int 0, .int 0, .int 0, .null, .null, .null, .null, .null, .null])) :: Y) w H := hX
  refine lv_aload_n hx hb dX1_init_24 rfl (lv_at hl 0 rfl) ?_
  refine lv_iconst (v := 0) hx hb dX1_init_25 (by decide) ?_
  refine r_put hx hb hts hin xk_1 hown hK hX hS (k := 4) (v := .int 0) (by decide) rfl wt_111 rfl (tyX1_ok 4 (by decide)) rfl rfl (Nat.le_of_ble_eq_true rfl) dX1_init_26 (fun H locs hX hS => ?_)
  have hX : XX D A ad cy cnt ((a, .inr (1, [.int 0, .int 0, .int 0, .int 0, .int 0, .int 0, .null, .null, .null, .null, .null, .null])) :: Y) w H := hX
  refine lv_aload_n hx hb dX1_init_29 rfl (lv_at hl 0 rfl) ?_
  refine lv_iconst (v := 0) hx hb dX1_init_30 (by decide) ?_
  refine r_put hx hb hts hin xk_1 hown hK hX hS (k := 5) (v := .int 0) (by decide) rfl wt_115 rfl (tyX1_ok 5 (by decide)) rfl rfl (Nat.le_of_ble_eq_true rfl) dX1_init_31 (fun H locs hX hS => ?_)
  have hX : XX D A ad cy cnt ((a, .inr (1, [.int 0, .int 0, .int 0, .int 0, .int 0, .int 0, .null, .null, .null, .null, .null, .null])) :: Y) w H := hX
  refine lv_aload_n hx hb dX1_init_34 rfl (lv_at hl 0 rfl) ?_
  refine lv_bipush (v := 6) hx hb dX1_init_35 (by decide) ?_
  have hs1 : cnt 13 = (cnt 1) := by simp [cup, va_up, hc13]
  refine r_newaI hx hb (hts _ (hin _ wt_63)) hK hX hG hO hS hA 13 6 (cnt 1) hs1 rfl (by decide) (by decide) (by decide) (by decide) (Nat.le_of_ble_eq_true rfl) (Nat.le_of_ble_eq_true rfl) dX1_init_37 (fun q1 ad1 H hT1 hq1 hX hG hO hS => ?_)
  refine r_putF hx hb hts hin xk_1 hown hK hX hS (k := 6) (v := .ref q1) (by decide) rfl wt_119 rfl hin2 rfl (tyX1_ok 6 (by decide)) rfl rfl (Nat.le_of_ble_eq_true rfl) dX1_init_39 (fun H locs hX hS => ?_)
  have hX : XX D A ad1 cy (cup cnt 13) ((a, .inr (1, [.int 0, .int 0, .int 0, .int 0, .int 0, .int 0, .ref q1, .null, .null, .null, .null, .null])) :: Y) (wz w 13 (cnt 1)) H := hX
  refine lv_aload_n hx hb dX1_init_42 rfl (lv_at hl 0 rfl) ?_
  refine lv_bipush (v := 6) hx hb dX1_init_43 (by decide) ?_
  have hs2 : (cup cnt 13) 14 = (cnt 1) := by simp [cup, va_up, hc14]
  refine r_newaI hx hb (hts _ (hin _ wt_63)) hK hX hG hO hS hA 14 6 (cnt 1) hs2 rfl (by decide) (by decide) (by decide) (by decide) (Nat.le_of_ble_eq_true rfl) (Nat.le_of_ble_eq_true rfl) dX1_init_45 (fun q2 ad2 H hT2 hq2 hX hG hO hS => ?_)
  refine r_putF hx hb hts hin xk_1 hown hK hX hS (k := 7) (v := .ref q2) (by decide) rfl wt_123 rfl hin2 rfl (tyX1_ok 7 (by decide)) rfl rfl (Nat.le_of_ble_eq_true rfl) dX1_init_47 (fun H locs hX hS => ?_)
  have hX : XX D A ad2 cy (cup (cup cnt 13) 14) ((a, .inr (1, [.int 0, .int 0, .int 0, .int 0, .int 0, .int 0, .ref q1, .ref q2, .null, .null, .null, .null])) :: Y) (wz (wz w 13 (cnt 1)) 14 (cnt 1)) H := hX
  refine lv_aload_n hx hb dX1_init_50 rfl (lv_at hl 0 rfl) ?_
  refine lv_bipush (v := 6) hx hb dX1_init_51 (by decide) ?_
  have hs3 : (cup (cup cnt 13) 14) 15 = (cnt 1) := by simp [cup, va_up, hc15]
  refine r_newaI hx hb (hts _ (hin _ wt_63)) hK hX hG hO hS hA 15 6 (cnt 1) hs3 rfl (by decide) (by decide) (by decide) (by decide) (Nat.le_of_ble_eq_true rfl) (Nat.le_of_ble_eq_true rfl) dX1_init_53 (fun q3 ad3 H hT3 hq3 hX hG hO hS => ?_)
  refine r_putF hx hb hts hin xk_1 hown hK hX hS (k := 8) (v := .ref q3) (by decide) rfl wt_127 rfl hin2 rfl (tyX1_ok 8 (by decide)) rfl rfl (Nat.le_of_ble_eq_true rfl) dX1_init_55 (fun H locs hX hS => ?_)
  have hX : XX D A ad3 cy (cup (cup (cup cnt 13) 14) 15) ((a, .inr (1, [.int 0, .int 0, .int 0, .int 0, .int 0, .int 0, .ref q1, .ref q2, .ref q3, .null, .null, .null])) :: Y) (wz (wz (wz w 13 (cnt 1)) 14 (cnt 1)) 15 (cnt 1)) H := hX
  refine lv_aload_n hx hb dX1_init_58 rfl (lv_at hl 0 rfl) ?_
  refine lv_iconst (v := 5) hx hb dX1_init_59 (by decide) ?_
  have hs4 : (cup (cup (cup cnt 13) 14) 15) 16 = (cnt 1) := by simp [cup, va_up, hc16]
  refine r_newaI hx hb (hts _ (hin _ wt_63)) hK hX hG hO hS hA 16 5 (cnt 1) hs4 rfl (by decide) (by decide) (by decide) (by decide) (Nat.le_of_ble_eq_true rfl) (Nat.le_of_ble_eq_true rfl) dX1_init_60 (fun q4 ad4 H hT4 hq4 hX hG hO hS => ?_)
  refine r_putF hx hb hts hin xk_1 hown hK hX hS (k := 9) (v := .ref q4) (by decide) rfl wt_130 rfl hin2 rfl (tyX1_ok 9 (by decide)) rfl rfl (Nat.le_of_ble_eq_true rfl) dX1_init_62 (fun H locs hX hS => ?_)
  have hX : XX D A ad4 cy (cup (cup (cup (cup cnt 13) 14) 15) 16) ((a, .inr (1, [.int 0, .int 0, .int 0, .int 0, .int 0, .int 0, .ref q1, .ref q2, .ref q3, .ref q4, .null, .null])) :: Y) (wz (wz (wz (wz w 13 (cnt 1)) 14 (cnt 1)) 15 (cnt 1)) 16 (cnt 1)) H := hX
  refine lv_aload_n hx hb dX1_init_65 rfl (lv_at hl 0 rfl) ?_
  refine lv_iconst (v := 5) hx hb dX1_init_66 (by decide) ?_
  have hs5 : (cup (cup (cup (cup cnt 13) 14) 15) 16) 17 = (cnt 1) := by simp [cup, va_up, hc17]
  refine r_newaI hx hb (hts _ (hin _ wt_63)) hK hX hG hO hS hA 17 5 (cnt 1) hs5 rfl (by decide) (by decide) (by decide) (by decide) (Nat.le_of_ble_eq_true rfl) (Nat.le_of_ble_eq_true rfl) dX1_init_67 (fun q5 ad5 H hT5 hq5 hX hG hO hS => ?_)
  refine r_putF hx hb hts hin xk_1 hown hK hX hS (k := 10) (v := .ref q5) (by decide) rfl wt_134 rfl hin2 rfl (tyX1_ok 10 (by decide)) rfl rfl (Nat.le_of_ble_eq_true rfl) dX1_init_69 (fun H locs hX hS => ?_)
  have hX : XX D A ad5 cy (cup (cup (cup (cup (cup cnt 13) 14) 15) 16) 17) ((a, .inr (1, [.int 0, .int 0, .int 0, .int 0, .int 0, .int 0, .ref q1, .ref q2, .ref q3, .ref q4, .ref q5, .null])) :: Y) (wz (wz (wz (wz (wz w 13 (cnt 1)) 14 (cnt 1)) 15 (cnt 1)) 16 (cnt 1)) 17 (cnt 1)) H := hX
  refine lv_aload_n hx hb dX1_init_72 rfl (lv_at hl 0 rfl) ?_
  refine lv_iconst (v := 4) hx hb dX1_init_73 (by decide) ?_
  have hs6 : (cup (cup (cup (cup (cup cnt 13) 14) 15) 16) 17) 18 = (cnt 1) := by simp [cup, va_up, hc18]
  refine r_newaI hx hb (hts _ (hin _ wt_63)) hK hX hG hO hS hA 18 4 (cnt 1) hs6 rfl (by decide) (by decide) (by decide) (by decide) (Nat.le_of_ble_eq_true rfl) (Nat.le_of_ble_eq_true rfl) dX1_init_74 (fun q6 ad6 H hT6 hq6 hX hG hO hS => ?_)
  refine r_putF hx hb hts hin xk_1 hown hK hX hS (k := 11) (v := .ref q6) (by decide) rfl wt_138 rfl hin2 rfl (tyX1_ok 11 (by decide)) rfl rfl (Nat.le_of_ble_eq_true rfl) dX1_init_76 (fun H locs hX hS => ?_)
  have hX : XX D A ad6 cy (cup (cup (cup (cup (cup (cup cnt 13) 14) 15) 16) 17) 18) ((a, .inr (1, [.int 0, .int 0, .int 0, .int 0, .int 0, .int 0, .ref q1, .ref q2, .ref q3, .ref q4, .ref q5, .ref q6])) :: Y) (wz (wz (wz (wz (wz (wz w 13 (cnt 1)) 14 (cnt 1)) 15 (cnt 1)) 16 (cnt 1)) 17 (cnt 1)) 18 (cnt 1)) H := hX
  have qq1 : ad6 13 (cnt 1) = q1 := ((hT6.1 13 (cnt 1) (by simp [cup, va_up, hc13, hc14, hc15, hc16, hc17, hc18])).trans ((hT5.1 13 (cnt 1) (by simp [cup, va_up, hc13, hc14, hc15, hc16, hc17, hc18])).trans ((hT4.1 13 (cnt 1) (by simp [cup, va_up, hc13, hc14, hc15, hc16, hc17, hc18])).trans ((hT3.1 13 (cnt 1) (by simp [cup, va_up, hc13, hc14, hc15, hc16, hc17, hc18])).trans ((hT2.1 13 (cnt 1) (by simp [cup, va_up, hc13, hc14, hc15, hc16, hc17, hc18])).trans hq1)))))
  have qq2 : ad6 14 (cnt 1) = q2 := ((hT6.1 14 (cnt 1) (by simp [cup, va_up, hc13, hc14, hc15, hc16, hc17, hc18])).trans ((hT5.1 14 (cnt 1) (by simp [cup, va_up, hc13, hc14, hc15, hc16, hc17, hc18])).trans ((hT4.1 14 (cnt 1) (by simp [cup, va_up, hc13, hc14, hc15, hc16, hc17, hc18])).trans ((hT3.1 14 (cnt 1) (by simp [cup, va_up, hc13, hc14, hc15, hc16, hc17, hc18])).trans hq2))))
  have qq3 : ad6 15 (cnt 1) = q3 := ((hT6.1 15 (cnt 1) (by simp [cup, va_up, hc13, hc14, hc15, hc16, hc17, hc18])).trans ((hT5.1 15 (cnt 1) (by simp [cup, va_up, hc13, hc14, hc15, hc16, hc17, hc18])).trans ((hT4.1 15 (cnt 1) (by simp [cup, va_up, hc13, hc14, hc15, hc16, hc17, hc18])).trans hq3)))
  have qq4 : ad6 16 (cnt 1) = q4 := ((hT6.1 16 (cnt 1) (by simp [cup, va_up, hc13, hc14, hc15, hc16, hc17, hc18])).trans ((hT5.1 16 (cnt 1) (by simp [cup, va_up, hc13, hc14, hc15, hc16, hc17, hc18])).trans hq4))
  have qq5 : ad6 17 (cnt 1) = q5 := ((hT6.1 17 (cnt 1) (by simp [cup, va_up, hc13, hc14, hc15, hc16, hc17, hc18])).trans hq5)
  have qq6 : ad6 18 (cnt 1) = q6 := hq6
  have hs : (cup (cup (cup (cup (cup (cup cnt 13) 14) 15) 16) 17) 18) 1 = (cnt 1) := by simp [cup, va_up]
  obtain ⟨hX1, hfr⟩ := xx_sealn (κ := 1) (n0 := (cnt 1)) (w' := (wz (wz (wz (wz (wz (wz (wz w 13 (cnt 1)) 14 (cnt 1)) 15 (cnt 1)) 16 (cnt 1)) 17 (cnt 1)) 18 (cnt 1)) 1 (cnt 1))) hs hG hO hX (by
      rw [xcell_o (by decide)]
      generalize hwv : (wz (wz (wz (wz (wz (wz (wz w 13 (cnt 1)) 14 (cnt 1)) 15 (cnt 1)) 16 (cnt 1)) 17 (cnt 1)) 18 (cnt 1)) 1 (cnt 1)) = wv
      generalize hav : adup ad6 1 (cnt 1) a = av
      refine congrArg (fun z => Sum.inr (1, z)) ?_
      show ([.int 0, .int 0, .int 0, .int 0, .int 0, .int 0, .ref q1, .ref q2, .ref q3, .ref q4, .ref q5, .ref q6] : List Value) = [.int (gI wv 1 (cnt 1) 0), .int (gI wv 1 (cnt 1) 1), .int (gI wv 1 (cnt 1) 2), .int (gI wv 1 (cnt 1) 3), .int (gI wv 1 (cnt 1) 4), .int (gI wv 1 (cnt 1) 5), .ref (av 13 (cnt 1)), .ref (av 14 (cnt 1)), .ref (av 15 (cnt 1)), .ref (av 16 (cnt 1)), .ref (av 17 (cnt 1)), .ref (av 18 (cnt 1))]
      have ev1 : av 13 (cnt 1) = q1 := by rw [← hav]; exact (adup_ne (fun h => absurd h.1 (by decide))).trans qq1
      have ev2 : av 14 (cnt 1) = q2 := by rw [← hav]; exact (adup_ne (fun h => absurd h.1 (by decide))).trans qq2
      have ev3 : av 15 (cnt 1) = q3 := by rw [← hav]; exact (adup_ne (fun h => absurd h.1 (by decide))).trans qq3
      have ev4 : av 16 (cnt 1) = q4 := by rw [← hav]; exact (adup_ne (fun h => absurd h.1 (by decide))).trans qq4
      have ev5 : av 17 (cnt 1) = q5 := by rw [← hav]; exact (adup_ne (fun h => absurd h.1 (by decide))).trans qq5
      have ev6 : av 18 (cnt 1) = q6 := by rw [← hav]; exact (adup_ne (fun h => absurd h.1 (by decide))).trans qq6
      have hI : ∀ k, gI wv 1 (cnt 1) k = 0 := fun k => by rw [← hwv, wz_I]
      have hR : ∀ k, gR wv 1 (cnt 1) k = none := fun k => by rw [← hwv]; first | rw [wz_R] | (simp only [gR_sI]; rw [wz_R])
      have hJ : ∀ k, gJ wv 1 (cnt 1) k = 0 := fun k => by rw [← hwv]; first | rw [wz_J] | (simp only [gJ_sI]; rw [wz_J])
      simp only [hI, hR, hJ, ev1, ev2, ev3, ev4, ev5, ev6]
      try rfl) (fun κ' i' h => by
        have hne : ¬ (κ' = 1 ∧ i' = (cnt 1)) := fun z => by rw [z.1, z.2, hs] at h; omega
        exact wz_ne hne)
  have hGF : XG (adup ad6 1 (cnt 1) a) (cup (cup (cup (cup (cup (cup (cup cnt 13) 14) 15) 16) 17) 18) 1) := by
    have h9 := xg_cup (κ := 1) (q := a) hG (by decide) hfr (fun k c0 h1 h2 => by
      have hm : c0 ∈ ((xcl[1]?).getD []) := List.mem_of_getElem? (xfc_at h1)
      rw [hs]
      have hall : ∀ c0 ∈ ((xcl[1]?).getD []), c0.1 = 3 → xser c0.2.2.1 c0.2.2.2 (cnt 1) < (cup (cup (cup (cup (cup (cup (cup cnt 13) 14) 15) 16) 17) 18) 1) c0.2.1 := by
        intro c1 hc1 hc3
        have hc2 : c1 ∈ [(0, 0, 0, 0), (0, 0, 0, 0), (0, 0, 0, 0), (0, 0, 0, 0), (0, 0, 0, 0), (0, 0, 0, 0), (3, 13, 0, 0), (3, 14, 0, 0), (3, 15, 0, 0), (3, 16, 0, 0), (3, 17, 0, 0), (3, 18, 0, 0)] := hc1
        simp only [List.mem_cons, List.not_mem_nil, or_false] at hc2
        rcases hc2 with rfl | rfl | rfl | rfl | rfl | rfl | rfl | rfl | rfl | rfl | rfl | rfl <;> first | (exact absurd hc3 (by decide)) | (simp [cup, va_up, xser, hc13, hc14, hc15, hc16, hc17, hc18]; done) | (simp [cup, va_up, xser, hc13, hc14, hc15, hc16, hc17, hc18]; omega)
      exact hall c0 hm h2)
    rw [hs] at h9
    exact h9
  have hOF : XD (cup (cup (cup (cup (cup (cup (cup cnt 13) 14) 15) 16) 17) 18) 1) (wz (wz (wz (wz (wz (wz (wz w 13 (cnt 1)) 14 (cnt 1)) 15 (cnt 1)) 16 (cnt 1)) 17 (cnt 1)) 18 (cnt 1)) 1 (cnt 1)) := xd_cup hO (fun κ' i' h => by
      have hne : ¬ (κ' = 1 ∧ i' = (cnt 1)) := fun z => by rw [z.1, z.2, hs] at h; omega
      first | exact (wz_ne hne).2.2.1 | (simp only [gR_sI]; exact (wz_ne hne).2.2.1)) (fun k c0 j h1 h2 h3 => by
      rw [hs] at h3
      first | (rw [wz_R] at h3; cases h3) | (simp only [gR_sI] at h3; rw [wz_R] at h3; cases h3)) (fun a0 k j h1 h2 h3 => by
      exact absurd h1 (by unfold xac; rw [if_pos (by decide)]; exact fun h => by cases h))
  have hTF : XT0 ad cnt (adup ad6 1 (cnt 1) a) := (xt0_tr (fun κ => (Nat.le_trans (Nat.le_trans (Nat.le_trans (Nat.le_trans (Nat.le_trans (cup_le _ _ _) (cup_le _ _ _)) (cup_le _ _ _)) (cup_le _ _ _)) (cup_le _ _ _)) (cup_le _ _ _))) (xt0_tr (fun κ => (Nat.le_trans (Nat.le_trans (Nat.le_trans (Nat.le_trans (cup_le _ _ _) (cup_le _ _ _)) (cup_le _ _ _)) (cup_le _ _ _)) (cup_le _ _ _))) (xt0_tr (fun κ => (Nat.le_trans (Nat.le_trans (Nat.le_trans (cup_le _ _ _) (cup_le _ _ _)) (cup_le _ _ _)) (cup_le _ _ _))) (xt0_tr (fun κ => (Nat.le_trans (Nat.le_trans (cup_le _ _ _) (cup_le _ _ _)) (cup_le _ _ _))) (xt0_tr (fun κ => (Nat.le_trans (cup_le _ _ _) (cup_le _ _ _))) (xt0_tr (fun κ => (cup_le _ _ _)) hT1 hT2) hT3) hT4) hT5) hT6) (hs ▸ xt0_up (cnt := (cup (cup (cup (cup (cup (cup cnt 13) 14) 15) 16) 17) 18)) (κ := 1) (by decide)))
  exact W.vret hx hb hr (fun t ht hW => ⟨⟨rfl, _, hTF, adup_self, by rw [ht]; exact hX1, hOF, hGF⟩, hS.F ht⟩) hS.2.2 dX1_init_79

theorem dX4_init_0 : decode cX4_init 0 = .ok (.aload_n 0, 1) := by decide +kernel
theorem dX4_init_1 : decode cX4_init 1 = .ok (.invokespecial 3, 3) := by decide +kernel
theorem dX4_init_4 : decode cX4_init 4 = .ok (.aload_n 0, 1) := by decide +kernel
theorem dX4_init_5 : decode cX4_init 5 = .ok (.aconst_null, 1) := by decide +kernel
theorem dX4_init_6 : decode cX4_init 6 = .ok (.putfield 9, 3) := by decide +kernel
theorem dX4_init_9 : decode cX4_init 9 = .ok (.aload_n 0, 1) := by decide +kernel
theorem dX4_init_10 : decode cX4_init 10 = .ok (.aconst_null, 1) := by decide +kernel
theorem dX4_init_11 : decode cX4_init 11 = .ok (.putfield 15, 3) := by decide +kernel
theorem dX4_init_14 : decode cX4_init 14 = .ok (.aload_n 0, 1) := by decide +kernel
theorem dX4_init_15 : decode cX4_init 15 = .ok (.iconst 5, 1) := by decide +kernel
theorem dX4_init_16 : decode cX4_init 16 = .ok (.newarray .int, 2) := by decide +kernel
theorem dX4_init_18 : decode cX4_init 18 = .ok (.putfield 19, 3) := by decide +kernel
theorem dX4_init_21 : decode cX4_init 21 = .ok (.aload_n 0, 1) := by decide +kernel
theorem dX4_init_22 : decode cX4_init 22 = .ok (.bipush 6, 2) := by decide +kernel
theorem dX4_init_24 : decode cX4_init 24 = .ok (.newarray .int, 2) := by decide +kernel
theorem dX4_init_26 : decode cX4_init 26 = .ok (.putfield 23, 3) := by decide +kernel
theorem dX4_init_29 : decode cX4_init 29 = .ok (.aload_n 0, 1) := by decide +kernel
theorem dX4_init_30 : decode cX4_init 30 = .ok (.bipush 64, 2) := by decide +kernel
theorem dX4_init_32 : decode cX4_init 32 = .ok (.newarray .long, 2) := by decide +kernel
theorem dX4_init_34 : decode cX4_init 34 = .ok (.putfield 26, 3) := by decide +kernel
theorem dX4_init_37 : decode cX4_init 37 = .ok (.aload_n 0, 1) := by decide +kernel
theorem dX4_init_38 : decode cX4_init 38 = .ok (.iconst 0, 1) := by decide +kernel
theorem dX4_init_39 : decode cX4_init 39 = .ok (.putfield 30, 3) := by decide +kernel
theorem dX4_init_42 : decode cX4_init 42 = .ok (.aload_n 0, 1) := by decide +kernel
theorem dX4_init_43 : decode cX4_init 43 = .ok (.iconst 0, 1) := by decide +kernel
theorem dX4_init_44 : decode cX4_init 44 = .ok (.putfield 34, 3) := by decide +kernel
theorem dX4_init_47 : decode cX4_init 47 = .ok (.return_, 1) := by decide +kernel
set_option maxRecDepth 100000 in
set_option maxHeartbeats 4000000 in
theorem i_X4_init (l : Launch) (D : va_G) (A : Nat → Prop) (ad : Nat → Nat → Nat) (cy : Nat → ClassId) (cnt : Nat → Nat) (Y : va_W) (w : XW) (a : Nat) (hc19 : cnt 19 = 0) (hc20 : cnt 20 = 0) (hc21 : cnt 21 = 0) (hc3 : cnt 3 = 0) : Met l yX4_init (.code yX4_init cX4_init 1 none :: lw_ok) { frames := 1, cells := 3, slots := 75, locals := 12 } (va_Pc [.ref a] (XIp D A ad cy cnt Y w a 3 [.null, .null, .null, .null, .null, .int 0, .int 0])) (XIq D A ad cy cnt Y a 3 0 (cup (cup (cup (cup cnt 19) 20) 21) 3) (wz (wz (wz (wz w 19 0) 20 0) 21 0) 3 0)) 3 75 A := by
  refine Met.ofW (cc := cX4_init) (maxL := 1) (ret := none) (by decide) rfl ?_
  intro p e s m args below meth c s₁ B hml hv
  obtain ⟨rfl, hA, hX, hO, hK, hG, hZ⟩ := hv
  have hx := B.exec
  have hb := B.bytes
  have hr := B.returns
  have hts := atoms_spec (ws := .code yX4_init cX4_init 1 none :: lw_ok) B.pre
  have hin : ∀ w ∈ lw_ok, w ∈ (Cond.code yX4_init cX4_init 1 none :: lw_ok) := fun w h => List.mem_cons_of_mem _ h
  have hown : s.vm.findClass RX4 = some m.cls := findClass_of_methodNamed B.named
  have hlocks := B.notSynchronized
  have hin2 : meth.name = "<init>" := (name_of_methodNamed B.named B.method).1
  have hS : va_S A s.heap s.heap [] := va_S.rf
  have hl := lv_entry ([.ref a]) (n := 1) (Nat.le_of_ble_eq_true rfl)
  rw [lg_entry_eq]
  generalize (lg_sl ([.ref a]) ++ List.replicate (1 - (lg_sl ([.ref a])).length) Slot.unset).toArray = ls at hl ⊢
  have hl : lv_has ls 1 [(0, .ref a)] := hl
  refine lv_aload_n hx hb dX4_init_0 rfl (lv_at hl 0 rfl) ?_
  refine W.objInit hx hb hown (hts _ (hin _ wt_214)) (hts _ (hin _ wt_28)) (hts _ (hin _ wobj)) rfl (by rw [hml]; exact hl.1) rfl dX4_init_1 (Nat.le_of_ble_eq_true rfl) (Nat.le_of_ble_eq_true rfl) ?_
  refine W.eq (g2 := F0 m 4 ls []) rfl ?_
  refine lv_aload_n hx hb dX4_init_4 rfl (lv_at hl 0 rfl) ?_
  refine lv_null hx hb dX4_init_5 ?_
  refine r_put hx hb hts hin xk_3 hown hK hX hS (k := 0) (v := .null) (by decide) rfl wt_215 rfl (tyX4_ok 0 (by decide)) rfl rfl (Nat.le_of_ble_eq_true rfl) dX4_init_6 (fun H locs hX hS => ?_)
  have hX : XX D A ad cy cnt ((a, .inr (3, [.null, .null, .null, .null, .null, .int 0, .int 0])) :: Y) w H := hX
  refine lv_aload_n hx hb dX4_init_9 rfl (lv_at hl 0 rfl) ?_
  refine lv_null hx hb dX4_init_10 ?_
  refine r_put hx hb hts hin xk_3 hown hK hX hS (k := 1) (v := .null) (by decide) rfl wt_216 rfl (tyX4_ok 1 (by decide)) rfl rfl (Nat.le_of_ble_eq_true rfl) dX4_init_11 (fun H locs hX hS => ?_)
  have hX : XX D A ad cy cnt ((a, .inr (3, [.null, .null, .null, .null, .null, .int 0, .int 0])) :: Y) w H := hX
  refine lv_aload_n hx hb dX4_init_14 rfl (lv_at hl 0 rfl) ?_
  refine lv_iconst (v := 5) hx hb dX4_init_15 (by decide) ?_
  have hs1 : cnt 19 = 0 := by simp [cup, va_up, hc19]
  refine r_newaI hx hb (hts _ (hin _ wt_63)) hK hX hG hO hS hA 19 5 0 hs1 rfl (by decide) (by decide) (by decide) (by decide) (Nat.le_of_ble_eq_true rfl) (Nat.le_of_ble_eq_true rfl) dX4_init_16 (fun q1 ad1 H hT1 hq1 hX hG hO hS => ?_)
  refine r_putF hx hb hts hin xk_3 hown hK hX hS (k := 2) (v := .ref q1) (by decide) rfl wt_217 rfl hin2 rfl (tyX4_ok 2 (by decide)) rfl rfl (Nat.le_of_ble_eq_true rfl) dX4_init_18 (fun H locs hX hS => ?_)
  have hX : XX D A ad1 cy (cup cnt 19) ((a, .inr (3, [.null, .null, .ref q1, .null, .null, .int 0, .int 0])) :: Y) (wz w 19 0) H := hX
  refine lv_aload_n hx hb dX4_init_21 rfl (lv_at hl 0 rfl) ?_
  refine lv_bipush (v := 6) hx hb dX4_init_22 (by decide) ?_
  have hs2 : (cup cnt 19) 20 = 0 := by simp [cup, va_up, hc20]
  refine r_newaI hx hb (hts _ (hin _ wt_63)) hK hX hG hO hS hA 20 6 0 hs2 rfl (by decide) (by decide) (by decide) (by decide) (Nat.le_of_ble_eq_true rfl) (Nat.le_of_ble_eq_true rfl) dX4_init_24 (fun q2 ad2 H hT2 hq2 hX hG hO hS => ?_)
  refine r_putF hx hb hts hin xk_3 hown hK hX hS (k := 3) (v := .ref q2) (by decide) rfl wt_218 rfl hin2 rfl (tyX4_ok 3 (by decide)) rfl rfl (Nat.le_of_ble_eq_true rfl) dX4_init_26 (fun H locs hX hS => ?_)
  have hX : XX D A ad2 cy (cup (cup cnt 19) 20) ((a, .inr (3, [.null, .null, .ref q1, .ref q2, .null, .int 0, .int 0])) :: Y) (wz (wz w 19 0) 20 0) H := hX
  refine lv_aload_n hx hb dX4_init_29 rfl (lv_at hl 0 rfl) ?_
  refine lv_bipush (v := 64) hx hb dX4_init_30 (by decide) ?_
  have hs3 : (cup (cup cnt 19) 20) 21 = 0 := by simp [cup, va_up, hc21]
  refine r_newaJ hx hb (hts _ (hin _ wt_237)) hK hX hG hO hS hA 21 64 0 hs3 rfl (by decide) (by decide) (by decide) (by decide) (Nat.le_of_ble_eq_true rfl) (Nat.le_of_ble_eq_true rfl) dX4_init_32 (fun q3 ad3 H hT3 hq3 hX hG hO hS => ?_)
  refine r_putF hx hb hts hin xk_3 hown hK hX hS (k := 4) (v := .ref q3) (by decide) rfl wt_219 rfl hin2 rfl (tyX4_ok 4 (by decide)) rfl rfl (Nat.le_of_ble_eq_true rfl) dX4_init_34 (fun H locs hX hS => ?_)
  have hX : XX D A ad3 cy (cup (cup (cup cnt 19) 20) 21) ((a, .inr (3, [.null, .null, .ref q1, .ref q2, .ref q3, .int 0, .int 0])) :: Y) (wz (wz (wz w 19 0) 20 0) 21 0) H := hX
  refine lv_aload_n hx hb dX4_init_37 rfl (lv_at hl 0 rfl) ?_
  refine lv_iconst (v := 0) hx hb dX4_init_38 (by decide) ?_
  refine r_put hx hb hts hin xk_3 hown hK hX hS (k := 5) (v := .int 0) (by decide) rfl wt_220 rfl (tyX4_ok 5 (by decide)) rfl rfl (Nat.le_of_ble_eq_true rfl) dX4_init_39 (fun H locs hX hS => ?_)
  have hX : XX D A ad3 cy (cup (cup (cup cnt 19) 20) 21) ((a, .inr (3, [.null, .null, .ref q1, .ref q2, .ref q3, .int 0, .int 0])) :: Y) (wz (wz (wz w 19 0) 20 0) 21 0) H := hX
  refine lv_aload_n hx hb dX4_init_42 rfl (lv_at hl 0 rfl) ?_
  refine lv_iconst (v := 0) hx hb dX4_init_43 (by decide) ?_
  refine r_put hx hb hts hin xk_3 hown hK hX hS (k := 6) (v := .int 0) (by decide) rfl wt_221 rfl (tyX4_ok 6 (by decide)) rfl rfl (Nat.le_of_ble_eq_true rfl) dX4_init_44 (fun H locs hX hS => ?_)
  have hX : XX D A ad3 cy (cup (cup (cup cnt 19) 20) 21) ((a, .inr (3, [.null, .null, .ref q1, .ref q2, .ref q3, .int 0, .int 0])) :: Y) (wz (wz (wz w 19 0) 20 0) 21 0) H := hX
  have qq1 : ad3 19 0 = q1 := ((hT3.1 19 0 (by simp [cup, va_up, hc19, hc20, hc21])).trans ((hT2.1 19 0 (by simp [cup, va_up, hc19, hc20, hc21])).trans hq1))
  have qq2 : ad3 20 0 = q2 := ((hT3.1 20 0 (by simp [cup, va_up, hc19, hc20, hc21])).trans hq2)
  have qq3 : ad3 21 0 = q3 := hq3
  have hs : (cup (cup (cup cnt 19) 20) 21) 3 = 0 := by simp [cup, va_up, hc3]
  obtain ⟨hX1, hfr⟩ := xx_sealn (κ := 3) (n0 := 0) (w' := (wz (wz (wz (wz w 19 0) 20 0) 21 0) 3 0)) hs hG hO hX (by
      rw [xcell_o (by decide)]
      generalize hwv : (wz (wz (wz (wz w 19 0) 20 0) 21 0) 3 0) = wv
      generalize hav : adup ad3 3 0 a = av
      refine congrArg (fun z => Sum.inr (3, z)) ?_
      show ([.null, .null, .ref q1, .ref q2, .ref q3, .int 0, .int 0] : List Value) = [va_rf ((gR wv 3 0 0).map (av 1)), va_rf ((gR wv 3 0 1).map (av 6)), .ref (av 19 0), .ref (av 20 0), .ref (av 21 0), .int (gI wv 3 0 5), .int (gI wv 3 0 6)]
      have ev1 : av 19 0 = q1 := by rw [← hav]; exact (adup_ne (fun h => absurd h.1 (by decide))).trans qq1
      have ev2 : av 20 0 = q2 := by rw [← hav]; exact (adup_ne (fun h => absurd h.1 (by decide))).trans qq2
      have ev3 : av 21 0 = q3 := by rw [← hav]; exact (adup_ne (fun h => absurd h.1 (by decide))).trans qq3
      have hI : ∀ k, gI wv 3 0 k = 0 := fun k => by rw [← hwv, wz_I]
      have hR : ∀ k, gR wv 3 0 k = none := fun k => by rw [← hwv]; first | rw [wz_R] | (simp only [gR_sI]; rw [wz_R])
      have hJ : ∀ k, gJ wv 3 0 k = 0 := fun k => by rw [← hwv]; first | rw [wz_J] | (simp only [gJ_sI]; rw [wz_J])
      simp only [hI, hR, hJ, ev1, ev2, ev3]
      try rfl) (fun κ' i' h => by
        have hne : ¬ (κ' = 3 ∧ i' = 0) := fun z => by rw [z.1, z.2, hs] at h; omega
        exact wz_ne hne)
  have hGF : XG (adup ad3 3 0 a) (cup (cup (cup (cup cnt 19) 20) 21) 3) := by
    have h9 := xg_cup (κ := 3) (q := a) hG (by decide) hfr (fun k c0 h1 h2 => by
      have hm : c0 ∈ ((xcl[3]?).getD []) := List.mem_of_getElem? (xfc_at h1)
      rw [hs]
      have hall : ∀ c0 ∈ ((xcl[3]?).getD []), c0.1 = 3 → xser c0.2.2.1 c0.2.2.2 0 < (cup (cup (cup (cup cnt 19) 20) 21) 3) c0.2.1 := by
        intro c1 hc1 hc3
        have hc2 : c1 ∈ [(2, 1, 0, 0), (2, 6, 0, 0), (3, 19, 0, 0), (3, 20, 0, 0), (3, 21, 0, 0), (0, 0, 0, 0), (0, 0, 0, 0)] := hc1
        simp only [List.mem_cons, List.not_mem_nil, or_false] at hc2
        rcases hc2 with rfl | rfl | rfl | rfl | rfl | rfl | rfl <;> first | (exact absurd hc3 (by decide)) | (simp [cup, va_up, xser, hc19, hc20, hc21]; done) | (simp [cup, va_up, xser, hc19, hc20, hc21]; omega)
      exact hall c0 hm h2)
    rw [hs] at h9
    exact h9
  have hOF : XD (cup (cup (cup (cup cnt 19) 20) 21) 3) (wz (wz (wz (wz w 19 0) 20 0) 21 0) 3 0) := xd_cup hO (fun κ' i' h => by
      have hne : ¬ (κ' = 3 ∧ i' = 0) := fun z => by rw [z.1, z.2, hs] at h; omega
      first | exact (wz_ne hne).2.2.1 | (simp only [gR_sI]; exact (wz_ne hne).2.2.1)) (fun k c0 j h1 h2 h3 => by
      rw [hs] at h3
      first | (rw [wz_R] at h3; cases h3) | (simp only [gR_sI] at h3; rw [wz_R] at h3; cases h3)) (fun a0 k j h1 h2 h3 => by
      exact absurd h1 (by unfold xac; rw [if_pos (by decide)]; exact fun h => by cases h))
  have hTF : XT0 ad cnt (adup ad3 3 0 a) := (xt0_tr (fun κ => (Nat.le_trans (Nat.le_trans (cup_le _ _ _) (cup_le _ _ _)) (cup_le _ _ _))) (xt0_tr (fun κ => (Nat.le_trans (cup_le _ _ _) (cup_le _ _ _))) (xt0_tr (fun κ => (cup_le _ _ _)) hT1 hT2) hT3) (hs ▸ xt0_up (cnt := (cup (cup (cup cnt 19) 20) 21)) (κ := 3) (by decide)))
  exact W.vret hx hb hr (fun t ht hW => ⟨⟨rfl, _, hTF, adup_self, by rw [ht]; exact hX1, hOF, hGF⟩, hS.F ht⟩) hS.2.2 dX4_init_47

theorem dX5_init_0 : decode cX5_init 0 = .ok (.aload_n 0, 1) := by decide +kernel
theorem dX5_init_1 : decode cX5_init 1 = .ok (.invokespecial 3, 3) := by decide +kernel
theorem dX5_init_4 : decode cX5_init 4 = .ok (.aload_n 0, 1) := by decide +kernel
theorem dX5_init_5 : decode cX5_init 5 = .ok (.iconst 0, 1) := by decide +kernel
theorem dX5_init_6 : decode cX5_init 6 = .ok (.putfield 9, 3) := by decide +kernel
theorem dX5_init_9 : decode cX5_init 9 = .ok (.aload_n 0, 1) := by decide +kernel
theorem dX5_init_10 : decode cX5_init 10 = .ok (.bipush 10, 2) := by decide +kernel
theorem dX5_init_12 : decode cX5_init 12 = .ok (.newarray .int, 2) := by decide +kernel
theorem dX5_init_14 : decode cX5_init 14 = .ok (.putfield 15, 3) := by decide +kernel
theorem dX5_init_17 : decode cX5_init 17 = .ok (.aload_n 0, 1) := by decide +kernel
theorem dX5_init_18 : decode cX5_init 18 = .ok (.bipush 10, 2) := by decide +kernel
theorem dX5_init_20 : decode cX5_init 20 = .ok (.newarray .int, 2) := by decide +kernel
theorem dX5_init_22 : decode cX5_init 22 = .ok (.putfield 19, 3) := by decide +kernel
theorem dX5_init_25 : decode cX5_init 25 = .ok (.aload_n 0, 1) := by decide +kernel
theorem dX5_init_26 : decode cX5_init 26 = .ok (.bipush 10, 2) := by decide +kernel
theorem dX5_init_28 : decode cX5_init 28 = .ok (.newarray .int, 2) := by decide +kernel
theorem dX5_init_30 : decode cX5_init 30 = .ok (.putfield 22, 3) := by decide +kernel
theorem dX5_init_33 : decode cX5_init 33 = .ok (.return_, 1) := by decide +kernel
set_option maxRecDepth 100000 in
set_option maxHeartbeats 4000000 in
theorem i_X5_init (l : Launch) (D : va_G) (A : Nat → Prop) (ad : Nat → Nat → Nat) (cy : Nat → ClassId) (cnt : Nat → Nat) (Y : va_W) (w : XW) (a : Nat) (hc22 : cnt 22 = (cnt 4)) (hc23 : cnt 23 = (cnt 4)) (hc24 : cnt 24 = (cnt 4)) : Met l yX5_init (.code yX5_init cX5_init 1 none :: lw_ok) { frames := 1, cells := 3, slots := 30, locals := 12 } (va_Pc [.ref a] (XIp D A ad cy cnt Y w a 4 [.int 0, .null, .null, .null])) (XIq D A ad cy cnt Y a 4 (cnt 4) (cup (cup (cup (cup cnt 22) 23) 24) 4) (wz (wz (wz (wz w 22 (cnt 4)) 23 (cnt 4)) 24 (cnt 4)) 4 (cnt 4))) 3 30 A := by
  refine Met.ofW (cc := cX5_init) (maxL := 1) (ret := none) (by decide) rfl ?_
  intro p e s m args below meth c s₁ B hml hv
  obtain ⟨rfl, hA, hX, hO, hK, hG, hZ⟩ := hv
  have hx := B.exec
  have hb := B.bytes
  have hr := B.returns
  have hts := atoms_spec (ws := .code yX5_init cX5_init 1 none :: lw_ok) B.pre
  have hin : ∀ w ∈ lw_ok, w ∈ (Cond.code yX5_init cX5_init 1 none :: lw_ok) := fun w h => List.mem_cons_of_mem _ h
  have hown : s.vm.findClass RX5 = some m.cls := findClass_of_methodNamed B.named
  have hlocks := B.notSynchronized
  have hin2 : meth.name = "<init>" := (name_of_methodNamed B.named B.method).1
  have hS : va_S A s.heap s.heap [] := va_S.rf
  have hl := lv_entry ([.ref a]) (n := 1) (Nat.le_of_ble_eq_true rfl)
  rw [lg_entry_eq]
  generalize (lg_sl ([.ref a]) ++ List.replicate (1 - (lg_sl ([.ref a])).length) Slot.unset).toArray = ls at hl ⊢
  have hl : lv_has ls 1 [(0, .ref a)] := hl
  refine lv_aload_n hx hb dX5_init_0 rfl (lv_at hl 0 rfl) ?_
  refine W.objInit hx hb hown (hts _ (hin _ wt_264)) (hts _ (hin _ wt_28)) (hts _ (hin _ wobj)) rfl (by rw [hml]; exact hl.1) rfl dX5_init_1 (Nat.le_of_ble_eq_true rfl) (Nat.le_of_ble_eq_true rfl) ?_
  refine W.eq (g2 := F0 m 4 ls []) rfl ?_
  refine lv_aload_n hx hb dX5_init_4 rfl (lv_at hl 0 rfl) ?_
  refine lv_iconst (v := 0) hx hb dX5_init_5 (by decide) ?_
  refine r_put hx hb hts hin xk_4 hown hK hX hS (k := 0) (v := .int 0) (by decide) rfl wt_265 rfl (tyX5_ok 0 (by decide)) rfl rfl (Nat.le_of_ble_eq_true rfl) dX5_init_6 (fun H locs hX hS => ?_)
  have hX : XX D A ad cy cnt ((a, .inr (4, [.int 0, .null, .null, .null])) :: Y) w H := hX
  refine lv_aload_n hx hb dX5_init_9 rfl (lv_at hl 0 rfl) ?_
  refine lv_bipush (v := 10) hx hb dX5_init_10 (by decide) ?_
  have hs1 : cnt 22 = (cnt 4) := by simp [cup, va_up, hc22]
  refine r_newaI hx hb (hts _ (hin _ wt_63)) hK hX hG hO hS hA 22 10 (cnt 4) hs1 rfl (by decide) (by decide) (by decide) (by decide) (Nat.le_of_ble_eq_true rfl) (Nat.le_of_ble_eq_true rfl) dX5_init_12 (fun q1 ad1 H hT1 hq1 hX hG hO hS => ?_)
  refine r_putF hx hb hts hin xk_4 hown hK hX hS (k := 1) (v := .ref q1) (by decide) rfl wt_267 rfl hin2 rfl (tyX5_ok 1 (by decide)) rfl rfl (Nat.le_of_ble_eq_true rfl) dX5_init_14 (fun H locs hX hS => ?_)
  have hX : XX D A ad1 cy (cup cnt 22) ((a, .inr (4, [.int 0, .ref q1, .null, .null])) :: Y) (wz w 22 (cnt 4)) H := hX
  refine lv_aload_n hx hb dX5_init_17 rfl (lv_at hl 0 rfl) ?_
  refine lv_bipush (v := 10) hx hb dX5_init_18 (by decide) ?_
  have hs2 : (cup cnt 22) 23 = (cnt 4) := by simp [cup, va_up, hc23]
  refine r_newaI hx hb (hts _ (hin _ wt_63)) hK hX hG hO hS hA 23 10 (cnt 4) hs2 rfl (by decide) (by decide) (by decide) (by decide) (Nat.le_of_ble_eq_true rfl) (Nat.le_of_ble_eq_true rfl) dX5_init_20 (fun q2 ad2 H hT2 hq2 hX hG hO hS => ?_)
  refine r_putF hx hb hts hin xk_4 hown hK hX hS (k := 2) (v := .ref q2) (by decide) rfl wt_268 rfl hin2 rfl (tyX5_ok 2 (by decide)) rfl rfl (Nat.le_of_ble_eq_true rfl) dX5_init_22 (fun H locs hX hS => ?_)
  have hX : XX D A ad2 cy (cup (cup cnt 22) 23) ((a, .inr (4, [.int 0, .ref q1, .ref q2, .null])) :: Y) (wz (wz w 22 (cnt 4)) 23 (cnt 4)) H := hX
  refine lv_aload_n hx hb dX5_init_25 rfl (lv_at hl 0 rfl) ?_
  refine lv_bipush (v := 10) hx hb dX5_init_26 (by decide) ?_
  have hs3 : (cup (cup cnt 22) 23) 24 = (cnt 4) := by simp [cup, va_up, hc24]
  refine r_newaI hx hb (hts _ (hin _ wt_63)) hK hX hG hO hS hA 24 10 (cnt 4) hs3 rfl (by decide) (by decide) (by decide) (by decide) (Nat.le_of_ble_eq_true rfl) (Nat.le_of_ble_eq_true rfl) dX5_init_28 (fun q3 ad3 H hT3 hq3 hX hG hO hS => ?_)
  refine r_putF hx hb hts hin xk_4 hown hK hX hS (k := 3) (v := .ref q3) (by decide) rfl wt_269 rfl hin2 rfl (tyX5_ok 3 (by decide)) rfl rfl (Nat.le_of_ble_eq_true rfl) dX5_init_30 (fun H locs hX hS => ?_)
  have hX : XX D A ad3 cy (cup (cup (cup cnt 22) 23) 24) ((a, .inr (4, [.int 0, .ref q1, .ref q2, .ref q3])) :: Y) (wz (wz (wz w 22 (cnt 4)) 23 (cnt 4)) 24 (cnt 4)) H := hX
  have qq1 : ad3 22 (cnt 4) = q1 := ((hT3.1 22 (cnt 4) (by simp [cup, va_up, hc22, hc23, hc24])).trans ((hT2.1 22 (cnt 4) (by simp [cup, va_up, hc22, hc23, hc24])).trans hq1))
  have qq2 : ad3 23 (cnt 4) = q2 := ((hT3.1 23 (cnt 4) (by simp [cup, va_up, hc22, hc23, hc24])).trans hq2)
  have qq3 : ad3 24 (cnt 4) = q3 := hq3
  have hs : (cup (cup (cup cnt 22) 23) 24) 4 = (cnt 4) := by simp [cup, va_up]
  obtain ⟨hX1, hfr⟩ := xx_sealn (κ := 4) (n0 := (cnt 4)) (w' := (wz (wz (wz (wz w 22 (cnt 4)) 23 (cnt 4)) 24 (cnt 4)) 4 (cnt 4))) hs hG hO hX (by
      rw [xcell_o (by decide)]
      generalize hwv : (wz (wz (wz (wz w 22 (cnt 4)) 23 (cnt 4)) 24 (cnt 4)) 4 (cnt 4)) = wv
      generalize hav : adup ad3 4 (cnt 4) a = av
      refine congrArg (fun z => Sum.inr (4, z)) ?_
      show ([.int 0, .ref q1, .ref q2, .ref q3] : List Value) = [.int (gI wv 4 (cnt 4) 0), .ref (av 22 (cnt 4)), .ref (av 23 (cnt 4)), .ref (av 24 (cnt 4))]
      have ev1 : av 22 (cnt 4) = q1 := by rw [← hav]; exact (adup_ne (fun h => absurd h.1 (by decide))).trans qq1
      have ev2 : av 23 (cnt 4) = q2 := by rw [← hav]; exact (adup_ne (fun h => absurd h.1 (by decide))).trans qq2
      have ev3 : av 24 (cnt 4) = q3 := by rw [← hav]; exact (adup_ne (fun h => absurd h.1 (by decide))).trans qq3
      have hI : ∀ k, gI wv 4 (cnt 4) k = 0 := fun k => by rw [← hwv, wz_I]
      have hR : ∀ k, gR wv 4 (cnt 4) k = none := fun k => by rw [← hwv]; first | rw [wz_R] | (simp only [gR_sI]; rw [wz_R])
      have hJ : ∀ k, gJ wv 4 (cnt 4) k = 0 := fun k => by rw [← hwv]; first | rw [wz_J] | (simp only [gJ_sI]; rw [wz_J])
      simp only [hI, hR, hJ, ev1, ev2, ev3]
      try rfl) (fun κ' i' h => by
        have hne : ¬ (κ' = 4 ∧ i' = (cnt 4)) := fun z => by rw [z.1, z.2, hs] at h; omega
        exact wz_ne hne)
  have hGF : XG (adup ad3 4 (cnt 4) a) (cup (cup (cup (cup cnt 22) 23) 24) 4) := by
    have h9 := xg_cup (κ := 4) (q := a) hG (by decide) hfr (fun k c0 h1 h2 => by
      have hm : c0 ∈ ((xcl[4]?).getD []) := List.mem_of_getElem? (xfc_at h1)
      rw [hs]
      have hall : ∀ c0 ∈ ((xcl[4]?).getD []), c0.1 = 3 → xser c0.2.2.1 c0.2.2.2 (cnt 4) < (cup (cup (cup (cup cnt 22) 23) 24) 4) c0.2.1 := by
        intro c1 hc1 hc3
        have hc2 : c1 ∈ [(0, 0, 0, 0), (3, 22, 0, 0), (3, 23, 0, 0), (3, 24, 0, 0)] := hc1
        simp only [List.mem_cons, List.not_mem_nil, or_false] at hc2
        rcases hc2 with rfl | rfl | rfl | rfl <;> first | (exact absurd hc3 (by decide)) | (simp [cup, va_up, xser, hc22, hc23, hc24]; done) | (simp [cup, va_up, xser, hc22, hc23, hc24]; omega)
      exact hall c0 hm h2)
    rw [hs] at h9
    exact h9
  have hOF : XD (cup (cup (cup (cup cnt 22) 23) 24) 4) (wz (wz (wz (wz w 22 (cnt 4)) 23 (cnt 4)) 24 (cnt 4)) 4 (cnt 4)) := xd_cup hO (fun κ' i' h => by
      have hne : ¬ (κ' = 4 ∧ i' = (cnt 4)) := fun z => by rw [z.1, z.2, hs] at h; omega
      first | exact (wz_ne hne).2.2.1 | (simp only [gR_sI]; exact (wz_ne hne).2.2.1)) (fun k c0 j h1 h2 h3 => by
      rw [hs] at h3
      first | (rw [wz_R] at h3; cases h3) | (simp only [gR_sI] at h3; rw [wz_R] at h3; cases h3)) (fun a0 k j h1 h2 h3 => by
      exact absurd h1 (by unfold xac; rw [if_pos (by decide)]; exact fun h => by cases h))
  have hTF : XT0 ad cnt (adup ad3 4 (cnt 4) a) := (xt0_tr (fun κ => (Nat.le_trans (Nat.le_trans (cup_le _ _ _) (cup_le _ _ _)) (cup_le _ _ _))) (xt0_tr (fun κ => (Nat.le_trans (cup_le _ _ _) (cup_le _ _ _))) (xt0_tr (fun κ => (cup_le _ _ _)) hT1 hT2) hT3) (hs ▸ xt0_up (cnt := (cup (cup (cup cnt 22) 23) 24)) (κ := 4) (by decide)))
  exact W.vret hx hb hr (fun t ht hW => ⟨⟨rfl, _, hTF, adup_self, by rw [ht]; exact hX1, hOF, hGF⟩, hS.F ht⟩) hS.2.2 dX5_init_33

theorem dX6_init_0 : decode cX6_init 0 = .ok (.aload_n 0, 1) := by decide +kernel
theorem dX6_init_1 : decode cX6_init 1 = .ok (.invokespecial 3, 3) := by decide +kernel
theorem dX6_init_4 : decode cX6_init 4 = .ok (.aload_n 0, 1) := by decide +kernel
theorem dX6_init_5 : decode cX6_init 5 = .ok (.bipush 112, 2) := by decide +kernel
theorem dX6_init_7 : decode cX6_init 7 = .ok (.newarray .int, 2) := by decide +kernel
theorem dX6_init_9 : decode cX6_init 9 = .ok (.putfield 11, 3) := by decide +kernel
theorem dX6_init_12 : decode cX6_init 12 = .ok (.return_, 1) := by decide +kernel
set_option maxRecDepth 100000 in
set_option maxHeartbeats 4000000 in
theorem i_X6_init (l : Launch) (D : va_G) (A : Nat → Prop) (ad : Nat → Nat → Nat) (cy : Nat → ClassId) (cnt : Nat → Nat) (Y : va_W) (w : XW) (a : Nat) (hc25 : cnt 25 = 0) (hc5 : cnt 5 = 0) : Met l yX6_init (.code yX6_init cX6_init 1 none :: lw_ok) { frames := 1, cells := 1, slots := 112, locals := 12 } (va_Pc [.ref a] (XIp D A ad cy cnt Y w a 5 [.null])) (XIq D A ad cy cnt Y a 5 0 (cup (cup cnt 25) 5) (wz (wz w 25 0) 5 0)) 1 112 A := by
  refine Met.ofW (cc := cX6_init) (maxL := 1) (ret := none) (by decide) rfl ?_
  intro p e s m args below meth c s₁ B hml hv
  obtain ⟨rfl, hA, hX, hO, hK, hG, hZ⟩ := hv
  have hx := B.exec
  have hb := B.bytes
  have hr := B.returns
  have hts := atoms_spec (ws := .code yX6_init cX6_init 1 none :: lw_ok) B.pre
  have hin : ∀ w ∈ lw_ok, w ∈ (Cond.code yX6_init cX6_init 1 none :: lw_ok) := fun w h => List.mem_cons_of_mem _ h
  have hown : s.vm.findClass RX6 = some m.cls := findClass_of_methodNamed B.named
  have hlocks := B.notSynchronized
  have hin2 : meth.name = "<init>" := (name_of_methodNamed B.named B.method).1
  have hS : va_S A s.heap s.heap [] := va_S.rf
  have hl := lv_entry ([.ref a]) (n := 1) (Nat.le_of_ble_eq_true rfl)
  rw [lg_entry_eq]
  generalize (lg_sl ([.ref a]) ++ List.replicate (1 - (lg_sl ([.ref a])).length) Slot.unset).toArray = ls at hl ⊢
  have hl : lv_has ls 1 [(0, .ref a)] := hl
  refine lv_aload_n hx hb dX6_init_0 rfl (lv_at hl 0 rfl) ?_
  refine W.objInit hx hb hown (hts _ (hin _ wt_243)) (hts _ (hin _ wt_28)) (hts _ (hin _ wobj)) rfl (by rw [hml]; exact hl.1) rfl dX6_init_1 (Nat.le_of_ble_eq_true rfl) (Nat.le_of_ble_eq_true rfl) ?_
  refine W.eq (g2 := F0 m 4 ls []) rfl ?_
  refine lv_aload_n hx hb dX6_init_4 rfl (lv_at hl 0 rfl) ?_
  refine lv_bipush (v := 112) hx hb dX6_init_5 (by decide) ?_
  have hs1 : cnt 25 = 0 := by simp [cup, va_up, hc25]
  refine r_newaI hx hb (hts _ (hin _ wt_63)) hK hX hG hO hS hA 25 112 0 hs1 rfl (by decide) (by decide) (by decide) (by decide) (Nat.le_of_ble_eq_true rfl) (Nat.le_of_ble_eq_true rfl) dX6_init_7 (fun q1 ad1 H hT1 hq1 hX hG hO hS => ?_)
  refine r_putF hx hb hts hin xk_5 hown hK hX hS (k := 0) (v := .ref q1) (by decide) rfl wt_244 rfl hin2 rfl (tyX6_ok 0 (by decide)) rfl rfl (Nat.le_of_ble_eq_true rfl) dX6_init_9 (fun H locs hX hS => ?_)
  have hX : XX D A ad1 cy (cup cnt 25) ((a, .inr (5, [.ref q1])) :: Y) (wz w 25 0) H := hX
  have qq1 : ad1 25 0 = q1 := hq1
  have hs : (cup cnt 25) 5 = 0 := by simp [cup, va_up, hc5]
  obtain ⟨hX1, hfr⟩ := xx_sealn (κ := 5) (n0 := 0) (w' := (wz (wz w 25 0) 5 0)) hs hG hO hX (by
      rw [xcell_o (by decide)]
      generalize hwv : (wz (wz w 25 0) 5 0) = wv
      generalize hav : adup ad1 5 0 a = av
      refine congrArg (fun z => Sum.inr (5, z)) ?_
      show ([.ref q1] : List Value) = [.ref (av 25 0)]
      have ev1 : av 25 0 = q1 := by rw [← hav]; exact (adup_ne (fun h => absurd h.1 (by decide))).trans qq1
      have hI : ∀ k, gI wv 5 0 k = 0 := fun k => by rw [← hwv, wz_I]
      have hR : ∀ k, gR wv 5 0 k = none := fun k => by rw [← hwv]; first | rw [wz_R] | (simp only [gR_sI]; rw [wz_R])
      have hJ : ∀ k, gJ wv 5 0 k = 0 := fun k => by rw [← hwv]; first | rw [wz_J] | (simp only [gJ_sI]; rw [wz_J])
      simp only [hI, hR, hJ, ev1]
      try rfl) (fun κ' i' h => by
        have hne : ¬ (κ' = 5 ∧ i' = 0) := fun z => by rw [z.1, z.2, hs] at h; omega
        exact wz_ne hne)
  have hGF : XG (adup ad1 5 0 a) (cup (cup cnt 25) 5) := by
    have h9 := xg_cup (κ := 5) (q := a) hG (by decide) hfr (fun k c0 h1 h2 => by
      have hm : c0 ∈ ((xcl[5]?).getD []) := List.mem_of_getElem? (xfc_at h1)
      rw [hs]
      have hall : ∀ c0 ∈ ((xcl[5]?).getD []), c0.1 = 3 → xser c0.2.2.1 c0.2.2.2 0 < (cup (cup cnt 25) 5) c0.2.1 := by
        intro c1 hc1 hc3
        have hc2 : c1 ∈ [(3, 25, 0, 0)] := hc1
        simp only [List.mem_cons, List.not_mem_nil, or_false] at hc2
        rcases hc2 with rfl <;> first | (exact absurd hc3 (by decide)) | (simp [cup, va_up, xser, hc25]; done) | (simp [cup, va_up, xser, hc25]; omega)
      exact hall c0 hm h2)
    rw [hs] at h9
    exact h9
  have hOF : XD (cup (cup cnt 25) 5) (wz (wz w 25 0) 5 0) := xd_cup hO (fun κ' i' h => by
      have hne : ¬ (κ' = 5 ∧ i' = 0) := fun z => by rw [z.1, z.2, hs] at h; omega
      first | exact (wz_ne hne).2.2.1 | (simp only [gR_sI]; exact (wz_ne hne).2.2.1)) (fun k c0 j h1 h2 h3 => by
      rw [hs] at h3
      first | (rw [wz_R] at h3; cases h3) | (simp only [gR_sI] at h3; rw [wz_R] at h3; cases h3)) (fun a0 k j h1 h2 h3 => by
      exact absurd h1 (by unfold xac; rw [if_pos (by decide)]; exact fun h => by cases h))
  have hTF : XT0 ad cnt (adup ad1 5 0 a) := (xt0_tr (fun κ => (cup_le _ _ _)) hT1 (hs ▸ xt0_up (cnt := (cup cnt 25)) (κ := 5) (by decide)))
  exact W.vret hx hb hr (fun t ht hW => ⟨⟨rfl, _, hTF, adup_self, by rw [ht]; exact hX1, hOF, hGF⟩, hS.F ht⟩) hS.2.2 dX6_init_12

theorem dX8_init_0 : decode cX8_init 0 = .ok (.aload_n 0, 1) := by decide +kernel
theorem dX8_init_1 : decode cX8_init 1 = .ok (.invokespecial 3, 3) := by decide +kernel
theorem dX8_init_4 : decode cX8_init 4 = .ok (.aload_n 0, 1) := by decide +kernel
theorem dX8_init_5 : decode cX8_init 5 = .ok (.sipush 400, 3) := by decide +kernel
theorem dX8_init_8 : decode cX8_init 8 = .ok (.newarray .int, 2) := by decide +kernel
theorem dX8_init_10 : decode cX8_init 10 = .ok (.putfield 9, 3) := by decide +kernel
theorem dX8_init_13 : decode cX8_init 13 = .ok (.aload_n 0, 1) := by decide +kernel
theorem dX8_init_14 : decode cX8_init 14 = .ok (.bipush 36, 2) := by decide +kernel
theorem dX8_init_16 : decode cX8_init 16 = .ok (.newarray .int, 2) := by decide +kernel
theorem dX8_init_18 : decode cX8_init 18 = .ok (.putfield 15, 3) := by decide +kernel
theorem dX8_init_21 : decode cX8_init 21 = .ok (.aload_n 0, 1) := by decide +kernel
theorem dX8_init_22 : decode cX8_init 22 = .ok (.iconst 0, 1) := by decide +kernel
theorem dX8_init_23 : decode cX8_init 23 = .ok (.putfield 18, 3) := by decide +kernel
theorem dX8_init_26 : decode cX8_init 26 = .ok (.aload_n 0, 1) := by decide +kernel
theorem dX8_init_27 : decode cX8_init 27 = .ok (.iconst 0, 1) := by decide +kernel
theorem dX8_init_28 : decode cX8_init 28 = .ok (.putfield 22, 3) := by decide +kernel
theorem dX8_init_31 : decode cX8_init 31 = .ok (.aload_n 0, 1) := by decide +kernel
theorem dX8_init_32 : decode cX8_init 32 = .ok (.iconst 0, 1) := by decide +kernel
theorem dX8_init_33 : decode cX8_init 33 = .ok (.putfield 25, 3) := by decide +kernel
theorem dX8_init_36 : decode cX8_init 36 = .ok (.return_, 1) := by decide +kernel
set_option maxRecDepth 100000 in
set_option maxHeartbeats 4000000 in
theorem i_X8_init (l : Launch) (D : va_G) (A : Nat → Prop) (ad : Nat → Nat → Nat) (cy : Nat → ClassId) (cnt : Nat → Nat) (Y : va_W) (w : XW) (a : Nat) (hc28 : cnt 28 = 0) (hc29 : cnt 29 = 0) (hc7 : cnt 7 = 0) : Met l yX8_init (.code yX8_init cX8_init 1 none :: lw_ok) { frames := 1, cells := 2, slots := 436, locals := 12 } (va_Pc [.ref a] (XIp D A ad cy cnt Y w a 7 [.null, .null, .int 0, .int 0, .int 0])) (XIq D A ad cy cnt Y a 7 0 (cup (cup (cup cnt 28) 29) 7) (wz (wz (wz w 28 0) 29 0) 7 0)) 2 436 A := by
  refine Met.ofW (cc := cX8_init) (maxL := 1) (ret := none) (by decide) rfl ?_
  intro p e s m args below meth c s₁ B hml hv
  obtain ⟨rfl, hA, hX, hO, hK, hG, hZ⟩ := hv
  have hx := B.exec
  have hb := B.bytes
  have hr := B.returns
  have hts := atoms_spec (ws := .code yX8_init cX8_init 1 none :: lw_ok) B.pre
  have hin : ∀ w ∈ lw_ok, w ∈ (Cond.code yX8_init cX8_init 1 none :: lw_ok) := fun w h => List.mem_cons_of_mem _ h
  have hown : s.vm.findClass RX8 = some m.cls := findClass_of_methodNamed B.named
  have hlocks := B.notSynchronized
  have hin2 : meth.name = "<init>" := (name_of_methodNamed B.named B.method).1
  have hS : va_S A s.heap s.heap [] := va_S.rf
  have hl := lv_entry ([.ref a]) (n := 1) (Nat.le_of_ble_eq_true rfl)
  rw [lg_entry_eq]
  generalize (lg_sl ([.ref a]) ++ List.replicate (1 - (lg_sl ([.ref a])).length) Slot.unset).toArray = ls at hl ⊢
  have hl : lv_has ls 1 [(0, .ref a)] := hl
  refine lv_aload_n hx hb dX8_init_0 rfl (lv_at hl 0 rfl) ?_
  refine W.objInit hx hb hown (hts _ (hin _ wt_69)) (hts _ (hin _ wt_28)) (hts _ (hin _ wobj)) rfl (by rw [hml]; exact hl.1) rfl dX8_init_1 (Nat.le_of_ble_eq_true rfl) (Nat.le_of_ble_eq_true rfl) ?_
  refine W.eq (g2 := F0 m 4 ls []) rfl ?_
  refine lv_aload_n hx hb dX8_init_4 rfl (lv_at hl 0 rfl) ?_
  refine lv_sipush (v := 400) hx hb dX8_init_5 (by decide) ?_
  have hs1 : cnt 28 = 0 := by simp [cup, va_up, hc28]
  refine r_newaI hx hb (hts _ (hin _ wt_63)) hK hX hG hO hS hA 28 400 0 hs1 rfl (by decide) (by decide) (by decide) (by decide) (Nat.le_of_ble_eq_true rfl) (Nat.le_of_ble_eq_true rfl) dX8_init_8 (fun q1 ad1 H hT1 hq1 hX hG hO hS => ?_)
  refine r_putF hx hb hts hin xk_7 hown hK hX hS (k := 0) (v := .ref q1) (by decide) rfl wt_70 rfl hin2 rfl (tyX8_ok 0 (by decide)) rfl rfl (Nat.le_of_ble_eq_true rfl) dX8_init_10 (fun H locs hX hS => ?_)
  have hX : XX D A ad1 cy (cup cnt 28) ((a, .inr (7, [.ref q1, .null, .int 0, .int 0, .int 0])) :: Y) (wz w 28 0) H := hX
  refine lv_aload_n hx hb dX8_init_13 rfl (lv_at hl 0 rfl) ?_
  refine lv_bipush (v := 36) hx hb dX8_init_14 (by decide) ?_
  have hs2 : (cup cnt 28) 29 = 0 := by simp [cup, va_up, hc29]
  refine r_newaI hx hb (hts _ (hin _ wt_63)) hK hX hG hO hS hA 29 36 0 hs2 rfl (by decide) (by decide) (by decide) (by decide) (Nat.le_of_ble_eq_true rfl) (Nat.le_of_ble_eq_true rfl) dX8_init_16 (fun q2 ad2 H hT2 hq2 hX hG hO hS => ?_)
  refine r_putF hx hb hts hin xk_7 hown hK hX hS (k := 1) (v := .ref q2) (by decide) rfl wt_71 rfl hin2 rfl (tyX8_ok 1 (by decide)) rfl rfl (Nat.le_of_ble_eq_true rfl) dX8_init_18 (fun H locs hX hS => ?_)
  have hX : XX D A ad2 cy (cup (cup cnt 28) 29) ((a, .inr (7, [.ref q1, .ref q2, .int 0, .int 0, .int 0])) :: Y) (wz (wz w 28 0) 29 0) H := hX
  refine lv_aload_n hx hb dX8_init_21 rfl (lv_at hl 0 rfl) ?_
  refine lv_iconst (v := 0) hx hb dX8_init_22 (by decide) ?_
  refine r_put hx hb hts hin xk_7 hown hK hX hS (k := 2) (v := .int 0) (by decide) rfl wt_72 rfl (tyX8_ok 2 (by decide)) rfl rfl (Nat.le_of_ble_eq_true rfl) dX8_init_23 (fun H locs hX hS => ?_)
  have hX : XX D A ad2 cy (cup (cup cnt 28) 29) ((a, .inr (7, [.ref q1, .ref q2, .int 0, .int 0, .int 0])) :: Y) (wz (wz w 28 0) 29 0) H := hX
  refine lv_aload_n hx hb dX8_init_26 rfl (lv_at hl 0 rfl) ?_
  refine lv_iconst (v := 0) hx hb dX8_init_27 (by decide) ?_
  refine r_put hx hb hts hin xk_7 hown hK hX hS (k := 3) (v := .int 0) (by decide) rfl wt_73 rfl (tyX8_ok 3 (by decide)) rfl rfl (Nat.le_of_ble_eq_true rfl) dX8_init_28 (fun H locs hX hS => ?_)
  have hX : XX D A ad2 cy (cup (cup cnt 28) 29) ((a, .inr (7, [.ref q1, .ref q2, .int 0, .int 0, .int 0])) :: Y) (wz (wz w 28 0) 29 0) H := hX
  refine lv_aload_n hx hb dX8_init_31 rfl (lv_at hl 0 rfl) ?_
  refine lv_iconst (v := 0) hx hb dX8_init_32 (by decide) ?_
  refine r_put hx hb hts hin xk_7 hown hK hX hS (k := 4) (v := .int 0) (by decide) rfl wt_74 rfl (tyX8_ok 4 (by decide)) rfl rfl (Nat.le_of_ble_eq_true rfl) dX8_init_33 (fun H locs hX hS => ?_)
  have hX : XX D A ad2 cy (cup (cup cnt 28) 29) ((a, .inr (7, [.ref q1, .ref q2, .int 0, .int 0, .int 0])) :: Y) (wz (wz w 28 0) 29 0) H := hX
  have qq1 : ad2 28 0 = q1 := ((hT2.1 28 0 (by simp [cup, va_up, hc28, hc29])).trans hq1)
  have qq2 : ad2 29 0 = q2 := hq2
  have hs : (cup (cup cnt 28) 29) 7 = 0 := by simp [cup, va_up, hc7]
  obtain ⟨hX1, hfr⟩ := xx_sealn (κ := 7) (n0 := 0) (w' := (wz (wz (wz w 28 0) 29 0) 7 0)) hs hG hO hX (by
      rw [xcell_o (by decide)]
      generalize hwv : (wz (wz (wz w 28 0) 29 0) 7 0) = wv
      generalize hav : adup ad2 7 0 a = av
      refine congrArg (fun z => Sum.inr (7, z)) ?_
      show ([.ref q1, .ref q2, .int 0, .int 0, .int 0] : List Value) = [.ref (av 28 0), .ref (av 29 0), .int (gI wv 7 0 2), .int (gI wv 7 0 3), .int (gI wv 7 0 4)]
      have ev1 : av 28 0 = q1 := by rw [← hav]; exact (adup_ne (fun h => absurd h.1 (by decide))).trans qq1
      have ev2 : av 29 0 = q2 := by rw [← hav]; exact (adup_ne (fun h => absurd h.1 (by decide))).trans qq2
      have hI : ∀ k, gI wv 7 0 k = 0 := fun k => by rw [← hwv, wz_I]
      have hR : ∀ k, gR wv 7 0 k = none := fun k => by rw [← hwv]; first | rw [wz_R] | (simp only [gR_sI]; rw [wz_R])
      have hJ : ∀ k, gJ wv 7 0 k = 0 := fun k => by rw [← hwv]; first | rw [wz_J] | (simp only [gJ_sI]; rw [wz_J])
      simp only [hI, hR, hJ, ev1, ev2]
      try rfl) (fun κ' i' h => by
        have hne : ¬ (κ' = 7 ∧ i' = 0) := fun z => by rw [z.1, z.2, hs] at h; omega
        exact wz_ne hne)
  have hGF : XG (adup ad2 7 0 a) (cup (cup (cup cnt 28) 29) 7) := by
    have h9 := xg_cup (κ := 7) (q := a) hG (by decide) hfr (fun k c0 h1 h2 => by
      have hm : c0 ∈ ((xcl[7]?).getD []) := List.mem_of_getElem? (xfc_at h1)
      rw [hs]
      have hall : ∀ c0 ∈ ((xcl[7]?).getD []), c0.1 = 3 → xser c0.2.2.1 c0.2.2.2 0 < (cup (cup (cup cnt 28) 29) 7) c0.2.1 := by
        intro c1 hc1 hc3
        have hc2 : c1 ∈ [(3, 28, 0, 0), (3, 29, 0, 0), (0, 0, 0, 0), (0, 0, 0, 0), (0, 0, 0, 0)] := hc1
        simp only [List.mem_cons, List.not_mem_nil, or_false] at hc2
        rcases hc2 with rfl | rfl | rfl | rfl | rfl <;> first | (exact absurd hc3 (by decide)) | (simp [cup, va_up, xser, hc28, hc29]; done) | (simp [cup, va_up, xser, hc28, hc29]; omega)
      exact hall c0 hm h2)
    rw [hs] at h9
    exact h9
  have hOF : XD (cup (cup (cup cnt 28) 29) 7) (wz (wz (wz w 28 0) 29 0) 7 0) := xd_cup hO (fun κ' i' h => by
      have hne : ¬ (κ' = 7 ∧ i' = 0) := fun z => by rw [z.1, z.2, hs] at h; omega
      first | exact (wz_ne hne).2.2.1 | (simp only [gR_sI]; exact (wz_ne hne).2.2.1)) (fun k c0 j h1 h2 h3 => by
      rw [hs] at h3
      first | (rw [wz_R] at h3; cases h3) | (simp only [gR_sI] at h3; rw [wz_R] at h3; cases h3)) (fun a0 k j h1 h2 h3 => by
      exact absurd h1 (by unfold xac; rw [if_pos (by decide)]; exact fun h => by cases h))
  have hTF : XT0 ad cnt (adup ad2 7 0 a) := (xt0_tr (fun κ => (Nat.le_trans (cup_le _ _ _) (cup_le _ _ _))) (xt0_tr (fun κ => (cup_le _ _ _)) hT1 hT2) (hs ▸ xt0_up (cnt := (cup (cup cnt 28) 29)) (κ := 7) (by decide)))
  exact W.vret hx hb hr (fun t ht hW => ⟨⟨rfl, _, hTF, adup_self, by rw [ht]; exact hX1, hOF, hGF⟩, hS.F ht⟩) hS.2.2 dX8_init_36

theorem dX10_init_0 : decode cX10_init 0 = .ok (.aload_n 0, 1) := by decide +kernel
theorem dX10_init_1 : decode cX10_init 1 = .ok (.invokespecial 3, 3) := by decide +kernel
theorem dX10_init_4 : decode cX10_init 4 = .ok (.aload_n 0, 1) := by decide +kernel
theorem dX10_init_5 : decode cX10_init 5 = .ok (.sipush 400, 3) := by decide +kernel
theorem dX10_init_8 : decode cX10_init 8 = .ok (.newarray .int, 2) := by decide +kernel
theorem dX10_init_10 : decode cX10_init 10 = .ok (.putfield 9, 3) := by decide +kernel
theorem dX10_init_13 : decode cX10_init 13 = .ok (.aload_n 0, 1) := by decide +kernel
theorem dX10_init_14 : decode cX10_init 14 = .ok (.iconst 0, 1) := by decide +kernel
theorem dX10_init_15 : decode cX10_init 15 = .ok (.putfield 15, 3) := by decide +kernel
theorem dX10_init_18 : decode cX10_init 18 = .ok (.aload_n 0, 1) := by decide +kernel
theorem dX10_init_19 : decode cX10_init 19 = .ok (.iconst 0, 1) := by decide +kernel
theorem dX10_init_20 : decode cX10_init 20 = .ok (.putfield 19, 3) := by decide +kernel
theorem dX10_init_23 : decode cX10_init 23 = .ok (.aload_n 0, 1) := by decide +kernel
theorem dX10_init_24 : decode cX10_init 24 = .ok (.iconst 0, 1) := by decide +kernel
theorem dX10_init_25 : decode cX10_init 25 = .ok (.putfield 22, 3) := by decide +kernel
theorem dX10_init_28 : decode cX10_init 28 = .ok (.aload_n 0, 1) := by decide +kernel
theorem dX10_init_29 : decode cX10_init 29 = .ok (.iconst 0, 1) := by decide +kernel
theorem dX10_init_30 : decode cX10_init 30 = .ok (.putfield 25, 3) := by decide +kernel
theorem dX10_init_33 : decode cX10_init 33 = .ok (.aload_n 0, 1) := by decide +kernel
theorem dX10_init_34 : decode cX10_init 34 = .ok (.iconst 0, 1) := by decide +kernel
theorem dX10_init_35 : decode cX10_init 35 = .ok (.putfield 28, 3) := by decide +kernel
theorem dX10_init_38 : decode cX10_init 38 = .ok (.return_, 1) := by decide +kernel
set_option maxRecDepth 100000 in
set_option maxHeartbeats 4000000 in
theorem i_X10_init (l : Launch) (D : va_G) (A : Nat → Prop) (ad : Nat → Nat → Nat) (cy : Nat → ClassId) (cnt : Nat → Nat) (Y : va_W) (w : XW) (a : Nat) (hc34 : cnt 34 = 0) (hc9 : cnt 9 = 0) : Met l yX10_init (.code yX10_init cX10_init 1 none :: lw_ok) { frames := 1, cells := 1, slots := 400, locals := 12 } (va_Pc [.ref a] (XIp D A ad cy cnt Y w a 9 [.null, .int 0, .int 0, .int 0, .int 0, .int 0])) (XIq D A ad cy cnt Y a 9 0 (cup (cup cnt 34) 9) (wz (wz w 34 0) 9 0)) 1 400 A := by
  refine Met.ofW (cc := cX10_init) (maxL := 1) (ret := none) (by decide) rfl ?_
  intro p e s m args below meth c s₁ B hml hv
  obtain ⟨rfl, hA, hX, hO, hK, hG, hZ⟩ := hv
  have hx := B.exec
  have hb := B.bytes
  have hr := B.returns
  have hts := atoms_spec (ws := .code yX10_init cX10_init 1 none :: lw_ok) B.pre
  have hin : ∀ w ∈ lw_ok, w ∈ (Cond.code yX10_init cX10_init 1 none :: lw_ok) := fun w h => List.mem_cons_of_mem _ h
  have hown : s.vm.findClass RX10 = some m.cls := findClass_of_methodNamed B.named
  have hlocks := B.notSynchronized
  have hin2 : meth.name = "<init>" := (name_of_methodNamed B.named B.method).1
  have hS : va_S A s.heap s.heap [] := va_S.rf
  have hl := lv_entry ([.ref a]) (n := 1) (Nat.le_of_ble_eq_true rfl)
  rw [lg_entry_eq]
  generalize (lg_sl ([.ref a]) ++ List.replicate (1 - (lg_sl ([.ref a])).length) Slot.unset).toArray = ls at hl ⊢
  have hl : lv_has ls 1 [(0, .ref a)] := hl
  refine lv_aload_n hx hb dX10_init_0 rfl (lv_at hl 0 rfl) ?_
  refine W.objInit hx hb hown (hts _ (hin _ wt_35)) (hts _ (hin _ wt_28)) (hts _ (hin _ wobj)) rfl (by rw [hml]; exact hl.1) rfl dX10_init_1 (Nat.le_of_ble_eq_true rfl) (Nat.le_of_ble_eq_true rfl) ?_
  refine W.eq (g2 := F0 m 4 ls []) rfl ?_
  refine lv_aload_n hx hb dX10_init_4 rfl (lv_at hl 0 rfl) ?_
  refine lv_sipush (v := 400) hx hb dX10_init_5 (by decide) ?_
  have hs1 : cnt 34 = 0 := by simp [cup, va_up, hc34]
  refine r_newaI hx hb (hts _ (hin _ wt_63)) hK hX hG hO hS hA 34 400 0 hs1 rfl (by decide) (by decide) (by decide) (by decide) (Nat.le_of_ble_eq_true rfl) (Nat.le_of_ble_eq_true rfl) dX10_init_8 (fun q1 ad1 H hT1 hq1 hX hG hO hS => ?_)
  refine r_putF hx hb hts hin xk_9 hown hK hX hS (k := 0) (v := .ref q1) (by decide) rfl wt_36 rfl hin2 rfl (tyX10_ok 0 (by decide)) rfl rfl (Nat.le_of_ble_eq_true rfl) dX10_init_10 (fun H locs hX hS => ?_)
  have hX : XX D A ad1 cy (cup cnt 34) ((a, .inr (9, [.ref q1, .int 0, .int 0, .int 0, .int 0, .int 0])) :: Y) (wz w 34 0) H := hX
  refine lv_aload_n hx hb dX10_init_13 rfl (lv_at hl 0 rfl) ?_
  refine lv_iconst (v := 0) hx hb dX10_init_14 (by decide) ?_
  refine r_put hx hb hts hin xk_9 hown hK hX hS (k := 1) (v := .int 0) (by decide) rfl wt_37 rfl (tyX10_ok 1 (by decide)) rfl rfl (Nat.le_of_ble_eq_true rfl) dX10_init_15 (fun H locs hX hS => ?_)
  have hX : XX D A ad1 cy (cup cnt 34) ((a, .inr (9, [.ref q1, .int 0, .int 0, .int 0, .int 0, .int 0])) :: Y) (wz w 34 0) H := hX
  refine lv_aload_n hx hb dX10_init_18 rfl (lv_at hl 0 rfl) ?_
  refine lv_iconst (v := 0) hx hb dX10_init_19 (by decide) ?_
  refine r_put hx hb hts hin xk_9 hown hK hX hS (k := 2) (v := .int 0) (by decide) rfl wt_39 rfl (tyX10_ok 2 (by decide)) rfl rfl (Nat.le_of_ble_eq_true rfl) dX10_init_20 (fun H locs hX hS => ?_)
  have hX : XX D A ad1 cy (cup cnt 34) ((a, .inr (9, [.ref q1, .int 0, .int 0, .int 0, .int 0, .int 0])) :: Y) (wz w 34 0) H := hX
  refine lv_aload_n hx hb dX10_init_23 rfl (lv_at hl 0 rfl) ?_
  refine lv_iconst (v := 0) hx hb dX10_init_24 (by decide) ?_
  refine r_put hx hb hts hin xk_9 hown hK hX hS (k := 3) (v := .int 0) (by decide) rfl wt_42 rfl (tyX10_ok 3 (by decide)) rfl rfl (Nat.le_of_ble_eq_true rfl) dX10_init_25 (fun H locs hX hS => ?_)
  have hX : XX D A ad1 cy (cup cnt 34) ((a, .inr (9, [.ref q1, .int 0, .int 0, .int 0, .int 0, .int 0])) :: Y) (wz w 34 0) H := hX
  refine lv_aload_n hx hb dX10_init_28 rfl (lv_at hl 0 rfl) ?_
  refine lv_iconst (v := 0) hx hb dX10_init_29 (by decide) ?_
  refine r_put hx hb hts hin xk_9 hown hK hX hS (k := 4) (v := .int 0) (by decide) rfl wt_45 rfl (tyX10_ok 4 (by decide)) rfl rfl (Nat.le_of_ble_eq_true rfl) dX10_init_30 (fun H locs hX hS => ?_)
  have hX : XX D A ad1 cy (cup cnt 34) ((a, .inr (9, [.ref q1, .int 0, .int 0, .int 0, .int 0, .int 0])) :: Y) (wz w 34 0) H := hX
  refine lv_aload_n hx hb dX10_init_33 rfl (lv_at hl 0 rfl) ?_
  refine lv_iconst (v := 0) hx hb dX10_init_34 (by decide) ?_
  refine r_put hx hb hts hin xk_9 hown hK hX hS (k := 5) (v := .int 0) (by decide) rfl wt_48 rfl (tyX10_ok 5 (by decide)) rfl rfl (Nat.le_of_ble_eq_true rfl) dX10_init_35 (fun H locs hX hS => ?_)
  have hX : XX D A ad1 cy (cup cnt 34) ((a, .inr (9, [.ref q1, .int 0, .int 0, .int 0, .int 0, .int 0])) :: Y) (wz w 34 0) H := hX
  have qq1 : ad1 34 0 = q1 := hq1
  have hs : (cup cnt 34) 9 = 0 := by simp [cup, va_up, hc9]
  obtain ⟨hX1, hfr⟩ := xx_sealn (κ := 9) (n0 := 0) (w' := (wz (wz w 34 0) 9 0)) hs hG hO hX (by
      rw [xcell_o (by decide)]
      generalize hwv : (wz (wz w 34 0) 9 0) = wv
      generalize hav : adup ad1 9 0 a = av
      refine congrArg (fun z => Sum.inr (9, z)) ?_
      show ([.ref q1, .int 0, .int 0, .int 0, .int 0, .int 0] : List Value) = [.ref (av 34 0), .int (gI wv 9 0 1), .int (gI wv 9 0 2), .int (gI wv 9 0 3), .int (gI wv 9 0 4), .int (gI wv 9 0 5)]
      have ev1 : av 34 0 = q1 := by rw [← hav]; exact (adup_ne (fun h => absurd h.1 (by decide))).trans qq1
      have hI : ∀ k, gI wv 9 0 k = 0 := fun k => by rw [← hwv, wz_I]
      have hR : ∀ k, gR wv 9 0 k = none := fun k => by rw [← hwv]; first | rw [wz_R] | (simp only [gR_sI]; rw [wz_R])
      have hJ : ∀ k, gJ wv 9 0 k = 0 := fun k => by rw [← hwv]; first | rw [wz_J] | (simp only [gJ_sI]; rw [wz_J])
      simp only [hI, hR, hJ, ev1]
      try rfl) (fun κ' i' h => by
        have hne : ¬ (κ' = 9 ∧ i' = 0) := fun z => by rw [z.1, z.2, hs] at h; omega
        exact wz_ne hne)
  have hGF : XG (adup ad1 9 0 a) (cup (cup cnt 34) 9) := by
    have h9 := xg_cup (κ := 9) (q := a) hG (by decide) hfr (fun k c0 h1 h2 => by
      have hm : c0 ∈ ((xcl[9]?).getD []) := List.mem_of_getElem? (xfc_at h1)
      rw [hs]
      have hall : ∀ c0 ∈ ((xcl[9]?).getD []), c0.1 = 3 → xser c0.2.2.1 c0.2.2.2 0 < (cup (cup cnt 34) 9) c0.2.1 := by
        intro c1 hc1 hc3
        have hc2 : c1 ∈ [(3, 34, 0, 0), (0, 0, 0, 0), (0, 0, 0, 0), (0, 0, 0, 0), (0, 0, 0, 0), (0, 0, 0, 0)] := hc1
        simp only [List.mem_cons, List.not_mem_nil, or_false] at hc2
        rcases hc2 with rfl | rfl | rfl | rfl | rfl | rfl <;> first | (exact absurd hc3 (by decide)) | (simp [cup, va_up, xser, hc34]; done) | (simp [cup, va_up, xser, hc34]; omega)
      exact hall c0 hm h2)
    rw [hs] at h9
    exact h9
  have hOF : XD (cup (cup cnt 34) 9) (wz (wz w 34 0) 9 0) := xd_cup hO (fun κ' i' h => by
      have hne : ¬ (κ' = 9 ∧ i' = 0) := fun z => by rw [z.1, z.2, hs] at h; omega
      first | exact (wz_ne hne).2.2.1 | (simp only [gR_sI]; exact (wz_ne hne).2.2.1)) (fun k c0 j h1 h2 h3 => by
      rw [hs] at h3
      first | (rw [wz_R] at h3; cases h3) | (simp only [gR_sI] at h3; rw [wz_R] at h3; cases h3)) (fun a0 k j h1 h2 h3 => by
      exact absurd h1 (by unfold xac; rw [if_pos (by decide)]; exact fun h => by cases h))
  have hTF : XT0 ad cnt (adup ad1 9 0 a) := (xt0_tr (fun κ => (cup_le _ _ _)) hT1 (hs ▸ xt0_up (cnt := (cup cnt 34)) (κ := 9) (by decide)))
  exact W.vret hx hb hr (fun t ht hW => ⟨⟨rfl, _, hTF, adup_self, by rw [ht]; exact hX1, hOF, hGF⟩, hS.F ht⟩) hS.2.2 dX10_init_38
