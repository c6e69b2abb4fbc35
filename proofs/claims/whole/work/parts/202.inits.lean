theorem xx_sealn {D : va_G} {A : Nat → Prop} {ad : Nat → Nat → Nat} {cy : Nat → ClassId} {cnt : Nat → Nat} {Y : va_W} {w w' : XW} {H : Heap} {κ n0 a : Nat} {e : va_E} (hn : cnt κ = n0) (hG : XG ad cnt) (hO : XD cnt w) (h : XX D A ad cy cnt ((a, e) :: Y) w H)
    (he : e = xcell (adup ad κ n0 a) cy w' κ n0) (hw : ∀ κ' i', i' < cnt κ' → gI w' κ' i' = gI w κ' i' ∧ gJ w' κ' i' = gJ w κ' i' ∧ gR w' κ' i' = gR w κ' i' ∧ gZ w' κ' i' = gZ w κ' i') :
    XX D A (adup ad κ n0 a) cy (cup cnt κ) Y w' H ∧ ∀ κ' i', κ' < 65 → i' < cnt κ' → ad κ' i' ≠ a := by
  subst hn
  exact xx_seal hG hO h he hw
theorem wobj : Cond.code Lib.objectInit ⟨#[0xb1]⟩ 1 none ∈ lw_ok := lw_okt 29 (by decide +kernel) (by decide +kernel)
theorem wt_28 : (Jvm.Cond.instanceMethod ({ cls := "java/lang/Object", name := "<init>", desc := "()V" } : Jvm.MethodName)) ∈ lw_ok := lw_okt 28 (by decide +kernel) (by decide +kernel)
theorem wt_63 : (Jvm.Cond.arrayClass Jvm.ClassFile.FieldType.int) ∈ lw_ok := lw_okt 63 (by decide +kernel) (by decide +kernel)
theorem wt_172 : (Jvm.Cond.methodLink "WinterKeep$Scene" (3 : Nat) ({ cls := "java/lang/Object", name := "<init>", desc := "()V" } : Jvm.MethodName)) ∈ lw_ok := lw_okt 172 (by decide +kernel) (by decide +kernel)
theorem dX9_init_0 : decode cX9_init 0 = .ok (.aload_n 0, 1) := by decide +kernel
theorem dX9_init_1 : decode cX9_init 1 = .ok (.invokespecial 3, 3) := by decide +kernel
theorem dX9_init_4 : decode cX9_init 4 = .ok (.aload_n 0, 1) := by decide +kernel
theorem dX9_init_5 : decode cX9_init 5 = .ok (.iconst 0, 1) := by decide +kernel
theorem dX9_init_6 : decode cX9_init 6 = .ok (.putfield 9, 3) := by decide +kernel
theorem dX9_init_9 : decode cX9_init 9 = .ok (.aload_n 0, 1) := by decide +kernel
theorem dX9_init_10 : decode cX9_init 10 = .ok (.iconst 0, 1) := by decide +kernel
theorem dX9_init_11 : decode cX9_init 11 = .ok (.putfield 15, 3) := by decide +kernel
theorem dX9_init_14 : decode cX9_init 14 = .ok (.aload_n 0, 1) := by decide +kernel
theorem dX9_init_15 : decode cX9_init 15 = .ok (.bipush 6, 2) := by decide +kernel
theorem dX9_init_17 : decode cX9_init 17 = .ok (.newarray .int, 2) := by decide +kernel
theorem dX9_init_19 : decode cX9_init 19 = .ok (.putfield 18, 3) := by decide +kernel
theorem dX9_init_22 : decode cX9_init 22 = .ok (.aload_n 0, 1) := by decide +kernel
theorem dX9_init_23 : decode cX9_init 23 = .ok (.bipush 6, 2) := by decide +kernel
theorem dX9_init_25 : decode cX9_init 25 = .ok (.newarray .int, 2) := by decide +kernel
theorem dX9_init_27 : decode cX9_init 27 = .ok (.putfield 22, 3) := by decide +kernel
theorem dX9_init_30 : decode cX9_init 30 = .ok (.aload_n 0, 1) := by decide +kernel
theorem dX9_init_31 : decode cX9_init 31 = .ok (.bipush 6, 2) := by decide +kernel
theorem dX9_init_33 : decode cX9_init 33 = .ok (.newarray .int, 2) := by decide +kernel
theorem dX9_init_35 : decode cX9_init 35 = .ok (.putfield 25, 3) := by decide +kernel
theorem dX9_init_38 : decode cX9_init 38 = .ok (.aload_n 0, 1) := by decide +kernel
theorem dX9_init_39 : decode cX9_init 39 = .ok (.bipush 6, 2) := by decide +kernel
theorem dX9_init_41 : decode cX9_init 41 = .ok (.newarray .int, 2) := by decide +kernel
theorem dX9_init_43 : decode cX9_init 43 = .ok (.putfield 28, 3) := by decide +kernel
theorem dX9_init_46 : decode cX9_init 46 = .ok (.return_, 1) := by decide +kernel
set_option maxRecDepth 100000 in
set_option maxHeartbeats 4000000 in
theorem i_X9_init (l : Launch) (D : va_G) (A : Nat → Prop) (ad : Nat → Nat → Nat) (cy : Nat → ClassId) (cnt : Nat → Nat) (Y : va_W) (w : XW) (a : Nat) (hc30 : cnt 30 = (cnt 8)) (hc31 : cnt 31 = (cnt 8)) (hc32 : cnt 32 = (cnt 8)) (hc33 : cnt 33 = (cnt 8)) : Met l yX9_init (.code yX9_init cX9_init 1 none :: lw_ok) { frames := 1, cells := 4, slots := 24, locals := 12 } (va_Pc [.ref a] (XIp D A ad cy cnt Y w a 8 [.int 0, .int 0, .null, .null, .null, .null])) (XIq D A ad cy cnt Y a 8 (cnt 8) (cup (cup (cup (cup (cup cnt 30) 31) 32) 33) 8) (wz (wz (wz (wz (wz w 30 (cnt 8)) 31 (cnt 8)) 32 (cnt 8)) 33 (cnt 8)) 8 (cnt 8))) 4 24 A := by
  refine Met.ofW (cc := cX9_init) (maxL := 1) (ret := none) (by decide) rfl ?_
  intro p e s m args below meth c s₁ B hml hv
  obtain ⟨rfl, hA, hX, hO, hK, hG, hZ⟩ := hv
  have hx := B.exec
  have hb := B.bytes
  have hr := B.returns
  have hts := atoms_spec (ws := .code yX9_init cX9_init 1 none :: lw_ok) B.pre
  have hin : ∀ w ∈ lw_ok, w ∈ (Cond.code yX9_init cX9_init 1 none :: lw_ok) := fun w h => List.mem_cons_of_mem _ h
  have hown : s.vm.findClass RX9 = some m.cls := findClass_of_methodNamed B.named
  have hlocks := B.notSynchronized
  have hin2 : meth.name = "<init>" := (name_of_methodNamed B.named B.method).1
  have hS : va_S A s.heap s.heap [] := va_S.rf
  have hl := lv_entry ([.ref a]) (n := 1) (Nat.le_of_ble_eq_true rfl)
  rw [lg_entry_eq]
  generalize (lg_sl ([.ref a]) ++ List.replicate (1 - (lg_sl ([.ref a])).length) Slot.unset).toArray = ls at hl ⊢
  have hl : lv_has ls 1 [(0, .ref a)] := hl
  refine lv_aload_n hx hb dX9_init_0 rfl (lv_at hl 0 rfl) ?_
  refine W.objInit hx hb hown (hts _ (hin _ wt_172)) (hts _ (hin _ wt_28)) (hts _ (hin _ wobj)) rfl (by rw [hml]; exact hl.1) rfl dX9_init_1 (Nat.le_of_ble_eq_true rfl) (Nat.le_of_ble_eq_true rfl) ?_
  refine W.eq (g2 := F0 m 4 ls []) rfl ?_
  refine lv_aload_n hx hb dX9_init_4 rfl (lv_at hl 0 rfl) ?_
  refine lv_iconst (v := 0) hx hb dX9_init_5 (by decide) ?_
  refine r_put hx hb hts hin xk_8 hown hK hX hS (k := 0) (v := .int 0) (by decide) rfl wt_173 rfl (tyX9_ok 0 (by decide)) rfl rfl (Nat.le_of_ble_eq_true rfl) dX9_init_6 (fun H locs hX hS => ?_)
  have hX : XX D A ad cy cnt ((a, .inr (8, [.int 0, .int 0, .null, .null, .null, .null])) :: Y) w H := hX
  refine lv_aload_n hx hb dX9_init_9 rfl (lv_at hl 0 rfl) ?_
  refine lv_iconst (v := 0) hx hb dX9_init_10 (by decide) ?_
  refine r_put hx hb hts hin xk_8 hown hK hX hS (k := 1) (v := .int 0) (by decide) rfl wt_175 rfl (tyX9_ok 1 (by decide)) rfl rfl (Nat.le_of_ble_eq_true rfl) dX9_init_11 (fun H locs hX hS => ?_)
  have hX : XX D A ad cy cnt ((a, .inr (8, [.int 0, .int 0, .null, .null, .null, .null])) :: Y) w H := hX
  refine lv_aload_n hx hb dX9_init_14 rfl (lv_at hl 0 rfl) ?_
  refine lv_bipush (v := 6) hx hb dX9_init_15 (by decide) ?_
  have hs1 : cnt 30 = (cnt 8) := by simp [cup, va_up, hc30]
  refine r_newaI hx hb (hts _ (hin _ wt_63)) hK hX hG hO hS hA 30 6 (cnt 8) hs1 rfl (by decide) (by decide) (by decide) (by decide) (Nat.le_of_ble_eq_true rfl) (Nat.le_of_ble_eq_true rfl) dX9_init_17 (fun q1 ad1 H hT1 hq1 hX hG hO hS => ?_)
  refine r_putF hx hb hts hin xk_8 hown hK hX hS (k := 2) (v := .ref q1) (by decide) rfl wt_179 rfl hin2 rfl (tyX9_ok 2 (by decide)) rfl rfl (Nat.le_of_ble_eq_true rfl) dX9_init_19 (fun H locs hX hS => ?_)
  have hX : XX D A ad1 cy (cup cnt 30) ((a, .inr (8, [.int 0, .int 0, .ref q1, .null, .null, .null])) :: Y) (wz w 30 (cnt 8)) H := hX
  refine lv_aload_n hx hb dX9_init_22 rfl (lv_at hl 0 rfl) ?_
  refine lv_bipush (v := 6) hx hb dX9_init_23 (by decide) ?_
  have hs2 : (cup cnt 30) 31 = (cnt 8) := by simp [cup, va_up, hc31]
  refine r_newaI hx hb (hts _ (hin _ wt_63)) hK hX hG hO hS hA 31 6 (cnt 8) hs2 rfl (by decide) (by decide) (by decide) (by decide) (Nat.le_of_ble_eq_true rfl) (Nat.le_of_ble_eq_true rfl) dX9_init_25 (fun q2 ad2 H hT2 hq2 hX hG hO hS => ?_)
  refine r_putF hx hb hts hin xk_8 hown hK hX hS (k := 3) (v := .ref q2) (by decide) rfl wt_184 rfl hin2 rfl (tyX9_ok 3 (by decide)) rfl rfl (Nat.le_of_ble_eq_true rfl) dX9_init_27 (fun H locs hX hS => ?_)
  have hX : XX D A ad2 cy (cup (cup cnt 30) 31) ((a, .inr (8, [.int 0, .int 0, .ref q1, .ref q2, .null, .null])) :: Y) (wz (wz w 30 (cnt 8)) 31 (cnt 8)) H := hX
  refine lv_aload_n hx hb dX9_init_30 rfl (lv_at hl 0 rfl) ?_
  refine lv_bipush (v := 6) hx hb dX9_init_31 (by decide) ?_
  have hs3 : (cup (cup cnt 30) 31) 32 = (cnt 8) := by simp [cup, va_up, hc32]
  refine r_newaI hx hb (hts _ (hin _ wt_63)) hK hX hG hO hS hA 32 6 (cnt 8) hs3 rfl (by decide) (by decide) (by decide) (by decide) (Nat.le_of_ble_eq_true rfl) (Nat.le_of_ble_eq_true rfl) dX9_init_33 (fun q3 ad3 H hT3 hq3 hX hG hO hS => ?_)
  refine r_putF hx hb hts hin xk_8 hown hK hX hS (k := 4) (v := .ref q3) (by decide) rfl wt_187 rfl hin2 rfl (tyX9_ok 4 (by decide)) rfl rfl (Nat.le_of_ble_eq_true rfl) dX9_init_35 (fun H locs hX hS => ?_)
  have hX : XX D A ad3 cy (cup (cup (cup cnt 30) 31) 32) ((a, .inr (8, [.int 0, .int 0, .ref q1, .ref q2, .ref q3, .null])) :: Y) (wz (wz (wz w 30 (cnt 8)) 31 (cnt 8)) 32 (cnt 8)) H := hX
  refine lv_aload_n hx hb dX9_init_38 rfl (lv_at hl 0 rfl) ?_
  refine lv_bipush (v := 6) hx hb dX9_init_39 (by decide) ?_
  have hs4 : (cup (cup (cup cnt 30) 31) 32) 33 = (cnt 8) := by simp [cup, va_up, hc33]
  refine r_newaI hx hb (hts _ (hin _ wt_63)) hK hX hG hO hS hA 33 6 (cnt 8) hs4 rfl (by decide) (by decide) (by decide) (by decide) (Nat.le_of_ble_eq_true rfl) (Nat.le_of_ble_eq_true rfl) dX9_init_41 (fun q4 ad4 H hT4 hq4 hX hG hO hS => ?_)
  refine r_putF hx hb hts hin xk_8 hown hK hX hS (k := 5) (v := .ref q4) (by decide) rfl wt_192 rfl hin2 rfl (tyX9_ok 5 (by decide)) rfl rfl (Nat.le_of_ble_eq_true rfl) dX9_init_43 (fun H locs hX hS => ?_)
  have hX : XX D A ad4 cy (cup (cup (cup (cup cnt 30) 31) 32) 33) ((a, .inr (8, [.int 0, .int 0, .ref q1, .ref q2, .ref q3, .ref q4])) :: Y) (wz (wz (wz (wz w 30 (cnt 8)) 31 (cnt 8)) 32 (cnt 8)) 33 (cnt 8)) H := hX
  have qq1 : ad4 30 (cnt 8) = q1 := ((hT4.1 30 (cnt 8) (by simp [cup, va_up, hc30, hc31, hc32, hc33])).trans ((hT3.1 30 (cnt 8) (by simp [cup, va_up, hc30, hc31, hc32, hc33])).trans ((hT2.1 30 (cnt 8) (by simp [cup, va_up, hc30, hc31, hc32, hc33])).trans hq1)))
  have qq2 : ad4 31 (cnt 8) = q2 := ((hT4.1 31 (cnt 8) (by simp [cup, va_up, hc30, hc31, hc32, hc33])).trans ((hT3.1 31 (cnt 8) (by simp [cup, va_up, hc30, hc31, hc32, hc33])).trans hq2))
  have qq3 : ad4 32 (cnt 8) = q3 := ((hT4.1 32 (cnt 8) (by simp [cup, va_up, hc30, hc31, hc32, hc33])).trans hq3)
  have qq4 : ad4 33 (cnt 8) = q4 := hq4
  have hs : (cup (cup (cup (cup cnt 30) 31) 32) 33) 8 = (cnt 8) := by simp [cup, va_up]
  obtain ⟨hX1, hfr⟩ := xx_sealn (κ := 8) (n0 := (cnt 8)) (w' := (wz (wz (wz (wz (wz w 30 (cnt 8)) 31 (cnt 8)) 32 (cnt 8)) 33 (cnt 8)) 8 (cnt 8))) hs hG hO hX (by
      rw [xcell_o (by decide)]
      refine congrArg (fun z => Sum.inr (8, z)) ?_
      show ([.int 0, .int 0, .ref q1, .ref q2, .ref q3, .ref q4] : List Value) = [.int (gI (wz (wz (wz (wz (wz w 30 (cnt 8)) 31 (cnt 8)) 32 (cnt 8)) 33 (cnt 8)) 8 (cnt 8)) 8 (cnt 8) 0), .int (gI (wz (wz (wz (wz (wz w 30 (cnt 8)) 31 (cnt 8)) 32 (cnt 8)) 33 (cnt 8)) 8 (cnt 8)) 8 (cnt 8) 1), .ref (adup ad4 8 (cnt 8) a 30 (cnt 8)), .ref (adup ad4 8 (cnt 8) a 31 (cnt 8)), .ref (adup ad4 8 (cnt 8) a 32 (cnt 8)), .ref (adup ad4 8 (cnt 8) a 33 (cnt 8))]
      have hI : ∀ k, gI (wz (wz (wz (wz (wz w 30 (cnt 8)) 31 (cnt 8)) 32 (cnt 8)) 33 (cnt 8)) 8 (cnt 8)) 8 (cnt 8) k = 0 := fun k => by rw [wz_I]
      have hR : ∀ k, gR (wz (wz (wz (wz (wz w 30 (cnt 8)) 31 (cnt 8)) 32 (cnt 8)) 33 (cnt 8)) 8 (cnt 8)) 8 (cnt 8) k = none := fun k => by first | rw [wz_R] | (simp only [gR_sI]; rw [wz_R])
      have hJ : ∀ k, gJ (wz (wz (wz (wz (wz w 30 (cnt 8)) 31 (cnt 8)) 32 (cnt 8)) 33 (cnt 8)) 8 (cnt 8)) 8 (cnt 8) k = 0 := fun k => by first | rw [wz_J] | (simp only [gJ_sI]; rw [wz_J])
      simp only [hI, hR, hJ, (show adup ad4 8 (cnt 8) a 30 (cnt 8) = q1 from (adup_ne (fun h => absurd h.1 (by decide))).trans qq1), (show adup ad4 8 (cnt 8) a 31 (cnt 8) = q2 from (adup_ne (fun h => absurd h.1 (by decide))).trans qq2), (show adup ad4 8 (cnt 8) a 32 (cnt 8) = q3 from (adup_ne (fun h => absurd h.1 (by decide))).trans qq3), (show adup ad4 8 (cnt 8) a 33 (cnt 8) = q4 from (adup_ne (fun h => absurd h.1 (by decide))).trans qq4)]
      try rfl) (fun κ' i' h => by
        have hne : ¬ (κ' = 8 ∧ i' = (cnt 8)) := fun z => by rw [z.1, z.2, hs] at h; omega
        exact wz_ne hne)
  have hGF : XG (adup ad4 8 (cnt 8) a) (cup (cup (cup (cup (cup cnt 30) 31) 32) 33) 8) := by
    have h9 := xg_cup (κ := 8) (q := a) hG (by decide) hfr (fun k c0 h1 h2 => by
      have hm : c0 ∈ ((xcl[8]?).getD []) := List.mem_of_getElem? (xfc_at h1)
      rw [hs]
      have hall : ∀ c0 ∈ ((xcl[8]?).getD []), c0.1 = 3 → xser c0.2.2.1 c0.2.2.2 (cnt 8) < (cup (cup (cup (cup (cup cnt 30) 31) 32) 33) 8) c0.2.1 := by
        intro c1 hc1 hc3
        have hc2 : c1 ∈ [(0, 0, 0, 0), (0, 0, 0, 0), (3, 30, 0, 0), (3, 31, 0, 0), (3, 32, 0, 0), (3, 33, 0, 0)] := hc1
        simp only [List.mem_cons, List.not_mem_nil, or_false] at hc2
        rcases hc2 with rfl | rfl | rfl | rfl | rfl | rfl <;> first | (exact absurd hc3 (by decide)) | (simp [cup, va_up, xser, hc30, hc31, hc32, hc33]; done) | (simp [cup, va_up, xser, hc30, hc31, hc32, hc33]; omega)
      exact hall c0 hm h2)
    rw [hs] at h9
    exact h9
  have hOF : XD (cup (cup (cup (cup (cup cnt 30) 31) 32) 33) 8) (wz (wz (wz (wz (wz w 30 (cnt 8)) 31 (cnt 8)) 32 (cnt 8)) 33 (cnt 8)) 8 (cnt 8)) := xd_cup hO (fun κ' i' h => by
      have hne : ¬ (κ' = 8 ∧ i' = (cnt 8)) := fun z => by rw [z.1, z.2, hs] at h; omega
      first | exact (wz_ne hne).2.2.1 | (simp only [gR_sI]; exact (wz_ne hne).2.2.1)) (fun k c0 j h1 h2 h3 => by
      rw [hs] at h3
      first | (rw [wz_R] at h3; cases h3) | (simp only [gR_sI] at h3; rw [wz_R] at h3; cases h3)) (fun a0 k j h1 h2 h3 => by
      exact absurd h1 (by unfold xac; rw [if_pos (by decide)]; exact fun h => by cases h))
  have hTF : XT0 ad cnt (adup ad4 8 (cnt 8) a) := (xt0_tr (fun κ => (Nat.le_trans (Nat.le_trans (Nat.le_trans (cup_le _ _ _) (cup_le _ _ _)) (cup_le _ _ _)) (cup_le _ _ _))) (xt0_tr (fun κ => (Nat.le_trans (Nat.le_trans (cup_le _ _ _) (cup_le _ _ _)) (cup_le _ _ _))) (xt0_tr (fun κ => (Nat.le_trans (cup_le _ _ _) (cup_le _ _ _))) (xt0_tr (fun κ => (cup_le _ _ _)) hT1 hT2) hT3) hT4) (hs ▸ xt0_up (cnt := (cup (cup (cup (cup cnt 30) 31) 32) 33)) (κ := 8) (by decide)))
  exact W.vret hx hb hr (fun t ht hW => ⟨⟨rfl, _, hTF, adup_self, by rw [ht]; exact hX1, hOF, hGF⟩, hS.F ht⟩) hS.2.2 dX9_init_46
