/-! ===== Arrays.copyOf ===== -/
theorem dcp_0 : decode cJ7_copyOf_59c91 0 = .ok (.iload_n 1, 1) := by decide +kernel
theorem dcp_1 : decode cJ7_copyOf_59c91 1 = .ok (.aload_n 0, 1) := by decide +kernel
theorem dcp_2 : decode cJ7_copyOf_59c91 2 = .ok (.arraylength, 1) := by decide +kernel
theorem dcp_3 : decode cJ7_copyOf_59c91 3 = .ok (.if_icmp .ne 11, 3) := by decide +kernel
theorem dcp_6 : decode cJ7_copyOf_59c91 6 = .ok (.aload_n 0, 1) := by decide +kernel
theorem dcp_7 : decode cJ7_copyOf_59c91 7 = .ok (.invokevirtual 316, 3) := by decide +kernel
theorem dcp_10 : decode cJ7_copyOf_59c91 10 = .ok (.checkcast 317, 3) := by decide +kernel
theorem dcp_13 : decode cJ7_copyOf_59c91 13 = .ok (.areturn, 1) := by decide +kernel
theorem dcp_14 : decode cJ7_copyOf_59c91 14 = .ok (.iload_n 1, 1) := by decide +kernel
theorem dcp_15 : decode cJ7_copyOf_59c91 15 = .ok (.newarray .int, 2) := by decide +kernel
theorem dcp_17 : decode cJ7_copyOf_59c91 17 = .ok (.astore_n 2, 1) := by decide +kernel
theorem dcp_18 : decode cJ7_copyOf_59c91 18 = .ok (.aload_n 0, 1) := by decide +kernel
theorem dcp_19 : decode cJ7_copyOf_59c91 19 = .ok (.iconst 0, 1) := by decide +kernel
theorem dcp_20 : decode cJ7_copyOf_59c91 20 = .ok (.aload_n 2, 1) := by decide +kernel
theorem dcp_21 : decode cJ7_copyOf_59c91 21 = .ok (.iconst 0, 1) := by decide +kernel
theorem dcp_22 : decode cJ7_copyOf_59c91 22 = .ok (.aload_n 0, 1) := by decide +kernel
theorem dcp_23 : decode cJ7_copyOf_59c91 23 = .ok (.arraylength, 1) := by decide +kernel
theorem dcp_24 : decode cJ7_copyOf_59c91 24 = .ok (.iload_n 1, 1) := by decide +kernel
theorem dcp_25 : decode cJ7_copyOf_59c91 25 = .ok (.invokestatic 304, 3) := by decide +kernel
theorem dcp_28 : decode cJ7_copyOf_59c91 28 = .ok (.invokestatic 150, 3) := by decide +kernel
theorem dcp_31 : decode cJ7_copyOf_59c91 31 = .ok (.aload_n 2, 1) := by decide +kernel
theorem dcp_32 : decode cJ7_copyOf_59c91 32 = .ok (.areturn, 1) := by decide +kernel
/-- a world with a copy of a row -/
def wcp (w : XW) (κ0 κ1 n1 len : Nat) : XW := (va_up w.1 κ1 (va_up (w.1 κ1) n1 (w.1 κ0 0)), va_up w.2.1 κ1 (va_up (w.2.1 κ1) n1 (fun _ => 0)), va_up w.2.2.1 κ1 (va_up (w.2.2.1 κ1) n1 (fun _ => none)), va_up w.2.2.2 κ1 (va_up (w.2.2.2 κ1) n1 len))
theorem wcp_I {w : XW} {κ0 κ1 n1 len : Nat} : gI (wcp w κ0 κ1 n1 len) κ1 n1 = gI w κ0 0 := up2_self _ _ _ _
theorem wcp_J {w : XW} {κ0 κ1 n1 len : Nat} : gJ (wcp w κ0 κ1 n1 len) κ1 n1 = fun _ => 0 := up2_self _ _ _ _
theorem wcp_R {w : XW} {κ0 κ1 n1 len : Nat} : gR (wcp w κ0 κ1 n1 len) κ1 n1 = fun _ => none := up2_self _ _ _ _
theorem wcp_Z {w : XW} {κ0 κ1 n1 len : Nat} : gZ (wcp w κ0 κ1 n1 len) κ1 n1 = len := up2_self _ _ _ _
theorem wcp_ne {w : XW} {κ0 κ1 n1 len κ' i' : Nat} (h : ¬ (κ' = κ1 ∧ i' = n1)) : gI (wcp w κ0 κ1 n1 len) κ' i' = gI w κ' i' ∧ gJ (wcp w κ0 κ1 n1 len) κ' i' = gJ w κ' i' ∧ gR (wcp w κ0 κ1 n1 len) κ' i' = gR w κ' i' ∧ gZ (wcp w κ0 κ1 n1 len) κ' i' = gZ w κ' i' := ⟨up2_ne _ _ h, up2_ne _ _ h, up2_ne _ _ h, up2_ne _ _ h⟩
theorem wcp_live {w : XW} {cnt : Nat → Nat} {κ0 κ1 len : Nat} (κ' i' : Nat) (h : i' < cnt κ') : gI (wcp w κ0 κ1 (cnt κ1) len) κ' i' = gI w κ' i' ∧ gJ (wcp w κ0 κ1 (cnt κ1) len) κ' i' = gJ w κ' i' ∧ gR (wcp w κ0 κ1 (cnt κ1) len) κ' i' = gR w κ' i' ∧ gZ (wcp w κ0 κ1 (cnt κ1) len) κ' i' = gZ w κ' i' := wcp_ne (fun q => by rw [q.1, q.2] at h; omega)
def XCp (D : va_G) (A : Nat → Prop) (ad : Nat → Nat → Nat) (cy : Nat → ClassId) (cnt : Nat → Nat) (Y : va_W) (w : XW) (U : State) : Prop :=
  (∀ q, U.heap.size ≤ q → A q) ∧ XX D A ad cy cnt Y w U.heap ∧ XD cnt w ∧ va_K D vwCl (xty cy) U ∧ XG ad cnt ∧ va_Nw (.castable "[I" "java/lang/Cloneable") U
def XCq (D : va_G) (A : Nat → Prop) (ad : Nat → Nat → Nat) (cy : Nat → ClassId) (cnt : Nat → Nat) (Y : va_W) (κ n : Nat) (cnt' : Nat → Nat) (w' : XW) : Array Value → State → Outcome → State → Prop := fun _ st oc t =>
  (∃ q ad', oc = .returned (some (.ref q)) ∧ XT0 ad cnt ad' ∧ ad' κ n = q ∧ XX D A ad' cy cnt' Y w' t.heap ∧ XD cnt' w' ∧ XG ad' cnt') ∧ va_F A st t
theorem xcp_blind {D : va_G} {A : Nat → Prop} {ad : Nat → Nat → Nat} {cy : Nat → ClassId} {cnt : Nat → Nat} {Y : va_W} {w : XW} {as : List Value} : FrameBlind (va_Pc as (XCp D A ad cy cnt Y w)) := by
  intro a1 U g mk q
  obtain ⟨q0, q1, q2, q3, q4, q5, q6⟩ := q
  exact ⟨q0, q1, q2, q3, va_K.moved (u := U) (U := U.calling g mk a1) (Vm.Alike.refl U.vm) q4, q5, va_Nw.same rfl (u := U) rfl q6⟩
/-- a cell that a copy makes comes into the pool -/
theorem xx_copy {D : va_G} {A : Nat → Prop} {ad : Nat → Nat → Nat} {cy : Nat → ClassId} {cnt : Nat → Nat} {Y : va_W} {w : XW} {H1 : Heap} {L : List Nat} {f : Nat → va_E} {κ0 κ1 k q : Nat} {g : Nat → Int32} (hκ1 : xac κ1 = some (0, 0, 0)) (hG : XG ad cnt) (hO : XD cnt w) (hf : ∀ κ i, κ < 65 → i < cnt κ → ad κ i ∈ L ∧ f (ad κ i) = xcell ad cy w κ i) (hg : ∀ i, i < k → g i = gI w κ0 0 i)
    (hP1 : va_P D vwCl ((Y ++ va_pl L f) ++ [(q, .inl (cy 0, k, .inl g))]) H1) (hD1 : va_D A ((Y ++ va_pl L f) ++ [(q, .inl (cy 0, k, .inl g))])) :
    ∃ ad', XT0 ad cnt ad' ∧ ad' κ1 (cnt κ1) = q ∧ XX D A ad' cy (cup cnt κ1) Y (wcp w κ0 κ1 (cnt κ1) k) H1 ∧ XD (cup cnt κ1) (wcp w κ0 κ1 (cnt κ1) k) ∧ XG ad' (cup cnt κ1) := by
  have hcell : vp_cell (cy 0) (k, .inl g) = vp_cell (cy 0) (k, .inl (gI w κ0 0)) := by
    rw [vp_cell_i, vp_cell_i]
    unfold arrV
    congr 2
    funext j
    show Value.int (g j.val) = Value.int (gI w κ0 0 j.val)
    rw [hg j.val j.isLt]
  have hP2 : va_P D vwCl ((Y ++ va_pl L f) ++ [(q, .inl (cy 0, k, .inl (gI w κ0 0)))]) H1 := by
    intro j x hj
    by_cases hl : j < (Y ++ va_pl L f).length
    · rw [List.getElem?_append_left hl] at hj
      exact hP1 j x (by rw [List.getElem?_append_left hl]; exact hj)
    · rw [List.getElem?_append_right (by omega)] at hj
      have hz : j - (Y ++ va_pl L f).length < 1 := (List.getElem?_eq_some_iff.mp hj).1
      have h0 : j - (Y ++ va_pl L f).length = 0 := by omega
      rw [h0] at hj
      have hj : some (q, (.inl (cy 0, k, .inl (gI w κ0 0)) : va_E)) = some x := hj
      injection hj with hj
      subst hj
      have h3 := hP1 j (q, .inl (cy 0, k, .inl g)) (by rw [List.getElem?_append_right (by omega), h0]; rfl)
      show H1[q]? = some (vp_cell (cy 0) (k, .inl (gI w κ0 0)))
      rw [← hcell]
      exact h3
  have hD2 : va_D A ((Y ++ va_pl L f) ++ [(q, .inl (cy 0, k, .inl (gI w κ0 0)))]) := by
    have key : ∀ (j : Nat) (x : Nat × va_E), ((Y ++ va_pl L f) ++ [(q, (.inl (cy 0, k, .inl (gI w κ0 0)) : va_E))])[j]? = some x → ∃ y : Nat × va_E, ((Y ++ va_pl L f) ++ [(q, (.inl (cy 0, k, .inl g) : va_E))])[j]? = some y ∧ y.1 = x.1 := by
      intro j x hj
      by_cases hl : j < (Y ++ va_pl L f).length
      · rw [List.getElem?_append_left hl] at hj
        exact ⟨x, by rw [List.getElem?_append_left hl]; exact hj, rfl⟩
      · rw [List.getElem?_append_right (by omega)] at hj
        have hz : j - (Y ++ va_pl L f).length < 1 := (List.getElem?_eq_some_iff.mp hj).1
        have h0 : j - (Y ++ va_pl L f).length = 0 := by omega
        rw [h0] at hj
        have hj : some (q, (.inl (cy 0, k, .inl (gI w κ0 0)) : va_E)) = some x := hj
        injection hj with hj
        subst hj
        exact ⟨(q, .inl (cy 0, k, .inl g)), by rw [List.getElem?_append_right (by omega), h0]; rfl, rfl⟩
    refine ⟨fun i j x y hi hj hxy => ?_, fun j x hj => ?_⟩
    · obtain ⟨x', h1, h2⟩ := key i x hi
      obtain ⟨y', h3, h4⟩ := key j y hj
      exact hD1.1 i j x' y' h1 h3 (by rw [h2, h4]; exact hxy)
    · obtain ⟨x', h1, h2⟩ := key j x hj
      rw [← h2]
      exact hD1.2 j x' h1
  have hqL : q ∉ L := fun h => by
    obtain ⟨k0, hk0⟩ := va_pl_get (X := Y) (f := f) h
    exact va_D_last hD2 hk0 rfl
  rw [List.append_assoc] at hP2 hD2
  have h65 := xac_lt hκ1
  refine ⟨adup ad κ1 (cnt κ1) q, xt0_up h65, adup_self, xx_take hG hO hqL hP2 hD2 hf ?_ wcp_live, xd_cup hO (fun κ' i' h => (wcp_live κ' i' h).2.2.1) (fun k c0 j h1 h2 h3 => by rw [wcp_R] at h3; cases h3) (fun a k j h1 h2 h3 => by rw [wcp_R] at h3; cases h3), xg_cup hG h65 (fun κ' i' h1 h2 z => hqL (by rw [← z]; exact (hf κ' i' h1 h2).1)) (fun k c0 h => ?_)⟩
  · rw [xcell_a hκ1]
    unfold xln
    rw [if_pos rfl, wcp_Z, wcp_I]
    rfl
  · exfalso
    have h12 : ¬ κ1 < 12 := fun h => by unfold xac at hκ1; rw [if_pos h] at hκ1; cases hκ1
    unfold xfc at h
    have hn : xcl[κ1]? = none := List.getElem?_eq_none (by have : xcl.length = 12 := by decide
                                                           omega)
    rw [hn] at h
    cases h
set_option maxRecDepth 100000 in
set_option maxHeartbeats 4000000 in
theorem m_copyOf (l : Launch) (D : va_G) (A : Nat → Prop) (ad : Nat → Nat → Nat) (cy : Nat → ClassId) (cnt : Nat → Nat) (Y : va_W) (w : XW) {κ0 κ1 N0 k : Nat} (hκ0 : xac κ0 = some (0, N0, 0)) (hκ1 : xac κ1 = some (0, 0, 0)) (hN0 : ¬ N0 = 0) (hN4 : N0 ≤ 400) (hk : k ≤ N0) (h0 : 0 < cnt κ0) :
    Met l yJ7_copyOf_59c91 (.code yJ7_copyOf_59c91 cJ7_copyOf_59c91 3 (some (.array .int)) :: lw_ok) { frames := 1, cells := 1, slots := k, locals := 60 } (va_Pc [.ref (ad κ0 0), .int (nI k)] (XCp D A ad cy cnt Y w)) (XCq D A ad cy cnt Y κ1 (cnt κ1) (cup cnt κ1) (wcp w κ0 κ1 (cnt κ1) k)) 1 k A := by
  refine Met.ofW (cc := cJ7_copyOf_59c91) (maxL := 3) (ret := some (.array .int)) (by decide) rfl ?_
  intro p e s m args below meth c s₁ B hml hv
  obtain ⟨rfl, hA, hX, hO, hK, hG, hC⟩ := hv
  have hx := B.exec
  have hb := B.bytes
  have hr := B.returns
  have hts := atoms_spec (ws := .code yJ7_copyOf_59c91 cJ7_copyOf_59c91 3 (some (.array .int)) :: lw_ok) B.pre
  have hin : ∀ w ∈ lw_ok, w ∈ (Cond.code yJ7_copyOf_59c91 cJ7_copyOf_59c91 3 (some (.array .int)) :: lw_ok) := fun w h => List.mem_cons_of_mem _ h
  have hown : s.vm.findClass "java/util/Arrays" = some m.cls := findClass_of_methodNamed B.named
  have hlocks := B.notSynchronized
  have hS : va_S A s.heap s.heap [] := va_S.rf
  have hl := lv_entry ([.ref (ad κ0 0), .int (nI k)]) (n := 3) (Nat.le_of_ble_eq_true rfl)
  rw [lg_entry_eq]
  generalize (lg_sl ([.ref (ad κ0 0), .int (nI k)]) ++ List.replicate (3 - (lg_sl ([.ref (ad κ0 0), .int (nI k)])).length) Slot.unset).toArray = ls at hl ⊢
  have hl : lv_has ls 3 [(0, .ref (ad κ0 0)), (1, .int (nI k))] := hl
  obtain ⟨L, f, hP, hD, hf⟩ := hX
  have h65 := xac_lt hκ0
  obtain ⟨g1, g2⟩ := hf κ0 0 h65 h0
  obtain ⟨k0, hk0⟩ := va_pl_get (X := Y) (f := f) g1
  rw [g2, xcell_a hκ0] at hk0
  have hk0 : (Y ++ va_pl L f)[k0]? = some (ad κ0 0, .inl (cy 0, N0, .inl (gI w κ0 0))) := by
    rw [hk0]
    unfold xln
    rw [if_neg hN0]
    rfl
  have hRA : s.vm.findClass "[I" = some (cy 0) := (hK.2 0 (cy 0, .int) rfl).2
  refine lv_iload_n hx hb dcp_0 rfl (lv_at hl 1 rfl) ?_
  refine lv_aload_n hx hb dcp_1 rfl (lv_at hl 0 rfl) ?_
  refine va_alen (v := nI N0) hx hb hK hP k0 0 hk0 rfl rfl dcp_2 ?_
  refine lv_icmp_ne (tgt := 14) hx hb dcp_3 (by decide) (fun cb => ?_) (fun cb => ?_)
  · have hne : ¬ k = N0 := fun z => cb (by rw [z])
    refine lv_iload_n hx hb dcp_14 rfl (lv_at hl 1 rfl) ?_
    refine va_newa (atype := .int) (ty := .int) (a0 := (k, .inl (fun _ => 0))) hx hb (hts _ (hin _ wt_63)) rfl hK hP hD hS hA (fun _ => rfl) (nI_pos (by omega)) (cl (by omega)) (by show k * 4 ≤ _; omega) (Nat.le_of_ble_eq_true rfl) (by show 0 + k ≤ k; omega) dcp_15 (fun q cA H1 hK1 hP1 hD1 hS1 => ?_)
    have e1 := (hK1.2 7 (cA, .int) rfl).2
    have hcA : cA = cy 0 := Option.some.inj (e1.symm.trans hRA)
    subst hcA
    refine lv_astore_n (lv' := [(2, .ref q), (0, .ref (ad κ0 0)), (1, .int (nI k))]) hx hb dcp_17 rfl hl (by decide) rfl (fun ls hl => ?_)
    refine lv_aload_n hx hb dcp_18 rfl (lv_at hl 1 rfl) ?_
    refine lv_iconst (v := 0) hx hb dcp_19 (by decide) ?_
    refine lv_aload_n hx hb dcp_20 rfl (lv_at hl 0 rfl) ?_
    refine lv_iconst (v := 0) hx hb dcp_21 (by decide) ?_
    refine lv_aload_n hx hb dcp_22 rfl (lv_at hl 1 rfl) ?_
    have hlen : k0 < (Y ++ va_pl L f).length := (List.getElem?_eq_some_iff.mp hk0).1
    have hk1 : ((Y ++ va_pl L f) ++ [(q, (.inl (cy 0, k, .inl (fun _ => 0)) : va_E))])[k0]? = some (ad κ0 0, .inl (cy 0, N0, .inl (gI w κ0 0))) := by rw [List.getElem?_append_left hlen]; exact hk0
    have hk2 : ((Y ++ va_pl L f) ++ [(q, (.inl (cy 0, k, .inl (fun _ => 0)) : va_E))])[(Y ++ va_pl L f).length]? = some (q, .inl (cy 0, k, .inl (fun _ => 0))) := by rw [List.getElem?_append_right (Nat.le_refl _), Nat.sub_self]; rfl
    refine va_alen (v := nI N0) hx hb hK1 hP1 k0 0 hk1 rfl rfl dcp_23 ?_
    refine lv_iload_n hx hb dcp_24 rfl (lv_at hl 2 rfl) ?_
    refine va_mmin hx hb (by rw [hml]; exact hl.1.symm) hown (hts _ (hin _ wt_576)) (hts _ (hin _ wt_577)) (hts _ (hin _ wt_19)) (hts _ (hin _ wt_578)) (Nat.le_of_ble_eq_true rfl) (Nat.le_of_ble_eq_true rfl) (Nat.le_of_ble_eq_true rfl) (by show 0 + k ≤ k; omega) dcp_25 ?_
    have emin : (if nI k < nI N0 then nI k else nI N0) = nI k := if_pos (nI_lt (by omega) (by omega))
    rw [emin]
    refine va_copyi hx hb (by rw [hml]; exact hl.1.symm) hown (hts _ (hin _ wt_579)) (hts _ (hin _ wt_581)) (hts _ (hin _ wt_580)) (hts _ (hin _ wt_20)) hK1 hP1 hD1 hS1 k0 (Y ++ va_pl L f).length 0 0 hk1 hk2 rfl rfl rfl (sp := 0) (dp := 0) (n := nI k) (by decide) (by decide) (nI_pos (by omega)) (by rw [cl (by omega)]; show 0 + k ≤ N0; omega) (by rw [cl (by omega)]; show 0 + k ≤ k; omega) (fun i hi => rfl) (Nat.le_of_ble_eq_true rfl) (Nat.le_of_ble_eq_true rfl) dcp_28 (fun H2 locs2 hP2 hD2 hS2 => ?_)
    rw [cl (by omega)] at hP2 hD2
    have eset : ((Y ++ va_pl L f) ++ [(q, (.inl (cy 0, k, .inl (fun _ => 0)) : va_E))]).set (Y ++ va_pl L f).length (q, .inl (cy 0, k, .inl (va_cpy (gI w κ0 0) (fun _ => 0) (0 : Int32).toNatClampNeg (0 : Int32).toNatClampNeg k))) = (Y ++ va_pl L f) ++ [(q, .inl (cy 0, k, .inl (va_cpy (gI w κ0 0) (fun _ => 0) (0 : Int32).toNatClampNeg (0 : Int32).toNatClampNeg k)))] := by
      rw [List.set_append_right _ _ (Nat.le_refl _), Nat.sub_self]
      rfl
    rw [eset] at hP2 hD2
    obtain ⟨ad', t1, t2, t3, t4, t5⟩ := xx_copy (κ0 := κ0) hκ1 hG hO hf (fun i hi => by
      show (if (0 : Int32).toNatClampNeg ≤ i ∧ i < (0 : Int32).toNatClampNeg + k then gI w κ0 0 ((0 : Int32).toNatClampNeg + (i - (0 : Int32).toNatClampNeg)) else 0) = _
      have z : (0 : Int32).toNatClampNeg = 0 := rfl
      rw [z, if_pos ⟨by omega, by omega⟩, Nat.sub_zero, Nat.zero_add]) hP2 hD2
    refine lv_aload_n hx hb dcp_31 rfl (lv_at hl 0 rfl) ?_
    refine W.widen (k := 1) (n := k) (by omega) (by omega) ?_
    exact W.aret hx hb hr (Or.inr ⟨_, rfl⟩) (Or.inr ⟨_, rfl⟩) (fun t ht hW => ⟨⟨q, ad', rfl, t1, t2, by rw [ht]; exact t3, t4, t5⟩, hS2.F ht⟩) hS2.2.2 dcp_32
  · have hkN : k = N0 := (nI_eq (by omega) (by omega)).mp cb
    subst hkN
    refine lv_aload_n hx hb dcp_6 rfl (lv_at hl 0 rfl) ?_
    refine va_clone hx hb (by rw [hml]; exact hl.1.symm) hown (hts _ (hin _ wt_569)) (hts _ (hin _ wt_570)) (hts _ (hin _ wt_571)) (hts _ (hin _ wt_572)) (hts _ (hin _ wt_573)) hC hK hP hD hS hA k0 0 hk0 rfl hRA (fun i v hv => ?_) (Nat.le_of_ble_eq_true rfl) (Nat.le_of_ble_eq_true rfl) (Nat.le_of_ble_eq_true rfl) (by show 0 + k ≤ k; omega) dcp_7 (fun q H1 hK1 hP1 hD1 hS1 => ?_)
    · rw [vp_cell_i] at hv
      unfold arrV at hv
      rw [Array.getElem?_ofFn] at hv
      split at hv
      · injection hv with hv
        rw [← hv]
        rfl
      · cases hv
    have hk2 : ((Y ++ va_pl L f) ++ [(q, (.inl (cy 0, k, .inl (gI w κ0 0)) : va_E))])[(Y ++ va_pl L f).length]? = some (q, .inl (cy 0, k, .inl (gI w κ0 0))) := by rw [List.getElem?_append_right (Nat.le_refl _), Nat.sub_self]; rfl
    obtain ⟨ad', t1, t2, t3, t4, t5⟩ := xx_copy (κ0 := κ0) hκ1 hG hO hf (fun i hi => rfl) hP1 hD1
    refine va_castA hx hb hown (hts _ (hin _ wt_575)) hP1 (Y ++ va_pl L f).length hk2 hRA dcp_10 ?_
    refine W.widen (k := 1) (n := k) (by omega) (by omega) ?_
    exact W.aret hx hb hr (Or.inr ⟨_, rfl⟩) (Or.inr ⟨_, rfl⟩) (fun t ht hW => ⟨⟨q, ad', rfl, t1, t2, by rw [ht]; exact t3, t4, t5⟩, hS1.F ht⟩) hS1.2.2 dcp_13
