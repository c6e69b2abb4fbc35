/-! ===== rows of making: a new array, a new object, its fields, the end of its making ===== -/
def wz (w : XW) (κ i : Nat) : XW := (va_up w.1 κ (va_up (w.1 κ) i (fun _ => 0)), va_up w.2.1 κ (va_up (w.2.1 κ) i (fun _ => 0)), va_up w.2.2.1 κ (va_up (w.2.2.1 κ) i (fun _ => none)), w.2.2.2)
theorem up2_self {α : Type} (f : Nat → Nat → α) (κ i : Nat) (v : α) : va_up f κ (va_up (f κ) i v) κ i = v := by rw [va_up_self, va_up_self]
theorem up2_ne {α : Type} (f : Nat → Nat → α) {κ i κ' i' : Nat} (v : α) (h : ¬ (κ' = κ ∧ i' = i)) : va_up f κ (va_up (f κ) i v) κ' i' = f κ' i' := by
  by_cases h1 : κ' = κ
  · subst h1
    rw [va_up_self, va_up_ne _ _ (fun q => h ⟨rfl, q⟩)]
  · rw [va_up_ne _ _ h1]
theorem wz_I {w : XW} {κ i : Nat} : gI (wz w κ i) κ i = fun _ => 0 := up2_self _ _ _ _
theorem wz_J {w : XW} {κ i : Nat} : gJ (wz w κ i) κ i = fun _ => 0 := up2_self _ _ _ _
theorem wz_R {w : XW} {κ i : Nat} : gR (wz w κ i) κ i = fun _ => none := up2_self _ _ _ _
theorem wz_ne {w : XW} {κ i κ' i' : Nat} (h : ¬ (κ' = κ ∧ i' = i)) : gI (wz w κ i) κ' i' = gI w κ' i' ∧ gJ (wz w κ i) κ' i' = gJ w κ' i' ∧ gR (wz w κ i) κ' i' = gR w κ' i' ∧ gZ (wz w κ i) κ' i' = gZ w κ' i' := ⟨up2_ne _ _ h, up2_ne _ _ h, up2_ne _ _ h, rfl⟩
theorem wz_live {w : XW} {cnt : Nat → Nat} {κ : Nat} (κ' i' : Nat) (h : i' < cnt κ') : gI (wz w κ (cnt κ)) κ' i' = gI w κ' i' ∧ gJ (wz w κ (cnt κ)) κ' i' = gJ w κ' i' ∧ gR (wz w κ (cnt κ)) κ' i' = gR w κ' i' ∧ gZ (wz w κ (cnt κ)) κ' i' = gZ w κ' i' := wz_ne (fun q => by rw [q.1, q.2] at h; omega)
theorem va_D_last {A : Nat → Prop} {ws : va_W} {x y : Nat × va_E} {k : Nat} (h : va_D A (ws ++ [x])) (hk : ws[k]? = some y) : y.1 ≠ x.1 := fun e => by
  have hl : k < ws.length := (List.getElem?_eq_some_iff.mp hk).1
  have h0 := h.1 k ws.length y x (by rw [List.getElem?_append_left hl]; exact hk) (by rw [List.getElem?_append_right (Nat.le_refl _), Nat.sub_self]; rfl) e
  omega
/-- the addresses known go on as they were -/
def XT0 (ad : Nat → Nat → Nat) (cnt : Nat → Nat) (ad' : Nat → Nat → Nat) : Prop := (∀ κ i, i < cnt κ → ad' κ i = ad κ i) ∧ ad' 65 = ad 65 ∧ ad' 66 = ad 66
theorem xt0_up {ad : Nat → Nat → Nat} {cnt : Nat → Nat} {κ q : Nat} (h65 : κ < 65) : XT0 ad cnt (adup ad κ (cnt κ) q) := ⟨fun κ' i' h => adup_ne (fun z => by rw [z.1, z.2] at h; omega), va_up_ne _ _ (by omega), va_up_ne _ _ (by omega)⟩
theorem xt0_tr {ad ad1 ad2 : Nat → Nat → Nat} {cnt cnt1 : Nat → Nat} (hle : ∀ κ, cnt κ ≤ cnt1 κ) (h : XT0 ad cnt ad1) (h2 : XT0 ad1 cnt1 ad2) : XT0 ad cnt ad2 := ⟨fun κ i hi => (h2.1 κ i (Nat.lt_of_lt_of_le hi (hle κ))).trans (h.1 κ i hi), h2.2.1.trans h.2.1, h2.2.2.trans h.2.2⟩
theorem xz_ad {A : Nat → Prop} {ad ad' : Nat → Nat → Nat} {cnt : Nat → Nat} {U : State} (h : XZ A ad U) (ht : XT0 ad cnt ad') : XZ A ad' U := by
  obtain ⟨h1, h2, h3⟩ := h
  unfold XZ
  rw [ht.2.1, ht.2.2]
  exact ⟨h1, h2, h3⟩
section Ctor
variable {p : Program} {l : Launch} {e : Env} {R : Room} {s : State} {m : MethodId} {args : Array Value} {below : List Frame} {meth : Method} {c : Code} {H : Heap} {locs : List Loc} {cells slots : Nat} {Q : State → Prop}
variable {cc : ByteArray} {pc : Nat} {ls : Array Slot} {rest : List Value} {D : va_G} {A : Nat → Prop} {ad : Nat → Nat → Nat} {cy : Nat → ClassId} {cnt : Nat → Nat} {Y : va_W} {w : XW}
theorem r_newaI (hx : p.tables.exec = Jvm.exec) (hb : c.code = cc) (harr : (Cond.arrayClass .int).before args s = true) (hK : va_K D vwCl (xty cy) s) (hX : XX D A ad cy cnt Y w H) (hG : XG ad cnt) (hO : XD cnt w) (hS : va_S A s.heap H locs) (hA : ∀ q, s.heap.size ≤ q → A q) (κ N n0 : Nat) (hn0 : cnt κ = n0) (hκ : xac κ = some (0, N, 0)) (hN0 : ¬ N = 0) {n : Int32} (hn : ¬ n < 0) (hN : n.toNatClampNeg = N) (hb2 : N * componentBytes .int ≤ 536870912) (hcells : cells + 1 ≤ R.cells) (hslots : slots + N ≤ R.slots) (hd : decode cc pc = .ok (.newarray .int, 2))
    (kk : ∀ (q : Nat) (ad1 : Nat → Nat → Nat) (H1 : Heap), XT0 ad cnt ad1 → ad1 κ n0 = q → XX D A ad1 cy (cup cnt κ) Y (wz w κ n0) H1 → XG ad1 (cup cnt κ) → XD (cup cnt κ) (wz w κ n0) → va_S A s.heap H1 locs → W p l e R s m args below meth c H1 locs (cells + 1) (slots + N) Q (F0 m (pc + 2) ls (.ref q :: rest))) : W p l e R s m args below meth c H locs cells slots Q (F0 m pc ls (.int n :: rest)) := by
  subst hn0
  obtain ⟨L, f, hP, hD, hf⟩ := hX
  refine va_newa (atype := .int) (ty := .int) (a0 := (N, .inl (fun _ => 0))) hx hb harr rfl hK hP hD hS hA (fun _ => rfl) hn hN hb2 hcells hslots hd (fun q cA H1 hK1 hP1 hD1 hS1 => ?_)
  have e1 := (hK1.2 7 (cA, .int) rfl).2
  have e2 := (hK.2 0 (cy 0, .int) rfl).2
  have hcA : cA = cy 0 := Option.some.inj (e1.symm.trans e2)
  subst hcA
  have hqL : q ∉ L := fun h => by
    obtain ⟨k, hk⟩ := va_pl_get (X := Y) (f := f) h
    exact va_D_last hD1 hk rfl
  rw [List.append_assoc] at hP1 hD1
  have h65 := xac_lt hκ
  have h12 : ¬ κ < 12 := fun h => by unfold xac at hκ; rw [if_pos h] at hκ; cases hκ
  refine kk q (adup ad κ (cnt κ) q) H1 (xt0_up h65) adup_self (xx_take hG hO hqL hP1 hD1 hf ?_ wz_live) (xg_cup hG h65 (fun κ' i' h1 h2 z => hqL (by rw [← z]; exact (hf κ' i' h1 h2).1)) (fun k c0 h => ?_)) (xd_cup hO (fun κ' i' h => (wz_live κ' i' h).2.2.1) (fun k c0 j h1 h2 h3 => by rw [wz_R] at h3; cases h3) (fun a k j h1 h2 h3 => by rw [wz_R] at h3; cases h3)) hS1
  · rw [xcell_a hκ]
    unfold xln
    rw [if_neg hN0, wz_I, wz_J]
    rfl
  · exfalso
    unfold xfc at h
    have hn : xcl[κ]? = none := List.getElem?_eq_none (by have : xcl.length = 12 := by decide
                                                          omega)
    rw [hn] at h
    cases h
theorem r_newaB (hx : p.tables.exec = Jvm.exec) (hb : c.code = cc) (harr : (Cond.arrayClass .byte).before args s = true) (hK : va_K D vwCl (xty cy) s) (hX : XX D A ad cy cnt Y w H) (hG : XG ad cnt) (hO : XD cnt w) (hS : va_S A s.heap H locs) (hA : ∀ q, s.heap.size ≤ q → A q) (κ N n0 : Nat) (hn0 : cnt κ = n0) (hκ : xac κ = some (1, N, 0)) (hN0 : ¬ N = 0) {n : Int32} (hn : ¬ n < 0) (hN : n.toNatClampNeg = N) (hb2 : N * componentBytes .byte ≤ 536870912) (hcells : cells + 1 ≤ R.cells) (hslots : slots + N ≤ R.slots) (hd : decode cc pc = .ok (.newarray .byte, 2))
    (kk : ∀ (q : Nat) (ad1 : Nat → Nat → Nat) (H1 : Heap), XT0 ad cnt ad1 → ad1 κ n0 = q → XX D A ad1 cy (cup cnt κ) Y (wz w κ n0) H1 → XG ad1 (cup cnt κ) → XD (cup cnt κ) (wz w κ n0) → va_S A s.heap H1 locs → W p l e R s m args below meth c H1 locs (cells + 1) (slots + N) Q (F0 m (pc + 2) ls (.ref q :: rest))) : W p l e R s m args below meth c H locs cells slots Q (F0 m pc ls (.int n :: rest)) := by
  subst hn0
  obtain ⟨L, f, hP, hD, hf⟩ := hX
  refine va_newa (atype := .byte) (ty := .byte) (a0 := (N, .inl (fun _ => 0))) hx hb harr rfl hK hP hD hS hA (fun _ => rfl) hn hN hb2 hcells hslots hd (fun q cA H1 hK1 hP1 hD1 hS1 => ?_)
  have e1 := (hK1.2 7 (cA, .byte) rfl).2
  have e2 := (hK.2 1 (cy 1, .byte) rfl).2
  have hcA : cA = cy 1 := Option.some.inj (e1.symm.trans e2)
  subst hcA
  have hqL : q ∉ L := fun h => by
    obtain ⟨k, hk⟩ := va_pl_get (X := Y) (f := f) h
    exact va_D_last hD1 hk rfl
  rw [List.append_assoc] at hP1 hD1
  have h65 := xac_lt hκ
  have h12 : ¬ κ < 12 := fun h => by unfold xac at hκ; rw [if_pos h] at hκ; cases hκ
  refine kk q (adup ad κ (cnt κ) q) H1 (xt0_up h65) adup_self (xx_take hG hO hqL hP1 hD1 hf ?_ wz_live) (xg_cup hG h65 (fun κ' i' h1 h2 z => hqL (by rw [← z]; exact (hf κ' i' h1 h2).1)) (fun k c0 h => ?_)) (xd_cup hO (fun κ' i' h => (wz_live κ' i' h).2.2.1) (fun k c0 j h1 h2 h3 => by rw [wz_R] at h3; cases h3) (fun a k j h1 h2 h3 => by rw [wz_R] at h3; cases h3)) hS1
  · rw [xcell_a hκ]
    unfold xln
    rw [if_neg hN0, wz_I, wz_J]
    rfl
  · exfalso
    unfold xfc at h
    have hn : xcl[κ]? = none := List.getElem?_eq_none (by have : xcl.length = 12 := by decide
                                                          omega)
    rw [hn] at h
    cases h
theorem r_newaZ (hx : p.tables.exec = Jvm.exec) (hb : c.code = cc) (harr : (Cond.arrayClass .boolean).before args s = true) (hK : va_K D vwCl (xty cy) s) (hX : XX D A ad cy cnt Y w H) (hG : XG ad cnt) (hO : XD cnt w) (hS : va_S A s.heap H locs) (hA : ∀ q, s.heap.size ≤ q → A q) (κ N n0 : Nat) (hn0 : cnt κ = n0) (hκ : xac κ = some (2, N, 0)) (hN0 : ¬ N = 0) {n : Int32} (hn : ¬ n < 0) (hN : n.toNatClampNeg = N) (hb2 : N * componentBytes .boolean ≤ 536870912) (hcells : cells + 1 ≤ R.cells) (hslots : slots + N ≤ R.slots) (hd : decode cc pc = .ok (.newarray .boolean, 2))
    (kk : ∀ (q : Nat) (ad1 : Nat → Nat → Nat) (H1 : Heap), XT0 ad cnt ad1 → ad1 κ n0 = q → XX D A ad1 cy (cup cnt κ) Y (wz w κ n0) H1 → XG ad1 (cup cnt κ) → XD (cup cnt κ) (wz w κ n0) → va_S A s.heap H1 locs → W p l e R s m args below meth c H1 locs (cells + 1) (slots + N) Q (F0 m (pc + 2) ls (.ref q :: rest))) : W p l e R s m args below meth c H locs cells slots Q (F0 m pc ls (.int n :: rest)) := by
  subst hn0
  obtain ⟨L, f, hP, hD, hf⟩ := hX
  refine va_newa (atype := .boolean) (ty := .boolean) (a0 := (N, .inl (fun _ => 0))) hx hb harr rfl hK hP hD hS hA (fun _ => rfl) hn hN hb2 hcells hslots hd (fun q cA H1 hK1 hP1 hD1 hS1 => ?_)
  have e1 := (hK1.2 7 (cA, .boolean) rfl).2
  have e2 := (hK.2 2 (cy 2, .boolean) rfl).2
  have hcA : cA = cy 2 := Option.some.inj (e1.symm.trans e2)
  subst hcA
  have hqL : q ∉ L := fun h => by
    obtain ⟨k, hk⟩ := va_pl_get (X := Y) (f := f) h
    exact va_D_last hD1 hk rfl
  rw [List.append_assoc] at hP1 hD1
  have h65 := xac_lt hκ
  have h12 : ¬ κ < 12 := fun h => by unfold xac at hκ; rw [if_pos h] at hκ; cases hκ
  refine kk q (adup ad κ (cnt κ) q) H1 (xt0_up h65) adup_self (xx_take hG hO hqL hP1 hD1 hf ?_ wz_live) (xg_cup hG h65 (fun κ' i' h1 h2 z => hqL (by rw [← z]; exact (hf κ' i' h1 h2).1)) (fun k c0 h => ?_)) (xd_cup hO (fun κ' i' h => (wz_live κ' i' h).2.2.1) (fun k c0 j h1 h2 h3 => by rw [wz_R] at h3; cases h3) (fun a k j h1 h2 h3 => by rw [wz_R] at h3; cases h3)) hS1
  · rw [xcell_a hκ]
    unfold xln
    rw [if_neg hN0, wz_I, wz_J]
    rfl
  · exfalso
    unfold xfc at h
    have hn : xcl[κ]? = none := List.getElem?_eq_none (by have : xcl.length = 12 := by decide
                                                          omega)
    rw [hn] at h
    cases h
theorem r_newaJ (hx : p.tables.exec = Jvm.exec) (hb : c.code = cc) (harr : (Cond.arrayClass .long).before args s = true) (hK : va_K D vwCl (xty cy) s) (hX : XX D A ad cy cnt Y w H) (hG : XG ad cnt) (hO : XD cnt w) (hS : va_S A s.heap H locs) (hA : ∀ q, s.heap.size ≤ q → A q) (κ N n0 : Nat) (hn0 : cnt κ = n0) (hκ : xac κ = some (3, N, 0)) (hN0 : ¬ N = 0) {n : Int32} (hn : ¬ n < 0) (hN : n.toNatClampNeg = N) (hb2 : N * componentBytes .long ≤ 536870912) (hcells : cells + 1 ≤ R.cells) (hslots : slots + N ≤ R.slots) (hd : decode cc pc = .ok (.newarray .long, 2))
    (kk : ∀ (q : Nat) (ad1 : Nat → Nat → Nat) (H1 : Heap), XT0 ad cnt ad1 → ad1 κ n0 = q → XX D A ad1 cy (cup cnt κ) Y (wz w κ n0) H1 → XG ad1 (cup cnt κ) → XD (cup cnt κ) (wz w κ n0) → va_S A s.heap H1 locs → W p l e R s m args below meth c H1 locs (cells + 1) (slots + N) Q (F0 m (pc + 2) ls (.ref q :: rest))) : W p l e R s m args below meth c H locs cells slots Q (F0 m pc ls (.int n :: rest)) := by
  subst hn0
  obtain ⟨L, f, hP, hD, hf⟩ := hX
  refine va_newa (atype := .long) (ty := .long) (a0 := (N, .inr (.inl (fun _ => 0)))) hx hb harr rfl hK hP hD hS hA (fun _ => rfl) hn hN hb2 hcells hslots hd (fun q cA H1 hK1 hP1 hD1 hS1 => ?_)
  have e1 := (hK1.2 7 (cA, .long) rfl).2
  have e2 := (hK.2 3 (cy 3, .long) rfl).2
  have hcA : cA = cy 3 := Option.some.inj (e1.symm.trans e2)
  subst hcA
  have hqL : q ∉ L := fun h => by
    obtain ⟨k, hk⟩ := va_pl_get (X := Y) (f := f) h
    exact va_D_last hD1 hk rfl
  rw [List.append_assoc] at hP1 hD1
  have h65 := xac_lt hκ
  have h12 : ¬ κ < 12 := fun h => by unfold xac at hκ; rw [if_pos h] at hκ; cases hκ
  refine kk q (adup ad κ (cnt κ) q) H1 (xt0_up h65) adup_self (xx_take hG hO hqL hP1 hD1 hf ?_ wz_live) (xg_cup hG h65 (fun κ' i' h1 h2 z => hqL (by rw [← z]; exact (hf κ' i' h1 h2).1)) (fun k c0 h => ?_)) (xd_cup hO (fun κ' i' h => (wz_live κ' i' h).2.2.1) (fun k c0 j h1 h2 h3 => by rw [wz_R] at h3; cases h3) (fun a k j h1 h2 h3 => by rw [wz_R] at h3; cases h3)) hS1
  · rw [xcell_a hκ]
    unfold xln
    rw [if_neg hN0, wz_I, wz_J]
    rfl
  · exfalso
    unfold xfc at h
    have hn : xcl[κ]? = none := List.getElem?_eq_none (by have : xcl.length = 12 := by decide
                                                          omega)
    rw [hn] at h
    cases h
theorem r_newq (hx : p.tables.exec = Jvm.exec) (hb : c.code = cc) {own C : String} {index : Nat} (hown : s.vm.findClass own = some m.cls) (hclink : (Cond.classLink own index C).before args s = true) (hover : va_AO C s) (hK : va_K D vwCl (xty cy) s) (hX : XX D A ad cy cnt Y w H) (hG : XG ad cnt) (hO : XD cnt w) (hS : va_S A s.heap H locs) (hA : ∀ q, s.heap.size ≤ q → A q) (κ t N κ' n0 : Nat) (hn0 : cnt κ = n0) (hκ : xac κ = some (t, N, κ')) (ht : 4 ≤ t) (hty : (xty cy)[t]? = some (cy t, .object C)) (hN0 : ¬ N = 0) {n : Int32} (hn : ¬ n < 0) (hN : n.toNatClampNeg = N) (hb2 : N * 4 ≤ 536870912) (hcells : cells + 1 ≤ R.cells) (hslots : slots + N ≤ R.slots) (hd : decode cc pc = .ok (.anewarray index, 3))
    (kk : ∀ (q : Nat) (ad1 : Nat → Nat → Nat) (H1 : Heap), XT0 ad cnt ad1 → ad1 κ n0 = q → XX D A ad1 cy (cup cnt κ) Y (wz w κ n0) H1 → XG ad1 (cup cnt κ) → XD (cup cnt κ) (wz w κ n0) → va_S A s.heap H1 locs → W p l e R s m args below meth c H1 locs (cells + 1) (slots + N) Q (F0 m (pc + 3) ls (.ref q :: rest))) : W p l e R s m args below meth c H locs cells slots Q (F0 m pc ls (.int n :: rest)) := by
  subst hn0
  obtain ⟨L, f, hP, hD, hf⟩ := hX
  refine va_newq hx hb hown hclink hover hK hP hD hS hA hn hN hb2 hcells hslots hd (fun q cA H1 hK1 hP1 hD1 hS1 => ?_)
  have e1 := (hK1.2 7 (cA, .object C) rfl).2
  have e2 := (hK.2 t (cy t, .object C) hty).2
  have hcA : cA = cy t := by
    obtain ⟨k1, c1, f1, f2, f3, f4⟩ := e1
    obtain ⟨k2, c2, g1, g2, g3, g4⟩ := e2
    exact Option.some.inj (f4.symm.trans g4)
  subst hcA
  have hqL : q ∉ L := fun h => by
    obtain ⟨k, hk⟩ := va_pl_get (X := Y) (f := f) h
    exact va_D_last hD1 hk rfl
  rw [List.append_assoc] at hP1 hD1
  have h65 := xac_lt hκ
  have h12 : ¬ κ < 12 := fun h => by unfold xac at hκ; rw [if_pos h] at hκ; cases hκ
  refine kk q (adup ad κ (cnt κ) q) H1 (xt0_up h65) adup_self (xx_take hG hO hqL hP1 hD1 hf ?_ wz_live) (xg_cup hG h65 (fun κ' i' h1 h2 z => hqL (by rw [← z]; exact (hf κ' i' h1 h2).1)) (fun k c0 h => ?_)) (xd_cup hO (fun κ' i' h => (wz_live κ' i' h).2.2.1) (fun k c0 j h1 h2 h3 => by rw [wz_R] at h3; cases h3) (fun a k j h1 h2 h3 => by rw [wz_R] at h3; cases h3)) hS1
  · rw [xcell_a hκ]
    unfold xln
    dsimp only
    rw [if_neg hN0, wz_R, if_neg (by omega), if_neg (by omega)]
    rfl
  · exfalso
    unfold xfc at h
    have hn : xcl[κ]? = none := List.getElem?_eq_none (by have : xcl.length = 12 := by decide
                                                          omega)
    rw [hn] at h
    cases h
theorem r_new (hx : p.tables.exec = Jvm.exec) (hb : c.code = cc) {own C : String} {T : u_T} {ty : Nat → FieldType} {N κ index : Nat} {Ts : List Cond} (hts : ∀ w ∈ Ts, w.before args s = true) (hin : ∀ w ∈ lw_ok, w ∈ Ts) (hC : XK κ C T ty N) (hown : s.vm.findClass own = some m.cls) (hcl : Cond.classLink own index C ∈ lw_ok) (hinst : Cond.instantiable C N ∈ lw_ok) (hini : Cond.initialized C ∈ lw_ok)
    (hK : va_K D vwCl (xty cy) s) (hX : XX D A ad cy cnt Y w H) (hS : va_S A s.heap H locs) (hA : ∀ q, s.heap.size ≤ q → A q) {fs : List Value} (hfs : ∀ j, j < N → defaultValue (ty j) = vp_V fs j) (hcells : cells + 1 ≤ R.cells) (hslots : slots + N ≤ R.slots) (hd : decode cc pc = .ok (.new index, 3))
    (kk : ∀ (q : Nat) (H1 : Heap), XX D A ad cy cnt ((q, .inr (κ, fs)) :: Y) w H1 → va_S A s.heap H1 locs → W p l e R s m args below meth c H1 locs (cells + 1) (slots + N) Q (F0 m (pc + 3) ls (.ref q :: rest))) : W p l e R s m args below meth c H locs cells slots Q (F0 m pc ls rest) := by
  obtain ⟨L, f, hP, hD, hf⟩ := hX
  obtain ⟨h12, hcl2, hws, hty, hnm⟩ := hC
  refine va_new (C := C) (T := T) (N := N) (ci := κ) (fs := fs) hx hb hts (fun w1 h1 => hin _ (hws w1 h1)) ty hty hown (hts _ (hin _ hcl)) (hts _ (hin _ hinst)) (hts _ (hin _ hini)) hK hP hD hS hA hcl2 hfs hcells hslots hd (fun q H1 hP1 hD1 hS1 => kk q H1 ⟨L, f, ?_, ?_, hf⟩ hS1)
  · refine va_P_mem hP1 (fun x hx => ?_)
    simp only [List.mem_append, List.cons_append, List.mem_cons] at hx ⊢
    rcases hx with hx | hx | hx
    · exact Or.inr (Or.inl hx)
    · exact Or.inl (Or.inl hx)
    · exact Or.inl (Or.inr hx)
  · exact va_D_front hD1
theorem r_put (hx : p.tables.exec = Jvm.exec) (hb : c.code = cc) {own C : String} {T : u_T} {ty : Nat → FieldType} {N κ index k a : Nat} {Ts : List Cond} {fs : List Value} {ty1 : FieldType} {v : Value} (hts : ∀ w ∈ Ts, w.before args s = true) (hin : ∀ w ∈ lw_ok, w ∈ Ts) (hC : XK κ C T ty N) (hown : s.vm.findClass own = some m.cls) (hK : va_K D vwCl (xty cy) s) (hX : XX D A ad cy cnt ((a, .inr (κ, fs)) :: Y) w H) (hS : va_S A s.heap H locs) (hkN : k < N) (hTC : (T k).1 = C) (hlk : Cond.fieldLink own index C (T k).2.1 (T k).2.2.1 ∈ lw_ok) (hT : (T k).2.2.2 = false) (hty0 : parseFieldDescriptor (T k).2.2.1 = some ty1) (hn : narrow ty1 v = v) (hfit : fits ty1 v = true) (hl : k < fs.length) (hd : decode cc pc = .ok (.putfield index, 3))
    (kk : ∀ (H1 : Heap) (locs1 : List Loc), XX D A ad cy cnt ((a, .inr (κ, fs.set k v)) :: Y) w H1 → va_S A s.heap H1 locs1 → W p l e R s m args below meth c H1 locs1 cells slots Q (F0 m (pc + 3) ls rest)) : W p l e R s m args below meth c H locs cells slots Q (F0 m pc ls (v :: .ref a :: rest)) := by
  obtain ⟨L, f, hP, hD, hf⟩ := hX
  obtain ⟨h12, hcl, hws, hty, hnm⟩ := hC
  exact va_put (v := v) hx hb (own := own) (ref := C) (C := C) (T := T) (N := N) hts (fun w1 h1 => hin _ (hws w1 h1)) ty hty hnm hown hK hP hD hS 0 rfl hcl k hkN (hts _ (hin _ hlk)) (fun _ h9 => by rw [hTC] at h9; exact h9) hT hty0 hn hfit hl hd (fun H1 locs1 hP1 hD1 hS1 => kk H1 locs1 ⟨L, f, hP1, hD1, hf⟩ hS1)
theorem r_putF (hx : p.tables.exec = Jvm.exec) (hb : c.code = cc) {own C : String} {T : u_T} {ty : Nat → FieldType} {N κ index k a : Nat} {Ts : List Cond} {fs : List Value} {ty1 : FieldType} {v : Value} (hts : ∀ w ∈ Ts, w.before args s = true) (hin : ∀ w ∈ lw_ok, w ∈ Ts) (hC : XK κ C T ty N) (hown : s.vm.findClass own = some m.cls) (hK : va_K D vwCl (xty cy) s) (hX : XX D A ad cy cnt ((a, .inr (κ, fs)) :: Y) w H) (hS : va_S A s.heap H locs) (hkN : k < N) (hTC : (T k).1 = C) (hlk : Cond.fieldLink own index C (T k).2.1 (T k).2.2.1 ∈ lw_ok) (hT : (T k).2.2.2 = true) (hin2 : meth.name = "<init>") (hdecl : (T k).1 = own) (hty0 : parseFieldDescriptor (T k).2.2.1 = some ty1) (hn : narrow ty1 v = v) (hfit : fits ty1 v = true) (hl : k < fs.length) (hd : decode cc pc = .ok (.putfield index, 3))
    (kk : ∀ (H1 : Heap) (locs1 : List Loc), XX D A ad cy cnt ((a, .inr (κ, fs.set k v)) :: Y) w H1 → va_S A s.heap H1 locs1 → W p l e R s m args below meth c H1 locs1 cells slots Q (F0 m (pc + 3) ls rest)) : W p l e R s m args below meth c H locs cells slots Q (F0 m pc ls (v :: .ref a :: rest)) := by
  obtain ⟨L, f, hP, hD, hf⟩ := hX
  obtain ⟨h12, hcl, hws, hty, hnm⟩ := hC
  exact va_putF (v := v) hx hb (own := own) (ref := C) (C := C) (T := T) (N := N) hts (fun w1 h1 => hin _ (hws w1 h1)) ty hty hnm hown hK hP hD hS 0 rfl hcl k hkN (hts _ (hin _ hlk)) (fun _ h9 => by rw [hTC] at h9; exact h9) hT hin2 hdecl hty0 hn hfit hl hd (fun H1 locs1 hP1 hD1 hS1 => kk H1 locs1 ⟨L, f, hP1, hD1, hf⟩ hS1)
/-- the call of a making -/
def XIp (D : va_G) (A : Nat → Prop) (ad : Nat → Nat → Nat) (cy : Nat → ClassId) (cnt : Nat → Nat) (Y : va_W) (w : XW) (a κ : Nat) (raw : List Value) (U : State) : Prop :=
  (∀ q, U.heap.size ≤ q → A q) ∧ XX D A ad cy cnt ((a, .inr (κ, raw)) :: Y) w U.heap ∧ XD cnt w ∧ va_K D vwCl (xty cy) U ∧ XG ad cnt ∧ XZ A ad U
def XIq (D : va_G) (A : Nat → Prop) (ad : Nat → Nat → Nat) (cy : Nat → ClassId) (cnt : Nat → Nat) (Y : va_W) (a κ n : Nat) (cnt' : Nat → Nat) (w' : XW) : Array Value → State → Outcome → State → Prop := fun _ st oc t =>
  (oc = .returned none ∧ ∃ ad', XT0 ad cnt ad' ∧ ad' κ n = a ∧ XX D A ad' cy cnt' Y w' t.heap ∧ XD cnt' w' ∧ XG ad' cnt') ∧ va_F A st t
theorem xip_blind {a κ : Nat} {raw : List Value} {as : List Value} : FrameBlind (va_Pc as (XIp D A ad cy cnt Y w a κ raw)) := by
  intro a1 U g mk q
  obtain ⟨q0, q1, q2, q3, q4, q5, q6⟩ := q
  exact ⟨q0, q1, q2, q3, va_K.moved (u := U) (U := U.calling g mk a1) (Vm.Alike.refl U.vm) q4, q5, xz_call q6 g mk a1⟩
theorem ri_call {mc ms a κ n : Nat} {cnt' : Nat → Nat} {w' : XW} {st0 : List Value} {as : Array Value} (hr : va_Run p l e R s m args below meth c H locs cells slots mc ms (F0 m pc ls st0) rest (XIq D A ad cy cnt Y a κ n cnt' w' as) A) (hS : va_S A s.heap H locs)
    (kk : ∀ (ad' : Nat → Nat → Nat) (H1 : Heap) (locs1 : List Loc), XT0 ad cnt ad' → ad' κ n = a → XX D A ad' cy cnt' Y w' H1 → XG ad' cnt' → XD cnt' w' → va_S A s.heap H1 locs1 → W p l e R s m args below meth c H1 locs1 (cells + mc) (slots + ms) Q (F0 m (pc + 3) ls rest)) : W p l e R s m args below meth c H locs cells slots Q (F0 m pc ls st0) := by
  intro T hT X
  obtain ⟨v, st₀, t, T', L, h0, X', hL, e1, e2, ⟨⟨hv, ad', hT1, ha, hX1, hO1, hG1⟩, hz, hk⟩, st⟩ := hr T hT X
  have hv' : v = none := Outcome.returned.inj hv
  subst hv'
  rw [h0] at hz hk
  obtain ⟨t2, a1, b1⟩ := kk ad' T'.heap (locs ++ L) hT1 ha (by rw [e1]; exact hX1) hG1 hO1
    ⟨Nat.le_trans hS.1 (by rw [e1]; exact hz), fun q h1 h2 => by rw [e1, hk q (Nat.lt_of_lt_of_le h1 hS.1) h2]; exact hS.2.1 q h1 h2, fun q hq => by
      rcases List.mem_append.mp hq with h | h
      · exact hS.2.2 q h
      · exact hL q h⟩ T' rfl X'
  exact ⟨t2, st t2 a1, b1⟩
end Ctor
