/-! ===== counts as lists; the world of noughts; stores of references ===== -/
def lk (L : List Nat) (κ : Nat) : Nat := L.getD κ 0
theorem cup_lk {L L' : List Nat} {k v : Nat} (h : L[k]? = some v) (h' : L.set k (v + 1) = L') : cup (lk L) k = lk L' := by
  subst h'
  funext κ
  unfold cup lk
  by_cases hk : κ = k
  · subst hk
    rw [va_up_self, List.getD_eq_getElem?_getD, List.getD_eq_getElem?_getD, List.getElem?_set_self (List.getElem?_eq_some_iff.mp h).1, h]
    rfl
  · rw [va_up_ne _ _ hk, List.getD_eq_getElem?_getD, List.getD_eq_getElem?_getD, List.getElem?_set_ne (Ne.symm hk)]
def wZ : XW := (fun _ _ _ => 0, fun _ _ _ => 0, fun _ _ _ => none, fun _ _ => 0)
theorem up2_id {α : Type} (f : Nat → Nat → α) {κ i : Nat} {v : α} (h : f κ i = v) : va_up f κ (va_up (f κ) i v) = f := by
  subst h
  funext a b
  by_cases h1 : a = κ ∧ b = i
  · obtain ⟨rfl, rfl⟩ := h1
    rw [va_up_self, va_up_self]
  · exact up2_ne _ _ h1
theorem wz_id {w : XW} {κ i : Nat} (h1 : gI w κ i = fun _ => 0) (h2 : gJ w κ i = fun _ => 0) (h3 : gR w κ i = fun _ => none) : wz w κ i = w := by
  obtain ⟨a, b, c, d⟩ := w
  unfold wz
  exact Prod.ext (up2_id a h1) (Prod.ext (up2_id b h2) (Prod.ext (up2_id c h3) rfl))
theorem wz_wZ (κ i : Nat) : wz wZ κ i = wZ := wz_id rfl rfl rfl
section Ctor2
variable {p : Program} {l : Launch} {e : Env} {R : Room} {s : State} {m : MethodId} {args : Array Value} {below : List Frame} {meth : Method} {c : Code} {H : Heap} {locs : List Loc} {cells slots : Nat} {Q : State → Prop}
variable {cc : ByteArray} {pc : Nat} {ls : Array Slot} {rest : List Value} {D : va_G} {A : Nat → Prop} {ad : Nat → Nat → Nat} {cy : Nat → ClassId} {cnt : Nat → Nat} {Y : va_W} {w : XW}
/-- a reference that stays, read -/
theorem r_getS (hx : p.tables.exec = Jvm.exec) (hb : c.code = cc) {own C : String} {T : u_T} {ty : Nat → FieldType} {N κ i k index κ' m0 b0 : Nat} {Ts : List Cond} (hts : ∀ w ∈ Ts, w.before args s = true) (hin : ∀ w ∈ lw_ok, w ∈ Ts) (hC : XK κ C T ty N) (hown : s.vm.findClass own = some m.cls) (hK : va_K D vwCl (xty cy) s) (hX : XX D A ad cy cnt Y w H) (hi : i < cnt κ) (hc : xfc κ k = some (3, κ', m0, b0)) (hkN : k < N) (hTC : (T k).1 = C) (hlk : Cond.fieldLink own index C (T k).2.1 (T k).2.2.1 ∈ lw_ok) (hd : decode cc pc = .ok (.getfield index, 3))
    (kk : W p l e R s m args below meth c H locs cells slots Q (F0 m (pc + 3) ls (.ref (ad κ' (xser m0 b0 i)) :: rest))) : W p l e R s m args below meth c H locs cells slots Q (F0 m pc ls (.ref (ad κ i) :: rest)) := by
  obtain ⟨L, f, hP, hD, hf⟩ := hX
  obtain ⟨h12, hcl, hws, hty, hnm⟩ := hC
  obtain ⟨g1, g2⟩ := hf κ i (Nat.lt_trans h12 (by decide)) hi
  obtain ⟨k0, hk0⟩ := va_pl_get (X := Y) (f := f) g1
  rw [g2, xcell_o h12] at hk0
  exact va_get (v := .ref (ad κ' (xser m0 b0 i))) hx hb (own := own) (ref := C) (C := C) (T := T) (N := N) hts (fun w1 h1 => hin _ (hws w1 h1)) hown hK hP k0 hk0 hcl k hkN (hts _ (hin _ hlk)) (fun _ h9 => by rw [hTC] at h9; exact h9) (by rw [xfs_get (xfc_at hc)]; simp [xcv]) hd kk
/-- a reference put into an array of references -/
theorem r_aast (hx : p.tables.exec = Jvm.exec) (hb : c.code = cc) {κ κ' t n i : Nat} {j : Int32} {N : Nat} {C : String} {T : u_T} {ty : Nat → FieldType} (hC : XK κ' C T ty N) (hK : va_K D vwCl (xty cy) s) (hX : XX D A ad cy cnt Y w H) (hG : XG ad cnt) (hO : XD cnt w) (hS : va_S A s.heap H locs) (ht : (xty cy)[t]? = some (cy t, .object C)) (hκ : xac κ = some (t, n, κ')) (h4 : 4 ≤ t) (hn0 : ¬ n = 0) (h0 : 0 < cnt κ) (hi : i < cnt κ') (hin2 : vp_in j n) (hd : decode cc pc = .ok (.aastore, 1))
    (kk : ∀ (H1 : Heap) (locs1 : List Loc), XX D A ad cy cnt Y (sR w κ 0 j.toNatClampNeg (some i)) H1 → XD cnt (sR w κ 0 j.toNatClampNeg (some i)) → va_S A s.heap H1 locs1 → W p l e R s m args below meth c H1 locs1 cells slots Q (F0 m (pc + 1) ls rest)) : W p l e R s m args below meth c H locs cells slots Q (F0 m pc ls (.ref (ad κ' i) :: .int j :: .ref (ad κ 0) :: rest)) := by
  obtain ⟨L, f, hP, hD, hf⟩ := hX
  obtain ⟨h12, hcl, hws, hty, hnm⟩ := hC
  have h65 := xac_lt hκ
  obtain ⟨g1, g2⟩ := hf κ' i (Nat.lt_trans h12 (by decide)) hi
  obtain ⟨k1, hk1⟩ := va_pl_get (X := Y) (f := f) g1
  rw [g2, xcell_o h12] at hk1
  obtain ⟨g3, g4⟩ := hf κ 0 h65 h0
  obtain ⟨k0, hk0⟩ := va_pl_get (X := Y) (f := f) g3
  have hk2 := hk0
  rw [g4, xcell_a hκ] at hk2
  dsimp only at hk2
  rw [if_neg (by omega), if_neg (by omega)] at hk2
  have hin3 : vp_in j (xln w κ 0 n) := by
    unfold xln
    rw [if_neg hn0]
    exact hin2
  refine va_astq hx hb hK hP hD hS k0 t k1 κ' hk2 (r := (C, T, N)) ht hk1 hcl hin3 hd (fun H1 locs1 hP1 hD1 hS1 => kk H1 locs1 ?_ ?_ hS1)
  · rw [va_pl_set hD g3 hk0] at hP1 hD1
    refine ⟨L, _, hP1, hD1, fun κ1 i1 a1 b1 => ⟨(hf κ1 i1 a1 b1).1, ?_⟩⟩
    by_cases hq : κ1 = κ ∧ i1 = 0
    · obtain ⟨rfl, rfl⟩ := hq
      rw [va_up_self, xcell_a hκ]
      dsimp only
      rw [if_neg (by omega), if_neg (by omega), gR_sR_eq]
      have e1 : xln (sR w κ1 0 j.toNatClampNeg (some i)) κ1 0 n = xln w κ1 0 n := rfl
      rw [e1]
      have e2 : (va_up (fun k => Option.map (ad κ') (gR w κ1 0 k)) j.toNatClampNeg (some (ad κ' i))) = (fun k => Option.map (ad κ') (va_up (gR w κ1 0) j.toNatClampNeg (some i) k)) := by
        funext k
        by_cases hkk : k = j.toNatClampNeg
        · subst hkk
          rw [va_up_self, va_up_self]
          rfl
        · rw [va_up_ne _ _ hkk, va_up_ne _ _ hkk]
      rw [e2]
    · rw [va_up_ne _ _ (fun z => hq (hG.1 κ1 i1 κ 0 a1 h65 b1 h0 z)), (hf κ1 i1 a1 b1).2]
      exact (xcell_congr (w := w) (w' := sR w κ 0 j.toNatClampNeg (some i)) rfl rfl (gR_sR_ne hq) rfl).symm
  · refine ⟨fun κ1 k1 c1 i1 j1 a1 a2 a3 a4 => ?_, fun κ1 a1 i1 k1 j1 b1 b2 b3 b4 => ?_⟩
    · have hne : ¬ (κ1 = κ ∧ i1 = 0) := fun z => by
        rw [z.1] at a1
        unfold xfc at a1
        have hn : xcl[κ]? = none := List.getElem?_eq_none (by
          have h1 : xcl.length = 12 := by decide
          have h2 : ¬ κ < 12 := fun h => by unfold xac at hκ; rw [if_pos h] at hκ; cases hκ
          omega)
        rw [hn] at a1
        cases a1
      rw [gR_sR_ne hne] at a4
      exact hO.1 _ _ _ _ _ a1 a2 a3 a4
    · by_cases hq : κ1 = κ ∧ i1 = 0
      · obtain ⟨rfl, rfl⟩ := hq
        rw [gR_sR_eq] at b4
        rw [hκ] at b1
        cases b1
        by_cases hkk : k1 = j.toNatClampNeg
        · subst hkk
          rw [va_up_self] at b4
          cases b4
          exact hi
        · rw [va_up_ne _ _ hkk] at b4
          exact hO.2 _ _ _ _ _ hκ b2 b3 b4
      · rw [gR_sR_ne hq] at b4
        exact hO.2 _ _ _ _ _ b1 b2 b3 b4
end Ctor2
