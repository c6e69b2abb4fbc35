/-! ===== calls, switches, methods ===== -/
def XPc (D : va_G) (A : Nat → Prop) (ad : Nat → Nat → Nat) (cy : Nat → ClassId) (cnt : Nat → Nat) (as : List XV) (w : XW) : Array Value → State → Prop := va_Pc (as.map (cv ad)) (fun U => XH D A ad cy cnt w U.heap ∧ XD cnt w ∧ va_K D vwCl (xty cy) U ∧ XG ad cnt ∧ XSt cnt as ∧ XZ A ad U)
/-- a method's contract: what F says of its arguments and the world, it does -/
def XM (y : MethodName) (b : ByteArray) (mL : Nat) (ret : Option FieldType) (fr lo : Nat) (F : List XV → XW → Option XR) : Prop :=
  ∀ (l : Launch) (D : va_G) (A : Nat → Prop) (ad : Nat → Nat → Nat) (cy : Nat → ClassId) (cnt : Nat → Nat) (as : List XV) (w : XW) (rr : XR), F as w = some rr →
    Met l y (.code y b mL ret :: lw_ok) { frames := fr, cells := 0, slots := 0, locals := lo } (XPc D A ad cy cnt as w) (XQ D A ad cy cnt rr) 0 0 A
theorem xpc_blind {D : va_G} {A : Nat → Prop} {ad : Nat → Nat → Nat} {cy : Nat → ClassId} {cnt : Nat → Nat} {as : List XV} {w : XW} : FrameBlind (XPc D A ad cy cnt as w) := by
  intro a U g mk q
  obtain ⟨q0, q1, q2, q3, q4, q5, q6⟩ := q
  exact ⟨q0, q1, q2, va_K.moved (u := U) (U := U.calling g mk a) (Vm.Alike.refl U.vm) q3, q4, q5, xz_call q6 g mk a⟩
theorem x_call {p : Program} {l : Launch} {e : Env} {R : Room} {s : State} {m : MethodId} {args : Array Value} {below : List Frame} {meth : Method} {c : Code} {D : va_G} {A : Nat → Prop} {ad : Nat → Nat → Nat} {cy : Nat → ClassId} {cnt : Nat → Nat} {H : Heap} {locs : List Loc} {cs sl : Nat} {ls : Array Slot} {pc : Nat} {st0 rest : List Value} {rr : XR} {a : Array Value} {Q : State → Prop}
    (hr : va_Run p l e R s m args below meth c H locs cs sl 0 0 (F0 m pc ls st0) rest (XQ D A ad cy cnt rr a) A) (hS : va_S A s.heap H locs)
    (kk : ∀ (H1 : Heap) (locs1 : List Loc), XH D A ad cy cnt rr.2 H1 → XD cnt rr.2 → (∀ v, rr.1 = some v → rOK cnt v) → va_S A s.heap H1 locs1 → W p l e R s m args below meth c H1 locs1 cs sl Q (F0 m (pc + 3) ls ((rr.1.map (cv ad)).toList ++ rest))) : W p l e R s m args below meth c H locs cs sl Q (F0 m pc ls st0) := by
  intro T hT X
  obtain ⟨v, st₀, t, T', L, h0, X', hL, e1, e2, ⟨⟨hv, hH1, hO1, hok⟩, hz, hk⟩, st⟩ := hr T hT X
  have hv' : v = rr.1.map (cv ad) := Outcome.returned.inj hv
  subst hv'
  rw [h0] at hz hk
  obtain ⟨t2, a1, b1⟩ := kk T'.heap (locs ++ L) (by rw [e1]; exact hH1) hO1 hok
    ⟨Nat.le_trans hS.1 (by rw [e1]; exact hz), fun q h1 h2 => by rw [e1, hk q (Nat.lt_of_lt_of_le h1 hS.1) h2]; exact hS.2.1 q h1 h2, fun q hq => by
      rcases List.mem_append.mp hq with h | h
      · exact hS.2.2 q h
      · exact hL q h⟩ T' rfl X'
  exact ⟨t2, st t2 a1, b1⟩
theorem xcats_cv (ad : Nat → Nat → Nat) (l : List XV) : ((l.map (cv ad)).map fun v => v.category).sum = xcats l := by
  unfold xcats
  rw [List.map_map]
  congr 1
  apply List.map_congr_left
  intro u _
  exact xcat_cv ad u
theorem xst_take {cnt : Nat → Nat} : ∀ {st : List XV} (n : Nat), XSt cnt st → (∀ v ∈ st.take n, rOK cnt v) ∧ XSt cnt (st.drop n) := by
  intro st
  induction st with
  | nil => intro n h; simp; trivial
  | cons v r ih =>
    intro n h
    cases n with
    | zero => exact ⟨fun v h => by simp at h, h⟩
    | succ n =>
      obtain ⟨h1, h2⟩ := ih n h.2
      refine ⟨fun u hu => ?_, h2⟩
      rw [List.take_succ_cons] at hu
      rcases List.mem_cons.mp hu with rfl | h3
      · exact h.1
      · exact h1 u h3
theorem xst_of {cnt : Nat → Nat} : ∀ {st : List XV}, (∀ v ∈ st, rOK cnt v) → XSt cnt st := by
  intro st
  induction st with
  | nil => intro _; trivial
  | cons v r ih => intro h; exact ⟨h v List.mem_cons_self, ih (fun u hu => h u (List.mem_cons_of_mem _ hu))⟩
theorem xst_rev {cnt : Nat → Nat} {st : List XV} {n : Nat} (h : XSt cnt st) : XSt cnt (st.take n).reverse := xst_of (fun v hv => (xst_take n h).1 v (List.mem_reverse.mp hv))
theorem x_vcall {X : XCtx} (hE : XE X) {pc idx n κ mL fr lo N : Nat} {y : MethodName} {b : ByteArray} {ret : Option FieldType} {C : String} {T : u_T} {ty : Nat → FieldType} {F : List XV → XW → Option XR}
    (hM : XM y b mL ret fr lo F) (hC : XK κ C T ty N) (hyC : y.cls = C) (hy : y.cls ≠ "java/lang/invoke/MethodHandle" ∧ y.cls ≠ "java/lang/invoke/VarHandle") (hn : (parseMethodDescriptor y.desc).map (fun d => d.parameters.length) = some n)
    (h1 : Cond.methodLink X.2.2.1.2.2.1 idx y ∈ lw_ok) (h2 : Cond.instanceMethod y ∈ lw_ok) (h3 : Cond.selects C y y ∈ lw_ok) (h4 : Cond.initialized C ∈ lw_ok) (h5 : Cond.code y b mL ret ∈ lw_ok)
    (hR : fr + 1 ≤ X.1.2.2.2.1.frames ∧ 8 + (mL + 11) + lo ≤ X.1.2.2.2.1.locals) (hd : decode X.2.2.1.1 pc = .ok (.invokevirtual idx, 3))
    {L : List (Option XV)} {st : List XV} {w : XW} {rr0 rr : XR} (hlen : n + 1 ≤ st.length) (hrc : xrcv κ (st.take (n + 1)).reverse = true) (hca : xcats (st.drop (n + 1)) ≤ 8) (hF : F (st.take (n + 1)).reverse w = some rr0)
    (hk : Wg X (pc + 3) (L, rr0.1.toList ++ st.drop (n + 1), rr0.2) rr) : Wg X pc (L, st, w) rr := by
  obtain ⟨⟨p, l, e, R, s⟩, ⟨m, args, below, meth, c⟩, ⟨cc, nL, own, ret0, Ts⟩, ⟨D, A, ad, cy, cnt, cs, sl⟩⟩ := X
  obtain ⟨hx, hb, hml, hown, hts, hin, hK, hG, hlocks, hr, hZ, hcs, hsl⟩ := hE
  intro H locs ls hH hO hS hl hst
  have hκ : ¬ κ = 99 := by have := hC.1; omega
  unfold xrcv at hrc
  rw [if_neg hκ] at hrc
  have hlenr : (st.take (n + 1)).reverse.length = n + 1 := by rw [List.length_reverse, List.length_take]; omega
  have hstr : XSt cnt (st.take (n + 1)).reverse := xst_rev hst
  have hsplit : st.map (cv ad) = ((st.take (n + 1)).reverse.map (cv ad)).reverse ++ (st.drop (n + 1)).map (cv ad) := by
    rw [List.map_reverse, List.reverse_reverse, ← List.map_append, List.take_append_drop]
  generalize (st.take (n + 1)).reverse = as at *
  split at hrc
  · rename_i q as'
    obtain ⟨κ0, i⟩ := q
    have hq : κ0 = κ := by simpa using hrc
    subst hq
    obtain ⟨h12, hcl, hws, hty, hnm⟩ := hC
    have hi : i < cnt κ0 := hstr.1
    obtain ⟨L0, f0, k0, hP, hD, hf, hk0, he⟩ := xH_cell hH (Nat.lt_trans h12 (by decide)) hi
    rw [he, xcell_o h12] at hk0
    have hwV : GoodIn Ts (wsV own idx C y (.code y b mL ret :: lw_ok)) := by
      intro w0 hw0
      have hw1 : w0 ∈ lw_ok := by
        rcases List.mem_append.mp hw0 with h9 | h9
        · simp only [List.mem_cons, List.not_mem_nil, or_false] at h9
          rcases h9 with rfl | rfl | rfl | rfl
          · exact h1
          · exact h2
          · exact h3
          · exact h4
        · rcases List.mem_cons.mp h9 with rfl | h9
          · exact h5
          · exact h9
      exact ⟨hin _ hw1, good_of_word (List.mem_filter.mp hw1).2⟩
    have hrun := va_runV (p := p) (l := l) (e := e) (below := below) (meth := meth) (H := H) (locs := locs) (cells := cs) (slots := sl) (As := as'.map (cv ad)) (rest := (st.drop (n + 1)).map (cv ad)) (b := ad κ0 i) (g := F0 m pc ls (st.map (cv ad))) (nL := nL)
      ⟨hx, hb, hml, hown, hts⟩ (hM l D A ad cy cnt _ w rr0 hF) (cwV n hts hwV rfl rfl rfl ⟨hyC, hy.1, hy.2, hn⟩ hR)
      ⟨xpc_blind, va_recv hK hP hcl hk0, fun U hU hW => ⟨rfl, by rw [hU]; exact hH, hO, va_K.moved hW.alike hK, hG, hstr, xz_to hZ hU hW hS⟩⟩ rfl (by rw [List.length_map]; simpa using hlenr) hl.1 (by
        show st.map (cv ad) = _
        rw [hsplit]
        simp [cv]) (lv_room (by rw [xcats_cv]; exact hca)) hd ⟨hcs, hsl⟩
    refine x_call hrun hS (fun H1 locs1 hH1 hO1 hok hS1 => ?_)
    have := hk H1 locs1 ls hH1 hO1 hS1 hl (by
      cases hr0 : rr0.1 with
      | none => exact (xst_take (n + 1) hst).2
      | some v => exact ⟨hok v hr0, (xst_take (n + 1) hst).2⟩)
    refine W.eq ?_ this
    cases rr0.1 <;> simp
  · cases hrc
theorem x_scall {X : XCtx} (hE : XE X) {pc idx n mL fr lo : Nat} {y : MethodName} {b : ByteArray} {ret : Option FieldType} {F : List XV → XW → Option XR}
    (hM : XM y b mL ret fr lo F) (hy : y.cls ≠ "java/lang/invoke/MethodHandle" ∧ y.cls ≠ "java/lang/invoke/VarHandle") (hn : (parseMethodDescriptor y.desc).map (fun d => d.parameters.length) = some n)
    (h1 : Cond.methodLink X.2.2.1.2.2.1 idx y ∈ lw_ok) (h2 : Cond.static y ∈ lw_ok) (h4 : Cond.initialized y.cls ∈ lw_ok) (h5 : Cond.code y b mL ret ∈ lw_ok)
    (hR : fr + 1 ≤ X.1.2.2.2.1.frames ∧ 8 + (mL + 11) + lo ≤ X.1.2.2.2.1.locals) (hd : decode X.2.2.1.1 pc = .ok (.invokestatic idx, 3))
    {L : List (Option XV)} {st : List XV} {w : XW} {rr0 rr : XR} (hlen : n ≤ st.length) (hca : xcats (st.drop n) ≤ 8) (hF : F (st.take n).reverse w = some rr0)
    (hk : Wg X (pc + 3) (L, rr0.1.toList ++ st.drop n, rr0.2) rr) : Wg X pc (L, st, w) rr := by
  obtain ⟨⟨p, l, e, R, s⟩, ⟨m, args, below, meth, c⟩, ⟨cc, nL, own, ret0, Ts⟩, ⟨D, A, ad, cy, cnt, cs, sl⟩⟩ := X
  obtain ⟨hx, hb, hml, hown, hts, hin, hK, hG, hlocks, hr, hZ, hcs, hsl⟩ := hE
  intro H locs ls hH hO hS hl hst
  have hlenr : (st.take n).reverse.length = n := by rw [List.length_reverse, List.length_take]; omega
  have hstr : XSt cnt (st.take n).reverse := xst_rev hst
  have hsplit : st.map (cv ad) = ((st.take n).reverse.map (cv ad)).reverse ++ (st.drop n).map (cv ad) := by
    rw [List.map_reverse, List.reverse_reverse, ← List.map_append, List.take_append_drop]
  generalize (st.take n).reverse = as at *
  have hG0 : GoodIn Ts (.code y b mL ret :: lw_ok) := by
    intro w0 hw0
    have hw1 : w0 ∈ lw_ok := by
      rcases List.mem_cons.mp hw0 with rfl | h9
      · exact h5
      · exact h9
    exact ⟨hin _ hw1, good_of_word (List.mem_filter.mp hw1).2⟩
  have hrun := va_runS (p := p) (l := l) (e := e) (below := below) (meth := meth) (H := H) (locs := locs) (cells := cs) (slots := sl) (As := as.map (cv ad)) (rest := (st.drop n).map (cv ad)) (g := F0 m pc ls (st.map (cv ad))) (nL := nL)
    ⟨hx, hb, hml, hown, hts⟩ (hM l D A ad cy cnt _ w rr0 hF) ⟨callB_of n hts hG0 rfl rfl rfl (hts _ (hin _ h4)) (hts _ (hin _ h1)) ⟨hy.1, hy.2, hn⟩ hR, hts _ (hin _ h2)⟩
    ⟨xpc_blind, fun U hU hW => ⟨rfl, by rw [hU]; exact hH, hO, va_K.moved hW.alike hK, hG, hstr, xz_to hZ hU hW hS⟩⟩ rfl (by rw [List.length_map]; exact hlenr) hl.1 (by
      show st.map (cv ad) = _
      rw [hsplit]) (lv_room (by rw [xcats_cv]; exact hca)) hd ⟨hcs, hsl⟩
  refine x_call hrun hS (fun H1 locs1 hH1 hO1 hok hS1 => ?_)
  have := hk H1 locs1 ls hH1 hO1 hS1 hl (by
    cases hr0 : rr0.1 with
    | none => exact (xst_take n hst).2
    | some v => exact ⟨hok v hr0, (xst_take n hst).2⟩)
  refine W.eq ?_ this
  cases rr0.1 <;> simp
def eI (F : List XV → XW → Option (Int32 × XW)) : List XV → XW → Option XR := fun as w => (F as w).map (fun r => (some (.inl (.int r.1)), r.2))
def eJ (F : List XV → XW → Option (Int64 × XW)) : List XV → XW → Option XR := fun as w => (F as w).map (fun r => (some (.inl (.long r.1)), r.2))
def eV (F : List XV → XW → Option XW) : List XV → XW → Option XR := fun as w => (F as w).map (fun r => (none, r))
def eR (κ' : Nat) (F : List XV → XW → Option (Option Nat × XW)) : List XV → XW → Option XR := fun as w => (F as w).map (fun r => (some (oR r.1 (.inl .null) (fun p => .inr (κ', p))), r.2))
/-- a call of a method of an object's, of a static one: what is wanted of the tables -/
def XVw (own : String) (idx n κ mL : Nat) (y : MethodName) (b : ByteArray) (ret : Option FieldType) : Prop := ∃ (C : String) (T : u_T) (ty : Nat → FieldType) (N : Nat), XK κ C T ty N ∧ y.cls = C ∧ (y.cls ≠ "java/lang/invoke/MethodHandle" ∧ y.cls ≠ "java/lang/invoke/VarHandle") ∧ (parseMethodDescriptor y.desc).map (fun d => d.parameters.length) = some n ∧
  Cond.methodLink own idx y ∈ lw_ok ∧ Cond.instanceMethod y ∈ lw_ok ∧ Cond.selects C y y ∈ lw_ok ∧ Cond.initialized C ∈ lw_ok ∧ Cond.code y b mL ret ∈ lw_ok
def XSw (own : String) (idx n mL : Nat) (y : MethodName) (b : ByteArray) (ret : Option FieldType) : Prop := (y.cls ≠ "java/lang/invoke/MethodHandle" ∧ y.cls ≠ "java/lang/invoke/VarHandle") ∧ (parseMethodDescriptor y.desc).map (fun d => d.parameters.length) = some n ∧
  Cond.methodLink own idx y ∈ lw_ok ∧ Cond.static y ∈ lw_ok ∧ Cond.initialized y.cls ∈ lw_ok ∧ Cond.code y b mL ret ∈ lw_ok
theorem n_cIv {X : XCtx} (hE : XE X) {pc idx n κ mL fr lo : Nat} {y : MethodName} {b : ByteArray} {ret : Option FieldType} {F : List XV → XW → Option (Int32 × XW)} (hM : XM y b mL ret fr lo (eI F)) (hw : XVw X.2.2.1.2.2.1 idx n κ mL y b ret) (hR : fr + 1 ≤ X.1.2.2.2.1.frames ∧ 8 + (mL + 11) + lo ≤ X.1.2.2.2.1.locals) (hd : decode X.2.2.1.1 pc = .ok (.invokevirtual idx, 3)) : Snd X pc (pc + 3) (xCI κ (n + 1) F) := by
  rintro K ⟨L, st, w⟩ rr h hk
  dsimp only [xCI] at h
  split at h
  · rename_i hc
    cases hg : F (st.take (n + 1)).reverse w with
    | none => rw [hg] at h; cases h
    | some r =>
      rw [hg] at h
      obtain ⟨C, T, ty, N, hC, hyC, hy, hn, h1, h2, h3, h4, h5⟩ := hw
      exact x_vcall hE hM hC hyC hy hn h1 h2 h3 h4 h5 hR hd hc.1 hc.2.1 hc.2.2 (rr0 := (some (.inl (.int r.1)), r.2)) (by unfold eI; rw [hg]; rfl) (hk _ h)
  · cases h
theorem n_cIs {X : XCtx} (hE : XE X) {pc idx n mL fr lo : Nat} {y : MethodName} {b : ByteArray} {ret : Option FieldType} {F : List XV → XW → Option (Int32 × XW)} (hM : XM y b mL ret fr lo (eI F)) (hw : XSw X.2.2.1.2.2.1 idx n mL y b ret) (hR : fr + 1 ≤ X.1.2.2.2.1.frames ∧ 8 + (mL + 11) + lo ≤ X.1.2.2.2.1.locals) (hd : decode X.2.2.1.1 pc = .ok (.invokestatic idx, 3)) : Snd X pc (pc + 3) (xCI 99 n F) := by
  rintro K ⟨L, st, w⟩ rr h hk
  dsimp only [xCI] at h
  split at h
  · rename_i hc
    cases hg : F (st.take n).reverse w with
    | none => rw [hg] at h; cases h
    | some r =>
      rw [hg] at h
      obtain ⟨hy, hn, h1, h2, h4, h5⟩ := hw
      exact x_scall hE hM hy hn h1 h2 h4 h5 hR hd hc.1 hc.2.2 (rr0 := (some (.inl (.int r.1)), r.2)) (by unfold eI; rw [hg]; rfl) (hk _ h)
  · cases h
theorem n_cJv {X : XCtx} (hE : XE X) {pc idx n κ mL fr lo : Nat} {y : MethodName} {b : ByteArray} {ret : Option FieldType} {F : List XV → XW → Option (Int64 × XW)} (hM : XM y b mL ret fr lo (eJ F)) (hw : XVw X.2.2.1.2.2.1 idx n κ mL y b ret) (hR : fr + 1 ≤ X.1.2.2.2.1.frames ∧ 8 + (mL + 11) + lo ≤ X.1.2.2.2.1.locals) (hd : decode X.2.2.1.1 pc = .ok (.invokevirtual idx, 3)) : Snd X pc (pc + 3) (xCJ κ (n + 1) F) := by
  rintro K ⟨L, st, w⟩ rr h hk
  dsimp only [xCJ] at h
  split at h
  · rename_i hc
    cases hg : F (st.take (n + 1)).reverse w with
    | none => rw [hg] at h; cases h
    | some r =>
      rw [hg] at h
      obtain ⟨C, T, ty, N, hC, hyC, hy, hn, h1, h2, h3, h4, h5⟩ := hw
      exact x_vcall hE hM hC hyC hy hn h1 h2 h3 h4 h5 hR hd hc.1 hc.2.1 hc.2.2 (rr0 := (some (.inl (.long r.1)), r.2)) (by unfold eJ; rw [hg]; rfl) (hk _ h)
  · cases h
theorem n_cJs {X : XCtx} (hE : XE X) {pc idx n mL fr lo : Nat} {y : MethodName} {b : ByteArray} {ret : Option FieldType} {F : List XV → XW → Option (Int64 × XW)} (hM : XM y b mL ret fr lo (eJ F)) (hw : XSw X.2.2.1.2.2.1 idx n mL y b ret) (hR : fr + 1 ≤ X.1.2.2.2.1.frames ∧ 8 + (mL + 11) + lo ≤ X.1.2.2.2.1.locals) (hd : decode X.2.2.1.1 pc = .ok (.invokestatic idx, 3)) : Snd X pc (pc + 3) (xCJ 99 n F) := by
  rintro K ⟨L, st, w⟩ rr h hk
  dsimp only [xCJ] at h
  split at h
  · rename_i hc
    cases hg : F (st.take n).reverse w with
    | none => rw [hg] at h; cases h
    | some r =>
      rw [hg] at h
      obtain ⟨hy, hn, h1, h2, h4, h5⟩ := hw
      exact x_scall hE hM hy hn h1 h2 h4 h5 hR hd hc.1 hc.2.2 (rr0 := (some (.inl (.long r.1)), r.2)) (by unfold eJ; rw [hg]; rfl) (hk _ h)
  · cases h
theorem n_cVv {X : XCtx} (hE : XE X) {pc idx n κ mL fr lo : Nat} {y : MethodName} {b : ByteArray} {ret : Option FieldType} {F : List XV → XW → Option XW} (hM : XM y b mL ret fr lo (eV F)) (hw : XVw X.2.2.1.2.2.1 idx n κ mL y b ret) (hR : fr + 1 ≤ X.1.2.2.2.1.frames ∧ 8 + (mL + 11) + lo ≤ X.1.2.2.2.1.locals) (hd : decode X.2.2.1.1 pc = .ok (.invokevirtual idx, 3)) : Snd X pc (pc + 3) (xCV κ (n + 1) F) := by
  rintro K ⟨L, st, w⟩ rr h hk
  dsimp only [xCV] at h
  split at h
  · rename_i hc
    cases hg : F (st.take (n + 1)).reverse w with
    | none => rw [hg] at h; cases h
    | some r =>
      rw [hg] at h
      obtain ⟨C, T, ty, N, hC, hyC, hy, hn, h1, h2, h3, h4, h5⟩ := hw
      exact x_vcall hE hM hC hyC hy hn h1 h2 h3 h4 h5 hR hd hc.1 hc.2.1 hc.2.2 (rr0 := (none, r)) (by unfold eV; rw [hg]; rfl) (hk _ h)
  · cases h
theorem n_cVs {X : XCtx} (hE : XE X) {pc idx n mL fr lo : Nat} {y : MethodName} {b : ByteArray} {ret : Option FieldType} {F : List XV → XW → Option XW} (hM : XM y b mL ret fr lo (eV F)) (hw : XSw X.2.2.1.2.2.1 idx n mL y b ret) (hR : fr + 1 ≤ X.1.2.2.2.1.frames ∧ 8 + (mL + 11) + lo ≤ X.1.2.2.2.1.locals) (hd : decode X.2.2.1.1 pc = .ok (.invokestatic idx, 3)) : Snd X pc (pc + 3) (xCV 99 n F) := by
  rintro K ⟨L, st, w⟩ rr h hk
  dsimp only [xCV] at h
  split at h
  · rename_i hc
    cases hg : F (st.take n).reverse w with
    | none => rw [hg] at h; cases h
    | some r =>
      rw [hg] at h
      obtain ⟨hy, hn, h1, h2, h4, h5⟩ := hw
      exact x_scall hE hM hy hn h1 h2 h4 h5 hR hd hc.1 hc.2.2 (rr0 := (none, r)) (by unfold eV; rw [hg]; rfl) (hk _ h)
  · cases h
theorem n_cRv {X : XCtx} (hE : XE X) {pc idx n κ κ' mL fr lo : Nat} {y : MethodName} {b : ByteArray} {ret : Option FieldType} {F : List XV → XW → Option (Option Nat × XW)} (hM : XM y b mL ret fr lo (eR κ' F)) (hw : XVw X.2.2.1.2.2.1 idx n κ mL y b ret) (hR : fr + 1 ≤ X.1.2.2.2.1.frames ∧ 8 + (mL + 11) + lo ≤ X.1.2.2.2.1.locals) (hd : decode X.2.2.1.1 pc = .ok (.invokevirtual idx, 3)) : Snd X pc (pc + 3) (xCR κ (n + 1) κ' F) := by
  rintro K ⟨L, st, w⟩ rr h hk
  dsimp only [xCR] at h
  split at h
  · rename_i hc
    obtain ⟨C, T, ty, N, hC, hyC, hy, hn, h1, h2, h3, h4, h5⟩ := hw
    cases hg : F (st.take (n + 1)).reverse w with
    | none => rw [hg] at h; cases h
    | some r =>
      rw [hg] at h
      obtain ⟨o, w2⟩ := r
      cases o with
      | none => exact x_vcall hE hM hC hyC hy hn h1 h2 h3 h4 h5 hR hd hc.1 hc.2.1 hc.2.2 (rr0 := (some (.inl .null), w2)) (by unfold eR; rw [hg]; rfl) (hk _ h)
      | some p0 => exact x_vcall hE hM hC hyC hy hn h1 h2 h3 h4 h5 hR hd hc.1 hc.2.1 hc.2.2 (rr0 := (some (.inr (κ', p0)), w2)) (by unfold eR; rw [hg]; rfl) (hk _ h)
  · cases h
theorem xsw_spec (x : Int32) (d : Nat) : ∀ (ts : List Nat) (lo : Int32), lo.toInt + ts.length < 2 ^ 31 → (∃ k, ∃ t, ts[k]? = some t ∧ x.toInt = lo.toInt + (k : Nat) ∧ xsw x d lo ts = t) ∨ ((x.toInt < lo.toInt ∨ lo.toInt + ts.length ≤ x.toInt) ∧ xsw x d lo ts = d) := by
  intro ts
  induction ts with
  | nil =>
    intro lo h
    refine Or.inr ⟨?_, rfl⟩
    simp only [List.length_nil]
    omega
  | cons t ts ih =>
    intro lo h
    simp only [List.length_cons] at h ⊢
    unfold xsw
    by_cases hx : x = lo
    · subst hx
      refine Or.inl ⟨0, t, rfl, by omega, by simp⟩
    · have hne : x.toInt ≠ lo.toInt := fun q => hx (Int32.toInt_inj.mp q)
      have e1 : (lo + 1).toInt = lo.toInt + 1 := by
        rw [Int32.toInt_add]
        have h1 : (1 : Int32).toInt = 1 := by decide
        rw [h1]
        have h2 := lo.minValue_le_toInt
        have h3 : Int32.minValue.toInt = -2147483648 := by decide
        exact Int.bmod_eq_of_le (by omega) (by omega)
      rw [show (x == lo) = false from beq_eq_false_iff_ne.mpr hx]
      show (∃ k, ∃ t', _) ∨ _
      rcases ih (lo + 1) (by rw [e1]; omega) with ⟨k, t', h4, h5, h6⟩ | ⟨h4, h5⟩
      · refine Or.inl ⟨k + 1, t', h4, ?_, h6⟩
        rw [h5, e1]
        omega
      · refine Or.inr ⟨?_, h5⟩
        rw [e1] at h4
        omega
theorem n_switch {X : XCtx} (hE : XE X) {pc dflt len : Nat} {dfl lo hi : Int} {offs : Array Int} {lo32 : Int32} {ts : List Nat} {ps : List (Int32 × Nat)} {M : List Bool} (hps : xsps lo32 ts = ps) (hlo : lo32.toInt = lo) (hhi : hi + 1 = lo + ts.length) (hsm : lo + ts.length < 2 ^ 31) (hdf : (pc : Int) + dfl = (dflt : Int)) (ho : offs.toList.map (fun o => (pc : Int) + o) = ts.map (fun t : Nat => (t : Int))) (hd : decode X.2.2.1.1 pc = .ok (.tableswitch dfl lo hi offs, len)) : SndB X pc (tSw ps dflt M) := by
  subst hps
  obtain ⟨⟨p, l, e, R, s⟩, ⟨m, args, below, meth, c⟩, ⟨cc, nL, own, ret, Ts⟩, ⟨D, A, ad, cy, cnt, cs, sl⟩⟩ := X
  obtain ⟨hx, hb, hml, hown, hts, hin, hK, hG, hlocks, hr, hZ, hcs, hsl⟩ := hE
  rintro K ⟨L, st, w⟩ rr h hk H locs ls hH hO hS hl hst
  dsimp only [tSw] at h
  split at h
  · rename_i x r
    rw [xswk_eq] at h
    rcases xsw_spec x dflt ts lo32 (by rw [hlo]; exact hsm) with ⟨k, t, h4, h5, h6⟩ | ⟨h4, h5⟩
    · have hkl : k < ts.length := (List.getElem?_eq_some_iff.mp h4).1
      have h7 : (offs.toList.map (fun o => (pc : Int) + o))[k]? = some (t : Int) := by rw [ho, List.getElem?_map, h4]; rfl
      rw [List.getElem?_map] at h7
      cases h8 : offs.toList[k]? with
      | none => rw [h8] at h7; cases h7
      | some off =>
        rw [h8] at h7
        have h9 : (pc : Int) + off = (t : Int) := Option.some.inj h7
        rw [hlo] at h5
        rw [h6] at h
        refine lv_tableIn hx hb hd (by omega) (by omega) (off := off) ?_ h9 (hk _ _ h H locs ls hH hO hS (xlv_keep M hl) hst.2)
        rw [show (x.toInt - lo).toNat = k by omega]
        rw [← Array.getElem?_toList]
        exact h8
    · rw [h5] at h
      rw [hlo] at h4
      exact lv_tableOut hx hb hd (by omega) hdf (hk _ _ h H locs ls hH hO hS (xlv_keep M hl) hst.2)
  · cases h
theorem n_mmin {X : XCtx} (hE : XE X) {pc idx : Nat} (h1 : Cond.methodLink X.2.2.1.2.2.1 idx Lib.Math.min.name ∈ lw_ok) (h2 : Cond.static Lib.Math.min.name ∈ lw_ok) (h4 : Cond.initialized "java/lang/Math" ∈ lw_ok) (h5 : Cond.code Lib.Math.min.name Lib.Math.min.code 2 (some .int) ∈ lw_ok) (hR : 1 ≤ X.1.2.2.2.1.frames ∧ 24 ≤ X.1.2.2.2.1.locals) (hd : decode X.2.2.1.1 pc = .ok (.invokestatic idx, 3)) : Snd X pc (pc + 3) (xM2 (fun x y => if y < x then y else x)) := by
  obtain ⟨⟨p, l, e, R, s⟩, ⟨m, args, below, meth, c⟩, ⟨cc, nL, own, ret, Ts⟩, ⟨D, A, ad, cy, cnt, cs, sl⟩⟩ := X
  obtain ⟨hx, hb, hml, hown, hts, hin, hK, hG, hlocks, hr, hZ, hcs, hsl⟩ := hE
  rintro K ⟨L, st, w⟩ rr h hk H locs ls hH hO hS hl hst
  dsimp only [xM2] at h
  split at h
  · split at h
    · rename_i hc
      have hR1 : 1 ≤ R.frames := hR.1
      have hR2 : 24 ≤ R.locals := hR.2
      exact va_mmin hx hb (by rw [hml]; exact hl.1.symm) hown (hts _ (hin _ h1)) (hts _ (hin _ h2)) (hts _ (hin _ h4)) (hts _ (hin _ h5)) hR1 (by rw [xcats_cv]; omega) hcs hsl hd (hk _ h H locs ls hH hO hS hl ⟨trivial, hst.2.2⟩)
    · cases h
  · cases h
theorem n_mmax {X : XCtx} (hE : XE X) {pc idx : Nat} (h1 : Cond.methodLink X.2.2.1.2.2.1 idx Lib.Math.max.name ∈ lw_ok) (h2 : Cond.static Lib.Math.max.name ∈ lw_ok) (h4 : Cond.initialized "java/lang/Math" ∈ lw_ok) (h5 : Cond.code Lib.Math.max.name Lib.Math.max.code 2 (some .int) ∈ lw_ok) (hR : 1 ≤ X.1.2.2.2.1.frames ∧ 24 ≤ X.1.2.2.2.1.locals) (hd : decode X.2.2.1.1 pc = .ok (.invokestatic idx, 3)) : Snd X pc (pc + 3) (xM2 (fun x y => if x < y then y else x)) := by
  obtain ⟨⟨p, l, e, R, s⟩, ⟨m, args, below, meth, c⟩, ⟨cc, nL, own, ret, Ts⟩, ⟨D, A, ad, cy, cnt, cs, sl⟩⟩ := X
  obtain ⟨hx, hb, hml, hown, hts, hin, hK, hG, hlocks, hr, hZ, hcs, hsl⟩ := hE
  rintro K ⟨L, st, w⟩ rr h hk H locs ls hH hO hS hl hst
  dsimp only [xM2] at h
  split at h
  · split at h
    · rename_i hc
      have hR1 : 1 ≤ R.frames := hR.1
      have hR2 : 24 ≤ R.locals := hR.2
      exact va_mmax hx hb (by rw [hml]; exact hl.1.symm) hown (hts _ (hin _ h1)) (hts _ (hin _ h2)) (hts _ (hin _ h4)) (hts _ (hin _ h5)) hR1 (by rw [xcats_cv]; omega) hcs hsl hd (hk _ h H locs ls hH hO hS hl ⟨trivial, hst.2.2⟩)
    · cases h
  · cases h
/-- the locals at a method's entry -/
def xent : Nat → List XV → List (Option XV)
  | n, [] => List.replicate n none
  | n, v :: vs => if xcat v = 2 then some v :: none :: xent (n - 2) vs else some v :: xent (n - 1) vs
theorem xent_at {ad : Nat → Nat → Nat} : ∀ (as : List XV) (n k i : Nat) (v : XV), (xent n as)[i]? = some (some v) → (k + i, cv ad v) ∈ lv_args k (as.map (cv ad)) ∧ v ∈ as := by
  intro as
  induction as with
  | nil =>
    intro n k i v h
    unfold xent at h
    rw [List.getElem?_replicate] at h
    split at h <;> cases h
  | cons u us ih =>
    intro n k i v h
    unfold xent at h
    simp only [List.map_cons, lv_args, xcat_cv]
    split at h
    · rename_i h2
      rw [if_pos h2]
      cases i with
      | zero => cases h; exact ⟨List.mem_cons_self, List.mem_cons_self⟩
      | succ i =>
        cases i with
        | zero => cases h
        | succ i =>
          obtain ⟨h3, h4⟩ := ih (n - 2) (k + 2) i v h
          refine ⟨List.mem_cons_of_mem _ ?_, List.mem_cons_of_mem _ h4⟩
          rw [show k + (i + 1 + 1) = k + 2 + i by omega]
          exact h3
    · rename_i h2
      rw [if_neg h2]
      cases i with
      | zero => cases h; exact ⟨List.mem_cons_self, List.mem_cons_self⟩
      | succ i =>
        obtain ⟨h3, h4⟩ := ih (n - 1) (k + 1) i v h
        refine ⟨List.mem_cons_of_mem _ ?_, List.mem_cons_of_mem _ h4⟩
        rw [show k + (i + 1) = k + 1 + i by omega]
        exact h3
theorem xst_mem {cnt : Nat → Nat} : ∀ {st : List XV}, XSt cnt st → ∀ v ∈ st, rOK cnt v := by
  intro st
  induction st with
  | nil => intro _ v h; cases h
  | cons u r ih =>
    intro h v hv
    rcases List.mem_cons.mp hv with rfl | h3
    · exact h.1
    · exact ih h.2 v h3
theorem lg_sl_len (ad : Nat → Nat → Nat) (as : List XV) : (lg_sl (as.map (cv ad))).length = xcats as := by
  induction as with
  | nil => rfl
  | cons u us ih =>
    unfold lg_sl xcats at *
    simp only [List.map_cons, List.flatMap_cons, List.length_append, List.sum_cons, ih, xcat_cv]
    congr 1
    split
    · rename_i h; rw [h]; rfl
    · rename_i h
      cases u with
      | inl v => cases v <;> first | rfl | exact absurd rfl h
      | inr q => rfl
def SndBs (X : XCtx) : List (Nat × XB) → Prop
  | [] => True
  | q :: t => SndB X q.1 q.2 ∧ SndBs X t
theorem sndbs_lk {X : XCtx} {bs : List (Nat × XB)} (h : SndBs X bs) {pc : Nat} {K : Nat → XS → Option XR} {σ : XS} {rr : XR} (hr : xlk bs pc K σ = some rr) (hk : ∀ pc' σ', K pc' σ' = some rr → Wg X pc' σ' rr) : Wg X pc σ rr := by
  induction bs with
  | nil => cases hr
  | cons q t ih =>
    obtain ⟨q1, q2⟩ := q
    unfold xlk at hr
    split at hr
    · rename_i h9
      subst h9
      exact h.1 K σ rr hr hk
    · exact ih h.2 hr
theorem sndbs_run {X : XCtx} {bs : List (Nat × XB)} (h : SndBs X bs) : ∀ (n pc : Nat) (σ : XS) (rr : XR), xrun bs n pc σ = some rr → Wg X pc σ rr := by
  intro n
  induction n with
  | zero => intro pc σ rr hr; cases hr
  | succ n ih =>
    intro pc σ rr hr
    unfold xrun at hr
    exact sndbs_lk h hr (fun pc' σ' h' => ih pc' σ' rr h')
/-- what a method does, by its blocks -/
noncomputable def xF (mL : Nat) (bs : List (Nat × XB)) (as : List XV) (w : XW) : Option XR := if xcats as ≤ mL then ev bs 0 (xent mL as, [], w) else none
theorem xm_of {y : MethodName} {b : ByteArray} {mL : Nat} {ret : Option FieldType} {fr lo : Nat} {bs : List (Nat × XB)} (hy : plainName y.cls = true)
    (hs : ∀ X : XCtx, XE X → X.2.2.1.1 = b → X.2.2.1.2.1 = mL → X.2.2.1.2.2.1 = y.cls → X.2.2.1.2.2.2.1 = ret → X.1.2.2.2.1 = { frames := fr, cells := 0, slots := 0, locals := lo } → SndBs X bs) : XM y b mL ret fr lo (xF mL bs) := by
  intro l D A ad cy cnt as w rr hF
  unfold xF at hF
  split at hF
  · rename_i hle
    obtain ⟨n, hrun⟩ := ev_to hF
    refine Met.ofW (cc := b) (maxL := mL) (ret := ret) hy rfl ?_
    intro p e s m args below meth c s₁ B hml hv
    obtain ⟨rfl, hH, hO, hK, hG, hst, hZ⟩ := hv
    have hts := atoms_spec (ws := .code y b mL ret :: lw_ok) B.pre
    have hE : XE ((p, l, e, { frames := fr, cells := 0, slots := 0, locals := lo }, s), (m, (as.map (cv ad)).toArray, below, meth, c), (b, mL, y.cls, ret, .code y b mL ret :: lw_ok), (D, A, ad, cy, cnt, 0, 0)) :=
      ⟨B.exec, B.bytes, hml, findClass_of_methodNamed B.named, hts, fun w h => List.mem_cons_of_mem _ h, hK, hG, B.notSynchronized, B.returns, hZ, Nat.zero_le _, Nat.zero_le _⟩
    have hg := sndbs_run (hs _ hE rfl rfl rfl rfl rfl) n 0 _ rr hrun
    have hl := lv_entry (as.map (cv ad)) (n := mL) (by rw [lg_sl_len]; exact hle)
    rw [lg_entry_eq]
    refine hg s.heap [] _ hH hO va_S.rf ⟨hl.1, hl.2.1, fun i v hv => ?_⟩ trivial
    obtain ⟨h1, h2⟩ := xent_at (ad := ad) as mL 0 i v hv
    rw [Nat.zero_add] at h1
    exact ⟨hl.2.2 _ h1, xst_mem hst v h2⟩
  · cases hF
/-- what a method answers: an int, a long, nothing, a reference of kind κ' or null -/
def pI : XR → Option (Int32 × XW)
  | (some (.inl (.int x)), w) => some (x, w)
  | _ => none
def pJ : XR → Option (Int64 × XW)
  | (some (.inl (.long x)), w) => some (x, w)
  | _ => none
def pV : XR → Option XW
  | (none, w) => some w
  | _ => none
def pR (κ' : Nat) : XR → Option (Option Nat × XW)
  | (some (.inr q), w) => if q.1 = κ' then some (some q.2, w) else none
  | (some (.inl .null), w) => some (none, w)
  | _ => none
theorem xm_I {y : MethodName} {b : ByteArray} {mL : Nat} {ret : Option FieldType} {fr lo : Nat} {F : List XV → XW → Option XR} (h : XM y b mL ret fr lo F) : XM y b mL ret fr lo (eI (fun as w => (F as w).bind pI)) := by
  intro l D A ad cy cnt as w rr hF
  refine h l D A ad cy cnt as w rr ?_
  unfold eI at hF
  dsimp only at hF
  cases hf : F as w with
  | none => rw [hf] at hF; cases hF
  | some r =>
    rw [hf] at hF
    obtain ⟨v, w2⟩ := r
    match v, hF with
    | some (.inl (.int x)), hF => exact hF
theorem xm_J {y : MethodName} {b : ByteArray} {mL : Nat} {ret : Option FieldType} {fr lo : Nat} {F : List XV → XW → Option XR} (h : XM y b mL ret fr lo F) : XM y b mL ret fr lo (eJ (fun as w => (F as w).bind pJ)) := by
  intro l D A ad cy cnt as w rr hF
  refine h l D A ad cy cnt as w rr ?_
  unfold eJ at hF
  dsimp only at hF
  cases hf : F as w with
  | none => rw [hf] at hF; cases hF
  | some r =>
    rw [hf] at hF
    obtain ⟨v, w2⟩ := r
    match v, hF with
    | some (.inl (.long x)), hF => exact hF
theorem xm_V {y : MethodName} {b : ByteArray} {mL : Nat} {ret : Option FieldType} {fr lo : Nat} {F : List XV → XW → Option XR} (h : XM y b mL ret fr lo F) : XM y b mL ret fr lo (eV (fun as w => (F as w).bind pV)) := by
  intro l D A ad cy cnt as w rr hF
  refine h l D A ad cy cnt as w rr ?_
  unfold eV at hF
  dsimp only at hF
  cases hf : F as w with
  | none => rw [hf] at hF; cases hF
  | some r =>
    rw [hf] at hF
    obtain ⟨v, w2⟩ := r
    match v, hF with
    | none, hF => exact hF
theorem xm_R {y : MethodName} {b : ByteArray} {mL : Nat} {ret : Option FieldType} {fr lo κ' : Nat} {F : List XV → XW → Option XR} (h : XM y b mL ret fr lo F) : XM y b mL ret fr lo (eR κ' (fun as w => (F as w).bind (pR κ'))) := by
  intro l D A ad cy cnt as w rr hF
  refine h l D A ad cy cnt as w rr ?_
  unfold eR at hF
  dsimp only at hF
  cases hf : F as w with
  | none => rw [hf] at hF; cases hF
  | some r =>
    rw [hf] at hF
    obtain ⟨v, w2⟩ := r
    match v, hF with
    | some (.inr q), hF =>
      simp only [Option.bind, pR] at hF
      split at hF
      · rename_i hq
        subst hq
        exact hF
      · cases hF
    | some (.inl .null), hF => exact hF
