theorem x_vcallS {X : XCtx} (hE : XE X) {pc idx n mL fr lo : Nat} {y : MethodName} {b : ByteArray} {ret : Option FieldType} {C : String} {F : List XV → XW → Option XR}
    (hM : XM y b mL ret fr lo F) (hC : C = "java/lang/String") (hyC : y.cls = C) (hy : y.cls ≠ "java/lang/invoke/MethodHandle" ∧ y.cls ≠ "java/lang/invoke/VarHandle") (hn : (parseMethodDescriptor y.desc).map (fun d => d.parameters.length) = some n)
    (h1 : Cond.methodLink X.2.2.1.2.2.1 idx y ∈ lw_ok) (h2 : Cond.instanceMethod y ∈ lw_ok) (h3 : Cond.selects C y y ∈ lw_ok) (h4 : Cond.initialized C ∈ lw_ok) (h5 : Cond.code y b mL ret ∈ lw_ok)
    (hR : fr + 1 ≤ X.1.2.2.2.1.frames ∧ 8 + (mL + 11) + lo ≤ X.1.2.2.2.1.locals) (hd : decode X.2.2.1.1 pc = .ok (.invokevirtual idx, 3))
    {L : List (Option XV)} {st : List XV} {w : XW} {rr0 rr : XR} (hlen : n + 1 ≤ st.length) (hrc : xrcv 65 (st.take (n + 1)).reverse = true) (hca : xcats (st.drop (n + 1)) ≤ 8) (hF : F (st.take (n + 1)).reverse w = some rr0)
    (hk : Wg X (pc + 3) (L, rr0.1.toList ++ st.drop (n + 1), rr0.2) rr) : Wg X pc (L, st, w) rr := by
  obtain ⟨⟨p, l, e, R, s⟩, ⟨m, args, below, meth, c⟩, ⟨cc, nL, own, ret0, Ts⟩, ⟨D, A, ad, cy, cnt, cs, sl⟩⟩ := X
  obtain ⟨hx, hb, hml, hown, hts, hin, hK, hG, hlocks, hr, hZ, hcs, hsl⟩ := hE
  intro H locs ls hH hO hS hl hst
  have hκ : ¬ (65 : Nat) = 99 := by decide
  unfold xrcv at hrc
  rw [if_neg hκ] at hrc
  have hlenr : (st.take (n + 1)).reverse.length = n + 1 := by rw [List.length_reverse, List.length_take]; omega
  have hstr : XSt cnt (st.take (n + 1)).reverse := xst_rev hst
  have hsplit : st.map (cv ad) = ((st.take (n + 1)).reverse.map (cv ad)).reverse ++ (st.drop (n + 1)).map (cv ad) := by
    rw [List.map_reverse, List.reverse_reverse, ← List.map_append, List.take_append_drop]
  generalize (st.take (n + 1)).reverse = as at *
  split at hrc
  · rename_i q as'
    obtain ⟨κ0, i⟩ := q
    have hq : κ0 = 65 := by simpa using hrc
    subst hq
    subst hC
    have hi : i < 6 := Nat.lt_of_lt_of_le (show i < cnt 65 from hstr.1) (Nat.le_of_eq hG.2.1.1)
    have hwV : GoodIn Ts (wsV own idx "java/lang/String" y (.code y b mL ret :: lw_ok)) := by
      intro w0 hw0
      have hw1 : w0 ∈ lw_ok := by
        rcases List.mem_append.mp hw0 with h9 | h9
        · simp only [List.mem_cons, List.not_mem_nil, or_false] at h9
          rcases h9 with rfl | rfl | rfl | rfl
          · exact h1
          · exact h2
          · exact h3
          · exact h4
        · rcases List.mem_cons.mp h9 with rfl | h9
          · exact h5
          · exact h9
      exact ⟨hin _ hw1, good_of_word (List.mem_filter.mp hw1).2⟩
    have hrun := va_runV (p := p) (l := l) (e := e) (below := below) (meth := meth) (H := H) (locs := locs) (cells := cs) (slots := sl) (As := as'.map (cv ad)) (rest := (st.drop (n + 1)).map (cv ad)) (b := ad 65 i) (g := F0 m pc ls (st.map (cv ad))) (nL := nL)
      ⟨hx, hb, hml, hown, hts⟩ (hM l D A ad cy cnt _ w rr0 hF) (cwV n hts hwV rfl rfl rfl ⟨hyC, hy.1, hy.2, hn⟩ hR)
      ⟨xpc_blind, vk_recv hZ.1 hi hS, fun U hU hW => ⟨rfl, by rw [hU]; exact hH, hO, va_K.moved hW.alike hK, hG, hstr, xz_to hZ hU hW hS⟩⟩ rfl (by rw [List.length_map]; simpa using hlenr) hl.1 (by
        show st.map (cv ad) = _
        rw [hsplit]
        simp [cv]) (lv_room (by rw [xcats_cv]; exact hca)) hd ⟨hcs, hsl⟩
    refine x_call hrun hS (fun H1 locs1 hH1 hO1 hok hS1 => ?_)
    have := hk H1 locs1 ls hH1 hO1 hS1 hl (by
      cases hr0 : rr0.1 with
      | none => exact (xst_take (n + 1) hst).2
      | some v => exact ⟨hok v hr0, (xst_take (n + 1) hst).2⟩)
    refine W.eq ?_ this
    cases rr0.1 <;> simp
  · cases hrc
def XVs (own : String) (idx n mL : Nat) (y : MethodName) (b : ByteArray) (ret : Option FieldType) : Prop := y.cls = "java/lang/String" ∧ (y.cls ≠ "java/lang/invoke/MethodHandle" ∧ y.cls ≠ "java/lang/invoke/VarHandle") ∧ (parseMethodDescriptor y.desc).map (fun d => d.parameters.length) = some n ∧
  Cond.methodLink own idx y ∈ lw_ok ∧ Cond.instanceMethod y ∈ lw_ok ∧ Cond.selects "java/lang/String" y y ∈ lw_ok ∧ Cond.initialized "java/lang/String" ∈ lw_ok ∧ Cond.code y b mL ret ∈ lw_ok
theorem n_cIt {X : XCtx} (hE : XE X) {pc idx n mL fr lo : Nat} {y : MethodName} {b : ByteArray} {ret : Option FieldType} {F : List XV → XW → Option (Int32 × XW)} (hM : XM y b mL ret fr lo (eI F)) (hw : XVs X.2.2.1.2.2.1 idx n mL y b ret) (hR : fr + 1 ≤ X.1.2.2.2.1.frames ∧ 8 + (mL + 11) + lo ≤ X.1.2.2.2.1.locals) (hd : decode X.2.2.1.1 pc = .ok (.invokevirtual idx, 3)) : Snd X pc (pc + 3) (xCI 65 (n + 1) F) := by
  rintro K ⟨L, st, w⟩ rr h hk
  dsimp only [xCI] at h
  split at h
  · rename_i hc
    cases hg : F (st.take (n + 1)).reverse w with
    | none => rw [hg] at h; cases h
    | some r =>
      rw [hg] at h
      obtain ⟨hyC, hy, hn, h1, h2, h3, h4, h5⟩ := hw
      exact x_vcallS hE hM rfl hyC hy hn h1 h2 h3 h4 h5 hR hd hc.1 hc.2.1 hc.2.2 (rr0 := (some (.inl (.int r.1)), r.2)) (by unfold eI; rw [hg]; rfl) (hk _ h)
  · cases h
/-- the formatter that no call here uses, and the check of a place -/
def xChk (F : List XV → XW → Option (Int32 × XW)) : XT := ⟨fun K σ => match σ.2.1 with
  | .inl (.int n) :: .inl (.int i) :: r => if xcats r ≤ 8 then (F [.inl (.int i), .inl (.int n), .inl .null] σ.2.2).bind (fun q => K (σ.1, .inl (.int q.1) :: r, q.2)) else none
  | _ => none, by
    intro σ
    dsimp only
    split
    · split
      · rename_i n i r _ _
        cases hg : F [.inl (.int i), .inl (.int n), .inl .null] σ.2.2 with
        | none => exact Or.inr ⟨none, fun _ => rfl⟩
        | some p => exact Or.inl ⟨_, fun _ => rfl⟩
      · exact Or.inr ⟨_, fun _ => rfl⟩
    · exact Or.inr ⟨_, fun _ => rfl⟩⟩
theorem n_chk {X : XCtx} (hE : XE X) {pc idx index mL fr lo : Nat} {y : MethodName} {b : ByteArray} {ret : Option FieldType} {F : List XV → XW → Option (Int32 × XW)} (hM : XM y b mL ret fr lo (eI F)) (hw : XSw X.2.2.1.2.2.1 idx 3 mL y b ret) (hF : ∀ (i n : Int32) (v : Value) (w : XW), F [.inl (.int i), .inl (.int n), .inl v] w = F [.inl (.int i), .inl (.int n), .inl .null] w) (hR : fr + 1 ≤ X.1.2.2.2.1.frames ∧ 8 + (mL + 11) + lo ≤ X.1.2.2.2.1.locals)
    (hlk : Cond.fieldLink X.2.2.1.2.2.1 index "jdk/internal/util/Preconditions" "SIOOBE_FORMATTER" "Ljava/util/function/BiFunction;" ∈ lw_ok) (hd0 : decode X.2.2.1.1 pc = .ok (.getstatic index, 3)) (hd : decode X.2.2.1.1 (pc + 3) = .ok (.invokestatic idx, 3)) : Snd X pc (pc + 6) (xChk F) := by
  rintro K ⟨L, st, w⟩ rr h hk
  dsimp only [xChk] at h
  split at h
  · split at h
    · rename_i n i r hc
      cases hg : F [.inl (.int i), .inl (.int n), .inl .null] w with
      | none => rw [hg] at h; cases h
      | some q =>
        rw [hg] at h
        obtain ⟨hy, hn, h1, h2, h4, h5⟩ := hw
        have key : ∀ v : Value, Wg X (pc + 3) (L, .inl v :: .inl (.int n) :: .inl (.int i) :: r, w) rr := fun v =>
          x_scall hE hM hy hn h1 h2 h4 h5 hR hd (by simp) hc (rr0 := (some (.inl (.int q.1)), q.2)) (by unfold eI; show Option.map _ (F [.inl (.int i), .inl (.int n), .inl v] w) = _; rw [hF, hg]; rfl) (hk _ h)
        obtain ⟨⟨p, l, e, R, s⟩, ⟨m, args, below, meth, c⟩, ⟨cc, nL, own, ret, Ts⟩, ⟨D, A, ad, cy, cnt, cs, sl⟩⟩ := X
        obtain ⟨hx, hb, hml, hown, hts, hin, hK, hG, hlocks, hr, hZ, hcs, hsl⟩ := hE
        intro H locs ls hH hO hS hl hst
        rcases hZ.2.2.2.1 with hz | ⟨t, hz⟩
        · exact va_gets hx hb hz hS hown (hts _ (hin _ hlk)) (fun _ h9 => h9) hd0 (key .null H locs ls hH hO hS hl ⟨trivial, hst⟩)
        · exact va_gets hx hb hz hS hown (hts _ (hin _ hlk)) (fun _ h9 => h9) hd0 (key (.ref t) H locs ls hH hO hS hl ⟨trivial, hst⟩)
    · cases h
  · cases h
