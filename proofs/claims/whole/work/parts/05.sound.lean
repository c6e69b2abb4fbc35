/-! ===== each step is what the machine does ===== -/
abbrev XCtx : Type := (Program × Launch × Env × Room × State) × (MethodId × Array Value × List Frame × Method × Code) × (ByteArray × Nat × String × Option FieldType × List Cond) × (va_G × (Nat → Prop) × (Nat → Nat → Nat) × (Nat → ClassId) × (Nat → Nat) × Nat × Nat)
def XE (X : XCtx) : Prop := match X with
  | ((p, l, e, R, s), (m, args, below, meth, c), (cc, nL, own, ret, Ts), (D, A, ad, cy, cnt, cs, sl)) =>
    p.tables.exec = Jvm.exec ∧ c.code = cc ∧ c.maxLocals = nL ∧ s.vm.findClass own = some m.cls ∧ (∀ w ∈ Ts, w.before args s = true) ∧ (∀ w ∈ lw_ok, w ∈ Ts) ∧ va_K D vwCl (xty cy) s ∧ XG ad cnt ∧ meth.locks = false ∧ meth.sig.returnType = ret ∧ XZ A ad s ∧ cs ≤ R.cells ∧ sl ≤ R.slots
def XQ (D : va_G) (A : Nat → Prop) (ad : Nat → Nat → Nat) (cy : Nat → ClassId) (cnt : Nat → Nat) (rr : XR) : Array Value → State → Outcome → State → Prop := fun _ st oc t =>
  (oc = .returned (rr.1.map (cv ad)) ∧ XH D A ad cy cnt rr.2 t.heap ∧ XD cnt rr.2 ∧ ∀ v, rr.1 = some v → rOK cnt v) ∧ va_F A st t
def Wg (X : XCtx) (pc : Nat) (σ : XS) (rr : XR) : Prop := match X with
  | ((p, l, e, R, s), (m, args, below, meth, c), (cc, nL, own, ret, Ts), (D, A, ad, cy, cnt, cs, sl)) =>
    ∀ (H : Heap) (locs : List Loc) (ls : Array Slot), XH D A ad cy cnt σ.2.2 H → XD cnt σ.2.2 → va_S A s.heap H locs → XLv ad cnt nL ls σ.1 → XSt cnt σ.2.1 →
      W p l e R s m args below meth c H locs cs sl (MQ below (XQ D A ad cy cnt rr) args s cs sl A) (F0 m pc ls (σ.2.1.map (cv ad)))
def Snd (X : XCtx) (pc pc' : Nat) (s : XT) : Prop := ∀ (K : XS → Option XR) (σ : XS) (rr : XR), s.1 K σ = some rr → (∀ σ', K σ' = some rr → Wg X pc' σ' rr) → Wg X pc σ rr
def SndB (X : XCtx) (pc : Nat) (b : XB) : Prop := ∀ (K : Nat → XS → Option XR) (σ : XS) (rr : XR), b.1 K σ = some rr → (∀ pc' σ', K pc' σ' = some rr → Wg X pc' σ' rr) → Wg X pc σ rr
theorem n_sq {X : XCtx} {pc pc' : Nat} {s : XT} {b : XB} (h1 : Snd X pc pc' s) (h2 : SndB X pc' b) : SndB X pc (sq s b) := fun K σ rr h hk => h1 _ σ rr h (fun σ' h' => h2 K σ' rr h' hk)
theorem xlv_keep {ad : Nat → Nat → Nat} {cnt : Nat → Nat} {nL : Nat} {ls : Array Slot} {L : List (Option XV)} (M : List Bool) (h : XLv ad cnt nL ls L) : XLv ad cnt nL ls (xkeep M L) := by
  refine ⟨h.1, h.2.1, fun i v hv => h.2.2 i v ?_⟩
  have key : ∀ (M : List Bool) (L : List (Option XV)) (i : Nat), (xkeep M L)[i]? = some (some v) → L[i]? = some (some v) := by
    intro M
    induction M with
    | nil => intro L i h; cases L <;> simp [xkeep] at h
    | cons b bs ih =>
      intro L i h
      cases L with
      | nil => simp [xkeep] at h
      | cons u us =>
        cases i with
        | zero =>
          simp only [xkeep, List.getElem?_cons_zero] at h ⊢
          cases b
          · simp at h
          · simpa using h
        | succ i =>
          simp only [xkeep, List.getElem?_cons_succ] at h ⊢
          exact ih us i h
  exact key M L i hv
def xlv (ad : Nat → Nat → Nat) (L : List (Option XV)) : List (Nat × Value) := (List.range L.length).filterMap (fun i => match L[i]? with
  | some (some v) => some (i, cv ad v)
  | _ => none)
theorem xlv_mem {ad : Nat → Nat → Nat} {L : List (Option XV)} {i : Nat} {u : XV} (h : L[i]? = some (some u)) : (i, cv ad u) ∈ xlv ad L := by
  refine List.mem_filterMap.mpr ⟨i, List.mem_range.mpr (List.getElem?_eq_some_iff.mp h).1, ?_⟩
  rw [h]
theorem xlv_has {ad : Nat → Nat → Nat} {cnt : Nat → Nat} {nL : Nat} {ls : Array Slot} {L : List (Option XV)} (h : XLv ad cnt nL ls L) : lv_has ls nL (xlv ad L) := by
  refine ⟨h.1, h.2.1, fun q hq => ?_⟩
  obtain ⟨i, -, hi⟩ := List.mem_filterMap.mp hq
  split at hi
  · rename_i v hv
    cases hi
    exact (h.2.2 i v hv).1
  · cases hi
theorem xcat_cv (ad : Nat → Nat → Nat) (u : XV) : (cv ad u).category = xcat u := by
  cases u <;> rfl
theorem xclr_at {n i : Nat} {L : List (Option XV)} {u : XV} (h : (xclr n L)[i]? = some (some u)) : L[i]? = some (some u) ∧ ¬ (i + 1 = n ∧ xcat u = 2) := by
  cases n with
  | zero => exact ⟨h, fun q => by omega⟩
  | succ k =>
    unfold xclr at h
    dsimp only at h
    split at h
    · rename_i v hv
      split at h
      · by_cases hik : i = k
        · subst hik
          rw [List.getElem?_set_self (List.getElem?_eq_some_iff.mp hv).1] at h
          cases h
        · rw [List.getElem?_set_ne (Ne.symm hik)] at h
          exact ⟨h, fun q => hik (by omega)⟩
      · rename_i hc
        refine ⟨h, fun q => ?_⟩
        have hik : i = k := by omega
        subst hik
        rw [h] at hv
        cases hv
        exact hc q.2
    · rename_i hn
      refine ⟨h, fun q => ?_⟩
      have hik : i = k := by omega
      subst hik
      exact hn u h
theorem xlv_st1 {ad : Nat → Nat → Nat} {cnt : Nat → Nat} {nL n : Nat} {ls ls' : Array Slot} {L : List (Option XV)} {v : XV} (h : XLv ad cnt nL ls L) (h' : lv_has ls' nL ((n, cv ad v) :: (xlv ad L).filter (fun q => !(q.1 == n) && !(q.1 + 1 == n && q.2.category == 2)))) (hv : rOK cnt v) : XLv ad cnt nL ls' ((xclr n L).set n (some v)) := by
  refine ⟨h'.1, h'.2.1, fun i u hu => ?_⟩
  by_cases hin : i = n
  · subst hin
    rw [List.getElem?_set] at hu
    simp only [if_true] at hu
    split at hu
    · cases hu
      exact ⟨h'.2.2 (i, cv ad v) List.mem_cons_self, hv⟩
    · cases hu
  · rw [List.getElem?_set_ne (Ne.symm hin)] at hu
    obtain ⟨h1, h2⟩ := xclr_at hu
    refine ⟨h'.2.2 (i, cv ad u) (List.mem_cons_of_mem _ (List.mem_filter.mpr ⟨xlv_mem h1, ?_⟩)), (h.2.2 i u h1).2⟩
    simp only [xcat_cv, Bool.and_eq_true, Bool.not_eq_true', beq_eq_false_iff_ne, ne_eq, Bool.and_eq_false_iff]
    refine ⟨hin, ?_⟩
    by_cases hq : i + 1 = n
    · exact Or.inr (fun q => h2 ⟨hq, q⟩)
    · exact Or.inl hq
theorem xlv_st2 {ad : Nat → Nat → Nat} {cnt : Nat → Nat} {nL n : Nat} {ls ls' : Array Slot} {L : List (Option XV)} {v : XV} (h : XLv ad cnt nL ls L) (h' : lv_has ls' nL ((n, cv ad v) :: (xlv ad L).filter (fun q => !(q.1 == n) && (!(q.1 == n + 1) && !(q.1 + 1 == n && q.2.category == 2))))) (hv : rOK cnt v) : XLv ad cnt nL ls' (((xclr n L).set (n + 1) none).set n (some v)) := by
  refine ⟨h'.1, h'.2.1, fun i u hu => ?_⟩
  by_cases hin : i = n
  · subst hin
    rw [List.getElem?_set] at hu
    simp only [if_true] at hu
    split at hu
    · cases hu
      exact ⟨h'.2.2 (i, cv ad v) List.mem_cons_self, hv⟩
    · cases hu
  · rw [List.getElem?_set_ne (Ne.symm hin)] at hu
    by_cases hin2 : i = n + 1
    · subst hin2
      rw [List.getElem?_set] at hu
      simp only [if_true] at hu
      split at hu <;> cases hu
    · rw [List.getElem?_set_ne (Ne.symm hin2)] at hu
      obtain ⟨h1, h2⟩ := xclr_at hu
      refine ⟨h'.2.2 (i, cv ad u) (List.mem_cons_of_mem _ (List.mem_filter.mpr ⟨xlv_mem h1, ?_⟩)), (h.2.2 i u h1).2⟩
      simp only [xcat_cv, Bool.and_eq_true, Bool.not_eq_true', beq_eq_false_iff_ne, ne_eq, Bool.and_eq_false_iff]
      refine ⟨hin, hin2, ?_⟩
      by_cases hq : i + 1 = n
      · exact Or.inr (fun q => h2 ⟨hq, q⟩)
      · exact Or.inl hq
theorem n_iconst {X : XCtx} (hE : XE X) {pc : Nat} {n : Int} {v : Int32} (hv : Int32.ofInt n = v) (hd : decode X.2.2.1.1 pc = .ok (.iconst n, 1)) : Snd X pc (pc + 1) (xC (.int v)) := by
  obtain ⟨⟨p, l, e, R, s⟩, ⟨m, args, below, meth, c⟩, ⟨cc, nL, own, ret, Ts⟩, ⟨D, A, ad, cy, cnt, cs, sl⟩⟩ := X
  obtain ⟨hx, hb, hml, hown, hts, hin, hK, hG, hlocks, hr, hZ, hcs, hsl⟩ := hE
  rintro K ⟨L, st, w⟩ rr h hk H locs ls hH hO hS hl hst
  exact lv_iconst hx hb hd hv (hk _ h H locs ls hH hO hS hl ⟨trivial, hst⟩)
theorem n_bipush {X : XCtx} (hE : XE X) {pc : Nat} {n : Int} {v : Int32} (hv : (Int8.ofInt n).toInt32 = v) (hd : decode X.2.2.1.1 pc = .ok (.bipush n, 2)) : Snd X pc (pc + 2) (xC (.int v)) := by
  obtain ⟨⟨p, l, e, R, s⟩, ⟨m, args, below, meth, c⟩, ⟨cc, nL, own, ret, Ts⟩, ⟨D, A, ad, cy, cnt, cs, sl⟩⟩ := X
  obtain ⟨hx, hb, hml, hown, hts, hin, hK, hG, hlocks, hr, hZ, hcs, hsl⟩ := hE
  rintro K ⟨L, st, w⟩ rr h hk H locs ls hH hO hS hl hst
  exact lv_bipush hx hb hd hv (hk _ h H locs ls hH hO hS hl ⟨trivial, hst⟩)
theorem n_sipush {X : XCtx} (hE : XE X) {pc : Nat} {n : Int} {v : Int32} (hv : (Int16.ofInt n).toInt32 = v) (hd : decode X.2.2.1.1 pc = .ok (.sipush n, 3)) : Snd X pc (pc + 3) (xC (.int v)) := by
  obtain ⟨⟨p, l, e, R, s⟩, ⟨m, args, below, meth, c⟩, ⟨cc, nL, own, ret, Ts⟩, ⟨D, A, ad, cy, cnt, cs, sl⟩⟩ := X
  obtain ⟨hx, hb, hml, hown, hts, hin, hK, hG, hlocks, hr, hZ, hcs, hsl⟩ := hE
  rintro K ⟨L, st, w⟩ rr h hk H locs ls hH hO hS hl hst
  exact lv_sipush hx hb hd hv (hk _ h H locs ls hH hO hS hl ⟨trivial, hst⟩)
theorem n_lconst {X : XCtx} (hE : XE X) {pc : Nat} {n : Fin 2} {v : Int64} (hv : Int64.ofNat (n : Nat) = v) (hd : decode X.2.2.1.1 pc = .ok (.lconst n, 1)) : Snd X pc (pc + 1) (xC (.long v)) := by
  obtain ⟨⟨p, l, e, R, s⟩, ⟨m, args, below, meth, c⟩, ⟨cc, nL, own, ret, Ts⟩, ⟨D, A, ad, cy, cnt, cs, sl⟩⟩ := X
  obtain ⟨hx, hb, hml, hown, hts, hin, hK, hG, hlocks, hr, hZ, hcs, hsl⟩ := hE
  rintro K ⟨L, st, w⟩ rr h hk H locs ls hH hO hS hl hst
  exact lv_lconst hx hb hd hv (hk _ h H locs ls hH hO hS hl ⟨trivial, hst⟩)
/-- a String constant -/
theorem n_ldcS {X : XCtx} (hE : XE X) {pc index k : Nat} {tx : String} (hk0 : xstr[k]? = some (X.2.2.1.2.2.1, index, tx)) (h6 : k < 6) (hd : decode X.2.2.1.1 pc = .ok (.ldc index, 2)) : Snd X pc (pc + 2) (xStr k) := by
  obtain ⟨⟨p, l, e, R, s⟩, ⟨m, args, below, meth, c⟩, ⟨cc, nL, own, ret, Ts⟩, ⟨D, A, ad, cy, cnt, cs, sl⟩⟩ := X
  obtain ⟨hx, hb, hml, hown, hts, hin, hK, hG, hlocks, hr, hZ, hcs, hsl⟩ := hE
  rintro K ⟨L, st, w⟩ rr h hk H locs ls hH hO hS hl hst
  exact va_ldcS hx hb hown (hZ.2.1 k _ hk0) hd (hk _ h H locs ls hH hO hS hl ⟨by show k < cnt 65; rw [hG.2.1.1]; exact h6, hst⟩)
theorem n_null {X : XCtx} (hE : XE X) {pc : Nat} (hd : decode X.2.2.1.1 pc = .ok (.aconst_null, 1)) : Snd X pc (pc + 1) (xC .null) := by
  obtain ⟨⟨p, l, e, R, s⟩, ⟨m, args, below, meth, c⟩, ⟨cc, nL, own, ret, Ts⟩, ⟨D, A, ad, cy, cnt, cs, sl⟩⟩ := X
  obtain ⟨hx, hb, hml, hown, hts, hin, hK, hG, hlocks, hr, hZ, hcs, hsl⟩ := hE
  rintro K ⟨L, st, w⟩ rr h hk H locs ls hH hO hS hl hst
  exact lv_null hx hb hd (hk _ h H locs ls hH hO hS hl ⟨trivial, hst⟩)
theorem n_ldc {X : XCtx} (hE : XE X) {pc index : Nat} {v : Int32} (hc : Cond.constant X.2.2.1.2.2.1 index v ∈ lw_ok) (hd : decode X.2.2.1.1 pc = .ok (.ldc index, 2)) : Snd X pc (pc + 2) (xC (.int v)) := by
  obtain ⟨⟨p, l, e, R, s⟩, ⟨m, args, below, meth, c⟩, ⟨cc, nL, own, ret, Ts⟩, ⟨D, A, ad, cy, cnt, cs, sl⟩⟩ := X
  obtain ⟨hx, hb, hml, hown, hts, hin, hK, hG, hlocks, hr, hZ, hcs, hsl⟩ := hE
  rintro K ⟨L, st, w⟩ rr h hk H locs ls hH hO hS hl hst
  exact lv_ldc hx hb hown (hts _ (hin _ hc)) hd (hk _ h H locs ls hH hO hS hl ⟨trivial, hst⟩)
theorem n_ldcw {X : XCtx} (hE : XE X) {pc index : Nat} {v : Int32} (hc : Cond.constant X.2.2.1.2.2.1 index v ∈ lw_ok) (hd : decode X.2.2.1.1 pc = .ok (.ldc_w index, 3)) : Snd X pc (pc + 3) (xC (.int v)) := by
  obtain ⟨⟨p, l, e, R, s⟩, ⟨m, args, below, meth, c⟩, ⟨cc, nL, own, ret, Ts⟩, ⟨D, A, ad, cy, cnt, cs, sl⟩⟩ := X
  obtain ⟨hx, hb, hml, hown, hts, hin, hK, hG, hlocks, hr, hZ, hcs, hsl⟩ := hE
  rintro K ⟨L, st, w⟩ rr h hk H locs ls hH hO hS hl hst
  exact lv_ldcw hx hb hown (hts _ (hin _ hc)) hd (hk _ h H locs ls hH hO hS hl ⟨trivial, hst⟩)
theorem n_ldc2 {X : XCtx} (hE : XE X) {pc index : Nat} {v : Int64} (hc : Cond.constantLong X.2.2.1.2.2.1 index v ∈ lw_ok) (hd : decode X.2.2.1.1 pc = .ok (.ldc2_w index, 3)) : Snd X pc (pc + 3) (xC (.long v)) := by
  obtain ⟨⟨p, l, e, R, s⟩, ⟨m, args, below, meth, c⟩, ⟨cc, nL, own, ret, Ts⟩, ⟨D, A, ad, cy, cnt, cs, sl⟩⟩ := X
  obtain ⟨hx, hb, hml, hown, hts, hin, hK, hG, hlocks, hr, hZ, hcs, hsl⟩ := hE
  rintro K ⟨L, st, w⟩ rr h hk H locs ls hH hO hS hl hst
  exact lv_ldc2 hx hb hown (hts _ (hin _ hc)) hd (hk _ h H locs ls hH hO hS hl ⟨trivial, hst⟩)
theorem n_iload_n {X : XCtx} (hE : XE X) {pc : Nat} {k : Fin 4} (hd : decode X.2.2.1.1 pc = .ok (.iload_n k, 1)) : Snd X pc (pc + 1) (xLI (k : Nat)) := by
  obtain ⟨⟨p, l, e, R, s⟩, ⟨m, args, below, meth, c⟩, ⟨cc, nL, own, ret, Ts⟩, ⟨D, A, ad, cy, cnt, cs, sl⟩⟩ := X
  obtain ⟨hx, hb, hml, hown, hts, hin, hK, hG, hlocks, hr, hZ, hcs, hsl⟩ := hE
  rintro K ⟨L, st, w⟩ rr h hk H locs ls hH hO hS hl hst
  dsimp only [xLI] at h
  split at h
  · rename_i x hq
    exact lv_iload_n hx hb hd rfl (hl.2.2 _ _ hq).1 (hk _ h H locs ls hH hO hS hl ⟨trivial, hst⟩)
  · cases h
theorem n_iload {X : XCtx} (hE : XE X) {pc : Nat} {k : Nat} (hd : decode X.2.2.1.1 pc = .ok (.iload k, 2)) : Snd X pc (pc + 2) (xLI k) := by
  obtain ⟨⟨p, l, e, R, s⟩, ⟨m, args, below, meth, c⟩, ⟨cc, nL, own, ret, Ts⟩, ⟨D, A, ad, cy, cnt, cs, sl⟩⟩ := X
  obtain ⟨hx, hb, hml, hown, hts, hin, hK, hG, hlocks, hr, hZ, hcs, hsl⟩ := hE
  rintro K ⟨L, st, w⟩ rr h hk H locs ls hH hO hS hl hst
  dsimp only [xLI] at h
  split at h
  · rename_i x hq
    exact lv_iload hx hb hd (hl.2.2 _ _ hq).1 (hk _ h H locs ls hH hO hS hl ⟨trivial, hst⟩)
  · cases h
theorem n_lload_n {X : XCtx} (hE : XE X) {pc : Nat} {k : Fin 4} (hd : decode X.2.2.1.1 pc = .ok (.lload_n k, 1)) : Snd X pc (pc + 1) (xLJ (k : Nat)) := by
  obtain ⟨⟨p, l, e, R, s⟩, ⟨m, args, below, meth, c⟩, ⟨cc, nL, own, ret, Ts⟩, ⟨D, A, ad, cy, cnt, cs, sl⟩⟩ := X
  obtain ⟨hx, hb, hml, hown, hts, hin, hK, hG, hlocks, hr, hZ, hcs, hsl⟩ := hE
  rintro K ⟨L, st, w⟩ rr h hk H locs ls hH hO hS hl hst
  dsimp only [xLJ] at h
  split at h
  · rename_i x hq
    exact lv_lload_n hx hb hd rfl (hl.2.2 _ _ hq).1 (hk _ h H locs ls hH hO hS hl ⟨trivial, hst⟩)
  · cases h
theorem n_lload {X : XCtx} (hE : XE X) {pc : Nat} {k : Nat} (hd : decode X.2.2.1.1 pc = .ok (.lload k, 2)) : Snd X pc (pc + 2) (xLJ k) := by
  obtain ⟨⟨p, l, e, R, s⟩, ⟨m, args, below, meth, c⟩, ⟨cc, nL, own, ret, Ts⟩, ⟨D, A, ad, cy, cnt, cs, sl⟩⟩ := X
  obtain ⟨hx, hb, hml, hown, hts, hin, hK, hG, hlocks, hr, hZ, hcs, hsl⟩ := hE
  rintro K ⟨L, st, w⟩ rr h hk H locs ls hH hO hS hl hst
  dsimp only [xLJ] at h
  split at h
  · rename_i x hq
    exact lv_lload hx hb hd (hl.2.2 _ _ hq).1 (hk _ h H locs ls hH hO hS hl ⟨trivial, hst⟩)
  · cases h
theorem n_aload_n {X : XCtx} (hE : XE X) {pc : Nat} {k : Fin 4} (hd : decode X.2.2.1.1 pc = .ok (.aload_n k, 1)) : Snd X pc (pc + 1) (xLA (k : Nat)) := by
  obtain ⟨⟨p, l, e, R, s⟩, ⟨m, args, below, meth, c⟩, ⟨cc, nL, own, ret, Ts⟩, ⟨D, A, ad, cy, cnt, cs, sl⟩⟩ := X
  obtain ⟨hx, hb, hml, hown, hts, hin, hK, hG, hlocks, hr, hZ, hcs, hsl⟩ := hE
  rintro K ⟨L, st, w⟩ rr h hk H locs ls hH hO hS hl hst
  dsimp only [xLA] at h
  split at h
  · rename_i q hq
    exact lv_aload_n hx hb hd rfl (hl.2.2 _ _ hq).1 (hk _ h H locs ls hH hO hS hl ⟨(hl.2.2 _ _ hq).2, hst⟩)
  · rename_i hq
    exact lv_aload_nN hx hb hd rfl (hl.2.2 _ _ hq).1 (hk _ h H locs ls hH hO hS hl ⟨trivial, hst⟩)
  · cases h
theorem n_aload {X : XCtx} (hE : XE X) {pc : Nat} {k : Nat} (hd : decode X.2.2.1.1 pc = .ok (.aload k, 2)) : Snd X pc (pc + 2) (xLA k) := by
  obtain ⟨⟨p, l, e, R, s⟩, ⟨m, args, below, meth, c⟩, ⟨cc, nL, own, ret, Ts⟩, ⟨D, A, ad, cy, cnt, cs, sl⟩⟩ := X
  obtain ⟨hx, hb, hml, hown, hts, hin, hK, hG, hlocks, hr, hZ, hcs, hsl⟩ := hE
  rintro K ⟨L, st, w⟩ rr h hk H locs ls hH hO hS hl hst
  dsimp only [xLA] at h
  split at h
  · rename_i q hq
    exact lv_aload hx hb hd (hl.2.2 _ _ hq).1 (hk _ h H locs ls hH hO hS hl ⟨(hl.2.2 _ _ hq).2, hst⟩)
  · rename_i hq
    exact lv_aloadN hx hb hd (hl.2.2 _ _ hq).1 (hk _ h H locs ls hH hO hS hl ⟨trivial, hst⟩)
  · cases h
theorem n_istore_n {X : XCtx} (hE : XE X) {pc : Nat} {k : Fin 4} (hn : (k : Nat) < X.2.2.1.2.1) (hd : decode X.2.2.1.1 pc = .ok (.istore_n k, 1)) : Snd X pc (pc + 1) (xSI (k : Nat)) := by
  obtain ⟨⟨p, l, e, R, s⟩, ⟨m, args, below, meth, c⟩, ⟨cc, nL, own, ret, Ts⟩, ⟨D, A, ad, cy, cnt, cs, sl⟩⟩ := X
  obtain ⟨hx, hb, hml, hown, hts, hin, hK, hG, hlocks, hr, hZ, hcs, hsl⟩ := hE
  rintro K ⟨L, st, w⟩ rr h hk H locs ls hH hO hS hl hst
  dsimp only [xSI] at h
  split at h
  · exact lv_istore_n hx hb hd rfl (xlv_has hl) hn rfl (fun ls1 hl1 => hk _ h H locs ls1 hH hO hS (xlv_st1 hl hl1 trivial) hst.2)
  · cases h
theorem n_istore {X : XCtx} (hE : XE X) {pc : Nat} {k : Nat} (hn : k < X.2.2.1.2.1) (hd : decode X.2.2.1.1 pc = .ok (.istore k, 2)) : Snd X pc (pc + 2) (xSI k) := by
  obtain ⟨⟨p, l, e, R, s⟩, ⟨m, args, below, meth, c⟩, ⟨cc, nL, own, ret, Ts⟩, ⟨D, A, ad, cy, cnt, cs, sl⟩⟩ := X
  obtain ⟨hx, hb, hml, hown, hts, hin, hK, hG, hlocks, hr, hZ, hcs, hsl⟩ := hE
  rintro K ⟨L, st, w⟩ rr h hk H locs ls hH hO hS hl hst
  dsimp only [xSI] at h
  split at h
  · exact lv_istore hx hb hd (xlv_has hl) hn rfl (fun ls1 hl1 => hk _ h H locs ls1 hH hO hS (xlv_st1 hl hl1 trivial) hst.2)
  · cases h
theorem n_lstore_n {X : XCtx} (hE : XE X) {pc : Nat} {k : Fin 4} (hn : (k : Nat) + 1 < X.2.2.1.2.1) (hd : decode X.2.2.1.1 pc = .ok (.lstore_n k, 1)) : Snd X pc (pc + 1) (xSJ (k : Nat)) := by
  obtain ⟨⟨p, l, e, R, s⟩, ⟨m, args, below, meth, c⟩, ⟨cc, nL, own, ret, Ts⟩, ⟨D, A, ad, cy, cnt, cs, sl⟩⟩ := X
  obtain ⟨hx, hb, hml, hown, hts, hin, hK, hG, hlocks, hr, hZ, hcs, hsl⟩ := hE
  rintro K ⟨L, st, w⟩ rr h hk H locs ls hH hO hS hl hst
  dsimp only [xSJ] at h
  split at h
  · exact lv_lstore_n hx hb hd rfl (xlv_has hl) hn rfl (fun ls1 hl1 => hk _ h H locs ls1 hH hO hS (xlv_st2 hl hl1 trivial) hst.2)
  · cases h
theorem n_lstore {X : XCtx} (hE : XE X) {pc : Nat} {k : Nat} (hn : k + 1 < X.2.2.1.2.1) (hd : decode X.2.2.1.1 pc = .ok (.lstore k, 2)) : Snd X pc (pc + 2) (xSJ k) := by
  obtain ⟨⟨p, l, e, R, s⟩, ⟨m, args, below, meth, c⟩, ⟨cc, nL, own, ret, Ts⟩, ⟨D, A, ad, cy, cnt, cs, sl⟩⟩ := X
  obtain ⟨hx, hb, hml, hown, hts, hin, hK, hG, hlocks, hr, hZ, hcs, hsl⟩ := hE
  rintro K ⟨L, st, w⟩ rr h hk H locs ls hH hO hS hl hst
  dsimp only [xSJ] at h
  split at h
  · exact lv_lstore hx hb hd (xlv_has hl) hn rfl (fun ls1 hl1 => hk _ h H locs ls1 hH hO hS (xlv_st2 hl hl1 trivial) hst.2)
  · cases h
theorem n_astore_n {X : XCtx} (hE : XE X) {pc : Nat} {k : Fin 4} (hn : (k : Nat) < X.2.2.1.2.1) (hd : decode X.2.2.1.1 pc = .ok (.astore_n k, 1)) : Snd X pc (pc + 1) (xSA (k : Nat)) := by
  obtain ⟨⟨p, l, e, R, s⟩, ⟨m, args, below, meth, c⟩, ⟨cc, nL, own, ret, Ts⟩, ⟨D, A, ad, cy, cnt, cs, sl⟩⟩ := X
  obtain ⟨hx, hb, hml, hown, hts, hin, hK, hG, hlocks, hr, hZ, hcs, hsl⟩ := hE
  rintro K ⟨L, st, w⟩ rr h hk H locs ls hH hO hS hl hst
  dsimp only [xSA] at h
  split at h
  · exact lv_astore_n hx hb hd rfl (xlv_has hl) hn rfl (fun ls1 hl1 => hk _ h H locs ls1 hH hO hS (xlv_st1 hl hl1 hst.1) hst.2)
  · cases h
theorem n_astore {X : XCtx} (hE : XE X) {pc : Nat} {k : Nat} (hn : k < X.2.2.1.2.1) (hd : decode X.2.2.1.1 pc = .ok (.astore k, 2)) : Snd X pc (pc + 2) (xSA k) := by
  obtain ⟨⟨p, l, e, R, s⟩, ⟨m, args, below, meth, c⟩, ⟨cc, nL, own, ret, Ts⟩, ⟨D, A, ad, cy, cnt, cs, sl⟩⟩ := X
  obtain ⟨hx, hb, hml, hown, hts, hin, hK, hG, hlocks, hr, hZ, hcs, hsl⟩ := hE
  rintro K ⟨L, st, w⟩ rr h hk H locs ls hH hO hS hl hst
  dsimp only [xSA] at h
  split at h
  · exact lv_astore hx hb hd (xlv_has hl) hn rfl (fun ls1 hl1 => hk _ h H locs ls1 hH hO hS (xlv_st1 hl hl1 hst.1) hst.2)
  · cases h
theorem n_iinc {X : XCtx} (hE : XE X) {pc k : Nat} {n : Int} {d : Int32} (hv : Int32.ofInt n = d) (hn : k < X.2.2.1.2.1) (hd : decode X.2.2.1.1 pc = .ok (.iinc k n, 3)) : Snd X pc (pc + 3) (xInc k d) := by
  obtain ⟨⟨p, l, e, R, s⟩, ⟨m, args, below, meth, c⟩, ⟨cc, nL, own, ret, Ts⟩, ⟨D, A, ad, cy, cnt, cs, sl⟩⟩ := X
  obtain ⟨hx, hb, hml, hown, hts, hin, hK, hG, hlocks, hr, hZ, hcs, hsl⟩ := hE
  rintro K ⟨L, st, w⟩ rr h hk H locs ls hH hO hS hl hst
  dsimp only [xInc] at h
  split at h
  · rename_i x hq
    obtain ⟨j, hj⟩ := List.getElem?_of_mem (xlv_mem (ad := ad) hq)
    exact lv_iinc hx hb hd (xlv_has hl) hj (by rw [hv]) hn rfl (fun ls1 hl1 => hk _ h H locs ls1 hH hO hS (xlv_st1 (v := .inl (.int (x + d))) hl hl1 trivial) hst)
  · cases h
theorem n_iadd {X : XCtx} (hE : XE X) {pc : Nat} (hd : decode X.2.2.1.1 pc = .ok (.iadd, 1)) : Snd X pc (pc + 1) (xI2 (· + ·)) := by
  obtain ⟨⟨p, l, e, R, s⟩, ⟨m, args, below, meth, c⟩, ⟨cc, nL, own, ret, Ts⟩, ⟨D, A, ad, cy, cnt, cs, sl⟩⟩ := X
  obtain ⟨hx, hb, hml, hown, hts, hin, hK, hG, hlocks, hr, hZ, hcs, hsl⟩ := hE
  rintro K ⟨L, st, w⟩ rr h hk H locs ls hH hO hS hl hst
  dsimp only [xI2] at h
  split at h
  · exact lv_iadd hx hb hd (hk _ h H locs ls hH hO hS hl ⟨trivial, hst.2.2⟩)
  · cases h
theorem n_isub {X : XCtx} (hE : XE X) {pc : Nat} (hd : decode X.2.2.1.1 pc = .ok (.isub, 1)) : Snd X pc (pc + 1) (xI2 (· - ·)) := by
  obtain ⟨⟨p, l, e, R, s⟩, ⟨m, args, below, meth, c⟩, ⟨cc, nL, own, ret, Ts⟩, ⟨D, A, ad, cy, cnt, cs, sl⟩⟩ := X
  obtain ⟨hx, hb, hml, hown, hts, hin, hK, hG, hlocks, hr, hZ, hcs, hsl⟩ := hE
  rintro K ⟨L, st, w⟩ rr h hk H locs ls hH hO hS hl hst
  dsimp only [xI2] at h
  split at h
  · exact lv_isub hx hb hd (hk _ h H locs ls hH hO hS hl ⟨trivial, hst.2.2⟩)
  · cases h
theorem n_imul {X : XCtx} (hE : XE X) {pc : Nat} (hd : decode X.2.2.1.1 pc = .ok (.imul, 1)) : Snd X pc (pc + 1) (xI2 (· * ·)) := by
  obtain ⟨⟨p, l, e, R, s⟩, ⟨m, args, below, meth, c⟩, ⟨cc, nL, own, ret, Ts⟩, ⟨D, A, ad, cy, cnt, cs, sl⟩⟩ := X
  obtain ⟨hx, hb, hml, hown, hts, hin, hK, hG, hlocks, hr, hZ, hcs, hsl⟩ := hE
  rintro K ⟨L, st, w⟩ rr h hk H locs ls hH hO hS hl hst
  dsimp only [xI2] at h
  split at h
  · exact lv_imul hx hb hd (hk _ h H locs ls hH hO hS hl ⟨trivial, hst.2.2⟩)
  · cases h
theorem n_iand {X : XCtx} (hE : XE X) {pc : Nat} (hd : decode X.2.2.1.1 pc = .ok (.iand, 1)) : Snd X pc (pc + 1) (xI2 (· &&& ·)) := by
  obtain ⟨⟨p, l, e, R, s⟩, ⟨m, args, below, meth, c⟩, ⟨cc, nL, own, ret, Ts⟩, ⟨D, A, ad, cy, cnt, cs, sl⟩⟩ := X
  obtain ⟨hx, hb, hml, hown, hts, hin, hK, hG, hlocks, hr, hZ, hcs, hsl⟩ := hE
  rintro K ⟨L, st, w⟩ rr h hk H locs ls hH hO hS hl hst
  dsimp only [xI2] at h
  split at h
  · exact lv_iand hx hb hd (hk _ h H locs ls hH hO hS hl ⟨trivial, hst.2.2⟩)
  · cases h
theorem n_ior {X : XCtx} (hE : XE X) {pc : Nat} (hd : decode X.2.2.1.1 pc = .ok (.ior, 1)) : Snd X pc (pc + 1) (xI2 (· ||| ·)) := by
  obtain ⟨⟨p, l, e, R, s⟩, ⟨m, args, below, meth, c⟩, ⟨cc, nL, own, ret, Ts⟩, ⟨D, A, ad, cy, cnt, cs, sl⟩⟩ := X
  obtain ⟨hx, hb, hml, hown, hts, hin, hK, hG, hlocks, hr, hZ, hcs, hsl⟩ := hE
  rintro K ⟨L, st, w⟩ rr h hk H locs ls hH hO hS hl hst
  dsimp only [xI2] at h
  split at h
  · exact lv_ior hx hb hd (hk _ h H locs ls hH hO hS hl ⟨trivial, hst.2.2⟩)
  · cases h
theorem n_ixor {X : XCtx} (hE : XE X) {pc : Nat} (hd : decode X.2.2.1.1 pc = .ok (.ixor, 1)) : Snd X pc (pc + 1) (xI2 (· ^^^ ·)) := by
  obtain ⟨⟨p, l, e, R, s⟩, ⟨m, args, below, meth, c⟩, ⟨cc, nL, own, ret, Ts⟩, ⟨D, A, ad, cy, cnt, cs, sl⟩⟩ := X
  obtain ⟨hx, hb, hml, hown, hts, hin, hK, hG, hlocks, hr, hZ, hcs, hsl⟩ := hE
  rintro K ⟨L, st, w⟩ rr h hk H locs ls hH hO hS hl hst
  dsimp only [xI2] at h
  split at h
  · exact lv_ixor hx hb hd (hk _ h H locs ls hH hO hS hl ⟨trivial, hst.2.2⟩)
  · cases h
theorem n_ishl {X : XCtx} (hE : XE X) {pc : Nat} (hd : decode X.2.2.1.1 pc = .ok (.ishl, 1)) : Snd X pc (pc + 1) (xI2 (fun x y => x <<< (y &&& 31))) := by
  obtain ⟨⟨p, l, e, R, s⟩, ⟨m, args, below, meth, c⟩, ⟨cc, nL, own, ret, Ts⟩, ⟨D, A, ad, cy, cnt, cs, sl⟩⟩ := X
  obtain ⟨hx, hb, hml, hown, hts, hin, hK, hG, hlocks, hr, hZ, hcs, hsl⟩ := hE
  rintro K ⟨L, st, w⟩ rr h hk H locs ls hH hO hS hl hst
  dsimp only [xI2] at h
  split at h
  · exact lv_ishl hx hb hd (hk _ h H locs ls hH hO hS hl ⟨trivial, hst.2.2⟩)
  · cases h
theorem n_ishr {X : XCtx} (hE : XE X) {pc : Nat} (hd : decode X.2.2.1.1 pc = .ok (.ishr, 1)) : Snd X pc (pc + 1) (xI2 (fun x y => x >>> (y &&& 31))) := by
  obtain ⟨⟨p, l, e, R, s⟩, ⟨m, args, below, meth, c⟩, ⟨cc, nL, own, ret, Ts⟩, ⟨D, A, ad, cy, cnt, cs, sl⟩⟩ := X
  obtain ⟨hx, hb, hml, hown, hts, hin, hK, hG, hlocks, hr, hZ, hcs, hsl⟩ := hE
  rintro K ⟨L, st, w⟩ rr h hk H locs ls hH hO hS hl hst
  dsimp only [xI2] at h
  split at h
  · exact lv_ishr hx hb hd (hk _ h H locs ls hH hO hS hl ⟨trivial, hst.2.2⟩)
  · cases h
theorem n_iushr {X : XCtx} (hE : XE X) {pc : Nat} (hd : decode X.2.2.1.1 pc = .ok (.iushr, 1)) : Snd X pc (pc + 1) (xI2 (fun x y => (x.toUInt32 >>> (y.toUInt32 &&& Int32.toUInt32 31)).toInt32)) := by
  obtain ⟨⟨p, l, e, R, s⟩, ⟨m, args, below, meth, c⟩, ⟨cc, nL, own, ret, Ts⟩, ⟨D, A, ad, cy, cnt, cs, sl⟩⟩ := X
  obtain ⟨hx, hb, hml, hown, hts, hin, hK, hG, hlocks, hr, hZ, hcs, hsl⟩ := hE
  rintro K ⟨L, st, w⟩ rr h hk H locs ls hH hO hS hl hst
  dsimp only [xI2] at h
  split at h
  · exact lv_iushr hx hb hd rfl (hk _ h H locs ls hH hO hS hl ⟨trivial, hst.2.2⟩)
  · cases h
theorem n_idiv {X : XCtx} (hE : XE X) {pc : Nat} (hd : decode X.2.2.1.1 pc = .ok (.idiv, 1)) : Snd X pc (pc + 1) (xI2z (· / ·)) := by
  obtain ⟨⟨p, l, e, R, s⟩, ⟨m, args, below, meth, c⟩, ⟨cc, nL, own, ret, Ts⟩, ⟨D, A, ad, cy, cnt, cs, sl⟩⟩ := X
  obtain ⟨hx, hb, hml, hown, hts, hin, hK, hG, hlocks, hr, hZ, hcs, hsl⟩ := hE
  rintro K ⟨L, st, w⟩ rr h hk H locs ls hH hO hS hl hst
  dsimp only [xI2z] at h
  split at h
  · split at h
    · cases h
    · rename_i hz
      exact lv_idiv hx hb hd hz (hk _ h H locs ls hH hO hS hl ⟨trivial, hst.2.2⟩)
  · cases h
theorem n_irem {X : XCtx} (hE : XE X) {pc : Nat} (hd : decode X.2.2.1.1 pc = .ok (.irem, 1)) : Snd X pc (pc + 1) (xI2z (fun x y => x - x / y * y)) := by
  obtain ⟨⟨p, l, e, R, s⟩, ⟨m, args, below, meth, c⟩, ⟨cc, nL, own, ret, Ts⟩, ⟨D, A, ad, cy, cnt, cs, sl⟩⟩ := X
  obtain ⟨hx, hb, hml, hown, hts, hin, hK, hG, hlocks, hr, hZ, hcs, hsl⟩ := hE
  rintro K ⟨L, st, w⟩ rr h hk H locs ls hH hO hS hl hst
  dsimp only [xI2z] at h
  split at h
  · split at h
    · cases h
    · rename_i hz
      exact lv_irem hx hb hd hz (hk _ h H locs ls hH hO hS hl ⟨trivial, hst.2.2⟩)
  · cases h
theorem n_ladd {X : XCtx} (hE : XE X) {pc : Nat} (hd : decode X.2.2.1.1 pc = .ok (.ladd, 1)) : Snd X pc (pc + 1) (xJ2 (· + ·)) := by
  obtain ⟨⟨p, l, e, R, s⟩, ⟨m, args, below, meth, c⟩, ⟨cc, nL, own, ret, Ts⟩, ⟨D, A, ad, cy, cnt, cs, sl⟩⟩ := X
  obtain ⟨hx, hb, hml, hown, hts, hin, hK, hG, hlocks, hr, hZ, hcs, hsl⟩ := hE
  rintro K ⟨L, st, w⟩ rr h hk H locs ls hH hO hS hl hst
  dsimp only [xJ2] at h
  split at h
  · exact lv_ladd hx hb hd (hk _ h H locs ls hH hO hS hl ⟨trivial, hst.2.2⟩)
  · cases h
theorem n_lsub {X : XCtx} (hE : XE X) {pc : Nat} (hd : decode X.2.2.1.1 pc = .ok (.lsub, 1)) : Snd X pc (pc + 1) (xJ2 (· - ·)) := by
  obtain ⟨⟨p, l, e, R, s⟩, ⟨m, args, below, meth, c⟩, ⟨cc, nL, own, ret, Ts⟩, ⟨D, A, ad, cy, cnt, cs, sl⟩⟩ := X
  obtain ⟨hx, hb, hml, hown, hts, hin, hK, hG, hlocks, hr, hZ, hcs, hsl⟩ := hE
  rintro K ⟨L, st, w⟩ rr h hk H locs ls hH hO hS hl hst
  dsimp only [xJ2] at h
  split at h
  · exact lv_lsub hx hb hd (hk _ h H locs ls hH hO hS hl ⟨trivial, hst.2.2⟩)
  · cases h
theorem n_lmul {X : XCtx} (hE : XE X) {pc : Nat} (hd : decode X.2.2.1.1 pc = .ok (.lmul, 1)) : Snd X pc (pc + 1) (xJ2 (· * ·)) := by
  obtain ⟨⟨p, l, e, R, s⟩, ⟨m, args, below, meth, c⟩, ⟨cc, nL, own, ret, Ts⟩, ⟨D, A, ad, cy, cnt, cs, sl⟩⟩ := X
  obtain ⟨hx, hb, hml, hown, hts, hin, hK, hG, hlocks, hr, hZ, hcs, hsl⟩ := hE
  rintro K ⟨L, st, w⟩ rr h hk H locs ls hH hO hS hl hst
  dsimp only [xJ2] at h
  split at h
  · exact lv_lmul hx hb hd (hk _ h H locs ls hH hO hS hl ⟨trivial, hst.2.2⟩)
  · cases h
theorem n_land {X : XCtx} (hE : XE X) {pc : Nat} (hd : decode X.2.2.1.1 pc = .ok (.land, 1)) : Snd X pc (pc + 1) (xJ2 (· &&& ·)) := by
  obtain ⟨⟨p, l, e, R, s⟩, ⟨m, args, below, meth, c⟩, ⟨cc, nL, own, ret, Ts⟩, ⟨D, A, ad, cy, cnt, cs, sl⟩⟩ := X
  obtain ⟨hx, hb, hml, hown, hts, hin, hK, hG, hlocks, hr, hZ, hcs, hsl⟩ := hE
  rintro K ⟨L, st, w⟩ rr h hk H locs ls hH hO hS hl hst
  dsimp only [xJ2] at h
  split at h
  · exact lv_land hx hb hd (hk _ h H locs ls hH hO hS hl ⟨trivial, hst.2.2⟩)
  · cases h
theorem n_lor {X : XCtx} (hE : XE X) {pc : Nat} (hd : decode X.2.2.1.1 pc = .ok (.lor, 1)) : Snd X pc (pc + 1) (xJ2 (· ||| ·)) := by
  obtain ⟨⟨p, l, e, R, s⟩, ⟨m, args, below, meth, c⟩, ⟨cc, nL, own, ret, Ts⟩, ⟨D, A, ad, cy, cnt, cs, sl⟩⟩ := X
  obtain ⟨hx, hb, hml, hown, hts, hin, hK, hG, hlocks, hr, hZ, hcs, hsl⟩ := hE
  rintro K ⟨L, st, w⟩ rr h hk H locs ls hH hO hS hl hst
  dsimp only [xJ2] at h
  split at h
  · exact lv_lor hx hb hd (hk _ h H locs ls hH hO hS hl ⟨trivial, hst.2.2⟩)
  · cases h
theorem n_ldiv {X : XCtx} (hE : XE X) {pc : Nat} (hd : decode X.2.2.1.1 pc = .ok (.ldiv, 1)) : Snd X pc (pc + 1) (xJ2z (· / ·)) := by
  obtain ⟨⟨p, l, e, R, s⟩, ⟨m, args, below, meth, c⟩, ⟨cc, nL, own, ret, Ts⟩, ⟨D, A, ad, cy, cnt, cs, sl⟩⟩ := X
  obtain ⟨hx, hb, hml, hown, hts, hin, hK, hG, hlocks, hr, hZ, hcs, hsl⟩ := hE
  rintro K ⟨L, st, w⟩ rr h hk H locs ls hH hO hS hl hst
  dsimp only [xJ2z] at h
  split at h
  · split at h
    · cases h
    · rename_i hz
      exact lv_ldiv hx hb hd hz (hk _ h H locs ls hH hO hS hl ⟨trivial, hst.2.2⟩)
  · cases h
theorem n_lrem {X : XCtx} (hE : XE X) {pc : Nat} (hd : decode X.2.2.1.1 pc = .ok (.lrem, 1)) : Snd X pc (pc + 1) (xJ2z (fun x y => x - x / y * y)) := by
  obtain ⟨⟨p, l, e, R, s⟩, ⟨m, args, below, meth, c⟩, ⟨cc, nL, own, ret, Ts⟩, ⟨D, A, ad, cy, cnt, cs, sl⟩⟩ := X
  obtain ⟨hx, hb, hml, hown, hts, hin, hK, hG, hlocks, hr, hZ, hcs, hsl⟩ := hE
  rintro K ⟨L, st, w⟩ rr h hk H locs ls hH hO hS hl hst
  dsimp only [xJ2z] at h
  split at h
  · split at h
    · cases h
    · rename_i hz
      exact lv_lrem hx hb hd hz (hk _ h H locs ls hH hO hS hl ⟨trivial, hst.2.2⟩)
  · cases h
theorem n_lshl {X : XCtx} (hE : XE X) {pc : Nat} (hd : decode X.2.2.1.1 pc = .ok (.lshl, 1)) : Snd X pc (pc + 1) (xJI (fun x y => x <<< (y.toInt64 &&& 63))) := by
  obtain ⟨⟨p, l, e, R, s⟩, ⟨m, args, below, meth, c⟩, ⟨cc, nL, own, ret, Ts⟩, ⟨D, A, ad, cy, cnt, cs, sl⟩⟩ := X
  obtain ⟨hx, hb, hml, hown, hts, hin, hK, hG, hlocks, hr, hZ, hcs, hsl⟩ := hE
  rintro K ⟨L, st, w⟩ rr h hk H locs ls hH hO hS hl hst
  dsimp only [xJI] at h
  split at h
  · exact lv_lshl hx hb hd rfl (hk _ h H locs ls hH hO hS hl ⟨trivial, hst.2.2⟩)
  · cases h
theorem n_lcmp {X : XCtx} (hE : XE X) {pc : Nat} (hd : decode X.2.2.1.1 pc = .ok (.lcmp, 1)) : Snd X pc (pc + 1) (xJcmp) := by
  obtain ⟨⟨p, l, e, R, s⟩, ⟨m, args, below, meth, c⟩, ⟨cc, nL, own, ret, Ts⟩, ⟨D, A, ad, cy, cnt, cs, sl⟩⟩ := X
  obtain ⟨hx, hb, hml, hown, hts, hin, hK, hG, hlocks, hr, hZ, hcs, hsl⟩ := hE
  rintro K ⟨L, st, w⟩ rr h hk H locs ls hH hO hS hl hst
  dsimp only [xJcmp] at h
  split at h
  · exact W.lcmp hx hb hd (hk _ h H locs ls hH hO hS hl ⟨trivial, hst.2.2⟩)
  · cases h
theorem n_i2l {X : XCtx} (hE : XE X) {pc : Nat} (hd : decode X.2.2.1.1 pc = .ok (.i2l, 1)) : Snd X pc (pc + 1) (xI2L) := by
  obtain ⟨⟨p, l, e, R, s⟩, ⟨m, args, below, meth, c⟩, ⟨cc, nL, own, ret, Ts⟩, ⟨D, A, ad, cy, cnt, cs, sl⟩⟩ := X
  obtain ⟨hx, hb, hml, hown, hts, hin, hK, hG, hlocks, hr, hZ, hcs, hsl⟩ := hE
  rintro K ⟨L, st, w⟩ rr h hk H locs ls hH hO hS hl hst
  dsimp only [xI2L] at h
  split at h
  · exact lv_i2l hx hb hd rfl (hk _ h H locs ls hH hO hS hl ⟨trivial, hst.2⟩)
  · cases h
theorem n_l2i {X : XCtx} (hE : XE X) {pc : Nat} (hd : decode X.2.2.1.1 pc = .ok (.l2i, 1)) : Snd X pc (pc + 1) (xL2I) := by
  obtain ⟨⟨p, l, e, R, s⟩, ⟨m, args, below, meth, c⟩, ⟨cc, nL, own, ret, Ts⟩, ⟨D, A, ad, cy, cnt, cs, sl⟩⟩ := X
  obtain ⟨hx, hb, hml, hown, hts, hin, hK, hG, hlocks, hr, hZ, hcs, hsl⟩ := hE
  rintro K ⟨L, st, w⟩ rr h hk H locs ls hH hO hS hl hst
  dsimp only [xL2I] at h
  split at h
  · exact lv_l2i hx hb hd rfl (hk _ h H locs ls hH hO hS hl ⟨trivial, hst.2⟩)
  · cases h
theorem n_i2b {X : XCtx} (hE : XE X) {pc : Nat} (hd : decode X.2.2.1.1 pc = .ok (.i2b, 1)) : Snd X pc (pc + 1) (xI1 (fun x => x.toInt8.toInt32)) := by
  obtain ⟨⟨p, l, e, R, s⟩, ⟨m, args, below, meth, c⟩, ⟨cc, nL, own, ret, Ts⟩, ⟨D, A, ad, cy, cnt, cs, sl⟩⟩ := X
  obtain ⟨hx, hb, hml, hown, hts, hin, hK, hG, hlocks, hr, hZ, hcs, hsl⟩ := hE
  rintro K ⟨L, st, w⟩ rr h hk H locs ls hH hO hS hl hst
  dsimp only [xI1] at h
  split at h
  · exact lv_i2b hx hb hd rfl (hk _ h H locs ls hH hO hS hl ⟨trivial, hst.2⟩)
  · cases h
theorem n_ineg {X : XCtx} (hE : XE X) {pc : Nat} (hd : decode X.2.2.1.1 pc = .ok (.ineg, 1)) : Snd X pc (pc + 1) (xI1 (fun x => -x)) := by
  obtain ⟨⟨p, l, e, R, s⟩, ⟨m, args, below, meth, c⟩, ⟨cc, nL, own, ret, Ts⟩, ⟨D, A, ad, cy, cnt, cs, sl⟩⟩ := X
  obtain ⟨hx, hb, hml, hown, hts, hin, hK, hG, hlocks, hr, hZ, hcs, hsl⟩ := hE
  rintro K ⟨L, st, w⟩ rr h hk H locs ls hH hO hS hl hst
  dsimp only [xI1] at h
  split at h
  · exact lv_ineg hx hb hd (hk _ h H locs ls hH hO hS hl ⟨trivial, hst.2⟩)
  · cases h
theorem n_dup {X : XCtx} (hE : XE X) {pc : Nat} (hd : decode X.2.2.1.1 pc = .ok (.dup, 1)) : Snd X pc (pc + 1) xDup := by
  obtain ⟨⟨p, l, e, R, s⟩, ⟨m, args, below, meth, c⟩, ⟨cc, nL, own, ret, Ts⟩, ⟨D, A, ad, cy, cnt, cs, sl⟩⟩ := X
  obtain ⟨hx, hb, hml, hown, hts, hin, hK, hG, hlocks, hr, hZ, hcs, hsl⟩ := hE
  rintro K ⟨L, st, w⟩ rr h hk H locs ls hH hO hS hl hst
  dsimp only [xDup] at h
  split at h
  · exact lv_dup hx hb hd rfl (hk _ h H locs ls hH hO hS hl ⟨hst.1, hst⟩)
  · exact lv_dup hx hb hd rfl (hk _ h H locs ls hH hO hS hl ⟨hst.1, hst⟩)
  · cases h
theorem n_dup2 {X : XCtx} (hE : XE X) {pc : Nat} (hd : decode X.2.2.1.1 pc = .ok (.dup2, 1)) : Snd X pc (pc + 1) (xDup2) := by
  obtain ⟨⟨p, l, e, R, s⟩, ⟨m, args, below, meth, c⟩, ⟨cc, nL, own, ret, Ts⟩, ⟨D, A, ad, cy, cnt, cs, sl⟩⟩ := X
  obtain ⟨hx, hb, hml, hown, hts, hin, hK, hG, hlocks, hr, hZ, hcs, hsl⟩ := hE
  rintro K ⟨L, st, w⟩ rr h hk H locs ls hH hO hS hl hst
  dsimp only [xDup2] at h
  split at h
  · exact lv_dup2_11 hx hb hd rfl rfl (hk _ h H locs ls hH hO hS hl ⟨hst.1, hst.2.1, hst⟩)
  · cases h
theorem n_pop {X : XCtx} (hE : XE X) {pc : Nat} (hd : decode X.2.2.1.1 pc = .ok (.pop, 1)) : Snd X pc (pc + 1) (xPop) := by
  obtain ⟨⟨p, l, e, R, s⟩, ⟨m, args, below, meth, c⟩, ⟨cc, nL, own, ret, Ts⟩, ⟨D, A, ad, cy, cnt, cs, sl⟩⟩ := X
  obtain ⟨hx, hb, hml, hown, hts, hin, hK, hG, hlocks, hr, hZ, hcs, hsl⟩ := hE
  rintro K ⟨L, st, w⟩ rr h hk H locs ls hH hO hS hl hst
  dsimp only [xPop] at h
  split at h
  · exact lv_pop hx hb hd rfl (hk _ h H locs ls hH hO hS hl hst.2)
  · cases h
theorem gJ_sI {w : XW} {κ i k : Nat} {v : Int32} : gJ (sI w κ i k v) = gJ w := rfl
theorem gR_sI {w : XW} {κ i k : Nat} {v : Int32} : gR (sI w κ i k v) = gR w := rfl
theorem gZ_sI {w : XW} {κ i k : Nat} {v : Int32} : gZ (sI w κ i k v) = gZ w := rfl
theorem gI_sJ {w : XW} {κ i k : Nat} {v : Int64} : gI (sJ w κ i k v) = gI w := rfl
theorem gR_sJ {w : XW} {κ i k : Nat} {v : Int64} : gR (sJ w κ i k v) = gR w := rfl
theorem gZ_sJ {w : XW} {κ i k : Nat} {v : Int64} : gZ (sJ w κ i k v) = gZ w := rfl
theorem gI_sR {w : XW} {κ i k : Nat} {v : Option Nat} : gI (sR w κ i k v) = gI w := rfl
theorem gJ_sR {w : XW} {κ i k : Nat} {v : Option Nat} : gJ (sR w κ i k v) = gJ w := rfl
theorem gZ_sR {w : XW} {κ i k : Nat} {v : Option Nat} : gZ (sR w κ i k v) = gZ w := rfl
/-- what the tables say of the class of kind κ -/
def XK (κ : Nat) (C : String) (T : u_T) (ty : Nat → FieldType) (N : Nat) : Prop := κ < 12 ∧ vwCl[κ]? = some (C, T, N) ∧ (∀ w ∈ u_ws C T N, w ∈ lw_ok) ∧ (∀ k, k < N → parseFieldDescriptor (T k).2.2.1 = some (ty k)) ∧ (∀ a, a < N → ∀ b, b < N → a ≠ b → (T a).2.1 ≠ (T b).2.1)
theorem xcell_o {ad : Nat → Nat → Nat} {cy : Nat → ClassId} {w : XW} {κ i : Nat} (h : κ < 12) : xcell ad cy w κ i = .inr (κ, xfs ad w κ i ((xcl[κ]?).getD [])) := by
  unfold xcell
  rw [if_pos h]
theorem xfc_at {κ k : Nat} {cd : XC} (h : xfc κ k = some cd) : ((xcl[κ]?).getD [])[k]? = some cd := by
  unfold xfc at h
  cases hq : xcl[κ]? with
  | none => rw [hq] at h; cases h
  | some fl => rw [hq] at h; exact h
theorem n_getI {X : XCtx} (hE : XE X) {pc index κ k N : Nat} {C : String} {T : u_T} {ty : Nat → FieldType} (hC : XK κ C T ty N) (hc : xfc κ k = some (0, 0, 0, 0)) (hkN : k < N) (hTC : (T k).1 = C) (hlk : Cond.fieldLink X.2.2.1.2.2.1 index C (T k).2.1 (T k).2.2.1 ∈ lw_ok) (hd : decode X.2.2.1.1 pc = .ok (.getfield index, 3)) : Snd X pc (pc + 3) (xGI κ k) := by
  obtain ⟨⟨p, l, e, R, s⟩, ⟨m, args, below, meth, c⟩, ⟨cc, nL, own, ret, Ts⟩, ⟨D, A, ad, cy, cnt, cs, sl⟩⟩ := X
  obtain ⟨hx, hb, hml, hown, hts, hin, hK, hG, hlocks, hr, hZ, hcs, hsl⟩ := hE
  rintro K ⟨L, st, w⟩ rr h hk H locs ls hH hO hS hl hst
  dsimp only [xGI] at h
  split at h
  · rename_i q r
    obtain ⟨κ0, i⟩ := q
    split at h
    · rename_i hq
      dsimp only at hq
      subst hq
      obtain ⟨h12, hcl, hws, hty, hnm⟩ := hC
      obtain ⟨L0, f0, k0, hP, hD, hf, hk0, he⟩ := xH_cell hH (Nat.lt_trans h12 (by decide)) hst.1
      rw [he, xcell_o h12] at hk0
      exact va_get (v := .int (gI w κ0 i k)) hx hb (own := own) (ref := C) (C := C) (T := T) (N := N) hts (fun w1 h1 => hin _ (hws w1 h1)) hown hK hP k0 hk0 hcl k hkN (hts _ (hin _ hlk)) (fun _ h9 => by rw [hTC] at h9; exact h9) (by rw [xfs_get (xfc_at hc)]; simp [xcv]) hd (hk _ h H locs ls hH hO hS hl ⟨trivial, hst.2⟩)
    · cases h
  · cases h
theorem n_getJ {X : XCtx} (hE : XE X) {pc index κ k N : Nat} {C : String} {T : u_T} {ty : Nat → FieldType} (hC : XK κ C T ty N) (hc : xfc κ k = some (1, 0, 0, 0)) (hkN : k < N) (hTC : (T k).1 = C) (hlk : Cond.fieldLink X.2.2.1.2.2.1 index C (T k).2.1 (T k).2.2.1 ∈ lw_ok) (hd : decode X.2.2.1.1 pc = .ok (.getfield index, 3)) : Snd X pc (pc + 3) (xGJ κ k) := by
  obtain ⟨⟨p, l, e, R, s⟩, ⟨m, args, below, meth, c⟩, ⟨cc, nL, own, ret, Ts⟩, ⟨D, A, ad, cy, cnt, cs, sl⟩⟩ := X
  obtain ⟨hx, hb, hml, hown, hts, hin, hK, hG, hlocks, hr, hZ, hcs, hsl⟩ := hE
  rintro K ⟨L, st, w⟩ rr h hk H locs ls hH hO hS hl hst
  dsimp only [xGJ] at h
  split at h
  · rename_i q r
    obtain ⟨κ0, i⟩ := q
    split at h
    · rename_i hq
      dsimp only at hq
      subst hq
      obtain ⟨h12, hcl, hws, hty, hnm⟩ := hC
      obtain ⟨L0, f0, k0, hP, hD, hf, hk0, he⟩ := xH_cell hH (Nat.lt_trans h12 (by decide)) hst.1
      rw [he, xcell_o h12] at hk0
      exact va_get (v := .long (gJ w κ0 i k)) hx hb (own := own) (ref := C) (C := C) (T := T) (N := N) hts (fun w1 h1 => hin _ (hws w1 h1)) hown hK hP k0 hk0 hcl k hkN (hts _ (hin _ hlk)) (fun _ h9 => by rw [hTC] at h9; exact h9) (by rw [xfs_get (xfc_at hc)]; simp [xcv]) hd (hk _ h H locs ls hH hO hS hl ⟨trivial, hst.2⟩)
    · cases h
  · cases h
theorem n_getS {X : XCtx} (hE : XE X) {pc index κ k N : Nat} {κ' m0 b0 : Nat} {C : String} {T : u_T} {ty : Nat → FieldType} (hC : XK κ C T ty N) (hc : xfc κ k = some (3, κ', m0, b0)) (hkN : k < N) (hTC : (T k).1 = C) (hlk : Cond.fieldLink X.2.2.1.2.2.1 index C (T k).2.1 (T k).2.2.1 ∈ lw_ok) (hd : decode X.2.2.1.1 pc = .ok (.getfield index, 3)) : Snd X pc (pc + 3) (xGS κ κ' m0 b0) := by
  obtain ⟨⟨p, l, e, R, s⟩, ⟨m, args, below, meth, c⟩, ⟨cc, nL, own, ret, Ts⟩, ⟨D, A, ad, cy, cnt, cs, sl⟩⟩ := X
  obtain ⟨hx, hb, hml, hown, hts, hin, hK, hG, hlocks, hr, hZ, hcs, hsl⟩ := hE
  rintro K ⟨L, st, w⟩ rr h hk H locs ls hH hO hS hl hst
  dsimp only [xGS] at h
  split at h
  · rename_i q r
    obtain ⟨κ0, i⟩ := q
    split at h
    · rename_i hq
      dsimp only at hq
      subst hq
      obtain ⟨h12, hcl, hws, hty, hnm⟩ := hC
      obtain ⟨L0, f0, k0, hP, hD, hf, hk0, he⟩ := xH_cell hH (Nat.lt_trans h12 (by decide)) hst.1
      rw [he, xcell_o h12] at hk0
      exact va_get (v := .ref (ad κ' (xser m0 b0 i))) hx hb (own := own) (ref := C) (C := C) (T := T) (N := N) hts (fun w1 h1 => hin _ (hws w1 h1)) hown hK hP k0 hk0 hcl k hkN (hts _ (hin _ hlk)) (fun _ h9 => by rw [hTC] at h9; exact h9) (by rw [xfs_get (xfc_at hc)]; simp [xcv]) hd (hk _ h H locs ls hH hO hS hl ⟨hG.2.2 _ _ _ _ hc rfl hst.1, hst.2⟩)
    · cases h
  · cases h
theorem n_getD {X : XCtx} (hE : XE X) {pc index κ k N κ' : Nat} {C : String} {T : u_T} {ty : Nat → FieldType} (hC : XK κ C T ty N) (hc : xfc κ k = some (2, κ', 0, 0)) (hkN : k < N) (hTC : (T k).1 = C) (hlk : Cond.fieldLink X.2.2.1.2.2.1 index C (T k).2.1 (T k).2.2.1 ∈ lw_ok) (hd : decode X.2.2.1.1 pc = .ok (.getfield index, 3)) : Snd X pc (pc + 3) (xGD κ k κ') := by
  obtain ⟨⟨p, l, e, R, s⟩, ⟨m, args, below, meth, c⟩, ⟨cc, nL, own, ret, Ts⟩, ⟨D, A, ad, cy, cnt, cs, sl⟩⟩ := X
  obtain ⟨hx, hb, hml, hown, hts, hin, hK, hG, hlocks, hr, hZ, hcs, hsl⟩ := hE
  rintro K ⟨L, st, w⟩ rr h hk H locs ls hH hO hS hl hst
  dsimp only [xGD] at h
  split at h
  · rename_i q r
    obtain ⟨κ0, i⟩ := q
    split at h
    · rename_i hq
      dsimp only at hq
      subst hq
      obtain ⟨h12, hcl, hws, hty, hnm⟩ := hC
      obtain ⟨L0, f0, k0, hP, hD, hf, hk0, he⟩ := xH_cell hH (Nat.lt_trans h12 (by decide)) hst.1
      rw [he, xcell_o h12] at hk0
      dsimp only at h
      cases hg : gR w κ0 i k with
      | none => rw [hg] at h; cases h
      | some j =>
        rw [hg] at h
        exact va_get (v := .ref (ad κ' j)) hx hb (own := own) (ref := C) (C := C) (T := T) (N := N) hts (fun w1 h1 => hin _ (hws w1 h1)) hown hK hP k0 hk0 hcl k hkN (hts _ (hin _ hlk)) (fun _ h9 => by rw [hTC] at h9; exact h9) (by rw [xfs_get (xfc_at hc)]; simp [xcv, hg, va_rf]) hd (hk _ h H locs ls hH hO hS hl ⟨hO.1 _ _ _ _ _ hc rfl hst.1 hg, hst.2⟩)
    · cases h
  · cases h
theorem n_putI {X : XCtx} (hE : XE X) {pc index κ k N : Nat} {C : String} {T : u_T} {ty : Nat → FieldType} (hC : XK κ C T ty N) (hc : xfc κ k = some (0, 0, 0, 0)) (hkN : k < N) (hTC : (T k).1 = C) (hT : (T k).2.2.2 = false) (hty0 : parseFieldDescriptor (T k).2.2.1 = some (.int)) (hlk : Cond.fieldLink X.2.2.1.2.2.1 index C (T k).2.1 (T k).2.2.1 ∈ lw_ok) (hd : decode X.2.2.1.1 pc = .ok (.putfield index, 3)) : Snd X pc (pc + 3) (xPI κ k) := by
  obtain ⟨⟨p, l, e, R, s⟩, ⟨m, args, below, meth, c⟩, ⟨cc, nL, own, ret, Ts⟩, ⟨D, A, ad, cy, cnt, cs, sl⟩⟩ := X
  obtain ⟨hx, hb, hml, hown, hts, hin, hK, hG, hlocks, hr, hZ, hcs, hsl⟩ := hE
  rintro K ⟨L, st, w⟩ rr h hk H locs ls hH hO hS hl hst
  dsimp only [xPI] at h
  split at h
  · rename_i x q r
    obtain ⟨κ0, i⟩ := q
    split at h
    · rename_i hq
      dsimp only at hq
      subst hq
      obtain ⟨h12, hcl, hws, hty, hnm⟩ := hC
      obtain ⟨L0, f0, k0, hP, hD, hf, hk0, he⟩ := xH_cell hH (Nat.lt_trans h12 (by decide)) hst.2.1
      have hk1 := hk0
      rw [he, xcell_o h12] at hk1
      refine va_put (v := .int x) hx hb (own := own) (ref := C) (C := C) (T := T) (N := N) hts (fun w1 h1 => hin _ (hws w1 h1)) ty hty hnm hown hK hP hD hS k0 hk1 hcl k hkN (hts _ (hin _ hlk)) (fun _ h9 => by rw [hTC] at h9; exact h9) hT hty0 rfl rfl (by rw [xfs_len]; exact (List.getElem?_eq_some_iff.mp (xfc_at hc)).1) hd (fun H1 locs1 hP1 hD1 hS1 => hk _ h H1 locs1 ls ?_ ?_ hS1 hl hst.2.2)
      · refine xH_set hG (Nat.lt_trans h12 (by decide)) hst.2.1 hD hf hk0 hP1 hD1 ?_ ?_
        · rw [xcell_o h12]
          refine congrArg (fun z => Sum.inr (κ0, z)) (xfs_set (xfc_at hc) ?_ ?_)
          · simp [xcv, gI_sI_eq, upd]
          · intro j c' hj; unfold xcv; rw [gI_sI_eq, gJ_sI, gR_sI]; simp [upd, hj]
        · intro κ1 i1 hne
          exact xcell_congr (gI_sI_ne hne) rfl rfl rfl
      · exact hO
    · cases h
  · cases h
theorem n_putZ {X : XCtx} (hE : XE X) {pc index κ k N : Nat} {C : String} {T : u_T} {ty : Nat → FieldType} (hC : XK κ C T ty N) (hc : xfc κ k = some (0, 0, 0, 0)) (hkN : k < N) (hTC : (T k).1 = C) (hT : (T k).2.2.2 = false) (hty0 : parseFieldDescriptor (T k).2.2.1 = some (.boolean)) (hlk : Cond.fieldLink X.2.2.1.2.2.1 index C (T k).2.1 (T k).2.2.1 ∈ lw_ok) (hd : decode X.2.2.1.1 pc = .ok (.putfield index, 3)) : Snd X pc (pc + 3) (xPZ κ k) := by
  obtain ⟨⟨p, l, e, R, s⟩, ⟨m, args, below, meth, c⟩, ⟨cc, nL, own, ret, Ts⟩, ⟨D, A, ad, cy, cnt, cs, sl⟩⟩ := X
  obtain ⟨hx, hb, hml, hown, hts, hin, hK, hG, hlocks, hr, hZ, hcs, hsl⟩ := hE
  rintro K ⟨L, st, w⟩ rr h hk H locs ls hH hO hS hl hst
  dsimp only [xPZ] at h
  split at h
  · rename_i x q r
    obtain ⟨κ0, i⟩ := q
    split at h
    · rename_i hq
      dsimp only at hq
      subst hq
      split at h
      · rename_i hz
        obtain ⟨h12, hcl, hws, hty, hnm⟩ := hC
        obtain ⟨L0, f0, k0, hP, hD, hf, hk0, he⟩ := xH_cell hH (Nat.lt_trans h12 (by decide)) hst.2.1
        have hk1 := hk0
        rw [he, xcell_o h12] at hk1
        refine va_put (v := .int x) hx hb (own := own) (ref := C) (C := C) (T := T) (N := N) hts (fun w1 h1 => hin _ (hws w1 h1)) ty hty hnm hown hK hP hD hS k0 hk1 hcl k hkN (hts _ (hin _ hlk)) (fun _ h9 => by rw [hTC] at h9; exact h9) hT hty0 (by rcases hz with rfl | rfl <;> rfl) (by rcases hz with rfl | rfl <;> rfl) (by rw [xfs_len]; exact (List.getElem?_eq_some_iff.mp (xfc_at hc)).1) hd (fun H1 locs1 hP1 hD1 hS1 => hk _ h H1 locs1 ls ?_ ?_ hS1 hl hst.2.2)
        · refine xH_set hG (Nat.lt_trans h12 (by decide)) hst.2.1 hD hf hk0 hP1 hD1 ?_ ?_
          · rw [xcell_o h12]
            refine congrArg (fun z => Sum.inr (κ0, z)) (xfs_set (xfc_at hc) ?_ ?_)
            · simp [xcv, gI_sI_eq, upd]
            · intro j c' hj; unfold xcv; rw [gI_sI_eq, gJ_sI, gR_sI]; simp [upd, hj]
          · intro κ1 i1 hne
            exact xcell_congr (gI_sI_ne hne) rfl rfl rfl
        · exact hO
      · cases h
    · cases h
  · cases h
theorem n_putJ {X : XCtx} (hE : XE X) {pc index κ k N : Nat} {C : String} {T : u_T} {ty : Nat → FieldType} (hC : XK κ C T ty N) (hc : xfc κ k = some (1, 0, 0, 0)) (hkN : k < N) (hTC : (T k).1 = C) (hT : (T k).2.2.2 = false) (hty0 : parseFieldDescriptor (T k).2.2.1 = some (.long)) (hlk : Cond.fieldLink X.2.2.1.2.2.1 index C (T k).2.1 (T k).2.2.1 ∈ lw_ok) (hd : decode X.2.2.1.1 pc = .ok (.putfield index, 3)) : Snd X pc (pc + 3) (xPJ κ k) := by
  obtain ⟨⟨p, l, e, R, s⟩, ⟨m, args, below, meth, c⟩, ⟨cc, nL, own, ret, Ts⟩, ⟨D, A, ad, cy, cnt, cs, sl⟩⟩ := X
  obtain ⟨hx, hb, hml, hown, hts, hin, hK, hG, hlocks, hr, hZ, hcs, hsl⟩ := hE
  rintro K ⟨L, st, w⟩ rr h hk H locs ls hH hO hS hl hst
  dsimp only [xPJ] at h
  split at h
  · rename_i x q r
    obtain ⟨κ0, i⟩ := q
    split at h
    · rename_i hq
      dsimp only at hq
      subst hq
      obtain ⟨h12, hcl, hws, hty, hnm⟩ := hC
      obtain ⟨L0, f0, k0, hP, hD, hf, hk0, he⟩ := xH_cell hH (Nat.lt_trans h12 (by decide)) hst.2.1
      have hk1 := hk0
      rw [he, xcell_o h12] at hk1
      refine va_put (v := .long x) hx hb (own := own) (ref := C) (C := C) (T := T) (N := N) hts (fun w1 h1 => hin _ (hws w1 h1)) ty hty hnm hown hK hP hD hS k0 hk1 hcl k hkN (hts _ (hin _ hlk)) (fun _ h9 => by rw [hTC] at h9; exact h9) hT hty0 rfl rfl (by rw [xfs_len]; exact (List.getElem?_eq_some_iff.mp (xfc_at hc)).1) hd (fun H1 locs1 hP1 hD1 hS1 => hk _ h H1 locs1 ls ?_ ?_ hS1 hl hst.2.2)
      · refine xH_set hG (Nat.lt_trans h12 (by decide)) hst.2.1 hD hf hk0 hP1 hD1 ?_ ?_
        · rw [xcell_o h12]
          refine congrArg (fun z => Sum.inr (κ0, z)) (xfs_set (xfc_at hc) ?_ ?_)
          · simp [xcv, gJ_sJ_eq, vp_updL]
          · intro j c' hj; unfold xcv; rw [gJ_sJ_eq, gI_sJ, gR_sJ]; simp [vp_updL, hj]
        · intro κ1 i1 hne
          exact xcell_congr rfl (gJ_sJ_ne hne) rfl rfl
      · exact hO
    · cases h
  · cases h
theorem XD_put {cnt : Nat → Nat} {w : XW} {κ i k κ' : Nat} {a0 b0 : Nat} {o : Option Nat} (h12 : κ < 12) (hc : xfc κ k = some (2, κ', a0, b0)) (hO : XD cnt w) (hj : ∀ j, o = some j → j < cnt κ') : XD cnt (sR w κ i k o) := by
  refine ⟨fun κ1 k1 c1 i1 j1 h1 h2 h3 h4 => ?_, fun κ1 a1 i1 k1 j1 h1 h2 h3 h4 => ?_⟩
  · by_cases hq : κ1 = κ ∧ i1 = i
    · obtain ⟨rfl, rfl⟩ := hq
      rw [gR_sR_eq] at h4
      by_cases hk : k1 = k
      · subst hk
        rw [va_up_self] at h4
        rw [h1] at hc
        cases hc
        exact hj _ h4
      · rw [va_up_ne _ _ hk] at h4
        exact hO.1 _ _ _ _ _ h1 h2 h3 h4
    · rw [gR_sR_ne hq] at h4
      exact hO.1 _ _ _ _ _ h1 h2 h3 h4
  · have hne : ¬ (κ1 = κ ∧ i1 = i) := fun hq => by
      rw [hq.1] at h1
      unfold xac at h1
      rw [if_pos h12] at h1
      cases h1
    rw [gR_sR_ne hne] at h4
    exact hO.2 _ _ _ _ _ h1 h2 h3 h4
theorem n_putD {X : XCtx} (hE : XE X) {pc index κ k N : Nat} {κ' : Nat} {CC : String} {C : String} {T : u_T} {ty : Nat → FieldType} (hC : XK κ C T ty N) (hc : xfc κ k = some (2, κ', 0, 0)) (hkN : k < N) (hTC : (T k).1 = C) (hT : (T k).2.2.2 = false) (hty0 : parseFieldDescriptor (T k).2.2.1 = some (.object CC)) (hlk : Cond.fieldLink X.2.2.1.2.2.1 index C (T k).2.1 (T k).2.2.1 ∈ lw_ok) (hd : decode X.2.2.1.1 pc = .ok (.putfield index, 3)) : Snd X pc (pc + 3) (xPD κ k κ') := by
  obtain ⟨⟨p, l, e, R, s⟩, ⟨m, args, below, meth, c⟩, ⟨cc, nL, own, ret, Ts⟩, ⟨D, A, ad, cy, cnt, cs, sl⟩⟩ := X
  obtain ⟨hx, hb, hml, hown, hts, hin, hK, hG, hlocks, hr, hZ, hcs, hsl⟩ := hE
  rintro K ⟨L, st, w⟩ rr h hk H locs ls hH hO hS hl hst
  dsimp only [xPD] at h
  split at h
  · rename_i p0 q r
    obtain ⟨κ0, i⟩ := q
    split at h
    · rename_i hq
      dsimp only at hq
      subst hq
      split at h
      · rename_i hp0
        obtain ⟨h12, hcl, hws, hty, hnm⟩ := hC
        obtain ⟨L0, f0, k0, hP, hD, hf, hk0, he⟩ := xH_cell hH (Nat.lt_trans h12 (by decide)) hst.2.1
        have hk1 := hk0
        rw [he, xcell_o h12] at hk1
        refine va_put (v := .ref (ad p0.1 p0.2)) hx hb (own := own) (ref := C) (C := C) (T := T) (N := N) hts (fun w1 h1 => hin _ (hws w1 h1)) ty hty hnm hown hK hP hD hS k0 hk1 hcl k hkN (hts _ (hin _ hlk)) (fun _ h9 => by rw [hTC] at h9; exact h9) hT hty0 rfl rfl (by rw [xfs_len]; exact (List.getElem?_eq_some_iff.mp (xfc_at hc)).1) hd (fun H1 locs1 hP1 hD1 hS1 => hk _ h H1 locs1 ls ?_ ?_ hS1 hl hst.2.2)
        · refine xH_set hG (Nat.lt_trans h12 (by decide)) hst.2.1 hD hf hk0 hP1 hD1 ?_ ?_
          · rw [xcell_o h12]
            refine congrArg (fun z => Sum.inr (κ0, z)) (xfs_set (xfc_at hc) ?_ ?_)
            · rw [← hp0]; simp [xcv, gR_sR_eq, va_up, va_rf]
            · intro j c' hj; unfold xcv; rw [gR_sR_eq, gI_sR, gJ_sR]; simp [va_up, hj]
          · intro κ1 i1 hne
            exact xcell_congr rfl rfl (gR_sR_ne hne) rfl
        · exact XD_put h12 hc hO (fun j hj => by cases hj; rw [← hp0]; exact hst.1)
      · cases h
    · cases h
  · rename_i q r
    obtain ⟨κ0, i⟩ := q
    split at h
    · rename_i hq
      dsimp only at hq
      subst hq
      obtain ⟨h12, hcl, hws, hty, hnm⟩ := hC
      obtain ⟨L0, f0, k0, hP, hD, hf, hk0, he⟩ := xH_cell hH (Nat.lt_trans h12 (by decide)) hst.2.1
      have hk1 := hk0
      rw [he, xcell_o h12] at hk1
      refine va_put (v := .null) hx hb (own := own) (ref := C) (C := C) (T := T) (N := N) hts (fun w1 h1 => hin _ (hws w1 h1)) ty hty hnm hown hK hP hD hS k0 hk1 hcl k hkN (hts _ (hin _ hlk)) (fun _ h9 => by rw [hTC] at h9; exact h9) hT hty0 rfl rfl (by rw [xfs_len]; exact (List.getElem?_eq_some_iff.mp (xfc_at hc)).1) hd (fun H1 locs1 hP1 hD1 hS1 => hk _ h H1 locs1 ls ?_ ?_ hS1 hl hst.2.2)
      · refine xH_set hG (Nat.lt_trans h12 (by decide)) hst.2.1 hD hf hk0 hP1 hD1 ?_ ?_
        · rw [xcell_o h12]
          refine congrArg (fun z => Sum.inr (κ0, z)) (xfs_set (xfc_at hc) ?_ ?_)
          · simp [xcv, gR_sR_eq, va_up, va_rf]
          · intro j c' hj; unfold xcv; rw [gR_sR_eq, gI_sR, gJ_sR]; simp [va_up, hj]
        · intro κ1 i1 hne
          exact xcell_congr rfl rfl (gR_sR_ne hne) rfl
      · exact XD_put h12 hc hO (fun j hj => by cases hj)
    · cases h
  · cases h
theorem xcell_a {ad : Nat → Nat → Nat} {cy : Nat → ClassId} {w : XW} {κ i : Nat} {a : Nat × Nat × Nat} (h : xac κ = some a) : xcell ad cy w κ i = .inl (cy a.1, xln w κ i a.2.1, if a.1 < 3 then .inl (gI w κ i) else if a.1 = 3 then .inr (.inl (gJ w κ i)) else .inr (.inr (.inr (.inr (fun k => (gR w κ i k).map (ad a.2.2)))))) := by
  unfold xac at h
  split at h
  · cases h
  · rename_i h12
    unfold xcell
    rw [if_neg h12, h]
    rfl
theorem n_iald {X : XCtx} (hE : XE X) {pc κ : Nat} {n : Nat} (hc : xac κ = some (0, n, 0)) (hn0 : ¬ n = 0) (hd : decode X.2.2.1.1 pc = .ok (.iaload, 1)) : Snd X pc (pc + 1) (xAI κ n) := by
  obtain ⟨⟨p, l, e, R, s⟩, ⟨m, args, below, meth, c⟩, ⟨cc, nL, own, ret, Ts⟩, ⟨D, A, ad, cy, cnt, cs, sl⟩⟩ := X
  obtain ⟨hx, hb, hml, hown, hts, hin, hK, hG, hlocks, hr, hZ, hcs, hsl⟩ := hE
  rintro K ⟨L, st, w⟩ rr h hk H locs ls hH hO hS hl hst
  dsimp only [xAI] at h
  split at h
  · rename_i j q r
    obtain ⟨κ0, i⟩ := q
    split at h
    · rename_i hq
      dsimp only at hq
      subst hq
      split at h
      · cases h
      · rename_i hz
        obtain ⟨L0, f0, k0, hP, hD, hf, hk0, he⟩ := xH_cell hH (xac_lt hc) hst.2.1
        rw [he, xcell_a hc] at hk0
        have hin2 : vp_in j (xln w κ0 i n) := by
          unfold xln
          rw [if_neg hn0]
          exact hz
        exact va_iald hx hb hK hP k0 0 hk0 rfl hin2 hd (hk _ h H locs ls hH hO hS hl ⟨trivial, hst.2.2⟩)
    · cases h
  · cases h
theorem n_bald {X : XCtx} (hE : XE X) {pc κ : Nat} {n : Nat} (hc : xac κ = some (1, n, 0)) (hn0 : ¬ n = 0) (hd : decode X.2.2.1.1 pc = .ok (.baload, 1)) : Snd X pc (pc + 1) (xAI κ n) := by
  obtain ⟨⟨p, l, e, R, s⟩, ⟨m, args, below, meth, c⟩, ⟨cc, nL, own, ret, Ts⟩, ⟨D, A, ad, cy, cnt, cs, sl⟩⟩ := X
  obtain ⟨hx, hb, hml, hown, hts, hin, hK, hG, hlocks, hr, hZ, hcs, hsl⟩ := hE
  rintro K ⟨L, st, w⟩ rr h hk H locs ls hH hO hS hl hst
  dsimp only [xAI] at h
  split at h
  · rename_i j q r
    obtain ⟨κ0, i⟩ := q
    split at h
    · rename_i hq
      dsimp only at hq
      subst hq
      split at h
      · cases h
      · rename_i hz
        obtain ⟨L0, f0, k0, hP, hD, hf, hk0, he⟩ := xH_cell hH (xac_lt hc) hst.2.1
        rw [he, xcell_a hc] at hk0
        have hin2 : vp_in j (xln w κ0 i n) := by
          unfold xln
          rw [if_neg hn0]
          exact hz
        exact va_bald hx hb hK hP k0 1 hk0 rfl hin2 hd (hk _ h H locs ls hH hO hS hl ⟨trivial, hst.2.2⟩)
    · cases h
  · cases h
theorem n_zald {X : XCtx} (hE : XE X) {pc κ : Nat} {n : Nat} (hc : xac κ = some (2, n, 0)) (hn0 : ¬ n = 0) (hd : decode X.2.2.1.1 pc = .ok (.baload, 1)) : Snd X pc (pc + 1) (xAI κ n) := by
  obtain ⟨⟨p, l, e, R, s⟩, ⟨m, args, below, meth, c⟩, ⟨cc, nL, own, ret, Ts⟩, ⟨D, A, ad, cy, cnt, cs, sl⟩⟩ := X
  obtain ⟨hx, hb, hml, hown, hts, hin, hK, hG, hlocks, hr, hZ, hcs, hsl⟩ := hE
  rintro K ⟨L, st, w⟩ rr h hk H locs ls hH hO hS hl hst
  dsimp only [xAI] at h
  split at h
  · rename_i j q r
    obtain ⟨κ0, i⟩ := q
    split at h
    · rename_i hq
      dsimp only at hq
      subst hq
      split at h
      · cases h
      · rename_i hz
        obtain ⟨L0, f0, k0, hP, hD, hf, hk0, he⟩ := xH_cell hH (xac_lt hc) hst.2.1
        rw [he, xcell_a hc] at hk0
        have hin2 : vp_in j (xln w κ0 i n) := by
          unfold xln
          rw [if_neg hn0]
          exact hz
        exact va_zald hx hb hK hP k0 2 hk0 rfl hin2 hd (hk _ h H locs ls hH hO hS hl ⟨trivial, hst.2.2⟩)
    · cases h
  · cases h
theorem n_lald {X : XCtx} (hE : XE X) {pc κ : Nat} {n : Nat} (hc : xac κ = some (3, n, 0)) (hn0 : ¬ n = 0) (hd : decode X.2.2.1.1 pc = .ok (.laload, 1)) : Snd X pc (pc + 1) (xAJ κ n) := by
  obtain ⟨⟨p, l, e, R, s⟩, ⟨m, args, below, meth, c⟩, ⟨cc, nL, own, ret, Ts⟩, ⟨D, A, ad, cy, cnt, cs, sl⟩⟩ := X
  obtain ⟨hx, hb, hml, hown, hts, hin, hK, hG, hlocks, hr, hZ, hcs, hsl⟩ := hE
  rintro K ⟨L, st, w⟩ rr h hk H locs ls hH hO hS hl hst
  dsimp only [xAJ] at h
  split at h
  · rename_i j q r
    obtain ⟨κ0, i⟩ := q
    split at h
    · rename_i hq
      dsimp only at hq
      subst hq
      split at h
      · cases h
      · rename_i hz
        obtain ⟨L0, f0, k0, hP, hD, hf, hk0, he⟩ := xH_cell hH (xac_lt hc) hst.2.1
        rw [he, xcell_a hc] at hk0
        have hin2 : vp_in j (xln w κ0 i n) := by
          unfold xln
          rw [if_neg hn0]
          exact hz
        exact va_lald hx hb hK hP k0 3 hk0 rfl hin2 hd (hk _ h H locs ls hH hO hS hl ⟨trivial, hst.2.2⟩)
    · cases h
  · cases h
theorem n_iald_d {X : XCtx} (hE : XE X) {pc κ : Nat} (hc : xac κ = some (0, 0, 0)) (hd : decode X.2.2.1.1 pc = .ok (.iaload, 1)) : Snd X pc (pc + 1) (xAId κ) := by
  obtain ⟨⟨p, l, e, R, s⟩, ⟨m, args, below, meth, c⟩, ⟨cc, nL, own, ret, Ts⟩, ⟨D, A, ad, cy, cnt, cs, sl⟩⟩ := X
  obtain ⟨hx, hb, hml, hown, hts, hin, hK, hG, hlocks, hr, hZ, hcs, hsl⟩ := hE
  rintro K ⟨L, st, w⟩ rr h hk H locs ls hH hO hS hl hst
  dsimp only [xAId] at h
  split at h
  · rename_i j q r
    obtain ⟨κ0, i⟩ := q
    split at h
    · rename_i hq
      dsimp only at hq
      subst hq
      split at h
      · cases h
      · rename_i hz
        obtain ⟨L0, f0, k0, hP, hD, hf, hk0, he⟩ := xH_cell hH (xac_lt hc) hst.2.1
        rw [he, xcell_a hc] at hk0
        have hin2 : vp_in j (xln w κ0 i 0) := by
          unfold xln
          rw [if_pos rfl]
          exact hz
        exact va_iald hx hb hK hP k0 0 hk0 rfl hin2 hd (hk _ h H locs ls hH hO hS hl ⟨trivial, hst.2.2⟩)
    · cases h
  · cases h
theorem n_aald4 {X : XCtx} (hE : XE X) {pc κ : Nat} {n κ' : Nat} (hc : xac κ = some (4, n, κ')) (hn0 : ¬ n = 0) (hd : decode X.2.2.1.1 pc = .ok (.aaload, 1)) : Snd X pc (pc + 1) (xAR κ n κ') := by
  obtain ⟨⟨p, l, e, R, s⟩, ⟨m, args, below, meth, c⟩, ⟨cc, nL, own, ret, Ts⟩, ⟨D, A, ad, cy, cnt, cs, sl⟩⟩ := X
  obtain ⟨hx, hb, hml, hown, hts, hin, hK, hG, hlocks, hr, hZ, hcs, hsl⟩ := hE
  rintro K ⟨L, st, w⟩ rr h hk H locs ls hH hO hS hl hst
  dsimp only [xAR] at h
  split at h
  · rename_i j q r
    obtain ⟨κ0, i⟩ := q
    split at h
    · rename_i hq
      dsimp only at hq
      subst hq
      split at h
      · cases h
      · rename_i hz
        obtain ⟨L0, f0, k0, hP, hD, hf, hk0, he⟩ := xH_cell hH (xac_lt hc) hst.2.1
        rw [he, xcell_a hc] at hk0
        have hin2 : vp_in j (xln w κ0 i n) := by
          unfold xln
          rw [if_neg hn0]
          exact hz
        cases hg : gR w κ0 i j.toNatClampNeg with
        | none => rw [hg] at h; cases h
        | some p0 =>
          rw [hg] at h
          refine va_aldq hx hb hK hP k0 4 hk0 (C := RX3) rfl hin2 hd ?_
          have e1 : va_rf ((gR w κ0 i j.toNatClampNeg).map (ad κ')) = .ref (ad κ' p0) := by rw [hg]; rfl
          dsimp only
          rw [e1]
          exact hk _ h H locs ls hH hO hS hl ⟨hO.2 _ _ _ _ _ hc (by show 4 ≤ 4; decide) hst.2.1 hg, hst.2.2⟩
    · cases h
  · cases h
theorem n_aald5 {X : XCtx} (hE : XE X) {pc κ : Nat} {n κ' : Nat} (hc : xac κ = some (5, n, κ')) (hn0 : ¬ n = 0) (hd : decode X.2.2.1.1 pc = .ok (.aaload, 1)) : Snd X pc (pc + 1) (xAR κ n κ') := by
  obtain ⟨⟨p, l, e, R, s⟩, ⟨m, args, below, meth, c⟩, ⟨cc, nL, own, ret, Ts⟩, ⟨D, A, ad, cy, cnt, cs, sl⟩⟩ := X
  obtain ⟨hx, hb, hml, hown, hts, hin, hK, hG, hlocks, hr, hZ, hcs, hsl⟩ := hE
  rintro K ⟨L, st, w⟩ rr h hk H locs ls hH hO hS hl hst
  dsimp only [xAR] at h
  split at h
  · rename_i j q r
    obtain ⟨κ0, i⟩ := q
    split at h
    · rename_i hq
      dsimp only at hq
      subst hq
      split at h
      · cases h
      · rename_i hz
        obtain ⟨L0, f0, k0, hP, hD, hf, hk0, he⟩ := xH_cell hH (xac_lt hc) hst.2.1
        rw [he, xcell_a hc] at hk0
        have hin2 : vp_in j (xln w κ0 i n) := by
          unfold xln
          rw [if_neg hn0]
          exact hz
        cases hg : gR w κ0 i j.toNatClampNeg with
        | none => rw [hg] at h; cases h
        | some p0 =>
          rw [hg] at h
          refine va_aldq hx hb hK hP k0 5 hk0 (C := RX7) rfl hin2 hd ?_
          have e1 : va_rf ((gR w κ0 i j.toNatClampNeg).map (ad κ')) = .ref (ad κ' p0) := by rw [hg]; rfl
          dsimp only
          rw [e1]
          exact hk _ h H locs ls hH hO hS hl ⟨hO.2 _ _ _ _ _ hc (by show 4 ≤ 5; decide) hst.2.1 hg, hst.2.2⟩
    · cases h
  · cases h
theorem n_aald6 {X : XCtx} (hE : XE X) {pc κ : Nat} {n κ' : Nat} (hc : xac κ = some (6, n, κ')) (hn0 : ¬ n = 0) (hd : decode X.2.2.1.1 pc = .ok (.aaload, 1)) : Snd X pc (pc + 1) (xAR κ n κ') := by
  obtain ⟨⟨p, l, e, R, s⟩, ⟨m, args, below, meth, c⟩, ⟨cc, nL, own, ret, Ts⟩, ⟨D, A, ad, cy, cnt, cs, sl⟩⟩ := X
  obtain ⟨hx, hb, hml, hown, hts, hin, hK, hG, hlocks, hr, hZ, hcs, hsl⟩ := hE
  rintro K ⟨L, st, w⟩ rr h hk H locs ls hH hO hS hl hst
  dsimp only [xAR] at h
  split at h
  · rename_i j q r
    obtain ⟨κ0, i⟩ := q
    split at h
    · rename_i hq
      dsimp only at hq
      subst hq
      split at h
      · cases h
      · rename_i hz
        obtain ⟨L0, f0, k0, hP, hD, hf, hk0, he⟩ := xH_cell hH (xac_lt hc) hst.2.1
        rw [he, xcell_a hc] at hk0
        have hin2 : vp_in j (xln w κ0 i n) := by
          unfold xln
          rw [if_neg hn0]
          exact hz
        cases hg : gR w κ0 i j.toNatClampNeg with
        | none => rw [hg] at h; cases h
        | some p0 =>
          rw [hg] at h
          refine va_aldq hx hb hK hP k0 6 hk0 (C := RX9) rfl hin2 hd ?_
          have e1 : va_rf ((gR w κ0 i j.toNatClampNeg).map (ad κ')) = .ref (ad κ' p0) := by rw [hg]; rfl
          dsimp only
          rw [e1]
          exact hk _ h H locs ls hH hO hS hl ⟨hO.2 _ _ _ _ _ hc (by show 4 ≤ 6; decide) hst.2.1 hg, hst.2.2⟩
    · cases h
  · cases h
theorem n_aald5n {X : XCtx} (hE : XE X) {pc κ : Nat} {n κ' : Nat} (hc : xac κ = some (5, n, κ')) (hn0 : ¬ n = 0) (hd : decode X.2.2.1.1 pc = .ok (.aaload, 1)) : Snd X pc (pc + 1) (xARn κ n κ') := by
  obtain ⟨⟨p, l, e, R, s⟩, ⟨m, args, below, meth, c⟩, ⟨cc, nL, own, ret, Ts⟩, ⟨D, A, ad, cy, cnt, cs, sl⟩⟩ := X
  obtain ⟨hx, hb, hml, hown, hts, hin, hK, hG, hlocks, hr, hZ, hcs, hsl⟩ := hE
  rintro K ⟨L, st, w⟩ rr h hk H locs ls hH hO hS hl hst
  dsimp only [xARn] at h
  split at h
  · rename_i j q r
    obtain ⟨κ0, i⟩ := q
    split at h
    · rename_i hq
      dsimp only at hq
      subst hq
      split at h
      · cases h
      · rename_i hz
        obtain ⟨L0, f0, k0, hP, hD, hf, hk0, he⟩ := xH_cell hH (xac_lt hc) hst.2.1
        rw [he, xcell_a hc] at hk0
        have hin2 : vp_in j (xln w κ0 i n) := by
          unfold xln
          rw [if_neg hn0]
          exact hz
        cases hg : gR w κ0 i j.toNatClampNeg with
        | none =>
          rw [hg] at h
          refine va_aldq hx hb hK hP k0 5 hk0 (C := RX7) rfl hin2 hd ?_
          have e1 : va_rf ((gR w κ0 i j.toNatClampNeg).map (ad κ')) = .null := by rw [hg]; rfl
          dsimp only
          rw [e1]
          exact hk _ h H locs ls hH hO hS hl ⟨trivial, hst.2.2⟩
        | some p0 =>
          rw [hg] at h
          refine va_aldq hx hb hK hP k0 5 hk0 (C := RX7) rfl hin2 hd ?_
          have e1 : va_rf ((gR w κ0 i j.toNatClampNeg).map (ad κ')) = .ref (ad κ' p0) := by rw [hg]; rfl
          dsimp only
          rw [e1]
          exact hk _ h H locs ls hH hO hS hl ⟨hO.2 _ _ _ _ _ hc (by show 4 ≤ 5; decide) hst.2.1 hg, hst.2.2⟩
    · cases h
  · cases h
theorem n_iast {X : XCtx} (hE : XE X) {pc κ n : Nat} (hc : xac κ = some (0, n, 0)) (hn0 : ¬ n = 0) (hd : decode X.2.2.1.1 pc = .ok (.iastore, 1)) : Snd X pc (pc + 1) (xTI κ n (fun x => x)) := by
  obtain ⟨⟨p, l, e, R, s⟩, ⟨m, args, below, meth, c⟩, ⟨cc, nL, own, ret, Ts⟩, ⟨D, A, ad, cy, cnt, cs, sl⟩⟩ := X
  obtain ⟨hx, hb, hml, hown, hts, hin, hK, hG, hlocks, hr, hZ, hcs, hsl⟩ := hE
  rintro K ⟨L, st, w⟩ rr h hk H locs ls hH hO hS hl hst
  dsimp only [xTI] at h
  split at h
  · rename_i x j q r
    obtain ⟨κ0, i⟩ := q
    split at h
    · rename_i hq
      dsimp only at hq
      subst hq
      split at h
      · cases h
      · rename_i hz
        obtain ⟨L0, f0, k0, hP, hD, hf, hk0, he⟩ := xH_cell hH (xac_lt hc) hst.2.2.1
        have hk1 := hk0
        rw [he, xcell_a hc] at hk1
        have hin2 : vp_in j (xln w κ0 i n) := by
          unfold xln
          rw [if_neg hn0]
          exact hz
        refine va_iast hx hb hK hP hD hS k0 0 hk1 rfl hin2 hd (fun H1 locs1 hP1 hD1 hS1 => hk _ h H1 locs1 ls ?_ hO hS1 hl hst.2.2.2)
        refine xH_set hG (xac_lt hc) hst.2.2.1 hD hf hk0 hP1 hD1 ?_ ?_
        · rw [xcell_a hc]
          dsimp only; rw [gI_sI_eq]; rfl
        · intro κ1 i1 hne
          exact xcell_congr (gI_sI_ne hne) rfl rfl rfl
    · cases h
  · cases h
theorem n_bast {X : XCtx} (hE : XE X) {pc κ n : Nat} (hc : xac κ = some (1, n, 0)) (hn0 : ¬ n = 0) (hd : decode X.2.2.1.1 pc = .ok (.bastore, 1)) : Snd X pc (pc + 1) (xTI κ n (vp_nar .byte)) := by
  obtain ⟨⟨p, l, e, R, s⟩, ⟨m, args, below, meth, c⟩, ⟨cc, nL, own, ret, Ts⟩, ⟨D, A, ad, cy, cnt, cs, sl⟩⟩ := X
  obtain ⟨hx, hb, hml, hown, hts, hin, hK, hG, hlocks, hr, hZ, hcs, hsl⟩ := hE
  rintro K ⟨L, st, w⟩ rr h hk H locs ls hH hO hS hl hst
  dsimp only [xTI] at h
  split at h
  · rename_i x j q r
    obtain ⟨κ0, i⟩ := q
    split at h
    · rename_i hq
      dsimp only at hq
      subst hq
      split at h
      · cases h
      · rename_i hz
        obtain ⟨L0, f0, k0, hP, hD, hf, hk0, he⟩ := xH_cell hH (xac_lt hc) hst.2.2.1
        have hk1 := hk0
        rw [he, xcell_a hc] at hk1
        have hin2 : vp_in j (xln w κ0 i n) := by
          unfold xln
          rw [if_neg hn0]
          exact hz
        refine va_bast hx hb hK hP hD hS k0 1 hk1 rfl hin2 hd (fun H1 locs1 hP1 hD1 hS1 => hk _ h H1 locs1 ls ?_ hO hS1 hl hst.2.2.2)
        refine xH_set hG (xac_lt hc) hst.2.2.1 hD hf hk0 hP1 hD1 ?_ ?_
        · rw [xcell_a hc]
          dsimp only; rw [gI_sI_eq]; rfl
        · intro κ1 i1 hne
          exact xcell_congr (gI_sI_ne hne) rfl rfl rfl
    · cases h
  · cases h
theorem n_zast {X : XCtx} (hE : XE X) {pc κ n : Nat} (hc : xac κ = some (2, n, 0)) (hn0 : ¬ n = 0) (hd : decode X.2.2.1.1 pc = .ok (.bastore, 1)) : Snd X pc (pc + 1) (xTI κ n (vp_nar .boolean)) := by
  obtain ⟨⟨p, l, e, R, s⟩, ⟨m, args, below, meth, c⟩, ⟨cc, nL, own, ret, Ts⟩, ⟨D, A, ad, cy, cnt, cs, sl⟩⟩ := X
  obtain ⟨hx, hb, hml, hown, hts, hin, hK, hG, hlocks, hr, hZ, hcs, hsl⟩ := hE
  rintro K ⟨L, st, w⟩ rr h hk H locs ls hH hO hS hl hst
  dsimp only [xTI] at h
  split at h
  · rename_i x j q r
    obtain ⟨κ0, i⟩ := q
    split at h
    · rename_i hq
      dsimp only at hq
      subst hq
      split at h
      · cases h
      · rename_i hz
        obtain ⟨L0, f0, k0, hP, hD, hf, hk0, he⟩ := xH_cell hH (xac_lt hc) hst.2.2.1
        have hk1 := hk0
        rw [he, xcell_a hc] at hk1
        have hin2 : vp_in j (xln w κ0 i n) := by
          unfold xln
          rw [if_neg hn0]
          exact hz
        refine va_zast hx hb hK hP hD hS k0 2 hk1 rfl hin2 hd (fun H1 locs1 hP1 hD1 hS1 => hk _ h H1 locs1 ls ?_ hO hS1 hl hst.2.2.2)
        refine xH_set hG (xac_lt hc) hst.2.2.1 hD hf hk0 hP1 hD1 ?_ ?_
        · rw [xcell_a hc]
          dsimp only; rw [gI_sI_eq]; rfl
        · intro κ1 i1 hne
          exact xcell_congr (gI_sI_ne hne) rfl rfl rfl
    · cases h
  · cases h
theorem n_last {X : XCtx} (hE : XE X) {pc κ n : Nat} (hc : xac κ = some (3, n, 0)) (hn0 : ¬ n = 0) (hd : decode X.2.2.1.1 pc = .ok (.lastore, 1)) : Snd X pc (pc + 1) (xTJ κ n) := by
  obtain ⟨⟨p, l, e, R, s⟩, ⟨m, args, below, meth, c⟩, ⟨cc, nL, own, ret, Ts⟩, ⟨D, A, ad, cy, cnt, cs, sl⟩⟩ := X
  obtain ⟨hx, hb, hml, hown, hts, hin, hK, hG, hlocks, hr, hZ, hcs, hsl⟩ := hE
  rintro K ⟨L, st, w⟩ rr h hk H locs ls hH hO hS hl hst
  dsimp only [xTJ] at h
  split at h
  · rename_i x j q r
    obtain ⟨κ0, i⟩ := q
    split at h
    · rename_i hq
      dsimp only at hq
      subst hq
      split at h
      · cases h
      · rename_i hz
        obtain ⟨L0, f0, k0, hP, hD, hf, hk0, he⟩ := xH_cell hH (xac_lt hc) hst.2.2.1
        have hk1 := hk0
        rw [he, xcell_a hc] at hk1
        have hin2 : vp_in j (xln w κ0 i n) := by
          unfold xln
          rw [if_neg hn0]
          exact hz
        refine va_last hx hb hK hP hD hS k0 3 hk1 rfl hin2 hd (fun H1 locs1 hP1 hD1 hS1 => hk _ h H1 locs1 ls ?_ hO hS1 hl hst.2.2.2)
        refine xH_set hG (xac_lt hc) hst.2.2.1 hD hf hk0 hP1 hD1 ?_ ?_
        · rw [xcell_a hc]
          dsimp only; rw [gJ_sJ_eq]; rfl
        · intro κ1 i1 hne
          exact xcell_congr rfl (gJ_sJ_ne hne) rfl rfl
    · cases h
  · cases h
theorem n_alen {X : XCtx} (hE : XE X) {pc κ : Nat} {n : Nat} (hc : xac κ = some (0, n, 0)) (hn0 : ¬ n = 0) (hd : decode X.2.2.1.1 pc = .ok (.arraylength, 1)) : Snd X pc (pc + 1) (xLen κ n) := by
  obtain ⟨⟨p, l, e, R, s⟩, ⟨m, args, below, meth, c⟩, ⟨cc, nL, own, ret, Ts⟩, ⟨D, A, ad, cy, cnt, cs, sl⟩⟩ := X
  obtain ⟨hx, hb, hml, hown, hts, hin, hK, hG, hlocks, hr, hZ, hcs, hsl⟩ := hE
  rintro K ⟨L, st, w⟩ rr h hk H locs ls hH hO hS hl hst
  dsimp only [xLen] at h
  split at h
  · rename_i q r
    obtain ⟨κ0, i⟩ := q
    split at h
    · rename_i hq
      dsimp only at hq
      subst hq
      obtain ⟨L0, f0, k0, hP, hD, hf, hk0, he⟩ := xH_cell hH (xac_lt hc) hst.1
      rw [he, xcell_a hc] at hk0
      exact va_alen hx hb hK hP k0 0 hk0 rfl (by show Int32.ofNat (xln w κ0 i n) = _; unfold xln; rw [if_neg hn0]) hd (hk _ h H locs ls hH hO hS hl ⟨trivial, hst.2⟩)
    · cases h
  · cases h
theorem n_alen_j {X : XCtx} (hE : XE X) {pc κ : Nat} {n : Nat} (hc : xac κ = some (3, n, 0)) (hn0 : ¬ n = 0) (hd : decode X.2.2.1.1 pc = .ok (.arraylength, 1)) : Snd X pc (pc + 1) (xLen κ n) := by
  obtain ⟨⟨p, l, e, R, s⟩, ⟨m, args, below, meth, c⟩, ⟨cc, nL, own, ret, Ts⟩, ⟨D, A, ad, cy, cnt, cs, sl⟩⟩ := X
  obtain ⟨hx, hb, hml, hown, hts, hin, hK, hG, hlocks, hr, hZ, hcs, hsl⟩ := hE
  rintro K ⟨L, st, w⟩ rr h hk H locs ls hH hO hS hl hst
  dsimp only [xLen] at h
  split at h
  · rename_i q r
    obtain ⟨κ0, i⟩ := q
    split at h
    · rename_i hq
      dsimp only at hq
      subst hq
      obtain ⟨L0, f0, k0, hP, hD, hf, hk0, he⟩ := xH_cell hH (xac_lt hc) hst.1
      rw [he, xcell_a hc] at hk0
      exact va_alen hx hb hK hP k0 3 hk0 rfl (by show Int32.ofNat (xln w κ0 i n) = _; unfold xln; rw [if_neg hn0]) hd (hk _ h H locs ls hH hO hS hl ⟨trivial, hst.2⟩)
    · cases h
  · cases h
theorem n_alen_d {X : XCtx} (hE : XE X) {pc κ : Nat} (hc : xac κ = some (0, 0, 0)) (hd : decode X.2.2.1.1 pc = .ok (.arraylength, 1)) : Snd X pc (pc + 1) (xLend κ) := by
  obtain ⟨⟨p, l, e, R, s⟩, ⟨m, args, below, meth, c⟩, ⟨cc, nL, own, ret, Ts⟩, ⟨D, A, ad, cy, cnt, cs, sl⟩⟩ := X
  obtain ⟨hx, hb, hml, hown, hts, hin, hK, hG, hlocks, hr, hZ, hcs, hsl⟩ := hE
  rintro K ⟨L, st, w⟩ rr h hk H locs ls hH hO hS hl hst
  dsimp only [xLend] at h
  split at h
  · rename_i q r
    obtain ⟨κ0, i⟩ := q
    split at h
    · rename_i hq
      dsimp only at hq
      subst hq
      obtain ⟨L0, f0, k0, hP, hD, hf, hk0, he⟩ := xH_cell hH (xac_lt hc) hst.1
      rw [he, xcell_a hc] at hk0
      exact va_alen hx hb hK hP k0 0 hk0 rfl (by show Int32.ofNat (xln w κ0 i 0) = _; unfold xln; rw [if_pos rfl]) hd (hk _ h H locs ls hH hO hS hl ⟨trivial, hst.2⟩)
    · cases h
  · cases h
theorem n_goto {X : XCtx} (hE : XE X) {pc tgt : Nat} {off : Int} {M : List Bool} (ht : (pc : Int) + off = (tgt : Int)) (hd : decode X.2.2.1.1 pc = .ok (.goto off, 3)) : SndB X pc (tGo tgt M) := by
  obtain ⟨⟨p, l, e, R, s⟩, ⟨m, args, below, meth, c⟩, ⟨cc, nL, own, ret, Ts⟩, ⟨D, A, ad, cy, cnt, cs, sl⟩⟩ := X
  obtain ⟨hx, hb, hml, hown, hts, hin, hK, hG, hlocks, hr, hZ, hcs, hsl⟩ := hE
  rintro K ⟨L, st, w⟩ rr h hk H locs ls hH hO hS hl hst
  dsimp only [tGo] at h
  exact lv_goto hx hb hd ht (hk _ _ h H locs ls hH hO hS (xlv_keep M hl) hst)
theorem n_fall {X : XCtx} {pc : Nat} {M : List Bool} : SndB X pc (tGo pc M) := by
  obtain ⟨⟨p, l, e, R, s⟩, ⟨m, args, below, meth, c⟩, ⟨cc, nL, own, ret, Ts⟩, ⟨D, A, ad, cy, cnt, cs, sl⟩⟩ := X
  rintro K ⟨L, st, w⟩ rr h hk H locs ls hH hO hS hl hst
  exact hk _ _ h H locs ls hH hO hS (xlv_keep M hl) hst
theorem n_ifeq {X : XCtx} (hE : XE X) {pc tgt : Nat} {off : Int} {M M' : List Bool} (ht : (pc : Int) + off = (tgt : Int)) (hd : decode X.2.2.1.1 pc = .ok (.ifCond .eq off, 3)) : SndB X pc (tIf1 (fun x => decide (x = 0)) tgt M (pc + 3) M') := by
  obtain ⟨⟨p, l, e, R, s⟩, ⟨m, args, below, meth, c⟩, ⟨cc, nL, own, ret, Ts⟩, ⟨D, A, ad, cy, cnt, cs, sl⟩⟩ := X
  obtain ⟨hx, hb, hml, hown, hts, hin, hK, hG, hlocks, hr, hZ, hcs, hsl⟩ := hE
  rintro K ⟨L, st, w⟩ rr h hk H locs ls hH hO hS hl hst
  dsimp only [tIf1] at h
  split at h
  · rename_i x r
    refine lv_if_eq hx hb hd ht (fun c1 => ?_) (fun c1 => ?_)
    · rw [show decide _ = true from decide_eq_true c1] at h
      exact hk _ _ h H locs ls hH hO hS (xlv_keep M hl) hst.2
    · rw [show decide _ = false from decide_eq_false (c1)] at h
      exact hk _ _ h H locs ls hH hO hS (xlv_keep M' hl) hst.2
  · cases h
theorem n_ifceq {X : XCtx} (hE : XE X) {pc tgt : Nat} {off : Int} {M M' : List Bool} (ht : (pc : Int) + off = (tgt : Int)) (hd : decode X.2.2.1.1 pc = .ok (.if_icmp .eq off, 3)) : SndB X pc (tIf2 (fun x y => decide (x = y)) tgt M (pc + 3) M') := by
  obtain ⟨⟨p, l, e, R, s⟩, ⟨m, args, below, meth, c⟩, ⟨cc, nL, own, ret, Ts⟩, ⟨D, A, ad, cy, cnt, cs, sl⟩⟩ := X
  obtain ⟨hx, hb, hml, hown, hts, hin, hK, hG, hlocks, hr, hZ, hcs, hsl⟩ := hE
  rintro K ⟨L, st, w⟩ rr h hk H locs ls hH hO hS hl hst
  dsimp only [tIf2] at h
  split at h
  · rename_i y x r
    refine lv_icmp_eq hx hb hd ht (fun c1 => ?_) (fun c1 => ?_)
    · rw [show decide _ = true from decide_eq_true c1] at h
      exact hk _ _ h H locs ls hH hO hS (xlv_keep M hl) hst.2.2
    · rw [show decide _ = false from decide_eq_false (c1)] at h
      exact hk _ _ h H locs ls hH hO hS (xlv_keep M' hl) hst.2.2
  · cases h
theorem n_ifne {X : XCtx} (hE : XE X) {pc tgt : Nat} {off : Int} {M M' : List Bool} (ht : (pc : Int) + off = (tgt : Int)) (hd : decode X.2.2.1.1 pc = .ok (.ifCond .ne off, 3)) : SndB X pc (tIf1 (fun x => decide (¬ x = 0)) tgt M (pc + 3) M') := by
  obtain ⟨⟨p, l, e, R, s⟩, ⟨m, args, below, meth, c⟩, ⟨cc, nL, own, ret, Ts⟩, ⟨D, A, ad, cy, cnt, cs, sl⟩⟩ := X
  obtain ⟨hx, hb, hml, hown, hts, hin, hK, hG, hlocks, hr, hZ, hcs, hsl⟩ := hE
  rintro K ⟨L, st, w⟩ rr h hk H locs ls hH hO hS hl hst
  dsimp only [tIf1] at h
  split at h
  · rename_i x r
    refine lv_if_ne hx hb hd ht (fun c1 => ?_) (fun c1 => ?_)
    · rw [show decide _ = true from decide_eq_true c1] at h
      exact hk _ _ h H locs ls hH hO hS (xlv_keep M hl) hst.2
    · rw [show decide _ = false from decide_eq_false (not_not_intro c1)] at h
      exact hk _ _ h H locs ls hH hO hS (xlv_keep M' hl) hst.2
  · cases h
theorem n_ifcne {X : XCtx} (hE : XE X) {pc tgt : Nat} {off : Int} {M M' : List Bool} (ht : (pc : Int) + off = (tgt : Int)) (hd : decode X.2.2.1.1 pc = .ok (.if_icmp .ne off, 3)) : SndB X pc (tIf2 (fun x y => decide (¬ x = y)) tgt M (pc + 3) M') := by
  obtain ⟨⟨p, l, e, R, s⟩, ⟨m, args, below, meth, c⟩, ⟨cc, nL, own, ret, Ts⟩, ⟨D, A, ad, cy, cnt, cs, sl⟩⟩ := X
  obtain ⟨hx, hb, hml, hown, hts, hin, hK, hG, hlocks, hr, hZ, hcs, hsl⟩ := hE
  rintro K ⟨L, st, w⟩ rr h hk H locs ls hH hO hS hl hst
  dsimp only [tIf2] at h
  split at h
  · rename_i y x r
    refine lv_icmp_ne hx hb hd ht (fun c1 => ?_) (fun c1 => ?_)
    · rw [show decide _ = true from decide_eq_true c1] at h
      exact hk _ _ h H locs ls hH hO hS (xlv_keep M hl) hst.2.2
    · rw [show decide _ = false from decide_eq_false (not_not_intro c1)] at h
      exact hk _ _ h H locs ls hH hO hS (xlv_keep M' hl) hst.2.2
  · cases h
theorem n_iflt {X : XCtx} (hE : XE X) {pc tgt : Nat} {off : Int} {M M' : List Bool} (ht : (pc : Int) + off = (tgt : Int)) (hd : decode X.2.2.1.1 pc = .ok (.ifCond .lt off, 3)) : SndB X pc (tIf1 (fun x => decide (x < 0)) tgt M (pc + 3) M') := by
  obtain ⟨⟨p, l, e, R, s⟩, ⟨m, args, below, meth, c⟩, ⟨cc, nL, own, ret, Ts⟩, ⟨D, A, ad, cy, cnt, cs, sl⟩⟩ := X
  obtain ⟨hx, hb, hml, hown, hts, hin, hK, hG, hlocks, hr, hZ, hcs, hsl⟩ := hE
  rintro K ⟨L, st, w⟩ rr h hk H locs ls hH hO hS hl hst
  dsimp only [tIf1] at h
  split at h
  · rename_i x r
    refine lv_if_lt hx hb hd ht (fun c1 => ?_) (fun c1 => ?_)
    · rw [show decide _ = true from decide_eq_true c1] at h
      exact hk _ _ h H locs ls hH hO hS (xlv_keep M hl) hst.2
    · rw [show decide _ = false from decide_eq_false (c1)] at h
      exact hk _ _ h H locs ls hH hO hS (xlv_keep M' hl) hst.2
  · cases h
theorem n_ifclt {X : XCtx} (hE : XE X) {pc tgt : Nat} {off : Int} {M M' : List Bool} (ht : (pc : Int) + off = (tgt : Int)) (hd : decode X.2.2.1.1 pc = .ok (.if_icmp .lt off, 3)) : SndB X pc (tIf2 (fun x y => decide (x < y)) tgt M (pc + 3) M') := by
  obtain ⟨⟨p, l, e, R, s⟩, ⟨m, args, below, meth, c⟩, ⟨cc, nL, own, ret, Ts⟩, ⟨D, A, ad, cy, cnt, cs, sl⟩⟩ := X
  obtain ⟨hx, hb, hml, hown, hts, hin, hK, hG, hlocks, hr, hZ, hcs, hsl⟩ := hE
  rintro K ⟨L, st, w⟩ rr h hk H locs ls hH hO hS hl hst
  dsimp only [tIf2] at h
  split at h
  · rename_i y x r
    refine lv_icmp_lt hx hb hd ht (fun c1 => ?_) (fun c1 => ?_)
    · rw [show decide _ = true from decide_eq_true c1] at h
      exact hk _ _ h H locs ls hH hO hS (xlv_keep M hl) hst.2.2
    · rw [show decide _ = false from decide_eq_false (c1)] at h
      exact hk _ _ h H locs ls hH hO hS (xlv_keep M' hl) hst.2.2
  · cases h
theorem n_ifge {X : XCtx} (hE : XE X) {pc tgt : Nat} {off : Int} {M M' : List Bool} (ht : (pc : Int) + off = (tgt : Int)) (hd : decode X.2.2.1.1 pc = .ok (.ifCond .ge off, 3)) : SndB X pc (tIf1 (fun x => decide (0 ≤ x)) tgt M (pc + 3) M') := by
  obtain ⟨⟨p, l, e, R, s⟩, ⟨m, args, below, meth, c⟩, ⟨cc, nL, own, ret, Ts⟩, ⟨D, A, ad, cy, cnt, cs, sl⟩⟩ := X
  obtain ⟨hx, hb, hml, hown, hts, hin, hK, hG, hlocks, hr, hZ, hcs, hsl⟩ := hE
  rintro K ⟨L, st, w⟩ rr h hk H locs ls hH hO hS hl hst
  dsimp only [tIf1] at h
  split at h
  · rename_i x r
    refine lv_if_ge hx hb hd ht (fun c1 => ?_) (fun c1 => ?_)
    · rw [show decide _ = true from decide_eq_true c1] at h
      exact hk _ _ h H locs ls hH hO hS (xlv_keep M hl) hst.2
    · rw [show decide _ = false from decide_eq_false (c1)] at h
      exact hk _ _ h H locs ls hH hO hS (xlv_keep M' hl) hst.2
  · cases h
theorem n_ifcge {X : XCtx} (hE : XE X) {pc tgt : Nat} {off : Int} {M M' : List Bool} (ht : (pc : Int) + off = (tgt : Int)) (hd : decode X.2.2.1.1 pc = .ok (.if_icmp .ge off, 3)) : SndB X pc (tIf2 (fun x y => decide (y ≤ x)) tgt M (pc + 3) M') := by
  obtain ⟨⟨p, l, e, R, s⟩, ⟨m, args, below, meth, c⟩, ⟨cc, nL, own, ret, Ts⟩, ⟨D, A, ad, cy, cnt, cs, sl⟩⟩ := X
  obtain ⟨hx, hb, hml, hown, hts, hin, hK, hG, hlocks, hr, hZ, hcs, hsl⟩ := hE
  rintro K ⟨L, st, w⟩ rr h hk H locs ls hH hO hS hl hst
  dsimp only [tIf2] at h
  split at h
  · rename_i y x r
    refine lv_icmp_ge hx hb hd ht (fun c1 => ?_) (fun c1 => ?_)
    · rw [show decide _ = true from decide_eq_true c1] at h
      exact hk _ _ h H locs ls hH hO hS (xlv_keep M hl) hst.2.2
    · rw [show decide _ = false from decide_eq_false (c1)] at h
      exact hk _ _ h H locs ls hH hO hS (xlv_keep M' hl) hst.2.2
  · cases h
theorem n_ifgt {X : XCtx} (hE : XE X) {pc tgt : Nat} {off : Int} {M M' : List Bool} (ht : (pc : Int) + off = (tgt : Int)) (hd : decode X.2.2.1.1 pc = .ok (.ifCond .gt off, 3)) : SndB X pc (tIf1 (fun x => decide (0 < x)) tgt M (pc + 3) M') := by
  obtain ⟨⟨p, l, e, R, s⟩, ⟨m, args, below, meth, c⟩, ⟨cc, nL, own, ret, Ts⟩, ⟨D, A, ad, cy, cnt, cs, sl⟩⟩ := X
  obtain ⟨hx, hb, hml, hown, hts, hin, hK, hG, hlocks, hr, hZ, hcs, hsl⟩ := hE
  rintro K ⟨L, st, w⟩ rr h hk H locs ls hH hO hS hl hst
  dsimp only [tIf1] at h
  split at h
  · rename_i x r
    refine lv_if_gt hx hb hd ht (fun c1 => ?_) (fun c1 => ?_)
    · rw [show decide _ = true from decide_eq_true c1] at h
      exact hk _ _ h H locs ls hH hO hS (xlv_keep M hl) hst.2
    · rw [show decide _ = false from decide_eq_false (c1)] at h
      exact hk _ _ h H locs ls hH hO hS (xlv_keep M' hl) hst.2
  · cases h
theorem n_ifcgt {X : XCtx} (hE : XE X) {pc tgt : Nat} {off : Int} {M M' : List Bool} (ht : (pc : Int) + off = (tgt : Int)) (hd : decode X.2.2.1.1 pc = .ok (.if_icmp .gt off, 3)) : SndB X pc (tIf2 (fun x y => decide (y < x)) tgt M (pc + 3) M') := by
  obtain ⟨⟨p, l, e, R, s⟩, ⟨m, args, below, meth, c⟩, ⟨cc, nL, own, ret, Ts⟩, ⟨D, A, ad, cy, cnt, cs, sl⟩⟩ := X
  obtain ⟨hx, hb, hml, hown, hts, hin, hK, hG, hlocks, hr, hZ, hcs, hsl⟩ := hE
  rintro K ⟨L, st, w⟩ rr h hk H locs ls hH hO hS hl hst
  dsimp only [tIf2] at h
  split at h
  · rename_i y x r
    refine lv_icmp_gt hx hb hd ht (fun c1 => ?_) (fun c1 => ?_)
    · rw [show decide _ = true from decide_eq_true c1] at h
      exact hk _ _ h H locs ls hH hO hS (xlv_keep M hl) hst.2.2
    · rw [show decide _ = false from decide_eq_false (c1)] at h
      exact hk _ _ h H locs ls hH hO hS (xlv_keep M' hl) hst.2.2
  · cases h
theorem n_ifle {X : XCtx} (hE : XE X) {pc tgt : Nat} {off : Int} {M M' : List Bool} (ht : (pc : Int) + off = (tgt : Int)) (hd : decode X.2.2.1.1 pc = .ok (.ifCond .le off, 3)) : SndB X pc (tIf1 (fun x => decide (x ≤ 0)) tgt M (pc + 3) M') := by
  obtain ⟨⟨p, l, e, R, s⟩, ⟨m, args, below, meth, c⟩, ⟨cc, nL, own, ret, Ts⟩, ⟨D, A, ad, cy, cnt, cs, sl⟩⟩ := X
  obtain ⟨hx, hb, hml, hown, hts, hin, hK, hG, hlocks, hr, hZ, hcs, hsl⟩ := hE
  rintro K ⟨L, st, w⟩ rr h hk H locs ls hH hO hS hl hst
  dsimp only [tIf1] at h
  split at h
  · rename_i x r
    refine lv_if_le hx hb hd ht (fun c1 => ?_) (fun c1 => ?_)
    · rw [show decide _ = true from decide_eq_true c1] at h
      exact hk _ _ h H locs ls hH hO hS (xlv_keep M hl) hst.2
    · rw [show decide _ = false from decide_eq_false (c1)] at h
      exact hk _ _ h H locs ls hH hO hS (xlv_keep M' hl) hst.2
  · cases h
theorem n_ifcle {X : XCtx} (hE : XE X) {pc tgt : Nat} {off : Int} {M M' : List Bool} (ht : (pc : Int) + off = (tgt : Int)) (hd : decode X.2.2.1.1 pc = .ok (.if_icmp .le off, 3)) : SndB X pc (tIf2 (fun x y => decide (x ≤ y)) tgt M (pc + 3) M') := by
  obtain ⟨⟨p, l, e, R, s⟩, ⟨m, args, below, meth, c⟩, ⟨cc, nL, own, ret, Ts⟩, ⟨D, A, ad, cy, cnt, cs, sl⟩⟩ := X
  obtain ⟨hx, hb, hml, hown, hts, hin, hK, hG, hlocks, hr, hZ, hcs, hsl⟩ := hE
  rintro K ⟨L, st, w⟩ rr h hk H locs ls hH hO hS hl hst
  dsimp only [tIf2] at h
  split at h
  · rename_i y x r
    refine lv_icmp_le hx hb hd ht (fun c1 => ?_) (fun c1 => ?_)
    · rw [show decide _ = true from decide_eq_true c1] at h
      exact hk _ _ h H locs ls hH hO hS (xlv_keep M hl) hst.2.2
    · rw [show decide _ = false from decide_eq_false (c1)] at h
      exact hk _ _ h H locs ls hH hO hS (xlv_keep M' hl) hst.2.2
  · cases h
theorem n_ifnull {X : XCtx} (hE : XE X) {pc tgt index κ k N κ' : Nat} {off : Int} {M M' : List Bool} {C : String} {T : u_T} {ty : Nat → FieldType} (hC : XK κ C T ty N) (hc : xfc κ k = some (2, κ', 0, 0)) (hkN : k < N) (hTC : (T k).1 = C) (hlk : Cond.fieldLink X.2.2.1.2.2.1 index C (T k).2.1 (T k).2.2.1 ∈ lw_ok) (ht : (((pc + 3 : Nat)) : Int) + off = (tgt : Int)) (hd : decode X.2.2.1.1 pc = .ok (.getfield index, 3)) (hd2 : decode X.2.2.1.1 (pc + 3) = .ok (.ifnull off, 3)) : SndB X pc (tNul κ k tgt M (pc + 6) M') := by
  obtain ⟨⟨p, l, e, R, s⟩, ⟨m, args, below, meth, c⟩, ⟨cc, nL, own, ret, Ts⟩, ⟨D, A, ad, cy, cnt, cs, sl⟩⟩ := X
  obtain ⟨hx, hb, hml, hown, hts, hin, hK, hG, hlocks, hr, hZ, hcs, hsl⟩ := hE
  rintro K ⟨L, st, w⟩ rr h hk H locs ls hH hO hS hl hst
  dsimp only [tNul] at h
  split at h
  · rename_i q r
    obtain ⟨κ0, i⟩ := q
    split at h
    · rename_i hq
      dsimp only at hq
      subst hq
      obtain ⟨h12, hcl, hws, hty, hnm⟩ := hC
      obtain ⟨L0, f0, k0, hP, hD, hf, hk0, he⟩ := xH_cell hH (Nat.lt_trans h12 (by decide)) hst.1
      rw [he, xcell_o h12] at hk0
      dsimp only at h
      cases hg : gR w κ0 i k with
      | none =>
        rw [hg] at h
        refine va_get (v := .null) hx hb (own := own) (ref := C) (C := C) (T := T) (N := N) hts (fun w1 h1 => hin _ (hws w1 h1)) hown hK hP k0 hk0 hcl k hkN (hts _ (hin _ hlk)) (fun _ h9 => by rw [hTC] at h9; exact h9) (by rw [xfs_get (xfc_at hc)]; simp [xcv, hg, va_rf]) hd ?_
        exact lv_ifnullN hx hb hd2 ht (hk _ _ h H locs ls hH hO hS (xlv_keep M hl) hst.2)
      | some j =>
        rw [hg] at h
        refine va_get (v := .ref (ad κ' j)) hx hb (own := own) (ref := C) (C := C) (T := T) (N := N) hts (fun w1 h1 => hin _ (hws w1 h1)) hown hK hP k0 hk0 hcl k hkN (hts _ (hin _ hlk)) (fun _ h9 => by rw [hTC] at h9; exact h9) (by rw [xfs_get (xfc_at hc)]; simp [xcv, hg, va_rf]) hd ?_
        exact lv_ifnull hx hb hd2 (hk _ _ h H locs ls hH hO hS (xlv_keep M' hl) hst.2)
    · cases h
  · cases h
theorem n_ifnonnull {X : XCtx} (hE : XE X) {pc tgt index κ k N κ' : Nat} {off : Int} {M M' : List Bool} {C : String} {T : u_T} {ty : Nat → FieldType} (hC : XK κ C T ty N) (hc : xfc κ k = some (2, κ', 0, 0)) (hkN : k < N) (hTC : (T k).1 = C) (hlk : Cond.fieldLink X.2.2.1.2.2.1 index C (T k).2.1 (T k).2.2.1 ∈ lw_ok) (ht : (((pc + 3 : Nat)) : Int) + off = (tgt : Int)) (hd : decode X.2.2.1.1 pc = .ok (.getfield index, 3)) (hd2 : decode X.2.2.1.1 (pc + 3) = .ok (.ifnonnull off, 3)) : SndB X pc (tNul κ k (pc + 6) M tgt M') := by
  obtain ⟨⟨p, l, e, R, s⟩, ⟨m, args, below, meth, c⟩, ⟨cc, nL, own, ret, Ts⟩, ⟨D, A, ad, cy, cnt, cs, sl⟩⟩ := X
  obtain ⟨hx, hb, hml, hown, hts, hin, hK, hG, hlocks, hr, hZ, hcs, hsl⟩ := hE
  rintro K ⟨L, st, w⟩ rr h hk H locs ls hH hO hS hl hst
  dsimp only [tNul] at h
  split at h
  · rename_i q r
    obtain ⟨κ0, i⟩ := q
    split at h
    · rename_i hq
      dsimp only at hq
      subst hq
      obtain ⟨h12, hcl, hws, hty, hnm⟩ := hC
      obtain ⟨L0, f0, k0, hP, hD, hf, hk0, he⟩ := xH_cell hH (Nat.lt_trans h12 (by decide)) hst.1
      rw [he, xcell_o h12] at hk0
      dsimp only at h
      cases hg : gR w κ0 i k with
      | none =>
        rw [hg] at h
        refine va_get (v := .null) hx hb (own := own) (ref := C) (C := C) (T := T) (N := N) hts (fun w1 h1 => hin _ (hws w1 h1)) hown hK hP k0 hk0 hcl k hkN (hts _ (hin _ hlk)) (fun _ h9 => by rw [hTC] at h9; exact h9) (by rw [xfs_get (xfc_at hc)]; simp [xcv, hg, va_rf]) hd ?_
        exact lv_ifnonnullN hx hb hd2 (hk _ _ h H locs ls hH hO hS (xlv_keep M hl) hst.2)
      | some j =>
        rw [hg] at h
        refine va_get (v := .ref (ad κ' j)) hx hb (own := own) (ref := C) (C := C) (T := T) (N := N) hts (fun w1 h1 => hin _ (hws w1 h1)) hown hK hP k0 hk0 hcl k hkN (hts _ (hin _ hlk)) (fun _ h9 => by rw [hTC] at h9; exact h9) (by rw [xfs_get (xfc_at hc)]; simp [xcv, hg, va_rf]) hd ?_
        exact lv_ifnonnull hx hb hd2 ht (hk _ _ h H locs ls hH hO hS (xlv_keep M' hl) hst.2)
    · cases h
  · cases h
theorem n_ireturn {X : XCtx} (hE : XE X) {pc : Nat} (hret : X.2.2.1.2.2.2.1 = some .int) (hd : decode X.2.2.1.1 pc = .ok (.ireturn, 1)) : SndB X pc tRI := by
  obtain ⟨⟨p, l, e, R, s⟩, ⟨m, args, below, meth, c⟩, ⟨cc, nL, own, ret, Ts⟩, ⟨D, A, ad, cy, cnt, cs, sl⟩⟩ := X
  obtain ⟨hx, hb, hml, hown, hts, hin, hK, hG, hlocks, hr, hZ, hcs, hsl⟩ := hE
  rintro K ⟨L, st, w⟩ rr h hk H locs ls hH hO hS hl hst
  dsimp only at hret
  subst hret
  dsimp only [tRI] at h
  split at h
  · cases h
    exact W.iret hx hb hr (fun t ht1 hW => ⟨⟨rfl, by rw [ht1]; exact hH, hO, fun v hv => by cases hv; trivial⟩, hS.F ht1⟩) hS.2.2 hd
  · cases h
theorem n_zreturn {X : XCtx} (hE : XE X) {pc : Nat} (hret : X.2.2.1.2.2.2.1 = some .boolean) (hd : decode X.2.2.1.1 pc = .ok (.ireturn, 1)) : SndB X pc tRZ := by
  obtain ⟨⟨p, l, e, R, s⟩, ⟨m, args, below, meth, c⟩, ⟨cc, nL, own, ret, Ts⟩, ⟨D, A, ad, cy, cnt, cs, sl⟩⟩ := X
  obtain ⟨hx, hb, hml, hown, hts, hin, hK, hG, hlocks, hr, hZ, hcs, hsl⟩ := hE
  rintro K ⟨L, st, w⟩ rr h hk H locs ls hH hO hS hl hst
  dsimp only at hret
  subst hret
  dsimp only [tRZ] at h
  split at h
  · split at h
    · rename_i hz
      cases h
      exact W.zret hx hb hr (by rcases hz with rfl | rfl <;> rfl) (fun t ht1 hW => ⟨⟨rfl, by rw [ht1]; exact hH, hO, fun v hv => by cases hv; trivial⟩, hS.F ht1⟩) hS.2.2 hd
    · cases h
  · cases h
theorem n_lreturn {X : XCtx} (hE : XE X) {pc : Nat} (hret : X.2.2.1.2.2.2.1 = some .long) (hd : decode X.2.2.1.1 pc = .ok (.lreturn, 1)) : SndB X pc tRJ := by
  obtain ⟨⟨p, l, e, R, s⟩, ⟨m, args, below, meth, c⟩, ⟨cc, nL, own, ret, Ts⟩, ⟨D, A, ad, cy, cnt, cs, sl⟩⟩ := X
  obtain ⟨hx, hb, hml, hown, hts, hin, hK, hG, hlocks, hr, hZ, hcs, hsl⟩ := hE
  rintro K ⟨L, st, w⟩ rr h hk H locs ls hH hO hS hl hst
  dsimp only at hret
  subst hret
  dsimp only [tRJ] at h
  split at h
  · cases h
    exact W.lret hx hb hr (fun t ht1 hW => ⟨⟨rfl, by rw [ht1]; exact hH, hO, fun v hv => by cases hv; trivial⟩, hS.F ht1⟩) hS.2.2 hd
  · cases h
theorem n_vreturn {X : XCtx} (hE : XE X) {pc : Nat} (hret : X.2.2.1.2.2.2.1 = none) (hd : decode X.2.2.1.1 pc = .ok (.return_, 1)) : SndB X pc tRV := by
  obtain ⟨⟨p, l, e, R, s⟩, ⟨m, args, below, meth, c⟩, ⟨cc, nL, own, ret, Ts⟩, ⟨D, A, ad, cy, cnt, cs, sl⟩⟩ := X
  obtain ⟨hx, hb, hml, hown, hts, hin, hK, hG, hlocks, hr, hZ, hcs, hsl⟩ := hE
  rintro K ⟨L, st, w⟩ rr h hk H locs ls hH hO hS hl hst
  dsimp only at hret
  subst hret
  dsimp only [tRV] at h
  split at h
  · cases h
    exact W.vret hx hb hr (fun t ht1 hW => ⟨⟨rfl, by rw [ht1]; exact hH, hO, fun v hv => by cases hv⟩, hS.F ht1⟩) hS.2.2 hd
  · cases h
theorem n_areturn {X : XCtx} (hE : XE X) {pc : Nat} {C : String} (hret : X.2.2.1.2.2.2.1 = some (.object C)) (hd : decode X.2.2.1.1 pc = .ok (.areturn, 1)) : SndB X pc tRA := by
  obtain ⟨⟨p, l, e, R, s⟩, ⟨m, args, below, meth, c⟩, ⟨cc, nL, own, ret, Ts⟩, ⟨D, A, ad, cy, cnt, cs, sl⟩⟩ := X
  obtain ⟨hx, hb, hml, hown, hts, hin, hK, hG, hlocks, hr, hZ, hcs, hsl⟩ := hE
  rintro K ⟨L, st, w⟩ rr h hk H locs ls hH hO hS hl hst
  dsimp only at hret
  subst hret
  dsimp only [tRA] at h
  split at h
  · cases h
    exact W.aret hx hb hr (Or.inl ⟨_, rfl⟩) (Or.inr ⟨_, rfl⟩) (fun t ht1 hW => ⟨⟨rfl, by rw [ht1]; exact hH, hO, fun v hv => by cases hv; exact hst.1⟩, hS.F ht1⟩) hS.2.2 hd
  · cases h
    exact W.aret hx hb hr (Or.inl ⟨_, rfl⟩) (Or.inl rfl) (fun t ht1 hW => ⟨⟨rfl, by rw [ht1]; exact hH, hO, fun v hv => by cases hv; trivial⟩, hS.F ht1⟩) hS.2.2 hd
  · cases h
def xVal : XT := ⟨fun K σ => match σ.2.1 with
  | .inr q :: r => if q.1 = 65 then K (σ.1, .inr (66, q.2) :: r, σ.2.2) else none
  | _ => none, by intro σ; dsimp only; split <;> (try split) <;> first | exact Or.inl ⟨_, fun _ => rfl⟩ | exact Or.inr ⟨_, fun _ => rfl⟩⟩
def xCod : XT := ⟨fun K σ => match σ.2.1 with
  | .inr q :: r => if q.1 = 65 then K (σ.1, .inl (.int 0) :: r, σ.2.2) else none
  | _ => none, by intro σ; dsimp only; split <;> (try split) <;> first | exact Or.inl ⟨_, fun _ => rfl⟩ | exact Or.inr ⟨_, fun _ => rfl⟩⟩
def xLenS : XT := ⟨fun K σ => match σ.2.1 with
  | .inr q :: r => if q.1 = 66 then K (σ.1, .inl (.int (Int32.ofNat (xsln.getD q.2 0))) :: r, σ.2.2) else none
  | _ => none, by intro σ; dsimp only; split <;> (try split) <;> first | exact Or.inl ⟨_, fun _ => rfl⟩ | exact Or.inr ⟨_, fun _ => rfl⟩⟩
def xAS : XT := ⟨fun K σ => match σ.2.1 with
  | .inl (.int j) :: .inr q :: r => if q.1 = 66 then (if j < 0 ∨ xsln.getD q.2 0 ≤ j.toNatClampNeg then none else K (σ.1, .inl (.int ((xsby.getD q.2 []).getD j.toNatClampNeg 0)) :: r, σ.2.2)) else none
  | _ => none, by intro σ; dsimp only; split <;> (try split) <;> (try split) <;> first | exact Or.inl ⟨_, fun _ => rfl⟩ | exact Or.inr ⟨_, fun _ => rfl⟩⟩
def tRT (ty : FieldType) : XB := ⟨fun _ σ => match σ.2.1 with
  | [.inl (.int x)] => if narrow ty (.int x) = .int x then some (some (.inl (.int x)), σ.2.2) else none
  | _ => none, by intro σ; exact Or.inr ⟨_, fun _ => rfl⟩⟩
theorem n_val {X : XCtx} (hE : XE X) {pc index : Nat} {ref : String} (hrf : ref = "java/lang/String") (hlk : Cond.fieldLink X.2.2.1.2.2.1 index ref "value" "[B" ∈ lw_ok) (hd : decode X.2.2.1.1 pc = .ok (.getfield index, 3)) : Snd X pc (pc + 3) xVal := by
  subst hrf
  obtain ⟨⟨p, l, e, R, s⟩, ⟨m, args, below, meth, c⟩, ⟨cc, nL, own, ret, Ts⟩, ⟨D, A, ad, cy, cnt, cs, sl⟩⟩ := X
  obtain ⟨hx, hb, hml, hown, hts, hin, hK, hG, hlocks, hr, hZ, hcs, hsl⟩ := hE
  rintro K ⟨L, st, w⟩ rr h hk H locs ls hH hO hS hl hst
  dsimp only [xVal] at h
  split at h
  · rename_i q r
    obtain ⟨κ0, i⟩ := q
    split at h
    · rename_i hq
      dsimp only at hq
      subst hq
      have hi : i < 6 := Nat.lt_of_lt_of_le (show i < cnt (64 + 1) from hst.1) (Nat.le_of_eq hG.2.1.1)
      have hv := hZ.1.1 i hi
      exact vk_getf hx hb hv.2.2.1 hS hown (hts _ (hin _ hlk)) (fun _ h9 => h9) hd (hk _ h H locs ls hH hO hS hl ⟨by show i < cnt 66; rw [hG.2.1.2]; exact hi, hst.2⟩)
    · cases h
  · cases h
theorem n_cod {X : XCtx} (hE : XE X) {pc index : Nat} {ref : String} (hrf : ref = "java/lang/String") (hlk : Cond.fieldLink X.2.2.1.2.2.1 index ref "coder" "B" ∈ lw_ok) (hd : decode X.2.2.1.1 pc = .ok (.getfield index, 3)) : Snd X pc (pc + 3) xCod := by
  subst hrf
  obtain ⟨⟨p, l, e, R, s⟩, ⟨m, args, below, meth, c⟩, ⟨cc, nL, own, ret, Ts⟩, ⟨D, A, ad, cy, cnt, cs, sl⟩⟩ := X
  obtain ⟨hx, hb, hml, hown, hts, hin, hK, hG, hlocks, hr, hZ, hcs, hsl⟩ := hE
  rintro K ⟨L, st, w⟩ rr h hk H locs ls hH hO hS hl hst
  dsimp only [xCod] at h
  split at h
  · rename_i q r
    obtain ⟨κ0, i⟩ := q
    split at h
    · rename_i hq
      dsimp only at hq
      subst hq
      have hi : i < 6 := Nat.lt_of_lt_of_le (show i < cnt (64 + 1) from hst.1) (Nat.le_of_eq hG.2.1.1)
      have hv := hZ.1.1 i hi
      exact vk_getf hx hb hv.2.1 hS hown (hts _ (hin _ hlk)) (fun _ h9 => h9) hd (hk _ h H locs ls hH hO hS hl ⟨trivial, hst.2⟩)
    · cases h
  · cases h
theorem n_gets {X : XCtx} (hE : XE X) {pc index : Nat} (hlk : Cond.fieldLink X.2.2.1.2.2.1 index "java/lang/String" "COMPACT_STRINGS" "Z" ∈ lw_ok) (hd : decode X.2.2.1.1 pc = .ok (.getstatic index, 3)) : Snd X pc (pc + 3) (xC (.int 1)) := by
  obtain ⟨⟨p, l, e, R, s⟩, ⟨m, args, below, meth, c⟩, ⟨cc, nL, own, ret, Ts⟩, ⟨D, A, ad, cy, cnt, cs, sl⟩⟩ := X
  obtain ⟨hx, hb, hml, hown, hts, hin, hK, hG, hlocks, hr, hZ, hcs, hsl⟩ := hE
  rintro K ⟨L, st, w⟩ rr h hk H locs ls hH hO hS hl hst
  exact va_gets hx hb hZ.2.2.1 hS hown (hts _ (hin _ hlk)) (fun _ h9 => h9) hd (hk _ h H locs ls hH hO hS hl ⟨trivial, hst⟩)
theorem n_lenS {X : XCtx} (hE : XE X) {pc : Nat} (hd : decode X.2.2.1.1 pc = .ok (.arraylength, 1)) : Snd X pc (pc + 1) xLenS := by
  obtain ⟨⟨p, l, e, R, s⟩, ⟨m, args, below, meth, c⟩, ⟨cc, nL, own, ret, Ts⟩, ⟨D, A, ad, cy, cnt, cs, sl⟩⟩ := X
  obtain ⟨hx, hb, hml, hown, hts, hin, hK, hG, hlocks, hr, hZ, hcs, hsl⟩ := hE
  rintro K ⟨L, st, w⟩ rr h hk H locs ls hH hO hS hl hst
  dsimp only [xLenS] at h
  split at h
  · rename_i q r
    obtain ⟨κ0, i⟩ := q
    split at h
    · rename_i hq
      dsimp only at hq
      subst hq
      have hi : i < 6 := Nat.lt_of_lt_of_le (show i < cnt (64 + 2) from hst.1) (Nat.le_of_eq hG.2.1.2)
      have hv := hZ.1.1 i hi
      obtain ⟨scr, t1, t2, t3, t4, t5, t6, t7⟩ := hv.2.2.2
      have hc : H[ad 66 i]? = some scr := by rw [hS.2.1 _ (Array.getElem?_eq_some_iff.mp t1).1 t7]; exact t1
      exact W.alen hx hb hc t2 t5 rfl rfl hd (hk _ h H locs ls hH hO hS hl ⟨trivial, hst.2⟩)
    · cases h
  · cases h
theorem n_aldS {X : XCtx} (hE : XE X) {pc : Nat} (hd : decode X.2.2.1.1 pc = .ok (.baload, 1)) : Snd X pc (pc + 1) xAS := by
  obtain ⟨⟨p, l, e, R, s⟩, ⟨m, args, below, meth, c⟩, ⟨cc, nL, own, ret, Ts⟩, ⟨D, A, ad, cy, cnt, cs, sl⟩⟩ := X
  obtain ⟨hx, hb, hml, hown, hts, hin, hK, hG, hlocks, hr, hZ, hcs, hsl⟩ := hE
  rintro K ⟨L, st, w⟩ rr h hk H locs ls hH hO hS hl hst
  dsimp only [xAS] at h
  split at h
  · rename_i j q r
    obtain ⟨κ0, i⟩ := q
    split at h
    · rename_i hq
      dsimp only at hq
      subst hq
      split at h
      · cases h
      · rename_i hz
        have hi : i < 6 := by have h9 : i < cnt 66 := hst.2.1; rw [hG.2.1.2] at h9; exact h9
        have hv := hZ.1.1 i hi
        obtain ⟨scr, t1, t2, t3, t4, t5, t6, t7⟩ := hv.2.2.2
        have hc : H[ad 66 i]? = some scr := by rw [hS.2.1 _ (Array.getElem?_eq_some_iff.mp t1).1 t7]; exact t1
        have hlt : j.toNatClampNeg < xsln.getD i 0 := Nat.not_le.mp fun q => hz (Or.inr q)
        exact W.bald (v := .int ((xsby.getD i []).getD j.toNatClampNeg 0)) hx hb hc t2 t3 (by intro q; rcases q with q | q; exact hz (Or.inl q); omega) (t6 _ hlt) rfl rfl hd (hk _ h H locs ls hH hO hS hl ⟨trivial, hst.2.2⟩)
    · cases h
  · cases h
theorem n_i2c {X : XCtx} (hE : XE X) {pc : Nat} (hd : decode X.2.2.1.1 pc = .ok (.i2c, 1)) : Snd X pc (pc + 1) (xI1 (fun x => (x.toUInt32 % 65536).toInt32)) := by
  obtain ⟨⟨p, l, e, R, s⟩, ⟨m, args, below, meth, c⟩, ⟨cc, nL, own, ret, Ts⟩, ⟨D, A, ad, cy, cnt, cs, sl⟩⟩ := X
  obtain ⟨hx, hb, hml, hown, hts, hin, hK, hG, hlocks, hr, hZ, hcs, hsl⟩ := hE
  rintro K ⟨L, st, w⟩ rr h hk H locs ls hH hO hS hl hst
  dsimp only [xI1] at h
  split at h
  · exact lv_i2c hx hb hd rfl (hk _ h H locs ls hH hO hS hl ⟨trivial, hst.2⟩)
  · cases h
theorem n_treturn {X : XCtx} (hE : XE X) {pc : Nat} {ty : FieldType} (hret : X.2.2.1.2.2.2.1 = some ty) (hd : decode X.2.2.1.1 pc = .ok (.ireturn, 1)) : SndB X pc (tRT ty) := by
  obtain ⟨⟨p, l, e, R, s⟩, ⟨m, args, below, meth, c⟩, ⟨cc, nL, own, ret, Ts⟩, ⟨D, A, ad, cy, cnt, cs, sl⟩⟩ := X
  obtain ⟨hx, hb, hml, hown, hts, hin, hK, hG, hlocks, hr, hZ, hcs, hsl⟩ := hE
  rintro K ⟨L, st, w⟩ rr h hk H locs ls hH hO hS hl hst
  dsimp only at hret
  subst hret
  dsimp only [tRT] at h
  split at h
  · split at h
    · rename_i hz
      cases h
      exact W.zret hx hb hr hz (fun t ht1 hW => ⟨⟨rfl, by rw [ht1]; exact hH, hO, fun v hv => by cases hv; trivial⟩, hS.F ht1⟩) hS.2.2 hd
    · cases h
  · cases h
