/-! ===== what the text of a rule says ===== -/
abbrev St : Type := Nat × Nat × List Int32
def adS (s : St) (c : Int32) : St := (s.1, s.2.1, s.2.2 ++ [c])
def ctS (a : Nat) (s : St) : Nat ⊕ St := if s.2.1 < 60 then .inr (s.1, s.2.1 + 1, s.2.2) else .inl (1 + 8 * a + 3)
/-- what it adds to the steps: from i on the stack to o -/
def G (t : Tp) (i o : List Bool) (s s' : St) : Prop := s'.1 ≤ t.1 ∧ s'.2.1 ≤ 60 ∧ ∃ c, s'.2.2 = s.2.2 ++ c ∧ c.length + s.1 ≤ s'.1 ∧ (∀ ty, tysS c (i ++ ty) = some (o ++ ty)) ∧ psh c + s.2.1 ≤ s'.2.1 ∧ ∀ st ∈ c, OkSt st
theorem G.trans {t : Tp} {i o r : List Bool} {s s1 s2 : St} (h : G t i o s s1) (g : G t o r s1 s2) : G t i r s s2 := by
  obtain ⟨h1, h2, c, h3, h4, h5, h6, h7⟩ := h
  obtain ⟨g1, g2, e, g3, g4, g5, g6, g7⟩ := g
  refine ⟨g1, g2, c ++ e, by rw [g3, h3, List.append_assoc], by rw [List.length_append]; omega, fun ty => by rw [tysS_app (h5 ty)]; exact g5 ty, by rw [psh_app]; omega, fun st hs => ?_⟩
  rcases List.mem_append.mp hs with q | q
  · exact h7 st q
  · exact g7 st q
theorem G.ext {t : Tp} {i o : List Bool} {s s1 : St} (x : List Bool) (h : G t i o s s1) : G t (i ++ x) (o ++ x) s s1 := by
  obtain ⟨h1, h2, c, h3, h4, h5, h6, h7⟩ := h
  exact ⟨h1, h2, c, h3, h4, fun ty => by rw [List.append_assoc, List.append_assoc]; exact h5 (x ++ ty), h6, h7⟩
theorem G.mv {t : Tp} {i o : List Bool} {s s1 : St} {b : Nat} (hb : s.1 ≤ b) (h : G t i o (b, s.2) s1) : G t i o s s1 := by
  obtain ⟨h1, h2, c, h3, h4, h5, h6, h7⟩ := h
  exact ⟨h1, h2, c, h3, Nat.le_trans (Nat.add_le_add_left hb _) h4, h5, h6, h7⟩
theorem G.to {t : Tp} {i : List Bool} {s : St} {p n : Nat} (hp : s.1 ≤ p) (hp1 : p ≤ t.1) (hn : s.2.1 ≤ n) (hn1 : n ≤ 60) : G t i i s (p, n, s.2.2) :=
  ⟨hp1, hn1, [], by rw [List.append_nil], by show 0 + _ ≤ p; omega, fun ty => rfl, by show 0 + _ ≤ n; omega, fun st h => by cases h⟩
theorem G.op {t : Tp} {i o r : List Bool} {s s1 : St} {b : Nat} {c : Int32} (hb : s.1 < b) (h : G t i o (b, s.2) s1) (hc : ∀ ty, tyS c (o ++ ty) = some (r ++ ty)) (ho : OkSt c) (hp : psh [c] = 0) : G t i r s (adS s1 c) := by
  obtain ⟨h1, h2, e, h3, h4, h5, h6, h7⟩ := h
  have h4 : e.length + b ≤ s1.1 := h4
  refine ⟨h1, h2, e ++ [c], by show s1.2.2 ++ [c] = _; rw [h3, List.append_assoc], ?_, fun ty => by rw [tysS_app (h5 ty)]; exact hc ty, by rw [psh_app, hp]; exact h6, fun st hs => ?_⟩
  · rw [List.length_append, List.length_singleton]
    show _ ≤ s1.1
    omega
  · rcases List.mem_append.mp hs with q | q
    · exact h7 st q
    · rw [List.mem_singleton.mp q]; exact ho
theorem G.lt {t : Tp} {b : Bool} {s s1 : St} (h : G t [] [b] s s1) : s.1 < s1.1 := by
  obtain ⟨h1, h2, c, h3, h4, h5, h6, h7⟩ := h
  match c, h4, h5 with
  | [], _, h5 => have := h5 []; cases this
  | x :: c, h4, _ => rw [List.length_cons] at h4; omega
theorem G.len {t : Tp} {i o : List Bool} {s s1 : St} (h : G t i o s s1) : s1.2.2.length + s.1 ≤ s.2.2.length + s1.1 ∧ s.1 ≤ s1.1 := by
  obtain ⟨h1, h2, c, h3, h4, h5, h6, h7⟩ := h
  rw [h3, List.length_append]
  omega
theorem G.one {t : Tp} {s : St} {p : Nat} {c : Int32} (hp : s.1 < p) (hp1 : p ≤ t.1) (hn : s.2.1 < 60) (hc : ∀ ty, tyS c ty = some (false :: ty)) (ho : OkSt c) : G t [] [false] s (p, s.2.1 + 1, s.2.2 ++ [c]) := by
  refine ⟨hp1, by show s.2.1 + 1 ≤ 60; omega, [c], rfl, by show 1 + s.1 ≤ p; omega, fun ty => hc ty, ?_, fun st hs => by rw [List.mem_singleton.mp hs]; exact ho⟩
  have : psh [c] ≤ 1 := by
    rw [psh_cons]
    have : psh [] = 0 := rfl
    split <;> omega
  show psh [c] + s.2.1 ≤ s.2.1 + 1
  omega
theorem ct_ok {a : Nat} {s s' : St} (h : ctS a s = .inr s') : s.2.1 < 60 ∧ s' = (s.1, s.2.1 + 1, s.2.2) := by
  unfold ctS at h
  by_cases c : s.2.1 < 60
  · rw [if_pos c] at h; injection h with h; exact ⟨c, h.symm⟩
  · rw [if_neg c] at h; cases h
theorem ct_fb {a : Nat} {s : St} {f : Nat} (ha : a ≤ 400) (h : ctS a s = .inl f) : FB f := by
  unfold ctS at h
  by_cases c : s.2.1 < 60
  · rw [if_pos c] at h; cases h
  · rw [if_neg c] at h; injection h with h; unfold FB; omega
/-- a value -/
def vlS (t : Tp) (s : St) : Nat ⊕ St :=
  if sk t s.1 < t.1 ∧ isL (t.2 (sk t s.1)) = true then (match fdW (lW 1) (wrd t (sk t s.1)) with
    | none => .inl (1 + 8 * sk t s.1)
    | some j => ctS (sk t s.1) (le t (sk t s.1), s.2.1, s.2.2 ++ [-1 - nI j]))
  else sB (nuS t s.1 0 100000) (fun r => ctS (sk t s.1) (r.1, s.2.1, s.2.2 ++ [nI r.2]))
theorem le_gt {t : Tp} {q : Nat} (h : q < t.1) (hl : isL (t.2 q) = true) : q < le t q ∧ le t q ≤ t.1 := by
  have h1 := le_succ h
  rw [if_pos hl] at h1
  have := le_le (t := t) (p := q + 1) (by omega)
  omega
theorem wd_mem : ∀ j : Fin 11, (-1 - nI j.val) ∈ wdL := by decide +kernel
theorem fd_lt {i : Nat} (hi : i < 6) {x : List Nat} {j : Nat} (h : fdW (lW i) x = some j) : j < (lW i).length := by
  have := fdW_lt _ _ _ h
  exact (List.getElem?_eq_some_iff.mp this).1
def VOk (t : Tp) (b : Bool) (V : St → Nat ⊕ St) : Prop := ∀ s, s.1 ≤ t.1 → s.2.1 ≤ 60 → (∀ s', V s = .inr s' → G t [] [b] s s') ∧ ∀ f, V s = .inl f → FB f
theorem vl_ok {t : Tp} (hT : TOk2 t) : VOk t false (vlS t) := by
  intro s hs hn
  have h4 := hT.1
  have hk := sk_le hs
  refine ⟨fun s' h => ?_, fun f h => ?_⟩
  · unfold vlS at h
    by_cases c : sk t s.1 < t.1 ∧ isL (t.2 (sk t s.1)) = true
    · rw [if_pos c] at h
      have hl := le_gt c.1 c.2
      cases hf : fdW (lW 1) (wrd t (sk t s.1)) with
      | none => rw [hf] at h; cases h
      | some j =>
        rw [hf] at h
        obtain ⟨h1, h2⟩ := ct_ok h
        have hj : j < 11 := fd_lt (i := 1) (by omega) hf
        have hm := wd_mem ⟨j, hj⟩
        rw [h2]
        exact G.one (by omega) hl.2 h1 (fun ty => ty_wd hm ty) (Or.inr (Or.inl hm))
    · rw [if_neg c] at h
      obtain ⟨r, hr, h⟩ := sB_inr h
      obtain ⟨h1, h2⟩ := ct_ok h
      have hu := nu_ok (show nuS t s.1 0 100000 = .inr (r.1, r.2) from hr)
      have hle := nu_le hs hr
      rw [h2]
      exact G.one (by omega) hle h1 (fun ty => ty_nm (by omega) ty) (Or.inl ⟨r.2, by omega, rfl⟩)
  · unfold vlS at h
    by_cases c : sk t s.1 < t.1 ∧ isL (t.2 (sk t s.1)) = true
    · rw [if_pos c] at h
      cases hf : fdW (lW 1) (wrd t (sk t s.1)) with
      | none => rw [hf] at h; injection h with h; unfold FB; omega
      | some j =>
        rw [hf] at h
        exact ct_fb (by omega) h
    · rw [if_neg c] at h
      rcases sB_inl h with h | ⟨r, hr, h⟩
      · exact nu_fb hT hs h
      · exact ct_fb (by omega) h
/-! a loop along the text -/
def glF (B : St → (Nat ⊕ St) ⊕ St) : Nat → St → Nat ⊕ St
  | 0, _ => .inl 1
  | m + 1, s => match B s with
    | .inl r => r
    | .inr s' => glF B m s'
def BOk (N : Nat) (B : St → (Nat ⊕ St) ⊕ St) : Prop := ∀ s s', s.1 ≤ N → s.2.1 ≤ 60 → B s = .inr s' → s.1 < s'.1 ∧ s'.1 ≤ N ∧ s'.2.1 ≤ 60
theorem glF_en {N : Nat} {B : St → (Nat ⊕ St) ⊕ St} (hB : BOk N B) : ∀ m m' s, s.1 ≤ N → s.2.1 ≤ 60 → N + 1 - s.1 ≤ m → N + 1 - s.1 ≤ m' → glF B m s = glF B m' s := by
  intro m
  induction m with
  | zero => intro m' s h1 h2 h3; omega
  | succ m ih =>
    intro m' s h1 h2 h3 h4
    match m', h4 with
    | 0, h4 => omega
    | m' + 1, h4 =>
      unfold glF
      cases hq : B s with
      | inl r => rfl
      | inr s' =>
        obtain ⟨a, b, c⟩ := hB s s' h1 h2 hq
        exact ih m' s' b c (by omega) (by omega)
def glS (N : Nat) (B : St → (Nat ⊕ St) ⊕ St) (s : St) : Nat ⊕ St := glF B (N + 1 - s.1) s
theorem gl_r {N : Nat} {B : St → (Nat ⊕ St) ⊕ St} {s s' : St} (hB : BOk N B) (h1 : s.1 ≤ N) (h2 : s.2.1 ≤ 60) (h : B s = .inr s') : glS N B s = glS N B s' := by
  obtain ⟨a, b, c⟩ := hB s s' h1 h2 h
  unfold glS
  rw [show N + 1 - s.1 = (N - s.1) + 1 by omega]
  have : glF B (N - s.1 + 1) s = glF B (N - s.1) s' := by
    show (match B s with
      | .inl r => r
      | .inr s' => glF B (N - s.1) s') = _
    rw [h]
  rw [this]
  exact glF_en hB _ _ s' b c (by omega) (by omega)
theorem gl_l {N : Nat} {B : St → (Nat ⊕ St) ⊕ St} {s : St} {r : Nat ⊕ St} (h1 : s.1 ≤ N) (h : B s = .inl r) : glS N B s = r := by
  unfold glS
  rw [show N + 1 - s.1 = (N - s.1) + 1 by omega]
  show (match B s with
    | .inl r => r
    | .inr s' => glF B (N - s.1) s') = _
  rw [h]
/-! operands with tight and loose signs between -/
def TkOk (t : Tp) (b : Bool) (tk : Nat → Nat × Nat × Int32) : Prop := ∀ p, p ≤ t.1 → ((tk p).1 ≠ 0 → sk t p < (tk p).2.1 ∧ (tk p).2.1 ≤ t.1 ∧ (∀ ty, tyS (tk p).2.2 ([b, b] ++ ty) = some ([b] ++ ty)) ∧ OkSt (tk p).2.2 ∧ psh [(tk p).2.2] = 0) ∧ tk (sk t p) = tk p
def sR2 (x : Nat ⊕ St) (c : Int32) : (Nat ⊕ St) ⊕ St := match x with
  | .inl f => .inl (.inl f)
  | .inr s => .inr (adS s c)
def tlB (t : Tp) (V : St → Nat ⊕ St) (tk : Nat → Nat × Nat × Int32) (s : St) : (Nat ⊕ St) ⊕ St := if (tk s.1).1 = 1 then sR2 (V ((tk s.1).2.1, s.2)) (tk s.1).2.2 else .inl (.inr (sk t s.1, s.2))
def tlS' (t : Tp) (V : St → Nat ⊕ St) (tk : Nat → Nat × Nat × Int32) : St → Nat ⊕ St := glS t.1 (tlB t V tk)
def slB (t : Tp) (V : St → Nat ⊕ St) (tk : Nat → Nat × Nat × Int32) (s : St) : (Nat ⊕ St) ⊕ St := if (tk s.1).1 = 2 then sR2 (sB (V ((tk s.1).2.1, s.2)) (tlS' t V tk)) (tk s.1).2.2 else .inl (.inr (sk t s.1, s.2))
def slS' (t : Tp) (V : St → Nat ⊕ St) (tk : Nat → Nat × Nat × Int32) : St → Nat ⊕ St := glS t.1 (slB t V tk)
def suS (t : Tp) (V : St → Nat ⊕ St) (tk : Nat → Nat × Nat × Int32) (s : St) : Nat ⊕ St := sB (sB (V s) (tlS' t V tk)) (slS' t V tk)
theorem sR2_inr {x : Nat ⊕ St} {c : Int32} {s : St} (h : sR2 x c = .inr s) : ∃ s1, x = .inr s1 ∧ s = adS s1 c := by
  cases x with
  | inl f => cases h
  | inr a => injection h with h; exact ⟨a, rfl, h.symm⟩
theorem tl_B {t : Tp} {b : Bool} {V : St → Nat ⊕ St} {tk : Nat → Nat × Nat × Int32} (hV : VOk t b V) (hK : TkOk t b tk) : BOk t.1 (tlB t V tk) := by
  intro s s' h1 h2 h
  unfold tlB at h
  by_cases c : (tk s.1).1 = 1
  · rw [if_pos c] at h
    obtain ⟨s1, e1, e2⟩ := sR2_inr h
    obtain ⟨k1, k2, _⟩ := (hK s.1 h1).1 (by omega)
    have g := (hV ((tk s.1).2.1, s.2) k2 h2).1 s1 e1
    have := g.lt
    have h3 : (tk s.1).2.1 < s1.1 := this
    have := sk_le h1
    rw [e2]
    exact ⟨by show s.1 < s1.1; omega, g.1, g.2.1⟩
  · rw [if_neg c] at h; cases h
theorem tl_1 {t : Tp} {b : Bool} {V : St → Nat ⊕ St} {tk : Nat → Nat × Nat × Int32} (hV : VOk t b V) (hK : TkOk t b tk) {s : St} (h1 : s.1 ≤ t.1) (h2 : s.2.1 ≤ 60) (h : (tk s.1).1 = 1) : tlS' t V tk s = sB (V ((tk s.1).2.1, s.2)) (fun s' => tlS' t V tk (adS s' (tk s.1).2.2)) := by
  cases hq : V ((tk s.1).2.1, s.2) with
  | inl f =>
    show glS _ _ s = .inl f
    exact gl_l h1 (by unfold tlB; rw [if_pos h, hq]; rfl)
  | inr s1 =>
    show glS _ _ s = glS _ _ (adS s1 _)
    exact gl_r (tl_B hV hK) h1 h2 (by unfold tlB; rw [if_pos h, hq]; rfl)
theorem tl_0 {t : Tp} {V : St → Nat ⊕ St} {tk : Nat → Nat × Nat × Int32} {s : St} (h1 : s.1 ≤ t.1) (h : ¬ (tk s.1).1 = 1) : tlS' t V tk s = .inr (sk t s.1, s.2) := gl_l h1 (by unfold tlB; rw [if_neg h])
theorem tl_okk {t : Tp} {b : Bool} {V : St → Nat ⊕ St} {tk : Nat → Nat × Nat × Int32} (hV : VOk t b V) (hK : TkOk t b tk) : ∀ k s, t.1 - s.1 ≤ k → s.1 ≤ t.1 → s.2.1 ≤ 60 → (∀ s', tlS' t V tk s = .inr s' → G t [b] [b] s s') ∧ ∀ f, tlS' t V tk s = .inl f → FB f := by
  intro k
  induction k with
  | zero =>
    intro s hk h1 h2
    have e : s.1 = t.1 := by omega
    have hs := sk_le h1
    have c : ¬ (tk s.1).1 = 1 := fun c => by
      obtain ⟨k1, k2, _⟩ := (hK s.1 h1).1 (by omega)
      omega
    rw [tl_0 h1 c]
    exact ⟨fun s' h => by injection h with h; rw [← h]; exact G.to hs.1 hs.2 (Nat.le_refl _) h2, fun f h => by cases h⟩
  | succ k ih =>
    intro s hk h1 h2
    have hs := sk_le h1
    by_cases c : (tk s.1).1 = 1
    · obtain ⟨k1, k2, k3, k4, k5⟩ := (hK s.1 h1).1 (by omega)
      have hv := hV ((tk s.1).2.1, s.2) k2 h2
      rw [tl_1 hV hK h1 h2 c]
      cases hq : V ((tk s.1).2.1, s.2) with
      | inl f0 => exact ⟨fun s' h => (by cases h), fun f h => by injection h with h; rw [← h]; exact hv.2 f0 hq⟩
      | inr s1 =>
        have g := hv.1 s1 hq
        have h3 : (tk s.1).2.1 < s1.1 := g.lt
        have g2 : G t [b] [b] s (adS s1 (tk s.1).2.2) := G.op (by omega) (g.ext [b]) k3 k4 k5
        have := ih (adS s1 (tk s.1).2.2) (by show t.1 - s1.1 ≤ k; omega) g.1 g.2.1
        exact ⟨fun s' h => g2.trans (this.1 s' h), fun f h => this.2 f h⟩
    · rw [tl_0 h1 c]
      exact ⟨fun s' h => by injection h with h; rw [← h]; exact G.to hs.1 hs.2 (Nat.le_refl _) h2, fun f h => by cases h⟩
theorem vt_ok {t : Tp} {b : Bool} {V : St → Nat ⊕ St} {tk : Nat → Nat × Nat × Int32} (hV : VOk t b V) (hK : TkOk t b tk) : VOk t b (fun s => sB (V s) (tlS' t V tk)) := by
  intro s h1 h2
  refine ⟨fun s' h => ?_, fun f h => ?_⟩
  · obtain ⟨s1, e1, e2⟩ := sB_inr h
    have g := (hV s h1 h2).1 s1 e1
    exact g.trans ((tl_okk hV hK _ s1 (Nat.le_refl _) g.1 g.2.1).1 s' e2)
  · rcases sB_inl h with h | ⟨s1, e1, e2⟩
    · exact (hV s h1 h2).2 f h
    · have g := (hV s h1 h2).1 s1 e1
      exact (tl_okk hV hK _ s1 (Nat.le_refl _) g.1 g.2.1).2 f e2
theorem sl_B {t : Tp} {b : Bool} {V : St → Nat ⊕ St} {tk : Nat → Nat × Nat × Int32} (hV : VOk t b V) (hK : TkOk t b tk) : BOk t.1 (slB t V tk) := by
  intro s s' h1 h2 h
  unfold slB at h
  by_cases c : (tk s.1).1 = 2
  · rw [if_pos c] at h
    obtain ⟨s1, e1, e2⟩ := sR2_inr h
    obtain ⟨k1, k2, _⟩ := (hK s.1 h1).1 (by omega)
    have g := (vt_ok hV hK ((tk s.1).2.1, s.2) k2 h2).1 s1 e1
    have h3 : (tk s.1).2.1 < s1.1 := g.lt
    have := sk_le h1
    rw [e2]
    exact ⟨by show s.1 < s1.1; omega, g.1, g.2.1⟩
  · rw [if_neg c] at h; cases h
theorem sl_2 {t : Tp} {b : Bool} {V : St → Nat ⊕ St} {tk : Nat → Nat × Nat × Int32} (hV : VOk t b V) (hK : TkOk t b tk) {s : St} (h1 : s.1 ≤ t.1) (h2 : s.2.1 ≤ 60) (h : (tk s.1).1 = 2) : slS' t V tk s = sB (sB (V ((tk s.1).2.1, s.2)) (tlS' t V tk)) (fun s' => slS' t V tk (adS s' (tk s.1).2.2)) := by
  cases hq : sB (V ((tk s.1).2.1, s.2)) (tlS' t V tk) with
  | inl f =>
    show glS _ _ s = .inl f
    exact gl_l h1 (by unfold slB; rw [if_pos h, hq]; rfl)
  | inr s1 =>
    show glS _ _ s = glS _ _ (adS s1 _)
    exact gl_r (sl_B hV hK) h1 h2 (by unfold slB; rw [if_pos h, hq]; rfl)
theorem sl_0 {t : Tp} {V : St → Nat ⊕ St} {tk : Nat → Nat × Nat × Int32} {s : St} (h1 : s.1 ≤ t.1) (h : ¬ (tk s.1).1 = 2) : slS' t V tk s = .inr (sk t s.1, s.2) := gl_l h1 (by unfold slB; rw [if_neg h])
theorem sl_okk {t : Tp} {b : Bool} {V : St → Nat ⊕ St} {tk : Nat → Nat × Nat × Int32} (hV : VOk t b V) (hK : TkOk t b tk) : ∀ k s, t.1 - s.1 ≤ k → s.1 ≤ t.1 → s.2.1 ≤ 60 → (∀ s', slS' t V tk s = .inr s' → G t [b] [b] s s') ∧ ∀ f, slS' t V tk s = .inl f → FB f := by
  intro k
  induction k with
  | zero =>
    intro s hk h1 h2
    have e : s.1 = t.1 := by omega
    have hs := sk_le h1
    have c : ¬ (tk s.1).1 = 2 := fun c => by
      obtain ⟨k1, k2, _⟩ := (hK s.1 h1).1 (by omega)
      omega
    rw [sl_0 h1 c]
    exact ⟨fun s' h => by injection h with h; rw [← h]; exact G.to hs.1 hs.2 (Nat.le_refl _) h2, fun f h => by cases h⟩
  | succ k ih =>
    intro s hk h1 h2
    have hs := sk_le h1
    by_cases c : (tk s.1).1 = 2
    · obtain ⟨k1, k2, k3, k4, k5⟩ := (hK s.1 h1).1 (by omega)
      have hv := vt_ok hV hK ((tk s.1).2.1, s.2) k2 h2
      rw [sl_2 hV hK h1 h2 c]
      cases hq : sB (V ((tk s.1).2.1, s.2)) (tlS' t V tk) with
      | inl f0 => exact ⟨fun s' h => (by cases h), fun f h => by injection h with h; rw [← h]; exact hv.2 f0 hq⟩
      | inr s1 =>
        have g := hv.1 s1 hq
        have h3 : (tk s.1).2.1 < s1.1 := g.lt
        have g2 : G t [b] [b] s (adS s1 (tk s.1).2.2) := G.op (by omega) (g.ext [b]) k3 k4 k5
        have := ih (adS s1 (tk s.1).2.2) (by show t.1 - s1.1 ≤ k; omega) g.1 g.2.1
        exact ⟨fun s' h => g2.trans (this.1 s' h), fun f h => this.2 f h⟩
    · rw [sl_0 h1 c]
      exact ⟨fun s' h => by injection h with h; rw [← h]; exact G.to hs.1 hs.2 (Nat.le_refl _) h2, fun f h => by cases h⟩
theorem su_ok {t : Tp} {b : Bool} {V : St → Nat ⊕ St} {tk : Nat → Nat × Nat × Int32} (hV : VOk t b V) (hK : TkOk t b tk) : VOk t b (suS t V tk) := by
  intro s h1 h2
  refine ⟨fun s' h => ?_, fun f h => ?_⟩
  · obtain ⟨s1, e1, e2⟩ := sB_inr h
    have g := (vt_ok hV hK s h1 h2).1 s1 e1
    exact g.trans ((sl_okk hV hK _ s1 (Nat.le_refl _) g.1 g.2.1).1 s' e2)
  · rcases sB_inl h with h | ⟨s1, e1, e2⟩
    · exact (vt_ok hV hK s h1 h2).2 f h
    · have g := (vt_ok hV hK s h1 h2).1 s1 e1
      exact (sl_okk hV hK _ s1 (Nat.le_refl _) g.1 g.2.1).2 f e2
