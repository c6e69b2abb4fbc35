/-! ===== what the text of a dale says ===== -/
def sB {α β : Type} (x : Nat ⊕ α) (f : α → Nat ⊕ β) : Nat ⊕ β := match x with
  | .inl e => .inl e
  | .inr a => f a
def orB (b : Ar) (i j : Nat) : Ar := upd b i (b i ||| ((1 : Int32) <<< (nI j &&& 31)))
def clD (t : Tp) (j e : Nat) (d : Dl) : Nat ⊕ (Nat × Dl) :=
  if j = 0 then sB (nuS t e 0 10) (fun q => sB (nuS t q.1 1 100) (fun r => .inr (r.1, (upd (upd (upd d.1 1 (nI q.2)) 2 (nI r.2)) 0 1, d.2))))
  else if j = 1 then sB (nuS t e 1 61) (fun q => sB (nuS t q.1 0 21) (fun r => .inr (r.1, (upd d.1 3 (nI (kn d + 1)), upd d.2.1 (kn d) (nI q.2), upd d.2.2.1 (kn d) (nI r.2), d.2.2.2))))
  else if j = 2 then sB (nuS t e 0 (kn d)) (fun q => sB (nuS t q.1 0 10) (fun r => .inr (r.1, (upd d.1 4 (nI (pn d + 1)), d.2.1, d.2.2.1, d.2.2.2.1, upd d.2.2.2.2.1 (pn d) (nI q.2), upd d.2.2.2.2.2.1 (pn d) (nI r.2), d.2.2.2.2.2.2))))
  else if j = 3 then sB (nuS t e 0 61) (fun q => .inr (q.1, (upd d.1 5 (nI (fn d + 1)), d.2.1, d.2.2.1, d.2.2.2.1, d.2.2.2.2.1, d.2.2.2.2.2.1, upd d.2.2.2.2.2.2 (fn d) (nI q.2))))
  else sB (nuS t e 0 (kn d)) (fun q => sB (nuS t q.1 0 (kn d)) (fun r => if q.2 = r.2 then .inl (1 + 8 * sk t q.1 + 1) else .inr (r.1, (d.1, d.2.1, d.2.2.1, orB (orB d.2.2.2.1 q.2 r.2) r.2 q.2, d.2.2.2.2))))
def badD (n j : Nat) (d : Dl) : Prop := 40 ≤ n ∨ ¬ (n = 0 ↔ j = 0) ∨ (j = 1 ∧ 6 ≤ kn d) ∨ (j = 2 ∧ 5 ≤ pn d) ∨ (j = 3 ∧ 4 ≤ fn d)
noncomputable def cauS (t : Tp) (p n : Nat) (d : Dl) : Nat ⊕ (Nat × Dl) := match fdW (lW 0) (wrd t (sk t p)) with
  | none => .inl (1 + 8 * sk t p)
  | some j => by classical exact if badD n j d then .inl (1 + 8 * sk t p + 4) else clD t j (le t (sk t p)) d
noncomputable def rdS (t : Tp) : Nat → Nat → Nat → Dl → Nat ⊕ Dl
  | 0, _, _, _ => .inl 0
  | m + 1, n, p, d => sB (cauS t p n d) (fun q => if sk t q.1 = t.1 then .inr q.2 else if t.2 (sk t q.1) = 59 then rdS t m (n + 1) (sk t q.1 + 1) q.2 else .inl (1 + 8 * sk t q.1))
def dal0 : Dl := (fun _ => 0, fun _ => 0, fun _ => 0, fun _ => 0, fun _ => 0, fun _ => 0, fun _ => 0)
/-- a dale of which n clauses are read -/
def DI (n : Nat) (d : Dl) : Prop := DOk d ∧ (d.1 0 = if n = 0 then 0 else 1) ∧ (n ≠ 0 → ¬ d.1 2 = 0) ∧ (n = 0 → kn d = 0 ∧ pn d = 0 ∧ fn d = 0)
theorem DI0 : DI 0 dal0 := by
  have hk : kn dal0 = 0 := rfl
  have hp : pn dal0 = 0 := rfl
  have hf : fn dal0 = 0 := rfl
  refine ⟨⟨⟨rfl, by rw [hk]; omega⟩, ⟨rfl, by rw [hp]; omega⟩, ⟨rfl, by rw [hf]; omega⟩, fun p h => absurd h (by omega), ⟨0, by omega, rfl⟩, ⟨0, by omega, rfl⟩, fun h => absurd h (by omega), fun k h => absurd h (by omega), fun f h => absurd h (by omega), fun k _ => ⟨0, by omega, rfl⟩⟩, rfl, fun h => absurd rfl h, fun _ => ⟨hk, hp, hf⟩⟩
theorem nu_ok {t : Tp} {p lo hi e v : Nat} (h : nuS t p lo hi = .inr (e, v)) : lo ≤ v ∧ v < hi ∧ e = dg t (sk t p) ∧ sk t p < e := by
  unfold nuS at h
  by_cases h1 : dg t (sk t p) = sk t p
  · rw [if_pos h1] at h; cases h
  · rw [if_neg h1] at h
    by_cases h2 : dg t (sk t p) - sk t p ≤ 5 ∧ lo ≤ nvS t (sk t p) ∧ nvS t (sk t p) < hi
    · rw [if_pos h2] at h
      injection h with h
      injection h with h3 h4
      refine ⟨by omega, by omega, h3.symm, ?_⟩
      have : sk t p ≤ dg t (sk t p) := (rnN_le (P := fun i => isD (t.2 i)) (t.1 - sk t p) (sk t p)).1
      omega
    · rw [if_neg h2] at h; cases h
theorem or_bit : ∀ a : Fin 64, ∀ j : Fin 6, ∃ b : Fin 64, nI a.val ||| ((1 : Int32) <<< (nI j.val &&& 31)) = nI b.val := by decide +kernel
theorem orB_in {b : Ar} {i j k : Nat} (hj : j < 6) (h : ∀ k, k < 6 → In 63 (b k)) (hk : k < 6) : In 63 (orB b i j k) := by
  unfold orB
  by_cases e : k = i
  · subst e
    rw [pk_us]
    obtain ⟨m, hm, em⟩ := h k hk
    rw [em]
    obtain ⟨x, hx⟩ := or_bit ⟨m, by omega⟩ ⟨j, hj⟩
    exact ⟨x.val, by omega, hx⟩
  · rw [pk_un e]; exact h k hk
theorem cl_ok {t : Tp} {n j e p' : Nat} {d d' : Dl} (hI : DI n d) (hb : ¬ badD n j d) (h : clD t j e d = .inr (p', d')) : DI (n + 1) d' := by
  obtain ⟨hD, h0, h2, h3⟩ := hI
  obtain ⟨⟨k1, k2⟩, ⟨k3, k4⟩, ⟨k5, k6⟩, k7, k8, k9, k10, k11, k12, k13⟩ := hD
  unfold badD at hb
  have one0 : ∀ x : Int32, (x = if n + 1 = 0 then 0 else 1) = (x = 1) := fun x => by rw [if_neg (by omega)]
  unfold clD at h
  by_cases j0 : j = 0
  · have hn : n = 0 := by
      rcases Nat.eq_zero_or_pos n with q | q
      · exact q
      · exact absurd (Or.inr (Or.inl (fun z => by have := z.mpr j0; omega))) hb
    obtain ⟨z1, z2, z3⟩ := h3 hn
    rw [if_pos j0] at h
    cases hq : nuS t e 0 10 with
    | inl f => rw [hq] at h; cases h
    | inr q =>
      rw [hq] at h
      obtain ⟨p1, v⟩ := q
      have h : sB (nuS t p1 1 100) _ = _ := h
      cases hr : nuS t p1 1 100 with
      | inl f => rw [hr] at h; cases h
      | inr r =>
        rw [hr] at h
        obtain ⟨p2, u⟩ := r
        have hv := nu_ok hq
        have hu := nu_ok hr
        injection h with h
        injection h with _ h
        subst h
        (try dsimp only)
        have e3 : kn (upd (upd (upd d.1 1 (nI v)) 2 (nI u)) 0 1, d.2) = kn d := by unfold kn; dsimp only; rw [pk_un (by omega), pk_un (by omega), pk_un (by omega)]
        have e4 : pn (upd (upd (upd d.1 1 (nI v)) 2 (nI u)) 0 1, d.2) = pn d := by unfold pn; dsimp only; rw [pk_un (by omega), pk_un (by omega), pk_un (by omega)]
        have e5 : fn (upd (upd (upd d.1 1 (nI v)) 2 (nI u)) 0 1, d.2) = fn d := by unfold fn; dsimp only; rw [pk_un (by omega), pk_un (by omega), pk_un (by omega)]
        have g2 : upd (upd (upd d.1 1 (nI v)) 2 (nI u)) 0 1 2 = nI u := by rw [pk_un (by omega), pk_us]
        have g2n : ¬ upd (upd (upd d.1 1 (nI v)) 2 (nI u)) 0 1 2 = 0 := by
          rw [g2]
          intro z
          have := (nI_eq (a := u) (b := 0) (by omega) (by omega)).mp z
          omega
        refine ⟨⟨⟨?_, by rw [e3]; exact k2⟩, ⟨?_, by rw [e4]; exact k4⟩, ⟨?_, by rw [e5]; exact k6⟩, fun p hp => absurd hp (by rw [e4]; omega), ?_, ?_, fun _ => g2n, fun k hk => absurd hk (by rw [e3]; omega), fun f hf => absurd hf (by rw [e5]; omega), k13⟩, ?_, fun _ => g2n, fun q => absurd q (by omega)⟩
        · rw [e3]; dsimp only; rw [pk_un (by omega), pk_un (by omega), pk_un (by omega)]; exact k1
        · rw [e4]; dsimp only; rw [pk_un (by omega), pk_un (by omega), pk_un (by omega)]; exact k3
        · rw [e5]; dsimp only; rw [pk_un (by omega), pk_un (by omega), pk_un (by omega)]; exact k5
        · dsimp only; rw [pk_un (by omega), pk_un (by omega), pk_us]; exact ⟨v, by omega, rfl⟩
        · dsimp only; rw [g2]; exact ⟨u, by omega, rfl⟩
        · rw [one0]; (dsimp only; exact pk_us)
  · rw [if_neg j0] at h
    have hn : n ≠ 0 := fun q => hb (Or.inr (Or.inl (fun z => j0 (z.mp q))))
    have hot := h2 hn
    have t1 : d.1 0 = 1 := by rw [h0, if_neg hn]
    by_cases j1 : j = 1
    · have hk6 : kn d < 6 := by
        rcases Nat.lt_or_ge (kn d) 6 with q | q
        · exact q
        · exact absurd (Or.inr (Or.inr (Or.inl ⟨j1, q⟩))) hb
      rw [if_pos j1] at h
      cases hq : nuS t e 1 61 with
      | inl f => rw [hq] at h; cases h
      | inr q =>
        rw [hq] at h
        obtain ⟨p1, v⟩ := q
        have h : sB (nuS t p1 0 21) _ = _ := h
        cases hr : nuS t p1 0 21 with
        | inl f => rw [hr] at h; cases h
        | inr r =>
          rw [hr] at h
          obtain ⟨p2, u⟩ := r
          have hv := nu_ok hq
          have hu := nu_ok hr
          injection h with h
          injection h with _ h
          subst h
          (try dsimp only)
          have e3 : kn (upd d.1 3 (nI (kn d + 1)), upd d.2.1 (kn d) (nI v), upd d.2.2.1 (kn d) (nI u), d.2.2.2) = kn d + 1 := by
            show (upd d.1 3 (nI (kn d + 1)) 3).toNatClampNeg = _
            rw [pk_us, cl (by omega)]
          have e4 : pn (upd d.1 3 (nI (kn d + 1)), upd d.2.1 (kn d) (nI v), upd d.2.2.1 (kn d) (nI u), d.2.2.2) = pn d := by unfold pn; dsimp only; rw [pk_un (by omega)]
          have e5 : fn (upd d.1 3 (nI (kn d + 1)), upd d.2.1 (kn d) (nI v), upd d.2.2.1 (kn d) (nI u), d.2.2.2) = fn d := by unfold fn; dsimp only; rw [pk_un (by omega)]
          refine ⟨⟨⟨by rw [e3]; (dsimp only; exact pk_us), by rw [e3]; omega⟩, ⟨by rw [e4]; dsimp only; rw [pk_un (by omega)]; exact k3, by rw [e4]; exact k4⟩, ⟨by rw [e5]; dsimp only; rw [pk_un (by omega)]; exact k5, by rw [e5]; exact k6⟩, fun p hp => ?_, by dsimp only; rw [pk_un (by omega)]; exact k8, by dsimp only; rw [pk_un (by omega)]; exact k9, fun _ => by dsimp only; rw [pk_un (by omega)]; exact hot, fun k hk => ?_, fun f hf => k12 f (by rw [e5] at hf; exact hf), k13⟩, by rw [one0]; dsimp only; rw [pk_un (by omega)]; exact t1, fun _ => by dsimp only; rw [pk_un (by omega)]; exact hot, fun q => absurd q (by omega)⟩
          · rw [e4] at hp
            obtain ⟨a1, a2, a3⟩ := k7 p hp
            exact ⟨a1, by rw [e3]; exact Nat.lt_succ_of_lt a2, a3⟩
          · rw [e3] at hk
            dsimp only
            by_cases c : k = kn d
            · rw [c, pk_us, pk_us]; exact ⟨⟨v, by omega, rfl⟩, ⟨u, by omega, rfl⟩⟩
            · rw [pk_un c, pk_un c]; exact k11 k (by omega)
    · rw [if_neg j1] at h
      by_cases j2 : j = 2
      · have hp5 : pn d < 5 := by
          rcases Nat.lt_or_ge (pn d) 5 with q | q
          · exact q
          · exact absurd (Or.inr (Or.inr (Or.inr (Or.inl ⟨j2, q⟩)))) hb
        rw [if_pos j2] at h
        cases hq : nuS t e 0 (kn d) with
        | inl f => rw [hq] at h; cases h
        | inr q =>
          rw [hq] at h
          obtain ⟨p1, v⟩ := q
          have h : sB (nuS t p1 0 10) _ = _ := h
          cases hr : nuS t p1 0 10 with
          | inl f => rw [hr] at h; cases h
          | inr r =>
            rw [hr] at h
            obtain ⟨p2, u⟩ := r
            have hv := nu_ok hq
            have hu := nu_ok hr
            injection h with h
            injection h with _ h
            subst h
            (try dsimp only)
            have e3 : kn (upd d.1 4 (nI (pn d + 1)), d.2.1, d.2.2.1, d.2.2.2.1, upd d.2.2.2.2.1 (pn d) (nI v), upd d.2.2.2.2.2.1 (pn d) (nI u), d.2.2.2.2.2.2) = kn d := by unfold kn; dsimp only; rw [pk_un (by omega)]
            have e4 : pn (upd d.1 4 (nI (pn d + 1)), d.2.1, d.2.2.1, d.2.2.2.1, upd d.2.2.2.2.1 (pn d) (nI v), upd d.2.2.2.2.2.1 (pn d) (nI u), d.2.2.2.2.2.2) = pn d + 1 := by
              show (upd d.1 4 (nI (pn d + 1)) 4).toNatClampNeg = _
              rw [pk_us, cl (by omega)]
            have e5 : fn (upd d.1 4 (nI (pn d + 1)), d.2.1, d.2.2.1, d.2.2.2.1, upd d.2.2.2.2.1 (pn d) (nI v), upd d.2.2.2.2.2.1 (pn d) (nI u), d.2.2.2.2.2.2) = fn d := by unfold fn; dsimp only; rw [pk_un (by omega)]
            refine ⟨⟨⟨by rw [e3]; dsimp only; rw [pk_un (by omega)]; exact k1, by rw [e3]; exact k2⟩, ⟨by rw [e4]; (dsimp only; exact pk_us), by rw [e4]; omega⟩, ⟨by rw [e5]; dsimp only; rw [pk_un (by omega)]; exact k5, by rw [e5]; exact k6⟩, fun p hp => ?_, by dsimp only; rw [pk_un (by omega)]; exact k8, by dsimp only; rw [pk_un (by omega)]; exact k9, fun _ => by dsimp only; rw [pk_un (by omega)]; exact hot, fun k hk => k11 k (by rw [e3] at hk; exact hk), fun f hf => k12 f (by rw [e5] at hf; exact hf), k13⟩, by rw [one0]; dsimp only; rw [pk_un (by omega)]; exact t1, fun _ => by dsimp only; rw [pk_un (by omega)]; exact hot, fun q => absurd q (by omega)⟩
            rw [e4] at hp
            rw [e3]
            unfold own
            dsimp only
            by_cases c : p = pn d
            · rw [c, pk_us, pk_us, cl (by omega)]; exact ⟨rfl, by omega, ⟨u, by omega, rfl⟩⟩
            · rw [pk_un c, pk_un c]; exact k7 p (by omega)
      · rw [if_neg j2] at h
        by_cases j3 : j = 3
        · have hf4 : fn d < 4 := by
            rcases Nat.lt_or_ge (fn d) 4 with q | q
            · exact q
            · exact absurd (Or.inr (Or.inr (Or.inr (Or.inr ⟨j3, q⟩)))) hb
          rw [if_pos j3] at h
          cases hq : nuS t e 0 61 with
          | inl f => rw [hq] at h; cases h
          | inr q =>
            rw [hq] at h
            obtain ⟨p1, v⟩ := q
            have hv := nu_ok hq
            injection h with h
            injection h with _ h
            subst h
            (try dsimp only)
            have e3 : kn (upd d.1 5 (nI (fn d + 1)), d.2.1, d.2.2.1, d.2.2.2.1, d.2.2.2.2.1, d.2.2.2.2.2.1, upd d.2.2.2.2.2.2 (fn d) (nI v)) = kn d := by unfold kn; dsimp only; rw [pk_un (by omega)]
            have e4 : pn (upd d.1 5 (nI (fn d + 1)), d.2.1, d.2.2.1, d.2.2.2.1, d.2.2.2.2.1, d.2.2.2.2.2.1, upd d.2.2.2.2.2.2 (fn d) (nI v)) = pn d := by unfold pn; dsimp only; rw [pk_un (by omega)]
            have e5 : fn (upd d.1 5 (nI (fn d + 1)), d.2.1, d.2.2.1, d.2.2.2.1, d.2.2.2.2.1, d.2.2.2.2.2.1, upd d.2.2.2.2.2.2 (fn d) (nI v)) = fn d + 1 := by
              show (upd d.1 5 (nI (fn d + 1)) 5).toNatClampNeg = _
              rw [pk_us, cl (by omega)]
            refine ⟨⟨⟨by rw [e3]; dsimp only; rw [pk_un (by omega)]; exact k1, by rw [e3]; exact k2⟩, ⟨by rw [e4]; dsimp only; rw [pk_un (by omega)]; exact k3, by rw [e4]; exact k4⟩, ⟨by rw [e5]; (dsimp only; exact pk_us), by rw [e5]; omega⟩, fun p hp => ?_, by dsimp only; rw [pk_un (by omega)]; exact k8, by dsimp only; rw [pk_un (by omega)]; exact k9, fun _ => by dsimp only; rw [pk_un (by omega)]; exact hot, fun k hk => k11 k (by rw [e3] at hk; exact hk), fun f hf => ?_, k13⟩, by rw [one0]; dsimp only; rw [pk_un (by omega)]; exact t1, fun _ => by dsimp only; rw [pk_un (by omega)]; exact hot, fun q => absurd q (by omega)⟩
            · rw [e4] at hp
              rw [e3]
              exact k7 p hp
            · rw [e5] at hf
              dsimp only
              by_cases c : f = fn d
              · rw [c, pk_us]; exact ⟨v, by omega, rfl⟩
              · rw [pk_un c]; exact k12 f (by omega)
        · rw [if_neg j3] at h
          cases hq : nuS t e 0 (kn d) with
          | inl f => rw [hq] at h; cases h
          | inr q =>
            rw [hq] at h
            obtain ⟨p1, v⟩ := q
            have h : sB (nuS t p1 0 (kn d)) _ = _ := h
            cases hr : nuS t p1 0 (kn d) with
            | inl f => rw [hr] at h; cases h
            | inr r =>
              rw [hr] at h
              obtain ⟨p2, u⟩ := r
              have hv := nu_ok hq
              have hu := nu_ok hr
              have h : (if v = u then _ else _) = _ := h
              by_cases c : v = u
              · rw [if_pos c] at h; cases h
              · rw [if_neg c] at h
                injection h with h
                injection h with _ h
                subst h
                exact ⟨⟨⟨k1, k2⟩, ⟨k3, k4⟩, ⟨k5, k6⟩, k7, k8, k9, k10, k11, k12, fun k hk => orB_in (by omega) (fun k hk => orB_in (by omega) k13 hk) hk⟩, by rw [one0]; exact t1, fun _ => hot, fun q => absurd q (by omega)⟩
