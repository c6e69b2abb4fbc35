/-! ===== where they had best be carried: reckoned from the last, and one by one ===== -/
def koN (d : Dl) (s : Sc) (k f : Nat) : Nat := (koS d s k f).toNatClampNeg
theorem ko_nI {d : Dl} (hD : DOk d) {s : Sc} (hS : SOk d s) {k f : Nat} (hk : k < kn d) (hf : f < fn d) : koS d s k f = nI (koN d s k f) ∧ koN d s k f ≤ 60 := by
  have h6 := hD.1.2
  obtain ⟨a, ha, ea⟩ := (hS k (by omega)).1
  obtain ⟨c, hc, ec⟩ := hD.2.2.2.2.2.2.2.2.1 f hf
  have : koS d s k f = nI (min c a) := by
    unfold koS
    rw [ea, ec, fill_nI (by omega) (by omega)]
  unfold koN
  rw [this, cl (by omega)]
  exact ⟨rfl, by omega⟩
def alw (s : Sc) (k S f : Nat) : Bool := decide (s.2.2.2.1 k = -1) && decide (S / 2 ^ f % 2 = 0)
/-- what the last n can keep off (eight each, less one for each carried), and whither the first of them goes -/
def trk (d : Dl) (s : Sc) : Nat → Nat → Nat → Nat × Nat
  | 0, _, _ => (0, 0)
  | n + 1, k, S => itr (fun f (a : Nat × Nat) => bif alw s k S f && decide (a.1 + 1 < (trk d s n (k + 1) (S ||| 2 ^ f)).1 + 8 * koN d s k f) then ((trk d s n (k + 1) (S ||| 2 ^ f)).1 + 8 * koN d s k f - 1, f + 1) else a) 0 (fn d) ((trk d s n (k + 1) S).1, 0)
def nxt (S c : Nat) : Nat := if c = 0 then S else S ||| 2 ^ (c - 1)
def ext (d : Dl) (s : Sc) : Nat → Nat → Nat → (Nat → Nat) → (Nat → Nat)
  | 0, _, _, g => g
  | n + 1, k, S, g => ext d s n (k + 1) (nxt S (trk d s (n + 1) k S).2) (updN g k (trk d s (n + 1) k S).2)
/-- the first k of a way: which fields are taken, how much is kept off, how many are carried -/
def pvS (d : Dl) (s : Sc) (T : Nat) (g : Nat → Nat) : Nat → Option (Nat × Nat × Nat)
  | 0 => some (T, 0, 0)
  | k + 1 => (pvS d s T g k).bind (fun a => if g k = 0 then some a else bif alw s k a.1 (g k - 1) then some (a.1 ||| 2 ^ (g k - 1), a.2.1 + koN d s k (g k - 1), a.2.2 + 1) else none)
theorem pv_congr {d : Dl} {s : Sc} {T : Nat} {g g' : Nat → Nat} : ∀ (k : Nat), (∀ j, j < k → g j = g' j) → pvS d s T g k = pvS d s T g' k := by
  intro k
  induction k with
  | zero => intro _; rfl
  | succ k ih =>
    intro h
    show (pvS d s T g k).bind _ = (pvS d s T g' k).bind _
    rw [ih (fun j hj => h j (by omega)), h k (by omega)]
theorem pv_upd {d : Dl} {s : Sc} {T : Nat} {g : Nat → Nat} {k c : Nat} : pvS d s T (updN g k c) (k + 1) = (pvS d s T g k).bind (fun a => if c = 0 then some a else bif alw s k a.1 (c - 1) then some (a.1 ||| 2 ^ (c - 1), a.2.1 + koN d s k (c - 1), a.2.2 + 1) else none) := by
  show (pvS d s T (updN g k c) k).bind _ = _
  rw [pv_congr (g' := g) k (fun j hj => updN_n (by omega)), updN_s]
/-- much and many of the one are better than those of the other -/
def btr (x b : Nat × Nat) : Bool := decide (b.1 < x.1 ∨ (x.1 = b.1 ∧ x.2 < b.2))
theorem btr_iff {x b : Nat × Nat} (hx : x.2 ≤ 7) (hb : b.2 ≤ 7) : btr x b = true ↔ 8 * b.1 + x.2 < 8 * x.1 + b.2 := by
  unfold btr
  rw [decide_eq_true_eq]
  omega
abbrev Bs : Type := Nat × Nat × (Nat → Nat)
def prS (d : Dl) (s : Sc) (T k : Nat) (g : Nat → Nat) (b : Bs) : Bs := match pvS d s T g k with
  | some a => bif btr a.2 (b.1, b.2.1) then (a.2.1, a.2.2, g) else b
  | none => b
def fS (d : Dl) (s : Sc) (T : Nat) : Nat → Nat → (Nat → Nat) → Bs → Bs
  | 0, k, g, b => prS d s T k g b
  | n + 1, k, g, b => itr (fun c b => fS d s T n (k + 1) (updN g k c) b) 0 (fn d + 1) b
theorem f_none {d : Dl} {s : Sc} {T : Nat} : ∀ (n k : Nat) (g : Nat → Nat) (b : Bs), pvS d s T g k = none → fS d s T n k g b = b := by
  intro n
  induction n with
  | zero =>
    intro k g b h
    show prS d s T k g b = b
    unfold prS
    rw [h]
  | succ n ih =>
    intro k g b h
    show itr _ 0 (fn d + 1) b = b
    apply itr_id
    intro c _ _
    apply ih
    rw [pv_upd, h]
    rfl
/-- the tracked pair, a field more -/
def tr1 (d : Dl) (s : Sc) (n k S m : Nat) : Nat × Nat := itr (fun f (a : Nat × Nat) => bif alw s k S f && decide (a.1 + 1 < (trk d s n (k + 1) (S ||| 2 ^ f)).1 + 8 * koN d s k f) then ((trk d s n (k + 1) (S ||| 2 ^ f)).1 + 8 * koN d s k f - 1, f + 1) else a) 0 m ((trk d s n (k + 1) S).1, 0)
theorem tr1_s {d : Dl} {s : Sc} {n k S m : Nat} : tr1 d s n k S (m + 1) = bif alw s k S m && decide ((tr1 d s n k S m).1 + 1 < (trk d s n (k + 1) (S ||| 2 ^ m)).1 + 8 * koN d s k m) then ((trk d s n (k + 1) (S ||| 2 ^ m)).1 + 8 * koN d s k m - 1, m + 1) else tr1 d s n k S m := by
  unfold tr1
  rw [itr_succ, Nat.zero_add]
theorem f_some {d : Dl} {s : Sc} {T : Nat} : ∀ (n k : Nat) (g : Nat → Nat) (S mu ma : Nat), pvS d s T g k = some (S, mu, ma) → ma ≤ k → k + n ≤ 6 →
    ∃ mu' ma', (∃ S', pvS d s T (ext d s n k S g) (k + n) = some (S', mu', ma')) ∧ 8 * mu' + ma = 8 * mu + ma' + (trk d s n k S).1 ∧ ma' ≤ k + n ∧ ∀ b : Bs, b.2.1 ≤ 7 → fS d s T n k g b = bif btr (mu', ma') (b.1, b.2.1) then (mu', ma', ext d s n k S g) else b := by
  intro n
  induction n with
  | zero =>
    intro k g S mu ma h hma hk
    refine ⟨mu, ma, ⟨S, h⟩, rfl, hma, fun b _ => ?_⟩
    show prS d s T k g b = _
    unfold prS
    rw [h]
    rfl
  | succ n ih =>
    intro k g S mu ma h hma hk
    have key : ∀ m, ∃ mu' ma', (∃ S', pvS d s T (ext d s n (k + 1) (nxt S (tr1 d s n k S m).2) (updN g k (tr1 d s n k S m).2)) (k + 1 + n) = some (S', mu', ma')) ∧ 8 * mu' + ma = 8 * mu + ma' + (tr1 d s n k S m).1 ∧ ma' ≤ k + 1 + n ∧ ∀ b : Bs, b.2.1 ≤ 7 → itr (fun c b => fS d s T n (k + 1) (updN g k c) b) 0 (m + 1) b = bif btr (mu', ma') (b.1, b.2.1) then (mu', ma', ext d s n (k + 1) (nxt S (tr1 d s n k S m).2) (updN g k (tr1 d s n k S m).2)) else b := by
      intro m
      induction m with
      | zero =>
        have h0 : pvS d s T (updN g k 0) (k + 1) = some (S, mu, ma) := by rw [pv_upd, h]; rfl
        obtain ⟨mu', ma', e1, e2, e3, e4⟩ := ih (k + 1) (updN g k 0) S mu ma h0 (by omega) (by omega)
        exact ⟨mu', ma', e1, e2, e3, fun b hb => e4 b hb⟩
      | succ m ihm =>
        obtain ⟨mx, ax, x1, x2, x3, x4⟩ := ihm
        have hup : pvS d s T (updN g k (m + 1)) (k + 1) = bif alw s k S m then some (S ||| 2 ^ m, mu + koN d s k m, ma + 1) else none := by
          rw [pv_upd, h]
          rfl
        cases hal : alw s k S m with
        | false =>
          have et : tr1 d s n k S (m + 1) = tr1 d s n k S m := by rw [tr1_s, hal]; rfl
          rw [et]
          refine ⟨mx, ax, x1, x2, x3, fun b hb => ?_⟩
          rw [itr_succ, Nat.zero_add, x4 b hb]
          apply f_none
          rw [hup, hal]
          rfl
        | true =>
          rw [hal] at hup
          obtain ⟨my, ay, y1, y2, y3, y4⟩ := ih (k + 1) (updN g k (m + 1)) (S ||| 2 ^ m) (mu + koN d s k m) (ma + 1) hup (by omega) (by omega)
          by_cases hlt : (tr1 d s n k S m).1 + 1 < (trk d s n (k + 1) (S ||| 2 ^ m)).1 + 8 * koN d s k m
          · have et : tr1 d s n k S (m + 1) = ((trk d s n (k + 1) (S ||| 2 ^ m)).1 + 8 * koN d s k m - 1, m + 1) := by rw [tr1_s, hal, decT hlt]; rfl
            rw [et]
            refine ⟨my, ay, y1, by dsimp only; omega, y3, fun b hb => ?_⟩
            rw [itr_succ, Nat.zero_add, x4 b hb]
            have ew : ext d s n (k + 1) (nxt S (m + 1)) (updN g k (m + 1)) = ext d s n (k + 1) (S ||| 2 ^ m) (updN g k (m + 1)) := rfl
            show fS d s T n (k + 1) (updN g k (m + 1)) _ = bif btr (my, ay) (b.1, b.2.1) then (my, ay, ext d s n (k + 1) (nxt S (m + 1)) (updN g k (m + 1))) else b
            rw [ew]
            have b1 := btr_iff (x := (mx, ax)) (b := (b.1, b.2.1)) (show ax ≤ 7 by omega) hb
            have b2 := btr_iff (x := (my, ay)) (b := (b.1, b.2.1)) (show ay ≤ 7 by omega) hb
            have b3 := btr_iff (x := (my, ay)) (b := (mx, ax)) (show ay ≤ 7 by omega) (show ax ≤ 7 by omega)
            dsimp only at b1 b2 b3
            cases hq : btr (mx, ax) (b.1, b.2.1) with
            | true =>
              have q1 := b1.mp hq
              have q3 : btr (my, ay) (mx, ax) = true := b3.mpr (by omega)
              have q2 : btr (my, ay) (b.1, b.2.1) = true := b2.mpr (by omega)
              rw [cond_true, y4 _ (show ax ≤ 7 by omega), q2]
              show (bif btr (my, ay) (mx, ax) then _ else _) = _
              rw [q3]
              rfl
            | false =>
              rw [cond_false, y4 b hb]
          · have et : tr1 d s n k S (m + 1) = tr1 d s n k S m := by rw [tr1_s, decF hlt, Bool.and_false]; rfl
            rw [et]
            refine ⟨mx, ax, x1, x2, x3, fun b hb => ?_⟩
            rw [itr_succ, Nat.zero_add, x4 b hb]
            have b1 := btr_iff (x := (mx, ax)) (b := (b.1, b.2.1)) (show ax ≤ 7 by omega) hb
            have b2 := btr_iff (x := (my, ay)) (b := (b.1, b.2.1)) (show ay ≤ 7 by omega) hb
            have b3 := btr_iff (x := (my, ay)) (b := (mx, ax)) (show ay ≤ 7 by omega) (show ax ≤ 7 by omega)
            dsimp only at b1 b2 b3
            cases hq : btr (mx, ax) (b.1, b.2.1) with
            | true =>
              have q1 := b1.mp hq
              have q3 : btr (my, ay) (mx, ax) = false := by
                cases hz : btr (my, ay) (mx, ax) with
                | false => rfl
                | true => have := b3.mp hz; omega
              rw [cond_true, y4 _ (show ax ≤ 7 by omega)]
              show (bif btr (my, ay) (mx, ax) then _ else _) = _
              rw [q3]
              rfl
            | false =>
              have q2 : btr (my, ay) (b.1, b.2.1) = false := by
                cases hz : btr (my, ay) (b.1, b.2.1) with
                | false => rfl
                | true =>
                  have z1 := b2.mp hz
                  have : btr (mx, ax) (b.1, b.2.1) = true := b1.mpr (by omega)
                  rw [this] at hq
                  cases hq
              rw [cond_false, y4 b hb, q2]
              rfl
    obtain ⟨mu', ma', e1, e2, e3, e4⟩ := key (fn d)
    refine ⟨mu', ma', ?_, e2, by omega, e4⟩
    obtain ⟨S', e1⟩ := e1
    refine ⟨S', ?_⟩
    rw [show k + (n + 1) = k + 1 + n by omega]
    exact e1
/-- what is tracked: nobody goes unless it is better so -/
theorem tr1_0 {d : Dl} {s : Sc} {n k S : Nat} : ∀ m, (tr1 d s n k S m).2 = 0 ∧ (tr1 d s n k S m).1 = (trk d s n (k + 1) S).1 ∨ ∃ f, f < m ∧ (tr1 d s n k S m).2 = f + 1 ∧ alw s k S f = true ∧ (tr1 d s n k S m).1 + 1 = (trk d s n (k + 1) (S ||| 2 ^ f)).1 + 8 * koN d s k f ∧ (trk d s n (k + 1) S).1 < (tr1 d s n k S m).1 ∧ ∀ f', f' < f → alw s k S f' = true → (trk d s n (k + 1) (S ||| 2 ^ f')).1 + 8 * koN d s k f' < (tr1 d s n k S m).1 + 1 := by
  intro m
  induction m with
  | zero => exact Or.inl ⟨rfl, rfl⟩
  | succ m ih =>
    have all : ∀ f', f' < m → alw s k S f' = true → (trk d s n (k + 1) (S ||| 2 ^ f')).1 + 8 * koN d s k f' ≤ (tr1 d s n k S m).1 + 1 := by
      clear ih
      induction m with
      | zero => intro f' h; omega
      | succ m ih =>
        intro f' hf' ha
        rw [tr1_s]
        by_cases e : f' = m
        · subst e
          rw [ha, Bool.true_and]
          by_cases hlt : (tr1 d s n k S f').1 + 1 < (trk d s n (k + 1) (S ||| 2 ^ f')).1 + 8 * koN d s k f'
          · rw [decT hlt]
            show _ ≤ (_ - 1) + 1
            omega
          · rw [decF hlt]
            show _ ≤ (tr1 d s n k S f').1 + 1
            omega
        · have := ih f' (by omega) ha
          cases hc : alw s k S m && decide ((tr1 d s n k S m).1 + 1 < (trk d s n (k + 1) (S ||| 2 ^ m)).1 + 8 * koN d s k m) with
          | false => exact this
          | true =>
            have hlt := of_decide_eq_true ((Bool.and_eq_true _ _).mp hc).2
            show _ ≤ (_ - 1) + 1
            omega
    have hom : (trk d s n (k + 1) S).1 ≤ (tr1 d s n k S m).1 := by
      rcases ih with ⟨_, h2⟩ | ⟨f, _, _, _, _, h5, _⟩ <;> omega
    rw [tr1_s]
    cases hc : alw s k S m && decide ((tr1 d s n k S m).1 + 1 < (trk d s n (k + 1) (S ||| 2 ^ m)).1 + 8 * koN d s k m) with
    | true =>
      have hlt := of_decide_eq_true ((Bool.and_eq_true _ _).mp hc).2
      have hal := ((Bool.and_eq_true _ _).mp hc).1
      refine Or.inr ⟨m, by omega, rfl, hal, ?_, ?_, fun f' hf' ha => ?_⟩
      · show (_ - 1) + 1 = _
        omega
      · show _ < _ - 1
        omega
      · have := all f' hf' ha
        show _ < (_ - 1) + 1
        omega
    | false =>
      rcases ih with h | ⟨f, h1, h2⟩
      · exact Or.inl h
      · exact Or.inr ⟨f, by omega, h2⟩
theorem tr1_max {d : Dl} {s : Sc} {n k S : Nat} : ∀ m f', f' < m → alw s k S f' = true → (trk d s n (k + 1) (S ||| 2 ^ f')).1 + 8 * koN d s k f' ≤ (tr1 d s n k S m).1 + 1 := by
  intro m
  induction m with
  | zero => intro f' h; omega
  | succ m ih =>
    intro f' hf' ha
    rw [tr1_s]
    by_cases e : f' = m
    · subst e
      rw [ha, Bool.true_and]
      by_cases hlt : (tr1 d s n k S f').1 + 1 < (trk d s n (k + 1) (S ||| 2 ^ f')).1 + 8 * koN d s k f'
      · rw [decT hlt]
        show _ ≤ (_ - 1) + 1
        omega
      · rw [decF hlt]
        show _ ≤ (tr1 d s n k S f').1 + 1
        omega
    · have := ih f' (by omega) ha
      cases hc : alw s k S m && decide ((tr1 d s n k S m).1 + 1 < (trk d s n (k + 1) (S ||| 2 ^ m)).1 + 8 * koN d s k m) with
      | false => exact this
      | true =>
        have hlt := of_decide_eq_true ((Bool.and_eq_true _ _).mp hc).2
        show _ ≤ (_ - 1) + 1
        omega
theorem trk_le {d : Dl} (hD : DOk d) {s : Sc} (hS : SOk d s) : ∀ n k S, k + n ≤ kn d → (trk d s n k S).1 ≤ 480 * n := by
  intro n
  induction n with
  | zero => intro k S _; exact Nat.le_refl _
  | succ n ih =>
    intro k S hk
    have key : ∀ m, m ≤ fn d → (tr1 d s n k S m).1 ≤ 480 * (n + 1) := by
      intro m
      induction m with
      | zero => intro _; have := ih (k + 1) S (by omega); show (trk d s n (k + 1) S).1 ≤ _; omega
      | succ m ihm =>
        intro hm
        rw [tr1_s]
        have h1 := ihm (by omega)
        cases alw s k S m && decide ((tr1 d s n k S m).1 + 1 < (trk d s n (k + 1) (S ||| 2 ^ m)).1 + 8 * koN d s k m) with
        | false => exact h1
        | true =>
          have h2 := ih (k + 1) (S ||| 2 ^ m) (by omega)
          have h3 := (ko_nI hD hS (k := k) (f := m) (by omega) (by omega)).2
          show _ - 1 ≤ _
          omega
    exact key (fn d) (Nat.le_refl _)
theorem ext_0 {d : Dl} {s : Sc} : ∀ (n k S : Nat) (g : Nat → Nat), (trk d s n k S).1 = 0 → (∀ j, k ≤ j → g j = 0) → ∀ j, k ≤ j → ext d s n k S g j = 0 := by
  intro n
  induction n with
  | zero => intro k S g _ hg j hj; exact hg j hj
  | succ n ih =>
    intro k S g h hg j hj
    have h1 : (trk d s (n + 1) k S) = tr1 d s n k S (fn d) := rfl
    rw [h1] at h
    rcases tr1_0 (d := d) (s := s) (n := n) (k := k) (S := S) (fn d) with ⟨e1, e2⟩ | ⟨f, _, _, _, _, e5, _⟩
    · show ext d s n (k + 1) (nxt S (trk d s (n + 1) k S).2) (updN g k (trk d s (n + 1) k S).2) j = 0
      rw [h1, e1]
      have hz : ∀ j, updN g k 0 j = if j = k then 0 else g j := fun j => rfl
      by_cases e : j = k
      · subst e
        have low : ∀ (n k S : Nat) (g : Nat → Nat) (j : Nat), j < k → ext d s n k S g j = g j := by
          intro n
          induction n with
          | zero => intro k S g j _; rfl
          | succ n ihn =>
            intro k S g j hj
            show ext d s n (k + 1) _ (updN g k _) j = g j
            rw [ihn (k + 1) _ _ j (by omega), updN_n (by omega)]
        rw [low n (j + 1) _ _ j (by omega), updN_s]
      · exact ih (k + 1) _ _ (by show (trk d s n (k + 1) S).1 = 0; omega) (fun j' hj' => by rw [updN_n (by omega)]; exact hg j' (by omega)) j (by omega)
    · omega
theorem ext_low {d : Dl} {s : Sc} : ∀ (n k S : Nat) (g : Nat → Nat) (j : Nat), j < k → ext d s n k S g j = g j := by
  intro n
  induction n with
  | zero => intro k S g j _; rfl
  | succ n ihn =>
    intro k S g j hj
    show ext d s n (k + 1) _ (updN g k _) j = g j
    rw [ihn (k + 1) _ _ j (by omega), updN_n (by omega)]
