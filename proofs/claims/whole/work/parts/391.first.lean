/-! ===== the first world ===== -/
def w00 : XW := sI (sI (wB 4) 11 0 21 (-1)) 11 0 23 (-1)
def zA : Ar := fun _ => 0
theorem zA_a (k : Nat) : zA k = 0 := rfl
theorem wZ_I (κ i k : Nat) : gI wZ κ i k = 0 := rfl
theorem wA_s (n : Nat) : wA (n + 1) = sR (wA n) 37 0 n (some (2 + n)) := rfl
theorem wB_s (n : Nat) : wB (n + 1) = sR (sI (wB n) 2 n 3 (-1)) 36 0 n (some n) := rfl
theorem wA_0 : wA 0 = sR (sI wZ 10 0 4 (-1)) 10 0 5 (some 0) := rfl
theorem wB_0 : wB 0 = wA 20 := rfl
theorem wA_I : ∀ (n κ i k : Nat), ¬ (κ = 10 ∧ k = 4) → gI (wA n) κ i k = 0 := by
  intro n
  induction n with
  | zero =>
    intro κ i k h
    rw [wA_0, gIR]
    by_cases c : κ = 10
    · subst c
      by_cases c2 : i = 0
      · subst c2
        rw [gIs_k (fun z => h ⟨rfl, z⟩)]
        exact wZ_I _ _ _
      · rw [gIs_i c2]
        exact wZ_I _ _ _
    · rw [gIs_n c]
      exact wZ_I _ _ _
  | succ n ih =>
    intro κ i k h
    rw [wA_s, gIR]
    exact ih κ i k h
theorem wA_4 : ∀ n : Nat, gI (wA n) 10 0 4 = -1 := by
  intro n
  induction n with
  | zero => rw [wA_0, gIR, gIs_eq]
  | succ n ih => rw [wA_s, gIR]; exact ih
theorem wA_R5 : ∀ n : Nat, gR (wA n) 10 0 5 = some 0 := by
  intro n
  induction n with
  | zero => rw [wA_0, gRs_eq]
  | succ n ih => rw [wA_s, gRs_n (by omega)]; exact ih
theorem wA_R37 : ∀ n q : Nat, q < n → gR (wA n) 37 0 q = some (2 + q) := by
  intro n
  induction n with
  | zero => intro q h; exact absurd h (Nat.not_lt_zero _)
  | succ n ih =>
    intro q h
    rw [wA_s]
    by_cases c : q = n
    · rw [c, gRs_eq]
    · rw [gRs_k c]; exact ih q (by omega)
theorem wB_I : ∀ (n κ i k : Nat), ¬ (κ = 10 ∧ k = 4) → ¬ (κ = 2 ∧ k = 3) → gI (wB n) κ i k = 0 := by
  intro n
  induction n with
  | zero => intro κ i k h _; rw [wB_0]; exact wA_I _ _ _ _ h
  | succ n ih =>
    intro κ i k h h2
    rw [wB_s, gIR]
    by_cases c : κ = 2
    · subst c
      by_cases c2 : i = n
      · subst c2
        rw [gIs_k (fun z => h2 ⟨rfl, z⟩)]
        exact ih _ _ _ h h2
      · rw [gIs_i c2]
        exact ih _ _ _ h h2
    · rw [gIs_n c]
      exact ih _ _ _ h h2
theorem wB_4 : ∀ n : Nat, gI (wB n) 10 0 4 = -1 := by
  intro n
  induction n with
  | zero => rw [wB_0]; exact wA_4 20
  | succ n ih => rw [wB_s, gIR, gIs_n (by omega)]; exact ih
theorem wB_R5 : ∀ n : Nat, gR (wB n) 10 0 5 = some 0 := by
  intro n
  induction n with
  | zero => rw [wB_0]; exact wA_R5 20
  | succ n ih => rw [wB_s, gRs_n (by omega), gRI]; exact ih
theorem wB_R37 : ∀ n q : Nat, q < 20 → gR (wB n) 37 0 q = some (2 + q) := by
  intro n
  induction n with
  | zero => intro q h; rw [wB_0]; exact wA_R37 20 q h
  | succ n ih => intro q h; rw [wB_s, gRs_n (by omega), gRI]; exact ih q h
theorem wB_R36 : ∀ n q : Nat, q < n → gR (wB n) 36 0 q = some q := by
  intro n
  induction n with
  | zero => intro q h; exact absurd h (Nat.not_lt_zero _)
  | succ n ih =>
    intro q h
    rw [wB_s]
    by_cases c : q = n
    · rw [c, gRs_eq]
    · rw [gRs_k c, gRI]; exact ih q (by omega)
theorem w0_I {κ i k : Nat} (h : ¬ (κ = 10 ∧ k = 4)) (h2 : ¬ (κ = 2 ∧ k = 3)) (h3 : ¬ (κ = 11 ∧ (k = 21 ∨ k = 23))) : gI w00 κ i k = 0 := by
  unfold w00
  by_cases c : κ = 11
  · subst c
    by_cases c2 : i = 0
    · subst c2
      rw [gIs_k (by omega), gIs_k (by omega)]
      exact wB_I 4 _ _ _ h h2
    · rw [gIs_i c2, gIs_i c2]
      exact wB_I 4 _ _ _ h h2
  · rw [gIs_n c, gIs_n c]
    exact wB_I 4 _ _ _ h h2
theorem w0_4 : gI w00 10 0 4 = -1 := by unfold w00; rw [gIs_n (by omega), gIs_n (by omega)]; exact wB_4 4
theorem w0_21 : gI w00 11 0 21 = -1 := by unfold w00; rw [gIs_k (by omega), gIs_eq]
theorem w0_23 : gI w00 11 0 23 = -1 := by unfold w00; rw [gIs_eq]
theorem w0_R5 : gR w00 10 0 5 = some 0 := wB_R5 4
theorem w0_R37 {q : Nat} (h : q < 20) : gR w00 37 0 q = some (2 + q) := wB_R37 4 q h
theorem w0_R36 {q : Nat} (h : q < 4) : gR w00 36 0 q = some q := wB_R36 4 q h
theorem rel0 : Rel w00 := by
  have z : ∀ {κ i k : Nat}, κ ≠ 10 ∧ κ ≠ 2 ∧ κ ≠ 11 → gI w00 κ i k = 0 := fun h => w0_I (fun q => h.1 q.1) (fun q => h.2.1 q.1) (fun q => h.2.2 q.1)
  have z10 : ∀ {k : Nat}, k ≠ 4 → gI w00 10 0 k = 0 := fun h => w0_I (fun q => h q.2) (by omega) (by omega)
  have z11 : ∀ {k : Nat}, k ≠ 21 → k ≠ 23 → gI w00 11 0 k = 0 := fun h h2 => w0_I (by omega) (by omega) (by omega)
  have z2 : ∀ {i k : Nat}, k ≠ 3 → gI w00 2 i k = 0 := fun h => w0_I (by omega) (by omega) (by omega)
  have hcs : CS w00 ((dal0, (0, zA, zA, zA, zA), [], -1), [], (0, zA, zA, zA), 0, fun _ => none, 0, fun _ => 0) := by
    refine ⟨⟨⟨0, w0_R5, ⟨fun k _ => z (by omega), fun k _ => ⟨z (by omega), z (by omega), z (by omega)⟩, fun k _ => ⟨z (by omega), z (by omega)⟩, fun k _ => z (by omega)⟩⟩, ⟨⟨z (by omega), fun k _ => ⟨z (by omega), z (by omega), z (by omega), z (by omega)⟩⟩, z (by omega)⟩, ⟨z10 (by omega), fun t rl h => (by cases h)⟩, w0_4⟩, ⟨z10 (by omega), fun q hq => w0_R37 hq, 0, by omega, z10 (by omega), fun q h hq => (by cases hq)⟩, ⟨z (by omega), fun i hi => absurd hi (Nat.not_lt_zero _)⟩, z10 (by omega), fun k hk => ⟨w0_R36 hk, z2 (by omega)⟩, ⟨z (by omega), fun i hi => absurd hi (Nat.not_lt_zero _)⟩⟩
  have hms : MS w00 ((dal0, (0, zA, zA, zA, zA), [], -1), [], (0, zA, zA, zA), 0, fun _ => none, 0, fun _ => 0) := by
    refine ⟨⟨⟨fun k _ => z (by omega), fun k _ => ⟨z (by omega), z (by omega), z (by omega)⟩, fun k _ => z (by omega), fun k _ => z (by omega)⟩, fun k _ => z (by omega), ⟨z (by omega), fun k _ => ⟨z (by omega), z (by omega), z (by omega), z (by omega)⟩⟩, ⟨z11 (by omega) (by omega), fun t rl h => (by cases h)⟩, w0_21, w0_23⟩, ⟨z11 (by omega) (by omega), fun q h hq => (by cases hq)⟩, ⟨z (by omega), fun i hi => absurd hi (Nat.not_lt_zero _)⟩, z11 (by omega) (by omega), fun k hk => (show gI w00 64 0 k = 0 from z (by omega)), ⟨z11 (by omega) (by omega), fun i hi => absurd hi (Nat.not_lt_zero _)⟩⟩
  refine ⟨_, hcs, hms, ?_⟩
  have hk : kn dal0 = 0 := rfl
  refine ⟨⟨⟨DI0.1, Or.inr rfl, fun _ => ⟨rfl, rfl, rfl⟩⟩, ⟨fun k hk6 => ⟨⟨0, by omega, rfl⟩, ⟨0, by omega, rfl⟩, ⟨0, by omega, rfl⟩, Or.inr (Or.inr ⟨0, by omega, fun z => absurd z (by rw [hk]; omega), rfl⟩), fun z => absurd z (by show ¬ (0 : Int32) = -2; decide), fun z => absurd z (by rw [hk]; omega)⟩, ⟨0, by omega, rfl⟩⟩, fun rl h => (by cases h), Nat.zero_le _, Or.inl rfl⟩, ⟨Nat.zero_le _, fun h hh => (by cases hh)⟩, ⟨Nat.zero_le _, fun q hq => absurd hq (Nat.not_lt_zero _)⟩, ?_, fun k i h => (by cases h), Nat.zero_le _, fun i hi => absurd hi (Nat.not_lt_zero _)⟩
  show ¬ (0 : Int32) < 0
  decide
