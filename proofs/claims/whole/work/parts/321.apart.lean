/-! ===== how they can sit apart ===== -/
def updN (b : Nat → Nat) (k v : Nat) : Nat → Nat := fun j => if j = k then v else b j
theorem updN_s {b : Nat → Nat} {k v : Nat} : updN b k v k = v := if_pos rfl
theorem updN_n {b : Nat → Nat} {k v j : Nat} (h : ¬ j = k) : updN b k v j = b j := if_neg h
def nxS (s : Sc) (k o : Nat) : Bool := decide (((s.2.2.2.2 k >>> (nI o &&& 31)) &&& 1) = 1)
def frS (s : Sc) (b : Nat → Nat) (k j : Nat) : Nat → Nat → Bool
  | _, 0 => true
  | o, m + 1 => bif (decide (¬ s.2.2.2.1 o = -2) && decide (b o = j)) && nxS s k o then false else frS s b k j (o + 1) m
def orS (o r : Option (Nat → Nat)) : Option (Nat → Nat) := match o with
  | some x => some x
  | none => r
theorem orS_s {x : Nat → Nat} {r : Option (Nat → Nat)} : orS (some x) r = some x := rfl
theorem orS_n {r : Option (Nat → Nat)} : orS none r = r := rfl
def trS (f : Nat → Option (Nat → Nat)) : Nat → Nat → Option (Nat → Nat)
  | _, 0 => none
  | j, m + 1 => orS (f j) (trS f (j + 1) m)
theorem trS_0 {f : Nat → Option (Nat → Nat)} {j : Nat} : trS f j 0 = none := rfl
theorem trS_1 {f : Nat → Option (Nat → Nat)} {j m : Nat} : trS f j (m + 1) = orS (f j) (trS f (j + 1) m) := rfl
theorem dn_s {j : Nat} : dn (j + 1) = nI j := rfl
def sitS (s : Sc) (many : Nat) : Nat → Nat → (Nat → Nat) → Option (Nat → Nat)
  | 0, _, b => some b
  | n + 1, k, b => bif decide (s.2.2.2.1 k = -2) then sitS s many n (k + 1) (updN b k 0) else trS (fun j => bif frS s b k j 0 k then sitS s many n (k + 1) (updN b k j) else none) 0 many
/-! there is always room on six -/
theorem pigeon : ∀ (k : Nat) (b : Nat → Nat), ∃ j, j ≤ k ∧ ∀ o, o < k → ¬ b o = j := by
  intro k
  induction k with
  | zero => intro b; exact ⟨0, by omega, fun o ho => absurd ho (by omega)⟩
  | succ k ih =>
    intro b
    obtain ⟨j, hj, h⟩ := ih (fun o => if b o = k + 1 then b k else b o)
    by_cases e : b k = j
    · refine ⟨k + 1, by omega, fun o ho => ?_⟩
      by_cases eo : o = k
      · rw [eo]; omega
      · intro q
        have := h o (by omega)
        rw [if_pos q] at this
        exact this e
    · refine ⟨j, by omega, fun o ho => ?_⟩
      by_cases eo : o = k
      · rw [eo]; exact e
      · intro q
        have := h o (by omega)
        rw [if_neg (by omega)] at this
        exact this q
theorem frS_of {s : Sc} {b : Nat → Nat} {k j : Nat} : ∀ (m o : Nat), (∀ o', o ≤ o' → o' < o + m → ¬ b o' = j) → frS s b k j o m = true := by
  intro m
  induction m with
  | zero => intro o _; rfl
  | succ m ih =>
    intro o h
    show (bif (decide (¬ s.2.2.2.1 o = -2) && decide (b o = j)) && nxS s k o then false else frS s b k j (o + 1) m) = true
    rw [decF (h o (Nat.le_refl _) (by omega)), Bool.and_false, Bool.false_and]
    exact ih (o + 1) (fun o' h1 h2 => h o' (by omega) (by omega))
theorem trS_some {f : Nat → Option (Nat → Nat)} : ∀ (m j : Nat), (∃ i, j ≤ i ∧ i < j + m ∧ (f i).isSome = true) → (trS f j m).isSome = true := by
  intro m
  induction m with
  | zero => intro j ⟨i, h1, h2, _⟩; omega
  | succ m ih =>
    intro j ⟨i, h1, h2, h3⟩
    rw [trS_1]
    cases hf : f j with
    | some r => rfl
    | none =>
      rw [orS_n]
      refine ih (j + 1) ⟨i, ?_, by omega, h3⟩
      by_cases e : i = j
      · rw [e, hf] at h3; cases h3
      · omega
theorem sit6 (s : Sc) : ∀ (n k : Nat) (b : Nat → Nat), k + n ≤ 6 → (sitS s 6 n k b).isSome = true := by
  intro n
  induction n with
  | zero => intro k b _; rfl
  | succ n ih =>
    intro k b hk
    unfold sitS
    cases decide (s.2.2.2.1 k = -2) with
    | true => exact ih (k + 1) _ (by omega)
    | false =>
      rw [cond_false]
      obtain ⟨j, hj, h⟩ := pigeon k b
      refine trS_some 6 0 ⟨j, by omega, by omega, ?_⟩
      rw [frS_of k 0 (fun o' _ h2 => h o' (by omega))]
      exact ih (k + 1) _ (by omega)
/-! the class -/
def BnC (w : XW) (s : Sc) (b : Nat → Nat) (k : Nat) : Prop := ∀ o, o < k → gI w 12 0 o = (if s.2.2.2.1 o = -2 then -1 else nI (b o)) ∧ b o < 60000
def P12 (κ _j _k : Nat) : Prop := κ = 12
theorem BnC.upd {w : XW} {s : Sc} {b : Nat → Nat} {k : Nat} (h : BnC w s b k) {v : Int32} {j : Nat} (hv : v = (if s.2.2.2.1 k = -2 then -1 else nI j)) (hj : j < 60000) : BnC (sI w 12 0 k v) s (updN b k j) (k + 1) := fun o ho => by
  by_cases e : o = k
  · subst e
    rw [updN_s, gIs_eq]
    exact ⟨hv, hj⟩
  · rw [updN_n e, gIs_k e]
    exact h o (by omega)
theorem c_isFree {w : XW} {d : Dl} {s : Sc} {b : Nat → Nat} (hS : SOk d s) (hs : ScAt w 0 s) {k j : Nat} (hk : k < 6) (hj : j < 6) (hb : BnC w s b k) : F_X0_isFree [.inr (0, 0), .inr (8, 0), .inl (.int (nI k)), .inl (.int (nI j))] w = some (b2i (frS s b k j 0 k), w) := by
  obtain ⟨bb, bb1, bb2⟩ := (hS k hk).2.2.1
  have key : ∀ m o, o + m = k → q_X0_isFree_3 0 (nI k) (nI j) (nI o) w = some (some (.inl (.int (b2i (frS s b k j o m)))), w) := by
    intro m
    induction m with
    | zero =>
      intro o ho
      ((try dsimp only); rw [e_X0_isFree_3]; simp (disch := omega) only [e_X0_isFree_42, true_and, and_true, false_and, and_false, beq_t, beq_f, eqN_t, eqN_f, eqL_t, eqL_f, nm1, nm2, nm1', nm2', m1z, m2z, zm1, zm2, m12, m21, lg_cmp_ge, lg_cmp_le, lg_cmp_gt, lg_cmp_lt, lg_cmp_eq, oob, oobL, neg0, negL0, natle_f, or_false, false_or, true_or, or_true, or_self, cl, clL, le_t, le_f, lt_t, lt_f, leL_t, leL_f, ltL_t, ltL_f, leM_t, leM_f, ltM_t, ltM_f, leO_t, leO_f, cond_true, cond_false, Option.bind_some, Option.bind_none, if_false, if_true, nI_1, aL1, aL2, mL1, mL2, nI_add, pk_mul, pk_m1, sL1, dL1, pk_sub, m1p1, gIs_eq, gIs_k, gIs_i, gIs_n, gIs_e, gIJ, gIR, gJI, gJR, gJs_eq, gJs_k, gJs_n, gJs_e, gRI, gRJ, gRs_eq, gRs_k, gRs_i, gRs_n, gZI, gZJ, gZR, pI_s, pJ_s, pV_s, pR_s, pR_n, oR_n, oR_s, decide_true, decide_false, not_true_eq_false, not_false_eq_true, decT, decF, Bool.true_eq_false, Bool.false_eq_true, z01, o01, z1f, z1f', zz, oo, b2i_0, b2i_n, b2i_t, b2i_f, Bool.not_true, Bool.not_false])
      rfl
    | succ m ih =>
      intro o ho
      obtain ⟨x1, x1'⟩ := hb o (by omega)
      have x2 := (hs.2 k hk).2.2.2
      have ih := ih (o + 1) (by omega)
      show _ = (some (some (.inl (.int (b2i (bif (decide (¬ s.2.2.2.1 o = -2) && decide (b o = j)) && nxS s k o then false else frS s b k j (o + 1) m)))), w) : Option XR)
      rw [e_X0_isFree_3]
      by_cases hbu : s.2.2.2.1 o = -2
      · rw [if_pos hbu] at x1
        simp (disch := omega) only [e_X0_isFree_9, x1, hbu, e_X0_isFree_36, Bool.false_and, true_and, and_true, false_and, and_false, beq_t, beq_f, eqN_t, eqN_f, eqL_t, eqL_f, nm1, nm2, nm1', nm2', m1z, m2z, zm1, zm2, m12, m21, lg_cmp_ge, lg_cmp_le, lg_cmp_gt, lg_cmp_lt, lg_cmp_eq, oob, oobL, neg0, negL0, natle_f, or_false, false_or, true_or, or_true, or_self, cl, clL, le_t, le_f, lt_t, lt_f, leL_t, leL_f, ltL_t, ltL_f, leM_t, leM_f, ltM_t, ltM_f, leO_t, leO_f, cond_true, cond_false, Option.bind_some, Option.bind_none, if_false, if_true, nI_1, aL1, aL2, mL1, mL2, nI_add, pk_mul, pk_m1, sL1, dL1, pk_sub, m1p1, gIs_eq, gIs_k, gIs_i, gIs_n, gIs_e, gIJ, gIR, gJI, gJR, gJs_eq, gJs_k, gJs_n, gJs_e, gRI, gRJ, gRs_eq, gRs_k, gRs_i, gRs_n, gZI, gZJ, gZR, pI_s, pJ_s, pV_s, pR_s, pR_n, oR_n, oR_s, decide_true, decide_false, not_true_eq_false, not_false_eq_true, decT, decF, Bool.true_eq_false, Bool.false_eq_true, z01, o01, z1f, z1f', zz, oo, b2i_0, b2i_n, b2i_t, b2i_f, Bool.not_true, Bool.not_false]
        exact ih
      · rw [if_neg hbu] at x1
        by_cases he : b o = j
        · unfold nxS
          rw [bb2] at x2 ⊢
          have e6 := bit6 (b := bb) (j := o) (by omega) (by omega)
          have h01 : bb / 2 ^ o % 2 = 0 ∨ bb / 2 ^ o % 2 = 1 := by omega
          rcases h01 with h01 | h01
          · rw [h01] at e6
            simp (disch := omega) only [e_X0_isFree_9, x1, hbu, he, e_X0_isFree_20, x2, e6, e_X0_isFree_36, Bool.and_false, true_and, and_true, false_and, and_false, beq_t, beq_f, eqN_t, eqN_f, eqL_t, eqL_f, nm1, nm2, nm1', nm2', m1z, m2z, zm1, zm2, m12, m21, lg_cmp_ge, lg_cmp_le, lg_cmp_gt, lg_cmp_lt, lg_cmp_eq, oob, oobL, neg0, negL0, natle_f, or_false, false_or, true_or, or_true, or_self, cl, clL, le_t, le_f, lt_t, lt_f, leL_t, leL_f, ltL_t, ltL_f, leM_t, leM_f, ltM_t, ltM_f, leO_t, leO_f, cond_true, cond_false, Option.bind_some, Option.bind_none, if_false, if_true, nI_1, aL1, aL2, mL1, mL2, nI_add, pk_mul, pk_m1, sL1, dL1, pk_sub, m1p1, gIs_eq, gIs_k, gIs_i, gIs_n, gIs_e, gIJ, gIR, gJI, gJR, gJs_eq, gJs_k, gJs_n, gJs_e, gRI, gRJ, gRs_eq, gRs_k, gRs_i, gRs_n, gZI, gZJ, gZR, pI_s, pJ_s, pV_s, pR_s, pR_n, oR_n, oR_s, decide_true, decide_false, not_true_eq_false, not_false_eq_true, decT, decF, Bool.true_eq_false, Bool.false_eq_true, z01, o01, z1f, z1f', zz, oo, b2i_0, b2i_n, b2i_t, b2i_f, Bool.not_true, Bool.not_false]
            exact ih
          · rw [h01] at e6
            simp (disch := omega) only [e_X0_isFree_9, x1, hbu, he, e_X0_isFree_20, x2, e6, e_X0_isFree_34, Bool.and_self, true_and, and_true, false_and, and_false, beq_t, beq_f, eqN_t, eqN_f, eqL_t, eqL_f, nm1, nm2, nm1', nm2', m1z, m2z, zm1, zm2, m12, m21, lg_cmp_ge, lg_cmp_le, lg_cmp_gt, lg_cmp_lt, lg_cmp_eq, oob, oobL, neg0, negL0, natle_f, or_false, false_or, true_or, or_true, or_self, cl, clL, le_t, le_f, lt_t, lt_f, leL_t, leL_f, ltL_t, ltL_f, leM_t, leM_f, ltM_t, ltM_f, leO_t, leO_f, cond_true, cond_false, Option.bind_some, Option.bind_none, if_false, if_true, nI_1, aL1, aL2, mL1, mL2, nI_add, pk_mul, pk_m1, sL1, dL1, pk_sub, m1p1, gIs_eq, gIs_k, gIs_i, gIs_n, gIs_e, gIJ, gIR, gJI, gJR, gJs_eq, gJs_k, gJs_n, gJs_e, gRI, gRJ, gRs_eq, gRs_k, gRs_i, gRs_n, gZI, gZJ, gZR, pI_s, pJ_s, pV_s, pR_s, pR_n, oR_n, oR_s, decide_true, decide_false, not_true_eq_false, not_false_eq_true, decT, decF, Bool.true_eq_false, Bool.false_eq_true, z01, o01, z1f, z1f', zz, oo, b2i_0, b2i_n, b2i_t, b2i_f, Bool.not_true, Bool.not_false]
        · simp (disch := omega) only [e_X0_isFree_9, x1, hbu, he, e_X0_isFree_36, Bool.and_false, Bool.false_and, true_and, and_true, false_and, and_false, beq_t, beq_f, eqN_t, eqN_f, eqL_t, eqL_f, nm1, nm2, nm1', nm2', m1z, m2z, zm1, zm2, m12, m21, lg_cmp_ge, lg_cmp_le, lg_cmp_gt, lg_cmp_lt, lg_cmp_eq, oob, oobL, neg0, negL0, natle_f, or_false, false_or, true_or, or_true, or_self, cl, clL, le_t, le_f, lt_t, lt_f, leL_t, leL_f, ltL_t, ltL_f, leM_t, leM_f, ltM_t, ltM_f, leO_t, leO_f, cond_true, cond_false, Option.bind_some, Option.bind_none, if_false, if_true, nI_1, aL1, aL2, mL1, mL2, nI_add, pk_mul, pk_m1, sL1, dL1, pk_sub, m1p1, gIs_eq, gIs_k, gIs_i, gIs_n, gIs_e, gIJ, gIR, gJI, gJR, gJs_eq, gJs_k, gJs_n, gJs_e, gRI, gRJ, gRs_eq, gRs_k, gRs_i, gRs_n, gZI, gZJ, gZR, pI_s, pJ_s, pV_s, pR_s, pR_n, oR_n, oR_s, decide_true, decide_false, not_true_eq_false, not_false_eq_true, decT, decF, Bool.true_eq_false, Bool.false_eq_true, z01, o01, z1f, z1f', zz, oo, b2i_0, b2i_n, b2i_t, b2i_f, Bool.not_true, Bool.not_false]
          exact ih
  have := key k 0 (by omega)
  rw [nI_0] at this
  rw [f_X0_isFree, e_X0_isFree_0, this]
  rfl
theorem c_canSit (d : Dl) (hD : DOk d) (s : Sc) (hS : SOk d s) (many : Nat) (hm : many ≤ 6) : ∀ (n F k : Nat) (b : Nat → Nat) (w : XW), k + n = kn d → n < F → ScAt w 0 s → gI w 8 0 0 = d.1 3 → BnC w s b k →
    ∃ w', F_X0_canSit F [.inr (0, 0), .inr (8, 0), .inl (.int (nI k)), .inl (.int (nI many))] w = some (b2i (sitS s many n k b).isSome, w') ∧ Fr P12 w w' ∧ (∀ o, o < k → gI w' 12 0 o = gI w 12 0 o) ∧ ∀ b', sitS s many n k b = some b' → BnC w' s b' (kn d) := by
  have h6 := hD.1.2
  intro n
  induction n with
  | zero =>
    intro F k b w hk hF hs h0 hb
    obtain ⟨F, rfl⟩ : ∃ F', F = F' + 1 := ⟨F - 1, by omega⟩
    have g : gI w 8 0 0 = nI (kn d) := h0.trans hD.1.1
    refine ⟨w, ?_, Fr.refl _ _, fun _ _ => rfl, fun b' hb' => ?_⟩
    · rw [f_X0_canSit, e_X0_canSit_0]
      simp (disch := omega) only [g, e_X0_canSit_14, true_and, and_true, false_and, and_false, beq_t, beq_f, eqN_t, eqN_f, eqL_t, eqL_f, nm1, nm2, nm1', nm2', m1z, m2z, zm1, zm2, m12, m21, lg_cmp_ge, lg_cmp_le, lg_cmp_gt, lg_cmp_lt, lg_cmp_eq, oob, oobL, neg0, negL0, natle_f, or_false, false_or, true_or, or_true, or_self, cl, clL, le_t, le_f, lt_t, lt_f, leL_t, leL_f, ltL_t, ltL_f, leM_t, leM_f, ltM_t, ltM_f, leO_t, leO_f, cond_true, cond_false, Option.bind_some, Option.bind_none, if_false, if_true, nI_1, aL1, aL2, mL1, mL2, nI_add, pk_mul, pk_m1, sL1, dL1, pk_sub, m1p1, gIs_eq, gIs_k, gIs_i, gIs_n, gIs_e, gIJ, gIR, gJI, gJR, gJs_eq, gJs_k, gJs_n, gJs_e, gRI, gRJ, gRs_eq, gRs_k, gRs_i, gRs_n, gZI, gZJ, gZR, pI_s, pJ_s, pV_s, pR_s, pR_n, oR_n, oR_s, decide_true, decide_false, not_true_eq_false, not_false_eq_true, decT, decF, Bool.true_eq_false, Bool.false_eq_true, z01, o01, z1f, z1f', zz, oo, b2i_0, b2i_n, b2i_t, b2i_f, Bool.not_true, Bool.not_false]
      rfl
    · cases hb'
      rw [show kn d = k by omega]
      exact hb
  | succ n ih =>
    intro F k b w hk hF hs h0 hb
    obtain ⟨F, rfl⟩ : ∃ F', F = F' + 1 := ⟨F - 1, by omega⟩
    have g : gI w 8 0 0 = nI (kn d) := h0.trans hD.1.1
    have x1 := (hs.2 k (by omega)).2.2.1
    rw [f_X0_canSit, e_X0_canSit_0]
    by_cases hbu : s.2.2.2.1 k = -2
    · have es : sitS s many (n + 1) k b = sitS s many n (k + 1) (updN b k 0) := by
        show (bif decide (s.2.2.2.1 k = -2) then _ else _) = _
        rw [decT hbu]
        rfl
      have hF1 : Fr P12 w (sI w 12 0 k (-1)) := (Fr.refl _ _).sI (by unfold P12; omega)
      obtain ⟨w', a1, a2, a3, a4⟩ := ih F (k + 1) (updN b k 0) (sI w 12 0 k (-1)) (by omega) (by omega) (hs.fr hF1 (fun κ k q => by unfold P12; omega)) (by simp (disch := omega) only [true_and, and_true, false_and, and_false, beq_t, beq_f, eqN_t, eqN_f, eqL_t, eqL_f, nm1, nm2, nm1', nm2', m1z, m2z, zm1, zm2, m12, m21, lg_cmp_ge, lg_cmp_le, lg_cmp_gt, lg_cmp_lt, lg_cmp_eq, oob, oobL, neg0, negL0, natle_f, or_false, false_or, true_or, or_true, or_self, cl, clL, le_t, le_f, lt_t, lt_f, leL_t, leL_f, ltL_t, ltL_f, leM_t, leM_f, ltM_t, ltM_f, leO_t, leO_f, cond_true, cond_false, Option.bind_some, Option.bind_none, if_false, if_true, nI_1, aL1, aL2, mL1, mL2, nI_add, pk_mul, pk_m1, sL1, dL1, pk_sub, m1p1, gIs_eq, gIs_k, gIs_i, gIs_n, gIs_e, gIJ, gIR, gJI, gJR, gJs_eq, gJs_k, gJs_n, gJs_e, gRI, gRJ, gRs_eq, gRs_k, gRs_i, gRs_n, gZI, gZJ, gZR, pI_s, pJ_s, pV_s, pR_s, pR_n, oR_n, oR_s, decide_true, decide_false, not_true_eq_false, not_false_eq_true, decT, decF, Bool.true_eq_false, Bool.false_eq_true, z01, o01, z1f, z1f', zz, oo, b2i_0, b2i_n, b2i_t, b2i_f, Bool.not_true, Bool.not_false]; exact h0) (hb.upd (by rw [if_pos hbu]) (by omega))
      rw [es]
      refine ⟨w', ?_, hF1.trans a2, fun o ho => ?_, a4⟩
      · simp (disch := omega) only [g, e_X0_canSit_8, e_X0_canSit_16, x1, hbu, e_X0_canSit_27, a1, true_and, and_true, false_and, and_false, beq_t, beq_f, eqN_t, eqN_f, eqL_t, eqL_f, nm1, nm2, nm1', nm2', m1z, m2z, zm1, zm2, m12, m21, lg_cmp_ge, lg_cmp_le, lg_cmp_gt, lg_cmp_lt, lg_cmp_eq, oob, oobL, neg0, negL0, natle_f, or_false, false_or, true_or, or_true, or_self, cl, clL, le_t, le_f, lt_t, lt_f, leL_t, leL_f, ltL_t, ltL_f, leM_t, leM_f, ltM_t, ltM_f, leO_t, leO_f, cond_true, cond_false, Option.bind_some, Option.bind_none, if_false, if_true, nI_1, aL1, aL2, mL1, mL2, nI_add, pk_mul, pk_m1, sL1, dL1, pk_sub, m1p1, gIs_eq, gIs_k, gIs_i, gIs_n, gIs_e, gIJ, gIR, gJI, gJR, gJs_eq, gJs_k, gJs_n, gJs_e, gRI, gRJ, gRs_eq, gRs_k, gRs_i, gRs_n, gZI, gZJ, gZR, pI_s, pJ_s, pV_s, pR_s, pR_n, oR_n, oR_s, decide_true, decide_false, not_true_eq_false, not_false_eq_true, decT, decF, Bool.true_eq_false, Bool.false_eq_true, z01, o01, z1f, z1f', zz, oo, b2i_0, b2i_n, b2i_t, b2i_f, Bool.not_true, Bool.not_false]
        cases (sitS s many n (k + 1) (updN b k 0)).isSome <;> rfl
      · rw [a3 o (by omega), gIs_k (by omega)]
    · have es : sitS s many (n + 1) k b = trS (fun j => bif frS s b k j 0 k then sitS s many n (k + 1) (updN b k j) else none) 0 many := by
        show (bif decide (s.2.2.2.1 k = -2) then _ else _) = _
        rw [decF hbu]
        rfl
      have key : ∀ m j v, j + m = many → Fr P12 w v → (∀ o, o < k → gI v 12 0 o = gI w 12 0 o) → ∃ w', (q_X0_canSit_47 (F_X0_canSit F) 0 (nI k) (nI many) (nI j) v).bind pI = some (b2i (trS (fun j => bif frS s b k j 0 k then sitS s many n (k + 1) (updN b k j) else none) j m).isSome, w') ∧ Fr P12 w w' ∧ (∀ o, o < k → gI w' 12 0 o = gI w 12 0 o) ∧ ∀ b', trS (fun j => bif frS s b k j 0 k then sitS s many n (k + 1) (updN b k j) else none) j m = some b' → BnC w' s b' (kn d) := by
        intro m
        induction m with
        | zero =>
          intro j v hj hF hv
          refine ⟨v, ?_, hF, hv, fun b' hb' => by cases hb'⟩
          rw [e_X0_canSit_47]
          simp (disch := omega) only [e_X0_canSit_92, true_and, and_true, false_and, and_false, beq_t, beq_f, eqN_t, eqN_f, eqL_t, eqL_f, nm1, nm2, nm1', nm2', m1z, m2z, zm1, zm2, m12, m21, lg_cmp_ge, lg_cmp_le, lg_cmp_gt, lg_cmp_lt, lg_cmp_eq, oob, oobL, neg0, negL0, natle_f, or_false, false_or, true_or, or_true, or_self, cl, clL, le_t, le_f, lt_t, lt_f, leL_t, leL_f, ltL_t, ltL_f, leM_t, leM_f, ltM_t, ltM_f, leO_t, leO_f, cond_true, cond_false, Option.bind_some, Option.bind_none, if_false, if_true, nI_1, aL1, aL2, mL1, mL2, nI_add, pk_mul, pk_m1, sL1, dL1, pk_sub, m1p1, gIs_eq, gIs_k, gIs_i, gIs_n, gIs_e, gIJ, gIR, gJI, gJR, gJs_eq, gJs_k, gJs_n, gJs_e, gRI, gRJ, gRs_eq, gRs_k, gRs_i, gRs_n, gZI, gZJ, gZR, pI_s, pJ_s, pV_s, pR_s, pR_n, oR_n, oR_s, decide_true, decide_false, not_true_eq_false, not_false_eq_true, decT, decF, Bool.true_eq_false, Bool.false_eq_true, z01, o01, z1f, z1f', zz, oo, b2i_0, b2i_n, b2i_t, b2i_f, Bool.not_true, Bool.not_false]
          rfl
        | succ m ihm =>
          intro j v hj hFv hv
          have hsv := hs.fr hFv (fun κ k q => by unfold P12; omega)
          have h0v : gI v 8 0 0 = d.1 3 := by rw [(hFv 8 0 0 (by unfold P12; omega)).1]; exact h0
          have hbv : BnC v s b k := fun o ho => by rw [hv o ho]; exact hb o ho
          have fr := c_isFree hS hsv (k := k) (j := j) (by omega) (by omega) hbv
          have eq : trS (fun j => bif frS s b k j 0 k then sitS s many n (k + 1) (updN b k j) else none) j (m + 1) = orS (bif frS s b k j 0 k then sitS s many n (k + 1) (updN b k j) else none) (trS (fun j => bif frS s b k j 0 k then sitS s many n (k + 1) (updN b k j) else none) (j + 1) m) := trS_1
          rw [eq, e_X0_canSit_47]
          cases hfr : frS s b k j 0 k with
          | false =>
            rw [hfr] at fr
            obtain ⟨w', y1, y2⟩ := ihm (j + 1) v (by omega) hFv hv
            rw [cond_false, orS_n]
            refine ⟨w', ?_, y2⟩
            simp (disch := omega) only [e_X0_canSit_53, fr, e_X0_canSit_86, true_and, and_true, false_and, and_false, beq_t, beq_f, eqN_t, eqN_f, eqL_t, eqL_f, nm1, nm2, nm1', nm2', m1z, m2z, zm1, zm2, m12, m21, lg_cmp_ge, lg_cmp_le, lg_cmp_gt, lg_cmp_lt, lg_cmp_eq, oob, oobL, neg0, negL0, natle_f, or_false, false_or, true_or, or_true, or_self, cl, clL, le_t, le_f, lt_t, lt_f, leL_t, leL_f, ltL_t, ltL_f, leM_t, leM_f, ltM_t, ltM_f, leO_t, leO_f, cond_true, cond_false, Option.bind_some, Option.bind_none, if_false, if_true, nI_1, aL1, aL2, mL1, mL2, nI_add, pk_mul, pk_m1, sL1, dL1, pk_sub, m1p1, gIs_eq, gIs_k, gIs_i, gIs_n, gIs_e, gIJ, gIR, gJI, gJR, gJs_eq, gJs_k, gJs_n, gJs_e, gRI, gRJ, gRs_eq, gRs_k, gRs_i, gRs_n, gZI, gZJ, gZR, pI_s, pJ_s, pV_s, pR_s, pR_n, oR_n, oR_s, decide_true, decide_false, not_true_eq_false, not_false_eq_true, decT, decF, Bool.true_eq_false, Bool.false_eq_true, z01, o01, z1f, z1f', zz, oo, b2i_0, b2i_n, b2i_t, b2i_f, Bool.not_true, Bool.not_false]
            exact y1
          | true =>
            rw [hfr] at fr
            have hF1 : Fr P12 v (sI v 12 0 k (nI j)) := (Fr.refl _ _).sI (by unfold P12; omega)
            obtain ⟨w1, a1, a2, a3, a4⟩ := ih F (k + 1) (updN b k j) (sI v 12 0 k (nI j)) (by omega) (by omega) (hsv.fr hF1 (fun κ k q => by unfold P12; omega)) (by simp (disch := omega) only [true_and, and_true, false_and, and_false, beq_t, beq_f, eqN_t, eqN_f, eqL_t, eqL_f, nm1, nm2, nm1', nm2', m1z, m2z, zm1, zm2, m12, m21, lg_cmp_ge, lg_cmp_le, lg_cmp_gt, lg_cmp_lt, lg_cmp_eq, oob, oobL, neg0, negL0, natle_f, or_false, false_or, true_or, or_true, or_self, cl, clL, le_t, le_f, lt_t, lt_f, leL_t, leL_f, ltL_t, ltL_f, leM_t, leM_f, ltM_t, ltM_f, leO_t, leO_f, cond_true, cond_false, Option.bind_some, Option.bind_none, if_false, if_true, nI_1, aL1, aL2, mL1, mL2, nI_add, pk_mul, pk_m1, sL1, dL1, pk_sub, m1p1, gIs_eq, gIs_k, gIs_i, gIs_n, gIs_e, gIJ, gIR, gJI, gJR, gJs_eq, gJs_k, gJs_n, gJs_e, gRI, gRJ, gRs_eq, gRs_k, gRs_i, gRs_n, gZI, gZJ, gZR, pI_s, pJ_s, pV_s, pR_s, pR_n, oR_n, oR_s, decide_true, decide_false, not_true_eq_false, not_false_eq_true, decT, decF, Bool.true_eq_false, Bool.false_eq_true, z01, o01, z1f, z1f', zz, oo, b2i_0, b2i_n, b2i_t, b2i_f, Bool.not_true, Bool.not_false]; exact h0v) (hbv.upd (by rw [if_neg hbu]) (by omega))
            have hF2 := (hFv.trans hF1).trans a2
            have hv2 : ∀ o, o < k → gI w1 12 0 o = gI w 12 0 o := fun o ho => by rw [a3 o (by omega), gIs_k (by omega)]; exact hv o ho
            rw [cond_true]
            cases hsit : sitS s many n (k + 1) (updN b k j) with
            | some r =>
              rw [hsit] at a1
              rw [orS_s]
              refine ⟨w1, ?_, hF2, hv2, fun b' hb' => ?_⟩
              · simp (disch := omega) only [e_X0_canSit_53, fr, e_X0_canSit_64, a1, Option.isSome_some, e_X0_canSit_84, true_and, and_true, false_and, and_false, beq_t, beq_f, eqN_t, eqN_f, eqL_t, eqL_f, nm1, nm2, nm1', nm2', m1z, m2z, zm1, zm2, m12, m21, lg_cmp_ge, lg_cmp_le, lg_cmp_gt, lg_cmp_lt, lg_cmp_eq, oob, oobL, neg0, negL0, natle_f, or_false, false_or, true_or, or_true, or_self, cl, clL, le_t, le_f, lt_t, lt_f, leL_t, leL_f, ltL_t, ltL_f, leM_t, leM_f, ltM_t, ltM_f, leO_t, leO_f, cond_true, cond_false, Option.bind_some, Option.bind_none, if_false, if_true, nI_1, aL1, aL2, mL1, mL2, nI_add, pk_mul, pk_m1, sL1, dL1, pk_sub, m1p1, gIs_eq, gIs_k, gIs_i, gIs_n, gIs_e, gIJ, gIR, gJI, gJR, gJs_eq, gJs_k, gJs_n, gJs_e, gRI, gRJ, gRs_eq, gRs_k, gRs_i, gRs_n, gZI, gZJ, gZR, pI_s, pJ_s, pV_s, pR_s, pR_n, oR_n, oR_s, decide_true, decide_false, not_true_eq_false, not_false_eq_true, decT, decF, Bool.true_eq_false, Bool.false_eq_true, z01, o01, z1f, z1f', zz, oo, b2i_0, b2i_n, b2i_t, b2i_f, Bool.not_true, Bool.not_false]
              · cases hb'
                exact a4 r hsit
            | none =>
              rw [hsit] at a1
              obtain ⟨w', y1, y2⟩ := ihm (j + 1) w1 (by omega) hF2 hv2
              rw [orS_n]
              refine ⟨w', ?_, y2⟩
              simp (disch := omega) only [e_X0_canSit_53, fr, e_X0_canSit_64, a1, Option.isSome_none, e_X0_canSit_86, true_and, and_true, false_and, and_false, beq_t, beq_f, eqN_t, eqN_f, eqL_t, eqL_f, nm1, nm2, nm1', nm2', m1z, m2z, zm1, zm2, m12, m21, lg_cmp_ge, lg_cmp_le, lg_cmp_gt, lg_cmp_lt, lg_cmp_eq, oob, oobL, neg0, negL0, natle_f, or_false, false_or, true_or, or_true, or_self, cl, clL, le_t, le_f, lt_t, lt_f, leL_t, leL_f, ltL_t, ltL_f, leM_t, leM_f, ltM_t, ltM_f, leO_t, leO_f, cond_true, cond_false, Option.bind_some, Option.bind_none, if_false, if_true, nI_1, aL1, aL2, mL1, mL2, nI_add, pk_mul, pk_m1, sL1, dL1, pk_sub, m1p1, gIs_eq, gIs_k, gIs_i, gIs_n, gIs_e, gIJ, gIR, gJI, gJR, gJs_eq, gJs_k, gJs_n, gJs_e, gRI, gRJ, gRs_eq, gRs_k, gRs_i, gRs_n, gZI, gZJ, gZR, pI_s, pJ_s, pV_s, pR_s, pR_n, oR_n, oR_s, decide_true, decide_false, not_true_eq_false, not_false_eq_true, decT, decF, Bool.true_eq_false, Bool.false_eq_true, z01, o01, z1f, z1f', zz, oo, b2i_0, b2i_n, b2i_t, b2i_f, Bool.not_true, Bool.not_false]
              exact y1
      obtain ⟨w', y1, y2⟩ := key many 0 w (by omega) (Fr.refl _ _) (fun _ _ => rfl)
      rw [← es] at y1 y2
      refine ⟨w', ?_, y2⟩
      rw [nI_0] at y1
      simp (disch := omega) only [g, e_X0_canSit_8, e_X0_canSit_16, x1, hbu, e_X0_canSit_44, true_and, and_true, false_and, and_false, beq_t, beq_f, eqN_t, eqN_f, eqL_t, eqL_f, nm1, nm2, nm1', nm2', m1z, m2z, zm1, zm2, m12, m21, lg_cmp_ge, lg_cmp_le, lg_cmp_gt, lg_cmp_lt, lg_cmp_eq, oob, oobL, neg0, negL0, natle_f, or_false, false_or, true_or, or_true, or_self, cl, clL, le_t, le_f, lt_t, lt_f, leL_t, leL_f, ltL_t, ltL_f, leM_t, leM_f, ltM_t, ltM_f, leO_t, leO_f, cond_true, cond_false, Option.bind_some, Option.bind_none, if_false, if_true, nI_1, aL1, aL2, mL1, mL2, nI_add, pk_mul, pk_m1, sL1, dL1, pk_sub, m1p1, gIs_eq, gIs_k, gIs_i, gIs_n, gIs_e, gIJ, gIR, gJI, gJR, gJs_eq, gJs_k, gJs_n, gJs_e, gRI, gRJ, gRs_eq, gRs_k, gRs_i, gRs_n, gZI, gZJ, gZR, pI_s, pJ_s, pV_s, pR_s, pR_n, oR_n, oR_s, decide_true, decide_false, not_true_eq_false, not_false_eq_true, decT, decF, Bool.true_eq_false, Bool.false_eq_true, z01, o01, z1f, z1f', zz, oo, b2i_0, b2i_n, b2i_t, b2i_f, Bool.not_true, Bool.not_false]
      exact y1
/-! the model -/
def BnM (w : XW) (s : Sc) (b : Nat → Nat) (k : Nat) : Prop := ∀ o, o < k → gI w 56 0 o = nI (b o) ∧ b o < 60000
def P56 (κ _j _k : Nat) : Prop := κ = 56
theorem m_isFree {w : XW} {d : Dl} {s : Sc} {b : Nat → Nat} (hS : SOk d s) (hs : MsAt w s) {k j : Nat} (hk : k < 6) (hj : j < 60000) (hb : BnM w s b k) (hkj : gI w 56 0 k = nI j) : F_X12_isFree [.inr (11, 0), .inl (.int (nI k))] w = some (b2i (frS s b k j 0 k), w) := by
  obtain ⟨bb, bb1, bb2⟩ := (hS k hk).2.2.1
  have key : ∀ m o, o + m = k → q_X12_isFree_2 (nI k) (nI o) w = some (some (.inl (.int (b2i (frS s b k j o m)))), w) := by
    intro m
    induction m with
    | zero =>
      intro o ho
      ((try dsimp only); rw [e_X12_isFree_2]; simp (disch := omega) only [e_X12_isFree_50, true_and, and_true, false_and, and_false, beq_t, beq_f, eqN_t, eqN_f, eqL_t, eqL_f, nm1, nm2, nm1', nm2', m1z, m2z, zm1, zm2, m12, m21, lg_cmp_ge, lg_cmp_le, lg_cmp_gt, lg_cmp_lt, lg_cmp_eq, oob, oobL, neg0, negL0, natle_f, or_false, false_or, true_or, or_true, or_self, cl, clL, le_t, le_f, lt_t, lt_f, leL_t, leL_f, ltL_t, ltL_f, leM_t, leM_f, ltM_t, ltM_f, leO_t, leO_f, cond_true, cond_false, Option.bind_some, Option.bind_none, if_false, if_true, nI_1, aL1, aL2, mL1, mL2, nI_add, pk_mul, pk_m1, sL1, dL1, pk_sub, m1p1, gIs_eq, gIs_k, gIs_i, gIs_n, gIs_e, gIJ, gIR, gJI, gJR, gJs_eq, gJs_k, gJs_n, gJs_e, gRI, gRJ, gRs_eq, gRs_k, gRs_i, gRs_n, gZI, gZJ, gZR, pI_s, pJ_s, pV_s, pR_s, pR_n, oR_n, oR_s, decide_true, decide_false, not_true_eq_false, not_false_eq_true, decT, decF, Bool.true_eq_false, Bool.false_eq_true, z01, o01, z1f, z1f', zz, oo, b2i_0, b2i_n, b2i_t, b2i_f, Bool.not_true, Bool.not_false])
      rfl
    | succ m ih =>
      intro o ho
      obtain ⟨x1, x1'⟩ := hb o (by omega)
      have ih := ih (o + 1) (by omega)
      show _ = (some (some (.inl (.int (b2i (bif (decide (¬ s.2.2.2.1 o = -2) && decide (b o = j)) && nxS s k o then false else frS s b k j (o + 1) m)))), w) : Option XR)
      rw [e_X12_isFree_2]
      by_cases hbu : s.2.2.2.1 o = -2
      · simp (disch := omega) only [e_X12_isFree_7, m_isBurnt hs (k := o) (by omega), hbu, e_X12_isFree_44, Bool.false_and, true_and, and_true, false_and, and_false, beq_t, beq_f, eqN_t, eqN_f, eqL_t, eqL_f, nm1, nm2, nm1', nm2', m1z, m2z, zm1, zm2, m12, m21, lg_cmp_ge, lg_cmp_le, lg_cmp_gt, lg_cmp_lt, lg_cmp_eq, oob, oobL, neg0, negL0, natle_f, or_false, false_or, true_or, or_true, or_self, cl, clL, le_t, le_f, lt_t, lt_f, leL_t, leL_f, ltL_t, ltL_f, leM_t, leM_f, ltM_t, ltM_f, leO_t, leO_f, cond_true, cond_false, Option.bind_some, Option.bind_none, if_false, if_true, nI_1, aL1, aL2, mL1, mL2, nI_add, pk_mul, pk_m1, sL1, dL1, pk_sub, m1p1, gIs_eq, gIs_k, gIs_i, gIs_n, gIs_e, gIJ, gIR, gJI, gJR, gJs_eq, gJs_k, gJs_n, gJs_e, gRI, gRJ, gRs_eq, gRs_k, gRs_i, gRs_n, gZI, gZJ, gZR, pI_s, pJ_s, pV_s, pR_s, pR_n, oR_n, oR_s, decide_true, decide_false, not_true_eq_false, not_false_eq_true, decT, decF, Bool.true_eq_false, Bool.false_eq_true, z01, o01, z1f, z1f', zz, oo, b2i_0, b2i_n, b2i_t, b2i_f, Bool.not_true, Bool.not_false]
        exact ih
      · by_cases he : b o = j
        · unfold nxS
          have x2 := m_besideOf hs hk
          rw [bb2] at x2 ⊢
          have e6 := bit6 (b := bb) (j := o) (by omega) (by omega)
          have h01 : bb / 2 ^ o % 2 = 0 ∨ bb / 2 ^ o % 2 = 1 := by omega
          rcases h01 with h01 | h01
          · rw [h01] at e6
            simp (disch := omega) only [e_X12_isFree_7, m_isBurnt hs (k := o) (by omega), hbu, e_X12_isFree_15, x1, hkj, he, e_X12_isFree_30, x2, p_X12_isOf, e6, e_X12_isFree_44, Bool.and_false, true_and, and_true, false_and, and_false, beq_t, beq_f, eqN_t, eqN_f, eqL_t, eqL_f, nm1, nm2, nm1', nm2', m1z, m2z, zm1, zm2, m12, m21, lg_cmp_ge, lg_cmp_le, lg_cmp_gt, lg_cmp_lt, lg_cmp_eq, oob, oobL, neg0, negL0, natle_f, or_false, false_or, true_or, or_true, or_self, cl, clL, le_t, le_f, lt_t, lt_f, leL_t, leL_f, ltL_t, ltL_f, leM_t, leM_f, ltM_t, ltM_f, leO_t, leO_f, cond_true, cond_false, Option.bind_some, Option.bind_none, if_false, if_true, nI_1, aL1, aL2, mL1, mL2, nI_add, pk_mul, pk_m1, sL1, dL1, pk_sub, m1p1, gIs_eq, gIs_k, gIs_i, gIs_n, gIs_e, gIJ, gIR, gJI, gJR, gJs_eq, gJs_k, gJs_n, gJs_e, gRI, gRJ, gRs_eq, gRs_k, gRs_i, gRs_n, gZI, gZJ, gZR, pI_s, pJ_s, pV_s, pR_s, pR_n, oR_n, oR_s, decide_true, decide_false, not_true_eq_false, not_false_eq_true, decT, decF, Bool.true_eq_false, Bool.false_eq_true, z01, o01, z1f, z1f', zz, oo, b2i_0, b2i_n, b2i_t, b2i_f, Bool.not_true, Bool.not_false]
            exact ih
          · rw [h01] at e6
            simp (disch := omega) only [e_X12_isFree_7, m_isBurnt hs (k := o) (by omega), hbu, e_X12_isFree_15, x1, hkj, he, e_X12_isFree_30, x2, p_X12_isOf, e6, e_X12_isFree_42, Bool.and_self, true_and, and_true, false_and, and_false, beq_t, beq_f, eqN_t, eqN_f, eqL_t, eqL_f, nm1, nm2, nm1', nm2', m1z, m2z, zm1, zm2, m12, m21, lg_cmp_ge, lg_cmp_le, lg_cmp_gt, lg_cmp_lt, lg_cmp_eq, oob, oobL, neg0, negL0, natle_f, or_false, false_or, true_or, or_true, or_self, cl, clL, le_t, le_f, lt_t, lt_f, leL_t, leL_f, ltL_t, ltL_f, leM_t, leM_f, ltM_t, ltM_f, leO_t, leO_f, cond_true, cond_false, Option.bind_some, Option.bind_none, if_false, if_true, nI_1, aL1, aL2, mL1, mL2, nI_add, pk_mul, pk_m1, sL1, dL1, pk_sub, m1p1, gIs_eq, gIs_k, gIs_i, gIs_n, gIs_e, gIJ, gIR, gJI, gJR, gJs_eq, gJs_k, gJs_n, gJs_e, gRI, gRJ, gRs_eq, gRs_k, gRs_i, gRs_n, gZI, gZJ, gZR, pI_s, pJ_s, pV_s, pR_s, pR_n, oR_n, oR_s, decide_true, decide_false, not_true_eq_false, not_false_eq_true, decT, decF, Bool.true_eq_false, Bool.false_eq_true, z01, o01, z1f, z1f', zz, oo, b2i_0, b2i_n, b2i_t, b2i_f, Bool.not_true, Bool.not_false]
        · simp (disch := omega) only [e_X12_isFree_7, m_isBurnt hs (k := o) (by omega), hbu, e_X12_isFree_15, x1, hkj, he, e_X12_isFree_44, Bool.and_false, Bool.false_and, true_and, and_true, false_and, and_false, beq_t, beq_f, eqN_t, eqN_f, eqL_t, eqL_f, nm1, nm2, nm1', nm2', m1z, m2z, zm1, zm2, m12, m21, lg_cmp_ge, lg_cmp_le, lg_cmp_gt, lg_cmp_lt, lg_cmp_eq, oob, oobL, neg0, negL0, natle_f, or_false, false_or, true_or, or_true, or_self, cl, clL, le_t, le_f, lt_t, lt_f, leL_t, leL_f, ltL_t, ltL_f, leM_t, leM_f, ltM_t, ltM_f, leO_t, leO_f, cond_true, cond_false, Option.bind_some, Option.bind_none, if_false, if_true, nI_1, aL1, aL2, mL1, mL2, nI_add, pk_mul, pk_m1, sL1, dL1, pk_sub, m1p1, gIs_eq, gIs_k, gIs_i, gIs_n, gIs_e, gIJ, gIR, gJI, gJR, gJs_eq, gJs_k, gJs_n, gJs_e, gRI, gRJ, gRs_eq, gRs_k, gRs_i, gRs_n, gZI, gZJ, gZR, pI_s, pJ_s, pV_s, pR_s, pR_n, oR_n, oR_s, decide_true, decide_false, not_true_eq_false, not_false_eq_true, decT, decF, Bool.true_eq_false, Bool.false_eq_true, z01, o01, z1f, z1f', zz, oo, b2i_0, b2i_n, b2i_t, b2i_f, Bool.not_true, Bool.not_false]
          exact ih
  have := key k 0 (by omega)
  rw [nI_0] at this
  rw [f_X12_isFree, e_X12_isFree_0, this]
  rfl
theorem dn_p1 (j : Nat) : dn j + 1 = nI j := by
  cases j with
  | zero => exact m1p1
  | succ j => exact nI_1 j
def SitI (d : Dl) (s : Sc) (many n : Nat) : Prop := ∀ (k : Nat) (b : Nat → Nat) (w : XW), k + n = kn d → MdAt w d → MsAt w s → BnM w s b k → gI w 56 0 k = dn 0 →
    ∃ w', Fr P56 w w' ∧ (∀ o, o < k → gI w' 56 0 o = gI w 56 0 o) ∧ (∀ b', sitS s many n k b = some b' → q_X12_isDoneBy_9 (nI many) (nI k) w = some (some (.inl (.int 1)), w') ∧ BnM w' s b' (kn d)) ∧ (sitS s many n k b = none → q_X12_isDoneBy_9 (nI many) (nI k) w = q_X12_isDoneBy_9 (nI many) (dn k) w')
theorem dn_0 : dn 0 = -1 := rfl
theorem m_st {d : Dl} (hD : DOk d) {s : Sc} {w v : XW} (hd : MdAt w d) (hs : MsAt w s) (hF : Fr P56 w v) : gI v 50 0 3 = nI (kn d) ∧ MdAt v d ∧ MsAt v s := by
  have := hd.fr hF (fun k q => by unfold P56; omega)
  exact ⟨by rw [this.1 3 (by omega)]; exact hD.1.1, this, hs.fr hF (fun k q => by unfold P56; omega)⟩
theorem m_lay {d : Dl} (hD : DOk d) {s : Sc} {many n k : Nat} (ih : SitI d s many n) (hk : k + (n + 1) = kn d) {b : Nat → Nat} {w : XW} (hd : MdAt w d) (hs : MsAt w s) (hb : BnM w s b k) (v : XW) (j : Nat) (hF : Fr P56 w v) (hv : ∀ o, o < k → gI v 56 0 o = gI w 56 0 o) (hkj : gI v 56 0 k = nI j) (hj : j < 60000) :
    ∃ w', Fr P56 w w' ∧ (∀ o, o < k → gI w' 56 0 o = gI w 56 0 o) ∧ gI w' 56 0 k = nI j ∧ (∀ b', sitS s many n (k + 1) (updN b k j) = some b' → q_X12_isDoneBy_79 (nI many) (nI k) v = some (some (.inl (.int 1)), w') ∧ BnM w' s b' (kn d)) ∧ (sitS s many n (k + 1) (updN b k j) = none → q_X12_isDoneBy_79 (nI many) (nI k) v = q_X12_isDoneBy_9 (nI many) (nI k) w') := by
  have h6 := hD.1.2
  have hF1 : Fr P56 w (sI v 56 0 (k + 1) (-1)) := hF.sI (by unfold P56; omega)
  obtain ⟨g, hd1, hs1⟩ := m_st hD hd hs hF1
  have hb1 : BnM (sI v 56 0 (k + 1) (-1)) s (updN b k j) (k + 1) := fun o ho => by
    rw [gIs_k (by omega)]
    by_cases e : o = k
    · subst e
      rw [updN_s]
      exact ⟨hkj, hj⟩
    · rw [updN_n e, hv o (by omega)]
      exact hb o (by omega)
  obtain ⟨w', a1, a2, a3, a4⟩ := ih (k + 1) (updN b k j) (sI v 56 0 (k + 1) (-1)) (by omega) hd1 hs1 hb1 (by rw [dn_0]; exact gIs_eq)
  rw [dn_s] at a4
  refine ⟨w', hF1.trans a1, fun o ho => by rw [a2 o (by omega), gIs_k (by omega)]; exact hv o ho, by rw [a2 k (by omega), gIs_k (by omega)]; exact hkj, fun b' hb' => ?_, fun hn => ?_⟩
  · obtain ⟨y1, y2⟩ := a3 b' hb'
    refine ⟨?_, y2⟩
    rw [e_X12_isDoneBy_79]
    simp (disch := omega) only [e_X12_isDoneBy_89, true_and, and_true, false_and, and_false, beq_t, beq_f, eqN_t, eqN_f, eqL_t, eqL_f, nm1, nm2, nm1', nm2', m1z, m2z, zm1, zm2, m12, m21, lg_cmp_ge, lg_cmp_le, lg_cmp_gt, lg_cmp_lt, lg_cmp_eq, oob, oobL, neg0, negL0, natle_f, or_false, false_or, true_or, or_true, or_self, cl, clL, le_t, le_f, lt_t, lt_f, leL_t, leL_f, ltL_t, ltL_f, leM_t, leM_f, ltM_t, ltM_f, leO_t, leO_f, cond_true, cond_false, Option.bind_some, Option.bind_none, if_false, if_true, nI_1, aL1, aL2, mL1, mL2, nI_add, pk_mul, pk_m1, sL1, dL1, pk_sub, m1p1, gIs_eq, gIs_k, gIs_i, gIs_n, gIs_e, gIJ, gIR, gJI, gJR, gJs_eq, gJs_k, gJs_n, gJs_e, gRI, gRJ, gRs_eq, gRs_k, gRs_i, gRs_n, gZI, gZJ, gZR, pI_s, pJ_s, pV_s, pR_s, pR_n, oR_n, oR_s, decide_true, decide_false, not_true_eq_false, not_false_eq_true, decT, decF, Bool.true_eq_false, Bool.false_eq_true, z01, o01, z1f, z1f', zz, oo, b2i_0, b2i_n, b2i_t, b2i_f, Bool.not_true, Bool.not_false]
    exact y1
  · rw [e_X12_isDoneBy_79]
    simp (disch := omega) only [e_X12_isDoneBy_89, true_and, and_true, false_and, and_false, beq_t, beq_f, eqN_t, eqN_f, eqL_t, eqL_f, nm1, nm2, nm1', nm2', m1z, m2z, zm1, zm2, m12, m21, lg_cmp_ge, lg_cmp_le, lg_cmp_gt, lg_cmp_lt, lg_cmp_eq, oob, oobL, neg0, negL0, natle_f, or_false, false_or, true_or, or_true, or_self, cl, clL, le_t, le_f, lt_t, lt_f, leL_t, leL_f, ltL_t, ltL_f, leM_t, leM_f, ltM_t, ltM_f, leO_t, leO_f, cond_true, cond_false, Option.bind_some, Option.bind_none, if_false, if_true, nI_1, aL1, aL2, mL1, mL2, nI_add, pk_mul, pk_m1, sL1, dL1, pk_sub, m1p1, gIs_eq, gIs_k, gIs_i, gIs_n, gIs_e, gIJ, gIR, gJI, gJR, gJs_eq, gJs_k, gJs_n, gJs_e, gRI, gRJ, gRs_eq, gRs_k, gRs_i, gRs_n, gZI, gZJ, gZR, pI_s, pJ_s, pV_s, pR_s, pR_n, oR_n, oR_s, decide_true, decide_false, not_true_eq_false, not_false_eq_true, decT, decF, Bool.true_eq_false, Bool.false_eq_true, z01, o01, z1f, z1f', zz, oo, b2i_0, b2i_n, b2i_t, b2i_f, Bool.not_true, Bool.not_false]
    exact a4 hn
theorem sit_b {s : Sc} {many n k : Nat} {b : Nat → Nat} (hbu : s.2.2.2.1 k = -2) : sitS s many (n + 1) k b = sitS s many n (k + 1) (updN b k 0) := by
  show (bif decide (s.2.2.2.1 k = -2) then _ else _) = _
  rw [decT hbu]
  rfl
theorem sit_f {s : Sc} {many n k : Nat} {b : Nat → Nat} (hbu : ¬ s.2.2.2.1 k = -2) : sitS s many (n + 1) k b = trS (fun j => bif frS s b k j 0 k then sitS s many n (k + 1) (updN b k j) else none) 0 many := by
  show (bif decide (s.2.2.2.1 k = -2) then _ else _) = _
  rw [decF hbu]
  rfl
theorem m_sitB {d : Dl} (hD : DOk d) {s : Sc} {many n k : Nat} (ih : SitI d s many n) (hk : k + (n + 1) = kn d) {b : Nat → Nat} {w : XW} (hd : MdAt w d) (hs : MsAt w s) (hb : BnM w s b k) (h1 : gI w 56 0 k = dn 0) (hbu : s.2.2.2.1 k = -2) :
    ∃ w', Fr P56 w w' ∧ (∀ o, o < k → gI w' 56 0 o = gI w 56 0 o) ∧ (∀ b', sitS s many (n + 1) k b = some b' → q_X12_isDoneBy_9 (nI many) (nI k) w = some (some (.inl (.int 1)), w') ∧ BnM w' s b' (kn d)) ∧ (sitS s many (n + 1) k b = none → q_X12_isDoneBy_9 (nI many) (nI k) w = q_X12_isDoneBy_9 (nI many) (dn k) w') := by
  have h6 := hD.1.2
  rw [sit_b hbu]
  have hF1 : Fr P56 w (sI w 56 0 k (nI 0)) := (Fr.refl _ _).sI (by unfold P56; omega)
  obtain ⟨g, _, hs0⟩ := m_st hD hd hs (Fr.refl P56 w)
  obtain ⟨_, _, hs1⟩ := m_st hD hd hs hF1
  obtain ⟨w', a1, a2, a3, a4, a5⟩ := m_lay hD ih hk hd hs hb (sI w 56 0 k (nI 0)) 0 hF1 (fun o ho => gIs_k (by omega)) gIs_eq (by omega)
  have head : q_X12_isDoneBy_9 (nI many) (nI k) w = q_X12_isDoneBy_79 (nI many) (nI k) (sI w 56 0 k (nI 0)) := by
    rw [e_X12_isDoneBy_9]
    simp (disch := omega) only [e_X12_isDoneBy_13, g, e_X12_isDoneBy_23, m_isBurnt hs0 (k := k) (by omega), hbu, e_X12_isDoneBy_31, e_X12_isDoneBy_36, h1, dn_p1, e_X12_isDoneBy_63, m_isBurnt hs1 (k := k) (by omega), true_and, and_true, false_and, and_false, beq_t, beq_f, eqN_t, eqN_f, eqL_t, eqL_f, nm1, nm2, nm1', nm2', m1z, m2z, zm1, zm2, m12, m21, lg_cmp_ge, lg_cmp_le, lg_cmp_gt, lg_cmp_lt, lg_cmp_eq, oob, oobL, neg0, negL0, natle_f, or_false, false_or, true_or, or_true, or_self, cl, clL, le_t, le_f, lt_t, lt_f, leL_t, leL_f, ltL_t, ltL_f, leM_t, leM_f, ltM_t, ltM_f, leO_t, leO_f, cond_true, cond_false, Option.bind_some, Option.bind_none, if_false, if_true, nI_1, aL1, aL2, mL1, mL2, nI_add, pk_mul, pk_m1, sL1, dL1, pk_sub, m1p1, gIs_eq, gIs_k, gIs_i, gIs_n, gIs_e, gIJ, gIR, gJI, gJR, gJs_eq, gJs_k, gJs_n, gJs_e, gRI, gRJ, gRs_eq, gRs_k, gRs_i, gRs_n, gZI, gZJ, gZR, pI_s, pJ_s, pV_s, pR_s, pR_n, oR_n, oR_s, decide_true, decide_false, not_true_eq_false, not_false_eq_true, decT, decF, Bool.true_eq_false, Bool.false_eq_true, z01, o01, z1f, z1f', zz, oo, b2i_0, b2i_n, b2i_t, b2i_f, Bool.not_true, Bool.not_false]
  cases hsit : sitS s many n (k + 1) (updN b k 0) with
  | some r =>
    refine ⟨w', a1, a2, fun b' hb' => ?_, fun h => by cases h⟩
    cases hb'
    rw [head]
    exact a4 r hsit
  | none =>
    have hF2 := a1.sI (κ := 56) (i := 0) (k := k) (v := nI (0 + 1)) (by unfold P56; omega)
    obtain ⟨g', _, hs'⟩ := m_st hD hd hs a1
    refine ⟨sI w' 56 0 k (nI (0 + 1)), hF2, fun o ho => by rw [gIs_k (by omega)]; exact a2 o ho, (fun b' hb' => by cases hb'), fun _ => ?_⟩
    rw [head, a5 hsit, e_X12_isDoneBy_9]
    simp (disch := omega) only [e_X12_isDoneBy_13, g', e_X12_isDoneBy_23, m_isBurnt hs' (k := k) (by omega), hbu, e_X12_isDoneBy_31, e_X12_isDoneBy_36, a3, e_X12_isDoneBy_57, e_X12_isDoneBy_89, dn_m1, true_and, and_true, false_and, and_false, beq_t, beq_f, eqN_t, eqN_f, eqL_t, eqL_f, nm1, nm2, nm1', nm2', m1z, m2z, zm1, zm2, m12, m21, lg_cmp_ge, lg_cmp_le, lg_cmp_gt, lg_cmp_lt, lg_cmp_eq, oob, oobL, neg0, negL0, natle_f, or_false, false_or, true_or, or_true, or_self, cl, clL, le_t, le_f, lt_t, lt_f, leL_t, leL_f, ltL_t, ltL_f, leM_t, leM_f, ltM_t, ltM_f, leO_t, leO_f, cond_true, cond_false, Option.bind_some, Option.bind_none, if_false, if_true, nI_1, aL1, aL2, mL1, mL2, nI_add, pk_mul, pk_m1, sL1, dL1, pk_sub, m1p1, gIs_eq, gIs_k, gIs_i, gIs_n, gIs_e, gIJ, gIR, gJI, gJR, gJs_eq, gJs_k, gJs_n, gJs_e, gRI, gRJ, gRs_eq, gRs_k, gRs_i, gRs_n, gZI, gZJ, gZR, pI_s, pJ_s, pV_s, pR_s, pR_n, oR_n, oR_s, decide_true, decide_false, not_true_eq_false, not_false_eq_true, decT, decF, Bool.true_eq_false, Bool.false_eq_true, z01, o01, z1f, z1f', zz, oo, b2i_0, b2i_n, b2i_t, b2i_f, Bool.not_true, Bool.not_false]
theorem m_sitF {d : Dl} (hD : DOk d) {s : Sc} (hS : SOk d s) {many n k : Nat} (hm : many ≤ 6) (ih : SitI d s many n) (hk : k + (n + 1) = kn d) {b : Nat → Nat} {w : XW} (hd : MdAt w d) (hs : MsAt w s) (hb : BnM w s b k) (hbu : ¬ s.2.2.2.1 k = -2) :
    ∀ m j v, j + m = many → Fr P56 w v → (∀ o, o < k → gI v 56 0 o = gI w 56 0 o) → gI v 56 0 k = dn j → ∃ w', Fr P56 w w' ∧ (∀ o, o < k → gI w' 56 0 o = gI w 56 0 o) ∧ (∀ b', trS (fun j => bif frS s b k j 0 k then sitS s many n (k + 1) (updN b k j) else none) j m = some b' → q_X12_isDoneBy_9 (nI many) (nI k) v = some (some (.inl (.int 1)), w') ∧ BnM w' s b' (kn d)) ∧ (trS (fun j => bif frS s b k j 0 k then sitS s many n (k + 1) (updN b k j) else none) j m = none → q_X12_isDoneBy_9 (nI many) (nI k) v = q_X12_isDoneBy_9 (nI many) (dn k) w') := by
  have h6 := hD.1.2
  intro m
  induction m with
  | zero =>
    intro j v hj hF hv hkj
    rw [trS_0]
    obtain ⟨g, _, hsv⟩ := m_st hD hd hs hF
    refine ⟨sI v 56 0 k (nI j), hF.sI (by unfold P56; omega), fun o ho => by rw [gIs_k (by omega)]; exact hv o ho, (fun b' hb' => by cases hb'), fun _ => ?_⟩
    rw [e_X12_isDoneBy_9]
    simp (disch := omega) only [e_X12_isDoneBy_13, g, e_X12_isDoneBy_23, m_isBurnt hsv (k := k) (by omega), hbu, e_X12_isDoneBy_35, e_X12_isDoneBy_36, hkj, dn_p1, e_X12_isDoneBy_57, e_X12_isDoneBy_89, dn_m1, true_and, and_true, false_and, and_false, beq_t, beq_f, eqN_t, eqN_f, eqL_t, eqL_f, nm1, nm2, nm1', nm2', m1z, m2z, zm1, zm2, m12, m21, lg_cmp_ge, lg_cmp_le, lg_cmp_gt, lg_cmp_lt, lg_cmp_eq, oob, oobL, neg0, negL0, natle_f, or_false, false_or, true_or, or_true, or_self, cl, clL, le_t, le_f, lt_t, lt_f, leL_t, leL_f, ltL_t, ltL_f, leM_t, leM_f, ltM_t, ltM_f, leO_t, leO_f, cond_true, cond_false, Option.bind_some, Option.bind_none, if_false, if_true, nI_1, aL1, aL2, mL1, mL2, nI_add, pk_mul, pk_m1, sL1, dL1, pk_sub, m1p1, gIs_eq, gIs_k, gIs_i, gIs_n, gIs_e, gIJ, gIR, gJI, gJR, gJs_eq, gJs_k, gJs_n, gJs_e, gRI, gRJ, gRs_eq, gRs_k, gRs_i, gRs_n, gZI, gZJ, gZR, pI_s, pJ_s, pV_s, pR_s, pR_n, oR_n, oR_s, decide_true, decide_false, not_true_eq_false, not_false_eq_true, decT, decF, Bool.true_eq_false, Bool.false_eq_true, z01, o01, z1f, z1f', zz, oo, b2i_0, b2i_n, b2i_t, b2i_f, Bool.not_true, Bool.not_false]
  | succ m ihm =>
    intro j v hj hF hv hkj
    obtain ⟨g, _, hsv⟩ := m_st hD hd hs hF
    have hF1 : Fr P56 w (sI v 56 0 k (nI j)) := hF.sI (by unfold P56; omega)
    obtain ⟨_, _, hs1⟩ := m_st hD hd hs hF1
    have hb1 : BnM (sI v 56 0 k (nI j)) s b k := fun o ho => by
      rw [gIs_k (by omega), hv o ho]
      exact hb o ho
    have fr := m_isFree hS hs1 (k := k) (j := j) (by omega) (by omega) hb1 gIs_eq
    have head : q_X12_isDoneBy_9 (nI many) (nI k) v = (bif !(frS s b k j 0 k) then q_X12_isDoneBy_9 (nI many) (nI k) (sI v 56 0 k (nI j)) else q_X12_isDoneBy_79 (nI many) (nI k) (sI v 56 0 k (nI j))) := by
      rw [e_X12_isDoneBy_9]
      simp (disch := omega) only [e_X12_isDoneBy_13, g, e_X12_isDoneBy_23, m_isBurnt hsv (k := k) (by omega), hbu, e_X12_isDoneBy_35, e_X12_isDoneBy_36, hkj, dn_p1, e_X12_isDoneBy_63, m_isBurnt hs1 (k := k) (by omega), e_X12_isDoneBy_71, fr, e_X12_isDoneBy_89, true_and, and_true, false_and, and_false, beq_t, beq_f, eqN_t, eqN_f, eqL_t, eqL_f, nm1, nm2, nm1', nm2', m1z, m2z, zm1, zm2, m12, m21, lg_cmp_ge, lg_cmp_le, lg_cmp_gt, lg_cmp_lt, lg_cmp_eq, oob, oobL, neg0, negL0, natle_f, or_false, false_or, true_or, or_true, or_self, cl, clL, le_t, le_f, lt_t, lt_f, leL_t, leL_f, ltL_t, ltL_f, leM_t, leM_f, ltM_t, ltM_f, leO_t, leO_f, cond_true, cond_false, Option.bind_some, Option.bind_none, if_false, if_true, nI_1, aL1, aL2, mL1, mL2, nI_add, pk_mul, pk_m1, sL1, dL1, pk_sub, m1p1, gIs_eq, gIs_k, gIs_i, gIs_n, gIs_e, gIJ, gIR, gJI, gJR, gJs_eq, gJs_k, gJs_n, gJs_e, gRI, gRJ, gRs_eq, gRs_k, gRs_i, gRs_n, gZI, gZJ, gZR, pI_s, pJ_s, pV_s, pR_s, pR_n, oR_n, oR_s, decide_true, decide_false, not_true_eq_false, not_false_eq_true, decT, decF, Bool.true_eq_false, Bool.false_eq_true, z01, o01, z1f, z1f', zz, oo, b2i_0, b2i_n, b2i_t, b2i_f, Bool.not_true, Bool.not_false]
    rw [trS_1, head]
    cases hfr : frS s b k j 0 k with
    | false =>
      rw [cond_false, orS_n, Bool.not_false, cond_true]
      exact ihm (j + 1) (sI v 56 0 k (nI j)) (by omega) hF1 (fun o ho => by rw [gIs_k (by omega)]; exact hv o ho) (by rw [dn_s]; exact gIs_eq)
    | true =>
      obtain ⟨w', a1, a2, a3, a4, a5⟩ := m_lay hD ih hk hd hs hb (sI v 56 0 k (nI j)) j hF1 (fun o ho => by rw [gIs_k (by omega)]; exact hv o ho) gIs_eq (by omega)
      rw [cond_true, Bool.not_true, cond_false]
      cases hsit : sitS s many n (k + 1) (updN b k j) with
      | some r =>
        rw [orS_s]
        refine ⟨w', a1, a2, fun b' hb' => ?_, fun h => by cases h⟩
        cases hb'
        exact a4 r hsit
      | none =>
        rw [orS_n, a5 hsit]
        exact ihm (j + 1) w' (by omega) a1 a2 (by rw [dn_s]; exact a3)
theorem m_sits (d : Dl) (hD : DOk d) (s : Sc) (hS : SOk d s) (many : Nat) (hm : many ≤ 6) : ∀ (n : Nat), SitI d s many n := by
  have h6 := hD.1.2
  intro n
  induction n with
  | zero =>
    intro k b w hk hd hs hb h1
    have g : gI w 50 0 3 = nI (kn d) := by rw [hd.1 3 (by omega)]; exact hD.1.1
    refine ⟨w, Fr.refl _ _, fun _ _ => rfl, fun b' hb' => ⟨?_, ?_⟩, fun h => by cases h⟩
    · rw [e_X12_isDoneBy_9]
      simp (disch := omega) only [e_X12_isDoneBy_13, g, e_X12_isDoneBy_92, e_X12_isDoneBy_102, e_X12_isDoneBy_107, true_and, and_true, false_and, and_false, beq_t, beq_f, eqN_t, eqN_f, eqL_t, eqL_f, nm1, nm2, nm1', nm2', m1z, m2z, zm1, zm2, m12, m21, lg_cmp_ge, lg_cmp_le, lg_cmp_gt, lg_cmp_lt, lg_cmp_eq, oob, oobL, neg0, negL0, natle_f, or_false, false_or, true_or, or_true, or_self, cl, clL, le_t, le_f, lt_t, lt_f, leL_t, leL_f, ltL_t, ltL_f, leM_t, leM_f, ltM_t, ltM_f, leO_t, leO_f, cond_true, cond_false, Option.bind_some, Option.bind_none, if_false, if_true, nI_1, aL1, aL2, mL1, mL2, nI_add, pk_mul, pk_m1, sL1, dL1, pk_sub, m1p1, gIs_eq, gIs_k, gIs_i, gIs_n, gIs_e, gIJ, gIR, gJI, gJR, gJs_eq, gJs_k, gJs_n, gJs_e, gRI, gRJ, gRs_eq, gRs_k, gRs_i, gRs_n, gZI, gZJ, gZR, pI_s, pJ_s, pV_s, pR_s, pR_n, oR_n, oR_s, decide_true, decide_false, not_true_eq_false, not_false_eq_true, decT, decF, Bool.true_eq_false, Bool.false_eq_true, z01, o01, z1f, z1f', zz, oo, b2i_0, b2i_n, b2i_t, b2i_f, Bool.not_true, Bool.not_false]
    · cases hb'
      rw [show kn d = k by omega]
      exact hb
  | succ n ih =>
    intro k b w hk hd hs hb h1
    by_cases hbu : s.2.2.2.1 k = -2
    · exact m_sitB hD ih hk hd hs hb h1 hbu
    · rw [sit_f hbu]
      exact m_sitF hD hS hm ih hk hd hs hb hbu many 0 w (by omega) (Fr.refl _ _) (fun _ _ => rfl) h1
theorem m_isDoneBy {w : XW} {d : Dl} (hD : DOk d) {s : Sc} (hS : SOk d s) (hd : MdAt w d) (hs : MsAt w s) {many : Nat} (hm : many ≤ 6) : ∃ w', F_X12_isDoneBy [.inr (11, 0), .inl (.int (nI many))] w = some (b2i (sitS s many (kn d) 0 (fun _ => 0)).isSome, w') ∧ Fr P56 w w' ∧ ∀ b', sitS s many (kn d) 0 (fun _ => 0) = some b' → BnM w' s b' (kn d) := by
  have h6 := hD.1.2
  have hF : Fr P56 w (sI w 56 0 0 (-1)) := (Fr.refl _ _).sI (by unfold P56; omega)
  obtain ⟨w', a1, a2, a3, a4⟩ := m_sits d hD s hS many hm (kn d) 0 (fun _ => 0) (sI w 56 0 0 (-1)) (by omega) (hd.fr hF (fun k q => by unfold P56; omega)) (hs.fr hF (fun k q => by unfold P56; omega)) (fun o ho => absurd ho (by omega)) (by rw [dn_0]; exact gIs_eq)
  rw [nI_0] at a3 a4
  have g : gI w' 50 0 3 = nI (kn d) := by rw [((hF.trans a1) 50 0 3 (by unfold P56; omega)).1, hd.1 3 (by omega)]; exact hD.1.1
  refine ⟨w', ?_, hF.trans a1, fun b' hb' => (a3 b' hb').2⟩
  rw [f_X12_isDoneBy, e_X12_isDoneBy_0]
  cases hsit : sitS s many (kn d) 0 (fun _ => 0) with
  | some r =>
    rw [(a3 r hsit).1]
    rfl
  | none =>
    rw [a4 hsit, e_X12_isDoneBy_9]
    simp (disch := omega) only [dn, e_X12_isDoneBy_92, g, e_X12_isDoneBy_106, e_X12_isDoneBy_107, true_and, and_true, false_and, and_false, beq_t, beq_f, eqN_t, eqN_f, eqL_t, eqL_f, nm1, nm2, nm1', nm2', m1z, m2z, zm1, zm2, m12, m21, lg_cmp_ge, lg_cmp_le, lg_cmp_gt, lg_cmp_lt, lg_cmp_eq, oob, oobL, neg0, negL0, natle_f, or_false, false_or, true_or, or_true, or_self, cl, clL, le_t, le_f, lt_t, lt_f, leL_t, leL_f, ltL_t, ltL_f, leM_t, leM_f, ltM_t, ltM_f, leO_t, leO_f, cond_true, cond_false, Option.bind_some, Option.bind_none, if_false, if_true, nI_1, aL1, aL2, mL1, mL2, nI_add, pk_mul, pk_m1, sL1, dL1, pk_sub, m1p1, gIs_eq, gIs_k, gIs_i, gIs_n, gIs_e, gIJ, gIR, gJI, gJR, gJs_eq, gJs_k, gJs_n, gJs_e, gRI, gRJ, gRs_eq, gRs_k, gRs_i, gRs_n, gZI, gZJ, gZR, pI_s, pJ_s, pV_s, pR_s, pR_n, oR_n, oR_s, decide_true, decide_false, not_true_eq_false, not_false_eq_true, decT, decF, Bool.true_eq_false, Bool.false_eq_true, z01, o01, z1f, z1f', zz, oo, b2i_0, b2i_n, b2i_t, b2i_f, Bool.not_true, Bool.not_false]
    rfl
theorem m_56 {w w' : XW} {d : Dl} {s : Sc} {rs : List Rl} {f : Int32} (h : MX w d s rs f) (hF : Fr P56 w w') : MX w' d s rs f :=
  ⟨h.1.fr hF (fun k q => by unfold P56; omega), h.2.1.fr hF (fun k q => by unfold P56; omega), h.2.2.1.fr hF (fun k q => by unfold P56; omega), h.2.2.2.1.fr hF (fun κ k q => by unfold P56; omega), by rw [(hF 11 0 21 (by unfold P56; omega)).1]; exact h.2.2.2.2.1, by rw [(hF 11 0 23 (by unfold P56; omega)).1]; exact h.2.2.2.2.2⟩
theorem q_apart {d : Dl} {s : Sc} {rs : List Rl} {f : Int32} (hO : OX d s rs f) (x : Int32) : QOkk d s rs f (F_X11_apart [.inr (10, 0), .inl (.int x)]) (F_X12_apart [.inr (11, 0), .inl (.int x)]) := by
  have hD := hO.1.1
  have h6 := hD.1.2
  have hS := hO.2.1.1
  rcases told01 hO.1.2 with ht | ht
  · by_cases c1 : (¬ x < -1 ∧ ¬ 5 < x)
    · -- both look for the fewest
      have key : ∀ m many, many + m = 6 → ∃ z b, z ≤ 6 ∧ (∀ w, CX w d s rs f → ∃ w', q_X0_fewest_2 0 (nI many) w = some (some (.inl (.int (nI z))), w') ∧ Fr P12 w w' ∧ BnC w' s b (kn d)) ∧ (∀ w, MX w d s rs f → ∃ w', q_X12_apart_26 x (nI many) w = q_X12_apart_40 x (nI z) w' ∧ Fr P56 w w' ∧ BnM w' s b (kn d)) := by
        intro m
        induction m with
        | zero =>
          intro many hm
          have e6 : many = 6 := by omega
          subst e6
          obtain ⟨b, hb⟩ := Option.isSome_iff_exists.mp (sit6 s (kn d) 0 (fun _ => 0) (by omega))
          refine ⟨6, b, by omega, fun w hC => ?_, fun w hM => ?_⟩
          · obtain ⟨w', a1, a2, a3, a4⟩ := c_canSit d hD s hS 6 (by omega) (kn d) 8 0 (fun _ => 0) w (by omega) (by omega) hC.2.1.1 hC.2.1.2 (fun o ho => absurd ho (by omega))
            rw [hb, nI_0] at a1
            refine ⟨w', ?_, a2, a4 b hb⟩
            have a1 : F_X0_canSit 8 [.inr (0, 0), .inr (8, 0), .inl (.int 0), .inl (.int 6)] w = some (b2i true, w') := a1
            ((try dsimp only); rw [e_X0_fewest_2]; simp (disch := omega) only [e_X0_fewest_26, a1, e_X0_fewest_37, e_X0_fewest_43, true_and, and_true, false_and, and_false, beq_t, beq_f, eqN_t, eqN_f, eqL_t, eqL_f, nm1, nm2, nm1', nm2', m1z, m2z, zm1, zm2, m12, m21, lg_cmp_ge, lg_cmp_le, lg_cmp_gt, lg_cmp_lt, lg_cmp_eq, oob, oobL, neg0, negL0, natle_f, or_false, false_or, true_or, or_true, or_self, cl, clL, le_t, le_f, lt_t, lt_f, leL_t, leL_f, ltL_t, ltL_f, leM_t, leM_f, ltM_t, ltM_f, leO_t, leO_f, cond_true, cond_false, Option.bind_some, Option.bind_none, if_false, if_true, nI_1, aL1, aL2, mL1, mL2, nI_add, pk_mul, pk_m1, sL1, dL1, pk_sub, m1p1, gIs_eq, gIs_k, gIs_i, gIs_n, gIs_e, gIJ, gIR, gJI, gJR, gJs_eq, gJs_k, gJs_n, gJs_e, gRI, gRJ, gRs_eq, gRs_k, gRs_i, gRs_n, gZI, gZJ, gZR, pI_s, pJ_s, pV_s, pR_s, pR_n, oR_n, oR_s, decide_true, decide_false, not_true_eq_false, not_false_eq_true, decT, decF, Bool.true_eq_false, Bool.false_eq_true, z01, o01, z1f, z1f', zz, oo, b2i_0, b2i_n, b2i_t, b2i_f, Bool.not_true, Bool.not_false])
            rfl
          · obtain ⟨w', a1, a2, a3⟩ := m_isDoneBy hD hS hM.1 hM.2.2.1 (many := 6) (by omega)
            rw [hb] at a1
            refine ⟨w', ?_, a2, a3 b hb⟩
            rw [e_X12_apart_26, a1]
            simp (disch := omega) only [Option.isSome_some, true_and, and_true, false_and, and_false, beq_t, beq_f, eqN_t, eqN_f, eqL_t, eqL_f, nm1, nm2, nm1', nm2', m1z, m2z, zm1, zm2, m12, m21, lg_cmp_ge, lg_cmp_le, lg_cmp_gt, lg_cmp_lt, lg_cmp_eq, oob, oobL, neg0, negL0, natle_f, or_false, false_or, true_or, or_true, or_self, cl, clL, le_t, le_f, lt_t, lt_f, leL_t, leL_f, ltL_t, ltL_f, leM_t, leM_f, ltM_t, ltM_f, leO_t, leO_f, cond_true, cond_false, Option.bind_some, Option.bind_none, if_false, if_true, nI_1, aL1, aL2, mL1, mL2, nI_add, pk_mul, pk_m1, sL1, dL1, pk_sub, m1p1, gIs_eq, gIs_k, gIs_i, gIs_n, gIs_e, gIJ, gIR, gJI, gJR, gJs_eq, gJs_k, gJs_n, gJs_e, gRI, gRJ, gRs_eq, gRs_k, gRs_i, gRs_n, gZI, gZJ, gZR, pI_s, pJ_s, pV_s, pR_s, pR_n, oR_n, oR_s, decide_true, decide_false, not_true_eq_false, not_false_eq_true, decT, decF, Bool.true_eq_false, Bool.false_eq_true, z01, o01, z1f, z1f', zz, oo, b2i_0, b2i_n, b2i_t, b2i_f, Bool.not_true, Bool.not_false]
        | succ m ih =>
          intro many hm
          cases hb : sitS s many (kn d) 0 (fun _ => 0) with
          | some b =>
            refine ⟨many, b, by omega, fun w hC => ?_, fun w hM => ?_⟩
            · obtain ⟨w', a1, a2, a3, a4⟩ := c_canSit d hD s hS many (by omega) (kn d) 8 0 (fun _ => 0) w (by omega) (by omega) hC.2.1.1 hC.2.1.2 (fun o ho => absurd ho (by omega))
              rw [hb, nI_0] at a1
              refine ⟨w', ?_, a2, a4 b hb⟩
              ((try dsimp only); rw [e_X0_fewest_2]; simp (disch := omega) only [e_X0_fewest_8, a1, Option.isSome_some, e_X0_fewest_18, true_and, and_true, false_and, and_false, beq_t, beq_f, eqN_t, eqN_f, eqL_t, eqL_f, nm1, nm2, nm1', nm2', m1z, m2z, zm1, zm2, m12, m21, lg_cmp_ge, lg_cmp_le, lg_cmp_gt, lg_cmp_lt, lg_cmp_eq, oob, oobL, neg0, negL0, natle_f, or_false, false_or, true_or, or_true, or_self, cl, clL, le_t, le_f, lt_t, lt_f, leL_t, leL_f, ltL_t, ltL_f, leM_t, leM_f, ltM_t, ltM_f, leO_t, leO_f, cond_true, cond_false, Option.bind_some, Option.bind_none, if_false, if_true, nI_1, aL1, aL2, mL1, mL2, nI_add, pk_mul, pk_m1, sL1, dL1, pk_sub, m1p1, gIs_eq, gIs_k, gIs_i, gIs_n, gIs_e, gIJ, gIR, gJI, gJR, gJs_eq, gJs_k, gJs_n, gJs_e, gRI, gRJ, gRs_eq, gRs_k, gRs_i, gRs_n, gZI, gZJ, gZR, pI_s, pJ_s, pV_s, pR_s, pR_n, oR_n, oR_s, decide_true, decide_false, not_true_eq_false, not_false_eq_true, decT, decF, Bool.true_eq_false, Bool.false_eq_true, z01, o01, z1f, z1f', zz, oo, b2i_0, b2i_n, b2i_t, b2i_f, Bool.not_true, Bool.not_false])
            · obtain ⟨w', a1, a2, a3⟩ := m_isDoneBy hD hS hM.1 hM.2.2.1 (many := many) (by omega)
              rw [hb] at a1
              refine ⟨w', ?_, a2, a3 b hb⟩
              rw [e_X12_apart_26, a1]
              simp (disch := omega) only [Option.isSome_some, true_and, and_true, false_and, and_false, beq_t, beq_f, eqN_t, eqN_f, eqL_t, eqL_f, nm1, nm2, nm1', nm2', m1z, m2z, zm1, zm2, m12, m21, lg_cmp_ge, lg_cmp_le, lg_cmp_gt, lg_cmp_lt, lg_cmp_eq, oob, oobL, neg0, negL0, natle_f, or_false, false_or, true_or, or_true, or_self, cl, clL, le_t, le_f, lt_t, lt_f, leL_t, leL_f, ltL_t, ltL_f, leM_t, leM_f, ltM_t, ltM_f, leO_t, leO_f, cond_true, cond_false, Option.bind_some, Option.bind_none, if_false, if_true, nI_1, aL1, aL2, mL1, mL2, nI_add, pk_mul, pk_m1, sL1, dL1, pk_sub, m1p1, gIs_eq, gIs_k, gIs_i, gIs_n, gIs_e, gIJ, gIR, gJI, gJR, gJs_eq, gJs_k, gJs_n, gJs_e, gRI, gRJ, gRs_eq, gRs_k, gRs_i, gRs_n, gZI, gZJ, gZR, pI_s, pJ_s, pV_s, pR_s, pR_n, oR_n, oR_s, decide_true, decide_false, not_true_eq_false, not_false_eq_true, decT, decF, Bool.true_eq_false, Bool.false_eq_true, z01, o01, z1f, z1f', zz, oo, b2i_0, b2i_n, b2i_t, b2i_f, Bool.not_true, Bool.not_false]
          | none =>
            obtain ⟨z, b, hz, i1, i2⟩ := ih (many + 1) (by omega)
            refine ⟨z, b, hz, fun w hC => ?_, fun w hM => ?_⟩
            · obtain ⟨w1, a1, a2, a3, a4⟩ := c_canSit d hD s hS many (by omega) (kn d) 8 0 (fun _ => 0) w (by omega) (by omega) hC.2.1.1 hC.2.1.2 (fun o ho => absurd ho (by omega))
              rw [hb, nI_0] at a1
              obtain ⟨w', y1, y2, y3⟩ := i1 w1 (hC.frk (a2.mono (fun κ i k q => by unfold P12 at q; unfold  PQk; omega)))
              refine ⟨w', ?_, a2.trans y2, y3⟩
              ((try dsimp only); rw [e_X0_fewest_2]; simp (disch := omega) only [e_X0_fewest_8, a1, Option.isSome_none, e_X0_fewest_20, true_and, and_true, false_and, and_false, beq_t, beq_f, eqN_t, eqN_f, eqL_t, eqL_f, nm1, nm2, nm1', nm2', m1z, m2z, zm1, zm2, m12, m21, lg_cmp_ge, lg_cmp_le, lg_cmp_gt, lg_cmp_lt, lg_cmp_eq, oob, oobL, neg0, negL0, natle_f, or_false, false_or, true_or, or_true, or_self, cl, clL, le_t, le_f, lt_t, lt_f, leL_t, leL_f, ltL_t, ltL_f, leM_t, leM_f, ltM_t, ltM_f, leO_t, leO_f, cond_true, cond_false, Option.bind_some, Option.bind_none, if_false, if_true, nI_1, aL1, aL2, mL1, mL2, nI_add, pk_mul, pk_m1, sL1, dL1, pk_sub, m1p1, gIs_eq, gIs_k, gIs_i, gIs_n, gIs_e, gIJ, gIR, gJI, gJR, gJs_eq, gJs_k, gJs_n, gJs_e, gRI, gRJ, gRs_eq, gRs_k, gRs_i, gRs_n, gZI, gZJ, gZR, pI_s, pJ_s, pV_s, pR_s, pR_n, oR_n, oR_s, decide_true, decide_false, not_true_eq_false, not_false_eq_true, decT, decF, Bool.true_eq_false, Bool.false_eq_true, z01, o01, z1f, z1f', zz, oo, b2i_0, b2i_n, b2i_t, b2i_f, Bool.not_true, Bool.not_false])
              exact y1
            · obtain ⟨w1, a1, a2, a3⟩ := m_isDoneBy hD hS hM.1 hM.2.2.1 (many := many) (by omega)
              rw [hb] at a1
              obtain ⟨w', y1, y2, y3⟩ := i2 w1 (m_56 hM a2)
              refine ⟨w', ?_, a2.trans y2, y3⟩
              rw [e_X12_apart_26, a1]
              simp (disch := omega) only [Option.isSome_none, e_X12_apart_34, true_and, and_true, false_and, and_false, beq_t, beq_f, eqN_t, eqN_f, eqL_t, eqL_f, nm1, nm2, nm1', nm2', m1z, m2z, zm1, zm2, m12, m21, lg_cmp_ge, lg_cmp_le, lg_cmp_gt, lg_cmp_lt, lg_cmp_eq, oob, oobL, neg0, negL0, natle_f, or_false, false_or, true_or, or_true, or_self, cl, clL, le_t, le_f, lt_t, lt_f, leL_t, leL_f, ltL_t, ltL_f, leM_t, leM_f, ltM_t, ltM_f, leO_t, leO_f, cond_true, cond_false, Option.bind_some, Option.bind_none, if_false, if_true, nI_1, aL1, aL2, mL1, mL2, nI_add, pk_mul, pk_m1, sL1, dL1, pk_sub, m1p1, gIs_eq, gIs_k, gIs_i, gIs_n, gIs_e, gIJ, gIR, gJI, gJR, gJs_eq, gJs_k, gJs_n, gJs_e, gRI, gRJ, gRs_eq, gRs_k, gRs_i, gRs_n, gZI, gZJ, gZR, pI_s, pJ_s, pV_s, pR_s, pR_n, oR_n, oR_s, decide_true, decide_false, not_true_eq_false, not_false_eq_true, decT, decF, Bool.true_eq_false, Bool.false_eq_true, z01, o01, z1f, z1f', zz, oo, b2i_0, b2i_n, b2i_t, b2i_f, Bool.not_true, Bool.not_false]
              exact y1
      obtain ⟨z, b, hz, i1, i2⟩ := key 6 0 (by omega)
      have few : ∀ w, CX w d s rs f → ∃ w', F_X0_fewest [.inr (0, 0), .inr (8, 0)] w = some (nI z, w') ∧ Fr P12 w w' ∧ BnC w' s b (kn d) := fun w hC => by
        obtain ⟨w', y1, y2, y3⟩ := i1 w hC
        refine ⟨w', ?_, y2, y3⟩
        rw [nI_0] at y1
        rw [f_X0_fewest, e_X0_fewest_0, y1]
        rfl
      rw [nI_0] at i2
      by_cases hx1 : x = -1
      · subst hx1
        refine ⟨nI z, fun w hC => ?_, fun w hM => ?_⟩
        · obtain ⟨w', y1, y2, y3⟩ := few w hC
          obtain ⟨⟨jd, x1, x2⟩, _⟩ := hC
          have t0 := x2.1 0 (by omega)
          refine ⟨w', ?_, y2.mono (fun κ i k q => by unfold P12 at q; unfold  PQk; omega)⟩
          rw [f_X11_apart, e_X11_apart_0]
          simp (disch := omega) only [x1, t0, ht, e_X11_apart_10, p_within, c1, e_X11_apart_22, e_X11_apart_38, y1, e_X11_apart_55, e_X11_apart_68, true_and, and_true, false_and, and_false, beq_t, beq_f, eqN_t, eqN_f, eqL_t, eqL_f, nm1, nm2, nm1', nm2', m1z, m2z, zm1, zm2, m12, m21, lg_cmp_ge, lg_cmp_le, lg_cmp_gt, lg_cmp_lt, lg_cmp_eq, oob, oobL, neg0, negL0, natle_f, or_false, false_or, true_or, or_true, or_self, cl, clL, le_t, le_f, lt_t, lt_f, leL_t, leL_f, ltL_t, ltL_f, leM_t, leM_f, ltM_t, ltM_f, leO_t, leO_f, cond_true, cond_false, Option.bind_some, Option.bind_none, if_false, if_true, nI_1, aL1, aL2, mL1, mL2, nI_add, pk_mul, pk_m1, sL1, dL1, pk_sub, m1p1, gIs_eq, gIs_k, gIs_i, gIs_n, gIs_e, gIJ, gIR, gJI, gJR, gJs_eq, gJs_k, gJs_n, gJs_e, gRI, gRJ, gRs_eq, gRs_k, gRs_i, gRs_n, gZI, gZJ, gZR, pI_s, pJ_s, pV_s, pR_s, pR_n, oR_n, oR_s, decide_true, decide_false, not_true_eq_false, not_false_eq_true, decT, decF, Bool.true_eq_false, Bool.false_eq_true, z01, o01, z1f, z1f', zz, oo, b2i_0, b2i_n, b2i_t, b2i_f, Bool.not_true, Bool.not_false]
        · obtain ⟨w', y1, y2, y3⟩ := i2 w hM
          refine ⟨w', ?_, m_56 hM y2, y2.mono (fun κ i k q => by unfold P56 at q; unfold  PQM; omega)⟩
          rw [f_X12_apart, e_X12_apart_0]
          simp (disch := omega) only [m_isDale hM.1, ht, e_X12_apart_7, p_in_m1_5, c1, e_X12_apart_24, y1, e_X12_apart_40, e_X12_apart_45, true_and, and_true, false_and, and_false, beq_t, beq_f, eqN_t, eqN_f, eqL_t, eqL_f, nm1, nm2, nm1', nm2', m1z, m2z, zm1, zm2, m12, m21, lg_cmp_ge, lg_cmp_le, lg_cmp_gt, lg_cmp_lt, lg_cmp_eq, oob, oobL, neg0, negL0, natle_f, or_false, false_or, true_or, or_true, or_self, cl, clL, le_t, le_f, lt_t, lt_f, leL_t, leL_f, ltL_t, ltL_f, leM_t, leM_f, ltM_t, ltM_f, leO_t, leO_f, cond_true, cond_false, Option.bind_some, Option.bind_none, if_false, if_true, nI_1, aL1, aL2, mL1, mL2, nI_add, pk_mul, pk_m1, sL1, dL1, pk_sub, m1p1, gIs_eq, gIs_k, gIs_i, gIs_n, gIs_e, gIJ, gIR, gJI, gJR, gJs_eq, gJs_k, gJs_n, gJs_e, gRI, gRJ, gRs_eq, gRs_k, gRs_i, gRs_n, gZI, gZJ, gZR, pI_s, pJ_s, pV_s, pR_s, pR_n, oR_n, oR_s, decide_true, decide_false, not_true_eq_false, not_false_eq_true, decT, decF, Bool.true_eq_false, Bool.false_eq_true, z01, o01, z1f, z1f', zz, oo, b2i_0, b2i_n, b2i_t, b2i_f, Bool.not_true, Bool.not_false]
      · by_cases hx : (¬ x < 0 ∧ ¬ nI (kn d) ≤ x)
        · obtain ⟨k, hk, rfl⟩ := inK (by omega) hx
          refine ⟨if s.2.2.2.1 k = -2 then -1 else nI (b k), fun w hC => ?_, fun w hM => ?_⟩
          · obtain ⟨w', y1, y2, y3⟩ := few w hC
            have k1 := c_isKeep hC.1 hD (nI k)
            rw [decT hx] at k1
            obtain ⟨⟨jd, x1, x2⟩, _⟩ := hC
            have t0 := x2.1 0 (by omega)
            have y4 := (y3 k hk).1
            refine ⟨w', ?_, y2.mono (fun κ i k q => by unfold P12 at q; unfold  PQk; omega)⟩
            rw [f_X11_apart, e_X11_apart_0]
            simp (disch := omega) only [x1, t0, ht, e_X11_apart_10, p_within, c1, e_X11_apart_22, hx1, e_X11_apart_27, k1, e_X11_apart_38, y1, e_X11_apart_59, y4, e_X11_apart_68, true_and, and_true, false_and, and_false, beq_t, beq_f, eqN_t, eqN_f, eqL_t, eqL_f, nm1, nm2, nm1', nm2', m1z, m2z, zm1, zm2, m12, m21, lg_cmp_ge, lg_cmp_le, lg_cmp_gt, lg_cmp_lt, lg_cmp_eq, oob, oobL, neg0, negL0, natle_f, or_false, false_or, true_or, or_true, or_self, cl, clL, le_t, le_f, lt_t, lt_f, leL_t, leL_f, ltL_t, ltL_f, leM_t, leM_f, ltM_t, ltM_f, leO_t, leO_f, cond_true, cond_false, Option.bind_some, Option.bind_none, if_false, if_true, nI_1, aL1, aL2, mL1, mL2, nI_add, pk_mul, pk_m1, sL1, dL1, pk_sub, m1p1, gIs_eq, gIs_k, gIs_i, gIs_n, gIs_e, gIJ, gIR, gJI, gJR, gJs_eq, gJs_k, gJs_n, gJs_e, gRI, gRJ, gRs_eq, gRs_k, gRs_i, gRs_n, gZI, gZJ, gZR, pI_s, pJ_s, pV_s, pR_s, pR_n, oR_n, oR_s, decide_true, decide_false, not_true_eq_false, not_false_eq_true, decT, decF, Bool.true_eq_false, Bool.false_eq_true, z01, o01, z1f, z1f', zz, oo, b2i_0, b2i_n, b2i_t, b2i_f, Bool.not_true, Bool.not_false]
          · obtain ⟨w', y1, y2, y3⟩ := i2 w hM
            have hM' := m_56 hM y2
            have k1 := m_isKeep hM'.1 hD (nI k)
            rw [decT hx] at k1
            have y4 := (y3 k hk).1
            refine ⟨w', ?_, hM', y2.mono (fun κ i k q => by unfold P56 at q; unfold  PQM; omega)⟩
            rw [f_X12_apart, e_X12_apart_0]
            by_cases hb : s.2.2.2.1 k = -2
            · simp (disch := omega) only [m_isDale hM.1, ht, e_X12_apart_7, p_in_m1_5, c1, e_X12_apart_24, y1, e_X12_apart_40, hx1, e_X12_apart_47, k1, e_X12_apart_60, m_isBurnt hM'.2.2.1 (k := k) (by omega), hb, e_X12_apart_68, e_X12_apart_78, true_and, and_true, false_and, and_false, beq_t, beq_f, eqN_t, eqN_f, eqL_t, eqL_f, nm1, nm2, nm1', nm2', m1z, m2z, zm1, zm2, m12, m21, lg_cmp_ge, lg_cmp_le, lg_cmp_gt, lg_cmp_lt, lg_cmp_eq, oob, oobL, neg0, negL0, natle_f, or_false, false_or, true_or, or_true, or_self, cl, clL, le_t, le_f, lt_t, lt_f, leL_t, leL_f, ltL_t, ltL_f, leM_t, leM_f, ltM_t, ltM_f, leO_t, leO_f, cond_true, cond_false, Option.bind_some, Option.bind_none, if_false, if_true, nI_1, aL1, aL2, mL1, mL2, nI_add, pk_mul, pk_m1, sL1, dL1, pk_sub, m1p1, gIs_eq, gIs_k, gIs_i, gIs_n, gIs_e, gIJ, gIR, gJI, gJR, gJs_eq, gJs_k, gJs_n, gJs_e, gRI, gRJ, gRs_eq, gRs_k, gRs_i, gRs_n, gZI, gZJ, gZR, pI_s, pJ_s, pV_s, pR_s, pR_n, oR_n, oR_s, decide_true, decide_false, not_true_eq_false, not_false_eq_true, decT, decF, Bool.true_eq_false, Bool.false_eq_true, z01, o01, z1f, z1f', zz, oo, b2i_0, b2i_n, b2i_t, b2i_f, Bool.not_true, Bool.not_false]
            · simp (disch := omega) only [m_isDale hM.1, ht, e_X12_apart_7, p_in_m1_5, c1, e_X12_apart_24, y1, e_X12_apart_40, hx1, e_X12_apart_47, k1, e_X12_apart_60, m_isBurnt hM'.2.2.1 (k := k) (by omega), hb, e_X12_apart_72, y4, e_X12_apart_78, true_and, and_true, false_and, and_false, beq_t, beq_f, eqN_t, eqN_f, eqL_t, eqL_f, nm1, nm2, nm1', nm2', m1z, m2z, zm1, zm2, m12, m21, lg_cmp_ge, lg_cmp_le, lg_cmp_gt, lg_cmp_lt, lg_cmp_eq, oob, oobL, neg0, negL0, natle_f, or_false, false_or, true_or, or_true, or_self, cl, clL, le_t, le_f, lt_t, lt_f, leL_t, leL_f, ltL_t, ltL_f, leM_t, leM_f, ltM_t, ltM_f, leO_t, leO_f, cond_true, cond_false, Option.bind_some, Option.bind_none, if_false, if_true, nI_1, aL1, aL2, mL1, mL2, nI_add, pk_mul, pk_m1, sL1, dL1, pk_sub, m1p1, gIs_eq, gIs_k, gIs_i, gIs_n, gIs_e, gIJ, gIR, gJI, gJR, gJs_eq, gJs_k, gJs_n, gJs_e, gRI, gRJ, gRs_eq, gRs_k, gRs_i, gRs_n, gZI, gZJ, gZR, pI_s, pJ_s, pV_s, pR_s, pR_n, oR_n, oR_s, decide_true, decide_false, not_true_eq_false, not_false_eq_true, decT, decF, Bool.true_eq_false, Bool.false_eq_true, z01, o01, z1f, z1f', zz, oo, b2i_0, b2i_n, b2i_t, b2i_f, Bool.not_true, Bool.not_false]
        · refine ⟨-2, fun w hC => ⟨w, ?_, Fr.refl _ _⟩, fun w hM => ?_⟩
          · have k1 := c_isKeep hC.1 hD x
            obtain ⟨⟨jd, x1, x2⟩, _⟩ := hC
            have t0 := x2.1 0 (by omega)
            rw [f_X11_apart, e_X11_apart_0]
            simp (disch := omega) only [x1, t0, ht, e_X11_apart_10, p_within, c1, e_X11_apart_22, hx1, e_X11_apart_27, k1, hx, e_X11_apart_35, true_and, and_true, false_and, and_false, beq_t, beq_f, eqN_t, eqN_f, eqL_t, eqL_f, nm1, nm2, nm1', nm2', m1z, m2z, zm1, zm2, m12, m21, lg_cmp_ge, lg_cmp_le, lg_cmp_gt, lg_cmp_lt, lg_cmp_eq, oob, oobL, neg0, negL0, natle_f, or_false, false_or, true_or, or_true, or_self, cl, clL, le_t, le_f, lt_t, lt_f, leL_t, leL_f, ltL_t, ltL_f, leM_t, leM_f, ltM_t, ltM_f, leO_t, leO_f, cond_true, cond_false, Option.bind_some, Option.bind_none, if_false, if_true, nI_1, aL1, aL2, mL1, mL2, nI_add, pk_mul, pk_m1, sL1, dL1, pk_sub, m1p1, gIs_eq, gIs_k, gIs_i, gIs_n, gIs_e, gIJ, gIR, gJI, gJR, gJs_eq, gJs_k, gJs_n, gJs_e, gRI, gRJ, gRs_eq, gRs_k, gRs_i, gRs_n, gZI, gZJ, gZR, pI_s, pJ_s, pV_s, pR_s, pR_n, oR_n, oR_s, decide_true, decide_false, not_true_eq_false, not_false_eq_true, decT, decF, Bool.true_eq_false, Bool.false_eq_true, z01, o01, z1f, z1f', zz, oo, b2i_0, b2i_n, b2i_t, b2i_f, Bool.not_true, Bool.not_false]
          · obtain ⟨w', y1, y2, y3⟩ := i2 w hM
            have hM' := m_56 hM y2
            have k1 := m_isKeep hM'.1 hD x
            refine ⟨w', ?_, hM', y2.mono (fun κ i k q => by unfold P56 at q; unfold  PQM; omega)⟩
            rw [f_X12_apart, e_X12_apart_0]
            simp (disch := omega) only [m_isDale hM.1, ht, e_X12_apart_7, p_in_m1_5, c1, e_X12_apart_24, y1, e_X12_apart_40, hx1, e_X12_apart_47, k1, hx, e_X12_apart_55, e_X12_apart_78, true_and, and_true, false_and, and_false, beq_t, beq_f, eqN_t, eqN_f, eqL_t, eqL_f, nm1, nm2, nm1', nm2', m1z, m2z, zm1, zm2, m12, m21, lg_cmp_ge, lg_cmp_le, lg_cmp_gt, lg_cmp_lt, lg_cmp_eq, oob, oobL, neg0, negL0, natle_f, or_false, false_or, true_or, or_true, or_self, cl, clL, le_t, le_f, lt_t, lt_f, leL_t, leL_f, ltL_t, ltL_f, leM_t, leM_f, ltM_t, ltM_f, leO_t, leO_f, cond_true, cond_false, Option.bind_some, Option.bind_none, if_false, if_true, nI_1, aL1, aL2, mL1, mL2, nI_add, pk_mul, pk_m1, sL1, dL1, pk_sub, m1p1, gIs_eq, gIs_k, gIs_i, gIs_n, gIs_e, gIJ, gIR, gJI, gJR, gJs_eq, gJs_k, gJs_n, gJs_e, gRI, gRJ, gRs_eq, gRs_k, gRs_i, gRs_n, gZI, gZJ, gZR, pI_s, pJ_s, pV_s, pR_s, pR_n, oR_n, oR_s, decide_true, decide_false, not_true_eq_false, not_false_eq_true, decT, decF, Bool.true_eq_false, Bool.false_eq_true, z01, o01, z1f, z1f', zz, oo, b2i_0, b2i_n, b2i_t, b2i_f, Bool.not_true, Bool.not_false]
    · refine ⟨-3, fun w hC => ⟨w, ?_, Fr.refl _ _⟩, fun w hM => ⟨w, ?_, hM, Fr.refl _ _⟩⟩
      · obtain ⟨⟨jd, x1, x2⟩, _⟩ := hC
        have t0 := x2.1 0 (by omega)
        rw [f_X11_apart, e_X11_apart_0]
        simp (disch := omega) only [x1, t0, ht, e_X11_apart_10, p_within, c1, e_X11_apart_19, true_and, and_true, false_and, and_false, beq_t, beq_f, eqN_t, eqN_f, eqL_t, eqL_f, nm1, nm2, nm1', nm2', m1z, m2z, zm1, zm2, m12, m21, lg_cmp_ge, lg_cmp_le, lg_cmp_gt, lg_cmp_lt, lg_cmp_eq, oob, oobL, neg0, negL0, natle_f, or_false, false_or, true_or, or_true, or_self, cl, clL, le_t, le_f, lt_t, lt_f, leL_t, leL_f, ltL_t, ltL_f, leM_t, leM_f, ltM_t, ltM_f, leO_t, leO_f, cond_true, cond_false, Option.bind_some, Option.bind_none, if_false, if_true, nI_1, aL1, aL2, mL1, mL2, nI_add, pk_mul, pk_m1, sL1, dL1, pk_sub, m1p1, gIs_eq, gIs_k, gIs_i, gIs_n, gIs_e, gIJ, gIR, gJI, gJR, gJs_eq, gJs_k, gJs_n, gJs_e, gRI, gRJ, gRs_eq, gRs_k, gRs_i, gRs_n, gZI, gZJ, gZR, pI_s, pJ_s, pV_s, pR_s, pR_n, oR_n, oR_s, decide_true, decide_false, not_true_eq_false, not_false_eq_true, decT, decF, Bool.true_eq_false, Bool.false_eq_true, z01, o01, z1f, z1f', zz, oo, b2i_0, b2i_n, b2i_t, b2i_f, Bool.not_true, Bool.not_false]
      · rw [f_X12_apart, e_X12_apart_0]
        simp (disch := omega) only [m_isDale hM.1, ht, e_X12_apart_7, p_in_m1_5, c1, e_X12_apart_21, true_and, and_true, false_and, and_false, beq_t, beq_f, eqN_t, eqN_f, eqL_t, eqL_f, nm1, nm2, nm1', nm2', m1z, m2z, zm1, zm2, m12, m21, lg_cmp_ge, lg_cmp_le, lg_cmp_gt, lg_cmp_lt, lg_cmp_eq, oob, oobL, neg0, negL0, natle_f, or_false, false_or, true_or, or_true, or_self, cl, clL, le_t, le_f, lt_t, lt_f, leL_t, leL_f, ltL_t, ltL_f, leM_t, leM_f, ltM_t, ltM_f, leO_t, leO_f, cond_true, cond_false, Option.bind_some, Option.bind_none, if_false, if_true, nI_1, aL1, aL2, mL1, mL2, nI_add, pk_mul, pk_m1, sL1, dL1, pk_sub, m1p1, gIs_eq, gIs_k, gIs_i, gIs_n, gIs_e, gIJ, gIR, gJI, gJR, gJs_eq, gJs_k, gJs_n, gJs_e, gRI, gRJ, gRs_eq, gRs_k, gRs_i, gRs_n, gZI, gZJ, gZR, pI_s, pJ_s, pV_s, pR_s, pR_n, oR_n, oR_s, decide_true, decide_false, not_true_eq_false, not_false_eq_true, decT, decF, Bool.true_eq_false, Bool.false_eq_true, z01, o01, z1f, z1f', zz, oo, b2i_0, b2i_n, b2i_t, b2i_f, Bool.not_true, Bool.not_false]
  · refine ⟨-3, fun w hC => ⟨w, ?_, Fr.refl _ _⟩, fun w hM => ⟨w, ?_, hM, Fr.refl _ _⟩⟩
    · obtain ⟨⟨jd, x1, x2⟩, _⟩ := hC
      have t0 := x2.1 0 (by omega)
      rw [f_X11_apart, e_X11_apart_0]
      simp (disch := omega) only [x1, t0, ht, e_X11_apart_19, true_and, and_true, false_and, and_false, beq_t, beq_f, eqN_t, eqN_f, eqL_t, eqL_f, nm1, nm2, nm1', nm2', m1z, m2z, zm1, zm2, m12, m21, lg_cmp_ge, lg_cmp_le, lg_cmp_gt, lg_cmp_lt, lg_cmp_eq, oob, oobL, neg0, negL0, natle_f, or_false, false_or, true_or, or_true, or_self, cl, clL, le_t, le_f, lt_t, lt_f, leL_t, leL_f, ltL_t, ltL_f, leM_t, leM_f, ltM_t, ltM_f, leO_t, leO_f, cond_true, cond_false, Option.bind_some, Option.bind_none, if_false, if_true, nI_1, aL1, aL2, mL1, mL2, nI_add, pk_mul, pk_m1, sL1, dL1, pk_sub, m1p1, gIs_eq, gIs_k, gIs_i, gIs_n, gIs_e, gIJ, gIR, gJI, gJR, gJs_eq, gJs_k, gJs_n, gJs_e, gRI, gRJ, gRs_eq, gRs_k, gRs_i, gRs_n, gZI, gZJ, gZR, pI_s, pJ_s, pV_s, pR_s, pR_n, oR_n, oR_s, decide_true, decide_false, not_true_eq_false, not_false_eq_true, decT, decF, Bool.true_eq_false, Bool.false_eq_true, z01, o01, z1f, z1f', zz, oo, b2i_0, b2i_n, b2i_t, b2i_f, Bool.not_true, Bool.not_false]
    · rw [f_X12_apart, e_X12_apart_0]
      simp (disch := omega) only [m_isDale hM.1, ht, e_X12_apart_21, true_and, and_true, false_and, and_false, beq_t, beq_f, eqN_t, eqN_f, eqL_t, eqL_f, nm1, nm2, nm1', nm2', m1z, m2z, zm1, zm2, m12, m21, lg_cmp_ge, lg_cmp_le, lg_cmp_gt, lg_cmp_lt, lg_cmp_eq, oob, oobL, neg0, negL0, natle_f, or_false, false_or, true_or, or_true, or_self, cl, clL, le_t, le_f, lt_t, lt_f, leL_t, leL_f, ltL_t, ltL_f, leM_t, leM_f, ltM_t, ltM_f, leO_t, leO_f, cond_true, cond_false, Option.bind_some, Option.bind_none, if_false, if_true, nI_1, aL1, aL2, mL1, mL2, nI_add, pk_mul, pk_m1, sL1, dL1, pk_sub, m1p1, gIs_eq, gIs_k, gIs_i, gIs_n, gIs_e, gIJ, gIR, gJI, gJR, gJs_eq, gJs_k, gJs_n, gJs_e, gRI, gRJ, gRs_eq, gRs_k, gRs_i, gRs_n, gZI, gZJ, gZR, pI_s, pJ_s, pV_s, pR_s, pR_n, oR_n, oR_s, decide_true, decide_false, not_true_eq_false, not_false_eq_true, decT, decF, Bool.true_eq_false, Bool.false_eq_true, z01, o01, z1f, z1f', zz, oo, b2i_0, b2i_n, b2i_t, b2i_f, Bool.not_true, Bool.not_false]
