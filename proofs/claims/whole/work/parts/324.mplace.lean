/-! ===== the model: one way behind the other ===== -/
def GW (w : XW) (d : Dl) (g : Nat → Nat) : Prop := ∀ k, k < 6 → gI w 54 0 k = dn (g k) ∧ g k ≤ fn d
def GB (w : XW) (g : Nat → Nat) : Prop := ∀ k, k < 6 → gI w 55 0 k = dn (g k)
def P5x (κ _j _k : Nat) : Prop := κ = 54 ∨ κ = 55
def nxw (d : Dl) (g : Nat → Nat) : Nat → Option (Nat → Nat)
  | 0 => none
  | j + 1 => if g j = fn d then nxw d (updN g j 0) j else some (updN g j (g j + 1))
theorem dn_inj {a b : Nat} (ha : a < 60000) (hb : b < 60000) : (dn a = dn b) = (a = b) := by
  apply propext
  constructor
  · intro h
    cases a with
    | zero =>
      cases b with
      | zero => rfl
      | succ b => rw [dn_0, dn_s] at h; exact absurd h (by rw [nm1' (by omega)]; exact id)
    | succ a =>
      cases b with
      | zero => rw [dn_0, dn_s] at h; exact absurd h (by rw [nm1 (by omega)]; exact id)
      | succ b => rw [dn_s, dn_s] at h; have := (nI_eq (by omega) (by omega)).mp h; omega
  · intro h; rw [h]
theorem m_nextWay {d : Dl} (hD : DOk d) : ∀ (j : Nat) (g : Nat → Nat) (w : XW), j ≤ kn d → MdAt w d → GW w d g →
    (∀ g', nxw d g j = some g' → ∃ w', q_X12_nextWay_9 (dn j) w = some (some (.inl (.int 1)), w') ∧ GW w' d g' ∧ Fr (fun κ _ _ => κ = 54) w w') ∧ (nxw d g j = none → ∃ w', q_X12_nextWay_9 (dn j) w = some (some (.inl (.int 0)), w') ∧ Fr (fun κ _ _ => κ = 54) w w') := by
  have h6 := hD.1.2
  have h4 := hD.2.2.1.2
  intro j
  induction j with
  | zero =>
    intro g w _ hd hg
    refine ⟨(fun g' h => by cases h), fun _ => ⟨w, ?_, Fr.refl _ _⟩⟩
    rw [e_X12_nextWay_9]
    simp (disch := omega) only [dn_0, e_X12_nextWay_43, e_X12_nextWay_47, true_and, and_true, false_and, and_false, beq_t, beq_f, eqN_t, eqN_f, eqL_t, eqL_f, nm1, nm2, nm1', nm2', m1z, m2z, zm1, zm2, m12, m21, lg_cmp_ge, lg_cmp_le, lg_cmp_gt, lg_cmp_lt, lg_cmp_eq, oob, oobL, neg0, negL0, natle_f, or_false, false_or, true_or, or_true, or_self, cl, clL, le_t, le_f, lt_t, lt_f, leL_t, leL_f, ltL_t, ltL_f, leM_t, leM_f, ltM_t, ltM_f, leO_t, leO_f, cond_true, cond_false, Option.bind_some, Option.bind_none, if_false, if_true, nI_1, aL1, aL2, mL1, mL2, nI_add, pk_mul, pk_m1, sL1, dL1, pk_sub, m1p1, gIs_eq, gIs_k, gIs_i, gIs_n, gIs_e, gIJ, gIR, gJI, gJR, gJs_eq, gJs_k, gJs_n, gJs_e, gRI, gRJ, gRs_eq, gRs_k, gRs_i, gRs_n, gZI, gZJ, gZR, pI_s, pJ_s, pV_s, pR_s, pR_n, oR_n, oR_s, decide_true, decide_false, not_true_eq_false, not_false_eq_true, decT, decF, Bool.true_eq_false, Bool.false_eq_true, z01, o01, z1f, z1f', zz, oo, b2i_0, b2i_n, b2i_t, b2i_f, Bool.not_true, Bool.not_false]
  | succ j ih =>
    intro g w hj hd hg
    have g5 : gI w 50 0 5 = nI (fn d) := by rw [hd.1 5 (by omega)]; exact hD.2.2.1.1
    obtain ⟨x1, x2⟩ := hg j (by omega)
    have e1 := dn_inj (a := g j) (b := fn d) (by omega) (by omega)
    show (∀ g', (if g j = fn d then nxw d (updN g j 0) j else some (updN g j (g j + 1))) = some g' → _) ∧ ((if g j = fn d then nxw d (updN g j 0) j else some (updN g j (g j + 1))) = none → _)
    by_cases he : g j = fn d
    · rw [if_pos he]
      have hF : Fr (fun κ _ _ => κ = 54) w (sI w 54 0 j (-1)) := (Fr.refl _ _).sI rfl
      have hg1 : GW (sI w 54 0 j (-1)) d (updN g j 0) := fun k hk => by
        by_cases e : k = j
        · subst e
          rw [gIs_eq, updN_s]
          exact ⟨rfl, by omega⟩
        · rw [gIs_k e, updN_n e]
          exact hg k hk
      obtain ⟨i1, i2⟩ := ih (updN g j 0) (sI w 54 0 j (-1)) (by omega) (hd.fr hF (fun k q => by omega)) hg1
      have head : q_X12_nextWay_9 (dn (j + 1)) w = q_X12_nextWay_9 (dn j) (sI w 54 0 j (-1)) := by
        rw [e_X12_nextWay_9]
        simp (disch := omega) only [dn_s, e_X12_nextWay_13, x1, g5, dn_sub, e1, he, e_X12_nextWay_30, dn_m1, true_and, and_true, false_and, and_false, beq_t, beq_f, eqN_t, eqN_f, eqL_t, eqL_f, nm1, nm2, nm1', nm2', m1z, m2z, zm1, zm2, m12, m21, lg_cmp_ge, lg_cmp_le, lg_cmp_gt, lg_cmp_lt, lg_cmp_eq, oob, oobL, neg0, negL0, natle_f, or_false, false_or, true_or, or_true, or_self, cl, clL, le_t, le_f, lt_t, lt_f, leL_t, leL_f, ltL_t, ltL_f, leM_t, leM_f, ltM_t, ltM_f, leO_t, leO_f, cond_true, cond_false, Option.bind_some, Option.bind_none, if_false, if_true, nI_1, aL1, aL2, mL1, mL2, nI_add, pk_mul, pk_m1, sL1, dL1, pk_sub, m1p1, gIs_eq, gIs_k, gIs_i, gIs_n, gIs_e, gIJ, gIR, gJI, gJR, gJs_eq, gJs_k, gJs_n, gJs_e, gRI, gRJ, gRs_eq, gRs_k, gRs_i, gRs_n, gZI, gZJ, gZR, pI_s, pJ_s, pV_s, pR_s, pR_n, oR_n, oR_s, decide_true, decide_false, not_true_eq_false, not_false_eq_true, decT, decF, Bool.true_eq_false, Bool.false_eq_true, z01, o01, z1f, z1f', zz, oo, b2i_0, b2i_n, b2i_t, b2i_f, Bool.not_true, Bool.not_false]
      rw [head]
      refine ⟨fun g' h => ?_, fun h => ?_⟩
      · obtain ⟨w', y1, y2, y3⟩ := i1 g' h
        exact ⟨w', y1, y2, hF.trans y3⟩
      · obtain ⟨w', y1, y3⟩ := i2 h
        exact ⟨w', y1, hF.trans y3⟩
    · rw [if_neg he]
      refine ⟨fun g' h => ?_, fun h => by cases h⟩
      cases h
      have e1b : (dn (g j) = nI (fn d - 1)) = (g j = fn d) := by rw [← e1, ← dn_s, Nat.sub_add_cancel (by omega)]
      refine ⟨sI w 54 0 j (dn (g j + 1)), ?_, fun k hk => ?_, (Fr.refl _ _).sI rfl⟩
      · rw [e_X12_nextWay_9]
        simp (disch := omega) only [dn_s, e_X12_nextWay_13, x1, g5, e1b, he, e_X12_nextWay_43, e_X12_nextWay_49, dn_p1, true_and, and_true, false_and, and_false, beq_t, beq_f, eqN_t, eqN_f, eqL_t, eqL_f, nm1, nm2, nm1', nm2', m1z, m2z, zm1, zm2, m12, m21, lg_cmp_ge, lg_cmp_le, lg_cmp_gt, lg_cmp_lt, lg_cmp_eq, oob, oobL, neg0, negL0, natle_f, or_false, false_or, true_or, or_true, or_self, cl, clL, le_t, le_f, lt_t, lt_f, leL_t, leL_f, ltL_t, ltL_f, leM_t, leM_f, ltM_t, ltM_f, leO_t, leO_f, cond_true, cond_false, Option.bind_some, Option.bind_none, if_false, if_true, nI_1, aL1, aL2, mL1, mL2, nI_add, pk_mul, pk_m1, sL1, dL1, pk_sub, m1p1, gIs_eq, gIs_k, gIs_i, gIs_n, gIs_e, gIJ, gIR, gJI, gJR, gJs_eq, gJs_k, gJs_n, gJs_e, gRI, gRJ, gRs_eq, gRs_k, gRs_i, gRs_n, gZI, gZJ, gZR, pI_s, pJ_s, pV_s, pR_s, pR_n, oR_n, oR_s, decide_true, decide_false, not_true_eq_false, not_false_eq_true, decT, decF, Bool.true_eq_false, Bool.false_eq_true, z01, o01, z1f, z1f', zz, oo, b2i_0, b2i_n, b2i_t, b2i_f, Bool.not_true, Bool.not_false]
      · by_cases e : k = j
        · subst e
          rw [gIs_eq, updN_s]
          exact ⟨rfl, by omega⟩
        · rw [gIs_k e, updN_n e]
          exact hg k hk
theorem pv_none {d : Dl} {s : Sc} {T : Nat} {g : Nat → Nat} {k : Nat} (h : pvS d s T g k = none) : ∀ j, pvS d s T g (k + j) = none := by
  intro j
  induction j with
  | zero => exact h
  | succ j ih =>
    show (pvS d s T g (k + j)).bind _ = none
    rw [ih]
    rfl
theorem m_canGo {w : XW} {d : Dl} (hD : DOk d) {s : Sc} (hd : MdAt w d) (hs : MsAt w s) {T : Nat} (hT : T < 16) (bT : ∀ f, f < fn d → (T / 2 ^ f % 2 = 1 ↔ ¬ kiS d s (nI f) = -1)) {g : Nat → Nat} (hg : GW w d g) : F_X12_canGo [.inr (11, 0)] w = some (b2i (pvS d s T g (kn d)).isSome, w) := by
  have h6 := hD.1.2
  have h4 := hD.2.2.1.2
  have g3 : gI w 50 0 3 = nI (kn d) := by rw [hd.1 3 (by omega)]; exact hD.1.1
  have key : ∀ m k U, k + m = kn d → U < 16 → (∃ q, pvS d s T g k = some (T ||| U, q)) → q_X12_canGo_4 (nI U) (nI k) w = some (some (.inl (.int (b2i (pvS d s T g (kn d)).isSome))), w) := by
    intro m
    induction m with
    | zero =>
      intro k U hk hU ⟨q, hq⟩
      have : k = kn d := by omega
      subst this
      rw [hq, e_X12_canGo_4]
      simp (disch := omega) only [g3, e_X12_canGo_66, true_and, and_true, false_and, and_false, beq_t, beq_f, eqN_t, eqN_f, eqL_t, eqL_f, nm1, nm2, nm1', nm2', m1z, m2z, zm1, zm2, m12, m21, lg_cmp_ge, lg_cmp_le, lg_cmp_gt, lg_cmp_lt, lg_cmp_eq, oob, oobL, neg0, negL0, natle_f, or_false, false_or, true_or, or_true, or_self, cl, clL, le_t, le_f, lt_t, lt_f, leL_t, leL_f, ltL_t, ltL_f, leM_t, leM_f, ltM_t, ltM_f, leO_t, leO_f, cond_true, cond_false, Option.bind_some, Option.bind_none, if_false, if_true, nI_1, aL1, aL2, mL1, mL2, nI_add, pk_mul, pk_m1, sL1, dL1, pk_sub, m1p1, gIs_eq, gIs_k, gIs_i, gIs_n, gIs_e, gIJ, gIR, gJI, gJR, gJs_eq, gJs_k, gJs_n, gJs_e, gRI, gRJ, gRs_eq, gRs_k, gRs_i, gRs_n, gZI, gZJ, gZR, pI_s, pJ_s, pV_s, pR_s, pR_n, oR_n, oR_s, decide_true, decide_false, not_true_eq_false, not_false_eq_true, decT, decF, Bool.true_eq_false, Bool.false_eq_true, z01, o01, z1f, z1f', zz, oo, b2i_0, b2i_n, b2i_t, b2i_f, Bool.not_true, Bool.not_false]
      rfl
    | succ m ih =>
      intro k U hk hU ⟨q, hq⟩
      obtain ⟨x1, x2⟩ := hg k (by omega)
      have step : pvS d s T g (k + 1) = (if g k = 0 then some (T ||| U, q) else bif alw s k (T ||| U) (g k - 1) then some ((T ||| U) ||| 2 ^ (g k - 1), q.1 + koN d s k (g k - 1), q.2 + 1) else none) := by
        show (pvS d s T g k).bind _ = _
        rw [hq]
        rfl
      rw [e_X12_canGo_4]
      simp (disch := omega) only [g3, e_X12_canGo_14, x1, true_and, and_true, false_and, and_false, beq_t, beq_f, eqN_t, eqN_f, eqL_t, eqL_f, nm1, nm2, nm1', nm2', m1z, m2z, zm1, zm2, m12, m21, lg_cmp_ge, lg_cmp_le, lg_cmp_gt, lg_cmp_lt, lg_cmp_eq, oob, oobL, neg0, negL0, natle_f, or_false, false_or, true_or, or_true, or_self, cl, clL, le_t, le_f, lt_t, lt_f, leL_t, leL_f, ltL_t, ltL_f, leM_t, leM_f, ltM_t, ltM_f, leO_t, leO_f, cond_true, cond_false, Option.bind_some, Option.bind_none, if_false, if_true, nI_1, aL1, aL2, mL1, mL2, nI_add, pk_mul, pk_m1, sL1, dL1, pk_sub, m1p1, gIs_eq, gIs_k, gIs_i, gIs_n, gIs_e, gIJ, gIR, gJI, gJR, gJs_eq, gJs_k, gJs_n, gJs_e, gRI, gRJ, gRs_eq, gRs_k, gRs_i, gRs_n, gZI, gZJ, gZR, pI_s, pJ_s, pV_s, pR_s, pR_n, oR_n, oR_s, decide_true, decide_false, not_true_eq_false, not_false_eq_true, decT, decF, Bool.true_eq_false, Bool.false_eq_true, z01, o01, z1f, z1f', zz, oo, b2i_0, b2i_n, b2i_t, b2i_f, Bool.not_true, Bool.not_false]
      cases hgk : g k with
      | zero =>
        rw [hgk, if_pos rfl] at step
        simp (disch := omega) only [dn_0, e_X12_canGo_25, e_X12_canGo_60, true_and, and_true, false_and, and_false, beq_t, beq_f, eqN_t, eqN_f, eqL_t, eqL_f, nm1, nm2, nm1', nm2', m1z, m2z, zm1, zm2, m12, m21, lg_cmp_ge, lg_cmp_le, lg_cmp_gt, lg_cmp_lt, lg_cmp_eq, oob, oobL, neg0, negL0, natle_f, or_false, false_or, true_or, or_true, or_self, cl, clL, le_t, le_f, lt_t, lt_f, leL_t, leL_f, ltL_t, ltL_f, leM_t, leM_f, ltM_t, ltM_f, leO_t, leO_f, cond_true, cond_false, Option.bind_some, Option.bind_none, if_false, if_true, nI_1, aL1, aL2, mL1, mL2, nI_add, pk_mul, pk_m1, sL1, dL1, pk_sub, m1p1, gIs_eq, gIs_k, gIs_i, gIs_n, gIs_e, gIJ, gIR, gJI, gJR, gJs_eq, gJs_k, gJs_n, gJs_e, gRI, gRJ, gRs_eq, gRs_k, gRs_i, gRs_n, gZI, gZJ, gZR, pI_s, pJ_s, pV_s, pR_s, pR_n, oR_n, oR_s, decide_true, decide_false, not_true_eq_false, not_false_eq_true, decT, decF, Bool.true_eq_false, Bool.false_eq_true, z01, o01, z1f, z1f', zz, oo, b2i_0, b2i_n, b2i_t, b2i_f, Bool.not_true, Bool.not_false]
        exact ih (k + 1) U (by omega) hU ⟨q, step⟩
      | succ f =>
        rw [hgk] at x2
        rw [hgk, if_neg (by omega), Nat.add_sub_cancel] at step
        have fail : alw s k (T ||| U) f = false → pvS d s T g (kn d) = none := fun ha => by
          rw [ha] at step
          have := pv_none step m
          rw [show k + 1 + m = kn d by omega] at this
          exact this
        have ob := orb4 ⟨T, hT⟩ ⟨U, hU⟩ ⟨f, by omega⟩
        dsimp only at ob
        rw [dn_s]
        simp (disch := omega) only [e_X12_canGo_28, m_isHome hd hs hD (k := k) (by omega), true_and, and_true, false_and, and_false, beq_t, beq_f, eqN_t, eqN_f, eqL_t, eqL_f, nm1, nm2, nm1', nm2', m1z, m2z, zm1, zm2, m12, m21, lg_cmp_ge, lg_cmp_le, lg_cmp_gt, lg_cmp_lt, lg_cmp_eq, oob, oobL, neg0, negL0, natle_f, or_false, false_or, true_or, or_true, or_self, cl, clL, le_t, le_f, lt_t, lt_f, leL_t, leL_f, ltL_t, ltL_f, leM_t, leM_f, ltM_t, ltM_f, leO_t, leO_f, cond_true, cond_false, Option.bind_some, Option.bind_none, if_false, if_true, nI_1, aL1, aL2, mL1, mL2, nI_add, pk_mul, pk_m1, sL1, dL1, pk_sub, m1p1, gIs_eq, gIs_k, gIs_i, gIs_n, gIs_e, gIJ, gIR, gJI, gJR, gJs_eq, gJs_k, gJs_n, gJs_e, gRI, gRJ, gRs_eq, gRs_k, gRs_i, gRs_n, gZI, gZJ, gZR, pI_s, pJ_s, pV_s, pR_s, pR_n, oR_n, oR_s, decide_true, decide_false, not_true_eq_false, not_false_eq_true, decT, decF, Bool.true_eq_false, Bool.false_eq_true, z01, o01, z1f, z1f', zz, oo, b2i_0, b2i_n, b2i_t, b2i_f, Bool.not_true, Bool.not_false]
        by_cases hh : s.2.2.2.1 k = -1
        · simp (disch := omega) only [hh, e_X12_canGo_36, m_keepIn hd hs hD, true_and, and_true, false_and, and_false, beq_t, beq_f, eqN_t, eqN_f, eqL_t, eqL_f, nm1, nm2, nm1', nm2', m1z, m2z, zm1, zm2, m12, m21, lg_cmp_ge, lg_cmp_le, lg_cmp_gt, lg_cmp_lt, lg_cmp_eq, oob, oobL, neg0, negL0, natle_f, or_false, false_or, true_or, or_true, or_self, cl, clL, le_t, le_f, lt_t, lt_f, leL_t, leL_f, ltL_t, ltL_f, leM_t, leM_f, ltM_t, ltM_f, leO_t, leO_f, cond_true, cond_false, Option.bind_some, Option.bind_none, if_false, if_true, nI_1, aL1, aL2, mL1, mL2, nI_add, pk_mul, pk_m1, sL1, dL1, pk_sub, m1p1, gIs_eq, gIs_k, gIs_i, gIs_n, gIs_e, gIJ, gIR, gJI, gJR, gJs_eq, gJs_k, gJs_n, gJs_e, gRI, gRJ, gRs_eq, gRs_k, gRs_i, gRs_n, gZI, gZJ, gZR, pI_s, pJ_s, pV_s, pR_s, pR_n, oR_n, oR_s, decide_true, decide_false, not_true_eq_false, not_false_eq_true, decT, decF, Bool.true_eq_false, Bool.false_eq_true, z01, o01, z1f, z1f', zz, oo, b2i_0, b2i_n, b2i_t, b2i_f, Bool.not_true, Bool.not_false]
          rcases ki_range d s (nI f) with e | ⟨j, hj, _, e⟩
          · have t0 : T / 2 ^ f % 2 = 0 := by
              have := (bT f (by omega))
              have : ¬ T / 2 ^ f % 2 = 1 := fun z => (this.mp z) e
              omega
            rw [e]
            simp (disch := omega) only [e_X12_canGo_44, p_X12_isOf, bit6 (b := U) (j := f) (by omega) (by omega), true_and, and_true, false_and, and_false, beq_t, beq_f, eqN_t, eqN_f, eqL_t, eqL_f, nm1, nm2, nm1', nm2', m1z, m2z, zm1, zm2, m12, m21, lg_cmp_ge, lg_cmp_le, lg_cmp_gt, lg_cmp_lt, lg_cmp_eq, oob, oobL, neg0, negL0, natle_f, or_false, false_or, true_or, or_true, or_self, cl, clL, le_t, le_f, lt_t, lt_f, leL_t, leL_f, ltL_t, ltL_f, leM_t, leM_f, ltM_t, ltM_f, leO_t, leO_f, cond_true, cond_false, Option.bind_some, Option.bind_none, if_false, if_true, nI_1, aL1, aL2, mL1, mL2, nI_add, pk_mul, pk_m1, sL1, dL1, pk_sub, m1p1, gIs_eq, gIs_k, gIs_i, gIs_n, gIs_e, gIJ, gIR, gJI, gJR, gJs_eq, gJs_k, gJs_n, gJs_e, gRI, gRJ, gRs_eq, gRs_k, gRs_i, gRs_n, gZI, gZJ, gZR, pI_s, pJ_s, pV_s, pR_s, pR_n, oR_n, oR_s, decide_true, decide_false, not_true_eq_false, not_false_eq_true, decT, decF, Bool.true_eq_false, Bool.false_eq_true, z01, o01, z1f, z1f', zz, oo, b2i_0, b2i_n, b2i_t, b2i_f, Bool.not_true, Bool.not_false]
            have h01 : U / 2 ^ f % 2 = 0 ∨ U / 2 ^ f % 2 = 1 := by omega
            rcases h01 with h01 | h01
            · have ha : alw s k (T ||| U) f = true := by
                unfold alw
                rw [decT hh, decT (ob.mpr ⟨t0, h01⟩)]
                rfl
              obtain ⟨o1, o2⟩ := or4 ⟨U, hU⟩ ⟨f, by omega⟩
              dsimp only at o1 o2
              rw [ha, Nat.or_assoc] at step
              rw [h01]
              simp (disch := omega) only [e_X12_canGo_54, o1, e_X12_canGo_60, true_and, and_true, false_and, and_false, beq_t, beq_f, eqN_t, eqN_f, eqL_t, eqL_f, nm1, nm2, nm1', nm2', m1z, m2z, zm1, zm2, m12, m21, lg_cmp_ge, lg_cmp_le, lg_cmp_gt, lg_cmp_lt, lg_cmp_eq, oob, oobL, neg0, negL0, natle_f, or_false, false_or, true_or, or_true, or_self, cl, clL, le_t, le_f, lt_t, lt_f, leL_t, leL_f, ltL_t, ltL_f, leM_t, leM_f, ltM_t, ltM_f, leO_t, leO_f, cond_true, cond_false, Option.bind_some, Option.bind_none, if_false, if_true, nI_1, aL1, aL2, mL1, mL2, nI_add, pk_mul, pk_m1, sL1, dL1, pk_sub, m1p1, gIs_eq, gIs_k, gIs_i, gIs_n, gIs_e, gIJ, gIR, gJI, gJR, gJs_eq, gJs_k, gJs_n, gJs_e, gRI, gRJ, gRs_eq, gRs_k, gRs_i, gRs_n, gZI, gZJ, gZR, pI_s, pJ_s, pV_s, pR_s, pR_n, oR_n, oR_s, decide_true, decide_false, not_true_eq_false, not_false_eq_true, decT, decF, Bool.true_eq_false, Bool.false_eq_true, z01, o01, z1f, z1f', zz, oo, b2i_0, b2i_n, b2i_t, b2i_f, Bool.not_true, Bool.not_false]
              exact ih (k + 1) (U ||| 2 ^ f) (by omega) o2 ⟨_, step⟩
            · have ha : alw s k (T ||| U) f = false := by
                unfold alw
                rw [decF (p := (T ||| U) / 2 ^ f % 2 = 0) (fun z => by have := (ob.mp z).2; omega), Bool.and_false]
              rw [h01, fail ha]
              simp (disch := omega) only [e_X12_canGo_52, true_and, and_true, false_and, and_false, beq_t, beq_f, eqN_t, eqN_f, eqL_t, eqL_f, nm1, nm2, nm1', nm2', m1z, m2z, zm1, zm2, m12, m21, lg_cmp_ge, lg_cmp_le, lg_cmp_gt, lg_cmp_lt, lg_cmp_eq, oob, oobL, neg0, negL0, natle_f, or_false, false_or, true_or, or_true, or_self, cl, clL, le_t, le_f, lt_t, lt_f, leL_t, leL_f, ltL_t, ltL_f, leM_t, leM_f, ltM_t, ltM_f, leO_t, leO_f, cond_true, cond_false, Option.bind_some, Option.bind_none, if_false, if_true, nI_1, aL1, aL2, mL1, mL2, nI_add, pk_mul, pk_m1, sL1, dL1, pk_sub, m1p1, gIs_eq, gIs_k, gIs_i, gIs_n, gIs_e, gIJ, gIR, gJI, gJR, gJs_eq, gJs_k, gJs_n, gJs_e, gRI, gRJ, gRs_eq, gRs_k, gRs_i, gRs_n, gZI, gZJ, gZR, pI_s, pJ_s, pV_s, pR_s, pR_n, oR_n, oR_s, decide_true, decide_false, not_true_eq_false, not_false_eq_true, decT, decF, Bool.true_eq_false, Bool.false_eq_true, z01, o01, z1f, z1f', zz, oo, b2i_0, b2i_n, b2i_t, b2i_f, Bool.not_true, Bool.not_false]
              rfl
          · have t1 : T / 2 ^ f % 2 = 1 := (bT f (by omega)).mpr (by rw [e]; exact fun z => by rw [nm1 (by omega)] at z; exact z)
            have ha : alw s k (T ||| U) f = false := by
              unfold alw
              rw [decF (p := (T ||| U) / 2 ^ f % 2 = 0) (fun z => by have := (ob.mp z).1; omega), Bool.and_false]
            rw [e, fail ha]
            simp (disch := omega) only [e_X12_canGo_52, true_and, and_true, false_and, and_false, beq_t, beq_f, eqN_t, eqN_f, eqL_t, eqL_f, nm1, nm2, nm1', nm2', m1z, m2z, zm1, zm2, m12, m21, lg_cmp_ge, lg_cmp_le, lg_cmp_gt, lg_cmp_lt, lg_cmp_eq, oob, oobL, neg0, negL0, natle_f, or_false, false_or, true_or, or_true, or_self, cl, clL, le_t, le_f, lt_t, lt_f, leL_t, leL_f, ltL_t, ltL_f, leM_t, leM_f, ltM_t, ltM_f, leO_t, leO_f, cond_true, cond_false, Option.bind_some, Option.bind_none, if_false, if_true, nI_1, aL1, aL2, mL1, mL2, nI_add, pk_mul, pk_m1, sL1, dL1, pk_sub, m1p1, gIs_eq, gIs_k, gIs_i, gIs_n, gIs_e, gIJ, gIR, gJI, gJR, gJs_eq, gJs_k, gJs_n, gJs_e, gRI, gRJ, gRs_eq, gRs_k, gRs_i, gRs_n, gZI, gZJ, gZR, pI_s, pJ_s, pV_s, pR_s, pR_n, oR_n, oR_s, decide_true, decide_false, not_true_eq_false, not_false_eq_true, decT, decF, Bool.true_eq_false, Bool.false_eq_true, z01, o01, z1f, z1f', zz, oo, b2i_0, b2i_n, b2i_t, b2i_f, Bool.not_true, Bool.not_false]
            rfl
        · have ha : alw s k (T ||| U) f = false := by
            unfold alw
            rw [decF hh]
            rfl
          rw [fail ha]
          simp (disch := omega) only [hh, e_X12_canGo_52, true_and, and_true, false_and, and_false, beq_t, beq_f, eqN_t, eqN_f, eqL_t, eqL_f, nm1, nm2, nm1', nm2', m1z, m2z, zm1, zm2, m12, m21, lg_cmp_ge, lg_cmp_le, lg_cmp_gt, lg_cmp_lt, lg_cmp_eq, oob, oobL, neg0, negL0, natle_f, or_false, false_or, true_or, or_true, or_self, cl, clL, le_t, le_f, lt_t, lt_f, leL_t, leL_f, ltL_t, ltL_f, leM_t, leM_f, ltM_t, ltM_f, leO_t, leO_f, cond_true, cond_false, Option.bind_some, Option.bind_none, if_false, if_true, nI_1, aL1, aL2, mL1, mL2, nI_add, pk_mul, pk_m1, sL1, dL1, pk_sub, m1p1, gIs_eq, gIs_k, gIs_i, gIs_n, gIs_e, gIJ, gIR, gJI, gJR, gJs_eq, gJs_k, gJs_n, gJs_e, gRI, gRJ, gRs_eq, gRs_k, gRs_i, gRs_n, gZI, gZJ, gZR, pI_s, pJ_s, pV_s, pR_s, pR_n, oR_n, oR_s, decide_true, decide_false, not_true_eq_false, not_false_eq_true, decT, decF, Bool.true_eq_false, Bool.false_eq_true, z01, o01, z1f, z1f', zz, oo, b2i_0, b2i_n, b2i_t, b2i_f, Bool.not_true, Bool.not_false]
          rfl
  have k0 := key (kn d) 0 0 (by omega) (by omega) ⟨(0, 0), by rw [Nat.or_zero]; rfl⟩
  rw [nI_0] at k0
  rw [f_X12_canGo, e_X12_canGo_0, k0]
  rfl
theorem pv_bd {d : Dl} (hD : DOk d) {s : Sc} (hS : SOk d s) {T : Nat} {g : Nat → Nat} (hg : ∀ k, k < 6 → g k ≤ fn d) : ∀ k S mu ma, k ≤ kn d → pvS d s T g k = some (S, mu, ma) → mu ≤ 60 * k ∧ ma ≤ k := by
  have h6 := hD.1.2
  intro k
  induction k with
  | zero => intro S mu ma _ h; cases h; omega
  | succ k ih =>
    intro S mu ma hk h
    have h : (pvS d s T g k).bind (fun a => if g k = 0 then some a else bif alw s k a.1 (g k - 1) then some (a.1 ||| 2 ^ (g k - 1), a.2.1 + koN d s k (g k - 1), a.2.2 + 1) else none) = some (S, mu, ma) := h
    cases hp : pvS d s T g k with
    | none => rw [hp] at h; cases h
    | some a =>
      obtain ⟨S0, mu0, ma0⟩ := a
      have := ih S0 mu0 ma0 (by omega) hp
      rw [hp, Option.bind_some] at h
      by_cases e : g k = 0
      · rw [if_pos e] at h
        cases h
        omega
      · rw [if_neg e] at h
        have l3 := (ko_nI hD hS (k := k) (f := g k - 1) (by omega) (by have := hg k (by omega); omega)).2
        cases ha : alw s k S0 (g k - 1) with
        | false => rw [ha] at h; cases h
        | true =>
          rw [ha] at h
          cases h
          dsimp only
          omega
theorem m_much {w : XW} {d : Dl} (hD : DOk d) {s : Sc} (hS : SOk d s) (hd : MdAt w d) (hs : MsAt w s) {T : Nat} {g : Nat → Nat} (hg : GW w d g) {S mu ma : Nat} (hp : pvS d s T g (kn d) = some (S, mu, ma)) (x1 x2 : Int32) :
    q_X12_bestPlacing_57 x1 x2 0 0 0 w = q_X12_bestPlacing_106 x1 x2 (nI mu) (nI ma) w := by
  have h6 := hD.1.2
  have h4 := hD.2.2.1.2
  have g3 : gI w 50 0 3 = nI (kn d) := by rw [hd.1 3 (by omega)]; exact hD.1.1
  have key : ∀ m k S0 mu0 ma0, k + m = kn d → pvS d s T g k = some (S0, mu0, ma0) → q_X12_bestPlacing_57 x1 x2 (nI mu0) (nI ma0) (nI k) w = q_X12_bestPlacing_106 x1 x2 (nI mu) (nI ma) w := by
    intro m
    induction m with
    | zero =>
      intro k S0 mu0 ma0 hk h0
      have : k = kn d := by omega
      subst this
      rw [hp] at h0
      cases h0
      rw [e_X12_bestPlacing_57]
      simp (disch := omega) only [g3, true_and, and_true, false_and, and_false, beq_t, beq_f, eqN_t, eqN_f, eqL_t, eqL_f, nm1, nm2, nm1', nm2', m1z, m2z, zm1, zm2, m12, m21, lg_cmp_ge, lg_cmp_le, lg_cmp_gt, lg_cmp_lt, lg_cmp_eq, oob, oobL, neg0, negL0, natle_f, or_false, false_or, true_or, or_true, or_self, cl, clL, le_t, le_f, lt_t, lt_f, leL_t, leL_f, ltL_t, ltL_f, leM_t, leM_f, ltM_t, ltM_f, leO_t, leO_f, cond_true, cond_false, Option.bind_some, Option.bind_none, if_false, if_true, nI_1, aL1, aL2, mL1, mL2, nI_add, pk_mul, pk_m1, sL1, dL1, pk_sub, m1p1, gIs_eq, gIs_k, gIs_i, gIs_n, gIs_e, gIJ, gIR, gJI, gJR, gJs_eq, gJs_k, gJs_n, gJs_e, gRI, gRJ, gRs_eq, gRs_k, gRs_i, gRs_n, gZI, gZJ, gZR, pI_s, pJ_s, pV_s, pR_s, pR_n, oR_n, oR_s, decide_true, decide_false, not_true_eq_false, not_false_eq_true, decT, decF, Bool.true_eq_false, Bool.false_eq_true, z01, o01, z1f, z1f', zz, oo, b2i_0, b2i_n, b2i_t, b2i_f, Bool.not_true, Bool.not_false]
    | succ m ih =>
      intro k S0 mu0 ma0 hk h0
      obtain ⟨y1, y2⟩ := hg k (by omega)
      have step : pvS d s T g (k + 1) = (if g k = 0 then some (S0, mu0, ma0) else bif alw s k S0 (g k - 1) then some (S0 ||| 2 ^ (g k - 1), mu0 + koN d s k (g k - 1), ma0 + 1) else none) := by
        show (pvS d s T g k).bind _ = _
        rw [h0]
        rfl
      rw [e_X12_bestPlacing_57]
      simp (disch := omega) only [g3, e_X12_bestPlacing_68, y1, true_and, and_true, false_and, and_false, beq_t, beq_f, eqN_t, eqN_f, eqL_t, eqL_f, nm1, nm2, nm1', nm2', m1z, m2z, zm1, zm2, m12, m21, lg_cmp_ge, lg_cmp_le, lg_cmp_gt, lg_cmp_lt, lg_cmp_eq, oob, oobL, neg0, negL0, natle_f, or_false, false_or, true_or, or_true, or_self, cl, clL, le_t, le_f, lt_t, lt_f, leL_t, leL_f, ltL_t, ltL_f, leM_t, leM_f, ltM_t, ltM_f, leO_t, leO_f, cond_true, cond_false, Option.bind_some, Option.bind_none, if_false, if_true, nI_1, aL1, aL2, mL1, mL2, nI_add, pk_mul, pk_m1, sL1, dL1, pk_sub, m1p1, gIs_eq, gIs_k, gIs_i, gIs_n, gIs_e, gIJ, gIR, gJI, gJR, gJs_eq, gJs_k, gJs_n, gJs_e, gRI, gRJ, gRs_eq, gRs_k, gRs_i, gRs_n, gZI, gZJ, gZR, pI_s, pJ_s, pV_s, pR_s, pR_n, oR_n, oR_s, decide_true, decide_false, not_true_eq_false, not_false_eq_true, decT, decF, Bool.true_eq_false, Bool.false_eq_true, z01, o01, z1f, z1f', zz, oo, b2i_0, b2i_n, b2i_t, b2i_f, Bool.not_true, Bool.not_false]
      cases hgk : g k with
      | zero =>
        rw [hgk, if_pos rfl] at step
        simp (disch := omega) only [dn_0, e_X12_bestPlacing_78, e_X12_bestPlacing_100, true_and, and_true, false_and, and_false, beq_t, beq_f, eqN_t, eqN_f, eqL_t, eqL_f, nm1, nm2, nm1', nm2', m1z, m2z, zm1, zm2, m12, m21, lg_cmp_ge, lg_cmp_le, lg_cmp_gt, lg_cmp_lt, lg_cmp_eq, oob, oobL, neg0, negL0, natle_f, or_false, false_or, true_or, or_true, or_self, cl, clL, le_t, le_f, lt_t, lt_f, leL_t, leL_f, ltL_t, ltL_f, leM_t, leM_f, ltM_t, ltM_f, leO_t, leO_f, cond_true, cond_false, Option.bind_some, Option.bind_none, if_false, if_true, nI_1, aL1, aL2, mL1, mL2, nI_add, pk_mul, pk_m1, sL1, dL1, pk_sub, m1p1, gIs_eq, gIs_k, gIs_i, gIs_n, gIs_e, gIJ, gIR, gJI, gJR, gJs_eq, gJs_k, gJs_n, gJs_e, gRI, gRJ, gRs_eq, gRs_k, gRs_i, gRs_n, gZI, gZJ, gZR, pI_s, pJ_s, pV_s, pR_s, pR_n, oR_n, oR_s, decide_true, decide_false, not_true_eq_false, not_false_eq_true, decT, decF, Bool.true_eq_false, Bool.false_eq_true, z01, o01, z1f, z1f', zz, oo, b2i_0, b2i_n, b2i_t, b2i_f, Bool.not_true, Bool.not_false]
        exact ih (k + 1) S0 mu0 ma0 (by omega) step
      | succ f =>
        rw [hgk] at y1 y2
        rw [hgk, if_neg (by omega), Nat.add_sub_cancel] at step
        cases ha : alw s k S0 f with
        | false =>
          rw [ha] at step
          have := pv_none step m
          rw [show k + 1 + m = kn d by omega, hp] at this
          cases this
        | true =>
          rw [ha] at step
          have ko := (ko_nI hD hS (k := k) (f := f) (by omega) (by omega)).1
          have kb := m_keptOffBy hd hs (k := k) (f := f) (by omega) (by omega)
          rw [ko] at kb
          rw [dn_s] at y1 ⊢
          simp (disch := omega) only [e_X12_bestPlacing_81, y1, kb, e_X12_bestPlacing_100, true_and, and_true, false_and, and_false, beq_t, beq_f, eqN_t, eqN_f, eqL_t, eqL_f, nm1, nm2, nm1', nm2', m1z, m2z, zm1, zm2, m12, m21, lg_cmp_ge, lg_cmp_le, lg_cmp_gt, lg_cmp_lt, lg_cmp_eq, oob, oobL, neg0, negL0, natle_f, or_false, false_or, true_or, or_true, or_self, cl, clL, le_t, le_f, lt_t, lt_f, leL_t, leL_f, ltL_t, ltL_f, leM_t, leM_f, ltM_t, ltM_f, leO_t, leO_f, cond_true, cond_false, Option.bind_some, Option.bind_none, if_false, if_true, nI_1, aL1, aL2, mL1, mL2, nI_add, pk_mul, pk_m1, sL1, dL1, pk_sub, m1p1, gIs_eq, gIs_k, gIs_i, gIs_n, gIs_e, gIJ, gIR, gJI, gJR, gJs_eq, gJs_k, gJs_n, gJs_e, gRI, gRJ, gRs_eq, gRs_k, gRs_i, gRs_n, gZI, gZJ, gZR, pI_s, pJ_s, pV_s, pR_s, pR_n, oR_n, oR_s, decide_true, decide_false, not_true_eq_false, not_false_eq_true, decT, decF, Bool.true_eq_false, Bool.false_eq_true, z01, o01, z1f, z1f', zz, oo, b2i_0, b2i_n, b2i_t, b2i_f, Bool.not_true, Bool.not_false]
          exact ih (k + 1) _ _ _ (by omega) step
  have := key (kn d) 0 T 0 0 (by omega) rfl
  rw [nI_0] at this
  exact this
theorem m_copyTo {w : XW} {d : Dl} {g : Nat → Nat} (hg : GW w d g) (x1 x2 : Int32) : ∃ w', q_X12_bestPlacing_133 x1 x2 0 w = q_X12_bestPlacing_32 x1 x2 w' ∧ GB w' g ∧ Fr (fun κ _ _ => κ = 55) w w' := by
  obtain ⟨w', a1, a2, a3⟩ := loop0 6 (fun k v => q_X12_bestPlacing_133 x1 x2 (nI k) v) (fun v => q_X12_bestPlacing_32 x1 x2 v) (fun k v => Fr (fun κ _ _ => κ = 55) w v ∧ ∀ k', k' < k → gI v 55 0 k' = dn (g k')) (s := w) ⟨Fr.refl _ _, fun k' h => absurd h (by omega)⟩ (fun k v hk hi => by
      obtain ⟨i1, i2⟩ := hi
      have x : gI v 54 0 k = dn (g k) := by rw [(i1 54 0 k (by omega)).1]; exact (hg k hk).1
      ((try dsimp only); rw [e_X12_bestPlacing_133]; simp (disch := omega) only [e_X12_bestPlacing_140, x, true_and, and_true, false_and, and_false, beq_t, beq_f, eqN_t, eqN_f, eqL_t, eqL_f, nm1, nm2, nm1', nm2', m1z, m2z, zm1, zm2, m12, m21, lg_cmp_ge, lg_cmp_le, lg_cmp_gt, lg_cmp_lt, lg_cmp_eq, oob, oobL, neg0, negL0, natle_f, or_false, false_or, true_or, or_true, or_self, cl, clL, le_t, le_f, lt_t, lt_f, leL_t, leL_f, ltL_t, ltL_f, leM_t, leM_f, ltM_t, ltM_f, leO_t, leO_f, cond_true, cond_false, Option.bind_some, Option.bind_none, if_false, if_true, nI_1, aL1, aL2, mL1, mL2, nI_add, pk_mul, pk_m1, sL1, dL1, pk_sub, m1p1, gIs_eq, gIs_k, gIs_i, gIs_n, gIs_e, gIJ, gIR, gJI, gJR, gJs_eq, gJs_k, gJs_n, gJs_e, gRI, gRJ, gRs_eq, gRs_k, gRs_i, gRs_n, gZI, gZJ, gZR, pI_s, pJ_s, pV_s, pR_s, pR_n, oR_n, oR_s, decide_true, decide_false, not_true_eq_false, not_false_eq_true, decT, decF, Bool.true_eq_false, Bool.false_eq_true, z01, o01, z1f, z1f', zz, oo, b2i_0, b2i_n, b2i_t, b2i_f, Bool.not_true, Bool.not_false])
      refine ⟨_, rfl, i1.sI rfl, fun k' h => ?_⟩
      by_cases e : k' = k
      · subst e; exact gIs_eq
      · rw [gIs_k e]; exact i2 k' (by omega)) (fun v hi => by ((try dsimp only); rw [e_X12_bestPlacing_133]; simp (disch := omega) only [e_X12_bestPlacing_160, true_and, and_true, false_and, and_false, beq_t, beq_f, eqN_t, eqN_f, eqL_t, eqL_f, nm1, nm2, nm1', nm2', m1z, m2z, zm1, zm2, m12, m21, lg_cmp_ge, lg_cmp_le, lg_cmp_gt, lg_cmp_lt, lg_cmp_eq, oob, oobL, neg0, negL0, natle_f, or_false, false_or, true_or, or_true, or_self, cl, clL, le_t, le_f, lt_t, lt_f, leL_t, leL_f, ltL_t, ltL_f, leM_t, leM_f, ltM_t, ltM_f, leO_t, leO_f, cond_true, cond_false, Option.bind_some, Option.bind_none, if_false, if_true, nI_1, aL1, aL2, mL1, mL2, nI_add, pk_mul, pk_m1, sL1, dL1, pk_sub, m1p1, gIs_eq, gIs_k, gIs_i, gIs_n, gIs_e, gIJ, gIR, gJI, gJR, gJs_eq, gJs_k, gJs_n, gJs_e, gRI, gRJ, gRs_eq, gRs_k, gRs_i, gRs_n, gZI, gZJ, gZR, pI_s, pJ_s, pV_s, pR_s, pR_n, oR_n, oR_s, decide_true, decide_false, not_true_eq_false, not_false_eq_true, decT, decF, Bool.true_eq_false, Bool.false_eq_true, z01, o01, z1f, z1f', zz, oo, b2i_0, b2i_n, b2i_t, b2i_f, Bool.not_true, Bool.not_false]))
  rw [nI_0] at a1
  exact ⟨w', a1, a3, a2⟩
theorem GW.fr {P : Nat → Nat → Nat → Prop} {w w' : XW} {d : Dl} {g : Nat → Nat} (h : GW w d g) (hF : Fr P w w') (hP : ∀ k, ¬ P 54 0 k) : GW w' d g := fun k hk => by
  rw [(hF 54 0 k (hP k)).1]; exact h k hk
theorem m_proc {w : XW} {d : Dl} (hD : DOk d) {s : Sc} (hS : SOk d s) (hd : MdAt w d) (hs : MsAt w s) {T : Nat} (hT : T < 16) (bT : ∀ f, f < fn d → (T / 2 ^ f % 2 = 1 ↔ ¬ kiS d s (nI f) = -1)) {g : Nat → Nat} (hg : GW w d g) (b : Bs) (hb : GB w b.2.2) (hb1 : b.1 ≤ 400) (hb2 : b.2.1 ≤ 7) :
    ∃ w', q_X12_bestPlacing_39 (nI b.1) (nI b.2.1) w = q_X12_bestPlacing_32 (nI (prS d s T (kn d) g b).1) (nI (prS d s T (kn d) g b).2.1) w' ∧ GB w' (prS d s T (kn d) g b).2.2 ∧ Fr (fun κ _ _ => κ = 55) w w' ∧ (prS d s T (kn d) g b).1 ≤ 400 ∧ (prS d s T (kn d) g b).2.1 ≤ 7 ∧ (prS d s T (kn d) g b = b → w' = w ∨ ∃ a, pvS d s T g (kn d) = some a ∧ btr a.2 (b.1, b.2.1) = true) := by
  have h6 := hD.1.2
  have cg := m_canGo hD hd hs hT bT hg
  unfold prS
  cases hp : pvS d s T g (kn d) with
  | none =>
    rw [hp] at cg
    refine ⟨w, ?_, hb, Fr.refl _ _, hb1, hb2, fun _ => Or.inl rfl⟩
    rw [e_X12_bestPlacing_39, cg]
    simp (disch := omega) only [Option.isSome_none, e_X12_bestPlacing_46, true_and, and_true, false_and, and_false, beq_t, beq_f, eqN_t, eqN_f, eqL_t, eqL_f, nm1, nm2, nm1', nm2', m1z, m2z, zm1, zm2, m12, m21, lg_cmp_ge, lg_cmp_le, lg_cmp_gt, lg_cmp_lt, lg_cmp_eq, oob, oobL, neg0, negL0, natle_f, or_false, false_or, true_or, or_true, or_self, cl, clL, le_t, le_f, lt_t, lt_f, leL_t, leL_f, ltL_t, ltL_f, leM_t, leM_f, ltM_t, ltM_f, leO_t, leO_f, cond_true, cond_false, Option.bind_some, Option.bind_none, if_false, if_true, nI_1, aL1, aL2, mL1, mL2, nI_add, pk_mul, pk_m1, sL1, dL1, pk_sub, m1p1, gIs_eq, gIs_k, gIs_i, gIs_n, gIs_e, gIJ, gIR, gJI, gJR, gJs_eq, gJs_k, gJs_n, gJs_e, gRI, gRJ, gRs_eq, gRs_k, gRs_i, gRs_n, gZI, gZJ, gZR, pI_s, pJ_s, pV_s, pR_s, pR_n, oR_n, oR_s, decide_true, decide_false, not_true_eq_false, not_false_eq_true, decT, decF, Bool.true_eq_false, Bool.false_eq_true, z01, o01, z1f, z1f', zz, oo, b2i_0, b2i_n, b2i_t, b2i_f, Bool.not_true, Bool.not_false]
  | some a =>
    obtain ⟨S, mu, ma⟩ := a
    rw [hp] at cg
    obtain ⟨bd1, bd2⟩ := pv_bd hD hS (fun k hk => (hg k hk).2) (kn d) S mu ma (Nat.le_refl _) hp
    have mm := m_much hD hS hd hs hg hp (nI b.1) (nI b.2.1)
    have head : q_X12_bestPlacing_39 (nI b.1) (nI b.2.1) w = q_X12_bestPlacing_106 (nI b.1) (nI b.2.1) (nI mu) (nI ma) w := by
      rw [e_X12_bestPlacing_39, cg]
      simp (disch := omega) only [Option.isSome_some, e_X12_bestPlacing_49, mm, true_and, and_true, false_and, and_false, beq_t, beq_f, eqN_t, eqN_f, eqL_t, eqL_f, nm1, nm2, nm1', nm2', m1z, m2z, zm1, zm2, m12, m21, lg_cmp_ge, lg_cmp_le, lg_cmp_gt, lg_cmp_lt, lg_cmp_eq, oob, oobL, neg0, negL0, natle_f, or_false, false_or, true_or, or_true, or_self, cl, clL, le_t, le_f, lt_t, lt_f, leL_t, leL_f, ltL_t, ltL_f, leM_t, leM_f, ltM_t, ltM_f, leO_t, leO_f, cond_true, cond_false, Option.bind_some, Option.bind_none, if_false, if_true, nI_1, aL1, aL2, mL1, mL2, nI_add, pk_mul, pk_m1, sL1, dL1, pk_sub, m1p1, gIs_eq, gIs_k, gIs_i, gIs_n, gIs_e, gIJ, gIR, gJI, gJR, gJs_eq, gJs_k, gJs_n, gJs_e, gRI, gRJ, gRs_eq, gRs_k, gRs_i, gRs_n, gZI, gZJ, gZR, pI_s, pJ_s, pV_s, pR_s, pR_n, oR_n, oR_s, decide_true, decide_false, not_true_eq_false, not_false_eq_true, decT, decF, Bool.true_eq_false, Bool.false_eq_true, z01, o01, z1f, z1f', zz, oo, b2i_0, b2i_n, b2i_t, b2i_f, Bool.not_true, Bool.not_false]
    rw [head, e_X12_bestPlacing_106]
    show ∃ w', _ = q_X12_bestPlacing_32 (nI (bif btr (mu, ma) (b.1, b.2.1) then (mu, ma, g) else b).1) (nI (bif btr (mu, ma) (b.1, b.2.1) then (mu, ma, g) else b).2.1) w' ∧ GB w' (bif btr (mu, ma) (b.1, b.2.1) then (mu, ma, g) else b).2.2 ∧ _ ∧ (bif btr (mu, ma) (b.1, b.2.1) then (mu, ma, g) else b).1 ≤ 400 ∧ (bif btr (mu, ma) (b.1, b.2.1) then (mu, ma, g) else b).2.1 ≤ 7 ∧ ((bif btr (mu, ma) (b.1, b.2.1) then (mu, ma, g) else b) = b → w' = w ∨ ∃ a, some (S, mu, ma) = some a ∧ btr a.2 (b.1, b.2.1) = true)
    have hbt : btr (mu, ma) (b.1, b.2.1) = decide (b.1 < mu ∨ (mu = b.1 ∧ ma < b.2.1)) := rfl
    have take : btr (mu, ma) (b.1, b.2.1) = true → ∃ w', q_X12_bestPlacing_125 (nI mu) (nI ma) w = q_X12_bestPlacing_32 (nI mu) (nI ma) w' ∧ GB w' g ∧ Fr (fun κ _ _ => κ = 55) w w' ∧ mu ≤ 400 ∧ ma ≤ 7 ∧ (((mu, ma, g) : Bs) = b → w' = w ∨ ∃ a, some (S, mu, ma) = some a ∧ btr a.2 (b.1, b.2.1) = true) := fun ht => by
      obtain ⟨w', y1, y2, y3⟩ := m_copyTo hg (nI mu) (nI ma)
      exact ⟨w', by rw [e_X12_bestPlacing_125, y1], y2, y3, by omega, by omega, fun _ => Or.inr ⟨_, rfl, ht⟩⟩
    rcases Nat.lt_trichotomy mu b.1 with q | q | q
    · have hf : btr (mu, ma) (b.1, b.2.1) = false := by rw [hbt]; exact decF (by omega)
      rw [hf]
      refine ⟨w, ?_, hb, Fr.refl _ _, hb1, hb2, fun _ => Or.inl rfl⟩
      simp (disch := omega) only [true_and, and_true, false_and, and_false, beq_t, beq_f, eqN_t, eqN_f, eqL_t, eqL_f, nm1, nm2, nm1', nm2', m1z, m2z, zm1, zm2, m12, m21, lg_cmp_ge, lg_cmp_le, lg_cmp_gt, lg_cmp_lt, lg_cmp_eq, oob, oobL, neg0, negL0, natle_f, or_false, false_or, true_or, or_true, or_self, cl, clL, le_t, le_f, lt_t, lt_f, leL_t, leL_f, ltL_t, ltL_f, leM_t, leM_f, ltM_t, ltM_f, leO_t, leO_f, cond_true, cond_false, Option.bind_some, Option.bind_none, if_false, if_true, nI_1, aL1, aL2, mL1, mL2, nI_add, pk_mul, pk_m1, sL1, dL1, pk_sub, m1p1, gIs_eq, gIs_k, gIs_i, gIs_n, gIs_e, gIJ, gIR, gJI, gJR, gJs_eq, gJs_k, gJs_n, gJs_e, gRI, gRJ, gRs_eq, gRs_k, gRs_i, gRs_n, gZI, gZJ, gZR, pI_s, pJ_s, pV_s, pR_s, pR_n, oR_n, oR_s, decide_true, decide_false, not_true_eq_false, not_false_eq_true, decT, decF, Bool.true_eq_false, Bool.false_eq_true, z01, o01, z1f, z1f', zz, oo, b2i_0, b2i_n, b2i_t, b2i_f, Bool.not_true, Bool.not_false]
    · by_cases q2 : ma < b.2.1
      · have hf : btr (mu, ma) (b.1, b.2.1) = true := by rw [hbt]; exact decT (by omega)
        rw [hf]
        simp (disch := omega) only [e_X12_bestPlacing_111, e_X12_bestPlacing_116, true_and, and_true, false_and, and_false, beq_t, beq_f, eqN_t, eqN_f, eqL_t, eqL_f, nm1, nm2, nm1', nm2', m1z, m2z, zm1, zm2, m12, m21, lg_cmp_ge, lg_cmp_le, lg_cmp_gt, lg_cmp_lt, lg_cmp_eq, oob, oobL, neg0, negL0, natle_f, or_false, false_or, true_or, or_true, or_self, cl, clL, le_t, le_f, lt_t, lt_f, leL_t, leL_f, ltL_t, ltL_f, leM_t, leM_f, ltM_t, ltM_f, leO_t, leO_f, cond_true, cond_false, Option.bind_some, Option.bind_none, if_false, if_true, nI_1, aL1, aL2, mL1, mL2, nI_add, pk_mul, pk_m1, sL1, dL1, pk_sub, m1p1, gIs_eq, gIs_k, gIs_i, gIs_n, gIs_e, gIJ, gIR, gJI, gJR, gJs_eq, gJs_k, gJs_n, gJs_e, gRI, gRJ, gRs_eq, gRs_k, gRs_i, gRs_n, gZI, gZJ, gZR, pI_s, pJ_s, pV_s, pR_s, pR_n, oR_n, oR_s, decide_true, decide_false, not_true_eq_false, not_false_eq_true, decT, decF, Bool.true_eq_false, Bool.false_eq_true, z01, o01, z1f, z1f', zz, oo, b2i_0, b2i_n, b2i_t, b2i_f, Bool.not_true, Bool.not_false]
        exact take hf
      · have hf : btr (mu, ma) (b.1, b.2.1) = false := by rw [hbt]; exact decF (by omega)
        rw [hf]
        refine ⟨w, ?_, hb, Fr.refl _ _, hb1, hb2, fun _ => Or.inl rfl⟩
        simp (disch := omega) only [e_X12_bestPlacing_111, e_X12_bestPlacing_116, e_X12_bestPlacing_122, true_and, and_true, false_and, and_false, beq_t, beq_f, eqN_t, eqN_f, eqL_t, eqL_f, nm1, nm2, nm1', nm2', m1z, m2z, zm1, zm2, m12, m21, lg_cmp_ge, lg_cmp_le, lg_cmp_gt, lg_cmp_lt, lg_cmp_eq, oob, oobL, neg0, negL0, natle_f, or_false, false_or, true_or, or_true, or_self, cl, clL, le_t, le_f, lt_t, lt_f, leL_t, leL_f, ltL_t, ltL_f, leM_t, leM_f, ltM_t, ltM_f, leO_t, leO_f, cond_true, cond_false, Option.bind_some, Option.bind_none, if_false, if_true, nI_1, aL1, aL2, mL1, mL2, nI_add, pk_mul, pk_m1, sL1, dL1, pk_sub, m1p1, gIs_eq, gIs_k, gIs_i, gIs_n, gIs_e, gIJ, gIR, gJI, gJR, gJs_eq, gJs_k, gJs_n, gJs_e, gRI, gRJ, gRs_eq, gRs_k, gRs_i, gRs_n, gZI, gZJ, gZR, pI_s, pJ_s, pV_s, pR_s, pR_n, oR_n, oR_s, decide_true, decide_false, not_true_eq_false, not_false_eq_true, decT, decF, Bool.true_eq_false, Bool.false_eq_true, z01, o01, z1f, z1f', zz, oo, b2i_0, b2i_n, b2i_t, b2i_f, Bool.not_true, Bool.not_false]
    · have hf : btr (mu, ma) (b.1, b.2.1) = true := by rw [hbt]; exact decT (by omega)
      rw [hf]
      simp (disch := omega) only [e_X12_bestPlacing_111, true_and, and_true, false_and, and_false, beq_t, beq_f, eqN_t, eqN_f, eqL_t, eqL_f, nm1, nm2, nm1', nm2', m1z, m2z, zm1, zm2, m12, m21, lg_cmp_ge, lg_cmp_le, lg_cmp_gt, lg_cmp_lt, lg_cmp_eq, oob, oobL, neg0, negL0, natle_f, or_false, false_or, true_or, or_true, or_self, cl, clL, le_t, le_f, lt_t, lt_f, leL_t, leL_f, ltL_t, ltL_f, leM_t, leM_f, ltM_t, ltM_f, leO_t, leO_f, cond_true, cond_false, Option.bind_some, Option.bind_none, if_false, if_true, nI_1, aL1, aL2, mL1, mL2, nI_add, pk_mul, pk_m1, sL1, dL1, pk_sub, m1p1, gIs_eq, gIs_k, gIs_i, gIs_n, gIs_e, gIJ, gIR, gJI, gJR, gJs_eq, gJs_k, gJs_n, gJs_e, gRI, gRJ, gRs_eq, gRs_k, gRs_i, gRs_n, gZI, gZJ, gZR, pI_s, pJ_s, pV_s, pR_s, pR_n, oR_n, oR_s, decide_true, decide_false, not_true_eq_false, not_false_eq_true, decT, decF, Bool.true_eq_false, Bool.false_eq_true, z01, o01, z1f, z1f', zz, oo, b2i_0, b2i_n, b2i_t, b2i_f, Bool.not_true, Bool.not_false]
      exact take hf
def mxw (d : Dl) (g : Nat → Nat) (k : Nat) : Nat → Nat := fun j => if k ≤ j ∧ j < kn d then fn d else g j
theorem nxw_s {d : Dl} {g : Nat → Nat} {j : Nat} : nxw d g (j + 1) = if g j = fn d then nxw d (updN g j 0) j else some (updN g j (g j + 1)) := rfl
theorem nxw_run {d : Dl} (g : Nat → Nat) (k c : Nat) (hk : k < kn d) (hc : c < fn d) (h0 : ∀ j, k ≤ j → g j = 0) : ∀ q j (h : Nat → Nat), k + 1 + q = j → j ≤ kn d → (∀ i, h i = if k + 1 ≤ i ∧ i < j then fn d else updN g k c i) → nxw d h j = some (updN g k (c + 1)) := by
  intro q
  induction q with
  | zero =>
    intro j h hj hl hh
    have ej : j = k + 1 := by omega
    subst ej
    have e : h k = c := by rw [hh, if_neg (by omega), updN_s]
    rw [nxw_s, if_neg (by rw [e]; omega), e]
    congr 1
    funext i
    by_cases ei : i = k
    · subst ei
      rw [updN_s, updN_s]
    · rw [updN_n ei, updN_n ei, hh, if_neg (by omega), updN_n ei]
  | succ q ih =>
    intro j h hj hl hh
    obtain ⟨j, rfl⟩ : ∃ j', j = j' + 1 := ⟨j - 1, by omega⟩
    rw [nxw_s, if_pos (by rw [hh, if_pos (by omega)])]
    refine ih j _ (by omega) (by omega) (fun i => ?_)
    by_cases ei : i = j
    · subst ei
      rw [updN_s, if_neg (by omega), updN_n (by omega), h0 i (by omega)]
    · rw [updN_n ei, hh]
      by_cases e2 : k + 1 ≤ i ∧ i < j
      · rw [if_pos e2, if_pos (by omega)]
      · rw [if_neg e2, if_neg (by omega)]
theorem nxw_end {d : Dl} : ∀ (j : Nat) (g : Nat → Nat), (∀ i, i < j → g i = fn d) → nxw d g j = none := by
  intro j
  induction j with
  | zero => intro g _; rfl
  | succ j ih =>
    intro g h
    show (if g j = fn d then nxw d (updN g j 0) j else some _) = none
    rw [if_pos (h j (by omega))]
    exact ih _ (fun i hi => by rw [updN_n (by omega)]; exact h i (by omega))
/-- all ways that go on from the first k of one, one behind the other -/
theorem m_ways {d : Dl} (hD : DOk d) {s : Sc} (hS : SOk d s) {T : Nat} (hT : T < 16) (bT : ∀ f, f < fn d → (T / 2 ^ f % 2 = 1 ↔ ¬ kiS d s (nI f) = -1)) : ∀ (n k : Nat) (g : Nat → Nat) (b : Bs) (w : XW), k + n = kn d → (∀ j, k ≤ j → g j = 0) → MdAt w d → MsAt w s → GW w d g → GB w b.2.2 → b.1 ≤ 400 → b.2.1 ≤ 7 →
    ∃ w', q_X12_bestPlacing_39 (nI b.1) (nI b.2.1) w = q_X12_bestPlacing_32 (nI (fS d s T n k g b).1) (nI (fS d s T n k g b).2.1) w' ∧ GW w' d (mxw d g k) ∧ GB w' (fS d s T n k g b).2.2 ∧ (fS d s T n k g b).1 ≤ 400 ∧ (fS d s T n k g b).2.1 ≤ 7 ∧ Fr P5x w w' := by
  have h6 := hD.1.2
  have h4 := hD.2.2.1.2
  intro n
  induction n with
  | zero =>
    intro k g b w hk h0 hd hs hg hb hb1 hb2
    obtain ⟨w', a1, a2, a3, a4, a5, _⟩ := m_proc hD hS hd hs hT bT hg b hb hb1 hb2
    have ek : k = kn d := by omega
    subst ek
    refine ⟨w', a1, ?_, a2, a4, a5, a3.mono (fun κ i k q => Or.inr q)⟩
    have : mxw d g (kn d) = g := by
      funext j
      exact if_neg (by omega)
    rw [this]
    exact hg.fr a3 (fun k => by omega)
  | succ n ih =>
    intro k g b w hk h0 hd hs hg hb hb1 hb2
    have key : ∀ c, c ≤ fn d → ∃ w', q_X12_bestPlacing_39 (nI b.1) (nI b.2.1) w = q_X12_bestPlacing_32 (nI (itr (fun c b => fS d s T n (k + 1) (updN g k c) b) 0 (c + 1) b).1) (nI (itr (fun c b => fS d s T n (k + 1) (updN g k c) b) 0 (c + 1) b).2.1) w' ∧ GW w' d (mxw d (updN g k c) (k + 1)) ∧ GB w' (itr (fun c b => fS d s T n (k + 1) (updN g k c) b) 0 (c + 1) b).2.2 ∧ (itr (fun c b => fS d s T n (k + 1) (updN g k c) b) 0 (c + 1) b).1 ≤ 400 ∧ (itr (fun c b => fS d s T n (k + 1) (updN g k c) b) 0 (c + 1) b).2.1 ≤ 7 ∧ Fr P5x w w' := by
      intro c
      induction c with
      | zero =>
        intro _
        have eg : updN g k 0 = g := by
          funext j
          by_cases e : j = k
          · rw [e, updN_s, h0 k (Nat.le_refl _)]
          · rw [updN_n e]
        rw [itr_succ, Nat.zero_add, eg]
        exact ih (k + 1) g b w (by omega) (fun j hj => h0 j (by omega)) hd hs hg hb hb1 hb2
      | succ c ihc =>
        intro hc
        obtain ⟨w1, a1, a2, a3, a4, a5, a6⟩ := ihc (by omega)
        rw [itr_succ, Nat.zero_add]
        generalize itr (fun c b => fS d s T n (k + 1) (updN g k c) b) 0 (c + 1) b = b1 at a1 a3 a4 a5
        have hd1 := hd.fr a6 (fun k q => by unfold P5x; omega)
        have hnx := nxw_run g k c (by omega) (by omega) h0 (kn d - (k + 1)) (kn d) (mxw d (updN g k c) (k + 1)) (by omega) (Nat.le_refl _) (fun i => rfl)
        obtain ⟨w2, c1, c2, c3⟩ := (m_nextWay hD (kn d) _ w1 (Nat.le_refl _) hd1 a2).1 _ hnx
        have hF2 : Fr P5x w w2 := a6.trans (c3.mono (fun κ i k q => Or.inl q))
        have hb2' : GB w2 b1.2.2 := fun j hj => by rw [(c3 55 0 j (by omega)).1]; exact a3 j hj
        obtain ⟨w3, e1, e2, e3, e4, e5, e6⟩ := ih (k + 1) (updN g k (c + 1)) b1 w2 (by omega) (fun j hj => by rw [updN_n (by omega)]; exact h0 j (by omega)) (hd.fr hF2 (fun k q => by unfold P5x; omega)) (hs.fr hF2 (fun k q => by unfold P5x; omega)) c2 hb2' a4 a5
        refine ⟨w3, ?_, e2, e3, e4, e5, hF2.trans e6⟩
        have g3 : gI w1 50 0 3 = nI (kn d) := by rw [hd1.1 3 (by omega)]; exact hD.1.1
        have hnw : F_X12_nextWay [.inr (11, 0)] w1 = some (1, w2) := by
          rw [f_X12_nextWay, e_X12_nextWay_0, g3, dn_sub, c1]
          rfl
        rw [a1, e_X12_bestPlacing_32, hnw]
        simp (disch := omega) only [true_and, and_true, false_and, and_false, beq_t, beq_f, eqN_t, eqN_f, eqL_t, eqL_f, nm1, nm2, nm1', nm2', m1z, m2z, zm1, zm2, m12, m21, lg_cmp_ge, lg_cmp_le, lg_cmp_gt, lg_cmp_lt, lg_cmp_eq, oob, oobL, neg0, negL0, natle_f, or_false, false_or, true_or, or_true, or_self, cl, clL, le_t, le_f, lt_t, lt_f, leL_t, leL_f, ltL_t, ltL_f, leM_t, leM_f, ltM_t, ltM_f, leO_t, leO_f, cond_true, cond_false, Option.bind_some, Option.bind_none, if_false, if_true, nI_1, aL1, aL2, mL1, mL2, nI_add, pk_mul, pk_m1, sL1, dL1, pk_sub, m1p1, gIs_eq, gIs_k, gIs_i, gIs_n, gIs_e, gIJ, gIR, gJI, gJR, gJs_eq, gJs_k, gJs_n, gJs_e, gRI, gRJ, gRs_eq, gRs_k, gRs_i, gRs_n, gZI, gZJ, gZR, pI_s, pJ_s, pV_s, pR_s, pR_n, oR_n, oR_s, decide_true, decide_false, not_true_eq_false, not_false_eq_true, decT, decF, Bool.true_eq_false, Bool.false_eq_true, z01, o01, z1f, z1f', zz, oo, b2i_0, b2i_n, b2i_t, b2i_f, Bool.not_true, Bool.not_false]
        exact e1
    obtain ⟨w', a1, a2, a3, a4, a5, a6⟩ := key (fn d) (Nat.le_refl _)
    refine ⟨w', a1, ?_, a3, a4, a5, a6⟩
    have : mxw d (updN g k (fn d)) (k + 1) = mxw d g k := by
      funext j
      unfold mxw
      by_cases e : j = k
      · subst e
        rw [if_neg (by omega), updN_s, if_pos (by omega)]
      · rw [updN_n e]
        by_cases e2 : k + 1 ≤ j ∧ j < kn d
        · rw [if_pos e2, if_pos (by omega)]
        · rw [if_neg e2, if_neg (by omega)]
    rw [← this]
    exact a2
theorem m_bestPlacing {w : XW} {d : Dl} (hD : DOk d) {s : Sc} (hS : SOk d s) (hd : MdAt w d) (hs : MsAt w s) {T : Nat} (hT : T < 16) (bT : ∀ f, f < fn d → (T / 2 ^ f % 2 = 1 ↔ ¬ kiS d s (nI f) = -1)) :
    ∃ w', F_X12_bestPlacing [.inr (11, 0)] w = some (nI (((trk d s (kn d) 0 T).1 + 7) / 8), w') ∧ (∀ j, j < kn d → gI w' 55 0 j = dn (trk d s (kn d - j) j (Sq d s T j)).2) ∧ Fr P5x w w' := by
  have h6 := hD.1.2
  have h4 := hD.2.2.1.2
  -- all at home
  obtain ⟨w1, a1, a2, a3, a4⟩ := loop0 6 (fun k v => q_X12_bestPlacing_6 0 0 (nI k) v) (fun v => q_X12_bestPlacing_32 0 0 v) (fun k v => Fr P5x w v ∧ (∀ k', k' < k → gI v 54 0 k' = -1) ∧ ∀ k', k' < k → gI v 55 0 k' = -1) (s := w) ⟨Fr.refl _ _, fun k' h => absurd h (by omega), fun k' h => absurd h (by omega)⟩ (fun k v hk hi => by
      obtain ⟨i1, i2, i3⟩ := hi
      ((try dsimp only); rw [e_X12_bestPlacing_6]; simp (disch := omega) only [e_X12_bestPlacing_12, true_and, and_true, false_and, and_false, beq_t, beq_f, eqN_t, eqN_f, eqL_t, eqL_f, nm1, nm2, nm1', nm2', m1z, m2z, zm1, zm2, m12, m21, lg_cmp_ge, lg_cmp_le, lg_cmp_gt, lg_cmp_lt, lg_cmp_eq, oob, oobL, neg0, negL0, natle_f, or_false, false_or, true_or, or_true, or_self, cl, clL, le_t, le_f, lt_t, lt_f, leL_t, leL_f, ltL_t, ltL_f, leM_t, leM_f, ltM_t, ltM_f, leO_t, leO_f, cond_true, cond_false, Option.bind_some, Option.bind_none, if_false, if_true, nI_1, aL1, aL2, mL1, mL2, nI_add, pk_mul, pk_m1, sL1, dL1, pk_sub, m1p1, gIs_eq, gIs_k, gIs_i, gIs_n, gIs_e, gIJ, gIR, gJI, gJR, gJs_eq, gJs_k, gJs_n, gJs_e, gRI, gRJ, gRs_eq, gRs_k, gRs_i, gRs_n, gZI, gZJ, gZR, pI_s, pJ_s, pV_s, pR_s, pR_n, oR_n, oR_s, decide_true, decide_false, not_true_eq_false, not_false_eq_true, decT, decF, Bool.true_eq_false, Bool.false_eq_true, z01, o01, z1f, z1f', zz, oo, b2i_0, b2i_n, b2i_t, b2i_f, Bool.not_true, Bool.not_false])
      refine ⟨_, rfl, (i1.sI (by unfold P5x; omega)).sI (by unfold P5x; omega), fun k' h => ?_, fun k' h => ?_⟩
      · by_cases e : k' = k
        · subst e; simp (disch := omega) only [true_and, and_true, false_and, and_false, beq_t, beq_f, eqN_t, eqN_f, eqL_t, eqL_f, nm1, nm2, nm1', nm2', m1z, m2z, zm1, zm2, m12, m21, lg_cmp_ge, lg_cmp_le, lg_cmp_gt, lg_cmp_lt, lg_cmp_eq, oob, oobL, neg0, negL0, natle_f, or_false, false_or, true_or, or_true, or_self, cl, clL, le_t, le_f, lt_t, lt_f, leL_t, leL_f, ltL_t, ltL_f, leM_t, leM_f, ltM_t, ltM_f, leO_t, leO_f, cond_true, cond_false, Option.bind_some, Option.bind_none, if_false, if_true, nI_1, aL1, aL2, mL1, mL2, nI_add, pk_mul, pk_m1, sL1, dL1, pk_sub, m1p1, gIs_eq, gIs_k, gIs_i, gIs_n, gIs_e, gIJ, gIR, gJI, gJR, gJs_eq, gJs_k, gJs_n, gJs_e, gRI, gRJ, gRs_eq, gRs_k, gRs_i, gRs_n, gZI, gZJ, gZR, pI_s, pJ_s, pV_s, pR_s, pR_n, oR_n, oR_s, decide_true, decide_false, not_true_eq_false, not_false_eq_true, decT, decF, Bool.true_eq_false, Bool.false_eq_true, z01, o01, z1f, z1f', zz, oo, b2i_0, b2i_n, b2i_t, b2i_f, Bool.not_true, Bool.not_false]
        · simp (disch := omega) only [true_and, and_true, false_and, and_false, beq_t, beq_f, eqN_t, eqN_f, eqL_t, eqL_f, nm1, nm2, nm1', nm2', m1z, m2z, zm1, zm2, m12, m21, lg_cmp_ge, lg_cmp_le, lg_cmp_gt, lg_cmp_lt, lg_cmp_eq, oob, oobL, neg0, negL0, natle_f, or_false, false_or, true_or, or_true, or_self, cl, clL, le_t, le_f, lt_t, lt_f, leL_t, leL_f, ltL_t, ltL_f, leM_t, leM_f, ltM_t, ltM_f, leO_t, leO_f, cond_true, cond_false, Option.bind_some, Option.bind_none, if_false, if_true, nI_1, aL1, aL2, mL1, mL2, nI_add, pk_mul, pk_m1, sL1, dL1, pk_sub, m1p1, gIs_eq, gIs_k, gIs_i, gIs_n, gIs_e, gIJ, gIR, gJI, gJR, gJs_eq, gJs_k, gJs_n, gJs_e, gRI, gRJ, gRs_eq, gRs_k, gRs_i, gRs_n, gZI, gZJ, gZR, pI_s, pJ_s, pV_s, pR_s, pR_n, oR_n, oR_s, decide_true, decide_false, not_true_eq_false, not_false_eq_true, decT, decF, Bool.true_eq_false, Bool.false_eq_true, z01, o01, z1f, z1f', zz, oo, b2i_0, b2i_n, b2i_t, b2i_f, Bool.not_true, Bool.not_false]
          exact i2 k' (by omega)
      · by_cases e : k' = k
        · subst e; simp (disch := omega) only [true_and, and_true, false_and, and_false, beq_t, beq_f, eqN_t, eqN_f, eqL_t, eqL_f, nm1, nm2, nm1', nm2', m1z, m2z, zm1, zm2, m12, m21, lg_cmp_ge, lg_cmp_le, lg_cmp_gt, lg_cmp_lt, lg_cmp_eq, oob, oobL, neg0, negL0, natle_f, or_false, false_or, true_or, or_true, or_self, cl, clL, le_t, le_f, lt_t, lt_f, leL_t, leL_f, ltL_t, ltL_f, leM_t, leM_f, ltM_t, ltM_f, leO_t, leO_f, cond_true, cond_false, Option.bind_some, Option.bind_none, if_false, if_true, nI_1, aL1, aL2, mL1, mL2, nI_add, pk_mul, pk_m1, sL1, dL1, pk_sub, m1p1, gIs_eq, gIs_k, gIs_i, gIs_n, gIs_e, gIJ, gIR, gJI, gJR, gJs_eq, gJs_k, gJs_n, gJs_e, gRI, gRJ, gRs_eq, gRs_k, gRs_i, gRs_n, gZI, gZJ, gZR, pI_s, pJ_s, pV_s, pR_s, pR_n, oR_n, oR_s, decide_true, decide_false, not_true_eq_false, not_false_eq_true, decT, decF, Bool.true_eq_false, Bool.false_eq_true, z01, o01, z1f, z1f', zz, oo, b2i_0, b2i_n, b2i_t, b2i_f, Bool.not_true, Bool.not_false]
        · simp (disch := omega) only [true_and, and_true, false_and, and_false, beq_t, beq_f, eqN_t, eqN_f, eqL_t, eqL_f, nm1, nm2, nm1', nm2', m1z, m2z, zm1, zm2, m12, m21, lg_cmp_ge, lg_cmp_le, lg_cmp_gt, lg_cmp_lt, lg_cmp_eq, oob, oobL, neg0, negL0, natle_f, or_false, false_or, true_or, or_true, or_self, cl, clL, le_t, le_f, lt_t, lt_f, leL_t, leL_f, ltL_t, ltL_f, leM_t, leM_f, ltM_t, ltM_f, leO_t, leO_f, cond_true, cond_false, Option.bind_some, Option.bind_none, if_false, if_true, nI_1, aL1, aL2, mL1, mL2, nI_add, pk_mul, pk_m1, sL1, dL1, pk_sub, m1p1, gIs_eq, gIs_k, gIs_i, gIs_n, gIs_e, gIJ, gIR, gJI, gJR, gJs_eq, gJs_k, gJs_n, gJs_e, gRI, gRJ, gRs_eq, gRs_k, gRs_i, gRs_n, gZI, gZJ, gZR, pI_s, pJ_s, pV_s, pR_s, pR_n, oR_n, oR_s, decide_true, decide_false, not_true_eq_false, not_false_eq_true, decT, decF, Bool.true_eq_false, Bool.false_eq_true, z01, o01, z1f, z1f', zz, oo, b2i_0, b2i_n, b2i_t, b2i_f, Bool.not_true, Bool.not_false]
          exact i3 k' (by omega)) (fun v hi => by ((try dsimp only); rw [e_X12_bestPlacing_6]; simp (disch := omega) only [true_and, and_true, false_and, and_false, beq_t, beq_f, eqN_t, eqN_f, eqL_t, eqL_f, nm1, nm2, nm1', nm2', m1z, m2z, zm1, zm2, m12, m21, lg_cmp_ge, lg_cmp_le, lg_cmp_gt, lg_cmp_lt, lg_cmp_eq, oob, oobL, neg0, negL0, natle_f, or_false, false_or, true_or, or_true, or_self, cl, clL, le_t, le_f, lt_t, lt_f, leL_t, leL_f, ltL_t, ltL_f, leM_t, leM_f, ltM_t, ltM_f, leO_t, leO_f, cond_true, cond_false, Option.bind_some, Option.bind_none, if_false, if_true, nI_1, aL1, aL2, mL1, mL2, nI_add, pk_mul, pk_m1, sL1, dL1, pk_sub, m1p1, gIs_eq, gIs_k, gIs_i, gIs_n, gIs_e, gIJ, gIR, gJI, gJR, gJs_eq, gJs_k, gJs_n, gJs_e, gRI, gRJ, gRs_eq, gRs_k, gRs_i, gRs_n, gZI, gZJ, gZR, pI_s, pJ_s, pV_s, pR_s, pR_n, oR_n, oR_s, decide_true, decide_false, not_true_eq_false, not_false_eq_true, decT, decF, Bool.true_eq_false, Bool.false_eq_true, z01, o01, z1f, z1f', zz, oo, b2i_0, b2i_n, b2i_t, b2i_f, Bool.not_true, Bool.not_false]))
  have hd1 := hd.fr a2 (fun k q => by unfold P5x; omega)
  have hs1 := hs.fr a2 (fun k q => by unfold P5x; omega)
  have hg1 : GW w1 d (fun _ => 0) := fun k hk => ⟨a3 k hk, Nat.zero_le _⟩
  have hb1 : GB w1 (fun _ => 0) := fun k hk => a4 k hk
  -- the way of all at home is no better than itself
  have pz : ∀ k, pvS d s T (fun _ => 0) k = some (T, 0, 0) := by
    intro k
    induction k with
    | zero => rfl
    | succ k ih =>
      show (pvS d s T (fun _ => 0) k).bind _ = _
      rw [ih]
      rfl
  have start : q_X12_bestPlacing_39 (nI 0) (nI 0) w1 = q_X12_bestPlacing_32 (nI 0) (nI 0) w1 := by
    have cg := m_canGo hD hd1 hs1 hT bT hg1
    rw [pz] at cg
    have mm := m_much hD hS hd1 hs1 hg1 (pz (kn d)) (nI 0) (nI 0)
    rw [e_X12_bestPlacing_39, cg]
    simp (disch := omega) only [Option.isSome_some, e_X12_bestPlacing_49, mm, e_X12_bestPlacing_106, e_X12_bestPlacing_111, e_X12_bestPlacing_116, e_X12_bestPlacing_122, true_and, and_true, false_and, and_false, beq_t, beq_f, eqN_t, eqN_f, eqL_t, eqL_f, nm1, nm2, nm1', nm2', m1z, m2z, zm1, zm2, m12, m21, lg_cmp_ge, lg_cmp_le, lg_cmp_gt, lg_cmp_lt, lg_cmp_eq, oob, oobL, neg0, negL0, natle_f, or_false, false_or, true_or, or_true, or_self, cl, clL, le_t, le_f, lt_t, lt_f, leL_t, leL_f, ltL_t, ltL_f, leM_t, leM_f, ltM_t, ltM_f, leO_t, leO_f, cond_true, cond_false, Option.bind_some, Option.bind_none, if_false, if_true, nI_1, aL1, aL2, mL1, mL2, nI_add, pk_mul, pk_m1, sL1, dL1, pk_sub, m1p1, gIs_eq, gIs_k, gIs_i, gIs_n, gIs_e, gIJ, gIR, gJI, gJR, gJs_eq, gJs_k, gJs_n, gJs_e, gRI, gRJ, gRs_eq, gRs_k, gRs_i, gRs_n, gZI, gZJ, gZR, pI_s, pJ_s, pV_s, pR_s, pR_n, oR_n, oR_s, decide_true, decide_false, not_true_eq_false, not_false_eq_true, decT, decF, Bool.true_eq_false, Bool.false_eq_true, z01, o01, z1f, z1f', zz, oo, b2i_0, b2i_n, b2i_t, b2i_f, Bool.not_true, Bool.not_false]
  obtain ⟨w2, b1, b2, b3, b4, b5, b6⟩ := m_ways hD hS hT bT (kn d) 0 (fun _ => 0) (0, 0, fun _ => 0) w1 (by omega) (fun _ _ => rfl) hd1 hs1 hg1 hb1 (by show 0 ≤ 400; omega) (by show 0 ≤ 7; omega)
  obtain ⟨mu, ma, _, f2, f3, f4⟩ := f_some (d := d) (s := s) (T := T) (kn d) 0 (fun _ => 0) T 0 0 rfl (by omega) (by omega)
  have f4 := f4 (0, 0, fun _ => 0) (by show 0 ≤ 7; omega)
  have b1 : q_X12_bestPlacing_39 (nI 0) (nI 0) w1 = _ := b1
  have hd2 := hd1.fr b6 (fun k q => by unfold P5x; omega)
  obtain ⟨w3, c1, c2⟩ := (m_nextWay hD (kn d) _ w2 (Nat.le_refl _) hd2 b2).2 (nxw_end (kn d) _ (fun i hi => if_pos ⟨by omega, hi⟩))
  have g3 : gI w2 50 0 3 = nI (kn d) := by rw [hd2.1 3 (by omega)]; exact hD.1.1
  have hnw : F_X12_nextWay [.inr (11, 0)] w2 = some (0, w3) := by
    rw [f_X12_nextWay, e_X12_nextWay_0, g3, dn_sub, c1]
    rfl
  have res : (fS d s T (kn d) 0 (fun _ => 0) (0, 0, fun _ => 0)).1 = ((trk d s (kn d) 0 T).1 + 7) / 8 ∧ ∀ j, j < kn d → (fS d s T (kn d) 0 (fun _ => 0) (0, 0, fun _ => 0)).2.2 j = (trk d s (kn d - j) j (Sq d s T j)).2 := by
    have hx := fun j (hj : j < kn d) => ext_at (d := d) (s := s) (T := T) (kn d) 0 (fun _ => 0) j (by omega) (by omega) hj
    rw [f4]
    by_cases hz : (trk d s (kn d) 0 T).1 = 0
    · have m0 : mu = 0 ∧ ma = 0 := by omega
      have hf : btr (mu, ma) (((0, 0, fun _ => 0) : Bs).1, ((0, 0, fun _ => 0) : Bs).2.1) = false := by
        rw [m0.1, m0.2]
        rfl
      rw [hf]
      refine ⟨by rw [hz]; rfl, fun j hj => ?_⟩
      rw [← hx j hj]
      exact (ext_0 (kn d) 0 T (fun _ => 0) hz (fun _ _ => rfl) j (by omega)).symm
    · have hf : btr (mu, ma) (((0, 0, fun _ => 0) : Bs).1, ((0, 0, fun _ => 0) : Bs).2.1) = true := by
        rw [btr_iff (show ma ≤ 7 by omega) (show 0 ≤ 7 by omega)]
        show 8 * 0 + ma < 8 * mu + 0
        omega
      rw [hf]
      refine ⟨?_, fun j hj => hx j hj⟩
      show mu = _
      omega
  refine ⟨w3, ?_, fun j hj => ?_, (a2.trans b6).trans (c2.mono (fun κ i k q => Or.inl q))⟩
  · rw [nI_0] at a1 start b1
    rw [f_X12_bestPlacing, e_X12_bestPlacing_0, a1, ← start, b1, e_X12_bestPlacing_32, hnw, res.1]
    simp (disch := omega) only [e_X12_bestPlacing_163, true_and, and_true, false_and, and_false, beq_t, beq_f, eqN_t, eqN_f, eqL_t, eqL_f, nm1, nm2, nm1', nm2', m1z, m2z, zm1, zm2, m12, m21, lg_cmp_ge, lg_cmp_le, lg_cmp_gt, lg_cmp_lt, lg_cmp_eq, oob, oobL, neg0, negL0, natle_f, or_false, false_or, true_or, or_true, or_self, cl, clL, le_t, le_f, lt_t, lt_f, leL_t, leL_f, ltL_t, ltL_f, leM_t, leM_f, ltM_t, ltM_f, leO_t, leO_f, cond_true, cond_false, Option.bind_some, Option.bind_none, if_false, if_true, nI_1, aL1, aL2, mL1, mL2, nI_add, pk_mul, pk_m1, sL1, dL1, pk_sub, m1p1, gIs_eq, gIs_k, gIs_i, gIs_n, gIs_e, gIJ, gIR, gJI, gJR, gJs_eq, gJs_k, gJs_n, gJs_e, gRI, gRJ, gRs_eq, gRs_k, gRs_i, gRs_n, gZI, gZJ, gZR, pI_s, pJ_s, pV_s, pR_s, pR_n, oR_n, oR_s, decide_true, decide_false, not_true_eq_false, not_false_eq_true, decT, decF, Bool.true_eq_false, Bool.false_eq_true, z01, o01, z1f, z1f', zz, oo, b2i_0, b2i_n, b2i_t, b2i_f, Bool.not_true, Bool.not_false]
  · rw [(c2 55 0 j (by omega)).1, b3 j (by omega), res.2 j hj]
