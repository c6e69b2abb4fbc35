/-! ===== look: the model's rows ===== -/
def likM (F : Nat → Bool) (R : Nat → Ar) (k N i : Nat) : Nat := if F i = true then cnt (fun j => F j && decide (R i k = R j k)) 0 N else 0
def mlkM (F : Nat → Bool) (R : Nat → Ar) (k N : Nat) : Nat → Nat
  | 0 => 0
  | i + 1 => if likM F R k N i ≤ mlkM F R k N i then mlkM F R k N i else likM F R k N i
theorem likM_le {F : Nat → Bool} {R : Nat → Ar} {k N i : Nat} : likM F R k N i ≤ N := by
  unfold likM
  by_cases h : F i = true
  · rw [if_pos h]; exact cnt_le _ _
  · rw [if_neg h]; exact Nat.zero_le _
theorem mlkM_le {F : Nat → Bool} {R : Nat → Ar} {k N : Nat} : ∀ i, mlkM F R k N i ≤ N := by
  intro i
  induction i with
  | zero => exact Nat.zero_le _
  | succ i ih =>
    unfold mlkM
    by_cases h : likM F R k N i ≤ mlkM F R k N i
    · rw [if_pos h]; exact ih
    · rw [if_neg h]; exact likM_le
theorem m_alikeAt {w : XW} {n k K : Nat} (hn : n ≤ 6) (hk : k < K) (hK : K ≤ 6) {F : Nat → Bool} {R : Nat → Ar} (gn : gI w 11 0 2 = nI n) (h : ∀ t, t < n + 1 → gI w 59 0 t = b2i (F t) ∧ ∀ j, j < K → gI w 60 0 (6 * t + j) = R t j) : F_X12_alikeAt [.inr (11, 0), .inl (.int (nI k))] w = some (nI (mlkM F R k (n + 1) (n + 1)), w) := by
  have inner : ∀ i x2, i < n + 1 → q_X12_alikeAt_18 (nI k) x2 (nI i) 0 0 w = q_X12_alikeAt_88 (nI k) x2 (nI i) (nI (likM F R k (n + 1) i)) w := by
    intro i x2 hi
    have gi := (h i hi).1
    have g1 := (h i hi).2 k hk
    by_cases hF : F i = true
    · rw [hF] at gi
      have el : likM F R k (n + 1) i = cnt (fun j => F j && decide (R i k = R j k)) 0 (n + 1) := if_pos hF
      rw [el]
      obtain ⟨w', h1, h2⟩ := loop0 (n + 1) (fun j (v : XW) => q_X12_alikeAt_18 (nI k) x2 (nI i) (nI (cnt (fun j => F j && decide (R i k = R j k)) 0 j)) (nI j) v) (fun v => q_X12_alikeAt_88 (nI k) x2 (nI i) (nI (cnt (fun j => F j && decide (R i k = R j k)) 0 (n + 1))) v) (fun _ v => v = w) (s := w) rfl (fun j v hj hv => by
        subst hv
        have gj := (h j hj).1
        have g2 := (h j hj).2 k hk
        refine ⟨v, ?_, rfl⟩
        rw [cnt_up, Nat.zero_add]
        generalize cnt (fun j => F j && decide (R i k = R j k)) 0 j = c
        cases hFj : F j with
        | false =>
          rw [hFj] at gj
          rw [Bool.false_and, if_neg (by decide), Nat.add_zero]
          ((try dsimp only); rw [e_X12_alikeAt_18]; simp (disch := omega) only [gn, e_X12_alikeAt_27, gi, e_X12_alikeAt_36, gj, e_X12_alikeAt_78, e_X12_alikeAt_79, true_and, and_true, false_and, and_false, beq_t, beq_f, eqN_t, eqN_f, eqL_t, eqL_f, nm1, nm2, nm1', nm2', m1z, m2z, zm1, zm2, m12, m21, lg_cmp_ge, lg_cmp_le, lg_cmp_gt, lg_cmp_lt, lg_cmp_eq, oob, oobL, neg0, negL0, natle_f, or_false, false_or, true_or, or_true, or_self, cl, clL, le_t, le_f, lt_t, lt_f, leL_t, leL_f, ltL_t, ltL_f, leM_t, leM_f, ltM_t, ltM_f, leO_t, leO_f, cond_true, cond_false, Option.bind_some, Option.bind_none, if_false, if_true, nI_1, aL1, aL2, mL1, mL2, nI_add, pk_mul, pk_m1, sL1, dL1, pk_sub, m1p1, gIs_eq, gIs_k, gIs_i, gIs_n, gIs_e, gIJ, gIR, gJI, gJR, gJs_eq, gJs_k, gJs_n, gJs_e, gRI, gRJ, gRs_eq, gRs_k, gRs_i, gRs_n, gZI, gZJ, gZR, pI_s, pJ_s, pV_s, pR_s, pR_n, oR_n, oR_s, decide_true, decide_false, not_true_eq_false, not_false_eq_true, decT, decF, Bool.true_eq_false, Bool.false_eq_true, z01, o01, z1f, z1f', zz, oo, b2i_0, b2i_n, b2i_t, b2i_f, Bool.not_true, Bool.not_false])
          rw [Nat.add_zero]
        | true =>
          rw [hFj] at gj
          rw [Bool.true_and]
          by_cases e : R i k = R j k
          · rw [if_pos (decT e)]
            rw [e] at g1
            ((try dsimp only); rw [e_X12_alikeAt_18]; simp (disch := omega) only [gn, e_X12_alikeAt_27, gi, e_X12_alikeAt_36, gj, e_X12_alikeAt_48, g1, g2, e_X12_alikeAt_74, e_X12_alikeAt_79, true_and, and_true, false_and, and_false, beq_t, beq_f, eqN_t, eqN_f, eqL_t, eqL_f, nm1, nm2, nm1', nm2', m1z, m2z, zm1, zm2, m12, m21, lg_cmp_ge, lg_cmp_le, lg_cmp_gt, lg_cmp_lt, lg_cmp_eq, oob, oobL, neg0, negL0, natle_f, or_false, false_or, true_or, or_true, or_self, cl, clL, le_t, le_f, lt_t, lt_f, leL_t, leL_f, ltL_t, ltL_f, leM_t, leM_f, ltM_t, ltM_f, leO_t, leO_f, cond_true, cond_false, Option.bind_some, Option.bind_none, if_false, if_true, nI_1, aL1, aL2, mL1, mL2, nI_add, pk_mul, pk_m1, sL1, dL1, pk_sub, m1p1, gIs_eq, gIs_k, gIs_i, gIs_n, gIs_e, gIJ, gIR, gJI, gJR, gJs_eq, gJs_k, gJs_n, gJs_e, gRI, gRJ, gRs_eq, gRs_k, gRs_i, gRs_n, gZI, gZJ, gZR, pI_s, pJ_s, pV_s, pR_s, pR_n, oR_n, oR_s, decide_true, decide_false, not_true_eq_false, not_false_eq_true, decT, decF, Bool.true_eq_false, Bool.false_eq_true, z01, o01, z1f, z1f', zz, oo, b2i_0, b2i_n, b2i_t, b2i_f, Bool.not_true, Bool.not_false])
          · rw [if_neg (fun z => e (of_decide_eq_true z)), Nat.add_zero]
            ((try dsimp only); rw [e_X12_alikeAt_18]; simp (disch := omega) only [gn, e_X12_alikeAt_27, gi, e_X12_alikeAt_36, gj, e_X12_alikeAt_48, g1, g2, e, e_X12_alikeAt_78, e_X12_alikeAt_79, true_and, and_true, false_and, and_false, beq_t, beq_f, eqN_t, eqN_f, eqL_t, eqL_f, nm1, nm2, nm1', nm2', m1z, m2z, zm1, zm2, m12, m21, lg_cmp_ge, lg_cmp_le, lg_cmp_gt, lg_cmp_lt, lg_cmp_eq, oob, oobL, neg0, negL0, natle_f, or_false, false_or, true_or, or_true, or_self, cl, clL, le_t, le_f, lt_t, lt_f, leL_t, leL_f, ltL_t, ltL_f, leM_t, leM_f, ltM_t, ltM_f, leO_t, leO_f, cond_true, cond_false, Option.bind_some, Option.bind_none, if_false, if_true, nI_1, aL1, aL2, mL1, mL2, nI_add, pk_mul, pk_m1, sL1, dL1, pk_sub, m1p1, gIs_eq, gIs_k, gIs_i, gIs_n, gIs_e, gIJ, gIR, gJI, gJR, gJs_eq, gJs_k, gJs_n, gJs_e, gRI, gRJ, gRs_eq, gRs_k, gRs_i, gRs_n, gZI, gZJ, gZR, pI_s, pJ_s, pV_s, pR_s, pR_n, oR_n, oR_s, decide_true, decide_false, not_true_eq_false, not_false_eq_true, decT, decF, Bool.true_eq_false, Bool.false_eq_true, z01, o01, z1f, z1f', zz, oo, b2i_0, b2i_n, b2i_t, b2i_f, Bool.not_true, Bool.not_false])
            rw [Nat.add_zero]) (fun v hv => by
        subst hv
        ((try dsimp only); rw [e_X12_alikeAt_18]; simp (disch := omega) only [gn, true_and, and_true, false_and, and_false, beq_t, beq_f, eqN_t, eqN_f, eqL_t, eqL_f, nm1, nm2, nm1', nm2', m1z, m2z, zm1, zm2, m12, m21, lg_cmp_ge, lg_cmp_le, lg_cmp_gt, lg_cmp_lt, lg_cmp_eq, oob, oobL, neg0, negL0, natle_f, or_false, false_or, true_or, or_true, or_self, cl, clL, le_t, le_f, lt_t, lt_f, leL_t, leL_f, ltL_t, ltL_f, leM_t, leM_f, ltM_t, ltM_f, leO_t, leO_f, cond_true, cond_false, Option.bind_some, Option.bind_none, if_false, if_true, nI_1, aL1, aL2, mL1, mL2, nI_add, pk_mul, pk_m1, sL1, dL1, pk_sub, m1p1, gIs_eq, gIs_k, gIs_i, gIs_n, gIs_e, gIJ, gIR, gJI, gJR, gJs_eq, gJs_k, gJs_n, gJs_e, gRI, gRJ, gRs_eq, gRs_k, gRs_i, gRs_n, gZI, gZJ, gZR, pI_s, pJ_s, pV_s, pR_s, pR_n, oR_n, oR_s, decide_true, decide_false, not_true_eq_false, not_false_eq_true, decT, decF, Bool.true_eq_false, Bool.false_eq_true, z01, o01, z1f, z1f', zz, oo, b2i_0, b2i_n, b2i_t, b2i_f, Bool.not_true, Bool.not_false]))
      subst h2
      exact h1
    · have hF' : F i = false := by cases q : F i <;> simp_all
      rw [hF'] at gi
      have el : likM F R k (n + 1) i = 0 := if_neg hF
      rw [el]
      have e0 : decide (nI n < 0) = false := decF (nI_pos (by omega))
      ((try dsimp only); rw [e_X12_alikeAt_18]; simp (disch := omega) only [gn, e0, e_X12_alikeAt_27, gi, true_and, and_true, false_and, and_false, beq_t, beq_f, eqN_t, eqN_f, eqL_t, eqL_f, nm1, nm2, nm1', nm2', m1z, m2z, zm1, zm2, m12, m21, lg_cmp_ge, lg_cmp_le, lg_cmp_gt, lg_cmp_lt, lg_cmp_eq, oob, oobL, neg0, negL0, natle_f, or_false, false_or, true_or, or_true, or_self, cl, clL, le_t, le_f, lt_t, lt_f, leL_t, leL_f, ltL_t, ltL_f, leM_t, leM_f, ltM_t, ltM_f, leO_t, leO_f, cond_true, cond_false, Option.bind_some, Option.bind_none, if_false, if_true, nI_1, aL1, aL2, mL1, mL2, nI_add, pk_mul, pk_m1, sL1, dL1, pk_sub, m1p1, gIs_eq, gIs_k, gIs_i, gIs_n, gIs_e, gIJ, gIR, gJI, gJR, gJs_eq, gJs_k, gJs_n, gJs_e, gRI, gRJ, gRs_eq, gRs_k, gRs_i, gRs_n, gZI, gZJ, gZR, pI_s, pJ_s, pV_s, pR_s, pR_n, oR_n, oR_s, decide_true, decide_false, not_true_eq_false, not_false_eq_true, decT, decF, Bool.true_eq_false, Bool.false_eq_true, z01, o01, z1f, z1f', zz, oo, b2i_0, b2i_n, b2i_t, b2i_f, Bool.not_true, Bool.not_false])
      rfl
  obtain ⟨w', h1, h2⟩ := loop0 (n + 1) (fun i (v : XW) => q_X12_alikeAt_4 (nI k) (nI (mlkM F R k (n + 1) i)) (nI i) v) (fun v => some (some (.inl (.int (nI (mlkM F R k (n + 1) (n + 1))))), v)) (fun _ v => v = w) (s := w) rfl (fun i v hi hv => by
      subst hv
      refine ⟨v, ?_, rfl⟩
      have hl := mlkM_le (F := F) (R := R) (k := k) (N := n + 1) i
      have ha := likM_le (F := F) (R := R) (k := k) (N := n + 1) (i := i)
      have es : mlkM F R k (n + 1) (i + 1) = if likM F R k (n + 1) i ≤ mlkM F R k (n + 1) i then mlkM F R k (n + 1) i else likM F R k (n + 1) i := rfl
      rw [es]
      have hin := inner i (nI (mlkM F R k (n + 1) i)) hi
      generalize mlkM F R k (n + 1) i = a at *
      generalize likM F R k (n + 1) i = b at *
      by_cases hab : b ≤ a
      · rw [if_pos hab]
        ((try dsimp only); rw [e_X12_alikeAt_4]; simp (disch := omega) only [gn, e_X12_alikeAt_12, hin, e_X12_alikeAt_88, e_X12_alikeAt_99, e_X12_alikeAt_100, true_and, and_true, false_and, and_false, beq_t, beq_f, eqN_t, eqN_f, eqL_t, eqL_f, nm1, nm2, nm1', nm2', m1z, m2z, zm1, zm2, m12, m21, lg_cmp_ge, lg_cmp_le, lg_cmp_gt, lg_cmp_lt, lg_cmp_eq, oob, oobL, neg0, negL0, natle_f, or_false, false_or, true_or, or_true, or_self, cl, clL, le_t, le_f, lt_t, lt_f, leL_t, leL_f, ltL_t, ltL_f, leM_t, leM_f, ltM_t, ltM_f, leO_t, leO_f, cond_true, cond_false, Option.bind_some, Option.bind_none, if_false, if_true, nI_1, aL1, aL2, mL1, mL2, nI_add, pk_mul, pk_m1, sL1, dL1, pk_sub, m1p1, gIs_eq, gIs_k, gIs_i, gIs_n, gIs_e, gIJ, gIR, gJI, gJR, gJs_eq, gJs_k, gJs_n, gJs_e, gRI, gRJ, gRs_eq, gRs_k, gRs_i, gRs_n, gZI, gZJ, gZR, pI_s, pJ_s, pV_s, pR_s, pR_n, oR_n, oR_s, decide_true, decide_false, not_true_eq_false, not_false_eq_true, decT, decF, Bool.true_eq_false, Bool.false_eq_true, z01, o01, z1f, z1f', zz, oo, b2i_0, b2i_n, b2i_t, b2i_f, Bool.not_true, Bool.not_false])
      · rw [if_neg hab]
        ((try dsimp only); rw [e_X12_alikeAt_4]; simp (disch := omega) only [gn, e_X12_alikeAt_12, hin, e_X12_alikeAt_88, e_X12_alikeAt_94, e_X12_alikeAt_100, true_and, and_true, false_and, and_false, beq_t, beq_f, eqN_t, eqN_f, eqL_t, eqL_f, nm1, nm2, nm1', nm2', m1z, m2z, zm1, zm2, m12, m21, lg_cmp_ge, lg_cmp_le, lg_cmp_gt, lg_cmp_lt, lg_cmp_eq, oob, oobL, neg0, negL0, natle_f, or_false, false_or, true_or, or_true, or_self, cl, clL, le_t, le_f, lt_t, lt_f, leL_t, leL_f, ltL_t, ltL_f, leM_t, leM_f, ltM_t, ltM_f, leO_t, leO_f, cond_true, cond_false, Option.bind_some, Option.bind_none, if_false, if_true, nI_1, aL1, aL2, mL1, mL2, nI_add, pk_mul, pk_m1, sL1, dL1, pk_sub, m1p1, gIs_eq, gIs_k, gIs_i, gIs_n, gIs_e, gIJ, gIR, gJI, gJR, gJs_eq, gJs_k, gJs_n, gJs_e, gRI, gRJ, gRs_eq, gRs_k, gRs_i, gRs_n, gZI, gZJ, gZR, pI_s, pJ_s, pV_s, pR_s, pR_n, oR_n, oR_s, decide_true, decide_false, not_true_eq_false, not_false_eq_true, decT, decF, Bool.true_eq_false, Bool.false_eq_true, z01, o01, z1f, z1f', zz, oo, b2i_0, b2i_n, b2i_t, b2i_f, Bool.not_true, Bool.not_false])) (fun v hv => by
      subst hv
      ((try dsimp only); rw [e_X12_alikeAt_4]; simp (disch := omega) only [gn, e_X12_alikeAt_107, true_and, and_true, false_and, and_false, beq_t, beq_f, eqN_t, eqN_f, eqL_t, eqL_f, nm1, nm2, nm1', nm2', m1z, m2z, zm1, zm2, m12, m21, lg_cmp_ge, lg_cmp_le, lg_cmp_gt, lg_cmp_lt, lg_cmp_eq, oob, oobL, neg0, negL0, natle_f, or_false, false_or, true_or, or_true, or_self, cl, clL, le_t, le_f, lt_t, lt_f, leL_t, leL_f, ltL_t, ltL_f, leM_t, leM_f, ltM_t, ltM_f, leO_t, leO_f, cond_true, cond_false, Option.bind_some, Option.bind_none, if_false, if_true, nI_1, aL1, aL2, mL1, mL2, nI_add, pk_mul, pk_m1, sL1, dL1, pk_sub, m1p1, gIs_eq, gIs_k, gIs_i, gIs_n, gIs_e, gIJ, gIR, gJI, gJR, gJs_eq, gJs_k, gJs_n, gJs_e, gRI, gRJ, gRs_eq, gRs_k, gRs_i, gRs_n, gZI, gZJ, gZR, pI_s, pJ_s, pV_s, pR_s, pR_n, oR_n, oR_s, decide_true, decide_false, not_true_eq_false, not_false_eq_true, decT, decF, Bool.true_eq_false, Bool.false_eq_true, z01, o01, z1f, z1f', zz, oo, b2i_0, b2i_n, b2i_t, b2i_f, Bool.not_true, Bool.not_false]))
  subst h2
  have h1 : q_X12_alikeAt_4 (nI k) 0 0 w' = _ := h1
  rw [f_X12_alikeAt, e_X12_alikeAt_0, h1]
  rfl
