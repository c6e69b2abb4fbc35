/-! ===== the class reads a rule: comparisons, facts; clauses ===== -/
theorem vl_sk {t : Tp} {s : St} (hp : s.1 ≤ t.1) : vlS t (sk t s.1, s.2) = vlS t s := by
  unfold vlS
  show (if sk t (sk t s.1) < t.1 ∧ isL (t.2 (sk t (sk t s.1))) = true then _ else sB (nuS t (sk t s.1) 0 100000) _) = _
  rw [sk_sk hp, nu_sk hp]
theorem cm_sk {t : Tp} {s : St} (hp : s.1 ≤ t.1) : cmS t (sk t s.1, s.2) = cmS t s := by
  unfold cmS smS suS
  rw [vl_sk hp]
theorem c_cmp {t : Tp} (hT : TOk2 t) {G0 G1 : List XV → XW → Option (Int32 × XW)} {s : St} {w : XW} (h : CRt w t s) (hn : s.2.1 ≤ 60) (hl : s.2.2.length ≤ s.1) : RCr ((q_X8_readFact_107 G0 G1 w).bind pI) w t (cmS t s) := by
  have h4 := hT.1
  have hp := h.1.2.2
  have R := c_sum hT h hn hl
  unfold cmS
  refine R.then (fun w' hw => ?_) (fun s1 w1 hs hw hF hC => ?_)
  · rw [e_X8_readFact_107]
    simp (disch := omega) only [hw, e_X8_readFact_115, true_and, and_true, false_and, and_false, beq_t, beq_f, eqN_t, eqN_f, eqL_t, eqL_f, nm1, nm2, nm1', nm2', m1z, m2z, zm1, zm2, m12, m21, lg_cmp_ge, lg_cmp_le, lg_cmp_gt, lg_cmp_lt, lg_cmp_eq, oob, oobL, neg0, negL0, natle_f, or_false, false_or, true_or, or_true, or_self, cl, clL, le_t, le_f, lt_t, lt_f, leL_t, leL_f, ltL_t, ltL_f, leM_t, leM_f, ltM_t, ltM_f, leO_t, leO_f, cond_true, cond_false, Option.bind_some, Option.bind_none, if_false, if_true, nI_1, aL1, aL2, mL1, mL2, nI_add, pk_mul, pk_m1, sL1, dL1, pk_sub, m1p1, gIs_eq, gIs_k, gIs_i, gIs_n, gIs_e, gIJ, gIR, gJI, gJR, gJs_eq, gJs_k, gJs_n, gJs_e, gRI, gRJ, gRs_eq, gRs_k, gRs_i, gRs_n, gZI, gZJ, gZR, pI_s, pJ_s, pV_s, pR_s, pR_n, oR_n, oR_s, decide_true, decide_false, not_true_eq_false, not_false_eq_true, decT, decF, Bool.true_eq_false, Bool.false_eq_true, z01, o01, z1f, z1f', zz, oo, b2i_0, b2i_n, b2i_t, b2i_f, Bool.not_true, Bool.not_false]
  · have gv := (sm_ok hT s hp hn).1 s1 hs
    have hlt := gv.lt
    have hle := gv.len.1
    obtain ⟨w2, k1, k2, k3⟩ := c_sign hT hC.1
    have hk := sk_le hC.1.2.2
    obtain ⟨w3, F3, r3⟩ := c_compare hT k2
    have F3' : Fr PT2 w1 w3 := k3.trans F3
    have F3c : Fr PCr w1 w3 := F3'.mono (fun κ i k q => by unfold PT2 at q; unfold  PCr; omega)
    have g2 := k2.2.1
    cases hc : cpS t (sk t s1.1) with
    | none =>
      rw [hc] at r3
      have r3 : F_X8_passCompare [.inr (9, 0)] w2 = some (0, w3) := r3
      have kf := c_fail0 (w := w3) (sk t s1.1)
      refine ⟨_, F3c.sI (by unfold PCr; omega), ?_, gIs_eq⟩
      rw [e_X8_readFact_107]
      simp (disch := omega) only [hw, e_X8_readFact_117, k1, r3, e_X8_readFact_138, g2, kf, true_and, and_true, false_and, and_false, beq_t, beq_f, eqN_t, eqN_f, eqL_t, eqL_f, nm1, nm2, nm1', nm2', m1z, m2z, zm1, zm2, m12, m21, lg_cmp_ge, lg_cmp_le, lg_cmp_gt, lg_cmp_lt, lg_cmp_eq, oob, oobL, neg0, negL0, natle_f, or_false, false_or, true_or, or_true, or_self, cl, clL, le_t, le_f, lt_t, lt_f, leL_t, leL_f, ltL_t, ltL_f, leM_t, leM_f, ltM_t, ltM_f, leO_t, leO_f, cond_true, cond_false, Option.bind_some, Option.bind_none, if_false, if_true, nI_1, aL1, aL2, mL1, mL2, nI_add, pk_mul, pk_m1, sL1, dL1, pk_sub, m1p1, gIs_eq, gIs_k, gIs_i, gIs_n, gIs_e, gIJ, gIR, gJI, gJR, gJs_eq, gJs_k, gJs_n, gJs_e, gRI, gRJ, gRs_eq, gRs_k, gRs_i, gRs_n, gZI, gZJ, gZR, pI_s, pJ_s, pV_s, pR_s, pR_n, oR_n, oR_s, decide_true, decide_false, not_true_eq_false, not_false_eq_true, decT, decF, Bool.true_eq_false, Bool.false_eq_true, z01, o01, z1f, z1f', zz, oo, b2i_0, b2i_n, b2i_t, b2i_f, Bool.not_true, Bool.not_false]
    | some r =>
      rw [hc] at r3
      obtain ⟨r3, r4, r5⟩ := r3
      obtain ⟨q1, q2, q3⟩ := cp_ok hc
      have C3 : CRt w3 t (r.1, s1.2) := hC.at F3' (fun κ k q => by unfold PT2; omega) r4
      have R2 := c_counted C3 gv.2.1 (sk t s1.1)
      have kd : (q_X8_readFact_107 G0 G1 w) = q_X8_readFact_145 G0 G1 (nI (sk t s1.1)) r.2 w3 := by
        rw [e_X8_readFact_107]
        simp (disch := omega) only [hw, e_X8_readFact_117, k1, r3, r5, g2, true_and, and_true, false_and, and_false, beq_t, beq_f, eqN_t, eqN_f, eqL_t, eqL_f, nm1, nm2, nm1', nm2', m1z, m2z, zm1, zm2, m12, m21, lg_cmp_ge, lg_cmp_le, lg_cmp_gt, lg_cmp_lt, lg_cmp_eq, oob, oobL, neg0, negL0, natle_f, or_false, false_or, true_or, or_true, or_self, cl, clL, le_t, le_f, lt_t, lt_f, leL_t, leL_f, ltL_t, ltL_f, leM_t, leM_f, ltM_t, ltM_f, leO_t, leO_f, cond_true, cond_false, Option.bind_some, Option.bind_none, if_false, if_true, nI_1, aL1, aL2, mL1, mL2, nI_add, pk_mul, pk_m1, sL1, dL1, pk_sub, m1p1, gIs_eq, gIs_k, gIs_i, gIs_n, gIs_e, gIJ, gIR, gJI, gJR, gJs_eq, gJs_k, gJs_n, gJs_e, gRI, gRJ, gRs_eq, gRs_k, gRs_i, gRs_n, gZI, gZJ, gZR, pI_s, pJ_s, pV_s, pR_s, pR_n, oR_n, oR_s, decide_true, decide_false, not_true_eq_false, not_false_eq_true, decT, decF, Bool.true_eq_false, Bool.false_eq_true, z01, o01, z1f, z1f', zz, oo, b2i_0, b2i_n, b2i_t, b2i_f, Bool.not_true, Bool.not_false]
      refine RCr.fr (w1 := w3) (R2.then (fun w' hw => ?_) (fun s2 w4 hs2 hw4 hF4 hC4 => ?_)) F3c rfl
      · rw [kd, e_X8_readFact_145]
        simp (disch := omega) only [hw, e_X8_readFact_162, true_and, and_true, false_and, and_false, beq_t, beq_f, eqN_t, eqN_f, eqL_t, eqL_f, nm1, nm2, nm1', nm2', m1z, m2z, zm1, zm2, m12, m21, lg_cmp_ge, lg_cmp_le, lg_cmp_gt, lg_cmp_lt, lg_cmp_eq, oob, oobL, neg0, negL0, natle_f, or_false, false_or, true_or, or_true, or_self, cl, clL, le_t, le_f, lt_t, lt_f, leL_t, leL_f, ltL_t, ltL_f, leM_t, leM_f, ltM_t, ltM_f, leO_t, leO_f, cond_true, cond_false, Option.bind_some, Option.bind_none, if_false, if_true, nI_1, aL1, aL2, mL1, mL2, nI_add, pk_mul, pk_m1, sL1, dL1, pk_sub, m1p1, gIs_eq, gIs_k, gIs_i, gIs_n, gIs_e, gIJ, gIR, gJI, gJR, gJs_eq, gJs_k, gJs_n, gJs_e, gRI, gRJ, gRs_eq, gRs_k, gRs_i, gRs_n, gZI, gZJ, gZR, pI_s, pJ_s, pV_s, pR_s, pR_n, oR_n, oR_s, decide_true, decide_false, not_true_eq_false, not_false_eq_true, decT, decF, Bool.true_eq_false, Bool.false_eq_true, z01, o01, z1f, z1f', zz, oo, b2i_0, b2i_n, b2i_t, b2i_f, Bool.not_true, Bool.not_false]
      · obtain ⟨c1, c2⟩ := ct_ok hs2
        subst c2
        have c1 : s1.2.1 < 60 := c1
        have R3 := c_sum hT hC4 (by show s1.2.1 + 1 ≤ 60; omega) (by show s1.2.2.length ≤ r.1; omega)
        refine R3.then (fun w' hw => ?_) (fun s3 w5 hs3 hw5 hF5 hC5 => ?_)
        · rw [kd, e_X8_readFact_145]
          simp (disch := omega) only [hw4, e_X8_readFact_154, hw, e_X8_readFact_162, true_and, and_true, false_and, and_false, beq_t, beq_f, eqN_t, eqN_f, eqL_t, eqL_f, nm1, nm2, nm1', nm2', m1z, m2z, zm1, zm2, m12, m21, lg_cmp_ge, lg_cmp_le, lg_cmp_gt, lg_cmp_lt, lg_cmp_eq, oob, oobL, neg0, negL0, natle_f, or_false, false_or, true_or, or_true, or_self, cl, clL, le_t, le_f, lt_t, lt_f, leL_t, leL_f, ltL_t, ltL_f, leM_t, leM_f, ltM_t, ltM_f, leO_t, leO_f, cond_true, cond_false, Option.bind_some, Option.bind_none, if_false, if_true, nI_1, aL1, aL2, mL1, mL2, nI_add, pk_mul, pk_m1, sL1, dL1, pk_sub, m1p1, gIs_eq, gIs_k, gIs_i, gIs_n, gIs_e, gIJ, gIR, gJI, gJR, gJs_eq, gJs_k, gJs_n, gJs_e, gRI, gRJ, gRs_eq, gRs_k, gRs_i, gRs_n, gZI, gZJ, gZR, pI_s, pJ_s, pV_s, pR_s, pR_n, oR_n, oR_s, decide_true, decide_false, not_true_eq_false, not_false_eq_true, decT, decF, Bool.true_eq_false, Bool.false_eq_true, z01, o01, z1f, z1f', zz, oo, b2i_0, b2i_n, b2i_t, b2i_f, Bool.not_true, Bool.not_false]
        · have gv3 := (sm_ok hT _ q2 (by show s1.2.1 + 1 ≤ 60; omega)).1 s3 hs3
          have l3 : s3.2.2.length + r.1 ≤ s1.2.2.length + s3.1 := gv3.len.1
          have h31 := gv3.1
          obtain ⟨w6, a1, a2, a3⟩ := c_add hC5 (by omega) r.2
          refine ⟨w6, a3.mono (fun κ i k q => by unfold PCa at q; unfold  PCr; omega), ?_, a2⟩
          rw [kd, e_X8_readFact_145]
          simp (disch := omega) only [hw4, e_X8_readFact_154, hw5, e_X8_readFact_164, a1, true_and, and_true, false_and, and_false, beq_t, beq_f, eqN_t, eqN_f, eqL_t, eqL_f, nm1, nm2, nm1', nm2', m1z, m2z, zm1, zm2, m12, m21, lg_cmp_ge, lg_cmp_le, lg_cmp_gt, lg_cmp_lt, lg_cmp_eq, oob, oobL, neg0, negL0, natle_f, or_false, false_or, true_or, or_true, or_self, cl, clL, le_t, le_f, lt_t, lt_f, leL_t, leL_f, ltL_t, ltL_f, leM_t, leM_f, ltM_t, ltM_f, leO_t, leO_f, cond_true, cond_false, Option.bind_some, Option.bind_none, if_false, if_true, nI_1, aL1, aL2, mL1, mL2, nI_add, pk_mul, pk_m1, sL1, dL1, pk_sub, m1p1, gIs_eq, gIs_k, gIs_i, gIs_n, gIs_e, gIJ, gIR, gJI, gJR, gJs_eq, gJs_k, gJs_n, gJs_e, gRI, gRJ, gRs_eq, gRs_k, gRs_i, gRs_n, gZI, gZJ, gZR, pI_s, pJ_s, pV_s, pR_s, pR_n, oR_n, oR_s, decide_true, decide_false, not_true_eq_false, not_false_eq_true, decT, decF, Bool.true_eq_false, Bool.false_eq_true, z01, o01, z1f, z1f', zz, oo, b2i_0, b2i_n, b2i_t, b2i_f, Bool.not_true, Bool.not_false]
theorem c_fact {t : Tp} (hT : TOk2 t) : ∀ d f, d ≤ 10 → 2 * d + 1 ≤ f → RdOk t (F_X8_readFact f) (nI (10 - d)) (ftS t d) := by
  have h4 := hT.1
  intro d
  induction d with
  | zero =>
    intro f hd hf s w h hn hl
    obtain ⟨f, rfl⟩ : ∃ g, f = g + 1 := ⟨f - 1, by omega⟩
    have hp := h.1.2.2
    have hk := sk_le hp
    have ek := sk_sk hp
    obtain ⟨w1, k1, k2, k3⟩ := c_sign hT h.1
    have F1 : Fr PCr w w1 := k3.mono (fun κ i k q => by unfold PT2 at q; unfold  PCr; omega)
    have C1 : CRt w1 t (sk t s.1, s.2) := h.at k3 (fun κ k q => by unfold PT2; omega) k2
    have g2 := k2.2.1
    unfold ftS
    by_cases cB : isOp t (sk t s.1)
    · rw [if_pos (Or.inl cB)]
      have e1 : chS t (sk t s.1) = 91 := by unfold chS; rw [if_pos cB.1, cB.2]; rfl
      rw [e1] at k1
      have kf := c_fail2 (w := w1) (sk t s.1)
      refine ⟨_, F1.sI (by unfold PCr; omega), ?_, gIs_eq⟩
      rw [f_X8_readFact, e_X8_readFact_0]
      simp (disch := omega) only [k1, e_X8_readFact_9, e_X8_readFact_15, g2, kf, true_and, and_true, false_and, and_false, beq_t, beq_f, eqN_t, eqN_f, eqL_t, eqL_f, nm1, nm2, nm1', nm2', m1z, m2z, zm1, zm2, m12, m21, lg_cmp_ge, lg_cmp_le, lg_cmp_gt, lg_cmp_lt, lg_cmp_eq, oob, oobL, neg0, negL0, natle_f, or_false, false_or, true_or, or_true, or_self, cl, clL, le_t, le_f, lt_t, lt_f, leL_t, leL_f, ltL_t, ltL_f, leM_t, leM_f, ltM_t, ltM_f, leO_t, leO_f, cond_true, cond_false, Option.bind_some, Option.bind_none, if_false, if_true, nI_1, aL1, aL2, mL1, mL2, nI_add, pk_mul, pk_m1, sL1, dL1, pk_sub, m1p1, gIs_eq, gIs_k, gIs_i, gIs_n, gIs_e, gIJ, gIR, gJI, gJR, gJs_eq, gJs_k, gJs_n, gJs_e, gRI, gRJ, gRs_eq, gRs_k, gRs_i, gRs_n, gZI, gZJ, gZR, pI_s, pJ_s, pV_s, pR_s, pR_n, oR_n, oR_s, decide_true, decide_false, not_true_eq_false, not_false_eq_true, decT, decF, Bool.true_eq_false, Bool.false_eq_true, z01, o01, z1f, z1f', zz, oo, b2i_0, b2i_n, b2i_t, b2i_f, Bool.not_true, Bool.not_false]
    · have e1 : ¬ chS t (sk t s.1) = 91 := by
        unfold chS
        by_cases c : sk t s.1 < t.1
        · have hb := hT.2 _ c
          rw [if_pos c]
          exact fun z => cB ⟨c, (nI_eq (a := t.2 (sk t s.1)) (b := 91) (by omega) (by omega)).mp z⟩
        · rw [if_neg c]; decide
      obtain ⟨w2, F2, g3, r2⟩ := c_word hT (i := 5) (by omega) k2
      rw [ek, fd1w (k := kNot) rfl] at r2
      rw [ek] at g3
      have F2' : Fr PCr w w2 := F1.trans (F2.mono (fun κ i k q => by unfold PT23 at q; unfold  PCr; omega))
      by_cases cN : wrd t (sk t s.1) = kNot
      · rw [if_pos (Or.inr cN)]
        rw [if_pos cN] at r2
        have r21 := r2.1
        have kf := c_fail2 (w := w2) (sk t s.1)
        refine ⟨_, F2'.sI (by unfold PCr; omega), ?_, gIs_eq⟩
        rw [f_X8_readFact, e_X8_readFact_0]
        simp (disch := omega) only [k1, e1, e_X8_readFact_61, r21, e_X8_readFact_70, e_X8_readFact_76, g3, kf, true_and, and_true, false_and, and_false, beq_t, beq_f, eqN_t, eqN_f, eqL_t, eqL_f, nm1, nm2, nm1', nm2', m1z, m2z, zm1, zm2, m12, m21, lg_cmp_ge, lg_cmp_le, lg_cmp_gt, lg_cmp_lt, lg_cmp_eq, oob, oobL, neg0, negL0, natle_f, or_false, false_or, true_or, or_true, or_self, cl, clL, le_t, le_f, lt_t, lt_f, leL_t, leL_f, ltL_t, ltL_f, leM_t, leM_f, ltM_t, ltM_f, leO_t, leO_f, cond_true, cond_false, Option.bind_some, Option.bind_none, if_false, if_true, nI_1, aL1, aL2, mL1, mL2, nI_add, pk_mul, pk_m1, sL1, dL1, pk_sub, m1p1, gIs_eq, gIs_k, gIs_i, gIs_n, gIs_e, gIJ, gIR, gJI, gJR, gJs_eq, gJs_k, gJs_n, gJs_e, gRI, gRJ, gRs_eq, gRs_k, gRs_i, gRs_n, gZI, gZJ, gZR, pI_s, pJ_s, pV_s, pR_s, pR_n, oR_n, oR_s, decide_true, decide_false, not_true_eq_false, not_false_eq_true, decT, decF, Bool.true_eq_false, Bool.false_eq_true, z01, o01, z1f, z1f', zz, oo, b2i_0, b2i_n, b2i_t, b2i_f, Bool.not_true, Bool.not_false]
      · rw [if_neg (fun z => z.elim cB cN)]
        rw [if_neg cN] at r2
        have r21 := r2.1
        have z1 : ¬ (-1 : Int32) = 0 := by decide
        have C2 : CRt w2 t (sk t s.1, s.2) := C1.at F2 (fun κ k q => by unfold PT23; omega) r2.2
        rw [← cm_sk hp]
        refine (c_cmp hT (G0 := F_X8_readFact f) (G1 := F_X8_readTest f) C2 hn (by show s.2.2.length ≤ sk t s.1; omega)).fr F2' ?_
        rw [f_X8_readFact, e_X8_readFact_0]
        simp (disch := omega) only [k1, e1, e_X8_readFact_61, r21, z1, true_and, and_true, false_and, and_false, beq_t, beq_f, eqN_t, eqN_f, eqL_t, eqL_f, nm1, nm2, nm1', nm2', m1z, m2z, zm1, zm2, m12, m21, lg_cmp_ge, lg_cmp_le, lg_cmp_gt, lg_cmp_lt, lg_cmp_eq, oob, oobL, neg0, negL0, natle_f, or_false, false_or, true_or, or_true, or_self, cl, clL, le_t, le_f, lt_t, lt_f, leL_t, leL_f, ltL_t, ltL_f, leM_t, leM_f, ltM_t, ltM_f, leO_t, leO_f, cond_true, cond_false, Option.bind_some, Option.bind_none, if_false, if_true, nI_1, aL1, aL2, mL1, mL2, nI_add, pk_mul, pk_m1, sL1, dL1, pk_sub, m1p1, gIs_eq, gIs_k, gIs_i, gIs_n, gIs_e, gIJ, gIR, gJI, gJR, gJs_eq, gJs_k, gJs_n, gJs_e, gRI, gRJ, gRs_eq, gRs_k, gRs_i, gRs_n, gZI, gZJ, gZR, pI_s, pJ_s, pV_s, pR_s, pR_n, oR_n, oR_s, decide_true, decide_false, not_true_eq_false, not_false_eq_true, decT, decF, Bool.true_eq_false, Bool.false_eq_true, z01, o01, z1f, z1f', zz, oo, b2i_0, b2i_n, b2i_t, b2i_f, Bool.not_true, Bool.not_false]
  | succ d ih =>
    intro f hd hf s w h hn hl
    obtain ⟨f, rfl⟩ : ∃ g, f = g + 2 := ⟨f - 2, by omega⟩
    have hp := h.1.2.2
    have hk := sk_le hp
    have ek := sk_sk hp
    obtain ⟨w1, k1, k2, k3⟩ := c_sign hT h.1
    have F1 : Fr PCr w w1 := k3.mono (fun κ i k q => by unfold PT2 at q; unfold  PCr; omega)
    have C1 : CRt w1 t (sk t s.1, s.2) := h.at k3 (fun κ k q => by unfold PT2; omega) k2
    have g2 := k2.2.1
    have ed : 10 - (d + 1) + 1 = 10 - d := by omega
    unfold ftS
    by_cases cB : isOp t (sk t s.1)
    · rw [if_pos cB]
      have e1 : chS t (sk t s.1) = 91 := by unfold chS; rw [if_pos cB.1, cB.2]; rfl
      rw [e1] at k1
      have hc1 : sk t s.1 < t.1 := cB.1
      have F3 : Fr (fun κ _ k => κ = 9 ∧ k = 2) w1 (sI w1 9 0 2 (nI (sk t s.1 + 1))) := (Fr.refl _ _).sI ⟨rfl, rfl⟩
      have C3 : CRt (sI w1 9 0 2 (nI (sk t s.1 + 1))) t (sk t s.1 + 1, s.2) := C1.at F3 (fun κ k q => by omega) ⟨k2.1.fr F3 (fun κ k q => by omega), gIs_eq, hc1⟩
      have F4 : Fr PCr w (sI w1 9 0 2 (nI (sk t s.1 + 1))) := F1.trans (F3.mono (fun κ i k q => by unfold PCr; omega))
      have R := c_test hT (d := d) (ft_ok hT d) (ih f (by omega) (by omega)) _ _ C3 hn (by show s.2.2.length ≤ sk t s.1 + 1; omega)
      rw [← ed] at R
      have kd : F_X8_readFact (f + 2) [.inr (7, 0), .inr (9, 0), .inl (.int (nI (10 - (d + 1))))] w = (q_X8_readFact_25 (F_X8_readFact (f + 1)) (F_X8_readTest (f + 1)) (nI (10 - (d + 1))) w1).bind pI := by
        rw [f_X8_readFact, e_X8_readFact_0]
        simp (disch := omega) only [k1, e_X8_readFact_9, true_and, and_true, false_and, and_false, beq_t, beq_f, eqN_t, eqN_f, eqL_t, eqL_f, nm1, nm2, nm1', nm2', m1z, m2z, zm1, zm2, m12, m21, lg_cmp_ge, lg_cmp_le, lg_cmp_gt, lg_cmp_lt, lg_cmp_eq, oob, oobL, neg0, negL0, natle_f, or_false, false_or, true_or, or_true, or_self, cl, clL, le_t, le_f, lt_t, lt_f, leL_t, leL_f, ltL_t, ltL_f, leM_t, leM_f, ltM_t, ltM_f, leO_t, leO_f, cond_true, cond_false, Option.bind_some, Option.bind_none, if_false, if_true, nI_1, aL1, aL2, mL1, mL2, nI_add, pk_mul, pk_m1, sL1, dL1, pk_sub, m1p1, gIs_eq, gIs_k, gIs_i, gIs_n, gIs_e, gIJ, gIR, gJI, gJR, gJs_eq, gJs_k, gJs_n, gJs_e, gRI, gRJ, gRs_eq, gRs_k, gRs_i, gRs_n, gZI, gZJ, gZR, pI_s, pJ_s, pV_s, pR_s, pR_n, oR_n, oR_s, decide_true, decide_false, not_true_eq_false, not_false_eq_true, decT, decF, Bool.true_eq_false, Bool.false_eq_true, z01, o01, z1f, z1f', zz, oo, b2i_0, b2i_n, b2i_t, b2i_f, Bool.not_true, Bool.not_false]
      refine RCr.fr (w1 := sI w1 9 0 2 (nI (sk t s.1 + 1))) (R.then (fun w' hw => ?_) (fun s' w' hs hw hF hC => ?_)) F4 rfl
      · rw [kd, e_X8_readFact_25]
        simp (disch := omega) only [g2, hw, e_X8_readFact_59, e_X8_readFact_60, true_and, and_true, false_and, and_false, beq_t, beq_f, eqN_t, eqN_f, eqL_t, eqL_f, nm1, nm2, nm1', nm2', m1z, m2z, zm1, zm2, m12, m21, lg_cmp_ge, lg_cmp_le, lg_cmp_gt, lg_cmp_lt, lg_cmp_eq, oob, oobL, neg0, negL0, natle_f, or_false, false_or, true_or, or_true, or_self, cl, clL, le_t, le_f, lt_t, lt_f, leL_t, leL_f, ltL_t, ltL_f, leM_t, leM_f, ltM_t, ltM_f, leO_t, leO_f, cond_true, cond_false, Option.bind_some, Option.bind_none, if_false, if_true, nI_1, aL1, aL2, mL1, mL2, nI_add, pk_mul, pk_m1, sL1, dL1, pk_sub, m1p1, gIs_eq, gIs_k, gIs_i, gIs_n, gIs_e, gIJ, gIR, gJI, gJR, gJs_eq, gJs_k, gJs_n, gJs_e, gRI, gRJ, gRs_eq, gRs_k, gRs_i, gRs_n, gZI, gZJ, gZR, pI_s, pJ_s, pV_s, pR_s, pR_n, oR_n, oR_s, decide_true, decide_false, not_true_eq_false, not_false_eq_true, decT, decF, Bool.true_eq_false, Bool.false_eq_true, z01, o01, z1f, z1f', zz, oo, b2i_0, b2i_n, b2i_t, b2i_f, Bool.not_true, Bool.not_false]
      · have h1' := hC.1.2.2
        unfold clsS
        by_cases cC : isCl t (sk t s'.1)
        · rw [if_pos cC]
          have e2 : chS t (sk t s'.1) = 93 := by unfold chS; rw [if_pos cC.1, cC.2]; rfl
          obtain ⟨w4, p1, p2, p3⟩ := c_passSign hT hC.1 93 e2 cC.1
          refine ⟨w4, p3.mono (fun κ i k q => by unfold PT2 at q; unfold  PCr; omega), ?_, hC.at p3 (fun κ k q => by unfold PT2; omega) p2⟩
          rw [kd, e_X8_readFact_25]
          simp (disch := omega) only [g2, hw, e_X8_readFact_46, p1, e_X8_readFact_55, e_X8_readFact_60, true_and, and_true, false_and, and_false, beq_t, beq_f, eqN_t, eqN_f, eqL_t, eqL_f, nm1, nm2, nm1', nm2', m1z, m2z, zm1, zm2, m12, m21, lg_cmp_ge, lg_cmp_le, lg_cmp_gt, lg_cmp_lt, lg_cmp_eq, oob, oobL, neg0, negL0, natle_f, or_false, false_or, true_or, or_true, or_self, cl, clL, le_t, le_f, lt_t, lt_f, leL_t, leL_f, ltL_t, ltL_f, leM_t, leM_f, ltM_t, ltM_f, leO_t, leO_f, cond_true, cond_false, Option.bind_some, Option.bind_none, if_false, if_true, nI_1, aL1, aL2, mL1, mL2, nI_add, pk_mul, pk_m1, sL1, dL1, pk_sub, m1p1, gIs_eq, gIs_k, gIs_i, gIs_n, gIs_e, gIJ, gIR, gJI, gJR, gJs_eq, gJs_k, gJs_n, gJs_e, gRI, gRJ, gRs_eq, gRs_k, gRs_i, gRs_n, gZI, gZJ, gZR, pI_s, pJ_s, pV_s, pR_s, pR_n, oR_n, oR_s, decide_true, decide_false, not_true_eq_false, not_false_eq_true, decT, decF, Bool.true_eq_false, Bool.false_eq_true, z01, o01, z1f, z1f', zz, oo, b2i_0, b2i_n, b2i_t, b2i_f, Bool.not_true, Bool.not_false]
        · rw [if_neg cC]
          have e2 : ¬ chS t (sk t s'.1) = 93 := by
            unfold chS
            by_cases c : sk t s'.1 < t.1
            · have hb := hT.2 _ c
              rw [if_pos c]
              exact fun z => cC ⟨c, (nI_eq (a := t.2 (sk t s'.1)) (b := 93) (by omega) (by omega)).mp z⟩
            · rw [if_neg c]; decide
          obtain ⟨w4, p1, p2, p3⟩ := c_passSignN hT hC.1 93 e2
          refine ⟨w4, p3.mono (fun κ i k q => by unfold PTt at q; unfold  PCr; omega), ?_, p2⟩
          rw [kd, e_X8_readFact_25]
          simp (disch := omega) only [g2, hw, e_X8_readFact_46, p1, e_X8_readFact_59, e_X8_readFact_60, true_and, and_true, false_and, and_false, beq_t, beq_f, eqN_t, eqN_f, eqL_t, eqL_f, nm1, nm2, nm1', nm2', m1z, m2z, zm1, zm2, m12, m21, lg_cmp_ge, lg_cmp_le, lg_cmp_gt, lg_cmp_lt, lg_cmp_eq, oob, oobL, neg0, negL0, natle_f, or_false, false_or, true_or, or_true, or_self, cl, clL, le_t, le_f, lt_t, lt_f, leL_t, leL_f, ltL_t, ltL_f, leM_t, leM_f, ltM_t, ltM_f, leO_t, leO_f, cond_true, cond_false, Option.bind_some, Option.bind_none, if_false, if_true, nI_1, aL1, aL2, mL1, mL2, nI_add, pk_mul, pk_m1, sL1, dL1, pk_sub, m1p1, gIs_eq, gIs_k, gIs_i, gIs_n, gIs_e, gIJ, gIR, gJI, gJR, gJs_eq, gJs_k, gJs_n, gJs_e, gRI, gRJ, gRs_eq, gRs_k, gRs_i, gRs_n, gZI, gZJ, gZR, pI_s, pJ_s, pV_s, pR_s, pR_n, oR_n, oR_s, decide_true, decide_false, not_true_eq_false, not_false_eq_true, decT, decF, Bool.true_eq_false, Bool.false_eq_true, z01, o01, z1f, z1f', zz, oo, b2i_0, b2i_n, b2i_t, b2i_f, Bool.not_true, Bool.not_false]
    · rw [if_neg cB]
      have e1 : ¬ chS t (sk t s.1) = 91 := by
        unfold chS
        by_cases c : sk t s.1 < t.1
        · have hb := hT.2 _ c
          rw [if_pos c]
          exact fun z => cB ⟨c, (nI_eq (a := t.2 (sk t s.1)) (b := 91) (by omega) (by omega)).mp z⟩
        · rw [if_neg c]; decide
      obtain ⟨w2, F2, g3, r2⟩ := c_word hT (i := 5) (by omega) k2
      rw [ek, fd1w (k := kNot) rfl] at r2
      have F2' : Fr PCr w w2 := F1.trans (F2.mono (fun κ i k q => by unfold PT23 at q; unfold  PCr; omega))
      by_cases cN : wrd t (sk t s.1) = kNot
      · rw [if_pos cN]
        rw [if_pos cN] at r2
        have r21 := r2.1
        have hw3 := wrd_len hk.2 cN
        have : kNot.length = 3 := rfl
        have C2 : CRt w2 t (le t (sk t s.1), s.2) := C1.at F2 (fun κ k q => by unfold PT23; omega) r2.2
        have hle := r2.2.2.2
        have R := ih (f + 1) (by omega) (by omega) _ _ C2 hn (by show s.2.2.length ≤ le t (sk t s.1); omega)
        rw [← ed] at R
        have kd : F_X8_readFact (f + 2) [.inr (7, 0), .inr (9, 0), .inl (.int (nI (10 - (d + 1))))] w = (q_X8_readFact_86 (F_X8_readFact (f + 1)) (F_X8_readTest (f + 1)) (nI (10 - (d + 1))) w2).bind pI := by
          rw [f_X8_readFact, e_X8_readFact_0]
          simp (disch := omega) only [k1, e1, e_X8_readFact_61, r21, e_X8_readFact_70, true_and, and_true, false_and, and_false, beq_t, beq_f, eqN_t, eqN_f, eqL_t, eqL_f, nm1, nm2, nm1', nm2', m1z, m2z, zm1, zm2, m12, m21, lg_cmp_ge, lg_cmp_le, lg_cmp_gt, lg_cmp_lt, lg_cmp_eq, oob, oobL, neg0, negL0, natle_f, or_false, false_or, true_or, or_true, or_self, cl, clL, le_t, le_f, lt_t, lt_f, leL_t, leL_f, ltL_t, ltL_f, leM_t, leM_f, ltM_t, ltM_f, leO_t, leO_f, cond_true, cond_false, Option.bind_some, Option.bind_none, if_false, if_true, nI_1, aL1, aL2, mL1, mL2, nI_add, pk_mul, pk_m1, sL1, dL1, pk_sub, m1p1, gIs_eq, gIs_k, gIs_i, gIs_n, gIs_e, gIJ, gIR, gJI, gJR, gJs_eq, gJs_k, gJs_n, gJs_e, gRI, gRJ, gRs_eq, gRs_k, gRs_i, gRs_n, gZI, gZJ, gZR, pI_s, pJ_s, pV_s, pR_s, pR_n, oR_n, oR_s, decide_true, decide_false, not_true_eq_false, not_false_eq_true, decT, decF, Bool.true_eq_false, Bool.false_eq_true, z01, o01, z1f, z1f', zz, oo, b2i_0, b2i_n, b2i_t, b2i_f, Bool.not_true, Bool.not_false]
        refine RCr.fr (w1 := w2) (R.then (fun w' hw => ?_) (fun s' w' hs hw hF hC => ?_)) F2' rfl
        · rw [kd, e_X8_readFact_86]
          simp (disch := omega) only [hw, e_X8_readFact_97, true_and, and_true, false_and, and_false, beq_t, beq_f, eqN_t, eqN_f, eqL_t, eqL_f, nm1, nm2, nm1', nm2', m1z, m2z, zm1, zm2, m12, m21, lg_cmp_ge, lg_cmp_le, lg_cmp_gt, lg_cmp_lt, lg_cmp_eq, oob, oobL, neg0, negL0, natle_f, or_false, false_or, true_or, or_true, or_self, cl, clL, le_t, le_f, lt_t, lt_f, leL_t, leL_f, ltL_t, ltL_f, leM_t, leM_f, ltM_t, ltM_f, leO_t, leO_f, cond_true, cond_false, Option.bind_some, Option.bind_none, if_false, if_true, nI_1, aL1, aL2, mL1, mL2, nI_add, pk_mul, pk_m1, sL1, dL1, pk_sub, m1p1, gIs_eq, gIs_k, gIs_i, gIs_n, gIs_e, gIJ, gIR, gJI, gJR, gJs_eq, gJs_k, gJs_n, gJs_e, gRI, gRJ, gRs_eq, gRs_k, gRs_i, gRs_n, gZI, gZJ, gZR, pI_s, pJ_s, pV_s, pR_s, pR_n, oR_n, oR_s, decide_true, decide_false, not_true_eq_false, not_false_eq_true, decT, decF, Bool.true_eq_false, Bool.false_eq_true, z01, o01, z1f, z1f', zz, oo, b2i_0, b2i_n, b2i_t, b2i_f, Bool.not_true, Bool.not_false]
        · have gv := (ft_ok hT d (le t (sk t s.1), s.2) hle hn).1 s' hs
          have l3 : s'.2.2.length + le t (sk t s.1) ≤ s.2.2.length + s'.1 := gv.len.1
          have h31 := gv.1
          obtain ⟨w6, a1, a2, a3⟩ := c_add hC (by omega) (-30)
          refine ⟨w6, a3.mono (fun κ i k q => by unfold PCa at q; unfold  PCr; omega), ?_, a2⟩
          rw [kd, e_X8_readFact_86]
          simp (disch := omega) only [hw, e_X8_readFact_99, a1, true_and, and_true, false_and, and_false, beq_t, beq_f, eqN_t, eqN_f, eqL_t, eqL_f, nm1, nm2, nm1', nm2', m1z, m2z, zm1, zm2, m12, m21, lg_cmp_ge, lg_cmp_le, lg_cmp_gt, lg_cmp_lt, lg_cmp_eq, oob, oobL, neg0, negL0, natle_f, or_false, false_or, true_or, or_true, or_self, cl, clL, le_t, le_f, lt_t, lt_f, leL_t, leL_f, ltL_t, ltL_f, leM_t, leM_f, ltM_t, ltM_f, leO_t, leO_f, cond_true, cond_false, Option.bind_some, Option.bind_none, if_false, if_true, nI_1, aL1, aL2, mL1, mL2, nI_add, pk_mul, pk_m1, sL1, dL1, pk_sub, m1p1, gIs_eq, gIs_k, gIs_i, gIs_n, gIs_e, gIJ, gIR, gJI, gJR, gJs_eq, gJs_k, gJs_n, gJs_e, gRI, gRJ, gRs_eq, gRs_k, gRs_i, gRs_n, gZI, gZJ, gZR, pI_s, pJ_s, pV_s, pR_s, pR_n, oR_n, oR_s, decide_true, decide_false, not_true_eq_false, not_false_eq_true, decT, decF, Bool.true_eq_false, Bool.false_eq_true, z01, o01, z1f, z1f', zz, oo, b2i_0, b2i_n, b2i_t, b2i_f, Bool.not_true, Bool.not_false]
      · rw [if_neg cN]
        rw [if_neg cN] at r2
        have r21 := r2.1
        have z1 : ¬ (-1 : Int32) = 0 := by decide
        have C2 : CRt w2 t (sk t s.1, s.2) := C1.at F2 (fun κ k q => by unfold PT23; omega) r2.2
        rw [← cm_sk hp]
        refine (c_cmp hT (G0 := F_X8_readFact (f + 1)) (G1 := F_X8_readTest (f + 1)) C2 hn (by show s.2.2.length ≤ sk t s.1; omega)).fr F2' ?_
        rw [f_X8_readFact, e_X8_readFact_0]
        simp (disch := omega) only [k1, e1, e_X8_readFact_61, r21, z1, true_and, and_true, false_and, and_false, beq_t, beq_f, eqN_t, eqN_f, eqL_t, eqL_f, nm1, nm2, nm1', nm2', m1z, m2z, zm1, zm2, m12, m21, lg_cmp_ge, lg_cmp_le, lg_cmp_gt, lg_cmp_lt, lg_cmp_eq, oob, oobL, neg0, negL0, natle_f, or_false, false_or, true_or, or_true, or_self, cl, clL, le_t, le_f, lt_t, lt_f, leL_t, leL_f, ltL_t, ltL_f, leM_t, leM_f, ltM_t, ltM_f, leO_t, leO_f, cond_true, cond_false, Option.bind_some, Option.bind_none, if_false, if_true, nI_1, aL1, aL2, mL1, mL2, nI_add, pk_mul, pk_m1, sL1, dL1, pk_sub, m1p1, gIs_eq, gIs_k, gIs_i, gIs_n, gIs_e, gIJ, gIR, gJI, gJR, gJs_eq, gJs_k, gJs_n, gJs_e, gRI, gRJ, gRs_eq, gRs_k, gRs_i, gRs_n, gZI, gZJ, gZR, pI_s, pJ_s, pV_s, pR_s, pR_n, oR_n, oR_s, decide_true, decide_false, not_true_eq_false, not_false_eq_true, decT, decF, Bool.true_eq_false, Bool.false_eq_true, z01, o01, z1f, z1f', zz, oo, b2i_0, b2i_n, b2i_t, b2i_f, Bool.not_true, Bool.not_false]
theorem c_test10 {t : Tp} (hT : TOk2 t) : RdOk t (F_X8_readTest 40) 0 (teS t 10) := c_test hT (d := 10) (ft_ok hT 10) (c_fact hT 10 39 (by omega) (by omega))
