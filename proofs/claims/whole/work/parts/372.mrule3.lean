/-! ===== the model reads a test, a clause ===== -/
theorem m_yardA {T : Nat} (hT6 : T < 6) {t : Tp} (hT : TOk2 t) (m : Nat) (ihA : ∀ K s w, t.1 - s.1 < m → YA T t K s w → RMq T (TA w) w t (sB (ftS t (10 - dp K) s) (cQ t false K))) (ihB : ∀ K s w, t.1 - s.1 < m → YA T t K s w → RMq T (TB w) w t (cQ t false K s)) :
    ∀ K s w, t.1 - s.1 = m → YA T t K s w → RMq T (TA w) w t (sB (ftS t (10 - dp K) s) (cQ t false K)) := by
  intro K s w hm hY
  have h4 := hT.1
  obtain ⟨hM, hW, hd, hn, hl⟩ := hY
  have hp := hM.1.1.2.2.2
  have hk := sk_le hp
  have ek := sk_sk hp
  have hle := le_le hk.2
  obtain ⟨w1, k1, k2, k3⟩ := m_see hT hM.1.1
  have M1 := hM.mv k3 k2
  have F1 : Fr (PMq T) w w1 := f8q k3
  have dN := m_isWord0 hT k2 ek W_not
  have g8 := k2.2.1
  by_cases cN : wrd t (sk t s.1) = kNot
  · have hL := wrd_ne hk.2 (by rw [cN]; decide)
    have hw3 := wrd_len hk.2 cN
    have : kNot.length = 3 := rfl
    have nB : ¬ isOp t (sk t s.1) := fun z => by
      have h1 := isL_t hL.2
      have h2 := z.2
      omega
    rw [decT cN] at dN
    by_cases c10 : dp K = 10
    · have e0 : ftS t (10 - dp K) s = .inl (1 + 8 * sk t s.1 + 2) := by
        rw [show 10 - dp K = 0 by omega]
        unfold ftS
        rw [if_pos (Or.inr cN)]
      have op := m_opens0 M1 11 c10
      rw [e0]
      refine ⟨_, F1.sI (by unfold PMq; omega), ?_, gIs_eq⟩
      unfold TA
      rw [e_X12_fact_2]
      simp (disch := omega) only [e_X12_fact_6, k1, dN, e_X12_fact_23, op, e_X12_fact_32, e_X12_tested_23, true_and, and_true, false_and, and_false, beq_t, beq_f, eqN_t, eqN_f, eqL_t, eqL_f, nm1, nm2, nm1', nm2', m1z, m2z, zm1, zm2, m12, m21, lg_cmp_ge, lg_cmp_le, lg_cmp_gt, lg_cmp_lt, lg_cmp_eq, oob, oobL, neg0, negL0, natle_f, or_false, false_or, true_or, or_true, or_self, cl, clL, le_t, le_f, lt_t, lt_f, leL_t, leL_f, ltL_t, ltL_f, leM_t, leM_f, ltM_t, ltM_f, leO_t, leO_f, cond_true, cond_false, Option.bind_some, Option.bind_none, if_false, if_true, nI_1, aL1, aL2, mL1, mL2, nI_add, pk_mul, pk_m1, sL1, dL1, pk_sub, m1p1, gIs_eq, gIs_k, gIs_i, gIs_n, gIs_e, gIJ, gIR, gJI, gJR, gJs_eq, gJs_k, gJs_n, gJs_e, gRI, gRJ, gRs_eq, gRs_k, gRs_i, gRs_n, gZI, gZJ, gZR, pI_s, pJ_s, pV_s, pR_s, pR_n, oR_n, oR_s, decide_true, decide_false, not_true_eq_false, not_false_eq_true, decT, decF, Bool.true_eq_false, Bool.false_eq_true, z01, o01, z1f, z1f', zz, oo, b2i_0, b2i_n, b2i_t, b2i_f, Bool.not_true, Bool.not_false]
    · obtain ⟨w2, o1, o2, o3⟩ := m_opens M1 (x := 11) (by omega) (by omega) (by omega)
      have o1 : F_X12_opens [.inr (11, 0), .inl (.int 11)] w1 = some (1, w2) := o1
      obtain ⟨w3, b1, b2, b3⟩ := m_passWord hT o2.1.1
      have M3 : MKt T w3 t (le t (sk t s.1), s.2) (11 :: K) := o2.mv b3 b2
      have e0 : ftS t (10 - dp K) s = sB (ftS t (10 - dp (11 :: K)) (le t (sk t s.1), s.2)) (fun s' => .inr (adS s' (-30))) := by
        rw [dp11, show 10 - dp K = (10 - (dp K + 1)) + 1 by omega]
        classical
        show (if isOp t (sk t s.1) then _ else _) = _
        rw [if_neg nB, if_pos cN]
      have ec : cQ t false (11 :: K) = fun s' => cQ t false K (adS s' (-30)) := funext (fun s' => cQ_11)
      have R := ihA (11 :: K) (le t (sk t s.1), s.2) w3 (by show t.1 - le t (sk t s.1) < m; omega) ⟨M3, ⟨hW, Or.inl rfl⟩, by rw [dp11]; omega, hn, by show s.2.2.length + (K.length + 1) ≤ le t (sk t s.1); omega⟩
      rw [ec] at R
      rw [e0, sB_as]
      refine R.fr ((F1.trans o3).trans (f8q b3)) ?_
      have e5 : q_X12_fact_2 1 w = q_X12_fact_2 1 w3 := by
        ((try dsimp only); rw [e_X12_fact_2]; simp (disch := omega) only [e_X12_fact_6, k1, dN, e_X12_fact_23, o1, e_X12_fact_34, b1, e_X12_fact_72, true_and, and_true, false_and, and_false, beq_t, beq_f, eqN_t, eqN_f, eqL_t, eqL_f, nm1, nm2, nm1', nm2', m1z, m2z, zm1, zm2, m12, m21, lg_cmp_ge, lg_cmp_le, lg_cmp_gt, lg_cmp_lt, lg_cmp_eq, oob, oobL, neg0, negL0, natle_f, or_false, false_or, true_or, or_true, or_self, cl, clL, le_t, le_f, lt_t, lt_f, leL_t, leL_f, ltL_t, ltL_f, leM_t, leM_f, ltM_t, ltM_f, leO_t, leO_f, cond_true, cond_false, Option.bind_some, Option.bind_none, if_false, if_true, nI_1, aL1, aL2, mL1, mL2, nI_add, pk_mul, pk_m1, sL1, dL1, pk_sub, m1p1, gIs_eq, gIs_k, gIs_i, gIs_n, gIs_e, gIJ, gIR, gJI, gJR, gJs_eq, gJs_k, gJs_n, gJs_e, gRI, gRJ, gRs_eq, gRs_k, gRs_i, gRs_n, gZI, gZJ, gZR, pI_s, pJ_s, pV_s, pR_s, pR_n, oR_n, oR_s, decide_true, decide_false, not_true_eq_false, not_false_eq_true, decT, decF, Bool.true_eq_false, Bool.false_eq_true, z01, o01, z1f, z1f', zz, oo, b2i_0, b2i_n, b2i_t, b2i_f, Bool.not_true, Bool.not_false])
      unfold TA
      rw [e5]
  · rw [decF cN] at dN
    by_cases cB : isOp t (sk t s.1)
    · have e1 : chS t (sk t s.1) = 91 := by unfold chS; rw [if_pos cB.1, cB.2]; rfl
      have hc1 := cB.1
      rw [e1] at k1
      by_cases c10 : dp K = 10
      · have e0 : ftS t (10 - dp K) s = .inl (1 + 8 * sk t s.1 + 2) := by
          rw [show 10 - dp K = 0 by omega]
          unfold ftS
          rw [if_pos (Or.inl cB)]
        have op := m_opens0 M1 91 c10
        rw [e0]
        refine ⟨_, F1.sI (by unfold PMq; omega), ?_, gIs_eq⟩
        unfold TA
        rw [e_X12_fact_2]
        simp (disch := omega) only [e_X12_fact_6, k1, dN, e_X12_fact_43, e_X12_fact_49, op, e_X12_fact_58, e_X12_tested_23, true_and, and_true, false_and, and_false, beq_t, beq_f, eqN_t, eqN_f, eqL_t, eqL_f, nm1, nm2, nm1', nm2', m1z, m2z, zm1, zm2, m12, m21, lg_cmp_ge, lg_cmp_le, lg_cmp_gt, lg_cmp_lt, lg_cmp_eq, oob, oobL, neg0, negL0, natle_f, or_false, false_or, true_or, or_true, or_self, cl, clL, le_t, le_f, lt_t, lt_f, leL_t, leL_f, ltL_t, ltL_f, leM_t, leM_f, ltM_t, ltM_f, leO_t, leO_f, cond_true, cond_false, Option.bind_some, Option.bind_none, if_false, if_true, nI_1, aL1, aL2, mL1, mL2, nI_add, pk_mul, pk_m1, sL1, dL1, pk_sub, m1p1, gIs_eq, gIs_k, gIs_i, gIs_n, gIs_e, gIJ, gIR, gJI, gJR, gJs_eq, gJs_k, gJs_n, gJs_e, gRI, gRJ, gRs_eq, gRs_k, gRs_i, gRs_n, gZI, gZJ, gZR, pI_s, pJ_s, pV_s, pR_s, pR_n, oR_n, oR_s, decide_true, decide_false, not_true_eq_false, not_false_eq_true, decT, decF, Bool.true_eq_false, Bool.false_eq_true, z01, o01, z1f, z1f', zz, oo, b2i_0, b2i_n, b2i_t, b2i_f, Bool.not_true, Bool.not_false]
      · obtain ⟨w2, o1, o2, o3⟩ := m_opens M1 (x := 91) (by omega) (by omega) (by omega)
        have o1 : F_X12_opens [.inr (11, 0), .inl (.int 91)] w1 = some (1, w2) := o1
        have g82 : gI w2 11 0 8 = nI (sk t s.1) := o2.1.1.2.1
        have F3 : Fr PM8 w2 (sI w2 11 0 8 (nI (sk t s.1 + 1))) := (Fr.refl _ _).sI ⟨rfl, rfl⟩
        have M3 : MKt T (sI w2 11 0 8 (nI (sk t s.1 + 1))) t (sk t s.1 + 1, s.2) (91 :: K) := o2.mv F3 (o2.1.1.to hc1)
        have e0 : ftS t (10 - dp K) s = sB (suS t (ftS t (10 - dp (91 :: K))) (tkT t) (sk t s.1 + 1, s.2)) (clsS t) := by
          rw [dp91, show 10 - dp K = (10 - (dp K + 1)) + 1 by omega]
          classical
          show (if isOp t (sk t s.1) then _ else _) = _
          rw [if_pos cB]
        have ec : cQ t false (91 :: K) = fun s' => sB (sB (tlD t (10 - dp (91 :: K)) s') (slD t (10 - dp (91 :: K)))) (fun s' => sB (clsS t s') (cQ t false K)) := funext (fun s' => cQ_91)
        have R := ihA (91 :: K) (sk t s.1 + 1, s.2) _ (by show t.1 - (sk t s.1 + 1) < m; omega) ⟨M3, ⟨hW, Or.inr (Or.inl rfl)⟩, by rw [dp91]; omega, hn, by show s.2.2.length + (K.length + 1) ≤ sk t s.1 + 1; omega⟩
        rw [ec] at R
        have e6 : sB (ftS t (10 - dp K) s) (cQ t false K) = sB (ftS t (10 - dp (91 :: K)) (sk t s.1 + 1, s.2)) (fun s' => sB (sB (tlD t (10 - dp (91 :: K)) s') (slD t (10 - dp (91 :: K)))) (fun s' => sB (clsS t s') (cQ t false K))) := by
          rw [e0]
          unfold suS tlD slD
          simp only [sB_as]
        rw [e6]
        refine R.fr ((F1.trans o3).trans (f8q F3)) ?_
        have e5 : q_X12_fact_2 1 w = q_X12_fact_2 1 (sI w2 11 0 8 (nI (sk t s.1 + 1))) := by
          ((try dsimp only); rw [e_X12_fact_2]; simp (disch := omega) only [e_X12_fact_6, k1, dN, e_X12_fact_43, e_X12_fact_49, o1, e_X12_fact_60, g82, e_X12_fact_72, true_and, and_true, false_and, and_false, beq_t, beq_f, eqN_t, eqN_f, eqL_t, eqL_f, nm1, nm2, nm1', nm2', m1z, m2z, zm1, zm2, m12, m21, lg_cmp_ge, lg_cmp_le, lg_cmp_gt, lg_cmp_lt, lg_cmp_eq, oob, oobL, neg0, negL0, natle_f, or_false, false_or, true_or, or_true, or_self, cl, clL, le_t, le_f, lt_t, lt_f, leL_t, leL_f, ltL_t, ltL_f, leM_t, leM_f, ltM_t, ltM_f, leO_t, leO_f, cond_true, cond_false, Option.bind_some, Option.bind_none, if_false, if_true, nI_1, aL1, aL2, mL1, mL2, nI_add, pk_mul, pk_m1, sL1, dL1, pk_sub, m1p1, gIs_eq, gIs_k, gIs_i, gIs_n, gIs_e, gIJ, gIR, gJI, gJR, gJs_eq, gJs_k, gJs_n, gJs_e, gRI, gRJ, gRs_eq, gRs_k, gRs_i, gRs_n, gZI, gZJ, gZR, pI_s, pJ_s, pV_s, pR_s, pR_n, oR_n, oR_s, decide_true, decide_false, not_true_eq_false, not_false_eq_true, decT, decF, Bool.true_eq_false, Bool.false_eq_true, z01, o01, z1f, z1f', zz, oo, b2i_0, b2i_n, b2i_t, b2i_f, Bool.not_true, Bool.not_false])
        unfold TA
        rw [e5]
    · have nc : ¬ chS t (sk t s.1) = 91 := fun z => cB (by
        have := ch_eq hT (c := 91) (by omega) z
        exact ⟨this.1, this.2⟩)
      have e0 : ftS t (10 - dp K) s = cmS t s := by
        cases hq : 10 - dp K with
        | zero => unfold ftS; rw [if_neg (fun z => z.elim cB cN)]
        | succ d =>
          classical
          show (if isOp t (sk t s.1) then _ else _) = _
          rw [if_neg cB, if_neg cN]
      have R := m_compare hT6 hT M1.1 hn (by show s.2.2.length ≤ sk t s.1; omega)
      rw [cm_sk hp] at R
      rw [e0]
      have s0 : TA w = ((F_X12_compare [.inr (11, 0)] w1).bind fun r0 => (bif decide (¬ r0.1 = 0) then (q_X12_tested_25 r0.2) else (q_X12_tested_23 r0.2)) : Option XR).bind pI := by
        unfold TA
        have : (q_X12_fact_2 1 w).bind pI = F_X12_compare [.inr (11, 0)] w1 := by
          have e5 : q_X12_fact_2 1 w = q_X12_fact_2 0 w1 := by
            ((try dsimp only); rw [e_X12_fact_2]; simp (disch := omega) only [e_X12_fact_6, k1, dN, e_X12_fact_43, nc, e_X12_fact_72, true_and, and_true, false_and, and_false, beq_t, beq_f, eqN_t, eqN_f, eqL_t, eqL_f, nm1, nm2, nm1', nm2', m1z, m2z, zm1, zm2, m12, m21, lg_cmp_ge, lg_cmp_le, lg_cmp_gt, lg_cmp_lt, lg_cmp_eq, oob, oobL, neg0, negL0, natle_f, or_false, false_or, true_or, or_true, or_self, cl, clL, le_t, le_f, lt_t, lt_f, leL_t, leL_f, ltL_t, ltL_f, leM_t, leM_f, ltM_t, ltM_f, leO_t, leO_f, cond_true, cond_false, Option.bind_some, Option.bind_none, if_false, if_true, nI_1, aL1, aL2, mL1, mL2, nI_add, pk_mul, pk_m1, sL1, dL1, pk_sub, m1p1, gIs_eq, gIs_k, gIs_i, gIs_n, gIs_e, gIJ, gIR, gJI, gJR, gJs_eq, gJs_k, gJs_n, gJs_e, gRI, gRJ, gRs_eq, gRs_k, gRs_i, gRs_n, gZI, gZJ, gZR, pI_s, pJ_s, pV_s, pR_s, pR_n, oR_n, oR_s, decide_true, decide_false, not_true_eq_false, not_false_eq_true, decT, decF, Bool.true_eq_false, Bool.false_eq_true, z01, o01, z1f, z1f', zz, oo, b2i_0, b2i_n, b2i_t, b2i_f, Bool.not_true, Bool.not_false])
          have e6 : q_X12_fact_2 0 w1 = q_X12_fact_75 w1 := by
            ((try dsimp only); rw [e_X12_fact_2]; simp (disch := omega) only [true_and, and_true, false_and, and_false, beq_t, beq_f, eqN_t, eqN_f, eqL_t, eqL_f, nm1, nm2, nm1', nm2', m1z, m2z, zm1, zm2, m12, m21, lg_cmp_ge, lg_cmp_le, lg_cmp_gt, lg_cmp_lt, lg_cmp_eq, oob, oobL, neg0, negL0, natle_f, or_false, false_or, true_or, or_true, or_self, cl, clL, le_t, le_f, lt_t, lt_f, leL_t, leL_f, ltL_t, ltL_f, leM_t, leM_f, ltM_t, ltM_f, leO_t, leO_f, cond_true, cond_false, Option.bind_some, Option.bind_none, if_false, if_true, nI_1, aL1, aL2, mL1, mL2, nI_add, pk_mul, pk_m1, sL1, dL1, pk_sub, m1p1, gIs_eq, gIs_k, gIs_i, gIs_n, gIs_e, gIJ, gIR, gJI, gJR, gJs_eq, gJs_k, gJs_n, gJs_e, gRI, gRJ, gRs_eq, gRs_k, gRs_i, gRs_n, gZI, gZJ, gZR, pI_s, pJ_s, pV_s, pR_s, pR_n, oR_n, oR_s, decide_true, decide_false, not_true_eq_false, not_false_eq_true, decT, decF, Bool.true_eq_false, Bool.false_eq_true, z01, o01, z1f, z1f', zz, oo, b2i_0, b2i_n, b2i_t, b2i_f, Bool.not_true, Bool.not_false])
          rw [e5, e6, e_X12_fact_75]
          exact R.b01
        rw [this]
      obtain ⟨w2, F2, r2⟩ := R
      cases hq : cmS t s with
      | inl f =>
        rw [hq] at r2
        obtain ⟨r2, r3⟩ := r2
        refine ⟨w2, F1.trans (fvq F2), ?_, r3⟩
        rw [s0]
        simp (disch := omega) only [r2, e_X12_tested_23, true_and, and_true, false_and, and_false, beq_t, beq_f, eqN_t, eqN_f, eqL_t, eqL_f, nm1, nm2, nm1', nm2', m1z, m2z, zm1, zm2, m12, m21, lg_cmp_ge, lg_cmp_le, lg_cmp_gt, lg_cmp_lt, lg_cmp_eq, oob, oobL, neg0, negL0, natle_f, or_false, false_or, true_or, or_true, or_self, cl, clL, le_t, le_f, lt_t, lt_f, leL_t, leL_f, ltL_t, ltL_f, leM_t, leM_f, ltM_t, ltM_f, leO_t, leO_f, cond_true, cond_false, Option.bind_some, Option.bind_none, if_false, if_true, nI_1, aL1, aL2, mL1, mL2, nI_add, pk_mul, pk_m1, sL1, dL1, pk_sub, m1p1, gIs_eq, gIs_k, gIs_i, gIs_n, gIs_e, gIJ, gIR, gJI, gJR, gJs_eq, gJs_k, gJs_n, gJs_e, gRI, gRJ, gRs_eq, gRs_k, gRs_i, gRs_n, gZI, gZJ, gZR, pI_s, pJ_s, pV_s, pR_s, pR_n, oR_n, oR_s, decide_true, decide_false, not_true_eq_false, not_false_eq_true, decT, decF, Bool.true_eq_false, Bool.false_eq_true, z01, o01, z1f, z1f', zz, oo, b2i_0, b2i_n, b2i_t, b2i_f, Bool.not_true, Bool.not_false]
      | inr s' =>
        rw [hq] at r2
        obtain ⟨r2, r3⟩ := r2
        have gv := (cm_ok hT s hp hn).1 s' hq
        have hlt := gv.lt
        have hle2 := gv.len.1
        have hs1 := gv.1
        have M2 := M1.v F2 r3
        refine (ihB K s' w2 (by omega) ⟨M2, hW, hd, gv.2.1, by omega⟩).fr (F1.trans (fvq F2)) ?_
        rw [s0, ← TB_eq]
        simp (disch := omega) only [r2, true_and, and_true, false_and, and_false, beq_t, beq_f, eqN_t, eqN_f, eqL_t, eqL_f, nm1, nm2, nm1', nm2', m1z, m2z, zm1, zm2, m12, m21, lg_cmp_ge, lg_cmp_le, lg_cmp_gt, lg_cmp_lt, lg_cmp_eq, oob, oobL, neg0, negL0, natle_f, or_false, false_or, true_or, or_true, or_self, cl, clL, le_t, le_f, lt_t, lt_f, leL_t, leL_f, ltL_t, ltL_f, leM_t, leM_f, ltM_t, ltM_f, leO_t, leO_f, cond_true, cond_false, Option.bind_some, Option.bind_none, if_false, if_true, nI_1, aL1, aL2, mL1, mL2, nI_add, pk_mul, pk_m1, sL1, dL1, pk_sub, m1p1, gIs_eq, gIs_k, gIs_i, gIs_n, gIs_e, gIJ, gIR, gJI, gJR, gJs_eq, gJs_k, gJs_n, gJs_e, gRI, gRJ, gRs_eq, gRs_k, gRs_i, gRs_n, gZI, gZJ, gZR, pI_s, pJ_s, pV_s, pR_s, pR_n, oR_n, oR_s, decide_true, decide_false, not_true_eq_false, not_false_eq_true, decT, decF, Bool.true_eq_false, Bool.false_eq_true, z01, o01, z1f, z1f', zz, oo, b2i_0, b2i_n, b2i_t, b2i_f, Bool.not_true, Bool.not_false]
theorem m_yard {T : Nat} (hT6 : T < 6) {t : Tp} (hT : TOk2 t) : ∀ m, (∀ K s w, t.1 - s.1 = m → YA T t K s w → RMq T (TA w) w t (sB (ftS t (10 - dp K) s) (cQ t false K))) ∧ ∀ K s w, t.1 - s.1 = m → YA T t K s w → RMq T (TB w) w t (cQ t false K s) := by
  intro m
  induction m using Nat.strongRecOn with
  | ind m ih =>
    have hA : ∀ K s w, t.1 - s.1 < m → YA T t K s w → RMq T (TA w) w t (sB (ftS t (10 - dp K) s) (cQ t false K)) := fun K s w h hY => (ih _ h).1 K s w rfl hY
    have hB : ∀ K s w, t.1 - s.1 < m → YA T t K s w → RMq T (TB w) w t (cQ t false K s) := fun K s w h hY => (ih _ h).2 K s w rfl hY
    exact ⟨m_yardA hT6 hT m hA hB, m_yardB hT6 hT m hA hB⟩
theorem m_tested {T : Nat} (hT6 : T < 6) {t : Tp} (hT : TOk2 t) {s : St} {w : XW} (h : MRt T w t s) (hn : s.2.1 ≤ 60) (hl : s.2.2.length ≤ s.1) : RMq T (F_X12_tested [.inr (11, 0)] w) w t (teS t 10 s) := by
  have F1 : Fr (fun κ _ k => κ = 11 ∧ (k = 13 ∨ k = 16)) w (sI (sI w 11 0 16 0) 11 0 13 0) := ((Fr.refl _ _).sI (by omega)).sI (by omega)
  have hY : YA T t [] s (sI (sI w 11 0 16 0) 11 0 13 0) := ⟨⟨h.fr F1 (fun κ k q => by omega), by rw [gIs_k (by omega), gIs_eq]; rfl, by rw [gIs_eq]; rfl, trivial⟩, trivial, Nat.zero_le _, hn, hl⟩
  have R := (m_yard hT6 hT _).1 [] s _ rfl hY
  have e : sB (ftS t (10 - dp []) s) (cQ t false []) = teS t 10 s := by
    have : cQ t false [] = fun s' => sB (sB (tlD t 10 s') (slD t 10)) Sum.inr := rfl
    rw [this]
    unfold teS suS tlD slD
    show sB (ftS t 10 s) _ = _
    simp only [sB_r, sB_as]
  rw [e] at R
  refine R.fr (F1.mono (fun κ i k q => by unfold PMq; omega)) ?_
  rw [f_X12_tested, e_X12_tested_0, TA_eq]
/-- where the model keeps the bounds of clauses -/
def BmAt (g : Nat → Int32) (T : Nat) : Nat → Nat → Rl → Prop
  | _, _, [] => True
  | ci, o, (c, tt) :: r => (g (48 * T + 4 * ci) = nI o ∧ g (48 * T + 4 * ci + 1) = nI (o + c.length) ∧ g (48 * T + 4 * ci + 2) = (if tt = [] then -1 else nI (o + c.length)) ∧ g (48 * T + 4 * ci + 3) = nI (o + c.length + tt.length)) ∧ BmAt g T (ci + 1) (o + c.length + tt.length) r
theorem BmAt.snoc {g g' : Nat → Int32} {T : Nat} {c tt : List Int32} : ∀ (rl : Rl) (ci o : Nat), BmAt g T ci o rl → (∀ i, 48 * T ≤ i → i < 48 * T + 4 * (ci + rl.length) → g' i = g i) → g' (48 * T + 4 * (ci + rl.length)) = nI (o + (flR rl).length) → g' (48 * T + 4 * (ci + rl.length) + 1) = nI (o + (flR rl).length + c.length) → g' (48 * T + 4 * (ci + rl.length) + 2) = (if tt = [] then -1 else nI (o + (flR rl).length + c.length)) → g' (48 * T + 4 * (ci + rl.length) + 3) = nI (o + (flR rl).length + c.length + tt.length) → BmAt g' T ci o (rl ++ [(c, tt)]) := by
  intro rl
  induction rl with
  | nil =>
    intro ci o _ _ h1 h2 h3 h4
    exact ⟨⟨h1, h2, h3, h4⟩, trivial⟩
  | cons q r ih =>
    intro ci o h h0 h1 h2 h3 h4
    obtain ⟨a, b⟩ := q
    obtain ⟨⟨b1, b2, b3, b3'⟩, b4⟩ := h
    have el : ((a, b) :: r : Rl).length = r.length + 1 := rfl
    have ef : (flR ((a, b) :: r)).length = a.length + b.length + (flR r).length := by
      unfold flR
      rw [List.flatMap_cons, List.length_append, List.length_append]
    rw [el] at h0 h1 h2 h3 h4
    rw [ef] at h1 h2 h3 h4
    have e9 : ci + 1 + r.length = ci + (r.length + 1) := by omega
    have e8 : o + a.length + b.length + (flR r).length = o + (a.length + b.length + (flR r).length) := by omega
    refine ⟨⟨by rw [h0 _ (by omega) (by omega)]; exact b1, by rw [h0 _ (by omega) (by omega)]; exact b2, by rw [h0 _ (by omega) (by omega)]; exact b3, by rw [h0 _ (by omega) (by omega)]; exact b3'⟩, ih (ci + 1) (o + a.length + b.length) b4 (fun i hi hj => h0 i hi (by omega)) ?_ ?_ ?_ ?_⟩
    · rw [e9, e8, h1]
    · rw [e9, e8, h2]
    · rw [e9, e8, h3]
    · rw [e9, e8, h4]
theorem BmAt.cg {g g' : Nat → Int32} {T : Nat} : ∀ (rl : Rl) (ci o : Nat), BmAt g T ci o rl → (∀ i, 48 * T ≤ i → i < 48 * T + 4 * (ci + rl.length) → g' i = g i) → BmAt g' T ci o rl := by
  intro rl
  induction rl with
  | nil => intro ci o _ _; trivial
  | cons q r ih =>
    intro ci o h h0
    obtain ⟨a, b⟩ := q
    obtain ⟨⟨b1, b2, b3, b3'⟩, b4⟩ := h
    have el : ((a, b) :: r : Rl).length = r.length + 1 := rfl
    rw [el] at h0
    exact ⟨⟨by rw [h0 _ (by omega) (by omega)]; exact b1, by rw [h0 _ (by omega) (by omega)]; exact b2, by rw [h0 _ (by omega) (by omega)]; exact b3, by rw [h0 _ (by omega) (by omega)]; exact b3'⟩, ih (ci + 1) _ b4 (fun i hi hj => h0 i hi (by omega))⟩
