/-! ===== the model: a night, whole ===== -/
theorem i32_one_mul (x : Int32) : 1 * x = x := Int32.one_mul x
theorem max0 (v : Int32) : (if 0 ≤ v then v else 0) = if 0 < v then v else 0 := by
  by_cases h : 0 < v
  · rw [if_pos h, if_pos (Int32.le_of_lt h)]
  · rw [if_neg h]
    by_cases h2 : 0 ≤ v
    · rw [if_pos h2]
      rw [Int32.lt_iff_toInt_lt] at h
      rw [Int32.le_iff_toInt_le] at h2
      exact Int32.toInt_inj.mp (by omega)
    · rw [if_neg h2]
def PH (q κ _j k : Nat) : Prop := κ = 50 ∧ (k = 11 + 4 * q ∨ k = 11 + 4 * q + 1 ∨ k = 11 + 4 * q + 2)
theorem p_X12_burns1 (k : Nat) (hk : k < 6) (w : XW) : F_X12_burns1 [.inr (11, 0), .inl (.int (nI k))] w = some (sI (sI (sI w 50 0 (11 + 4 * k) 0) 50 0 (11 + 4 * k + 1) 0) 50 0 (11 + 4 * k + 2) (-2)) := by
  rw [f_X12_burns1, e_X12_burns1_0]
  simp (disch := omega) only [true_and, and_true, false_and, and_false, beq_t, beq_f, eqN_t, eqN_f, eqL_t, eqL_f, nm1, nm2, nm1', nm2', m1z, m2z, zm1, zm2, m12, m21, lg_cmp_ge, lg_cmp_le, lg_cmp_gt, lg_cmp_lt, lg_cmp_eq, oob, oobL, neg0, negL0, natle_f, or_false, false_or, true_or, or_true, or_self, cl, clL, le_t, le_f, lt_t, lt_f, leL_t, leL_f, ltL_t, ltL_f, leM_t, leM_f, ltM_t, ltM_f, leO_t, leO_f, cond_true, cond_false, Option.bind_some, Option.bind_none, if_false, if_true, nI_1, aL1, aL2, mL1, mL2, nI_add, pk_mul, pk_m1, sL1, dL1, pk_sub, m1p1, gIs_eq, gIs_k, gIs_i, gIs_n, gIs_e, gIJ, gIR, gJI, gJR, gJs_eq, gJs_k, gJs_n, gJs_e, gRI, gRJ, gRs_eq, gRs_k, gRs_i, gRs_n, gZI, gZJ, gZR, pI_s, pJ_s, pV_s, pR_s, pR_n, oR_n, oR_s, decide_true, decide_false, not_true_eq_false, not_false_eq_true, decT, decF, Bool.true_eq_false, Bool.false_eq_true, z01, o01, z1f, z1f', zz, oo, b2i_0, b2i_n, b2i_t, b2i_f, Bool.not_true, Bool.not_false]
theorem p_X12_heats (d : Dl) (hD : DOk d) (s : Sc) (k : Nat) (hk : k < kn d) (w : XW) (hd : MdAt w d) (h1 : gI w 50 0 (11 + 4 * k) = s.2.1 k) (h2 : gI w 50 0 (11 + 4 * k + 1) = s.2.2.1 k) (h3 : gI w 50 0 (11 + 4 * k + 2) = s.2.2.2.1 k) :
    ∃ w', F_X12_heats [.inr (11, 0), .inl (.int (nI k))] w = some (b2i (burnS d s k), w') ∧ gI w' 50 0 (11 + 4 * k) = wFull d s k ∧ gI w' 50 0 (11 + 4 * k + 1) = wHeat d s k ∧ gI w' 50 0 (11 + 4 * k + 2) = wPlace d s k ∧ Fr (PH k) w w' := by
  have h6 := hD.1.2
  have q1 := p_X12_heatOf k (by omega) w
  have q2 := p_X12_fullOf k (by omega) w
  have q3 := p_X12_whereIs k (by omega) w
  have q4 := p_X12_isBurnt (k := k) (by omega) w
  have q5 := (hd.2.1 k (by omega)).2.1
  have q6 := hd.1 2 (by omega)
  rw [h3] at q4 q3
  rw [h2] at q1
  rw [h1] at q2
  rw [f_X12_heats, e_X12_heats_0, q4]
  by_cases hb : s.2.2.2.1 k = -2
  · have hbs : burnS d s k = false := by
      unfold burnS
      rw [decF (p := ¬ _) (fun q => q hb)]
      rfl
    refine ⟨w, ?_, ?_, ?_, ?_, Fr.refl _ _⟩
    · simp (disch := omega) only [hb, e_X12_heats_8, hbs, true_and, and_true, false_and, and_false, beq_t, beq_f, eqN_t, eqN_f, eqL_t, eqL_f, nm1, nm2, nm1', nm2', m1z, m2z, zm1, zm2, m12, m21, lg_cmp_ge, lg_cmp_le, lg_cmp_gt, lg_cmp_lt, lg_cmp_eq, oob, oobL, neg0, negL0, natle_f, or_false, false_or, true_or, or_true, or_self, cl, clL, le_t, le_f, lt_t, lt_f, leL_t, leL_f, ltL_t, ltL_f, leM_t, leM_f, ltM_t, ltM_f, leO_t, leO_f, cond_true, cond_false, Option.bind_some, Option.bind_none, if_false, if_true, nI_1, aL1, aL2, mL1, mL2, nI_add, pk_mul, pk_m1, sL1, dL1, pk_sub, m1p1, gIs_eq, gIs_k, gIs_i, gIs_n, gIs_e, gIJ, gIR, gJI, gJR, gJs_eq, gJs_k, gJs_n, gJs_e, gRI, gRJ, gRs_eq, gRs_k, gRs_i, gRs_n, gZI, gZJ, gZR, pI_s, pJ_s, pV_s, pR_s, pR_n, oR_n, oR_s, decide_true, decide_false, not_true_eq_false, not_false_eq_true, decT, decF, Bool.true_eq_false, Bool.false_eq_true, z01, o01, z1f, z1f', zz, oo, b2i_0, b2i_n, b2i_t, b2i_f, Bool.not_true, Bool.not_false]
    · unfold wFull
      rw [hbs]
      exact h1
    · unfold wHeat
      rw [hbs, decT hb]
      exact h2
    · unfold wPlace
      rw [hbs]
      exact h3
  · have step : ∃ w', (q_X12_heats_36 (nI k) (s.2.2.1 k + s.2.1 k / 4) (bif decide (s.2.2.2.1 k < 0) then 1 else 2) w).bind pI = some (b2i (burnS d s k), w') ∧ gI w' 50 0 (11 + 4 * k) = wFull d s k ∧ gI w' 50 0 (11 + 4 * k + 1) = wHeat d s k ∧ gI w' 50 0 (11 + 4 * k + 2) = wPlace d s k ∧ Fr (PH k) w w' := by
      have hv : (s.2.2.1 k + s.2.1 k / 4) - (bif decide (s.2.2.2.1 k < 0) then 1 else 2) * d.2.2.1 k = vS d s k := by
        unfold vS
        cases decide (s.2.2.2.1 k < 0) with
        | true => rw [cond_true, cond_true, i32_one_mul]
        | false => rfl
      have sub : q_X12_heats_36 (nI k) (s.2.2.1 k + s.2.1 k / 4) (bif decide (s.2.2.2.1 k < 0) then 1 else 2) w = q_X12_heats_69 (nI k) (vS d s k) (nI (11 + 4 * k + 1)) (if 0 < vS d s k then vS d s k else 0) w := by
        rw [e_X12_heats_36, ← max0]
        by_cases hz : 0 ≤ vS d s k
        · simp (disch := omega) only [q5, hv, hz, e_X12_heats_68, true_and, and_true, false_and, and_false, beq_t, beq_f, eqN_t, eqN_f, eqL_t, eqL_f, nm1, nm2, nm1', nm2', m1z, m2z, zm1, zm2, m12, m21, lg_cmp_ge, lg_cmp_le, lg_cmp_gt, lg_cmp_lt, lg_cmp_eq, oob, oobL, neg0, negL0, natle_f, or_false, false_or, true_or, or_true, or_self, cl, clL, le_t, le_f, lt_t, lt_f, leL_t, leL_f, ltL_t, ltL_f, leM_t, leM_f, ltM_t, ltM_f, leO_t, leO_f, cond_true, cond_false, Option.bind_some, Option.bind_none, if_false, if_true, nI_1, aL1, aL2, mL1, mL2, nI_add, pk_mul, pk_m1, sL1, dL1, pk_sub, m1p1, gIs_eq, gIs_k, gIs_i, gIs_n, gIs_e, gIJ, gIR, gJI, gJR, gJs_eq, gJs_k, gJs_n, gJs_e, gRI, gRJ, gRs_eq, gRs_k, gRs_i, gRs_n, gZI, gZJ, gZR, pI_s, pJ_s, pV_s, pR_s, pR_n, oR_n, oR_s, decide_true, decide_false, not_true_eq_false, not_false_eq_true, decT, decF, Bool.true_eq_false, Bool.false_eq_true, z01, o01, z1f, z1f', zz, oo, b2i_0, b2i_n, b2i_t, b2i_f, Bool.not_true, Bool.not_false]
        · simp (disch := omega) only [q5, hv, hz, e_X12_heats_64, true_and, and_true, false_and, and_false, beq_t, beq_f, eqN_t, eqN_f, eqL_t, eqL_f, nm1, nm2, nm1', nm2', m1z, m2z, zm1, zm2, m12, m21, lg_cmp_ge, lg_cmp_le, lg_cmp_gt, lg_cmp_lt, lg_cmp_eq, oob, oobL, neg0, negL0, natle_f, or_false, false_or, true_or, or_true, or_self, cl, clL, le_t, le_f, lt_t, lt_f, leL_t, leL_f, ltL_t, ltL_f, leM_t, leM_f, ltM_t, ltM_f, leO_t, leO_f, cond_true, cond_false, Option.bind_some, Option.bind_none, if_false, if_true, nI_1, aL1, aL2, mL1, mL2, nI_add, pk_mul, pk_m1, sL1, dL1, pk_sub, m1p1, gIs_eq, gIs_k, gIs_i, gIs_n, gIs_e, gIJ, gIR, gJI, gJR, gJs_eq, gJs_k, gJs_n, gJs_e, gRI, gRJ, gRs_eq, gRs_k, gRs_i, gRs_n, gZI, gZJ, gZR, pI_s, pJ_s, pV_s, pR_s, pR_n, oR_n, oR_s, decide_true, decide_false, not_true_eq_false, not_false_eq_true, decT, decF, Bool.true_eq_false, Bool.false_eq_true, z01, o01, z1f, z1f', zz, oo, b2i_0, b2i_n, b2i_t, b2i_f, Bool.not_true, Bool.not_false]
      rw [sub, e_X12_heats_69]
      simp (disch := omega) only [q6, true_and, and_true, false_and, and_false, beq_t, beq_f, eqN_t, eqN_f, eqL_t, eqL_f, nm1, nm2, nm1', nm2', m1z, m2z, zm1, zm2, m12, m21, lg_cmp_ge, lg_cmp_le, lg_cmp_gt, lg_cmp_lt, lg_cmp_eq, oob, oobL, neg0, negL0, natle_f, or_false, false_or, true_or, or_true, or_self, cl, clL, le_t, le_f, lt_t, lt_f, leL_t, leL_f, ltL_t, ltL_f, leM_t, leM_f, ltM_t, ltM_f, leO_t, leO_f, cond_true, cond_false, Option.bind_some, Option.bind_none, if_false, if_true, nI_1, aL1, aL2, mL1, mL2, nI_add, pk_mul, pk_m1, sL1, dL1, pk_sub, m1p1, gIs_eq, gIs_k, gIs_i, gIs_n, gIs_e, gIJ, gIR, gJI, gJR, gJs_eq, gJs_k, gJs_n, gJs_e, gRI, gRJ, gRs_eq, gRs_k, gRs_i, gRs_n, gZI, gZJ, gZR, pI_s, pJ_s, pV_s, pR_s, pR_n, oR_n, oR_s, decide_true, decide_false, not_true_eq_false, not_false_eq_true, decT, decF, Bool.true_eq_false, Bool.false_eq_true, z01, o01, z1f, z1f', zz, oo, b2i_0, b2i_n, b2i_t, b2i_f, Bool.not_true, Bool.not_false]
      by_cases hl : d.1 2 ≤ vS d s k
      · have hbs : burnS d s k = true := by
          unfold burnS
          rw [decT hb, decT hl]
          rfl
        simp (disch := omega) only [hl, e_X12_heats_82, p_X12_burns1 k (by omega), true_and, and_true, false_and, and_false, beq_t, beq_f, eqN_t, eqN_f, eqL_t, eqL_f, nm1, nm2, nm1', nm2', m1z, m2z, zm1, zm2, m12, m21, lg_cmp_ge, lg_cmp_le, lg_cmp_gt, lg_cmp_lt, lg_cmp_eq, oob, oobL, neg0, negL0, natle_f, or_false, false_or, true_or, or_true, or_self, cl, clL, le_t, le_f, lt_t, lt_f, leL_t, leL_f, ltL_t, ltL_f, leM_t, leM_f, ltM_t, ltM_f, leO_t, leO_f, cond_true, cond_false, Option.bind_some, Option.bind_none, if_false, if_true, nI_1, aL1, aL2, mL1, mL2, nI_add, pk_mul, pk_m1, sL1, dL1, pk_sub, m1p1, gIs_eq, gIs_k, gIs_i, gIs_n, gIs_e, gIJ, gIR, gJI, gJR, gJs_eq, gJs_k, gJs_n, gJs_e, gRI, gRJ, gRs_eq, gRs_k, gRs_i, gRs_n, gZI, gZJ, gZR, pI_s, pJ_s, pV_s, pR_s, pR_n, oR_n, oR_s, decide_true, decide_false, not_true_eq_false, not_false_eq_true, decT, decF, Bool.true_eq_false, Bool.false_eq_true, z01, o01, z1f, z1f', zz, oo, b2i_0, b2i_n, b2i_t, b2i_f, Bool.not_true, Bool.not_false]
        refine ⟨_, by rw [hbs]; rfl, ?_, ?_, ?_, by (repeat' (first | exact hd | exact Fr.refl _ _ | refine Fr.sI ?_ ?_ | refine Fr.sR ?_ ?_ | refine Fr.sJ ?_ ?_ | (unfold PH; omega)))⟩
        · unfold wFull
          rw [hbs]
          simp (disch := omega) only [true_and, and_true, false_and, and_false, beq_t, beq_f, eqN_t, eqN_f, eqL_t, eqL_f, nm1, nm2, nm1', nm2', m1z, m2z, zm1, zm2, m12, m21, lg_cmp_ge, lg_cmp_le, lg_cmp_gt, lg_cmp_lt, lg_cmp_eq, oob, oobL, neg0, negL0, natle_f, or_false, false_or, true_or, or_true, or_self, cl, clL, le_t, le_f, lt_t, lt_f, leL_t, leL_f, ltL_t, ltL_f, leM_t, leM_f, ltM_t, ltM_f, leO_t, leO_f, cond_true, cond_false, Option.bind_some, Option.bind_none, if_false, if_true, nI_1, aL1, aL2, mL1, mL2, nI_add, pk_mul, pk_m1, sL1, dL1, pk_sub, m1p1, gIs_eq, gIs_k, gIs_i, gIs_n, gIs_e, gIJ, gIR, gJI, gJR, gJs_eq, gJs_k, gJs_n, gJs_e, gRI, gRJ, gRs_eq, gRs_k, gRs_i, gRs_n, gZI, gZJ, gZR, pI_s, pJ_s, pV_s, pR_s, pR_n, oR_n, oR_s, decide_true, decide_false, not_true_eq_false, not_false_eq_true, decT, decF, Bool.true_eq_false, Bool.false_eq_true, z01, o01, z1f, z1f', zz, oo, b2i_0, b2i_n, b2i_t, b2i_f, Bool.not_true, Bool.not_false]
        · unfold wHeat
          rw [hbs]
          simp (disch := omega) only [true_and, and_true, false_and, and_false, beq_t, beq_f, eqN_t, eqN_f, eqL_t, eqL_f, nm1, nm2, nm1', nm2', m1z, m2z, zm1, zm2, m12, m21, lg_cmp_ge, lg_cmp_le, lg_cmp_gt, lg_cmp_lt, lg_cmp_eq, oob, oobL, neg0, negL0, natle_f, or_false, false_or, true_or, or_true, or_self, cl, clL, le_t, le_f, lt_t, lt_f, leL_t, leL_f, ltL_t, ltL_f, leM_t, leM_f, ltM_t, ltM_f, leO_t, leO_f, cond_true, cond_false, Option.bind_some, Option.bind_none, if_false, if_true, nI_1, aL1, aL2, mL1, mL2, nI_add, pk_mul, pk_m1, sL1, dL1, pk_sub, m1p1, gIs_eq, gIs_k, gIs_i, gIs_n, gIs_e, gIJ, gIR, gJI, gJR, gJs_eq, gJs_k, gJs_n, gJs_e, gRI, gRJ, gRs_eq, gRs_k, gRs_i, gRs_n, gZI, gZJ, gZR, pI_s, pJ_s, pV_s, pR_s, pR_n, oR_n, oR_s, decide_true, decide_false, not_true_eq_false, not_false_eq_true, decT, decF, Bool.true_eq_false, Bool.false_eq_true, z01, o01, z1f, z1f', zz, oo, b2i_0, b2i_n, b2i_t, b2i_f, Bool.not_true, Bool.not_false]
        · unfold wPlace
          rw [hbs]
          simp (disch := omega) only [true_and, and_true, false_and, and_false, beq_t, beq_f, eqN_t, eqN_f, eqL_t, eqL_f, nm1, nm2, nm1', nm2', m1z, m2z, zm1, zm2, m12, m21, lg_cmp_ge, lg_cmp_le, lg_cmp_gt, lg_cmp_lt, lg_cmp_eq, oob, oobL, neg0, negL0, natle_f, or_false, false_or, true_or, or_true, or_self, cl, clL, le_t, le_f, lt_t, lt_f, leL_t, leL_f, ltL_t, ltL_f, leM_t, leM_f, ltM_t, ltM_f, leO_t, leO_f, cond_true, cond_false, Option.bind_some, Option.bind_none, if_false, if_true, nI_1, aL1, aL2, mL1, mL2, nI_add, pk_mul, pk_m1, sL1, dL1, pk_sub, m1p1, gIs_eq, gIs_k, gIs_i, gIs_n, gIs_e, gIJ, gIR, gJI, gJR, gJs_eq, gJs_k, gJs_n, gJs_e, gRI, gRJ, gRs_eq, gRs_k, gRs_i, gRs_n, gZI, gZJ, gZR, pI_s, pJ_s, pV_s, pR_s, pR_n, oR_n, oR_s, decide_true, decide_false, not_true_eq_false, not_false_eq_true, decT, decF, Bool.true_eq_false, Bool.false_eq_true, z01, o01, z1f, z1f', zz, oo, b2i_0, b2i_n, b2i_t, b2i_f, Bool.not_true, Bool.not_false]
      · have hbs : burnS d s k = false := by
          unfold burnS
          rw [decF hl]
          simp
        simp (disch := omega) only [hl, e_X12_heats_80, true_and, and_true, false_and, and_false, beq_t, beq_f, eqN_t, eqN_f, eqL_t, eqL_f, nm1, nm2, nm1', nm2', m1z, m2z, zm1, zm2, m12, m21, lg_cmp_ge, lg_cmp_le, lg_cmp_gt, lg_cmp_lt, lg_cmp_eq, oob, oobL, neg0, negL0, natle_f, or_false, false_or, true_or, or_true, or_self, cl, clL, le_t, le_f, lt_t, lt_f, leL_t, leL_f, ltL_t, ltL_f, leM_t, leM_f, ltM_t, ltM_f, leO_t, leO_f, cond_true, cond_false, Option.bind_some, Option.bind_none, if_false, if_true, nI_1, aL1, aL2, mL1, mL2, nI_add, pk_mul, pk_m1, sL1, dL1, pk_sub, m1p1, gIs_eq, gIs_k, gIs_i, gIs_n, gIs_e, gIJ, gIR, gJI, gJR, gJs_eq, gJs_k, gJs_n, gJs_e, gRI, gRJ, gRs_eq, gRs_k, gRs_i, gRs_n, gZI, gZJ, gZR, pI_s, pJ_s, pV_s, pR_s, pR_n, oR_n, oR_s, decide_true, decide_false, not_true_eq_false, not_false_eq_true, decT, decF, Bool.true_eq_false, Bool.false_eq_true, z01, o01, z1f, z1f', zz, oo, b2i_0, b2i_n, b2i_t, b2i_f, Bool.not_true, Bool.not_false]
        refine ⟨_, by rw [hbs]; rfl, ?_, ?_, ?_, by (repeat' (first | exact hd | exact Fr.refl _ _ | refine Fr.sI ?_ ?_ | refine Fr.sR ?_ ?_ | refine Fr.sJ ?_ ?_ | (unfold PH; omega)))⟩
        · unfold wFull
          rw [hbs]
          simp (disch := omega) only [true_and, and_true, false_and, and_false, beq_t, beq_f, eqN_t, eqN_f, eqL_t, eqL_f, nm1, nm2, nm1', nm2', m1z, m2z, zm1, zm2, m12, m21, lg_cmp_ge, lg_cmp_le, lg_cmp_gt, lg_cmp_lt, lg_cmp_eq, oob, oobL, neg0, negL0, natle_f, or_false, false_or, true_or, or_true, or_self, cl, clL, le_t, le_f, lt_t, lt_f, leL_t, leL_f, ltL_t, ltL_f, leM_t, leM_f, ltM_t, ltM_f, leO_t, leO_f, cond_true, cond_false, Option.bind_some, Option.bind_none, if_false, if_true, nI_1, aL1, aL2, mL1, mL2, nI_add, pk_mul, pk_m1, sL1, dL1, pk_sub, m1p1, gIs_eq, gIs_k, gIs_i, gIs_n, gIs_e, gIJ, gIR, gJI, gJR, gJs_eq, gJs_k, gJs_n, gJs_e, gRI, gRJ, gRs_eq, gRs_k, gRs_i, gRs_n, gZI, gZJ, gZR, pI_s, pJ_s, pV_s, pR_s, pR_n, oR_n, oR_s, decide_true, decide_false, not_true_eq_false, not_false_eq_true, decT, decF, Bool.true_eq_false, Bool.false_eq_true, z01, o01, z1f, z1f', zz, oo, b2i_0, b2i_n, b2i_t, b2i_f, Bool.not_true, Bool.not_false]
          exact h1
        · unfold wHeat
          rw [hbs, decF hb]
          simp (disch := omega) only [true_and, and_true, false_and, and_false, beq_t, beq_f, eqN_t, eqN_f, eqL_t, eqL_f, nm1, nm2, nm1', nm2', m1z, m2z, zm1, zm2, m12, m21, lg_cmp_ge, lg_cmp_le, lg_cmp_gt, lg_cmp_lt, lg_cmp_eq, oob, oobL, neg0, negL0, natle_f, or_false, false_or, true_or, or_true, or_self, cl, clL, le_t, le_f, lt_t, lt_f, leL_t, leL_f, ltL_t, ltL_f, leM_t, leM_f, ltM_t, ltM_f, leO_t, leO_f, cond_true, cond_false, Option.bind_some, Option.bind_none, if_false, if_true, nI_1, aL1, aL2, mL1, mL2, nI_add, pk_mul, pk_m1, sL1, dL1, pk_sub, m1p1, gIs_eq, gIs_k, gIs_i, gIs_n, gIs_e, gIJ, gIR, gJI, gJR, gJs_eq, gJs_k, gJs_n, gJs_e, gRI, gRJ, gRs_eq, gRs_k, gRs_i, gRs_n, gZI, gZJ, gZR, pI_s, pJ_s, pV_s, pR_s, pR_n, oR_n, oR_s, decide_true, decide_false, not_true_eq_false, not_false_eq_true, decT, decF, Bool.true_eq_false, Bool.false_eq_true, z01, o01, z1f, z1f', zz, oo, b2i_0, b2i_n, b2i_t, b2i_f, Bool.not_true, Bool.not_false]
        · unfold wPlace
          rw [hbs]
          simp (disch := omega) only [true_and, and_true, false_and, and_false, beq_t, beq_f, eqN_t, eqN_f, eqL_t, eqL_f, nm1, nm2, nm1', nm2', m1z, m2z, zm1, zm2, m12, m21, lg_cmp_ge, lg_cmp_le, lg_cmp_gt, lg_cmp_lt, lg_cmp_eq, oob, oobL, neg0, negL0, natle_f, or_false, false_or, true_or, or_true, or_self, cl, clL, le_t, le_f, lt_t, lt_f, leL_t, leL_f, ltL_t, ltL_f, leM_t, leM_f, ltM_t, ltM_f, leO_t, leO_f, cond_true, cond_false, Option.bind_some, Option.bind_none, if_false, if_true, nI_1, aL1, aL2, mL1, mL2, nI_add, pk_mul, pk_m1, sL1, dL1, pk_sub, m1p1, gIs_eq, gIs_k, gIs_i, gIs_n, gIs_e, gIJ, gIR, gJI, gJR, gJs_eq, gJs_k, gJs_n, gJs_e, gRI, gRJ, gRs_eq, gRs_k, gRs_i, gRs_n, gZI, gZJ, gZR, pI_s, pJ_s, pV_s, pR_s, pR_n, oR_n, oR_s, decide_true, decide_false, not_true_eq_false, not_false_eq_true, decT, decF, Bool.true_eq_false, Bool.false_eq_true, z01, o01, z1f, z1f', zz, oo, b2i_0, b2i_n, b2i_t, b2i_f, Bool.not_true, Bool.not_false]
          exact h3
    simp (disch := omega) only [hb, e_X12_heats_10, q1, q2, q3, true_and, and_true, false_and, and_false, beq_t, beq_f, eqN_t, eqN_f, eqL_t, eqL_f, nm1, nm2, nm1', nm2', m1z, m2z, zm1, zm2, m12, m21, lg_cmp_ge, lg_cmp_le, lg_cmp_gt, lg_cmp_lt, lg_cmp_eq, oob, oobL, neg0, negL0, natle_f, or_false, false_or, true_or, or_true, or_self, cl, clL, le_t, le_f, lt_t, lt_f, leL_t, leL_f, ltL_t, ltL_f, leM_t, leM_f, ltM_t, ltM_f, leO_t, leO_f, cond_true, cond_false, Option.bind_some, Option.bind_none, if_false, if_true, nI_1, aL1, aL2, mL1, mL2, nI_add, pk_mul, pk_m1, sL1, dL1, pk_sub, m1p1, gIs_eq, gIs_k, gIs_i, gIs_n, gIs_e, gIJ, gIR, gJI, gJR, gJs_eq, gJs_k, gJs_n, gJs_e, gRI, gRJ, gRs_eq, gRs_k, gRs_i, gRs_n, gZI, gZJ, gZR, pI_s, pJ_s, pV_s, pR_s, pR_n, oR_n, oR_s, decide_true, decide_false, not_true_eq_false, not_false_eq_true, decT, decF, Bool.true_eq_false, Bool.false_eq_true, z01, o01, z1f, z1f', zz, oo, b2i_0, b2i_n, b2i_t, b2i_f, Bool.not_true, Bool.not_false]
    by_cases hp : s.2.2.2.1 k < 0
    · rw [decT hp] at step
      simp (disch := omega) only [hp, e_X12_heats_35, true_and, and_true, false_and, and_false, beq_t, beq_f, eqN_t, eqN_f, eqL_t, eqL_f, nm1, nm2, nm1', nm2', m1z, m2z, zm1, zm2, m12, m21, lg_cmp_ge, lg_cmp_le, lg_cmp_gt, lg_cmp_lt, lg_cmp_eq, oob, oobL, neg0, negL0, natle_f, or_false, false_or, true_or, or_true, or_self, cl, clL, le_t, le_f, lt_t, lt_f, leL_t, leL_f, ltL_t, ltL_f, leM_t, leM_f, ltM_t, ltM_f, leO_t, leO_f, cond_true, cond_false, Option.bind_some, Option.bind_none, if_false, if_true, nI_1, aL1, aL2, mL1, mL2, nI_add, pk_mul, pk_m1, sL1, dL1, pk_sub, m1p1, gIs_eq, gIs_k, gIs_i, gIs_n, gIs_e, gIJ, gIR, gJI, gJR, gJs_eq, gJs_k, gJs_n, gJs_e, gRI, gRJ, gRs_eq, gRs_k, gRs_i, gRs_n, gZI, gZJ, gZR, pI_s, pJ_s, pV_s, pR_s, pR_n, oR_n, oR_s, decide_true, decide_false, not_true_eq_false, not_false_eq_true, decT, decF, Bool.true_eq_false, Bool.false_eq_true, z01, o01, z1f, z1f', zz, oo, b2i_0, b2i_n, b2i_t, b2i_f, Bool.not_true, Bool.not_false]
      exact step
    · rw [decF hp] at step
      simp (disch := omega) only [hp, e_X12_heats_31, true_and, and_true, false_and, and_false, beq_t, beq_f, eqN_t, eqN_f, eqL_t, eqL_f, nm1, nm2, nm1', nm2', m1z, m2z, zm1, zm2, m12, m21, lg_cmp_ge, lg_cmp_le, lg_cmp_gt, lg_cmp_lt, lg_cmp_eq, oob, oobL, neg0, negL0, natle_f, or_false, false_or, true_or, or_true, or_self, cl, clL, le_t, le_f, lt_t, lt_f, leL_t, leL_f, ltL_t, ltL_f, leM_t, leM_f, ltM_t, ltM_f, leO_t, leO_f, cond_true, cond_false, Option.bind_some, Option.bind_none, if_false, if_true, nI_1, aL1, aL2, mL1, mL2, nI_add, pk_mul, pk_m1, sL1, dL1, pk_sub, m1p1, gIs_eq, gIs_k, gIs_i, gIs_n, gIs_e, gIJ, gIR, gJI, gJR, gJs_eq, gJs_k, gJs_n, gJs_e, gRI, gRJ, gRs_eq, gRs_k, gRs_i, gRs_n, gZI, gZJ, gZR, pI_s, pJ_s, pV_s, pR_s, pR_n, oR_n, oR_s, decide_true, decide_false, not_true_eq_false, not_false_eq_true, decT, decF, Bool.true_eq_false, Bool.false_eq_true, z01, o01, z1f, z1f', zz, oo, b2i_0, b2i_n, b2i_t, b2i_f, Bool.not_true, Bool.not_false]
      exact step
def tellM (d : Dl) (r : Option Rl) (ts : Ar) (mu : Int32) (p : Nat) (s : Sc) : Sc := bif decide (nI p = mu) then s else tellS d r ts p s
theorem SOk.tellsM {d : Dl} (hD : DOk d) {r : Option Rl} {ts : Ar} {mu : Int32} (ht : ∀ p, p < pn d → In 9 (ts p)) {s : Sc} (h : SOk d s) (n : Nat) (hn : n ≤ pn d) : SOk d (itr (tellM d r ts mu) 0 n s) :=
  itr_inv n 0 s (fun j s _ h2 hs => by
    unfold tellM
    cases decide (nI j = mu) with
    | true => exact hs
    | false => exact hs.tell hD (by omega) (ht j (by omega))) h
theorem tellsM_off {d : Dl} (hD : DOk d) {r : Option Rl} {ts : Ar} {s : Sc} : itr (tellM d r ts (-1)) 0 (pn d) s = tellsS d r ts s :=
  itr_congr _ _ _ (fun j s _ h2 => by
    have h5 := hD.2.1.2
    unfold tellM
    rw [decF (fun q => by rw [nm1 (by omega)] at q; exact q)]
    rfl)
theorem upd_same (f : Ar) (k : Nat) : upd f k (f k) = f := by
  funext j
  by_cases h : j = k
  · rw [h, pk_us]
  · rw [pk_un h]
theorem wd_other {d : Dl} {ts ts' : Ar} {s : Sc} {p : Nat} (h : ts p = ts' p) : wdS d ts s p = wdS d ts' s p := by
  funext c
  unfold wdS
  rw [h]
theorem told_other {d : Dl} {r : Option Rl} {ts ts' : Ar} {s : Sc} {p : Nat} (h : ts p = ts' p) : toldS d r ts s p = toldS d r ts' s p := by
  unfold toldS
  rw [wd_other h]
theorem tell_other {d : Dl} {r : Option Rl} {ts ts' : Ar} {s : Sc} {p : Nat} (h : ts p = ts' p) : tellS d r ts p s = tellS d r ts' p s := by
  unfold tellS
  rw [told_other h, h]
theorem tell_0 {d : Dl} (hD : DOk d) {r : Option Rl} {ts : Ar} {s : Sc} (hS : SOk d s) {p : Nat} (hp : p < pn d) (h : ts p = 0) : tellS d r ts p s = s := by
  unfold tellS
  cases decide (s.2.2.2.1 (own d p) = -1) && toldS d r ts s p with
  | false => rfl
  | true =>
    have h6 := hD.1.2
    obtain ⟨_, o2, _⟩ := hD.2.2.2.1 p hp
    obtain ⟨a, b, ha, hb, e1, e2⟩ := (hS (own d p) (by omega)).2.2.2.2.2 o2
    show setF s (own d p) (fillS (d.2.1 (own d p)) (s.2.1 (own d p) + ts p)) = s
    rw [h, Int32.add_zero]
    have : fillS (d.2.1 (own d p)) (s.2.1 (own d p)) = s.2.1 (own d p) := by
      rw [e1, e2, fill_nI (by omega) (by omega), Nat.min_eq_right ha]
    rw [this]
    unfold setF
    rw [upd_same]
theorem tellsM_on {d : Dl} (hD : DOk d) {r : Option Rl} {ts : Ar} (ht : ∀ p, p < pn d → In 9 (ts p)) {s : Sc} (hS : SOk d s) {q : Nat} (hq : q < pn d) : itr (tellM d r ts (nI q)) 0 (pn d) s = tellsS d r (upd ts q 0) s := by
  have h5 := hD.2.1.2
  have key : ∀ n, n ≤ pn d → itr (tellM d r ts (nI q)) 0 n s = itr (tellS d r (upd ts q 0)) 0 n s := by
    intro n
    induction n with
    | zero => intro _; rfl
    | succ n ih =>
      intro hn
      rw [itr_succ, itr_succ, Nat.zero_add, ih (by omega)]
      have hSn := hS.tells hD (r := r) (ts := upd ts q 0) (fun p hp => by
        by_cases h : p = q
        · rw [h, pk_us]; exact ⟨0, by omega, rfl⟩
        · rw [pk_un h]; exact ht p hp) n (by omega)
      unfold tellM
      by_cases h : n = q
      · rw [decT (by rw [h])]
        exact (tell_0 hD hSn (by omega) (by rw [h, pk_us])).symm
      · rw [decF (fun z => h ((nI_eq (by omega) (by omega)).mp z))]
        exact tell_other (pk_un h).symm
  exact key (pn d) (Nat.le_refl _)
/-- who is silent, and what all tell then -/
def Mu (d : Dl) (ts : Ar) (mu : Int32) (ts' : Ar) : Prop := (mu = -1 ∧ ts' = ts) ∨ ∃ q, q < pn d ∧ mu = nI q ∧ ts' = upd ts q 0
theorem tellsM_mu {d : Dl} (hD : DOk d) {r : Option Rl} {ts ts' : Ar} {mu : Int32} (ht : ∀ p, p < pn d → In 9 (ts p)) {s : Sc} (hS : SOk d s) (h : Mu d ts mu ts') : itr (tellM d r ts mu) 0 (pn d) s = tellsS d r ts' s := by
  rcases h with ⟨rfl, rfl⟩ | ⟨q, hq, rfl, rfl⟩
  · exact tellsM_off hD
  · exact tellsM_on hD ht hS hq
def PMn (κ _j k : Nat) : Prop := (κ = 50 ∧ 10 ≤ k ∧ k < 35) ∨ κ = 48 ∨ κ = 49 ∨ κ = 51 ∨ (κ = 11 ∧ k = 18)
theorem p_X12_passes (d : Dl) (hD : DOk d) (r : Option Rl) (ts ts' : Ar) (mu : Int32) (s : Sc) (hS : SOk d s) (ht : ∀ p, p < pn d → In 9 (ts p)) (hmu : Mu d ts mu ts') (w : XW) (hd : MdAt w d) (hts : MtAt w ts) (hs : MsAt w s) (hf : FoAt w r) (hm : gI w 11 0 23 = mu) :
    ∃ w', F_X12_passes [.inr (11, 0)] w = some (bitsS d r ts' s, w') ∧ MsAt w' (nightS d r ts' s) ∧ Fr PMn w w' := by
  have h6 := hD.1.2
  have h5 := hD.2.1.2
  have ec : ∀ v, Fr PMn w v → MdAt v d ∧ MtAt v ts ∧ FoAt v r ∧ gI v 11 0 23 = mu := fun v hF =>
    ⟨hd.fr hF (fun k q => by unfold PMn; omega), hts.fr hF (fun k q => by unfold PMn; omega), hf.fr hF (fun κ k q => by unfold PMn; omega), by rw [(hF 11 0 23 (by unfold PMn; omega)).1]; exact hm⟩
  obtain ⟨w2, a1, a2, a3⟩ := loop0 (pn d) (fun k v => q_X12_passes_2 (nI k) v) (fun v => q_X12_passes_72 v) (fun k v => Fr PMn w v ∧ MsAt v (itr (tellM d r ts mu) 0 k s)) (s := w) ⟨Fr.refl _ _, hs⟩ (fun k v hk hi => by
      obtain ⟨b1, b2⟩ := hi
      obtain ⟨c1, c2, c3, c4⟩ := ec v b1
      have hSv := hS.tellsM hD ht k (r := r) (mu := mu) (by omega)
      rw [itr_succ, Nat.zero_add]
      generalize itr (tellM d r ts mu) 0 k s = s' at b2 hSv ⊢
      obtain ⟨o1, o2, _⟩ := hD.2.2.2.1 k hk
      have g1 : gI v 50 0 4 = nI (pn d) := by rw [c1.1 4 (by omega)]; exact hD.2.1.1
      have g2 : gI v 50 0 3 = nI (kn d) := by rw [c1.1 3 (by omega)]; exact hD.1.1
      have g3 : gI v 50 0 (47 + k) = nI (own d k) := by rw [c1.2.2.1 k (by omega)]; exact o1
      have g4 := p_X12_isHome o2 h6 v g2
      rw [(b2.2 (own d k) (by omega)).2.2.1] at g4
      have skip : tellM d r ts mu k s' = s' → ∀ u, Fr PMn w u → MsAt u s' → ∃ x, q_X12_passes_66 (nI k) u = q_X12_passes_2 (nI (k + 1)) x ∧ Fr PMn w x ∧ MsAt x (tellM d r ts mu k s') := fun et u hFu hsu => by
        rw [et, e_X12_passes_66, nI_1]
        exact ⟨u, rfl, hFu, hsu⟩
      rw [e_X12_passes_2]
      simp (disch := omega) only [g1, e_X12_passes_12, c4, true_and, and_true, false_and, and_false, beq_t, beq_f, eqN_t, eqN_f, eqL_t, eqL_f, nm1, nm2, nm1', nm2', m1z, m2z, zm1, zm2, m12, m21, lg_cmp_ge, lg_cmp_le, lg_cmp_gt, lg_cmp_lt, lg_cmp_eq, oob, oobL, neg0, negL0, natle_f, or_false, false_or, true_or, or_true, or_self, cl, clL, le_t, le_f, lt_t, lt_f, leL_t, leL_f, ltL_t, ltL_f, leM_t, leM_f, ltM_t, ltM_f, leO_t, leO_f, cond_true, cond_false, Option.bind_some, Option.bind_none, if_false, if_true, nI_1, aL1, aL2, mL1, mL2, nI_add, pk_mul, pk_m1, sL1, dL1, pk_sub, m1p1, gIs_eq, gIs_k, gIs_i, gIs_n, gIs_e, gIJ, gIR, gJI, gJR, gJs_eq, gJs_k, gJs_n, gJs_e, gRI, gRJ, gRs_eq, gRs_k, gRs_i, gRs_n, gZI, gZJ, gZR, pI_s, pJ_s, pV_s, pR_s, pR_n, oR_n, oR_s, decide_true, decide_false, not_true_eq_false, not_false_eq_true, decT, decF, Bool.true_eq_false, Bool.false_eq_true, z01, o01, z1f, z1f', zz, oo, b2i_0, b2i_n, b2i_t, b2i_f, Bool.not_true, Bool.not_false]
      by_cases hq : nI k = mu
      · simp (disch := omega) only [hq, true_and, and_true, false_and, and_false, beq_t, beq_f, eqN_t, eqN_f, eqL_t, eqL_f, nm1, nm2, nm1', nm2', m1z, m2z, zm1, zm2, m12, m21, lg_cmp_ge, lg_cmp_le, lg_cmp_gt, lg_cmp_lt, lg_cmp_eq, oob, oobL, neg0, negL0, natle_f, or_false, false_or, true_or, or_true, or_self, cl, clL, le_t, le_f, lt_t, lt_f, leL_t, leL_f, ltL_t, ltL_f, leM_t, leM_f, ltM_t, ltM_f, leO_t, leO_f, cond_true, cond_false, Option.bind_some, Option.bind_none, if_false, if_true, nI_1, aL1, aL2, mL1, mL2, nI_add, pk_mul, pk_m1, sL1, dL1, pk_sub, m1p1, gIs_eq, gIs_k, gIs_i, gIs_n, gIs_e, gIJ, gIR, gJI, gJR, gJs_eq, gJs_k, gJs_n, gJs_e, gRI, gRJ, gRs_eq, gRs_k, gRs_i, gRs_n, gZI, gZJ, gZR, pI_s, pJ_s, pV_s, pR_s, pR_n, oR_n, oR_s, decide_true, decide_false, not_true_eq_false, not_false_eq_true, decT, decF, Bool.true_eq_false, Bool.false_eq_true, z01, o01, z1f, z1f', zz, oo, b2i_0, b2i_n, b2i_t, b2i_f, Bool.not_true, Bool.not_false]
        rw [← hq]
        rw [← hq] at skip
        refine skip ?_ v b1 b2
        unfold tellM
        rw [decT rfl]
        rfl
      · have et : tellM d r ts mu k s' = tellS d r ts k s' := by
          unfold tellM
          rw [decF hq]
          rfl
        simp (disch := omega) only [hq, e_X12_passes_20, g3, g4, true_and, and_true, false_and, and_false, beq_t, beq_f, eqN_t, eqN_f, eqL_t, eqL_f, nm1, nm2, nm1', nm2', m1z, m2z, zm1, zm2, m12, m21, lg_cmp_ge, lg_cmp_le, lg_cmp_gt, lg_cmp_lt, lg_cmp_eq, oob, oobL, neg0, negL0, natle_f, or_false, false_or, true_or, or_true, or_self, cl, clL, le_t, le_f, lt_t, lt_f, leL_t, leL_f, ltL_t, ltL_f, leM_t, leM_f, ltM_t, ltM_f, leO_t, leO_f, cond_true, cond_false, Option.bind_some, Option.bind_none, if_false, if_true, nI_1, aL1, aL2, mL1, mL2, nI_add, pk_mul, pk_m1, sL1, dL1, pk_sub, m1p1, gIs_eq, gIs_k, gIs_i, gIs_n, gIs_e, gIJ, gIR, gJI, gJR, gJs_eq, gJs_k, gJs_n, gJs_e, gRI, gRJ, gRs_eq, gRs_k, gRs_i, gRs_n, gZI, gZJ, gZR, pI_s, pJ_s, pV_s, pR_s, pR_n, oR_n, oR_s, decide_true, decide_false, not_true_eq_false, not_false_eq_true, decT, decF, Bool.true_eq_false, Bool.false_eq_true, z01, o01, z1f, z1f', zz, oo, b2i_0, b2i_n, b2i_t, b2i_f, Bool.not_true, Bool.not_false]
        by_cases hp : s'.2.2.2.1 (own d k) = -1
        · obtain ⟨u, x1, x2⟩ := p_X12_isTold d hD r ts s' hSv k hk v c1 c2 b2 c3
          have hFu : Fr PMn w u := b1.trans (x2.mono (fun κ i k q => by unfold PT at q; unfold  PMn; omega))
          have hsu := b2.fr x2 (fun k q => by unfold PT; omega)
          simp (disch := omega) only [hp, e_X12_passes_36, x1, true_and, and_true, false_and, and_false, beq_t, beq_f, eqN_t, eqN_f, eqL_t, eqL_f, nm1, nm2, nm1', nm2', m1z, m2z, zm1, zm2, m12, m21, lg_cmp_ge, lg_cmp_le, lg_cmp_gt, lg_cmp_lt, lg_cmp_eq, oob, oobL, neg0, negL0, natle_f, or_false, false_or, true_or, or_true, or_self, cl, clL, le_t, le_f, lt_t, lt_f, leL_t, leL_f, ltL_t, ltL_f, leM_t, leM_f, ltM_t, ltM_f, leO_t, leO_f, cond_true, cond_false, Option.bind_some, Option.bind_none, if_false, if_true, nI_1, aL1, aL2, mL1, mL2, nI_add, pk_mul, pk_m1, sL1, dL1, pk_sub, m1p1, gIs_eq, gIs_k, gIs_i, gIs_n, gIs_e, gIJ, gIR, gJI, gJR, gJs_eq, gJs_k, gJs_n, gJs_e, gRI, gRJ, gRs_eq, gRs_k, gRs_i, gRs_n, gZI, gZJ, gZR, pI_s, pJ_s, pV_s, pR_s, pR_n, oR_n, oR_s, decide_true, decide_false, not_true_eq_false, not_false_eq_true, decT, decF, Bool.true_eq_false, Bool.false_eq_true, z01, o01, z1f, z1f', zz, oo, b2i_0, b2i_n, b2i_t, b2i_f, Bool.not_true, Bool.not_false]
          cases htl : toldS d r ts s' k with
          | false =>
            simp (disch := omega) only [true_and, and_true, false_and, and_false, beq_t, beq_f, eqN_t, eqN_f, eqL_t, eqL_f, nm1, nm2, nm1', nm2', m1z, m2z, zm1, zm2, m12, m21, lg_cmp_ge, lg_cmp_le, lg_cmp_gt, lg_cmp_lt, lg_cmp_eq, oob, oobL, neg0, negL0, natle_f, or_false, false_or, true_or, or_true, or_self, cl, clL, le_t, le_f, lt_t, lt_f, leL_t, leL_f, ltL_t, ltL_f, leM_t, leM_f, ltM_t, ltM_f, leO_t, leO_f, cond_true, cond_false, Option.bind_some, Option.bind_none, if_false, if_true, nI_1, aL1, aL2, mL1, mL2, nI_add, pk_mul, pk_m1, sL1, dL1, pk_sub, m1p1, gIs_eq, gIs_k, gIs_i, gIs_n, gIs_e, gIJ, gIR, gJI, gJR, gJs_eq, gJs_k, gJs_n, gJs_e, gRI, gRJ, gRs_eq, gRs_k, gRs_i, gRs_n, gZI, gZJ, gZR, pI_s, pJ_s, pV_s, pR_s, pR_n, oR_n, oR_s, decide_true, decide_false, not_true_eq_false, not_false_eq_true, decT, decF, Bool.true_eq_false, Bool.false_eq_true, z01, o01, z1f, z1f', zz, oo, b2i_0, b2i_n, b2i_t, b2i_f, Bool.not_true, Bool.not_false]
            refine skip ?_ u hFu hsu
            rw [et]
            unfold tellS
            rw [htl, Bool.and_false]
            rfl
          | true =>
            obtain ⟨d1, d2, d3, d4⟩ := ec u hFu
            have y1 : gI u 50 0 (47 + k) = nI (own d k) := by rw [d1.2.2.1 k (by omega)]; exact o1
            have y2 := d2 k (by omega)
            have y3 := p_X12_fills (own d k) (by omega) (ts k) u
            rw [(hsu.2 (own d k) (by omega)).1, (d1.2.1 (own d k) (by omega)).1] at y3
            simp (disch := omega) only [e_X12_passes_44, y1, y2, y3, e_X12_passes_66, true_and, and_true, false_and, and_false, beq_t, beq_f, eqN_t, eqN_f, eqL_t, eqL_f, nm1, nm2, nm1', nm2', m1z, m2z, zm1, zm2, m12, m21, lg_cmp_ge, lg_cmp_le, lg_cmp_gt, lg_cmp_lt, lg_cmp_eq, oob, oobL, neg0, negL0, natle_f, or_false, false_or, true_or, or_true, or_self, cl, clL, le_t, le_f, lt_t, lt_f, leL_t, leL_f, ltL_t, ltL_f, leM_t, leM_f, ltM_t, ltM_f, leO_t, leO_f, cond_true, cond_false, Option.bind_some, Option.bind_none, if_false, if_true, nI_1, aL1, aL2, mL1, mL2, nI_add, pk_mul, pk_m1, sL1, dL1, pk_sub, m1p1, gIs_eq, gIs_k, gIs_i, gIs_n, gIs_e, gIJ, gIR, gJI, gJR, gJs_eq, gJs_k, gJs_n, gJs_e, gRI, gRJ, gRs_eq, gRs_k, gRs_i, gRs_n, gZI, gZJ, gZR, pI_s, pJ_s, pV_s, pR_s, pR_n, oR_n, oR_s, decide_true, decide_false, not_true_eq_false, not_false_eq_true, decT, decF, Bool.true_eq_false, Bool.false_eq_true, z01, o01, z1f, z1f', zz, oo, b2i_0, b2i_n, b2i_t, b2i_f, Bool.not_true, Bool.not_false]
            refine ⟨_, rfl, by (repeat' (first | exact hFu | exact Fr.refl _ _ | refine Fr.sI ?_ ?_ | refine Fr.sR ?_ ?_ | refine Fr.sJ ?_ ?_ | (unfold PMn; omega))), ?_⟩
            have et2 : tellS d r ts k s' = setF s' (own d k) (fillS (d.2.1 (own d k)) (s'.2.1 (own d k) + ts k)) := by
              unfold tellS
              rw [decT hp, htl]
              rfl
            rw [et, et2]
            refine ⟨?_, fun k' hk' => ?_⟩
            · simp (disch := omega) only [true_and, and_true, false_and, and_false, beq_t, beq_f, eqN_t, eqN_f, eqL_t, eqL_f, nm1, nm2, nm1', nm2', m1z, m2z, zm1, zm2, m12, m21, lg_cmp_ge, lg_cmp_le, lg_cmp_gt, lg_cmp_lt, lg_cmp_eq, oob, oobL, neg0, negL0, natle_f, or_false, false_or, true_or, or_true, or_self, cl, clL, le_t, le_f, lt_t, lt_f, leL_t, leL_f, ltL_t, ltL_f, leM_t, leM_f, ltM_t, ltM_f, leO_t, leO_f, cond_true, cond_false, Option.bind_some, Option.bind_none, if_false, if_true, nI_1, aL1, aL2, mL1, mL2, nI_add, pk_mul, pk_m1, sL1, dL1, pk_sub, m1p1, gIs_eq, gIs_k, gIs_i, gIs_n, gIs_e, gIJ, gIR, gJI, gJR, gJs_eq, gJs_k, gJs_n, gJs_e, gRI, gRJ, gRs_eq, gRs_k, gRs_i, gRs_n, gZI, gZJ, gZR, pI_s, pJ_s, pV_s, pR_s, pR_n, oR_n, oR_s, decide_true, decide_false, not_true_eq_false, not_false_eq_true, decT, decF, Bool.true_eq_false, Bool.false_eq_true, z01, o01, z1f, z1f', zz, oo, b2i_0, b2i_n, b2i_t, b2i_f, Bool.not_true, Bool.not_false]
              exact hsu.1
            · show _ = upd s'.2.1 (own d k) _ k' ∧ _
              by_cases q : k' = own d k
              · subst q
                rw [pk_us]
                simp (disch := omega) only [true_and, and_true, false_and, and_false, beq_t, beq_f, eqN_t, eqN_f, eqL_t, eqL_f, nm1, nm2, nm1', nm2', m1z, m2z, zm1, zm2, m12, m21, lg_cmp_ge, lg_cmp_le, lg_cmp_gt, lg_cmp_lt, lg_cmp_eq, oob, oobL, neg0, negL0, natle_f, or_false, false_or, true_or, or_true, or_self, cl, clL, le_t, le_f, lt_t, lt_f, leL_t, leL_f, ltL_t, ltL_f, leM_t, leM_f, ltM_t, ltM_f, leO_t, leO_f, cond_true, cond_false, Option.bind_some, Option.bind_none, if_false, if_true, nI_1, aL1, aL2, mL1, mL2, nI_add, pk_mul, pk_m1, sL1, dL1, pk_sub, m1p1, gIs_eq, gIs_k, gIs_i, gIs_n, gIs_e, gIJ, gIR, gJI, gJR, gJs_eq, gJs_k, gJs_n, gJs_e, gRI, gRJ, gRs_eq, gRs_k, gRs_i, gRs_n, gZI, gZJ, gZR, pI_s, pJ_s, pV_s, pR_s, pR_n, oR_n, oR_s, decide_true, decide_false, not_true_eq_false, not_false_eq_true, decT, decF, Bool.true_eq_false, Bool.false_eq_true, z01, o01, z1f, z1f', zz, oo, b2i_0, b2i_n, b2i_t, b2i_f, Bool.not_true, Bool.not_false]
                exact (hsu.2 (own d k) hk').2
              · rw [pk_un q]
                simp (disch := omega) only [true_and, and_true, false_and, and_false, beq_t, beq_f, eqN_t, eqN_f, eqL_t, eqL_f, nm1, nm2, nm1', nm2', m1z, m2z, zm1, zm2, m12, m21, lg_cmp_ge, lg_cmp_le, lg_cmp_gt, lg_cmp_lt, lg_cmp_eq, oob, oobL, neg0, negL0, natle_f, or_false, false_or, true_or, or_true, or_self, cl, clL, le_t, le_f, lt_t, lt_f, leL_t, leL_f, ltL_t, ltL_f, leM_t, leM_f, ltM_t, ltM_f, leO_t, leO_f, cond_true, cond_false, Option.bind_some, Option.bind_none, if_false, if_true, nI_1, aL1, aL2, mL1, mL2, nI_add, pk_mul, pk_m1, sL1, dL1, pk_sub, m1p1, gIs_eq, gIs_k, gIs_i, gIs_n, gIs_e, gIJ, gIR, gJI, gJR, gJs_eq, gJs_k, gJs_n, gJs_e, gRI, gRJ, gRs_eq, gRs_k, gRs_i, gRs_n, gZI, gZJ, gZR, pI_s, pJ_s, pV_s, pR_s, pR_n, oR_n, oR_s, decide_true, decide_false, not_true_eq_false, not_false_eq_true, decT, decF, Bool.true_eq_false, Bool.false_eq_true, z01, o01, z1f, z1f', zz, oo, b2i_0, b2i_n, b2i_t, b2i_f, Bool.not_true, Bool.not_false]
                exact hsu.2 k' hk'
        · simp (disch := omega) only [hp, true_and, and_true, false_and, and_false, beq_t, beq_f, eqN_t, eqN_f, eqL_t, eqL_f, nm1, nm2, nm1', nm2', m1z, m2z, zm1, zm2, m12, m21, lg_cmp_ge, lg_cmp_le, lg_cmp_gt, lg_cmp_lt, lg_cmp_eq, oob, oobL, neg0, negL0, natle_f, or_false, false_or, true_or, or_true, or_self, cl, clL, le_t, le_f, lt_t, lt_f, leL_t, leL_f, ltL_t, ltL_f, leM_t, leM_f, ltM_t, ltM_f, leO_t, leO_f, cond_true, cond_false, Option.bind_some, Option.bind_none, if_false, if_true, nI_1, aL1, aL2, mL1, mL2, nI_add, pk_mul, pk_m1, sL1, dL1, pk_sub, m1p1, gIs_eq, gIs_k, gIs_i, gIs_n, gIs_e, gIJ, gIR, gJI, gJR, gJs_eq, gJs_k, gJs_n, gJs_e, gRI, gRJ, gRs_eq, gRs_k, gRs_i, gRs_n, gZI, gZJ, gZR, pI_s, pJ_s, pV_s, pR_s, pR_n, oR_n, oR_s, decide_true, decide_false, not_true_eq_false, not_false_eq_true, decT, decF, Bool.true_eq_false, Bool.false_eq_true, z01, o01, z1f, z1f', zz, oo, b2i_0, b2i_n, b2i_t, b2i_f, Bool.not_true, Bool.not_false]
          refine skip ?_ v b1 b2
          rw [et]
          unfold tellS
          rw [decF hp]
          rfl) (fun v hi => by
      obtain ⟨c1, c2, c3, c4⟩ := ec v hi.1
      have g1 : gI v 50 0 4 = nI (pn d) := by rw [c1.1 4 (by omega)]; exact hD.2.1.1
      ((try dsimp only); rw [e_X12_passes_2]; simp (disch := omega) only [g1, true_and, and_true, false_and, and_false, beq_t, beq_f, eqN_t, eqN_f, eqL_t, eqL_f, nm1, nm2, nm1', nm2', m1z, m2z, zm1, zm2, m12, m21, lg_cmp_ge, lg_cmp_le, lg_cmp_gt, lg_cmp_lt, lg_cmp_eq, oob, oobL, neg0, negL0, natle_f, or_false, false_or, true_or, or_true, or_self, cl, clL, le_t, le_f, lt_t, lt_f, leL_t, leL_f, ltL_t, ltL_f, leM_t, leM_f, ltM_t, ltM_f, leO_t, leO_f, cond_true, cond_false, Option.bind_some, Option.bind_none, if_false, if_true, nI_1, aL1, aL2, mL1, mL2, nI_add, pk_mul, pk_m1, sL1, dL1, pk_sub, m1p1, gIs_eq, gIs_k, gIs_i, gIs_n, gIs_e, gIJ, gIR, gJI, gJR, gJs_eq, gJs_k, gJs_n, gJs_e, gRI, gRJ, gRs_eq, gRs_k, gRs_i, gRs_n, gZI, gZJ, gZR, pI_s, pJ_s, pV_s, pR_s, pR_n, oR_n, oR_s, decide_true, decide_false, not_true_eq_false, not_false_eq_true, decT, decF, Bool.true_eq_false, Bool.false_eq_true, z01, o01, z1f, z1f', zz, oo, b2i_0, b2i_n, b2i_t, b2i_f, Bool.not_true, Bool.not_false]))
  rw [tellsM_mu hD ht hS hmu] at a3
  have ht' : ∀ p, p < pn d → In 9 (ts' p) := by
    rcases hmu with ⟨_, rfl⟩ | ⟨q, hq, _, rfl⟩
    · exact ht
    · intro p hp
      by_cases h : p = q
      · rw [h, pk_us]; exact ⟨0, by omega, rfl⟩
      · rw [pk_un h]; exact ht p hp
  have hSt : SOk d (tellsS d r ts' s) := hS.tells hD ht' _ (Nat.le_refl _)
  obtain ⟨w3, b1, b2, b3⟩ := p_X12_overhears d hD (tellsS d r ts' s) hSt w2 (ec w2 a2).1 a3
  have f3 : Fr PMn w w3 := a2.trans (b3.mono (fun κ i k q => by unfold PO at q; unfold  PMn; omega))
  have b2 : MsAt w3 (evenS d r ts' s) := b2
  obtain ⟨set, w4, c1, c2, c3, c4⟩ := loopA (kn d) (fun k b v => q_X12_passes_80 b (nI k) v) (fun b v => q_X12_passes_114 b v) (fun k b v => Fr PMn w v ∧ b = bts (burnS d (evenS d r ts' s)) k ∧ MsAt v (warmN k d (evenS d r ts' s))) (a := 0) (s := w3) ⟨f3, rfl, by
      unfold warmN
      rw [onN_0, onN_0, onN_0]
      exact b2⟩ (fun k b v hk hi => by
      obtain ⟨x1, x2, x3⟩ := hi
      obtain ⟨y1, y2, y3, y4⟩ := ec v x1
      have g2 : gI v 50 0 3 = nI (kn d) := by rw [y1.1 3 (by omega)]; exact hD.1.1
      obtain ⟨z1, z2, z3, z4⟩ := x3.2 k (by omega)
      obtain ⟨u, u1, u2, u3, u4, u5⟩ := p_X12_heats d hD (evenS d r ts' s) k hk v y1 (z1.trans onN_hd) (z2.trans onN_hd) (z3.trans onN_hd)
      have hbt : bts (burnS d (evenS d r ts' s)) (k + 1) = b ||| (if burnS d (evenS d r ts' s) k = true then ((1 : Int32) <<< (nI k &&& 31)) else 0) := by
        rw [x2]
        unfold bts
        rw [itr_succ, Nat.zero_add]
        cases burnS d (evenS d r ts' s) k with
        | true => rfl
        | false => exact (or0 _).symm
      have fin : ∀ x, ∃ b' v', q_X12_passes_106 (nI k) b x u = q_X12_passes_80 b' (nI (k + 1)) v' ∧ Fr PMn w v' ∧ b' = b ||| x ∧ MsAt v' (warmN (k + 1) d (evenS d r ts' s)) := fun x => by
        refine ⟨_, u, ?_, x1.trans (u5.mono (fun κ i k q => by unfold PH at q; unfold PMn; omega)), rfl, ?_, fun k' hk' => ?_⟩
        · rw [e_X12_passes_106, nI_1]
        · rw [(u5 50 0 10 (by unfold PH; omega)).1]
          exact x3.1
        · show _ = onN (k + 1) (evenS d r ts' s).2.1 (wFull d (evenS d r ts' s)) k' ∧ _ = onN (k + 1) (evenS d r ts' s).2.2.1 (wHeat d (evenS d r ts' s)) k' ∧ _ = onN (k + 1) (evenS d r ts' s).2.2.2.1 (wPlace d (evenS d r ts' s)) k' ∧ _
          by_cases q : k' = k
          · subst q
            rw [onN_at, onN_at, onN_at]
            refine ⟨u2, u3, u4, ?_⟩
            rw [(u5 50 0 (11 + 4 * k' + 3) (by unfold PH; omega)).1]
            exact z4
          · rw [onN_ne q, onN_ne q, onN_ne q, (u5 50 0 (11 + 4 * k') (by unfold PH; omega)).1, (u5 50 0 (11 + 4 * k' + 1) (by unfold PH; omega)).1, (u5 50 0 (11 + 4 * k' + 2) (by unfold PH; omega)).1, (u5 50 0 (11 + 4 * k' + 3) (by unfold PH; omega)).1]
            exact x3.2 k' hk'
      rw [e_X12_passes_80]
      simp (disch := omega) only [g2, e_X12_passes_90, u1, true_and, and_true, false_and, and_false, beq_t, beq_f, eqN_t, eqN_f, eqL_t, eqL_f, nm1, nm2, nm1', nm2', m1z, m2z, zm1, zm2, m12, m21, lg_cmp_ge, lg_cmp_le, lg_cmp_gt, lg_cmp_lt, lg_cmp_eq, oob, oobL, neg0, negL0, natle_f, or_false, false_or, true_or, or_true, or_self, cl, clL, le_t, le_f, lt_t, lt_f, leL_t, leL_f, ltL_t, ltL_f, leM_t, leM_f, ltM_t, ltM_f, leO_t, leO_f, cond_true, cond_false, Option.bind_some, Option.bind_none, if_false, if_true, nI_1, aL1, aL2, mL1, mL2, nI_add, pk_mul, pk_m1, sL1, dL1, pk_sub, m1p1, gIs_eq, gIs_k, gIs_i, gIs_n, gIs_e, gIJ, gIR, gJI, gJR, gJs_eq, gJs_k, gJs_n, gJs_e, gRI, gRJ, gRs_eq, gRs_k, gRs_i, gRs_n, gZI, gZJ, gZR, pI_s, pJ_s, pV_s, pR_s, pR_n, oR_n, oR_s, decide_true, decide_false, not_true_eq_false, not_false_eq_true, decT, decF, Bool.true_eq_false, Bool.false_eq_true, z01, o01, z1f, z1f', zz, oo, b2i_0, b2i_n, b2i_t, b2i_f, Bool.not_true, Bool.not_false]
      rw [hbt]
      cases hb : burnS d (evenS d r ts' s) k with
      | true =>
        simp (disch := omega) only [e_X12_passes_99, true_and, and_true, false_and, and_false, beq_t, beq_f, eqN_t, eqN_f, eqL_t, eqL_f, nm1, nm2, nm1', nm2', m1z, m2z, zm1, zm2, m12, m21, lg_cmp_ge, lg_cmp_le, lg_cmp_gt, lg_cmp_lt, lg_cmp_eq, oob, oobL, neg0, negL0, natle_f, or_false, false_or, true_or, or_true, or_self, cl, clL, le_t, le_f, lt_t, lt_f, leL_t, leL_f, ltL_t, ltL_f, leM_t, leM_f, ltM_t, ltM_f, leO_t, leO_f, cond_true, cond_false, Option.bind_some, Option.bind_none, if_false, if_true, nI_1, aL1, aL2, mL1, mL2, nI_add, pk_mul, pk_m1, sL1, dL1, pk_sub, m1p1, gIs_eq, gIs_k, gIs_i, gIs_n, gIs_e, gIJ, gIR, gJI, gJR, gJs_eq, gJs_k, gJs_n, gJs_e, gRI, gRJ, gRs_eq, gRs_k, gRs_i, gRs_n, gZI, gZJ, gZR, pI_s, pJ_s, pV_s, pR_s, pR_n, oR_n, oR_s, decide_true, decide_false, not_true_eq_false, not_false_eq_true, decT, decF, Bool.true_eq_false, Bool.false_eq_true, z01, o01, z1f, z1f', zz, oo, b2i_0, b2i_n, b2i_t, b2i_f, Bool.not_true, Bool.not_false]
        exact fin _
      | false =>
        simp (disch := omega) only [e_X12_passes_105, true_and, and_true, false_and, and_false, beq_t, beq_f, eqN_t, eqN_f, eqL_t, eqL_f, nm1, nm2, nm1', nm2', m1z, m2z, zm1, zm2, m12, m21, lg_cmp_ge, lg_cmp_le, lg_cmp_gt, lg_cmp_lt, lg_cmp_eq, oob, oobL, neg0, negL0, natle_f, or_false, false_or, true_or, or_true, or_self, cl, clL, le_t, le_f, lt_t, lt_f, leL_t, leL_f, ltL_t, ltL_f, leM_t, leM_f, ltM_t, ltM_f, leO_t, leO_f, cond_true, cond_false, Option.bind_some, Option.bind_none, if_false, if_true, nI_1, aL1, aL2, mL1, mL2, nI_add, pk_mul, pk_m1, sL1, dL1, pk_sub, m1p1, gIs_eq, gIs_k, gIs_i, gIs_n, gIs_e, gIJ, gIR, gJI, gJR, gJs_eq, gJs_k, gJs_n, gJs_e, gRI, gRJ, gRs_eq, gRs_k, gRs_i, gRs_n, gZI, gZJ, gZR, pI_s, pJ_s, pV_s, pR_s, pR_n, oR_n, oR_s, decide_true, decide_false, not_true_eq_false, not_false_eq_true, decT, decF, Bool.true_eq_false, Bool.false_eq_true, z01, o01, z1f, z1f', zz, oo, b2i_0, b2i_n, b2i_t, b2i_f, Bool.not_true, Bool.not_false]
        exact fin _) (fun b v hi => by
      obtain ⟨y1, y2, y3, y4⟩ := ec v hi.1
      have g2 : gI v 50 0 3 = nI (kn d) := by rw [y1.1 3 (by omega)]; exact hD.1.1
      ((try dsimp only); rw [e_X12_passes_80]; simp (disch := omega) only [g2, true_and, and_true, false_and, and_false, beq_t, beq_f, eqN_t, eqN_f, eqL_t, eqL_f, nm1, nm2, nm1', nm2', m1z, m2z, zm1, zm2, m12, m21, lg_cmp_ge, lg_cmp_le, lg_cmp_gt, lg_cmp_lt, lg_cmp_eq, oob, oobL, neg0, negL0, natle_f, or_false, false_or, true_or, or_true, or_self, cl, clL, le_t, le_f, lt_t, lt_f, leL_t, leL_f, ltL_t, ltL_f, leM_t, leM_f, ltM_t, ltM_f, leO_t, leO_f, cond_true, cond_false, Option.bind_some, Option.bind_none, if_false, if_true, nI_1, aL1, aL2, mL1, mL2, nI_add, pk_mul, pk_m1, sL1, dL1, pk_sub, m1p1, gIs_eq, gIs_k, gIs_i, gIs_n, gIs_e, gIJ, gIR, gJI, gJR, gJs_eq, gJs_k, gJs_n, gJs_e, gRI, gRJ, gRs_eq, gRs_k, gRs_i, gRs_n, gZI, gZJ, gZR, pI_s, pJ_s, pV_s, pR_s, pR_n, oR_n, oR_s, decide_true, decide_false, not_true_eq_false, not_false_eq_true, decT, decF, Bool.true_eq_false, Bool.false_eq_true, z01, o01, z1f, z1f', zz, oo, b2i_0, b2i_n, b2i_t, b2i_f, Bool.not_true, Bool.not_false]))
  refine ⟨sI w4 50 0 10 ((gI w4 50 0 10) + 1), ?_, ⟨?_, fun k hk => ?_⟩, by (repeat' (first | exact c2 | exact Fr.refl _ _ | refine Fr.sI ?_ ?_ | refine Fr.sR ?_ ?_ | refine Fr.sJ ?_ ?_ | (unfold PMn; omega)))⟩
  · rw [nI_0] at a1 c1
    rw [f_X12_passes, e_X12_passes_0, a1, e_X12_passes_72, b1]
    simp (disch := omega) only [c1, e_X12_passes_114, true_and, and_true, false_and, and_false, beq_t, beq_f, eqN_t, eqN_f, eqL_t, eqL_f, nm1, nm2, nm1', nm2', m1z, m2z, zm1, zm2, m12, m21, lg_cmp_ge, lg_cmp_le, lg_cmp_gt, lg_cmp_lt, lg_cmp_eq, oob, oobL, neg0, negL0, natle_f, or_false, false_or, true_or, or_true, or_self, cl, clL, le_t, le_f, lt_t, lt_f, leL_t, leL_f, ltL_t, ltL_f, leM_t, leM_f, ltM_t, ltM_f, leO_t, leO_f, cond_true, cond_false, Option.bind_some, Option.bind_none, if_false, if_true, nI_1, aL1, aL2, mL1, mL2, nI_add, pk_mul, pk_m1, sL1, dL1, pk_sub, m1p1, gIs_eq, gIs_k, gIs_i, gIs_n, gIs_e, gIJ, gIR, gJI, gJR, gJs_eq, gJs_k, gJs_n, gJs_e, gRI, gRJ, gRs_eq, gRs_k, gRs_i, gRs_n, gZI, gZJ, gZR, pI_s, pJ_s, pV_s, pR_s, pR_n, oR_n, oR_s, decide_true, decide_false, not_true_eq_false, not_false_eq_true, decT, decF, Bool.true_eq_false, Bool.false_eq_true, z01, o01, z1f, z1f', zz, oo, b2i_0, b2i_n, b2i_t, b2i_f, Bool.not_true, Bool.not_false]
    rw [c3]
    rfl
  · simp (disch := omega) only [true_and, and_true, false_and, and_false, beq_t, beq_f, eqN_t, eqN_f, eqL_t, eqL_f, nm1, nm2, nm1', nm2', m1z, m2z, zm1, zm2, m12, m21, lg_cmp_ge, lg_cmp_le, lg_cmp_gt, lg_cmp_lt, lg_cmp_eq, oob, oobL, neg0, negL0, natle_f, or_false, false_or, true_or, or_true, or_self, cl, clL, le_t, le_f, lt_t, lt_f, leL_t, leL_f, ltL_t, ltL_f, leM_t, leM_f, ltM_t, ltM_f, leO_t, leO_f, cond_true, cond_false, Option.bind_some, Option.bind_none, if_false, if_true, nI_1, aL1, aL2, mL1, mL2, nI_add, pk_mul, pk_m1, sL1, dL1, pk_sub, m1p1, gIs_eq, gIs_k, gIs_i, gIs_n, gIs_e, gIJ, gIR, gJI, gJR, gJs_eq, gJs_k, gJs_n, gJs_e, gRI, gRJ, gRs_eq, gRs_k, gRs_i, gRs_n, gZI, gZJ, gZR, pI_s, pJ_s, pV_s, pR_s, pR_n, oR_n, oR_s, decide_true, decide_false, not_true_eq_false, not_false_eq_true, decT, decF, Bool.true_eq_false, Bool.false_eq_true, z01, o01, z1f, z1f', zz, oo, b2i_0, b2i_n, b2i_t, b2i_f, Bool.not_true, Bool.not_false]
    rw [c4.1]
    rfl
  · simp (disch := omega) only [true_and, and_true, false_and, and_false, beq_t, beq_f, eqN_t, eqN_f, eqL_t, eqL_f, nm1, nm2, nm1', nm2', m1z, m2z, zm1, zm2, m12, m21, lg_cmp_ge, lg_cmp_le, lg_cmp_gt, lg_cmp_lt, lg_cmp_eq, oob, oobL, neg0, negL0, natle_f, or_false, false_or, true_or, or_true, or_self, cl, clL, le_t, le_f, lt_t, lt_f, leL_t, leL_f, ltL_t, ltL_f, leM_t, leM_f, ltM_t, ltM_f, leO_t, leO_f, cond_true, cond_false, Option.bind_some, Option.bind_none, if_false, if_true, nI_1, aL1, aL2, mL1, mL2, nI_add, pk_mul, pk_m1, sL1, dL1, pk_sub, m1p1, gIs_eq, gIs_k, gIs_i, gIs_n, gIs_e, gIJ, gIR, gJI, gJR, gJs_eq, gJs_k, gJs_n, gJs_e, gRI, gRJ, gRs_eq, gRs_k, gRs_i, gRs_n, gZI, gZJ, gZR, pI_s, pJ_s, pV_s, pR_s, pR_n, oR_n, oR_s, decide_true, decide_false, not_true_eq_false, not_false_eq_true, decT, decF, Bool.true_eq_false, Bool.false_eq_true, z01, o01, z1f, z1f', zz, oo, b2i_0, b2i_n, b2i_t, b2i_f, Bool.not_true, Bool.not_false]
    exact c4.2 k hk
/-- n nights -/
def nightsS (d : Dl) (r : Option Rl) (ts : Ar) (n : Nat) (s : Sc) : Sc := itr (fun _ s => nightS d r ts s) 0 n s
theorem nights_succ {d : Dl} {r : Option Rl} {ts : Ar} {n : Nat} {s : Sc} : nightsS d r ts (n + 1) s = nightS d r ts (nightsS d r ts n s) := itr_succ _ _ _ _
theorem SOk.nights {d : Dl} (hD : DOk d) {r : Option Rl} {ts : Ar} (ht : ∀ p, p < pn d → In 9 (ts p)) {s : Sc} (h : SOk d s) (n : Nat) : SOk d (nightsS d r ts n s) := itr_inv n 0 s (fun _ s _ _ hs => hs.night hD ht) h
theorem Mu.ok {d : Dl} {ts ts' : Ar} {mu : Int32} (hmu : Mu d ts mu ts') (ht : ∀ p, p < pn d → In 9 (ts p)) : ∀ p, p < pn d → In 9 (ts' p) := by
  rcases hmu with ⟨_, rfl⟩ | ⟨q, hq, _, rfl⟩
  · exact ht
  · intro p hp
    by_cases h : p = q
    · rw [h, pk_us]; exact ⟨0, by omega, rfl⟩
    · rw [pk_un h]; exact ht p hp
theorem p_X12_passesAll (d : Dl) (hD : DOk d) (r : Option Rl) (ts ts' : Ar) (mu : Int32) (s : Sc) (hS : SOk d s) (ht : ∀ p, p < pn d → In 9 (ts p)) (hmu : Mu d ts mu ts') (n : Nat) (hn : n ≤ 100) (w : XW) (hd : MdAt w d) (hts : MtAt w ts) (hs : MsAt w s) (hf : FoAt w r) (hm : gI w 11 0 23 = mu) :
    ∃ w', F_X12_passesAll [.inr (11, 0), .inl (.int (nI n))] w = some w' ∧ MsAt w' (nightsS d r ts' n s) ∧ Fr PMn w w' := by
  obtain ⟨w2, a1, a2, a3⟩ := loop0 n (fun k v => q_X12_passesAll_2 (nI n) (nI k) v) (fun v => some (none, v)) (fun k v => Fr PMn w v ∧ MsAt v (nightsS d r ts' k s)) (s := w) ⟨Fr.refl _ _, hs⟩ (fun k v hk hi => by
      obtain ⟨b1, b2⟩ := hi
      obtain ⟨u, u1, u2, u3⟩ := p_X12_passes d hD r ts ts' mu _ (hS.nights hD (hmu.ok ht) k) ht hmu v (hd.fr b1 (fun k q => by unfold PMn; omega)) (hts.fr b1 (fun k q => by unfold PMn; omega)) b2 (hf.fr b1 (fun κ k q => by unfold PMn; omega)) (by rw [(b1 11 0 23 (by unfold PMn; omega)).1]; exact hm)
      refine ⟨u, ?_, b1.trans u3, by rw [nights_succ]; exact u2⟩
      ((try dsimp only); rw [e_X12_passesAll_2]; simp (disch := omega) only [e_X12_passesAll_7, u1, true_and, and_true, false_and, and_false, beq_t, beq_f, eqN_t, eqN_f, eqL_t, eqL_f, nm1, nm2, nm1', nm2', m1z, m2z, zm1, zm2, m12, m21, lg_cmp_ge, lg_cmp_le, lg_cmp_gt, lg_cmp_lt, lg_cmp_eq, oob, oobL, neg0, negL0, natle_f, or_false, false_or, true_or, or_true, or_self, cl, clL, le_t, le_f, lt_t, lt_f, leL_t, leL_f, ltL_t, ltL_f, leM_t, leM_f, ltM_t, ltM_f, leO_t, leO_f, cond_true, cond_false, Option.bind_some, Option.bind_none, if_false, if_true, nI_1, aL1, aL2, mL1, mL2, nI_add, pk_mul, pk_m1, sL1, dL1, pk_sub, m1p1, gIs_eq, gIs_k, gIs_i, gIs_n, gIs_e, gIJ, gIR, gJI, gJR, gJs_eq, gJs_k, gJs_n, gJs_e, gRI, gRJ, gRs_eq, gRs_k, gRs_i, gRs_n, gZI, gZJ, gZR, pI_s, pJ_s, pV_s, pR_s, pR_n, oR_n, oR_s, decide_true, decide_false, not_true_eq_false, not_false_eq_true, decT, decF, Bool.true_eq_false, Bool.false_eq_true, z01, o01, z1f, z1f', zz, oo, b2i_0, b2i_n, b2i_t, b2i_f, Bool.not_true, Bool.not_false])) (fun v hi => by ((try dsimp only); rw [e_X12_passesAll_2]; simp (disch := omega) only [e_X12_passesAll_18, true_and, and_true, false_and, and_false, beq_t, beq_f, eqN_t, eqN_f, eqL_t, eqL_f, nm1, nm2, nm1', nm2', m1z, m2z, zm1, zm2, m12, m21, lg_cmp_ge, lg_cmp_le, lg_cmp_gt, lg_cmp_lt, lg_cmp_eq, oob, oobL, neg0, negL0, natle_f, or_false, false_or, true_or, or_true, or_self, cl, clL, le_t, le_f, lt_t, lt_f, leL_t, leL_f, ltL_t, ltL_f, leM_t, leM_f, ltM_t, ltM_f, leO_t, leO_f, cond_true, cond_false, Option.bind_some, Option.bind_none, if_false, if_true, nI_1, aL1, aL2, mL1, mL2, nI_add, pk_mul, pk_m1, sL1, dL1, pk_sub, m1p1, gIs_eq, gIs_k, gIs_i, gIs_n, gIs_e, gIJ, gIR, gJI, gJR, gJs_eq, gJs_k, gJs_n, gJs_e, gRI, gRJ, gRs_eq, gRs_k, gRs_i, gRs_n, gZI, gZJ, gZR, pI_s, pJ_s, pV_s, pR_s, pR_n, oR_n, oR_s, decide_true, decide_false, not_true_eq_false, not_false_eq_true, decT, decF, Bool.true_eq_false, Bool.false_eq_true, z01, o01, z1f, z1f', zz, oo, b2i_0, b2i_n, b2i_t, b2i_f, Bool.not_true, Bool.not_false]))
  refine ⟨w2, ?_, a3, a2⟩
  rw [nI_0] at a1
  rw [f_X12_passesAll, e_X12_passesAll_0, a1]
  rfl
def P53 (κ _j _k : Nat) : Prop := κ = 53
def P50s (κ _j k : Nat) : Prop := κ = 50 ∧ 10 ≤ k ∧ k < 35
theorem p_X12_keeps (w : XW) : ∃ w', F_X12_keeps [.inr (11, 0)] w = some w' ∧ (∀ k, k < 25 → gI w' 53 0 k = gI w 50 0 (10 + k)) ∧ Fr P53 w w' := by
  obtain ⟨w2, a1, a2, a3⟩ := loop0 25 (fun k v => q_X12_keeps_2 (nI k) v) (fun v => some (none, v)) (fun k v => Fr P53 w v ∧ ∀ k', k' < k → gI v 53 0 k' = gI w 50 0 (10 + k')) (s := w) ⟨Fr.refl _ _, fun k' hk => absurd hk (by omega)⟩ (fun k v hk hi => by
      obtain ⟨b1, b2⟩ := hi
      have g := (b1 50 0 (10 + k) (by unfold P53; omega)).1
      ((try dsimp only); rw [e_X12_keeps_2]; simp (disch := omega) only [e_X12_keeps_8, g, true_and, and_true, false_and, and_false, beq_t, beq_f, eqN_t, eqN_f, eqL_t, eqL_f, nm1, nm2, nm1', nm2', m1z, m2z, zm1, zm2, m12, m21, lg_cmp_ge, lg_cmp_le, lg_cmp_gt, lg_cmp_lt, lg_cmp_eq, oob, oobL, neg0, negL0, natle_f, or_false, false_or, true_or, or_true, or_self, cl, clL, le_t, le_f, lt_t, lt_f, leL_t, leL_f, ltL_t, ltL_f, leM_t, leM_f, ltM_t, ltM_f, leO_t, leO_f, cond_true, cond_false, Option.bind_some, Option.bind_none, if_false, if_true, nI_1, aL1, aL2, mL1, mL2, nI_add, pk_mul, pk_m1, sL1, dL1, pk_sub, m1p1, gIs_eq, gIs_k, gIs_i, gIs_n, gIs_e, gIJ, gIR, gJI, gJR, gJs_eq, gJs_k, gJs_n, gJs_e, gRI, gRJ, gRs_eq, gRs_k, gRs_i, gRs_n, gZI, gZJ, gZR, pI_s, pJ_s, pV_s, pR_s, pR_n, oR_n, oR_s, decide_true, decide_false, not_true_eq_false, not_false_eq_true, decT, decF, Bool.true_eq_false, Bool.false_eq_true, z01, o01, z1f, z1f', zz, oo, b2i_0, b2i_n, b2i_t, b2i_f, Bool.not_true, Bool.not_false])
      refine ⟨_, rfl, by (repeat' (first | exact b1 | exact Fr.refl _ _ | refine Fr.sI ?_ ?_ | refine Fr.sR ?_ ?_ | refine Fr.sJ ?_ ?_ | (unfold P53; omega))), fun k' hk' => ?_⟩
      by_cases q : k' = k
      · subst q; simp (disch := omega) only [true_and, and_true, false_and, and_false, beq_t, beq_f, eqN_t, eqN_f, eqL_t, eqL_f, nm1, nm2, nm1', nm2', m1z, m2z, zm1, zm2, m12, m21, lg_cmp_ge, lg_cmp_le, lg_cmp_gt, lg_cmp_lt, lg_cmp_eq, oob, oobL, neg0, negL0, natle_f, or_false, false_or, true_or, or_true, or_self, cl, clL, le_t, le_f, lt_t, lt_f, leL_t, leL_f, ltL_t, ltL_f, leM_t, leM_f, ltM_t, ltM_f, leO_t, leO_f, cond_true, cond_false, Option.bind_some, Option.bind_none, if_false, if_true, nI_1, aL1, aL2, mL1, mL2, nI_add, pk_mul, pk_m1, sL1, dL1, pk_sub, m1p1, gIs_eq, gIs_k, gIs_i, gIs_n, gIs_e, gIJ, gIR, gJI, gJR, gJs_eq, gJs_k, gJs_n, gJs_e, gRI, gRJ, gRs_eq, gRs_k, gRs_i, gRs_n, gZI, gZJ, gZR, pI_s, pJ_s, pV_s, pR_s, pR_n, oR_n, oR_s, decide_true, decide_false, not_true_eq_false, not_false_eq_true, decT, decF, Bool.true_eq_false, Bool.false_eq_true, z01, o01, z1f, z1f', zz, oo, b2i_0, b2i_n, b2i_t, b2i_f, Bool.not_true, Bool.not_false]
      · simp (disch := omega) only [true_and, and_true, false_and, and_false, beq_t, beq_f, eqN_t, eqN_f, eqL_t, eqL_f, nm1, nm2, nm1', nm2', m1z, m2z, zm1, zm2, m12, m21, lg_cmp_ge, lg_cmp_le, lg_cmp_gt, lg_cmp_lt, lg_cmp_eq, oob, oobL, neg0, negL0, natle_f, or_false, false_or, true_or, or_true, or_self, cl, clL, le_t, le_f, lt_t, lt_f, leL_t, leL_f, ltL_t, ltL_f, leM_t, leM_f, ltM_t, ltM_f, leO_t, leO_f, cond_true, cond_false, Option.bind_some, Option.bind_none, if_false, if_true, nI_1, aL1, aL2, mL1, mL2, nI_add, pk_mul, pk_m1, sL1, dL1, pk_sub, m1p1, gIs_eq, gIs_k, gIs_i, gIs_n, gIs_e, gIJ, gIR, gJI, gJR, gJs_eq, gJs_k, gJs_n, gJs_e, gRI, gRJ, gRs_eq, gRs_k, gRs_i, gRs_n, gZI, gZJ, gZR, pI_s, pJ_s, pV_s, pR_s, pR_n, oR_n, oR_s, decide_true, decide_false, not_true_eq_false, not_false_eq_true, decT, decF, Bool.true_eq_false, Bool.false_eq_true, z01, o01, z1f, z1f', zz, oo, b2i_0, b2i_n, b2i_t, b2i_f, Bool.not_true, Bool.not_false]
        exact b2 k' (by omega)) (fun v hi => by ((try dsimp only); rw [e_X12_keeps_2]; simp (disch := omega) only [e_X12_keeps_29, true_and, and_true, false_and, and_false, beq_t, beq_f, eqN_t, eqN_f, eqL_t, eqL_f, nm1, nm2, nm1', nm2', m1z, m2z, zm1, zm2, m12, m21, lg_cmp_ge, lg_cmp_le, lg_cmp_gt, lg_cmp_lt, lg_cmp_eq, oob, oobL, neg0, negL0, natle_f, or_false, false_or, true_or, or_true, or_self, cl, clL, le_t, le_f, lt_t, lt_f, leL_t, leL_f, ltL_t, ltL_f, leM_t, leM_f, ltM_t, ltM_f, leO_t, leO_f, cond_true, cond_false, Option.bind_some, Option.bind_none, if_false, if_true, nI_1, aL1, aL2, mL1, mL2, nI_add, pk_mul, pk_m1, sL1, dL1, pk_sub, m1p1, gIs_eq, gIs_k, gIs_i, gIs_n, gIs_e, gIJ, gIR, gJI, gJR, gJs_eq, gJs_k, gJs_n, gJs_e, gRI, gRJ, gRs_eq, gRs_k, gRs_i, gRs_n, gZI, gZJ, gZR, pI_s, pJ_s, pV_s, pR_s, pR_n, oR_n, oR_s, decide_true, decide_false, not_true_eq_false, not_false_eq_true, decT, decF, Bool.true_eq_false, Bool.false_eq_true, z01, o01, z1f, z1f', zz, oo, b2i_0, b2i_n, b2i_t, b2i_f, Bool.not_true, Bool.not_false]))
  refine ⟨w2, ?_, a3, a2⟩
  rw [nI_0] at a1
  rw [f_X12_keeps, e_X12_keeps_0, a1]
  rfl
theorem p_X12_laysBack (w : XW) : ∃ w', F_X12_laysBack [.inr (11, 0)] w = some w' ∧ (∀ k, k < 25 → gI w' 50 0 (10 + k) = gI w 53 0 k) ∧ Fr P50s w w' := by
  obtain ⟨w2, a1, a2, a3⟩ := loop0 25 (fun k v => q_X12_laysBack_2 (nI k) v) (fun v => some (none, v)) (fun k v => Fr P50s w v ∧ ∀ k', k' < k → gI v 50 0 (10 + k') = gI w 53 0 k') (s := w) ⟨Fr.refl _ _, fun k' hk => absurd hk (by omega)⟩ (fun k v hk hi => by
      obtain ⟨b1, b2⟩ := hi
      have g := (b1 53 0 k (by unfold P50s; omega)).1
      ((try dsimp only); rw [e_X12_laysBack_2]; simp (disch := omega) only [e_X12_laysBack_8, g, true_and, and_true, false_and, and_false, beq_t, beq_f, eqN_t, eqN_f, eqL_t, eqL_f, nm1, nm2, nm1', nm2', m1z, m2z, zm1, zm2, m12, m21, lg_cmp_ge, lg_cmp_le, lg_cmp_gt, lg_cmp_lt, lg_cmp_eq, oob, oobL, neg0, negL0, natle_f, or_false, false_or, true_or, or_true, or_self, cl, clL, le_t, le_f, lt_t, lt_f, leL_t, leL_f, ltL_t, ltL_f, leM_t, leM_f, ltM_t, ltM_f, leO_t, leO_f, cond_true, cond_false, Option.bind_some, Option.bind_none, if_false, if_true, nI_1, aL1, aL2, mL1, mL2, nI_add, pk_mul, pk_m1, sL1, dL1, pk_sub, m1p1, gIs_eq, gIs_k, gIs_i, gIs_n, gIs_e, gIJ, gIR, gJI, gJR, gJs_eq, gJs_k, gJs_n, gJs_e, gRI, gRJ, gRs_eq, gRs_k, gRs_i, gRs_n, gZI, gZJ, gZR, pI_s, pJ_s, pV_s, pR_s, pR_n, oR_n, oR_s, decide_true, decide_false, not_true_eq_false, not_false_eq_true, decT, decF, Bool.true_eq_false, Bool.false_eq_true, z01, o01, z1f, z1f', zz, oo, b2i_0, b2i_n, b2i_t, b2i_f, Bool.not_true, Bool.not_false])
      refine ⟨_, rfl, by (repeat' (first | exact b1 | exact Fr.refl _ _ | refine Fr.sI ?_ ?_ | refine Fr.sR ?_ ?_ | refine Fr.sJ ?_ ?_ | (unfold P50s; omega))), fun k' hk' => ?_⟩
      by_cases q : k' = k
      · subst q; simp (disch := omega) only [true_and, and_true, false_and, and_false, beq_t, beq_f, eqN_t, eqN_f, eqL_t, eqL_f, nm1, nm2, nm1', nm2', m1z, m2z, zm1, zm2, m12, m21, lg_cmp_ge, lg_cmp_le, lg_cmp_gt, lg_cmp_lt, lg_cmp_eq, oob, oobL, neg0, negL0, natle_f, or_false, false_or, true_or, or_true, or_self, cl, clL, le_t, le_f, lt_t, lt_f, leL_t, leL_f, ltL_t, ltL_f, leM_t, leM_f, ltM_t, ltM_f, leO_t, leO_f, cond_true, cond_false, Option.bind_some, Option.bind_none, if_false, if_true, nI_1, aL1, aL2, mL1, mL2, nI_add, pk_mul, pk_m1, sL1, dL1, pk_sub, m1p1, gIs_eq, gIs_k, gIs_i, gIs_n, gIs_e, gIJ, gIR, gJI, gJR, gJs_eq, gJs_k, gJs_n, gJs_e, gRI, gRJ, gRs_eq, gRs_k, gRs_i, gRs_n, gZI, gZJ, gZR, pI_s, pJ_s, pV_s, pR_s, pR_n, oR_n, oR_s, decide_true, decide_false, not_true_eq_false, not_false_eq_true, decT, decF, Bool.true_eq_false, Bool.false_eq_true, z01, o01, z1f, z1f', zz, oo, b2i_0, b2i_n, b2i_t, b2i_f, Bool.not_true, Bool.not_false]
      · simp (disch := omega) only [true_and, and_true, false_and, and_false, beq_t, beq_f, eqN_t, eqN_f, eqL_t, eqL_f, nm1, nm2, nm1', nm2', m1z, m2z, zm1, zm2, m12, m21, lg_cmp_ge, lg_cmp_le, lg_cmp_gt, lg_cmp_lt, lg_cmp_eq, oob, oobL, neg0, negL0, natle_f, or_false, false_or, true_or, or_true, or_self, cl, clL, le_t, le_f, lt_t, lt_f, leL_t, leL_f, ltL_t, ltL_f, leM_t, leM_f, ltM_t, ltM_f, leO_t, leO_f, cond_true, cond_false, Option.bind_some, Option.bind_none, if_false, if_true, nI_1, aL1, aL2, mL1, mL2, nI_add, pk_mul, pk_m1, sL1, dL1, pk_sub, m1p1, gIs_eq, gIs_k, gIs_i, gIs_n, gIs_e, gIJ, gIR, gJI, gJR, gJs_eq, gJs_k, gJs_n, gJs_e, gRI, gRJ, gRs_eq, gRs_k, gRs_i, gRs_n, gZI, gZJ, gZR, pI_s, pJ_s, pV_s, pR_s, pR_n, oR_n, oR_s, decide_true, decide_false, not_true_eq_false, not_false_eq_true, decT, decF, Bool.true_eq_false, Bool.false_eq_true, z01, o01, z1f, z1f', zz, oo, b2i_0, b2i_n, b2i_t, b2i_f, Bool.not_true, Bool.not_false]
        exact b2 k' (by omega)) (fun v hi => by ((try dsimp only); rw [e_X12_laysBack_2]; simp (disch := omega) only [e_X12_laysBack_29, true_and, and_true, false_and, and_false, beq_t, beq_f, eqN_t, eqN_f, eqL_t, eqL_f, nm1, nm2, nm1', nm2', m1z, m2z, zm1, zm2, m12, m21, lg_cmp_ge, lg_cmp_le, lg_cmp_gt, lg_cmp_lt, lg_cmp_eq, oob, oobL, neg0, negL0, natle_f, or_false, false_or, true_or, or_true, or_self, cl, clL, le_t, le_f, lt_t, lt_f, leL_t, leL_f, ltL_t, ltL_f, leM_t, leM_f, ltM_t, ltM_f, leO_t, leO_f, cond_true, cond_false, Option.bind_some, Option.bind_none, if_false, if_true, nI_1, aL1, aL2, mL1, mL2, nI_add, pk_mul, pk_m1, sL1, dL1, pk_sub, m1p1, gIs_eq, gIs_k, gIs_i, gIs_n, gIs_e, gIJ, gIR, gJI, gJR, gJs_eq, gJs_k, gJs_n, gJs_e, gRI, gRJ, gRs_eq, gRs_k, gRs_i, gRs_n, gZI, gZJ, gZR, pI_s, pJ_s, pV_s, pR_s, pR_n, oR_n, oR_s, decide_true, decide_false, not_true_eq_false, not_false_eq_true, decT, decF, Bool.true_eq_false, Bool.false_eq_true, z01, o01, z1f, z1f', zz, oo, b2i_0, b2i_n, b2i_t, b2i_f, Bool.not_true, Bool.not_false]))
  refine ⟨w2, ?_, a3, a2⟩
  rw [nI_0] at a1
  rw [f_X12_laysBack, e_X12_laysBack_0, a1]
  rfl
theorem p_X12_begins (w : XW) (d : Dl) (hd : MdAt w d) : ∃ w', F_X12_begins [.inr (11, 0)] w = some w' ∧ MsAt w' (beginS d) ∧ Fr P50s w w' := by
  obtain ⟨w2, a1, a2, a3, a4⟩ := loop0 6 (fun k v => q_X12_begins_10 (nI k) v) (fun v => some (none, v)) (fun k v => Fr P50s w v ∧ gI v 50 0 10 = 0 ∧ ∀ k', k' < k → gI v 50 0 (11 + 4 * k') = 0 ∧ gI v 50 0 (11 + 4 * k' + 1) = 0 ∧ gI v 50 0 (11 + 4 * k' + 2) = -1 ∧ gI v 50 0 (11 + 4 * k' + 3) = d.2.2.2.1 k') (s := sI w 50 0 10 0) ⟨by (repeat' (first | exact hd | exact Fr.refl _ _ | refine Fr.sI ?_ ?_ | refine Fr.sR ?_ ?_ | refine Fr.sJ ?_ ?_ | (unfold P50s; omega))), gIs_eq, fun k' hk => absurd hk (by omega)⟩ (fun k v hk hi => by
      obtain ⟨b1, b2, b3⟩ := hi
      have g : gI v 50 0 (61 + k) = d.2.2.2.1 k := by rw [(b1 50 0 (61 + k) (by unfold P50s; omega)).1]; exact (hd.2.1 k hk).2.2
      ((try dsimp only); rw [e_X12_begins_10]; simp (disch := omega) only [e_X12_begins_16, g, true_and, and_true, false_and, and_false, beq_t, beq_f, eqN_t, eqN_f, eqL_t, eqL_f, nm1, nm2, nm1', nm2', m1z, m2z, zm1, zm2, m12, m21, lg_cmp_ge, lg_cmp_le, lg_cmp_gt, lg_cmp_lt, lg_cmp_eq, oob, oobL, neg0, negL0, natle_f, or_false, false_or, true_or, or_true, or_self, cl, clL, le_t, le_f, lt_t, lt_f, leL_t, leL_f, ltL_t, ltL_f, leM_t, leM_f, ltM_t, ltM_f, leO_t, leO_f, cond_true, cond_false, Option.bind_some, Option.bind_none, if_false, if_true, nI_1, aL1, aL2, mL1, mL2, nI_add, pk_mul, pk_m1, sL1, dL1, pk_sub, m1p1, gIs_eq, gIs_k, gIs_i, gIs_n, gIs_e, gIJ, gIR, gJI, gJR, gJs_eq, gJs_k, gJs_n, gJs_e, gRI, gRJ, gRs_eq, gRs_k, gRs_i, gRs_n, gZI, gZJ, gZR, pI_s, pJ_s, pV_s, pR_s, pR_n, oR_n, oR_s, decide_true, decide_false, not_true_eq_false, not_false_eq_true, decT, decF, Bool.true_eq_false, Bool.false_eq_true, z01, o01, z1f, z1f', zz, oo, b2i_0, b2i_n, b2i_t, b2i_f, Bool.not_true, Bool.not_false])
      refine ⟨_, rfl, by (repeat' (first | exact b1 | exact Fr.refl _ _ | refine Fr.sI ?_ ?_ | refine Fr.sR ?_ ?_ | refine Fr.sJ ?_ ?_ | (unfold P50s; omega))), by simp (disch := omega) only [b2, true_and, and_true, false_and, and_false, beq_t, beq_f, eqN_t, eqN_f, eqL_t, eqL_f, nm1, nm2, nm1', nm2', m1z, m2z, zm1, zm2, m12, m21, lg_cmp_ge, lg_cmp_le, lg_cmp_gt, lg_cmp_lt, lg_cmp_eq, oob, oobL, neg0, negL0, natle_f, or_false, false_or, true_or, or_true, or_self, cl, clL, le_t, le_f, lt_t, lt_f, leL_t, leL_f, ltL_t, ltL_f, leM_t, leM_f, ltM_t, ltM_f, leO_t, leO_f, cond_true, cond_false, Option.bind_some, Option.bind_none, if_false, if_true, nI_1, aL1, aL2, mL1, mL2, nI_add, pk_mul, pk_m1, sL1, dL1, pk_sub, m1p1, gIs_eq, gIs_k, gIs_i, gIs_n, gIs_e, gIJ, gIR, gJI, gJR, gJs_eq, gJs_k, gJs_n, gJs_e, gRI, gRJ, gRs_eq, gRs_k, gRs_i, gRs_n, gZI, gZJ, gZR, pI_s, pJ_s, pV_s, pR_s, pR_n, oR_n, oR_s, decide_true, decide_false, not_true_eq_false, not_false_eq_true, decT, decF, Bool.true_eq_false, Bool.false_eq_true, z01, o01, z1f, z1f', zz, oo, b2i_0, b2i_n, b2i_t, b2i_f, Bool.not_true, Bool.not_false], fun k' hk' => ?_⟩
      by_cases q : k' = k
      · subst q; simp (disch := omega) only [true_and, and_true, false_and, and_false, beq_t, beq_f, eqN_t, eqN_f, eqL_t, eqL_f, nm1, nm2, nm1', nm2', m1z, m2z, zm1, zm2, m12, m21, lg_cmp_ge, lg_cmp_le, lg_cmp_gt, lg_cmp_lt, lg_cmp_eq, oob, oobL, neg0, negL0, natle_f, or_false, false_or, true_or, or_true, or_self, cl, clL, le_t, le_f, lt_t, lt_f, leL_t, leL_f, ltL_t, ltL_f, leM_t, leM_f, ltM_t, ltM_f, leO_t, leO_f, cond_true, cond_false, Option.bind_some, Option.bind_none, if_false, if_true, nI_1, aL1, aL2, mL1, mL2, nI_add, pk_mul, pk_m1, sL1, dL1, pk_sub, m1p1, gIs_eq, gIs_k, gIs_i, gIs_n, gIs_e, gIJ, gIR, gJI, gJR, gJs_eq, gJs_k, gJs_n, gJs_e, gRI, gRJ, gRs_eq, gRs_k, gRs_i, gRs_n, gZI, gZJ, gZR, pI_s, pJ_s, pV_s, pR_s, pR_n, oR_n, oR_s, decide_true, decide_false, not_true_eq_false, not_false_eq_true, decT, decF, Bool.true_eq_false, Bool.false_eq_true, z01, o01, z1f, z1f', zz, oo, b2i_0, b2i_n, b2i_t, b2i_f, Bool.not_true, Bool.not_false]
      · simp (disch := omega) only [true_and, and_true, false_and, and_false, beq_t, beq_f, eqN_t, eqN_f, eqL_t, eqL_f, nm1, nm2, nm1', nm2', m1z, m2z, zm1, zm2, m12, m21, lg_cmp_ge, lg_cmp_le, lg_cmp_gt, lg_cmp_lt, lg_cmp_eq, oob, oobL, neg0, negL0, natle_f, or_false, false_or, true_or, or_true, or_self, cl, clL, le_t, le_f, lt_t, lt_f, leL_t, leL_f, ltL_t, ltL_f, leM_t, leM_f, ltM_t, ltM_f, leO_t, leO_f, cond_true, cond_false, Option.bind_some, Option.bind_none, if_false, if_true, nI_1, aL1, aL2, mL1, mL2, nI_add, pk_mul, pk_m1, sL1, dL1, pk_sub, m1p1, gIs_eq, gIs_k, gIs_i, gIs_n, gIs_e, gIJ, gIR, gJI, gJR, gJs_eq, gJs_k, gJs_n, gJs_e, gRI, gRJ, gRs_eq, gRs_k, gRs_i, gRs_n, gZI, gZJ, gZR, pI_s, pJ_s, pV_s, pR_s, pR_n, oR_n, oR_s, decide_true, decide_false, not_true_eq_false, not_false_eq_true, decT, decF, Bool.true_eq_false, Bool.false_eq_true, z01, o01, z1f, z1f', zz, oo, b2i_0, b2i_n, b2i_t, b2i_f, Bool.not_true, Bool.not_false]
        exact b3 k' (by omega)) (fun v hi => by ((try dsimp only); rw [e_X12_begins_10]; simp (disch := omega) only [e_X12_begins_71, true_and, and_true, false_and, and_false, beq_t, beq_f, eqN_t, eqN_f, eqL_t, eqL_f, nm1, nm2, nm1', nm2', m1z, m2z, zm1, zm2, m12, m21, lg_cmp_ge, lg_cmp_le, lg_cmp_gt, lg_cmp_lt, lg_cmp_eq, oob, oobL, neg0, negL0, natle_f, or_false, false_or, true_or, or_true, or_self, cl, clL, le_t, le_f, lt_t, lt_f, leL_t, leL_f, ltL_t, ltL_f, leM_t, leM_f, ltM_t, ltM_f, leO_t, leO_f, cond_true, cond_false, Option.bind_some, Option.bind_none, if_false, if_true, nI_1, aL1, aL2, mL1, mL2, nI_add, pk_mul, pk_m1, sL1, dL1, pk_sub, m1p1, gIs_eq, gIs_k, gIs_i, gIs_n, gIs_e, gIJ, gIR, gJI, gJR, gJs_eq, gJs_k, gJs_n, gJs_e, gRI, gRJ, gRs_eq, gRs_k, gRs_i, gRs_n, gZI, gZJ, gZR, pI_s, pJ_s, pV_s, pR_s, pR_n, oR_n, oR_s, decide_true, decide_false, not_true_eq_false, not_false_eq_true, decT, decF, Bool.true_eq_false, Bool.false_eq_true, z01, o01, z1f, z1f', zz, oo, b2i_0, b2i_n, b2i_t, b2i_f, Bool.not_true, Bool.not_false]))
  refine ⟨w2, ?_, ⟨a3, a4⟩, a2⟩
  rw [nI_0] at a1
  rw [f_X12_begins, e_X12_begins_0, a1]
  rfl
