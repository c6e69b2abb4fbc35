/-! ===== the model: a clause of a dale, all of it ===== -/
theorem fd0 (x : List Nat) : fdW (lW 0) x = if x = kDale then some 0 else if x = kKeep then some 1 else if x = kPerson then some 2 else if x = kField then some 3 else if x = kBeside then some 4 else none := by
  show (if x = kDale then some 0 else (if x = kKeep then some 0 else (if x = kPerson then some 0 else (if x = kField then some 0 else (if x = kBeside then some 0 else (none : Option Nat).map (· + 1)).map (· + 1)).map (· + 1)).map (· + 1)).map (· + 1)) = _
  by_cases h1 : x = kDale
  · rw [if_pos h1, if_pos h1]
  · rw [if_neg h1, if_neg h1]
    by_cases h2 : x = kKeep
    · rw [if_pos h2, if_pos h2]; rfl
    · rw [if_neg h2, if_neg h2]
      by_cases h3 : x = kPerson
      · rw [if_pos h3, if_pos h3]; rfl
      · rw [if_neg h3, if_neg h3]
        by_cases h4 : x = kField
        · rw [if_pos h4, if_pos h4]; rfl
        · rw [if_neg h4, if_neg h4]
          by_cases h5 : x = kBeside
          · rw [if_pos h5, if_pos h5]; rfl
          · rw [if_neg h5, if_neg h5]; rfl
theorem m_isDaleWord {w : XW} {t : Tp} (hT : TOk2 t) {s : Nat} (h : MTp w t s) (hs : sk t s = s) : F_X12_isDaleWord [.inr (11, 0)] w = some (b2i (fdW (lW 0) (wrd t s)).isSome, w) := by
  have d1 := m_isWord0 hT h hs W_dale
  have d2 := m_isWord0 hT h hs W_keep
  have d3 := m_isWord0 hT h hs W_person
  have d4 := m_isWord0 hT h hs W_field
  have d5 := m_isWord0 hT h hs W_beside
  rw [f_X12_isDaleWord, e_X12_isDaleWord_0, fd0]
  by_cases h1 : wrd t s = kDale
  · rw [if_pos h1]
    rw [decT h1] at d1
    simp (disch := omega) only [d1, e_X12_isDaleWord_50, e_X12_isDaleWord_55, Option.isSome_some, true_and, and_true, false_and, and_false, beq_t, beq_f, eqN_t, eqN_f, eqL_t, eqL_f, nm1, nm2, nm1', nm2', m1z, m2z, zm1, zm2, m12, m21, lg_cmp_ge, lg_cmp_le, lg_cmp_gt, lg_cmp_lt, lg_cmp_eq, oob, oobL, neg0, negL0, natle_f, or_false, false_or, true_or, or_true, or_self, cl, clL, le_t, le_f, lt_t, lt_f, leL_t, leL_f, ltL_t, ltL_f, leM_t, leM_f, ltM_t, ltM_f, leO_t, leO_f, cond_true, cond_false, Option.bind_some, Option.bind_none, if_false, if_true, nI_1, aL1, aL2, mL1, mL2, nI_add, pk_mul, pk_m1, sL1, dL1, pk_sub, m1p1, gIs_eq, gIs_k, gIs_i, gIs_n, gIs_e, gIJ, gIR, gJI, gJR, gJs_eq, gJs_k, gJs_n, gJs_e, gRI, gRJ, gRs_eq, gRs_k, gRs_i, gRs_n, gZI, gZJ, gZR, pI_s, pJ_s, pV_s, pR_s, pR_n, oR_n, oR_s, decide_true, decide_false, not_true_eq_false, not_false_eq_true, decT, decF, Bool.true_eq_false, Bool.false_eq_true, z01, o01, z1f, z1f', zz, oo, b2i_0, b2i_n, b2i_t, b2i_f, Bool.not_true, Bool.not_false]
  · rw [if_neg h1]
    rw [decF h1] at d1
    by_cases h2 : wrd t s = kKeep
    · rw [if_pos h2]
      rw [decT h2] at d2
      simp (disch := omega) only [d1, e_X12_isDaleWord_10, d2, e_X12_isDaleWord_50, e_X12_isDaleWord_55, Option.isSome_some, true_and, and_true, false_and, and_false, beq_t, beq_f, eqN_t, eqN_f, eqL_t, eqL_f, nm1, nm2, nm1', nm2', m1z, m2z, zm1, zm2, m12, m21, lg_cmp_ge, lg_cmp_le, lg_cmp_gt, lg_cmp_lt, lg_cmp_eq, oob, oobL, neg0, negL0, natle_f, or_false, false_or, true_or, or_true, or_self, cl, clL, le_t, le_f, lt_t, lt_f, leL_t, leL_f, ltL_t, ltL_f, leM_t, leM_f, ltM_t, ltM_f, leO_t, leO_f, cond_true, cond_false, Option.bind_some, Option.bind_none, if_false, if_true, nI_1, aL1, aL2, mL1, mL2, nI_add, pk_mul, pk_m1, sL1, dL1, pk_sub, m1p1, gIs_eq, gIs_k, gIs_i, gIs_n, gIs_e, gIJ, gIR, gJI, gJR, gJs_eq, gJs_k, gJs_n, gJs_e, gRI, gRJ, gRs_eq, gRs_k, gRs_i, gRs_n, gZI, gZJ, gZR, pI_s, pJ_s, pV_s, pR_s, pR_n, oR_n, oR_s, decide_true, decide_false, not_true_eq_false, not_false_eq_true, decT, decF, Bool.true_eq_false, Bool.false_eq_true, z01, o01, z1f, z1f', zz, oo, b2i_0, b2i_n, b2i_t, b2i_f, Bool.not_true, Bool.not_false]
    · rw [if_neg h2]
      rw [decF h2] at d2
      by_cases h3 : wrd t s = kPerson
      · rw [if_pos h3]
        rw [decT h3] at d3
        simp (disch := omega) only [d1, e_X12_isDaleWord_10, d2, e_X12_isDaleWord_20, d3, e_X12_isDaleWord_50, e_X12_isDaleWord_55, Option.isSome_some, true_and, and_true, false_and, and_false, beq_t, beq_f, eqN_t, eqN_f, eqL_t, eqL_f, nm1, nm2, nm1', nm2', m1z, m2z, zm1, zm2, m12, m21, lg_cmp_ge, lg_cmp_le, lg_cmp_gt, lg_cmp_lt, lg_cmp_eq, oob, oobL, neg0, negL0, natle_f, or_false, false_or, true_or, or_true, or_self, cl, clL, le_t, le_f, lt_t, lt_f, leL_t, leL_f, ltL_t, ltL_f, leM_t, leM_f, ltM_t, ltM_f, leO_t, leO_f, cond_true, cond_false, Option.bind_some, Option.bind_none, if_false, if_true, nI_1, aL1, aL2, mL1, mL2, nI_add, pk_mul, pk_m1, sL1, dL1, pk_sub, m1p1, gIs_eq, gIs_k, gIs_i, gIs_n, gIs_e, gIJ, gIR, gJI, gJR, gJs_eq, gJs_k, gJs_n, gJs_e, gRI, gRJ, gRs_eq, gRs_k, gRs_i, gRs_n, gZI, gZJ, gZR, pI_s, pJ_s, pV_s, pR_s, pR_n, oR_n, oR_s, decide_true, decide_false, not_true_eq_false, not_false_eq_true, decT, decF, Bool.true_eq_false, Bool.false_eq_true, z01, o01, z1f, z1f', zz, oo, b2i_0, b2i_n, b2i_t, b2i_f, Bool.not_true, Bool.not_false]
      · rw [if_neg h3]
        rw [decF h3] at d3
        by_cases h4 : wrd t s = kField
        · rw [if_pos h4]
          rw [decT h4] at d4
          simp (disch := omega) only [d1, e_X12_isDaleWord_10, d2, e_X12_isDaleWord_20, d3, e_X12_isDaleWord_30, d4, e_X12_isDaleWord_50, e_X12_isDaleWord_55, Option.isSome_some, true_and, and_true, false_and, and_false, beq_t, beq_f, eqN_t, eqN_f, eqL_t, eqL_f, nm1, nm2, nm1', nm2', m1z, m2z, zm1, zm2, m12, m21, lg_cmp_ge, lg_cmp_le, lg_cmp_gt, lg_cmp_lt, lg_cmp_eq, oob, oobL, neg0, negL0, natle_f, or_false, false_or, true_or, or_true, or_self, cl, clL, le_t, le_f, lt_t, lt_f, leL_t, leL_f, ltL_t, ltL_f, leM_t, leM_f, ltM_t, ltM_f, leO_t, leO_f, cond_true, cond_false, Option.bind_some, Option.bind_none, if_false, if_true, nI_1, aL1, aL2, mL1, mL2, nI_add, pk_mul, pk_m1, sL1, dL1, pk_sub, m1p1, gIs_eq, gIs_k, gIs_i, gIs_n, gIs_e, gIJ, gIR, gJI, gJR, gJs_eq, gJs_k, gJs_n, gJs_e, gRI, gRJ, gRs_eq, gRs_k, gRs_i, gRs_n, gZI, gZJ, gZR, pI_s, pJ_s, pV_s, pR_s, pR_n, oR_n, oR_s, decide_true, decide_false, not_true_eq_false, not_false_eq_true, decT, decF, Bool.true_eq_false, Bool.false_eq_true, z01, o01, z1f, z1f', zz, oo, b2i_0, b2i_n, b2i_t, b2i_f, Bool.not_true, Bool.not_false]
        · rw [if_neg h4]
          rw [decF h4] at d4
          by_cases h5 : wrd t s = kBeside
          · rw [if_pos h5]
            rw [decT h5] at d5
            simp (disch := omega) only [d1, e_X12_isDaleWord_10, d2, e_X12_isDaleWord_20, d3, e_X12_isDaleWord_30, d4, e_X12_isDaleWord_40, d5, e_X12_isDaleWord_50, e_X12_isDaleWord_55, Option.isSome_some, true_and, and_true, false_and, and_false, beq_t, beq_f, eqN_t, eqN_f, eqL_t, eqL_f, nm1, nm2, nm1', nm2', m1z, m2z, zm1, zm2, m12, m21, lg_cmp_ge, lg_cmp_le, lg_cmp_gt, lg_cmp_lt, lg_cmp_eq, oob, oobL, neg0, negL0, natle_f, or_false, false_or, true_or, or_true, or_self, cl, clL, le_t, le_f, lt_t, lt_f, leL_t, leL_f, ltL_t, ltL_f, leM_t, leM_f, ltM_t, ltM_f, leO_t, leO_f, cond_true, cond_false, Option.bind_some, Option.bind_none, if_false, if_true, nI_1, aL1, aL2, mL1, mL2, nI_add, pk_mul, pk_m1, sL1, dL1, pk_sub, m1p1, gIs_eq, gIs_k, gIs_i, gIs_n, gIs_e, gIJ, gIR, gJI, gJR, gJs_eq, gJs_k, gJs_n, gJs_e, gRI, gRJ, gRs_eq, gRs_k, gRs_i, gRs_n, gZI, gZJ, gZR, pI_s, pJ_s, pV_s, pR_s, pR_n, oR_n, oR_s, decide_true, decide_false, not_true_eq_false, not_false_eq_true, decT, decF, Bool.true_eq_false, Bool.false_eq_true, z01, o01, z1f, z1f', zz, oo, b2i_0, b2i_n, b2i_t, b2i_f, Bool.not_true, Bool.not_false]
          · rw [if_neg h5]
            rw [decF h5] at d5
            simp (disch := omega) only [d1, e_X12_isDaleWord_10, d2, e_X12_isDaleWord_20, d3, e_X12_isDaleWord_30, d4, e_X12_isDaleWord_40, d5, e_X12_isDaleWord_54, e_X12_isDaleWord_55, Option.isSome_none, true_and, and_true, false_and, and_false, beq_t, beq_f, eqN_t, eqN_f, eqL_t, eqL_f, nm1, nm2, nm1', nm2', m1z, m2z, zm1, zm2, m12, m21, lg_cmp_ge, lg_cmp_le, lg_cmp_gt, lg_cmp_lt, lg_cmp_eq, oob, oobL, neg0, negL0, natle_f, or_false, false_or, true_or, or_true, or_self, cl, clL, le_t, le_f, lt_t, lt_f, leL_t, leL_f, ltL_t, ltL_f, leM_t, leM_f, ltM_t, ltM_f, leO_t, leO_f, cond_true, cond_false, Option.bind_some, Option.bind_none, if_false, if_true, nI_1, aL1, aL2, mL1, mL2, nI_add, pk_mul, pk_m1, sL1, dL1, pk_sub, m1p1, gIs_eq, gIs_k, gIs_i, gIs_n, gIs_e, gIJ, gIR, gJI, gJR, gJs_eq, gJs_k, gJs_n, gJs_e, gRI, gRJ, gRs_eq, gRs_k, gRs_i, gRs_n, gZI, gZJ, gZR, pI_s, pJ_s, pV_s, pR_s, pR_n, oR_n, oR_s, decide_true, decide_false, not_true_eq_false, not_false_eq_true, decT, decF, Bool.true_eq_false, Bool.false_eq_true, z01, o01, z1f, z1f', zz, oo, b2i_0, b2i_n, b2i_t, b2i_f, Bool.not_true, Bool.not_false]
theorem RM.fr {F F' : Option (Int32 × XW)} {w w1 : XW} {t : Tp} {r : Nat ⊕ (Nat × Dl)} (h : RM F' w1 t r) (hF : Fr PMr w w1) (he : F = F') : RM F w t r := by
  obtain ⟨w', h1, h2⟩ := h
  refine ⟨w', hF.trans h1, ?_⟩
  rw [he]
  exact h2
theorem RM.b01 {F : Option (Int32 × XW)} {w : XW} {t : Tp} {r : Nat ⊕ (Nat × Dl)} (h : RM F w t r) : ((F.bind fun r0 => (if r0.1 = 0 ∨ r0.1 = 1 then some (some (.inl (.int r0.1)), r0.2) else none) : Option XR)).bind pI = F := by
  obtain ⟨w', h1, h2⟩ := h
  cases r with
  | inl f => rw [h2.1]; rfl
  | inr q => rw [h2.1]; rfl
theorem m_dline {w : XW} {t : Tp} (hT : TOk2 t) {s n j : Nat} {d : Dl} (hI : DI n d) (hn : n < 40) (h : MTp w t s) (hs : sk t s = s) (hd : RdAt w d) (hj : fdW (lW 0) (wrd t s) = some j) :
    RM (F_X12_daleLineHere [.inr (11, 0), .inl (.int (nI s))] w) w t (by classical exact if badD n j d then .inl (1 + 8 * s + 4) else clD t j (le t s) d) := by
  obtain ⟨hD, t0, _, z0⟩ := hI
  have k2 := hD.1.2
  have k4 := hD.2.1.2
  have k6 := hD.2.2.1.2
  have g0 : gI w 46 0 0 = d.1 0 := hd.1 0 (by omega)
  have g3 : gI w 46 0 3 = nI (kn d) := by rw [hd.1 3 (by omega)]; exact hD.1.1
  have g4 : gI w 46 0 4 = nI (pn d) := by rw [hd.1 4 (by omega)]; exact hD.2.1.1
  have g5 : gI w 46 0 5 = nI (fn d) := by rw [hd.1 5 (by omega)]; exact hD.2.2.1.1
  have kf := m_fails4 (w := w) s h.2.2.1
  have bad : ∀ F, F = some (0, sI w 11 0 9 (nI (1 + 8 * s + 4))) → RM F w t (.inl (1 + 8 * s + 4)) := fun F hF => ⟨_, (Fr.refl _ _).sI (by unfold PMr; omega), hF, gIs_eq⟩
  have d1 := m_isWord0 hT h hs W_dale
  have d2 := m_isWord0 hT h hs W_keep
  have d3 := m_isWord0 hT h hs W_person
  have d4 := m_isWord0 hT h hs W_field
  rw [fd0] at hj
  by_cases n0 : n = 0
  · rw [if_pos n0] at t0
    rw [t0] at g0
    by_cases h1 : wrd t s = kDale
    · rw [if_pos h1] at hj
      injection hj with hj
      subst hj
      rw [if_neg (show ¬ badD n 0 d from fun z => by unfold badD at z; omega)]
      rw [decT h1] at d1
      have R := m_daleHere hT (x := s) t0 h hd
      refine R.fr (Fr.refl _ _) ?_
      rw [f_X12_daleLineHere, e_X12_daleLineHere_0]
      simp (disch := omega) only [d1, e_X12_daleLineHere_10, true_and, and_true, false_and, and_false, beq_t, beq_f, eqN_t, eqN_f, eqL_t, eqL_f, nm1, nm2, nm1', nm2', m1z, m2z, zm1, zm2, m12, m21, lg_cmp_ge, lg_cmp_le, lg_cmp_gt, lg_cmp_lt, lg_cmp_eq, oob, oobL, neg0, negL0, natle_f, or_false, false_or, true_or, or_true, or_self, cl, clL, le_t, le_f, lt_t, lt_f, leL_t, leL_f, ltL_t, ltL_f, leM_t, leM_f, ltM_t, ltM_f, leO_t, leO_f, cond_true, cond_false, Option.bind_some, Option.bind_none, if_false, if_true, nI_1, aL1, aL2, mL1, mL2, nI_add, pk_mul, pk_m1, sL1, dL1, pk_sub, m1p1, gIs_eq, gIs_k, gIs_i, gIs_n, gIs_e, gIJ, gIR, gJI, gJR, gJs_eq, gJs_k, gJs_n, gJs_e, gRI, gRJ, gRs_eq, gRs_k, gRs_i, gRs_n, gZI, gZJ, gZR, pI_s, pJ_s, pV_s, pR_s, pR_n, oR_n, oR_s, decide_true, decide_false, not_true_eq_false, not_false_eq_true, decT, decF, Bool.true_eq_false, Bool.false_eq_true, z01, o01, z1f, z1f', zz, oo, b2i_0, b2i_n, b2i_t, b2i_f, Bool.not_true, Bool.not_false]
      exact R.b01
    · rw [if_neg h1] at hj
      rw [decF h1] at d1
      have hj0 : j ≠ 0 := fun z => by
        subst z
        by_cases h2 : wrd t s = kKeep
        · rw [if_pos h2] at hj; cases hj
        · rw [if_neg h2] at hj
          by_cases h3 : wrd t s = kPerson
          · rw [if_pos h3] at hj; cases hj
          · rw [if_neg h3] at hj
            by_cases h4 : wrd t s = kField
            · rw [if_pos h4] at hj; cases hj
            · rw [if_neg h4] at hj
              by_cases h5 : wrd t s = kBeside
              · rw [if_pos h5] at hj; cases hj
              · rw [if_neg h5] at hj; cases hj
      rw [if_pos (show badD n j d from Or.inr (Or.inl (by omega)))]
      apply bad
      rw [f_X12_daleLineHere, e_X12_daleLineHere_0]
      simp (disch := omega) only [d1, e_X12_daleLineHere_16, g0, e_X12_daleLineHere_25, kf, true_and, and_true, false_and, and_false, beq_t, beq_f, eqN_t, eqN_f, eqL_t, eqL_f, nm1, nm2, nm1', nm2', m1z, m2z, zm1, zm2, m12, m21, lg_cmp_ge, lg_cmp_le, lg_cmp_gt, lg_cmp_lt, lg_cmp_eq, oob, oobL, neg0, negL0, natle_f, or_false, false_or, true_or, or_true, or_self, cl, clL, le_t, le_f, lt_t, lt_f, leL_t, leL_f, ltL_t, ltL_f, leM_t, leM_f, ltM_t, ltM_f, leO_t, leO_f, cond_true, cond_false, Option.bind_some, Option.bind_none, if_false, if_true, nI_1, aL1, aL2, mL1, mL2, nI_add, pk_mul, pk_m1, sL1, dL1, pk_sub, m1p1, gIs_eq, gIs_k, gIs_i, gIs_n, gIs_e, gIJ, gIR, gJI, gJR, gJs_eq, gJs_k, gJs_n, gJs_e, gRI, gRJ, gRs_eq, gRs_k, gRs_i, gRs_n, gZI, gZJ, gZR, pI_s, pJ_s, pV_s, pR_s, pR_n, oR_n, oR_s, decide_true, decide_false, not_true_eq_false, not_false_eq_true, decT, decF, Bool.true_eq_false, Bool.false_eq_true, z01, o01, z1f, z1f', zz, oo, b2i_0, b2i_n, b2i_t, b2i_f, Bool.not_true, Bool.not_false]
  · rw [if_neg n0] at t0
    rw [t0] at g0
    by_cases h1 : wrd t s = kDale
    · rw [if_pos h1] at hj
      injection hj with hj
      subst hj
      rw [if_pos (show badD n 0 d from Or.inr (Or.inl (by omega)))]
      apply bad
      rw [decT h1] at d1
      have e1 : decide ((1 : Int32) ≤ 0) = false := by decide
      have kd : F_X12_isDaleHere [.inr (11, 0), .inl (.int (nI s))] w = some (0, sI w 11 0 9 (nI (1 + 8 * s + 4))) := by
        rw [f_X12_isDaleHere, e_X12_isDaleHere_0, g0, e1]
        simp (disch := omega) only [e_X12_isDaleHere_9, kf, true_and, and_true, false_and, and_false, beq_t, beq_f, eqN_t, eqN_f, eqL_t, eqL_f, nm1, nm2, nm1', nm2', m1z, m2z, zm1, zm2, m12, m21, lg_cmp_ge, lg_cmp_le, lg_cmp_gt, lg_cmp_lt, lg_cmp_eq, oob, oobL, neg0, negL0, natle_f, or_false, false_or, true_or, or_true, or_self, cl, clL, le_t, le_f, lt_t, lt_f, leL_t, leL_f, ltL_t, ltL_f, leM_t, leM_f, ltM_t, ltM_f, leO_t, leO_f, cond_true, cond_false, Option.bind_some, Option.bind_none, if_false, if_true, nI_1, aL1, aL2, mL1, mL2, nI_add, pk_mul, pk_m1, sL1, dL1, pk_sub, m1p1, gIs_eq, gIs_k, gIs_i, gIs_n, gIs_e, gIJ, gIR, gJI, gJR, gJs_eq, gJs_k, gJs_n, gJs_e, gRI, gRJ, gRs_eq, gRs_k, gRs_i, gRs_n, gZI, gZJ, gZR, pI_s, pJ_s, pV_s, pR_s, pR_n, oR_n, oR_s, decide_true, decide_false, not_true_eq_false, not_false_eq_true, decT, decF, Bool.true_eq_false, Bool.false_eq_true, z01, o01, z1f, z1f', zz, oo, b2i_0, b2i_n, b2i_t, b2i_f, Bool.not_true, Bool.not_false]
      rw [f_X12_daleLineHere, e_X12_daleLineHere_0]
      simp (disch := omega) only [d1, e_X12_daleLineHere_10, kd, true_and, and_true, false_and, and_false, beq_t, beq_f, eqN_t, eqN_f, eqL_t, eqL_f, nm1, nm2, nm1', nm2', m1z, m2z, zm1, zm2, m12, m21, lg_cmp_ge, lg_cmp_le, lg_cmp_gt, lg_cmp_lt, lg_cmp_eq, oob, oobL, neg0, negL0, natle_f, or_false, false_or, true_or, or_true, or_self, cl, clL, le_t, le_f, lt_t, lt_f, leL_t, leL_f, ltL_t, ltL_f, leM_t, leM_f, ltM_t, ltM_f, leO_t, leO_f, cond_true, cond_false, Option.bind_some, Option.bind_none, if_false, if_true, nI_1, aL1, aL2, mL1, mL2, nI_add, pk_mul, pk_m1, sL1, dL1, pk_sub, m1p1, gIs_eq, gIs_k, gIs_i, gIs_n, gIs_e, gIJ, gIR, gJI, gJR, gJs_eq, gJs_k, gJs_n, gJs_e, gRI, gRJ, gRs_eq, gRs_k, gRs_i, gRs_n, gZI, gZJ, gZR, pI_s, pJ_s, pV_s, pR_s, pR_n, oR_n, oR_s, decide_true, decide_false, not_true_eq_false, not_false_eq_true, decT, decF, Bool.true_eq_false, Bool.false_eq_true, z01, o01, z1f, z1f', zz, oo, b2i_0, b2i_n, b2i_t, b2i_f, Bool.not_true, Bool.not_false]
    · rw [if_neg h1] at hj
      rw [decF h1] at d1
      have start : F_X12_daleLineHere [.inr (11, 0), .inl (.int (nI s))] w = (q_X12_daleLineHere_32 (nI s) w).bind pI := by
        rw [f_X12_daleLineHere, e_X12_daleLineHere_0]
        simp (disch := omega) only [d1, e_X12_daleLineHere_16, g0, true_and, and_true, false_and, and_false, beq_t, beq_f, eqN_t, eqN_f, eqL_t, eqL_f, nm1, nm2, nm1', nm2', m1z, m2z, zm1, zm2, m12, m21, lg_cmp_ge, lg_cmp_le, lg_cmp_gt, lg_cmp_lt, lg_cmp_eq, oob, oobL, neg0, negL0, natle_f, or_false, false_or, true_or, or_true, or_self, cl, clL, le_t, le_f, lt_t, lt_f, leL_t, leL_f, ltL_t, ltL_f, leM_t, leM_f, ltM_t, ltM_f, leO_t, leO_f, cond_true, cond_false, Option.bind_some, Option.bind_none, if_false, if_true, nI_1, aL1, aL2, mL1, mL2, nI_add, pk_mul, pk_m1, sL1, dL1, pk_sub, m1p1, gIs_eq, gIs_k, gIs_i, gIs_n, gIs_e, gIJ, gIR, gJI, gJR, gJs_eq, gJs_k, gJs_n, gJs_e, gRI, gRJ, gRs_eq, gRs_k, gRs_i, gRs_n, gZI, gZJ, gZR, pI_s, pJ_s, pV_s, pR_s, pR_n, oR_n, oR_s, decide_true, decide_false, not_true_eq_false, not_false_eq_true, decT, decF, Bool.true_eq_false, Bool.false_eq_true, z01, o01, z1f, z1f', zz, oo, b2i_0, b2i_n, b2i_t, b2i_f, Bool.not_true, Bool.not_false]
      by_cases h2 : wrd t s = kKeep
      · rw [if_pos h2] at hj
        injection hj with hj
        subst hj
        rw [decT h2] at d2
        by_cases c : 6 ≤ kn d
        · rw [if_pos (show badD n 1 d from Or.inr (Or.inr (Or.inl ⟨rfl, c⟩)))]
          apply bad
          have kd : F_X12_isKeepHere [.inr (11, 0), .inl (.int (nI s))] w = some (0, sI w 11 0 9 (nI (1 + 8 * s + 4))) := by
            rw [f_X12_isKeepHere, e_X12_isKeepHere_0]
            simp (disch := omega) only [g3, e_X12_isKeepHere_11, kf, true_and, and_true, false_and, and_false, beq_t, beq_f, eqN_t, eqN_f, eqL_t, eqL_f, nm1, nm2, nm1', nm2', m1z, m2z, zm1, zm2, m12, m21, lg_cmp_ge, lg_cmp_le, lg_cmp_gt, lg_cmp_lt, lg_cmp_eq, oob, oobL, neg0, negL0, natle_f, or_false, false_or, true_or, or_true, or_self, cl, clL, le_t, le_f, lt_t, lt_f, leL_t, leL_f, ltL_t, ltL_f, leM_t, leM_f, ltM_t, ltM_f, leO_t, leO_f, cond_true, cond_false, Option.bind_some, Option.bind_none, if_false, if_true, nI_1, aL1, aL2, mL1, mL2, nI_add, pk_mul, pk_m1, sL1, dL1, pk_sub, m1p1, gIs_eq, gIs_k, gIs_i, gIs_n, gIs_e, gIJ, gIR, gJI, gJR, gJs_eq, gJs_k, gJs_n, gJs_e, gRI, gRJ, gRs_eq, gRs_k, gRs_i, gRs_n, gZI, gZJ, gZR, pI_s, pJ_s, pV_s, pR_s, pR_n, oR_n, oR_s, decide_true, decide_false, not_true_eq_false, not_false_eq_true, decT, decF, Bool.true_eq_false, Bool.false_eq_true, z01, o01, z1f, z1f', zz, oo, b2i_0, b2i_n, b2i_t, b2i_f, Bool.not_true, Bool.not_false]
          rw [start, e_X12_daleLineHere_32]
          simp (disch := omega) only [d2, e_X12_daleLineHere_42, kd, true_and, and_true, false_and, and_false, beq_t, beq_f, eqN_t, eqN_f, eqL_t, eqL_f, nm1, nm2, nm1', nm2', m1z, m2z, zm1, zm2, m12, m21, lg_cmp_ge, lg_cmp_le, lg_cmp_gt, lg_cmp_lt, lg_cmp_eq, oob, oobL, neg0, negL0, natle_f, or_false, false_or, true_or, or_true, or_self, cl, clL, le_t, le_f, lt_t, lt_f, leL_t, leL_f, ltL_t, ltL_f, leM_t, leM_f, ltM_t, ltM_f, leO_t, leO_f, cond_true, cond_false, Option.bind_some, Option.bind_none, if_false, if_true, nI_1, aL1, aL2, mL1, mL2, nI_add, pk_mul, pk_m1, sL1, dL1, pk_sub, m1p1, gIs_eq, gIs_k, gIs_i, gIs_n, gIs_e, gIJ, gIR, gJI, gJR, gJs_eq, gJs_k, gJs_n, gJs_e, gRI, gRJ, gRs_eq, gRs_k, gRs_i, gRs_n, gZI, gZJ, gZR, pI_s, pJ_s, pV_s, pR_s, pR_n, oR_n, oR_s, decide_true, decide_false, not_true_eq_false, not_false_eq_true, decT, decF, Bool.true_eq_false, Bool.false_eq_true, z01, o01, z1f, z1f', zz, oo, b2i_0, b2i_n, b2i_t, b2i_f, Bool.not_true, Bool.not_false]
        · rw [if_neg (show ¬ badD n 1 d from fun z => by unfold badD at z; omega)]
          have R := m_keepHere hT (x := s) hD (by omega) h hd
          refine R.fr (Fr.refl _ _) ?_
          rw [start, e_X12_daleLineHere_32]
          simp (disch := omega) only [d2, e_X12_daleLineHere_42, true_and, and_true, false_and, and_false, beq_t, beq_f, eqN_t, eqN_f, eqL_t, eqL_f, nm1, nm2, nm1', nm2', m1z, m2z, zm1, zm2, m12, m21, lg_cmp_ge, lg_cmp_le, lg_cmp_gt, lg_cmp_lt, lg_cmp_eq, oob, oobL, neg0, negL0, natle_f, or_false, false_or, true_or, or_true, or_self, cl, clL, le_t, le_f, lt_t, lt_f, leL_t, leL_f, ltL_t, ltL_f, leM_t, leM_f, ltM_t, ltM_f, leO_t, leO_f, cond_true, cond_false, Option.bind_some, Option.bind_none, if_false, if_true, nI_1, aL1, aL2, mL1, mL2, nI_add, pk_mul, pk_m1, sL1, dL1, pk_sub, m1p1, gIs_eq, gIs_k, gIs_i, gIs_n, gIs_e, gIJ, gIR, gJI, gJR, gJs_eq, gJs_k, gJs_n, gJs_e, gRI, gRJ, gRs_eq, gRs_k, gRs_i, gRs_n, gZI, gZJ, gZR, pI_s, pJ_s, pV_s, pR_s, pR_n, oR_n, oR_s, decide_true, decide_false, not_true_eq_false, not_false_eq_true, decT, decF, Bool.true_eq_false, Bool.false_eq_true, z01, o01, z1f, z1f', zz, oo, b2i_0, b2i_n, b2i_t, b2i_f, Bool.not_true, Bool.not_false]
          exact R.b01
      · rw [if_neg h2] at hj
        rw [decF h2] at d2
        by_cases h3 : wrd t s = kPerson
        · rw [if_pos h3] at hj
          injection hj with hj
          subst hj
          rw [decT h3] at d3
          by_cases c : 5 ≤ pn d
          · rw [if_pos (show badD n 2 d from Or.inr (Or.inr (Or.inr (Or.inl ⟨rfl, c⟩))))]
            apply bad
            have kd : F_X12_isPersonHere [.inr (11, 0), .inl (.int (nI s))] w = some (0, sI w 11 0 9 (nI (1 + 8 * s + 4))) := by
              rw [f_X12_isPersonHere, e_X12_isPersonHere_0]
              simp (disch := omega) only [g4, e_X12_isPersonHere_10, kf, true_and, and_true, false_and, and_false, beq_t, beq_f, eqN_t, eqN_f, eqL_t, eqL_f, nm1, nm2, nm1', nm2', m1z, m2z, zm1, zm2, m12, m21, lg_cmp_ge, lg_cmp_le, lg_cmp_gt, lg_cmp_lt, lg_cmp_eq, oob, oobL, neg0, negL0, natle_f, or_false, false_or, true_or, or_true, or_self, cl, clL, le_t, le_f, lt_t, lt_f, leL_t, leL_f, ltL_t, ltL_f, leM_t, leM_f, ltM_t, ltM_f, leO_t, leO_f, cond_true, cond_false, Option.bind_some, Option.bind_none, if_false, if_true, nI_1, aL1, aL2, mL1, mL2, nI_add, pk_mul, pk_m1, sL1, dL1, pk_sub, m1p1, gIs_eq, gIs_k, gIs_i, gIs_n, gIs_e, gIJ, gIR, gJI, gJR, gJs_eq, gJs_k, gJs_n, gJs_e, gRI, gRJ, gRs_eq, gRs_k, gRs_i, gRs_n, gZI, gZJ, gZR, pI_s, pJ_s, pV_s, pR_s, pR_n, oR_n, oR_s, decide_true, decide_false, not_true_eq_false, not_false_eq_true, decT, decF, Bool.true_eq_false, Bool.false_eq_true, z01, o01, z1f, z1f', zz, oo, b2i_0, b2i_n, b2i_t, b2i_f, Bool.not_true, Bool.not_false]
            rw [start, e_X12_daleLineHere_32]
            simp (disch := omega) only [d2, e_X12_daleLineHere_48, d3, e_X12_daleLineHere_58, kd, true_and, and_true, false_and, and_false, beq_t, beq_f, eqN_t, eqN_f, eqL_t, eqL_f, nm1, nm2, nm1', nm2', m1z, m2z, zm1, zm2, m12, m21, lg_cmp_ge, lg_cmp_le, lg_cmp_gt, lg_cmp_lt, lg_cmp_eq, oob, oobL, neg0, negL0, natle_f, or_false, false_or, true_or, or_true, or_self, cl, clL, le_t, le_f, lt_t, lt_f, leL_t, leL_f, ltL_t, ltL_f, leM_t, leM_f, ltM_t, ltM_f, leO_t, leO_f, cond_true, cond_false, Option.bind_some, Option.bind_none, if_false, if_true, nI_1, aL1, aL2, mL1, mL2, nI_add, pk_mul, pk_m1, sL1, dL1, pk_sub, m1p1, gIs_eq, gIs_k, gIs_i, gIs_n, gIs_e, gIJ, gIR, gJI, gJR, gJs_eq, gJs_k, gJs_n, gJs_e, gRI, gRJ, gRs_eq, gRs_k, gRs_i, gRs_n, gZI, gZJ, gZR, pI_s, pJ_s, pV_s, pR_s, pR_n, oR_n, oR_s, decide_true, decide_false, not_true_eq_false, not_false_eq_true, decT, decF, Bool.true_eq_false, Bool.false_eq_true, z01, o01, z1f, z1f', zz, oo, b2i_0, b2i_n, b2i_t, b2i_f, Bool.not_true, Bool.not_false]
          · rw [if_neg (show ¬ badD n 2 d from fun z => by unfold badD at z; omega)]
            have R := m_personHere hT (x := s) hD (by omega) h hd
            refine R.fr (Fr.refl _ _) ?_
            rw [start, e_X12_daleLineHere_32]
            simp (disch := omega) only [d2, e_X12_daleLineHere_48, d3, e_X12_daleLineHere_58, true_and, and_true, false_and, and_false, beq_t, beq_f, eqN_t, eqN_f, eqL_t, eqL_f, nm1, nm2, nm1', nm2', m1z, m2z, zm1, zm2, m12, m21, lg_cmp_ge, lg_cmp_le, lg_cmp_gt, lg_cmp_lt, lg_cmp_eq, oob, oobL, neg0, negL0, natle_f, or_false, false_or, true_or, or_true, or_self, cl, clL, le_t, le_f, lt_t, lt_f, leL_t, leL_f, ltL_t, ltL_f, leM_t, leM_f, ltM_t, ltM_f, leO_t, leO_f, cond_true, cond_false, Option.bind_some, Option.bind_none, if_false, if_true, nI_1, aL1, aL2, mL1, mL2, nI_add, pk_mul, pk_m1, sL1, dL1, pk_sub, m1p1, gIs_eq, gIs_k, gIs_i, gIs_n, gIs_e, gIJ, gIR, gJI, gJR, gJs_eq, gJs_k, gJs_n, gJs_e, gRI, gRJ, gRs_eq, gRs_k, gRs_i, gRs_n, gZI, gZJ, gZR, pI_s, pJ_s, pV_s, pR_s, pR_n, oR_n, oR_s, decide_true, decide_false, not_true_eq_false, not_false_eq_true, decT, decF, Bool.true_eq_false, Bool.false_eq_true, z01, o01, z1f, z1f', zz, oo, b2i_0, b2i_n, b2i_t, b2i_f, Bool.not_true, Bool.not_false]
            exact R.b01
        · rw [if_neg h3] at hj
          rw [decF h3] at d3
          by_cases h4 : wrd t s = kField
          · rw [if_pos h4] at hj
            injection hj with hj
            subst hj
            rw [decT h4] at d4
            by_cases c : 4 ≤ fn d
            · rw [if_pos (show badD n 3 d from Or.inr (Or.inr (Or.inr (Or.inr ⟨rfl, c⟩))))]
              apply bad
              have kd : F_X12_isFieldHere [.inr (11, 0), .inl (.int (nI s))] w = some (0, sI w 11 0 9 (nI (1 + 8 * s + 4))) := by
                rw [f_X12_isFieldHere, e_X12_isFieldHere_0]
                simp (disch := omega) only [g5, e_X12_isFieldHere_10, kf, true_and, and_true, false_and, and_false, beq_t, beq_f, eqN_t, eqN_f, eqL_t, eqL_f, nm1, nm2, nm1', nm2', m1z, m2z, zm1, zm2, m12, m21, lg_cmp_ge, lg_cmp_le, lg_cmp_gt, lg_cmp_lt, lg_cmp_eq, oob, oobL, neg0, negL0, natle_f, or_false, false_or, true_or, or_true, or_self, cl, clL, le_t, le_f, lt_t, lt_f, leL_t, leL_f, ltL_t, ltL_f, leM_t, leM_f, ltM_t, ltM_f, leO_t, leO_f, cond_true, cond_false, Option.bind_some, Option.bind_none, if_false, if_true, nI_1, aL1, aL2, mL1, mL2, nI_add, pk_mul, pk_m1, sL1, dL1, pk_sub, m1p1, gIs_eq, gIs_k, gIs_i, gIs_n, gIs_e, gIJ, gIR, gJI, gJR, gJs_eq, gJs_k, gJs_n, gJs_e, gRI, gRJ, gRs_eq, gRs_k, gRs_i, gRs_n, gZI, gZJ, gZR, pI_s, pJ_s, pV_s, pR_s, pR_n, oR_n, oR_s, decide_true, decide_false, not_true_eq_false, not_false_eq_true, decT, decF, Bool.true_eq_false, Bool.false_eq_true, z01, o01, z1f, z1f', zz, oo, b2i_0, b2i_n, b2i_t, b2i_f, Bool.not_true, Bool.not_false]
              rw [start, e_X12_daleLineHere_32]
              simp (disch := omega) only [d2, e_X12_daleLineHere_48, d3, e_X12_daleLineHere_64, d4, e_X12_daleLineHere_74, kd, e_X12_daleLineHere_86, true_and, and_true, false_and, and_false, beq_t, beq_f, eqN_t, eqN_f, eqL_t, eqL_f, nm1, nm2, nm1', nm2', m1z, m2z, zm1, zm2, m12, m21, lg_cmp_ge, lg_cmp_le, lg_cmp_gt, lg_cmp_lt, lg_cmp_eq, oob, oobL, neg0, negL0, natle_f, or_false, false_or, true_or, or_true, or_self, cl, clL, le_t, le_f, lt_t, lt_f, leL_t, leL_f, ltL_t, ltL_f, leM_t, leM_f, ltM_t, ltM_f, leO_t, leO_f, cond_true, cond_false, Option.bind_some, Option.bind_none, if_false, if_true, nI_1, aL1, aL2, mL1, mL2, nI_add, pk_mul, pk_m1, sL1, dL1, pk_sub, m1p1, gIs_eq, gIs_k, gIs_i, gIs_n, gIs_e, gIJ, gIR, gJI, gJR, gJs_eq, gJs_k, gJs_n, gJs_e, gRI, gRJ, gRs_eq, gRs_k, gRs_i, gRs_n, gZI, gZJ, gZR, pI_s, pJ_s, pV_s, pR_s, pR_n, oR_n, oR_s, decide_true, decide_false, not_true_eq_false, not_false_eq_true, decT, decF, Bool.true_eq_false, Bool.false_eq_true, z01, o01, z1f, z1f', zz, oo, b2i_0, b2i_n, b2i_t, b2i_f, Bool.not_true, Bool.not_false]
            · rw [if_neg (show ¬ badD n 3 d from fun z => by unfold badD at z; omega)]
              have R := m_fieldHere hT (x := s) hD (by omega) h hd
              refine R.fr (Fr.refl _ _) ?_
              rw [start, e_X12_daleLineHere_32]
              simp (disch := omega) only [d2, e_X12_daleLineHere_48, d3, e_X12_daleLineHere_64, d4, e_X12_daleLineHere_74, e_X12_daleLineHere_86, true_and, and_true, false_and, and_false, beq_t, beq_f, eqN_t, eqN_f, eqL_t, eqL_f, nm1, nm2, nm1', nm2', m1z, m2z, zm1, zm2, m12, m21, lg_cmp_ge, lg_cmp_le, lg_cmp_gt, lg_cmp_lt, lg_cmp_eq, oob, oobL, neg0, negL0, natle_f, or_false, false_or, true_or, or_true, or_self, cl, clL, le_t, le_f, lt_t, lt_f, leL_t, leL_f, ltL_t, ltL_f, leM_t, leM_f, ltM_t, ltM_f, leO_t, leO_f, cond_true, cond_false, Option.bind_some, Option.bind_none, if_false, if_true, nI_1, aL1, aL2, mL1, mL2, nI_add, pk_mul, pk_m1, sL1, dL1, pk_sub, m1p1, gIs_eq, gIs_k, gIs_i, gIs_n, gIs_e, gIJ, gIR, gJI, gJR, gJs_eq, gJs_k, gJs_n, gJs_e, gRI, gRJ, gRs_eq, gRs_k, gRs_i, gRs_n, gZI, gZJ, gZR, pI_s, pJ_s, pV_s, pR_s, pR_n, oR_n, oR_s, decide_true, decide_false, not_true_eq_false, not_false_eq_true, decT, decF, Bool.true_eq_false, Bool.false_eq_true, z01, o01, z1f, z1f', zz, oo, b2i_0, b2i_n, b2i_t, b2i_f, Bool.not_true, Bool.not_false]
              exact R.b01
          · rw [if_neg h4] at hj
            rw [decF h4] at d4
            by_cases h5 : wrd t s = kBeside
            · rw [if_pos h5] at hj
              injection hj with hj
              subst hj
              rw [if_neg (show ¬ badD n 4 d from fun z => by unfold badD at z; omega)]
              have R := m_besideHere hT hD h hd
              refine R.fr (Fr.refl _ _) ?_
              rw [start, e_X12_daleLineHere_32]
              simp (disch := omega) only [d2, e_X12_daleLineHere_48, d3, e_X12_daleLineHere_64, d4, e_X12_daleLineHere_82, e_X12_daleLineHere_86, true_and, and_true, false_and, and_false, beq_t, beq_f, eqN_t, eqN_f, eqL_t, eqL_f, nm1, nm2, nm1', nm2', m1z, m2z, zm1, zm2, m12, m21, lg_cmp_ge, lg_cmp_le, lg_cmp_gt, lg_cmp_lt, lg_cmp_eq, oob, oobL, neg0, negL0, natle_f, or_false, false_or, true_or, or_true, or_self, cl, clL, le_t, le_f, lt_t, lt_f, leL_t, leL_f, ltL_t, ltL_f, leM_t, leM_f, ltM_t, ltM_f, leO_t, leO_f, cond_true, cond_false, Option.bind_some, Option.bind_none, if_false, if_true, nI_1, aL1, aL2, mL1, mL2, nI_add, pk_mul, pk_m1, sL1, dL1, pk_sub, m1p1, gIs_eq, gIs_k, gIs_i, gIs_n, gIs_e, gIJ, gIR, gJI, gJR, gJs_eq, gJs_k, gJs_n, gJs_e, gRI, gRJ, gRs_eq, gRs_k, gRs_i, gRs_n, gZI, gZJ, gZR, pI_s, pJ_s, pV_s, pR_s, pR_n, oR_n, oR_s, decide_true, decide_false, not_true_eq_false, not_false_eq_true, decT, decF, Bool.true_eq_false, Bool.false_eq_true, z01, o01, z1f, z1f', zz, oo, b2i_0, b2i_n, b2i_t, b2i_f, Bool.not_true, Bool.not_false]
              exact R.b01
            · rw [if_neg h5] at hj; cases hj
def PMc (κ _j k : Nat) : Prop := κ = 46 ∨ (κ = 11 ∧ ((8 ≤ k ∧ k ≤ 10) ∨ k = 14))
def RN (n : Nat) (F : Option (Int32 × XW)) (w : XW) (t : Tp) (r : Nat ⊕ (Nat × Dl)) : Prop := ∃ w', Fr PMc w w' ∧ match r with
  | .inl f => F = some (0, w') ∧ gI w' 11 0 9 = nI f
  | .inr q => F = some (1, w') ∧ MTp w' t q.1 ∧ RdAt w' q.2 ∧ gI w' 11 0 14 = nI (n + 1)
theorem m_clauseD {w : XW} {t : Tp} (hT : TOk2 t) {p n : Nat} {d : Dl} (hI : DI n d) (hn : n ≤ 40) (h : MTp w t p) (hd : RdAt w d) (h11 : gI w 11 0 11 = 6) (h14 : gI w 11 0 14 = nI n) : RN n (F_X12_clauseHere [.inr (11, 0)] w) w t (cauS t p n d) := by
  obtain ⟨w1, k1, k2, k3⟩ := m_see hT h
  have hs := sk_sk h.2.2.2
  have hd1 := hd.l8 k3
  have FA : Fr PMc w w1 := k3.mono (fun κ i k q => by unfold PM8 at q; unfold  PMc; omega)
  have j11 : gI w1 11 0 11 = 6 := by rw [(k3 11 0 11 (by unfold PM8; omega)).1]; exact h11
  have j14 : gI w1 11 0 14 = nI n := by rw [(k3 11 0 14 (by unfold PM8; omega)).1]; exact h14
  have j8 := k2.2.1
  unfold cauS
  generalize sk t p = s at *
  have dw := m_isDaleWord hT k2 hs
  have start : F_X12_clauseHere [.inr (11, 0)] w = (q_X12_clauseHere_29 (nI s) 1 w1).bind pI := by
    rw [f_X12_clauseHere, e_X12_clauseHere_0]
    simp (disch := omega) only [k1, j11, j8, e_X12_clauseHere_19, e_X12_clauseHere_24, true_and, and_true, false_and, and_false, beq_t, beq_f, eqN_t, eqN_f, eqL_t, eqL_f, nm1, nm2, nm1', nm2', m1z, m2z, zm1, zm2, m12, m21, lg_cmp_ge, lg_cmp_le, lg_cmp_gt, lg_cmp_lt, lg_cmp_eq, oob, oobL, neg0, negL0, natle_f, or_false, false_or, true_or, or_true, or_self, cl, clL, le_t, le_f, lt_t, lt_f, leL_t, leL_f, ltL_t, ltL_f, leM_t, leM_f, ltM_t, ltM_f, leO_t, leO_f, cond_true, cond_false, Option.bind_some, Option.bind_none, if_false, if_true, nI_1, aL1, aL2, mL1, mL2, nI_add, pk_mul, pk_m1, sL1, dL1, pk_sub, m1p1, gIs_eq, gIs_k, gIs_i, gIs_n, gIs_e, gIJ, gIR, gJI, gJR, gJs_eq, gJs_k, gJs_n, gJs_e, gRI, gRJ, gRs_eq, gRs_k, gRs_i, gRs_n, gZI, gZJ, gZR, pI_s, pJ_s, pV_s, pR_s, pR_n, oR_n, oR_s, decide_true, decide_false, not_true_eq_false, not_false_eq_true, decT, decF, Bool.true_eq_false, Bool.false_eq_true, z01, o01, z1f, z1f', zz, oo, b2i_0, b2i_n, b2i_t, b2i_f, Bool.not_true, Bool.not_false]
    all_goals rfl
  cases hf : fdW (lW 0) (wrd t s) with
  | none =>
    rw [hf] at dw
    have kf := m_fails0 (w := w1) s k2.2.2.1
    refine ⟨sI w1 11 0 9 (nI (1 + 8 * s)), FA.sI (by unfold PMc; omega), ?_, gIs_eq⟩
    rw [start, e_X12_clauseHere_29]
    simp (disch := omega) only [dw, Option.isSome_none, e_X12_clauseHere_36, e_X12_clauseHere_49, kf, true_and, and_true, false_and, and_false, beq_t, beq_f, eqN_t, eqN_f, eqL_t, eqL_f, nm1, nm2, nm1', nm2', m1z, m2z, zm1, zm2, m12, m21, lg_cmp_ge, lg_cmp_le, lg_cmp_gt, lg_cmp_lt, lg_cmp_eq, oob, oobL, neg0, negL0, natle_f, or_false, false_or, true_or, or_true, or_self, cl, clL, le_t, le_f, lt_t, lt_f, leL_t, leL_f, ltL_t, ltL_f, leM_t, leM_f, ltM_t, ltM_f, leO_t, leO_f, cond_true, cond_false, Option.bind_some, Option.bind_none, if_false, if_true, nI_1, aL1, aL2, mL1, mL2, nI_add, pk_mul, pk_m1, sL1, dL1, pk_sub, m1p1, gIs_eq, gIs_k, gIs_i, gIs_n, gIs_e, gIJ, gIR, gJI, gJR, gJs_eq, gJs_k, gJs_n, gJs_e, gRI, gRJ, gRs_eq, gRs_k, gRs_i, gRs_n, gZI, gZJ, gZR, pI_s, pJ_s, pV_s, pR_s, pR_n, oR_n, oR_s, decide_true, decide_false, not_true_eq_false, not_false_eq_true, decT, decF, Bool.true_eq_false, Bool.false_eq_true, z01, o01, z1f, z1f', zz, oo, b2i_0, b2i_n, b2i_t, b2i_f, Bool.not_true, Bool.not_false]
  | some j =>
    rw [hf] at dw
    dsimp only
    have s2 : F_X12_clauseHere [.inr (11, 0)] w = (bif decide (¬ nI n = 40) then (q_X12_clauseHere_81 (nI s) 1 w1) else (q_X12_clauseHere_74 (nI s) w1)).bind pI := by
      rw [start, e_X12_clauseHere_29]
      simp (disch := omega) only [dw, Option.isSome_some, e_X12_clauseHere_56, e_X12_clauseHere_64, e_X12_clauseHere_71, j14, true_and, and_true, false_and, and_false, beq_t, beq_f, eqN_t, eqN_f, eqL_t, eqL_f, nm1, nm2, nm1', nm2', m1z, m2z, zm1, zm2, m12, m21, lg_cmp_ge, lg_cmp_le, lg_cmp_gt, lg_cmp_lt, lg_cmp_eq, oob, oobL, neg0, negL0, natle_f, or_false, false_or, true_or, or_true, or_self, cl, clL, le_t, le_f, lt_t, lt_f, leL_t, leL_f, ltL_t, ltL_f, leM_t, leM_f, ltM_t, ltM_f, leO_t, leO_f, cond_true, cond_false, Option.bind_some, Option.bind_none, if_false, if_true, nI_1, aL1, aL2, mL1, mL2, nI_add, pk_mul, pk_m1, sL1, dL1, pk_sub, m1p1, gIs_eq, gIs_k, gIs_i, gIs_n, gIs_e, gIJ, gIR, gJI, gJR, gJs_eq, gJs_k, gJs_n, gJs_e, gRI, gRJ, gRs_eq, gRs_k, gRs_i, gRs_n, gZI, gZJ, gZR, pI_s, pJ_s, pV_s, pR_s, pR_n, oR_n, oR_s, decide_true, decide_false, not_true_eq_false, not_false_eq_true, decT, decF, Bool.true_eq_false, Bool.false_eq_true, z01, o01, z1f, z1f', zz, oo, b2i_0, b2i_n, b2i_t, b2i_f, Bool.not_true, Bool.not_false]
    by_cases n40 : n = 40
    · have kf := m_fails4 (w := w1) s k2.2.2.1
      rw [if_pos (show badD n j d from Or.inl (by omega))]
      refine ⟨sI w1 11 0 9 (nI (1 + 8 * s + 4)), FA.sI (by unfold PMc; omega), ?_, gIs_eq⟩
      rw [s2]
      simp (disch := omega) only [n40, e_X12_clauseHere_74, kf, true_and, and_true, false_and, and_false, beq_t, beq_f, eqN_t, eqN_f, eqL_t, eqL_f, nm1, nm2, nm1', nm2', m1z, m2z, zm1, zm2, m12, m21, lg_cmp_ge, lg_cmp_le, lg_cmp_gt, lg_cmp_lt, lg_cmp_eq, oob, oobL, neg0, negL0, natle_f, or_false, false_or, true_or, or_true, or_self, cl, clL, le_t, le_f, lt_t, lt_f, leL_t, leL_f, ltL_t, ltL_f, leM_t, leM_f, ltM_t, ltM_f, leO_t, leO_f, cond_true, cond_false, Option.bind_some, Option.bind_none, if_false, if_true, nI_1, aL1, aL2, mL1, mL2, nI_add, pk_mul, pk_m1, sL1, dL1, pk_sub, m1p1, gIs_eq, gIs_k, gIs_i, gIs_n, gIs_e, gIJ, gIR, gJI, gJR, gJs_eq, gJs_k, gJs_n, gJs_e, gRI, gRJ, gRs_eq, gRs_k, gRs_i, gRs_n, gZI, gZJ, gZR, pI_s, pJ_s, pV_s, pR_s, pR_n, oR_n, oR_s, decide_true, decide_false, not_true_eq_false, not_false_eq_true, decT, decF, Bool.true_eq_false, Bool.false_eq_true, z01, o01, z1f, z1f', zz, oo, b2i_0, b2i_n, b2i_t, b2i_f, Bool.not_true, Bool.not_false]
    · have F2 : Fr (fun κ _ k => κ = 11 ∧ k = 14) w1 (sI w1 11 0 14 (nI (n + 1))) := (Fr.refl _ _).sI ⟨rfl, rfl⟩
      have R := m_dline hT hI (by omega) (k2.fr F2 (fun κ k q => by omega)) hs (hd1.fr F2 (fun k => by omega)) hf
      obtain ⟨w3, F3, r3⟩ := R
      have FB : Fr PMc w w3 := (FA.trans (F2.mono (fun κ i k q => by unfold PMc; omega))).trans (F3.mono (fun κ i k q => by unfold PMr at q; unfold  PMc; omega))
      have l14 : gI w3 11 0 14 = nI (n + 1) := by rw [(F3 11 0 14 (by unfold PMr; omega)).1]; exact gIs_eq
      have s3 : ∀ v, F_X12_daleLineHere [.inr (11, 0), .inl (.int (nI s))] (sI w1 11 0 14 (nI (n + 1))) = some (b2i v, w3) → F_X12_clauseHere [.inr (11, 0)] w = some (b2i v, w3) := fun v hv => by
        rw [s2]
        simp (disch := omega) only [n40, e_X12_clauseHere_81, j14, e_X12_clauseHere_95, hv, e_X12_clauseHere_107, true_and, and_true, false_and, and_false, beq_t, beq_f, eqN_t, eqN_f, eqL_t, eqL_f, nm1, nm2, nm1', nm2', m1z, m2z, zm1, zm2, m12, m21, lg_cmp_ge, lg_cmp_le, lg_cmp_gt, lg_cmp_lt, lg_cmp_eq, oob, oobL, neg0, negL0, natle_f, or_false, false_or, true_or, or_true, or_self, cl, clL, le_t, le_f, lt_t, lt_f, leL_t, leL_f, ltL_t, ltL_f, leM_t, leM_f, ltM_t, ltM_f, leO_t, leO_f, cond_true, cond_false, Option.bind_some, Option.bind_none, if_false, if_true, nI_1, aL1, aL2, mL1, mL2, nI_add, pk_mul, pk_m1, sL1, dL1, pk_sub, m1p1, gIs_eq, gIs_k, gIs_i, gIs_n, gIs_e, gIJ, gIR, gJI, gJR, gJs_eq, gJs_k, gJs_n, gJs_e, gRI, gRJ, gRs_eq, gRs_k, gRs_i, gRs_n, gZI, gZJ, gZR, pI_s, pJ_s, pV_s, pR_s, pR_n, oR_n, oR_s, decide_true, decide_false, not_true_eq_false, not_false_eq_true, decT, decF, Bool.true_eq_false, Bool.false_eq_true, z01, o01, z1f, z1f', zz, oo, b2i_0, b2i_n, b2i_t, b2i_f, Bool.not_true, Bool.not_false]
        cases v <;> rfl
      refine ⟨w3, FB, ?_⟩
      revert r3
      cases (by classical exact if badD n j d then Sum.inl (1 + 8 * s + 4) else clD t j (le t s) d : Nat ⊕ (Nat × Dl)) with
      | inl f =>
        intro r3
        exact ⟨s3 false r3.1, r3.2⟩
      | inr q =>
        intro r3
        exact ⟨s3 true r3.1, r3.2.1, r3.2.2, l14⟩
