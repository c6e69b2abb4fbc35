/-! ===== the model reads a rule: terms, sums, comparisons ===== -/
theorem ch_eq {t : Tp} (hT : TOk2 t) {q c : Nat} (hc : c < 256) (h : chS t q = nI c) : q < t.1 ∧ t.2 q = c := by
  unfold chS at h
  by_cases z : q < t.1
  · rw [if_pos z] at h
    have := hT.2 _ z
    exact ⟨z, (nI_eq (by omega) (by omega)).mp h⟩
  · rw [if_neg z] at h
    have h : nI c = -1 := h.symm
    rw [nm1 (by omega)] at h
    exact h.elim
theorem tk42 {t : Tp} (hT : TOk2 t) {p : Nat} (h : ¬ (tkA t p).1 = 1) : ¬ chS t (sk t p) = 42 ∧ ¬ chS t (sk t p) = 47 ∧ ¬ chS t (sk t p) = 37 := by
  refine ⟨fun z => ?_, fun z => ?_, fun z => ?_⟩
  · obtain ⟨z1, z2⟩ := ch_eq hT (c := 42) (by omega) z
    exact h (by unfold tkA; rw [if_pos z1, z2]; rfl)
  · obtain ⟨z1, z2⟩ := ch_eq hT (c := 47) (by omega) z
    exact h (by unfold tkA; rw [if_pos z1, z2]; rfl)
  · obtain ⟨z1, z2⟩ := ch_eq hT (c := 37) (by omega) z
    exact h (by unfold tkA; rw [if_pos z1, z2]; rfl)
theorem tk43 {t : Tp} (hT : TOk2 t) {p : Nat} (h : ¬ (tkA t p).1 = 2) : ¬ chS t (sk t p) = 43 ∧ ¬ chS t (sk t p) = 45 := by
  refine ⟨fun z => ?_, fun z => ?_⟩
  · obtain ⟨z1, z2⟩ := ch_eq hT (c := 43) (by omega) z
    exact h (by unfold tkA; rw [if_pos z1, z2]; rfl)
  · obtain ⟨z1, z2⟩ := ch_eq hT (c := 45) (by omega) z
    exact h (by unfold tkA; rw [if_pos z1, z2]; rfl)
theorem sb_c : ∀ c : Fin 128, sbS c.val = nI c.val := by decide +kernel
theorem adL (s : St) (c : Int32) : (adS s c).2.2.length = s.2.2.length + 1 := by
  show (s.2.2 ++ [_]).length = _
  rw [List.length_append, List.length_singleton]
theorem m_termloop {T : Nat} (hT6 : T < 6) {t : Tp} (hT : TOk2 t) : ∀ (m : Nat) (s : St) (w : XW), t.1 - s.1 = m → MRt T w t s → s.2.1 ≤ 60 → s.2.2.length ≤ s.1 → RMr T ((q_X12_term_9 w).bind pI) w t (tlS' t (vlS t) (tkA t) s) := by
  have h4 := hT.1
  have hV := vl_ok hT
  have hK := tkA_ok t
  intro m
  induction m using Nat.strongRecOn with
  | ind m ih =>
    intro s w hm h hn hl
    have hp := h.1.2.2.2
    have hk := sk_le hp
    have ek := sk_sk hp
    obtain ⟨w1, k1, k2, k3⟩ := m_see hT h.1
    have k4 := m_see0 hT k2 ek
    have F1 : Fr (PMv T) w w1 := f8v k3
    have C1 : MRt T w1 t (sk t s.1, s.2) := h.at k3 (fun κ k q => by unfold PM8; omega) k2
    have g8 := k2.2.1
    by_cases n1 : (tkA t s.1).1 = 1
    · have key : sk t s.1 < t.1 ∧ (tkA t s.1).2.1 = sk t s.1 + 1 ∧ ∃ e, q_X12_term_9 w = q_X12_term_74 e w1 ∧ e + 16 * 0 = encS (tkA t s.1).2.2 := by
        have z1 : ¬ nI 47 = 42 := by decide
        have z2 : ¬ nI 37 = 42 := by decide
        have z3 : ¬ nI 37 = 47 := by decide
        rcases tkA_cases t s.1 with c | ⟨c, c1 | c1 | c1 | c1 | c1⟩
        · rw [c] at n1; exact absurd n1 (by decide)
        · rw [c1.2] at n1; exact absurd n1 (by decide : ¬ (2 : Nat) = 1)
        · rw [c1.2] at n1; exact absurd n1 (by decide : ¬ (2 : Nat) = 1)
        · have e1 : chS t (sk t s.1) = 42 := by unfold chS; rw [if_pos c, c1.1]; rfl
          have g41 : gI w1 41 0 (sk t s.1) = 42 := by rw [k2.1.2 _ c, c1.1]; exact sb_c ⟨42, by omega⟩
          rw [e1] at k1 k4
          refine ⟨c, by rw [c1.2], 4, ?_, by rw [c1.2]; dsimp only; decide⟩
          ((try dsimp only); rw [e_X12_term_9]; simp (disch := omega) only [k1, e_X12_term_36, g8, g41, e_X12_term_50, true_and, and_true, false_and, and_false, beq_t, beq_f, eqN_t, eqN_f, eqL_t, eqL_f, nm1, nm2, nm1', nm2', m1z, m2z, zm1, zm2, m12, m21, lg_cmp_ge, lg_cmp_le, lg_cmp_gt, lg_cmp_lt, lg_cmp_eq, oob, oobL, neg0, negL0, natle_f, or_false, false_or, true_or, or_true, or_self, cl, clL, le_t, le_f, lt_t, lt_f, leL_t, leL_f, ltL_t, ltL_f, leM_t, leM_f, ltM_t, ltM_f, leO_t, leO_f, cond_true, cond_false, Option.bind_some, Option.bind_none, if_false, if_true, nI_1, aL1, aL2, mL1, mL2, nI_add, pk_mul, pk_m1, sL1, dL1, pk_sub, m1p1, gIs_eq, gIs_k, gIs_i, gIs_n, gIs_e, gIJ, gIR, gJI, gJR, gJs_eq, gJs_k, gJs_n, gJs_e, gRI, gRJ, gRs_eq, gRs_k, gRs_i, gRs_n, gZI, gZJ, gZR, pI_s, pJ_s, pV_s, pR_s, pR_n, oR_n, oR_s, decide_true, decide_false, not_true_eq_false, not_false_eq_true, decT, decF, Bool.true_eq_false, Bool.false_eq_true, z01, o01, z1f, z1f', zz, oo, b2i_0, b2i_n, b2i_t, b2i_f, Bool.not_true, Bool.not_false])
        · have e1 : chS t (sk t s.1) = nI 47 := by unfold chS; rw [if_pos c, c1.1]
          have g41 : gI w1 41 0 (sk t s.1) = nI 47 := by rw [k2.1.2 _ c, c1.1]; exact sb_c ⟨47, by omega⟩
          have e47 : (nI 47 = 47) = True := by decide
          rw [e1] at k1 k4
          refine ⟨c, by rw [c1.2], 5, ?_, by rw [c1.2]; dsimp only; decide⟩
          ((try dsimp only); rw [e_X12_term_9]; simp (disch := omega) only [k1, z1, e_X12_term_18, k4, e47, e_X12_term_36, g8, g41, e_X12_term_54, e_X12_term_68, true_and, and_true, false_and, and_false, beq_t, beq_f, eqN_t, eqN_f, eqL_t, eqL_f, nm1, nm2, nm1', nm2', m1z, m2z, zm1, zm2, m12, m21, lg_cmp_ge, lg_cmp_le, lg_cmp_gt, lg_cmp_lt, lg_cmp_eq, oob, oobL, neg0, negL0, natle_f, or_false, false_or, true_or, or_true, or_self, cl, clL, le_t, le_f, lt_t, lt_f, leL_t, leL_f, ltL_t, ltL_f, leM_t, leM_f, ltM_t, ltM_f, leO_t, leO_f, cond_true, cond_false, Option.bind_some, Option.bind_none, if_false, if_true, nI_1, aL1, aL2, mL1, mL2, nI_add, pk_mul, pk_m1, sL1, dL1, pk_sub, m1p1, gIs_eq, gIs_k, gIs_i, gIs_n, gIs_e, gIJ, gIR, gJI, gJR, gJs_eq, gJs_k, gJs_n, gJs_e, gRI, gRJ, gRs_eq, gRs_k, gRs_i, gRs_n, gZI, gZJ, gZR, pI_s, pJ_s, pV_s, pR_s, pR_n, oR_n, oR_s, decide_true, decide_false, not_true_eq_false, not_false_eq_true, decT, decF, Bool.true_eq_false, Bool.false_eq_true, z01, o01, z1f, z1f', zz, oo, b2i_0, b2i_n, b2i_t, b2i_f, Bool.not_true, Bool.not_false])
        · have e1 : chS t (sk t s.1) = nI 37 := by unfold chS; rw [if_pos c, c1.1]
          have g41 : gI w1 41 0 (sk t s.1) = nI 37 := by rw [k2.1.2 _ c, c1.1]; exact sb_c ⟨37, by omega⟩
          have e37 : (nI 37 = 37) = True := by decide
          rw [e1] at k1 k4
          refine ⟨c, by rw [c1.2], 14, ?_, by rw [c1.2]; dsimp only; decide⟩
          ((try dsimp only); rw [e_X12_term_9]; simp (disch := omega) only [k1, z2, z3, e_X12_term_18, k4, e_X12_term_27, e37, e_X12_term_36, g8, g41, e_X12_term_54, e_X12_term_72, true_and, and_true, false_and, and_false, beq_t, beq_f, eqN_t, eqN_f, eqL_t, eqL_f, nm1, nm2, nm1', nm2', m1z, m2z, zm1, zm2, m12, m21, lg_cmp_ge, lg_cmp_le, lg_cmp_gt, lg_cmp_lt, lg_cmp_eq, oob, oobL, neg0, negL0, natle_f, or_false, false_or, true_or, or_true, or_self, cl, clL, le_t, le_f, lt_t, lt_f, leL_t, leL_f, ltL_t, ltL_f, leM_t, leM_f, ltM_t, ltM_f, leO_t, leO_f, cond_true, cond_false, Option.bind_some, Option.bind_none, if_false, if_true, nI_1, aL1, aL2, mL1, mL2, nI_add, pk_mul, pk_m1, sL1, dL1, pk_sub, m1p1, gIs_eq, gIs_k, gIs_i, gIs_n, gIs_e, gIJ, gIR, gJI, gJR, gJs_eq, gJs_k, gJs_n, gJs_e, gRI, gRJ, gRs_eq, gRs_k, gRs_i, gRs_n, gZI, gZJ, gZR, pI_s, pJ_s, pV_s, pR_s, pR_n, oR_n, oR_s, decide_true, decide_false, not_true_eq_false, not_false_eq_true, decT, decF, Bool.true_eq_false, Bool.false_eq_true, z01, o01, z1f, z1f', zz, oo, b2i_0, b2i_n, b2i_t, b2i_f, Bool.not_true, Bool.not_false])
      obtain ⟨c, b1, e, kd, he⟩ := key
      rw [tl_1 hV hK hp hn n1, b1]
      have C2 : MRt T (sI w1 11 0 8 (nI (sk t s.1 + 1))) t (sk t s.1 + 1, s.2) := C1.at (P := PM8) ((Fr.refl _ _).sI ⟨rfl, rfl⟩) (fun κ k q => by unfold PM8; omega) (k2.to c)
      have F2 : Fr (PMv T) w (sI w1 11 0 8 (nI (sk t s.1 + 1))) := F1.sI (by unfold PMv; omega)
      have R := m_value hT6 hT C2 hn (by show s.2.2.length ≤ sk t s.1 + 1; omega)
      refine RMr.fr (w1 := sI w1 11 0 8 (nI (sk t s.1 + 1))) (R.then (F2 := (q_X12_term_9 w).bind pI) (fun w' hw => ?_) (fun s' w' hs hw hF hC => ?_)) F2 rfl
      · rw [kd, e_X12_term_74]
        simp (disch := omega) only [g8, hw, e_X12_term_92, true_and, and_true, false_and, and_false, beq_t, beq_f, eqN_t, eqN_f, eqL_t, eqL_f, nm1, nm2, nm1', nm2', m1z, m2z, zm1, zm2, m12, m21, lg_cmp_ge, lg_cmp_le, lg_cmp_gt, lg_cmp_lt, lg_cmp_eq, oob, oobL, neg0, negL0, natle_f, or_false, false_or, true_or, or_true, or_self, cl, clL, le_t, le_f, lt_t, lt_f, leL_t, leL_f, ltL_t, ltL_f, leM_t, leM_f, ltM_t, ltM_f, leO_t, leO_f, cond_true, cond_false, Option.bind_some, Option.bind_none, if_false, if_true, nI_1, aL1, aL2, mL1, mL2, nI_add, pk_mul, pk_m1, sL1, dL1, pk_sub, m1p1, gIs_eq, gIs_k, gIs_i, gIs_n, gIs_e, gIJ, gIR, gJI, gJR, gJs_eq, gJs_k, gJs_n, gJs_e, gRI, gRJ, gRs_eq, gRs_k, gRs_i, gRs_n, gZI, gZJ, gZR, pI_s, pJ_s, pV_s, pR_s, pR_n, oR_n, oR_s, decide_true, decide_false, not_true_eq_false, not_false_eq_true, decT, decF, Bool.true_eq_false, Bool.false_eq_true, z01, o01, z1f, z1f', zz, oo, b2i_0, b2i_n, b2i_t, b2i_f, Bool.not_true, Bool.not_false]
      · have gv := (hV (sk t s.1 + 1, s.2) c hn).1 s' hs
        have hlt : sk t s.1 + 1 < s'.1 := gv.lt
        have hle : s'.2.2.length + (sk t s.1 + 1) ≤ s.2.2.length + s'.1 := gv.len.1
        have hs4 := gv.1
        obtain ⟨w3, a1, a2, a3⟩ := m_puts hT6 hC (by omega) he
        have e5 : q_X12_term_9 w = q_X12_term_9 w3 := by
          rw [kd, e_X12_term_74]
          simp (disch := omega) only [g8, hw, e_X12_term_94, a1, true_and, and_true, false_and, and_false, beq_t, beq_f, eqN_t, eqN_f, eqL_t, eqL_f, nm1, nm2, nm1', nm2', m1z, m2z, zm1, zm2, m12, m21, lg_cmp_ge, lg_cmp_le, lg_cmp_gt, lg_cmp_lt, lg_cmp_eq, oob, oobL, neg0, negL0, natle_f, or_false, false_or, true_or, or_true, or_self, cl, clL, le_t, le_f, lt_t, lt_f, leL_t, leL_f, ltL_t, ltL_f, leM_t, leM_f, ltM_t, ltM_f, leO_t, leO_f, cond_true, cond_false, Option.bind_some, Option.bind_none, if_false, if_true, nI_1, aL1, aL2, mL1, mL2, nI_add, pk_mul, pk_m1, sL1, dL1, pk_sub, m1p1, gIs_eq, gIs_k, gIs_i, gIs_n, gIs_e, gIJ, gIR, gJI, gJR, gJs_eq, gJs_k, gJs_n, gJs_e, gRI, gRJ, gRs_eq, gRs_k, gRs_i, gRs_n, gZI, gZJ, gZR, pI_s, pJ_s, pV_s, pR_s, pR_n, oR_n, oR_s, decide_true, decide_false, not_true_eq_false, not_false_eq_true, decT, decF, Bool.true_eq_false, Bool.false_eq_true, z01, o01, z1f, z1f', zz, oo, b2i_0, b2i_n, b2i_t, b2i_f, Bool.not_true, Bool.not_false]
        rw [e5]
        exact (ih (t.1 - s'.1) (by omega) (adS s' (tkA t s.1).2.2) w3 rfl a2 gv.2.1 (by rw [adL]; show _ ≤ s'.1; omega)).fr (fPv a3) rfl
    · obtain ⟨z1, z2, z3⟩ := tk42 hT n1
      rw [tl_0 hp n1]
      refine ⟨w1, F1, ?_, C1⟩
      ((try dsimp only); rw [e_X12_term_9]; simp (disch := omega) only [k1, z1, e_X12_term_18, k4, z2, e_X12_term_27, z3, e_X12_term_103, true_and, and_true, false_and, and_false, beq_t, beq_f, eqN_t, eqN_f, eqL_t, eqL_f, nm1, nm2, nm1', nm2', m1z, m2z, zm1, zm2, m12, m21, lg_cmp_ge, lg_cmp_le, lg_cmp_gt, lg_cmp_lt, lg_cmp_eq, oob, oobL, neg0, negL0, natle_f, or_false, false_or, true_or, or_true, or_self, cl, clL, le_t, le_f, lt_t, lt_f, leL_t, leL_f, ltL_t, ltL_f, leM_t, leM_f, ltM_t, ltM_f, leO_t, leO_f, cond_true, cond_false, Option.bind_some, Option.bind_none, if_false, if_true, nI_1, aL1, aL2, mL1, mL2, nI_add, pk_mul, pk_m1, sL1, dL1, pk_sub, m1p1, gIs_eq, gIs_k, gIs_i, gIs_n, gIs_e, gIJ, gIR, gJI, gJR, gJs_eq, gJs_k, gJs_n, gJs_e, gRI, gRJ, gRs_eq, gRs_k, gRs_i, gRs_n, gZI, gZJ, gZR, pI_s, pJ_s, pV_s, pR_s, pR_n, oR_n, oR_s, decide_true, decide_false, not_true_eq_false, not_false_eq_true, decT, decF, Bool.true_eq_false, Bool.false_eq_true, z01, o01, z1f, z1f', zz, oo, b2i_0, b2i_n, b2i_t, b2i_f, Bool.not_true, Bool.not_false])
theorem m_term {T : Nat} (hT6 : T < 6) {t : Tp} (hT : TOk2 t) {s : St} {w : XW} (h : MRt T w t s) (hn : s.2.1 ≤ 60) (hl : s.2.2.length ≤ s.1) : RMr T (F_X12_term [.inr (11, 0)] w) w t (sB (vlS t s) (tlS' t (vlS t) (tkA t))) := by
  have hp := h.1.2.2.2
  have R := m_value hT6 hT h hn hl
  refine R.then (fun w' hw => ?_) (fun s' w' hs hw hF hC => ?_)
  · rw [f_X12_term, e_X12_term_0]
    simp (disch := omega) only [hw, e_X12_term_7, true_and, and_true, false_and, and_false, beq_t, beq_f, eqN_t, eqN_f, eqL_t, eqL_f, nm1, nm2, nm1', nm2', m1z, m2z, zm1, zm2, m12, m21, lg_cmp_ge, lg_cmp_le, lg_cmp_gt, lg_cmp_lt, lg_cmp_eq, oob, oobL, neg0, negL0, natle_f, or_false, false_or, true_or, or_true, or_self, cl, clL, le_t, le_f, lt_t, lt_f, leL_t, leL_f, ltL_t, ltL_f, leM_t, leM_f, ltM_t, ltM_f, leO_t, leO_f, cond_true, cond_false, Option.bind_some, Option.bind_none, if_false, if_true, nI_1, aL1, aL2, mL1, mL2, nI_add, pk_mul, pk_m1, sL1, dL1, pk_sub, m1p1, gIs_eq, gIs_k, gIs_i, gIs_n, gIs_e, gIJ, gIR, gJI, gJR, gJs_eq, gJs_k, gJs_n, gJs_e, gRI, gRJ, gRs_eq, gRs_k, gRs_i, gRs_n, gZI, gZJ, gZR, pI_s, pJ_s, pV_s, pR_s, pR_n, oR_n, oR_s, decide_true, decide_false, not_true_eq_false, not_false_eq_true, decT, decF, Bool.true_eq_false, Bool.false_eq_true, z01, o01, z1f, z1f', zz, oo, b2i_0, b2i_n, b2i_t, b2i_f, Bool.not_true, Bool.not_false]
  · have gv := (vl_ok hT s hp hn).1 s' hs
    have hle := gv.len.1
    have e5 : F_X12_term [.inr (11, 0)] w = (q_X12_term_9 w').bind pI := by
      rw [f_X12_term, e_X12_term_0]
      simp (disch := omega) only [hw, true_and, and_true, false_and, and_false, beq_t, beq_f, eqN_t, eqN_f, eqL_t, eqL_f, nm1, nm2, nm1', nm2', m1z, m2z, zm1, zm2, m12, m21, lg_cmp_ge, lg_cmp_le, lg_cmp_gt, lg_cmp_lt, lg_cmp_eq, oob, oobL, neg0, negL0, natle_f, or_false, false_or, true_or, or_true, or_self, cl, clL, le_t, le_f, lt_t, lt_f, leL_t, leL_f, ltL_t, ltL_f, leM_t, leM_f, ltM_t, ltM_f, leO_t, leO_f, cond_true, cond_false, Option.bind_some, Option.bind_none, if_false, if_true, nI_1, aL1, aL2, mL1, mL2, nI_add, pk_mul, pk_m1, sL1, dL1, pk_sub, m1p1, gIs_eq, gIs_k, gIs_i, gIs_n, gIs_e, gIJ, gIR, gJI, gJR, gJs_eq, gJs_k, gJs_n, gJs_e, gRI, gRJ, gRs_eq, gRs_k, gRs_i, gRs_n, gZI, gZJ, gZR, pI_s, pJ_s, pV_s, pR_s, pR_n, oR_n, oR_s, decide_true, decide_false, not_true_eq_false, not_false_eq_true, decT, decF, Bool.true_eq_false, Bool.false_eq_true, z01, o01, z1f, z1f', zz, oo, b2i_0, b2i_n, b2i_t, b2i_f, Bool.not_true, Bool.not_false]
    rw [e5]
    exact m_termloop hT6 hT _ s' w' rfl hC gv.2.1 (by omega)
theorem m_sumloop {T : Nat} (hT6 : T < 6) {t : Tp} (hT : TOk2 t) : ∀ (m : Nat) (s : St) (w : XW), t.1 - s.1 = m → MRt T w t s → s.2.1 ≤ 60 → s.2.2.length ≤ s.1 → RMr T ((q_X12_sum_9 w).bind pI) w t (slS' t (vlS t) (tkA t) s) := by
  have h4 := hT.1
  have hV := vl_ok hT
  have hK := tkA_ok t
  intro m
  induction m using Nat.strongRecOn with
  | ind m ih =>
    intro s w hm h hn hl
    have hp := h.1.2.2.2
    have hk := sk_le hp
    have ek := sk_sk hp
    obtain ⟨w1, k1, k2, k3⟩ := m_see hT h.1
    have k4 := m_see0 hT k2 ek
    have F1 : Fr (PMv T) w w1 := f8v k3
    have C1 : MRt T w1 t (sk t s.1, s.2) := h.at k3 (fun κ k q => by unfold PM8; omega) k2
    have g8 := k2.2.1
    by_cases n2 : (tkA t s.1).1 = 2
    · have key : sk t s.1 < t.1 ∧ (tkA t s.1).2.1 = sk t s.1 + 1 ∧ ∃ e, q_X12_sum_9 w = q_X12_sum_46 e w1 ∧ e + 16 * 0 = encS (tkA t s.1).2.2 := by
        have z1 : ¬ nI 45 = 43 := by decide
        rcases tkA_cases t s.1 with c | ⟨c, c1 | c1 | c1 | c1 | c1⟩
        · rw [c] at n2; exact absurd n2 (by decide)
        · have e1 : chS t (sk t s.1) = 43 := by unfold chS; rw [if_pos c, c1.1]; rfl
          have g41 : gI w1 41 0 (sk t s.1) = 43 := by rw [k2.1.2 _ c, c1.1]; exact sb_c ⟨43, by omega⟩
          rw [e1] at k1 k4
          refine ⟨c, by rw [c1.2], 2, ?_, by rw [c1.2]; dsimp only; decide⟩
          ((try dsimp only); rw [e_X12_sum_9]; simp (disch := omega) only [k1, e_X12_sum_27, g8, g41, e_X12_sum_41, true_and, and_true, false_and, and_false, beq_t, beq_f, eqN_t, eqN_f, eqL_t, eqL_f, nm1, nm2, nm1', nm2', m1z, m2z, zm1, zm2, m12, m21, lg_cmp_ge, lg_cmp_le, lg_cmp_gt, lg_cmp_lt, lg_cmp_eq, oob, oobL, neg0, negL0, natle_f, or_false, false_or, true_or, or_true, or_self, cl, clL, le_t, le_f, lt_t, lt_f, leL_t, leL_f, ltL_t, ltL_f, leM_t, leM_f, ltM_t, ltM_f, leO_t, leO_f, cond_true, cond_false, Option.bind_some, Option.bind_none, if_false, if_true, nI_1, aL1, aL2, mL1, mL2, nI_add, pk_mul, pk_m1, sL1, dL1, pk_sub, m1p1, gIs_eq, gIs_k, gIs_i, gIs_n, gIs_e, gIJ, gIR, gJI, gJR, gJs_eq, gJs_k, gJs_n, gJs_e, gRI, gRJ, gRs_eq, gRs_k, gRs_i, gRs_n, gZI, gZJ, gZR, pI_s, pJ_s, pV_s, pR_s, pR_n, oR_n, oR_s, decide_true, decide_false, not_true_eq_false, not_false_eq_true, decT, decF, Bool.true_eq_false, Bool.false_eq_true, z01, o01, z1f, z1f', zz, oo, b2i_0, b2i_n, b2i_t, b2i_f, Bool.not_true, Bool.not_false])
        · have e1 : chS t (sk t s.1) = nI 45 := by unfold chS; rw [if_pos c, c1.1]
          have g41 : gI w1 41 0 (sk t s.1) = nI 45 := by rw [k2.1.2 _ c, c1.1]; exact sb_c ⟨45, by omega⟩
          have e45 : (nI 45 = 45) = True := by decide
          rw [e1] at k1 k4
          refine ⟨c, by rw [c1.2], 3, ?_, by rw [c1.2]; dsimp only; decide⟩
          ((try dsimp only); rw [e_X12_sum_9]; simp (disch := omega) only [k1, z1, e_X12_sum_18, k4, e45, e_X12_sum_27, g8, g41, e_X12_sum_45, true_and, and_true, false_and, and_false, beq_t, beq_f, eqN_t, eqN_f, eqL_t, eqL_f, nm1, nm2, nm1', nm2', m1z, m2z, zm1, zm2, m12, m21, lg_cmp_ge, lg_cmp_le, lg_cmp_gt, lg_cmp_lt, lg_cmp_eq, oob, oobL, neg0, negL0, natle_f, or_false, false_or, true_or, or_true, or_self, cl, clL, le_t, le_f, lt_t, lt_f, leL_t, leL_f, ltL_t, ltL_f, leM_t, leM_f, ltM_t, ltM_f, leO_t, leO_f, cond_true, cond_false, Option.bind_some, Option.bind_none, if_false, if_true, nI_1, aL1, aL2, mL1, mL2, nI_add, pk_mul, pk_m1, sL1, dL1, pk_sub, m1p1, gIs_eq, gIs_k, gIs_i, gIs_n, gIs_e, gIJ, gIR, gJI, gJR, gJs_eq, gJs_k, gJs_n, gJs_e, gRI, gRJ, gRs_eq, gRs_k, gRs_i, gRs_n, gZI, gZJ, gZR, pI_s, pJ_s, pV_s, pR_s, pR_n, oR_n, oR_s, decide_true, decide_false, not_true_eq_false, not_false_eq_true, decT, decF, Bool.true_eq_false, Bool.false_eq_true, z01, o01, z1f, z1f', zz, oo, b2i_0, b2i_n, b2i_t, b2i_f, Bool.not_true, Bool.not_false])
        · rw [c1.2] at n2; exact absurd n2 (by decide : ¬ (1 : Nat) = 2)
        · rw [c1.2] at n2; exact absurd n2 (by decide : ¬ (1 : Nat) = 2)
        · rw [c1.2] at n2; exact absurd n2 (by decide : ¬ (1 : Nat) = 2)
      obtain ⟨c, b1, e, kd, he⟩ := key
      rw [sl_2 hV hK hp hn n2, b1]
      have C2 : MRt T (sI w1 11 0 8 (nI (sk t s.1 + 1))) t (sk t s.1 + 1, s.2) := C1.at (P := PM8) ((Fr.refl _ _).sI ⟨rfl, rfl⟩) (fun κ k q => by unfold PM8; omega) (k2.to c)
      have F2 : Fr (PMv T) w (sI w1 11 0 8 (nI (sk t s.1 + 1))) := F1.sI (by unfold PMv; omega)
      have R := m_term hT6 hT C2 hn (by show s.2.2.length ≤ sk t s.1 + 1; omega)
      refine RMr.fr (w1 := sI w1 11 0 8 (nI (sk t s.1 + 1))) (R.then (F2 := (q_X12_sum_9 w).bind pI) (fun w' hw => ?_) (fun s' w' hs hw hF hC => ?_)) F2 rfl
      · rw [kd, e_X12_sum_46]
        simp (disch := omega) only [g8, hw, e_X12_sum_64, true_and, and_true, false_and, and_false, beq_t, beq_f, eqN_t, eqN_f, eqL_t, eqL_f, nm1, nm2, nm1', nm2', m1z, m2z, zm1, zm2, m12, m21, lg_cmp_ge, lg_cmp_le, lg_cmp_gt, lg_cmp_lt, lg_cmp_eq, oob, oobL, neg0, negL0, natle_f, or_false, false_or, true_or, or_true, or_self, cl, clL, le_t, le_f, lt_t, lt_f, leL_t, leL_f, ltL_t, ltL_f, leM_t, leM_f, ltM_t, ltM_f, leO_t, leO_f, cond_true, cond_false, Option.bind_some, Option.bind_none, if_false, if_true, nI_1, aL1, aL2, mL1, mL2, nI_add, pk_mul, pk_m1, sL1, dL1, pk_sub, m1p1, gIs_eq, gIs_k, gIs_i, gIs_n, gIs_e, gIJ, gIR, gJI, gJR, gJs_eq, gJs_k, gJs_n, gJs_e, gRI, gRJ, gRs_eq, gRs_k, gRs_i, gRs_n, gZI, gZJ, gZR, pI_s, pJ_s, pV_s, pR_s, pR_n, oR_n, oR_s, decide_true, decide_false, not_true_eq_false, not_false_eq_true, decT, decF, Bool.true_eq_false, Bool.false_eq_true, z01, o01, z1f, z1f', zz, oo, b2i_0, b2i_n, b2i_t, b2i_f, Bool.not_true, Bool.not_false]
      · have gv := (vt_ok hV hK (sk t s.1 + 1, s.2) c hn).1 s' hs
        have hlt : sk t s.1 + 1 < s'.1 := gv.lt
        have hle : s'.2.2.length + (sk t s.1 + 1) ≤ s.2.2.length + s'.1 := gv.len.1
        have hs4 := gv.1
        obtain ⟨w3, a1, a2, a3⟩ := m_puts hT6 hC (by omega) he
        have e5 : q_X12_sum_9 w = q_X12_sum_9 w3 := by
          rw [kd, e_X12_sum_46]
          simp (disch := omega) only [g8, hw, e_X12_sum_66, a1, true_and, and_true, false_and, and_false, beq_t, beq_f, eqN_t, eqN_f, eqL_t, eqL_f, nm1, nm2, nm1', nm2', m1z, m2z, zm1, zm2, m12, m21, lg_cmp_ge, lg_cmp_le, lg_cmp_gt, lg_cmp_lt, lg_cmp_eq, oob, oobL, neg0, negL0, natle_f, or_false, false_or, true_or, or_true, or_self, cl, clL, le_t, le_f, lt_t, lt_f, leL_t, leL_f, ltL_t, ltL_f, leM_t, leM_f, ltM_t, ltM_f, leO_t, leO_f, cond_true, cond_false, Option.bind_some, Option.bind_none, if_false, if_true, nI_1, aL1, aL2, mL1, mL2, nI_add, pk_mul, pk_m1, sL1, dL1, pk_sub, m1p1, gIs_eq, gIs_k, gIs_i, gIs_n, gIs_e, gIJ, gIR, gJI, gJR, gJs_eq, gJs_k, gJs_n, gJs_e, gRI, gRJ, gRs_eq, gRs_k, gRs_i, gRs_n, gZI, gZJ, gZR, pI_s, pJ_s, pV_s, pR_s, pR_n, oR_n, oR_s, decide_true, decide_false, not_true_eq_false, not_false_eq_true, decT, decF, Bool.true_eq_false, Bool.false_eq_true, z01, o01, z1f, z1f', zz, oo, b2i_0, b2i_n, b2i_t, b2i_f, Bool.not_true, Bool.not_false]
        rw [e5]
        exact (ih (t.1 - s'.1) (by omega) (adS s' (tkA t s.1).2.2) w3 rfl a2 gv.2.1 (by rw [adL]; show _ ≤ s'.1; omega)).fr (fPv a3) rfl
    · obtain ⟨z1, z2⟩ := tk43 hT n2
      rw [sl_0 hp n2]
      refine ⟨w1, F1, ?_, C1⟩
      ((try dsimp only); rw [e_X12_sum_9]; simp (disch := omega) only [k1, z1, e_X12_sum_18, k4, z2, e_X12_sum_75, true_and, and_true, false_and, and_false, beq_t, beq_f, eqN_t, eqN_f, eqL_t, eqL_f, nm1, nm2, nm1', nm2', m1z, m2z, zm1, zm2, m12, m21, lg_cmp_ge, lg_cmp_le, lg_cmp_gt, lg_cmp_lt, lg_cmp_eq, oob, oobL, neg0, negL0, natle_f, or_false, false_or, true_or, or_true, or_self, cl, clL, le_t, le_f, lt_t, lt_f, leL_t, leL_f, ltL_t, ltL_f, leM_t, leM_f, ltM_t, ltM_f, leO_t, leO_f, cond_true, cond_false, Option.bind_some, Option.bind_none, if_false, if_true, nI_1, aL1, aL2, mL1, mL2, nI_add, pk_mul, pk_m1, sL1, dL1, pk_sub, m1p1, gIs_eq, gIs_k, gIs_i, gIs_n, gIs_e, gIJ, gIR, gJI, gJR, gJs_eq, gJs_k, gJs_n, gJs_e, gRI, gRJ, gRs_eq, gRs_k, gRs_i, gRs_n, gZI, gZJ, gZR, pI_s, pJ_s, pV_s, pR_s, pR_n, oR_n, oR_s, decide_true, decide_false, not_true_eq_false, not_false_eq_true, decT, decF, Bool.true_eq_false, Bool.false_eq_true, z01, o01, z1f, z1f', zz, oo, b2i_0, b2i_n, b2i_t, b2i_f, Bool.not_true, Bool.not_false])
theorem m_sum {T : Nat} (hT6 : T < 6) {t : Tp} (hT : TOk2 t) {s : St} {w : XW} (h : MRt T w t s) (hn : s.2.1 ≤ 60) (hl : s.2.2.length ≤ s.1) : RMr T (F_X12_sum [.inr (11, 0)] w) w t (smS t s) := by
  have hp := h.1.2.2.2
  have R := m_term hT6 hT h hn hl
  refine R.then (fun w' hw => ?_) (fun s' w' hs hw hF hC => ?_)
  · rw [f_X12_sum, e_X12_sum_0]
    simp (disch := omega) only [hw, e_X12_sum_7, true_and, and_true, false_and, and_false, beq_t, beq_f, eqN_t, eqN_f, eqL_t, eqL_f, nm1, nm2, nm1', nm2', m1z, m2z, zm1, zm2, m12, m21, lg_cmp_ge, lg_cmp_le, lg_cmp_gt, lg_cmp_lt, lg_cmp_eq, oob, oobL, neg0, negL0, natle_f, or_false, false_or, true_or, or_true, or_self, cl, clL, le_t, le_f, lt_t, lt_f, leL_t, leL_f, ltL_t, ltL_f, leM_t, leM_f, ltM_t, ltM_f, leO_t, leO_f, cond_true, cond_false, Option.bind_some, Option.bind_none, if_false, if_true, nI_1, aL1, aL2, mL1, mL2, nI_add, pk_mul, pk_m1, sL1, dL1, pk_sub, m1p1, gIs_eq, gIs_k, gIs_i, gIs_n, gIs_e, gIJ, gIR, gJI, gJR, gJs_eq, gJs_k, gJs_n, gJs_e, gRI, gRJ, gRs_eq, gRs_k, gRs_i, gRs_n, gZI, gZJ, gZR, pI_s, pJ_s, pV_s, pR_s, pR_n, oR_n, oR_s, decide_true, decide_false, not_true_eq_false, not_false_eq_true, decT, decF, Bool.true_eq_false, Bool.false_eq_true, z01, o01, z1f, z1f', zz, oo, b2i_0, b2i_n, b2i_t, b2i_f, Bool.not_true, Bool.not_false]
  · have gv := (vt_ok (vl_ok hT) (tkA_ok t) s hp hn).1 s' hs
    have hle := gv.len.1
    have e5 : F_X12_sum [.inr (11, 0)] w = (q_X12_sum_9 w').bind pI := by
      rw [f_X12_sum, e_X12_sum_0]
      simp (disch := omega) only [hw, true_and, and_true, false_and, and_false, beq_t, beq_f, eqN_t, eqN_f, eqL_t, eqL_f, nm1, nm2, nm1', nm2', m1z, m2z, zm1, zm2, m12, m21, lg_cmp_ge, lg_cmp_le, lg_cmp_gt, lg_cmp_lt, lg_cmp_eq, oob, oobL, neg0, negL0, natle_f, or_false, false_or, true_or, or_true, or_self, cl, clL, le_t, le_f, lt_t, lt_f, leL_t, leL_f, ltL_t, ltL_f, leM_t, leM_f, ltM_t, ltM_f, leO_t, leO_f, cond_true, cond_false, Option.bind_some, Option.bind_none, if_false, if_true, nI_1, aL1, aL2, mL1, mL2, nI_add, pk_mul, pk_m1, sL1, dL1, pk_sub, m1p1, gIs_eq, gIs_k, gIs_i, gIs_n, gIs_e, gIJ, gIR, gJI, gJR, gJs_eq, gJs_k, gJs_n, gJs_e, gRI, gRJ, gRs_eq, gRs_k, gRs_i, gRs_n, gZI, gZJ, gZR, pI_s, pJ_s, pV_s, pR_s, pR_n, oR_n, oR_s, decide_true, decide_false, not_true_eq_false, not_false_eq_true, decT, decF, Bool.true_eq_false, Bool.false_eq_true, z01, o01, z1f, z1f', zz, oo, b2i_0, b2i_n, b2i_t, b2i_f, Bool.not_true, Bool.not_false]
    rw [e5]
    exact m_sumloop hT6 hT _ s' w' rfl hC gv.2.1 (by omega)
/-- a sign that compares, in the model -/
theorem m_cp {w : XW} {t : Tp} (hT : TOk2 t) {q : Nat} (h : MTp w t q) {r : Nat × Int32} (hc : cpS t q = some r) : ∃ w' x3 k, q_X12_compare_44 (chS t q) (nI q) w = q_X12_compare_105 (chS t q) (nI q) x3 w' ∧ MTp w' t r.1 ∧ Fr PM8 w w' ∧ (∀ v, q_X12_compare_115 (chS t q) x3 v = q_X12_compare_152 k v) ∧ 6 + k + 16 * 0 = encS r.2 ∧ (chS t q = 60 ∨ chS t q = 61 ∨ chS t q = 62) := by
  have h4 := hT.1
  obtain ⟨g1, g8, g9, hq⟩ := id h
  have g01 := g1.1
  have F1 : Fr PM8 w (sI w 11 0 8 (nI (q + 1))) := (Fr.refl _ _).sI ⟨rfl, rfl⟩
  have F2 : Fr PM8 w (sI (sI w 11 0 8 (nI (q + 1))) 11 0 8 (nI (q + 2))) := F1.sI ⟨rfl, rfl⟩
  have eN : ∀ c3 : ¬ (q + 1 < t.1 ∧ t.2 (q + 1) = 61), q < t.1 → ∀ x, q_X12_compare_60 x (nI q) (sI w 11 0 8 (nI (q + 1))) = q_X12_compare_90 x (nI q) 0 (sI w 11 0 8 (nI (q + 1))) := by
    intro c3 c x
    rw [e_X12_compare_60]
    by_cases z : q + 1 < t.1
    · have hb := hT.2 _ z
      have g41 : gI w 41 0 (q + 1) = sbS (t.2 (q + 1)) := g1.2 _ z
      have ns : ¬ sbS (t.2 (q + 1)) = 61 := fun y => by
        have : ∀ b : Fin 256, sbS b.val = 61 → b.val = 61 := by decide +kernel
        exact c3 ⟨z, this ⟨_, hb⟩ y⟩
      simp (disch := omega) only [g01, e_X12_compare_71, g41, ns, e_X12_compare_89, true_and, and_true, false_and, and_false, beq_t, beq_f, eqN_t, eqN_f, eqL_t, eqL_f, nm1, nm2, nm1', nm2', m1z, m2z, zm1, zm2, m12, m21, lg_cmp_ge, lg_cmp_le, lg_cmp_gt, lg_cmp_lt, lg_cmp_eq, oob, oobL, neg0, negL0, natle_f, or_false, false_or, true_or, or_true, or_self, cl, clL, le_t, le_f, lt_t, lt_f, leL_t, leL_f, ltL_t, ltL_f, leM_t, leM_f, ltM_t, ltM_f, leO_t, leO_f, cond_true, cond_false, Option.bind_some, Option.bind_none, if_false, if_true, nI_1, aL1, aL2, mL1, mL2, nI_add, pk_mul, pk_m1, sL1, dL1, pk_sub, m1p1, gIs_eq, gIs_k, gIs_i, gIs_n, gIs_e, gIJ, gIR, gJI, gJR, gJs_eq, gJs_k, gJs_n, gJs_e, gRI, gRJ, gRs_eq, gRs_k, gRs_i, gRs_n, gZI, gZJ, gZR, pI_s, pJ_s, pV_s, pR_s, pR_n, oR_n, oR_s, decide_true, decide_false, not_true_eq_false, not_false_eq_true, decT, decF, Bool.true_eq_false, Bool.false_eq_true, z01, o01, z1f, z1f', zz, oo, b2i_0, b2i_n, b2i_t, b2i_f, Bool.not_true, Bool.not_false]
    · simp (disch := omega) only [g01, e_X12_compare_89, true_and, and_true, false_and, and_false, beq_t, beq_f, eqN_t, eqN_f, eqL_t, eqL_f, nm1, nm2, nm1', nm2', m1z, m2z, zm1, zm2, m12, m21, lg_cmp_ge, lg_cmp_le, lg_cmp_gt, lg_cmp_lt, lg_cmp_eq, oob, oobL, neg0, negL0, natle_f, or_false, false_or, true_or, or_true, or_self, cl, clL, le_t, le_f, lt_t, lt_f, leL_t, leL_f, ltL_t, ltL_f, leM_t, leM_f, ltM_t, ltM_f, leO_t, leO_f, cond_true, cond_false, Option.bind_some, Option.bind_none, if_false, if_true, nI_1, aL1, aL2, mL1, mL2, nI_add, pk_mul, pk_m1, sL1, dL1, pk_sub, m1p1, gIs_eq, gIs_k, gIs_i, gIs_n, gIs_e, gIJ, gIR, gJI, gJR, gJs_eq, gJs_k, gJs_n, gJs_e, gRI, gRJ, gRs_eq, gRs_k, gRs_i, gRs_n, gZI, gZJ, gZR, pI_s, pJ_s, pV_s, pR_s, pR_n, oR_n, oR_s, decide_true, decide_false, not_true_eq_false, not_false_eq_true, decT, decF, Bool.true_eq_false, Bool.false_eq_true, z01, o01, z1f, z1f', zz, oo, b2i_0, b2i_n, b2i_t, b2i_f, Bool.not_true, Bool.not_false]
  have eY : ∀ c3 : (q + 1 < t.1 ∧ t.2 (q + 1) = 61), ∀ x, q_X12_compare_60 x (nI q) (sI w 11 0 8 (nI (q + 1))) = q_X12_compare_90 x (nI q) 1 (sI w 11 0 8 (nI (q + 1))) := by
    intro c3 x
    have z := c3.1
    have g41 : gI w 41 0 (q + 1) = 61 := by rw [g1.2 _ z, c3.2]; exact sb_c ⟨61, by omega⟩
    rw [e_X12_compare_60]
    simp (disch := omega) only [g01, e_X12_compare_71, g41, e_X12_compare_85, true_and, and_true, false_and, and_false, beq_t, beq_f, eqN_t, eqN_f, eqL_t, eqL_f, nm1, nm2, nm1', nm2', m1z, m2z, zm1, zm2, m12, m21, lg_cmp_ge, lg_cmp_le, lg_cmp_gt, lg_cmp_lt, lg_cmp_eq, oob, oobL, neg0, negL0, natle_f, or_false, false_or, true_or, or_true, or_self, cl, clL, le_t, le_f, lt_t, lt_f, leL_t, leL_f, ltL_t, ltL_f, leM_t, leM_f, ltM_t, ltM_f, leO_t, leO_f, cond_true, cond_false, Option.bind_some, Option.bind_none, if_false, if_true, nI_1, aL1, aL2, mL1, mL2, nI_add, pk_mul, pk_m1, sL1, dL1, pk_sub, m1p1, gIs_eq, gIs_k, gIs_i, gIs_n, gIs_e, gIJ, gIR, gJI, gJR, gJs_eq, gJs_k, gJs_n, gJs_e, gRI, gRJ, gRs_eq, gRs_k, gRs_i, gRs_n, gZI, gZJ, gZR, pI_s, pJ_s, pV_s, pR_s, pR_n, oR_n, oR_s, decide_true, decide_false, not_true_eq_false, not_false_eq_true, decT, decF, Bool.true_eq_false, Bool.false_eq_true, z01, o01, z1f, z1f', zz, oo, b2i_0, b2i_n, b2i_t, b2i_f, Bool.not_true, Bool.not_false]
  unfold cpS at hc
  by_cases c : q < t.1
  · rw [if_pos c] at hc
    by_cases c1 : t.2 q = 61
    · rw [if_pos c1] at hc
      injection hc with hc
      subst hc
      have e1 : chS t q = 61 := by unfold chS; rw [if_pos c, c1]; rfl
      have z1 : ¬ (61 : Int32) = 60 := by decide
      rw [e1]
      refine ⟨_, 0, 2, ?_, h.to c, F1, fun v => ?_, by dsimp only; decide, by decide⟩
      · rw [e_X12_compare_44]
        simp (disch := omega) only [g8, e_X12_compare_89, e_X12_compare_90, true_and, and_true, false_and, and_false, beq_t, beq_f, eqN_t, eqN_f, eqL_t, eqL_f, nm1, nm2, nm1', nm2', m1z, m2z, zm1, zm2, m12, m21, lg_cmp_ge, lg_cmp_le, lg_cmp_gt, lg_cmp_lt, lg_cmp_eq, oob, oobL, neg0, negL0, natle_f, or_false, false_or, true_or, or_true, or_self, cl, clL, le_t, le_f, lt_t, lt_f, leL_t, leL_f, ltL_t, ltL_f, leM_t, leM_f, ltM_t, ltM_f, leO_t, leO_f, cond_true, cond_false, Option.bind_some, Option.bind_none, if_false, if_true, nI_1, aL1, aL2, mL1, mL2, nI_add, pk_mul, pk_m1, sL1, dL1, pk_sub, m1p1, gIs_eq, gIs_k, gIs_i, gIs_n, gIs_e, gIJ, gIR, gJI, gJR, gJs_eq, gJs_k, gJs_n, gJs_e, gRI, gRJ, gRs_eq, gRs_k, gRs_i, gRs_n, gZI, gZJ, gZR, pI_s, pJ_s, pV_s, pR_s, pR_n, oR_n, oR_s, decide_true, decide_false, not_true_eq_false, not_false_eq_true, decT, decF, Bool.true_eq_false, Bool.false_eq_true, z01, o01, z1f, z1f', zz, oo, b2i_0, b2i_n, b2i_t, b2i_f, Bool.not_true, Bool.not_false]
      · rw [e_X12_compare_115]
        simp (disch := omega) only [z1, e_X12_compare_133, e_X12_compare_139, true_and, and_true, false_and, and_false, beq_t, beq_f, eqN_t, eqN_f, eqL_t, eqL_f, nm1, nm2, nm1', nm2', m1z, m2z, zm1, zm2, m12, m21, lg_cmp_ge, lg_cmp_le, lg_cmp_gt, lg_cmp_lt, lg_cmp_eq, oob, oobL, neg0, negL0, natle_f, or_false, false_or, true_or, or_true, or_self, cl, clL, le_t, le_f, lt_t, lt_f, leL_t, leL_f, ltL_t, ltL_f, leM_t, leM_f, ltM_t, ltM_f, leO_t, leO_f, cond_true, cond_false, Option.bind_some, Option.bind_none, if_false, if_true, nI_1, aL1, aL2, mL1, mL2, nI_add, pk_mul, pk_m1, sL1, dL1, pk_sub, m1p1, gIs_eq, gIs_k, gIs_i, gIs_n, gIs_e, gIJ, gIR, gJI, gJR, gJs_eq, gJs_k, gJs_n, gJs_e, gRI, gRJ, gRs_eq, gRs_k, gRs_i, gRs_n, gZI, gZJ, gZR, pI_s, pJ_s, pV_s, pR_s, pR_n, oR_n, oR_s, decide_true, decide_false, not_true_eq_false, not_false_eq_true, decT, decF, Bool.true_eq_false, Bool.false_eq_true, z01, o01, z1f, z1f', zz, oo, b2i_0, b2i_n, b2i_t, b2i_f, Bool.not_true, Bool.not_false]
    · rw [if_neg c1] at hc
      by_cases c2 : t.2 q = 60
      · rw [if_pos c2] at hc
        have e1 : chS t q = 60 := by unfold chS; rw [if_pos c, c2]; rfl
        have z1 : ¬ (60 : Int32) = 61 := by decide
        rw [e1]
        by_cases c3 : q + 1 < t.1 ∧ t.2 (q + 1) = 61
        · rw [if_pos c3] at hc
          injection hc with hc
          subst hc
          refine ⟨_, 1, 1, ?_, (h.to c).to c3.1, F2, fun v => ?_, by dsimp only; decide, by decide⟩
          · rw [e_X12_compare_44]
            simp (disch := omega) only [g8, z1, eY c3, e_X12_compare_90, e_X12_compare_95, true_and, and_true, false_and, and_false, beq_t, beq_f, eqN_t, eqN_f, eqL_t, eqL_f, nm1, nm2, nm1', nm2', m1z, m2z, zm1, zm2, m12, m21, lg_cmp_ge, lg_cmp_le, lg_cmp_gt, lg_cmp_lt, lg_cmp_eq, oob, oobL, neg0, negL0, natle_f, or_false, false_or, true_or, or_true, or_self, cl, clL, le_t, le_f, lt_t, lt_f, leL_t, leL_f, ltL_t, ltL_f, leM_t, leM_f, ltM_t, ltM_f, leO_t, leO_f, cond_true, cond_false, Option.bind_some, Option.bind_none, if_false, if_true, nI_1, aL1, aL2, mL1, mL2, nI_add, pk_mul, pk_m1, sL1, dL1, pk_sub, m1p1, gIs_eq, gIs_k, gIs_i, gIs_n, gIs_e, gIJ, gIR, gJI, gJR, gJs_eq, gJs_k, gJs_n, gJs_e, gRI, gRJ, gRs_eq, gRs_k, gRs_i, gRs_n, gZI, gZJ, gZR, pI_s, pJ_s, pV_s, pR_s, pR_n, oR_n, oR_s, decide_true, decide_false, not_true_eq_false, not_false_eq_true, decT, decF, Bool.true_eq_false, Bool.false_eq_true, z01, o01, z1f, z1f', zz, oo, b2i_0, b2i_n, b2i_t, b2i_f, Bool.not_true, Bool.not_false]
          · rw [e_X12_compare_115]
            simp (disch := omega) only [e_X12_compare_121, e_X12_compare_125, true_and, and_true, false_and, and_false, beq_t, beq_f, eqN_t, eqN_f, eqL_t, eqL_f, nm1, nm2, nm1', nm2', m1z, m2z, zm1, zm2, m12, m21, lg_cmp_ge, lg_cmp_le, lg_cmp_gt, lg_cmp_lt, lg_cmp_eq, oob, oobL, neg0, negL0, natle_f, or_false, false_or, true_or, or_true, or_self, cl, clL, le_t, le_f, lt_t, lt_f, leL_t, leL_f, ltL_t, ltL_f, leM_t, leM_f, ltM_t, ltM_f, leO_t, leO_f, cond_true, cond_false, Option.bind_some, Option.bind_none, if_false, if_true, nI_1, aL1, aL2, mL1, mL2, nI_add, pk_mul, pk_m1, sL1, dL1, pk_sub, m1p1, gIs_eq, gIs_k, gIs_i, gIs_n, gIs_e, gIJ, gIR, gJI, gJR, gJs_eq, gJs_k, gJs_n, gJs_e, gRI, gRJ, gRs_eq, gRs_k, gRs_i, gRs_n, gZI, gZJ, gZR, pI_s, pJ_s, pV_s, pR_s, pR_n, oR_n, oR_s, decide_true, decide_false, not_true_eq_false, not_false_eq_true, decT, decF, Bool.true_eq_false, Bool.false_eq_true, z01, o01, z1f, z1f', zz, oo, b2i_0, b2i_n, b2i_t, b2i_f, Bool.not_true, Bool.not_false]
        · rw [if_neg c3] at hc
          injection hc with hc
          subst hc
          refine ⟨_, 0, 0, ?_, h.to c, F1, fun v => ?_, by dsimp only; decide, by decide⟩
          · rw [e_X12_compare_44]
            simp (disch := omega) only [g8, z1, eN c3 c, e_X12_compare_90, true_and, and_true, false_and, and_false, beq_t, beq_f, eqN_t, eqN_f, eqL_t, eqL_f, nm1, nm2, nm1', nm2', m1z, m2z, zm1, zm2, m12, m21, lg_cmp_ge, lg_cmp_le, lg_cmp_gt, lg_cmp_lt, lg_cmp_eq, oob, oobL, neg0, negL0, natle_f, or_false, false_or, true_or, or_true, or_self, cl, clL, le_t, le_f, lt_t, lt_f, leL_t, leL_f, ltL_t, ltL_f, leM_t, leM_f, ltM_t, ltM_f, leO_t, leO_f, cond_true, cond_false, Option.bind_some, Option.bind_none, if_false, if_true, nI_1, aL1, aL2, mL1, mL2, nI_add, pk_mul, pk_m1, sL1, dL1, pk_sub, m1p1, gIs_eq, gIs_k, gIs_i, gIs_n, gIs_e, gIJ, gIR, gJI, gJR, gJs_eq, gJs_k, gJs_n, gJs_e, gRI, gRJ, gRs_eq, gRs_k, gRs_i, gRs_n, gZI, gZJ, gZR, pI_s, pJ_s, pV_s, pR_s, pR_n, oR_n, oR_s, decide_true, decide_false, not_true_eq_false, not_false_eq_true, decT, decF, Bool.true_eq_false, Bool.false_eq_true, z01, o01, z1f, z1f', zz, oo, b2i_0, b2i_n, b2i_t, b2i_f, Bool.not_true, Bool.not_false]
          · rw [e_X12_compare_115]
            simp (disch := omega) only [e_X12_compare_121, e_X12_compare_129, true_and, and_true, false_and, and_false, beq_t, beq_f, eqN_t, eqN_f, eqL_t, eqL_f, nm1, nm2, nm1', nm2', m1z, m2z, zm1, zm2, m12, m21, lg_cmp_ge, lg_cmp_le, lg_cmp_gt, lg_cmp_lt, lg_cmp_eq, oob, oobL, neg0, negL0, natle_f, or_false, false_or, true_or, or_true, or_self, cl, clL, le_t, le_f, lt_t, lt_f, leL_t, leL_f, ltL_t, ltL_f, leM_t, leM_f, ltM_t, ltM_f, leO_t, leO_f, cond_true, cond_false, Option.bind_some, Option.bind_none, if_false, if_true, nI_1, aL1, aL2, mL1, mL2, nI_add, pk_mul, pk_m1, sL1, dL1, pk_sub, m1p1, gIs_eq, gIs_k, gIs_i, gIs_n, gIs_e, gIJ, gIR, gJI, gJR, gJs_eq, gJs_k, gJs_n, gJs_e, gRI, gRJ, gRs_eq, gRs_k, gRs_i, gRs_n, gZI, gZJ, gZR, pI_s, pJ_s, pV_s, pR_s, pR_n, oR_n, oR_s, decide_true, decide_false, not_true_eq_false, not_false_eq_true, decT, decF, Bool.true_eq_false, Bool.false_eq_true, z01, o01, z1f, z1f', zz, oo, b2i_0, b2i_n, b2i_t, b2i_f, Bool.not_true, Bool.not_false]
      · rw [if_neg c2] at hc
        by_cases c5 : t.2 q = 62
        · rw [if_pos c5] at hc
          have e1 : chS t q = 62 := by unfold chS; rw [if_pos c, c5]; rfl
          have z1 : ¬ (62 : Int32) = 61 := by decide
          have z2 : ¬ (62 : Int32) = 60 := by decide
          rw [e1]
          by_cases c3 : q + 1 < t.1 ∧ t.2 (q + 1) = 61
          · rw [if_pos c3] at hc
            injection hc with hc
            subst hc
            refine ⟨_, 1, 3, ?_, (h.to c).to c3.1, F2, fun v => ?_, by dsimp only; decide, by decide⟩
            · rw [e_X12_compare_44]
              simp (disch := omega) only [g8, z1, eY c3, e_X12_compare_90, e_X12_compare_95, true_and, and_true, false_and, and_false, beq_t, beq_f, eqN_t, eqN_f, eqL_t, eqL_f, nm1, nm2, nm1', nm2', m1z, m2z, zm1, zm2, m12, m21, lg_cmp_ge, lg_cmp_le, lg_cmp_gt, lg_cmp_lt, lg_cmp_eq, oob, oobL, neg0, negL0, natle_f, or_false, false_or, true_or, or_true, or_self, cl, clL, le_t, le_f, lt_t, lt_f, leL_t, leL_f, ltL_t, ltL_f, leM_t, leM_f, ltM_t, ltM_f, leO_t, leO_f, cond_true, cond_false, Option.bind_some, Option.bind_none, if_false, if_true, nI_1, aL1, aL2, mL1, mL2, nI_add, pk_mul, pk_m1, sL1, dL1, pk_sub, m1p1, gIs_eq, gIs_k, gIs_i, gIs_n, gIs_e, gIJ, gIR, gJI, gJR, gJs_eq, gJs_k, gJs_n, gJs_e, gRI, gRJ, gRs_eq, gRs_k, gRs_i, gRs_n, gZI, gZJ, gZR, pI_s, pJ_s, pV_s, pR_s, pR_n, oR_n, oR_s, decide_true, decide_false, not_true_eq_false, not_false_eq_true, decT, decF, Bool.true_eq_false, Bool.false_eq_true, z01, o01, z1f, z1f', zz, oo, b2i_0, b2i_n, b2i_t, b2i_f, Bool.not_true, Bool.not_false]
            · rw [e_X12_compare_115]
              simp (disch := omega) only [z1, z2, e_X12_compare_133, e_X12_compare_143, e_X12_compare_147, true_and, and_true, false_and, and_false, beq_t, beq_f, eqN_t, eqN_f, eqL_t, eqL_f, nm1, nm2, nm1', nm2', m1z, m2z, zm1, zm2, m12, m21, lg_cmp_ge, lg_cmp_le, lg_cmp_gt, lg_cmp_lt, lg_cmp_eq, oob, oobL, neg0, negL0, natle_f, or_false, false_or, true_or, or_true, or_self, cl, clL, le_t, le_f, lt_t, lt_f, leL_t, leL_f, ltL_t, ltL_f, leM_t, leM_f, ltM_t, ltM_f, leO_t, leO_f, cond_true, cond_false, Option.bind_some, Option.bind_none, if_false, if_true, nI_1, aL1, aL2, mL1, mL2, nI_add, pk_mul, pk_m1, sL1, dL1, pk_sub, m1p1, gIs_eq, gIs_k, gIs_i, gIs_n, gIs_e, gIJ, gIR, gJI, gJR, gJs_eq, gJs_k, gJs_n, gJs_e, gRI, gRJ, gRs_eq, gRs_k, gRs_i, gRs_n, gZI, gZJ, gZR, pI_s, pJ_s, pV_s, pR_s, pR_n, oR_n, oR_s, decide_true, decide_false, not_true_eq_false, not_false_eq_true, decT, decF, Bool.true_eq_false, Bool.false_eq_true, z01, o01, z1f, z1f', zz, oo, b2i_0, b2i_n, b2i_t, b2i_f, Bool.not_true, Bool.not_false]
          · rw [if_neg c3] at hc
            injection hc with hc
            subst hc
            refine ⟨_, 0, 4, ?_, h.to c, F1, fun v => ?_, by dsimp only; decide, by decide⟩
            · rw [e_X12_compare_44]
              simp (disch := omega) only [g8, z1, eN c3 c, e_X12_compare_90, true_and, and_true, false_and, and_false, beq_t, beq_f, eqN_t, eqN_f, eqL_t, eqL_f, nm1, nm2, nm1', nm2', m1z, m2z, zm1, zm2, m12, m21, lg_cmp_ge, lg_cmp_le, lg_cmp_gt, lg_cmp_lt, lg_cmp_eq, oob, oobL, neg0, negL0, natle_f, or_false, false_or, true_or, or_true, or_self, cl, clL, le_t, le_f, lt_t, lt_f, leL_t, leL_f, ltL_t, ltL_f, leM_t, leM_f, ltM_t, ltM_f, leO_t, leO_f, cond_true, cond_false, Option.bind_some, Option.bind_none, if_false, if_true, nI_1, aL1, aL2, mL1, mL2, nI_add, pk_mul, pk_m1, sL1, dL1, pk_sub, m1p1, gIs_eq, gIs_k, gIs_i, gIs_n, gIs_e, gIJ, gIR, gJI, gJR, gJs_eq, gJs_k, gJs_n, gJs_e, gRI, gRJ, gRs_eq, gRs_k, gRs_i, gRs_n, gZI, gZJ, gZR, pI_s, pJ_s, pV_s, pR_s, pR_n, oR_n, oR_s, decide_true, decide_false, not_true_eq_false, not_false_eq_true, decT, decF, Bool.true_eq_false, Bool.false_eq_true, z01, o01, z1f, z1f', zz, oo, b2i_0, b2i_n, b2i_t, b2i_f, Bool.not_true, Bool.not_false]
            · rw [e_X12_compare_115]
              simp (disch := omega) only [z1, z2, e_X12_compare_133, e_X12_compare_143, e_X12_compare_151, true_and, and_true, false_and, and_false, beq_t, beq_f, eqN_t, eqN_f, eqL_t, eqL_f, nm1, nm2, nm1', nm2', m1z, m2z, zm1, zm2, m12, m21, lg_cmp_ge, lg_cmp_le, lg_cmp_gt, lg_cmp_lt, lg_cmp_eq, oob, oobL, neg0, negL0, natle_f, or_false, false_or, true_or, or_true, or_self, cl, clL, le_t, le_f, lt_t, lt_f, leL_t, leL_f, ltL_t, ltL_f, leM_t, leM_f, ltM_t, ltM_f, leO_t, leO_f, cond_true, cond_false, Option.bind_some, Option.bind_none, if_false, if_true, nI_1, aL1, aL2, mL1, mL2, nI_add, pk_mul, pk_m1, sL1, dL1, pk_sub, m1p1, gIs_eq, gIs_k, gIs_i, gIs_n, gIs_e, gIJ, gIR, gJI, gJR, gJs_eq, gJs_k, gJs_n, gJs_e, gRI, gRJ, gRs_eq, gRs_k, gRs_i, gRs_n, gZI, gZJ, gZR, pI_s, pJ_s, pV_s, pR_s, pR_n, oR_n, oR_s, decide_true, decide_false, not_true_eq_false, not_false_eq_true, decT, decF, Bool.true_eq_false, Bool.false_eq_true, z01, o01, z1f, z1f', zz, oo, b2i_0, b2i_n, b2i_t, b2i_f, Bool.not_true, Bool.not_false]
        · rw [if_neg c5] at hc; cases hc
  · rw [if_neg c] at hc; cases hc
theorem cp_no {t : Tp} (hT : TOk2 t) {q : Nat} (h : cpS t q = none) : ¬ chS t q = 60 ∧ ¬ chS t q = 61 ∧ ¬ chS t q = 62 := by
  refine ⟨fun z => ?_, fun z => ?_, fun z => ?_⟩
  · obtain ⟨z1, z2⟩ := ch_eq hT (c := 60) (by omega) z
    unfold cpS at h
    rw [if_pos z1, if_neg (by omega), if_pos z2] at h
    split at h <;> cases h
  · obtain ⟨z1, z2⟩ := ch_eq hT (c := 61) (by omega) z
    unfold cpS at h
    rw [if_pos z1, if_pos z2] at h
    cases h
  · obtain ⟨z1, z2⟩ := ch_eq hT (c := 62) (by omega) z
    unfold cpS at h
    rw [if_pos z1, if_neg (by omega), if_neg (by omega), if_pos z2] at h
    split at h <;> cases h
theorem m_compare {T : Nat} (hT6 : T < 6) {t : Tp} (hT : TOk2 t) {s : St} {w : XW} (h : MRt T w t s) (hn : s.2.1 ≤ 60) (hl : s.2.2.length ≤ s.1) : RMr T (F_X12_compare [.inr (11, 0)] w) w t (cmS t s) := by
  have h4 := hT.1
  have hp := h.1.2.2.2
  have R := m_sum hT6 hT h hn hl
  unfold cmS
  refine R.then (fun w' hw => ?_) (fun s1 w1 hs hw hF hC => ?_)
  · rw [f_X12_compare, e_X12_compare_0]
    simp (disch := omega) only [hw, e_X12_compare_7, true_and, and_true, false_and, and_false, beq_t, beq_f, eqN_t, eqN_f, eqL_t, eqL_f, nm1, nm2, nm1', nm2', m1z, m2z, zm1, zm2, m12, m21, lg_cmp_ge, lg_cmp_le, lg_cmp_gt, lg_cmp_lt, lg_cmp_eq, oob, oobL, neg0, negL0, natle_f, or_false, false_or, true_or, or_true, or_self, cl, clL, le_t, le_f, lt_t, lt_f, leL_t, leL_f, ltL_t, ltL_f, leM_t, leM_f, ltM_t, ltM_f, leO_t, leO_f, cond_true, cond_false, Option.bind_some, Option.bind_none, if_false, if_true, nI_1, aL1, aL2, mL1, mL2, nI_add, pk_mul, pk_m1, sL1, dL1, pk_sub, m1p1, gIs_eq, gIs_k, gIs_i, gIs_n, gIs_e, gIJ, gIR, gJI, gJR, gJs_eq, gJs_k, gJs_n, gJs_e, gRI, gRJ, gRs_eq, gRs_k, gRs_i, gRs_n, gZI, gZJ, gZR, pI_s, pJ_s, pV_s, pR_s, pR_n, oR_n, oR_s, decide_true, decide_false, not_true_eq_false, not_false_eq_true, decT, decF, Bool.true_eq_false, Bool.false_eq_true, z01, o01, z1f, z1f', zz, oo, b2i_0, b2i_n, b2i_t, b2i_f, Bool.not_true, Bool.not_false]
  · have gv := (sm_ok hT s hp hn).1 s1 hs
    have hlt := gv.lt
    have hle := gv.len.1
    obtain ⟨w2, k1, k2, k3⟩ := m_see hT hC.1
    have hk := sk_le hC.1.2.2.2
    have g8 := k2.2.1
    have C2 : MRt T w2 t (sk t s1.1, s1.2) := hC.at k3 (fun κ k q => by unfold PM8; omega) k2
    cases hc : cpS t (sk t s1.1) with
    | none =>
      obtain ⟨z1, z2, z3⟩ := cp_no hT hc
      have kf := m_fails0 (w := w2) (sk t s1.1) k2.2.2.1
      refine ⟨_, (f8v k3).sI (by unfold PMv; omega), ?_, gIs_eq⟩
      rw [f_X12_compare, e_X12_compare_0]
      simp (disch := omega) only [hw, e_X12_compare_9, k1, z1, g8, e_X12_compare_25, z2, e_X12_compare_31, z3, e_X12_compare_37, kf, true_and, and_true, false_and, and_false, beq_t, beq_f, eqN_t, eqN_f, eqL_t, eqL_f, nm1, nm2, nm1', nm2', m1z, m2z, zm1, zm2, m12, m21, lg_cmp_ge, lg_cmp_le, lg_cmp_gt, lg_cmp_lt, lg_cmp_eq, oob, oobL, neg0, negL0, natle_f, or_false, false_or, true_or, or_true, or_self, cl, clL, le_t, le_f, lt_t, lt_f, leL_t, leL_f, ltL_t, ltL_f, leM_t, leM_f, ltM_t, ltM_f, leO_t, leO_f, cond_true, cond_false, Option.bind_some, Option.bind_none, if_false, if_true, nI_1, aL1, aL2, mL1, mL2, nI_add, pk_mul, pk_m1, sL1, dL1, pk_sub, m1p1, gIs_eq, gIs_k, gIs_i, gIs_n, gIs_e, gIJ, gIR, gJI, gJR, gJs_eq, gJs_k, gJs_n, gJs_e, gRI, gRJ, gRs_eq, gRs_k, gRs_i, gRs_n, gZI, gZJ, gZR, pI_s, pJ_s, pV_s, pR_s, pR_n, oR_n, oR_s, decide_true, decide_false, not_true_eq_false, not_false_eq_true, decT, decF, Bool.true_eq_false, Bool.false_eq_true, z01, o01, z1f, z1f', zz, oo, b2i_0, b2i_n, b2i_t, b2i_f, Bool.not_true, Bool.not_false]
    | some r =>
      obtain ⟨q1, q2, q3⟩ := cp_ok hc
      obtain ⟨w3, x3, k, y1, y2, y3, y4, y5, y6⟩ := m_cp hT k2 hc
      have C3 : MRt T w3 t (r.1, s1.2) := C2.at y3 (fun κ k q => by unfold PM8; omega) y2
      have R2 := m_makes C3 gv.2.1 (sk t s1.1)
      have kd : F_X12_compare [.inr (11, 0)] w = (q_X12_compare_105 (chS t (sk t s1.1)) (nI (sk t s1.1)) x3 w3).bind pI := by
        rw [f_X12_compare, e_X12_compare_0]
        rcases y6 with e1 | e1 | e1
        · rw [e1] at k1 y1 ⊢
          simp (disch := omega) only [hw, e_X12_compare_9, k1, g8, y1, true_and, and_true, false_and, and_false, beq_t, beq_f, eqN_t, eqN_f, eqL_t, eqL_f, nm1, nm2, nm1', nm2', m1z, m2z, zm1, zm2, m12, m21, lg_cmp_ge, lg_cmp_le, lg_cmp_gt, lg_cmp_lt, lg_cmp_eq, oob, oobL, neg0, negL0, natle_f, or_false, false_or, true_or, or_true, or_self, cl, clL, le_t, le_f, lt_t, lt_f, leL_t, leL_f, ltL_t, ltL_f, leM_t, leM_f, ltM_t, ltM_f, leO_t, leO_f, cond_true, cond_false, Option.bind_some, Option.bind_none, if_false, if_true, nI_1, aL1, aL2, mL1, mL2, nI_add, pk_mul, pk_m1, sL1, dL1, pk_sub, m1p1, gIs_eq, gIs_k, gIs_i, gIs_n, gIs_e, gIJ, gIR, gJI, gJR, gJs_eq, gJs_k, gJs_n, gJs_e, gRI, gRJ, gRs_eq, gRs_k, gRs_i, gRs_n, gZI, gZJ, gZR, pI_s, pJ_s, pV_s, pR_s, pR_n, oR_n, oR_s, decide_true, decide_false, not_true_eq_false, not_false_eq_true, decT, decF, Bool.true_eq_false, Bool.false_eq_true, z01, o01, z1f, z1f', zz, oo, b2i_0, b2i_n, b2i_t, b2i_f, Bool.not_true, Bool.not_false]
        · have z1 : ¬ (61 : Int32) = 60 := by decide
          rw [e1] at k1 y1 ⊢
          simp (disch := omega) only [hw, e_X12_compare_9, k1, z1, g8, e_X12_compare_25, y1, true_and, and_true, false_and, and_false, beq_t, beq_f, eqN_t, eqN_f, eqL_t, eqL_f, nm1, nm2, nm1', nm2', m1z, m2z, zm1, zm2, m12, m21, lg_cmp_ge, lg_cmp_le, lg_cmp_gt, lg_cmp_lt, lg_cmp_eq, oob, oobL, neg0, negL0, natle_f, or_false, false_or, true_or, or_true, or_self, cl, clL, le_t, le_f, lt_t, lt_f, leL_t, leL_f, ltL_t, ltL_f, leM_t, leM_f, ltM_t, ltM_f, leO_t, leO_f, cond_true, cond_false, Option.bind_some, Option.bind_none, if_false, if_true, nI_1, aL1, aL2, mL1, mL2, nI_add, pk_mul, pk_m1, sL1, dL1, pk_sub, m1p1, gIs_eq, gIs_k, gIs_i, gIs_n, gIs_e, gIJ, gIR, gJI, gJR, gJs_eq, gJs_k, gJs_n, gJs_e, gRI, gRJ, gRs_eq, gRs_k, gRs_i, gRs_n, gZI, gZJ, gZR, pI_s, pJ_s, pV_s, pR_s, pR_n, oR_n, oR_s, decide_true, decide_false, not_true_eq_false, not_false_eq_true, decT, decF, Bool.true_eq_false, Bool.false_eq_true, z01, o01, z1f, z1f', zz, oo, b2i_0, b2i_n, b2i_t, b2i_f, Bool.not_true, Bool.not_false]
        · have z1 : ¬ (62 : Int32) = 60 := by decide
          have z2 : ¬ (62 : Int32) = 61 := by decide
          rw [e1] at k1 y1 ⊢
          simp (disch := omega) only [hw, e_X12_compare_9, k1, z1, z2, g8, e_X12_compare_25, e_X12_compare_31, y1, true_and, and_true, false_and, and_false, beq_t, beq_f, eqN_t, eqN_f, eqL_t, eqL_f, nm1, nm2, nm1', nm2', m1z, m2z, zm1, zm2, m12, m21, lg_cmp_ge, lg_cmp_le, lg_cmp_gt, lg_cmp_lt, lg_cmp_eq, oob, oobL, neg0, negL0, natle_f, or_false, false_or, true_or, or_true, or_self, cl, clL, le_t, le_f, lt_t, lt_f, leL_t, leL_f, ltL_t, ltL_f, leM_t, leM_f, ltM_t, ltM_f, leO_t, leO_f, cond_true, cond_false, Option.bind_some, Option.bind_none, if_false, if_true, nI_1, aL1, aL2, mL1, mL2, nI_add, pk_mul, pk_m1, sL1, dL1, pk_sub, m1p1, gIs_eq, gIs_k, gIs_i, gIs_n, gIs_e, gIJ, gIR, gJI, gJR, gJs_eq, gJs_k, gJs_n, gJs_e, gRI, gRJ, gRs_eq, gRs_k, gRs_i, gRs_n, gZI, gZJ, gZR, pI_s, pJ_s, pV_s, pR_s, pR_n, oR_n, oR_s, decide_true, decide_false, not_true_eq_false, not_false_eq_true, decT, decF, Bool.true_eq_false, Bool.false_eq_true, z01, o01, z1f, z1f', zz, oo, b2i_0, b2i_n, b2i_t, b2i_f, Bool.not_true, Bool.not_false]
      refine RMr.fr (w1 := w3) (R2.then (fun w' hw => ?_) (fun s2 w4 hs2 hw4 hF4 hC4 => ?_)) ((f8v k3).trans (f8v y3)) rfl
      · rw [kd, e_X12_compare_105]
        simp (disch := omega) only [hw, e_X12_compare_113, true_and, and_true, false_and, and_false, beq_t, beq_f, eqN_t, eqN_f, eqL_t, eqL_f, nm1, nm2, nm1', nm2', m1z, m2z, zm1, zm2, m12, m21, lg_cmp_ge, lg_cmp_le, lg_cmp_gt, lg_cmp_lt, lg_cmp_eq, oob, oobL, neg0, negL0, natle_f, or_false, false_or, true_or, or_true, or_self, cl, clL, le_t, le_f, lt_t, lt_f, leL_t, leL_f, ltL_t, ltL_f, leM_t, leM_f, ltM_t, ltM_f, leO_t, leO_f, cond_true, cond_false, Option.bind_some, Option.bind_none, if_false, if_true, nI_1, aL1, aL2, mL1, mL2, nI_add, pk_mul, pk_m1, sL1, dL1, pk_sub, m1p1, gIs_eq, gIs_k, gIs_i, gIs_n, gIs_e, gIJ, gIR, gJI, gJR, gJs_eq, gJs_k, gJs_n, gJs_e, gRI, gRJ, gRs_eq, gRs_k, gRs_i, gRs_n, gZI, gZJ, gZR, pI_s, pJ_s, pV_s, pR_s, pR_n, oR_n, oR_s, decide_true, decide_false, not_true_eq_false, not_false_eq_true, decT, decF, Bool.true_eq_false, Bool.false_eq_true, z01, o01, z1f, z1f', zz, oo, b2i_0, b2i_n, b2i_t, b2i_f, Bool.not_true, Bool.not_false]
      · obtain ⟨c1, c2⟩ := ct_ok hs2
        subst c2
        have c1 : s1.2.1 < 60 := c1
        have R3 := m_sum hT6 hT hC4 (by show s1.2.1 + 1 ≤ 60; omega) (by show s1.2.2.length ≤ r.1; omega)
        refine R3.then (fun w' hw => ?_) (fun s3 w5 hs3 hw5 hF5 hC5 => ?_)
        · rw [kd, e_X12_compare_105]
          simp (disch := omega) only [hw4, y4, e_X12_compare_152, hw, e_X12_compare_161, true_and, and_true, false_and, and_false, beq_t, beq_f, eqN_t, eqN_f, eqL_t, eqL_f, nm1, nm2, nm1', nm2', m1z, m2z, zm1, zm2, m12, m21, lg_cmp_ge, lg_cmp_le, lg_cmp_gt, lg_cmp_lt, lg_cmp_eq, oob, oobL, neg0, negL0, natle_f, or_false, false_or, true_or, or_true, or_self, cl, clL, le_t, le_f, lt_t, lt_f, leL_t, leL_f, ltL_t, ltL_f, leM_t, leM_f, ltM_t, ltM_f, leO_t, leO_f, cond_true, cond_false, Option.bind_some, Option.bind_none, if_false, if_true, nI_1, aL1, aL2, mL1, mL2, nI_add, pk_mul, pk_m1, sL1, dL1, pk_sub, m1p1, gIs_eq, gIs_k, gIs_i, gIs_n, gIs_e, gIJ, gIR, gJI, gJR, gJs_eq, gJs_k, gJs_n, gJs_e, gRI, gRJ, gRs_eq, gRs_k, gRs_i, gRs_n, gZI, gZJ, gZR, pI_s, pJ_s, pV_s, pR_s, pR_n, oR_n, oR_s, decide_true, decide_false, not_true_eq_false, not_false_eq_true, decT, decF, Bool.true_eq_false, Bool.false_eq_true, z01, o01, z1f, z1f', zz, oo, b2i_0, b2i_n, b2i_t, b2i_f, Bool.not_true, Bool.not_false]
        · have gv3 := (sm_ok hT _ q2 (by show s1.2.1 + 1 ≤ 60; omega)).1 s3 hs3
          have l3 : s3.2.2.length + r.1 ≤ s1.2.2.length + s3.1 := gv3.len.1
          have h31 := gv3.1
          obtain ⟨w6, a1, a2, a3⟩ := m_puts hT6 hC5 (by omega) y5
          refine ⟨w6, fPv a3, ?_, a2⟩
          rw [kd, e_X12_compare_105]
          simp (disch := omega) only [hw4, y4, e_X12_compare_152, hw5, e_X12_compare_163, a1, true_and, and_true, false_and, and_false, beq_t, beq_f, eqN_t, eqN_f, eqL_t, eqL_f, nm1, nm2, nm1', nm2', m1z, m2z, zm1, zm2, m12, m21, lg_cmp_ge, lg_cmp_le, lg_cmp_gt, lg_cmp_lt, lg_cmp_eq, oob, oobL, neg0, negL0, natle_f, or_false, false_or, true_or, or_true, or_self, cl, clL, le_t, le_f, lt_t, lt_f, leL_t, leL_f, ltL_t, ltL_f, leM_t, leM_f, ltM_t, ltM_f, leO_t, leO_f, cond_true, cond_false, Option.bind_some, Option.bind_none, if_false, if_true, nI_1, aL1, aL2, mL1, mL2, nI_add, pk_mul, pk_m1, sL1, dL1, pk_sub, m1p1, gIs_eq, gIs_k, gIs_i, gIs_n, gIs_e, gIJ, gIR, gJI, gJR, gJs_eq, gJs_k, gJs_n, gJs_e, gRI, gRJ, gRs_eq, gRs_k, gRs_i, gRs_n, gZI, gZJ, gZR, pI_s, pJ_s, pV_s, pR_s, pR_n, oR_n, oR_s, decide_true, decide_false, not_true_eq_false, not_false_eq_true, decT, decF, Bool.true_eq_false, Bool.false_eq_true, z01, o01, z1f, z1f', zz, oo, b2i_0, b2i_n, b2i_t, b2i_f, Bool.not_true, Bool.not_false]
