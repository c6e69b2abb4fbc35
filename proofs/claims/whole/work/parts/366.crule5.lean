/-! ===== the class reads all of a rule ===== -/
def CRe (w : XW) (q : St × Rl) : Prop := gI w 7 0 2 = nI q.1.2.2.length ∧ LsAt (gI w 28 0) q.1.2.2 ∧ gI w 7 0 3 = nI q.2.length ∧ BdAt (gI w 29 0) 0 0 q.2
def RCe (F : Option (Int32 × XW)) (w : XW) (r : Nat ⊕ (St × Rl)) : Prop := ∃ w', Fr PCL w w' ∧ match r with
  | .inl f => F = some (0, w') ∧ gI w' 9 0 5 = nI f
  | .inr q => F = some (1, w') ∧ CRe w' q
theorem rr_ok {t : Tp} (hT : TOk2 t) : ∀ (m : Nat) (s : St) (rl : Rl), Jr t s rl → ∀ r, rrS t m s rl = .inr r → Jr t r.1 r.2 := by
  intro m
  induction m with
  | zero => intro s rl _ r h; cases h
  | succ m ih =>
    intro s rl hJ r h
    have e0 : rrS t (m + 1) s rl = sB (caS t s rl) (fun r => if sk t r.1.1 = t.1 then .inr r else if t.2 (sk t r.1.1) = 59 then rrS t m (sk t r.1.1 + 1, r.1.2) r.2 else .inl (1 + 8 * sk t r.1.1)) := rfl
    rw [e0] at h
    obtain ⟨q, hq, h⟩ := sB_inr h
    have hJ2 := ((ca_ok hT hJ).1 q hq).1
    by_cases c : sk t q.1.1 = t.1
    · rw [if_pos c] at h
      injection h with h
      rw [← h]; exact hJ2
    · rw [if_neg c] at h
      by_cases c2 : t.2 (sk t q.1.1) = 59
      · rw [if_pos c2] at h
        have hk := sk_le hJ2.1
        exact ih (sk t q.1.1 + 1, q.1.2) q.2 ⟨by show sk t q.1.1 + 1 ≤ t.1; omega, hJ2.2.1, by show q.1.2.2.length ≤ sk t q.1.1 + 1; have := hJ2.2.2.1; omega, hJ2.2.2.2⟩ r h
      · rw [if_neg c2] at h; cases h
theorem c_rread {t : Tp} (hT : TOk2 t) : ∀ (m : Nat) (s : St) (rl : Rl) (w : XW), rl.length + m = 12 → CRl w t s rl → Jr t s rl → RCe ((q_X8_read_21 (nI rl.length) w).bind pI) w (rrS t (m + 1) s rl) := by
  have h4 := hT.1
  intro m
  induction m with
  | zero =>
    intro s rl w hm hC hJ
    obtain ⟨w1, F1, r1⟩ := c_rclause hT hC hJ
    have e0 : rrS t (0 + 1) s rl = sB (caS t s rl) (fun r => if sk t r.1.1 = t.1 then .inr r else if t.2 (sk t r.1.1) = 59 then rrS t 0 (sk t r.1.1 + 1, r.1.2) r.2 else .inl (1 + 8 * sk t r.1.1)) := rfl
    rw [e0]
    cases hq : caS t s rl with
    | inl f =>
      rw [hq] at r1
      obtain ⟨r1, r2⟩ := r1
      refine ⟨w1, F1, ?_, r2⟩
      ((try dsimp only); rw [e_X8_read_21]; simp (disch := omega) only [e_X8_read_27, r1, e_X8_read_35, true_and, and_true, false_and, and_false, beq_t, beq_f, eqN_t, eqN_f, eqL_t, eqL_f, nm1, nm2, nm1', nm2', m1z, m2z, zm1, zm2, m12, m21, lg_cmp_ge, lg_cmp_le, lg_cmp_gt, lg_cmp_lt, lg_cmp_eq, oob, oobL, neg0, negL0, natle_f, or_false, false_or, true_or, or_true, or_self, cl, clL, le_t, le_f, lt_t, lt_f, leL_t, leL_f, ltL_t, ltL_f, leM_t, leM_f, ltM_t, ltM_f, leO_t, leO_f, cond_true, cond_false, Option.bind_some, Option.bind_none, if_false, if_true, nI_1, aL1, aL2, mL1, mL2, nI_add, pk_mul, pk_m1, sL1, dL1, pk_sub, m1p1, gIs_eq, gIs_k, gIs_i, gIs_n, gIs_e, gIJ, gIR, gJI, gJR, gJs_eq, gJs_k, gJs_n, gJs_e, gRI, gRJ, gRs_eq, gRs_k, gRs_i, gRs_n, gZI, gZJ, gZR, pI_s, pJ_s, pV_s, pR_s, pR_n, oR_n, oR_s, decide_true, decide_false, not_true_eq_false, not_false_eq_true, decT, decF, Bool.true_eq_false, Bool.false_eq_true, z01, o01, z1f, z1f', zz, oo, b2i_0, b2i_n, b2i_t, b2i_f, Bool.not_true, Bool.not_false])
    | inr q => exact absurd hq (ca12 (by omega) q)
  | succ m ih =>
    intro s rl w hm hC hJ
    obtain ⟨w1, F1, r1⟩ := c_rclause hT hC hJ
    have e0 : rrS t (m + 1 + 1) s rl = sB (caS t s rl) (fun r => if sk t r.1.1 = t.1 then .inr r else if t.2 (sk t r.1.1) = 59 then rrS t (m + 1) (sk t r.1.1 + 1, r.1.2) r.2 else .inl (1 + 8 * sk t r.1.1)) := rfl
    rw [e0]
    cases hq : caS t s rl with
    | inl f =>
      rw [hq] at r1
      obtain ⟨r1, r2⟩ := r1
      refine ⟨w1, F1, ?_, r2⟩
      ((try dsimp only); rw [e_X8_read_21]; simp (disch := omega) only [e_X8_read_27, r1, e_X8_read_35, true_and, and_true, false_and, and_false, beq_t, beq_f, eqN_t, eqN_f, eqL_t, eqL_f, nm1, nm2, nm1', nm2', m1z, m2z, zm1, zm2, m12, m21, lg_cmp_ge, lg_cmp_le, lg_cmp_gt, lg_cmp_lt, lg_cmp_eq, oob, oobL, neg0, negL0, natle_f, or_false, false_or, true_or, or_true, or_self, cl, clL, le_t, le_f, lt_t, lt_f, leL_t, leL_f, ltL_t, ltL_f, leM_t, leM_f, ltM_t, ltM_f, leO_t, leO_f, cond_true, cond_false, Option.bind_some, Option.bind_none, if_false, if_true, nI_1, aL1, aL2, mL1, mL2, nI_add, pk_mul, pk_m1, sL1, dL1, pk_sub, m1p1, gIs_eq, gIs_k, gIs_i, gIs_n, gIs_e, gIJ, gIR, gJI, gJR, gJs_eq, gJs_k, gJs_n, gJs_e, gRI, gRJ, gRs_eq, gRs_k, gRs_i, gRs_n, gZI, gZJ, gZR, pI_s, pJ_s, pV_s, pR_s, pR_n, oR_n, oR_s, decide_true, decide_false, not_true_eq_false, not_false_eq_true, decT, decF, Bool.true_eq_false, Bool.false_eq_true, z01, o01, z1f, z1f', zz, oo, b2i_0, b2i_n, b2i_t, b2i_f, Bool.not_true, Bool.not_false])
    | inr q =>
      obtain ⟨hJ2, hl2⟩ := (ca_ok hT hJ).1 q hq
      rw [hq] at r1
      obtain ⟨s1, rl1⟩ := q
      obtain ⟨r1, r2⟩ := r1
      have r2 : CRl w1 t s1 rl1 := r2
      have hJ2 : Jr t s1 rl1 := hJ2
      have hl2 : rl1.length = rl.length + 1 := hl2
      have hk := sk_le hJ2.1
      have ek := sk_sk hJ2.1
      obtain ⟨w2, k1, k2, k3⟩ := c_sign hT r2.1.1
      have F2 : Fr PCL w w2 := F1.trans (k3.mono (fun κ i k q => by unfold PT2 at q; unfold  PCL; omega))
      have e7 : CRe w2 (s1, rl1) := ⟨by rw [(k3 7 0 2 (by unfold PT2; omega)).1]; exact r2.1.2.2.1, fun i st hi => by rw [(k3 28 0 i (by unfold PT2; omega)).1]; exact r2.1.2.2.2 i st hi, by rw [(k3 7 0 3 (by unfold PT2; omega)).1]; exact r2.2.1, BdAt.cg _ _ _ r2.2.2 (fun i _ => (k3 29 0 i (by unfold PT2; omega)).1)⟩
      show RCe _ w (if sk t s1.1 = t.1 then .inr (s1, rl1) else if t.2 (sk t s1.1) = 59 then rrS t (m + 1) (sk t s1.1 + 1, s1.2) rl1 else .inl (1 + 8 * sk t s1.1))
      by_cases c : sk t s1.1 = t.1
      · rw [if_pos c]
        have e1 : chS t (sk t s1.1) = -1 := if_neg (by omega)
        rw [e1] at k1
        refine ⟨w2, F2, ?_, e7⟩
        ((try dsimp only); rw [e_X8_read_21]; simp (disch := omega) only [e_X8_read_27, r1, e_X8_read_37, k1, e_X8_read_45, true_and, and_true, false_and, and_false, beq_t, beq_f, eqN_t, eqN_f, eqL_t, eqL_f, nm1, nm2, nm1', nm2', m1z, m2z, zm1, zm2, m12, m21, lg_cmp_ge, lg_cmp_le, lg_cmp_gt, lg_cmp_lt, lg_cmp_eq, oob, oobL, neg0, negL0, natle_f, or_false, false_or, true_or, or_true, or_self, cl, clL, le_t, le_f, lt_t, lt_f, leL_t, leL_f, ltL_t, ltL_f, leM_t, leM_f, ltM_t, ltM_f, leO_t, leO_f, cond_true, cond_false, Option.bind_some, Option.bind_none, if_false, if_true, nI_1, aL1, aL2, mL1, mL2, nI_add, pk_mul, pk_m1, sL1, dL1, pk_sub, m1p1, gIs_eq, gIs_k, gIs_i, gIs_n, gIs_e, gIJ, gIR, gJI, gJR, gJs_eq, gJs_k, gJs_n, gJs_e, gRI, gRJ, gRs_eq, gRs_k, gRs_i, gRs_n, gZI, gZJ, gZR, pI_s, pJ_s, pV_s, pR_s, pR_n, oR_n, oR_s, decide_true, decide_false, not_true_eq_false, not_false_eq_true, decT, decF, Bool.true_eq_false, Bool.false_eq_true, z01, o01, z1f, z1f', zz, oo, b2i_0, b2i_n, b2i_t, b2i_f, Bool.not_true, Bool.not_false])
      · rw [if_neg c]
        have e1 : chS t (sk t s1.1) = nI (t.2 (sk t s1.1)) := if_pos (by omega)
        have h256 := hT.2 (sk t s1.1) (by omega)
        rw [e1] at k1
        by_cases c2 : t.2 (sk t s1.1) = 59
        · rw [if_pos c2]
          obtain ⟨w3, l1, l2, l3⟩ := c_passSign hT k2 59 (by rw [ek, e1, c2]; rfl) (by omega)
          rw [ek] at l2
          have F3 : Fr PCL w w3 := F2.trans (l3.mono (fun κ i k q => by unfold PT2 at q; unfold  PCL; omega))
          have k23 := k3.trans l3
          have hC3 : CRl w3 t (sk t s1.1 + 1, s1.2) rl1 := ⟨r2.1.at k23 (fun κ k q => by unfold PT2; omega) l2, by rw [(k23 7 0 3 (by unfold PT2; omega)).1]; exact r2.2.1, BdAt.cg _ _ _ r2.2.2 (fun i _ => (k23 29 0 i (by unfold PT2; omega)).1)⟩
          obtain ⟨w4, F4, r4⟩ := ih (sk t s1.1 + 1, s1.2) rl1 w3 (by omega) hC3 ⟨by show sk t s1.1 + 1 ≤ t.1; omega, hJ2.2.1, by show s1.2.2.length ≤ sk t s1.1 + 1; have := hJ2.2.2.1; omega, hJ2.2.2.2⟩
          refine ⟨w4, F3.trans F4, ?_⟩
          have e5 : q_X8_read_21 (nI rl.length) w = q_X8_read_21 (nI rl1.length) w3 := by
            rw [hl2]
            ((try dsimp only); rw [e_X8_read_21]; simp (disch := omega) only [e_X8_read_27, r1, e_X8_read_37, k1, e_X8_read_47, l1, e_X8_read_58, true_and, and_true, false_and, and_false, beq_t, beq_f, eqN_t, eqN_f, eqL_t, eqL_f, nm1, nm2, nm1', nm2', m1z, m2z, zm1, zm2, m12, m21, lg_cmp_ge, lg_cmp_le, lg_cmp_gt, lg_cmp_lt, lg_cmp_eq, oob, oobL, neg0, negL0, natle_f, or_false, false_or, true_or, or_true, or_self, cl, clL, le_t, le_f, lt_t, lt_f, leL_t, leL_f, ltL_t, ltL_f, leM_t, leM_f, ltM_t, ltM_f, leO_t, leO_f, cond_true, cond_false, Option.bind_some, Option.bind_none, if_false, if_true, nI_1, aL1, aL2, mL1, mL2, nI_add, pk_mul, pk_m1, sL1, dL1, pk_sub, m1p1, gIs_eq, gIs_k, gIs_i, gIs_n, gIs_e, gIJ, gIR, gJI, gJR, gJs_eq, gJs_k, gJs_n, gJs_e, gRI, gRJ, gRs_eq, gRs_k, gRs_i, gRs_n, gZI, gZJ, gZR, pI_s, pJ_s, pV_s, pR_s, pR_n, oR_n, oR_s, decide_true, decide_false, not_true_eq_false, not_false_eq_true, decT, decF, Bool.true_eq_false, Bool.false_eq_true, z01, o01, z1f, z1f', zz, oo, b2i_0, b2i_n, b2i_t, b2i_f, Bool.not_true, Bool.not_false])
          rw [e5]
          exact r4
        · rw [if_neg c2]
          obtain ⟨w3, l1, l2, l3⟩ := c_passSignN hT k2 59 (by rw [ek, e1]; exact fun z => c2 ((nI_eq (a := t.2 (sk t s1.1)) (b := 59) (by omega) (by omega)).mp z))
          rw [ek] at l2
          refine ⟨w3, F2.trans (l3.mono (fun κ i k q => by unfold PTt at q; unfold  PCL; omega)), ?_, l2⟩
          ((try dsimp only); rw [e_X8_read_21]; simp (disch := omega) only [e_X8_read_27, r1, e_X8_read_37, k1, e_X8_read_47, l1, e_X8_read_56, true_and, and_true, false_and, and_false, beq_t, beq_f, eqN_t, eqN_f, eqL_t, eqL_f, nm1, nm2, nm1', nm2', m1z, m2z, zm1, zm2, m12, m21, lg_cmp_ge, lg_cmp_le, lg_cmp_gt, lg_cmp_lt, lg_cmp_eq, oob, oobL, neg0, negL0, natle_f, or_false, false_or, true_or, or_true, or_self, cl, clL, le_t, le_f, lt_t, lt_f, leL_t, leL_f, ltL_t, ltL_f, leM_t, leM_f, ltM_t, ltM_f, leO_t, leO_f, cond_true, cond_false, Option.bind_some, Option.bind_none, if_false, if_true, nI_1, aL1, aL2, mL1, mL2, nI_add, pk_mul, pk_m1, sL1, dL1, pk_sub, m1p1, gIs_eq, gIs_k, gIs_i, gIs_n, gIs_e, gIJ, gIR, gJI, gJR, gJs_eq, gJs_k, gJs_n, gJs_e, gRI, gRJ, gRs_eq, gRs_k, gRs_i, gRs_n, gZI, gZJ, gZR, pI_s, pJ_s, pV_s, pR_s, pR_n, oR_n, oR_s, decide_true, decide_false, not_true_eq_false, not_false_eq_true, decT, decF, Bool.true_eq_false, Bool.false_eq_true, z01, o01, z1f, z1f', zz, oo, b2i_0, b2i_n, b2i_t, b2i_f, Bool.not_true, Bool.not_false])
theorem Jr0 (t : Tp) : Jr t (0, 0, []) [] := ⟨Nat.zero_le _, Nat.zero_le _, Nat.zero_le _, rfl, Nat.zero_le _, fun q hq => by cases hq⟩
noncomputable def rlS (t : Tp) : Nat ⊕ (St × Rl) := rrS t 13 (0, 0, []) []
theorem c_rule {w : XW} {t : Tp} (hT : TOk2 t) (h : CT w t.1 t.2) : RCe (F_X8_read [.inr (7, 0), .inr (9, 0)] w) w (rlS t) := by
  have F1 : Fr PCL w (sI (sI (sI (sI (sI (sI w 7 0 2 0) 7 0 3 0) 7 0 4 0) 9 0 2 0) 9 0 3 0) 9 0 5 0) := (((((((Fr.refl _ _).sI (by unfold PCL; omega)).sI (by unfold PCL; omega)).sI (by unfold PCL; omega)).sI (by unfold PCL; omega)).sI (by unfold PCL; omega)).sI (by unfold PCL; omega))
  have hC : CRl (sI (sI (sI (sI (sI (sI w 7 0 2 0) 7 0 3 0) 7 0 4 0) 9 0 2 0) 9 0 3 0) 9 0 5 0) t (0, 0, []) [] :=
    ⟨⟨⟨h.fr F1 (fun κ k q => by unfold PCL; omega), by (simp (disch := omega) only [true_and, and_true, false_and, and_false, beq_t, beq_f, eqN_t, eqN_f, eqL_t, eqL_f, nm1, nm2, nm1', nm2', m1z, m2z, zm1, zm2, m12, m21, lg_cmp_ge, lg_cmp_le, lg_cmp_gt, lg_cmp_lt, lg_cmp_eq, oob, oobL, neg0, negL0, natle_f, or_false, false_or, true_or, or_true, or_self, cl, clL, le_t, le_f, lt_t, lt_f, leL_t, leL_f, ltL_t, ltL_f, leM_t, leM_f, ltM_t, ltM_f, leO_t, leO_f, cond_true, cond_false, Option.bind_some, Option.bind_none, if_false, if_true, nI_1, aL1, aL2, mL1, mL2, nI_add, pk_mul, pk_m1, sL1, dL1, pk_sub, m1p1, gIs_eq, gIs_k, gIs_i, gIs_n, gIs_e, gIJ, gIR, gJI, gJR, gJs_eq, gJs_k, gJs_n, gJs_e, gRI, gRJ, gRs_eq, gRs_k, gRs_i, gRs_n, gZI, gZJ, gZR, pI_s, pJ_s, pV_s, pR_s, pR_n, oR_n, oR_s, decide_true, decide_false, not_true_eq_false, not_false_eq_true, decT, decF, Bool.true_eq_false, Bool.false_eq_true, z01, o01, z1f, z1f', zz, oo, b2i_0, b2i_n, b2i_t, b2i_f, Bool.not_true, Bool.not_false]; try rfl), Nat.zero_le _⟩, by (simp (disch := omega) only [true_and, and_true, false_and, and_false, beq_t, beq_f, eqN_t, eqN_f, eqL_t, eqL_f, nm1, nm2, nm1', nm2', m1z, m2z, zm1, zm2, m12, m21, lg_cmp_ge, lg_cmp_le, lg_cmp_gt, lg_cmp_lt, lg_cmp_eq, oob, oobL, neg0, negL0, natle_f, or_false, false_or, true_or, or_true, or_self, cl, clL, le_t, le_f, lt_t, lt_f, leL_t, leL_f, ltL_t, ltL_f, leM_t, leM_f, ltM_t, ltM_f, leO_t, leO_f, cond_true, cond_false, Option.bind_some, Option.bind_none, if_false, if_true, nI_1, aL1, aL2, mL1, mL2, nI_add, pk_mul, pk_m1, sL1, dL1, pk_sub, m1p1, gIs_eq, gIs_k, gIs_i, gIs_n, gIs_e, gIJ, gIR, gJI, gJR, gJs_eq, gJs_k, gJs_n, gJs_e, gRI, gRJ, gRs_eq, gRs_k, gRs_i, gRs_n, gZI, gZJ, gZR, pI_s, pJ_s, pV_s, pR_s, pR_n, oR_n, oR_s, decide_true, decide_false, not_true_eq_false, not_false_eq_true, decT, decF, Bool.true_eq_false, Bool.false_eq_true, z01, o01, z1f, z1f', zz, oo, b2i_0, b2i_n, b2i_t, b2i_f, Bool.not_true, Bool.not_false]; try rfl), by (simp (disch := omega) only [true_and, and_true, false_and, and_false, beq_t, beq_f, eqN_t, eqN_f, eqL_t, eqL_f, nm1, nm2, nm1', nm2', m1z, m2z, zm1, zm2, m12, m21, lg_cmp_ge, lg_cmp_le, lg_cmp_gt, lg_cmp_lt, lg_cmp_eq, oob, oobL, neg0, negL0, natle_f, or_false, false_or, true_or, or_true, or_self, cl, clL, le_t, le_f, lt_t, lt_f, leL_t, leL_f, ltL_t, ltL_f, leM_t, leM_f, ltM_t, ltM_f, leO_t, leO_f, cond_true, cond_false, Option.bind_some, Option.bind_none, if_false, if_true, nI_1, aL1, aL2, mL1, mL2, nI_add, pk_mul, pk_m1, sL1, dL1, pk_sub, m1p1, gIs_eq, gIs_k, gIs_i, gIs_n, gIs_e, gIJ, gIR, gJI, gJR, gJs_eq, gJs_k, gJs_n, gJs_e, gRI, gRJ, gRs_eq, gRs_k, gRs_i, gRs_n, gZI, gZJ, gZR, pI_s, pJ_s, pV_s, pR_s, pR_n, oR_n, oR_s, decide_true, decide_false, not_true_eq_false, not_false_eq_true, decT, decF, Bool.true_eq_false, Bool.false_eq_true, z01, o01, z1f, z1f', zz, oo, b2i_0, b2i_n, b2i_t, b2i_f, Bool.not_true, Bool.not_false]; try rfl), fun i st hi => (by cases hi)⟩, by (simp (disch := omega) only [true_and, and_true, false_and, and_false, beq_t, beq_f, eqN_t, eqN_f, eqL_t, eqL_f, nm1, nm2, nm1', nm2', m1z, m2z, zm1, zm2, m12, m21, lg_cmp_ge, lg_cmp_le, lg_cmp_gt, lg_cmp_lt, lg_cmp_eq, oob, oobL, neg0, negL0, natle_f, or_false, false_or, true_or, or_true, or_self, cl, clL, le_t, le_f, lt_t, lt_f, leL_t, leL_f, ltL_t, ltL_f, leM_t, leM_f, ltM_t, ltM_f, leO_t, leO_f, cond_true, cond_false, Option.bind_some, Option.bind_none, if_false, if_true, nI_1, aL1, aL2, mL1, mL2, nI_add, pk_mul, pk_m1, sL1, dL1, pk_sub, m1p1, gIs_eq, gIs_k, gIs_i, gIs_n, gIs_e, gIJ, gIR, gJI, gJR, gJs_eq, gJs_k, gJs_n, gJs_e, gRI, gRJ, gRs_eq, gRs_k, gRs_i, gRs_n, gZI, gZJ, gZR, pI_s, pJ_s, pV_s, pR_s, pR_n, oR_n, oR_s, decide_true, decide_false, not_true_eq_false, not_false_eq_true, decT, decF, Bool.true_eq_false, Bool.false_eq_true, z01, o01, z1f, z1f', zz, oo, b2i_0, b2i_n, b2i_t, b2i_f, Bool.not_true, Bool.not_false]; try rfl), trivial⟩
  obtain ⟨w2, F2, r2⟩ := c_rread hT 12 _ [] _ rfl hC (Jr0 t)
  have e : F_X8_read [.inr (7, 0), .inr (9, 0)] w = (q_X8_read_21 (nI ([] : Rl).length) (sI (sI (sI (sI (sI (sI w 7 0 2 0) 7 0 3 0) 7 0 4 0) 9 0 2 0) 9 0 3 0) 9 0 5 0)).bind pI := by
    rw [f_X8_read, e_X8_read_0, f_X10_begin, e_X10_begin_0]
    simp (disch := omega) only [true_and, and_true, false_and, and_false, beq_t, beq_f, eqN_t, eqN_f, eqL_t, eqL_f, nm1, nm2, nm1', nm2', m1z, m2z, zm1, zm2, m12, m21, lg_cmp_ge, lg_cmp_le, lg_cmp_gt, lg_cmp_lt, lg_cmp_eq, oob, oobL, neg0, negL0, natle_f, or_false, false_or, true_or, or_true, or_self, cl, clL, le_t, le_f, lt_t, lt_f, leL_t, leL_f, ltL_t, ltL_f, leM_t, leM_f, ltM_t, ltM_f, leO_t, leO_f, cond_true, cond_false, Option.bind_some, Option.bind_none, if_false, if_true, nI_1, aL1, aL2, mL1, mL2, nI_add, pk_mul, pk_m1, sL1, dL1, pk_sub, m1p1, gIs_eq, gIs_k, gIs_i, gIs_n, gIs_e, gIJ, gIR, gJI, gJR, gJs_eq, gJs_k, gJs_n, gJs_e, gRI, gRJ, gRs_eq, gRs_k, gRs_i, gRs_n, gZI, gZJ, gZR, pI_s, pJ_s, pV_s, pR_s, pR_n, oR_n, oR_s, decide_true, decide_false, not_true_eq_false, not_false_eq_true, decT, decF, Bool.true_eq_false, Bool.false_eq_true, z01, o01, z1f, z1f', zz, oo, b2i_0, b2i_n, b2i_t, b2i_f, Bool.not_true, Bool.not_false]
    rfl
  exact ⟨w2, F1.trans F2, by rw [e]; exact r2⟩
