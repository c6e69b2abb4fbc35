/-! ===== the model reads all of a rule; rule() ===== -/
def MRe (T : Nat) (w : XW) (q : St × Rl) : Prop := LsAt (fun i => gI w 42 0 (400 * T + i)) (q.1.2.2.map encS) ∧ gI w 45 0 T = nI q.2.length ∧ BmAt (gI w 44 0) T 0 0 q.2
def PMR (T κ _j k : Nat) : Prop := (κ = 11 ∧ (k = 1 ∨ (8 ≤ k ∧ k ≤ 14) ∨ k = 16)) ∨ κ = 47 ∨ (κ = 42 ∧ 400 * T ≤ k ∧ k < 400 * T + 400) ∨ (κ = 43 ∧ k = T) ∨ (κ = 44 ∧ 48 * T ≤ k ∧ k < 48 * T + 48) ∨ (κ = 45 ∧ k = T)
def RSr (T : Nat) (F : Option XR) (w : XW) (r : Nat ⊕ (St × Rl)) : Prop := ∃ w', Fr (PMR T) w w' ∧ gI w' 11 0 1 = 0 ∧ match r with
  | .inl f => F = some (some (.inl (.int 0)), w') ∧ gI w' 11 0 9 = nI f
  | .inr q => F = some (some (.inl (.int 1)), w') ∧ MRe T w' q
theorem m_rreads {T : Nat} (hT6 : T < 6) {t : Tp} (hT : TOk2 t) : ∀ (m : Nat) (s : St) (rl : Rl) (w : XW), rl.length + m = 12 → MRl T w t s rl → Jr t s rl → RSr T ((F_X12_clauseHere [.inr (11, 0)] w).bind fun r0 => q_X12_readsAll_35 r0.1 r0.2) w (rrS t (m + 1) s rl) := by
  have h4 := hT.1
  intro m
  induction m with
  | zero =>
    intro s rl w hm hC hJ
    obtain ⟨w1, F1, r1⟩ := m_rclause hT6 hT hC hJ
    have e0 : rrS t (0 + 1) s rl = sB (caS t s rl) (fun r => if sk t r.1.1 = t.1 then .inr r else if t.2 (sk t r.1.1) = 59 then rrS t 0 (sk t r.1.1 + 1, r.1.2) r.2 else .inl (1 + 8 * sk t r.1.1)) := rfl
    rw [e0]
    cases hq : caS t s rl with
    | inl f =>
      rw [hq] at r1
      obtain ⟨r1, g9⟩ := r1
      have nz := nI_nz ((ca_ok hT hJ).2 f hq)
      refine ⟨sI w1 11 0 1 0, (F1.mono (fun κ i k q => by unfold PML at q; unfold  PMR; omega)).sI (by unfold PMR; omega), gIs_eq, ?_, by rw [gIs_k (by omega)]; exact g9⟩
      simp (disch := omega) only [r1, e_X12_readsAll_35, e_X12_readsAll_66, m_end, g9, nz, true_and, and_true, false_and, and_false, beq_t, beq_f, eqN_t, eqN_f, eqL_t, eqL_f, nm1, nm2, nm1', nm2', m1z, m2z, zm1, zm2, m12, m21, lg_cmp_ge, lg_cmp_le, lg_cmp_gt, lg_cmp_lt, lg_cmp_eq, oob, oobL, neg0, negL0, natle_f, or_false, false_or, true_or, or_true, or_self, cl, clL, le_t, le_f, lt_t, lt_f, leL_t, leL_f, ltL_t, ltL_f, leM_t, leM_f, ltM_t, ltM_f, leO_t, leO_f, cond_true, cond_false, Option.bind_some, Option.bind_none, if_false, if_true, nI_1, aL1, aL2, mL1, mL2, nI_add, pk_mul, pk_m1, sL1, dL1, pk_sub, m1p1, gIs_eq, gIs_k, gIs_i, gIs_n, gIs_e, gIJ, gIR, gJI, gJR, gJs_eq, gJs_k, gJs_n, gJs_e, gRI, gRJ, gRs_eq, gRs_k, gRs_i, gRs_n, gZI, gZJ, gZR, pI_s, pJ_s, pV_s, pR_s, pR_n, oR_n, oR_s, decide_true, decide_false, not_true_eq_false, not_false_eq_true, decT, decF, Bool.true_eq_false, Bool.false_eq_true, z01, o01, z1f, z1f', zz, oo, b2i_0, b2i_n, b2i_t, b2i_f, Bool.not_true, Bool.not_false]
    | inr q => exact absurd hq (ca12 (by omega) q)
  | succ m ih =>
    intro s rl w hm hC hJ
    obtain ⟨w1, F1, r1⟩ := m_rclause hT6 hT hC hJ
    have FA : Fr (PMR T) w w1 := F1.mono (fun κ i k q => by unfold PML at q; unfold  PMR; omega)
    have e0 : rrS t (m + 1 + 1) s rl = sB (caS t s rl) (fun r => if sk t r.1.1 = t.1 then .inr r else if t.2 (sk t r.1.1) = 59 then rrS t (m + 1) (sk t r.1.1 + 1, r.1.2) r.2 else .inl (1 + 8 * sk t r.1.1)) := rfl
    rw [e0]
    cases hq : caS t s rl with
    | inl f =>
      rw [hq] at r1
      obtain ⟨r1, g9⟩ := r1
      have nz := nI_nz ((ca_ok hT hJ).2 f hq)
      refine ⟨sI w1 11 0 1 0, FA.sI (by unfold PMR; omega), gIs_eq, ?_, by rw [gIs_k (by omega)]; exact g9⟩
      simp (disch := omega) only [r1, e_X12_readsAll_35, e_X12_readsAll_66, m_end, g9, nz, true_and, and_true, false_and, and_false, beq_t, beq_f, eqN_t, eqN_f, eqL_t, eqL_f, nm1, nm2, nm1', nm2', m1z, m2z, zm1, zm2, m12, m21, lg_cmp_ge, lg_cmp_le, lg_cmp_gt, lg_cmp_lt, lg_cmp_eq, oob, oobL, neg0, negL0, natle_f, or_false, false_or, true_or, or_true, or_self, cl, clL, le_t, le_f, lt_t, lt_f, leL_t, leL_f, ltL_t, ltL_f, leM_t, leM_f, ltM_t, ltM_f, leO_t, leO_f, cond_true, cond_false, Option.bind_some, Option.bind_none, if_false, if_true, nI_1, aL1, aL2, mL1, mL2, nI_add, pk_mul, pk_m1, sL1, dL1, pk_sub, m1p1, gIs_eq, gIs_k, gIs_i, gIs_n, gIs_e, gIJ, gIR, gJI, gJR, gJs_eq, gJs_k, gJs_n, gJs_e, gRI, gRJ, gRs_eq, gRs_k, gRs_i, gRs_n, gZI, gZJ, gZR, pI_s, pJ_s, pV_s, pR_s, pR_n, oR_n, oR_s, decide_true, decide_false, not_true_eq_false, not_false_eq_true, decT, decF, Bool.true_eq_false, Bool.false_eq_true, z01, o01, z1f, z1f', zz, oo, b2i_0, b2i_n, b2i_t, b2i_f, Bool.not_true, Bool.not_false]
    | inr q =>
      obtain ⟨hJ2, hl2⟩ := (ca_ok hT hJ).1 q hq
      rw [hq] at r1
      obtain ⟨s1, rl1⟩ := q
      obtain ⟨r1, r2⟩ := r1
      have r2 : MRl T w1 t s1 rl1 := r2
      have hJ2 : Jr t s1 rl1 := hJ2
      have hl2 : rl1.length = rl.length + 1 := hl2
      have hk := sk_le hJ2.1
      have ek := sk_sk hJ2.1
      obtain ⟨w2, k1, k2, k3⟩ := m_see hT r2.1.1
      have k4 := m_see0 hT k2 ek
      have F2 : Fr (PMR T) w w2 := FA.trans (k3.mono (fun κ i k q => by unfold PM8 at q; unfold  PMR; omega))
      have g8 := k2.2.1
      have g9 := k2.2.2.1
      have C2 : MRt T w2 t (sk t s1.1, s1.2) := r2.1.at k3 (fun κ k q => by unfold PM8; omega) k2
      have h45 : gI w2 45 0 T = nI rl1.length := by rw [(k3 45 0 T (by unfold PM8; omega)).1]; exact r2.2.1
      have h14 : gI w2 11 0 14 = nI rl1.length := by rw [(k3 11 0 14 (by unfold PM8; omega)).1]; exact r2.2.2.1
      have hB : BmAt (gI w2 44 0) T 0 0 rl1 := r2.2.2.2.cg _ _ _ (fun i _ _ => (k3 44 0 i (by unfold PM8; omega)).1)
      show RSr T _ w (if sk t s1.1 = t.1 then .inr (s1, rl1) else if t.2 (sk t s1.1) = 59 then rrS t (m + 1) (sk t s1.1 + 1, s1.2) rl1 else .inl (1 + 8 * sk t s1.1))
      by_cases c : sk t s1.1 = t.1
      · rw [if_pos c]
        have e1 : chS t (sk t s1.1) = -1 := if_neg (by omega)
        have e59 : ¬ (-1 : Int32) = 59 := by decide
        rw [e1] at k1 k4
        refine ⟨sI w2 11 0 1 0, F2.sI (by unfold PMR; omega), gIs_eq, ?_, fun i st hi => by show gI _ 42 0 _ = _; rw [gIs_n (by omega)]; exact C2.2.2.2.2 i st hi, by rw [gIs_n (by omega)]; exact h45, hB.cg _ _ _ (fun i _ _ => by rw [gIs_n (by omega)])⟩
        simp (disch := omega) only [r1, e_X12_readsAll_35, e_X12_readsAll_39, k1, e59, e_X12_readsAll_66, e_X12_readsAll_70, k4, m_end, g9, true_and, and_true, false_and, and_false, beq_t, beq_f, eqN_t, eqN_f, eqL_t, eqL_f, nm1, nm2, nm1', nm2', m1z, m2z, zm1, zm2, m12, m21, lg_cmp_ge, lg_cmp_le, lg_cmp_gt, lg_cmp_lt, lg_cmp_eq, oob, oobL, neg0, negL0, natle_f, or_false, false_or, true_or, or_true, or_self, cl, clL, le_t, le_f, lt_t, lt_f, leL_t, leL_f, ltL_t, ltL_f, leM_t, leM_f, ltM_t, ltM_f, leO_t, leO_f, cond_true, cond_false, Option.bind_some, Option.bind_none, if_false, if_true, nI_1, aL1, aL2, mL1, mL2, nI_add, pk_mul, pk_m1, sL1, dL1, pk_sub, m1p1, gIs_eq, gIs_k, gIs_i, gIs_n, gIs_e, gIJ, gIR, gJI, gJR, gJs_eq, gJs_k, gJs_n, gJs_e, gRI, gRJ, gRs_eq, gRs_k, gRs_i, gRs_n, gZI, gZJ, gZR, pI_s, pJ_s, pV_s, pR_s, pR_n, oR_n, oR_s, decide_true, decide_false, not_true_eq_false, not_false_eq_true, decT, decF, Bool.true_eq_false, Bool.false_eq_true, z01, o01, z1f, z1f', zz, oo, b2i_0, b2i_n, b2i_t, b2i_f, Bool.not_true, Bool.not_false]
      · rw [if_neg c]
        have e1 : chS t (sk t s1.1) = nI (t.2 (sk t s1.1)) := if_pos (by omega)
        have h256 := hT.2 (sk t s1.1) (by omega)
        rw [e1] at k1 k4
        by_cases c2 : t.2 (sk t s1.1) = 59
        · rw [if_pos c2]
          have c59 : nI (t.2 (sk t s1.1)) = 59 := by rw [c2]; rfl
          have hM : MTp (sI w2 11 0 8 (nI (sk t s1.1 + 1))) t (sk t s1.1 + 1) := k2.to (by omega)
          have F8 : Fr PM8 w2 (sI w2 11 0 8 (nI (sk t s1.1 + 1))) := (Fr.refl _ _).sI (by unfold PM8; omega)
          obtain ⟨w4, F4, t4, r4⟩ := ih (sk t s1.1 + 1, s1.2) rl1 _ (by omega) ⟨C2.at F8 (fun κ k q => by unfold PM8; omega) hM, by rw [gIs_n (by omega)]; exact h45, by rw [gIs_k (by omega)]; exact h14, hB.cg _ _ _ (fun i _ _ => by rw [gIs_n (by omega)])⟩ ⟨by show sk t s1.1 + 1 ≤ t.1; omega, hJ2.2.1, by show s1.2.2.length ≤ sk t s1.1 + 1; have := hJ2.2.2.1; omega, hJ2.2.2.2⟩
          refine ⟨w4, (F2.trans (F8.mono (fun κ i k q => by unfold PM8 at q; unfold  PMR; omega))).trans F4, t4, ?_⟩
          have e5 : ((F_X12_clauseHere [.inr (11, 0)] w).bind fun r0 => q_X12_readsAll_35 r0.1 r0.2) = ((F_X12_clauseHere [.inr (11, 0)] (sI w2 11 0 8 (nI (sk t s1.1 + 1)))).bind fun r0 => q_X12_readsAll_35 r0.1 r0.2) := by
            rw [r1]
            ((try dsimp only); rw [Option.bind_some]; (try dsimp only); rw [e_X12_readsAll_35])
            simp (disch := omega) only [e_X12_readsAll_39, k1, c59, e_X12_readsAll_48, g8, true_and, and_true, false_and, and_false, beq_t, beq_f, eqN_t, eqN_f, eqL_t, eqL_f, nm1, nm2, nm1', nm2', m1z, m2z, zm1, zm2, m12, m21, lg_cmp_ge, lg_cmp_le, lg_cmp_gt, lg_cmp_lt, lg_cmp_eq, oob, oobL, neg0, negL0, natle_f, or_false, false_or, true_or, or_true, or_self, cl, clL, le_t, le_f, lt_t, lt_f, leL_t, leL_f, ltL_t, ltL_f, leM_t, leM_f, ltM_t, ltM_f, leO_t, leO_f, cond_true, cond_false, Option.bind_some, Option.bind_none, if_false, if_true, nI_1, aL1, aL2, mL1, mL2, nI_add, pk_mul, pk_m1, sL1, dL1, pk_sub, m1p1, gIs_eq, gIs_k, gIs_i, gIs_n, gIs_e, gIJ, gIR, gJI, gJR, gJs_eq, gJs_k, gJs_n, gJs_e, gRI, gRJ, gRs_eq, gRs_k, gRs_i, gRs_n, gZI, gZJ, gZR, pI_s, pJ_s, pV_s, pR_s, pR_n, oR_n, oR_s, decide_true, decide_false, not_true_eq_false, not_false_eq_true, decT, decF, Bool.true_eq_false, Bool.false_eq_true, z01, o01, z1f, z1f', zz, oo, b2i_0, b2i_n, b2i_t, b2i_f, Bool.not_true, Bool.not_false]
          rw [e5]
          exact r4
        · rw [if_neg c2]
          have n59 : ¬ nI (t.2 (sk t s1.1)) = 59 := fun z => c2 ((nI_eq (a := t.2 (sk t s1.1)) (b := 59) (by omega) (by omega)).mp z)
          have kf := m_fails0 (w := w2) (sk t s1.1) g9
          have nz : ¬ nI (1 + 8 * sk t s1.1) = 0 := nI_nz (by unfold FB; omega)
          refine ⟨sI (sI w2 11 0 9 (nI (1 + 8 * sk t s1.1))) 11 0 1 0, (F2.sI (by unfold PMR; omega)).sI (by unfold PMR; omega), gIs_eq, ?_, by rw [gIs_k (by omega)]; exact gIs_eq⟩
          simp (disch := omega) only [r1, e_X12_readsAll_35, e_X12_readsAll_39, k1, n59, e_X12_readsAll_66, e_X12_readsAll_70, k4, e_X12_readsAll_78, g8, kf, m_end, nz, true_and, and_true, false_and, and_false, beq_t, beq_f, eqN_t, eqN_f, eqL_t, eqL_f, nm1, nm2, nm1', nm2', m1z, m2z, zm1, zm2, m12, m21, lg_cmp_ge, lg_cmp_le, lg_cmp_gt, lg_cmp_lt, lg_cmp_eq, oob, oobL, neg0, negL0, natle_f, or_false, false_or, true_or, or_true, or_self, cl, clL, le_t, le_f, lt_t, lt_f, leL_t, leL_f, ltL_t, ltL_f, leM_t, leM_f, ltM_t, ltM_f, leO_t, leO_f, cond_true, cond_false, Option.bind_some, Option.bind_none, if_false, if_true, nI_1, aL1, aL2, mL1, mL2, nI_add, pk_mul, pk_m1, sL1, dL1, pk_sub, m1p1, gIs_eq, gIs_k, gIs_i, gIs_n, gIs_e, gIJ, gIR, gJI, gJR, gJs_eq, gJs_k, gJs_n, gJs_e, gRI, gRJ, gRs_eq, gRs_k, gRs_i, gRs_n, gZI, gZJ, gZR, pI_s, pJ_s, pV_s, pR_s, pR_n, oR_n, oR_s, decide_true, decide_false, not_true_eq_false, not_false_eq_true, decT, decF, Bool.true_eq_false, Bool.false_eq_true, z01, o01, z1f, z1f', zz, oo, b2i_0, b2i_n, b2i_t, b2i_f, Bool.not_true, Bool.not_false]
def PMR2 (T κ j k : Nat) : Prop := PMR T κ j k ∨ (κ = 11 ∧ k = 2)
def RuM (T : Nat) (w : XW) (r : Nat ⊕ (St × Rl)) : Prop := match r with
  | .inl f => ∃ w', F_X12_rule [.inr (11, 0)] w = some (-2 - nI f, w') ∧ Fr (PMR T) w w' ∧ gI w' 11 0 1 = 0
  | .inr q => ∃ w', F_X12_rule [.inr (11, 0)] w = some (nI T, w') ∧ Fr (PMR2 T) w w' ∧ gI w' 11 0 1 = 0 ∧ gI w' 11 0 2 = nI (T + 1) ∧ MRe T w' q
theorem m_rule {T : Nat} (hT6 : T < 6) {w : XW} {t : Tp} (hT : TOk2 t) (h : MT w t.1 t.2) (h2 : gI w 11 0 2 = nI T) : RuM T w (rlS t) := by
  have F1 : Fr (PMR T) w (sI (sI (sI (sI (sI (sI (sI w 11 0 11 (nI T)) 45 0 T 0) 43 0 T 0) 11 0 14 0) 11 0 8 0) 11 0 9 0) 11 0 12 0) := (((((((Fr.refl _ _).sI (by unfold PMR; omega)).sI (by unfold PMR; omega)).sI (by unfold PMR; omega)).sI (by unfold PMR; omega)).sI (by unfold PMR; omega)).sI (by unfold PMR; omega)).sI (by unfold PMR; omega)
  have F0 : Fr (fun κ _ k => κ = 45 ∨ κ = 43 ∨ (κ = 11 ∧ 8 ≤ k)) w (sI (sI (sI (sI (sI (sI (sI w 11 0 11 (nI T)) 45 0 T 0) 43 0 T 0) 11 0 14 0) 11 0 8 0) 11 0 9 0) 11 0 12 0) := (((((((Fr.refl _ _).sI (by omega)).sI (by omega)).sI (by omega)).sI (by omega)).sI (by omega)).sI (by omega)).sI (by omega)
  have hM : MRl T (sI (sI (sI (sI (sI (sI (sI w 11 0 11 (nI T)) 45 0 T 0) 43 0 T 0) 11 0 14 0) 11 0 8 0) 11 0 9 0) 11 0 12 0) t (0, 0, []) [] :=
    ⟨⟨⟨h.fr F0 (fun κ k q => by omega), by (simp (disch := omega) only [true_and, and_true, false_and, and_false, beq_t, beq_f, eqN_t, eqN_f, eqL_t, eqL_f, nm1, nm2, nm1', nm2', m1z, m2z, zm1, zm2, m12, m21, lg_cmp_ge, lg_cmp_le, lg_cmp_gt, lg_cmp_lt, lg_cmp_eq, oob, oobL, neg0, negL0, natle_f, or_false, false_or, true_or, or_true, or_self, cl, clL, le_t, le_f, lt_t, lt_f, leL_t, leL_f, ltL_t, ltL_f, leM_t, leM_f, ltM_t, ltM_f, leO_t, leO_f, cond_true, cond_false, Option.bind_some, Option.bind_none, if_false, if_true, nI_1, aL1, aL2, mL1, mL2, nI_add, pk_mul, pk_m1, sL1, dL1, pk_sub, m1p1, gIs_eq, gIs_k, gIs_i, gIs_n, gIs_e, gIJ, gIR, gJI, gJR, gJs_eq, gJs_k, gJs_n, gJs_e, gRI, gRJ, gRs_eq, gRs_k, gRs_i, gRs_n, gZI, gZJ, gZR, pI_s, pJ_s, pV_s, pR_s, pR_n, oR_n, oR_s, decide_true, decide_false, not_true_eq_false, not_false_eq_true, decT, decF, Bool.true_eq_false, Bool.false_eq_true, z01, o01, z1f, z1f', zz, oo, b2i_0, b2i_n, b2i_t, b2i_f, Bool.not_true, Bool.not_false]; try rfl), by (simp (disch := omega) only [true_and, and_true, false_and, and_false, beq_t, beq_f, eqN_t, eqN_f, eqL_t, eqL_f, nm1, nm2, nm1', nm2', m1z, m2z, zm1, zm2, m12, m21, lg_cmp_ge, lg_cmp_le, lg_cmp_gt, lg_cmp_lt, lg_cmp_eq, oob, oobL, neg0, negL0, natle_f, or_false, false_or, true_or, or_true, or_self, cl, clL, le_t, le_f, lt_t, lt_f, leL_t, leL_f, ltL_t, ltL_f, leM_t, leM_f, ltM_t, ltM_f, leO_t, leO_f, cond_true, cond_false, Option.bind_some, Option.bind_none, if_false, if_true, nI_1, aL1, aL2, mL1, mL2, nI_add, pk_mul, pk_m1, sL1, dL1, pk_sub, m1p1, gIs_eq, gIs_k, gIs_i, gIs_n, gIs_e, gIJ, gIR, gJI, gJR, gJs_eq, gJs_k, gJs_n, gJs_e, gRI, gRJ, gRs_eq, gRs_k, gRs_i, gRs_n, gZI, gZJ, gZR, pI_s, pJ_s, pV_s, pR_s, pR_n, oR_n, oR_s, decide_true, decide_false, not_true_eq_false, not_false_eq_true, decT, decF, Bool.true_eq_false, Bool.false_eq_true, z01, o01, z1f, z1f', zz, oo, b2i_0, b2i_n, b2i_t, b2i_f, Bool.not_true, Bool.not_false]; try rfl), Nat.zero_le _⟩, by (simp (disch := omega) only [true_and, and_true, false_and, and_false, beq_t, beq_f, eqN_t, eqN_f, eqL_t, eqL_f, nm1, nm2, nm1', nm2', m1z, m2z, zm1, zm2, m12, m21, lg_cmp_ge, lg_cmp_le, lg_cmp_gt, lg_cmp_lt, lg_cmp_eq, oob, oobL, neg0, negL0, natle_f, or_false, false_or, true_or, or_true, or_self, cl, clL, le_t, le_f, lt_t, lt_f, leL_t, leL_f, ltL_t, ltL_f, leM_t, leM_f, ltM_t, ltM_f, leO_t, leO_f, cond_true, cond_false, Option.bind_some, Option.bind_none, if_false, if_true, nI_1, aL1, aL2, mL1, mL2, nI_add, pk_mul, pk_m1, sL1, dL1, pk_sub, m1p1, gIs_eq, gIs_k, gIs_i, gIs_n, gIs_e, gIJ, gIR, gJI, gJR, gJs_eq, gJs_k, gJs_n, gJs_e, gRI, gRJ, gRs_eq, gRs_k, gRs_i, gRs_n, gZI, gZJ, gZR, pI_s, pJ_s, pV_s, pR_s, pR_n, oR_n, oR_s, decide_true, decide_false, not_true_eq_false, not_false_eq_true, decT, decF, Bool.true_eq_false, Bool.false_eq_true, z01, o01, z1f, z1f', zz, oo, b2i_0, b2i_n, b2i_t, b2i_f, Bool.not_true, Bool.not_false]; try rfl), by (simp (disch := omega) only [true_and, and_true, false_and, and_false, beq_t, beq_f, eqN_t, eqN_f, eqL_t, eqL_f, nm1, nm2, nm1', nm2', m1z, m2z, zm1, zm2, m12, m21, lg_cmp_ge, lg_cmp_le, lg_cmp_gt, lg_cmp_lt, lg_cmp_eq, oob, oobL, neg0, negL0, natle_f, or_false, false_or, true_or, or_true, or_self, cl, clL, le_t, le_f, lt_t, lt_f, leL_t, leL_f, ltL_t, ltL_f, leM_t, leM_f, ltM_t, ltM_f, leO_t, leO_f, cond_true, cond_false, Option.bind_some, Option.bind_none, if_false, if_true, nI_1, aL1, aL2, mL1, mL2, nI_add, pk_mul, pk_m1, sL1, dL1, pk_sub, m1p1, gIs_eq, gIs_k, gIs_i, gIs_n, gIs_e, gIJ, gIR, gJI, gJR, gJs_eq, gJs_k, gJs_n, gJs_e, gRI, gRJ, gRs_eq, gRs_k, gRs_i, gRs_n, gZI, gZJ, gZR, pI_s, pJ_s, pV_s, pR_s, pR_n, oR_n, oR_s, decide_true, decide_false, not_true_eq_false, not_false_eq_true, decT, decF, Bool.true_eq_false, Bool.false_eq_true, z01, o01, z1f, z1f', zz, oo, b2i_0, b2i_n, b2i_t, b2i_f, Bool.not_true, Bool.not_false]; try rfl), by simp (disch := omega) only [true_and, and_true, false_and, and_false, beq_t, beq_f, eqN_t, eqN_f, eqL_t, eqL_f, nm1, nm2, nm1', nm2', m1z, m2z, zm1, zm2, m12, m21, lg_cmp_ge, lg_cmp_le, lg_cmp_gt, lg_cmp_lt, lg_cmp_eq, oob, oobL, neg0, negL0, natle_f, or_false, false_or, true_or, or_true, or_self, cl, clL, le_t, le_f, lt_t, lt_f, leL_t, leL_f, ltL_t, ltL_f, leM_t, leM_f, ltM_t, ltM_f, leO_t, leO_f, cond_true, cond_false, Option.bind_some, Option.bind_none, if_false, if_true, nI_1, aL1, aL2, mL1, mL2, nI_add, pk_mul, pk_m1, sL1, dL1, pk_sub, m1p1, gIs_eq, gIs_k, gIs_i, gIs_n, gIs_e, gIJ, gIR, gJI, gJR, gJs_eq, gJs_k, gJs_n, gJs_e, gRI, gRJ, gRs_eq, gRs_k, gRs_i, gRs_n, gZI, gZJ, gZR, pI_s, pJ_s, pV_s, pR_s, pR_n, oR_n, oR_s, decide_true, decide_false, not_true_eq_false, not_false_eq_true, decT, decF, Bool.true_eq_false, Bool.false_eq_true, z01, o01, z1f, z1f', zz, oo, b2i_0, b2i_n, b2i_t, b2i_f, Bool.not_true, Bool.not_false], fun i st hi => (by cases hi)⟩, by (simp (disch := omega) only [true_and, and_true, false_and, and_false, beq_t, beq_f, eqN_t, eqN_f, eqL_t, eqL_f, nm1, nm2, nm1', nm2', m1z, m2z, zm1, zm2, m12, m21, lg_cmp_ge, lg_cmp_le, lg_cmp_gt, lg_cmp_lt, lg_cmp_eq, oob, oobL, neg0, negL0, natle_f, or_false, false_or, true_or, or_true, or_self, cl, clL, le_t, le_f, lt_t, lt_f, leL_t, leL_f, ltL_t, ltL_f, leM_t, leM_f, ltM_t, ltM_f, leO_t, leO_f, cond_true, cond_false, Option.bind_some, Option.bind_none, if_false, if_true, nI_1, aL1, aL2, mL1, mL2, nI_add, pk_mul, pk_m1, sL1, dL1, pk_sub, m1p1, gIs_eq, gIs_k, gIs_i, gIs_n, gIs_e, gIJ, gIR, gJI, gJR, gJs_eq, gJs_k, gJs_n, gJs_e, gRI, gRJ, gRs_eq, gRs_k, gRs_i, gRs_n, gZI, gZJ, gZR, pI_s, pJ_s, pV_s, pR_s, pR_n, oR_n, oR_s, decide_true, decide_false, not_true_eq_false, not_false_eq_true, decT, decF, Bool.true_eq_false, Bool.false_eq_true, z01, o01, z1f, z1f', zz, oo, b2i_0, b2i_n, b2i_t, b2i_f, Bool.not_true, Bool.not_false]; try rfl), by (simp (disch := omega) only [true_and, and_true, false_and, and_false, beq_t, beq_f, eqN_t, eqN_f, eqL_t, eqL_f, nm1, nm2, nm1', nm2', m1z, m2z, zm1, zm2, m12, m21, lg_cmp_ge, lg_cmp_le, lg_cmp_gt, lg_cmp_lt, lg_cmp_eq, oob, oobL, neg0, negL0, natle_f, or_false, false_or, true_or, or_true, or_self, cl, clL, le_t, le_f, lt_t, lt_f, leL_t, leL_f, ltL_t, ltL_f, leM_t, leM_f, ltM_t, ltM_f, leO_t, leO_f, cond_true, cond_false, Option.bind_some, Option.bind_none, if_false, if_true, nI_1, aL1, aL2, mL1, mL2, nI_add, pk_mul, pk_m1, sL1, dL1, pk_sub, m1p1, gIs_eq, gIs_k, gIs_i, gIs_n, gIs_e, gIJ, gIR, gJI, gJR, gJs_eq, gJs_k, gJs_n, gJs_e, gRI, gRJ, gRs_eq, gRs_k, gRs_i, gRs_n, gZI, gZJ, gZR, pI_s, pJ_s, pV_s, pR_s, pR_n, oR_n, oR_s, decide_true, decide_false, not_true_eq_false, not_false_eq_true, decT, decF, Bool.true_eq_false, Bool.false_eq_true, z01, o01, z1f, z1f', zz, oo, b2i_0, b2i_n, b2i_t, b2i_f, Bool.not_true, Bool.not_false]; try rfl), trivial⟩
  obtain ⟨w3, F3, b2, b3⟩ := m_rreads hT6 hT 12 _ [] _ rfl hM (Jr0 t)
  have n6 : ¬ nI T = 6 := fun z => by
    have := (nI_eq (a := T) (b := 6) (by omega) (by omega)).mp z
    omega
  have FE : Fr (PMR T) w w3 := F1.trans F3
  have h23 : gI w3 11 0 2 = nI T := by rw [(FE 11 0 2 (by unfold PMR; omega)).1]; exact h2
  have start : F_X12_rule [.inr (11, 0)] w = (((((F_X12_clauseHere [.inr (11, 0)] (sI (sI (sI (sI (sI (sI (sI w 11 0 11 (nI T)) 45 0 T 0) 43 0 T 0) 11 0 14 0) 11 0 8 0) 11 0 9 0) 11 0 12 0)).bind fun r0 => q_X12_readsAll_35 r0.1 r0.2).bind pI).bind fun r0 => (bif decide (¬ r0.1 = 0) then (q_X12_rule_44 r0.2) else (q_X12_rule_36 r0.2))) : Option XR).bind pI := by
    rw [f_X12_rule, e_X12_rule_0]
    simp (disch := omega) only [h2, n6, e_X12_rule_11, f_X12_readsAll, e_X12_readsAll_0, true_and, and_true, false_and, and_false, beq_t, beq_f, eqN_t, eqN_f, eqL_t, eqL_f, nm1, nm2, nm1', nm2', m1z, m2z, zm1, zm2, m12, m21, lg_cmp_ge, lg_cmp_le, lg_cmp_gt, lg_cmp_lt, lg_cmp_eq, oob, oobL, neg0, negL0, natle_f, or_false, false_or, true_or, or_true, or_self, cl, clL, le_t, le_f, lt_t, lt_f, leL_t, leL_f, ltL_t, ltL_f, leM_t, leM_f, ltM_t, ltM_f, leO_t, leO_f, cond_true, cond_false, Option.bind_some, Option.bind_none, if_false, if_true, nI_1, aL1, aL2, mL1, mL2, nI_add, pk_mul, pk_m1, sL1, dL1, pk_sub, m1p1, gIs_eq, gIs_k, gIs_i, gIs_n, gIs_e, gIJ, gIR, gJI, gJR, gJs_eq, gJs_k, gJs_n, gJs_e, gRI, gRJ, gRs_eq, gRs_k, gRs_i, gRs_n, gZI, gZJ, gZR, pI_s, pJ_s, pV_s, pR_s, pR_n, oR_n, oR_s, decide_true, decide_false, not_true_eq_false, not_false_eq_true, decT, decF, Bool.true_eq_false, Bool.false_eq_true, z01, o01, z1f, z1f', zz, oo, b2i_0, b2i_n, b2i_t, b2i_f, Bool.not_true, Bool.not_false]
  cases hr : rlS t with
  | inl f =>
    have hr' : rrS t (12 + 1) (0, 0, []) [] = .inl f := hr
    rw [hr'] at b3
    obtain ⟨b3, b4⟩ := b3
    refine ⟨w3, ?_, FE, b2⟩
    rw [start, b3]
    simp (disch := omega) only [e_X12_rule_36, b4, true_and, and_true, false_and, and_false, beq_t, beq_f, eqN_t, eqN_f, eqL_t, eqL_f, nm1, nm2, nm1', nm2', m1z, m2z, zm1, zm2, m12, m21, lg_cmp_ge, lg_cmp_le, lg_cmp_gt, lg_cmp_lt, lg_cmp_eq, oob, oobL, neg0, negL0, natle_f, or_false, false_or, true_or, or_true, or_self, cl, clL, le_t, le_f, lt_t, lt_f, leL_t, leL_f, ltL_t, ltL_f, leM_t, leM_f, ltM_t, ltM_f, leO_t, leO_f, cond_true, cond_false, Option.bind_some, Option.bind_none, if_false, if_true, nI_1, aL1, aL2, mL1, mL2, nI_add, pk_mul, pk_m1, sL1, dL1, pk_sub, m1p1, gIs_eq, gIs_k, gIs_i, gIs_n, gIs_e, gIJ, gIR, gJI, gJR, gJs_eq, gJs_k, gJs_n, gJs_e, gRI, gRJ, gRs_eq, gRs_k, gRs_i, gRs_n, gZI, gZJ, gZR, pI_s, pJ_s, pV_s, pR_s, pR_n, oR_n, oR_s, decide_true, decide_false, not_true_eq_false, not_false_eq_true, decT, decF, Bool.true_eq_false, Bool.false_eq_true, z01, o01, z1f, z1f', zz, oo, b2i_0, b2i_n, b2i_t, b2i_f, Bool.not_true, Bool.not_false]
  | inr q =>
    have hr' : rrS t (12 + 1) (0, 0, []) [] = .inr q := hr
    rw [hr'] at b3
    obtain ⟨b3, b4, b5, b6⟩ := b3
    refine ⟨sI w3 11 0 2 (nI (T + 1)), ?_, (FE.mono (fun κ i k q => Or.inl q)).sI (Or.inr ⟨rfl, rfl⟩), by rw [gIs_k (by omega)]; exact b2, gIs_eq, fun i st hi => by show gI _ 42 0 _ = _; rw [gIs_n (by omega)]; exact b4 i st hi, by rw [gIs_n (by omega)]; exact b5, b6.cg _ _ _ (fun i _ _ => by rw [gIs_n (by omega)])⟩
    rw [start, b3]
    simp (disch := omega) only [e_X12_rule_44, h23, Nat.add_sub_cancel, true_and, and_true, false_and, and_false, beq_t, beq_f, eqN_t, eqN_f, eqL_t, eqL_f, nm1, nm2, nm1', nm2', m1z, m2z, zm1, zm2, m12, m21, lg_cmp_ge, lg_cmp_le, lg_cmp_gt, lg_cmp_lt, lg_cmp_eq, oob, oobL, neg0, negL0, natle_f, or_false, false_or, true_or, or_true, or_self, cl, clL, le_t, le_f, lt_t, lt_f, leL_t, leL_f, ltL_t, ltL_f, leM_t, leM_f, ltM_t, ltM_f, leO_t, leO_f, cond_true, cond_false, Option.bind_some, Option.bind_none, if_false, if_true, nI_1, aL1, aL2, mL1, mL2, nI_add, pk_mul, pk_m1, sL1, dL1, pk_sub, m1p1, gIs_eq, gIs_k, gIs_i, gIs_n, gIs_e, gIJ, gIR, gJI, gJR, gJs_eq, gJs_k, gJs_n, gJs_e, gRI, gRJ, gRs_eq, gRs_k, gRs_i, gRs_n, gZI, gZJ, gZR, pI_s, pJ_s, pV_s, pR_s, pR_n, oR_n, oR_s, decide_true, decide_false, not_true_eq_false, not_false_eq_true, decT, decF, Bool.true_eq_false, Bool.false_eq_true, z01, o01, z1f, z1f', zz, oo, b2i_0, b2i_n, b2i_t, b2i_f, Bool.not_true, Bool.not_false]
