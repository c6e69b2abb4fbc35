/-! ===== the class: numbers and words ===== -/
theorem le_dn {v h : Nat} (hv : v < 60000000) (hh : h < 60000000) : decide (nI v ≤ dn h) = decide (v < h) := by
  cases h with
  | zero =>
    rw [decF (show ¬ v < 0 by omega)]
    exact decF (fun z => by
      rw [Int32.le_iff_toInt_le, nI_toInt (by omega), show (dn 0).toInt = -1 from by decide] at z
      omega)
  | succ h =>
    show decide (nI v ≤ nI h) = _
    by_cases e : v < h + 1
    · rw [decT e]; exact decT (nI_le (by omega) (by omega))
    · rw [decF e]; exact decF (nI_ge (by omega) (by omega))
theorem num_step {v b : Nat} (h1 : 48 ≤ b) : (nI v * 10 + nI b) - 48 = nI (v * 10 + (b - 48)) := by
  have e : nI v * 10 + nI b = nI (v * 10 + b) := by rw [show (10 : Int32) = nI 10 from rfl, pk_mul, nI_add]
  rw [e, sL1 (c := 48) (show 48 ≤ v * 10 + b by omega)]
  congr 1
  show v * 10 + b - 48 = _
  omega
theorem num_step2 {v b : Nat} (h1 : 48 ≤ b) : (10 * nI v + nI b) - 48 = nI (v * 10 + (b - 48)) := by
  have e : 10 * nI v + nI b = nI (10 * v + b) := by rw [show (10 : Int32) = nI 10 from rfl, pk_mul, nI_add]
  rw [e, sL1 (c := 48) (show 48 ≤ 10 * v + b by omega)]
  congr 1
  show 10 * v + b - 48 = _
  omega
theorem isD_t {b : Nat} (h : isD b = true) : 48 ≤ b ∧ b ≤ 57 := by
  unfold isD at h
  rw [Bool.and_eq_true] at h
  exact ⟨of_decide_eq_true h.1, of_decide_eq_true h.2⟩
theorem isL_t {b : Nat} (h : isL b = true) : 97 ≤ b ∧ b ≤ 122 := by
  unfold isL at h
  rw [Bool.and_eq_true] at h
  exact ⟨of_decide_eq_true h.1, of_decide_eq_true h.2⟩
/-- the digits are walked over -/
theorem c_digits {t : Tp} (hT : TOk2 t) (x1 x2 : Int32) {s : Nat} : ∀ (m p : Nat) (w : XW), p + m = t.1 → s ≤ p → CTp w t p → gI w 9 0 3 = nI s → gI w 9 0 4 = nI (nmS t.2 s (min (p - s) 5)) →
    ∃ w', q_X10_passNumber_18 x1 x2 w = q_X10_passNumber_104 x1 x2 w' ∧ CTp w' t (rnN (fun i => isD (t.2 i)) m p) ∧ gI w' 9 0 3 = nI s ∧ gI w' 9 0 4 = nI (nmS t.2 s (min (rnN (fun i => isD (t.2 i)) m p - s) 5)) ∧ Fr PTt w w' := by
  have h4 := hT.1
  intro m
  induction m with
  | zero =>
    intro p w hm hs h h3 hv
    refine ⟨w, ?_, h, h3, hv, Fr.refl _ _⟩
    obtain ⟨g1, g2, g3⟩ := h
    have g := g1.1
    ((try dsimp only); rw [e_X10_passNumber_18]; simp (disch := omega) only [g, g2, true_and, and_true, false_and, and_false, beq_t, beq_f, eqN_t, eqN_f, eqL_t, eqL_f, nm1, nm2, nm1', nm2', m1z, m2z, zm1, zm2, m12, m21, lg_cmp_ge, lg_cmp_le, lg_cmp_gt, lg_cmp_lt, lg_cmp_eq, oob, oobL, neg0, negL0, natle_f, or_false, false_or, true_or, or_true, or_self, cl, clL, le_t, le_f, lt_t, lt_f, leL_t, leL_f, ltL_t, ltL_f, leM_t, leM_f, ltM_t, ltM_f, leO_t, leO_f, cond_true, cond_false, Option.bind_some, Option.bind_none, if_false, if_true, nI_1, aL1, aL2, mL1, mL2, nI_add, pk_mul, pk_m1, sL1, dL1, pk_sub, m1p1, gIs_eq, gIs_k, gIs_i, gIs_n, gIs_e, gIJ, gIR, gJI, gJR, gJs_eq, gJs_k, gJs_n, gJs_e, gRI, gRJ, gRs_eq, gRs_k, gRs_i, gRs_n, gZI, gZJ, gZR, pI_s, pJ_s, pV_s, pR_s, pR_n, oR_n, oR_s, decide_true, decide_false, not_true_eq_false, not_false_eq_true, decT, decF, Bool.true_eq_false, Bool.false_eq_true, z01, o01, z1f, z1f', zz, oo, b2i_0, b2i_n, b2i_t, b2i_f, Bool.not_true, Bool.not_false])
  | succ m ih =>
    intro p w hm hs h h3 hv
    obtain ⟨g1, g2, g3⟩ := h
    have g := g1.1
    have b := c_byteAt g1 hT (p := p) (by omega)
    have hb : chS t p = nI (t.2 p) := if_pos (by omega)
    rw [hb] at b
    have h256 := hT.2 p (by omega)
    have e1 := nI48 h256
    have e2 := nI57 h256
    have er : rnN (fun i => isD (t.2 i)) (m + 1) p = if isD (t.2 p) = true then rnN (fun i => isD (t.2 i)) m (p + 1) else p := rfl
    rw [er]
    by_cases d1 : 48 ≤ t.2 p
    · rw [decT d1] at e1
      by_cases d2 : t.2 p ≤ 57
      · rw [decT d2] at e2
        have hd : isD (t.2 p) = true := by unfold isD; rw [decT d1, decT d2]; rfl
        rw [if_pos hd]
        have key : ∃ w1, q_X10_passNumber_55 x1 x2 w = q_X10_passNumber_91 x1 x2 w1 ∧ CTp w1 t p ∧ gI w1 9 0 3 = nI s ∧ gI w1 9 0 4 = nI (nmS t.2 s (min (p + 1 - s) 5)) ∧ Fr PTt w w1 := by
          by_cases q5 : p - s < 5
          · have en : min (p + 1 - s) 5 = min (p - s) 5 + 1 := by omega
            have ep : s + min (p - s) 5 = p := by omega
            refine ⟨sI w 9 0 4 (nI (nmS t.2 s (min (p + 1 - s) 5))), ?_, CTp.fr ⟨g1, g2, g3⟩ (P := fun κ _ k => κ = 9 ∧ k = 4) ((Fr.refl _ w).sI ⟨rfl, rfl⟩) (fun κ k q => by omega), ?_, gIs_eq, (Fr.refl _ _).sI (by unfold PTt; omega)⟩
            · rw [en]
              show _ = q_X10_passNumber_91 x1 x2 (sI w 9 0 4 (nI (nmS t.2 s (min (p - s) 5) * 10 + (t.2 (s + min (p - s) 5) - 48))))
              rw [ep, ← num_step d1]
              ((try dsimp only); rw [e_X10_passNumber_55]; simp (disch := omega) only [g2, h3, e_X10_passNumber_68, b, hv, true_and, and_true, false_and, and_false, beq_t, beq_f, eqN_t, eqN_f, eqL_t, eqL_f, nm1, nm2, nm1', nm2', m1z, m2z, zm1, zm2, m12, m21, lg_cmp_ge, lg_cmp_le, lg_cmp_gt, lg_cmp_lt, lg_cmp_eq, oob, oobL, neg0, negL0, natle_f, or_false, false_or, true_or, or_true, or_self, cl, clL, le_t, le_f, lt_t, lt_f, leL_t, leL_f, ltL_t, ltL_f, leM_t, leM_f, ltM_t, ltM_f, leO_t, leO_f, cond_true, cond_false, Option.bind_some, Option.bind_none, if_false, if_true, nI_1, aL1, aL2, mL1, mL2, nI_add, pk_mul, pk_m1, sL1, dL1, pk_sub, m1p1, gIs_eq, gIs_k, gIs_i, gIs_n, gIs_e, gIJ, gIR, gJI, gJR, gJs_eq, gJs_k, gJs_n, gJs_e, gRI, gRJ, gRs_eq, gRs_k, gRs_i, gRs_n, gZI, gZJ, gZR, pI_s, pJ_s, pV_s, pR_s, pR_n, oR_n, oR_s, decide_true, decide_false, not_true_eq_false, not_false_eq_true, decT, decF, Bool.true_eq_false, Bool.false_eq_true, z01, o01, z1f, z1f', zz, oo, b2i_0, b2i_n, b2i_t, b2i_f, Bool.not_true, Bool.not_false])
            · rw [gIs_k (by omega)]; exact h3
          · refine ⟨w, ?_, ⟨g1, g2, g3⟩, h3, ?_, Fr.refl _ _⟩
            · ((try dsimp only); rw [e_X10_passNumber_55]; simp (disch := omega) only [g2, h3, true_and, and_true, false_and, and_false, beq_t, beq_f, eqN_t, eqN_f, eqL_t, eqL_f, nm1, nm2, nm1', nm2', m1z, m2z, zm1, zm2, m12, m21, lg_cmp_ge, lg_cmp_le, lg_cmp_gt, lg_cmp_lt, lg_cmp_eq, oob, oobL, neg0, negL0, natle_f, or_false, false_or, true_or, or_true, or_self, cl, clL, le_t, le_f, lt_t, lt_f, leL_t, leL_f, ltL_t, ltL_f, leM_t, leM_f, ltM_t, ltM_f, leO_t, leO_f, cond_true, cond_false, Option.bind_some, Option.bind_none, if_false, if_true, nI_1, aL1, aL2, mL1, mL2, nI_add, pk_mul, pk_m1, sL1, dL1, pk_sub, m1p1, gIs_eq, gIs_k, gIs_i, gIs_n, gIs_e, gIJ, gIR, gJI, gJR, gJs_eq, gJs_k, gJs_n, gJs_e, gRI, gRJ, gRs_eq, gRs_k, gRs_i, gRs_n, gZI, gZJ, gZR, pI_s, pJ_s, pV_s, pR_s, pR_n, oR_n, oR_s, decide_true, decide_false, not_true_eq_false, not_false_eq_true, decT, decF, Bool.true_eq_false, Bool.false_eq_true, z01, o01, z1f, z1f', zz, oo, b2i_0, b2i_n, b2i_t, b2i_f, Bool.not_true, Bool.not_false])
            · rw [hv, show min (p + 1 - s) 5 = min (p - s) 5 by omega]
        obtain ⟨w1, k1, k2, k3, k4, k5⟩ := key
        have F1 : Fr PTt w1 (sI w1 9 0 2 (nI (p + 1))) := (Fr.refl _ _).sI (by unfold PTt; omega)
        obtain ⟨w2, j1, j2, j3, j4, j5⟩ := ih (p + 1) (sI w1 9 0 2 (nI (p + 1))) (by omega) (by omega) ⟨k2.1.fr F1 (fun κ k q => by unfold PTt; omega), gIs_eq, by omega⟩ (by rw [gIs_k (by omega)]; exact k3) (by rw [gIs_k (by omega)]; exact k4)
        refine ⟨w2, ?_, j2, j3, j4, (k5.trans F1).trans j5⟩
        rw [← j1]
        have g2' := k2.2.1
        ((try dsimp only); rw [e_X10_passNumber_18]; simp (disch := omega) only [g, g2, e_X10_passNumber_29, b, e1, e_X10_passNumber_42, e2, k1, e_X10_passNumber_91, g2', true_and, and_true, false_and, and_false, beq_t, beq_f, eqN_t, eqN_f, eqL_t, eqL_f, nm1, nm2, nm1', nm2', m1z, m2z, zm1, zm2, m12, m21, lg_cmp_ge, lg_cmp_le, lg_cmp_gt, lg_cmp_lt, lg_cmp_eq, oob, oobL, neg0, negL0, natle_f, or_false, false_or, true_or, or_true, or_self, cl, clL, le_t, le_f, lt_t, lt_f, leL_t, leL_f, ltL_t, ltL_f, leM_t, leM_f, ltM_t, ltM_f, leO_t, leO_f, cond_true, cond_false, Option.bind_some, Option.bind_none, if_false, if_true, nI_1, aL1, aL2, mL1, mL2, nI_add, pk_mul, pk_m1, sL1, dL1, pk_sub, m1p1, gIs_eq, gIs_k, gIs_i, gIs_n, gIs_e, gIJ, gIR, gJI, gJR, gJs_eq, gJs_k, gJs_n, gJs_e, gRI, gRJ, gRs_eq, gRs_k, gRs_i, gRs_n, gZI, gZJ, gZR, pI_s, pJ_s, pV_s, pR_s, pR_n, oR_n, oR_s, decide_true, decide_false, not_true_eq_false, not_false_eq_true, decT, decF, Bool.true_eq_false, Bool.false_eq_true, z01, o01, z1f, z1f', zz, oo, b2i_0, b2i_n, b2i_t, b2i_f, Bool.not_true, Bool.not_false])
      · rw [decF d2] at e2
        have hd : isD (t.2 p) = false := by unfold isD; rw [decF d2, Bool.and_false]
        rw [hd, if_neg Bool.false_ne_true]
        refine ⟨w, ?_, ⟨g1, g2, g3⟩, h3, hv, Fr.refl _ _⟩
        ((try dsimp only); rw [e_X10_passNumber_18]; simp (disch := omega) only [g, g2, e_X10_passNumber_29, b, e1, e_X10_passNumber_42, e2, true_and, and_true, false_and, and_false, beq_t, beq_f, eqN_t, eqN_f, eqL_t, eqL_f, nm1, nm2, nm1', nm2', m1z, m2z, zm1, zm2, m12, m21, lg_cmp_ge, lg_cmp_le, lg_cmp_gt, lg_cmp_lt, lg_cmp_eq, oob, oobL, neg0, negL0, natle_f, or_false, false_or, true_or, or_true, or_self, cl, clL, le_t, le_f, lt_t, lt_f, leL_t, leL_f, ltL_t, ltL_f, leM_t, leM_f, ltM_t, ltM_f, leO_t, leO_f, cond_true, cond_false, Option.bind_some, Option.bind_none, if_false, if_true, nI_1, aL1, aL2, mL1, mL2, nI_add, pk_mul, pk_m1, sL1, dL1, pk_sub, m1p1, gIs_eq, gIs_k, gIs_i, gIs_n, gIs_e, gIJ, gIR, gJI, gJR, gJs_eq, gJs_k, gJs_n, gJs_e, gRI, gRJ, gRs_eq, gRs_k, gRs_i, gRs_n, gZI, gZJ, gZR, pI_s, pJ_s, pV_s, pR_s, pR_n, oR_n, oR_s, decide_true, decide_false, not_true_eq_false, not_false_eq_true, decT, decF, Bool.true_eq_false, Bool.false_eq_true, z01, o01, z1f, z1f', zz, oo, b2i_0, b2i_n, b2i_t, b2i_f, Bool.not_true, Bool.not_false])
    · rw [decF d1] at e1
      have hd : isD (t.2 p) = false := by unfold isD; rw [decF d1, Bool.false_and]
      rw [hd, if_neg Bool.false_ne_true]
      refine ⟨w, ?_, ⟨g1, g2, g3⟩, h3, hv, Fr.refl _ _⟩
      ((try dsimp only); rw [e_X10_passNumber_18]; simp (disch := omega) only [g, g2, e_X10_passNumber_29, b, e1, true_and, and_true, false_and, and_false, beq_t, beq_f, eqN_t, eqN_f, eqL_t, eqL_f, nm1, nm2, nm1', nm2', m1z, m2z, zm1, zm2, m12, m21, lg_cmp_ge, lg_cmp_le, lg_cmp_gt, lg_cmp_lt, lg_cmp_eq, oob, oobL, neg0, negL0, natle_f, or_false, false_or, true_or, or_true, or_self, cl, clL, le_t, le_f, lt_t, lt_f, leL_t, leL_f, ltL_t, ltL_f, leM_t, leM_f, ltM_t, ltM_f, leO_t, leO_f, cond_true, cond_false, Option.bind_some, Option.bind_none, if_false, if_true, nI_1, aL1, aL2, mL1, mL2, nI_add, pk_mul, pk_m1, sL1, dL1, pk_sub, m1p1, gIs_eq, gIs_k, gIs_i, gIs_n, gIs_e, gIJ, gIR, gJI, gJR, gJs_eq, gJs_k, gJs_n, gJs_e, gRI, gRJ, gRs_eq, gRs_k, gRs_i, gRs_n, gZI, gZJ, gZR, pI_s, pJ_s, pV_s, pR_s, pR_n, oR_n, oR_s, decide_true, decide_false, not_true_eq_false, not_false_eq_true, decT, decF, Bool.true_eq_false, Bool.false_eq_true, z01, o01, z1f, z1f', zz, oo, b2i_0, b2i_n, b2i_t, b2i_f, Bool.not_true, Bool.not_false])
theorem c_number {w : XW} {t : Tp} (hT : TOk2 t) {p : Nat} (h : CTp w t p) (lo hi : Nat) (hlo : lo < 60000) (hhi : hi < 60000000) : ∃ w', Fr PTt w w' ∧ gI w' 9 0 3 = nI (sk t p) ∧ match nuS t p lo hi with
    | .inl f => F_X10_passNumber [.inr (9, 0), .inl (.int (nI lo)), .inl (.int (dn hi))] w = some (0, w') ∧ gI w' 9 0 5 = nI f
    | .inr (e, v) => F_X10_passNumber [.inr (9, 0), .inl (.int (nI lo)), .inl (.int (dn hi))] w = some (1, w') ∧ CTp w' t e ∧ gI w' 9 0 4 = nI v ∧ sk t p < e ∧ v < hi ∧ lo ≤ v := by
  have h4 := hT.1
  unfold nuS
  obtain ⟨w1, k1, k2, k3⟩ := c_sign hT h
  have hs := sk_le h.2.2
  have hd := dg_le hs.2
  have hv := nvS_le (t := t) (s := sk t p)
  generalize sk t p = s at *
  have F1 : Fr PTt w1 (sI (sI w1 9 0 3 (nI s)) 9 0 4 0) := ((Fr.refl _ _).sI (by unfold PTt; omega)).sI (by unfold PTt; omega)
  have G1 : CTp (sI (sI w1 9 0 3 (nI s)) 9 0 4 0) t s := by
    refine ⟨k2.1.fr F1 (fun κ k q => by unfold PTt; omega), ?_, hs.2⟩
    rw [gIs_k (by omega), gIs_k (by omega)]
    exact k2.2.1
  obtain ⟨w2, j1, j2, j3, j4, j5⟩ := c_digits hT (nI lo) (dn hi) (s := s) (t.1 - s) s _ (by omega) (Nat.le_refl _) G1 (by rw [gIs_k (by omega)]; exact gIs_eq) (by rw [Nat.sub_self]; exact gIs_eq)
  have ed : rnN (fun i => isD (t.2 i)) (t.1 - s) s = dg t s := rfl
  rw [ed] at j2 j4
  have ev : nmS t.2 s (min (dg t s - s) 5) = nvS t s := rfl
  rw [ev] at j4
  have F2 : Fr PTt w w2 := ((k3.mono (fun κ i k q => by unfold PT2 at q; unfold  PTt; omega)).trans F1).trans j5
  have g2 := j2.2.1
  have start : F_X10_passNumber [.inr (9, 0), .inl (.int (nI lo)), .inl (.int (dn hi))] w = (q_X10_passNumber_104 (nI lo) (dn hi) w2).bind pI := by
    rw [f_X10_passNumber, e_X10_passNumber_0, ← j1]
    simp (disch := omega) only [k1, k2.2.1, true_and, and_true, false_and, and_false, beq_t, beq_f, eqN_t, eqN_f, eqL_t, eqL_f, nm1, nm2, nm1', nm2', m1z, m2z, zm1, zm2, m12, m21, lg_cmp_ge, lg_cmp_le, lg_cmp_gt, lg_cmp_lt, lg_cmp_eq, oob, oobL, neg0, negL0, natle_f, or_false, false_or, true_or, or_true, or_self, cl, clL, le_t, le_f, lt_t, lt_f, leL_t, leL_f, ltL_t, ltL_f, leM_t, leM_f, ltM_t, ltM_f, leO_t, leO_f, cond_true, cond_false, Option.bind_some, Option.bind_none, if_false, if_true, nI_1, aL1, aL2, mL1, mL2, nI_add, pk_mul, pk_m1, sL1, dL1, pk_sub, m1p1, gIs_eq, gIs_k, gIs_i, gIs_n, gIs_e, gIJ, gIR, gJI, gJR, gJs_eq, gJs_k, gJs_n, gJs_e, gRI, gRJ, gRs_eq, gRs_k, gRs_i, gRs_n, gZI, gZJ, gZR, pI_s, pJ_s, pV_s, pR_s, pR_n, oR_n, oR_s, decide_true, decide_false, not_true_eq_false, not_false_eq_true, decT, decF, Bool.true_eq_false, Bool.false_eq_true, z01, o01, z1f, z1f', zz, oo, b2i_0, b2i_n, b2i_t, b2i_f, Bool.not_true, Bool.not_false]
  generalize dg t s = e at *
  generalize nvS t s = v at *
  by_cases e0 : e = s
  · rw [if_pos e0]
    have kf := c_fail0 (w := w2) s
    rw [e0] at g2
    refine ⟨sI w2 9 0 5 (nI (1 + 8 * s)), F2.sI (by unfold PTt; omega), by rw [gIs_k (by omega)]; exact j3, ?_, gIs_eq⟩
    rw [start, e_X10_passNumber_104]
    simp (disch := omega) only [g2, j3, e_X10_passNumber_115, kf, true_and, and_true, false_and, and_false, beq_t, beq_f, eqN_t, eqN_f, eqL_t, eqL_f, nm1, nm2, nm1', nm2', m1z, m2z, zm1, zm2, m12, m21, lg_cmp_ge, lg_cmp_le, lg_cmp_gt, lg_cmp_lt, lg_cmp_eq, oob, oobL, neg0, negL0, natle_f, or_false, false_or, true_or, or_true, or_self, cl, clL, le_t, le_f, lt_t, lt_f, leL_t, leL_f, ltL_t, ltL_f, leM_t, leM_f, ltM_t, ltM_f, leO_t, leO_f, cond_true, cond_false, Option.bind_some, Option.bind_none, if_false, if_true, nI_1, aL1, aL2, mL1, mL2, nI_add, pk_mul, pk_m1, sL1, dL1, pk_sub, m1p1, gIs_eq, gIs_k, gIs_i, gIs_n, gIs_e, gIJ, gIR, gJI, gJR, gJs_eq, gJs_k, gJs_n, gJs_e, gRI, gRJ, gRs_eq, gRs_k, gRs_i, gRs_n, gZI, gZJ, gZR, pI_s, pJ_s, pV_s, pR_s, pR_n, oR_n, oR_s, decide_true, decide_false, not_true_eq_false, not_false_eq_true, decT, decF, Bool.true_eq_false, Bool.false_eq_true, z01, o01, z1f, z1f', zz, oo, b2i_0, b2i_n, b2i_t, b2i_f, Bool.not_true, Bool.not_false]
  · rw [if_neg e0]
    have bad : ¬ (e - s ≤ 5 ∧ lo ≤ v ∧ v < hi) → F_X10_passNumber [.inr (9, 0), .inl (.int (nI lo)), .inl (.int (dn hi))] w = some (0, sI w2 9 0 5 (nI (1 + 8 * s + 1))) := by
      intro hb
      have kf := c_fail1 (w := w2) s
      have es : nI e - nI s = nI (e - s) := pk_sub (by omega)
      rw [start, e_X10_passNumber_104]
      by_cases q5 : 5 < e - s
      · simp (disch := omega) only [g2, j3, e_X10_passNumber_125, es, e_X10_passNumber_154, kf, true_and, and_true, false_and, and_false, beq_t, beq_f, eqN_t, eqN_f, eqL_t, eqL_f, nm1, nm2, nm1', nm2', m1z, m2z, zm1, zm2, m12, m21, lg_cmp_ge, lg_cmp_le, lg_cmp_gt, lg_cmp_lt, lg_cmp_eq, oob, oobL, neg0, negL0, natle_f, or_false, false_or, true_or, or_true, or_self, cl, clL, le_t, le_f, lt_t, lt_f, leL_t, leL_f, ltL_t, ltL_f, leM_t, leM_f, ltM_t, ltM_f, leO_t, leO_f, cond_true, cond_false, Option.bind_some, Option.bind_none, if_false, if_true, nI_1, aL1, aL2, mL1, mL2, nI_add, pk_mul, pk_m1, sL1, dL1, pk_sub, m1p1, gIs_eq, gIs_k, gIs_i, gIs_n, gIs_e, gIJ, gIR, gJI, gJR, gJs_eq, gJs_k, gJs_n, gJs_e, gRI, gRJ, gRs_eq, gRs_k, gRs_i, gRs_n, gZI, gZJ, gZR, pI_s, pJ_s, pV_s, pR_s, pR_n, oR_n, oR_s, decide_true, decide_false, not_true_eq_false, not_false_eq_true, decT, decF, Bool.true_eq_false, Bool.false_eq_true, z01, o01, z1f, z1f', zz, oo, b2i_0, b2i_n, b2i_t, b2i_f, Bool.not_true, Bool.not_false]
      · by_cases ql : v < lo
        · have el : decide (nI v < nI lo) = true := decT (nI_lt ql (by omega))
          simp (disch := omega) only [g2, j3, j4, e_X10_passNumber_125, es, e_X10_passNumber_138, el, e_X10_passNumber_154, kf, true_and, and_true, false_and, and_false, beq_t, beq_f, eqN_t, eqN_f, eqL_t, eqL_f, nm1, nm2, nm1', nm2', m1z, m2z, zm1, zm2, m12, m21, lg_cmp_ge, lg_cmp_le, lg_cmp_gt, lg_cmp_lt, lg_cmp_eq, oob, oobL, neg0, negL0, natle_f, or_false, false_or, true_or, or_true, or_self, cl, clL, le_t, le_f, lt_t, lt_f, leL_t, leL_f, ltL_t, ltL_f, leM_t, leM_f, ltM_t, ltM_f, leO_t, leO_f, cond_true, cond_false, Option.bind_some, Option.bind_none, if_false, if_true, nI_1, aL1, aL2, mL1, mL2, nI_add, pk_mul, pk_m1, sL1, dL1, pk_sub, m1p1, gIs_eq, gIs_k, gIs_i, gIs_n, gIs_e, gIJ, gIR, gJI, gJR, gJs_eq, gJs_k, gJs_n, gJs_e, gRI, gRJ, gRs_eq, gRs_k, gRs_i, gRs_n, gZI, gZJ, gZR, pI_s, pJ_s, pV_s, pR_s, pR_n, oR_n, oR_s, decide_true, decide_false, not_true_eq_false, not_false_eq_true, decT, decF, Bool.true_eq_false, Bool.false_eq_true, z01, o01, z1f, z1f', zz, oo, b2i_0, b2i_n, b2i_t, b2i_f, Bool.not_true, Bool.not_false]
        · have el : decide (nI v < nI lo) = false := decF (nI_nlt (by omega) (by omega))
          have eh : decide (nI v ≤ dn hi) = false := by rw [le_dn (by omega) hhi]; exact decF (by omega)
          simp (disch := omega) only [g2, j3, j4, e_X10_passNumber_125, es, e_X10_passNumber_138, el, e_X10_passNumber_146, eh, e_X10_passNumber_154, kf, true_and, and_true, false_and, and_false, beq_t, beq_f, eqN_t, eqN_f, eqL_t, eqL_f, nm1, nm2, nm1', nm2', m1z, m2z, zm1, zm2, m12, m21, lg_cmp_ge, lg_cmp_le, lg_cmp_gt, lg_cmp_lt, lg_cmp_eq, oob, oobL, neg0, negL0, natle_f, or_false, false_or, true_or, or_true, or_self, cl, clL, le_t, le_f, lt_t, lt_f, leL_t, leL_f, ltL_t, ltL_f, leM_t, leM_f, ltM_t, ltM_f, leO_t, leO_f, cond_true, cond_false, Option.bind_some, Option.bind_none, if_false, if_true, nI_1, aL1, aL2, mL1, mL2, nI_add, pk_mul, pk_m1, sL1, dL1, pk_sub, m1p1, gIs_eq, gIs_k, gIs_i, gIs_n, gIs_e, gIJ, gIR, gJI, gJR, gJs_eq, gJs_k, gJs_n, gJs_e, gRI, gRJ, gRs_eq, gRs_k, gRs_i, gRs_n, gZI, gZJ, gZR, pI_s, pJ_s, pV_s, pR_s, pR_n, oR_n, oR_s, decide_true, decide_false, not_true_eq_false, not_false_eq_true, decT, decF, Bool.true_eq_false, Bool.false_eq_true, z01, o01, z1f, z1f', zz, oo, b2i_0, b2i_n, b2i_t, b2i_f, Bool.not_true, Bool.not_false]
    by_cases hok : e - s ≤ 5 ∧ lo ≤ v ∧ v < hi
    · rw [if_pos hok]
      refine ⟨w2, F2, j3, ?_, j2, j4, by omega, hok.2.2, hok.2.1⟩
      have es : nI e - nI s = nI (e - s) := pk_sub (by omega)
      have el : decide (nI v < nI lo) = false := decF (nI_nlt (by omega) (by omega))
      have eh : decide (nI v ≤ dn hi) = true := by rw [le_dn (by omega) hhi]; exact decT hok.2.2
      rw [start, e_X10_passNumber_104]
      simp (disch := omega) only [g2, j3, j4, e_X10_passNumber_125, es, e_X10_passNumber_138, el, e_X10_passNumber_146, eh, e_X10_passNumber_164, true_and, and_true, false_and, and_false, beq_t, beq_f, eqN_t, eqN_f, eqL_t, eqL_f, nm1, nm2, nm1', nm2', m1z, m2z, zm1, zm2, m12, m21, lg_cmp_ge, lg_cmp_le, lg_cmp_gt, lg_cmp_lt, lg_cmp_eq, oob, oobL, neg0, negL0, natle_f, or_false, false_or, true_or, or_true, or_self, cl, clL, le_t, le_f, lt_t, lt_f, leL_t, leL_f, ltL_t, ltL_f, leM_t, leM_f, ltM_t, ltM_f, leO_t, leO_f, cond_true, cond_false, Option.bind_some, Option.bind_none, if_false, if_true, nI_1, aL1, aL2, mL1, mL2, nI_add, pk_mul, pk_m1, sL1, dL1, pk_sub, m1p1, gIs_eq, gIs_k, gIs_i, gIs_n, gIs_e, gIJ, gIR, gJI, gJR, gJs_eq, gJs_k, gJs_n, gJs_e, gRI, gRJ, gRs_eq, gRs_k, gRs_i, gRs_n, gZI, gZJ, gZR, pI_s, pJ_s, pV_s, pR_s, pR_n, oR_n, oR_s, decide_true, decide_false, not_true_eq_false, not_false_eq_true, decT, decF, Bool.true_eq_false, Bool.false_eq_true, z01, o01, z1f, z1f', zz, oo, b2i_0, b2i_n, b2i_t, b2i_f, Bool.not_true, Bool.not_false]
    · rw [if_neg hok]
      exact ⟨_, F2.sI (by unfold PTt; omega), by rw [gIs_k (by omega)]; exact j3, bad hok, gIs_eq⟩
