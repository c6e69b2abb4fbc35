/-! ===== ruled, both sides ===== -/
theorem ruled_down {w : XW} {d : Dl} {rs : List Rl} {no : No} {L : Nat} (hrow : RowsM w d rs no L (rs.length + 1)) (h6r : rs.length ≤ 6) {q : Nat} : ∀ t k, t + k = rs.length + 1 → q_X12_ruled_36 (nI q) (nI (cnt (fitN d rs no) t k)) (fsM (fitN d rs no) t k) (dn t) w = q_X12_ruled_68 (nI q) (nI (cnt (fitN d rs no) 0 (rs.length + 1))) (fsM (fitN d rs no) 0 (rs.length + 1)) w := by
  intro t
  induction t with
  | zero =>
    intro k hk
    have : k = rs.length + 1 := by omega
    subst this
    have e : decide (dn 0 < 0) = true := by decide
    rw [e_X12_ruled_36, e, cond_true]
  | succ t ih =>
    intro k hk
    have ih := ih (k + 1) (by omega)
    have g : gI w 59 0 t = b2i (fitN d rs no t) := (hrow t (by omega)).1
    have hc : cnt (fitN d rs no) t (k + 1) = (if fitN d rs no t = true then 1 else 0) + cnt (fitN d rs no) (t + 1) k := rfl
    have hf : fsM (fitN d rs no) t (k + 1) = if fitN d rs no t = true then dn t else fsM (fitN d rs no) (t + 1) k := rfl
    rw [hc, hf] at ih
    rw [← ih, dn_s, e_X12_ruled_36]
    cases hfit : fitN d rs no t with
    | false =>
      rw [hfit] at g
      simp only [Bool.false_eq_true, if_false, Nat.zero_add]
      simp (disch := omega) only [e_X12_ruled_41, g, e_X12_ruled_51, e_X12_ruled_62, dn_m1, true_and, and_true, false_and, and_false, beq_t, beq_f, eqN_t, eqN_f, eqL_t, eqL_f, nm1, nm2, nm1', nm2', m1z, m2z, zm1, zm2, m12, m21, lg_cmp_ge, lg_cmp_le, lg_cmp_gt, lg_cmp_lt, lg_cmp_eq, oob, oobL, neg0, negL0, natle_f, or_false, false_or, true_or, or_true, or_self, cl, clL, le_t, le_f, lt_t, lt_f, leL_t, leL_f, ltL_t, ltL_f, leM_t, leM_f, ltM_t, ltM_f, leO_t, leO_f, cond_true, cond_false, Option.bind_some, Option.bind_none, if_false, if_true, nI_1, aL1, aL2, mL1, mL2, nI_add, pk_mul, pk_m1, sL1, dL1, pk_sub, m1p1, gIs_eq, gIs_k, gIs_i, gIs_n, gIs_e, gIJ, gIR, gJI, gJR, gJs_eq, gJs_k, gJs_n, gJs_e, gRI, gRJ, gRs_eq, gRs_k, gRs_i, gRs_n, gZI, gZJ, gZR, pI_s, pJ_s, pV_s, pR_s, pR_n, oR_n, oR_s, decide_true, decide_false, not_true_eq_false, not_false_eq_true, decT, decF, Bool.true_eq_false, Bool.false_eq_true, z01, o01, z1f, z1f', zz, oo, b2i_0, b2i_n, b2i_t, b2i_f, Bool.not_true, Bool.not_false]
    | true =>
      rw [hfit] at g
      simp only [if_true]
      rw [Nat.add_comm 1]
      simp (disch := omega) only [e_X12_ruled_41, g, e_X12_ruled_54, dn_sub, e_X12_ruled_62, dn_m1, true_and, and_true, false_and, and_false, beq_t, beq_f, eqN_t, eqN_f, eqL_t, eqL_f, nm1, nm2, nm1', nm2', m1z, m2z, zm1, zm2, m12, m21, lg_cmp_ge, lg_cmp_le, lg_cmp_gt, lg_cmp_lt, lg_cmp_eq, oob, oobL, neg0, negL0, natle_f, or_false, false_or, true_or, or_true, or_self, cl, clL, le_t, le_f, lt_t, lt_f, leL_t, leL_f, ltL_t, ltL_f, leM_t, leM_f, ltM_t, ltM_f, leO_t, leO_f, cond_true, cond_false, Option.bind_some, Option.bind_none, if_false, if_true, nI_1, aL1, aL2, mL1, mL2, nI_add, pk_mul, pk_m1, sL1, dL1, pk_sub, m1p1, gIs_eq, gIs_k, gIs_i, gIs_n, gIs_e, gIJ, gIR, gJI, gJR, gJs_eq, gJs_k, gJs_n, gJs_e, gRI, gRJ, gRs_eq, gRs_k, gRs_i, gRs_n, gZI, gZJ, gZR, pI_s, pJ_s, pV_s, pR_s, pR_n, oR_n, oR_s, decide_true, decide_false, not_true_eq_false, not_false_eq_true, decT, decF, Bool.true_eq_false, Bool.false_eq_true, z01, o01, z1f, z1f', zz, oo, b2i_0, b2i_n, b2i_t, b2i_f, Bool.not_true, Bool.not_false]
theorem m_ruled {w : XW} {d : Dl} {s : Sc} {rs : List Rl} {f : Int32} {no : No} (hX : MX w d s rs f) (hOX : OX d s rs f) (ht : d.1 0 = 1) (hn : NoM w no) (hO : NoOk d no) {q : Nat} (hq : q ≤ 1) :
    ∃ w', F_X12_ruled [.inr (11, 0), .inl (.int (nI q))] w = some (ansR d rs no q, w') ∧ MX w' d s rs f ∧ Fr PFf w w' := by
  have h6r : rs.length ≤ 6 := hOX.2.2.2.1
  obtain ⟨w1, k1, k2, k3, k4⟩ := m_fills hX hOX hn hO (L := 0) (by omega)
  have k1 : F_X12_fillsFits [.inr (11, 0), .inl (.int 0)] w = some w1 := k1
  have hd := ruled_down k3 h6r (q := q) (rs.length + 1) 0 (by omega)
  have hd : q_X12_ruled_36 (nI q) 0 (-2) (nI rs.length) w1 = _ := hd
  have gn : gI w1 11 0 2 = nI rs.length := k2.2.2.2.1.1
  have w4' : (¬ nI q < 0 ∧ ¬ (1 : Int32) < nI q) := ⟨nI_pos (by omega), of_decide_eq_false (ltL_f (c := 1) (show q ≤ 1 from hq) (by decide))⟩
  refine ⟨w1, ?_, k2, k4⟩
  rw [f_X12_ruled, e_X12_ruled_0]
  simp (disch := omega) only [m_isDale hX.1, ht, e_X12_ruled_7, p_in_0_1, w4', e_X12_ruled_20, k1, gn, hd, e_X12_ruled_68, true_and, and_true, false_and, and_false, beq_t, beq_f, eqN_t, eqN_f, eqL_t, eqL_f, nm1, nm2, nm1', nm2', m1z, m2z, zm1, zm2, m12, m21, lg_cmp_ge, lg_cmp_le, lg_cmp_gt, lg_cmp_lt, lg_cmp_eq, oob, oobL, neg0, negL0, natle_f, or_false, false_or, true_or, or_true, or_self, cl, clL, le_t, le_f, lt_t, lt_f, leL_t, leL_f, ltL_t, ltL_f, leM_t, leM_f, ltM_t, ltM_f, leO_t, leO_f, cond_true, cond_false, Option.bind_some, Option.bind_none, if_false, if_true, nI_1, aL1, aL2, mL1, mL2, nI_add, pk_mul, pk_m1, sL1, dL1, pk_sub, m1p1, gIs_eq, gIs_k, gIs_i, gIs_n, gIs_e, gIJ, gIR, gJI, gJR, gJs_eq, gJs_k, gJs_n, gJs_e, gRI, gRJ, gRs_eq, gRs_k, gRs_i, gRs_n, gZI, gZJ, gZR, pI_s, pJ_s, pV_s, pR_s, pR_n, oR_n, oR_s, decide_true, decide_false, not_true_eq_false, not_false_eq_true, decT, decF, Bool.true_eq_false, Bool.false_eq_true, z01, o01, z1f, z1f', zz, oo, b2i_0, b2i_n, b2i_t, b2i_f, Bool.not_true, Bool.not_false]
  unfold ansR
  have hq2 : q = 0 ∨ q = 1 := by omega
  rcases hq2 with rfl | rfl
  · simp (disch := omega) only [e_X12_ruled_72, e_X12_ruled_77, true_and, and_true, false_and, and_false, beq_t, beq_f, eqN_t, eqN_f, eqL_t, eqL_f, nm1, nm2, nm1', nm2', m1z, m2z, zm1, zm2, m12, m21, lg_cmp_ge, lg_cmp_le, lg_cmp_gt, lg_cmp_lt, lg_cmp_eq, oob, oobL, neg0, negL0, natle_f, or_false, false_or, true_or, or_true, or_self, cl, clL, le_t, le_f, lt_t, lt_f, leL_t, leL_f, ltL_t, ltL_f, leM_t, leM_f, ltM_t, ltM_f, leO_t, leO_f, cond_true, cond_false, Option.bind_some, Option.bind_none, if_false, if_true, nI_1, aL1, aL2, mL1, mL2, nI_add, pk_mul, pk_m1, sL1, dL1, pk_sub, m1p1, gIs_eq, gIs_k, gIs_i, gIs_n, gIs_e, gIJ, gIR, gJI, gJR, gJs_eq, gJs_k, gJs_n, gJs_e, gRI, gRJ, gRs_eq, gRs_k, gRs_i, gRs_n, gZI, gZJ, gZR, pI_s, pJ_s, pV_s, pR_s, pR_n, oR_n, oR_s, decide_true, decide_false, not_true_eq_false, not_false_eq_true, decT, decF, Bool.true_eq_false, Bool.false_eq_true, z01, o01, z1f, z1f', zz, oo, b2i_0, b2i_n, b2i_t, b2i_f, Bool.not_true, Bool.not_false]
  · simp (disch := omega) only [e_X12_ruled_76, e_X12_ruled_77, true_and, and_true, false_and, and_false, beq_t, beq_f, eqN_t, eqN_f, eqL_t, eqL_f, nm1, nm2, nm1', nm2', m1z, m2z, zm1, zm2, m12, m21, lg_cmp_ge, lg_cmp_le, lg_cmp_gt, lg_cmp_lt, lg_cmp_eq, oob, oobL, neg0, negL0, natle_f, or_false, false_or, true_or, or_true, or_self, cl, clL, le_t, le_f, lt_t, lt_f, leL_t, leL_f, ltL_t, ltL_f, leM_t, leM_f, ltM_t, ltM_f, leO_t, leO_f, cond_true, cond_false, Option.bind_some, Option.bind_none, if_false, if_true, nI_1, aL1, aL2, mL1, mL2, nI_add, pk_mul, pk_m1, sL1, dL1, pk_sub, m1p1, gIs_eq, gIs_k, gIs_i, gIs_n, gIs_e, gIJ, gIR, gJI, gJR, gJs_eq, gJs_k, gJs_n, gJs_e, gRI, gRJ, gRs_eq, gRs_k, gRs_i, gRs_n, gZI, gZJ, gZR, pI_s, pJ_s, pV_s, pR_s, pR_n, oR_n, oR_s, decide_true, decide_false, not_true_eq_false, not_false_eq_true, decT, decF, Bool.true_eq_false, Bool.false_eq_true, z01, o01, z1f, z1f', zz, oo, b2i_0, b2i_n, b2i_t, b2i_f, Bool.not_true, Bool.not_false]
    rfl
/-- a query that reads the notes leaves all as it is -/
theorem st_qn {w : XW} (hR : Rel w) {FC FM : XW → Option (Int32 × XW)} (hq : ∀ d s rs f no, OX d s rs f → NoOk d no → ∃ a, (∀ w, CX w d s rs f → NoAt w 0 no → ∃ w', FC w = some (a, w') ∧ Fr PQk w w') ∧ (∀ w, MX w d s rs f → NoM w no → ∃ w', FM w = some (a, w') ∧ MX w' d s rs f ∧ Fr PQM w w')) : StepOk FC FM w := by
  obtain ⟨g, hc, hm, ho⟩ := hR
  obtain ⟨a, h1, h2⟩ := hq _ _ _ _ _ ho.1 ho.2.2.1
  obtain ⟨w1, x1, x2⟩ := h1 w hc.1 hc.2.2.1
  have hm1 := hm.frc ho (x2.mono (fun κ i k q => by unfold PQk at q; unfold  PCl; omega))
  have hc1 : CS w1 g := ⟨hc.1.frk x2, hc.2.1.fr x2 (fun κ j k q => by unfold PQk; omega), hc.2.2.1.fr x2 (fun κ k q => by unfold PQk; omega), by rw [(x2 10 0 12 (by unfold PQk; omega)).1]; exact hc.2.2.2.1, hc.2.2.2.2.1.fr x2 (fun κ j k q => by unfold PQk; omega), hc.2.2.2.2.2.fr x2 (fun κ k q => by unfold PQk; omega)⟩
  obtain ⟨w2, y1, y2, y3⟩ := h2 w1 hm1.1 hm1.2.2.1
  refine ⟨a, w1, w2, x1, y1, g, hc1.frm (y3.mono (fun κ i k q => by unfold PQM at q; unfold  PMo; omega)), ⟨y2, hm1.2.1.fr y3 (fun κ k q => by unfold PQM; omega), hm1.2.2.1.fr ho.2.2.1.1 y3 (fun k q => by unfold PQM; omega), by rw [(y3 11 0 22 (by unfold PQM; omega)).1]; exact hm1.2.2.2.1, hm1.2.2.2.2.1.fr y3 (fun κ k q => by unfold PQM; omega), hm1.2.2.2.2.2.fr y3 (fun κ k q => by unfold PQM; omega)⟩, ho⟩
theorem so_k {w w' : XW} (h : Fr PSo w w') : Fr PQk w w' := h.mono (fun κ j k q => by unfold PSo PQc PLk at q; unfold PQk; omega)
theorem ff_M {w w' : XW} (h : Fr PFf w w') : Fr PQM w w' := h.mono (fun κ i k q => by unfold PFf at q; unfold  PQM; omega)
theorem st_ruled {w : XW} (hR : Rel w) (x : Int32) : StepOk (F_X11_ruled [.inr (10, 0), .inl (.int x)]) (F_X12_ruled [.inr (11, 0), .inl (.int x)]) w := by
  refine st_qn hR (fun d s rs f no hOX hO => ?_)
  rcases told01 hOX.1.2 with ht | ht
  · by_cases c1 : (¬ x < 0 ∧ ¬ (1 : Int32) < x)
    · obtain ⟨q, _, hq, rfl⟩ := rngL 0 1 (by omega) (by omega) c1
      refine ⟨ansR d rs no q, fun w hC hN => ?_, fun w hM hN => ?_⟩
      · obtain ⟨w1, a1, a2⟩ := c_ruled hC hOX ht hN hO hq
        exact ⟨w1, a1, so_k a2⟩
      · obtain ⟨w1, a1, a2, a3⟩ := m_ruled hM hOX ht hN hO hq
        exact ⟨w1, a1, a2, ff_M a3⟩
    · refine ⟨-3, fun w hC _ => ⟨w, ?_, Fr.refl _ _⟩, fun w hM _ => ⟨w, ?_, hM, Fr.refl _ _⟩⟩
      · obtain ⟨⟨jd, x1, x2⟩, _⟩ := hC
        have t0 := x2.1 0 (by omega)
        rw [f_X11_ruled, e_X11_ruled_0]
        simp (disch := omega) only [x1, t0, ht, e_X11_ruled_10, p_within, c1, e_X11_ruled_19, true_and, and_true, false_and, and_false, beq_t, beq_f, eqN_t, eqN_f, eqL_t, eqL_f, nm1, nm2, nm1', nm2', m1z, m2z, zm1, zm2, m12, m21, lg_cmp_ge, lg_cmp_le, lg_cmp_gt, lg_cmp_lt, lg_cmp_eq, oob, oobL, neg0, negL0, natle_f, or_false, false_or, true_or, or_true, or_self, cl, clL, le_t, le_f, lt_t, lt_f, leL_t, leL_f, ltL_t, ltL_f, leM_t, leM_f, ltM_t, ltM_f, leO_t, leO_f, cond_true, cond_false, Option.bind_some, Option.bind_none, if_false, if_true, nI_1, aL1, aL2, mL1, mL2, nI_add, pk_mul, pk_m1, sL1, dL1, pk_sub, m1p1, gIs_eq, gIs_k, gIs_i, gIs_n, gIs_e, gIJ, gIR, gJI, gJR, gJs_eq, gJs_k, gJs_n, gJs_e, gRI, gRJ, gRs_eq, gRs_k, gRs_i, gRs_n, gZI, gZJ, gZR, pI_s, pJ_s, pV_s, pR_s, pR_n, oR_n, oR_s, decide_true, decide_false, not_true_eq_false, not_false_eq_true, decT, decF, Bool.true_eq_false, Bool.false_eq_true, z01, o01, z1f, z1f', zz, oo, b2i_0, b2i_n, b2i_t, b2i_f, Bool.not_true, Bool.not_false]
      · rw [f_X12_ruled, e_X12_ruled_0]
        simp (disch := omega) only [m_isDale hM.1, ht, e_X12_ruled_7, p_in_0_1, c1, e_X12_ruled_17, true_and, and_true, false_and, and_false, beq_t, beq_f, eqN_t, eqN_f, eqL_t, eqL_f, nm1, nm2, nm1', nm2', m1z, m2z, zm1, zm2, m12, m21, lg_cmp_ge, lg_cmp_le, lg_cmp_gt, lg_cmp_lt, lg_cmp_eq, oob, oobL, neg0, negL0, natle_f, or_false, false_or, true_or, or_true, or_self, cl, clL, le_t, le_f, lt_t, lt_f, leL_t, leL_f, ltL_t, ltL_f, leM_t, leM_f, ltM_t, ltM_f, leO_t, leO_f, cond_true, cond_false, Option.bind_some, Option.bind_none, if_false, if_true, nI_1, aL1, aL2, mL1, mL2, nI_add, pk_mul, pk_m1, sL1, dL1, pk_sub, m1p1, gIs_eq, gIs_k, gIs_i, gIs_n, gIs_e, gIJ, gIR, gJI, gJR, gJs_eq, gJs_k, gJs_n, gJs_e, gRI, gRJ, gRs_eq, gRs_k, gRs_i, gRs_n, gZI, gZJ, gZR, pI_s, pJ_s, pV_s, pR_s, pR_n, oR_n, oR_s, decide_true, decide_false, not_true_eq_false, not_false_eq_true, decT, decF, Bool.true_eq_false, Bool.false_eq_true, z01, o01, z1f, z1f', zz, oo, b2i_0, b2i_n, b2i_t, b2i_f, Bool.not_true, Bool.not_false]
  · refine ⟨-3, fun w hC _ => ⟨w, ?_, Fr.refl _ _⟩, fun w hM _ => ⟨w, ?_, hM, Fr.refl _ _⟩⟩
    · obtain ⟨⟨jd, x1, x2⟩, _⟩ := hC
      have t0 := x2.1 0 (by omega)
      rw [f_X11_ruled, e_X11_ruled_0]
      simp (disch := omega) only [x1, t0, ht, e_X11_ruled_19, true_and, and_true, false_and, and_false, beq_t, beq_f, eqN_t, eqN_f, eqL_t, eqL_f, nm1, nm2, nm1', nm2', m1z, m2z, zm1, zm2, m12, m21, lg_cmp_ge, lg_cmp_le, lg_cmp_gt, lg_cmp_lt, lg_cmp_eq, oob, oobL, neg0, negL0, natle_f, or_false, false_or, true_or, or_true, or_self, cl, clL, le_t, le_f, lt_t, lt_f, leL_t, leL_f, ltL_t, ltL_f, leM_t, leM_f, ltM_t, ltM_f, leO_t, leO_f, cond_true, cond_false, Option.bind_some, Option.bind_none, if_false, if_true, nI_1, aL1, aL2, mL1, mL2, nI_add, pk_mul, pk_m1, sL1, dL1, pk_sub, m1p1, gIs_eq, gIs_k, gIs_i, gIs_n, gIs_e, gIJ, gIR, gJI, gJR, gJs_eq, gJs_k, gJs_n, gJs_e, gRI, gRJ, gRs_eq, gRs_k, gRs_i, gRs_n, gZI, gZJ, gZR, pI_s, pJ_s, pV_s, pR_s, pR_n, oR_n, oR_s, decide_true, decide_false, not_true_eq_false, not_false_eq_true, decT, decF, Bool.true_eq_false, Bool.false_eq_true, z01, o01, z1f, z1f', zz, oo, b2i_0, b2i_n, b2i_t, b2i_f, Bool.not_true, Bool.not_false]
    · rw [f_X12_ruled, e_X12_ruled_0]
      simp (disch := omega) only [m_isDale hM.1, ht, e_X12_ruled_17, true_and, and_true, false_and, and_false, beq_t, beq_f, eqN_t, eqN_f, eqL_t, eqL_f, nm1, nm2, nm1', nm2', m1z, m2z, zm1, zm2, m12, m21, lg_cmp_ge, lg_cmp_le, lg_cmp_gt, lg_cmp_lt, lg_cmp_eq, oob, oobL, neg0, negL0, natle_f, or_false, false_or, true_or, or_true, or_self, cl, clL, le_t, le_f, lt_t, lt_f, leL_t, leL_f, ltL_t, ltL_f, leM_t, leM_f, ltM_t, ltM_f, leO_t, leO_f, cond_true, cond_false, Option.bind_some, Option.bind_none, if_false, if_true, nI_1, aL1, aL2, mL1, mL2, nI_add, pk_mul, pk_m1, sL1, dL1, pk_sub, m1p1, gIs_eq, gIs_k, gIs_i, gIs_n, gIs_e, gIJ, gIR, gJI, gJR, gJs_eq, gJs_k, gJs_n, gJs_e, gRI, gRJ, gRs_eq, gRs_k, gRs_i, gRs_n, gZI, gZJ, gZR, pI_s, pJ_s, pV_s, pR_s, pR_n, oR_n, oR_s, decide_true, decide_false, not_true_eq_false, not_false_eq_true, decT, decF, Bool.true_eq_false, Bool.false_eq_true, z01, o01, z1f, z1f', zz, oo, b2i_0, b2i_n, b2i_t, b2i_f, Bool.not_true, Bool.not_false]
