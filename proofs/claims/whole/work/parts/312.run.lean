/-! ===== how it goes on, in the class ===== -/
def RunC (w : XW) (d : Dl) (s : Sc) (r : Option Rl) (ts : Ar) : Prop := ∃ jd jr, gR w 10 0 5 = some jd ∧ DlAt w jd d ∧ NtAt w jd jr ts ∧ ScAt w 1 s ∧ gI w 8 1 0 = d.1 3 ∧ RoAt w jr r
theorem c_ruleAt {w : XW} {rs : List Rl} {f : Int32} (h : CR w rs) (hR : ∀ rl ∈ rs, ROk rl) (h6 : rs.length ≤ 6) (hf : fOk rs f) : ∃ jr, F_X11_ruleAt [.inr (10, 0), .inl (.int f)] w = some (jr, w) ∧ RoAt w jr (curR rs f) := by
  rw [f_X11_ruleAt, e_X11_ruleAt_0]
  rcases hf with rfl | ⟨t, ht, rfl⟩
  · refine ⟨none, ?_, trivial⟩
    simp (disch := omega) only [p_within, e_X11_ruleAt_23, e_X11_ruleAt_24, true_and, and_true, false_and, and_false, beq_t, beq_f, eqN_t, eqN_f, eqL_t, eqL_f, nm1, nm2, nm1', nm2', m1z, m2z, zm1, zm2, m12, m21, lg_cmp_ge, lg_cmp_le, lg_cmp_gt, lg_cmp_lt, lg_cmp_eq, oob, oobL, neg0, negL0, natle_f, or_false, false_or, true_or, or_true, or_self, cl, clL, le_t, le_f, lt_t, lt_f, leL_t, leL_f, ltL_t, ltL_f, leM_t, leM_f, ltM_t, ltM_f, leO_t, leO_f, cond_true, cond_false, Option.bind_some, Option.bind_none, if_false, if_true, nI_1, aL1, aL2, mL1, mL2, nI_add, pk_mul, pk_m1, sL1, dL1, pk_sub, m1p1, gIs_eq, gIs_k, gIs_i, gIs_n, gIs_e, gIJ, gIR, gJI, gJR, gJs_eq, gJs_k, gJs_n, gJs_e, gRI, gRJ, gRs_eq, gRs_k, gRs_i, gRs_n, gZI, gZJ, gZR, pI_s, pJ_s, pV_s, pR_s, pR_n, oR_n, oR_s, decide_true, decide_false, not_true_eq_false, not_false_eq_true, decT, decF, Bool.true_eq_false, Bool.false_eq_true, z01, o01, z1f, z1f', zz, oo, b2i_0, b2i_n, b2i_t, b2i_f, Bool.not_true, Bool.not_false]
  · obtain ⟨jr, x1, x2⟩ := h.2 t rs[t] (List.getElem?_eq_getElem ht)
    have hw := p_within (nI t) 0 (nI rs.length - 1) w
    rw [decT (p := ¬ nI t < 0 ∧ ¬ nI rs.length - 1 < nI t) (by rw [lt_pred (by omega)]; exact ⟨nI_pos (by omega), nI_ge ht (by omega)⟩)] at hw
    refine ⟨some jr, ?_, ?_⟩
    · rw [h.1, hw]
      simp (disch := omega) only [e_X11_ruleAt_14, x1, e_X11_ruleAt_24a, true_and, and_true, false_and, and_false, beq_t, beq_f, eqN_t, eqN_f, eqL_t, eqL_f, nm1, nm2, nm1', nm2', m1z, m2z, zm1, zm2, m12, m21, lg_cmp_ge, lg_cmp_le, lg_cmp_gt, lg_cmp_lt, lg_cmp_eq, oob, oobL, neg0, negL0, natle_f, or_false, false_or, true_or, or_true, or_self, cl, clL, le_t, le_f, lt_t, lt_f, leL_t, leL_f, ltL_t, ltL_f, leM_t, leM_f, ltM_t, ltM_f, leO_t, leO_f, cond_true, cond_false, Option.bind_some, Option.bind_none, if_false, if_true, nI_1, aL1, aL2, mL1, mL2, nI_add, pk_mul, pk_m1, sL1, dL1, pk_sub, m1p1, gIs_eq, gIs_k, gIs_i, gIs_n, gIs_e, gIJ, gIR, gJI, gJR, gJs_eq, gJs_k, gJs_n, gJs_e, gRI, gRJ, gRs_eq, gRs_k, gRs_i, gRs_n, gZI, gZJ, gZR, pI_s, pJ_s, pV_s, pR_s, pR_n, oR_n, oR_s, decide_true, decide_false, not_true_eq_false, not_false_eq_true, decT, decF, Bool.true_eq_false, Bool.false_eq_true, z01, o01, z1f, z1f', zz, oo, b2i_0, b2i_n, b2i_t, b2i_f, Bool.not_true, Bool.not_false]
    · unfold curR
      rw [decF (nI_pos (by omega)), cl (by omega)]
      show RoAt w (some jr) rs[t]?
      rw [List.getElem?_eq_getElem ht]
      exact ⟨x2, hR _ (List.getElem_mem ht)⟩
def P19 (κ _j k : Nat) : Prop := κ = 19 ∨ (κ = 3 ∧ k < 2)
theorem take_loop (jd : Nat) (d : Dl) (w : XW) (hd : DlAt w jd d) : ∃ w', q_X4_take_12 jd 0 w = some (none, w') ∧ (∀ p, p < 5 → gI w' 19 0 p = tlS d p) ∧ Fr (fun κ _ _ => κ = 19) w w' := by
  obtain ⟨w', h1, h2, h3⟩ := loop0 5 (fun k v => q_X4_take_12 jd (nI k) v) (fun v => some (none, v)) (fun k v => Fr (fun κ _ _ => κ = 19) w v ∧ ∀ k', k' < k → gI v 19 0 k' = tlS d k') (s := w) ⟨Fr.refl _ _, fun k' hk => absurd hk (by omega)⟩ (fun k v hk hi => by
      obtain ⟨b1, b2⟩ := hi
      have g := ((hd.fr b1 (fun κ k q => by omega)).2.2.1 k hk).2
      ((try dsimp only); rw [e_X4_take_12]; simp (disch := omega) only [e_X4_take_17, g, true_and, and_true, false_and, and_false, beq_t, beq_f, eqN_t, eqN_f, eqL_t, eqL_f, nm1, nm2, nm1', nm2', m1z, m2z, zm1, zm2, m12, m21, lg_cmp_ge, lg_cmp_le, lg_cmp_gt, lg_cmp_lt, lg_cmp_eq, oob, oobL, neg0, negL0, natle_f, or_false, false_or, true_or, or_true, or_self, cl, clL, le_t, le_f, lt_t, lt_f, leL_t, leL_f, ltL_t, ltL_f, leM_t, leM_f, ltM_t, ltM_f, leO_t, leO_f, cond_true, cond_false, Option.bind_some, Option.bind_none, if_false, if_true, nI_1, aL1, aL2, mL1, mL2, nI_add, pk_mul, pk_m1, sL1, dL1, pk_sub, m1p1, gIs_eq, gIs_k, gIs_i, gIs_n, gIs_e, gIJ, gIR, gJI, gJR, gJs_eq, gJs_k, gJs_n, gJs_e, gRI, gRJ, gRs_eq, gRs_k, gRs_i, gRs_n, gZI, gZJ, gZR, pI_s, pJ_s, pV_s, pR_s, pR_n, oR_n, oR_s, decide_true, decide_false, not_true_eq_false, not_false_eq_true, decT, decF, Bool.true_eq_false, Bool.false_eq_true, z01, o01, z1f, z1f', zz, oo, b2i_0, b2i_n, b2i_t, b2i_f, Bool.not_true, Bool.not_false])
      refine ⟨_, rfl, b1.sI rfl, fun k' hk' => ?_⟩
      by_cases q : k' = k
      · subst q; simp (disch := omega) only [true_and, and_true, false_and, and_false, beq_t, beq_f, eqN_t, eqN_f, eqL_t, eqL_f, nm1, nm2, nm1', nm2', m1z, m2z, zm1, zm2, m12, m21, lg_cmp_ge, lg_cmp_le, lg_cmp_gt, lg_cmp_lt, lg_cmp_eq, oob, oobL, neg0, negL0, natle_f, or_false, false_or, true_or, or_true, or_self, cl, clL, le_t, le_f, lt_t, lt_f, leL_t, leL_f, ltL_t, ltL_f, leM_t, leM_f, ltM_t, ltM_f, leO_t, leO_f, cond_true, cond_false, Option.bind_some, Option.bind_none, if_false, if_true, nI_1, aL1, aL2, mL1, mL2, nI_add, pk_mul, pk_m1, sL1, dL1, pk_sub, m1p1, gIs_eq, gIs_k, gIs_i, gIs_n, gIs_e, gIJ, gIR, gJI, gJR, gJs_eq, gJs_k, gJs_n, gJs_e, gRI, gRJ, gRs_eq, gRs_k, gRs_i, gRs_n, gZI, gZJ, gZR, pI_s, pJ_s, pV_s, pR_s, pR_n, oR_n, oR_s, decide_true, decide_false, not_true_eq_false, not_false_eq_true, decT, decF, Bool.true_eq_false, Bool.false_eq_true, z01, o01, z1f, z1f', zz, oo, b2i_0, b2i_n, b2i_t, b2i_f, Bool.not_true, Bool.not_false]; rfl
      · simp (disch := omega) only [true_and, and_true, false_and, and_false, beq_t, beq_f, eqN_t, eqN_f, eqL_t, eqL_f, nm1, nm2, nm1', nm2', m1z, m2z, zm1, zm2, m12, m21, lg_cmp_ge, lg_cmp_le, lg_cmp_gt, lg_cmp_lt, lg_cmp_eq, oob, oobL, neg0, negL0, natle_f, or_false, false_or, true_or, or_true, or_self, cl, clL, le_t, le_f, lt_t, lt_f, leL_t, leL_f, ltL_t, ltL_f, leM_t, leM_f, ltM_t, ltM_f, leO_t, leO_f, cond_true, cond_false, Option.bind_some, Option.bind_none, if_false, if_true, nI_1, aL1, aL2, mL1, mL2, nI_add, pk_mul, pk_m1, sL1, dL1, pk_sub, m1p1, gIs_eq, gIs_k, gIs_i, gIs_n, gIs_e, gIJ, gIR, gJI, gJR, gJs_eq, gJs_k, gJs_n, gJs_e, gRI, gRJ, gRs_eq, gRs_k, gRs_i, gRs_n, gZI, gZJ, gZR, pI_s, pJ_s, pV_s, pR_s, pR_n, oR_n, oR_s, decide_true, decide_false, not_true_eq_false, not_false_eq_true, decT, decF, Bool.true_eq_false, Bool.false_eq_true, z01, o01, z1f, z1f', zz, oo, b2i_0, b2i_n, b2i_t, b2i_f, Bool.not_true, Bool.not_false]
        exact b2 k' (by omega)) (fun v hi => by ((try dsimp only); rw [e_X4_take_12]; simp (disch := omega) only [e_X4_take_35, true_and, and_true, false_and, and_false, beq_t, beq_f, eqN_t, eqN_f, eqL_t, eqL_f, nm1, nm2, nm1', nm2', m1z, m2z, zm1, zm2, m12, m21, lg_cmp_ge, lg_cmp_le, lg_cmp_gt, lg_cmp_lt, lg_cmp_eq, oob, oobL, neg0, negL0, natle_f, or_false, false_or, true_or, or_true, or_self, cl, clL, le_t, le_f, lt_t, lt_f, leL_t, leL_f, ltL_t, ltL_f, leM_t, leM_f, ltM_t, ltM_f, leO_t, leO_f, cond_true, cond_false, Option.bind_some, Option.bind_none, if_false, if_true, nI_1, aL1, aL2, mL1, mL2, nI_add, pk_mul, pk_m1, sL1, dL1, pk_sub, m1p1, gIs_eq, gIs_k, gIs_i, gIs_n, gIs_e, gIJ, gIR, gJI, gJR, gJs_eq, gJs_k, gJs_n, gJs_e, gRI, gRJ, gRs_eq, gRs_k, gRs_i, gRs_n, gZI, gZJ, gZR, pI_s, pJ_s, pV_s, pR_s, pR_n, oR_n, oR_s, decide_true, decide_false, not_true_eq_false, not_false_eq_true, decT, decF, Bool.true_eq_false, Bool.false_eq_true, z01, o01, z1f, z1f', zz, oo, b2i_0, b2i_n, b2i_t, b2i_f, Bool.not_true, Bool.not_false]))
  rw [nI_0] at h1
  exact ⟨w', h1, h3, h2⟩
def rArg (jr : Option Nat) : XV := match jr with
  | none => .inl .null
  | some j => .inr (6, j)
theorem c_take (jd : Nat) (jr : Option Nat) (d : Dl) (w : XW) (hd : DlAt w jd d) : ∃ w', F_X4_take [.inr (3, 0), .inr (1, jd), rArg jr] w = some w' ∧ NtAt w' jd jr (tlS d) ∧ Fr P19 w w' := by
  have main : ∃ w', q_X4_take_12 jd 0 (sR (sR w 3 0 0 (some jd)) 3 0 1 jr) = some (none, w') ∧ NtAt w' jd jr (tlS d) ∧ Fr P19 w w' := by
    have hF : Fr P19 w (sR (sR w 3 0 0 (some jd)) 3 0 1 jr) := by (repeat' (first | exact hd | exact Fr.refl _ _ | refine Fr.sI ?_ ?_ | refine Fr.sR ?_ ?_ | refine Fr.sJ ?_ ?_ | (unfold P19; omega)))
    obtain ⟨w', h1, h2, h3⟩ := take_loop jd d _ (hd.fr hF (fun κ k q => by unfold P19; omega))
    refine ⟨w', h1, ⟨?_, ?_, h2⟩, hF.trans (h3.mono (fun κ i k q => Or.inl q))⟩
    · rw [(h3 3 0 0 (by omega)).2.2.1]
      simp (disch := omega) only [true_and, and_true, false_and, and_false, beq_t, beq_f, eqN_t, eqN_f, eqL_t, eqL_f, nm1, nm2, nm1', nm2', m1z, m2z, zm1, zm2, m12, m21, lg_cmp_ge, lg_cmp_le, lg_cmp_gt, lg_cmp_lt, lg_cmp_eq, oob, oobL, neg0, negL0, natle_f, or_false, false_or, true_or, or_true, or_self, cl, clL, le_t, le_f, lt_t, lt_f, leL_t, leL_f, ltL_t, ltL_f, leM_t, leM_f, ltM_t, ltM_f, leO_t, leO_f, cond_true, cond_false, Option.bind_some, Option.bind_none, if_false, if_true, nI_1, aL1, aL2, mL1, mL2, nI_add, pk_mul, pk_m1, sL1, dL1, pk_sub, m1p1, gIs_eq, gIs_k, gIs_i, gIs_n, gIs_e, gIJ, gIR, gJI, gJR, gJs_eq, gJs_k, gJs_n, gJs_e, gRI, gRJ, gRs_eq, gRs_k, gRs_i, gRs_n, gZI, gZJ, gZR, pI_s, pJ_s, pV_s, pR_s, pR_n, oR_n, oR_s, decide_true, decide_false, not_true_eq_false, not_false_eq_true, decT, decF, Bool.true_eq_false, Bool.false_eq_true, z01, o01, z1f, z1f', zz, oo, b2i_0, b2i_n, b2i_t, b2i_f, Bool.not_true, Bool.not_false]
    · rw [(h3 3 0 1 (by omega)).2.2.1]
      simp (disch := omega) only [true_and, and_true, false_and, and_false, beq_t, beq_f, eqN_t, eqN_f, eqL_t, eqL_f, nm1, nm2, nm1', nm2', m1z, m2z, zm1, zm2, m12, m21, lg_cmp_ge, lg_cmp_le, lg_cmp_gt, lg_cmp_lt, lg_cmp_eq, oob, oobL, neg0, negL0, natle_f, or_false, false_or, true_or, or_true, or_self, cl, clL, le_t, le_f, lt_t, lt_f, leL_t, leL_f, ltL_t, ltL_f, leM_t, leM_f, ltM_t, ltM_f, leO_t, leO_f, cond_true, cond_false, Option.bind_some, Option.bind_none, if_false, if_true, nI_1, aL1, aL2, mL1, mL2, nI_add, pk_mul, pk_m1, sL1, dL1, pk_sub, m1p1, gIs_eq, gIs_k, gIs_i, gIs_n, gIs_e, gIJ, gIR, gJI, gJR, gJs_eq, gJs_k, gJs_n, gJs_e, gRI, gRJ, gRs_eq, gRs_k, gRs_i, gRs_n, gZI, gZJ, gZR, pI_s, pJ_s, pV_s, pR_s, pR_n, oR_n, oR_s, decide_true, decide_false, not_true_eq_false, not_false_eq_true, decT, decF, Bool.true_eq_false, Bool.false_eq_true, z01, o01, z1f, z1f', zz, oo, b2i_0, b2i_n, b2i_t, b2i_f, Bool.not_true, Bool.not_false]
  obtain ⟨w', h1, h2, h3⟩ := main
  refine ⟨w', ?_, h2, h3⟩
  match jr, h1 with
  | none, h1 =>
    show F_X4_take [.inr (3, 0), .inr (1, jd), .inl .null] w = _
    rw [f_X4_takea, e_X4_take_0a, h1]
    rfl
  | some j, h1 =>
    show F_X4_take [.inr (3, 0), .inr (1, jd), .inr (6, j)] w = _
    rw [f_X4_take, e_X4_take_0, h1]
    rfl
theorem c_start {w : XW} {d : Dl} {s : Sc} {rs : List Rl} {f : Int32} (h : CX w d s rs f) (hO : OX d s rs f) : ∃ w', F_X11_startFromNow [.inr (10, 0)] w = some w' ∧ RunC w' d s (curR rs f) (tlS d) ∧ Fr PQc w w' := by
  obtain ⟨⟨jd, h1, h2⟩, ⟨h3, h4⟩, h5, h7⟩ := h
  obtain ⟨jr, x1, x2⟩ := c_ruleAt h5 hO.2.2.1 hO.2.2.2.1 hO.2.2.2.2
  obtain ⟨w1, y1, y2, y3⟩ := c_take jd jr d w h2
  obtain ⟨w2, z1, z2, z3, z4⟩ := p_X9_copy 1 0 (by omega) w1 s (h3.fr y3 (fun κ k q => by unfold P19; omega))
  have hF : Fr PQc w w2 := (y3.mono (fun κ i k q => by unfold P19 at q; unfold  PQc; omega)).trans (z4.mono (fun κ i k q => by unfold PSc at q; unfold  PQc; omega))
  refine ⟨w2, ?_, ⟨jd, jr, ?_, h2.fr hF (fun κ k q => by unfold PQc; omega), y2.fr z4 (fun κ k q => by unfold PSc; omega), z2, ?_, x2.fr hF (fun κ j k q => by unfold PQc; omega)⟩, hF⟩
  · rw [f_X11_startFromNow, e_X11_startFromNow_0]
    simp (disch := omega) only [h1, h7, x1, true_and, and_true, false_and, and_false, beq_t, beq_f, eqN_t, eqN_f, eqL_t, eqL_f, nm1, nm2, nm1', nm2', m1z, m2z, zm1, zm2, m12, m21, lg_cmp_ge, lg_cmp_le, lg_cmp_gt, lg_cmp_lt, lg_cmp_eq, oob, oobL, neg0, negL0, natle_f, or_false, false_or, true_or, or_true, or_self, cl, clL, le_t, le_f, lt_t, lt_f, leL_t, leL_f, ltL_t, ltL_f, leM_t, leM_f, ltM_t, ltM_f, leO_t, leO_f, cond_true, cond_false, Option.bind_some, Option.bind_none, if_false, if_true, nI_1, aL1, aL2, mL1, mL2, nI_add, pk_mul, pk_m1, sL1, dL1, pk_sub, m1p1, gIs_eq, gIs_k, gIs_i, gIs_n, gIs_e, gIJ, gIR, gJI, gJR, gJs_eq, gJs_k, gJs_n, gJs_e, gRI, gRJ, gRs_eq, gRs_k, gRs_i, gRs_n, gZI, gZJ, gZR, pI_s, pJ_s, pV_s, pR_s, pR_n, oR_n, oR_s, decide_true, decide_false, not_true_eq_false, not_false_eq_true, decT, decF, Bool.true_eq_false, Bool.false_eq_true, z01, o01, z1f, z1f', zz, oo, b2i_0, b2i_n, b2i_t, b2i_f, Bool.not_true, Bool.not_false]
    match jr, y1 with
    | none, y1 =>
      have y1 : F_X4_take [.inr (3, 0), .inr (1, jd), .inl .null] w = _ := y1
      simp (disch := omega) only [y1, z1, true_and, and_true, false_and, and_false, beq_t, beq_f, eqN_t, eqN_f, eqL_t, eqL_f, nm1, nm2, nm1', nm2', m1z, m2z, zm1, zm2, m12, m21, lg_cmp_ge, lg_cmp_le, lg_cmp_gt, lg_cmp_lt, lg_cmp_eq, oob, oobL, neg0, negL0, natle_f, or_false, false_or, true_or, or_true, or_self, cl, clL, le_t, le_f, lt_t, lt_f, leL_t, leL_f, ltL_t, ltL_f, leM_t, leM_f, ltM_t, ltM_f, leO_t, leO_f, cond_true, cond_false, Option.bind_some, Option.bind_none, if_false, if_true, nI_1, aL1, aL2, mL1, mL2, nI_add, pk_mul, pk_m1, sL1, dL1, pk_sub, m1p1, gIs_eq, gIs_k, gIs_i, gIs_n, gIs_e, gIJ, gIR, gJI, gJR, gJs_eq, gJs_k, gJs_n, gJs_e, gRI, gRJ, gRs_eq, gRs_k, gRs_i, gRs_n, gZI, gZJ, gZR, pI_s, pJ_s, pV_s, pR_s, pR_n, oR_n, oR_s, decide_true, decide_false, not_true_eq_false, not_false_eq_true, decT, decF, Bool.true_eq_false, Bool.false_eq_true, z01, o01, z1f, z1f', zz, oo, b2i_0, b2i_n, b2i_t, b2i_f, Bool.not_true, Bool.not_false]
    | some j, y1 =>
      have y1 : F_X4_take [.inr (3, 0), .inr (1, jd), .inr (6, j)] w = _ := y1
      simp (disch := omega) only [y1, z1, true_and, and_true, false_and, and_false, beq_t, beq_f, eqN_t, eqN_f, eqL_t, eqL_f, nm1, nm2, nm1', nm2', m1z, m2z, zm1, zm2, m12, m21, lg_cmp_ge, lg_cmp_le, lg_cmp_gt, lg_cmp_lt, lg_cmp_eq, oob, oobL, neg0, negL0, natle_f, or_false, false_or, true_or, or_true, or_self, cl, clL, le_t, le_f, lt_t, lt_f, leL_t, leL_f, ltL_t, ltL_f, leM_t, leM_f, ltM_t, ltM_f, leO_t, leO_f, cond_true, cond_false, Option.bind_some, Option.bind_none, if_false, if_true, nI_1, aL1, aL2, mL1, mL2, nI_add, pk_mul, pk_m1, sL1, dL1, pk_sub, m1p1, gIs_eq, gIs_k, gIs_i, gIs_n, gIs_e, gIJ, gIR, gJI, gJR, gJs_eq, gJs_k, gJs_n, gJs_e, gRI, gRJ, gRs_eq, gRs_k, gRs_i, gRs_n, gZI, gZJ, gZR, pI_s, pJ_s, pV_s, pR_s, pR_n, oR_n, oR_s, decide_true, decide_false, not_true_eq_false, not_false_eq_true, decT, decF, Bool.true_eq_false, Bool.false_eq_true, z01, o01, z1f, z1f', zz, oo, b2i_0, b2i_n, b2i_t, b2i_f, Bool.not_true, Bool.not_false]
  · rw [(hF 10 0 5 (by unfold PQc; omega)).2.2.1]; exact h1
  · rw [z3, (y3 8 0 0 (by unfold P19; omega)).1]; exact h4
def TsOk (d : Dl) (ts : Ar) : Prop := ∀ p, p < pn d → In 9 (ts p)
theorem tl_ok {d : Dl} (hD : DOk d) : TsOk d (tlS d) := fun p hp => (hD.2.2.2.1 p hp).2.2
theorem TsOk.upd {d : Dl} {ts : Ar} (h : TsOk d ts) {p : Nat} {v : Int32} (hv : In 9 v) : TsOk d (upd ts p v) := fun q hq => by
  by_cases h2 : q = p
  · rw [h2, pk_us]; exact hv
  · rw [pk_un h2]; exact h q hq
theorem c_pass1 {w : XW} {d : Dl} {s : Sc} {r : Option Rl} {ts : Ar} (h : RunC w d s r ts) (hD : DOk d) (hS : SOk d s) (ht : TsOk d ts) : ∃ w', F_X4_pass [.inr (3, 0), .inr (8, 1)] w = some (bitsS d r ts s, w') ∧ RunC w' d (nightS d r ts s) r ts ∧ Fr PQc w w' := by
  obtain ⟨jd, jr, h1, h2, h3, h4, h5, h6⟩ := h
  obtain ⟨w', x1, x2, x3⟩ := p_X4_pass d hD 1 jd jr r ts s hS ht w h2 h3 h4 h5 h6
  refine ⟨w', x1, ⟨jd, jr, ?_, h2.fr x3 (fun κ k q => by unfold PP; omega), h3.fr x3 (fun κ k q => by unfold PP; omega), x2, ?_, h6.fr x3 (fun κ j k q => by unfold PP; omega)⟩, x3.mono (fun κ i k q => by unfold PP at q; unfold  PQc; omega)⟩
  · rw [(x3 10 0 5 (by unfold PP; omega)).2.2.1]; exact h1
  · rw [(x3 8 1 0 (by unfold PP; omega)).1]; exact h5
theorem c_goOn {w : XW} {d : Dl} {s : Sc} {r : Option Rl} {ts : Ar} (h : RunC w d s r ts) (hD : DOk d) (hS : SOk d s) (ht : TsOk d ts) (n : Nat) (hn : n ≤ 1000) : ∃ w', F_X11_goOn [.inr (10, 0), .inl (.int (nI n))] w = some w' ∧ RunC w' d (nightsS d r ts n s) r ts ∧ Fr PQc w w' := by
  obtain ⟨w2, a1, a2, a3⟩ := loop0 n (fun k v => q_X11_goOn_2 (nI n) (nI k) v) (fun v => some (none, v)) (fun k v => Fr PQc w v ∧ RunC v d (nightsS d r ts k s) r ts) (s := w) ⟨Fr.refl _ _, h⟩ (fun k v hk hi => by
      obtain ⟨b1, b2⟩ := hi
      obtain ⟨u, u1, u2, u3⟩ := c_pass1 b2 hD (hS.nights hD ht k) ht
      refine ⟨u, ?_, b1.trans u3, by rw [nights_succ]; exact u2⟩
      ((try dsimp only); rw [e_X11_goOn_2]; simp (disch := omega) only [e_X11_goOn_7, u1, true_and, and_true, false_and, and_false, beq_t, beq_f, eqN_t, eqN_f, eqL_t, eqL_f, nm1, nm2, nm1', nm2', m1z, m2z, zm1, zm2, m12, m21, lg_cmp_ge, lg_cmp_le, lg_cmp_gt, lg_cmp_lt, lg_cmp_eq, oob, oobL, neg0, negL0, natle_f, or_false, false_or, true_or, or_true, or_self, cl, clL, le_t, le_f, lt_t, lt_f, leL_t, leL_f, ltL_t, ltL_f, leM_t, leM_f, ltM_t, ltM_f, leO_t, leO_f, cond_true, cond_false, Option.bind_some, Option.bind_none, if_false, if_true, nI_1, aL1, aL2, mL1, mL2, nI_add, pk_mul, pk_m1, sL1, dL1, pk_sub, m1p1, gIs_eq, gIs_k, gIs_i, gIs_n, gIs_e, gIJ, gIR, gJI, gJR, gJs_eq, gJs_k, gJs_n, gJs_e, gRI, gRJ, gRs_eq, gRs_k, gRs_i, gRs_n, gZI, gZJ, gZR, pI_s, pJ_s, pV_s, pR_s, pR_n, oR_n, oR_s, decide_true, decide_false, not_true_eq_false, not_false_eq_true, decT, decF, Bool.true_eq_false, Bool.false_eq_true, z01, o01, z1f, z1f', zz, oo, b2i_0, b2i_n, b2i_t, b2i_f, Bool.not_true, Bool.not_false])) (fun v hi => by ((try dsimp only); rw [e_X11_goOn_2]; simp (disch := omega) only [e_X11_goOn_25, true_and, and_true, false_and, and_false, beq_t, beq_f, eqN_t, eqN_f, eqL_t, eqL_f, nm1, nm2, nm1', nm2', m1z, m2z, zm1, zm2, m12, m21, lg_cmp_ge, lg_cmp_le, lg_cmp_gt, lg_cmp_lt, lg_cmp_eq, oob, oobL, neg0, negL0, natle_f, or_false, false_or, true_or, or_true, or_self, cl, clL, le_t, le_f, lt_t, lt_f, leL_t, leL_f, ltL_t, ltL_f, leM_t, leM_f, ltM_t, ltM_f, leO_t, leO_f, cond_true, cond_false, Option.bind_some, Option.bind_none, if_false, if_true, nI_1, aL1, aL2, mL1, mL2, nI_add, pk_mul, pk_m1, sL1, dL1, pk_sub, m1p1, gIs_eq, gIs_k, gIs_i, gIs_n, gIs_e, gIJ, gIR, gJI, gJR, gJs_eq, gJs_k, gJs_n, gJs_e, gRI, gRJ, gRs_eq, gRs_k, gRs_i, gRs_n, gZI, gZJ, gZR, pI_s, pJ_s, pV_s, pR_s, pR_n, oR_n, oR_s, decide_true, decide_false, not_true_eq_false, not_false_eq_true, decT, decF, Bool.true_eq_false, Bool.false_eq_true, z01, o01, z1f, z1f', zz, oo, b2i_0, b2i_n, b2i_t, b2i_f, Bool.not_true, Bool.not_false]))
  refine ⟨w2, ?_, a3, a2⟩
  rw [nI_0] at a1
  rw [f_X11_goOn, e_X11_goOn_0, a1]
  rfl
theorem c_nowTells {w : XW} {d : Dl} {s : Sc} {r : Option Rl} {ts : Ar} (h : RunC w d s r ts) {p : Nat} (hp : p < 5) (v : Int32) : ∃ w', F_X4_nowTells [.inr (3, 0), .inl (.int (nI p)), .inl (.int v)] w = some w' ∧ RunC w' d s r (upd ts p v) ∧ Fr PQc w w' := by
  obtain ⟨jd, jr, h1, h2, h3, h4, h5, h6⟩ := h
  have hF : Fr (fun κ _ _ => κ = 19) w (sI w 19 0 p v) := (Fr.refl _ _).sI rfl
  refine ⟨sI w 19 0 p v, ?_, ⟨jd, jr, h1, h2.fr hF (fun κ k q => by omega), ⟨h3.1, h3.2.1, fun q hq => ?_⟩, h4.fr hF (fun κ k q => by omega), by simp (disch := omega) only [true_and, and_true, false_and, and_false, beq_t, beq_f, eqN_t, eqN_f, eqL_t, eqL_f, nm1, nm2, nm1', nm2', m1z, m2z, zm1, zm2, m12, m21, lg_cmp_ge, lg_cmp_le, lg_cmp_gt, lg_cmp_lt, lg_cmp_eq, oob, oobL, neg0, negL0, natle_f, or_false, false_or, true_or, or_true, or_self, cl, clL, le_t, le_f, lt_t, lt_f, leL_t, leL_f, ltL_t, ltL_f, leM_t, leM_f, ltM_t, ltM_f, leO_t, leO_f, cond_true, cond_false, Option.bind_some, Option.bind_none, if_false, if_true, nI_1, aL1, aL2, mL1, mL2, nI_add, pk_mul, pk_m1, sL1, dL1, pk_sub, m1p1, gIs_eq, gIs_k, gIs_i, gIs_n, gIs_e, gIJ, gIR, gJI, gJR, gJs_eq, gJs_k, gJs_n, gJs_e, gRI, gRJ, gRs_eq, gRs_k, gRs_i, gRs_n, gZI, gZJ, gZR, pI_s, pJ_s, pV_s, pR_s, pR_n, oR_n, oR_s, decide_true, decide_false, not_true_eq_false, not_false_eq_true, decT, decF, Bool.true_eq_false, Bool.false_eq_true, z01, o01, z1f, z1f', zz, oo, b2i_0, b2i_n, b2i_t, b2i_f, Bool.not_true, Bool.not_false]; exact h5, h6.fr hF (fun κ j k q => by omega)⟩, hF.mono (fun κ i k q => by unfold PQc; omega)⟩
  · rw [f_X4_nowTells, e_X4_nowTells_0]
    simp (disch := omega) only [e_X4_nowTells_4, e_X4_nowTells_9, e_X4_nowTells_16, true_and, and_true, false_and, and_false, beq_t, beq_f, eqN_t, eqN_f, eqL_t, eqL_f, nm1, nm2, nm1', nm2', m1z, m2z, zm1, zm2, m12, m21, lg_cmp_ge, lg_cmp_le, lg_cmp_gt, lg_cmp_lt, lg_cmp_eq, oob, oobL, neg0, negL0, natle_f, or_false, false_or, true_or, or_true, or_self, cl, clL, le_t, le_f, lt_t, lt_f, leL_t, leL_f, ltL_t, ltL_f, leM_t, leM_f, ltM_t, ltM_f, leO_t, leO_f, cond_true, cond_false, Option.bind_some, Option.bind_none, if_false, if_true, nI_1, aL1, aL2, mL1, mL2, nI_add, pk_mul, pk_m1, sL1, dL1, pk_sub, m1p1, gIs_eq, gIs_k, gIs_i, gIs_n, gIs_e, gIJ, gIR, gJI, gJR, gJs_eq, gJs_k, gJs_n, gJs_e, gRI, gRJ, gRs_eq, gRs_k, gRs_i, gRs_n, gZI, gZJ, gZR, pI_s, pJ_s, pV_s, pR_s, pR_n, oR_n, oR_s, decide_true, decide_false, not_true_eq_false, not_false_eq_true, decT, decF, Bool.true_eq_false, Bool.false_eq_true, z01, o01, z1f, z1f', zz, oo, b2i_0, b2i_n, b2i_t, b2i_f, Bool.not_true, Bool.not_false]
  · by_cases h2 : q = p
    · rw [h2, pk_us]; exact gIs_eq
    · rw [pk_un h2, gIs_k h2]; exact h3.2.2 q hq
theorem c_nowTells0 (v : Int32) (w : XW) : F_X4_nowTells [.inr (3, 0), .inl (.int (-1)), .inl (.int v)] w = some w := by
  rw [f_X4_nowTells, e_X4_nowTells_0]
  simp (disch := omega) only [e_X4_nowTells_16, true_and, and_true, false_and, and_false, beq_t, beq_f, eqN_t, eqN_f, eqL_t, eqL_f, nm1, nm2, nm1', nm2', m1z, m2z, zm1, zm2, m12, m21, lg_cmp_ge, lg_cmp_le, lg_cmp_gt, lg_cmp_lt, lg_cmp_eq, oob, oobL, neg0, negL0, natle_f, or_false, false_or, true_or, or_true, or_self, cl, clL, le_t, le_f, lt_t, lt_f, leL_t, leL_f, ltL_t, ltL_f, leM_t, leM_f, ltM_t, ltM_f, leO_t, leO_f, cond_true, cond_false, Option.bind_some, Option.bind_none, if_false, if_true, nI_1, aL1, aL2, mL1, mL2, nI_add, pk_mul, pk_m1, sL1, dL1, pk_sub, m1p1, gIs_eq, gIs_k, gIs_i, gIs_n, gIs_e, gIJ, gIR, gJI, gJR, gJs_eq, gJs_k, gJs_n, gJs_e, gRI, gRJ, gRs_eq, gRs_k, gRs_i, gRs_n, gZI, gZJ, gZR, pI_s, pJ_s, pV_s, pR_s, pR_n, oR_n, oR_s, decide_true, decide_false, not_true_eq_false, not_false_eq_true, decT, decF, Bool.true_eq_false, Bool.false_eq_true, z01, o01, z1f, z1f', zz, oo, b2i_0, b2i_n, b2i_t, b2i_f, Bool.not_true, Bool.not_false]
/-! ===== in the model ===== -/
def MR (w : XW) (rs : List Rl) : Prop := gI w 11 0 2 = nI rs.length ∧ ∀ t rl, rs[t]? = some rl → RlM w t rl
def RunM (w : XW) (d : Dl) (s : Sc) (r : Option Rl) (ts : Ar) : Prop := MdAt w d ∧ MtAt w ts ∧ MsAt w s ∧ FoAt w r ∧ gI w 11 0 23 = -1
def MX (w : XW) (d : Dl) (s : Sc) (rs : List Rl) (f : Int32) : Prop := MdAt w d ∧ MtAt w (tlS d) ∧ MsAt w s ∧ MR w rs ∧ gI w 11 0 21 = f ∧ gI w 11 0 23 = -1
def flS (s : Sc) (k : Nat) : Int32 := if k = 0 then s.1 else if (k - 1) % 4 = 0 then s.2.1 ((k - 1) / 4) else if (k - 1) % 4 = 1 then s.2.2.1 ((k - 1) / 4) else if (k - 1) % 4 = 2 then s.2.2.2.1 ((k - 1) / 4) else s.2.2.2.2 ((k - 1) / 4)
theorem Ms_of_fl {w : XW} {s : Sc} (h : ∀ k, k < 25 → gI w 50 0 (10 + k) = flS s k) : MsAt w s := by
  refine ⟨h 0 (by omega), fun k hk => ⟨?_, ?_, ?_, ?_⟩⟩
  · have := h (1 + 4 * k) (by omega)
    rw [show 10 + (1 + 4 * k) = 11 + 4 * k by omega] at this
    rw [this]
    unfold flS
    rw [if_neg (by omega), if_pos (by omega), show (1 + 4 * k - 1) / 4 = k by omega]
  · have := h (2 + 4 * k) (by omega)
    rw [show 10 + (2 + 4 * k) = 11 + 4 * k + 1 by omega] at this
    rw [this]
    unfold flS
    rw [if_neg (by omega), if_neg (by omega), if_pos (by omega), show (2 + 4 * k - 1) / 4 = k by omega]
  · have := h (3 + 4 * k) (by omega)
    rw [show 10 + (3 + 4 * k) = 11 + 4 * k + 2 by omega] at this
    rw [this]
    unfold flS
    rw [if_neg (by omega), if_neg (by omega), if_neg (by omega), if_pos (by omega), show (3 + 4 * k - 1) / 4 = k by omega]
  · have := h (4 + 4 * k) (by omega)
    rw [show 10 + (4 + 4 * k) = 11 + 4 * k + 3 by omega] at this
    rw [this]
    unfold flS
    rw [if_neg (by omega), if_neg (by omega), if_neg (by omega), if_neg (by omega), show (4 + 4 * k - 1) / 4 = k by omega]
theorem fl_of_Ms {w : XW} {s : Sc} (h : MsAt w s) {k : Nat} (hk : k < 25) : gI w 50 0 (10 + k) = flS s k := by
  unfold flS
  by_cases h0 : k = 0
  · rw [if_pos h0, h0]; exact h.1
  · rw [if_neg h0]
    have hq := h.2 ((k - 1) / 4) (by omega)
    by_cases h1 : (k - 1) % 4 = 0
    · rw [if_pos h1, ← hq.1]
      congr 1
      omega
    · rw [if_neg h1]
      by_cases h2 : (k - 1) % 4 = 1
      · rw [if_pos h2, ← hq.2.1]
        congr 1
        omega
      · rw [if_neg h2]
        by_cases h3 : (k - 1) % 4 = 2
        · rw [if_pos h3, ← hq.2.2.1]
          congr 1
          omega
        · rw [if_neg h3, ← hq.2.2.2]
          congr 1
          omega
def PQm (κ _j k : Nat) : Prop := κ = 48 ∨ κ = 49 ∨ κ = 51 ∨ κ = 53 ∨ (κ = 11 ∧ (k = 18 ∨ k = 21 ∨ k = 23 ∨ k = 31 ∨ k = 32 ∨ k = 33)) ∨ (κ = 50 ∧ ((10 ≤ k ∧ k < 35) ∨ (52 ≤ k ∧ k < 57)))
theorem MR.fr {P : Nat → Nat → Nat → Prop} {w w' : XW} {rs : List Rl} (h : MR w rs) (hF : Fr P w w') (hP : ∀ κ k, (κ = 11 ∧ k = 2) ∨ κ = 42 ∨ κ = 44 ∨ κ = 45 → ¬ P κ 0 k) : MR w' rs :=
  ⟨by rw [(hF 11 0 2 (hP 11 2 (by omega))).1]; exact h.1, fun t rl ht => (h.2 t rl ht).fr hF (fun κ k q => hP κ k (by omega))⟩
theorem MX.fo {w : XW} {d : Dl} {s : Sc} {rs : List Rl} {f : Int32} (h : MX w d s rs f) (hO : OX d s rs f) : FoAt w (curR rs f) := by
  obtain ⟨_, _, _, h4, h5, _⟩ := h
  obtain ⟨_, _, hR, h6, hf⟩ := hO
  rcases hf with rfl | ⟨t, ht, rfl⟩
  · exact h5
  · unfold curR
    rw [decF (nI_pos (by omega)), cl (by omega)]
    show FoAt w rs[t]?
    rw [List.getElem?_eq_getElem ht]
    exact ⟨t, h5, h4.2 t _ (List.getElem?_eq_getElem ht), hR _ (List.getElem_mem ht)⟩
theorem MX.run {w : XW} {d : Dl} {s : Sc} {rs : List Rl} {f : Int32} (h : MX w d s rs f) (hO : OX d s rs f) : RunM w d s (curR rs f) (tlS d) := ⟨h.1, h.2.1, h.2.2.1, h.fo hO, h.2.2.2.2.2⟩
def KeptM (w : XW) (s : Sc) (f : Int32) : Prop := (∀ k, k < 25 → gI w 53 0 k = flS s k) ∧ gI w 11 0 21 = f
theorem KeptM.fr {P : Nat → Nat → Nat → Prop} {w w' : XW} {s : Sc} {f : Int32} (h : KeptM w s f) (hF : Fr P w w') (hP : ∀ k, ¬ P 53 0 k) (hQ : ¬ P 11 0 21) : KeptM w' s f := ⟨fun k hk => by
  rw [(hF 53 0 k (hP k)).1]; exact h.1 k hk, by rw [(hF 11 0 21 hQ).1]; exact h.2⟩
theorem RunM.fr {P : Nat → Nat → Nat → Prop} {w w' : XW} {d : Dl} {s : Sc} {r : Option Rl} {ts : Ar} (h : RunM w d s r ts) (hF : Fr P w w') (hP : ∀ κ k, κ = 50 ∨ (κ = 11 ∧ (k = 21 ∨ k = 23)) ∨ κ = 42 ∨ κ = 44 ∨ κ = 45 → ¬ P κ 0 k) : RunM w' d s r ts :=
  ⟨h.1.fr hF (fun k q => hP 50 k (by omega)), h.2.1.fr hF (fun k q => hP 50 k (by omega)), h.2.2.1.fr hF (fun k q => hP 50 k (by omega)), h.2.2.2.1.fr hF (fun κ k q => hP κ k (by omega)), by rw [(hF 11 0 23 (hP 11 23 (by omega))).1]; exact h.2.2.2.2⟩
theorem m_keeps {w : XW} {d : Dl} {s : Sc} {r : Option Rl} {ts : Ar} {f : Int32} (h : RunM w d s r ts) (hf : gI w 11 0 21 = f) : ∃ w', F_X12_keeps [.inr (11, 0)] w = some w' ∧ RunM w' d s r ts ∧ KeptM w' s f ∧ Fr PQm w w' := by
  obtain ⟨w', h1, h2, h3⟩ := p_X12_keeps w
  exact ⟨w', h1, h.fr h3 (fun κ k q => by unfold P53; omega), ⟨fun k hk => (h2 k hk).trans (fl_of_Ms h.2.2.1 hk), by rw [(h3 11 0 21 (by unfold P53; omega)).1]; exact hf⟩, h3.mono (fun κ i k q => by unfold P53 at q; unfold  PQm; omega)⟩
theorem m_laysBack {w : XW} {d : Dl} {s s0 : Sc} {r : Option Rl} {ts : Ar} {f : Int32} (h : RunM w d s r ts) (hk : KeptM w s0 f) : ∃ w', F_X12_laysBack [.inr (11, 0)] w = some w' ∧ RunM w' d s0 r ts ∧ KeptM w' s0 f ∧ Fr P50s w w' := by
  obtain ⟨w', h1, h2, h3⟩ := p_X12_laysBack w
  refine ⟨w', h1, ⟨h.1.fr h3 (fun k q => by unfold P50s; omega), h.2.1.fr h3 (fun k q => by unfold P50s; omega), Ms_of_fl (fun k hk' => (h2 k hk').trans (hk.1 k hk')), h.2.2.2.1.fr h3 (fun κ k q => by unfold P50s; omega), ?_⟩, hk.fr h3 (fun k => by unfold P50s; omega) (by unfold P50s; omega), h3⟩
  rw [(h3 11 0 23 (by unfold P50s; omega)).1]; exact h.2.2.2.2
theorem RunM.n {w w' : XW} {d : Dl} {s s' : Sc} {r : Option Rl} {ts : Ar} (h : RunM w d s r ts) (hF : Fr PMn w w') (hs : MsAt w' s') : RunM w' d s' r ts :=
  ⟨h.1.fr hF (fun k q => by unfold PMn; omega), h.2.1.fr hF (fun k q => by unfold PMn; omega), hs, h.2.2.2.1.fr hF (fun κ k q => by unfold PMn; omega), by rw [(hF 11 0 23 (by unfold PMn; omega)).1]; exact h.2.2.2.2⟩
theorem m_pass1 {w : XW} {d : Dl} {s s0 : Sc} {r : Option Rl} {ts : Ar} {f : Int32} (h : RunM w d s r ts) (hk : KeptM w s0 f) (hD : DOk d) (hS : SOk d s) (ht : TsOk d ts) : ∃ w', F_X12_passes [.inr (11, 0)] w = some (bitsS d r ts s, w') ∧ RunM w' d (nightS d r ts s) r ts ∧ KeptM w' s0 f ∧ Fr PMn w w' := by
  obtain ⟨w', h1, h2, h3⟩ := p_X12_passes d hD r ts ts (-1) s hS ht (Or.inl ⟨rfl, rfl⟩) w h.1 h.2.1 h.2.2.1 h.2.2.2.1 h.2.2.2.2
  exact ⟨w', h1, h.n h3 h2, hk.fr h3 (fun k => by unfold PMn; omega) (by unfold PMn; omega), h3⟩
theorem m_goOn {w : XW} {d : Dl} {s s0 : Sc} {r : Option Rl} {ts : Ar} {f : Int32} (h : RunM w d s r ts) (hk : KeptM w s0 f) (hD : DOk d) (hS : SOk d s) (ht : TsOk d ts) (n : Nat) (hn : n ≤ 100) : ∃ w', F_X12_passesAll [.inr (11, 0), .inl (.int (nI n))] w = some w' ∧ RunM w' d (nightsS d r ts n s) r ts ∧ KeptM w' s0 f ∧ Fr PMn w w' := by
  obtain ⟨w', h1, h2, h3⟩ := p_X12_passesAll d hD r ts ts (-1) s hS ht (Or.inl ⟨rfl, rfl⟩) n hn w h.1 h.2.1 h.2.2.1 h.2.2.2.1 h.2.2.2.2
  exact ⟨w', h1, h.n h3 h2, hk.fr h3 (fun k => by unfold PMn; omega) (by unfold PMn; omega), h3⟩
theorem MX.of_run {w w' : XW} {d : Dl} {s s' : Sc} {rs : List Rl} {f : Int32} {r : Option Rl} (h : MX w d s rs f) (hF : Fr PQm w w') (hr : RunM w' d s' r (tlS d)) (hf : KeptM w' s' f) : MX w' d s' rs f :=
  ⟨hr.1, hr.2.1, hr.2.2.1, h.2.2.2.1.fr hF (fun κ k q => by unfold PQm; omega), hf.2, hr.2.2.2.2⟩
/-! with the rows that queries use -/
def PQk (κ j _k : Nat) : Prop := κ = 3 ∨ κ = 19 ∨ κ = 20 ∨ κ = 21 ∨ κ = 12 ∨ κ = 25 ∨ κ = 38 ∨ κ = 39 ∨ κ = 40 ∨ ((κ = 8 ∨ κ = 30 ∨ κ = 31 ∨ κ = 32 ∨ κ = 33) ∧ j = 1)
def PQM (κ _j k : Nat) : Prop := κ = 48 ∨ κ = 49 ∨ κ = 51 ∨ κ = 53 ∨ κ = 54 ∨ κ = 55 ∨ κ = 56 ∨ κ = 57 ∨ κ = 58 ∨ κ = 59 ∨ κ = 60 ∨ (κ = 11 ∧ (k = 18 ∨ k = 21 ∨ k = 23 ∨ k = 31 ∨ k = 32 ∨ k = 33 ∨ k = 38)) ∨ (κ = 50 ∧ ((10 ≤ k ∧ k < 35) ∨ (52 ≤ k ∧ k < 57)))
theorem CX.frk {w w' : XW} {d : Dl} {s : Sc} {rs : List Rl} {f : Int32} (h : CX w d s rs f) (hF : Fr PQk w w') : CX w' d s rs f := by
  obtain ⟨⟨jd, h1, h2⟩, ⟨h3, h4⟩, ⟨h5, h6⟩, h7⟩ := h
  refine ⟨⟨jd, ?_, h2.fr hF (fun κ k q => by unfold PQk; omega)⟩, ⟨h3.fr hF (fun κ k q => by unfold PQk; omega), ?_⟩, ⟨?_, fun t rl ht => ?_⟩, ?_⟩
  · rw [(hF 10 0 5 (by unfold PQk; omega)).2.2.1]; exact h1
  · rw [(hF 8 0 0 (by unfold PQk; omega)).1]; exact h4
  · rw [(hF 10 0 3 (by unfold PQk; omega)).1]; exact h5
  · obtain ⟨jr, x1, x2⟩ := h6 t rl ht
    exact ⟨jr, by rw [(hF 35 0 t (by unfold PQk; omega)).2.2.1]; exact x1, x2.fr hF (fun κ k q => by unfold PQk; omega)⟩
  · rw [(hF 10 0 4 (by unfold PQk; omega)).1]; exact h7
theorem Fr.k {w w' : XW} (h : Fr PQc w w') : Fr PQk w w' := h.mono (fun κ i k q => by unfold PQc at q; unfold  PQk; omega)
theorem Fr.M {w w' : XW} (h : Fr PQm w w') : Fr PQM w w' := h.mono (fun κ i k q => by unfold PQm at q; unfold  PQM; omega)
theorem MX.of_runM {w w' : XW} {d : Dl} {s s' : Sc} {rs : List Rl} {f : Int32} {r : Option Rl} (h : MX w d s rs f) (hF : Fr PQM w w') (hr : RunM w' d s' r (tlS d)) (hf : KeptM w' s' f) : MX w' d s' rs f :=
  ⟨hr.1, hr.2.1, hr.2.2.1, h.2.2.2.1.fr hF (fun κ k q => by unfold PQM; omega), hf.2, hr.2.2.2.2⟩
