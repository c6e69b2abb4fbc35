/-! ===== an act: what was is kept, then the scene is another ===== -/
def PAc (κ j k : Nat) : Prop := κ = 3 ∨ κ = 19 ∨ κ = 20 ∨ κ = 21 ∨ (((κ = 8 ∧ k = 1) ∨ (30 ≤ κ ∧ κ ≤ 33)) ∧ j = 0)
theorem CX.sc {w w' : XW} {d : Dl} {s s' : Sc} {rs : List Rl} {f : Int32} (h : CX w d s rs f) (hF : Fr PAc w w') (hs : ScAt w' 0 s') : CX w' d s' rs f := by
  obtain ⟨⟨jd, h1, h2⟩, ⟨h3, h4⟩, ⟨h5, h6⟩, h7⟩ := h
  refine ⟨⟨jd, ?_, h2.fr hF (fun κ k q => by unfold PAc; omega)⟩, ⟨hs, ?_⟩, ⟨?_, fun t rl ht => ?_⟩, ?_⟩
  · rw [(hF 10 0 5 (by unfold PAc; omega)).2.2.1]; exact h1
  · rw [(hF 8 0 0 (by unfold PAc; omega)).1]; exact h4
  · rw [(hF 10 0 3 (by unfold PAc; omega)).1]; exact h5
  · obtain ⟨jr, x1, x2⟩ := h6 t rl ht
    exact ⟨jr, by rw [(hF 35 0 t (by unfold PAc; omega)).2.2.1]; exact x1, x2.fr hF (fun κ k q => by unfold PAc; omega)⟩
  · rw [(hF 10 0 4 (by unfold PAc; omega)).1]; exact h7
theorem MX.sc {w w' : XW} {d : Dl} {s s' : Sc} {rs : List Rl} {f : Int32} (h : MX w d s rs f) (hF : Fr PMn w w') (hs : MsAt w' s') : MX w' d s' rs f :=
  ⟨h.1.fr hF (fun k q => by unfold PMn; omega), h.2.1.fr hF (fun k q => by unfold PMn; omega), hs, h.2.2.2.1.fr hF (fun κ k q => by unfold PMn; omega), by rw [(hF 11 0 21 (by unfold PMn; omega)).1]; exact h.2.2.2.2.1, by rw [(hF 11 0 23 (by unfold PMn; omega)).1]; exact h.2.2.2.2.2⟩
theorem st_act {w : XW} {d : Dl} {s s' : Sc} {rs : List Rl} {f : Int32} {hs : List Sc} {no : No} {sx : Int32} {im : Nat → Option Im} {tn : Nat} {tb : Nat → Nat}
    (hc : CS w ((d, s, rs, f), hs, no, sx, im, tn, tb)) (hm : MS w ((d, s, rs, f), hs, no, sx, im, tn, tb)) (ho : OS ((d, s, rs, f), hs, no, sx, im, tn, tb))
    {FC FM : XW → Option (Int32 × XW)} {a : Int32} (hS : SOk d s' ∧ In 999 s'.1)
    (kC : ∀ r, F_X11_remember [.inr (10, 0)] w = some r → CX r d s rs f → ∃ v', FC w = some (a, v') ∧ ScAt v' 0 s' ∧ Fr PAc r v')
    (kM : ∀ v r, MX v d s rs f → F_X12_keepsAct [.inr (11, 0)] v = some r → MX r d s rs f → ∃ v', FM v = some (a, v') ∧ MsAt v' s' ∧ Fr PMn r v') : StepOk FC FM w := by
  have hl : hs.length ≤ 20 := ho.2.1.1
  obtain ⟨w1, x1, x2, x3⟩ := c_remember (show CN w d s from hc.1.2.1) (show CA w d hs from hc.2.1) hl
  have hx1 : CX w1 d s rs f := hc.1.frx x3 (fun κ j k q => by unfold PRe; omega)
  obtain ⟨w2, y1, y2, y3⟩ := kC w1 x1 hx1
  have hx2 := hx1.sc y3 y2
  have hc2 : CS w2 ((d, s', rs, f), (s :: hs).take 20, no, sx, im, tn, tb) :=
    ⟨hx2, x2.fr y3 (fun κ j k q => by unfold PAc; omega), (hc.2.2.1.fr x3 (fun κ k q => by unfold PRe; omega)).fr y3 (fun κ k q => by unfold PAc; omega), by rw [(y3 10 0 12 (by unfold PAc; omega)).1, (x3 10 0 12 (by unfold PRe; omega)).1]; exact hc.2.2.2.1, (hc.2.2.2.2.1.fr x3 (fun κ j k q => by unfold PRe; omega)).fr y3 (fun κ j k q => by unfold PAc; omega), (hc.2.2.2.2.2.fr x3 (fun κ k q => by unfold PRe; omega)).fr y3 (fun κ k q => by unfold PAc; omega)⟩
  have hm2 := (hm.frc ho (x3.mono (fun κ i k q => by unfold PRe at q; unfold  PCl; omega))).frc ho (y3.mono (fun κ i k q => by unfold PAc at q; unfold  PCl; omega))
  obtain ⟨w3, u1, u2, u3⟩ := m_keepsAct (show MsAt w2 s from hm2.1.2.2.1) (show MA w2 hs from hm2.2.1) hl
  have hx3 : MX w3 d s rs f := hm2.1.fr u3 (fun κ k q => by unfold PKa; omega)
  obtain ⟨w4, z1, z2, z3⟩ := kM w2 w3 hm2.1 u1 hx3
  refine ⟨a, w2, w4, y1, z1, ((d, s', rs, f), (s :: hs).take 20, no, sx, im, tn, tb), (hc2.frm (u3.mono (fun κ i k q => by unfold PKa at q; unfold  PMo; omega))).frm (z3.mono (fun κ i k q => by unfold PMn at q; unfold  PMo; omega)), ⟨hx3.sc z3 z2, u2.fr z3 (fun κ k q => by unfold PMn; omega), (hm2.2.2.1.fr ho.2.2.1.1 u3 (fun k q => by unfold PKa; omega)).fr ho.2.2.1.1 z3 (fun k q => by unfold PMn; omega), by rw [(z3 11 0 22 (by unfold PMn; omega)).1, (u3 11 0 22 (by unfold PKa; omega)).1]; exact hm2.2.2.2.1, (hm2.2.2.2.2.1.fr u3 (fun κ k q => by unfold PKa; omega)).fr z3 (fun κ k q => by unfold PMn; omega), (hm2.2.2.2.2.2.fr u3 (fun κ k q => by unfold PKa; omega)).fr z3 (fun κ k q => by unfold PMn; omega)⟩, ?_⟩
  refine ⟨⟨ho.1.1, hS, ho.1.2.2⟩, ⟨?_, fun h hh => ?_⟩, ho.2.2⟩
  · show ((s :: hs).take 20).length ≤ 20
    rw [List.length_take]
    omega
  · have hh := List.mem_of_mem_take hh
    rcases List.mem_cons.mp hh with rfl | q
    · exact ho.1.2.1
    · exact ho.2.1.2 h q
/-! night -/
theorem st_night {w : XW} (hR : Rel w) : StepOk (F_X11_night [.inr (10, 0)]) (F_X12_night [.inr (11, 0)]) w := by
  obtain ⟨g, hc, hm, ho⟩ := hR
  obtain ⟨⟨d, s, rs, f⟩, hs, no, sx, im, tn, tb⟩ := g
  have hO : OX d s rs f := ho.1
  have hD : DOk d := hO.1.1
  have hT : TOk d := hO.1.2
  have hCX : CX w d s rs f := hc.1
  have hMX : MX w d s rs f := hm.1
  obtain ⟨jd, y1, y2⟩ := hCX.1
  have a0 := y2.1 0 (by omega)
  obtain ⟨n, hn, hs1⟩ := hO.2.1.2
  have c1 : gI w 8 0 1 = nI n := hCX.2.1.1.1.trans hs1
  have m1 : gI w 50 0 10 = nI n := hMX.2.2.1.1.trans hs1
  rcases hT.1 with t1 | t0
  · by_cases h9 : n = 999
    · refine ⟨-1, w, w, ?_, ?_, _, hc, hm, ho⟩
      · rw [f_X11_night, e_X11_night_0]
        simp (disch := omega) only [y1, a0, t1, e_X11_night_10, c1, h9, e_X11_night_23, true_and, and_true, false_and, and_false, beq_t, beq_f, eqN_t, eqN_f, eqL_t, eqL_f, nm1, nm2, nm1', nm2', m1z, m2z, zm1, zm2, m12, m21, lg_cmp_ge, lg_cmp_le, lg_cmp_gt, lg_cmp_lt, lg_cmp_eq, oob, oobL, neg0, negL0, natle_f, or_false, false_or, true_or, or_true, or_self, cl, clL, le_t, le_f, lt_t, lt_f, leL_t, leL_f, ltL_t, ltL_f, leM_t, leM_f, ltM_t, ltM_f, leO_t, leO_f, cond_true, cond_false, Option.bind_some, Option.bind_none, if_false, if_true, nI_1, aL1, aL2, mL1, mL2, nI_add, pk_mul, pk_m1, sL1, dL1, pk_sub, m1p1, gIs_eq, gIs_k, gIs_i, gIs_n, gIs_e, gIJ, gIR, gJI, gJR, gJs_eq, gJs_k, gJs_n, gJs_e, gRI, gRJ, gRs_eq, gRs_k, gRs_i, gRs_n, gZI, gZJ, gZR, pI_s, pJ_s, pV_s, pR_s, pR_n, oR_n, oR_s, decide_true, decide_false, not_true_eq_false, not_false_eq_true, decT, decF, Bool.true_eq_false, Bool.false_eq_true, z01, o01, z1f, z1f', zz, oo, b2i_0, b2i_n, b2i_t, b2i_f, Bool.not_true, Bool.not_false]
      · rw [f_X12_night, e_X12_night_0]
        simp (disch := omega) only [m_isDale hMX.1, t1, e_X12_night_7, m1, h9, e_X12_night_20, true_and, and_true, false_and, and_false, beq_t, beq_f, eqN_t, eqN_f, eqL_t, eqL_f, nm1, nm2, nm1', nm2', m1z, m2z, zm1, zm2, m12, m21, lg_cmp_ge, lg_cmp_le, lg_cmp_gt, lg_cmp_lt, lg_cmp_eq, oob, oobL, neg0, negL0, natle_f, or_false, false_or, true_or, or_true, or_self, cl, clL, le_t, le_f, lt_t, lt_f, leL_t, leL_f, ltL_t, ltL_f, leM_t, leM_f, ltM_t, ltM_f, leO_t, leO_f, cond_true, cond_false, Option.bind_some, Option.bind_none, if_false, if_true, nI_1, aL1, aL2, mL1, mL2, nI_add, pk_mul, pk_m1, sL1, dL1, pk_sub, m1p1, gIs_eq, gIs_k, gIs_i, gIs_n, gIs_e, gIJ, gIR, gJI, gJR, gJs_eq, gJs_k, gJs_n, gJs_e, gRI, gRJ, gRs_eq, gRs_k, gRs_i, gRs_n, gZI, gZJ, gZR, pI_s, pJ_s, pV_s, pR_s, pR_n, oR_n, oR_s, decide_true, decide_false, not_true_eq_false, not_false_eq_true, decT, decF, Bool.true_eq_false, Bool.false_eq_true, z01, o01, z1f, z1f', zz, oo, b2i_0, b2i_n, b2i_t, b2i_f, Bool.not_true, Bool.not_false]
    · refine st_act (s' := nightS d (curR rs f) (tlS d) s) (a := bitsS d (curR rs f) (tlS d) s) hc hm ho ⟨hO.2.1.1.night hD (tl_ok hD), ?_⟩ ?_ ?_
      · exact ⟨n + 1, by omega, by rw [night_1, hs1]; exact nI_add n 1⟩
      · intro r hr hX
        obtain ⟨⟨jd', h1, h2⟩, ⟨h3, h4⟩, h5, h7⟩ := hX
        obtain ⟨jr, x1, x2⟩ := c_ruleAt h5 hO.2.2.1 hO.2.2.2.1 hO.2.2.2.2
        obtain ⟨w1, z1, z2, z3⟩ := c_take jd' jr d r h2
        obtain ⟨w2, u1, u2, u3⟩ := p_X4_pass d hD 0 jd' jr (curR rs f) (tlS d) s hO.2.1.1 (tl_ok hD) w1 (h2.fr z3 (fun κ k q => by unfold P19; omega)) z2 (h3.fr z3 (fun κ k q => by unfold P19; omega)) (by rw [(z3 8 0 0 (by unfold P19; omega)).1]; exact h4) (x2.fr z3 (fun κ j k q => by unfold P19; omega))
        refine ⟨w2, ?_, u2, (z3.mono (fun κ i k q => by unfold P19 at q; unfold  PAc; omega)).trans (u3.mono (fun κ i k q => by unfold PP at q; unfold  PAc; omega))⟩
        rw [f_X11_night, e_X11_night_0]
        simp (disch := omega) only [y1, a0, t1, e_X11_night_10, c1, e_X11_night_25, hr, h1, h7, x1, true_and, and_true, false_and, and_false, beq_t, beq_f, eqN_t, eqN_f, eqL_t, eqL_f, nm1, nm2, nm1', nm2', m1z, m2z, zm1, zm2, m12, m21, lg_cmp_ge, lg_cmp_le, lg_cmp_gt, lg_cmp_lt, lg_cmp_eq, oob, oobL, neg0, negL0, natle_f, or_false, false_or, true_or, or_true, or_self, cl, clL, le_t, le_f, lt_t, lt_f, leL_t, leL_f, ltL_t, ltL_f, leM_t, leM_f, ltM_t, ltM_f, leO_t, leO_f, cond_true, cond_false, Option.bind_some, Option.bind_none, if_false, if_true, nI_1, aL1, aL2, mL1, mL2, nI_add, pk_mul, pk_m1, sL1, dL1, pk_sub, m1p1, gIs_eq, gIs_k, gIs_i, gIs_n, gIs_e, gIJ, gIR, gJI, gJR, gJs_eq, gJs_k, gJs_n, gJs_e, gRI, gRJ, gRs_eq, gRs_k, gRs_i, gRs_n, gZI, gZJ, gZR, pI_s, pJ_s, pV_s, pR_s, pR_n, oR_n, oR_s, decide_true, decide_false, not_true_eq_false, not_false_eq_true, decT, decF, Bool.true_eq_false, Bool.false_eq_true, z01, o01, z1f, z1f', zz, oo, b2i_0, b2i_n, b2i_t, b2i_f, Bool.not_true, Bool.not_false]
        match jr, z1 with
        | none, z1 =>
          have z1 : F_X4_take [.inr (3, 0), .inr (1, jd'), .inl .null] r = _ := z1
          simp (disch := omega) only [z1, u1, true_and, and_true, false_and, and_false, beq_t, beq_f, eqN_t, eqN_f, eqL_t, eqL_f, nm1, nm2, nm1', nm2', m1z, m2z, zm1, zm2, m12, m21, lg_cmp_ge, lg_cmp_le, lg_cmp_gt, lg_cmp_lt, lg_cmp_eq, oob, oobL, neg0, negL0, natle_f, or_false, false_or, true_or, or_true, or_self, cl, clL, le_t, le_f, lt_t, lt_f, leL_t, leL_f, ltL_t, ltL_f, leM_t, leM_f, ltM_t, ltM_f, leO_t, leO_f, cond_true, cond_false, Option.bind_some, Option.bind_none, if_false, if_true, nI_1, aL1, aL2, mL1, mL2, nI_add, pk_mul, pk_m1, sL1, dL1, pk_sub, m1p1, gIs_eq, gIs_k, gIs_i, gIs_n, gIs_e, gIJ, gIR, gJI, gJR, gJs_eq, gJs_k, gJs_n, gJs_e, gRI, gRJ, gRs_eq, gRs_k, gRs_i, gRs_n, gZI, gZJ, gZR, pI_s, pJ_s, pV_s, pR_s, pR_n, oR_n, oR_s, decide_true, decide_false, not_true_eq_false, not_false_eq_true, decT, decF, Bool.true_eq_false, Bool.false_eq_true, z01, o01, z1f, z1f', zz, oo, b2i_0, b2i_n, b2i_t, b2i_f, Bool.not_true, Bool.not_false]
        | some j, z1 =>
          have z1 : F_X4_take [.inr (3, 0), .inr (1, jd'), .inr (6, j)] r = _ := z1
          simp (disch := omega) only [z1, u1, true_and, and_true, false_and, and_false, beq_t, beq_f, eqN_t, eqN_f, eqL_t, eqL_f, nm1, nm2, nm1', nm2', m1z, m2z, zm1, zm2, m12, m21, lg_cmp_ge, lg_cmp_le, lg_cmp_gt, lg_cmp_lt, lg_cmp_eq, oob, oobL, neg0, negL0, natle_f, or_false, false_or, true_or, or_true, or_self, cl, clL, le_t, le_f, lt_t, lt_f, leL_t, leL_f, ltL_t, ltL_f, leM_t, leM_f, ltM_t, ltM_f, leO_t, leO_f, cond_true, cond_false, Option.bind_some, Option.bind_none, if_false, if_true, nI_1, aL1, aL2, mL1, mL2, nI_add, pk_mul, pk_m1, sL1, dL1, pk_sub, m1p1, gIs_eq, gIs_k, gIs_i, gIs_n, gIs_e, gIJ, gIR, gJI, gJR, gJs_eq, gJs_k, gJs_n, gJs_e, gRI, gRJ, gRs_eq, gRs_k, gRs_i, gRs_n, gZI, gZJ, gZR, pI_s, pJ_s, pV_s, pR_s, pR_n, oR_n, oR_s, decide_true, decide_false, not_true_eq_false, not_false_eq_true, decT, decF, Bool.true_eq_false, Bool.false_eq_true, z01, o01, z1f, z1f', zz, oo, b2i_0, b2i_n, b2i_t, b2i_f, Bool.not_true, Bool.not_false]
      · intro v r hv hr hX
        have hrun := hX.run hO
        obtain ⟨w', z1, z2, z3⟩ := p_X12_passes d hD (curR rs f) (tlS d) (tlS d) (-1) s hO.2.1.1 (tl_ok hD) (Or.inl ⟨rfl, rfl⟩) r hrun.1 hrun.2.1 hrun.2.2.1 hrun.2.2.2.1 hrun.2.2.2.2
        have m1' : gI v 50 0 10 = nI n := hv.2.2.1.1.trans hs1
        refine ⟨w', ?_, z2, z3⟩
        rw [f_X12_night, e_X12_night_0]
        simp (disch := omega) only [m_isDale hv.1, t1, e_X12_night_7, m1', h9, e_X12_night_22, hr, z1, true_and, and_true, false_and, and_false, beq_t, beq_f, eqN_t, eqN_f, eqL_t, eqL_f, nm1, nm2, nm1', nm2', m1z, m2z, zm1, zm2, m12, m21, lg_cmp_ge, lg_cmp_le, lg_cmp_gt, lg_cmp_lt, lg_cmp_eq, oob, oobL, neg0, negL0, natle_f, or_false, false_or, true_or, or_true, or_self, cl, clL, le_t, le_f, lt_t, lt_f, leL_t, leL_f, ltL_t, ltL_f, leM_t, leM_f, ltM_t, ltM_f, leO_t, leO_f, cond_true, cond_false, Option.bind_some, Option.bind_none, if_false, if_true, nI_1, aL1, aL2, mL1, mL2, nI_add, pk_mul, pk_m1, sL1, dL1, pk_sub, m1p1, gIs_eq, gIs_k, gIs_i, gIs_n, gIs_e, gIJ, gIR, gJI, gJR, gJs_eq, gJs_k, gJs_n, gJs_e, gRI, gRJ, gRs_eq, gRs_k, gRs_i, gRs_n, gZI, gZJ, gZR, pI_s, pJ_s, pV_s, pR_s, pR_n, oR_n, oR_s, decide_true, decide_false, not_true_eq_false, not_false_eq_true, decT, decF, Bool.true_eq_false, Bool.false_eq_true, z01, o01, z1f, z1f', zz, oo, b2i_0, b2i_n, b2i_t, b2i_f, Bool.not_true, Bool.not_false]
  · refine ⟨-1, w, w, ?_, ?_, _, hc, hm, ho⟩
    · rw [f_X11_night, e_X11_night_0]
      simp (disch := omega) only [y1, a0, t0, e_X11_night_23, true_and, and_true, false_and, and_false, beq_t, beq_f, eqN_t, eqN_f, eqL_t, eqL_f, nm1, nm2, nm1', nm2', m1z, m2z, zm1, zm2, m12, m21, lg_cmp_ge, lg_cmp_le, lg_cmp_gt, lg_cmp_lt, lg_cmp_eq, oob, oobL, neg0, negL0, natle_f, or_false, false_or, true_or, or_true, or_self, cl, clL, le_t, le_f, lt_t, lt_f, leL_t, leL_f, ltL_t, ltL_f, leM_t, leM_f, ltM_t, ltM_f, leO_t, leO_f, cond_true, cond_false, Option.bind_some, Option.bind_none, if_false, if_true, nI_1, aL1, aL2, mL1, mL2, nI_add, pk_mul, pk_m1, sL1, dL1, pk_sub, m1p1, gIs_eq, gIs_k, gIs_i, gIs_n, gIs_e, gIJ, gIR, gJI, gJR, gJs_eq, gJs_k, gJs_n, gJs_e, gRI, gRJ, gRs_eq, gRs_k, gRs_i, gRs_n, gZI, gZJ, gZR, pI_s, pJ_s, pV_s, pR_s, pR_n, oR_n, oR_s, decide_true, decide_false, not_true_eq_false, not_false_eq_true, decT, decF, Bool.true_eq_false, Bool.false_eq_true, z01, o01, z1f, z1f', zz, oo, b2i_0, b2i_n, b2i_t, b2i_f, Bool.not_true, Bool.not_false]
    · rw [f_X12_night, e_X12_night_0]
      simp (disch := omega) only [m_isDale hMX.1, t0, e_X12_night_20, true_and, and_true, false_and, and_false, beq_t, beq_f, eqN_t, eqN_f, eqL_t, eqL_f, nm1, nm2, nm1', nm2', m1z, m2z, zm1, zm2, m12, m21, lg_cmp_ge, lg_cmp_le, lg_cmp_gt, lg_cmp_lt, lg_cmp_eq, oob, oobL, neg0, negL0, natle_f, or_false, false_or, true_or, or_true, or_self, cl, clL, le_t, le_f, lt_t, lt_f, leL_t, leL_f, ltL_t, ltL_f, leM_t, leM_f, ltM_t, ltM_f, leO_t, leO_f, cond_true, cond_false, Option.bind_some, Option.bind_none, if_false, if_true, nI_1, aL1, aL2, mL1, mL2, nI_add, pk_mul, pk_m1, sL1, dL1, pk_sub, m1p1, gIs_eq, gIs_k, gIs_i, gIs_n, gIs_e, gIJ, gIR, gJI, gJR, gJs_eq, gJs_k, gJs_n, gJs_e, gRI, gRJ, gRs_eq, gRs_k, gRs_i, gRs_n, gZI, gZJ, gZR, pI_s, pJ_s, pV_s, pR_s, pR_n, oR_n, oR_s, decide_true, decide_false, not_true_eq_false, not_false_eq_true, decT, decF, Bool.true_eq_false, Bool.false_eq_true, z01, o01, z1f, z1f', zz, oo, b2i_0, b2i_n, b2i_t, b2i_f, Bool.not_true, Bool.not_false]
