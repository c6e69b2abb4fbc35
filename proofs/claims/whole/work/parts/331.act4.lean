/-! ===== carry, seat, undo ===== -/
theorem st_carry {w : XW} (hR : Rel w) (x y : Int32) : StepOk (F_X11_carry [.inr (10, 0), .inl (.int x), .inl (.int y)]) (F_X12_carry [.inr (11, 0), .inl (.int x), .inl (.int y)]) w := by
  obtain ⟨g, hc, hm, ho⟩ := hR
  obtain ⟨⟨d, s, rs, f⟩, hs, no, sx, im, tn, tb⟩ := g
  have hO : OX d s rs f := ho.1
  have hD : DOk d := hO.1.1
  have h6 := hD.1.2
  have h4 := hD.2.2.1.2
  have hS : SOk d s := hO.2.1.1
  have hCX : CX w d s rs f := hc.1
  have hMX : MX w d s rs f := hm.1
  have k1 := c_isKeep hCX.1 hD x
  have k2 := c_isField hCX.1 hD y
  have k3 := m_isField hMX.1 hD y
  have k4 := c_keepIn hCX.2.1.1 hCX.2.1.2 hD y
  have k5 := m_keepIn hMX.1 hMX.2.2.1 hD y
  by_cases hx : (¬ x < 0 ∧ ¬ nI (kn d) ≤ x)
  · obtain ⟨k, hk, rfl⟩ := inK (by omega) hx
    obtain ⟨v1, v2, v3, v4, v5, v6⟩ := hS k (by omega)
    have g3 := (hCX.2.1.1.2 k (by omega)).2.2.1
    have mh := m_isHome hMX.1 hMX.2.2.1 hD hk
    by_cases hp : s.2.2.2.1 k = -1
    · rw [hp] at g3
      by_cases hy : (¬ y < 0 ∧ ¬ nI (fn d) ≤ y)
      · obtain ⟨fl, hfl, rfl⟩ := inK (by omega) hy
        rcases ki_range d s (nI fl) with hki | ⟨j, hj, _, hki⟩
        · refine st_act (s' := setP s k (nI fl)) (a := koS d (setP s k (nI fl)) k fl) hc hm ho ⟨fun k' hk' => ?_, hO.2.1.2⟩ ?_ ?_
          · show _ ∧ _ ∧ _ ∧ (upd s.2.2.2.1 k _ k' = -2 ∨ upd s.2.2.2.1 k _ k' = -1 ∨ ∃ f, f < 4 ∧ (_ → f < fn d) ∧ upd s.2.2.2.1 k _ k' = nI f) ∧ (upd s.2.2.2.1 k _ k' = -2 → _) ∧ _
            by_cases q : k' = k
            · subst q
              rw [pk_us]
              exact ⟨v1, v2, v3, Or.inr (Or.inr ⟨fl, by omega, fun _ => hfl, rfl⟩), fun z => absurd z (by rw [nm2 (by omega)]; exact id), v6⟩
            · rw [pk_un q]
              exact hS k' hk'
          · intro r hr hX
            obtain ⟨a1, a2⟩ := Sc_P (k := k) hX.2.1.1 (nI fl)
            have hX2 := hX.sc a2 a1
            have ko := c_keptOff hX2.1 hX2.2.1.1 hD hk hfl
            refine ⟨_, ?_, a1, a2⟩
            rw [f_X11_carry, e_X11_carry_0]
            simp (disch := omega) only [k1, hx, e_X11_carry_8, g3, e_X11_carry_23, k2, hy, e_X11_carry_31, k4, hki, e_X11_carry_45, hr, ko, true_and, and_true, false_and, and_false, beq_t, beq_f, eqN_t, eqN_f, eqL_t, eqL_f, nm1, nm2, nm1', nm2', m1z, m2z, zm1, zm2, m12, m21, lg_cmp_ge, lg_cmp_le, lg_cmp_gt, lg_cmp_lt, lg_cmp_eq, oob, oobL, neg0, negL0, natle_f, or_false, false_or, true_or, or_true, or_self, cl, clL, le_t, le_f, lt_t, lt_f, leL_t, leL_f, ltL_t, ltL_f, leM_t, leM_f, ltM_t, ltM_f, leO_t, leO_f, cond_true, cond_false, Option.bind_some, Option.bind_none, if_false, if_true, nI_1, aL1, aL2, mL1, mL2, nI_add, pk_mul, pk_m1, sL1, dL1, pk_sub, m1p1, gIs_eq, gIs_k, gIs_i, gIs_n, gIs_e, gIJ, gIR, gJI, gJR, gJs_eq, gJs_k, gJs_n, gJs_e, gRI, gRJ, gRs_eq, gRs_k, gRs_i, gRs_n, gZI, gZJ, gZR, pI_s, pJ_s, pV_s, pR_s, pR_n, oR_n, oR_s, decide_true, decide_false, not_true_eq_false, not_false_eq_true, decT, decF, Bool.true_eq_false, Bool.false_eq_true, z01, o01, z1f, z1f', zz, oo, b2i_0, b2i_n, b2i_t, b2i_f, Bool.not_true, Bool.not_false]
          · intro v r hv hr hX
            have mh := m_isHome hv.1 hv.2.2.1 hD hk
            have k3 := m_isField hv.1 hD (nI fl)
            have k5 := m_keepIn hv.1 hv.2.2.1 hD (nI fl)
            obtain ⟨a1, a2⟩ := Ms_P (k := k) (by omega) hX.2.2.1 (nI fl)
            have hX2 := hX.sc a2 a1
            have ko := m_keptOffBy hX2.1 hX2.2.2.1 (k := k) (f := fl) (by omega) (by omega)
            refine ⟨_, ?_, a1, a2⟩
            rw [f_X12_carry, e_X12_carry_0]
            simp (disch := omega) only [mh, hp, e_X12_carry_8, k3, hy, e_X12_carry_16, k5, hki, e_X12_carry_26, hr, ko, true_and, and_true, false_and, and_false, beq_t, beq_f, eqN_t, eqN_f, eqL_t, eqL_f, nm1, nm2, nm1', nm2', m1z, m2z, zm1, zm2, m12, m21, lg_cmp_ge, lg_cmp_le, lg_cmp_gt, lg_cmp_lt, lg_cmp_eq, oob, oobL, neg0, negL0, natle_f, or_false, false_or, true_or, or_true, or_self, cl, clL, le_t, le_f, lt_t, lt_f, leL_t, leL_f, ltL_t, ltL_f, leM_t, leM_f, ltM_t, ltM_f, leO_t, leO_f, cond_true, cond_false, Option.bind_some, Option.bind_none, if_false, if_true, nI_1, aL1, aL2, mL1, mL2, nI_add, pk_mul, pk_m1, sL1, dL1, pk_sub, m1p1, gIs_eq, gIs_k, gIs_i, gIs_n, gIs_e, gIJ, gIR, gJI, gJR, gJs_eq, gJs_k, gJs_n, gJs_e, gRI, gRJ, gRs_eq, gRs_k, gRs_i, gRs_n, gZI, gZJ, gZR, pI_s, pJ_s, pV_s, pR_s, pR_n, oR_n, oR_s, decide_true, decide_false, not_true_eq_false, not_false_eq_true, decT, decF, Bool.true_eq_false, Bool.false_eq_true, z01, o01, z1f, z1f', zz, oo, b2i_0, b2i_n, b2i_t, b2i_f, Bool.not_true, Bool.not_false]
        · refine ⟨-1, w, w, ?_, ?_, _, hc, hm, ho⟩
          · rw [f_X11_carry, e_X11_carry_0]
            simp (disch := omega) only [k1, hx, e_X11_carry_8, g3, e_X11_carry_23, k2, hy, e_X11_carry_31, k4, hki, e_X11_carry_43, true_and, and_true, false_and, and_false, beq_t, beq_f, eqN_t, eqN_f, eqL_t, eqL_f, nm1, nm2, nm1', nm2', m1z, m2z, zm1, zm2, m12, m21, lg_cmp_ge, lg_cmp_le, lg_cmp_gt, lg_cmp_lt, lg_cmp_eq, oob, oobL, neg0, negL0, natle_f, or_false, false_or, true_or, or_true, or_self, cl, clL, le_t, le_f, lt_t, lt_f, leL_t, leL_f, ltL_t, ltL_f, leM_t, leM_f, ltM_t, ltM_f, leO_t, leO_f, cond_true, cond_false, Option.bind_some, Option.bind_none, if_false, if_true, nI_1, aL1, aL2, mL1, mL2, nI_add, pk_mul, pk_m1, sL1, dL1, pk_sub, m1p1, gIs_eq, gIs_k, gIs_i, gIs_n, gIs_e, gIJ, gIR, gJI, gJR, gJs_eq, gJs_k, gJs_n, gJs_e, gRI, gRJ, gRs_eq, gRs_k, gRs_i, gRs_n, gZI, gZJ, gZR, pI_s, pJ_s, pV_s, pR_s, pR_n, oR_n, oR_s, decide_true, decide_false, not_true_eq_false, not_false_eq_true, decT, decF, Bool.true_eq_false, Bool.false_eq_true, z01, o01, z1f, z1f', zz, oo, b2i_0, b2i_n, b2i_t, b2i_f, Bool.not_true, Bool.not_false]
          · rw [f_X12_carry, e_X12_carry_0]
            simp (disch := omega) only [mh, hp, e_X12_carry_8, k3, hy, e_X12_carry_16, k5, hki, e_X12_carry_24, true_and, and_true, false_and, and_false, beq_t, beq_f, eqN_t, eqN_f, eqL_t, eqL_f, nm1, nm2, nm1', nm2', m1z, m2z, zm1, zm2, m12, m21, lg_cmp_ge, lg_cmp_le, lg_cmp_gt, lg_cmp_lt, lg_cmp_eq, oob, oobL, neg0, negL0, natle_f, or_false, false_or, true_or, or_true, or_self, cl, clL, le_t, le_f, lt_t, lt_f, leL_t, leL_f, ltL_t, ltL_f, leM_t, leM_f, ltM_t, ltM_f, leO_t, leO_f, cond_true, cond_false, Option.bind_some, Option.bind_none, if_false, if_true, nI_1, aL1, aL2, mL1, mL2, nI_add, pk_mul, pk_m1, sL1, dL1, pk_sub, m1p1, gIs_eq, gIs_k, gIs_i, gIs_n, gIs_e, gIJ, gIR, gJI, gJR, gJs_eq, gJs_k, gJs_n, gJs_e, gRI, gRJ, gRs_eq, gRs_k, gRs_i, gRs_n, gZI, gZJ, gZR, pI_s, pJ_s, pV_s, pR_s, pR_n, oR_n, oR_s, decide_true, decide_false, not_true_eq_false, not_false_eq_true, decT, decF, Bool.true_eq_false, Bool.false_eq_true, z01, o01, z1f, z1f', zz, oo, b2i_0, b2i_n, b2i_t, b2i_f, Bool.not_true, Bool.not_false]
      · refine ⟨-1, w, w, ?_, ?_, _, hc, hm, ho⟩
        · rw [f_X11_carry, e_X11_carry_0]
          simp (disch := omega) only [k1, hx, e_X11_carry_8, g3, e_X11_carry_23, k2, hy, e_X11_carry_43, true_and, and_true, false_and, and_false, beq_t, beq_f, eqN_t, eqN_f, eqL_t, eqL_f, nm1, nm2, nm1', nm2', m1z, m2z, zm1, zm2, m12, m21, lg_cmp_ge, lg_cmp_le, lg_cmp_gt, lg_cmp_lt, lg_cmp_eq, oob, oobL, neg0, negL0, natle_f, or_false, false_or, true_or, or_true, or_self, cl, clL, le_t, le_f, lt_t, lt_f, leL_t, leL_f, ltL_t, ltL_f, leM_t, leM_f, ltM_t, ltM_f, leO_t, leO_f, cond_true, cond_false, Option.bind_some, Option.bind_none, if_false, if_true, nI_1, aL1, aL2, mL1, mL2, nI_add, pk_mul, pk_m1, sL1, dL1, pk_sub, m1p1, gIs_eq, gIs_k, gIs_i, gIs_n, gIs_e, gIJ, gIR, gJI, gJR, gJs_eq, gJs_k, gJs_n, gJs_e, gRI, gRJ, gRs_eq, gRs_k, gRs_i, gRs_n, gZI, gZJ, gZR, pI_s, pJ_s, pV_s, pR_s, pR_n, oR_n, oR_s, decide_true, decide_false, not_true_eq_false, not_false_eq_true, decT, decF, Bool.true_eq_false, Bool.false_eq_true, z01, o01, z1f, z1f', zz, oo, b2i_0, b2i_n, b2i_t, b2i_f, Bool.not_true, Bool.not_false]
        · rw [f_X12_carry, e_X12_carry_0]
          simp (disch := omega) only [mh, hp, e_X12_carry_8, k3, hy, e_X12_carry_24, true_and, and_true, false_and, and_false, beq_t, beq_f, eqN_t, eqN_f, eqL_t, eqL_f, nm1, nm2, nm1', nm2', m1z, m2z, zm1, zm2, m12, m21, lg_cmp_ge, lg_cmp_le, lg_cmp_gt, lg_cmp_lt, lg_cmp_eq, oob, oobL, neg0, negL0, natle_f, or_false, false_or, true_or, or_true, or_self, cl, clL, le_t, le_f, lt_t, lt_f, leL_t, leL_f, ltL_t, ltL_f, leM_t, leM_f, ltM_t, ltM_f, leO_t, leO_f, cond_true, cond_false, Option.bind_some, Option.bind_none, if_false, if_true, nI_1, aL1, aL2, mL1, mL2, nI_add, pk_mul, pk_m1, sL1, dL1, pk_sub, m1p1, gIs_eq, gIs_k, gIs_i, gIs_n, gIs_e, gIJ, gIR, gJI, gJR, gJs_eq, gJs_k, gJs_n, gJs_e, gRI, gRJ, gRs_eq, gRs_k, gRs_i, gRs_n, gZI, gZJ, gZR, pI_s, pJ_s, pV_s, pR_s, pR_n, oR_n, oR_s, decide_true, decide_false, not_true_eq_false, not_false_eq_true, decT, decF, Bool.true_eq_false, Bool.false_eq_true, z01, o01, z1f, z1f', zz, oo, b2i_0, b2i_n, b2i_t, b2i_f, Bool.not_true, Bool.not_false]
    · refine ⟨-1, w, w, ?_, ?_, _, hc, hm, ho⟩
      · rw [f_X11_carry, e_X11_carry_0]
        simp (disch := omega) only [k1, hx, e_X11_carry_8, g3, hp, e_X11_carry_21, true_and, and_true, false_and, and_false, beq_t, beq_f, eqN_t, eqN_f, eqL_t, eqL_f, nm1, nm2, nm1', nm2', m1z, m2z, zm1, zm2, m12, m21, lg_cmp_ge, lg_cmp_le, lg_cmp_gt, lg_cmp_lt, lg_cmp_eq, oob, oobL, neg0, negL0, natle_f, or_false, false_or, true_or, or_true, or_self, cl, clL, le_t, le_f, lt_t, lt_f, leL_t, leL_f, ltL_t, ltL_f, leM_t, leM_f, ltM_t, ltM_f, leO_t, leO_f, cond_true, cond_false, Option.bind_some, Option.bind_none, if_false, if_true, nI_1, aL1, aL2, mL1, mL2, nI_add, pk_mul, pk_m1, sL1, dL1, pk_sub, m1p1, gIs_eq, gIs_k, gIs_i, gIs_n, gIs_e, gIJ, gIR, gJI, gJR, gJs_eq, gJs_k, gJs_n, gJs_e, gRI, gRJ, gRs_eq, gRs_k, gRs_i, gRs_n, gZI, gZJ, gZR, pI_s, pJ_s, pV_s, pR_s, pR_n, oR_n, oR_s, decide_true, decide_false, not_true_eq_false, not_false_eq_true, decT, decF, Bool.true_eq_false, Bool.false_eq_true, z01, o01, z1f, z1f', zz, oo, b2i_0, b2i_n, b2i_t, b2i_f, Bool.not_true, Bool.not_false]
      · rw [f_X12_carry, e_X12_carry_0]
        simp (disch := omega) only [mh, hp, e_X12_carry_24, true_and, and_true, false_and, and_false, beq_t, beq_f, eqN_t, eqN_f, eqL_t, eqL_f, nm1, nm2, nm1', nm2', m1z, m2z, zm1, zm2, m12, m21, lg_cmp_ge, lg_cmp_le, lg_cmp_gt, lg_cmp_lt, lg_cmp_eq, oob, oobL, neg0, negL0, natle_f, or_false, false_or, true_or, or_true, or_self, cl, clL, le_t, le_f, lt_t, lt_f, leL_t, leL_f, ltL_t, ltL_f, leM_t, leM_f, ltM_t, ltM_f, leO_t, leO_f, cond_true, cond_false, Option.bind_some, Option.bind_none, if_false, if_true, nI_1, aL1, aL2, mL1, mL2, nI_add, pk_mul, pk_m1, sL1, dL1, pk_sub, m1p1, gIs_eq, gIs_k, gIs_i, gIs_n, gIs_e, gIJ, gIR, gJI, gJR, gJs_eq, gJs_k, gJs_n, gJs_e, gRI, gRJ, gRs_eq, gRs_k, gRs_i, gRs_n, gZI, gZJ, gZR, pI_s, pJ_s, pV_s, pR_s, pR_n, oR_n, oR_s, decide_true, decide_false, not_true_eq_false, not_false_eq_true, decT, decF, Bool.true_eq_false, Bool.false_eq_true, z01, o01, z1f, z1f', zz, oo, b2i_0, b2i_n, b2i_t, b2i_f, Bool.not_true, Bool.not_false]
  · have mh := m_notHome hMX.1 hD hx
    refine ⟨-1, w, w, ?_, ?_, _, hc, hm, ho⟩
    · rw [f_X11_carry, e_X11_carry_0]
      simp (disch := omega) only [k1, hx, e_X11_carry_21, true_and, and_true, false_and, and_false, beq_t, beq_f, eqN_t, eqN_f, eqL_t, eqL_f, nm1, nm2, nm1', nm2', m1z, m2z, zm1, zm2, m12, m21, lg_cmp_ge, lg_cmp_le, lg_cmp_gt, lg_cmp_lt, lg_cmp_eq, oob, oobL, neg0, negL0, natle_f, or_false, false_or, true_or, or_true, or_self, cl, clL, le_t, le_f, lt_t, lt_f, leL_t, leL_f, ltL_t, ltL_f, leM_t, leM_f, ltM_t, ltM_f, leO_t, leO_f, cond_true, cond_false, Option.bind_some, Option.bind_none, if_false, if_true, nI_1, aL1, aL2, mL1, mL2, nI_add, pk_mul, pk_m1, sL1, dL1, pk_sub, m1p1, gIs_eq, gIs_k, gIs_i, gIs_n, gIs_e, gIJ, gIR, gJI, gJR, gJs_eq, gJs_k, gJs_n, gJs_e, gRI, gRJ, gRs_eq, gRs_k, gRs_i, gRs_n, gZI, gZJ, gZR, pI_s, pJ_s, pV_s, pR_s, pR_n, oR_n, oR_s, decide_true, decide_false, not_true_eq_false, not_false_eq_true, decT, decF, Bool.true_eq_false, Bool.false_eq_true, z01, o01, z1f, z1f', zz, oo, b2i_0, b2i_n, b2i_t, b2i_f, Bool.not_true, Bool.not_false]
    · rw [f_X12_carry, e_X12_carry_0]
      simp (disch := omega) only [mh, e_X12_carry_24, true_and, and_true, false_and, and_false, beq_t, beq_f, eqN_t, eqN_f, eqL_t, eqL_f, nm1, nm2, nm1', nm2', m1z, m2z, zm1, zm2, m12, m21, lg_cmp_ge, lg_cmp_le, lg_cmp_gt, lg_cmp_lt, lg_cmp_eq, oob, oobL, neg0, negL0, natle_f, or_false, false_or, true_or, or_true, or_self, cl, clL, le_t, le_f, lt_t, lt_f, leL_t, leL_f, ltL_t, ltL_f, leM_t, leM_f, ltM_t, ltM_f, leO_t, leO_f, cond_true, cond_false, Option.bind_some, Option.bind_none, if_false, if_true, nI_1, aL1, aL2, mL1, mL2, nI_add, pk_mul, pk_m1, sL1, dL1, pk_sub, m1p1, gIs_eq, gIs_k, gIs_i, gIs_n, gIs_e, gIJ, gIR, gJI, gJR, gJs_eq, gJs_k, gJs_n, gJs_e, gRI, gRJ, gRs_eq, gRs_k, gRs_i, gRs_n, gZI, gZJ, gZR, pI_s, pJ_s, pV_s, pR_s, pR_n, oR_n, oR_s, decide_true, decide_false, not_true_eq_false, not_false_eq_true, decT, decF, Bool.true_eq_false, Bool.false_eq_true, z01, o01, z1f, z1f', zz, oo, b2i_0, b2i_n, b2i_t, b2i_f, Bool.not_true, Bool.not_false]
theorem xor6 : ∀ m : Fin 64, ∀ j : Fin 6, ∃ m' : Fin 64, nI m.val ^^^ ((1 : Int32) <<< (nI j.val &&& 31)) = nI m'.val := by decide +kernel
theorem In.xor {x : Int32} (h : In 63 x) {j : Nat} (hj : j < 6) : In 63 (x ^^^ ((1 : Int32) <<< (nI j &&& 31))) := by
  obtain ⟨m, hm, rfl⟩ := h
  obtain ⟨m', e⟩ := xor6 ⟨m, by omega⟩ ⟨j, hj⟩
  exact ⟨m'.val, by have := m'.isLt; omega, e⟩
theorem SOk.setB {d : Dl} {s : Sc} (h : SOk d s) {k : Nat} {v : Int32} (hv : In 63 v) : SOk d (setB s k v) := by
  intro k' hk'
  show _ ∧ _ ∧ In 63 (upd s.2.2.2.2 k v k') ∧ _
  obtain ⟨v1, v2, v3, v4⟩ := h k' hk'
  by_cases q : k' = k
  · subst q
    rw [pk_us]
    exact ⟨v1, v2, hv, v4⟩
  · rw [pk_un q]
    exact ⟨v1, v2, v3, v4⟩
theorem st_seat {w : XW} (hR : Rel w) (x y : Int32) : StepOk (F_X11_seat [.inr (10, 0), .inl (.int x), .inl (.int y)]) (F_X12_seat [.inr (11, 0), .inl (.int x), .inl (.int y)]) w := by
  obtain ⟨g, hc, hm, ho⟩ := hR
  obtain ⟨⟨d, s, rs, f⟩, hs, no, sx, im, tn, tb⟩ := g
  have hO : OX d s rs f := ho.1
  have hD : DOk d := hO.1.1
  have h6 := hD.1.2
  have hS : SOk d s := hO.2.1.1
  have hCX : CX w d s rs f := hc.1
  have hMX : MX w d s rs f := hm.1
  have k1 := c_isKeep hCX.1 hD x
  have k2 := c_isKeep hCX.1 hD y
  have k3 := m_isKeep hMX.1 hD x
  have k4 := m_isKeep hMX.1 hD y
  by_cases hx : (¬ x < 0 ∧ ¬ nI (kn d) ≤ x)
  · by_cases hy : (¬ y < 0 ∧ ¬ nI (kn d) ≤ y)
    · by_cases hxy : x = y
      · refine ⟨-1, w, w, ?_, ?_, _, hc, hm, ho⟩
        · rw [f_X11_seat, e_X11_seat_0]
          simp (disch := omega) only [k1, hx, e_X11_seat_8, k2, hy, e_X11_seat_16, hxy, e_X11_seat_21, true_and, and_true, false_and, and_false, beq_t, beq_f, eqN_t, eqN_f, eqL_t, eqL_f, nm1, nm2, nm1', nm2', m1z, m2z, zm1, zm2, m12, m21, lg_cmp_ge, lg_cmp_le, lg_cmp_gt, lg_cmp_lt, lg_cmp_eq, oob, oobL, neg0, negL0, natle_f, or_false, false_or, true_or, or_true, or_self, cl, clL, le_t, le_f, lt_t, lt_f, leL_t, leL_f, ltL_t, ltL_f, leM_t, leM_f, ltM_t, ltM_f, leO_t, leO_f, cond_true, cond_false, Option.bind_some, Option.bind_none, if_false, if_true, nI_1, aL1, aL2, mL1, mL2, nI_add, pk_mul, pk_m1, sL1, dL1, pk_sub, m1p1, gIs_eq, gIs_k, gIs_i, gIs_n, gIs_e, gIJ, gIR, gJI, gJR, gJs_eq, gJs_k, gJs_n, gJs_e, gRI, gRJ, gRs_eq, gRs_k, gRs_i, gRs_n, gZI, gZJ, gZR, pI_s, pJ_s, pV_s, pR_s, pR_n, oR_n, oR_s, decide_true, decide_false, not_true_eq_false, not_false_eq_true, decT, decF, Bool.true_eq_false, Bool.false_eq_true, z01, o01, z1f, z1f', zz, oo, b2i_0, b2i_n, b2i_t, b2i_f, Bool.not_true, Bool.not_false]
        · rw [f_X12_seat, e_X12_seat_0]
          simp (disch := omega) only [k3, hx, e_X12_seat_8, k4, hy, e_X12_seat_16, hxy, e_X12_seat_21, true_and, and_true, false_and, and_false, beq_t, beq_f, eqN_t, eqN_f, eqL_t, eqL_f, nm1, nm2, nm1', nm2', m1z, m2z, zm1, zm2, m12, m21, lg_cmp_ge, lg_cmp_le, lg_cmp_gt, lg_cmp_lt, lg_cmp_eq, oob, oobL, neg0, negL0, natle_f, or_false, false_or, true_or, or_true, or_self, cl, clL, le_t, le_f, lt_t, lt_f, leL_t, leL_f, ltL_t, ltL_f, leM_t, leM_f, ltM_t, ltM_f, leO_t, leO_f, cond_true, cond_false, Option.bind_some, Option.bind_none, if_false, if_true, nI_1, aL1, aL2, mL1, mL2, nI_add, pk_mul, pk_m1, sL1, dL1, pk_sub, m1p1, gIs_eq, gIs_k, gIs_i, gIs_n, gIs_e, gIJ, gIR, gJI, gJR, gJs_eq, gJs_k, gJs_n, gJs_e, gRI, gRJ, gRs_eq, gRs_k, gRs_i, gRs_n, gZI, gZJ, gZR, pI_s, pJ_s, pV_s, pR_s, pR_n, oR_n, oR_s, decide_true, decide_false, not_true_eq_false, not_false_eq_true, decT, decF, Bool.true_eq_false, Bool.false_eq_true, z01, o01, z1f, z1f', zz, oo, b2i_0, b2i_n, b2i_t, b2i_f, Bool.not_true, Bool.not_false]
      · obtain ⟨k, hk, rfl⟩ := inK (by omega) hx
        obtain ⟨j, hj, rfl⟩ := inK (by omega) hy
        have hkj : k ≠ j := fun q => hxy (by rw [q])
        have ib := (hS k (by omega)).2.2.1
        have jb := (hS j (by omega)).2.2.1
        generalize hB : s.2.2.2.2 k ^^^ ((1 : Int32) <<< (nI j &&& 31)) = B
        generalize hB' : s.2.2.2.2 j ^^^ ((1 : Int32) <<< (nI k &&& 31)) = B'
        have iB : In 63 B := by rw [← hB]; exact ib.xor (by omega)
        have iB' : In 63 B' := by rw [← hB']; exact jb.xor (by omega)
        have eb : (setB (setB s k B) j B').2.2.2.2 k = B := (pk_un hkj).trans pk_us
        refine st_act (s' := setB (setB s k B) j B') (a := (B >>> (nI j &&& 31)) &&& 1) hc hm ho ⟨(hS.setB iB).setB iB', hO.2.1.2⟩ ?_ ?_
        · intro r hr hX
          have g1 := (hX.2.1.1.2 k (by omega)).2.2.2
          have g2 := (hX.2.1.1.2 j (by omega)).2.2.2
          obtain ⟨a1, a2⟩ := Sc_B (k := k) hX.2.1.1 B
          obtain ⟨b1, b2⟩ := Sc_B (k := j) a1 B'
          refine ⟨_, ?_, b1, a2.trans b2⟩
          rw [f_X11_seat, e_X11_seat_0]
          simp (disch := omega) only [k1, hx, e_X11_seat_8, k2, hy, e_X11_seat_16, hxy, e_X11_seat_23, hr, g1, g2, hB, hB', true_and, and_true, false_and, and_false, beq_t, beq_f, eqN_t, eqN_f, eqL_t, eqL_f, nm1, nm2, nm1', nm2', m1z, m2z, zm1, zm2, m12, m21, lg_cmp_ge, lg_cmp_le, lg_cmp_gt, lg_cmp_lt, lg_cmp_eq, oob, oobL, neg0, negL0, natle_f, or_false, false_or, true_or, or_true, or_self, cl, clL, le_t, le_f, lt_t, lt_f, leL_t, leL_f, ltL_t, ltL_f, leM_t, leM_f, ltM_t, ltM_f, leO_t, leO_f, cond_true, cond_false, Option.bind_some, Option.bind_none, if_false, if_true, nI_1, aL1, aL2, mL1, mL2, nI_add, pk_mul, pk_m1, sL1, dL1, pk_sub, m1p1, gIs_eq, gIs_k, gIs_i, gIs_n, gIs_e, gIJ, gIR, gJI, gJR, gJs_eq, gJs_k, gJs_n, gJs_e, gRI, gRJ, gRs_eq, gRs_k, gRs_i, gRs_n, gZI, gZJ, gZR, pI_s, pJ_s, pV_s, pR_s, pR_n, oR_n, oR_s, decide_true, decide_false, not_true_eq_false, not_false_eq_true, decT, decF, Bool.true_eq_false, Bool.false_eq_true, z01, o01, z1f, z1f', zz, oo, b2i_0, b2i_n, b2i_t, b2i_f, Bool.not_true, Bool.not_false]
        · intro v r hv hr hX
          have k3 := m_isKeep hv.1 hD (nI k)
          have k4 := m_isKeep hv.1 hD (nI j)
          have g1 := (hX.2.2.1.2 k (by omega)).2.2.2
          have g2 := (hX.2.2.1.2 j (by omega)).2.2.2
          obtain ⟨a1, a2⟩ := Ms_B (k := k) (by omega) hX.2.2.1 B
          obtain ⟨b1, b2⟩ := Ms_B (k := j) (by omega) a1 B'
          have b3 := m_besideOf b1 (k := k) (by omega)
          rw [eb] at b3
          refine ⟨_, ?_, b1, a2.trans b2⟩
          rw [f_X12_seat, e_X12_seat_0]
          simp (disch := omega) only [k3, hx, e_X12_seat_8, k4, hy, e_X12_seat_16, hxy, e_X12_seat_23, hr, g1, g2, hB, hB', b3, true_and, and_true, false_and, and_false, beq_t, beq_f, eqN_t, eqN_f, eqL_t, eqL_f, nm1, nm2, nm1', nm2', m1z, m2z, zm1, zm2, m12, m21, lg_cmp_ge, lg_cmp_le, lg_cmp_gt, lg_cmp_lt, lg_cmp_eq, oob, oobL, neg0, negL0, natle_f, or_false, false_or, true_or, or_true, or_self, cl, clL, le_t, le_f, lt_t, lt_f, leL_t, leL_f, ltL_t, ltL_f, leM_t, leM_f, ltM_t, ltM_f, leO_t, leO_f, cond_true, cond_false, Option.bind_some, Option.bind_none, if_false, if_true, nI_1, aL1, aL2, mL1, mL2, nI_add, pk_mul, pk_m1, sL1, dL1, pk_sub, m1p1, gIs_eq, gIs_k, gIs_i, gIs_n, gIs_e, gIJ, gIR, gJI, gJR, gJs_eq, gJs_k, gJs_n, gJs_e, gRI, gRJ, gRs_eq, gRs_k, gRs_i, gRs_n, gZI, gZJ, gZR, pI_s, pJ_s, pV_s, pR_s, pR_n, oR_n, oR_s, decide_true, decide_false, not_true_eq_false, not_false_eq_true, decT, decF, Bool.true_eq_false, Bool.false_eq_true, z01, o01, z1f, z1f', zz, oo, b2i_0, b2i_n, b2i_t, b2i_f, Bool.not_true, Bool.not_false]
    · refine ⟨-1, w, w, ?_, ?_, _, hc, hm, ho⟩
      · rw [f_X11_seat, e_X11_seat_0]
        simp (disch := omega) only [k1, hx, e_X11_seat_8, k2, hy, e_X11_seat_21, true_and, and_true, false_and, and_false, beq_t, beq_f, eqN_t, eqN_f, eqL_t, eqL_f, nm1, nm2, nm1', nm2', m1z, m2z, zm1, zm2, m12, m21, lg_cmp_ge, lg_cmp_le, lg_cmp_gt, lg_cmp_lt, lg_cmp_eq, oob, oobL, neg0, negL0, natle_f, or_false, false_or, true_or, or_true, or_self, cl, clL, le_t, le_f, lt_t, lt_f, leL_t, leL_f, ltL_t, ltL_f, leM_t, leM_f, ltM_t, ltM_f, leO_t, leO_f, cond_true, cond_false, Option.bind_some, Option.bind_none, if_false, if_true, nI_1, aL1, aL2, mL1, mL2, nI_add, pk_mul, pk_m1, sL1, dL1, pk_sub, m1p1, gIs_eq, gIs_k, gIs_i, gIs_n, gIs_e, gIJ, gIR, gJI, gJR, gJs_eq, gJs_k, gJs_n, gJs_e, gRI, gRJ, gRs_eq, gRs_k, gRs_i, gRs_n, gZI, gZJ, gZR, pI_s, pJ_s, pV_s, pR_s, pR_n, oR_n, oR_s, decide_true, decide_false, not_true_eq_false, not_false_eq_true, decT, decF, Bool.true_eq_false, Bool.false_eq_true, z01, o01, z1f, z1f', zz, oo, b2i_0, b2i_n, b2i_t, b2i_f, Bool.not_true, Bool.not_false]
      · rw [f_X12_seat, e_X12_seat_0]
        simp (disch := omega) only [k3, hx, e_X12_seat_8, k4, hy, e_X12_seat_21, true_and, and_true, false_and, and_false, beq_t, beq_f, eqN_t, eqN_f, eqL_t, eqL_f, nm1, nm2, nm1', nm2', m1z, m2z, zm1, zm2, m12, m21, lg_cmp_ge, lg_cmp_le, lg_cmp_gt, lg_cmp_lt, lg_cmp_eq, oob, oobL, neg0, negL0, natle_f, or_false, false_or, true_or, or_true, or_self, cl, clL, le_t, le_f, lt_t, lt_f, leL_t, leL_f, ltL_t, ltL_f, leM_t, leM_f, ltM_t, ltM_f, leO_t, leO_f, cond_true, cond_false, Option.bind_some, Option.bind_none, if_false, if_true, nI_1, aL1, aL2, mL1, mL2, nI_add, pk_mul, pk_m1, sL1, dL1, pk_sub, m1p1, gIs_eq, gIs_k, gIs_i, gIs_n, gIs_e, gIJ, gIR, gJI, gJR, gJs_eq, gJs_k, gJs_n, gJs_e, gRI, gRJ, gRs_eq, gRs_k, gRs_i, gRs_n, gZI, gZJ, gZR, pI_s, pJ_s, pV_s, pR_s, pR_n, oR_n, oR_s, decide_true, decide_false, not_true_eq_false, not_false_eq_true, decT, decF, Bool.true_eq_false, Bool.false_eq_true, z01, o01, z1f, z1f', zz, oo, b2i_0, b2i_n, b2i_t, b2i_f, Bool.not_true, Bool.not_false]
  · refine ⟨-1, w, w, ?_, ?_, _, hc, hm, ho⟩
    · rw [f_X11_seat, e_X11_seat_0]
      simp (disch := omega) only [k1, hx, e_X11_seat_21, true_and, and_true, false_and, and_false, beq_t, beq_f, eqN_t, eqN_f, eqL_t, eqL_f, nm1, nm2, nm1', nm2', m1z, m2z, zm1, zm2, m12, m21, lg_cmp_ge, lg_cmp_le, lg_cmp_gt, lg_cmp_lt, lg_cmp_eq, oob, oobL, neg0, negL0, natle_f, or_false, false_or, true_or, or_true, or_self, cl, clL, le_t, le_f, lt_t, lt_f, leL_t, leL_f, ltL_t, ltL_f, leM_t, leM_f, ltM_t, ltM_f, leO_t, leO_f, cond_true, cond_false, Option.bind_some, Option.bind_none, if_false, if_true, nI_1, aL1, aL2, mL1, mL2, nI_add, pk_mul, pk_m1, sL1, dL1, pk_sub, m1p1, gIs_eq, gIs_k, gIs_i, gIs_n, gIs_e, gIJ, gIR, gJI, gJR, gJs_eq, gJs_k, gJs_n, gJs_e, gRI, gRJ, gRs_eq, gRs_k, gRs_i, gRs_n, gZI, gZJ, gZR, pI_s, pJ_s, pV_s, pR_s, pR_n, oR_n, oR_s, decide_true, decide_false, not_true_eq_false, not_false_eq_true, decT, decF, Bool.true_eq_false, Bool.false_eq_true, z01, o01, z1f, z1f', zz, oo, b2i_0, b2i_n, b2i_t, b2i_f, Bool.not_true, Bool.not_false]
    · rw [f_X12_seat, e_X12_seat_0]
      simp (disch := omega) only [k3, hx, e_X12_seat_21, true_and, and_true, false_and, and_false, beq_t, beq_f, eqN_t, eqN_f, eqL_t, eqL_f, nm1, nm2, nm1', nm2', m1z, m2z, zm1, zm2, m12, m21, lg_cmp_ge, lg_cmp_le, lg_cmp_gt, lg_cmp_lt, lg_cmp_eq, oob, oobL, neg0, negL0, natle_f, or_false, false_or, true_or, or_true, or_self, cl, clL, le_t, le_f, lt_t, lt_f, leL_t, leL_f, ltL_t, ltL_f, leM_t, leM_f, ltM_t, ltM_f, leO_t, leO_f, cond_true, cond_false, Option.bind_some, Option.bind_none, if_false, if_true, nI_1, aL1, aL2, mL1, mL2, nI_add, pk_mul, pk_m1, sL1, dL1, pk_sub, m1p1, gIs_eq, gIs_k, gIs_i, gIs_n, gIs_e, gIJ, gIR, gJI, gJR, gJs_eq, gJs_k, gJs_n, gJs_e, gRI, gRJ, gRs_eq, gRs_k, gRs_i, gRs_n, gZI, gZJ, gZR, pI_s, pJ_s, pV_s, pR_s, pR_n, oR_n, oR_s, decide_true, decide_false, not_true_eq_false, not_false_eq_true, decT, decF, Bool.true_eq_false, Bool.false_eq_true, z01, o01, z1f, z1f', zz, oo, b2i_0, b2i_n, b2i_t, b2i_f, Bool.not_true, Bool.not_false]
/-! undo -/
theorem c_undo {w : XW} {d : Dl} {s : Sc} {rs : List Rl} {f : Int32} {h : Sc} {t : List Sc} (hX : CX w d s rs f) (hA : CA w d (h :: t)) (hl : t.length < 20) : ∃ w', F_X11_undo [.inr (10, 0)] w = some (nI t.length, w') ∧ CX w' d h rs f ∧ CA w' d t ∧ Fr (fun κ j k => (κ = 10 ∧ (k = 15 ∨ k = 16)) ∨ PSc 0 κ j k) w w' := by
  obtain ⟨h1, h2, an, h3, h4, h5⟩ := hA
  have h1 : gI w 10 0 16 = nI (t.length + 1) := h1
  have e15 := wrap20 (a := an + 20 - 1) (by omega)
  rw [show (an + 20 - 1) % 20 = (an + 19) % 20 by omega] at e15
  have F1 : Fr (fun κ _ k => κ = 10 ∧ (k = 15 ∨ k = 16)) w (sI (sI w 10 0 16 (nI t.length)) 10 0 15 (nI ((an + 19) % 20))) := ((Fr.refl _ _).sI (by omega)).sI (by omega)
  obtain ⟨x1, x2⟩ := h5 0 h rfl
  rw [show (an + 19 - 0) % 20 = (an + 19) % 20 by omega] at x1 x2
  obtain ⟨w1, y1, y2, y3, y4⟩ := p_X9_copy 0 (2 + (an + 19) % 20) (by omega) _ h (x1.fr F1 (fun κ k q => by omega))
  have hF := (F1.mono (Q := fun κ j k => (κ = 10 ∧ (k = 15 ∨ k = 16)) ∨ PSc 0 κ j k) (fun κ j k q => Or.inl q)).trans (y4.mono (fun κ j k q => Or.inr q))
  have g37 : gR (sI (sI w 10 0 16 (nI t.length)) 10 0 15 (nI ((an + 19) % 20))) 37 0 ((an + 19) % 20) = some (2 + (an + 19) % 20) := h2 _ (by omega)
  have g16 : gI w1 10 0 16 = nI t.length := by
    rw [(y4 10 0 16 (by unfold PSc; omega)).1]
    simp (disch := omega) only [true_and, and_true, false_and, and_false, beq_t, beq_f, eqN_t, eqN_f, eqL_t, eqL_f, nm1, nm2, nm1', nm2', m1z, m2z, zm1, zm2, m12, m21, lg_cmp_ge, lg_cmp_le, lg_cmp_gt, lg_cmp_lt, lg_cmp_eq, oob, oobL, neg0, negL0, natle_f, or_false, false_or, true_or, or_true, or_self, cl, clL, le_t, le_f, lt_t, lt_f, leL_t, leL_f, ltL_t, ltL_f, leM_t, leM_f, ltM_t, ltM_f, leO_t, leO_f, cond_true, cond_false, Option.bind_some, Option.bind_none, if_false, if_true, nI_1, aL1, aL2, mL1, mL2, nI_add, pk_mul, pk_m1, sL1, dL1, pk_sub, m1p1, gIs_eq, gIs_k, gIs_i, gIs_n, gIs_e, gIJ, gIR, gJI, gJR, gJs_eq, gJs_k, gJs_n, gJs_e, gRI, gRJ, gRs_eq, gRs_k, gRs_i, gRs_n, gZI, gZJ, gZR, pI_s, pJ_s, pV_s, pR_s, pR_n, oR_n, oR_s, decide_true, decide_false, not_true_eq_false, not_false_eq_true, decT, decF, Bool.true_eq_false, Bool.false_eq_true, z01, o01, z1f, z1f', zz, oo, b2i_0, b2i_n, b2i_t, b2i_f, Bool.not_true, Bool.not_false]
  have g15 : gI w1 10 0 15 = nI ((an + 19) % 20) := by
    rw [(y4 10 0 15 (by unfold PSc; omega)).1]
    exact gIs_eq
  refine ⟨w1, ?_, ?_, ⟨g16, fun q hq => ?_, (an + 19) % 20, by omega, g15, fun q s' hq => ?_⟩, hF⟩
  · rw [f_X11_undo, e_X11_undo_0]
    simp (disch := omega) only [h1, e_X11_undo_9, Nat.add_sub_cancel, h4, e15, g37, y1, g16, true_and, and_true, false_and, and_false, beq_t, beq_f, eqN_t, eqN_f, eqL_t, eqL_f, nm1, nm2, nm1', nm2', m1z, m2z, zm1, zm2, m12, m21, lg_cmp_ge, lg_cmp_le, lg_cmp_gt, lg_cmp_lt, lg_cmp_eq, oob, oobL, neg0, negL0, natle_f, or_false, false_or, true_or, or_true, or_self, cl, clL, le_t, le_f, lt_t, lt_f, leL_t, leL_f, ltL_t, ltL_f, leM_t, leM_f, ltM_t, ltM_f, leO_t, leO_f, cond_true, cond_false, Option.bind_some, Option.bind_none, if_false, if_true, nI_1, aL1, aL2, mL1, mL2, nI_add, pk_mul, pk_m1, sL1, dL1, pk_sub, m1p1, gIs_eq, gIs_k, gIs_i, gIs_n, gIs_e, gIJ, gIR, gJI, gJR, gJs_eq, gJs_k, gJs_n, gJs_e, gRI, gRJ, gRs_eq, gRs_k, gRs_i, gRs_n, gZI, gZJ, gZR, pI_s, pJ_s, pV_s, pR_s, pR_n, oR_n, oR_s, decide_true, decide_false, not_true_eq_false, not_false_eq_true, decT, decF, Bool.true_eq_false, Bool.false_eq_true, z01, o01, z1f, z1f', zz, oo, b2i_0, b2i_n, b2i_t, b2i_f, Bool.not_true, Bool.not_false]
  · obtain ⟨⟨jd, a1, a2⟩, ⟨a3, a4⟩, ⟨a5, a6⟩, a7⟩ := hX
    refine ⟨⟨jd, ?_, a2.fr hF (fun κ k q => by unfold PSc; omega)⟩, ⟨y2, ?_⟩, ⟨?_, fun t' rl ht => ?_⟩, ?_⟩
    · rw [(hF 10 0 5 (by unfold PSc; omega)).2.2.1]; exact a1
    · rw [y3]
      simp (disch := omega) only [true_and, and_true, false_and, and_false, beq_t, beq_f, eqN_t, eqN_f, eqL_t, eqL_f, nm1, nm2, nm1', nm2', m1z, m2z, zm1, zm2, m12, m21, lg_cmp_ge, lg_cmp_le, lg_cmp_gt, lg_cmp_lt, lg_cmp_eq, oob, oobL, neg0, negL0, natle_f, or_false, false_or, true_or, or_true, or_self, cl, clL, le_t, le_f, lt_t, lt_f, leL_t, leL_f, ltL_t, ltL_f, leM_t, leM_f, ltM_t, ltM_f, leO_t, leO_f, cond_true, cond_false, Option.bind_some, Option.bind_none, if_false, if_true, nI_1, aL1, aL2, mL1, mL2, nI_add, pk_mul, pk_m1, sL1, dL1, pk_sub, m1p1, gIs_eq, gIs_k, gIs_i, gIs_n, gIs_e, gIJ, gIR, gJI, gJR, gJs_eq, gJs_k, gJs_n, gJs_e, gRI, gRJ, gRs_eq, gRs_k, gRs_i, gRs_n, gZI, gZJ, gZR, pI_s, pJ_s, pV_s, pR_s, pR_n, oR_n, oR_s, decide_true, decide_false, not_true_eq_false, not_false_eq_true, decT, decF, Bool.true_eq_false, Bool.false_eq_true, z01, o01, z1f, z1f', zz, oo, b2i_0, b2i_n, b2i_t, b2i_f, Bool.not_true, Bool.not_false]
      exact x2
    · rw [(hF 10 0 3 (by unfold PSc; omega)).1]; exact a5
    · obtain ⟨jr, z1, z2⟩ := a6 t' rl ht
      exact ⟨jr, by rw [(hF 35 0 t' (by unfold PSc; omega)).2.2.1]; exact z1, z2.fr hF (fun κ k q => by unfold PSc; omega)⟩
    · rw [(hF 10 0 4 (by unfold PSc; omega)).1]; exact a7
  · rw [(hF 37 0 q (by unfold PSc; omega)).2.2.1]; exact h2 q hq
  · have hlt := (List.getElem?_eq_some_iff.mp hq).1
    obtain ⟨z1, z2⟩ := h5 (q + 1) s' hq
    rw [show ((an + 19) % 20 + 19 - q) % 20 = (an + 19 - (q + 1)) % 20 by omega]
    exact ⟨z1.fr hF (fun κ k q => by unfold PSc; omega), by rw [(hF 8 _ 0 (by unfold PSc; omega)).1]; exact z2⟩
theorem m_undo {w : XW} {d : Dl} {s : Sc} {rs : List Rl} {f : Int32} {h : Sc} {t : List Sc} (hX : MX w d s rs f) (hA : MA w (h :: t)) (hl : t.length < 20) : ∃ w', F_X12_undo [.inr (11, 0)] w = some (nI t.length, w') ∧ MX w' d h rs f ∧ MA w' t ∧ Fr (fun κ _ k => (κ = 11 ∧ k = 26) ∨ (κ = 50 ∧ 10 ≤ k ∧ k < 35)) w w' := by
  have h1 : gI w 11 0 26 = nI (t.length + 1) := hA.1
  obtain ⟨w1, b1, b2, b3⟩ := loop0 25 (fun k v => q_X12_undo_21 (nI k) v) (fun v => q_X12_undo_56 v) (fun k v => Fr (fun κ _ k => κ = 50 ∧ 10 ≤ k ∧ k < 35) (sI w 11 0 26 (nI t.length)) v ∧ ∀ i, i < k → gI v 50 0 (10 + i) = flS h i) (s := sI w 11 0 26 (nI t.length)) ⟨Fr.refl _ _, fun i hi => absurd hi (by omega)⟩ (fun k v hk hi => by
      obtain ⟨b1, b2⟩ := hi
      have g : gI v 11 0 26 = nI t.length := by rw [(b1 11 0 26 (by omega)).1]; exact gIs_eq
      have gf : gI v 52 0 (25 * t.length + k) = flS h k := by
        rw [(b1 52 0 _ (by omega)).1]
        simp (disch := omega) only [true_and, and_true, false_and, and_false, beq_t, beq_f, eqN_t, eqN_f, eqL_t, eqL_f, nm1, nm2, nm1', nm2', m1z, m2z, zm1, zm2, m12, m21, lg_cmp_ge, lg_cmp_le, lg_cmp_gt, lg_cmp_lt, lg_cmp_eq, oob, oobL, neg0, negL0, natle_f, or_false, false_or, true_or, or_true, or_self, cl, clL, le_t, le_f, lt_t, lt_f, leL_t, leL_f, ltL_t, ltL_f, leM_t, leM_f, ltM_t, ltM_f, leO_t, leO_f, cond_true, cond_false, Option.bind_some, Option.bind_none, if_false, if_true, nI_1, aL1, aL2, mL1, mL2, nI_add, pk_mul, pk_m1, sL1, dL1, pk_sub, m1p1, gIs_eq, gIs_k, gIs_i, gIs_n, gIs_e, gIJ, gIR, gJI, gJR, gJs_eq, gJs_k, gJs_n, gJs_e, gRI, gRJ, gRs_eq, gRs_k, gRs_i, gRs_n, gZI, gZJ, gZR, pI_s, pJ_s, pV_s, pR_s, pR_n, oR_n, oR_s, decide_true, decide_false, not_true_eq_false, not_false_eq_true, decT, decF, Bool.true_eq_false, Bool.false_eq_true, z01, o01, z1f, z1f', zz, oo, b2i_0, b2i_n, b2i_t, b2i_f, Bool.not_true, Bool.not_false]
        have := hA.2 0 h rfl k hk
        rw [show 25 * ((h :: t).length - 1 - 0) + k = 25 * t.length + k by rw [List.length_cons]; omega] at this
        exact this
      ((try dsimp only); rw [e_X12_undo_21]; simp (disch := omega) only [e_X12_undo_27, g, gf, true_and, and_true, false_and, and_false, beq_t, beq_f, eqN_t, eqN_f, eqL_t, eqL_f, nm1, nm2, nm1', nm2', m1z, m2z, zm1, zm2, m12, m21, lg_cmp_ge, lg_cmp_le, lg_cmp_gt, lg_cmp_lt, lg_cmp_eq, oob, oobL, neg0, negL0, natle_f, or_false, false_or, true_or, or_true, or_self, cl, clL, le_t, le_f, lt_t, lt_f, leL_t, leL_f, ltL_t, ltL_f, leM_t, leM_f, ltM_t, ltM_f, leO_t, leO_f, cond_true, cond_false, Option.bind_some, Option.bind_none, if_false, if_true, nI_1, aL1, aL2, mL1, mL2, nI_add, pk_mul, pk_m1, sL1, dL1, pk_sub, m1p1, gIs_eq, gIs_k, gIs_i, gIs_n, gIs_e, gIJ, gIR, gJI, gJR, gJs_eq, gJs_k, gJs_n, gJs_e, gRI, gRJ, gRs_eq, gRs_k, gRs_i, gRs_n, gZI, gZJ, gZR, pI_s, pJ_s, pV_s, pR_s, pR_n, oR_n, oR_s, decide_true, decide_false, not_true_eq_false, not_false_eq_true, decT, decF, Bool.true_eq_false, Bool.false_eq_true, z01, o01, z1f, z1f', zz, oo, b2i_0, b2i_n, b2i_t, b2i_f, Bool.not_true, Bool.not_false])
      refine ⟨_, rfl, b1.sI (by omega), fun i hi => ?_⟩
      by_cases q : i = k
      · subst q; exact gIs_eq
      · rw [gIs_k (by omega)]
        exact b2 i (by omega)) (fun v hi => by ((try dsimp only); rw [e_X12_undo_21]; simp (disch := omega) only [true_and, and_true, false_and, and_false, beq_t, beq_f, eqN_t, eqN_f, eqL_t, eqL_f, nm1, nm2, nm1', nm2', m1z, m2z, zm1, zm2, m12, m21, lg_cmp_ge, lg_cmp_le, lg_cmp_gt, lg_cmp_lt, lg_cmp_eq, oob, oobL, neg0, negL0, natle_f, or_false, false_or, true_or, or_true, or_self, cl, clL, le_t, le_f, lt_t, lt_f, leL_t, leL_f, ltL_t, ltL_f, leM_t, leM_f, ltM_t, ltM_f, leO_t, leO_f, cond_true, cond_false, Option.bind_some, Option.bind_none, if_false, if_true, nI_1, aL1, aL2, mL1, mL2, nI_add, pk_mul, pk_m1, sL1, dL1, pk_sub, m1p1, gIs_eq, gIs_k, gIs_i, gIs_n, gIs_e, gIJ, gIR, gJI, gJR, gJs_eq, gJs_k, gJs_n, gJs_e, gRI, gRJ, gRs_eq, gRs_k, gRs_i, gRs_n, gZI, gZJ, gZR, pI_s, pJ_s, pV_s, pR_s, pR_n, oR_n, oR_s, decide_true, decide_false, not_true_eq_false, not_false_eq_true, decT, decF, Bool.true_eq_false, Bool.false_eq_true, z01, o01, z1f, z1f', zz, oo, b2i_0, b2i_n, b2i_t, b2i_f, Bool.not_true, Bool.not_false]))
  have g : gI w1 11 0 26 = nI t.length := by rw [(b2 11 0 26 (by omega)).1]; exact gIs_eq
  have hF : Fr (fun κ _ k => (κ = 11 ∧ k = 26) ∨ (κ = 50 ∧ 10 ≤ k ∧ k < 35)) w w1 := ((Fr.refl _ _).sI (by omega)).trans (b2.mono (fun κ i k q => by omega))
  have b1 : q_X12_undo_21 0 (sI w 11 0 26 (nI t.length)) = q_X12_undo_56 w1 := b1
  refine ⟨w1, ?_, ⟨hX.1.fr hF (fun k q => by omega), hX.2.1.fr hF (fun k q => by omega), Ms_of_fl b3, hX.2.2.2.1.fr hF (fun κ k q => by omega), by rw [(hF 11 0 21 (by omega)).1]; exact hX.2.2.2.2.1, by rw [(hF 11 0 23 (by omega)).1]; exact hX.2.2.2.2.2⟩, ⟨g, fun q s' hq k hk => ?_⟩, hF⟩
  · rw [f_X12_undo, e_X12_undo_0]
    simp (disch := omega) only [h1, e_X12_undo_9, Nat.add_sub_cancel, b1, e_X12_undo_56, g, true_and, and_true, false_and, and_false, beq_t, beq_f, eqN_t, eqN_f, eqL_t, eqL_f, nm1, nm2, nm1', nm2', m1z, m2z, zm1, zm2, m12, m21, lg_cmp_ge, lg_cmp_le, lg_cmp_gt, lg_cmp_lt, lg_cmp_eq, oob, oobL, neg0, negL0, natle_f, or_false, false_or, true_or, or_true, or_self, cl, clL, le_t, le_f, lt_t, lt_f, leL_t, leL_f, ltL_t, ltL_f, leM_t, leM_f, ltM_t, ltM_f, leO_t, leO_f, cond_true, cond_false, Option.bind_some, Option.bind_none, if_false, if_true, nI_1, aL1, aL2, mL1, mL2, nI_add, pk_mul, pk_m1, sL1, dL1, pk_sub, m1p1, gIs_eq, gIs_k, gIs_i, gIs_n, gIs_e, gIJ, gIR, gJI, gJR, gJs_eq, gJs_k, gJs_n, gJs_e, gRI, gRJ, gRs_eq, gRs_k, gRs_i, gRs_n, gZI, gZJ, gZR, pI_s, pJ_s, pV_s, pR_s, pR_n, oR_n, oR_s, decide_true, decide_false, not_true_eq_false, not_false_eq_true, decT, decF, Bool.true_eq_false, Bool.false_eq_true, z01, o01, z1f, z1f', zz, oo, b2i_0, b2i_n, b2i_t, b2i_f, Bool.not_true, Bool.not_false]
  · have hlt := (List.getElem?_eq_some_iff.mp hq).1
    rw [(hF 52 0 _ (by omega)).1]
    have := hA.2 (q + 1) s' hq k hk
    rw [show 25 * ((h :: t).length - 1 - (q + 1)) + k = 25 * (t.length - 1 - q) + k by rw [List.length_cons]; omega] at this
    exact this
theorem st_undo {w : XW} (hR : Rel w) : StepOk (F_X11_undo [.inr (10, 0)]) (F_X12_undo [.inr (11, 0)]) w := by
  obtain ⟨g, hc, hm, ho⟩ := hR
  obtain ⟨⟨d, s, rs, f⟩, hs, no, sx, im, tn, tb⟩ := g
  match hs, hc, hm, ho with
  | [], hc, hm, ho =>
    have c1 : gI w 10 0 16 = nI 0 := hc.2.1.1
    have m1 : gI w 11 0 26 = nI 0 := hm.2.1.1
    refine ⟨-1, w, w, ?_, ?_, _, hc, hm, ho⟩
    · rw [f_X11_undo, e_X11_undo_0]
      simp (disch := omega) only [c1, e_X11_undo_7, true_and, and_true, false_and, and_false, beq_t, beq_f, eqN_t, eqN_f, eqL_t, eqL_f, nm1, nm2, nm1', nm2', m1z, m2z, zm1, zm2, m12, m21, lg_cmp_ge, lg_cmp_le, lg_cmp_gt, lg_cmp_lt, lg_cmp_eq, oob, oobL, neg0, negL0, natle_f, or_false, false_or, true_or, or_true, or_self, cl, clL, le_t, le_f, lt_t, lt_f, leL_t, leL_f, ltL_t, ltL_f, leM_t, leM_f, ltM_t, ltM_f, leO_t, leO_f, cond_true, cond_false, Option.bind_some, Option.bind_none, if_false, if_true, nI_1, aL1, aL2, mL1, mL2, nI_add, pk_mul, pk_m1, sL1, dL1, pk_sub, m1p1, gIs_eq, gIs_k, gIs_i, gIs_n, gIs_e, gIJ, gIR, gJI, gJR, gJs_eq, gJs_k, gJs_n, gJs_e, gRI, gRJ, gRs_eq, gRs_k, gRs_i, gRs_n, gZI, gZJ, gZR, pI_s, pJ_s, pV_s, pR_s, pR_n, oR_n, oR_s, decide_true, decide_false, not_true_eq_false, not_false_eq_true, decT, decF, Bool.true_eq_false, Bool.false_eq_true, z01, o01, z1f, z1f', zz, oo, b2i_0, b2i_n, b2i_t, b2i_f, Bool.not_true, Bool.not_false]
    · rw [f_X12_undo, e_X12_undo_0]
      simp (disch := omega) only [m1, e_X12_undo_7, true_and, and_true, false_and, and_false, beq_t, beq_f, eqN_t, eqN_f, eqL_t, eqL_f, nm1, nm2, nm1', nm2', m1z, m2z, zm1, zm2, m12, m21, lg_cmp_ge, lg_cmp_le, lg_cmp_gt, lg_cmp_lt, lg_cmp_eq, oob, oobL, neg0, negL0, natle_f, or_false, false_or, true_or, or_true, or_self, cl, clL, le_t, le_f, lt_t, lt_f, leL_t, leL_f, ltL_t, ltL_f, leM_t, leM_f, ltM_t, ltM_f, leO_t, leO_f, cond_true, cond_false, Option.bind_some, Option.bind_none, if_false, if_true, nI_1, aL1, aL2, mL1, mL2, nI_add, pk_mul, pk_m1, sL1, dL1, pk_sub, m1p1, gIs_eq, gIs_k, gIs_i, gIs_n, gIs_e, gIJ, gIR, gJI, gJR, gJs_eq, gJs_k, gJs_n, gJs_e, gRI, gRJ, gRs_eq, gRs_k, gRs_i, gRs_n, gZI, gZJ, gZR, pI_s, pJ_s, pV_s, pR_s, pR_n, oR_n, oR_s, decide_true, decide_false, not_true_eq_false, not_false_eq_true, decT, decF, Bool.true_eq_false, Bool.false_eq_true, z01, o01, z1f, z1f', zz, oo, b2i_0, b2i_n, b2i_t, b2i_f, Bool.not_true, Bool.not_false]
  | h :: t, hc, hm, ho =>
    have hl : t.length < 20 := ho.2.1.1
    obtain ⟨w1, x1, x2, x3, x4⟩ := c_undo (show CX w d s rs f from hc.1) (show CA w d (h :: t) from hc.2.1) hl
    have hc1 : CS w1 ((d, h, rs, f), t, no, sx, im, tn, tb) :=
      ⟨x2, x3, hc.2.2.1.fr x4 (fun κ k q => by unfold PSc; omega), by rw [(x4 10 0 12 (by unfold PSc; omega)).1]; exact hc.2.2.2.1, hc.2.2.2.2.1.fr x4 (fun κ j k q => by unfold PSc; omega), hc.2.2.2.2.2.fr x4 (fun κ k q => by unfold PSc; omega)⟩
    have hm1 := hm.frc ho (x4.mono (fun κ i k q => by unfold PSc at q; unfold PCl; omega))
    obtain ⟨w2, y1, y2, y3, y4⟩ := m_undo (show MX w1 d s rs f from hm1.1) (show MA w1 (h :: t) from hm1.2.1) hl
    refine ⟨nI t.length, w1, w2, x1, y1, _, hc1.frm (y4.mono (fun κ i k q => by unfold PMo; omega)), ⟨y2, y3, hm1.2.2.1.fr ho.2.2.1.1 y4 (fun k q => by omega), by rw [(y4 11 0 22 (by omega)).1]; exact hm1.2.2.2.1, hm1.2.2.2.2.1.fr y4 (fun κ k q => by omega), hm1.2.2.2.2.2.fr y4 (fun κ k q => by omega)⟩, ?_⟩
    exact ⟨⟨ho.1.1, ho.2.1.2 h (List.mem_cons_self ..), ho.1.2.2⟩, ⟨by show t.length ≤ 20; omega, fun q hq => ho.2.1.2 q (List.mem_cons_of_mem _ hq)⟩, ho.2.2⟩
