/-! ===== what is kept for undo ===== -/
def PRe (κ j k : Nat) : Prop := (κ = 10 ∧ (k = 15 ∨ k = 16)) ∨ ((κ = 8 ∨ (30 ≤ κ ∧ κ ≤ 33)) ∧ 2 ≤ j ∧ j < 22)
def PKa (κ _j k : Nat) : Prop := κ = 52 ∨ (κ = 11 ∧ k = 26)
theorem wrap20 {a : Nat} (h : a < 60) : nI a - nI (a / 20 * 20) = nI (a % 20) := by
  rw [pk_sub (by omega)]
  congr 1
  omega
theorem cap20 {s : Sc} {hs : List Sc} (hl : hs.length ≤ 20) : (if (20 : Int32) < nI (hs.length + 1) then 20 else nI (hs.length + 1)) = nI (((s :: hs).take 20).length) := by
  rw [List.length_take, List.length_cons]
  by_cases h20 : hs.length = 20
  · rw [h20]
    decide
  · have e : ¬ (20 : Int32) < nI (hs.length + 1) := of_decide_eq_false (ltL_f (c := 20) (show hs.length + 1 ≤ 20 by omega) (by decide))
    rw [if_neg e]
    congr 1
    omega
theorem c_remember {w : XW} {d : Dl} {s : Sc} {hs : List Sc} (hN : CN w d s) (hA : CA w d hs) (hl : hs.length ≤ 20) : ∃ w', F_X11_remember [.inr (10, 0)] w = some w' ∧ CA w' d ((s :: hs).take 20) ∧ Fr PRe w w' := by
  obtain ⟨h1, h2, an, h3, h4, h5⟩ := hA
  obtain ⟨w1, y1, y2, y3, y4⟩ := p_X9_copy (2 + an) 0 (by omega) w s hN.1
  have hF1 : Fr PRe w w1 := y4.mono (fun κ i k q => by unfold PSc at q; unfold PRe; omega)
  have a15 : gI w1 10 0 15 = nI an := by rw [(y4 10 0 15 (by unfold PSc; omega)).1]; exact h4
  have a16 : gI w1 10 0 16 = nI hs.length := by rw [(y4 10 0 16 (by unfold PSc; omega)).1]; exact h1
  have e15 := wrap20 (a := an + 1) (by omega)
  have e16 := cap20 (s := s) hl
  refine ⟨sI (sI w1 10 0 15 (nI ((an + 1) % 20))) 10 0 16 (nI (((s :: hs).take 20).length)), ?_, ⟨gIs_eq, fun q hq => ?_, (an + 1) % 20, by omega, by simp (disch := omega) only [true_and, and_true, false_and, and_false, beq_t, beq_f, eqN_t, eqN_f, eqL_t, eqL_f, nm1, nm2, nm1', nm2', m1z, m2z, zm1, zm2, m12, m21, lg_cmp_ge, lg_cmp_le, lg_cmp_gt, lg_cmp_lt, lg_cmp_eq, oob, oobL, neg0, negL0, natle_f, or_false, false_or, true_or, or_true, or_self, cl, clL, le_t, le_f, lt_t, lt_f, leL_t, leL_f, ltL_t, ltL_f, leM_t, leM_f, ltM_t, ltM_f, leO_t, leO_f, cond_true, cond_false, Option.bind_some, Option.bind_none, if_false, if_true, nI_1, aL1, aL2, mL1, mL2, nI_add, pk_mul, pk_m1, sL1, dL1, pk_sub, m1p1, gIs_eq, gIs_k, gIs_i, gIs_n, gIs_e, gIJ, gIR, gJI, gJR, gJs_eq, gJs_k, gJs_n, gJs_e, gRI, gRJ, gRs_eq, gRs_k, gRs_i, gRs_n, gZI, gZJ, gZR, pI_s, pJ_s, pV_s, pR_s, pR_n, oR_n, oR_s, decide_true, decide_false, not_true_eq_false, not_false_eq_true, decT, decF, Bool.true_eq_false, Bool.false_eq_true, z01, o01, z1f, z1f', zz, oo, b2i_0, b2i_n, b2i_t, b2i_f, Bool.not_true, Bool.not_false], fun q h hq => ?_⟩, ?_⟩
  · rw [f_X11_remember, e_X11_remember_0]
    simp (disch := omega) only [h4, h2 an h3, y1, a15, a16, e15, e16, true_and, and_true, false_and, and_false, beq_t, beq_f, eqN_t, eqN_f, eqL_t, eqL_f, nm1, nm2, nm1', nm2', m1z, m2z, zm1, zm2, m12, m21, lg_cmp_ge, lg_cmp_le, lg_cmp_gt, lg_cmp_lt, lg_cmp_eq, oob, oobL, neg0, negL0, natle_f, or_false, false_or, true_or, or_true, or_self, cl, clL, le_t, le_f, lt_t, lt_f, leL_t, leL_f, ltL_t, ltL_f, leM_t, leM_f, ltM_t, ltM_f, leO_t, leO_f, cond_true, cond_false, Option.bind_some, Option.bind_none, if_false, if_true, nI_1, aL1, aL2, mL1, mL2, nI_add, pk_mul, pk_m1, sL1, dL1, pk_sub, m1p1, gIs_eq, gIs_k, gIs_i, gIs_n, gIs_e, gIJ, gIR, gJI, gJR, gJs_eq, gJs_k, gJs_n, gJs_e, gRI, gRJ, gRs_eq, gRs_k, gRs_i, gRs_n, gZI, gZJ, gZR, pI_s, pJ_s, pV_s, pR_s, pR_n, oR_n, oR_s, decide_true, decide_false, not_true_eq_false, not_false_eq_true, decT, decF, Bool.true_eq_false, Bool.false_eq_true, z01, o01, z1f, z1f', zz, oo, b2i_0, b2i_n, b2i_t, b2i_f, Bool.not_true, Bool.not_false]
  · simp (disch := omega) only [true_and, and_true, false_and, and_false, beq_t, beq_f, eqN_t, eqN_f, eqL_t, eqL_f, nm1, nm2, nm1', nm2', m1z, m2z, zm1, zm2, m12, m21, lg_cmp_ge, lg_cmp_le, lg_cmp_gt, lg_cmp_lt, lg_cmp_eq, oob, oobL, neg0, negL0, natle_f, or_false, false_or, true_or, or_true, or_self, cl, clL, le_t, le_f, lt_t, lt_f, leL_t, leL_f, ltL_t, ltL_f, leM_t, leM_f, ltM_t, ltM_f, leO_t, leO_f, cond_true, cond_false, Option.bind_some, Option.bind_none, if_false, if_true, nI_1, aL1, aL2, mL1, mL2, nI_add, pk_mul, pk_m1, sL1, dL1, pk_sub, m1p1, gIs_eq, gIs_k, gIs_i, gIs_n, gIs_e, gIJ, gIR, gJI, gJR, gJs_eq, gJs_k, gJs_n, gJs_e, gRI, gRJ, gRs_eq, gRs_k, gRs_i, gRs_n, gZI, gZJ, gZR, pI_s, pJ_s, pV_s, pR_s, pR_n, oR_n, oR_s, decide_true, decide_false, not_true_eq_false, not_false_eq_true, decT, decF, Bool.true_eq_false, Bool.false_eq_true, z01, o01, z1f, z1f', zz, oo, b2i_0, b2i_n, b2i_t, b2i_f, Bool.not_true, Bool.not_false]
    rw [(y4 37 0 q (by unfold PSc; omega)).2.2.1]
    exact h2 q hq
  · have hF2 : Fr (fun κ _ _ => κ = 10) w1 (sI (sI w1 10 0 15 (nI ((an + 1) % 20))) 10 0 16 (nI (((s :: hs).take 20).length))) := ((Fr.refl _ _).sI rfl).sI rfl
    have hq20 : q < 20 := by
      have := (List.getElem?_eq_some_iff.mp hq).1
      rw [List.length_take] at this
      omega
    rw [List.getElem?_take_of_lt hq20] at hq
    match q, hq, hq20 with
    | 0, hq, _ =>
      have hq : s = h := Option.some.inj hq
      subst hq
      rw [show ((an + 1) % 20 + 19 - 0) % 20 = an by omega]
      exact ⟨y2.fr hF2 (fun κ k q => by omega), by simp (disch := omega) only [true_and, and_true, false_and, and_false, beq_t, beq_f, eqN_t, eqN_f, eqL_t, eqL_f, nm1, nm2, nm1', nm2', m1z, m2z, zm1, zm2, m12, m21, lg_cmp_ge, lg_cmp_le, lg_cmp_gt, lg_cmp_lt, lg_cmp_eq, oob, oobL, neg0, negL0, natle_f, or_false, false_or, true_or, or_true, or_self, cl, clL, le_t, le_f, lt_t, lt_f, leL_t, leL_f, ltL_t, ltL_f, leM_t, leM_f, ltM_t, ltM_f, leO_t, leO_f, cond_true, cond_false, Option.bind_some, Option.bind_none, if_false, if_true, nI_1, aL1, aL2, mL1, mL2, nI_add, pk_mul, pk_m1, sL1, dL1, pk_sub, m1p1, gIs_eq, gIs_k, gIs_i, gIs_n, gIs_e, gIJ, gIR, gJI, gJR, gJs_eq, gJs_k, gJs_n, gJs_e, gRI, gRJ, gRs_eq, gRs_k, gRs_i, gRs_n, gZI, gZJ, gZR, pI_s, pJ_s, pV_s, pR_s, pR_n, oR_n, oR_s, decide_true, decide_false, not_true_eq_false, not_false_eq_true, decT, decF, Bool.true_eq_false, Bool.false_eq_true, z01, o01, z1f, z1f', zz, oo, b2i_0, b2i_n, b2i_t, b2i_f, Bool.not_true, Bool.not_false]; exact y3.trans hN.2⟩
    | q + 1, hq, hq20 =>
      have hq : hs[q]? = some h := hq
      rw [show ((an + 1) % 20 + 19 - (q + 1)) % 20 = (an + 19 - q) % 20 by omega]
      obtain ⟨z1, z2⟩ := h5 q h hq
      have hne : (an + 19 - q) % 20 ≠ an := by omega
      exact ⟨(z1.fr y4 (fun κ k q => by unfold PSc; omega)).fr hF2 (fun κ k q => by omega), by simp (disch := omega) only [true_and, and_true, false_and, and_false, beq_t, beq_f, eqN_t, eqN_f, eqL_t, eqL_f, nm1, nm2, nm1', nm2', m1z, m2z, zm1, zm2, m12, m21, lg_cmp_ge, lg_cmp_le, lg_cmp_gt, lg_cmp_lt, lg_cmp_eq, oob, oobL, neg0, negL0, natle_f, or_false, false_or, true_or, or_true, or_self, cl, clL, le_t, le_f, lt_t, lt_f, leL_t, leL_f, ltL_t, ltL_f, leM_t, leM_f, ltM_t, ltM_f, leO_t, leO_f, cond_true, cond_false, Option.bind_some, Option.bind_none, if_false, if_true, nI_1, aL1, aL2, mL1, mL2, nI_add, pk_mul, pk_m1, sL1, dL1, pk_sub, m1p1, gIs_eq, gIs_k, gIs_i, gIs_n, gIs_e, gIJ, gIR, gJI, gJR, gJs_eq, gJs_k, gJs_n, gJs_e, gRI, gRJ, gRs_eq, gRs_k, gRs_i, gRs_n, gZI, gZJ, gZR, pI_s, pJ_s, pV_s, pR_s, pR_n, oR_n, oR_s, decide_true, decide_false, not_true_eq_false, not_false_eq_true, decT, decF, Bool.true_eq_false, Bool.false_eq_true, z01, o01, z1f, z1f', zz, oo, b2i_0, b2i_n, b2i_t, b2i_f, Bool.not_true, Bool.not_false]; rw [(y4 8 _ 0 (by unfold PSc; omega)).1]; exact z2⟩
  · exact (hF1.sI (by unfold PRe; omega)).sI (by unfold PRe; omega)
theorem ka50 {w : XW} {s : Sc} {t : List Sc} (hs : MsAt w s) (hA : MA w t) (hl : t.length < 20) : ∃ w', q_X12_keepsAct_50 w = some (none, w') ∧ MA w' (s :: t) ∧ Fr PKa w w' := by
  obtain ⟨w1, h1, h2, h3, h4⟩ := loop0 25 (fun k v => q_X12_keepsAct_52 (nI k) v) (fun v => q_X12_keepsAct_87 v) (fun k v => Fr (fun κ _ _ => κ = 52) w v ∧ (∀ i, i < k → gI v 52 0 (25 * t.length + i) = flS s i) ∧ ∀ i, i < 25 * t.length → gI v 52 0 i = gI w 52 0 i) (s := w) ⟨Fr.refl _ _, fun i hi => absurd hi (by omega), fun _ _ => rfl⟩ (fun k v hk hi => by
      obtain ⟨b1, b2, b3⟩ := hi
      have g : gI v 11 0 26 = nI t.length := by rw [(b1 11 0 26 (by omega)).1]; exact hA.1
      have gf := fl_of_Ms (hs.fr b1 (fun k q => by omega)) hk
      have gf : gI v 50 0 (10 + k) = flS s k := gf
      ((try dsimp only); rw [e_X12_keepsAct_52]; simp (disch := omega) only [e_X12_keepsAct_58, g, gf, true_and, and_true, false_and, and_false, beq_t, beq_f, eqN_t, eqN_f, eqL_t, eqL_f, nm1, nm2, nm1', nm2', m1z, m2z, zm1, zm2, m12, m21, lg_cmp_ge, lg_cmp_le, lg_cmp_gt, lg_cmp_lt, lg_cmp_eq, oob, oobL, neg0, negL0, natle_f, or_false, false_or, true_or, or_true, or_self, cl, clL, le_t, le_f, lt_t, lt_f, leL_t, leL_f, ltL_t, ltL_f, leM_t, leM_f, ltM_t, ltM_f, leO_t, leO_f, cond_true, cond_false, Option.bind_some, Option.bind_none, if_false, if_true, nI_1, aL1, aL2, mL1, mL2, nI_add, pk_mul, pk_m1, sL1, dL1, pk_sub, m1p1, gIs_eq, gIs_k, gIs_i, gIs_n, gIs_e, gIJ, gIR, gJI, gJR, gJs_eq, gJs_k, gJs_n, gJs_e, gRI, gRJ, gRs_eq, gRs_k, gRs_i, gRs_n, gZI, gZJ, gZR, pI_s, pJ_s, pV_s, pR_s, pR_n, oR_n, oR_s, decide_true, decide_false, not_true_eq_false, not_false_eq_true, decT, decF, Bool.true_eq_false, Bool.false_eq_true, z01, o01, z1f, z1f', zz, oo, b2i_0, b2i_n, b2i_t, b2i_f, Bool.not_true, Bool.not_false])
      refine ⟨_, rfl, b1.sI rfl, fun i hi => ?_, fun i hi => ?_⟩
      · by_cases q : i = k
        · subst q; exact gIs_eq
        · rw [gIs_k (by omega)]
          exact b2 i (by omega)
      · rw [gIs_k (by omega)]
        exact b3 i hi) (fun v hi => by ((try dsimp only); rw [e_X12_keepsAct_52]; simp (disch := omega) only [true_and, and_true, false_and, and_false, beq_t, beq_f, eqN_t, eqN_f, eqL_t, eqL_f, nm1, nm2, nm1', nm2', m1z, m2z, zm1, zm2, m12, m21, lg_cmp_ge, lg_cmp_le, lg_cmp_gt, lg_cmp_lt, lg_cmp_eq, oob, oobL, neg0, negL0, natle_f, or_false, false_or, true_or, or_true, or_self, cl, clL, le_t, le_f, lt_t, lt_f, leL_t, leL_f, ltL_t, ltL_f, leM_t, leM_f, ltM_t, ltM_f, leO_t, leO_f, cond_true, cond_false, Option.bind_some, Option.bind_none, if_false, if_true, nI_1, aL1, aL2, mL1, mL2, nI_add, pk_mul, pk_m1, sL1, dL1, pk_sub, m1p1, gIs_eq, gIs_k, gIs_i, gIs_n, gIs_e, gIJ, gIR, gJI, gJR, gJs_eq, gJs_k, gJs_n, gJs_e, gRI, gRJ, gRs_eq, gRs_k, gRs_i, gRs_n, gZI, gZJ, gZR, pI_s, pJ_s, pV_s, pR_s, pR_n, oR_n, oR_s, decide_true, decide_false, not_true_eq_false, not_false_eq_true, decT, decF, Bool.true_eq_false, Bool.false_eq_true, z01, o01, z1f, z1f', zz, oo, b2i_0, b2i_n, b2i_t, b2i_f, Bool.not_true, Bool.not_false]))
  have g : gI w1 11 0 26 = nI t.length := by rw [(h2 11 0 26 (by omega)).1]; exact hA.1
  refine ⟨sI w1 11 0 26 (nI (t.length + 1)), ?_, ⟨gIs_eq, fun q h hq k hk => ?_⟩, ?_⟩
  · rw [nI_0] at h1
    rw [e_X12_keepsAct_50, h1, e_X12_keepsAct_87]
    simp (disch := omega) only [g, true_and, and_true, false_and, and_false, beq_t, beq_f, eqN_t, eqN_f, eqL_t, eqL_f, nm1, nm2, nm1', nm2', m1z, m2z, zm1, zm2, m12, m21, lg_cmp_ge, lg_cmp_le, lg_cmp_gt, lg_cmp_lt, lg_cmp_eq, oob, oobL, neg0, negL0, natle_f, or_false, false_or, true_or, or_true, or_self, cl, clL, le_t, le_f, lt_t, lt_f, leL_t, leL_f, ltL_t, ltL_f, leM_t, leM_f, ltM_t, ltM_f, leO_t, leO_f, cond_true, cond_false, Option.bind_some, Option.bind_none, if_false, if_true, nI_1, aL1, aL2, mL1, mL2, nI_add, pk_mul, pk_m1, sL1, dL1, pk_sub, m1p1, gIs_eq, gIs_k, gIs_i, gIs_n, gIs_e, gIJ, gIR, gJI, gJR, gJs_eq, gJs_k, gJs_n, gJs_e, gRI, gRJ, gRs_eq, gRs_k, gRs_i, gRs_n, gZI, gZJ, gZR, pI_s, pJ_s, pV_s, pR_s, pR_n, oR_n, oR_s, decide_true, decide_false, not_true_eq_false, not_false_eq_true, decT, decF, Bool.true_eq_false, Bool.false_eq_true, z01, o01, z1f, z1f', zz, oo, b2i_0, b2i_n, b2i_t, b2i_f, Bool.not_true, Bool.not_false]
  · simp (disch := omega) only [true_and, and_true, false_and, and_false, beq_t, beq_f, eqN_t, eqN_f, eqL_t, eqL_f, nm1, nm2, nm1', nm2', m1z, m2z, zm1, zm2, m12, m21, lg_cmp_ge, lg_cmp_le, lg_cmp_gt, lg_cmp_lt, lg_cmp_eq, oob, oobL, neg0, negL0, natle_f, or_false, false_or, true_or, or_true, or_self, cl, clL, le_t, le_f, lt_t, lt_f, leL_t, leL_f, ltL_t, ltL_f, leM_t, leM_f, ltM_t, ltM_f, leO_t, leO_f, cond_true, cond_false, Option.bind_some, Option.bind_none, if_false, if_true, nI_1, aL1, aL2, mL1, mL2, nI_add, pk_mul, pk_m1, sL1, dL1, pk_sub, m1p1, gIs_eq, gIs_k, gIs_i, gIs_n, gIs_e, gIJ, gIR, gJI, gJR, gJs_eq, gJs_k, gJs_n, gJs_e, gRI, gRJ, gRs_eq, gRs_k, gRs_i, gRs_n, gZI, gZJ, gZR, pI_s, pJ_s, pV_s, pR_s, pR_n, oR_n, oR_s, decide_true, decide_false, not_true_eq_false, not_false_eq_true, decT, decF, Bool.true_eq_false, Bool.false_eq_true, z01, o01, z1f, z1f', zz, oo, b2i_0, b2i_n, b2i_t, b2i_f, Bool.not_true, Bool.not_false]
    match q, hq with
    | 0, hq =>
      have hq : s = h := Option.some.inj hq
      subst hq
      show gI w1 52 0 (25 * (t.length + 1 - 1 - 0) + k) = _
      rw [show 25 * (t.length + 1 - 1 - 0) + k = 25 * t.length + k by omega]
      exact h3 k hk
    | q + 1, hq =>
      have hq : t[q]? = some h := hq
      have hlt := (List.getElem?_eq_some_iff.mp hq).1
      show gI w1 52 0 (25 * (t.length + 1 - 1 - (q + 1)) + k) = _
      rw [show 25 * (t.length + 1 - 1 - (q + 1)) + k = 25 * (t.length - 1 - q) + k by omega, h4 _ (by omega)]
      exact hA.2 q h hq k hk
  · exact (h2.mono (fun κ i k q => by unfold PKa; omega)).sI (by unfold PKa; omega)
theorem m_keepsAct {w : XW} {s : Sc} {hs : List Sc} (hs' : MsAt w s) (hA : MA w hs) (hl : hs.length ≤ 20) : ∃ w', F_X12_keepsAct [.inr (11, 0)] w = some w' ∧ MA w' ((s :: hs).take 20) ∧ Fr PKa w w' := by
  have g : gI w 11 0 26 = nI hs.length := hA.1
  by_cases h20 : hs.length = 20
  · obtain ⟨w1, h1, h2, h3, h4⟩ := loop0 475 (fun k v => q_X12_keepsAct_12 (nI (25 + k)) v) (fun v => q_X12_keepsAct_40 v) (fun k v => Fr (fun κ _ _ => κ = 52) w v ∧ (∀ i, i < k → gI v 52 0 i = gI w 52 0 (25 + i)) ∧ ∀ i, k ≤ i → gI v 52 0 i = gI w 52 0 i) (s := w) ⟨Fr.refl _ _, fun i hi => absurd hi (by omega), fun _ _ => rfl⟩ (fun k v hk hi => by
      obtain ⟨b1, b2, b3⟩ := hi
      have e := b3 (25 + k) (by omega)
      ((try dsimp only); rw [e_X12_keepsAct_12]; simp (disch := omega) only [e_X12_keepsAct_19, e, true_and, and_true, false_and, and_false, beq_t, beq_f, eqN_t, eqN_f, eqL_t, eqL_f, nm1, nm2, nm1', nm2', m1z, m2z, zm1, zm2, m12, m21, lg_cmp_ge, lg_cmp_le, lg_cmp_gt, lg_cmp_lt, lg_cmp_eq, oob, oobL, neg0, negL0, natle_f, or_false, false_or, true_or, or_true, or_self, cl, clL, le_t, le_f, lt_t, lt_f, leL_t, leL_f, ltL_t, ltL_f, leM_t, leM_f, ltM_t, ltM_f, leO_t, leO_f, cond_true, cond_false, Option.bind_some, Option.bind_none, if_false, if_true, nI_1, aL1, aL2, mL1, mL2, nI_add, pk_mul, pk_m1, sL1, dL1, pk_sub, m1p1, gIs_eq, gIs_k, gIs_i, gIs_n, gIs_e, gIJ, gIR, gJI, gJR, gJs_eq, gJs_k, gJs_n, gJs_e, gRI, gRJ, gRs_eq, gRs_k, gRs_i, gRs_n, gZI, gZJ, gZR, pI_s, pJ_s, pV_s, pR_s, pR_n, oR_n, oR_s, decide_true, decide_false, not_true_eq_false, not_false_eq_true, decT, decF, Bool.true_eq_false, Bool.false_eq_true, z01, o01, z1f, z1f', zz, oo, b2i_0, b2i_n, b2i_t, b2i_f, Bool.not_true, Bool.not_false])
      refine ⟨_, rfl, b1.sI rfl, fun i hi => ?_, fun i hi => ?_⟩
      · by_cases q : i = k
        · subst q
          rw [show 25 + i - 25 = i by omega]
          exact gIs_eq
        · rw [gIs_k (by omega)]
          exact b2 i (by omega)
      · rw [gIs_k (by omega)]
        exact b3 i (by omega)) (fun v hi => by ((try dsimp only); rw [e_X12_keepsAct_12]; simp (disch := omega) only [true_and, and_true, false_and, and_false, beq_t, beq_f, eqN_t, eqN_f, eqL_t, eqL_f, nm1, nm2, nm1', nm2', m1z, m2z, zm1, zm2, m12, m21, lg_cmp_ge, lg_cmp_le, lg_cmp_gt, lg_cmp_lt, lg_cmp_eq, oob, oobL, neg0, negL0, natle_f, or_false, false_or, true_or, or_true, or_self, cl, clL, le_t, le_f, lt_t, lt_f, leL_t, leL_f, ltL_t, ltL_f, leM_t, leM_f, ltM_t, ltM_f, leO_t, leO_f, cond_true, cond_false, Option.bind_some, Option.bind_none, if_false, if_true, nI_1, aL1, aL2, mL1, mL2, nI_add, pk_mul, pk_m1, sL1, dL1, pk_sub, m1p1, gIs_eq, gIs_k, gIs_i, gIs_n, gIs_e, gIJ, gIR, gJI, gJR, gJs_eq, gJs_k, gJs_n, gJs_e, gRI, gRJ, gRs_eq, gRs_k, gRs_i, gRs_n, gZI, gZJ, gZR, pI_s, pJ_s, pV_s, pR_s, pR_n, oR_n, oR_s, decide_true, decide_false, not_true_eq_false, not_false_eq_true, decT, decF, Bool.true_eq_false, Bool.false_eq_true, z01, o01, z1f, z1f', zz, oo, b2i_0, b2i_n, b2i_t, b2i_f, Bool.not_true, Bool.not_false]))
    have h1 : q_X12_keepsAct_12 25 w = q_X12_keepsAct_40 w1 := h1
    have g1 : gI w1 11 0 26 = nI 20 := by rw [(h2 11 0 26 (by omega)).1, g, h20]
    have hm : MsAt (sI w1 11 0 26 (nI 19)) s := (hs'.fr h2 (fun k q => by omega)).fr (P := fun κ _ _ => κ = 11) ((Fr.refl _ _).sI rfl) (fun k q => by omega)
    have hl19 : (hs.take 19).length = 19 := by rw [List.length_take]; omega
    have hA1 : MA (sI w1 11 0 26 (nI 19)) (hs.take 19) := by
      refine ⟨by rw [hl19]; exact gIs_eq, fun q h hq k hk => ?_⟩
      have hlt := (List.getElem?_eq_some_iff.mp hq).1
      rw [hl19] at hlt ⊢
      rw [List.getElem?_take_of_lt hlt] at hq
      simp (disch := omega) only [true_and, and_true, false_and, and_false, beq_t, beq_f, eqN_t, eqN_f, eqL_t, eqL_f, nm1, nm2, nm1', nm2', m1z, m2z, zm1, zm2, m12, m21, lg_cmp_ge, lg_cmp_le, lg_cmp_gt, lg_cmp_lt, lg_cmp_eq, oob, oobL, neg0, negL0, natle_f, or_false, false_or, true_or, or_true, or_self, cl, clL, le_t, le_f, lt_t, lt_f, leL_t, leL_f, ltL_t, ltL_f, leM_t, leM_f, ltM_t, ltM_f, leO_t, leO_f, cond_true, cond_false, Option.bind_some, Option.bind_none, if_false, if_true, nI_1, aL1, aL2, mL1, mL2, nI_add, pk_mul, pk_m1, sL1, dL1, pk_sub, m1p1, gIs_eq, gIs_k, gIs_i, gIs_n, gIs_e, gIJ, gIR, gJI, gJR, gJs_eq, gJs_k, gJs_n, gJs_e, gRI, gRJ, gRs_eq, gRs_k, gRs_i, gRs_n, gZI, gZJ, gZR, pI_s, pJ_s, pV_s, pR_s, pR_n, oR_n, oR_s, decide_true, decide_false, not_true_eq_false, not_false_eq_true, decT, decF, Bool.true_eq_false, Bool.false_eq_true, z01, o01, z1f, z1f', zz, oo, b2i_0, b2i_n, b2i_t, b2i_f, Bool.not_true, Bool.not_false]
      rw [h3 _ (by omega), show 25 + (25 * (19 - 1 - q) + k) = 25 * (hs.length - 1 - q) + k by omega]
      exact hA.2 q h hq k hk
    obtain ⟨w2, k1, k2, k3⟩ := ka50 hm hA1 (by omega)
    have hF : Fr PKa w (sI w1 11 0 26 (nI 19)) := (h2.mono (fun κ i k q => by unfold PKa; omega)).sI (by unfold PKa; omega)
    have e19 : nI 20 - 1 = nI 19 := by decide
    refine ⟨w2, ?_, k2, hF.trans k3⟩
    rw [f_X12_keepsAct, e_X12_keepsAct_0]
    simp (disch := omega) only [g, h20, e_X12_keepsAct_9, h1, e_X12_keepsAct_40, g1, e19, k1, true_and, and_true, false_and, and_false, beq_t, beq_f, eqN_t, eqN_f, eqL_t, eqL_f, nm1, nm2, nm1', nm2', m1z, m2z, zm1, zm2, m12, m21, lg_cmp_ge, lg_cmp_le, lg_cmp_gt, lg_cmp_lt, lg_cmp_eq, oob, oobL, neg0, negL0, natle_f, or_false, false_or, true_or, or_true, or_self, cl, clL, le_t, le_f, lt_t, lt_f, leL_t, leL_f, ltL_t, ltL_f, leM_t, leM_f, ltM_t, ltM_f, leO_t, leO_f, cond_true, cond_false, Option.bind_some, Option.bind_none, if_false, if_true, nI_1, aL1, aL2, mL1, mL2, nI_add, pk_mul, pk_m1, sL1, dL1, pk_sub, m1p1, gIs_eq, gIs_k, gIs_i, gIs_n, gIs_e, gIJ, gIR, gJI, gJR, gJs_eq, gJs_k, gJs_n, gJs_e, gRI, gRJ, gRs_eq, gRs_k, gRs_i, gRs_n, gZI, gZJ, gZR, pI_s, pJ_s, pV_s, pR_s, pR_n, oR_n, oR_s, decide_true, decide_false, not_true_eq_false, not_false_eq_true, decT, decF, Bool.true_eq_false, Bool.false_eq_true, z01, o01, z1f, z1f', zz, oo, b2i_0, b2i_n, b2i_t, b2i_f, Bool.not_true, Bool.not_false]
  · obtain ⟨w2, k1, k2, k3⟩ := ka50 hs' hA (by omega)
    refine ⟨w2, ?_, ?_, k3⟩
    · rw [f_X12_keepsAct, e_X12_keepsAct_0]
      simp (disch := omega) only [g, k1, true_and, and_true, false_and, and_false, beq_t, beq_f, eqN_t, eqN_f, eqL_t, eqL_f, nm1, nm2, nm1', nm2', m1z, m2z, zm1, zm2, m12, m21, lg_cmp_ge, lg_cmp_le, lg_cmp_gt, lg_cmp_lt, lg_cmp_eq, oob, oobL, neg0, negL0, natle_f, or_false, false_or, true_or, or_true, or_self, cl, clL, le_t, le_f, lt_t, lt_f, leL_t, leL_f, ltL_t, ltL_f, leM_t, leM_f, ltM_t, ltM_f, leO_t, leO_f, cond_true, cond_false, Option.bind_some, Option.bind_none, if_false, if_true, nI_1, aL1, aL2, mL1, mL2, nI_add, pk_mul, pk_m1, sL1, dL1, pk_sub, m1p1, gIs_eq, gIs_k, gIs_i, gIs_n, gIs_e, gIJ, gIR, gJI, gJR, gJs_eq, gJs_k, gJs_n, gJs_e, gRI, gRJ, gRs_eq, gRs_k, gRs_i, gRs_n, gZI, gZJ, gZR, pI_s, pJ_s, pV_s, pR_s, pR_n, oR_n, oR_s, decide_true, decide_false, not_true_eq_false, not_false_eq_true, decT, decF, Bool.true_eq_false, Bool.false_eq_true, z01, o01, z1f, z1f', zz, oo, b2i_0, b2i_n, b2i_t, b2i_f, Bool.not_true, Bool.not_false]
    · rw [List.take_of_length_le (by rw [List.length_cons]; omega)]
      exact k2
