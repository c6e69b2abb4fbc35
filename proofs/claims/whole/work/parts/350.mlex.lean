/-! ===== the model: blanks, numbers, words ===== -/
def MTp (w : XW) (t : Tp) (p : Nat) : Prop := MT w t.1 t.2 ∧ gI w 11 0 8 = nI p ∧ gI w 11 0 9 = 0 ∧ p ≤ t.1
def PM8 (κ _j k : Nat) : Prop := κ = 11 ∧ k = 8
def PMl (κ _j k : Nat) : Prop := κ = 11 ∧ (8 ≤ k ∧ k ≤ 10)
theorem MTp.fr {w w' : XW} {t : Tp} {p : Nat} (h : MTp w t p) {P : Nat → Nat → Nat → Prop} (hF : Fr P w w') (hP : ∀ κ k, (κ = 11 ∧ (k = 1 ∨ k = 8 ∨ k = 9)) ∨ κ = 41 → ¬ P κ 0 k) : MTp w' t p :=
  ⟨h.1.fr hF (fun κ k q => hP κ k (by omega)), by rw [(hF 11 0 8 (hP _ _ (by omega))).1]; exact h.2.1, by rw [(hF 11 0 9 (hP _ _ (by omega))).1]; exact h.2.2.1, h.2.2.2⟩
theorem MTp.to {w : XW} {t : Tp} {p q : Nat} (h : MTp w t p) (hq : q ≤ t.1) : MTp (sI w 11 0 8 (nI q)) t q := by
  have F1 : Fr PM8 w (sI w 11 0 8 (nI q)) := (Fr.refl _ _).sI ⟨rfl, rfl⟩
  exact ⟨h.1.fr F1 (fun κ k q => by unfold PM8; omega), gIs_eq, by rw [gIs_k (by omega)]; exact h.2.2.1, hq⟩
theorem sb_f : ∀ b : Fin 256, (decide (¬ sbS b.val = 32) = !isB b.val) ∧ sbS b.val &&& 255 = nI b.val ∧ ((decide (sbS b.val < 48) || decide (57 < sbS b.val)) = !isD b.val) ∧ ((decide (sbS b.val < 97) || decide (122 < sbS b.val)) = !isL b.val) ∧ ((isD b.val || isL b.val) = true → sbS b.val = nI b.val) := by decide +kernel
theorem m_see {w : XW} {t : Tp} (hT : TOk2 t) {p : Nat} (h : MTp w t p) : ∃ w', F_X12_see [.inr (11, 0)] w = some (chS t (sk t p), w') ∧ MTp w' t (sk t p) ∧ Fr PM8 w w' := by
  have h4 := hT.1
  have last : ∀ p (w : XW), MTp w t p → q_X12_see_38 w = some (some (.inl (.int (chS t p))), w) := by
    intro p w h
    obtain ⟨h1, h2, h0, h3⟩ := h
    have g := h1.1
    unfold chS
    by_cases e : p < t.1
    · have b := h1.2 p e
      have f := (sb_f ⟨t.2 p, hT.2 p e⟩).2.1
      dsimp only at f
      rw [if_pos e, e_X12_see_38]
      simp (disch := omega) only [g, h2, e_X12_see_49, b, f, e_X12_see_66, true_and, and_true, false_and, and_false, beq_t, beq_f, eqN_t, eqN_f, eqL_t, eqL_f, nm1, nm2, nm1', nm2', m1z, m2z, zm1, zm2, m12, m21, lg_cmp_ge, lg_cmp_le, lg_cmp_gt, lg_cmp_lt, lg_cmp_eq, oob, oobL, neg0, negL0, natle_f, or_false, false_or, true_or, or_true, or_self, cl, clL, le_t, le_f, lt_t, lt_f, leL_t, leL_f, ltL_t, ltL_f, leM_t, leM_f, ltM_t, ltM_f, leO_t, leO_f, cond_true, cond_false, Option.bind_some, Option.bind_none, if_false, if_true, nI_1, aL1, aL2, mL1, mL2, nI_add, pk_mul, pk_m1, sL1, dL1, pk_sub, m1p1, gIs_eq, gIs_k, gIs_i, gIs_n, gIs_e, gIJ, gIR, gJI, gJR, gJs_eq, gJs_k, gJs_n, gJs_e, gRI, gRJ, gRs_eq, gRs_k, gRs_i, gRs_n, gZI, gZJ, gZR, pI_s, pJ_s, pV_s, pR_s, pR_n, oR_n, oR_s, decide_true, decide_false, not_true_eq_false, not_false_eq_true, decT, decF, Bool.true_eq_false, Bool.false_eq_true, z01, o01, z1f, z1f', zz, oo, b2i_0, b2i_n, b2i_t, b2i_f, Bool.not_true, Bool.not_false]
    · rw [if_neg e, e_X12_see_38]
      simp (disch := omega) only [g, h2, e_X12_see_65, e_X12_see_66, true_and, and_true, false_and, and_false, beq_t, beq_f, eqN_t, eqN_f, eqL_t, eqL_f, nm1, nm2, nm1', nm2', m1z, m2z, zm1, zm2, m12, m21, lg_cmp_ge, lg_cmp_le, lg_cmp_gt, lg_cmp_lt, lg_cmp_eq, oob, oobL, neg0, negL0, natle_f, or_false, false_or, true_or, or_true, or_self, cl, clL, le_t, le_f, lt_t, lt_f, leL_t, leL_f, ltL_t, ltL_f, leM_t, leM_f, ltM_t, ltM_f, leO_t, leO_f, cond_true, cond_false, Option.bind_some, Option.bind_none, if_false, if_true, nI_1, aL1, aL2, mL1, mL2, nI_add, pk_mul, pk_m1, sL1, dL1, pk_sub, m1p1, gIs_eq, gIs_k, gIs_i, gIs_n, gIs_e, gIJ, gIR, gJI, gJR, gJs_eq, gJs_k, gJs_n, gJs_e, gRI, gRJ, gRs_eq, gRs_k, gRs_i, gRs_n, gZI, gZJ, gZR, pI_s, pJ_s, pV_s, pR_s, pR_n, oR_n, oR_s, decide_true, decide_false, not_true_eq_false, not_false_eq_true, decT, decF, Bool.true_eq_false, Bool.false_eq_true, z01, o01, z1f, z1f', zz, oo, b2i_0, b2i_n, b2i_t, b2i_f, Bool.not_true, Bool.not_false]
  have key : ∀ m p (w : XW), p + m = t.1 → MTp w t p → ∃ w', q_X12_see_0 w = some (some (.inl (.int (chS t (rnN (fun i => isB (t.2 i)) m p)))), w') ∧ MTp w' t (rnN (fun i => isB (t.2 i)) m p) ∧ Fr PM8 w w' := by
    intro m
    induction m with
    | zero =>
      intro p w hm h
      have hl := last p w h
      obtain ⟨h1, h2, h0, h3⟩ := h
      have g := h1.1
      refine ⟨w, ?_, ⟨h1, h2, h0, h3⟩, Fr.refl _ _⟩
      ((try dsimp only); rw [e_X12_see_0]; simp (disch := omega) only [g, h2, hl, true_and, and_true, false_and, and_false, beq_t, beq_f, eqN_t, eqN_f, eqL_t, eqL_f, nm1, nm2, nm1', nm2', m1z, m2z, zm1, zm2, m12, m21, lg_cmp_ge, lg_cmp_le, lg_cmp_gt, lg_cmp_lt, lg_cmp_eq, oob, oobL, neg0, negL0, natle_f, or_false, false_or, true_or, or_true, or_self, cl, clL, le_t, le_f, lt_t, lt_f, leL_t, leL_f, ltL_t, ltL_f, leM_t, leM_f, ltM_t, ltM_f, leO_t, leO_f, cond_true, cond_false, Option.bind_some, Option.bind_none, if_false, if_true, nI_1, aL1, aL2, mL1, mL2, nI_add, pk_mul, pk_m1, sL1, dL1, pk_sub, m1p1, gIs_eq, gIs_k, gIs_i, gIs_n, gIs_e, gIJ, gIR, gJI, gJR, gJs_eq, gJs_k, gJs_n, gJs_e, gRI, gRJ, gRs_eq, gRs_k, gRs_i, gRs_n, gZI, gZJ, gZR, pI_s, pJ_s, pV_s, pR_s, pR_n, oR_n, oR_s, decide_true, decide_false, not_true_eq_false, not_false_eq_true, decT, decF, Bool.true_eq_false, Bool.false_eq_true, z01, o01, z1f, z1f', zz, oo, b2i_0, b2i_n, b2i_t, b2i_f, Bool.not_true, Bool.not_false])
      rfl
    | succ m ih =>
      intro p w hm h
      have hl := last p w h
      obtain ⟨h1, h2, h0, h3⟩ := h
      have g := h1.1
      have b := h1.2 p (by omega)
      have e := (sb_f ⟨t.2 p, hT.2 p (by omega)⟩).1
      dsimp only at e
      have e2 : rnN (fun i => isB (t.2 i)) (m + 1) p = if isB (t.2 p) = true then rnN (fun i => isB (t.2 i)) m (p + 1) else p := rfl
      rw [e2]
      cases hq : isB (t.2 p) with
      | false =>
        rw [hq] at e
        rw [if_neg Bool.false_ne_true]
        refine ⟨w, ?_, ⟨h1, h2, h0, h3⟩, Fr.refl _ _⟩
        ((try dsimp only); rw [e_X12_see_0]; simp (disch := omega) only [g, h2, e_X12_see_11, b, e, hl, true_and, and_true, false_and, and_false, beq_t, beq_f, eqN_t, eqN_f, eqL_t, eqL_f, nm1, nm2, nm1', nm2', m1z, m2z, zm1, zm2, m12, m21, lg_cmp_ge, lg_cmp_le, lg_cmp_gt, lg_cmp_lt, lg_cmp_eq, oob, oobL, neg0, negL0, natle_f, or_false, false_or, true_or, or_true, or_self, cl, clL, le_t, le_f, lt_t, lt_f, leL_t, leL_f, ltL_t, ltL_f, leM_t, leM_f, ltM_t, ltM_f, leO_t, leO_f, cond_true, cond_false, Option.bind_some, Option.bind_none, if_false, if_true, nI_1, aL1, aL2, mL1, mL2, nI_add, pk_mul, pk_m1, sL1, dL1, pk_sub, m1p1, gIs_eq, gIs_k, gIs_i, gIs_n, gIs_e, gIJ, gIR, gJI, gJR, gJs_eq, gJs_k, gJs_n, gJs_e, gRI, gRJ, gRs_eq, gRs_k, gRs_i, gRs_n, gZI, gZJ, gZR, pI_s, pJ_s, pV_s, pR_s, pR_n, oR_n, oR_s, decide_true, decide_false, not_true_eq_false, not_false_eq_true, decT, decF, Bool.true_eq_false, Bool.false_eq_true, z01, o01, z1f, z1f', zz, oo, b2i_0, b2i_n, b2i_t, b2i_f, Bool.not_true, Bool.not_false])
      | true =>
        rw [hq] at e
        rw [if_pos rfl]
        obtain ⟨w', k1, k2, k3⟩ := ih (p + 1) (sI w 11 0 8 (nI (p + 1))) (by omega) (MTp.to ⟨h1, h2, h0, h3⟩ (by omega))
        refine ⟨w', ?_, k2, ((Fr.refl _ _).sI ⟨rfl, rfl⟩).trans k3⟩
        rw [← k1]
        ((try dsimp only); rw [e_X12_see_0]; simp (disch := omega) only [g, h2, e_X12_see_11, b, e, e_X12_see_25, true_and, and_true, false_and, and_false, beq_t, beq_f, eqN_t, eqN_f, eqL_t, eqL_f, nm1, nm2, nm1', nm2', m1z, m2z, zm1, zm2, m12, m21, lg_cmp_ge, lg_cmp_le, lg_cmp_gt, lg_cmp_lt, lg_cmp_eq, oob, oobL, neg0, negL0, natle_f, or_false, false_or, true_or, or_true, or_self, cl, clL, le_t, le_f, lt_t, lt_f, leL_t, leL_f, ltL_t, ltL_f, leM_t, leM_f, ltM_t, ltM_f, leO_t, leO_f, cond_true, cond_false, Option.bind_some, Option.bind_none, if_false, if_true, nI_1, aL1, aL2, mL1, mL2, nI_add, pk_mul, pk_m1, sL1, dL1, pk_sub, m1p1, gIs_eq, gIs_k, gIs_i, gIs_n, gIs_e, gIJ, gIR, gJI, gJR, gJs_eq, gJs_k, gJs_n, gJs_e, gRI, gRJ, gRs_eq, gRs_k, gRs_i, gRs_n, gZI, gZJ, gZR, pI_s, pJ_s, pV_s, pR_s, pR_n, oR_n, oR_s, decide_true, decide_false, not_true_eq_false, not_false_eq_true, decT, decF, Bool.true_eq_false, Bool.false_eq_true, z01, o01, z1f, z1f', zz, oo, b2i_0, b2i_n, b2i_t, b2i_f, Bool.not_true, Bool.not_false])
  have h3 := h.2.2.2
  obtain ⟨w', k1, k2, k3⟩ := key (t.1 - p) p w (by omega) h
  refine ⟨w', ?_, k2, k3⟩
  rw [f_X12_see, k1]
  rfl
theorem m_isDigit {w : XW} {t : Tp} (hT : TOk2 t) (h : MT w t.1 t.2) {p : Nat} (hp : p ≤ 400) : F_X12_isDigit [.inr (11, 0), .inl (.int (nI p))] w = some (b2i (decide (p < t.1) && isD (t.2 p)), w) := by
  have h4 := hT.1
  have g := h.1
  rw [f_X12_isDigit, e_X12_isDigit_0]
  by_cases e : p < t.1
  · have b := h.2 p e
    have f := (sb_f ⟨t.2 p, hT.2 p e⟩).2.2.1
    dsimp only at f
    rw [decT e, Bool.true_and]
    cases c1 : decide (sbS (t.2 p) < 48) with
    | true =>
      rw [c1, Bool.true_or] at f
      have f : isD (t.2 p) = false := by cases q : isD (t.2 p) <;> simp_all
      rw [f]
      simp (disch := omega) only [g, e_X12_isDigit_8, b, c1, e_X12_isDigit_34, e_X12_isDigit_35, true_and, and_true, false_and, and_false, beq_t, beq_f, eqN_t, eqN_f, eqL_t, eqL_f, nm1, nm2, nm1', nm2', m1z, m2z, zm1, zm2, m12, m21, lg_cmp_ge, lg_cmp_le, lg_cmp_gt, lg_cmp_lt, lg_cmp_eq, oob, oobL, neg0, negL0, natle_f, or_false, false_or, true_or, or_true, or_self, cl, clL, le_t, le_f, lt_t, lt_f, leL_t, leL_f, ltL_t, ltL_f, leM_t, leM_f, ltM_t, ltM_f, leO_t, leO_f, cond_true, cond_false, Option.bind_some, Option.bind_none, if_false, if_true, nI_1, aL1, aL2, mL1, mL2, nI_add, pk_mul, pk_m1, sL1, dL1, pk_sub, m1p1, gIs_eq, gIs_k, gIs_i, gIs_n, gIs_e, gIJ, gIR, gJI, gJR, gJs_eq, gJs_k, gJs_n, gJs_e, gRI, gRJ, gRs_eq, gRs_k, gRs_i, gRs_n, gZI, gZJ, gZR, pI_s, pJ_s, pV_s, pR_s, pR_n, oR_n, oR_s, decide_true, decide_false, not_true_eq_false, not_false_eq_true, decT, decF, Bool.true_eq_false, Bool.false_eq_true, z01, o01, z1f, z1f', zz, oo, b2i_0, b2i_n, b2i_t, b2i_f, Bool.not_true, Bool.not_false]
    | false =>
      rw [c1, Bool.false_or] at f
      cases c2 : decide (57 < sbS (t.2 p)) with
      | true =>
        rw [c2] at f
        have f : isD (t.2 p) = false := by cases q : isD (t.2 p) <;> simp_all
        rw [f]
        simp (disch := omega) only [g, e_X12_isDigit_8, b, c1, e_X12_isDigit_19, c2, e_X12_isDigit_34, e_X12_isDigit_35, true_and, and_true, false_and, and_false, beq_t, beq_f, eqN_t, eqN_f, eqL_t, eqL_f, nm1, nm2, nm1', nm2', m1z, m2z, zm1, zm2, m12, m21, lg_cmp_ge, lg_cmp_le, lg_cmp_gt, lg_cmp_lt, lg_cmp_eq, oob, oobL, neg0, negL0, natle_f, or_false, false_or, true_or, or_true, or_self, cl, clL, le_t, le_f, lt_t, lt_f, leL_t, leL_f, ltL_t, ltL_f, leM_t, leM_f, ltM_t, ltM_f, leO_t, leO_f, cond_true, cond_false, Option.bind_some, Option.bind_none, if_false, if_true, nI_1, aL1, aL2, mL1, mL2, nI_add, pk_mul, pk_m1, sL1, dL1, pk_sub, m1p1, gIs_eq, gIs_k, gIs_i, gIs_n, gIs_e, gIJ, gIR, gJI, gJR, gJs_eq, gJs_k, gJs_n, gJs_e, gRI, gRJ, gRs_eq, gRs_k, gRs_i, gRs_n, gZI, gZJ, gZR, pI_s, pJ_s, pV_s, pR_s, pR_n, oR_n, oR_s, decide_true, decide_false, not_true_eq_false, not_false_eq_true, decT, decF, Bool.true_eq_false, Bool.false_eq_true, z01, o01, z1f, z1f', zz, oo, b2i_0, b2i_n, b2i_t, b2i_f, Bool.not_true, Bool.not_false]
      | false =>
        rw [c2] at f
        have f : isD (t.2 p) = true := by cases q : isD (t.2 p) <;> simp_all
        rw [f]
        simp (disch := omega) only [g, e_X12_isDigit_8, b, c1, e_X12_isDigit_19, c2, e_X12_isDigit_30, e_X12_isDigit_35, true_and, and_true, false_and, and_false, beq_t, beq_f, eqN_t, eqN_f, eqL_t, eqL_f, nm1, nm2, nm1', nm2', m1z, m2z, zm1, zm2, m12, m21, lg_cmp_ge, lg_cmp_le, lg_cmp_gt, lg_cmp_lt, lg_cmp_eq, oob, oobL, neg0, negL0, natle_f, or_false, false_or, true_or, or_true, or_self, cl, clL, le_t, le_f, lt_t, lt_f, leL_t, leL_f, ltL_t, ltL_f, leM_t, leM_f, ltM_t, ltM_f, leO_t, leO_f, cond_true, cond_false, Option.bind_some, Option.bind_none, if_false, if_true, nI_1, aL1, aL2, mL1, mL2, nI_add, pk_mul, pk_m1, sL1, dL1, pk_sub, m1p1, gIs_eq, gIs_k, gIs_i, gIs_n, gIs_e, gIJ, gIR, gJI, gJR, gJs_eq, gJs_k, gJs_n, gJs_e, gRI, gRJ, gRs_eq, gRs_k, gRs_i, gRs_n, gZI, gZJ, gZR, pI_s, pJ_s, pV_s, pR_s, pR_n, oR_n, oR_s, decide_true, decide_false, not_true_eq_false, not_false_eq_true, decT, decF, Bool.true_eq_false, Bool.false_eq_true, z01, o01, z1f, z1f', zz, oo, b2i_0, b2i_n, b2i_t, b2i_f, Bool.not_true, Bool.not_false]
  · rw [decF e, Bool.false_and]
    simp (disch := omega) only [g, e_X12_isDigit_34, e_X12_isDigit_35, true_and, and_true, false_and, and_false, beq_t, beq_f, eqN_t, eqN_f, eqL_t, eqL_f, nm1, nm2, nm1', nm2', m1z, m2z, zm1, zm2, m12, m21, lg_cmp_ge, lg_cmp_le, lg_cmp_gt, lg_cmp_lt, lg_cmp_eq, oob, oobL, neg0, negL0, natle_f, or_false, false_or, true_or, or_true, or_self, cl, clL, le_t, le_f, lt_t, lt_f, leL_t, leL_f, ltL_t, ltL_f, leM_t, leM_f, ltM_t, ltM_f, leO_t, leO_f, cond_true, cond_false, Option.bind_some, Option.bind_none, if_false, if_true, nI_1, aL1, aL2, mL1, mL2, nI_add, pk_mul, pk_m1, sL1, dL1, pk_sub, m1p1, gIs_eq, gIs_k, gIs_i, gIs_n, gIs_e, gIJ, gIR, gJI, gJR, gJs_eq, gJs_k, gJs_n, gJs_e, gRI, gRJ, gRs_eq, gRs_k, gRs_i, gRs_n, gZI, gZJ, gZR, pI_s, pJ_s, pV_s, pR_s, pR_n, oR_n, oR_s, decide_true, decide_false, not_true_eq_false, not_false_eq_true, decT, decF, Bool.true_eq_false, Bool.false_eq_true, z01, o01, z1f, z1f', zz, oo, b2i_0, b2i_n, b2i_t, b2i_f, Bool.not_true, Bool.not_false]
theorem m_isLetter {w : XW} {t : Tp} (hT : TOk2 t) (h : MT w t.1 t.2) {p : Nat} (hp : p ≤ 400) : F_X12_isLetter [.inr (11, 0), .inl (.int (nI p))] w = some (b2i (decide (p < t.1) && isL (t.2 p)), w) := by
  have h4 := hT.1
  have g := h.1
  rw [f_X12_isLetter, e_X12_isLetter_0]
  by_cases e : p < t.1
  · have b := h.2 p e
    have f := (sb_f ⟨t.2 p, hT.2 p e⟩).2.2.2.1
    dsimp only at f
    rw [decT e, Bool.true_and]
    cases c1 : decide (sbS (t.2 p) < 97) with
    | true =>
      rw [c1, Bool.true_or] at f
      have f : isL (t.2 p) = false := by cases q : isL (t.2 p) <;> simp_all
      rw [f]
      simp (disch := omega) only [g, e_X12_isLetter_8, b, c1, e_X12_isLetter_34, e_X12_isLetter_35, true_and, and_true, false_and, and_false, beq_t, beq_f, eqN_t, eqN_f, eqL_t, eqL_f, nm1, nm2, nm1', nm2', m1z, m2z, zm1, zm2, m12, m21, lg_cmp_ge, lg_cmp_le, lg_cmp_gt, lg_cmp_lt, lg_cmp_eq, oob, oobL, neg0, negL0, natle_f, or_false, false_or, true_or, or_true, or_self, cl, clL, le_t, le_f, lt_t, lt_f, leL_t, leL_f, ltL_t, ltL_f, leM_t, leM_f, ltM_t, ltM_f, leO_t, leO_f, cond_true, cond_false, Option.bind_some, Option.bind_none, if_false, if_true, nI_1, aL1, aL2, mL1, mL2, nI_add, pk_mul, pk_m1, sL1, dL1, pk_sub, m1p1, gIs_eq, gIs_k, gIs_i, gIs_n, gIs_e, gIJ, gIR, gJI, gJR, gJs_eq, gJs_k, gJs_n, gJs_e, gRI, gRJ, gRs_eq, gRs_k, gRs_i, gRs_n, gZI, gZJ, gZR, pI_s, pJ_s, pV_s, pR_s, pR_n, oR_n, oR_s, decide_true, decide_false, not_true_eq_false, not_false_eq_true, decT, decF, Bool.true_eq_false, Bool.false_eq_true, z01, o01, z1f, z1f', zz, oo, b2i_0, b2i_n, b2i_t, b2i_f, Bool.not_true, Bool.not_false]
    | false =>
      rw [c1, Bool.false_or] at f
      cases c2 : decide (122 < sbS (t.2 p)) with
      | true =>
        rw [c2] at f
        have f : isL (t.2 p) = false := by cases q : isL (t.2 p) <;> simp_all
        rw [f]
        simp (disch := omega) only [g, e_X12_isLetter_8, b, c1, e_X12_isLetter_19, c2, e_X12_isLetter_34, e_X12_isLetter_35, true_and, and_true, false_and, and_false, beq_t, beq_f, eqN_t, eqN_f, eqL_t, eqL_f, nm1, nm2, nm1', nm2', m1z, m2z, zm1, zm2, m12, m21, lg_cmp_ge, lg_cmp_le, lg_cmp_gt, lg_cmp_lt, lg_cmp_eq, oob, oobL, neg0, negL0, natle_f, or_false, false_or, true_or, or_true, or_self, cl, clL, le_t, le_f, lt_t, lt_f, leL_t, leL_f, ltL_t, ltL_f, leM_t, leM_f, ltM_t, ltM_f, leO_t, leO_f, cond_true, cond_false, Option.bind_some, Option.bind_none, if_false, if_true, nI_1, aL1, aL2, mL1, mL2, nI_add, pk_mul, pk_m1, sL1, dL1, pk_sub, m1p1, gIs_eq, gIs_k, gIs_i, gIs_n, gIs_e, gIJ, gIR, gJI, gJR, gJs_eq, gJs_k, gJs_n, gJs_e, gRI, gRJ, gRs_eq, gRs_k, gRs_i, gRs_n, gZI, gZJ, gZR, pI_s, pJ_s, pV_s, pR_s, pR_n, oR_n, oR_s, decide_true, decide_false, not_true_eq_false, not_false_eq_true, decT, decF, Bool.true_eq_false, Bool.false_eq_true, z01, o01, z1f, z1f', zz, oo, b2i_0, b2i_n, b2i_t, b2i_f, Bool.not_true, Bool.not_false]
      | false =>
        rw [c2] at f
        have f : isL (t.2 p) = true := by cases q : isL (t.2 p) <;> simp_all
        rw [f]
        simp (disch := omega) only [g, e_X12_isLetter_8, b, c1, e_X12_isLetter_19, c2, e_X12_isLetter_30, e_X12_isLetter_35, true_and, and_true, false_and, and_false, beq_t, beq_f, eqN_t, eqN_f, eqL_t, eqL_f, nm1, nm2, nm1', nm2', m1z, m2z, zm1, zm2, m12, m21, lg_cmp_ge, lg_cmp_le, lg_cmp_gt, lg_cmp_lt, lg_cmp_eq, oob, oobL, neg0, negL0, natle_f, or_false, false_or, true_or, or_true, or_self, cl, clL, le_t, le_f, lt_t, lt_f, leL_t, leL_f, ltL_t, ltL_f, leM_t, leM_f, ltM_t, ltM_f, leO_t, leO_f, cond_true, cond_false, Option.bind_some, Option.bind_none, if_false, if_true, nI_1, aL1, aL2, mL1, mL2, nI_add, pk_mul, pk_m1, sL1, dL1, pk_sub, m1p1, gIs_eq, gIs_k, gIs_i, gIs_n, gIs_e, gIJ, gIR, gJI, gJR, gJs_eq, gJs_k, gJs_n, gJs_e, gRI, gRJ, gRs_eq, gRs_k, gRs_i, gRs_n, gZI, gZJ, gZR, pI_s, pJ_s, pV_s, pR_s, pR_n, oR_n, oR_s, decide_true, decide_false, not_true_eq_false, not_false_eq_true, decT, decF, Bool.true_eq_false, Bool.false_eq_true, z01, o01, z1f, z1f', zz, oo, b2i_0, b2i_n, b2i_t, b2i_f, Bool.not_true, Bool.not_false]
  · rw [decF e, Bool.false_and]
    simp (disch := omega) only [g, e_X12_isLetter_34, e_X12_isLetter_35, true_and, and_true, false_and, and_false, beq_t, beq_f, eqN_t, eqN_f, eqL_t, eqL_f, nm1, nm2, nm1', nm2', m1z, m2z, zm1, zm2, m12, m21, lg_cmp_ge, lg_cmp_le, lg_cmp_gt, lg_cmp_lt, lg_cmp_eq, oob, oobL, neg0, negL0, natle_f, or_false, false_or, true_or, or_true, or_self, cl, clL, le_t, le_f, lt_t, lt_f, leL_t, leL_f, ltL_t, ltL_f, leM_t, leM_f, ltM_t, ltM_f, leO_t, leO_f, cond_true, cond_false, Option.bind_some, Option.bind_none, if_false, if_true, nI_1, aL1, aL2, mL1, mL2, nI_add, pk_mul, pk_m1, sL1, dL1, pk_sub, m1p1, gIs_eq, gIs_k, gIs_i, gIs_n, gIs_e, gIJ, gIR, gJI, gJR, gJs_eq, gJs_k, gJs_n, gJs_e, gRI, gRJ, gRs_eq, gRs_k, gRs_i, gRs_n, gZI, gZJ, gZR, pI_s, pJ_s, pV_s, pR_s, pR_n, oR_n, oR_s, decide_true, decide_false, not_true_eq_false, not_false_eq_true, decT, decF, Bool.true_eq_false, Bool.false_eq_true, z01, o01, z1f, z1f', zz, oo, b2i_0, b2i_n, b2i_t, b2i_f, Bool.not_true, Bool.not_false]
theorem m_fails {w : XW} (p k : Nat) (h0 : gI w 11 0 9 = 0) : F_X12_fails [.inr (11, 0), .inl (.int (nI k)), .inl (.int (nI p))] w = some (0, sI w 11 0 9 (nI (1 + 8 * p + k))) := by
  rw [f_X12_fails, e_X12_fails_0]
  simp (disch := omega) only [h0, e_X12_fails_7, e_X12_fails_19, true_and, and_true, false_and, and_false, beq_t, beq_f, eqN_t, eqN_f, eqL_t, eqL_f, nm1, nm2, nm1', nm2', m1z, m2z, zm1, zm2, m12, m21, lg_cmp_ge, lg_cmp_le, lg_cmp_gt, lg_cmp_lt, lg_cmp_eq, oob, oobL, neg0, negL0, natle_f, or_false, false_or, true_or, or_true, or_self, cl, clL, le_t, le_f, lt_t, lt_f, leL_t, leL_f, ltL_t, ltL_f, leM_t, leM_f, ltM_t, ltM_f, leO_t, leO_f, cond_true, cond_false, Option.bind_some, Option.bind_none, if_false, if_true, nI_1, aL1, aL2, mL1, mL2, nI_add, pk_mul, pk_m1, sL1, dL1, pk_sub, m1p1, gIs_eq, gIs_k, gIs_i, gIs_n, gIs_e, gIJ, gIR, gJI, gJR, gJs_eq, gJs_k, gJs_n, gJs_e, gRI, gRJ, gRs_eq, gRs_k, gRs_i, gRs_n, gZI, gZJ, gZR, pI_s, pJ_s, pV_s, pR_s, pR_n, oR_n, oR_s, decide_true, decide_false, not_true_eq_false, not_false_eq_true, decT, decF, Bool.true_eq_false, Bool.false_eq_true, z01, o01, z1f, z1f', zz, oo, b2i_0, b2i_n, b2i_t, b2i_f, Bool.not_true, Bool.not_false]
theorem m_fails0 {w : XW} (p : Nat) (h0 : gI w 11 0 9 = 0) : F_X12_fails [.inr (11, 0), .inl (.int 0), .inl (.int (nI p))] w = some (0, sI w 11 0 9 (nI (1 + 8 * p))) := m_fails p 0 h0
theorem m_fails1 {w : XW} (p : Nat) (h0 : gI w 11 0 9 = 0) : F_X12_fails [.inr (11, 0), .inl (.int 1), .inl (.int (nI p))] w = some (0, sI w 11 0 9 (nI (1 + 8 * p + 1))) := m_fails p 1 h0
theorem m_fails2 {w : XW} (p : Nat) (h0 : gI w 11 0 9 = 0) : F_X12_fails [.inr (11, 0), .inl (.int 2), .inl (.int (nI p))] w = some (0, sI w 11 0 9 (nI (1 + 8 * p + 2))) := m_fails p 2 h0
theorem m_fails3 {w : XW} (p : Nat) (h0 : gI w 11 0 9 = 0) : F_X12_fails [.inr (11, 0), .inl (.int 3), .inl (.int (nI p))] w = some (0, sI w 11 0 9 (nI (1 + 8 * p + 3))) := m_fails p 3 h0
theorem m_fails4 {w : XW} (p : Nat) (h0 : gI w 11 0 9 = 0) : F_X12_fails [.inr (11, 0), .inl (.int 4), .inl (.int (nI p))] w = some (0, sI w 11 0 9 (nI (1 + 8 * p + 4))) := m_fails p 4 h0
theorem m_digits {t : Tp} (hT : TOk2 t) (x1 x2 : Int32) {s : Nat} : ∀ (m p : Nat) (w : XW), p + m = t.1 → s ≤ p → MTp w t p →
    ∃ w', q_X12_numberHere_34 x1 x2 (nI s) (nI (nmS t.2 s (min (p - s) 5))) w = q_X12_numberHere_88 x1 x2 (nI s) (nI (nmS t.2 s (min (rnN (fun i => isD (t.2 i)) m p - s) 5))) w' ∧ MTp w' t (rnN (fun i => isD (t.2 i)) m p) ∧ Fr PM8 w w' := by
  have h4 := hT.1
  intro m
  induction m with
  | zero =>
    intro p w hm hs h
    have hd := m_isDigit hT h.1 (p := p) (by omega)
    rw [decF (by omega), Bool.false_and] at hd
    refine ⟨w, ?_, h, Fr.refl _ _⟩
    obtain ⟨g1, g2, g0, g3⟩ := h
    ((try dsimp only); rw [e_X12_numberHere_34]; simp (disch := omega) only [g2, hd, true_and, and_true, false_and, and_false, beq_t, beq_f, eqN_t, eqN_f, eqL_t, eqL_f, nm1, nm2, nm1', nm2', m1z, m2z, zm1, zm2, m12, m21, lg_cmp_ge, lg_cmp_le, lg_cmp_gt, lg_cmp_lt, lg_cmp_eq, oob, oobL, neg0, negL0, natle_f, or_false, false_or, true_or, or_true, or_self, cl, clL, le_t, le_f, lt_t, lt_f, leL_t, leL_f, ltL_t, ltL_f, leM_t, leM_f, ltM_t, ltM_f, leO_t, leO_f, cond_true, cond_false, Option.bind_some, Option.bind_none, if_false, if_true, nI_1, aL1, aL2, mL1, mL2, nI_add, pk_mul, pk_m1, sL1, dL1, pk_sub, m1p1, gIs_eq, gIs_k, gIs_i, gIs_n, gIs_e, gIJ, gIR, gJI, gJR, gJs_eq, gJs_k, gJs_n, gJs_e, gRI, gRJ, gRs_eq, gRs_k, gRs_i, gRs_n, gZI, gZJ, gZR, pI_s, pJ_s, pV_s, pR_s, pR_n, oR_n, oR_s, decide_true, decide_false, not_true_eq_false, not_false_eq_true, decT, decF, Bool.true_eq_false, Bool.false_eq_true, z01, o01, z1f, z1f', zz, oo, b2i_0, b2i_n, b2i_t, b2i_f, Bool.not_true, Bool.not_false])
    rfl
  | succ m ih =>
    intro p w hm hs h
    have hd := m_isDigit hT h.1 (p := p) (by omega)
    rw [decT (by omega), Bool.true_and] at hd
    have er : rnN (fun i => isD (t.2 i)) (m + 1) p = if isD (t.2 p) = true then rnN (fun i => isD (t.2 i)) m (p + 1) else p := rfl
    rw [er]
    cases hq : isD (t.2 p) with
    | false =>
      rw [hq] at hd
      rw [if_neg Bool.false_ne_true]
      refine ⟨w, ?_, h, Fr.refl _ _⟩
      obtain ⟨g1, g2, g0, g3⟩ := h
      ((try dsimp only); rw [e_X12_numberHere_34]; simp (disch := omega) only [g2, hd, true_and, and_true, false_and, and_false, beq_t, beq_f, eqN_t, eqN_f, eqL_t, eqL_f, nm1, nm2, nm1', nm2', m1z, m2z, zm1, zm2, m12, m21, lg_cmp_ge, lg_cmp_le, lg_cmp_gt, lg_cmp_lt, lg_cmp_eq, oob, oobL, neg0, negL0, natle_f, or_false, false_or, true_or, or_true, or_self, cl, clL, le_t, le_f, lt_t, lt_f, leL_t, leL_f, ltL_t, ltL_f, leM_t, leM_f, ltM_t, ltM_f, leO_t, leO_f, cond_true, cond_false, Option.bind_some, Option.bind_none, if_false, if_true, nI_1, aL1, aL2, mL1, mL2, nI_add, pk_mul, pk_m1, sL1, dL1, pk_sub, m1p1, gIs_eq, gIs_k, gIs_i, gIs_n, gIs_e, gIJ, gIR, gJI, gJR, gJs_eq, gJs_k, gJs_n, gJs_e, gRI, gRJ, gRs_eq, gRs_k, gRs_i, gRs_n, gZI, gZJ, gZR, pI_s, pJ_s, pV_s, pR_s, pR_n, oR_n, oR_s, decide_true, decide_false, not_true_eq_false, not_false_eq_true, decT, decF, Bool.true_eq_false, Bool.false_eq_true, z01, o01, z1f, z1f', zz, oo, b2i_0, b2i_n, b2i_t, b2i_f, Bool.not_true, Bool.not_false])
    | true =>
      rw [hq] at hd
      rw [if_pos rfl]
      obtain ⟨w2, j1, j2, j3⟩ := ih (p + 1) (sI w 11 0 8 (nI (p + 1))) (by omega) (by omega) (h.to (by omega))
      refine ⟨w2, ?_, j2, ((Fr.refl _ _).sI ⟨rfl, rfl⟩).trans j3⟩
      rw [← j1]
      have g2 := h.2.1
      have b := h.1.2 p (by omega)
      rw [(sb_f ⟨t.2 p, hT.2 p (by omega)⟩).2.2.2.2 (by show (isD (t.2 p) || isL (t.2 p)) = true; rw [hq]; rfl)] at b
      dsimp only at b
      have es : nI p - nI s = nI (p - s) := pk_sub hs
      by_cases q5 : p - s < 5
      · have en : min (p + 1 - s) 5 = min (p - s) 5 + 1 := by omega
        have ep : s + min (p - s) 5 = p := by omega
        have ev : nmS t.2 s (min (p + 1 - s) 5) = nmS t.2 s (min (p - s) 5) * 10 + (t.2 p - 48) := by
          rw [en]
          show nmS t.2 s (min (p - s) 5) * 10 + (t.2 (s + min (p - s) 5) - 48) = _
          rw [ep]
        rw [ev]
        generalize nmS t.2 s (min (p - s) 5) = v
        have en2 := num_step2 (v := v) (isD_t hq).1
        rw [e_X12_numberHere_34, g2, hd]
        simp only [Option.bind_some, b2i_t, z1f, decide_false, cond_false, e_X12_numberHere_45, g2, es]
        rw [leL_f (c := 5) (show p - s < 5 from q5) (by decide), cond_false, e_X12_numberHere_55, g2, if_neg (by rw [oob (by omega) (by omega)]; exact id), cl (by omega), b, en2, e_X12_numberHere_75, g2, nI_1]
      · rw [show min (p + 1 - s) 5 = min (p - s) 5 by omega]
        ((try dsimp only); rw [e_X12_numberHere_34]; simp (disch := omega) only [g2, hd, e_X12_numberHere_45, es, e_X12_numberHere_75, true_and, and_true, false_and, and_false, beq_t, beq_f, eqN_t, eqN_f, eqL_t, eqL_f, nm1, nm2, nm1', nm2', m1z, m2z, zm1, zm2, m12, m21, lg_cmp_ge, lg_cmp_le, lg_cmp_gt, lg_cmp_lt, lg_cmp_eq, oob, oobL, neg0, negL0, natle_f, or_false, false_or, true_or, or_true, or_self, cl, clL, le_t, le_f, lt_t, lt_f, leL_t, leL_f, ltL_t, ltL_f, leM_t, leM_f, ltM_t, ltM_f, leO_t, leO_f, cond_true, cond_false, Option.bind_some, Option.bind_none, if_false, if_true, nI_1, aL1, aL2, mL1, mL2, nI_add, pk_mul, pk_m1, sL1, dL1, pk_sub, m1p1, gIs_eq, gIs_k, gIs_i, gIs_n, gIs_e, gIJ, gIR, gJI, gJR, gJs_eq, gJs_k, gJs_n, gJs_e, gRI, gRJ, gRs_eq, gRs_k, gRs_i, gRs_n, gZI, gZJ, gZR, pI_s, pJ_s, pV_s, pR_s, pR_n, oR_n, oR_s, decide_true, decide_false, not_true_eq_false, not_false_eq_true, decT, decF, Bool.true_eq_false, Bool.false_eq_true, z01, o01, z1f, z1f', zz, oo, b2i_0, b2i_n, b2i_t, b2i_f, Bool.not_true, Bool.not_false])
theorem dn_toI {v : Nat} {h : Nat} (hv : v < 60000000) (hh : h < 60000000) : (dn h < nI v) = ¬ (v < h) := by
  cases h with
  | zero =>
    refine propext ⟨fun _ => by omega, fun _ => ?_⟩
    rw [Int32.lt_iff_toInt_lt, nI_toInt (by omega), show (dn 0).toInt = -1 from by decide]
    omega
  | succ h =>
    show (nI h < nI v) = _
    exact propext ⟨fun z => by
      rw [Int32.lt_iff_toInt_lt, nI_toInt (by omega), nI_toInt (by omega)] at z
      omega, fun z => nI_lt (by omega) (by omega)⟩
theorem m_number {w : XW} {t : Tp} (hT : TOk2 t) {p : Nat} (h : MTp w t p) (lo hi : Nat) (hlo : lo < 60000) (hhi : hi < 60000000) : ∃ w', Fr PMl w w' ∧ match nuS t p lo hi with
    | .inl f => F_X12_numberHere [.inr (11, 0), .inl (.int (nI lo)), .inl (.int (dn hi))] w = some (0, w') ∧ gI w' 11 0 9 = nI f
    | .inr (e, v) => F_X12_numberHere [.inr (11, 0), .inl (.int (nI lo)), .inl (.int (dn hi))] w = some (1, w') ∧ MTp w' t e ∧ gI w' 11 0 10 = nI v := by
  have h4 := hT.1
  unfold nuS
  obtain ⟨w1, k1, k2, k3⟩ := m_see hT h
  have hs := sk_le h.2.2.2
  have hd := dg_le hs.2
  have hv := nvS_le (t := t) (s := sk t p)
  generalize sk t p = s at *
  have kd := m_isDigit hT k2.1 (p := s) (by omega)
  have g2 := k2.2.1
  have F1 : Fr PMl w w1 := k3.mono (fun κ i k q => by unfold PM8 at q; unfold  PMl; omega)
  cases hq : (decide (s < t.1) && isD (t.2 s)) with
  | false =>
    rw [hq] at kd
    have e0 : dg t s = s := by
      by_cases c : s < t.1
      · rw [decT c, Bool.true_and] at hq
        exact rn_at (P := fun i => isD (t.2 i)) hq
      · omega
    rw [if_pos e0]
    have kf := m_fails0 (w := w1) s k2.2.2.1
    refine ⟨sI w1 11 0 9 (nI (1 + 8 * s)), F1.sI (by unfold PMl; omega), ?_, gIs_eq⟩
    rw [f_X12_numberHere, e_X12_numberHere_0]
    simp (disch := omega) only [k1, g2, kd, e_X12_numberHere_16, kf, true_and, and_true, false_and, and_false, beq_t, beq_f, eqN_t, eqN_f, eqL_t, eqL_f, nm1, nm2, nm1', nm2', m1z, m2z, zm1, zm2, m12, m21, lg_cmp_ge, lg_cmp_le, lg_cmp_gt, lg_cmp_lt, lg_cmp_eq, oob, oobL, neg0, negL0, natle_f, or_false, false_or, true_or, or_true, or_self, cl, clL, le_t, le_f, lt_t, lt_f, leL_t, leL_f, ltL_t, ltL_f, leM_t, leM_f, ltM_t, ltM_f, leO_t, leO_f, cond_true, cond_false, Option.bind_some, Option.bind_none, if_false, if_true, nI_1, aL1, aL2, mL1, mL2, nI_add, pk_mul, pk_m1, sL1, dL1, pk_sub, m1p1, gIs_eq, gIs_k, gIs_i, gIs_n, gIs_e, gIJ, gIR, gJI, gJR, gJs_eq, gJs_k, gJs_n, gJs_e, gRI, gRJ, gRs_eq, gRs_k, gRs_i, gRs_n, gZI, gZJ, gZR, pI_s, pJ_s, pV_s, pR_s, pR_n, oR_n, oR_s, decide_true, decide_false, not_true_eq_false, not_false_eq_true, decT, decF, Bool.true_eq_false, Bool.false_eq_true, z01, o01, z1f, z1f', zz, oo, b2i_0, b2i_n, b2i_t, b2i_f, Bool.not_true, Bool.not_false]
  | true =>
    rw [hq] at kd
    rw [Bool.and_eq_true] at hq
    have c := of_decide_eq_true hq.1
    have e0 : ¬ dg t s = s := by
      have er : dg t s = rnN (fun i => isD (t.2 i)) (t.1 - s - 1 + 1) s := by unfold dg; congr 1; omega
      have e2 : rnN (fun i => isD (t.2 i)) (t.1 - s - 1 + 1) s = if isD (t.2 s) = true then rnN (fun i => isD (t.2 i)) (t.1 - s - 1) (s + 1) else s := rfl
      rw [er, e2, if_pos hq.2]
      have := rnN_le (P := fun i => isD (t.2 i)) (t.1 - s - 1) (s + 1)
      omega
    rw [if_neg e0]
    obtain ⟨w2, j1, j2, j3⟩ := m_digits hT (nI lo) (dn hi) (s := s) (t.1 - s) s w1 (by omega) (Nat.le_refl _) k2
    rw [Nat.sub_self] at j1
    have j1 : q_X12_numberHere_34 (nI lo) (dn hi) (nI s) 0 w1 = q_X12_numberHere_88 (nI lo) (dn hi) (nI s) (nI (nvS t s)) w2 := j1
    have j2 : MTp w2 t (dg t s) := j2
    have F2 : Fr PMl w w2 := F1.trans (j3.mono (fun κ i k q => by unfold PM8 at q; unfold  PMl; omega))
    generalize dg t s = e at *
    generalize nvS t s = v at *
    have G3 : MTp (sI w2 11 0 10 (nI v)) t e := j2.fr (P := fun κ _ k => κ = 11 ∧ k = 10) ((Fr.refl _ _).sI ⟨rfl, rfl⟩) (fun κ k q => by omega)
    have F3 : Fr PMl w (sI w2 11 0 10 (nI v)) := F2.sI (by unfold PMl; omega)
    have g10 : gI (sI w2 11 0 10 (nI v)) 11 0 10 = nI v := gIs_eq
    have start : F_X12_numberHere [.inr (11, 0), .inl (.int (nI lo)), .inl (.int (dn hi))] w = (bif decide (5 < nI (e - s)) then q_X12_numberHere_117 (nI s) (sI w2 11 0 10 (nI v)) else q_X12_numberHere_104 (nI lo) (dn hi) (nI s) (nI v) (sI w2 11 0 10 (nI v))).bind pI := by
      rw [f_X12_numberHere, e_X12_numberHere_0, ← (show nI e - nI s = nI (e - s) from pk_sub (by omega)), ← G3.2.1]
      simp (disch := omega) only [k1, g2, kd, e_X12_numberHere_26, j1, e_X12_numberHere_88, true_and, and_true, false_and, and_false, beq_t, beq_f, eqN_t, eqN_f, eqL_t, eqL_f, nm1, nm2, nm1', nm2', m1z, m2z, zm1, zm2, m12, m21, lg_cmp_ge, lg_cmp_le, lg_cmp_gt, lg_cmp_lt, lg_cmp_eq, oob, oobL, neg0, negL0, natle_f, or_false, false_or, true_or, or_true, or_self, cl, clL, le_t, le_f, lt_t, lt_f, leL_t, leL_f, ltL_t, ltL_f, leM_t, leM_f, ltM_t, ltM_f, leO_t, leO_f, cond_true, cond_false, Option.bind_some, Option.bind_none, if_false, if_true, nI_1, aL1, aL2, mL1, mL2, nI_add, pk_mul, pk_m1, sL1, dL1, pk_sub, m1p1, gIs_eq, gIs_k, gIs_i, gIs_n, gIs_e, gIJ, gIR, gJI, gJR, gJs_eq, gJs_k, gJs_n, gJs_e, gRI, gRJ, gRs_eq, gRs_k, gRs_i, gRs_n, gZI, gZJ, gZR, pI_s, pJ_s, pV_s, pR_s, pR_n, oR_n, oR_s, decide_true, decide_false, not_true_eq_false, not_false_eq_true, decT, decF, Bool.true_eq_false, Bool.false_eq_true, z01, o01, z1f, z1f', zz, oo, b2i_0, b2i_n, b2i_t, b2i_f, Bool.not_true, Bool.not_false]
    generalize sI w2 11 0 10 (nI v) = w3 at *
    have kf := m_fails1 (w := w3) s G3.2.2.1
    have ki := p_in (nI v) (nI lo) (dn hi) w3
    by_cases q5 : 5 < e - s
    · rw [if_neg (by omega)]
      refine ⟨sI w3 11 0 9 (nI (1 + 8 * s + 1)), F3.sI (by unfold PMl; omega), ?_, gIs_eq⟩
      rw [start]
      simp (disch := omega) only [e_X12_numberHere_117, kf, e_X12_numberHere_130, e_X12_numberHere_131, true_and, and_true, false_and, and_false, beq_t, beq_f, eqN_t, eqN_f, eqL_t, eqL_f, nm1, nm2, nm1', nm2', m1z, m2z, zm1, zm2, m12, m21, lg_cmp_ge, lg_cmp_le, lg_cmp_gt, lg_cmp_lt, lg_cmp_eq, oob, oobL, neg0, negL0, natle_f, or_false, false_or, true_or, or_true, or_self, cl, clL, le_t, le_f, lt_t, lt_f, leL_t, leL_f, ltL_t, ltL_f, leM_t, leM_f, ltM_t, ltM_f, leO_t, leO_f, cond_true, cond_false, Option.bind_some, Option.bind_none, if_false, if_true, nI_1, aL1, aL2, mL1, mL2, nI_add, pk_mul, pk_m1, sL1, dL1, pk_sub, m1p1, gIs_eq, gIs_k, gIs_i, gIs_n, gIs_e, gIJ, gIR, gJI, gJR, gJs_eq, gJs_k, gJs_n, gJs_e, gRI, gRJ, gRs_eq, gRs_k, gRs_i, gRs_n, gZI, gZJ, gZR, pI_s, pJ_s, pV_s, pR_s, pR_n, oR_n, oR_s, decide_true, decide_false, not_true_eq_false, not_false_eq_true, decT, decF, Bool.true_eq_false, Bool.false_eq_true, z01, o01, z1f, z1f', zz, oo, b2i_0, b2i_n, b2i_t, b2i_f, Bool.not_true, Bool.not_false]
    · by_cases hok : lo ≤ v ∧ v < hi
      · rw [if_pos ⟨by omega, hok⟩]
        rw [decT ⟨nI_nlt (by omega) (by omega), by rw [dn_toI (by omega) hhi]; omega⟩] at ki
        refine ⟨w3, F3, ?_, G3, g10⟩
        rw [start]
        simp (disch := omega) only [e_X12_numberHere_104, ki, e_X12_numberHere_126, e_X12_numberHere_131, true_and, and_true, false_and, and_false, beq_t, beq_f, eqN_t, eqN_f, eqL_t, eqL_f, nm1, nm2, nm1', nm2', m1z, m2z, zm1, zm2, m12, m21, lg_cmp_ge, lg_cmp_le, lg_cmp_gt, lg_cmp_lt, lg_cmp_eq, oob, oobL, neg0, negL0, natle_f, or_false, false_or, true_or, or_true, or_self, cl, clL, le_t, le_f, lt_t, lt_f, leL_t, leL_f, ltL_t, ltL_f, leM_t, leM_f, ltM_t, ltM_f, leO_t, leO_f, cond_true, cond_false, Option.bind_some, Option.bind_none, if_false, if_true, nI_1, aL1, aL2, mL1, mL2, nI_add, pk_mul, pk_m1, sL1, dL1, pk_sub, m1p1, gIs_eq, gIs_k, gIs_i, gIs_n, gIs_e, gIJ, gIR, gJI, gJR, gJs_eq, gJs_k, gJs_n, gJs_e, gRI, gRJ, gRs_eq, gRs_k, gRs_i, gRs_n, gZI, gZJ, gZR, pI_s, pJ_s, pV_s, pR_s, pR_n, oR_n, oR_s, decide_true, decide_false, not_true_eq_false, not_false_eq_true, decT, decF, Bool.true_eq_false, Bool.false_eq_true, z01, o01, z1f, z1f', zz, oo, b2i_0, b2i_n, b2i_t, b2i_f, Bool.not_true, Bool.not_false]
      · rw [if_neg (by omega)]
        have hb : ¬ (¬ nI v < nI lo ∧ ¬ dn hi < nI v) := fun z => hok ⟨by
          rcases Nat.lt_or_ge v lo with q | q
          · exact absurd (nI_lt q (by omega)) z.1
          · exact q, by
          have := z.2
          rw [dn_toI (by omega) hhi] at this
          omega⟩
        rw [decF hb] at ki
        refine ⟨sI w3 11 0 9 (nI (1 + 8 * s + 1)), F3.sI (by unfold PMl; omega), ?_, gIs_eq⟩
        rw [start]
        simp (disch := omega) only [e_X12_numberHere_104, ki, e_X12_numberHere_117, kf, e_X12_numberHere_130, e_X12_numberHere_131, true_and, and_true, false_and, and_false, beq_t, beq_f, eqN_t, eqN_f, eqL_t, eqL_f, nm1, nm2, nm1', nm2', m1z, m2z, zm1, zm2, m12, m21, lg_cmp_ge, lg_cmp_le, lg_cmp_gt, lg_cmp_lt, lg_cmp_eq, oob, oobL, neg0, negL0, natle_f, or_false, false_or, true_or, or_true, or_self, cl, clL, le_t, le_f, lt_t, lt_f, leL_t, leL_f, ltL_t, ltL_f, leM_t, leM_f, ltM_t, ltM_f, leO_t, leO_f, cond_true, cond_false, Option.bind_some, Option.bind_none, if_false, if_true, nI_1, aL1, aL2, mL1, mL2, nI_add, pk_mul, pk_m1, sL1, dL1, pk_sub, m1p1, gIs_eq, gIs_k, gIs_i, gIs_n, gIs_e, gIJ, gIR, gJI, gJR, gJs_eq, gJs_k, gJs_n, gJs_e, gRI, gRJ, gRs_eq, gRs_k, gRs_i, gRs_n, gZI, gZJ, gZR, pI_s, pJ_s, pV_s, pR_s, pR_n, oR_n, oR_s, decide_true, decide_false, not_true_eq_false, not_false_eq_true, decT, decF, Bool.true_eq_false, Bool.false_eq_true, z01, o01, z1f, z1f', zz, oo, b2i_0, b2i_n, b2i_t, b2i_f, Bool.not_true, Bool.not_false]
