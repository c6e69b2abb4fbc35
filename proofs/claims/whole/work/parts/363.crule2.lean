/-! ===== the class reads a rule: facts, tests ===== -/
theorem fd4 (x : List Nat) : fdW (lW 4) x = if x = kOr then some 0 else if x = kAnd then some 1 else none := by
  show (if x = kOr then some 0 else (if x = kAnd then some 0 else none).map (· + 1)) = _
  by_cases c : x = kOr
  · rw [if_pos c, if_pos c]
  · rw [if_neg c, if_neg c]
    by_cases c2 : x = kAnd
    · rw [if_pos c2, if_pos c2]; rfl
    · rw [if_neg c2, if_neg c2]; rfl
theorem fd1w {i : Nat} {k : List Nat} (h : lW i = [k]) (x : List Nat) : fdW (lW i) x = if x = k then some 0 else none := by
  rw [h]
  show (if x = k then some 0 else Option.map (· + 1) none) = _
  rfl
/-- what reads an operand -/
def RdOk (t : Tp) (Gf : List XV → XW → Option (Int32 × XW)) (x : Int32) (V : St → Nat ⊕ St) : Prop := ∀ (s : St) (w : XW), CRt w t s → s.2.1 ≤ 60 → s.2.2.length ≤ s.1 → RCr (Gf [.inr (7, 0), .inr (9, 0), .inl (.int x)] w) w t (V s)
theorem c_testloop {t : Tp} (hT : TOk2 t) {G0 G1 : List XV → XW → Option (Int32 × XW)} {x2 : Int32} {V : St → Nat ⊕ St} (hV : VOk t true V) (hG : RdOk t G0 x2 V) : ∀ (m i : Nat) (wf : Bool) (s : St) (w : XW), t.1 - s.1 = m → CRt w t s → s.2.1 ≤ 60 → s.2.2.length + (bif wf then 1 else 0) ≤ s.1 → i < s.1 →
    RCr ((q_X8_readTest_16 G0 G1 x2 (b2i wf) (nI i) w).bind pI) w t (sB (tlS' t V (tkT t) s) (fun s' => slS' t V (tkT t) (bif wf then adS s' (-32) else s'))) := by
  have h4 := hT.1
  have hK := tkT_ok t
  intro m
  induction m using Nat.strongRecOn with
  | ind m ih =>
    intro i wf s w hm h hn hl hi
    have hp := h.1.2.2
    have hk := sk_le hp
    have hle := le_le hk.2
    obtain ⟨w1, k3, g3, r1⟩ := c_word hT (i := 4) (by omega) h.1
    have F1 : Fr PCr w w1 := k3.mono (fun κ i k q => by unfold PT23 at q; unfold  PCr; omega)
    have etk := (hK s.1 hp).2
    have ek := sk_sk hp
    rw [fd4] at r1
    have s0 : q_X8_readTest_16 G0 G1 x2 (b2i wf) (nI i) w = q_X8_readTest_24 G0 G1 x2 (b2i wf) (nI i) w := by
      ((try dsimp only); rw [e_X8_readTest_16]; simp (disch := omega) only [true_and, and_true, false_and, and_false, beq_t, beq_f, eqN_t, eqN_f, eqL_t, eqL_f, nm1, nm2, nm1', nm2', m1z, m2z, zm1, zm2, m12, m21, lg_cmp_ge, lg_cmp_le, lg_cmp_gt, lg_cmp_lt, lg_cmp_eq, oob, oobL, neg0, negL0, natle_f, or_false, false_or, true_or, or_true, or_self, cl, clL, le_t, le_f, lt_t, lt_f, leL_t, leL_f, ltL_t, ltL_f, leM_t, leM_f, ltM_t, ltM_f, leO_t, leO_f, cond_true, cond_false, Option.bind_some, Option.bind_none, if_false, if_true, nI_1, aL1, aL2, mL1, mL2, nI_add, pk_mul, pk_m1, sL1, dL1, pk_sub, m1p1, gIs_eq, gIs_k, gIs_i, gIs_n, gIs_e, gIJ, gIR, gJI, gJR, gJs_eq, gJs_k, gJs_n, gJs_e, gRI, gRJ, gRs_eq, gRs_k, gRs_i, gRs_n, gZI, gZJ, gZR, pI_s, pJ_s, pV_s, pR_s, pR_n, oR_n, oR_s, decide_true, decide_false, not_true_eq_false, not_false_eq_true, decT, decF, Bool.true_eq_false, Bool.false_eq_true, z01, o01, z1f, z1f', zz, oo, b2i_0, b2i_n, b2i_t, b2i_f, Bool.not_true, Bool.not_false])
    by_cases cA : wrd t (sk t s.1) = kAnd
    · -- and
      have nO : ¬ wrd t (sk t s.1) = kOr := by rw [cA]; decide
      rw [if_neg nO, if_pos cA] at r1
      have tA : tkT t s.1 = (1, le t (sk t s.1), -31) := by unfold tkT; rw [if_pos cA]
      have C1 : CRt w1 t (le t (sk t s.1), s.2) := h.at k3 (fun κ k q => by unfold PT23; omega) r1.2
      have hw3 := wrd_len hk.2 cA
      have : kAnd.length = 3 := rfl
      have kd : q_X8_readTest_16 G0 G1 x2 (b2i wf) (nI i) w = q_X8_readTest_70 G0 G1 x2 (b2i wf) (nI i) 1 w1 := by
        rw [s0, e_X8_readTest_24]
        have r11 := r1.1
        simp (disch := omega) only [r11, e_X8_readTest_38, e_X8_readTest_43, e_X8_readTest_49, e_X8_readTest_62, true_and, and_true, false_and, and_false, beq_t, beq_f, eqN_t, eqN_f, eqL_t, eqL_f, nm1, nm2, nm1', nm2', m1z, m2z, zm1, zm2, m12, m21, lg_cmp_ge, lg_cmp_le, lg_cmp_gt, lg_cmp_lt, lg_cmp_eq, oob, oobL, neg0, negL0, natle_f, or_false, false_or, true_or, or_true, or_self, cl, clL, le_t, le_f, lt_t, lt_f, leL_t, leL_f, ltL_t, ltL_f, leM_t, leM_f, ltM_t, ltM_f, leO_t, leO_f, cond_true, cond_false, Option.bind_some, Option.bind_none, if_false, if_true, nI_1, aL1, aL2, mL1, mL2, nI_add, pk_mul, pk_m1, sL1, dL1, pk_sub, m1p1, gIs_eq, gIs_k, gIs_i, gIs_n, gIs_e, gIJ, gIR, gJI, gJR, gJs_eq, gJs_k, gJs_n, gJs_e, gRI, gRJ, gRs_eq, gRs_k, gRs_i, gRs_n, gZI, gZJ, gZR, pI_s, pJ_s, pV_s, pR_s, pR_n, oR_n, oR_s, decide_true, decide_false, not_true_eq_false, not_false_eq_true, decT, decF, Bool.true_eq_false, Bool.false_eq_true, z01, o01, z1f, z1f', zz, oo, b2i_0, b2i_n, b2i_t, b2i_f, Bool.not_true, Bool.not_false]
        cases wf <;> rfl
      rw [tl_1 hV hK hp hn (by rw [tA]), tA, sB_as]
      have R := hG _ _ C1 hn (by show s.2.2.length ≤ le t (sk t s.1); omega)
      refine RCr.fr (w1 := w1) (R.then (F2 := (q_X8_readTest_16 G0 G1 x2 (b2i wf) (nI i) w).bind pI) (fun w' hw => ?_) (fun s' w' hs hw hF hC => ?_)) F1 rfl
      · rw [kd, e_X8_readTest_70]
        simp (disch := omega) only [hw, e_X8_readTest_79, true_and, and_true, false_and, and_false, beq_t, beq_f, eqN_t, eqN_f, eqL_t, eqL_f, nm1, nm2, nm1', nm2', m1z, m2z, zm1, zm2, m12, m21, lg_cmp_ge, lg_cmp_le, lg_cmp_gt, lg_cmp_lt, lg_cmp_eq, oob, oobL, neg0, negL0, natle_f, or_false, false_or, true_or, or_true, or_self, cl, clL, le_t, le_f, lt_t, lt_f, leL_t, leL_f, ltL_t, ltL_f, leM_t, leM_f, ltM_t, ltM_f, leO_t, leO_f, cond_true, cond_false, Option.bind_some, Option.bind_none, if_false, if_true, nI_1, aL1, aL2, mL1, mL2, nI_add, pk_mul, pk_m1, sL1, dL1, pk_sub, m1p1, gIs_eq, gIs_k, gIs_i, gIs_n, gIs_e, gIJ, gIR, gJI, gJR, gJs_eq, gJs_k, gJs_n, gJs_e, gRI, gRJ, gRs_eq, gRs_k, gRs_i, gRs_n, gZI, gZJ, gZR, pI_s, pJ_s, pV_s, pR_s, pR_n, oR_n, oR_s, decide_true, decide_false, not_true_eq_false, not_false_eq_true, decT, decF, Bool.true_eq_false, Bool.false_eq_true, z01, o01, z1f, z1f', zz, oo, b2i_0, b2i_n, b2i_t, b2i_f, Bool.not_true, Bool.not_false]
      · have gv := (hV (le t (sk t s.1), s.2) hle.2 hn).1 s' hs
        have hlt : le t (sk t s.1) < s'.1 := gv.lt
        have hl2 : s'.2.2.length + le t (sk t s.1) ≤ s.2.2.length + s'.1 := gv.len.1
        have hs4 := gv.1
        obtain ⟨w3, a1, a2, a3⟩ := c_add hC (by omega) (-31)
        have e5 : q_X8_readTest_16 G0 G1 x2 (b2i wf) (nI i) w = q_X8_readTest_16 G0 G1 x2 (b2i wf) (nI (i + 1)) w3 := by
          rw [kd, e_X8_readTest_70]
          simp (disch := omega) only [hw, e_X8_readTest_81, e_X8_readTest_86, a1, e_X8_readTest_97, true_and, and_true, false_and, and_false, beq_t, beq_f, eqN_t, eqN_f, eqL_t, eqL_f, nm1, nm2, nm1', nm2', m1z, m2z, zm1, zm2, m12, m21, lg_cmp_ge, lg_cmp_le, lg_cmp_gt, lg_cmp_lt, lg_cmp_eq, oob, oobL, neg0, negL0, natle_f, or_false, false_or, true_or, or_true, or_self, cl, clL, le_t, le_f, lt_t, lt_f, leL_t, leL_f, ltL_t, ltL_f, leM_t, leM_f, ltM_t, ltM_f, leO_t, leO_f, cond_true, cond_false, Option.bind_some, Option.bind_none, if_false, if_true, nI_1, aL1, aL2, mL1, mL2, nI_add, pk_mul, pk_m1, sL1, dL1, pk_sub, m1p1, gIs_eq, gIs_k, gIs_i, gIs_n, gIs_e, gIJ, gIR, gJI, gJR, gJs_eq, gJs_k, gJs_n, gJs_e, gRI, gRJ, gRs_eq, gRs_k, gRs_i, gRs_n, gZI, gZJ, gZR, pI_s, pJ_s, pV_s, pR_s, pR_n, oR_n, oR_s, decide_true, decide_false, not_true_eq_false, not_false_eq_true, decT, decF, Bool.true_eq_false, Bool.false_eq_true, z01, o01, z1f, z1f', zz, oo, b2i_0, b2i_n, b2i_t, b2i_f, Bool.not_true, Bool.not_false]
        rw [e5]
        have el : (adS s' (-31)).2.2.length = s'.2.2.length + 1 := by
          show (s'.2.2 ++ [_]).length = _
          rw [List.length_append, List.length_singleton]
        exact (ih (t.1 - s'.1) (by omega) (i + 1) wf (adS s' (-31)) w3 rfl a2 gv.2.1 (by rw [el]; show _ ≤ s'.1; omega) (by show i + 1 < s'.1; omega)).fr (a3.mono (fun κ i k q => by unfold PCa at q; unfold  PCr; omega)) rfl
    · have n1 : ¬ (tkT t s.1).1 = 1 := by
        unfold tkT
        rw [if_neg cA]
        by_cases cO : wrd t (sk t s.1) = kOr
        · rw [if_pos cO]; exact (by decide : ¬ (2 : Nat) = 1)
        · rw [if_neg cO]; exact (by decide : ¬ (0 : Nat) = 1)
      rw [tl_0 hp n1]
      show RCr _ w t (slS' t V (tkT t) (bif wf then adS (sk t s.1, s.2) (-32) else (sk t s.1, s.2)))
      have ep : (bif wf then adS (sk t s.1, s.2) (-32) else (sk t s.1, s.2)).1 = sk t s.1 := by cases wf <;> rfl
      have en : (bif wf then adS (sk t s.1, s.2) (-32) else (sk t s.1, s.2)).2.1 = s.2.1 := by cases wf <;> rfl
      have el : (bif wf then adS (sk t s.1, s.2) (-32) else (sk t s.1, s.2)).2.2.length = s.2.2.length + (bif wf then 1 else 0) := by
        cases wf
        · rfl
        · show (s.2.2 ++ [_]).length = _
          rw [List.length_append, List.length_singleton]
          rfl
      -- what waits is added
      have lay : ∀ (x : Int32) (p : Nat), CRt w1 t (p, s.2) → ∃ w2, q_X8_readTest_43 G0 G1 x2 (b2i wf) (nI i) x 0 w1 = q_X8_readTest_62 G0 G1 x2 0 (nI i) x 0 w2 ∧ Fr PCr w w2 ∧ CRt w2 t (p, (bif wf then adS (sk t s.1, s.2) (-32) else (sk t s.1, s.2)).2) := by
        intro x p hC
        cases wf with
        | false =>
          refine ⟨w1, ?_, F1, hC⟩
          rw [e_X8_readTest_43]
          simp (disch := omega) only [true_and, and_true, false_and, and_false, beq_t, beq_f, eqN_t, eqN_f, eqL_t, eqL_f, nm1, nm2, nm1', nm2', m1z, m2z, zm1, zm2, m12, m21, lg_cmp_ge, lg_cmp_le, lg_cmp_gt, lg_cmp_lt, lg_cmp_eq, oob, oobL, neg0, negL0, natle_f, or_false, false_or, true_or, or_true, or_self, cl, clL, le_t, le_f, lt_t, lt_f, leL_t, leL_f, ltL_t, ltL_f, leM_t, leM_f, ltM_t, ltM_f, leO_t, leO_f, cond_true, cond_false, Option.bind_some, Option.bind_none, if_false, if_true, nI_1, aL1, aL2, mL1, mL2, nI_add, pk_mul, pk_m1, sL1, dL1, pk_sub, m1p1, gIs_eq, gIs_k, gIs_i, gIs_n, gIs_e, gIJ, gIR, gJI, gJR, gJs_eq, gJs_k, gJs_n, gJs_e, gRI, gRJ, gRs_eq, gRs_k, gRs_i, gRs_n, gZI, gZJ, gZR, pI_s, pJ_s, pV_s, pR_s, pR_n, oR_n, oR_s, decide_true, decide_false, not_true_eq_false, not_false_eq_true, decT, decF, Bool.true_eq_false, Bool.false_eq_true, z01, o01, z1f, z1f', zz, oo, b2i_0, b2i_n, b2i_t, b2i_f, Bool.not_true, Bool.not_false]
        | true =>
          have hl : s.2.2.length + 1 ≤ s.1 := hl
          obtain ⟨w2, a1, a2, a3⟩ := c_add hC (by show s.2.2.length < 400; omega) (-32)
          refine ⟨w2, ?_, F1.trans (a3.mono (fun κ i k q => by unfold PCa at q; unfold  PCr; omega)), a2⟩
          rw [e_X8_readTest_43]
          simp (disch := omega) only [e_X8_readTest_49, e_X8_readTest_54, a1, true_and, and_true, false_and, and_false, beq_t, beq_f, eqN_t, eqN_f, eqL_t, eqL_f, nm1, nm2, nm1', nm2', m1z, m2z, zm1, zm2, m12, m21, lg_cmp_ge, lg_cmp_le, lg_cmp_gt, lg_cmp_lt, lg_cmp_eq, oob, oobL, neg0, negL0, natle_f, or_false, false_or, true_or, or_true, or_self, cl, clL, le_t, le_f, lt_t, lt_f, leL_t, leL_f, ltL_t, ltL_f, leM_t, leM_f, ltM_t, ltM_f, leO_t, leO_f, cond_true, cond_false, Option.bind_some, Option.bind_none, if_false, if_true, nI_1, aL1, aL2, mL1, mL2, nI_add, pk_mul, pk_m1, sL1, dL1, pk_sub, m1p1, gIs_eq, gIs_k, gIs_i, gIs_n, gIs_e, gIJ, gIR, gJI, gJR, gJs_eq, gJs_k, gJs_n, gJs_e, gRI, gRJ, gRs_eq, gRs_k, gRs_i, gRs_n, gZI, gZJ, gZR, pI_s, pJ_s, pV_s, pR_s, pR_n, oR_n, oR_s, decide_true, decide_false, not_true_eq_false, not_false_eq_true, decT, decF, Bool.true_eq_false, Bool.false_eq_true, z01, o01, z1f, z1f', zz, oo, b2i_0, b2i_n, b2i_t, b2i_f, Bool.not_true, Bool.not_false]
      generalize (bif wf then adS (sk t s.1, s.2) (-32) else (sk t s.1, s.2)) = s2 at *
      by_cases cO : wrd t (sk t s.1) = kOr
      · rw [if_pos cO] at r1
        have tO : tkT t s.1 = (2, le t (sk t s.1), -32) := by unfold tkT; rw [if_neg cA, if_pos cO]
        have hw3 := wrd_len hk.2 cO
        have : kOr.length = 2 := rfl
        have C1 : CRt w1 t (le t (sk t s.1), s.2) := h.at k3 (fun κ k q => by unfold PT23; omega) r1.2
        obtain ⟨w2, l1, l2, l3⟩ := lay (nI 0) _ C1
        have kd : q_X8_readTest_16 G0 G1 x2 (b2i wf) (nI i) w = q_X8_readTest_70 G0 G1 x2 0 (nI i) 0 w2 := by
          rw [s0, e_X8_readTest_24]
          have r11 := r1.1
          have z1 : ¬ nI 0 = 1 := by decide
          have z2 : ¬ nI 0 = -1 := by decide
          simp (disch := omega) only [r11, z1, e_X8_readTest_42, true_and, and_true, false_and, and_false, beq_t, beq_f, eqN_t, eqN_f, eqL_t, eqL_f, nm1, nm2, nm1', nm2', m1z, m2z, zm1, zm2, m12, m21, lg_cmp_ge, lg_cmp_le, lg_cmp_gt, lg_cmp_lt, lg_cmp_eq, oob, oobL, neg0, negL0, natle_f, or_false, false_or, true_or, or_true, or_self, cl, clL, le_t, le_f, lt_t, lt_f, leL_t, leL_f, ltL_t, ltL_f, leM_t, leM_f, ltM_t, ltM_f, leO_t, leO_f, cond_true, cond_false, Option.bind_some, Option.bind_none, if_false, if_true, nI_1, aL1, aL2, mL1, mL2, nI_add, pk_mul, pk_m1, sL1, dL1, pk_sub, m1p1, gIs_eq, gIs_k, gIs_i, gIs_n, gIs_e, gIJ, gIR, gJI, gJR, gJs_eq, gJs_k, gJs_n, gJs_e, gRI, gRJ, gRs_eq, gRs_k, gRs_i, gRs_n, gZI, gZJ, gZR, pI_s, pJ_s, pV_s, pR_s, pR_n, oR_n, oR_s, decide_true, decide_false, not_true_eq_false, not_false_eq_true, decT, decF, Bool.true_eq_false, Bool.false_eq_true, z01, o01, z1f, z1f', zz, oo, b2i_0, b2i_n, b2i_t, b2i_f, Bool.not_true, Bool.not_false]
          rw [l1]
          simp (disch := omega) only [e_X8_readTest_62, z2, true_and, and_true, false_and, and_false, beq_t, beq_f, eqN_t, eqN_f, eqL_t, eqL_f, nm1, nm2, nm1', nm2', m1z, m2z, zm1, zm2, m12, m21, lg_cmp_ge, lg_cmp_le, lg_cmp_gt, lg_cmp_lt, lg_cmp_eq, oob, oobL, neg0, negL0, natle_f, or_false, false_or, true_or, or_true, or_self, cl, clL, le_t, le_f, lt_t, lt_f, leL_t, leL_f, ltL_t, ltL_f, leM_t, leM_f, ltM_t, ltM_f, leO_t, leO_f, cond_true, cond_false, Option.bind_some, Option.bind_none, if_false, if_true, nI_1, aL1, aL2, mL1, mL2, nI_add, pk_mul, pk_m1, sL1, dL1, pk_sub, m1p1, gIs_eq, gIs_k, gIs_i, gIs_n, gIs_e, gIJ, gIR, gJI, gJR, gJs_eq, gJs_k, gJs_n, gJs_e, gRI, gRJ, gRs_eq, gRs_k, gRs_i, gRs_n, gZI, gZJ, gZR, pI_s, pJ_s, pV_s, pR_s, pR_n, oR_n, oR_s, decide_true, decide_false, not_true_eq_false, not_false_eq_true, decT, decF, Bool.true_eq_false, Bool.false_eq_true, z01, o01, z1f, z1f', zz, oo, b2i_0, b2i_n, b2i_t, b2i_f, Bool.not_true, Bool.not_false]
        have r0 : slS' t V (tkT t) s2 = sB (V (le t (sk t s.1), s2.2)) (fun s'' => sB (tlS' t V (tkT t) s'') (fun s' => slS' t V (tkT t) (bif true then adS s' (-32) else s'))) := by
          rw [sl_2 hV hK (by rw [ep]; exact hk.2) (by rw [en]; exact hn) (by rw [ep, etk, tO]), ep, etk, tO, sB_as]
          rfl
        rw [r0]
        have R := hG _ _ l3 (by show s2.2.1 ≤ 60; omega) (by show s2.2.2.length ≤ le t (sk t s.1); omega)
        refine RCr.fr (w1 := w2) (R.then (F2 := (q_X8_readTest_16 G0 G1 x2 (b2i wf) (nI i) w).bind pI) (fun w' hw => ?_) (fun s' w' hs hw hF hC => ?_)) l2 rfl
        · rw [kd, e_X8_readTest_70]
          simp (disch := omega) only [hw, e_X8_readTest_79, true_and, and_true, false_and, and_false, beq_t, beq_f, eqN_t, eqN_f, eqL_t, eqL_f, nm1, nm2, nm1', nm2', m1z, m2z, zm1, zm2, m12, m21, lg_cmp_ge, lg_cmp_le, lg_cmp_gt, lg_cmp_lt, lg_cmp_eq, oob, oobL, neg0, negL0, natle_f, or_false, false_or, true_or, or_true, or_self, cl, clL, le_t, le_f, lt_t, lt_f, leL_t, leL_f, ltL_t, ltL_f, leM_t, leM_f, ltM_t, ltM_f, leO_t, leO_f, cond_true, cond_false, Option.bind_some, Option.bind_none, if_false, if_true, nI_1, aL1, aL2, mL1, mL2, nI_add, pk_mul, pk_m1, sL1, dL1, pk_sub, m1p1, gIs_eq, gIs_k, gIs_i, gIs_n, gIs_e, gIJ, gIR, gJI, gJR, gJs_eq, gJs_k, gJs_n, gJs_e, gRI, gRJ, gRs_eq, gRs_k, gRs_i, gRs_n, gZI, gZJ, gZR, pI_s, pJ_s, pV_s, pR_s, pR_n, oR_n, oR_s, decide_true, decide_false, not_true_eq_false, not_false_eq_true, decT, decF, Bool.true_eq_false, Bool.false_eq_true, z01, o01, z1f, z1f', zz, oo, b2i_0, b2i_n, b2i_t, b2i_f, Bool.not_true, Bool.not_false]
        · have gv := (hV (le t (sk t s.1), s2.2) hle.2 (by show s2.2.1 ≤ 60; omega)).1 s' hs
          have hlt : le t (sk t s.1) < s'.1 := gv.lt
          have hl2 : s'.2.2.length + le t (sk t s.1) ≤ s2.2.2.length + s'.1 := gv.len.1
          have e5 : q_X8_readTest_16 G0 G1 x2 (b2i wf) (nI i) w = q_X8_readTest_16 G0 G1 x2 (b2i true) (nI (i + 1)) w' := by
            rw [kd, e_X8_readTest_70]
            simp (disch := omega) only [hw, e_X8_readTest_81, e_X8_readTest_95, e_X8_readTest_97, true_and, and_true, false_and, and_false, beq_t, beq_f, eqN_t, eqN_f, eqL_t, eqL_f, nm1, nm2, nm1', nm2', m1z, m2z, zm1, zm2, m12, m21, lg_cmp_ge, lg_cmp_le, lg_cmp_gt, lg_cmp_lt, lg_cmp_eq, oob, oobL, neg0, negL0, natle_f, or_false, false_or, true_or, or_true, or_self, cl, clL, le_t, le_f, lt_t, lt_f, leL_t, leL_f, ltL_t, ltL_f, leM_t, leM_f, ltM_t, ltM_f, leO_t, leO_f, cond_true, cond_false, Option.bind_some, Option.bind_none, if_false, if_true, nI_1, aL1, aL2, mL1, mL2, nI_add, pk_mul, pk_m1, sL1, dL1, pk_sub, m1p1, gIs_eq, gIs_k, gIs_i, gIs_n, gIs_e, gIJ, gIR, gJI, gJR, gJs_eq, gJs_k, gJs_n, gJs_e, gRI, gRJ, gRs_eq, gRs_k, gRs_i, gRs_n, gZI, gZJ, gZR, pI_s, pJ_s, pV_s, pR_s, pR_n, oR_n, oR_s, decide_true, decide_false, not_true_eq_false, not_false_eq_true, decT, decF, Bool.true_eq_false, Bool.false_eq_true, z01, o01, z1f, z1f', zz, oo, b2i_0, b2i_n, b2i_t, b2i_f, Bool.not_true, Bool.not_false]
          rw [e5]
          exact ih (t.1 - s'.1) (by omega) (i + 1) true s' w' rfl hC gv.2.1 (by show _ + 1 ≤ s'.1; omega) (by omega)
      · rw [if_neg cO, if_neg cA] at r1
        have tN : tkT t s.1 = (0, 0, 0) := by unfold tkT; rw [if_neg cA, if_neg cO]
        have C1 : CRt w1 t (sk t s.1, s.2) := h.at k3 (fun κ k q => by unfold PT23; omega) r1.2
        obtain ⟨w2, l1, l2, l3⟩ := lay (-1) _ C1
        have r0 : slS' t V (tkT t) s2 = .inr (sk t s.1, s2.2) := by
          rw [sl_0 (by rw [ep]; exact hk.2) (by rw [ep, etk, tN]; exact (by decide : ¬ (0 : Nat) = 2)), ep, ek]
        rw [r0]
        refine ⟨w2, l2, ?_, l3⟩
        rw [s0, e_X8_readTest_24]
        have r11 := r1.1
        have z1 : ¬ (-1 : Int32) = 1 := by decide
        simp (disch := omega) only [r11, z1, e_X8_readTest_42, true_and, and_true, false_and, and_false, beq_t, beq_f, eqN_t, eqN_f, eqL_t, eqL_f, nm1, nm2, nm1', nm2', m1z, m2z, zm1, zm2, m12, m21, lg_cmp_ge, lg_cmp_le, lg_cmp_gt, lg_cmp_lt, lg_cmp_eq, oob, oobL, neg0, negL0, natle_f, or_false, false_or, true_or, or_true, or_self, cl, clL, le_t, le_f, lt_t, lt_f, leL_t, leL_f, ltL_t, ltL_f, leM_t, leM_f, ltM_t, ltM_f, leO_t, leO_f, cond_true, cond_false, Option.bind_some, Option.bind_none, if_false, if_true, nI_1, aL1, aL2, mL1, mL2, nI_add, pk_mul, pk_m1, sL1, dL1, pk_sub, m1p1, gIs_eq, gIs_k, gIs_i, gIs_n, gIs_e, gIJ, gIR, gJI, gJR, gJs_eq, gJs_k, gJs_n, gJs_e, gRI, gRJ, gRs_eq, gRs_k, gRs_i, gRs_n, gZI, gZJ, gZR, pI_s, pJ_s, pV_s, pR_s, pR_n, oR_n, oR_s, decide_true, decide_false, not_true_eq_false, not_false_eq_true, decT, decF, Bool.true_eq_false, Bool.false_eq_true, z01, o01, z1f, z1f', zz, oo, b2i_0, b2i_n, b2i_t, b2i_f, Bool.not_true, Bool.not_false]
        rw [l1]
        simp (disch := omega) only [e_X8_readTest_62, e_X8_readTest_68, true_and, and_true, false_and, and_false, beq_t, beq_f, eqN_t, eqN_f, eqL_t, eqL_f, nm1, nm2, nm1', nm2', m1z, m2z, zm1, zm2, m12, m21, lg_cmp_ge, lg_cmp_le, lg_cmp_gt, lg_cmp_lt, lg_cmp_eq, oob, oobL, neg0, negL0, natle_f, or_false, false_or, true_or, or_true, or_self, cl, clL, le_t, le_f, lt_t, lt_f, leL_t, leL_f, ltL_t, ltL_f, leM_t, leM_f, ltM_t, ltM_f, leO_t, leO_f, cond_true, cond_false, Option.bind_some, Option.bind_none, if_false, if_true, nI_1, aL1, aL2, mL1, mL2, nI_add, pk_mul, pk_m1, sL1, dL1, pk_sub, m1p1, gIs_eq, gIs_k, gIs_i, gIs_n, gIs_e, gIJ, gIR, gJI, gJR, gJs_eq, gJs_k, gJs_n, gJs_e, gRI, gRJ, gRs_eq, gRs_k, gRs_i, gRs_n, gZI, gZJ, gZR, pI_s, pJ_s, pV_s, pR_s, pR_n, oR_n, oR_s, decide_true, decide_false, not_true_eq_false, not_false_eq_true, decT, decF, Bool.true_eq_false, Bool.false_eq_true, z01, o01, z1f, z1f', zz, oo, b2i_0, b2i_n, b2i_t, b2i_f, Bool.not_true, Bool.not_false]
theorem c_test {t : Tp} (hT : TOk2 t) {d f : Nat} {x2 : Int32} {V : St → Nat ⊕ St} (hV : VOk t true V) (hG : RdOk t (F_X8_readFact f) x2 V) : RdOk t (F_X8_readTest (f + 1)) x2 (suS t V (tkT t)) := by
  intro s w h hn hl
  have hp := h.1.2.2
  have R := hG s w h hn hl
  unfold suS
  rw [sB_as]
  refine R.then (fun w' hw => ?_) (fun s' w' hs hw hF hC => ?_)
  · rw [f_X8_readTest, e_X8_readTest_0]
    simp (disch := omega) only [hw, e_X8_readTest_9, true_and, and_true, false_and, and_false, beq_t, beq_f, eqN_t, eqN_f, eqL_t, eqL_f, nm1, nm2, nm1', nm2', m1z, m2z, zm1, zm2, m12, m21, lg_cmp_ge, lg_cmp_le, lg_cmp_gt, lg_cmp_lt, lg_cmp_eq, oob, oobL, neg0, negL0, natle_f, or_false, false_or, true_or, or_true, or_self, cl, clL, le_t, le_f, lt_t, lt_f, leL_t, leL_f, ltL_t, ltL_f, leM_t, leM_f, ltM_t, ltM_f, leO_t, leO_f, cond_true, cond_false, Option.bind_some, Option.bind_none, if_false, if_true, nI_1, aL1, aL2, mL1, mL2, nI_add, pk_mul, pk_m1, sL1, dL1, pk_sub, m1p1, gIs_eq, gIs_k, gIs_i, gIs_n, gIs_e, gIJ, gIR, gJI, gJR, gJs_eq, gJs_k, gJs_n, gJs_e, gRI, gRJ, gRs_eq, gRs_k, gRs_i, gRs_n, gZI, gZJ, gZR, pI_s, pJ_s, pV_s, pR_s, pR_n, oR_n, oR_s, decide_true, decide_false, not_true_eq_false, not_false_eq_true, decT, decF, Bool.true_eq_false, Bool.false_eq_true, z01, o01, z1f, z1f', zz, oo, b2i_0, b2i_n, b2i_t, b2i_f, Bool.not_true, Bool.not_false]
  · have gv := (hV s hp hn).1 s' hs
    have hlt := gv.lt
    have hle := gv.len.1
    have e5 : F_X8_readTest (f + 1) [.inr (7, 0), .inr (9, 0), .inl (.int x2)] w = (q_X8_readTest_16 (F_X8_readFact f) (F_X8_readTest f) x2 (b2i false) (nI 0) w').bind pI := by
      rw [f_X8_readTest, e_X8_readTest_0]
      simp (disch := omega) only [hw, e_X8_readTest_11, true_and, and_true, false_and, and_false, beq_t, beq_f, eqN_t, eqN_f, eqL_t, eqL_f, nm1, nm2, nm1', nm2', m1z, m2z, zm1, zm2, m12, m21, lg_cmp_ge, lg_cmp_le, lg_cmp_gt, lg_cmp_lt, lg_cmp_eq, oob, oobL, neg0, negL0, natle_f, or_false, false_or, true_or, or_true, or_self, cl, clL, le_t, le_f, lt_t, lt_f, leL_t, leL_f, ltL_t, ltL_f, leM_t, leM_f, ltM_t, ltM_f, leO_t, leO_f, cond_true, cond_false, Option.bind_some, Option.bind_none, if_false, if_true, nI_1, aL1, aL2, mL1, mL2, nI_add, pk_mul, pk_m1, sL1, dL1, pk_sub, m1p1, gIs_eq, gIs_k, gIs_i, gIs_n, gIs_e, gIJ, gIR, gJI, gJR, gJs_eq, gJs_k, gJs_n, gJs_e, gRI, gRJ, gRs_eq, gRs_k, gRs_i, gRs_n, gZI, gZJ, gZR, pI_s, pJ_s, pV_s, pR_s, pR_n, oR_n, oR_s, decide_true, decide_false, not_true_eq_false, not_false_eq_true, decT, decF, Bool.true_eq_false, Bool.false_eq_true, z01, o01, z1f, z1f', zz, oo, b2i_0, b2i_n, b2i_t, b2i_f, Bool.not_true, Bool.not_false]
      rfl
    rw [e5]
    exact c_testloop hT hV hG _ 0 false s' w' rfl hC gv.2.1 (by show s'.2.2.length + 0 ≤ s'.1; omega) (by omega)
theorem c_compare {t : Tp} (hT : TOk2 t) {w : XW} {q : Nat} (h : CTp w t q) : ∃ w', Fr PT2 w w' ∧ match cpS t q with
    | none => F_X8_passCompare [.inr (9, 0)] w = some (0, w')
    | some r => F_X8_passCompare [.inr (9, 0)] w = some (r.2, w') ∧ CTp w' t r.1 ∧ ¬ r.2 = 0 := by
  have h4 := hT.1
  obtain ⟨h1, h2, h3⟩ := h
  have b0 := c_byteAt h1 hT (p := q) (by omega)
  have F1 : Fr PT2 w (sI w 9 0 2 (nI (q + 1))) := (Fr.refl _ _).sI ⟨rfl, rfl⟩
  have ct1 : CT (sI w 9 0 2 (nI (q + 1))) t.1 t.2 := h1.fr F1 (fun κ k q => by unfold PT2; omega)
  have b1 := c_byteAt ct1 hT (p := q + 1) (by omega)
  have F2 : Fr PT2 w (sI (sI w 9 0 2 (nI (q + 1))) 9 0 2 (nI (q + 2))) := F1.sI ⟨rfl, rfl⟩
  unfold cpS
  by_cases c : q < t.1
  · have e1 : chS t q = nI (t.2 q) := if_pos c
    have hb := hT.2 _ c
    rw [e1] at b0
    rw [if_pos c]
    by_cases c1 : t.2 q = 61
    · rw [if_pos c1]
      rw [c1] at b0
      refine ⟨_, F1, ?_, ⟨ct1, gIs_eq, c⟩, by dsimp only; decide⟩
      rw [f_X8_passCompare, e_X8_passCompare_0]
      simp (disch := omega) only [h2, b0, e_X8_passCompare_15, e_X8_passCompare_29, e_X8_passCompare_45, true_and, and_true, false_and, and_false, beq_t, beq_f, eqN_t, eqN_f, eqL_t, eqL_f, nm1, nm2, nm1', nm2', m1z, m2z, zm1, zm2, m12, m21, lg_cmp_ge, lg_cmp_le, lg_cmp_gt, lg_cmp_lt, lg_cmp_eq, oob, oobL, neg0, negL0, natle_f, or_false, false_or, true_or, or_true, or_self, cl, clL, le_t, le_f, lt_t, lt_f, leL_t, leL_f, ltL_t, ltL_f, leM_t, leM_f, ltM_t, ltM_f, leO_t, leO_f, cond_true, cond_false, Option.bind_some, Option.bind_none, if_false, if_true, nI_1, aL1, aL2, mL1, mL2, nI_add, pk_mul, pk_m1, sL1, dL1, pk_sub, m1p1, gIs_eq, gIs_k, gIs_i, gIs_n, gIs_e, gIJ, gIR, gJI, gJR, gJs_eq, gJs_k, gJs_n, gJs_e, gRI, gRJ, gRs_eq, gRs_k, gRs_i, gRs_n, gZI, gZJ, gZR, pI_s, pJ_s, pV_s, pR_s, pR_n, oR_n, oR_s, decide_true, decide_false, not_true_eq_false, not_false_eq_true, decT, decF, Bool.true_eq_false, Bool.false_eq_true, z01, o01, z1f, z1f', zz, oo, b2i_0, b2i_n, b2i_t, b2i_f, Bool.not_true, Bool.not_false]
    · rw [if_neg c1]
      by_cases c2 : t.2 q = 60
      · rw [if_pos c2]
        rw [c2] at b0
        by_cases c3 : q + 1 < t.1 ∧ t.2 (q + 1) = 61
        · rw [if_pos c3]
          have e2 : chS t (q + 1) = 61 := by unfold chS; rw [if_pos c3.1, c3.2]; rfl
          rw [e2] at b1
          refine ⟨_, F2, ?_, ⟨h1.fr F2 (fun κ k q => by unfold PT2; omega), gIs_eq, c3.1⟩, by dsimp only; decide⟩
          rw [f_X8_passCompare, e_X8_passCompare_0]
          simp (disch := omega) only [h2, b0, e_X8_passCompare_29, e_X8_passCompare_48, b1, e_X8_passCompare_61, e_X8_passCompare_77, e_X8_passCompare_84, true_and, and_true, false_and, and_false, beq_t, beq_f, eqN_t, eqN_f, eqL_t, eqL_f, nm1, nm2, nm1', nm2', m1z, m2z, zm1, zm2, m12, m21, lg_cmp_ge, lg_cmp_le, lg_cmp_gt, lg_cmp_lt, lg_cmp_eq, oob, oobL, neg0, negL0, natle_f, or_false, false_or, true_or, or_true, or_self, cl, clL, le_t, le_f, lt_t, lt_f, leL_t, leL_f, ltL_t, ltL_f, leM_t, leM_f, ltM_t, ltM_f, leO_t, leO_f, cond_true, cond_false, Option.bind_some, Option.bind_none, if_false, if_true, nI_1, aL1, aL2, mL1, mL2, nI_add, pk_mul, pk_m1, sL1, dL1, pk_sub, m1p1, gIs_eq, gIs_k, gIs_i, gIs_n, gIs_e, gIJ, gIR, gJI, gJR, gJs_eq, gJs_k, gJs_n, gJs_e, gRI, gRJ, gRs_eq, gRs_k, gRs_i, gRs_n, gZI, gZJ, gZR, pI_s, pJ_s, pV_s, pR_s, pR_n, oR_n, oR_s, decide_true, decide_false, not_true_eq_false, not_false_eq_true, decT, decF, Bool.true_eq_false, Bool.false_eq_true, z01, o01, z1f, z1f', zz, oo, b2i_0, b2i_n, b2i_t, b2i_f, Bool.not_true, Bool.not_false]
        · rw [if_neg c3]
          have e2 : ¬ chS t (q + 1) = 61 := by
            unfold chS
            by_cases c4 : q + 1 < t.1
            · rw [if_pos c4]
              intro z
              have hb1 := hT.2 _ c4
              exact c3 ⟨c4, (nI_eq (a := t.2 (q + 1)) (b := 61) (by omega) (by omega)).mp z⟩
            · rw [if_neg c4]; decide
          refine ⟨_, F1, ?_, ⟨ct1, gIs_eq, c⟩, by dsimp only; decide⟩
          rw [f_X8_passCompare, e_X8_passCompare_0]
          simp (disch := omega) only [h2, b0, e_X8_passCompare_29, e_X8_passCompare_48, b1, e2, e_X8_passCompare_85, e_X8_passCompare_91, e_X8_passCompare_98, true_and, and_true, false_and, and_false, beq_t, beq_f, eqN_t, eqN_f, eqL_t, eqL_f, nm1, nm2, nm1', nm2', m1z, m2z, zm1, zm2, m12, m21, lg_cmp_ge, lg_cmp_le, lg_cmp_gt, lg_cmp_lt, lg_cmp_eq, oob, oobL, neg0, negL0, natle_f, or_false, false_or, true_or, or_true, or_self, cl, clL, le_t, le_f, lt_t, lt_f, leL_t, leL_f, ltL_t, ltL_f, leM_t, leM_f, ltM_t, ltM_f, leO_t, leO_f, cond_true, cond_false, Option.bind_some, Option.bind_none, if_false, if_true, nI_1, aL1, aL2, mL1, mL2, nI_add, pk_mul, pk_m1, sL1, dL1, pk_sub, m1p1, gIs_eq, gIs_k, gIs_i, gIs_n, gIs_e, gIJ, gIR, gJI, gJR, gJs_eq, gJs_k, gJs_n, gJs_e, gRI, gRJ, gRs_eq, gRs_k, gRs_i, gRs_n, gZI, gZJ, gZR, pI_s, pJ_s, pV_s, pR_s, pR_n, oR_n, oR_s, decide_true, decide_false, not_true_eq_false, not_false_eq_true, decT, decF, Bool.true_eq_false, Bool.false_eq_true, z01, o01, z1f, z1f', zz, oo, b2i_0, b2i_n, b2i_t, b2i_f, Bool.not_true, Bool.not_false]
      · rw [if_neg c2]
        by_cases c5 : t.2 q = 62
        · rw [if_pos c5]
          rw [c5] at b0
          by_cases c3 : q + 1 < t.1 ∧ t.2 (q + 1) = 61
          · rw [if_pos c3]
            have e2 : chS t (q + 1) = 61 := by unfold chS; rw [if_pos c3.1, c3.2]; rfl
            rw [e2] at b1
            refine ⟨_, F2, ?_, ⟨h1.fr F2 (fun κ k q => by unfold PT2; omega), gIs_eq, c3.1⟩, by dsimp only; decide⟩
            rw [f_X8_passCompare, e_X8_passCompare_0]
            simp (disch := omega) only [h2, b0, e_X8_passCompare_15, e_X8_passCompare_21, e_X8_passCompare_29, e_X8_passCompare_48, b1, e_X8_passCompare_61, e_X8_passCompare_82, e_X8_passCompare_84, true_and, and_true, false_and, and_false, beq_t, beq_f, eqN_t, eqN_f, eqL_t, eqL_f, nm1, nm2, nm1', nm2', m1z, m2z, zm1, zm2, m12, m21, lg_cmp_ge, lg_cmp_le, lg_cmp_gt, lg_cmp_lt, lg_cmp_eq, oob, oobL, neg0, negL0, natle_f, or_false, false_or, true_or, or_true, or_self, cl, clL, le_t, le_f, lt_t, lt_f, leL_t, leL_f, ltL_t, ltL_f, leM_t, leM_f, ltM_t, ltM_f, leO_t, leO_f, cond_true, cond_false, Option.bind_some, Option.bind_none, if_false, if_true, nI_1, aL1, aL2, mL1, mL2, nI_add, pk_mul, pk_m1, sL1, dL1, pk_sub, m1p1, gIs_eq, gIs_k, gIs_i, gIs_n, gIs_e, gIJ, gIR, gJI, gJR, gJs_eq, gJs_k, gJs_n, gJs_e, gRI, gRJ, gRs_eq, gRs_k, gRs_i, gRs_n, gZI, gZJ, gZR, pI_s, pJ_s, pV_s, pR_s, pR_n, oR_n, oR_s, decide_true, decide_false, not_true_eq_false, not_false_eq_true, decT, decF, Bool.true_eq_false, Bool.false_eq_true, z01, o01, z1f, z1f', zz, oo, b2i_0, b2i_n, b2i_t, b2i_f, Bool.not_true, Bool.not_false]
          · rw [if_neg c3]
            have e2 : ¬ chS t (q + 1) = 61 := by
              unfold chS
              by_cases c4 : q + 1 < t.1
              · rw [if_pos c4]
                intro z
                have hb1 := hT.2 _ c4
                exact c3 ⟨c4, (nI_eq (a := t.2 (q + 1)) (b := 61) (by omega) (by omega)).mp z⟩
              · rw [if_neg c4]; decide
            refine ⟨_, F1, ?_, ⟨ct1, gIs_eq, c⟩, by dsimp only; decide⟩
            rw [f_X8_passCompare, e_X8_passCompare_0]
            simp (disch := omega) only [h2, b0, e_X8_passCompare_15, e_X8_passCompare_21, e_X8_passCompare_29, e_X8_passCompare_48, b1, e2, e_X8_passCompare_85, e_X8_passCompare_96, e_X8_passCompare_98, true_and, and_true, false_and, and_false, beq_t, beq_f, eqN_t, eqN_f, eqL_t, eqL_f, nm1, nm2, nm1', nm2', m1z, m2z, zm1, zm2, m12, m21, lg_cmp_ge, lg_cmp_le, lg_cmp_gt, lg_cmp_lt, lg_cmp_eq, oob, oobL, neg0, negL0, natle_f, or_false, false_or, true_or, or_true, or_self, cl, clL, le_t, le_f, lt_t, lt_f, leL_t, leL_f, ltL_t, ltL_f, leM_t, leM_f, ltM_t, ltM_f, leO_t, leO_f, cond_true, cond_false, Option.bind_some, Option.bind_none, if_false, if_true, nI_1, aL1, aL2, mL1, mL2, nI_add, pk_mul, pk_m1, sL1, dL1, pk_sub, m1p1, gIs_eq, gIs_k, gIs_i, gIs_n, gIs_e, gIJ, gIR, gJI, gJR, gJs_eq, gJs_k, gJs_n, gJs_e, gRI, gRJ, gRs_eq, gRs_k, gRs_i, gRs_n, gZI, gZJ, gZR, pI_s, pJ_s, pV_s, pR_s, pR_n, oR_n, oR_s, decide_true, decide_false, not_true_eq_false, not_false_eq_true, decT, decF, Bool.true_eq_false, Bool.false_eq_true, z01, o01, z1f, z1f', zz, oo, b2i_0, b2i_n, b2i_t, b2i_f, Bool.not_true, Bool.not_false]
        · rw [if_neg c5]
          refine ⟨w, Fr.refl _ _, ?_⟩
          rw [f_X8_passCompare, e_X8_passCompare_0]
          simp (disch := omega) only [h2, b0, e_X8_passCompare_15, e_X8_passCompare_21, e_X8_passCompare_27, true_and, and_true, false_and, and_false, beq_t, beq_f, eqN_t, eqN_f, eqL_t, eqL_f, nm1, nm2, nm1', nm2', m1z, m2z, zm1, zm2, m12, m21, lg_cmp_ge, lg_cmp_le, lg_cmp_gt, lg_cmp_lt, lg_cmp_eq, oob, oobL, neg0, negL0, natle_f, or_false, false_or, true_or, or_true, or_self, cl, clL, le_t, le_f, lt_t, lt_f, leL_t, leL_f, ltL_t, ltL_f, leM_t, leM_f, ltM_t, ltM_f, leO_t, leO_f, cond_true, cond_false, Option.bind_some, Option.bind_none, if_false, if_true, nI_1, aL1, aL2, mL1, mL2, nI_add, pk_mul, pk_m1, sL1, dL1, pk_sub, m1p1, gIs_eq, gIs_k, gIs_i, gIs_n, gIs_e, gIJ, gIR, gJI, gJR, gJs_eq, gJs_k, gJs_n, gJs_e, gRI, gRJ, gRs_eq, gRs_k, gRs_i, gRs_n, gZI, gZJ, gZR, pI_s, pJ_s, pV_s, pR_s, pR_n, oR_n, oR_s, decide_true, decide_false, not_true_eq_false, not_false_eq_true, decT, decF, Bool.true_eq_false, Bool.false_eq_true, z01, o01, z1f, z1f', zz, oo, b2i_0, b2i_n, b2i_t, b2i_f, Bool.not_true, Bool.not_false]
  · have e1 : chS t q = -1 := if_neg c
    rw [e1] at b0
    rw [if_neg c]
    have z1 : ¬ (-1 : Int32) = 60 := by decide
    have z2 : ¬ (-1 : Int32) = 61 := by decide
    have z3 : ¬ (-1 : Int32) = 62 := by decide
    refine ⟨w, Fr.refl _ _, ?_⟩
    rw [f_X8_passCompare, e_X8_passCompare_0]
    simp (disch := omega) only [h2, b0, z1, z2, z3, e_X8_passCompare_15, e_X8_passCompare_21, e_X8_passCompare_27, true_and, and_true, false_and, and_false, beq_t, beq_f, eqN_t, eqN_f, eqL_t, eqL_f, nm1, nm2, nm1', nm2', m1z, m2z, zm1, zm2, m12, m21, lg_cmp_ge, lg_cmp_le, lg_cmp_gt, lg_cmp_lt, lg_cmp_eq, oob, oobL, neg0, negL0, natle_f, or_false, false_or, true_or, or_true, or_self, cl, clL, le_t, le_f, lt_t, lt_f, leL_t, leL_f, ltL_t, ltL_f, leM_t, leM_f, ltM_t, ltM_f, leO_t, leO_f, cond_true, cond_false, Option.bind_some, Option.bind_none, if_false, if_true, nI_1, aL1, aL2, mL1, mL2, nI_add, pk_mul, pk_m1, sL1, dL1, pk_sub, m1p1, gIs_eq, gIs_k, gIs_i, gIs_n, gIs_e, gIJ, gIR, gJI, gJR, gJs_eq, gJs_k, gJs_n, gJs_e, gRI, gRJ, gRs_eq, gRs_k, gRs_i, gRs_n, gZI, gZJ, gZR, pI_s, pJ_s, pV_s, pR_s, pR_n, oR_n, oR_s, decide_true, decide_false, not_true_eq_false, not_false_eq_true, decT, decF, Bool.true_eq_false, Bool.false_eq_true, z01, o01, z1f, z1f', zz, oo, b2i_0, b2i_n, b2i_t, b2i_f, Bool.not_true, Bool.not_false]
