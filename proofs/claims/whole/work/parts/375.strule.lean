/-! ===== rule(): one step on both sides ===== -/
theorem app_l {a b : List Int32} {i : Nat} {st : Int32} (h : a[i]? = some st) : (a ++ b)[i]? = some st := by
  rw [List.getElem?_append_left (List.getElem?_eq_some_iff.mp h).1]; exact h
theorem app_r {a b : List Int32} {i : Nat} {st : Int32} (h : b[i]? = some st) : (a ++ b)[a.length + i]? = some st := by
  rw [List.getElem?_append_right (by omega), Nat.add_sub_cancel_left]; exact h
theorem flR_cons (c tt : List Int32) (r : Rl) : flR ((c, tt) :: r) = c ++ (tt ++ flR r) := by
  unfold flR
  rw [List.flatMap_cons]
  exact List.append_assoc _ _ _
theorem rc_of {w : XW} {jr : Nat} : ∀ (rl : Rl) (ci o : Nat), BdAt (gI w 27 jr) ci o rl → (∀ i st, (flR rl)[i]? = some st → gI w 26 jr (o + i) = st ∧ o + i < gZ w 26 jr) → o + (flR rl).length ≤ 400 → RcAt w jr ci o rl := by
  intro rl
  induction rl with
  | nil => intro ci o _ _ _; trivial
  | cons q r ih =>
    intro ci o h hl hn
    obtain ⟨c, tt⟩ := q
    obtain ⟨⟨b1, b2, b3⟩, b4⟩ := h
    rw [flR_cons] at hl hn
    rw [List.length_append, List.length_append] at hn
    refine ⟨⟨b1, b2, b3, fun i st hi => hl i st (app_l hi), fun i st hi => ?_, by omega⟩, ih _ _ b4 (fun i st hi => ?_) (by omega)⟩
    · rw [show o + c.length + i = o + (c.length + i) by omega]
      exact hl _ st (app_r (app_l hi))
    · rw [show o + c.length + tt.length + i = o + (c.length + (tt.length + i)) by omega]
      exact hl _ st (app_r (app_r hi))
theorem rm_of {w : XW} {T : Nat} : ∀ (rl : Rl) (ci o : Nat), BmAt (gI w 44 0) T ci o rl → (∀ i st, (flR rl)[i]? = some st → gI w 42 0 (400 * T + (o + i)) = encS st) → o + (flR rl).length ≤ 400 → RmAt w T ci o rl := by
  intro rl
  induction rl with
  | nil => intro ci o _ _ _; trivial
  | cons q r ih =>
    intro ci o h hl hn
    obtain ⟨c, tt⟩ := q
    obtain ⟨⟨b1, b2, b3, b3'⟩, b4⟩ := h
    rw [flR_cons] at hl hn
    rw [List.length_append, List.length_append] at hn
    refine ⟨⟨b1, b2, b3, b3', fun i st hi => hl i st (app_l hi), fun i st hi => ?_, by omega⟩, ih _ _ b4 (fun i st hi => ?_) (by omega)⟩
    · rw [show o + c.length + i = o + (c.length + i) by omega]
      exact hl _ st (app_r (app_l hi))
    · rw [show o + c.length + tt.length + i = o + (c.length + (tt.length + i)) by omega]
      exact hl _ st (app_r (app_r hi))
theorem RmAt.frT {P : Nat → Nat → Nat → Prop} {w w' : XW} {t : Nat} (hF : Fr P w w') (hP : ∀ κ k, (κ = 42 ∧ 400 * t ≤ k ∧ k < 400 * t + 400) ∨ (κ = 44 ∧ 48 * t ≤ k ∧ k < 48 * t + 48) → ¬ P κ 0 k) : ∀ (rl : Rl) (ci o : Nat), ci + rl.length ≤ 12 → RmAt w t ci o rl → RmAt w' t ci o rl := by
  intro rl
  induction rl with
  | nil => intro _ _ _ _; trivial
  | cons q r ih =>
    intro ci o hc h
    obtain ⟨c, tt⟩ := q
    rw [List.length_cons] at hc
    obtain ⟨⟨h1, h2, h3, h3', h4, h5, h6⟩, h7⟩ := h
    refine ⟨⟨by rw [(hF 44 0 _ (hP 44 _ (by omega))).1]; exact h1, by rw [(hF 44 0 _ (hP 44 _ (by omega))).1]; exact h2, by rw [(hF 44 0 _ (hP 44 _ (by omega))).1]; exact h3, by rw [(hF 44 0 _ (hP 44 _ (by omega))).1]; exact h3', fun i st hi => ?_, fun i st hi => ?_, h6⟩, ih _ _ (by omega) h7⟩
    · have := (List.getElem?_eq_some_iff.mp hi).1
      rw [(hF 42 0 _ (hP 42 _ (by omega))).1]
      exact h4 i st hi
    · have := (List.getElem?_eq_some_iff.mp hi).1
      rw [(hF 42 0 _ (hP 42 _ (by omega))).1]
      exact h5 i st hi
/-- a rule made of what was read -/
def MadeOk (w : XW) (j : Nat) (w' : XW) : Prop := Fr (fun κ i _ => (κ = 6 ∨ κ = 26 ∨ κ = 27) ∧ i = j) w w' ∧ gI w' 6 j 2 = gI w 7 0 3 ∧ gZ w' 26 j = (gI w 7 0 2).toNatClampNeg ∧ gZ w' 27 j = 3 * (gI w 7 0 3).toNatClampNeg ∧ (∀ k, gI w' 26 j k = gI w 28 0 k) ∧ ∀ k, gI w' 27 j k = gI w 29 0 k
noncomputable def FRule (Mk : XW → XW) (n : Nat) (w : XW) : Option (Int32 × XW) :=
  bif decide (gI w 10 0 3 < 6) then ((F_X8_read [.inr (7, 0), .inr (9, 0)] w).bind fun r0 => (bif decide (¬ r0.1 = 0) then some (gI w 10 0 3, sI (sR (Mk (sI r0.2 9 0 1 0)) 35 0 (gI w 10 0 3).toNatClampNeg (some n)) 10 0 3 (gI w 10 0 3 + 1)) else some (-2 - gI r0.2 9 0 5, sI r0.2 9 0 1 0))) else some (-1, w)
/-- no reference to a rule from n on -/
def Fs6 (w : XW) (n : Nat) : Prop := ∀ t j, t < 6 → gR w 35 0 t = some j → j < n
theorem st_rule {w : XW} (hR : Rel w) {n : Nat} (hn : Fs6 w n) {Mk : XW → XW} (hMk : ∀ w, MadeOk w n (Mk w)) : StepOk (FRule Mk n) (F_X12_rule [.inr (11, 0)]) w := by
  obtain ⟨g, hc, hm, ho⟩ := hR
  obtain ⟨⟨d, s, rs, f⟩, hs, no, sx, im, tn, tb⟩ := g
  have hT : TOk2 (tn, tb) := ⟨ho.2.2.2.2.2.1, ho.2.2.2.2.2.2⟩
  have h10 : no.1 ≤ 10 := ho.2.2.1.1
  have hr6 : rs.length ≤ 6 := ho.1.2.2.2.1
  have g3 : gI w 10 0 3 = nI rs.length := hc.1.2.2.1.1
  have m2 : gI w 11 0 2 = nI rs.length := hm.1.2.2.2.1.1
  by_cases c6 : rs.length = 6
  · refine ⟨-1, w, w, ?_, ?_, _, hc, hm, ho⟩
    · unfold FRule
      simp (disch := omega) only [g3, c6, true_and, and_true, false_and, and_false, beq_t, beq_f, eqN_t, eqN_f, eqL_t, eqL_f, nm1, nm2, nm1', nm2', m1z, m2z, zm1, zm2, m12, m21, lg_cmp_ge, lg_cmp_le, lg_cmp_gt, lg_cmp_lt, lg_cmp_eq, oob, oobL, neg0, negL0, natle_f, or_false, false_or, true_or, or_true, or_self, cl, clL, le_t, le_f, lt_t, lt_f, leL_t, leL_f, ltL_t, ltL_f, leM_t, leM_f, ltM_t, ltM_f, leO_t, leO_f, cond_true, cond_false, Option.bind_some, Option.bind_none, if_false, if_true, nI_1, aL1, aL2, mL1, mL2, nI_add, pk_mul, pk_m1, sL1, dL1, pk_sub, m1p1, gIs_eq, gIs_k, gIs_i, gIs_n, gIs_e, gIJ, gIR, gJI, gJR, gJs_eq, gJs_k, gJs_n, gJs_e, gRI, gRJ, gRs_eq, gRs_k, gRs_i, gRs_n, gZI, gZJ, gZR, pI_s, pJ_s, pV_s, pR_s, pR_n, oR_n, oR_s, decide_true, decide_false, not_true_eq_false, not_false_eq_true, decT, decF, Bool.true_eq_false, Bool.false_eq_true, z01, o01, z1f, z1f', zz, oo, b2i_0, b2i_n, b2i_t, b2i_f, Bool.not_true, Bool.not_false]
    · rw [f_X12_rule, e_X12_rule_0]
      simp (disch := omega) only [m2, e_X12_rule_9, true_and, and_true, false_and, and_false, beq_t, beq_f, eqN_t, eqN_f, eqL_t, eqL_f, nm1, nm2, nm1', nm2', m1z, m2z, zm1, zm2, m12, m21, lg_cmp_ge, lg_cmp_le, lg_cmp_gt, lg_cmp_lt, lg_cmp_eq, oob, oobL, neg0, negL0, natle_f, or_false, false_or, true_or, or_true, or_self, cl, clL, le_t, le_f, lt_t, lt_f, leL_t, leL_f, ltL_t, ltL_f, leM_t, leM_f, ltM_t, ltM_f, leO_t, leO_f, cond_true, cond_false, Option.bind_some, Option.bind_none, if_false, if_true, nI_1, aL1, aL2, mL1, mL2, nI_add, pk_mul, pk_m1, sL1, dL1, pk_sub, m1p1, gIs_eq, gIs_k, gIs_i, gIs_n, gIs_e, gIJ, gIR, gJI, gJR, gJs_eq, gJs_k, gJs_n, gJs_e, gRI, gRJ, gRs_eq, gRs_k, gRs_i, gRs_n, gZI, gZJ, gZR, pI_s, pJ_s, pV_s, pR_s, pR_n, oR_n, oR_s, decide_true, decide_false, not_true_eq_false, not_false_eq_true, decT, decF, Bool.true_eq_false, Bool.false_eq_true, z01, o01, z1f, z1f', zz, oo, b2i_0, b2i_n, b2i_t, b2i_f, Bool.not_true, Bool.not_false]
  · have hlt : rs.length < 6 := by omega
    obtain ⟨w1, F1, r1⟩ := c_rule hT (show CT w tn tb from hc.2.2.2.2.2)
    cases hr : rlS (tn, tb) with
    | inl fl =>
      rw [hr] at r1
      obtain ⟨r1, r2⟩ := r1
      have F2 : Fr (fun κ _ k => (κ = 9 ∧ 1 ≤ k) ∨ κ = 28 ∨ κ = 29 ∨ κ = 7) w (sI w1 9 0 1 0) := (F1.mono (fun κ i k q => by unfold PCL at q; omega)).sI (by omega)
      have hc1 : CS (sI w1 9 0 1 0) ((d, s, rs, f), hs, no, sx, im, 0, tb) :=
        ⟨hc.1.frx F2 (fun κ j k q => by omega), hc.2.1.fr F2 (fun κ j k q => by omega), hc.2.2.1.fr F2 (fun κ k q => by omega), by rw [(F2 10 0 12 (by omega)).1]; exact hc.2.2.2.1, hc.2.2.2.2.1.fr F2 (fun κ j k q => by omega), ⟨gIs_eq, fun i hi => absurd hi (Nat.not_lt_zero _)⟩⟩
      have hm1 := hm.frc ho (F2.mono (fun κ i k q => by unfold PCl; omega))
      have md := m_rule hlt hT (show MT (sI w1 9 0 1 0) tn tb from hm1.2.2.2.2.2) hm1.1.2.2.2.1.1
      rw [hr] at md
      obtain ⟨w2, y1, y2, y3⟩ := md
      have kR : MR w2 rs := by
        refine ⟨by rw [(y2 11 0 2 (by unfold PMR; omega)).1]; exact hm1.1.2.2.2.1.1, fun t rl ht => ?_⟩
        have htl : t < rs.length := (List.getElem?_eq_some_iff.mp ht).1
        obtain ⟨q0, q1, q2, q3⟩ := hm1.1.2.2.2.1.2 t rl ht
        exact ⟨q0, by rw [(y2 45 0 t (by unfold PMR; omega)).1]; exact q1, q2, RmAt.frT y2 (fun κ k q => by unfold PMR; omega) rl 0 0 (by omega) q3⟩
      refine ⟨-2 - nI fl, sI w1 9 0 1 0, w2, ?_, y1, _, hc1.frm (y2.mono (fun κ i k q => by unfold PMR at q; unfold PMo; omega)), ⟨⟨hm1.1.1.fr y2 (fun k q => by unfold PMR; omega), hm1.1.2.1.fr y2 (fun k q => by unfold PMR; omega), hm1.1.2.2.1.fr y2 (fun k q => by unfold PMR; omega), kR, by rw [(y2 11 0 21 (by unfold PMR; omega)).1]; exact hm1.1.2.2.2.2.1, by rw [(y2 11 0 23 (by unfold PMR; omega)).1]; exact hm1.1.2.2.2.2.2⟩, hm1.2.1.fr y2 (fun κ k q => by unfold PMR; omega), hm1.2.2.1.fr h10 y2 (fun k q => by unfold PMR; omega), by rw [(y2 11 0 22 (by unfold PMR; omega)).1]; exact hm1.2.2.2.1, hm1.2.2.2.2.1.fr y2 (fun κ k q => by unfold PMR; omega), ⟨y3, fun i hi => absurd hi (Nat.not_lt_zero _)⟩⟩, ?_⟩
      · unfold FRule
        simp (disch := omega) only [g3, r1, r2, true_and, and_true, false_and, and_false, beq_t, beq_f, eqN_t, eqN_f, eqL_t, eqL_f, nm1, nm2, nm1', nm2', m1z, m2z, zm1, zm2, m12, m21, lg_cmp_ge, lg_cmp_le, lg_cmp_gt, lg_cmp_lt, lg_cmp_eq, oob, oobL, neg0, negL0, natle_f, or_false, false_or, true_or, or_true, or_self, cl, clL, le_t, le_f, lt_t, lt_f, leL_t, leL_f, ltL_t, ltL_f, leM_t, leM_f, ltM_t, ltM_f, leO_t, leO_f, cond_true, cond_false, Option.bind_some, Option.bind_none, if_false, if_true, nI_1, aL1, aL2, mL1, mL2, nI_add, pk_mul, pk_m1, sL1, dL1, pk_sub, m1p1, gIs_eq, gIs_k, gIs_i, gIs_n, gIs_e, gIJ, gIR, gJI, gJR, gJs_eq, gJs_k, gJs_n, gJs_e, gRI, gRJ, gRs_eq, gRs_k, gRs_i, gRs_n, gZI, gZJ, gZR, pI_s, pJ_s, pV_s, pR_s, pR_n, oR_n, oR_s, decide_true, decide_false, not_true_eq_false, not_false_eq_true, decT, decF, Bool.true_eq_false, Bool.false_eq_true, z01, o01, z1f, z1f', zz, oo, b2i_0, b2i_n, b2i_t, b2i_f, Bool.not_true, Bool.not_false]
      · exact ⟨ho.1, ho.2.1, ho.2.2.1, ho.2.2.2.1, ho.2.2.2.2.1, Nat.zero_le _, fun i hi => absurd hi (Nat.not_lt_zero _)⟩
    | inr q =>
      have hJ := rr_ok hT 13 _ _ (Jr0 (tn, tb)) q hr
      obtain ⟨sq, rl⟩ := q
      rw [hr] at r1
      obtain ⟨r1, e1, e2, e3, e4⟩ := r1
      have e1 : gI w1 7 0 2 = nI sq.2.2.length := e1
      have e2 : LsAt (gI w1 28 0) sq.2.2 := e2
      have e3 : gI w1 7 0 3 = nI rl.length := e3
      have e4 : BdAt (gI w1 29 0) 0 0 rl := e4
      obtain ⟨j1, j2, j3, j5, j6, j7⟩ := hJ
      have j1 : sq.1 ≤ tn := j1
      have j3 : sq.2.2.length ≤ sq.1 := j3
      have j5 : sq.2.2 = flR rl := j5
      have j6 : rl.length ≤ 12 := j6
      have j7 : ROk rl := j7
      have h400 : tn ≤ 400 := hT.1
      have F2 : Fr (fun κ _ k => (κ = 9 ∧ 1 ≤ k) ∨ κ = 28 ∨ κ = 29 ∨ κ = 7) w (sI w1 9 0 1 0) := (F1.mono (fun κ i k q => by unfold PCL at q; omega)).sI (by omega)
      obtain ⟨k1, k2, k3, k4, k5, k6⟩ := hMk (sI w1 9 0 1 0)
      rw [gIs_n (by omega), e3] at k2 k4
      rw [gIs_n (by omega), e1] at k3
      rw [cl (by omega)] at k3 k4
      have F4 : Fr (fun κ i k => (κ = 9 ∧ 1 ≤ k) ∨ κ = 28 ∨ κ = 29 ∨ κ = 7 ∨ ((κ = 6 ∨ κ = 26 ∨ κ = 27) ∧ i = n) ∨ (κ = 35 ∧ k = rs.length) ∨ (κ = 10 ∧ k = 3)) w (sI (sR (Mk (sI w1 9 0 1 0)) 35 0 rs.length (some n)) 10 0 3 (nI (rs.length + 1))) := (((F2.mono (fun κ i k q => by omega)).trans (k1.mono (fun κ i k q => by omega))).sR (by omega)).sI (by omega)
      have rlc : RlC (sI (sR (Mk (sI w1 9 0 1 0)) 35 0 rs.length (some n)) 10 0 3 (nI (rs.length + 1))) n rl := by
        refine ⟨by rw [gIs_n (by omega), gIR]; exact k2, j6, by rw [gZI, gZR]; exact k4, by rw [gZI, gZR, k3]; omega, rc_of rl 0 0 ?_ (fun i st hi => ?_) (by rw [← j5]; omega)⟩
        · exact e4.cg _ _ _ (fun i _ => by rw [gIs_n (by omega), gIR, k6 i, gIs_n (by omega)])
        · rw [← j5] at hi
          have hlt2 := (List.getElem?_eq_some_iff.mp hi).1
          rw [Nat.zero_add, gZI, gZR, k3, gIs_n (by omega), gIR, k5 i, gIs_n (by omega)]
          exact ⟨e2 i st hi, hlt2⟩
      have hc1 : CS (sI (sR (Mk (sI w1 9 0 1 0)) 35 0 rs.length (some n)) 10 0 3 (nI (rs.length + 1))) ((d, s, rs ++ [rl], f), hs, no, sx, im, 0, tb) := by
        obtain ⟨⟨⟨jd, a1, a2⟩, ⟨a3, a4⟩, ⟨a5, a6⟩, a7⟩, b1, b2, b3, b4, b5⟩ := hc
        refine ⟨⟨⟨jd, ?_, a2.fr F4 (fun κ k q => by omega)⟩, ⟨a3.fr F4 (fun κ k q => by omega), ?_⟩, ⟨?_, fun t r ht => ?_⟩, ?_⟩, b1.fr F4 (fun κ j k q => by omega), b2.fr F4 (fun κ k q => by omega), ?_, b4.fr F4 (fun κ j k q => by omega), ⟨?_, fun i hi => absurd hi (Nat.not_lt_zero _)⟩⟩
        · rw [(F4 10 0 5 (by omega)).2.2.1]; exact a1
        · rw [(F4 8 0 0 (by omega)).1]; exact a4
        · rw [gIs_eq]
          show _ = nI (rs ++ [rl]).length
          rw [List.length_append, List.length_singleton]
        · have ht : (rs ++ [rl])[t]? = some r := ht
          by_cases z : t < rs.length
          · rw [List.getElem?_append_left z] at ht
            obtain ⟨jr, x1, x2⟩ := a6 t r ht
            have hj := hn t jr (by omega) x1
            exact ⟨jr, by rw [(F4 35 0 t (by omega)).2.2.1]; exact x1, x2.fr F4 (fun κ k q => by omega)⟩
          · have z2 : t = rs.length := by
              have := (List.getElem?_eq_some_iff.mp ht).1
              rw [List.length_append, List.length_singleton] at this
              omega
            rw [z2, List.getElem?_append_right (Nat.le_refl _), Nat.sub_self] at ht
            have ht : some rl = some r := ht
            injection ht with ht
            subst ht
            exact ⟨n, by rw [z2, gRI, gRs_eq], rlc⟩
        · rw [(F4 10 0 4 (by omega)).1]; exact a7
        · rw [(F4 10 0 12 (by omega)).1]; exact b3
        · rw [gIs_n (by omega), gIR, (k1 9 0 1 (by omega)).1, gIs_eq]
          rfl
      have hm1 := hm.frc ho (F4.mono (fun κ i k q => by unfold PCl; omega))
      have md := m_rule hlt hT (show MT (sI (sR (Mk (sI w1 9 0 1 0)) 35 0 rs.length (some n)) 10 0 3 (nI (rs.length + 1))) tn tb from hm1.2.2.2.2.2) hm1.1.2.2.2.1.1
      rw [hr] at md
      obtain ⟨w2, y1, y2, y3, y4, y5, y6, y7⟩ := md
      have y5 : LsAt (fun i => gI w2 42 0 (400 * rs.length + i)) (sq.2.2.map encS) := y5
      have y6 : gI w2 45 0 rs.length = nI rl.length := y6
      have y7 : BmAt (gI w2 44 0) rs.length 0 0 rl := y7
      have kR : MR w2 (rs ++ [rl]) := by
        refine ⟨by rw [y4, List.length_append, List.length_singleton], fun t r ht => ?_⟩
        by_cases z : t < rs.length
        · rw [List.getElem?_append_left z] at ht
          obtain ⟨q0, q1, q2, q3⟩ := hm1.1.2.2.2.1.2 t r ht
          exact ⟨q0, by rw [(y2 45 0 t (by unfold PMR2 PMR; omega)).1]; exact q1, q2, RmAt.frT y2 (fun κ k q => by unfold PMR2 PMR; omega) r 0 0 (by omega) q3⟩
        · have z2 : t = rs.length := by
            have := (List.getElem?_eq_some_iff.mp ht).1
            rw [List.length_append, List.length_singleton] at this
            omega
          rw [z2, List.getElem?_append_right (Nat.le_refl _), Nat.sub_self] at ht
          have ht : some rl = some r := ht
          injection ht with ht
          subst ht
          rw [z2]
          refine ⟨hlt, y6, j6, rm_of rl 0 0 y7 (fun i st hi => ?_) (by rw [← j5]; omega)⟩
          rw [← j5] at hi
          rw [Nat.zero_add]
          exact y5 i (encS st) (by rw [List.getElem?_map, hi]; rfl)
      refine ⟨nI rs.length, _, w2, ?_, y1, _, hc1.frm (y2.mono (fun κ i k q => by unfold PMR2 PMR at q; unfold PMo; omega)), ⟨⟨hm1.1.1.fr y2 (fun k q => by unfold PMR2 PMR; omega), hm1.1.2.1.fr y2 (fun k q => by unfold PMR2 PMR; omega), hm1.1.2.2.1.fr y2 (fun k q => by unfold PMR2 PMR; omega), kR, by rw [(y2 11 0 21 (by unfold PMR2 PMR; omega)).1]; exact hm1.1.2.2.2.2.1, by rw [(y2 11 0 23 (by unfold PMR2 PMR; omega)).1]; exact hm1.1.2.2.2.2.2⟩, hm1.2.1.fr y2 (fun κ k q => by unfold PMR2 PMR; omega), hm1.2.2.1.fr h10 y2 (fun k q => by unfold PMR2 PMR; omega), by rw [(y2 11 0 22 (by unfold PMR2 PMR; omega)).1]; exact hm1.2.2.2.1, hm1.2.2.2.2.1.fr y2 (fun κ k q => by unfold PMR2 PMR; omega), ⟨y3, fun i hi => absurd hi (Nat.not_lt_zero _)⟩⟩, ?_⟩
      · unfold FRule
        simp (disch := omega) only [g3, r1, true_and, and_true, false_and, and_false, beq_t, beq_f, eqN_t, eqN_f, eqL_t, eqL_f, nm1, nm2, nm1', nm2', m1z, m2z, zm1, zm2, m12, m21, lg_cmp_ge, lg_cmp_le, lg_cmp_gt, lg_cmp_lt, lg_cmp_eq, oob, oobL, neg0, negL0, natle_f, or_false, false_or, true_or, or_true, or_self, cl, clL, le_t, le_f, lt_t, lt_f, leL_t, leL_f, ltL_t, ltL_f, leM_t, leM_f, ltM_t, ltM_f, leO_t, leO_f, cond_true, cond_false, Option.bind_some, Option.bind_none, if_false, if_true, nI_1, aL1, aL2, mL1, mL2, nI_add, pk_mul, pk_m1, sL1, dL1, pk_sub, m1p1, gIs_eq, gIs_k, gIs_i, gIs_n, gIs_e, gIJ, gIR, gJI, gJR, gJs_eq, gJs_k, gJs_n, gJs_e, gRI, gRJ, gRs_eq, gRs_k, gRs_i, gRs_n, gZI, gZJ, gZR, pI_s, pJ_s, pV_s, pR_s, pR_n, oR_n, oR_s, decide_true, decide_false, not_true_eq_false, not_false_eq_true, decT, decF, Bool.true_eq_false, Bool.false_eq_true, z01, o01, z1f, z1f', zz, oo, b2i_0, b2i_n, b2i_t, b2i_f, Bool.not_true, Bool.not_false]
      · have fo : ∀ f, fOk rs f → fOk (rs ++ [rl]) f := fun f hf => by
          rcases hf with z | ⟨t, z1, z2⟩
          · exact Or.inl z
          · exact Or.inr ⟨t, by rw [List.length_append]; omega, z2⟩
        have ox : ∀ d s f, OX d s rs f → OX d s (rs ++ [rl]) f := fun d s f h => ⟨h.1, h.2.1, fun r hr => by
          rcases List.mem_append.mp hr with z | z
          · exact h.2.2.1 r z
          · rw [List.mem_singleton.mp z]; exact j7, by rw [List.length_append, List.length_singleton]; omega, fo f h.2.2.2.2⟩
        exact ⟨ox _ _ _ ho.1, ho.2.1, ho.2.2.1, ho.2.2.2.1, fun k i hi => ⟨ox _ _ _ (ho.2.2.2.2.1 k i hi).1, (ho.2.2.2.2.1 k i hi).2⟩, Nat.zero_le _, fun i hi => absurd hi (Nat.not_lt_zero _)⟩
