/-! ===== the class: a word of a list ===== -/
theorem strW_app (a b : List (List Nat)) : strW (a ++ b) = strW a ++ strW b := by unfold strW; rw [List.flatMap_append]
theorem strW_cons (a : List Nat) (b : List (List Nat)) : strW (a :: b) = a ++ 32 :: strW b := by unfold strW; rw [List.flatMap_cons, List.append_assoc]; rfl
theorem strW_len : ∀ i : Fin 6, (strW (lW i.val)).length ≤ 65 := by decide +kernel
theorem lW_len : ∀ i : Fin 6, (lW i.val).length ≤ 11 := by decide +kernel
theorem c_wloop {w : XW} {t : Tp} (hT : TOk2 t) {i : Nat} (hi : i < 6) {s e : Nat} (hct : CT w t.1 t.2) (hs : gI w 9 0 3 = nI s) (hse : s ≤ e) (he : e ≤ t.1) : ∀ (ws pre : List (List Nat)), pre ++ ws = lW i →
    q_X10_passWord_60 i (nI e) (nI pre.length) (nI (strW pre).length) (nI (strW pre).length) w = match fdW ws (bys t.2 s (e - s)) with
      | some j => some (some (.inl (.int (nI (pre.length + j)))), sI w 9 0 2 (nI e))
      | none => some (some (.inl (.int (-1))), w) := by
  have h4 := hT.1
  have hl := strW_len ⟨i, hi⟩
  have hl2 := lW_len ⟨i, hi⟩
  have hln := c_strlen hi w
  dsimp only at hl hl2
  intro ws
  induction ws with
  | nil =>
    intro pre hp
    rw [List.append_nil] at hp
    subst hp
    ((try dsimp only); rw [e_X10_passWord_60]; simp (disch := omega) only [hln, e_X10_passWord_115, true_and, and_true, false_and, and_false, beq_t, beq_f, eqN_t, eqN_f, eqL_t, eqL_f, nm1, nm2, nm1', nm2', m1z, m2z, zm1, zm2, m12, m21, lg_cmp_ge, lg_cmp_le, lg_cmp_gt, lg_cmp_lt, lg_cmp_eq, oob, oobL, neg0, negL0, natle_f, or_false, false_or, true_or, or_true, or_self, cl, clL, le_t, le_f, lt_t, lt_f, leL_t, leL_f, ltL_t, ltL_f, leM_t, leM_f, ltM_t, ltM_f, leO_t, leO_f, cond_true, cond_false, Option.bind_some, Option.bind_none, if_false, if_true, nI_1, aL1, aL2, mL1, mL2, nI_add, pk_mul, pk_m1, sL1, dL1, pk_sub, m1p1, gIs_eq, gIs_k, gIs_i, gIs_n, gIs_e, gIJ, gIR, gJI, gJR, gJs_eq, gJs_k, gJs_n, gJs_e, gRI, gRJ, gRs_eq, gRs_k, gRs_i, gRs_n, gZI, gZJ, gZR, pI_s, pJ_s, pV_s, pR_s, pR_n, oR_n, oR_s, decide_true, decide_false, not_true_eq_false, not_false_eq_true, decT, decF, Bool.true_eq_false, Bool.false_eq_true, z01, o01, z1f, z1f', zz, oo, b2i_0, b2i_n, b2i_t, b2i_f, Bool.not_true, Bool.not_false])
    rfl
  | cons a ws ih =>
    intro pre hp
    have hp2 : strW (lW i) = strW pre ++ (a ++ 32 :: strW ws) := by rw [← hp, strW_app, strW_cons]
    have hlen := congrArg List.length hp2
    rw [List.length_append, List.length_append, List.length_cons] at hlen
    have hlet : ∀ b ∈ a, 97 ≤ b ∧ b ≤ 122 := (lW_ok ⟨i, hi⟩).2.2 a (by show a ∈ lW i; rw [← hp]; exact List.mem_append_right _ (List.mem_cons_self ..))
    have hget : ∀ j b, a[j]? = some b → (strW (lW i))[(strW pre).length + j]? = some b ∧ b < 256 := by
      intro j b hb
      have hj : j < a.length := by
        rcases Nat.lt_or_ge j a.length with q | q
        · exact q
        · rw [List.getElem?_eq_none q] at hb; cases hb
      refine ⟨?_, by have := hlet b (List.mem_of_getElem? hb); omega⟩
      rw [hp2, List.getElem?_append_right (by omega), Nat.add_sub_cancel_left, List.getElem?_append_left hj]
      exact hb
    have h32 : (strW (lW i))[(strW pre).length + a.length]? = some 32 := by
      rw [hp2, List.getElem?_append_right (by omega), Nat.add_sub_cancel_left, List.getElem?_append_right (Nat.le_refl _), Nat.sub_self]
      rfl
    have inner : ∀ m j, j + m = a.length → q_X10_passWord_60 i (nI e) (nI pre.length) (nI (strW pre).length) (nI ((strW pre).length + j)) w = q_X10_passWord_80 i (nI e) (nI pre.length) (nI (strW pre).length) (nI ((strW pre).length + a.length)) w := by
      intro m
      induction m with
      | zero =>
        intro j hj
        have : j = a.length := by omega
        subst this
        have k1 := c_charAt hi h32 (by omega) w
        have k1 : F_J0_charAt_5068e [.inr (65, i), .inl (.int (nI ((strW pre).length + a.length)))] w = some (32, w) := k1
        ((try dsimp only); rw [e_X10_passWord_60]; simp (disch := omega) only [hln, e_X10_passWord_69, k1, true_and, and_true, false_and, and_false, beq_t, beq_f, eqN_t, eqN_f, eqL_t, eqL_f, nm1, nm2, nm1', nm2', m1z, m2z, zm1, zm2, m12, m21, lg_cmp_ge, lg_cmp_le, lg_cmp_gt, lg_cmp_lt, lg_cmp_eq, oob, oobL, neg0, negL0, natle_f, or_false, false_or, true_or, or_true, or_self, cl, clL, le_t, le_f, lt_t, lt_f, leL_t, leL_f, ltL_t, ltL_f, leM_t, leM_f, ltM_t, ltM_f, leO_t, leO_f, cond_true, cond_false, Option.bind_some, Option.bind_none, if_false, if_true, nI_1, aL1, aL2, mL1, mL2, nI_add, pk_mul, pk_m1, sL1, dL1, pk_sub, m1p1, gIs_eq, gIs_k, gIs_i, gIs_n, gIs_e, gIJ, gIR, gJI, gJR, gJs_eq, gJs_k, gJs_n, gJs_e, gRI, gRJ, gRs_eq, gRs_k, gRs_i, gRs_n, gZI, gZJ, gZR, pI_s, pJ_s, pV_s, pR_s, pR_n, oR_n, oR_s, decide_true, decide_false, not_true_eq_false, not_false_eq_true, decT, decF, Bool.true_eq_false, Bool.false_eq_true, z01, o01, z1f, z1f', zz, oo, b2i_0, b2i_n, b2i_t, b2i_f, Bool.not_true, Bool.not_false])
        all_goals rfl
      | succ m ih =>
        intro j hj
        have haj : a[j]? = some a[j] := List.getElem?_eq_getElem (by omega)
        have hb := hlet a[j] (List.getElem_mem _)
        have k1 := c_charAt hi (hget j _ haj).1 (by omega) w
        generalize a[j] = b at *
        have k2 := nI32 (b := b) (by omega)
        have k3 : isB b = false := decF (by omega)
        rw [k3] at k2
        have ih := ih (j + 1) (by omega)
        rw [← ih]
        ((try dsimp only); rw [e_X10_passWord_60]; simp (disch := omega) only [hln, e_X10_passWord_69, k1, k2, e_X10_passWord_109, true_and, and_true, false_and, and_false, beq_t, beq_f, eqN_t, eqN_f, eqL_t, eqL_f, nm1, nm2, nm1', nm2', m1z, m2z, zm1, zm2, m12, m21, lg_cmp_ge, lg_cmp_le, lg_cmp_gt, lg_cmp_lt, lg_cmp_eq, oob, oobL, neg0, negL0, natle_f, or_false, false_or, true_or, or_true, or_self, cl, clL, le_t, le_f, lt_t, lt_f, leL_t, leL_f, ltL_t, ltL_f, leM_t, leM_f, ltM_t, ltM_f, leO_t, leO_f, cond_true, cond_false, Option.bind_some, Option.bind_none, if_false, if_true, nI_1, aL1, aL2, mL1, mL2, nI_add, pk_mul, pk_m1, sL1, dL1, pk_sub, m1p1, gIs_eq, gIs_k, gIs_i, gIs_n, gIs_e, gIJ, gIR, gJI, gJR, gJs_eq, gJs_k, gJs_n, gJs_e, gRI, gRJ, gRs_eq, gRs_k, gRs_i, gRs_n, gZI, gZJ, gZR, pI_s, pJ_s, pV_s, pR_s, pR_n, oR_n, oR_s, decide_true, decide_false, not_true_eq_false, not_false_eq_true, decT, decF, Bool.true_eq_false, Bool.false_eq_true, z01, o01, z1f, z1f', zz, oo, b2i_0, b2i_n, b2i_t, b2i_f, Bool.not_true, Bool.not_false])
        all_goals rfl
    have h0 := inner a.length 0 (by omega)
    rw [Nat.add_zero] at h0
    have kw := c_isWord hT hi hct hs hse he (a := (strW pre).length) (x := a) (by omega) hget
    rw [h0, e_X10_passWord_80, kw, Option.bind_some]
    dsimp only
    by_cases c : bys t.2 s (e - s) = a
    · have ef : fdW (a :: ws) (bys t.2 s (e - s)) = some 0 := if_pos c
      rw [ef, decT c]
      simp (disch := omega) only [e_X10_passWord_93, true_and, and_true, false_and, and_false, beq_t, beq_f, eqN_t, eqN_f, eqL_t, eqL_f, nm1, nm2, nm1', nm2', m1z, m2z, zm1, zm2, m12, m21, lg_cmp_ge, lg_cmp_le, lg_cmp_gt, lg_cmp_lt, lg_cmp_eq, oob, oobL, neg0, negL0, natle_f, or_false, false_or, true_or, or_true, or_self, cl, clL, le_t, le_f, lt_t, lt_f, leL_t, leL_f, ltL_t, ltL_f, leM_t, leM_f, ltM_t, ltM_f, leO_t, leO_f, cond_true, cond_false, Option.bind_some, Option.bind_none, if_false, if_true, nI_1, aL1, aL2, mL1, mL2, nI_add, pk_mul, pk_m1, sL1, dL1, pk_sub, m1p1, gIs_eq, gIs_k, gIs_i, gIs_n, gIs_e, gIJ, gIR, gJI, gJR, gJs_eq, gJs_k, gJs_n, gJs_e, gRI, gRJ, gRs_eq, gRs_k, gRs_i, gRs_n, gZI, gZJ, gZR, pI_s, pJ_s, pV_s, pR_s, pR_n, oR_n, oR_s, decide_true, decide_false, not_true_eq_false, not_false_eq_true, decT, decF, Bool.true_eq_false, Bool.false_eq_true, z01, o01, z1f, z1f', zz, oo, b2i_0, b2i_n, b2i_t, b2i_f, Bool.not_true, Bool.not_false]
      rfl
    · have ef : fdW (a :: ws) (bys t.2 s (e - s)) = (fdW ws (bys t.2 s (e - s))).map (· + 1) := if_neg c
      rw [ef, decF c]
      have ih := ih (pre ++ [a]) (by rw [List.append_assoc]; exact hp)
      rw [strW_app, List.length_append, List.length_append] at ih
      have e1 : (strW [a]).length = a.length + 1 := by rw [strW_cons, List.length_append]; rfl
      rw [e1] at ih
      have e2 : [a].length = 1 := rfl
      rw [e2, ← Nat.add_assoc] at ih
      simp (disch := omega) only [e_X10_passWord_100, e_X10_passWord_109, true_and, and_true, false_and, and_false, beq_t, beq_f, eqN_t, eqN_f, eqL_t, eqL_f, nm1, nm2, nm1', nm2', m1z, m2z, zm1, zm2, m12, m21, lg_cmp_ge, lg_cmp_le, lg_cmp_gt, lg_cmp_lt, lg_cmp_eq, oob, oobL, neg0, negL0, natle_f, or_false, false_or, true_or, or_true, or_self, cl, clL, le_t, le_f, lt_t, lt_f, leL_t, leL_f, ltL_t, ltL_f, leM_t, leM_f, ltM_t, ltM_f, leO_t, leO_f, cond_true, cond_false, Option.bind_some, Option.bind_none, if_false, if_true, nI_1, aL1, aL2, mL1, mL2, nI_add, pk_mul, pk_m1, sL1, dL1, pk_sub, m1p1, gIs_eq, gIs_k, gIs_i, gIs_n, gIs_e, gIJ, gIR, gJI, gJR, gJs_eq, gJs_k, gJs_n, gJs_e, gRI, gRJ, gRs_eq, gRs_k, gRs_i, gRs_n, gZI, gZJ, gZR, pI_s, pJ_s, pV_s, pR_s, pR_n, oR_n, oR_s, decide_true, decide_false, not_true_eq_false, not_false_eq_true, decT, decF, Bool.true_eq_false, Bool.false_eq_true, z01, o01, z1f, z1f', zz, oo, b2i_0, b2i_n, b2i_t, b2i_f, Bool.not_true, Bool.not_false]
      rw [ih]
      cases fdW ws (bys t.2 s (e - s)) with
      | none => rfl
      | some j =>
        show _ = (some (some (.inl (.int (nI (pre.length + (j + 1))))), sI w 9 0 2 (nI e)) : Option XR)
        rw [show pre.length + (j + 1) = pre.length + 1 + j by omega]
theorem c_letters {w : XW} {t : Tp} (hT : TOk2 t) {i : Nat} (hct : CT w t.1 t.2) : ∀ (m p : Nat), p + m = t.1 → q_X10_passWord_18 i (nI p) w = q_X10_passWord_52 i (nI (rnN (fun i => isL (t.2 i)) m p)) w := by
  have h4 := hT.1
  have g := hct.1
  intro m
  induction m with
  | zero =>
    intro p hm
    ((try dsimp only); rw [e_X10_passWord_18]; simp (disch := omega) only [g, true_and, and_true, false_and, and_false, beq_t, beq_f, eqN_t, eqN_f, eqL_t, eqL_f, nm1, nm2, nm1', nm2', m1z, m2z, zm1, zm2, m12, m21, lg_cmp_ge, lg_cmp_le, lg_cmp_gt, lg_cmp_lt, lg_cmp_eq, oob, oobL, neg0, negL0, natle_f, or_false, false_or, true_or, or_true, or_self, cl, clL, le_t, le_f, lt_t, lt_f, leL_t, leL_f, ltL_t, ltL_f, leM_t, leM_f, ltM_t, ltM_f, leO_t, leO_f, cond_true, cond_false, Option.bind_some, Option.bind_none, if_false, if_true, nI_1, aL1, aL2, mL1, mL2, nI_add, pk_mul, pk_m1, sL1, dL1, pk_sub, m1p1, gIs_eq, gIs_k, gIs_i, gIs_n, gIs_e, gIJ, gIR, gJI, gJR, gJs_eq, gJs_k, gJs_n, gJs_e, gRI, gRJ, gRs_eq, gRs_k, gRs_i, gRs_n, gZI, gZJ, gZR, pI_s, pJ_s, pV_s, pR_s, pR_n, oR_n, oR_s, decide_true, decide_false, not_true_eq_false, not_false_eq_true, decT, decF, Bool.true_eq_false, Bool.false_eq_true, z01, o01, z1f, z1f', zz, oo, b2i_0, b2i_n, b2i_t, b2i_f, Bool.not_true, Bool.not_false])
    rfl
  | succ m ih =>
    intro p hm
    have b := c_byteAt hct hT (p := p) (by omega)
    have hb : chS t p = nI (t.2 p) := if_pos (by omega)
    rw [hb] at b
    have h256 := hT.2 p (by omega)
    have e1 := nI97 h256
    have e2 := nI122 h256
    have er : rnN (fun i => isL (t.2 i)) (m + 1) p = if isL (t.2 p) = true then rnN (fun i => isL (t.2 i)) m (p + 1) else p := rfl
    rw [er]
    by_cases d1 : 97 ≤ t.2 p
    · rw [decT d1] at e1
      by_cases d2 : t.2 p ≤ 122
      · rw [decT d2] at e2
        have hd : isL (t.2 p) = true := by unfold isL; rw [decT d1, decT d2]; rfl
        rw [if_pos hd, ← ih (p + 1) (by omega)]
        ((try dsimp only); rw [e_X10_passWord_18]; simp (disch := omega) only [g, e_X10_passWord_26, b, e1, e_X10_passWord_36, e2, e_X10_passWord_46, true_and, and_true, false_and, and_false, beq_t, beq_f, eqN_t, eqN_f, eqL_t, eqL_f, nm1, nm2, nm1', nm2', m1z, m2z, zm1, zm2, m12, m21, lg_cmp_ge, lg_cmp_le, lg_cmp_gt, lg_cmp_lt, lg_cmp_eq, oob, oobL, neg0, negL0, natle_f, or_false, false_or, true_or, or_true, or_self, cl, clL, le_t, le_f, lt_t, lt_f, leL_t, leL_f, ltL_t, ltL_f, leM_t, leM_f, ltM_t, ltM_f, leO_t, leO_f, cond_true, cond_false, Option.bind_some, Option.bind_none, if_false, if_true, nI_1, aL1, aL2, mL1, mL2, nI_add, pk_mul, pk_m1, sL1, dL1, pk_sub, m1p1, gIs_eq, gIs_k, gIs_i, gIs_n, gIs_e, gIJ, gIR, gJI, gJR, gJs_eq, gJs_k, gJs_n, gJs_e, gRI, gRJ, gRs_eq, gRs_k, gRs_i, gRs_n, gZI, gZJ, gZR, pI_s, pJ_s, pV_s, pR_s, pR_n, oR_n, oR_s, decide_true, decide_false, not_true_eq_false, not_false_eq_true, decT, decF, Bool.true_eq_false, Bool.false_eq_true, z01, o01, z1f, z1f', zz, oo, b2i_0, b2i_n, b2i_t, b2i_f, Bool.not_true, Bool.not_false])
      · rw [decF d2] at e2
        have hd : isL (t.2 p) = false := by unfold isL; rw [decF d2, Bool.and_false]
        rw [hd, if_neg Bool.false_ne_true]
        ((try dsimp only); rw [e_X10_passWord_18]; simp (disch := omega) only [g, e_X10_passWord_26, b, e1, e_X10_passWord_36, e2, true_and, and_true, false_and, and_false, beq_t, beq_f, eqN_t, eqN_f, eqL_t, eqL_f, nm1, nm2, nm1', nm2', m1z, m2z, zm1, zm2, m12, m21, lg_cmp_ge, lg_cmp_le, lg_cmp_gt, lg_cmp_lt, lg_cmp_eq, oob, oobL, neg0, negL0, natle_f, or_false, false_or, true_or, or_true, or_self, cl, clL, le_t, le_f, lt_t, lt_f, leL_t, leL_f, ltL_t, ltL_f, leM_t, leM_f, ltM_t, ltM_f, leO_t, leO_f, cond_true, cond_false, Option.bind_some, Option.bind_none, if_false, if_true, nI_1, aL1, aL2, mL1, mL2, nI_add, pk_mul, pk_m1, sL1, dL1, pk_sub, m1p1, gIs_eq, gIs_k, gIs_i, gIs_n, gIs_e, gIJ, gIR, gJI, gJR, gJs_eq, gJs_k, gJs_n, gJs_e, gRI, gRJ, gRs_eq, gRs_k, gRs_i, gRs_n, gZI, gZJ, gZR, pI_s, pJ_s, pV_s, pR_s, pR_n, oR_n, oR_s, decide_true, decide_false, not_true_eq_false, not_false_eq_true, decT, decF, Bool.true_eq_false, Bool.false_eq_true, z01, o01, z1f, z1f', zz, oo, b2i_0, b2i_n, b2i_t, b2i_f, Bool.not_true, Bool.not_false])
    · rw [decF d1] at e1
      have hd : isL (t.2 p) = false := by unfold isL; rw [decF d1, Bool.false_and]
      rw [hd, if_neg Bool.false_ne_true]
      ((try dsimp only); rw [e_X10_passWord_18]; simp (disch := omega) only [g, e_X10_passWord_26, b, e1, true_and, and_true, false_and, and_false, beq_t, beq_f, eqN_t, eqN_f, eqL_t, eqL_f, nm1, nm2, nm1', nm2', m1z, m2z, zm1, zm2, m12, m21, lg_cmp_ge, lg_cmp_le, lg_cmp_gt, lg_cmp_lt, lg_cmp_eq, oob, oobL, neg0, negL0, natle_f, or_false, false_or, true_or, or_true, or_self, cl, clL, le_t, le_f, lt_t, lt_f, leL_t, leL_f, ltL_t, ltL_f, leM_t, leM_f, ltM_t, ltM_f, leO_t, leO_f, cond_true, cond_false, Option.bind_some, Option.bind_none, if_false, if_true, nI_1, aL1, aL2, mL1, mL2, nI_add, pk_mul, pk_m1, sL1, dL1, pk_sub, m1p1, gIs_eq, gIs_k, gIs_i, gIs_n, gIs_e, gIJ, gIR, gJI, gJR, gJs_eq, gJs_k, gJs_n, gJs_e, gRI, gRJ, gRs_eq, gRs_k, gRs_i, gRs_n, gZI, gZJ, gZR, pI_s, pJ_s, pV_s, pR_s, pR_n, oR_n, oR_s, decide_true, decide_false, not_true_eq_false, not_false_eq_true, decT, decF, Bool.true_eq_false, Bool.false_eq_true, z01, o01, z1f, z1f', zz, oo, b2i_0, b2i_n, b2i_t, b2i_f, Bool.not_true, Bool.not_false])
def PT23 (κ _j k : Nat) : Prop := κ = 9 ∧ (k = 2 ∨ k = 3)
theorem c_word {w : XW} {t : Tp} (hT : TOk2 t) {i : Nat} (hi : i < 6) {p : Nat} (h : CTp w t p) : ∃ w', Fr PT23 w w' ∧ gI w' 9 0 3 = nI (sk t p) ∧ match fdW (lW i) (wrd t (sk t p)) with
    | some j => F_X10_passWord [.inr (9, 0), .inr (65, i)] w = some (nI j, w') ∧ CTp w' t (le t (sk t p))
    | none => F_X10_passWord [.inr (9, 0), .inr (65, i)] w = some (-1, w') ∧ CTp w' t (sk t p) := by
  have h4 := hT.1
  obtain ⟨w1, k1, k2, k3⟩ := c_sign hT h
  have hs := sk_le h.2.2
  have hl := le_le hs.2
  generalize sk t p = s at *
  have F1 : Fr PT23 w1 (sI w1 9 0 3 (nI s)) := (Fr.refl _ _).sI (by unfold PT23; omega)
  have G1 : CTp (sI w1 9 0 3 (nI s)) t s := ⟨k2.1.fr F1 (fun κ k q => by unfold PT23; omega), by rw [gIs_k (by omega)]; exact k2.2.1, hs.2⟩
  have kl := c_letters hT (i := i) G1.1 (t.1 - s) s (by omega)
  have el : rnN (fun i => isL (t.2 i)) (t.1 - s) s = le t s := rfl
  rw [el] at kl
  have kw := c_wloop hT hi G1.1 gIs_eq hl.1 hl.2 (lW i) [] rfl
  have kw : q_X10_passWord_60 i (nI (le t s)) 0 0 0 (sI w1 9 0 3 (nI s)) = _ := kw
  have ew : bys t.2 s (le t s - s) = wrd t s := rfl
  rw [ew] at kw
  have F2 : Fr PT23 w (sI w1 9 0 3 (nI s)) := (k3.mono (fun κ i k q => by unfold PT2 at q; unfold  PT23; omega)).trans F1
  have start : F_X10_passWord [.inr (9, 0), .inr (65, i)] w = (q_X10_passWord_60 i (nI (le t s)) 0 0 0 (sI w1 9 0 3 (nI s))).bind pI := by
    rw [f_X10_passWord, e_X10_passWord_0, k1, Option.bind_some]
    dsimp only
    rw [k2.2.1, G1.2.1, kl, e_X10_passWord_52]
  rw [start, kw]
  cases hf : fdW (lW i) (wrd t s) with
  | none => exact ⟨_, F2, gIs_eq, rfl, G1⟩
  | some j =>
    have F3 : Fr PT23 (sI w1 9 0 3 (nI s)) (sI (sI w1 9 0 3 (nI s)) 9 0 2 (nI (le t s))) := (Fr.refl _ _).sI (by unfold PT23; omega)
    refine ⟨_, F2.trans F3, by rw [gIs_k (by omega)]; exact gIs_eq, ?_, G1.1.fr F3 (fun κ k q => by unfold PT23; omega), gIs_eq, hl.2⟩
    show some (nI ([].length + j), _) = _
    rw [List.length_nil, Nat.zero_add]
