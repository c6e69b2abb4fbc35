/-! ===== look: the class's rows ===== -/
theorem c_keepLook {w : XW} {n : Nat} (hn : n < 6 ∨ n = 6) {a : Ar} (h : ∀ j, j < 6 → gI w 40 0 (36 + j) = a j) : ∃ w', F_X11_keepLook [.inr (10, 0), .inl (.int (nI n))] w = some w' ∧ (∀ j, j < 6 → gI w' 40 0 (n * 6 + j) = a j) ∧ Fr (fun κ _ k => κ = 40 ∧ n * 6 ≤ k ∧ k < n * 6 + 6) w w' := by
  obtain ⟨w', h1, h2, h3, h4⟩ := loop0 6 (fun k v => q_X11_keepLook_2 (nI n) (nI k) v) (fun v => some (none, v)) (fun k v => Fr (fun κ _ k => κ = 40 ∧ n * 6 ≤ k ∧ k < n * 6 + 6) w v ∧ (∀ j, j < k → gI v 40 0 (n * 6 + j) = a j) ∧ ∀ j, j < 6 → gI v 40 0 (36 + j) = a j) (s := w) ⟨Fr.refl _ _, fun j hj => absurd hj (by omega), h⟩ (fun k v hk hi => by
      obtain ⟨b1, b2, b3⟩ := hi
      have g := b3 k hk
      ((try dsimp only); rw [e_X11_keepLook_2]; simp (disch := omega) only [e_X11_keepLook_8, g, true_and, and_true, false_and, and_false, beq_t, beq_f, eqN_t, eqN_f, eqL_t, eqL_f, nm1, nm2, nm1', nm2', m1z, m2z, zm1, zm2, m12, m21, lg_cmp_ge, lg_cmp_le, lg_cmp_gt, lg_cmp_lt, lg_cmp_eq, oob, oobL, neg0, negL0, natle_f, or_false, false_or, true_or, or_true, or_self, cl, clL, le_t, le_f, lt_t, lt_f, leL_t, leL_f, ltL_t, ltL_f, leM_t, leM_f, ltM_t, ltM_f, leO_t, leO_f, cond_true, cond_false, Option.bind_some, Option.bind_none, if_false, if_true, nI_1, aL1, aL2, mL1, mL2, nI_add, pk_mul, pk_m1, sL1, dL1, pk_sub, m1p1, gIs_eq, gIs_k, gIs_i, gIs_n, gIs_e, gIJ, gIR, gJI, gJR, gJs_eq, gJs_k, gJs_n, gJs_e, gRI, gRJ, gRs_eq, gRs_k, gRs_i, gRs_n, gZI, gZJ, gZR, pI_s, pJ_s, pV_s, pR_s, pR_n, oR_n, oR_s, decide_true, decide_false, not_true_eq_false, not_false_eq_true, decT, decF, Bool.true_eq_false, Bool.false_eq_true, z01, o01, z1f, z1f', zz, oo, b2i_0, b2i_n, b2i_t, b2i_f, Bool.not_true, Bool.not_false])
      refine ⟨_, rfl, b1.sI (by omega), fun j hj => ?_, fun j hj => ?_⟩
      · by_cases e : j = k
        · subst e; exact gIs_eq
        · rw [gIs_k (by omega)]
          exact b2 j (by omega)
      · by_cases e : n = 6 ∧ j = k
        · obtain ⟨rfl, rfl⟩ := e
          exact gIs_eq
        · rw [gIs_k (by omega)]
          exact b3 j hj) (fun v hi => by ((try dsimp only); rw [e_X11_keepLook_2]; simp (disch := omega) only [e_X11_keepLook_34, true_and, and_true, false_and, and_false, beq_t, beq_f, eqN_t, eqN_f, eqL_t, eqL_f, nm1, nm2, nm1', nm2', m1z, m2z, zm1, zm2, m12, m21, lg_cmp_ge, lg_cmp_le, lg_cmp_gt, lg_cmp_lt, lg_cmp_eq, oob, oobL, neg0, negL0, natle_f, or_false, false_or, true_or, or_true, or_self, cl, clL, le_t, le_f, lt_t, lt_f, leL_t, leL_f, ltL_t, ltL_f, leM_t, leM_f, ltM_t, ltM_f, leO_t, leO_f, cond_true, cond_false, Option.bind_some, Option.bind_none, if_false, if_true, nI_1, aL1, aL2, mL1, mL2, nI_add, pk_mul, pk_m1, sL1, dL1, pk_sub, m1p1, gIs_eq, gIs_k, gIs_i, gIs_n, gIs_e, gIJ, gIR, gJI, gJR, gJs_eq, gJs_k, gJs_n, gJs_e, gRI, gRJ, gRs_eq, gRs_k, gRs_i, gRs_n, gZI, gZJ, gZR, pI_s, pJ_s, pV_s, pR_s, pR_n, oR_n, oR_s, decide_true, decide_false, not_true_eq_false, not_false_eq_true, decT, decF, Bool.true_eq_false, Bool.false_eq_true, z01, o01, z1f, z1f', zz, oo, b2i_0, b2i_n, b2i_t, b2i_f, Bool.not_true, Bool.not_false]))
  rw [nI_0] at h1
  refine ⟨w', ?_, h3, h2⟩
  rw [f_X11_keepLook, e_X11_keepLook_0, h1]
  rfl
/-- how many of the first n rows are as row i, at keep k; and the most of these -/
def likS (A : Nat → Ar) (k n i : Nat) : Nat := cnt (fun j => decide (A i k = A j k)) 0 n
def mlkS (A : Nat → Ar) (k n : Nat) : Nat → Nat
  | 0 => 0
  | i + 1 => if mlkS A k n i < likS A k n i then likS A k n i else mlkS A k n i
theorem mlkS_le {A : Nat → Ar} {k n : Nat} : ∀ i, mlkS A k n i ≤ n := by
  intro i
  induction i with
  | zero => exact Nat.zero_le _
  | succ i ih =>
    unfold mlkS
    by_cases h : mlkS A k n i < likS A k n i
    · rw [if_pos h]; exact cnt_le _ _
    · rw [if_neg h]; exact ih
theorem c_mostAlike {w : XW} {n k : Nat} (hn : n ≤ 7) (hk : k < 6) {A : Nat → Ar} (h : ∀ i, i < n → ∀ j, j < 6 → gI w 40 0 (i * 6 + j) = A i j) : F_X11_mostAlike [.inr (10, 0), .inl (.int (nI k)), .inl (.int (nI n))] w = some (nI (mlkS A k n n), w) := by
  have inner : ∀ i x3, i < n → q_X11_mostAlike_17 (nI k) (nI n) x3 (nI i) 0 0 w = q_X11_mostAlike_59 (nI k) (nI n) x3 (nI i) (nI (likS A k n i)) w := by
    intro i x3 hi
    obtain ⟨w', h1, h2⟩ := loop0 n (fun j (v : XW) => q_X11_mostAlike_17 (nI k) (nI n) x3 (nI i) (nI (cnt (fun j => decide (A i k = A j k)) 0 j)) (nI j) v) (fun v => q_X11_mostAlike_59 (nI k) (nI n) x3 (nI i) (nI (likS A k n i)) v) (fun _ v => v = w) (s := w) rfl (fun j v hj hv => by
      subst hv
      have g1 := h i hi k hk
      have g2 := h j hj k hk
      refine ⟨v, ?_, rfl⟩
      rw [cnt_up, Nat.zero_add]
      generalize cnt (fun j => decide (A i k = A j k)) 0 j = c
      by_cases e : A i k = A j k
      · rw [if_pos (decT e)]
        rw [e] at g1
        ((try dsimp only); rw [e_X11_mostAlike_17]; simp (disch := omega) only [e_X11_mostAlike_23, g1, g2, e_X11_mostAlike_50, e_X11_mostAlike_53, true_and, and_true, false_and, and_false, beq_t, beq_f, eqN_t, eqN_f, eqL_t, eqL_f, nm1, nm2, nm1', nm2', m1z, m2z, zm1, zm2, m12, m21, lg_cmp_ge, lg_cmp_le, lg_cmp_gt, lg_cmp_lt, lg_cmp_eq, oob, oobL, neg0, negL0, natle_f, or_false, false_or, true_or, or_true, or_self, cl, clL, le_t, le_f, lt_t, lt_f, leL_t, leL_f, ltL_t, ltL_f, leM_t, leM_f, ltM_t, ltM_f, leO_t, leO_f, cond_true, cond_false, Option.bind_some, Option.bind_none, if_false, if_true, nI_1, aL1, aL2, mL1, mL2, nI_add, pk_mul, pk_m1, sL1, dL1, pk_sub, m1p1, gIs_eq, gIs_k, gIs_i, gIs_n, gIs_e, gIJ, gIR, gJI, gJR, gJs_eq, gJs_k, gJs_n, gJs_e, gRI, gRJ, gRs_eq, gRs_k, gRs_i, gRs_n, gZI, gZJ, gZR, pI_s, pJ_s, pV_s, pR_s, pR_n, oR_n, oR_s, decide_true, decide_false, not_true_eq_false, not_false_eq_true, decT, decF, Bool.true_eq_false, Bool.false_eq_true, z01, o01, z1f, z1f', zz, oo, b2i_0, b2i_n, b2i_t, b2i_f, Bool.not_true, Bool.not_false])
      · rw [if_neg (fun z => e (of_decide_eq_true z)), Nat.add_zero]
        ((try dsimp only); rw [e_X11_mostAlike_17]; simp (disch := omega) only [e_X11_mostAlike_23, g1, g2, e, e_X11_mostAlike_53, true_and, and_true, false_and, and_false, beq_t, beq_f, eqN_t, eqN_f, eqL_t, eqL_f, nm1, nm2, nm1', nm2', m1z, m2z, zm1, zm2, m12, m21, lg_cmp_ge, lg_cmp_le, lg_cmp_gt, lg_cmp_lt, lg_cmp_eq, oob, oobL, neg0, negL0, natle_f, or_false, false_or, true_or, or_true, or_self, cl, clL, le_t, le_f, lt_t, lt_f, leL_t, leL_f, ltL_t, ltL_f, leM_t, leM_f, ltM_t, ltM_f, leO_t, leO_f, cond_true, cond_false, Option.bind_some, Option.bind_none, if_false, if_true, nI_1, aL1, aL2, mL1, mL2, nI_add, pk_mul, pk_m1, sL1, dL1, pk_sub, m1p1, gIs_eq, gIs_k, gIs_i, gIs_n, gIs_e, gIJ, gIR, gJI, gJR, gJs_eq, gJs_k, gJs_n, gJs_e, gRI, gRJ, gRs_eq, gRs_k, gRs_i, gRs_n, gZI, gZJ, gZR, pI_s, pJ_s, pV_s, pR_s, pR_n, oR_n, oR_s, decide_true, decide_false, not_true_eq_false, not_false_eq_true, decT, decF, Bool.true_eq_false, Bool.false_eq_true, z01, o01, z1f, z1f', zz, oo, b2i_0, b2i_n, b2i_t, b2i_f, Bool.not_true, Bool.not_false])) (fun v hv => by
      ((try dsimp only); rw [e_X11_mostAlike_17]; simp (disch := omega) only [true_and, and_true, false_and, and_false, beq_t, beq_f, eqN_t, eqN_f, eqL_t, eqL_f, nm1, nm2, nm1', nm2', m1z, m2z, zm1, zm2, m12, m21, lg_cmp_ge, lg_cmp_le, lg_cmp_gt, lg_cmp_lt, lg_cmp_eq, oob, oobL, neg0, negL0, natle_f, or_false, false_or, true_or, or_true, or_self, cl, clL, le_t, le_f, lt_t, lt_f, leL_t, leL_f, ltL_t, ltL_f, leM_t, leM_f, ltM_t, ltM_f, leO_t, leO_f, cond_true, cond_false, Option.bind_some, Option.bind_none, if_false, if_true, nI_1, aL1, aL2, mL1, mL2, nI_add, pk_mul, pk_m1, sL1, dL1, pk_sub, m1p1, gIs_eq, gIs_k, gIs_i, gIs_n, gIs_e, gIJ, gIR, gJI, gJR, gJs_eq, gJs_k, gJs_n, gJs_e, gRI, gRJ, gRs_eq, gRs_k, gRs_i, gRs_n, gZI, gZJ, gZR, pI_s, pJ_s, pV_s, pR_s, pR_n, oR_n, oR_s, decide_true, decide_false, not_true_eq_false, not_false_eq_true, decT, decF, Bool.true_eq_false, Bool.false_eq_true, z01, o01, z1f, z1f', zz, oo, b2i_0, b2i_n, b2i_t, b2i_f, Bool.not_true, Bool.not_false])
      rfl)
    subst h2
    exact h1
  obtain ⟨w', h1, h2⟩ := loop0 n (fun i (v : XW) => q_X11_mostAlike_5 (nI k) (nI n) (nI (mlkS A k n i)) (nI i) v) (fun v => some (some (.inl (.int (nI (mlkS A k n n)))), v)) (fun _ v => v = w) (s := w) rfl (fun i v hi hv => by
      subst hv
      refine ⟨v, ?_, rfl⟩
      have hl := mlkS_le (A := A) (k := k) (n := n) i
      have ha : likS A k n i ≤ n := cnt_le _ _
      have es : mlkS A k n (i + 1) = if mlkS A k n i < likS A k n i then likS A k n i else mlkS A k n i := rfl
      rw [es]
      have hin := inner i (nI (mlkS A k n i)) hi
      generalize mlkS A k n i = a at *
      generalize likS A k n i = b at *
      have ei : (if nI a < nI b then nI b else nI a) = nI (if a < b then b else a) := by
        by_cases h : a < b
        · rw [if_pos h, if_pos (of_decide_eq_true (lt_t h (by omega)))]
        · rw [if_neg h, if_neg (of_decide_eq_false (lt_f (by omega) (by omega)))]
      ((try dsimp only); rw [e_X11_mostAlike_5]; simp (disch := omega) only [e_X11_mostAlike_11, hin, e_X11_mostAlike_59, ei, true_and, and_true, false_and, and_false, beq_t, beq_f, eqN_t, eqN_f, eqL_t, eqL_f, nm1, nm2, nm1', nm2', m1z, m2z, zm1, zm2, m12, m21, lg_cmp_ge, lg_cmp_le, lg_cmp_gt, lg_cmp_lt, lg_cmp_eq, oob, oobL, neg0, negL0, natle_f, or_false, false_or, true_or, or_true, or_self, cl, clL, le_t, le_f, lt_t, lt_f, leL_t, leL_f, ltL_t, ltL_f, leM_t, leM_f, ltM_t, ltM_f, leO_t, leO_f, cond_true, cond_false, Option.bind_some, Option.bind_none, if_false, if_true, nI_1, aL1, aL2, mL1, mL2, nI_add, pk_mul, pk_m1, sL1, dL1, pk_sub, m1p1, gIs_eq, gIs_k, gIs_i, gIs_n, gIs_e, gIJ, gIR, gJI, gJR, gJs_eq, gJs_k, gJs_n, gJs_e, gRI, gRJ, gRs_eq, gRs_k, gRs_i, gRs_n, gZI, gZJ, gZR, pI_s, pJ_s, pV_s, pR_s, pR_n, oR_n, oR_s, decide_true, decide_false, not_true_eq_false, not_false_eq_true, decT, decF, Bool.true_eq_false, Bool.false_eq_true, z01, o01, z1f, z1f', zz, oo, b2i_0, b2i_n, b2i_t, b2i_f, Bool.not_true, Bool.not_false])) (fun v hv => by
      ((try dsimp only); rw [e_X11_mostAlike_5]; simp (disch := omega) only [e_X11_mostAlike_72, true_and, and_true, false_and, and_false, beq_t, beq_f, eqN_t, eqN_f, eqL_t, eqL_f, nm1, nm2, nm1', nm2', m1z, m2z, zm1, zm2, m12, m21, lg_cmp_ge, lg_cmp_le, lg_cmp_gt, lg_cmp_lt, lg_cmp_eq, oob, oobL, neg0, negL0, natle_f, or_false, false_or, true_or, or_true, or_self, cl, clL, le_t, le_f, lt_t, lt_f, leL_t, leL_f, ltL_t, ltL_f, leM_t, leM_f, ltM_t, ltM_f, leO_t, leO_f, cond_true, cond_false, Option.bind_some, Option.bind_none, if_false, if_true, nI_1, aL1, aL2, mL1, mL2, nI_add, pk_mul, pk_m1, sL1, dL1, pk_sub, m1p1, gIs_eq, gIs_k, gIs_i, gIs_n, gIs_e, gIJ, gIR, gJI, gJR, gJs_eq, gJs_k, gJs_n, gJs_e, gRI, gRJ, gRs_eq, gRs_k, gRs_i, gRs_n, gZI, gZJ, gZR, pI_s, pJ_s, pV_s, pR_s, pR_n, oR_n, oR_s, decide_true, decide_false, not_true_eq_false, not_false_eq_true, decT, decF, Bool.true_eq_false, Bool.false_eq_true, z01, o01, z1f, z1f', zz, oo, b2i_0, b2i_n, b2i_t, b2i_f, Bool.not_true, Bool.not_false]))
  subst h2
  have h1 : q_X11_mostAlike_5 (nI k) (nI n) 0 0 w' = _ := h1
  rw [f_X11_mostAlike, e_X11_mostAlike_0, h1]
  rfl
