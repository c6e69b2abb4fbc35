/-! ===== scenes and dales ===== -/
abbrev Ar : Type := Nat → Int32
/-- night, full, heat, place, beside -/
abbrev Sc : Type := Int32 × Ar × Ar × Ar × Ar
/-- told, leak, hot, keeps, people, fields; room, cools, beside, owner, tells, crows -/
abbrev Dl : Type := Ar × Ar × Ar × Ar × Ar × Ar × Ar
def ScAt (w : XW) (i : Nat) (s : Sc) : Prop := gI w 8 i 1 = s.1 ∧ ∀ k, k < 6 → gI w 30 i k = s.2.1 k ∧ gI w 31 i k = s.2.2.1 k ∧ gI w 32 i k = s.2.2.2.1 k ∧ gI w 33 i k = s.2.2.2.2 k
def DlAt (w : XW) (j : Nat) (d : Dl) : Prop := (∀ k, k < 6 → gI w 1 j k = d.1 k) ∧ (∀ k, k < 6 → gI w 13 j k = d.2.1 k ∧ gI w 14 j k = d.2.2.1 k ∧ gI w 15 j k = d.2.2.2.1 k) ∧ (∀ k, k < 5 → gI w 16 j k = d.2.2.2.2.1 k ∧ gI w 17 j k = d.2.2.2.2.2.1 k) ∧ ∀ k, k < 4 → gI w 18 j k = d.2.2.2.2.2.2 k
/-- scratch of the class, and scene i -/
def PS (i κ j _k : Nat) : Bool := κ == 3 || κ == 19 || κ == 20 || κ == 21 || κ == 12 || κ == 25 || κ == 38 || κ == 39 || κ == 40 || ((κ == 8 || κ == 30 || κ == 31 || κ == 32 || κ == 33) && (j == 1 || j == i))
theorem PS_i {i κ k : Nat} (h : κ = 8 ∨ κ = 30 ∨ κ = 31 ∨ κ = 32 ∨ κ = 33) : PS i κ i k = true := by
  unfold PS
  rcases h with rfl | rfl | rfl | rfl | rfl <;> simp
theorem PS_m {i : Nat} {w w' : XW} (h : Fr (PS 1) w w') : Fr (PS i) w w' := h.mono (fun κ j k hq => by
  unfold PS at hq ⊢
  simp only [Bool.or_eq_false_iff, Bool.and_eq_false_iff, beq_eq_false_iff_ne] at hq ⊢
  omega)
theorem PS_f {i κ j k : Nat} (h : κ ≠ 3 ∧ κ ≠ 19 ∧ κ ≠ 20 ∧ κ ≠ 21 ∧ κ ≠ 12 ∧ κ ≠ 25 ∧ κ ≠ 38 ∧ κ ≠ 39 ∧ κ ≠ 40 ∧ ((κ ≠ 8 ∧ κ ≠ 30 ∧ κ ≠ 31 ∧ κ ≠ 32 ∧ κ ≠ 33) ∨ (j ≠ 1 ∧ j ≠ i))) : PS i κ j k = false := by
  unfold PS
  simp only [Bool.or_eq_false_iff, Bool.and_eq_false_iff, beq_eq_false_iff_ne]
  omega
theorem Fr.dl {i : Nat} {w w' : XW} (h : Fr (PS i) w w') {j : Nat} {d : Dl} (hd : DlAt w j d) : DlAt w' j d := by
  refine ⟨fun k hk => ?_, fun k hk => ?_, fun k hk => ?_, fun k hk => ?_⟩
  · rw [(h 1 j k (PS_f (by omega))).1]; exact hd.1 k hk
  · rw [(h 13 j k (PS_f (by omega))).1, (h 14 j k (PS_f (by omega))).1, (h 15 j k (PS_f (by omega))).1]; exact hd.2.1 k hk
  · rw [(h 16 j k (PS_f (by omega))).1, (h 17 j k (PS_f (by omega))).1]; exact hd.2.2.1 k hk
  · rw [(h 18 j k (PS_f (by omega))).1]; exact hd.2.2.2 k hk
theorem Fr.sc {i : Nat} {w w' : XW} (h : Fr (PS i) w w') {j : Nat} {s : Sc} (hj : j ≠ 1) (hi : j ≠ i) (hs : ScAt w j s) : ScAt w' j s := by
  refine ⟨?_, fun k hk => ?_⟩
  · rw [(h 8 j 1 (PS_f (by omega))).1]; exact hs.1
  · rw [(h 30 j k (PS_f (by omega))).1, (h 31 j k (PS_f (by omega))).1, (h 32 j k (PS_f (by omega))).1, (h 33 j k (PS_f (by omega))).1]; exact hs.2 k hk
theorem p_X9_copy (i j : Nat) (hij : j ≠ i) (w : XW) (s : Sc) (h : ScAt w j s) : ∃ w', F_X9_copy [.inr (8, i), .inr (8, j)] w = some w' ∧ ScAt w' i s ∧ gI w' 8 i 0 = gI w 8 j 0 ∧ Fr (PS i) w w' := by
  obtain ⟨w', h1, h2⟩ := loop0 6 (fun k w => q_X9_copy_18 i j (nI k) w) (fun w => some (none, w)) (fun k v => Fr (PS i) w v ∧ (∀ κ k, gI v κ j k = gI w κ j k) ∧ gI v 8 i 0 = gI w 8 j 0 ∧ gI v 8 i 1 = s.1 ∧ ∀ k', k' < k → gI v 30 i k' = s.2.1 k' ∧ gI v 31 i k' = s.2.2.1 k' ∧ gI v 32 i k' = s.2.2.2.1 k' ∧ gI v 33 i k' = s.2.2.2.2 k') (s := sI (sI w 8 i 0 (gI w 8 j 0)) 8 i 1 (gI (sI w 8 i 0 (gI w 8 j 0)) 8 j 1)) (by
      refine ⟨((Fr.refl _ _).sI (PS_i (by omega))).sI (PS_i (by omega)), fun κ k => ?_, ?_, ?_, fun k' hk => absurd hk (by omega)⟩
      · by_cases hκ : κ = 8
        · subst hκ
          rw [gIs_i hij, gIs_i hij]
        · rw [gIs_n hκ, gIs_n hκ]
      · simp (disch := omega) only [true_and, and_true, beq_t, beq_f, eqN_t, eqN_f, eqL_t, eqL_f, lg_cmp_ge, lg_cmp_le, lg_cmp_gt, lg_cmp_lt, lg_cmp_eq, oob, oobL, neg0, negL0, natle_f, or_false, false_or, or_self, cl, clL, le_t, le_f, lt_t, lt_f, leL_t, leL_f, ltL_t, ltL_f, leM_t, leM_f, ltM_t, ltM_f, cond_true, cond_false, Option.bind_some, if_false, if_true, nI_1, gIs_eq, gIs_k, gIs_i, gIs_n, gIJ, gIR, gJI, gJR, gJs_eq, gJs_k, gJs_n, gRI, gRJ, gRs_eq, gRs_k, gRs_i, gRs_n, gZI, gZJ, gZR, pI_s, pJ_s, pV_s, pR_s, pR_n, decide_true, decide_false, not_true_eq_false, not_false_eq_true, decT, decF, Bool.true_eq_false, Bool.false_eq_true]
      · simp (disch := omega) only [true_and, and_true, beq_t, beq_f, eqN_t, eqN_f, eqL_t, eqL_f, lg_cmp_ge, lg_cmp_le, lg_cmp_gt, lg_cmp_lt, lg_cmp_eq, oob, oobL, neg0, negL0, natle_f, or_false, false_or, or_self, cl, clL, le_t, le_f, lt_t, lt_f, leL_t, leL_f, ltL_t, ltL_f, leM_t, leM_f, ltM_t, ltM_f, cond_true, cond_false, Option.bind_some, if_false, if_true, nI_1, gIs_eq, gIs_k, gIs_i, gIs_n, gIJ, gIR, gJI, gJR, gJs_eq, gJs_k, gJs_n, gRI, gRJ, gRs_eq, gRs_k, gRs_i, gRs_n, gZI, gZJ, gZR, pI_s, pJ_s, pV_s, pR_s, pR_n, decide_true, decide_false, not_true_eq_false, not_false_eq_true, decT, decF, Bool.true_eq_false, Bool.false_eq_true]
        exact h.1) (fun k v hk hi => by
      obtain ⟨h1, h2, h3, h4, h5⟩ := hi
      ((try dsimp only); rw [e_X9_copy_18]; simp (disch := omega) only [e_X9_copy_24, true_and, and_true, beq_t, beq_f, eqN_t, eqN_f, eqL_t, eqL_f, lg_cmp_ge, lg_cmp_le, lg_cmp_gt, lg_cmp_lt, lg_cmp_eq, oob, oobL, neg0, negL0, natle_f, or_false, false_or, or_self, cl, clL, le_t, le_f, lt_t, lt_f, leL_t, leL_f, ltL_t, ltL_f, leM_t, leM_f, ltM_t, ltM_f, cond_true, cond_false, Option.bind_some, if_false, if_true, nI_1, gIs_eq, gIs_k, gIs_i, gIs_n, gIJ, gIR, gJI, gJR, gJs_eq, gJs_k, gJs_n, gRI, gRJ, gRs_eq, gRs_k, gRs_i, gRs_n, gZI, gZJ, gZR, pI_s, pJ_s, pV_s, pR_s, pR_n, decide_true, decide_false, not_true_eq_false, not_false_eq_true, decT, decF, Bool.true_eq_false, Bool.false_eq_true])
      refine ⟨_, rfl, by (repeat' (first | exact h1 | exact Fr.refl _ _ | exact rfl | exact fun _ => rfl | exact PS_i (by omega) | refine Fr.sI ?_ ?_ | refine Fr.sR ?_ ?_ | refine Fr.sJ ?_ ?_)), fun κ k' => ?_, ?_, ?_, fun k' hk' => ?_⟩
      · rw [← h2 κ k']
        by_cases q1 : κ = 33
        · subst q1; simp (disch := omega) only [true_and, and_true, beq_t, beq_f, eqN_t, eqN_f, eqL_t, eqL_f, lg_cmp_ge, lg_cmp_le, lg_cmp_gt, lg_cmp_lt, lg_cmp_eq, oob, oobL, neg0, negL0, natle_f, or_false, false_or, or_self, cl, clL, le_t, le_f, lt_t, lt_f, leL_t, leL_f, ltL_t, ltL_f, leM_t, leM_f, ltM_t, ltM_f, cond_true, cond_false, Option.bind_some, if_false, if_true, nI_1, gIs_eq, gIs_k, gIs_i, gIs_n, gIJ, gIR, gJI, gJR, gJs_eq, gJs_k, gJs_n, gRI, gRJ, gRs_eq, gRs_k, gRs_i, gRs_n, gZI, gZJ, gZR, pI_s, pJ_s, pV_s, pR_s, pR_n, decide_true, decide_false, not_true_eq_false, not_false_eq_true, decT, decF, Bool.true_eq_false, Bool.false_eq_true]
        · rw [gIs_n q1]
          by_cases q1 : κ = 32
          · subst q1; simp (disch := omega) only [true_and, and_true, beq_t, beq_f, eqN_t, eqN_f, eqL_t, eqL_f, lg_cmp_ge, lg_cmp_le, lg_cmp_gt, lg_cmp_lt, lg_cmp_eq, oob, oobL, neg0, negL0, natle_f, or_false, false_or, or_self, cl, clL, le_t, le_f, lt_t, lt_f, leL_t, leL_f, ltL_t, ltL_f, leM_t, leM_f, ltM_t, ltM_f, cond_true, cond_false, Option.bind_some, if_false, if_true, nI_1, gIs_eq, gIs_k, gIs_i, gIs_n, gIJ, gIR, gJI, gJR, gJs_eq, gJs_k, gJs_n, gRI, gRJ, gRs_eq, gRs_k, gRs_i, gRs_n, gZI, gZJ, gZR, pI_s, pJ_s, pV_s, pR_s, pR_n, decide_true, decide_false, not_true_eq_false, not_false_eq_true, decT, decF, Bool.true_eq_false, Bool.false_eq_true]
          · rw [gIs_n q1]
            by_cases q1 : κ = 31
            · subst q1; simp (disch := omega) only [true_and, and_true, beq_t, beq_f, eqN_t, eqN_f, eqL_t, eqL_f, lg_cmp_ge, lg_cmp_le, lg_cmp_gt, lg_cmp_lt, lg_cmp_eq, oob, oobL, neg0, negL0, natle_f, or_false, false_or, or_self, cl, clL, le_t, le_f, lt_t, lt_f, leL_t, leL_f, ltL_t, ltL_f, leM_t, leM_f, ltM_t, ltM_f, cond_true, cond_false, Option.bind_some, if_false, if_true, nI_1, gIs_eq, gIs_k, gIs_i, gIs_n, gIJ, gIR, gJI, gJR, gJs_eq, gJs_k, gJs_n, gRI, gRJ, gRs_eq, gRs_k, gRs_i, gRs_n, gZI, gZJ, gZR, pI_s, pJ_s, pV_s, pR_s, pR_n, decide_true, decide_false, not_true_eq_false, not_false_eq_true, decT, decF, Bool.true_eq_false, Bool.false_eq_true]
            · rw [gIs_n q1]
              by_cases q1 : κ = 30
              · subst q1; simp (disch := omega) only [true_and, and_true, beq_t, beq_f, eqN_t, eqN_f, eqL_t, eqL_f, lg_cmp_ge, lg_cmp_le, lg_cmp_gt, lg_cmp_lt, lg_cmp_eq, oob, oobL, neg0, negL0, natle_f, or_false, false_or, or_self, cl, clL, le_t, le_f, lt_t, lt_f, leL_t, leL_f, ltL_t, ltL_f, leM_t, leM_f, ltM_t, ltM_f, cond_true, cond_false, Option.bind_some, if_false, if_true, nI_1, gIs_eq, gIs_k, gIs_i, gIs_n, gIJ, gIR, gJI, gJR, gJs_eq, gJs_k, gJs_n, gRI, gRJ, gRs_eq, gRs_k, gRs_i, gRs_n, gZI, gZJ, gZR, pI_s, pJ_s, pV_s, pR_s, pR_n, decide_true, decide_false, not_true_eq_false, not_false_eq_true, decT, decF, Bool.true_eq_false, Bool.false_eq_true]
              · rw [gIs_n q1]
      · simp (disch := omega) only [h3, true_and, and_true, beq_t, beq_f, eqN_t, eqN_f, eqL_t, eqL_f, lg_cmp_ge, lg_cmp_le, lg_cmp_gt, lg_cmp_lt, lg_cmp_eq, oob, oobL, neg0, negL0, natle_f, or_false, false_or, or_self, cl, clL, le_t, le_f, lt_t, lt_f, leL_t, leL_f, ltL_t, ltL_f, leM_t, leM_f, ltM_t, ltM_f, cond_true, cond_false, Option.bind_some, if_false, if_true, nI_1, gIs_eq, gIs_k, gIs_i, gIs_n, gIJ, gIR, gJI, gJR, gJs_eq, gJs_k, gJs_n, gRI, gRJ, gRs_eq, gRs_k, gRs_i, gRs_n, gZI, gZJ, gZR, pI_s, pJ_s, pV_s, pR_s, pR_n, decide_true, decide_false, not_true_eq_false, not_false_eq_true, decT, decF, Bool.true_eq_false, Bool.false_eq_true]
      · simp (disch := omega) only [h4, true_and, and_true, beq_t, beq_f, eqN_t, eqN_f, eqL_t, eqL_f, lg_cmp_ge, lg_cmp_le, lg_cmp_gt, lg_cmp_lt, lg_cmp_eq, oob, oobL, neg0, negL0, natle_f, or_false, false_or, or_self, cl, clL, le_t, le_f, lt_t, lt_f, leL_t, leL_f, ltL_t, ltL_f, leM_t, leM_f, ltM_t, ltM_f, cond_true, cond_false, Option.bind_some, if_false, if_true, nI_1, gIs_eq, gIs_k, gIs_i, gIs_n, gIJ, gIR, gJI, gJR, gJs_eq, gJs_k, gJs_n, gRI, gRJ, gRs_eq, gRs_k, gRs_i, gRs_n, gZI, gZJ, gZR, pI_s, pJ_s, pV_s, pR_s, pR_n, decide_true, decide_false, not_true_eq_false, not_false_eq_true, decT, decF, Bool.true_eq_false, Bool.false_eq_true]
      · by_cases hq : k' = k
        · subst hq
          simp (disch := omega) only [h2, true_and, and_true, beq_t, beq_f, eqN_t, eqN_f, eqL_t, eqL_f, lg_cmp_ge, lg_cmp_le, lg_cmp_gt, lg_cmp_lt, lg_cmp_eq, oob, oobL, neg0, negL0, natle_f, or_false, false_or, or_self, cl, clL, le_t, le_f, lt_t, lt_f, leL_t, leL_f, ltL_t, ltL_f, leM_t, leM_f, ltM_t, ltM_f, cond_true, cond_false, Option.bind_some, if_false, if_true, nI_1, gIs_eq, gIs_k, gIs_i, gIs_n, gIJ, gIR, gJI, gJR, gJs_eq, gJs_k, gJs_n, gRI, gRJ, gRs_eq, gRs_k, gRs_i, gRs_n, gZI, gZJ, gZR, pI_s, pJ_s, pV_s, pR_s, pR_n, decide_true, decide_false, not_true_eq_false, not_false_eq_true, decT, decF, Bool.true_eq_false, Bool.false_eq_true]
          exact h.2 k' (by omega)
        · simp (disch := omega) only [true_and, and_true, beq_t, beq_f, eqN_t, eqN_f, eqL_t, eqL_f, lg_cmp_ge, lg_cmp_le, lg_cmp_gt, lg_cmp_lt, lg_cmp_eq, oob, oobL, neg0, negL0, natle_f, or_false, false_or, or_self, cl, clL, le_t, le_f, lt_t, lt_f, leL_t, leL_f, ltL_t, ltL_f, leM_t, leM_f, ltM_t, ltM_f, cond_true, cond_false, Option.bind_some, if_false, if_true, nI_1, gIs_eq, gIs_k, gIs_i, gIs_n, gIJ, gIR, gJI, gJR, gJs_eq, gJs_k, gJs_n, gRI, gRJ, gRs_eq, gRs_k, gRs_i, gRs_n, gZI, gZJ, gZR, pI_s, pJ_s, pV_s, pR_s, pR_n, decide_true, decide_false, not_true_eq_false, not_false_eq_true, decT, decF, Bool.true_eq_false, Bool.false_eq_true]
          exact h5 k' (by omega)) (fun v hi => by
      ((try dsimp only); rw [e_X9_copy_18]; simp (disch := omega) only [e_X9_copy_78, true_and, and_true, beq_t, beq_f, eqN_t, eqN_f, eqL_t, eqL_f, lg_cmp_ge, lg_cmp_le, lg_cmp_gt, lg_cmp_lt, lg_cmp_eq, oob, oobL, neg0, negL0, natle_f, or_false, false_or, or_self, cl, clL, le_t, le_f, lt_t, lt_f, leL_t, leL_f, ltL_t, ltL_f, leM_t, leM_f, ltM_t, ltM_f, cond_true, cond_false, Option.bind_some, if_false, if_true, nI_1, gIs_eq, gIs_k, gIs_i, gIs_n, gIJ, gIR, gJI, gJR, gJs_eq, gJs_k, gJs_n, gRI, gRJ, gRs_eq, gRs_k, gRs_i, gRs_n, gZI, gZJ, gZR, pI_s, pJ_s, pV_s, pR_s, pR_n, decide_true, decide_false, not_true_eq_false, not_false_eq_true, decT, decF, Bool.true_eq_false, Bool.false_eq_true]))
  rw [f_X9_copy, e_X9_copy_0]
  rw [nI_0] at h1
  rw [h1]
  exact ⟨w', rfl, ⟨h2.2.2.2.1, h2.2.2.2.2⟩, h2.2.2.1, h2.1⟩
/-- all as the dale tells it -/
def beginS (d : Dl) : Sc := (0, fun _ => 0, fun _ => 0, fun _ => -1, d.2.2.2.1)
theorem p_X9_begin (i j : Nat) (w : XW) (d : Dl) (h : DlAt w j d) : ∃ w', F_X9_begin [.inr (8, i), .inr (1, j)] w = some w' ∧ ScAt w' i (beginS d) ∧ gI w' 8 i 0 = d.1 3 ∧ Fr (PS i) w w' := by
  obtain ⟨w', h1, h2⟩ := loop0 6 (fun k w => q_X9_begin_15 i j (nI k) w) (fun w => some (none, w)) (fun k v => Fr (PS i) w v ∧ gI v 8 i 0 = d.1 3 ∧ gI v 8 i 1 = 0 ∧ ∀ k', k' < k → gI v 30 i k' = 0 ∧ gI v 31 i k' = 0 ∧ gI v 32 i k' = -1 ∧ gI v 33 i k' = d.2.2.2.1 k') (s := sI (sI w 8 i 0 (gI w 1 j 3)) 8 i 1 0) (by
      refine ⟨((Fr.refl _ _).sI (PS_i (by omega))).sI (PS_i (by omega)), ?_, ?_, fun k' hk => absurd hk (by omega)⟩
      · simp (disch := omega) only [true_and, and_true, beq_t, beq_f, eqN_t, eqN_f, eqL_t, eqL_f, lg_cmp_ge, lg_cmp_le, lg_cmp_gt, lg_cmp_lt, lg_cmp_eq, oob, oobL, neg0, negL0, natle_f, or_false, false_or, or_self, cl, clL, le_t, le_f, lt_t, lt_f, leL_t, leL_f, ltL_t, ltL_f, leM_t, leM_f, ltM_t, ltM_f, cond_true, cond_false, Option.bind_some, if_false, if_true, nI_1, gIs_eq, gIs_k, gIs_i, gIs_n, gIJ, gIR, gJI, gJR, gJs_eq, gJs_k, gJs_n, gRI, gRJ, gRs_eq, gRs_k, gRs_i, gRs_n, gZI, gZJ, gZR, pI_s, pJ_s, pV_s, pR_s, pR_n, decide_true, decide_false, not_true_eq_false, not_false_eq_true, decT, decF, Bool.true_eq_false, Bool.false_eq_true]
        exact h.1 3 (by omega)
      · simp (disch := omega) only [true_and, and_true, beq_t, beq_f, eqN_t, eqN_f, eqL_t, eqL_f, lg_cmp_ge, lg_cmp_le, lg_cmp_gt, lg_cmp_lt, lg_cmp_eq, oob, oobL, neg0, negL0, natle_f, or_false, false_or, or_self, cl, clL, le_t, le_f, lt_t, lt_f, leL_t, leL_f, ltL_t, ltL_f, leM_t, leM_f, ltM_t, ltM_f, cond_true, cond_false, Option.bind_some, if_false, if_true, nI_1, gIs_eq, gIs_k, gIs_i, gIs_n, gIJ, gIR, gJI, gJR, gJs_eq, gJs_k, gJs_n, gRI, gRJ, gRs_eq, gRs_k, gRs_i, gRs_n, gZI, gZJ, gZR, pI_s, pJ_s, pV_s, pR_s, pR_n, decide_true, decide_false, not_true_eq_false, not_false_eq_true, decT, decF, Bool.true_eq_false, Bool.false_eq_true]) (fun k v hk hi => by
      obtain ⟨h1, h3, h4, h5⟩ := hi
      ((try dsimp only); rw [e_X9_begin_15]; simp (disch := omega) only [e_X9_begin_21, true_and, and_true, beq_t, beq_f, eqN_t, eqN_f, eqL_t, eqL_f, lg_cmp_ge, lg_cmp_le, lg_cmp_gt, lg_cmp_lt, lg_cmp_eq, oob, oobL, neg0, negL0, natle_f, or_false, false_or, or_self, cl, clL, le_t, le_f, lt_t, lt_f, leL_t, leL_f, ltL_t, ltL_f, leM_t, leM_f, ltM_t, ltM_f, cond_true, cond_false, Option.bind_some, if_false, if_true, nI_1, gIs_eq, gIs_k, gIs_i, gIs_n, gIJ, gIR, gJI, gJR, gJs_eq, gJs_k, gJs_n, gRI, gRJ, gRs_eq, gRs_k, gRs_i, gRs_n, gZI, gZJ, gZR, pI_s, pJ_s, pV_s, pR_s, pR_n, decide_true, decide_false, not_true_eq_false, not_false_eq_true, decT, decF, Bool.true_eq_false, Bool.false_eq_true])
      refine ⟨_, rfl, by (repeat' (first | exact h1 | exact Fr.refl _ _ | exact rfl | exact fun _ => rfl | exact PS_i (by omega) | refine Fr.sI ?_ ?_ | refine Fr.sR ?_ ?_ | refine Fr.sJ ?_ ?_)), ?_, ?_, fun k' hk' => ?_⟩
      · simp (disch := omega) only [h3, true_and, and_true, beq_t, beq_f, eqN_t, eqN_f, eqL_t, eqL_f, lg_cmp_ge, lg_cmp_le, lg_cmp_gt, lg_cmp_lt, lg_cmp_eq, oob, oobL, neg0, negL0, natle_f, or_false, false_or, or_self, cl, clL, le_t, le_f, lt_t, lt_f, leL_t, leL_f, ltL_t, ltL_f, leM_t, leM_f, ltM_t, ltM_f, cond_true, cond_false, Option.bind_some, if_false, if_true, nI_1, gIs_eq, gIs_k, gIs_i, gIs_n, gIJ, gIR, gJI, gJR, gJs_eq, gJs_k, gJs_n, gRI, gRJ, gRs_eq, gRs_k, gRs_i, gRs_n, gZI, gZJ, gZR, pI_s, pJ_s, pV_s, pR_s, pR_n, decide_true, decide_false, not_true_eq_false, not_false_eq_true, decT, decF, Bool.true_eq_false, Bool.false_eq_true]
      · simp (disch := omega) only [h4, true_and, and_true, beq_t, beq_f, eqN_t, eqN_f, eqL_t, eqL_f, lg_cmp_ge, lg_cmp_le, lg_cmp_gt, lg_cmp_lt, lg_cmp_eq, oob, oobL, neg0, negL0, natle_f, or_false, false_or, or_self, cl, clL, le_t, le_f, lt_t, lt_f, leL_t, leL_f, ltL_t, ltL_f, leM_t, leM_f, ltM_t, ltM_f, cond_true, cond_false, Option.bind_some, if_false, if_true, nI_1, gIs_eq, gIs_k, gIs_i, gIs_n, gIJ, gIR, gJI, gJR, gJs_eq, gJs_k, gJs_n, gRI, gRJ, gRs_eq, gRs_k, gRs_i, gRs_n, gZI, gZJ, gZR, pI_s, pJ_s, pV_s, pR_s, pR_n, decide_true, decide_false, not_true_eq_false, not_false_eq_true, decT, decF, Bool.true_eq_false, Bool.false_eq_true]
      · by_cases hq : k' = k
        · subst hq
          simp (disch := omega) only [true_and, and_true, beq_t, beq_f, eqN_t, eqN_f, eqL_t, eqL_f, lg_cmp_ge, lg_cmp_le, lg_cmp_gt, lg_cmp_lt, lg_cmp_eq, oob, oobL, neg0, negL0, natle_f, or_false, false_or, or_self, cl, clL, le_t, le_f, lt_t, lt_f, leL_t, leL_f, ltL_t, ltL_f, leM_t, leM_f, ltM_t, ltM_f, cond_true, cond_false, Option.bind_some, if_false, if_true, nI_1, gIs_eq, gIs_k, gIs_i, gIs_n, gIJ, gIR, gJI, gJR, gJs_eq, gJs_k, gJs_n, gRI, gRJ, gRs_eq, gRs_k, gRs_i, gRs_n, gZI, gZJ, gZR, pI_s, pJ_s, pV_s, pR_s, pR_n, decide_true, decide_false, not_true_eq_false, not_false_eq_true, decT, decF, Bool.true_eq_false, Bool.false_eq_true]
          exact ((h1.dl h).2.1 k' hk).2.2
        · simp (disch := omega) only [true_and, and_true, beq_t, beq_f, eqN_t, eqN_f, eqL_t, eqL_f, lg_cmp_ge, lg_cmp_le, lg_cmp_gt, lg_cmp_lt, lg_cmp_eq, oob, oobL, neg0, negL0, natle_f, or_false, false_or, or_self, cl, clL, le_t, le_f, lt_t, lt_f, leL_t, leL_f, ltL_t, ltL_f, leM_t, leM_f, ltM_t, ltM_f, cond_true, cond_false, Option.bind_some, if_false, if_true, nI_1, gIs_eq, gIs_k, gIs_i, gIs_n, gIJ, gIR, gJI, gJR, gJs_eq, gJs_k, gJs_n, gRI, gRJ, gRs_eq, gRs_k, gRs_i, gRs_n, gZI, gZJ, gZR, pI_s, pJ_s, pV_s, pR_s, pR_n, decide_true, decide_false, not_true_eq_false, not_false_eq_true, decT, decF, Bool.true_eq_false, Bool.false_eq_true]
          exact h5 k' (by omega)) (fun v hi => by
      ((try dsimp only); rw [e_X9_begin_15]; simp (disch := omega) only [e_X9_begin_60, true_and, and_true, beq_t, beq_f, eqN_t, eqN_f, eqL_t, eqL_f, lg_cmp_ge, lg_cmp_le, lg_cmp_gt, lg_cmp_lt, lg_cmp_eq, oob, oobL, neg0, negL0, natle_f, or_false, false_or, or_self, cl, clL, le_t, le_f, lt_t, lt_f, leL_t, leL_f, ltL_t, ltL_f, leM_t, leM_f, ltM_t, ltM_f, cond_true, cond_false, Option.bind_some, if_false, if_true, nI_1, gIs_eq, gIs_k, gIs_i, gIs_n, gIJ, gIR, gJI, gJR, gJs_eq, gJs_k, gJs_n, gRI, gRJ, gRs_eq, gRs_k, gRs_i, gRs_n, gZI, gZJ, gZR, pI_s, pJ_s, pV_s, pR_s, pR_n, decide_true, decide_false, not_true_eq_false, not_false_eq_true, decT, decF, Bool.true_eq_false, Bool.false_eq_true]))
  rw [f_X9_begin, e_X9_begin_0]
  rw [nI_0] at h1
  rw [h1]
  exact ⟨w', rfl, ⟨h2.2.2.1, h2.2.2.2⟩, h2.2.1, h2.1⟩
