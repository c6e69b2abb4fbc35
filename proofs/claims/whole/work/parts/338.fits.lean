/-! ===== what the notes say of a run ===== -/
def alB (P : Nat → Bool) : Nat → Nat → Bool
  | _, 0 => true
  | k, m + 1 => P k && alB P (k + 1) m
theorem alB_all {P : Nat → Bool} : ∀ (m k : Nat), alB P k m = true ↔ ∀ j, k ≤ j → j < k + m → P j = true := by
  intro m
  induction m with
  | zero => intro k; exact ⟨fun _ j h1 h2 => absurd h2 (by omega), fun _ => rfl⟩
  | succ m ih =>
    intro k
    show (P k && alB P (k + 1) m) = true ↔ _
    rw [Bool.and_eq_true, ih]
    constructor
    · intro ⟨a, b⟩ j h1 h2
      by_cases e : j = k
      · rw [e]; exact a
      · exact b j (by omega) (by omega)
    · intro h
      exact ⟨h k (by omega) (by omega), fun j h1 h2 => h j (by omega) (by omega)⟩
def okN (no : No) (s : Sc) (q : Nat) : Bool := !decide (no.2.1 q = s.1) || decide (s.2.1 (no.2.2.1 q).toNatClampNeg = no.2.2.2 q)
def noS (no : No) (s : Sc) : Bool := alB (okN no s) 0 no.1
theorem c_areSo {w : XW} {d : Dl} {no : No} {s : Sc} (hN : NoAt w 0 no) (hO : NoOk d no) (h6 : kn d ≤ 6) (hs : ScAt w 1 s) : F_X5_areSo [.inr (4, 0), .inr (8, 1)] w = some (b2i (noS no s), w) := by
  have h10 := hO.1
  have key : ∀ m k, k + m = no.1 → q_X5_areSo_2 0 1 (nI k) w = some (some (.inl (.int (b2i (alB (okN no s) k m)))), w) := by
    intro m
    induction m with
    | zero =>
      intro k hk
      have e := hN.1
      ((try dsimp only); rw [e_X5_areSo_2]; simp (disch := omega) only [e, e_X5_areSo_51, true_and, and_true, false_and, and_false, beq_t, beq_f, eqN_t, eqN_f, eqL_t, eqL_f, nm1, nm2, nm1', nm2', m1z, m2z, zm1, zm2, m12, m21, lg_cmp_ge, lg_cmp_le, lg_cmp_gt, lg_cmp_lt, lg_cmp_eq, oob, oobL, neg0, negL0, natle_f, or_false, false_or, true_or, or_true, or_self, cl, clL, le_t, le_f, lt_t, lt_f, leL_t, leL_f, ltL_t, ltL_f, leM_t, leM_f, ltM_t, ltM_f, leO_t, leO_f, cond_true, cond_false, Option.bind_some, Option.bind_none, if_false, if_true, nI_1, aL1, aL2, mL1, mL2, nI_add, pk_mul, pk_m1, sL1, dL1, pk_sub, m1p1, gIs_eq, gIs_k, gIs_i, gIs_n, gIs_e, gIJ, gIR, gJI, gJR, gJs_eq, gJs_k, gJs_n, gJs_e, gRI, gRJ, gRs_eq, gRs_k, gRs_i, gRs_n, gZI, gZJ, gZR, pI_s, pJ_s, pV_s, pR_s, pR_n, oR_n, oR_s, decide_true, decide_false, not_true_eq_false, not_false_eq_true, decT, decF, Bool.true_eq_false, Bool.false_eq_true, z01, o01, z1f, z1f', zz, oo, b2i_0, b2i_n, b2i_t, b2i_f, Bool.not_true, Bool.not_false])
      rfl
    | succ m ih =>
      intro k hk
      have e := hN.1
      obtain ⟨g1, g2, g3⟩ := hN.2 k (by omega)
      obtain ⟨_, ⟨kk, hkk, ek⟩, _⟩ := hO.2 k (by omega)
      have g4 := (hs.2 kk (by omega)).1
      have ih := ih (k + 1) (by omega)
      show _ = (some (some (.inl (.int (b2i (okN no s k && alB (okN no s) (k + 1) m)))), w) : Option XR)
      rw [ek] at g2
      by_cases h1 : no.2.1 k = s.1
      · by_cases h2 : s.2.1 kk = no.2.2.2 k
        · have eo : okN no s k = true := by unfold okN; rw [ek, cl (by omega), decT h2, Bool.or_true]
          rw [eo, Bool.true_and]
          ((try dsimp only); rw [e_X5_areSo_2]; simp (disch := omega) only [e, e_X5_areSo_10, g1, hs.1, h1, e_X5_areSo_23, g2, g3, g4, h2, e_X5_areSo_45, true_and, and_true, false_and, and_false, beq_t, beq_f, eqN_t, eqN_f, eqL_t, eqL_f, nm1, nm2, nm1', nm2', m1z, m2z, zm1, zm2, m12, m21, lg_cmp_ge, lg_cmp_le, lg_cmp_gt, lg_cmp_lt, lg_cmp_eq, oob, oobL, neg0, negL0, natle_f, or_false, false_or, true_or, or_true, or_self, cl, clL, le_t, le_f, lt_t, lt_f, leL_t, leL_f, ltL_t, ltL_f, leM_t, leM_f, ltM_t, ltM_f, leO_t, leO_f, cond_true, cond_false, Option.bind_some, Option.bind_none, if_false, if_true, nI_1, aL1, aL2, mL1, mL2, nI_add, pk_mul, pk_m1, sL1, dL1, pk_sub, m1p1, gIs_eq, gIs_k, gIs_i, gIs_n, gIs_e, gIJ, gIR, gJI, gJR, gJs_eq, gJs_k, gJs_n, gJs_e, gRI, gRJ, gRs_eq, gRs_k, gRs_i, gRs_n, gZI, gZJ, gZR, pI_s, pJ_s, pV_s, pR_s, pR_n, oR_n, oR_s, decide_true, decide_false, not_true_eq_false, not_false_eq_true, decT, decF, Bool.true_eq_false, Bool.false_eq_true, z01, o01, z1f, z1f', zz, oo, b2i_0, b2i_n, b2i_t, b2i_f, Bool.not_true, Bool.not_false])
          exact ih
        · have eo : okN no s k = false := by unfold okN; rw [ek, cl (by omega), decF h2, decT h1]; rfl
          rw [eo, Bool.false_and]
          ((try dsimp only); rw [e_X5_areSo_2]; simp (disch := omega) only [e, e_X5_areSo_10, g1, hs.1, h1, e_X5_areSo_23, g2, g3, g4, h2, e_X5_areSo_43, true_and, and_true, false_and, and_false, beq_t, beq_f, eqN_t, eqN_f, eqL_t, eqL_f, nm1, nm2, nm1', nm2', m1z, m2z, zm1, zm2, m12, m21, lg_cmp_ge, lg_cmp_le, lg_cmp_gt, lg_cmp_lt, lg_cmp_eq, oob, oobL, neg0, negL0, natle_f, or_false, false_or, true_or, or_true, or_self, cl, clL, le_t, le_f, lt_t, lt_f, leL_t, leL_f, ltL_t, ltL_f, leM_t, leM_f, ltM_t, ltM_f, leO_t, leO_f, cond_true, cond_false, Option.bind_some, Option.bind_none, if_false, if_true, nI_1, aL1, aL2, mL1, mL2, nI_add, pk_mul, pk_m1, sL1, dL1, pk_sub, m1p1, gIs_eq, gIs_k, gIs_i, gIs_n, gIs_e, gIJ, gIR, gJI, gJR, gJs_eq, gJs_k, gJs_n, gJs_e, gRI, gRJ, gRs_eq, gRs_k, gRs_i, gRs_n, gZI, gZJ, gZR, pI_s, pJ_s, pV_s, pR_s, pR_n, oR_n, oR_s, decide_true, decide_false, not_true_eq_false, not_false_eq_true, decT, decF, Bool.true_eq_false, Bool.false_eq_true, z01, o01, z1f, z1f', zz, oo, b2i_0, b2i_n, b2i_t, b2i_f, Bool.not_true, Bool.not_false])
      · have eo : okN no s k = true := by unfold okN; rw [decF h1]; rfl
        rw [eo, Bool.true_and]
        ((try dsimp only); rw [e_X5_areSo_2]; simp (disch := omega) only [e, e_X5_areSo_10, g1, hs.1, h1, e_X5_areSo_45, true_and, and_true, false_and, and_false, beq_t, beq_f, eqN_t, eqN_f, eqL_t, eqL_f, nm1, nm2, nm1', nm2', m1z, m2z, zm1, zm2, m12, m21, lg_cmp_ge, lg_cmp_le, lg_cmp_gt, lg_cmp_lt, lg_cmp_eq, oob, oobL, neg0, negL0, natle_f, or_false, false_or, true_or, or_true, or_self, cl, clL, le_t, le_f, lt_t, lt_f, leL_t, leL_f, ltL_t, ltL_f, leM_t, leM_f, ltM_t, ltM_f, leO_t, leO_f, cond_true, cond_false, Option.bind_some, Option.bind_none, if_false, if_true, nI_1, aL1, aL2, mL1, mL2, nI_add, pk_mul, pk_m1, sL1, dL1, pk_sub, m1p1, gIs_eq, gIs_k, gIs_i, gIs_n, gIs_e, gIJ, gIR, gJI, gJR, gJs_eq, gJs_k, gJs_n, gJs_e, gRI, gRJ, gRs_eq, gRs_k, gRs_i, gRs_n, gZI, gZJ, gZR, pI_s, pJ_s, pV_s, pR_s, pR_n, oR_n, oR_s, decide_true, decide_false, not_true_eq_false, not_false_eq_true, decT, decF, Bool.true_eq_false, Bool.false_eq_true, z01, o01, z1f, z1f', zz, oo, b2i_0, b2i_n, b2i_t, b2i_f, Bool.not_true, Bool.not_false])
        exact ih
  have := key no.1 0 (by omega)
  rw [nI_0] at this
  rw [f_X5_areSo, e_X5_areSo_0, this]
  rfl
theorem m_areSo {w : XW} {d : Dl} {no : No} {s : Sc} (hN : NoM w no) (hO : NoOk d no) (h6 : kn d ≤ 6) (hs : MsAt w s) : F_X12_areNotesSo [.inr (11, 0), .inl (.int s.1)] w = some (b2i (noS no s), w) := by
  have h10 := hO.1
  have key : ∀ m k, k + m = no.1 → q_X12_areNotesSo_2 s.1 (nI (3 * k)) w = some (some (.inl (.int (b2i (alB (okN no s) k m)))), w) := by
    intro m
    induction m with
    | zero =>
      intro k hk
      have e := hN.1
      ((try dsimp only); rw [e_X12_areNotesSo_2]; simp (disch := omega) only [e, e_X12_areNotesSo_65, true_and, and_true, false_and, and_false, beq_t, beq_f, eqN_t, eqN_f, eqL_t, eqL_f, nm1, nm2, nm1', nm2', m1z, m2z, zm1, zm2, m12, m21, lg_cmp_ge, lg_cmp_le, lg_cmp_gt, lg_cmp_lt, lg_cmp_eq, oob, oobL, neg0, negL0, natle_f, or_false, false_or, true_or, or_true, or_self, cl, clL, le_t, le_f, lt_t, lt_f, leL_t, leL_f, ltL_t, ltL_f, leM_t, leM_f, ltM_t, ltM_f, leO_t, leO_f, cond_true, cond_false, Option.bind_some, Option.bind_none, if_false, if_true, nI_1, aL1, aL2, mL1, mL2, nI_add, pk_mul, pk_m1, sL1, dL1, pk_sub, m1p1, gIs_eq, gIs_k, gIs_i, gIs_n, gIs_e, gIJ, gIR, gJI, gJR, gJs_eq, gJs_k, gJs_n, gJs_e, gRI, gRJ, gRs_eq, gRs_k, gRs_i, gRs_n, gZI, gZJ, gZR, pI_s, pJ_s, pV_s, pR_s, pR_n, oR_n, oR_s, decide_true, decide_false, not_true_eq_false, not_false_eq_true, decT, decF, Bool.true_eq_false, Bool.false_eq_true, z01, o01, z1f, z1f', zz, oo, b2i_0, b2i_n, b2i_t, b2i_f, Bool.not_true, Bool.not_false])
      rfl
    | succ m ih =>
      intro k hk
      have e := hN.1
      obtain ⟨g1, g2, g3⟩ := hN.2 k (by omega)
      obtain ⟨_, ⟨kk, hkk, ek⟩, _⟩ := hO.2 k (by omega)
      have g4 := m_fullOf hs (k := kk) (by omega)
      have ih := ih (k + 1) (by omega)
      rw [show 3 * (k + 1) = 3 * k + 3 by omega] at ih
      show _ = (some (some (.inl (.int (b2i (okN no s k && alB (okN no s) (k + 1) m)))), w) : Option XR)
      rw [ek] at g2
      by_cases h1 : no.2.1 k = s.1
      · by_cases h2 : s.2.1 kk = no.2.2.2 k
        · have eo : okN no s k = true := by unfold okN; rw [ek, cl (by omega), decT h2, Bool.or_true]
          rw [eo, Bool.true_and]
          ((try dsimp only); rw [e_X12_areNotesSo_2]; simp (disch := omega) only [e, e_X12_areNotesSo_15, g1, h1, e_X12_areNotesSo_28, g2, g4, g3, h2, e_X12_areNotesSo_59, true_and, and_true, false_and, and_false, beq_t, beq_f, eqN_t, eqN_f, eqL_t, eqL_f, nm1, nm2, nm1', nm2', m1z, m2z, zm1, zm2, m12, m21, lg_cmp_ge, lg_cmp_le, lg_cmp_gt, lg_cmp_lt, lg_cmp_eq, oob, oobL, neg0, negL0, natle_f, or_false, false_or, true_or, or_true, or_self, cl, clL, le_t, le_f, lt_t, lt_f, leL_t, leL_f, ltL_t, ltL_f, leM_t, leM_f, ltM_t, ltM_f, leO_t, leO_f, cond_true, cond_false, Option.bind_some, Option.bind_none, if_false, if_true, nI_1, aL1, aL2, mL1, mL2, nI_add, pk_mul, pk_m1, sL1, dL1, pk_sub, m1p1, gIs_eq, gIs_k, gIs_i, gIs_n, gIs_e, gIJ, gIR, gJI, gJR, gJs_eq, gJs_k, gJs_n, gJs_e, gRI, gRJ, gRs_eq, gRs_k, gRs_i, gRs_n, gZI, gZJ, gZR, pI_s, pJ_s, pV_s, pR_s, pR_n, oR_n, oR_s, decide_true, decide_false, not_true_eq_false, not_false_eq_true, decT, decF, Bool.true_eq_false, Bool.false_eq_true, z01, o01, z1f, z1f', zz, oo, b2i_0, b2i_n, b2i_t, b2i_f, Bool.not_true, Bool.not_false])
          exact ih
        · have eo : okN no s k = false := by unfold okN; rw [ek, cl (by omega), decF h2, decT h1]; rfl
          rw [eo, Bool.false_and]
          ((try dsimp only); rw [e_X12_areNotesSo_2]; simp (disch := omega) only [e, e_X12_areNotesSo_15, g1, h1, e_X12_areNotesSo_28, g2, g4, g3, h2, e_X12_areNotesSo_57, true_and, and_true, false_and, and_false, beq_t, beq_f, eqN_t, eqN_f, eqL_t, eqL_f, nm1, nm2, nm1', nm2', m1z, m2z, zm1, zm2, m12, m21, lg_cmp_ge, lg_cmp_le, lg_cmp_gt, lg_cmp_lt, lg_cmp_eq, oob, oobL, neg0, negL0, natle_f, or_false, false_or, true_or, or_true, or_self, cl, clL, le_t, le_f, lt_t, lt_f, leL_t, leL_f, ltL_t, ltL_f, leM_t, leM_f, ltM_t, ltM_f, leO_t, leO_f, cond_true, cond_false, Option.bind_some, Option.bind_none, if_false, if_true, nI_1, aL1, aL2, mL1, mL2, nI_add, pk_mul, pk_m1, sL1, dL1, pk_sub, m1p1, gIs_eq, gIs_k, gIs_i, gIs_n, gIs_e, gIJ, gIR, gJI, gJR, gJs_eq, gJs_k, gJs_n, gJs_e, gRI, gRJ, gRs_eq, gRs_k, gRs_i, gRs_n, gZI, gZJ, gZR, pI_s, pJ_s, pV_s, pR_s, pR_n, oR_n, oR_s, decide_true, decide_false, not_true_eq_false, not_false_eq_true, decT, decF, Bool.true_eq_false, Bool.false_eq_true, z01, o01, z1f, z1f', zz, oo, b2i_0, b2i_n, b2i_t, b2i_f, Bool.not_true, Bool.not_false])
      · have eo : okN no s k = true := by unfold okN; rw [decF h1]; rfl
        rw [eo, Bool.true_and]
        ((try dsimp only); rw [e_X12_areNotesSo_2]; simp (disch := omega) only [e, e_X12_areNotesSo_15, g1, h1, e_X12_areNotesSo_59, true_and, and_true, false_and, and_false, beq_t, beq_f, eqN_t, eqN_f, eqL_t, eqL_f, nm1, nm2, nm1', nm2', m1z, m2z, zm1, zm2, m12, m21, lg_cmp_ge, lg_cmp_le, lg_cmp_gt, lg_cmp_lt, lg_cmp_eq, oob, oobL, neg0, negL0, natle_f, or_false, false_or, true_or, or_true, or_self, cl, clL, le_t, le_f, lt_t, lt_f, leL_t, leL_f, ltL_t, ltL_f, leM_t, leM_f, ltM_t, ltM_f, leO_t, leO_f, cond_true, cond_false, Option.bind_some, Option.bind_none, if_false, if_true, nI_1, aL1, aL2, mL1, mL2, nI_add, pk_mul, pk_m1, sL1, dL1, pk_sub, m1p1, gIs_eq, gIs_k, gIs_i, gIs_n, gIs_e, gIJ, gIR, gJI, gJR, gJs_eq, gJs_k, gJs_n, gJs_e, gRI, gRJ, gRs_eq, gRs_k, gRs_i, gRs_n, gZI, gZJ, gZR, pI_s, pJ_s, pV_s, pR_s, pR_n, oR_n, oR_s, decide_true, decide_false, not_true_eq_false, not_false_eq_true, decT, decF, Bool.true_eq_false, Bool.false_eq_true, z01, o01, z1f, z1f', zz, oo, b2i_0, b2i_n, b2i_t, b2i_f, Bool.not_true, Bool.not_false])
        exact ih
  have := key no.1 0 (by omega)
  rw [show nI (3 * 0) = 0 from rfl] at this
  rw [f_X12_areNotesSo, e_X12_areNotesSo_0, this]
  rfl
/-- the last night of which there is a note -/
def lnS (no : No) : Nat → Nat
  | 0 => 0
  | q + 1 => if lnS no q < (no.2.1 q).toNatClampNeg then (no.2.1 q).toNatClampNeg else lnS no q
theorem lnS_le {d : Dl} {no : No} (hO : NoOk d no) : ∀ k, k ≤ no.1 → lnS no k ≤ 60 ∧ ∀ q, q < k → (no.2.1 q).toNatClampNeg ≤ lnS no k := by
  intro k
  induction k with
  | zero => intro _; exact ⟨Nat.zero_le _, fun q hq => absurd hq (by omega)⟩
  | succ k ih =>
    intro hk
    obtain ⟨a, b⟩ := ih (by omega)
    obtain ⟨⟨m, hm, em⟩, _⟩ := hO.2 k (by omega)
    have ec : (no.2.1 k).toNatClampNeg = m := by rw [em, cl (by omega)]
    unfold lnS
    by_cases h : lnS no k < (no.2.1 k).toNatClampNeg
    · rw [if_pos h]
      refine ⟨by omega, fun q hq => ?_⟩
      by_cases e : q = k
      · rw [e]; omega
      · have := b q (by omega); omega
    · rw [if_neg h]
      refine ⟨a, fun q hq => ?_⟩
      by_cases e : q = k
      · rw [e]; omega
      · exact b q (by omega)
theorem c_lastNight {w : XW} {d : Dl} {no : No} (hN : NoAt w 0 no) (hO : NoOk d no) : F_X5_lastNight [.inr (4, 0)] w = some (nI (lnS no no.1), w) := by
  have h10 := hO.1
  obtain ⟨w', h1, h2⟩ := loop0 no.1 (fun k (v : XW) => q_X5_lastNight_4 0 (nI (lnS no k)) (nI k) v) (fun v => some (some (.inl (.int (nI (lnS no no.1)))), v)) (fun _ v => v = w) (s := w) rfl (fun k v hk hi => by
      subst hi
      have e := hN.1
      have g := (hN.2 k hk).1
      obtain ⟨⟨m, hm, em⟩, _⟩ := hO.2 k hk
      have hl := (lnS_le hO k (by omega)).1
      refine ⟨v, ?_, rfl⟩
      have es : lnS no (k + 1) = if lnS no k < m then m else lnS no k := by
        show (if lnS no k < (no.2.1 k).toNatClampNeg then (no.2.1 k).toNatClampNeg else lnS no k) = _
        rw [em, cl (by omega)]
      rw [es]
      generalize lnS no k = l at *
      rw [em] at g
      have ei : (if nI l < nI m then nI m else nI l) = nI (if l < m then m else l) := by
        by_cases h : l < m
        · rw [if_pos h, if_pos (of_decide_eq_true (lt_t h (by omega)))]
        · rw [if_neg h, if_neg (of_decide_eq_false (lt_f (by omega) (by omega)))]
      ((try dsimp only); rw [e_X5_lastNight_4]; simp (disch := omega) only [e, e_X5_lastNight_12, g, ei, true_and, and_true, false_and, and_false, beq_t, beq_f, eqN_t, eqN_f, eqL_t, eqL_f, nm1, nm2, nm1', nm2', m1z, m2z, zm1, zm2, m12, m21, lg_cmp_ge, lg_cmp_le, lg_cmp_gt, lg_cmp_lt, lg_cmp_eq, oob, oobL, neg0, negL0, natle_f, or_false, false_or, true_or, or_true, or_self, cl, clL, le_t, le_f, lt_t, lt_f, leL_t, leL_f, ltL_t, ltL_f, leM_t, leM_f, ltM_t, ltM_f, leO_t, leO_f, cond_true, cond_false, Option.bind_some, Option.bind_none, if_false, if_true, nI_1, aL1, aL2, mL1, mL2, nI_add, pk_mul, pk_m1, sL1, dL1, pk_sub, m1p1, gIs_eq, gIs_k, gIs_i, gIs_n, gIs_e, gIJ, gIR, gJI, gJR, gJs_eq, gJs_k, gJs_n, gJs_e, gRI, gRJ, gRs_eq, gRs_k, gRs_i, gRs_n, gZI, gZJ, gZR, pI_s, pJ_s, pV_s, pR_s, pR_n, oR_n, oR_s, decide_true, decide_false, not_true_eq_false, not_false_eq_true, decT, decF, Bool.true_eq_false, Bool.false_eq_true, z01, o01, z1f, z1f', zz, oo, b2i_0, b2i_n, b2i_t, b2i_f, Bool.not_true, Bool.not_false])) (fun v hi => by
      subst hi
      have e := hN.1
      ((try dsimp only); rw [e_X5_lastNight_4]; simp (disch := omega) only [e, e_X5_lastNight_29, true_and, and_true, false_and, and_false, beq_t, beq_f, eqN_t, eqN_f, eqL_t, eqL_f, nm1, nm2, nm1', nm2', m1z, m2z, zm1, zm2, m12, m21, lg_cmp_ge, lg_cmp_le, lg_cmp_gt, lg_cmp_lt, lg_cmp_eq, oob, oobL, neg0, negL0, natle_f, or_false, false_or, true_or, or_true, or_self, cl, clL, le_t, le_f, lt_t, lt_f, leL_t, leL_f, ltL_t, ltL_f, leM_t, leM_f, ltM_t, ltM_f, leO_t, leO_f, cond_true, cond_false, Option.bind_some, Option.bind_none, if_false, if_true, nI_1, aL1, aL2, mL1, mL2, nI_add, pk_mul, pk_m1, sL1, dL1, pk_sub, m1p1, gIs_eq, gIs_k, gIs_i, gIs_n, gIs_e, gIJ, gIR, gJI, gJR, gJs_eq, gJs_k, gJs_n, gJs_e, gRI, gRJ, gRs_eq, gRs_k, gRs_i, gRs_n, gZI, gZJ, gZR, pI_s, pJ_s, pV_s, pR_s, pR_n, oR_n, oR_s, decide_true, decide_false, not_true_eq_false, not_false_eq_true, decT, decF, Bool.true_eq_false, Bool.false_eq_true, z01, o01, z1f, z1f', zz, oo, b2i_0, b2i_n, b2i_t, b2i_f, Bool.not_true, Bool.not_false]))
  subst h2
  have h1 : q_X5_lastNight_4 0 0 0 w' = _ := h1
  rw [f_X5_lastNight, e_X5_lastNight_0, h1]
  rfl
