/-! ===== a run from the beginning, held against the notes ===== -/
def bgS (d : Dl) (r : Option Rl) (k : Nat) : Sc := nightsS d r (tlS d) k (beginS d)
theorem bg_1 {d : Dl} {r : Option Rl} {k : Nat} : (bgS d r k).1 = nI k := by
  unfold bgS
  rw [nights_1]
  exact (nI_add 0 k).trans (by rw [Nat.zero_add])
theorem bg_succ {d : Dl} {r : Option Rl} {k : Nat} : bgS d r (k + 1) = nightS d r (tlS d) (bgS d r k) := nights_succ
theorem SOk_begin {d : Dl} (hD : DOk d) : SOk d (beginS d) := fun k hk =>
  ⟨⟨0, by omega, rfl⟩, ⟨0, by omega, rfl⟩, hD.2.2.2.2.2.2.2.2.2 k hk, Or.inr (Or.inl rfl), fun z => absurd (show (-1 : Int32) = -2 from z) (by decide), fun h => by
    obtain ⟨⟨b, hb, eb⟩, _⟩ := hD.2.2.2.2.2.2.2.1 k h
    exact ⟨0, b, Nat.zero_le _, hb, rfl, eb⟩⟩
theorem bg_ok {d : Dl} (hD : DOk d) {r : Option Rl} (k : Nat) : SOk d (bgS d r k) := (SOk_begin hD).nights hD (tl_ok hD) k
def fitS (d : Dl) (no : No) (r : Option Rl) : Bool := alB (fun k => noS no (bgS d r k)) 0 61
theorem fit_last {d : Dl} {no : No} (hO : NoOk d no) {r : Option Rl} {l : Nat} (h1 : lnS no no.1 ≤ l) (h2 : l ≤ 60) : alB (fun k => noS no (bgS d r k)) 0 (l + 1) = fitS d no r := by
  unfold fitS
  rw [Bool.eq_iff_iff, alB_all, alB_all]
  constructor
  · intro h j _ hj
    by_cases e : j < l + 1
    · exact h j (by omega) (by omega)
    · show noS no (bgS d r j) = true
      unfold noS
      rw [alB_all]
      intro q _ hq
      obtain ⟨⟨m, hm, em⟩, _⟩ := hO.2 q (by omega)
      have hle := (lnS_le hO no.1 (Nat.le_refl _)).2 q (by omega)
      rw [em, cl (by omega)] at hle
      unfold okN
      rw [em, bg_1, decF (fun z => by have := (nI_eq (by omega) (by omega)).mp z; omega)]
      rfl
  · intro h j _ hj
    exact h j (by omega) (by omega)
def PLk (κ _j k : Nat) : Prop := κ = 40 ∧ 36 ≤ k
theorem c_lookAtRun {w : XW} {d : Dl} {s : Sc} {r : Option Rl} {ts : Ar} (h : RunC w d s r ts) : ∃ w', F_X11_lookAtRun [.inr (10, 0)] w = some w' ∧ (∀ j, j < 6 → gI w' 40 0 (36 + j) = s.2.1 j) ∧ Fr PLk w w' := by
  obtain ⟨jd, jr, _, _, _, h4, _⟩ := h
  obtain ⟨w', h1, h2, h3⟩ := loop0 6 (fun k v => q_X11_lookAtRun_2 (nI k) v) (fun v => some (none, v)) (fun k v => Fr PLk w v ∧ ∀ j, j < k → gI v 40 0 (36 + j) = s.2.1 j) (s := w) ⟨Fr.refl _ _, fun j hj => absurd hj (by omega)⟩ (fun k v hk hi => by
      obtain ⟨b1, b2⟩ := hi
      have g := ((h4.fr b1 (fun κ k q => by unfold PLk; omega)).2 k hk).1
      ((try dsimp only); rw [e_X11_lookAtRun_2]; simp (disch := omega) only [e_X11_lookAtRun_8, g, true_and, and_true, false_and, and_false, beq_t, beq_f, eqN_t, eqN_f, eqL_t, eqL_f, nm1, nm2, nm1', nm2', m1z, m2z, zm1, zm2, m12, m21, lg_cmp_ge, lg_cmp_le, lg_cmp_gt, lg_cmp_lt, lg_cmp_eq, oob, oobL, neg0, negL0, natle_f, or_false, false_or, true_or, or_true, or_self, cl, clL, le_t, le_f, lt_t, lt_f, leL_t, leL_f, ltL_t, ltL_f, leM_t, leM_f, ltM_t, ltM_f, leO_t, leO_f, cond_true, cond_false, Option.bind_some, Option.bind_none, if_false, if_true, nI_1, aL1, aL2, mL1, mL2, nI_add, pk_mul, pk_m1, sL1, dL1, pk_sub, m1p1, gIs_eq, gIs_k, gIs_i, gIs_n, gIs_e, gIJ, gIR, gJI, gJR, gJs_eq, gJs_k, gJs_n, gJs_e, gRI, gRJ, gRs_eq, gRs_k, gRs_i, gRs_n, gZI, gZJ, gZR, pI_s, pJ_s, pV_s, pR_s, pR_n, oR_n, oR_s, decide_true, decide_false, not_true_eq_false, not_false_eq_true, decT, decF, Bool.true_eq_false, Bool.false_eq_true, z01, o01, z1f, z1f', zz, oo, b2i_0, b2i_n, b2i_t, b2i_f, Bool.not_true, Bool.not_false])
      refine ⟨_, rfl, b1.sI (by unfold PLk; omega), fun j hj => ?_⟩
      by_cases e : j = k
      · subst e; exact gIs_eq
      · rw [gIs_k (by omega)]
        exact b2 j (by omega)) (fun v hi => by ((try dsimp only); rw [e_X11_lookAtRun_2]; simp (disch := omega) only [e_X11_lookAtRun_32, true_and, and_true, false_and, and_false, beq_t, beq_f, eqN_t, eqN_f, eqL_t, eqL_f, nm1, nm2, nm1', nm2', m1z, m2z, zm1, zm2, m12, m21, lg_cmp_ge, lg_cmp_le, lg_cmp_gt, lg_cmp_lt, lg_cmp_eq, oob, oobL, neg0, negL0, natle_f, or_false, false_or, true_or, or_true, or_self, cl, clL, le_t, le_f, lt_t, lt_f, leL_t, leL_f, ltL_t, ltL_f, leM_t, leM_f, ltM_t, ltM_f, leO_t, leO_f, cond_true, cond_false, Option.bind_some, Option.bind_none, if_false, if_true, nI_1, aL1, aL2, mL1, mL2, nI_add, pk_mul, pk_m1, sL1, dL1, pk_sub, m1p1, gIs_eq, gIs_k, gIs_i, gIs_n, gIs_e, gIJ, gIR, gJI, gJR, gJs_eq, gJs_k, gJs_n, gJs_e, gRI, gRJ, gRs_eq, gRs_k, gRs_i, gRs_n, gZI, gZJ, gZR, pI_s, pJ_s, pV_s, pR_s, pR_n, oR_n, oR_s, decide_true, decide_false, not_true_eq_false, not_false_eq_true, decT, decF, Bool.true_eq_false, Bool.false_eq_true, z01, o01, z1f, z1f', zz, oo, b2i_0, b2i_n, b2i_t, b2i_f, Bool.not_true, Bool.not_false]))
  rw [nI_0] at h1
  refine ⟨w', ?_, h3, h2⟩
  rw [f_X11_lookAtRun, e_X11_lookAtRun_0, h1]
  rfl
def PSo (κ j k : Nat) : Prop := PQc κ j k ∨ PLk κ j k
theorem so_loop {d : Dl} {no : No} {r : Option Rl} (hD : DOk d) (hO : NoOk d no) {L l : Nat} (hL : L ≤ l) (hl : l ≤ 60) : ∀ (m k : Nat) (w : XW), k + m = l + 1 → RunC w d (bgS d r k) r (tlS d) → NoAt w 0 no → (L < k → ∀ j, j < 6 → gI w 40 0 (36 + j) = (bgS d r L).2.1 j) →
    ∃ w', q_X11_isSoBy_42 (nI L) (nI l) (nI k) w = some (some (.inl (.int (b2i (alB (fun k => noS no (bgS d r k)) k m)))), w') ∧ (alB (fun k => noS no (bgS d r k)) k m = true → ∀ j, j < 6 → gI w' 40 0 (36 + j) = (bgS d r L).2.1 j) ∧ Fr PSo w w' := by
  have h6 := hD.1.2
  intro m
  induction m with
  | zero =>
    intro k w hk hr hn hrow
    refine ⟨w, ?_, fun _ => hrow (by omega), Fr.refl _ _⟩
    ((try dsimp only); rw [e_X11_isSoBy_42]; simp (disch := omega) only [e_X11_isSoBy_92, true_and, and_true, false_and, and_false, beq_t, beq_f, eqN_t, eqN_f, eqL_t, eqL_f, nm1, nm2, nm1', nm2', m1z, m2z, zm1, zm2, m12, m21, lg_cmp_ge, lg_cmp_le, lg_cmp_gt, lg_cmp_lt, lg_cmp_eq, oob, oobL, neg0, negL0, natle_f, or_false, false_or, true_or, or_true, or_self, cl, clL, le_t, le_f, lt_t, lt_f, leL_t, leL_f, ltL_t, ltL_f, leM_t, leM_f, ltM_t, ltM_f, leO_t, leO_f, cond_true, cond_false, Option.bind_some, Option.bind_none, if_false, if_true, nI_1, aL1, aL2, mL1, mL2, nI_add, pk_mul, pk_m1, sL1, dL1, pk_sub, m1p1, gIs_eq, gIs_k, gIs_i, gIs_n, gIs_e, gIJ, gIR, gJI, gJR, gJs_eq, gJs_k, gJs_n, gJs_e, gRI, gRJ, gRs_eq, gRs_k, gRs_i, gRs_n, gZI, gZJ, gZR, pI_s, pJ_s, pV_s, pR_s, pR_n, oR_n, oR_s, decide_true, decide_false, not_true_eq_false, not_false_eq_true, decT, decF, Bool.true_eq_false, Bool.false_eq_true, z01, o01, z1f, z1f', zz, oo, b2i_0, b2i_n, b2i_t, b2i_f, Bool.not_true, Bool.not_false])
    rfl
  | succ m ih =>
    intro k w hk hr hn hrow
    have hs : ScAt w 1 (bgS d r k) := by obtain ⟨_, _, _, _, _, h4, _⟩ := hr; exact h4
    have ka := c_areSo hn hO h6 hs
    have eal : alB (fun k => noS no (bgS d r k)) k (m + 1) = (noS no (bgS d r k) && alB (fun k => noS no (bgS d r k)) (k + 1) m) := rfl
    rw [eal]
    by_cases hso : noS no (bgS d r k) = true
    · rw [hso] at ka ⊢
      rw [Bool.true_and]
      -- look, if it's the night
      have mid : ∃ w1, (bif decide (¬ nI k = nI L) then q_X11_isSoBy_74 (nI L) (nI l) (nI k) w else q_X11_isSoBy_70 (nI L) (nI l) (nI k) w) = q_X11_isSoBy_74 (nI L) (nI l) (nI k) w1 ∧ RunC w1 d (bgS d r k) r (tlS d) ∧ NoAt w1 0 no ∧ (L < k + 1 → ∀ j, j < 6 → gI w1 40 0 (36 + j) = (bgS d r L).2.1 j) ∧ Fr PSo w w1 := by
        by_cases e : k = L
        · subst e
          obtain ⟨w1, a1, a2, a3⟩ := c_lookAtRun hr
          refine ⟨w1, ?_, hr.fr a3 (fun κ j k q => by unfold PLk; omega), hn.fr a3 (fun κ k q => by unfold PLk; omega), fun _ => a2, a3.mono (fun κ j k q => Or.inr q)⟩
          simp (disch := omega) only [e_X11_isSoBy_70, a1, true_and, and_true, false_and, and_false, beq_t, beq_f, eqN_t, eqN_f, eqL_t, eqL_f, nm1, nm2, nm1', nm2', m1z, m2z, zm1, zm2, m12, m21, lg_cmp_ge, lg_cmp_le, lg_cmp_gt, lg_cmp_lt, lg_cmp_eq, oob, oobL, neg0, negL0, natle_f, or_false, false_or, true_or, or_true, or_self, cl, clL, le_t, le_f, lt_t, lt_f, leL_t, leL_f, ltL_t, ltL_f, leM_t, leM_f, ltM_t, ltM_f, leO_t, leO_f, cond_true, cond_false, Option.bind_some, Option.bind_none, if_false, if_true, nI_1, aL1, aL2, mL1, mL2, nI_add, pk_mul, pk_m1, sL1, dL1, pk_sub, m1p1, gIs_eq, gIs_k, gIs_i, gIs_n, gIs_e, gIJ, gIR, gJI, gJR, gJs_eq, gJs_k, gJs_n, gJs_e, gRI, gRJ, gRs_eq, gRs_k, gRs_i, gRs_n, gZI, gZJ, gZR, pI_s, pJ_s, pV_s, pR_s, pR_n, oR_n, oR_s, decide_true, decide_false, not_true_eq_false, not_false_eq_true, decT, decF, Bool.true_eq_false, Bool.false_eq_true, z01, o01, z1f, z1f', zz, oo, b2i_0, b2i_n, b2i_t, b2i_f, Bool.not_true, Bool.not_false]
        · refine ⟨w, ?_, hr, hn, fun z => hrow (by omega), Fr.refl _ _⟩
          simp (disch := omega) only [true_and, and_true, false_and, and_false, beq_t, beq_f, eqN_t, eqN_f, eqL_t, eqL_f, nm1, nm2, nm1', nm2', m1z, m2z, zm1, zm2, m12, m21, lg_cmp_ge, lg_cmp_le, lg_cmp_gt, lg_cmp_lt, lg_cmp_eq, oob, oobL, neg0, negL0, natle_f, or_false, false_or, true_or, or_true, or_self, cl, clL, le_t, le_f, lt_t, lt_f, leL_t, leL_f, ltL_t, ltL_f, leM_t, leM_f, ltM_t, ltM_f, leO_t, leO_f, cond_true, cond_false, Option.bind_some, Option.bind_none, if_false, if_true, nI_1, aL1, aL2, mL1, mL2, nI_add, pk_mul, pk_m1, sL1, dL1, pk_sub, m1p1, gIs_eq, gIs_k, gIs_i, gIs_n, gIs_e, gIJ, gIR, gJI, gJR, gJs_eq, gJs_k, gJs_n, gJs_e, gRI, gRJ, gRs_eq, gRs_k, gRs_i, gRs_n, gZI, gZJ, gZR, pI_s, pJ_s, pV_s, pR_s, pR_n, oR_n, oR_s, decide_true, decide_false, not_true_eq_false, not_false_eq_true, decT, decF, Bool.true_eq_false, Bool.false_eq_true, z01, o01, z1f, z1f', zz, oo, b2i_0, b2i_n, b2i_t, b2i_f, Bool.not_true, Bool.not_false]
      obtain ⟨w1, a1, a2, a3, a4, a5⟩ := mid
      obtain ⟨w2, b1, b2, b3⟩ := c_pass1 a2 hD (bg_ok hD k) (tl_ok hD)
      rw [← bg_succ] at b2
      obtain ⟨w3, c1, c2, c3⟩ := ih (k + 1) w2 (by omega) b2 (a3.fr b3 (fun κ k q => by unfold PQc; omega)) (fun z j hj => by rw [(b3 40 0 _ (by unfold PQc; omega)).1]; exact a4 z j hj)
      refine ⟨w3, ?_, c2, (a5.trans (b3.mono (fun κ j k q => Or.inl q))).trans c3⟩
      rw [e_X11_isSoBy_42, lt_f (by omega) (by omega), cond_false, e_X11_isSoBy_48, ka, Option.bind_some]
      dsimp only
      rw [b2i_n, cond_true, e_X11_isSoBy_64, a1, e_X11_isSoBy_74, b1]
      simp (disch := omega) only [true_and, and_true, false_and, and_false, beq_t, beq_f, eqN_t, eqN_f, eqL_t, eqL_f, nm1, nm2, nm1', nm2', m1z, m2z, zm1, zm2, m12, m21, lg_cmp_ge, lg_cmp_le, lg_cmp_gt, lg_cmp_lt, lg_cmp_eq, oob, oobL, neg0, negL0, natle_f, or_false, false_or, true_or, or_true, or_self, cl, clL, le_t, le_f, lt_t, lt_f, leL_t, leL_f, ltL_t, ltL_f, leM_t, leM_f, ltM_t, ltM_f, leO_t, leO_f, cond_true, cond_false, Option.bind_some, Option.bind_none, if_false, if_true, nI_1, aL1, aL2, mL1, mL2, nI_add, pk_mul, pk_m1, sL1, dL1, pk_sub, m1p1, gIs_eq, gIs_k, gIs_i, gIs_n, gIs_e, gIJ, gIR, gJI, gJR, gJs_eq, gJs_k, gJs_n, gJs_e, gRI, gRJ, gRs_eq, gRs_k, gRs_i, gRs_n, gZI, gZJ, gZR, pI_s, pJ_s, pV_s, pR_s, pR_n, oR_n, oR_s, decide_true, decide_false, not_true_eq_false, not_false_eq_true, decT, decF, Bool.true_eq_false, Bool.false_eq_true, z01, o01, z1f, z1f', zz, oo, b2i_0, b2i_n, b2i_t, b2i_f, Bool.not_true, Bool.not_false]
      exact c1
    · have hso : noS no (bgS d r k) = false := by cases q : noS no (bgS d r k) <;> simp_all
      rw [hso] at ka ⊢
      rw [Bool.false_and]
      refine ⟨w, ?_, (fun z => by cases z), Fr.refl _ _⟩
      ((try dsimp only); rw [e_X11_isSoBy_42]; simp (disch := omega) only [e_X11_isSoBy_48, ka, e_X11_isSoBy_62, true_and, and_true, false_and, and_false, beq_t, beq_f, eqN_t, eqN_f, eqL_t, eqL_f, nm1, nm2, nm1', nm2', m1z, m2z, zm1, zm2, m12, m21, lg_cmp_ge, lg_cmp_le, lg_cmp_gt, lg_cmp_lt, lg_cmp_eq, oob, oobL, neg0, negL0, natle_f, or_false, false_or, true_or, or_true, or_self, cl, clL, le_t, le_f, lt_t, lt_f, leL_t, leL_f, ltL_t, ltL_f, leM_t, leM_f, ltM_t, ltM_f, leO_t, leO_f, cond_true, cond_false, Option.bind_some, Option.bind_none, if_false, if_true, nI_1, aL1, aL2, mL1, mL2, nI_add, pk_mul, pk_m1, sL1, dL1, pk_sub, m1p1, gIs_eq, gIs_k, gIs_i, gIs_n, gIs_e, gIJ, gIR, gJI, gJR, gJs_eq, gJs_k, gJs_n, gJs_e, gRI, gRJ, gRs_eq, gRs_k, gRs_i, gRs_n, gZI, gZJ, gZR, pI_s, pJ_s, pV_s, pR_s, pR_n, oR_n, oR_s, decide_true, decide_false, not_true_eq_false, not_false_eq_true, decT, decF, Bool.true_eq_false, Bool.false_eq_true, z01, o01, z1f, z1f', zz, oo, b2i_0, b2i_n, b2i_t, b2i_f, Bool.not_true, Bool.not_false])
theorem c_isSoBy {w : XW} {d : Dl} {s : Sc} {rs : List Rl} {f : Int32} {no : No} (hX : CX w d s rs f) (hOX : OX d s rs f) (hN : NoAt w 0 no) (hO : NoOk d no) {t : Int32} (ht : fOk rs t) {L : Nat} (hL : L ≤ 60) :
    ∃ w', F_X11_isSoBy [.inr (10, 0), .inl (.int t), .inl (.int (nI L))] w = some (b2i (fitS d no (curR rs t)), w') ∧ (fitS d no (curR rs t) = true → ∀ j, j < 6 → gI w' 40 0 (36 + j) = (bgS d (curR rs t) L).2.1 j) ∧ Fr PSo w w' := by
  have hD := hOX.1.1
  obtain ⟨⟨jd, h1, h2⟩, ⟨h3, h4⟩, h5, h7⟩ := hX
  obtain ⟨jr, x1, x2⟩ := c_ruleAt h5 hOX.2.2.1 hOX.2.2.2.1 ht
  obtain ⟨w1, y1, y2, y3⟩ := c_take jd jr d w h2
  obtain ⟨w2, z1, z2, z3, z4⟩ := p_X9_begin 1 jd w1 d (h2.fr y3 (fun κ k q => by unfold P19; omega))
  have hF : Fr PQc w w2 := (y3.mono (fun κ i k q => by unfold P19 at q; unfold  PQc; omega)).trans (z4.mono (fun κ i k q => by unfold PSc at q; unfold  PQc; omega))
  have h15 : gR w1 10 0 5 = some jd := by rw [(y3 10 0 5 (by unfold P19; omega)).2.2.1]; exact h1
  have hr : RunC w2 d (bgS d (curR rs t) 0) (curR rs t) (tlS d) := ⟨jd, jr, by rw [(hF 10 0 5 (by unfold PQc; omega)).2.2.1]; exact h1, h2.fr hF (fun κ k q => by unfold PQc; omega), y2.fr z4 (fun κ k q => by unfold PSc; omega), z2, z3, x2.fr hF (fun κ j k q => by unfold PQc; omega)⟩
  have hn := hN.fr hF (fun κ k q => by unfold PQc; omega)
  have kl := c_lastNight hn hO
  have hl := (lnS_le hO no.1 (Nat.le_refl _)).1
  have em : (if nI L < nI (lnS no no.1) then nI (lnS no no.1) else nI L) = nI (max L (lnS no no.1)) := by
    by_cases h : L < lnS no no.1
    · rw [if_pos (of_decide_eq_true (lt_t h (by omega))), Nat.max_eq_right (by omega)]
    · rw [if_neg (of_decide_eq_false (lt_f (by omega) (by omega))), Nat.max_eq_left (by omega)]
  obtain ⟨w3, u1, u2, u3⟩ := so_loop (r := curR rs t) hD hO (L := L) (l := max L (lnS no no.1)) (by omega) (by omega) (max L (lnS no no.1) + 1) 0 w2 (by omega) hr hn (fun z => absurd z (by omega))
  rw [fit_last hO (by omega) (by omega)] at u1 u2
  rw [nI_0] at u1
  refine ⟨w3, ?_, u2, (hF.mono (fun κ j k q => Or.inl q)).trans u3⟩
  rw [f_X11_isSoBy, e_X11_isSoBy_0]
  simp (disch := omega) only [h1, x1, true_and, and_true, false_and, and_false, beq_t, beq_f, eqN_t, eqN_f, eqL_t, eqL_f, nm1, nm2, nm1', nm2', m1z, m2z, zm1, zm2, m12, m21, lg_cmp_ge, lg_cmp_le, lg_cmp_gt, lg_cmp_lt, lg_cmp_eq, oob, oobL, neg0, negL0, natle_f, or_false, false_or, true_or, or_true, or_self, cl, clL, le_t, le_f, lt_t, lt_f, leL_t, leL_f, ltL_t, ltL_f, leM_t, leM_f, ltM_t, ltM_f, leO_t, leO_f, cond_true, cond_false, Option.bind_some, Option.bind_none, if_false, if_true, nI_1, aL1, aL2, mL1, mL2, nI_add, pk_mul, pk_m1, sL1, dL1, pk_sub, m1p1, gIs_eq, gIs_k, gIs_i, gIs_n, gIs_e, gIJ, gIR, gJI, gJR, gJs_eq, gJs_k, gJs_n, gJs_e, gRI, gRJ, gRs_eq, gRs_k, gRs_i, gRs_n, gZI, gZJ, gZR, pI_s, pJ_s, pV_s, pR_s, pR_n, oR_n, oR_s, decide_true, decide_false, not_true_eq_false, not_false_eq_true, decT, decF, Bool.true_eq_false, Bool.false_eq_true, z01, o01, z1f, z1f', zz, oo, b2i_0, b2i_n, b2i_t, b2i_f, Bool.not_true, Bool.not_false]
  match jr, y1 with
  | none, y1 =>
    have y1 : F_X4_take [.inr (3, 0), .inr (1, jd), .inl .null] w = _ := y1
    simp (disch := omega) only [y1, h15, z1, kl, em, u1, true_and, and_true, false_and, and_false, beq_t, beq_f, eqN_t, eqN_f, eqL_t, eqL_f, nm1, nm2, nm1', nm2', m1z, m2z, zm1, zm2, m12, m21, lg_cmp_ge, lg_cmp_le, lg_cmp_gt, lg_cmp_lt, lg_cmp_eq, oob, oobL, neg0, negL0, natle_f, or_false, false_or, true_or, or_true, or_self, cl, clL, le_t, le_f, lt_t, lt_f, leL_t, leL_f, ltL_t, ltL_f, leM_t, leM_f, ltM_t, ltM_f, leO_t, leO_f, cond_true, cond_false, Option.bind_some, Option.bind_none, if_false, if_true, nI_1, aL1, aL2, mL1, mL2, nI_add, pk_mul, pk_m1, sL1, dL1, pk_sub, m1p1, gIs_eq, gIs_k, gIs_i, gIs_n, gIs_e, gIJ, gIR, gJI, gJR, gJs_eq, gJs_k, gJs_n, gJs_e, gRI, gRJ, gRs_eq, gRs_k, gRs_i, gRs_n, gZI, gZJ, gZR, pI_s, pJ_s, pV_s, pR_s, pR_n, oR_n, oR_s, decide_true, decide_false, not_true_eq_false, not_false_eq_true, decT, decF, Bool.true_eq_false, Bool.false_eq_true, z01, o01, z1f, z1f', zz, oo, b2i_0, b2i_n, b2i_t, b2i_f, Bool.not_true, Bool.not_false]
  | some j, y1 =>
    have y1 : F_X4_take [.inr (3, 0), .inr (1, jd), .inr (6, j)] w = _ := y1
    simp (disch := omega) only [y1, h15, z1, kl, em, u1, true_and, and_true, false_and, and_false, beq_t, beq_f, eqN_t, eqN_f, eqL_t, eqL_f, nm1, nm2, nm1', nm2', m1z, m2z, zm1, zm2, m12, m21, lg_cmp_ge, lg_cmp_le, lg_cmp_gt, lg_cmp_lt, lg_cmp_eq, oob, oobL, neg0, negL0, natle_f, or_false, false_or, true_or, or_true, or_self, cl, clL, le_t, le_f, lt_t, lt_f, leL_t, leL_f, ltL_t, ltL_f, leM_t, leM_f, ltM_t, ltM_f, leO_t, leO_f, cond_true, cond_false, Option.bind_some, Option.bind_none, if_false, if_true, nI_1, aL1, aL2, mL1, mL2, nI_add, pk_mul, pk_m1, sL1, dL1, pk_sub, m1p1, gIs_eq, gIs_k, gIs_i, gIs_n, gIs_e, gIJ, gIR, gJI, gJR, gJs_eq, gJs_k, gJs_n, gJs_e, gRI, gRJ, gRs_eq, gRs_k, gRs_i, gRs_n, gZI, gZJ, gZR, pI_s, pJ_s, pV_s, pR_s, pR_n, oR_n, oR_s, decide_true, decide_false, not_true_eq_false, not_false_eq_true, decT, decF, Bool.true_eq_false, Bool.false_eq_true, z01, o01, z1f, z1f', zz, oo, b2i_0, b2i_n, b2i_t, b2i_f, Bool.not_true, Bool.not_false]
