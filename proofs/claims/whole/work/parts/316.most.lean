/-! ===== most, had ===== -/
theorem even_rest {d : Dl} {r : Option Rl} {ts : Ar} {s : Sc} : (evenS d r ts s).2.2 = s.2.2 := by
  show (tellsS d r ts s).2.2 = s.2.2
  exact (tells_rest _).2
theorem burnt_night {d : Dl} {r : Option Rl} {ts : Ar} {s : Sc} {k : Nat} (h : s.2.2.2.1 k = -2) : (nightS d r ts s).2.2.2.1 k = -2 := by
  show onN (kn d) (evenS d r ts s).2.2.2.1 (wPlace d (lateS (evenS d r ts s))) k = -2
  have e : (evenS d r ts s).2.2.2.1 k = -2 := by rw [even_rest]; exact h
  unfold onN
  by_cases q : k < kn d
  · rw [if_pos q]
    unfold wPlace burnS
    have e2 : (lateS (evenS d r ts s)).2.2.2.1 k = -2 := e
    rw [decF (p := ¬ (lateS (evenS d r ts s)).2.2.2.1 k = -2) (fun z => z e2)]
    exact e2
  · rw [if_neg q]; exact e
theorem burnt_nights {d : Dl} {r : Option Rl} {ts : Ar} {s : Sc} {k : Nat} (i : Nat) (h : (nightsS d r ts i s).2.2.2.1 k = -2) : ∀ m, (nightsS d r ts (i + m) s).2.2.2.1 k = -2 := by
  intro m
  induction m with
  | zero => exact h
  | succ m ih =>
    rw [show i + (m + 1) = i + m + 1 by omega, nights_succ]
    exact burnt_night ih
theorem c_stays {w : XW} {d : Dl} {s : Sc} {r : Option Rl} {ts : Ar} (h : RunC w d s r ts) (hD : DOk d) (hS : SOk d s) (ht : TsOk d ts) (n : Nat) (hn : n ≤ 100) {k : Nat} (hk : k < 6) (h0 : ¬ s.2.2.2.1 k = -2) :
    ∃ w', F_X11_staysUnburnt [.inr (10, 0), .inl (.int (nI k)), .inl (.int (nI n))] w = some (b2i (decide (¬ (nightsS d r ts n s).2.2.2.1 k = -2)), w') ∧ Fr PQc w w' ∧ (¬ (nightsS d r ts n s).2.2.2.1 k = -2 → RunC w' d (nightsS d r ts n s) r ts) := by
  have key : ∀ m i v, i + m = n → Fr PQc w v → RunC v d (nightsS d r ts i s) r ts → ¬ (nightsS d r ts i s).2.2.2.1 k = -2 → ∃ w', q_X11_staysUnburnt_2 (nI k) (nI n) (nI i) v = some (some (.inl (.int (b2i (decide (¬ (nightsS d r ts n s).2.2.2.1 k = -2))))), w') ∧ Fr PQc w w' ∧ (¬ (nightsS d r ts n s).2.2.2.1 k = -2 → RunC w' d (nightsS d r ts n s) r ts) := by
    intro m
    induction m with
    | zero =>
      intro i v hi hF hr hb
      have : i = n := by omega
      subst this
      refine ⟨v, ?_, hF, fun _ => hr⟩
      ((try dsimp only); rw [e_X11_staysUnburnt_2]; simp (disch := omega) only [e_X11_staysUnburnt_41, hb, true_and, and_true, false_and, and_false, beq_t, beq_f, eqN_t, eqN_f, eqL_t, eqL_f, nm1, nm2, nm1', nm2', m1z, m2z, zm1, zm2, m12, m21, lg_cmp_ge, lg_cmp_le, lg_cmp_gt, lg_cmp_lt, lg_cmp_eq, oob, oobL, neg0, negL0, natle_f, or_false, false_or, true_or, or_true, or_self, cl, clL, le_t, le_f, lt_t, lt_f, leL_t, leL_f, ltL_t, ltL_f, leM_t, leM_f, ltM_t, ltM_f, leO_t, leO_f, cond_true, cond_false, Option.bind_some, Option.bind_none, if_false, if_true, nI_1, aL1, aL2, mL1, mL2, nI_add, pk_mul, pk_m1, sL1, dL1, pk_sub, m1p1, gIs_eq, gIs_k, gIs_i, gIs_n, gIs_e, gIJ, gIR, gJI, gJR, gJs_eq, gJs_k, gJs_n, gJs_e, gRI, gRJ, gRs_eq, gRs_k, gRs_i, gRs_n, gZI, gZJ, gZR, pI_s, pJ_s, pV_s, pR_s, pR_n, oR_n, oR_s, decide_true, decide_false, not_true_eq_false, not_false_eq_true, decT, decF, Bool.true_eq_false, Bool.false_eq_true, z01, o01, z1f, z1f', zz, oo, b2i_0, b2i_n, b2i_t, b2i_f, Bool.not_true, Bool.not_false])
    | succ m ih =>
      intro i v hi hF hr hb
      obtain ⟨u, u1, u2, u3⟩ := c_pass1 hr hD (hS.nights hD ht i) ht
      rw [← nights_succ] at u2
      obtain ⟨jd, jr, y1, y2, y3, y4, y5, y6⟩ := id u2
      have y7 := (y4.2 k hk).2.2.1
      by_cases hb2 : (nightsS d r ts (i + 1) s).2.2.2.1 k = -2
      · have := burnt_nights (i + 1) hb2 m
        rw [show i + 1 + m = n by omega] at this
        refine ⟨u, ?_, hF.trans u3, fun z => absurd this z⟩
        ((try dsimp only); rw [e_X11_staysUnburnt_2]; simp (disch := omega) only [e_X11_staysUnburnt_7, u1, y7, hb2, e_X11_staysUnburnt_33, this, true_and, and_true, false_and, and_false, beq_t, beq_f, eqN_t, eqN_f, eqL_t, eqL_f, nm1, nm2, nm1', nm2', m1z, m2z, zm1, zm2, m12, m21, lg_cmp_ge, lg_cmp_le, lg_cmp_gt, lg_cmp_lt, lg_cmp_eq, oob, oobL, neg0, negL0, natle_f, or_false, false_or, true_or, or_true, or_self, cl, clL, le_t, le_f, lt_t, lt_f, leL_t, leL_f, ltL_t, ltL_f, leM_t, leM_f, ltM_t, ltM_f, leO_t, leO_f, cond_true, cond_false, Option.bind_some, Option.bind_none, if_false, if_true, nI_1, aL1, aL2, mL1, mL2, nI_add, pk_mul, pk_m1, sL1, dL1, pk_sub, m1p1, gIs_eq, gIs_k, gIs_i, gIs_n, gIs_e, gIJ, gIR, gJI, gJR, gJs_eq, gJs_k, gJs_n, gJs_e, gRI, gRJ, gRs_eq, gRs_k, gRs_i, gRs_n, gZI, gZJ, gZR, pI_s, pJ_s, pV_s, pR_s, pR_n, oR_n, oR_s, decide_true, decide_false, not_true_eq_false, not_false_eq_true, decT, decF, Bool.true_eq_false, Bool.false_eq_true, z01, o01, z1f, z1f', zz, oo, b2i_0, b2i_n, b2i_t, b2i_f, Bool.not_true, Bool.not_false])
      · obtain ⟨x, x1, x2, x3⟩ := ih (i + 1) u (by omega) (hF.trans u3) u2 hb2
        refine ⟨x, ?_, x2, x3⟩
        ((try dsimp only); rw [e_X11_staysUnburnt_2]; simp (disch := omega) only [e_X11_staysUnburnt_7, u1, y7, hb2, e_X11_staysUnburnt_35, true_and, and_true, false_and, and_false, beq_t, beq_f, eqN_t, eqN_f, eqL_t, eqL_f, nm1, nm2, nm1', nm2', m1z, m2z, zm1, zm2, m12, m21, lg_cmp_ge, lg_cmp_le, lg_cmp_gt, lg_cmp_lt, lg_cmp_eq, oob, oobL, neg0, negL0, natle_f, or_false, false_or, true_or, or_true, or_self, cl, clL, le_t, le_f, lt_t, lt_f, leL_t, leL_f, ltL_t, ltL_f, leM_t, leM_f, ltM_t, ltM_f, leO_t, leO_f, cond_true, cond_false, Option.bind_some, Option.bind_none, if_false, if_true, nI_1, aL1, aL2, mL1, mL2, nI_add, pk_mul, pk_m1, sL1, dL1, pk_sub, m1p1, gIs_eq, gIs_k, gIs_i, gIs_n, gIs_e, gIJ, gIR, gJI, gJR, gJs_eq, gJs_k, gJs_n, gJs_e, gRI, gRJ, gRs_eq, gRs_k, gRs_i, gRs_n, gZI, gZJ, gZR, pI_s, pJ_s, pV_s, pR_s, pR_n, oR_n, oR_s, decide_true, decide_false, not_true_eq_false, not_false_eq_true, decT, decF, Bool.true_eq_false, Bool.false_eq_true, z01, o01, z1f, z1f', zz, oo, b2i_0, b2i_n, b2i_t, b2i_f, Bool.not_true, Bool.not_false])
        exact x1
  obtain ⟨w', h1, h2, h3⟩ := key n 0 w (by omega) (Fr.refl _ _) h h0
  refine ⟨w', ?_, h2, h3⟩
  rw [nI_0] at h1
  rw [f_X11_staysUnburnt, e_X11_staysUnburnt_0, h1]
  rfl
theorem upd_upd (f : Ar) (k : Nat) (a b : Int32) : upd (upd f k a) k b = upd f k b := by
  funext j
  by_cases h : j = k
  · rw [h, pk_us, pk_us]
  · rw [pk_un h, pk_un h, pk_un h]
theorem m_setTells {w : XW} {d : Dl} {s s0 : Sc} {r : Option Rl} {ts : Ar} {f : Int32} (h : RunM w d s r ts) (hk : KeptM w s0 f) {p : Nat} (hp : p < 5) (v : Int32) : RunM (sI w 50 0 (52 + p) v) d s r (upd ts p v) ∧ KeptM (sI w 50 0 (52 + p) v) s0 f ∧ Fr PQm w (sI w 50 0 (52 + p) v) := by
  have hF : Fr (fun κ _ k => κ = 50 ∧ k = 52 + p) w (sI w 50 0 (52 + p) v) := (Fr.refl _ _).sI ⟨rfl, rfl⟩
  refine ⟨⟨h.1.fr hF (fun k q => by omega), fun q hq => ?_, h.2.2.1.fr hF (fun k q => by omega), h.2.2.2.1.fr hF (fun κ k q => by omega), by simp (disch := omega) only [true_and, and_true, false_and, and_false, beq_t, beq_f, eqN_t, eqN_f, eqL_t, eqL_f, nm1, nm2, nm1', nm2', m1z, m2z, zm1, zm2, m12, m21, lg_cmp_ge, lg_cmp_le, lg_cmp_gt, lg_cmp_lt, lg_cmp_eq, oob, oobL, neg0, negL0, natle_f, or_false, false_or, true_or, or_true, or_self, cl, clL, le_t, le_f, lt_t, lt_f, leL_t, leL_f, ltL_t, ltL_f, leM_t, leM_f, ltM_t, ltM_f, leO_t, leO_f, cond_true, cond_false, Option.bind_some, Option.bind_none, if_false, if_true, nI_1, aL1, aL2, mL1, mL2, nI_add, pk_mul, pk_m1, sL1, dL1, pk_sub, m1p1, gIs_eq, gIs_k, gIs_i, gIs_n, gIs_e, gIJ, gIR, gJI, gJR, gJs_eq, gJs_k, gJs_n, gJs_e, gRI, gRJ, gRs_eq, gRs_k, gRs_i, gRs_n, gZI, gZJ, gZR, pI_s, pJ_s, pV_s, pR_s, pR_n, oR_n, oR_s, decide_true, decide_false, not_true_eq_false, not_false_eq_true, decT, decF, Bool.true_eq_false, Bool.false_eq_true, z01, o01, z1f, z1f', zz, oo, b2i_0, b2i_n, b2i_t, b2i_f, Bool.not_true, Bool.not_false]; exact h.2.2.2.2⟩, hk.fr hF (fun k => by omega) (by omega), hF.mono (fun κ i k q => by unfold PQm; omega)⟩
  by_cases e : q = p
  · rw [e, pk_us]; exact gIs_eq
  · rw [pk_un e, gIs_k (by omega)]; exact h.2.1 q hq
theorem q_most {d : Dl} {s : Sc} {rs : List Rl} {f : Int32} (hO : OX d s rs f) (x y : Int32) : QOk d s rs f (F_X11_most [.inr (10, 0), .inl (.int x), .inl (.int y)]) (F_X12_most [.inr (11, 0), .inl (.int x), .inl (.int y)]) := by
  have hD := hO.1.1
  have h5 := hD.2.1.2
  have h6 := hD.1.2
  have hS := hO.2.1.1
  have hTs := tl_ok hD
  by_cases hx : (¬ x < 0 ∧ ¬ nI (pn d) ≤ x)
  · obtain ⟨p, hp, rfl⟩ := inK (by omega) hx
    obtain ⟨o1, o2, _⟩ := hD.2.2.2.1 p hp
    by_cases c1 : (¬ y < 1 ∧ ¬ 60 < y)
    · by_cases hb : s.2.2.2.1 (own d p) = -2
      · refine ⟨-1, fun w hC => ⟨w, ?_, Fr.refl _ _⟩, fun w hM => ⟨w, ?_, hM, Fr.refl _ _⟩⟩
        · have k1 := c_isPerson hC.1 hD (nI p)
          rw [decT hx] at k1
          obtain ⟨⟨jd, x1, x2⟩, ⟨x3, _⟩, _⟩ := hC
          have g : gI w 16 jd p = nI (own d p) := by rw [(x2.2.2.1 p (by omega)).1]; exact o1
          have g2 := (x3.2 (own d p) (by omega)).2.2.1
          rw [f_X11_most, e_X11_most_0]
          simp (disch := omega) only [k1, e_X11_most_8, p_within, c1, e_X11_most_20, x1, g, g2, hb, e_X11_most_44, true_and, and_true, false_and, and_false, beq_t, beq_f, eqN_t, eqN_f, eqL_t, eqL_f, nm1, nm2, nm1', nm2', m1z, m2z, zm1, zm2, m12, m21, lg_cmp_ge, lg_cmp_le, lg_cmp_gt, lg_cmp_lt, lg_cmp_eq, oob, oobL, neg0, negL0, natle_f, or_false, false_or, true_or, or_true, or_self, cl, clL, le_t, le_f, lt_t, lt_f, leL_t, leL_f, ltL_t, ltL_f, leM_t, leM_f, ltM_t, ltM_f, leO_t, leO_f, cond_true, cond_false, Option.bind_some, Option.bind_none, if_false, if_true, nI_1, aL1, aL2, mL1, mL2, nI_add, pk_mul, pk_m1, sL1, dL1, pk_sub, m1p1, gIs_eq, gIs_k, gIs_i, gIs_n, gIs_e, gIJ, gIR, gJI, gJR, gJs_eq, gJs_k, gJs_n, gJs_e, gRI, gRJ, gRs_eq, gRs_k, gRs_i, gRs_n, gZI, gZJ, gZR, pI_s, pJ_s, pV_s, pR_s, pR_n, oR_n, oR_s, decide_true, decide_false, not_true_eq_false, not_false_eq_true, decT, decF, Bool.true_eq_false, Bool.false_eq_true, z01, o01, z1f, z1f', zz, oo, b2i_0, b2i_n, b2i_t, b2i_f, Bool.not_true, Bool.not_false]
        · have k1 := m_isPerson hM.1 hD (nI p)
          rw [decT hx] at k1
          have g : gI w 50 0 (47 + p) = nI (own d p) := by rw [hM.1.2.2.1 p (by omega)]; exact o1
          rw [f_X12_most, e_X12_most_0]
          simp (disch := omega) only [k1, e_X12_most_8, g, m_isBurnt hM.2.2.1 (k := own d p) (by omega), hb, e_X12_most_36, true_and, and_true, false_and, and_false, beq_t, beq_f, eqN_t, eqN_f, eqL_t, eqL_f, nm1, nm2, nm1', nm2', m1z, m2z, zm1, zm2, m12, m21, lg_cmp_ge, lg_cmp_le, lg_cmp_gt, lg_cmp_lt, lg_cmp_eq, oob, oobL, neg0, negL0, natle_f, or_false, false_or, true_or, or_true, or_self, cl, clL, le_t, le_f, lt_t, lt_f, leL_t, leL_f, ltL_t, ltL_f, leM_t, leM_f, ltM_t, ltM_f, leO_t, leO_f, cond_true, cond_false, Option.bind_some, Option.bind_none, if_false, if_true, nI_1, aL1, aL2, mL1, mL2, nI_add, pk_mul, pk_m1, sL1, dL1, pk_sub, m1p1, gIs_eq, gIs_k, gIs_i, gIs_n, gIs_e, gIJ, gIR, gJI, gJR, gJs_eq, gJs_k, gJs_n, gJs_e, gRI, gRJ, gRs_eq, gRs_k, gRs_i, gRs_n, gZI, gZJ, gZR, pI_s, pJ_s, pV_s, pR_s, pR_n, oR_n, oR_s, decide_true, decide_false, not_true_eq_false, not_false_eq_true, decT, decF, Bool.true_eq_false, Bool.false_eq_true, z01, o01, z1f, z1f', zz, oo, b2i_0, b2i_n, b2i_t, b2i_f, Bool.not_true, Bool.not_false]
      · obtain ⟨n, hn1, hn, rfl⟩ := rngL 1 60 (by omega) (by omega) c1
        generalize hr : curR rs f = r
        have key : ∀ m, m ≤ 10 → ∃ a, (∀ w, CX w d s rs f → ∃ w', q_X11_most_50 (nI p) (nI n) (nI (own d p)) (dn m) w = some (some (.inl (.int a)), w') ∧ Fr PQc w w') ∧ (∀ w v, RunM w d s r (upd (tlS d) p v) → KeptM w s f → ∃ w', q_X12_most_60 (nI p) (nI n) (tlS d p) (-2) (dn m) w = some (some (.inl (.int a)), w') ∧ RunM w' d s r (tlS d) ∧ KeptM w' s f ∧ Fr PQm w w') := by
          intro m
          induction m with
          | zero =>
            intro _
            refine ⟨-2, fun w hC => ⟨w, ?_, Fr.refl _ _⟩, fun w v hr hk => ?_⟩
            · rw [e_X11_most_50]
              simp (disch := omega) only [dn, e_X11_most_87, true_and, and_true, false_and, and_false, beq_t, beq_f, eqN_t, eqN_f, eqL_t, eqL_f, nm1, nm2, nm1', nm2', m1z, m2z, zm1, zm2, m12, m21, lg_cmp_ge, lg_cmp_le, lg_cmp_gt, lg_cmp_lt, lg_cmp_eq, oob, oobL, neg0, negL0, natle_f, or_false, false_or, true_or, or_true, or_self, cl, clL, le_t, le_f, lt_t, lt_f, leL_t, leL_f, ltL_t, ltL_f, leM_t, leM_f, ltM_t, ltM_f, leO_t, leO_f, cond_true, cond_false, Option.bind_some, Option.bind_none, if_false, if_true, nI_1, aL1, aL2, mL1, mL2, nI_add, pk_mul, pk_m1, sL1, dL1, pk_sub, m1p1, gIs_eq, gIs_k, gIs_i, gIs_n, gIs_e, gIJ, gIR, gJI, gJR, gJs_eq, gJs_k, gJs_n, gJs_e, gRI, gRJ, gRs_eq, gRs_k, gRs_i, gRs_n, gZI, gZJ, gZR, pI_s, pJ_s, pV_s, pR_s, pR_n, oR_n, oR_s, decide_true, decide_false, not_true_eq_false, not_false_eq_true, decT, decF, Bool.true_eq_false, Bool.false_eq_true, z01, o01, z1f, z1f', zz, oo, b2i_0, b2i_n, b2i_t, b2i_f, Bool.not_true, Bool.not_false]
            · obtain ⟨y1, y2, y3⟩ := m_setTells hr hk (p := p) (by omega) (tlS d p)
              rw [upd_upd, upd_same] at y1
              refine ⟨_, ?_, y1, y2, y3⟩
              rw [e_X12_most_60]
              simp (disch := omega) only [dn, e_X12_most_116, true_and, and_true, false_and, and_false, beq_t, beq_f, eqN_t, eqN_f, eqL_t, eqL_f, nm1, nm2, nm1', nm2', m1z, m2z, zm1, zm2, m12, m21, lg_cmp_ge, lg_cmp_le, lg_cmp_gt, lg_cmp_lt, lg_cmp_eq, oob, oobL, neg0, negL0, natle_f, or_false, false_or, true_or, or_true, or_self, cl, clL, le_t, le_f, lt_t, lt_f, leL_t, leL_f, ltL_t, ltL_f, leM_t, leM_f, ltM_t, ltM_f, leO_t, leO_f, cond_true, cond_false, Option.bind_some, Option.bind_none, if_false, if_true, nI_1, aL1, aL2, mL1, mL2, nI_add, pk_mul, pk_m1, sL1, dL1, pk_sub, m1p1, gIs_eq, gIs_k, gIs_i, gIs_n, gIs_e, gIJ, gIR, gJI, gJR, gJs_eq, gJs_k, gJs_n, gJs_e, gRI, gRJ, gRs_eq, gRs_k, gRs_i, gRs_n, gZI, gZJ, gZR, pI_s, pJ_s, pV_s, pR_s, pR_n, oR_n, oR_s, decide_true, decide_false, not_true_eq_false, not_false_eq_true, decT, decF, Bool.true_eq_false, Bool.false_eq_true, z01, o01, z1f, z1f', zz, oo, b2i_0, b2i_n, b2i_t, b2i_f, Bool.not_true, Bool.not_false]
          | succ t ih =>
            intro ht
            obtain ⟨a, i1, i2⟩ := ih (by omega)
            have hts : TsOk d (upd (tlS d) p (nI t)) := hTs.upd ⟨t, by omega, rfl⟩
            by_cases hg : (nightsS d r (upd (tlS d) p (nI t)) n s).2.2.2.1 (own d p) = -2
            · refine ⟨a, fun w hC => ?_, fun w v hr hk => ?_⟩
              · obtain ⟨w1, a1, a2, a3⟩ := c_start hC hO
                rw [hr] at a2
                obtain ⟨w2, b1, b2, b3⟩ := c_nowTells a2 (p := p) (by omega) (nI t)
                obtain ⟨w3, d1, d2, d3⟩ := c_stays b2 hD hS hts n (by omega) (k := own d p) (by omega) hb
                have hF := (a3.trans b3).trans d2
                obtain ⟨w4, e1, e2⟩ := i1 w3 (hC.fr hF)
                refine ⟨w4, ?_, hF.trans e2⟩
                rw [e_X11_most_50]
                simp (disch := omega) only [dn, e_X11_most_55, a1, b1, d1, hg, e_X11_most_81, true_and, and_true, false_and, and_false, beq_t, beq_f, eqN_t, eqN_f, eqL_t, eqL_f, nm1, nm2, nm1', nm2', m1z, m2z, zm1, zm2, m12, m21, lg_cmp_ge, lg_cmp_le, lg_cmp_gt, lg_cmp_lt, lg_cmp_eq, oob, oobL, neg0, negL0, natle_f, or_false, false_or, true_or, or_true, or_self, cl, clL, le_t, le_f, lt_t, lt_f, leL_t, leL_f, ltL_t, ltL_f, leM_t, leM_f, ltM_t, ltM_f, leO_t, leO_f, cond_true, cond_false, Option.bind_some, Option.bind_none, if_false, if_true, nI_1, aL1, aL2, mL1, mL2, nI_add, pk_mul, pk_m1, sL1, dL1, pk_sub, m1p1, gIs_eq, gIs_k, gIs_i, gIs_n, gIs_e, gIJ, gIR, gJI, gJR, gJs_eq, gJs_k, gJs_n, gJs_e, gRI, gRJ, gRs_eq, gRs_k, gRs_i, gRs_n, gZI, gZJ, gZR, pI_s, pJ_s, pV_s, pR_s, pR_n, oR_n, oR_s, decide_true, decide_false, not_true_eq_false, not_false_eq_true, decT, decF, Bool.true_eq_false, Bool.false_eq_true, z01, o01, z1f, z1f', zz, oo, b2i_0, b2i_n, b2i_t, b2i_f, Bool.not_true, Bool.not_false]
                rw [dn_m1]
                exact e1
              · obtain ⟨y1, y2, y3⟩ := m_setTells hr hk (p := p) (by omega) (nI t)
                rw [upd_upd] at y1
                obtain ⟨w2, b1, b2, b3, b4⟩ := m_goOn y1 y2 hD hS hts n (by omega)
                obtain ⟨w3, c3, c4, c5, c6⟩ := m_laysBack b2 b3
                obtain ⟨w4, e1, e2, e3, e4⟩ := i2 w3 (nI t) c4 c5
                have g : gI w2 50 0 (47 + p) = nI (own d p) := by rw [b2.1.2.2.1 p (by omega)]; exact o1
                refine ⟨w4, ?_, e2, e3, ((y3.trans (b4.mono (fun κ i k q => by unfold PMn at q; unfold  PQm; omega))).trans (c6.mono (fun κ i k q => by unfold P50s at q; unfold  PQm; omega))).trans e4⟩
                rw [e_X12_most_60]
                simp (disch := omega) only [dn, e_X12_most_65, e_X12_most_70, b1, g, m_isBurnt b2.2.2.1 (k := own d p) (by omega), hg, e_X12_most_106, c3, true_and, and_true, false_and, and_false, beq_t, beq_f, eqN_t, eqN_f, eqL_t, eqL_f, nm1, nm2, nm1', nm2', m1z, m2z, zm1, zm2, m12, m21, lg_cmp_ge, lg_cmp_le, lg_cmp_gt, lg_cmp_lt, lg_cmp_eq, oob, oobL, neg0, negL0, natle_f, or_false, false_or, true_or, or_true, or_self, cl, clL, le_t, le_f, lt_t, lt_f, leL_t, leL_f, ltL_t, ltL_f, leM_t, leM_f, ltM_t, ltM_f, leO_t, leO_f, cond_true, cond_false, Option.bind_some, Option.bind_none, if_false, if_true, nI_1, aL1, aL2, mL1, mL2, nI_add, pk_mul, pk_m1, sL1, dL1, pk_sub, m1p1, gIs_eq, gIs_k, gIs_i, gIs_n, gIs_e, gIJ, gIR, gJI, gJR, gJs_eq, gJs_k, gJs_n, gJs_e, gRI, gRJ, gRs_eq, gRs_k, gRs_i, gRs_n, gZI, gZJ, gZR, pI_s, pJ_s, pV_s, pR_s, pR_n, oR_n, oR_s, decide_true, decide_false, not_true_eq_false, not_false_eq_true, decT, decF, Bool.true_eq_false, Bool.false_eq_true, z01, o01, z1f, z1f', zz, oo, b2i_0, b2i_n, b2i_t, b2i_f, Bool.not_true, Bool.not_false]
                rw [dn_m1]
                exact e1
            · refine ⟨nI t, fun w hC => ?_, fun w v hr hk => ?_⟩
              · obtain ⟨w1, a1, a2, a3⟩ := c_start hC hO
                rw [hr] at a2
                obtain ⟨w2, b1, b2, b3⟩ := c_nowTells a2 (p := p) (by omega) (nI t)
                obtain ⟨w3, d1, d2, d3⟩ := c_stays b2 hD hS hts n (by omega) (k := own d p) (by omega) hb
                refine ⟨w3, ?_, (a3.trans b3).trans d2⟩
                rw [e_X11_most_50]
                simp (disch := omega) only [dn, e_X11_most_55, a1, b1, d1, hg, e_X11_most_78, true_and, and_true, false_and, and_false, beq_t, beq_f, eqN_t, eqN_f, eqL_t, eqL_f, nm1, nm2, nm1', nm2', m1z, m2z, zm1, zm2, m12, m21, lg_cmp_ge, lg_cmp_le, lg_cmp_gt, lg_cmp_lt, lg_cmp_eq, oob, oobL, neg0, negL0, natle_f, or_false, false_or, true_or, or_true, or_self, cl, clL, le_t, le_f, lt_t, lt_f, leL_t, leL_f, ltL_t, ltL_f, leM_t, leM_f, ltM_t, ltM_f, leO_t, leO_f, cond_true, cond_false, Option.bind_some, Option.bind_none, if_false, if_true, nI_1, aL1, aL2, mL1, mL2, nI_add, pk_mul, pk_m1, sL1, dL1, pk_sub, m1p1, gIs_eq, gIs_k, gIs_i, gIs_n, gIs_e, gIJ, gIR, gJI, gJR, gJs_eq, gJs_k, gJs_n, gJs_e, gRI, gRJ, gRs_eq, gRs_k, gRs_i, gRs_n, gZI, gZJ, gZR, pI_s, pJ_s, pV_s, pR_s, pR_n, oR_n, oR_s, decide_true, decide_false, not_true_eq_false, not_false_eq_true, decT, decF, Bool.true_eq_false, Bool.false_eq_true, z01, o01, z1f, z1f', zz, oo, b2i_0, b2i_n, b2i_t, b2i_f, Bool.not_true, Bool.not_false]
              · obtain ⟨y1, y2, y3⟩ := m_setTells hr hk (p := p) (by omega) (nI t)
                rw [upd_upd] at y1
                obtain ⟨w2, b1, b2, b3, b4⟩ := m_goOn y1 y2 hD hS hts n (by omega)
                obtain ⟨w3, c3, c4, c5, c6⟩ := m_laysBack b2 b3
                have g : gI w2 50 0 (47 + p) = nI (own d p) := by rw [b2.1.2.2.1 p (by omega)]; exact o1
                obtain ⟨z1, z2, z3⟩ := m_setTells c4 c5 (p := p) (by omega) (tlS d p)
                rw [upd_upd, upd_same] at z1
                refine ⟨_, ?_, z1, z2, ((y3.trans (b4.mono (fun κ i k q => by unfold PMn at q; unfold  PQm; omega))).trans (c6.mono (fun κ i k q => by unfold P50s at q; unfold  PQm; omega))).trans z3⟩
                have fin : q_X12_most_60 (nI p) (nI n) (tlS d p) (nI t) (dn t) w3 = some (some (.inl (.int (nI t))), sI w3 50 0 (52 + p) (tlS d p)) := by
                  rw [e_X12_most_60]
                  cases t with
                  | zero => simp (disch := omega) only [dn, e_X12_most_116, true_and, and_true, false_and, and_false, beq_t, beq_f, eqN_t, eqN_f, eqL_t, eqL_f, nm1, nm2, nm1', nm2', m1z, m2z, zm1, zm2, m12, m21, lg_cmp_ge, lg_cmp_le, lg_cmp_gt, lg_cmp_lt, lg_cmp_eq, oob, oobL, neg0, negL0, natle_f, or_false, false_or, true_or, or_true, or_self, cl, clL, le_t, le_f, lt_t, lt_f, leL_t, leL_f, ltL_t, ltL_f, leM_t, leM_f, ltM_t, ltM_f, leO_t, leO_f, cond_true, cond_false, Option.bind_some, Option.bind_none, if_false, if_true, nI_1, aL1, aL2, mL1, mL2, nI_add, pk_mul, pk_m1, sL1, dL1, pk_sub, m1p1, gIs_eq, gIs_k, gIs_i, gIs_n, gIs_e, gIJ, gIR, gJI, gJR, gJs_eq, gJs_k, gJs_n, gJs_e, gRI, gRJ, gRs_eq, gRs_k, gRs_i, gRs_n, gZI, gZJ, gZR, pI_s, pJ_s, pV_s, pR_s, pR_n, oR_n, oR_s, decide_true, decide_false, not_true_eq_false, not_false_eq_true, decT, decF, Bool.true_eq_false, Bool.false_eq_true, z01, o01, z1f, z1f', zz, oo, b2i_0, b2i_n, b2i_t, b2i_f, Bool.not_true, Bool.not_false]
                  | succ t => simp (disch := omega) only [dn, e_X12_most_65, e_X12_most_116, true_and, and_true, false_and, and_false, beq_t, beq_f, eqN_t, eqN_f, eqL_t, eqL_f, nm1, nm2, nm1', nm2', m1z, m2z, zm1, zm2, m12, m21, lg_cmp_ge, lg_cmp_le, lg_cmp_gt, lg_cmp_lt, lg_cmp_eq, oob, oobL, neg0, negL0, natle_f, or_false, false_or, true_or, or_true, or_self, cl, clL, le_t, le_f, lt_t, lt_f, leL_t, leL_f, ltL_t, ltL_f, leM_t, leM_f, ltM_t, ltM_f, leO_t, leO_f, cond_true, cond_false, Option.bind_some, Option.bind_none, if_false, if_true, nI_1, aL1, aL2, mL1, mL2, nI_add, pk_mul, pk_m1, sL1, dL1, pk_sub, m1p1, gIs_eq, gIs_k, gIs_i, gIs_n, gIs_e, gIJ, gIR, gJI, gJR, gJs_eq, gJs_k, gJs_n, gJs_e, gRI, gRJ, gRs_eq, gRs_k, gRs_i, gRs_n, gZI, gZJ, gZR, pI_s, pJ_s, pV_s, pR_s, pR_n, oR_n, oR_s, decide_true, decide_false, not_true_eq_false, not_false_eq_true, decT, decF, Bool.true_eq_false, Bool.false_eq_true, z01, o01, z1f, z1f', zz, oo, b2i_0, b2i_n, b2i_t, b2i_f, Bool.not_true, Bool.not_false]
                rw [e_X12_most_60]
                simp (disch := omega) only [dn, e_X12_most_65, e_X12_most_70, b1, g, m_isBurnt b2.2.2.1 (k := own d p) (by omega), hg, e_X12_most_102, e_X12_most_106, c3, true_and, and_true, false_and, and_false, beq_t, beq_f, eqN_t, eqN_f, eqL_t, eqL_f, nm1, nm2, nm1', nm2', m1z, m2z, zm1, zm2, m12, m21, lg_cmp_ge, lg_cmp_le, lg_cmp_gt, lg_cmp_lt, lg_cmp_eq, oob, oobL, neg0, negL0, natle_f, or_false, false_or, true_or, or_true, or_self, cl, clL, le_t, le_f, lt_t, lt_f, leL_t, leL_f, ltL_t, ltL_f, leM_t, leM_f, ltM_t, ltM_f, leO_t, leO_f, cond_true, cond_false, Option.bind_some, Option.bind_none, if_false, if_true, nI_1, aL1, aL2, mL1, mL2, nI_add, pk_mul, pk_m1, sL1, dL1, pk_sub, m1p1, gIs_eq, gIs_k, gIs_i, gIs_n, gIs_e, gIJ, gIR, gJI, gJR, gJs_eq, gJs_k, gJs_n, gJs_e, gRI, gRJ, gRs_eq, gRs_k, gRs_i, gRs_n, gZI, gZJ, gZR, pI_s, pJ_s, pV_s, pR_s, pR_n, oR_n, oR_s, decide_true, decide_false, not_true_eq_false, not_false_eq_true, decT, decF, Bool.true_eq_false, Bool.false_eq_true, z01, o01, z1f, z1f', zz, oo, b2i_0, b2i_n, b2i_t, b2i_f, Bool.not_true, Bool.not_false]
                rw [dn_m1]
                exact fin
        obtain ⟨a, i1, i2⟩ := key 10 (by omega)
        refine ⟨a, fun w hC => ?_, fun w hM => ?_⟩
        · obtain ⟨w1, a1, a2⟩ := i1 w hC
          have k1 := c_isPerson hC.1 hD (nI p)
          rw [decT hx] at k1
          obtain ⟨⟨jd, x1, x2⟩, ⟨x3, _⟩, _⟩ := hC
          have g : gI w 16 jd p = nI (own d p) := by rw [(x2.2.2.1 p (by omega)).1]; exact o1
          have g2 := (x3.2 (own d p) (by omega)).2.2.1
          refine ⟨w1, ?_, a2⟩
          have a1 : q_X11_most_50 (nI p) (nI n) (nI (own d p)) 9 w = some (some (.inl (.int a)), w1) := a1
          rw [f_X11_most, e_X11_most_0]
          simp (disch := omega) only [k1, e_X11_most_8, p_within, c1, e_X11_most_20, x1, g, g2, hb, e_X11_most_46, a1, true_and, and_true, false_and, and_false, beq_t, beq_f, eqN_t, eqN_f, eqL_t, eqL_f, nm1, nm2, nm1', nm2', m1z, m2z, zm1, zm2, m12, m21, lg_cmp_ge, lg_cmp_le, lg_cmp_gt, lg_cmp_lt, lg_cmp_eq, oob, oobL, neg0, negL0, natle_f, or_false, false_or, true_or, or_true, or_self, cl, clL, le_t, le_f, lt_t, lt_f, leL_t, leL_f, ltL_t, ltL_f, leM_t, leM_f, ltM_t, ltM_f, leO_t, leO_f, cond_true, cond_false, Option.bind_some, Option.bind_none, if_false, if_true, nI_1, aL1, aL2, mL1, mL2, nI_add, pk_mul, pk_m1, sL1, dL1, pk_sub, m1p1, gIs_eq, gIs_k, gIs_i, gIs_n, gIs_e, gIJ, gIR, gJI, gJR, gJs_eq, gJs_k, gJs_n, gJs_e, gRI, gRJ, gRs_eq, gRs_k, gRs_i, gRs_n, gZI, gZJ, gZR, pI_s, pJ_s, pV_s, pR_s, pR_n, oR_n, oR_s, decide_true, decide_false, not_true_eq_false, not_false_eq_true, decT, decF, Bool.true_eq_false, Bool.false_eq_true, z01, o01, z1f, z1f', zz, oo, b2i_0, b2i_n, b2i_t, b2i_f, Bool.not_true, Bool.not_false]
        · obtain ⟨w0, a1, a2, a3, a4⟩ := m_keeps (hM.run hO) hM.2.2.2.2.1
          rw [hr, ← upd_same (tlS d) p] at a2
          obtain ⟨w1, b1, b2, b3, b4⟩ := i2 w0 _ a2 a3
          have k1 := m_isPerson hM.1 hD (nI p)
          rw [decT hx] at k1
          have g : gI w 50 0 (47 + p) = nI (own d p) := by rw [hM.1.2.2.1 p (by omega)]; exact o1
          have g2 := hM.2.1 p (by omega)
          have hF := a4.trans b4
          refine ⟨w1, ?_, hM.of_run hF b2 b3, hF⟩
          have b1 : q_X12_most_60 (nI p) (nI n) (tlS d p) (-2) 9 w0 = some (some (.inl (.int a)), w1) := b1
          rw [f_X12_most, e_X12_most_0]
          simp (disch := omega) only [k1, e_X12_most_8, g, m_isBurnt hM.2.2.1 (k := own d p) (by omega), hb, e_X12_most_24, p_in_1_60, c1, e_X12_most_38, a1, g2, b1, true_and, and_true, false_and, and_false, beq_t, beq_f, eqN_t, eqN_f, eqL_t, eqL_f, nm1, nm2, nm1', nm2', m1z, m2z, zm1, zm2, m12, m21, lg_cmp_ge, lg_cmp_le, lg_cmp_gt, lg_cmp_lt, lg_cmp_eq, oob, oobL, neg0, negL0, natle_f, or_false, false_or, true_or, or_true, or_self, cl, clL, le_t, le_f, lt_t, lt_f, leL_t, leL_f, ltL_t, ltL_f, leM_t, leM_f, ltM_t, ltM_f, leO_t, leO_f, cond_true, cond_false, Option.bind_some, Option.bind_none, if_false, if_true, nI_1, aL1, aL2, mL1, mL2, nI_add, pk_mul, pk_m1, sL1, dL1, pk_sub, m1p1, gIs_eq, gIs_k, gIs_i, gIs_n, gIs_e, gIJ, gIR, gJI, gJR, gJs_eq, gJs_k, gJs_n, gJs_e, gRI, gRJ, gRs_eq, gRs_k, gRs_i, gRs_n, gZI, gZJ, gZR, pI_s, pJ_s, pV_s, pR_s, pR_n, oR_n, oR_s, decide_true, decide_false, not_true_eq_false, not_false_eq_true, decT, decF, Bool.true_eq_false, Bool.false_eq_true, z01, o01, z1f, z1f', zz, oo, b2i_0, b2i_n, b2i_t, b2i_f, Bool.not_true, Bool.not_false]
    · refine ⟨-1, fun w hC => ⟨w, ?_, Fr.refl _ _⟩, fun w hM => ⟨w, ?_, hM, Fr.refl _ _⟩⟩
      · have k1 := c_isPerson hC.1 hD (nI p)
        rw [decT hx] at k1
        rw [f_X11_most, e_X11_most_0]
        simp (disch := omega) only [k1, e_X11_most_8, p_within, c1, e_X11_most_18, true_and, and_true, false_and, and_false, beq_t, beq_f, eqN_t, eqN_f, eqL_t, eqL_f, nm1, nm2, nm1', nm2', m1z, m2z, zm1, zm2, m12, m21, lg_cmp_ge, lg_cmp_le, lg_cmp_gt, lg_cmp_lt, lg_cmp_eq, oob, oobL, neg0, negL0, natle_f, or_false, false_or, true_or, or_true, or_self, cl, clL, le_t, le_f, lt_t, lt_f, leL_t, leL_f, ltL_t, ltL_f, leM_t, leM_f, ltM_t, ltM_f, leO_t, leO_f, cond_true, cond_false, Option.bind_some, Option.bind_none, if_false, if_true, nI_1, aL1, aL2, mL1, mL2, nI_add, pk_mul, pk_m1, sL1, dL1, pk_sub, m1p1, gIs_eq, gIs_k, gIs_i, gIs_n, gIs_e, gIJ, gIR, gJI, gJR, gJs_eq, gJs_k, gJs_n, gJs_e, gRI, gRJ, gRs_eq, gRs_k, gRs_i, gRs_n, gZI, gZJ, gZR, pI_s, pJ_s, pV_s, pR_s, pR_n, oR_n, oR_s, decide_true, decide_false, not_true_eq_false, not_false_eq_true, decT, decF, Bool.true_eq_false, Bool.false_eq_true, z01, o01, z1f, z1f', zz, oo, b2i_0, b2i_n, b2i_t, b2i_f, Bool.not_true, Bool.not_false]
      · have k1 := m_isPerson hM.1 hD (nI p)
        rw [decT hx] at k1
        have g : gI w 50 0 (47 + p) = nI (own d p) := by rw [hM.1.2.2.1 p (by omega)]; exact o1
        rw [f_X12_most, e_X12_most_0]
        by_cases hb : s.2.2.2.1 (own d p) = -2
        · simp (disch := omega) only [k1, e_X12_most_8, g, m_isBurnt hM.2.2.1 (k := own d p) (by omega), hb, e_X12_most_36, true_and, and_true, false_and, and_false, beq_t, beq_f, eqN_t, eqN_f, eqL_t, eqL_f, nm1, nm2, nm1', nm2', m1z, m2z, zm1, zm2, m12, m21, lg_cmp_ge, lg_cmp_le, lg_cmp_gt, lg_cmp_lt, lg_cmp_eq, oob, oobL, neg0, negL0, natle_f, or_false, false_or, true_or, or_true, or_self, cl, clL, le_t, le_f, lt_t, lt_f, leL_t, leL_f, ltL_t, ltL_f, leM_t, leM_f, ltM_t, ltM_f, leO_t, leO_f, cond_true, cond_false, Option.bind_some, Option.bind_none, if_false, if_true, nI_1, aL1, aL2, mL1, mL2, nI_add, pk_mul, pk_m1, sL1, dL1, pk_sub, m1p1, gIs_eq, gIs_k, gIs_i, gIs_n, gIs_e, gIJ, gIR, gJI, gJR, gJs_eq, gJs_k, gJs_n, gJs_e, gRI, gRJ, gRs_eq, gRs_k, gRs_i, gRs_n, gZI, gZJ, gZR, pI_s, pJ_s, pV_s, pR_s, pR_n, oR_n, oR_s, decide_true, decide_false, not_true_eq_false, not_false_eq_true, decT, decF, Bool.true_eq_false, Bool.false_eq_true, z01, o01, z1f, z1f', zz, oo, b2i_0, b2i_n, b2i_t, b2i_f, Bool.not_true, Bool.not_false]
        · simp (disch := omega) only [k1, e_X12_most_8, g, m_isBurnt hM.2.2.1 (k := own d p) (by omega), hb, e_X12_most_24, p_in_1_60, c1, e_X12_most_36, true_and, and_true, false_and, and_false, beq_t, beq_f, eqN_t, eqN_f, eqL_t, eqL_f, nm1, nm2, nm1', nm2', m1z, m2z, zm1, zm2, m12, m21, lg_cmp_ge, lg_cmp_le, lg_cmp_gt, lg_cmp_lt, lg_cmp_eq, oob, oobL, neg0, negL0, natle_f, or_false, false_or, true_or, or_true, or_self, cl, clL, le_t, le_f, lt_t, lt_f, leL_t, leL_f, ltL_t, ltL_f, leM_t, leM_f, ltM_t, ltM_f, leO_t, leO_f, cond_true, cond_false, Option.bind_some, Option.bind_none, if_false, if_true, nI_1, aL1, aL2, mL1, mL2, nI_add, pk_mul, pk_m1, sL1, dL1, pk_sub, m1p1, gIs_eq, gIs_k, gIs_i, gIs_n, gIs_e, gIJ, gIR, gJI, gJR, gJs_eq, gJs_k, gJs_n, gJs_e, gRI, gRJ, gRs_eq, gRs_k, gRs_i, gRs_n, gZI, gZJ, gZR, pI_s, pJ_s, pV_s, pR_s, pR_n, oR_n, oR_s, decide_true, decide_false, not_true_eq_false, not_false_eq_true, decT, decF, Bool.true_eq_false, Bool.false_eq_true, z01, o01, z1f, z1f', zz, oo, b2i_0, b2i_n, b2i_t, b2i_f, Bool.not_true, Bool.not_false]
  · refine ⟨-1, fun w hC => ⟨w, ?_, Fr.refl _ _⟩, fun w hM => ⟨w, ?_, hM, Fr.refl _ _⟩⟩
    · rw [f_X11_most, e_X11_most_0, c_isPerson hC.1 hD, decF hx]
      simp (disch := omega) only [e_X11_most_18, true_and, and_true, false_and, and_false, beq_t, beq_f, eqN_t, eqN_f, eqL_t, eqL_f, nm1, nm2, nm1', nm2', m1z, m2z, zm1, zm2, m12, m21, lg_cmp_ge, lg_cmp_le, lg_cmp_gt, lg_cmp_lt, lg_cmp_eq, oob, oobL, neg0, negL0, natle_f, or_false, false_or, true_or, or_true, or_self, cl, clL, le_t, le_f, lt_t, lt_f, leL_t, leL_f, ltL_t, ltL_f, leM_t, leM_f, ltM_t, ltM_f, leO_t, leO_f, cond_true, cond_false, Option.bind_some, Option.bind_none, if_false, if_true, nI_1, aL1, aL2, mL1, mL2, nI_add, pk_mul, pk_m1, sL1, dL1, pk_sub, m1p1, gIs_eq, gIs_k, gIs_i, gIs_n, gIs_e, gIJ, gIR, gJI, gJR, gJs_eq, gJs_k, gJs_n, gJs_e, gRI, gRJ, gRs_eq, gRs_k, gRs_i, gRs_n, gZI, gZJ, gZR, pI_s, pJ_s, pV_s, pR_s, pR_n, oR_n, oR_s, decide_true, decide_false, not_true_eq_false, not_false_eq_true, decT, decF, Bool.true_eq_false, Bool.false_eq_true, z01, o01, z1f, z1f', zz, oo, b2i_0, b2i_n, b2i_t, b2i_f, Bool.not_true, Bool.not_false]
    · rw [f_X12_most, e_X12_most_0, m_isPerson hM.1 hD, decF hx]
      simp (disch := omega) only [e_X12_most_36, true_and, and_true, false_and, and_false, beq_t, beq_f, eqN_t, eqN_f, eqL_t, eqL_f, nm1, nm2, nm1', nm2', m1z, m2z, zm1, zm2, m12, m21, lg_cmp_ge, lg_cmp_le, lg_cmp_gt, lg_cmp_lt, lg_cmp_eq, oob, oobL, neg0, negL0, natle_f, or_false, false_or, true_or, or_true, or_self, cl, clL, le_t, le_f, lt_t, lt_f, leL_t, leL_f, ltL_t, ltL_f, leM_t, leM_f, ltM_t, ltM_f, leO_t, leO_f, cond_true, cond_false, Option.bind_some, Option.bind_none, if_false, if_true, nI_1, aL1, aL2, mL1, mL2, nI_add, pk_mul, pk_m1, sL1, dL1, pk_sub, m1p1, gIs_eq, gIs_k, gIs_i, gIs_n, gIs_e, gIJ, gIR, gJI, gJR, gJs_eq, gJs_k, gJs_n, gJs_e, gRI, gRJ, gRs_eq, gRs_k, gRs_i, gRs_n, gZI, gZJ, gZR, pI_s, pJ_s, pV_s, pR_s, pR_n, oR_n, oR_s, decide_true, decide_false, not_true_eq_false, not_false_eq_true, decT, decF, Bool.true_eq_false, Bool.false_eq_true, z01, o01, z1f, z1f', zz, oo, b2i_0, b2i_n, b2i_t, b2i_f, Bool.not_true, Bool.not_false]
