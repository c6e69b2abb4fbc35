/-! ===== queries, pair by pair ===== -/
theorem p_in_0_100 (x : Int32) (w : XW) : F_X12_in [.inl (.long x.toInt64), .inl (.long 0), .inl (.long 100)] w = some (b2i (decide (¬ x < 0 ∧ ¬ 100 < x)), w) := by
  have := p_in x 0 100 w
  rw [show ((0 : Int32)).toInt64 = 0 from by decide, show ((100 : Int32)).toInt64 = 100 from by decide] at this
  exact this
theorem p_in_0_2 (x : Int32) (w : XW) : F_X12_in [.inl (.long x.toInt64), .inl (.long 0), .inl (.long 2)] w = some (b2i (decide (¬ x < 0 ∧ ¬ 2 < x)), w) := by
  have := p_in x 0 2 w
  rw [show ((0 : Int32)).toInt64 = 0 from by decide, show ((2 : Int32)).toInt64 = 2 from by decide] at this
  exact this
theorem p_in_0_1 (x : Int32) (w : XW) : F_X12_in [.inl (.long x.toInt64), .inl (.long 0), .inl (.long 1)] w = some (b2i (decide (¬ x < 0 ∧ ¬ 1 < x)), w) := by
  have := p_in x 0 1 w
  rw [show ((0 : Int32)).toInt64 = 0 from by decide, show ((1 : Int32)).toInt64 = 1 from by decide] at this
  exact this
theorem p_in_1_40 (x : Int32) (w : XW) : F_X12_in [.inl (.long x.toInt64), .inl (.long 1), .inl (.long 40)] w = some (b2i (decide (¬ x < 1 ∧ ¬ 40 < x)), w) := by
  have := p_in x 1 40 w
  rw [show ((1 : Int32)).toInt64 = 1 from by decide, show ((40 : Int32)).toInt64 = 40 from by decide] at this
  exact this
theorem p_in_1_60 (x : Int32) (w : XW) : F_X12_in [.inl (.long x.toInt64), .inl (.long 1), .inl (.long 60)] w = some (b2i (decide (¬ x < 1 ∧ ¬ 60 < x)), w) := by
  have := p_in x 1 60 w
  rw [show ((1 : Int32)).toInt64 = 1 from by decide, show ((60 : Int32)).toInt64 = 60 from by decide] at this
  exact this
theorem p_in_0_60 (x : Int32) (w : XW) : F_X12_in [.inl (.long x.toInt64), .inl (.long 0), .inl (.long 60)] w = some (b2i (decide (¬ x < 0 ∧ ¬ 60 < x)), w) := by
  have := p_in x 0 60 w
  rw [show ((0 : Int32)).toInt64 = 0 from by decide, show ((60 : Int32)).toInt64 = 60 from by decide] at this
  exact this
theorem p_in_0_9999 (x : Int32) (w : XW) : F_X12_in [.inl (.long x.toInt64), .inl (.long 0), .inl (.long 9999)] w = some (b2i (decide (¬ x < 0 ∧ ¬ 9999 < x)), w) := by
  have := p_in x 0 9999 w
  rw [show ((0 : Int32)).toInt64 = 0 from by decide, show ((9999 : Int32)).toInt64 = 9999 from by decide] at this
  exact this
theorem p_in_1_20 (x : Int32) (w : XW) : F_X12_in [.inl (.long x.toInt64), .inl (.long 1), .inl (.long 20)] w = some (b2i (decide (¬ x < 1 ∧ ¬ 20 < x)), w) := by
  have := p_in x 1 20 w
  rw [show ((1 : Int32)).toInt64 = 1 from by decide, show ((20 : Int32)).toInt64 = 20 from by decide] at this
  exact this
theorem p_in_1_10 (x : Int32) (w : XW) : F_X12_in [.inl (.long x.toInt64), .inl (.long 1), .inl (.long 10)] w = some (b2i (decide (¬ x < 1 ∧ ¬ 10 < x)), w) := by
  have := p_in x 1 10 w
  rw [show ((1 : Int32)).toInt64 = 1 from by decide, show ((10 : Int32)).toInt64 = 10 from by decide] at this
  exact this
theorem p_in_0_3 (x : Int32) (w : XW) : F_X12_in [.inl (.long x.toInt64), .inl (.long 0), .inl (.long 3)] w = some (b2i (decide (¬ x < 0 ∧ ¬ 3 < x)), w) := by
  have := p_in x 0 3 w
  rw [show ((0 : Int32)).toInt64 = 0 from by decide, show ((3 : Int32)).toInt64 = 3 from by decide] at this
  exact this
theorem p_in_m1_5 (x : Int32) (w : XW) : F_X12_in [.inl (.long x.toInt64), .inl (.long (-1)), .inl (.long 5)] w = some (b2i (decide (¬ x < -1 ∧ ¬ 5 < x)), w) := by
  have := p_in x (-1) 5 w
  rw [show ((-1 : Int32)).toInt64 = -1 from by decide, show ((5 : Int32)).toInt64 = 5 from by decide] at this
  exact this
theorem rngL {x : Int32} (a b : Nat) (ha : a < 60000) (hb : b < 60000) (h : ¬ x < nI a ∧ ¬ nI b < x) : ∃ j, a ≤ j ∧ j ≤ b ∧ x = nI j := by
  have h0 : (0 : Int32).toInt = 0 := by decide
  have hn : ¬ x < 0 := fun q => h.1 (by
    rw [Int32.lt_iff_toInt_lt] at q ⊢
    rw [nI_toInt (by omega)]
    omega)
  obtain ⟨j, hj, rfl⟩ := nI_of hn
  refine ⟨j, ?_, ?_, rfl⟩
  · rcases Nat.lt_or_ge j a with q | q
    · exact absurd (nI_lt q (by omega)) h.1
    · exact q
  · rcases Nat.lt_or_ge b j with q | q
    · exact absurd (nI_lt q hj) h.2
    · exact q
def QOk (d : Dl) (s : Sc) (rs : List Rl) (f : Int32) (FC FM : XW → Option (Int32 × XW)) : Prop := ∃ a, (∀ w, CX w d s rs f → ∃ w', FC w = some (a, w') ∧ Fr PQc w w') ∧ (∀ w, MX w d s rs f → ∃ w', FM w = some (a, w') ∧ MX w' d s rs f ∧ Fr PQm w w')
def QOkk (d : Dl) (s : Sc) (rs : List Rl) (f : Int32) (FC FM : XW → Option (Int32 × XW)) : Prop := ∃ a, (∀ w, CX w d s rs f → ∃ w', FC w = some (a, w') ∧ Fr PQk w w') ∧ (∀ w, MX w d s rs f → ∃ w', FM w = some (a, w') ∧ MX w' d s rs f ∧ Fr PQM w w')
theorem QOk.k {d : Dl} {s : Sc} {rs : List Rl} {f : Int32} {FC FM : XW → Option (Int32 × XW)} (h : QOk d s rs f FC FM) : QOkk d s rs f FC FM := by
  obtain ⟨a, h1, h2⟩ := h
  refine ⟨a, fun w hC => ?_, fun w hM => ?_⟩
  · obtain ⟨w', x1, x2⟩ := h1 w hC
    exact ⟨w', x1, x2.k⟩
  · obtain ⟨w', x1, x2, x3⟩ := h2 w hM
    exact ⟨w', x1, x2, x3.M⟩
theorem inK {n : Nat} (hn : n < 60000) {x : Int32} (h : ¬ x < 0 ∧ ¬ nI n ≤ x) : ∃ j, j < n ∧ x = nI j := by
  rcases pk_ix x (n := n) (by omega) with q | q | q
  · exact absurd q h.1
  · exact absurd q h.2
  · exact q
theorem q_keep {d : Dl} {s : Sc} {rs : List Rl} {f : Int32} (hO : OX d s rs f) (x y : Int32) : QOk d s rs f (F_X11_keep [.inr (10, 0), .inl (.int x), .inl (.int y)]) (F_X12_keep [.inr (11, 0), .inl (.int x), .inl (.int y)]) := by
  have hD := hO.1.1
  have h6 := hD.1.2
  by_cases hx : (¬ x < 0 ∧ ¬ nI (kn d) ≤ x)
  · obtain ⟨k, hk, rfl⟩ := inK (by omega) hx
    by_cases hy : (¬ y < 0 ∧ ¬ nI 6 ≤ y)
    · obtain ⟨q, hq, rfl⟩ := inK (by omega) hy
      refine ⟨if q = 0 then d.2.1 k else if q = 1 then d.2.2.1 k else if q = 2 then s.2.1 k else if q = 3 then s.2.2.1 k else if q = 4 then s.2.2.2.1 k else s.2.2.2.2 k, fun w hC => ⟨w, ?_, Fr.refl _ _⟩, fun w hM => ⟨w, ?_, hM, Fr.refl _ _⟩⟩
      · have k1 := c_isKeep hC.1 hD (nI k)
        rw [decT hx] at k1
        obtain ⟨⟨jd, h1, h2⟩, ⟨h3, h4⟩, h5⟩ := hC
        have x1 := h3.2 k (by omega)
        have x2 := h2.2.1 k (by omega)
        rw [f_X11_keep, e_X11_keep_0]
        have : q = 0 ∨ q = 1 ∨ q = 2 ∨ q = 3 ∨ q = 4 ∨ q = 5 := by omega
        rcases this with rfl | rfl | rfl | rfl | rfl | rfl <;> simp (disch := omega) only [k1, e_X11_keep_11, h1, e_X11_keep_52, e_X11_keep_62, e_X11_keep_72, e_X11_keep_82, e_X11_keep_92, e_X11_keep_102, x1, x2, true_and, and_true, false_and, and_false, beq_t, beq_f, eqN_t, eqN_f, eqL_t, eqL_f, nm1, nm2, nm1', nm2', m1z, m2z, zm1, zm2, m12, m21, lg_cmp_ge, lg_cmp_le, lg_cmp_gt, lg_cmp_lt, lg_cmp_eq, oob, oobL, neg0, negL0, natle_f, or_false, false_or, true_or, or_true, or_self, cl, clL, le_t, le_f, lt_t, lt_f, leL_t, leL_f, ltL_t, ltL_f, leM_t, leM_f, ltM_t, ltM_f, leO_t, leO_f, cond_true, cond_false, Option.bind_some, Option.bind_none, if_false, if_true, nI_1, aL1, aL2, mL1, mL2, nI_add, pk_mul, pk_m1, sL1, dL1, pk_sub, m1p1, gIs_eq, gIs_k, gIs_i, gIs_n, gIs_e, gIJ, gIR, gJI, gJR, gJs_eq, gJs_k, gJs_n, gJs_e, gRI, gRJ, gRs_eq, gRs_k, gRs_i, gRs_n, gZI, gZJ, gZR, pI_s, pJ_s, pV_s, pR_s, pR_n, oR_n, oR_s, decide_true, decide_false, not_true_eq_false, not_false_eq_true, decT, decF, Bool.true_eq_false, Bool.false_eq_true, z01, o01, z1f, z1f', zz, oo, b2i_0, b2i_n, b2i_t, b2i_f, Bool.not_true, Bool.not_false] <;> rfl
      · have k1 := m_isKeep hM.1 hD (nI k)
        rw [decT hx] at k1
        have x1 := hM.2.2.1
        have x2 := hM.1.2.1 k (by omega)
        rw [f_X12_keep, e_X12_keep_0]
        have : q = 0 ∨ q = 1 ∨ q = 2 ∨ q = 3 ∨ q = 4 ∨ q = 5 := by omega
        rcases this with rfl | rfl | rfl | rfl | rfl | rfl <;> simp (disch := omega) only [k1, e_X12_keep_11, e_X12_keep_52, e_X12_keep_62, e_X12_keep_72, e_X12_keep_78, e_X12_keep_84, e_X12_keep_90, x2, m_fullOf x1 (k := k) (by omega), m_heatOf x1 (k := k) (by omega), m_whereIs x1 (k := k) (by omega), m_besideOf x1 (k := k) (by omega), true_and, and_true, false_and, and_false, beq_t, beq_f, eqN_t, eqN_f, eqL_t, eqL_f, nm1, nm2, nm1', nm2', m1z, m2z, zm1, zm2, m12, m21, lg_cmp_ge, lg_cmp_le, lg_cmp_gt, lg_cmp_lt, lg_cmp_eq, oob, oobL, neg0, negL0, natle_f, or_false, false_or, true_or, or_true, or_self, cl, clL, le_t, le_f, lt_t, lt_f, leL_t, leL_f, ltL_t, ltL_f, leM_t, leM_f, ltM_t, ltM_f, leO_t, leO_f, cond_true, cond_false, Option.bind_some, Option.bind_none, if_false, if_true, nI_1, aL1, aL2, mL1, mL2, nI_add, pk_mul, pk_m1, sL1, dL1, pk_sub, m1p1, gIs_eq, gIs_k, gIs_i, gIs_n, gIs_e, gIJ, gIR, gJI, gJR, gJs_eq, gJs_k, gJs_n, gJs_e, gRI, gRJ, gRs_eq, gRs_k, gRs_i, gRs_n, gZI, gZJ, gZR, pI_s, pJ_s, pV_s, pR_s, pR_n, oR_n, oR_s, decide_true, decide_false, not_true_eq_false, not_false_eq_true, decT, decF, Bool.true_eq_false, Bool.false_eq_true, z01, o01, z1f, z1f', zz, oo, b2i_0, b2i_n, b2i_t, b2i_f, Bool.not_true, Bool.not_false] <;> rfl
    · have hn : ∀ c : Nat, c < 6 → (y == nI c) = false := fun c hc => beq_eq_false_iff_ne.mpr (fun q => hy (by rw [q]; exact ⟨nI_pos (by omega), nI_ge hc (by omega)⟩))
      have n0 : (y == 0) = false := hn 0 (by omega)
      have n1 : (y == 1) = false := hn 1 (by omega)
      have n2 : (y == 2) = false := hn 2 (by omega)
      have n3 : (y == 3) = false := hn 3 (by omega)
      have n4 : (y == 4) = false := hn 4 (by omega)
      have n5 : (y == 5) = false := hn 5 (by omega)
      refine ⟨-3, fun w hC => ⟨w, ?_, Fr.refl _ _⟩, fun w hM => ⟨w, ?_, hM, Fr.refl _ _⟩⟩
      · have k1 := c_isKeep hC.1 hD (nI k)
        rw [decT hx] at k1
        rw [f_X11_keep, e_X11_keep_0]
        simp (disch := omega) only [k1, e_X11_keep_11, n0, n1, n2, n3, n4, n5, e_X11_keep_112, true_and, and_true, false_and, and_false, beq_t, beq_f, eqN_t, eqN_f, eqL_t, eqL_f, nm1, nm2, nm1', nm2', m1z, m2z, zm1, zm2, m12, m21, lg_cmp_ge, lg_cmp_le, lg_cmp_gt, lg_cmp_lt, lg_cmp_eq, oob, oobL, neg0, negL0, natle_f, or_false, false_or, true_or, or_true, or_self, cl, clL, le_t, le_f, lt_t, lt_f, leL_t, leL_f, ltL_t, ltL_f, leM_t, leM_f, ltM_t, ltM_f, leO_t, leO_f, cond_true, cond_false, Option.bind_some, Option.bind_none, if_false, if_true, nI_1, aL1, aL2, mL1, mL2, nI_add, pk_mul, pk_m1, sL1, dL1, pk_sub, m1p1, gIs_eq, gIs_k, gIs_i, gIs_n, gIs_e, gIJ, gIR, gJI, gJR, gJs_eq, gJs_k, gJs_n, gJs_e, gRI, gRJ, gRs_eq, gRs_k, gRs_i, gRs_n, gZI, gZJ, gZR, pI_s, pJ_s, pV_s, pR_s, pR_n, oR_n, oR_s, decide_true, decide_false, not_true_eq_false, not_false_eq_true, decT, decF, Bool.true_eq_false, Bool.false_eq_true, z01, o01, z1f, z1f', zz, oo, b2i_0, b2i_n, b2i_t, b2i_f, Bool.not_true, Bool.not_false]
      · have k1 := m_isKeep hM.1 hD (nI k)
        rw [decT hx] at k1
        rw [f_X12_keep, e_X12_keep_0]
        simp (disch := omega) only [k1, e_X12_keep_11, n0, n1, n2, n3, n4, n5, e_X12_keep_96, true_and, and_true, false_and, and_false, beq_t, beq_f, eqN_t, eqN_f, eqL_t, eqL_f, nm1, nm2, nm1', nm2', m1z, m2z, zm1, zm2, m12, m21, lg_cmp_ge, lg_cmp_le, lg_cmp_gt, lg_cmp_lt, lg_cmp_eq, oob, oobL, neg0, negL0, natle_f, or_false, false_or, true_or, or_true, or_self, cl, clL, le_t, le_f, lt_t, lt_f, leL_t, leL_f, ltL_t, ltL_f, leM_t, leM_f, ltM_t, ltM_f, leO_t, leO_f, cond_true, cond_false, Option.bind_some, Option.bind_none, if_false, if_true, nI_1, aL1, aL2, mL1, mL2, nI_add, pk_mul, pk_m1, sL1, dL1, pk_sub, m1p1, gIs_eq, gIs_k, gIs_i, gIs_n, gIs_e, gIJ, gIR, gJI, gJR, gJs_eq, gJs_k, gJs_n, gJs_e, gRI, gRJ, gRs_eq, gRs_k, gRs_i, gRs_n, gZI, gZJ, gZR, pI_s, pJ_s, pV_s, pR_s, pR_n, oR_n, oR_s, decide_true, decide_false, not_true_eq_false, not_false_eq_true, decT, decF, Bool.true_eq_false, Bool.false_eq_true, z01, o01, z1f, z1f', zz, oo, b2i_0, b2i_n, b2i_t, b2i_f, Bool.not_true, Bool.not_false]
  · refine ⟨-3, fun w hC => ⟨w, ?_, Fr.refl _ _⟩, fun w hM => ⟨w, ?_, hM, Fr.refl _ _⟩⟩
    · rw [f_X11_keep, e_X11_keep_0, c_isKeep hC.1 hD, decF hx]
      simp (disch := omega) only [e_X11_keep_8, true_and, and_true, false_and, and_false, beq_t, beq_f, eqN_t, eqN_f, eqL_t, eqL_f, nm1, nm2, nm1', nm2', m1z, m2z, zm1, zm2, m12, m21, lg_cmp_ge, lg_cmp_le, lg_cmp_gt, lg_cmp_lt, lg_cmp_eq, oob, oobL, neg0, negL0, natle_f, or_false, false_or, true_or, or_true, or_self, cl, clL, le_t, le_f, lt_t, lt_f, leL_t, leL_f, ltL_t, ltL_f, leM_t, leM_f, ltM_t, ltM_f, leO_t, leO_f, cond_true, cond_false, Option.bind_some, Option.bind_none, if_false, if_true, nI_1, aL1, aL2, mL1, mL2, nI_add, pk_mul, pk_m1, sL1, dL1, pk_sub, m1p1, gIs_eq, gIs_k, gIs_i, gIs_n, gIs_e, gIJ, gIR, gJI, gJR, gJs_eq, gJs_k, gJs_n, gJs_e, gRI, gRJ, gRs_eq, gRs_k, gRs_i, gRs_n, gZI, gZJ, gZR, pI_s, pJ_s, pV_s, pR_s, pR_n, oR_n, oR_s, decide_true, decide_false, not_true_eq_false, not_false_eq_true, decT, decF, Bool.true_eq_false, Bool.false_eq_true, z01, o01, z1f, z1f', zz, oo, b2i_0, b2i_n, b2i_t, b2i_f, Bool.not_true, Bool.not_false]
    · rw [f_X12_keep, e_X12_keep_0, m_isKeep hM.1 hD, decF hx]
      simp (disch := omega) only [e_X12_keep_8, true_and, and_true, false_and, and_false, beq_t, beq_f, eqN_t, eqN_f, eqL_t, eqL_f, nm1, nm2, nm1', nm2', m1z, m2z, zm1, zm2, m12, m21, lg_cmp_ge, lg_cmp_le, lg_cmp_gt, lg_cmp_lt, lg_cmp_eq, oob, oobL, neg0, negL0, natle_f, or_false, false_or, true_or, or_true, or_self, cl, clL, le_t, le_f, lt_t, lt_f, leL_t, leL_f, ltL_t, ltL_f, leM_t, leM_f, ltM_t, ltM_f, leO_t, leO_f, cond_true, cond_false, Option.bind_some, Option.bind_none, if_false, if_true, nI_1, aL1, aL2, mL1, mL2, nI_add, pk_mul, pk_m1, sL1, dL1, pk_sub, m1p1, gIs_eq, gIs_k, gIs_i, gIs_n, gIs_e, gIJ, gIR, gJI, gJR, gJs_eq, gJs_k, gJs_n, gJs_e, gRI, gRJ, gRs_eq, gRs_k, gRs_i, gRs_n, gZI, gZJ, gZR, pI_s, pJ_s, pV_s, pR_s, pR_n, oR_n, oR_s, decide_true, decide_false, not_true_eq_false, not_false_eq_true, decT, decF, Bool.true_eq_false, Bool.false_eq_true, z01, o01, z1f, z1f', zz, oo, b2i_0, b2i_n, b2i_t, b2i_f, Bool.not_true, Bool.not_false]
theorem q_person {d : Dl} {s : Sc} {rs : List Rl} {f : Int32} (hO : OX d s rs f) (x y : Int32) : QOk d s rs f (F_X11_person [.inr (10, 0), .inl (.int x), .inl (.int y)]) (F_X12_person [.inr (11, 0), .inl (.int x), .inl (.int y)]) := by
  have hD := hO.1.1
  have h5 := hD.2.1.2
  by_cases hx : (¬ x < 0 ∧ ¬ nI (pn d) ≤ x)
  · by_cases hy : (¬ y < 0 ∧ ¬ 1 < y)
    · obtain ⟨p, hp, rfl⟩ := inK (by omega) hx
      obtain ⟨q, _, hq, rfl⟩ := rngL 0 1 (by omega) (by omega) hy
      refine ⟨if q = 0 then d.2.2.2.2.1 p else tlS d p, fun w hC => ⟨w, ?_, Fr.refl _ _⟩, fun w hM => ⟨w, ?_, hM, Fr.refl _ _⟩⟩
      · have k1 := c_isPerson hC.1 hD (nI p)
        rw [decT hx] at k1
        obtain ⟨⟨jd, h1, h2⟩, _⟩ := hC
        have x2 := h2.2.2.1 p (by omega)
        have k2 := p_within (nI q) 0 1 w
        rw [decT hy] at k2
        rw [f_X11_person, e_X11_person_0]
        have : q = 0 ∨ q = 1 := by omega
        rcases this with rfl | rfl <;> simp (disch := omega) only [k1, e_X11_person_8, k2, e_X11_person_19, h1, e_X11_person_23, e_X11_person_35, e_X11_person_44, x2, true_and, and_true, false_and, and_false, beq_t, beq_f, eqN_t, eqN_f, eqL_t, eqL_f, nm1, nm2, nm1', nm2', m1z, m2z, zm1, zm2, m12, m21, lg_cmp_ge, lg_cmp_le, lg_cmp_gt, lg_cmp_lt, lg_cmp_eq, oob, oobL, neg0, negL0, natle_f, or_false, false_or, true_or, or_true, or_self, cl, clL, le_t, le_f, lt_t, lt_f, leL_t, leL_f, ltL_t, ltL_f, leM_t, leM_f, ltM_t, ltM_f, leO_t, leO_f, cond_true, cond_false, Option.bind_some, Option.bind_none, if_false, if_true, nI_1, aL1, aL2, mL1, mL2, nI_add, pk_mul, pk_m1, sL1, dL1, pk_sub, m1p1, gIs_eq, gIs_k, gIs_i, gIs_n, gIs_e, gIJ, gIR, gJI, gJR, gJs_eq, gJs_k, gJs_n, gJs_e, gRI, gRJ, gRs_eq, gRs_k, gRs_i, gRs_n, gZI, gZJ, gZR, pI_s, pJ_s, pV_s, pR_s, pR_n, oR_n, oR_s, decide_true, decide_false, not_true_eq_false, not_false_eq_true, decT, decF, Bool.true_eq_false, Bool.false_eq_true, z01, o01, z1f, z1f', zz, oo, b2i_0, b2i_n, b2i_t, b2i_f, Bool.not_true, Bool.not_false] <;> rfl
      · have k1 := m_isPerson hM.1 hD (nI p)
        rw [decT hx] at k1
        have x2 := hM.1.2.2.1 p (by omega)
        have x3 := hM.2.1 p (by omega)
        have k2 := p_in_0_1 (nI q) w
        rw [decT hy] at k2
        rw [f_X12_person, e_X12_person_0]
        have : q = 0 ∨ q = 1 := by omega
        rcases this with rfl | rfl <;> simp (disch := omega) only [k1, e_X12_person_8, k2, e_X12_person_20, e_X12_person_24, e_X12_person_36, e_X12_person_45, x2, x3, true_and, and_true, false_and, and_false, beq_t, beq_f, eqN_t, eqN_f, eqL_t, eqL_f, nm1, nm2, nm1', nm2', m1z, m2z, zm1, zm2, m12, m21, lg_cmp_ge, lg_cmp_le, lg_cmp_gt, lg_cmp_lt, lg_cmp_eq, oob, oobL, neg0, negL0, natle_f, or_false, false_or, true_or, or_true, or_self, cl, clL, le_t, le_f, lt_t, lt_f, leL_t, leL_f, ltL_t, ltL_f, leM_t, leM_f, ltM_t, ltM_f, leO_t, leO_f, cond_true, cond_false, Option.bind_some, Option.bind_none, if_false, if_true, nI_1, aL1, aL2, mL1, mL2, nI_add, pk_mul, pk_m1, sL1, dL1, pk_sub, m1p1, gIs_eq, gIs_k, gIs_i, gIs_n, gIs_e, gIJ, gIR, gJI, gJR, gJs_eq, gJs_k, gJs_n, gJs_e, gRI, gRJ, gRs_eq, gRs_k, gRs_i, gRs_n, gZI, gZJ, gZR, pI_s, pJ_s, pV_s, pR_s, pR_n, oR_n, oR_s, decide_true, decide_false, not_true_eq_false, not_false_eq_true, decT, decF, Bool.true_eq_false, Bool.false_eq_true, z01, o01, z1f, z1f', zz, oo, b2i_0, b2i_n, b2i_t, b2i_f, Bool.not_true, Bool.not_false] <;> rfl
    · refine ⟨-1, fun w hC => ⟨w, ?_, Fr.refl _ _⟩, fun w hM => ⟨w, ?_, hM, Fr.refl _ _⟩⟩
      · rw [f_X11_person, e_X11_person_0, c_isPerson hC.1 hD, decT hx]
        simp (disch := omega) only [e_X11_person_8, p_within, hy, e_X11_person_17, true_and, and_true, false_and, and_false, beq_t, beq_f, eqN_t, eqN_f, eqL_t, eqL_f, nm1, nm2, nm1', nm2', m1z, m2z, zm1, zm2, m12, m21, lg_cmp_ge, lg_cmp_le, lg_cmp_gt, lg_cmp_lt, lg_cmp_eq, oob, oobL, neg0, negL0, natle_f, or_false, false_or, true_or, or_true, or_self, cl, clL, le_t, le_f, lt_t, lt_f, leL_t, leL_f, ltL_t, ltL_f, leM_t, leM_f, ltM_t, ltM_f, leO_t, leO_f, cond_true, cond_false, Option.bind_some, Option.bind_none, if_false, if_true, nI_1, aL1, aL2, mL1, mL2, nI_add, pk_mul, pk_m1, sL1, dL1, pk_sub, m1p1, gIs_eq, gIs_k, gIs_i, gIs_n, gIs_e, gIJ, gIR, gJI, gJR, gJs_eq, gJs_k, gJs_n, gJs_e, gRI, gRJ, gRs_eq, gRs_k, gRs_i, gRs_n, gZI, gZJ, gZR, pI_s, pJ_s, pV_s, pR_s, pR_n, oR_n, oR_s, decide_true, decide_false, not_true_eq_false, not_false_eq_true, decT, decF, Bool.true_eq_false, Bool.false_eq_true, z01, o01, z1f, z1f', zz, oo, b2i_0, b2i_n, b2i_t, b2i_f, Bool.not_true, Bool.not_false]
      · rw [f_X12_person, e_X12_person_0, m_isPerson hM.1 hD, decT hx]
        simp (disch := omega) only [e_X12_person_8, p_in_0_1, hy, e_X12_person_18, true_and, and_true, false_and, and_false, beq_t, beq_f, eqN_t, eqN_f, eqL_t, eqL_f, nm1, nm2, nm1', nm2', m1z, m2z, zm1, zm2, m12, m21, lg_cmp_ge, lg_cmp_le, lg_cmp_gt, lg_cmp_lt, lg_cmp_eq, oob, oobL, neg0, negL0, natle_f, or_false, false_or, true_or, or_true, or_self, cl, clL, le_t, le_f, lt_t, lt_f, leL_t, leL_f, ltL_t, ltL_f, leM_t, leM_f, ltM_t, ltM_f, leO_t, leO_f, cond_true, cond_false, Option.bind_some, Option.bind_none, if_false, if_true, nI_1, aL1, aL2, mL1, mL2, nI_add, pk_mul, pk_m1, sL1, dL1, pk_sub, m1p1, gIs_eq, gIs_k, gIs_i, gIs_n, gIs_e, gIJ, gIR, gJI, gJR, gJs_eq, gJs_k, gJs_n, gJs_e, gRI, gRJ, gRs_eq, gRs_k, gRs_i, gRs_n, gZI, gZJ, gZR, pI_s, pJ_s, pV_s, pR_s, pR_n, oR_n, oR_s, decide_true, decide_false, not_true_eq_false, not_false_eq_true, decT, decF, Bool.true_eq_false, Bool.false_eq_true, z01, o01, z1f, z1f', zz, oo, b2i_0, b2i_n, b2i_t, b2i_f, Bool.not_true, Bool.not_false]
  · refine ⟨-1, fun w hC => ⟨w, ?_, Fr.refl _ _⟩, fun w hM => ⟨w, ?_, hM, Fr.refl _ _⟩⟩
    · rw [f_X11_person, e_X11_person_0, c_isPerson hC.1 hD, decF hx]
      simp (disch := omega) only [e_X11_person_17, true_and, and_true, false_and, and_false, beq_t, beq_f, eqN_t, eqN_f, eqL_t, eqL_f, nm1, nm2, nm1', nm2', m1z, m2z, zm1, zm2, m12, m21, lg_cmp_ge, lg_cmp_le, lg_cmp_gt, lg_cmp_lt, lg_cmp_eq, oob, oobL, neg0, negL0, natle_f, or_false, false_or, true_or, or_true, or_self, cl, clL, le_t, le_f, lt_t, lt_f, leL_t, leL_f, ltL_t, ltL_f, leM_t, leM_f, ltM_t, ltM_f, leO_t, leO_f, cond_true, cond_false, Option.bind_some, Option.bind_none, if_false, if_true, nI_1, aL1, aL2, mL1, mL2, nI_add, pk_mul, pk_m1, sL1, dL1, pk_sub, m1p1, gIs_eq, gIs_k, gIs_i, gIs_n, gIs_e, gIJ, gIR, gJI, gJR, gJs_eq, gJs_k, gJs_n, gJs_e, gRI, gRJ, gRs_eq, gRs_k, gRs_i, gRs_n, gZI, gZJ, gZR, pI_s, pJ_s, pV_s, pR_s, pR_n, oR_n, oR_s, decide_true, decide_false, not_true_eq_false, not_false_eq_true, decT, decF, Bool.true_eq_false, Bool.false_eq_true, z01, o01, z1f, z1f', zz, oo, b2i_0, b2i_n, b2i_t, b2i_f, Bool.not_true, Bool.not_false]
    · rw [f_X12_person, e_X12_person_0, m_isPerson hM.1 hD, decF hx]
      simp (disch := omega) only [e_X12_person_18, true_and, and_true, false_and, and_false, beq_t, beq_f, eqN_t, eqN_f, eqL_t, eqL_f, nm1, nm2, nm1', nm2', m1z, m2z, zm1, zm2, m12, m21, lg_cmp_ge, lg_cmp_le, lg_cmp_gt, lg_cmp_lt, lg_cmp_eq, oob, oobL, neg0, negL0, natle_f, or_false, false_or, true_or, or_true, or_self, cl, clL, le_t, le_f, lt_t, lt_f, leL_t, leL_f, ltL_t, ltL_f, leM_t, leM_f, ltM_t, ltM_f, leO_t, leO_f, cond_true, cond_false, Option.bind_some, Option.bind_none, if_false, if_true, nI_1, aL1, aL2, mL1, mL2, nI_add, pk_mul, pk_m1, sL1, dL1, pk_sub, m1p1, gIs_eq, gIs_k, gIs_i, gIs_n, gIs_e, gIJ, gIR, gJI, gJR, gJs_eq, gJs_k, gJs_n, gJs_e, gRI, gRJ, gRs_eq, gRs_k, gRs_i, gRs_n, gZI, gZJ, gZR, pI_s, pJ_s, pV_s, pR_s, pR_n, oR_n, oR_s, decide_true, decide_false, not_true_eq_false, not_false_eq_true, decT, decF, Bool.true_eq_false, Bool.false_eq_true, z01, o01, z1f, z1f', zz, oo, b2i_0, b2i_n, b2i_t, b2i_f, Bool.not_true, Bool.not_false]
theorem q_field {d : Dl} {s : Sc} {rs : List Rl} {f : Int32} (hO : OX d s rs f) (x y : Int32) : QOk d s rs f (F_X11_field [.inr (10, 0), .inl (.int x), .inl (.int y)]) (F_X12_field [.inr (11, 0), .inl (.int x), .inl (.int y)]) := by
  have hD := hO.1.1
  have h6 := hD.1.2
  have h4 := hD.2.2.1.2
  by_cases hx : (¬ x < 0 ∧ ¬ nI (fn d) ≤ x)
  · by_cases hy : (¬ y < 0 ∧ ¬ 2 < y)
    · obtain ⟨p, hp, rfl⟩ := inK (by omega) hx
      obtain ⟨q, _, hq, rfl⟩ := rngL 0 2 (by omega) (by omega) hy
      have hq3 : q = 0 ∨ q = 1 ∨ q = 2 := by omega
      have hki := ki_range d s (nI p)
      refine ⟨if q = 0 then d.2.2.2.2.2.2 p else if q = 1 then kiS d s (nI p) else (bif decide (kiS d s (nI p) < 0) then 0 else koS d s (kiS d s (nI p)).toNatClampNeg p), fun w hC => ⟨w, ?_, Fr.refl _ _⟩, fun w hM => ⟨w, ?_, hM, Fr.refl _ _⟩⟩
      · have k1 := c_isField hC.1 hD (nI p)
        rw [decT hx] at k1
        have hCD := hC.1
        obtain ⟨⟨jd, h1, h2⟩, ⟨h3, h4'⟩, _⟩ := hC
        have x2 := h2.2.2.2 p (by omega)
        have k2 := p_within (nI q) 0 2 w
        rw [decT hy] at k2
        have k3 := c_keepIn h3 h4' hD (nI p)
        rw [f_X11_field, e_X11_field_0]
        rcases hq3 with rfl | rfl | rfl
        · simp (disch := omega) only [k1, e_X11_field_8, k2, e_X11_field_20, h1, e_X11_field_24, x2, true_and, and_true, false_and, and_false, beq_t, beq_f, eqN_t, eqN_f, eqL_t, eqL_f, nm1, nm2, nm1', nm2', m1z, m2z, zm1, zm2, m12, m21, lg_cmp_ge, lg_cmp_le, lg_cmp_gt, lg_cmp_lt, lg_cmp_eq, oob, oobL, neg0, negL0, natle_f, or_false, false_or, true_or, or_true, or_self, cl, clL, le_t, le_f, lt_t, lt_f, leL_t, leL_f, ltL_t, ltL_f, leM_t, leM_f, ltM_t, ltM_f, leO_t, leO_f, cond_true, cond_false, Option.bind_some, Option.bind_none, if_false, if_true, nI_1, aL1, aL2, mL1, mL2, nI_add, pk_mul, pk_m1, sL1, dL1, pk_sub, m1p1, gIs_eq, gIs_k, gIs_i, gIs_n, gIs_e, gIJ, gIR, gJI, gJR, gJs_eq, gJs_k, gJs_n, gJs_e, gRI, gRJ, gRs_eq, gRs_k, gRs_i, gRs_n, gZI, gZJ, gZR, pI_s, pJ_s, pV_s, pR_s, pR_n, oR_n, oR_s, decide_true, decide_false, not_true_eq_false, not_false_eq_true, decT, decF, Bool.true_eq_false, Bool.false_eq_true, z01, o01, z1f, z1f', zz, oo, b2i_0, b2i_n, b2i_t, b2i_f, Bool.not_true, Bool.not_false]
        · simp (disch := omega) only [k1, e_X11_field_8, k2, e_X11_field_20, e_X11_field_34, k3, e_X11_field_48, e_X11_field_58, true_and, and_true, false_and, and_false, beq_t, beq_f, eqN_t, eqN_f, eqL_t, eqL_f, nm1, nm2, nm1', nm2', m1z, m2z, zm1, zm2, m12, m21, lg_cmp_ge, lg_cmp_le, lg_cmp_gt, lg_cmp_lt, lg_cmp_eq, oob, oobL, neg0, negL0, natle_f, or_false, false_or, true_or, or_true, or_self, cl, clL, le_t, le_f, lt_t, lt_f, leL_t, leL_f, ltL_t, ltL_f, leM_t, leM_f, ltM_t, ltM_f, leO_t, leO_f, cond_true, cond_false, Option.bind_some, Option.bind_none, if_false, if_true, nI_1, aL1, aL2, mL1, mL2, nI_add, pk_mul, pk_m1, sL1, dL1, pk_sub, m1p1, gIs_eq, gIs_k, gIs_i, gIs_n, gIs_e, gIJ, gIR, gJI, gJR, gJs_eq, gJs_k, gJs_n, gJs_e, gRI, gRJ, gRs_eq, gRs_k, gRs_i, gRs_n, gZI, gZJ, gZR, pI_s, pJ_s, pV_s, pR_s, pR_n, oR_n, oR_s, decide_true, decide_false, not_true_eq_false, not_false_eq_true, decT, decF, Bool.true_eq_false, Bool.false_eq_true, z01, o01, z1f, z1f', zz, oo, b2i_0, b2i_n, b2i_t, b2i_f, Bool.not_true, Bool.not_false]
          rfl
        · simp (disch := omega) only [k1, e_X11_field_8, k2, e_X11_field_20, e_X11_field_34, k3, e_X11_field_52, true_and, and_true, false_and, and_false, beq_t, beq_f, eqN_t, eqN_f, eqL_t, eqL_f, nm1, nm2, nm1', nm2', m1z, m2z, zm1, zm2, m12, m21, lg_cmp_ge, lg_cmp_le, lg_cmp_gt, lg_cmp_lt, lg_cmp_eq, oob, oobL, neg0, negL0, natle_f, or_false, false_or, true_or, or_true, or_self, cl, clL, le_t, le_f, lt_t, lt_f, leL_t, leL_f, ltL_t, ltL_f, leM_t, leM_f, ltM_t, ltM_f, leO_t, leO_f, cond_true, cond_false, Option.bind_some, Option.bind_none, if_false, if_true, nI_1, aL1, aL2, mL1, mL2, nI_add, pk_mul, pk_m1, sL1, dL1, pk_sub, m1p1, gIs_eq, gIs_k, gIs_i, gIs_n, gIs_e, gIJ, gIR, gJI, gJR, gJs_eq, gJs_k, gJs_n, gJs_e, gRI, gRJ, gRs_eq, gRs_k, gRs_i, gRs_n, gZI, gZJ, gZR, pI_s, pJ_s, pV_s, pR_s, pR_n, oR_n, oR_s, decide_true, decide_false, not_true_eq_false, not_false_eq_true, decT, decF, Bool.true_eq_false, Bool.false_eq_true, z01, o01, z1f, z1f', zz, oo, b2i_0, b2i_n, b2i_t, b2i_f, Bool.not_true, Bool.not_false]
          rcases hki with e | ⟨j, hj, _, e⟩
          · rw [e]
            simp (disch := omega) only [c_keptOff0 hCD hD (x := -1) (y := nI p) (Or.inl (Or.inl (by decide))), e_X11_field_58, true_and, and_true, false_and, and_false, beq_t, beq_f, eqN_t, eqN_f, eqL_t, eqL_f, nm1, nm2, nm1', nm2', m1z, m2z, zm1, zm2, m12, m21, lg_cmp_ge, lg_cmp_le, lg_cmp_gt, lg_cmp_lt, lg_cmp_eq, oob, oobL, neg0, negL0, natle_f, or_false, false_or, true_or, or_true, or_self, cl, clL, le_t, le_f, lt_t, lt_f, leL_t, leL_f, ltL_t, ltL_f, leM_t, leM_f, ltM_t, ltM_f, leO_t, leO_f, cond_true, cond_false, Option.bind_some, Option.bind_none, if_false, if_true, nI_1, aL1, aL2, mL1, mL2, nI_add, pk_mul, pk_m1, sL1, dL1, pk_sub, m1p1, gIs_eq, gIs_k, gIs_i, gIs_n, gIs_e, gIJ, gIR, gJI, gJR, gJs_eq, gJs_k, gJs_n, gJs_e, gRI, gRJ, gRs_eq, gRs_k, gRs_i, gRs_n, gZI, gZJ, gZR, pI_s, pJ_s, pV_s, pR_s, pR_n, oR_n, oR_s, decide_true, decide_false, not_true_eq_false, not_false_eq_true, decT, decF, Bool.true_eq_false, Bool.false_eq_true, z01, o01, z1f, z1f', zz, oo, b2i_0, b2i_n, b2i_t, b2i_f, Bool.not_true, Bool.not_false]
            rfl
          · rw [e]
            simp (disch := omega) only [c_keptOff hCD h3 hD hj hp, e_X11_field_58, true_and, and_true, false_and, and_false, beq_t, beq_f, eqN_t, eqN_f, eqL_t, eqL_f, nm1, nm2, nm1', nm2', m1z, m2z, zm1, zm2, m12, m21, lg_cmp_ge, lg_cmp_le, lg_cmp_gt, lg_cmp_lt, lg_cmp_eq, oob, oobL, neg0, negL0, natle_f, or_false, false_or, true_or, or_true, or_self, cl, clL, le_t, le_f, lt_t, lt_f, leL_t, leL_f, ltL_t, ltL_f, leM_t, leM_f, ltM_t, ltM_f, leO_t, leO_f, cond_true, cond_false, Option.bind_some, Option.bind_none, if_false, if_true, nI_1, aL1, aL2, mL1, mL2, nI_add, pk_mul, pk_m1, sL1, dL1, pk_sub, m1p1, gIs_eq, gIs_k, gIs_i, gIs_n, gIs_e, gIJ, gIR, gJI, gJR, gJs_eq, gJs_k, gJs_n, gJs_e, gRI, gRJ, gRs_eq, gRs_k, gRs_i, gRs_n, gZI, gZJ, gZR, pI_s, pJ_s, pV_s, pR_s, pR_n, oR_n, oR_s, decide_true, decide_false, not_true_eq_false, not_false_eq_true, decT, decF, Bool.true_eq_false, Bool.false_eq_true, z01, o01, z1f, z1f', zz, oo, b2i_0, b2i_n, b2i_t, b2i_f, Bool.not_true, Bool.not_false]
            rfl
      · have k1 := m_isField hM.1 hD (nI p)
        rw [decT hx] at k1
        have x2 := hM.1.2.2.2 p (by omega)
        have k2 := p_in_0_2 (nI q) w
        rw [decT hy] at k2
        have k3 := m_keepIn hM.1 hM.2.2.1 hD (nI p)
        rw [f_X12_field, e_X12_field_0]
        rcases hq3 with rfl | rfl | rfl
        · simp (disch := omega) only [k1, e_X12_field_8, k2, e_X12_field_23, k3, e_X12_field_33, x2, e_X12_field_68, true_and, and_true, false_and, and_false, beq_t, beq_f, eqN_t, eqN_f, eqL_t, eqL_f, nm1, nm2, nm1', nm2', m1z, m2z, zm1, zm2, m12, m21, lg_cmp_ge, lg_cmp_le, lg_cmp_gt, lg_cmp_lt, lg_cmp_eq, oob, oobL, neg0, negL0, natle_f, or_false, false_or, true_or, or_true, or_self, cl, clL, le_t, le_f, lt_t, lt_f, leL_t, leL_f, ltL_t, ltL_f, leM_t, leM_f, ltM_t, ltM_f, leO_t, leO_f, cond_true, cond_false, Option.bind_some, Option.bind_none, if_false, if_true, nI_1, aL1, aL2, mL1, mL2, nI_add, pk_mul, pk_m1, sL1, dL1, pk_sub, m1p1, gIs_eq, gIs_k, gIs_i, gIs_n, gIs_e, gIJ, gIR, gJI, gJR, gJs_eq, gJs_k, gJs_n, gJs_e, gRI, gRJ, gRs_eq, gRs_k, gRs_i, gRs_n, gZI, gZJ, gZR, pI_s, pJ_s, pV_s, pR_s, pR_n, oR_n, oR_s, decide_true, decide_false, not_true_eq_false, not_false_eq_true, decT, decF, Bool.true_eq_false, Bool.false_eq_true, z01, o01, z1f, z1f', zz, oo, b2i_0, b2i_n, b2i_t, b2i_f, Bool.not_true, Bool.not_false]
        · simp (disch := omega) only [k1, e_X12_field_8, k2, e_X12_field_23, k3, e_X12_field_45, e_X12_field_50, e_X12_field_68, true_and, and_true, false_and, and_false, beq_t, beq_f, eqN_t, eqN_f, eqL_t, eqL_f, nm1, nm2, nm1', nm2', m1z, m2z, zm1, zm2, m12, m21, lg_cmp_ge, lg_cmp_le, lg_cmp_gt, lg_cmp_lt, lg_cmp_eq, oob, oobL, neg0, negL0, natle_f, or_false, false_or, true_or, or_true, or_self, cl, clL, le_t, le_f, lt_t, lt_f, leL_t, leL_f, ltL_t, ltL_f, leM_t, leM_f, ltM_t, ltM_f, leO_t, leO_f, cond_true, cond_false, Option.bind_some, Option.bind_none, if_false, if_true, nI_1, aL1, aL2, mL1, mL2, nI_add, pk_mul, pk_m1, sL1, dL1, pk_sub, m1p1, gIs_eq, gIs_k, gIs_i, gIs_n, gIs_e, gIJ, gIR, gJI, gJR, gJs_eq, gJs_k, gJs_n, gJs_e, gRI, gRJ, gRs_eq, gRs_k, gRs_i, gRs_n, gZI, gZJ, gZR, pI_s, pJ_s, pV_s, pR_s, pR_n, oR_n, oR_s, decide_true, decide_false, not_true_eq_false, not_false_eq_true, decT, decF, Bool.true_eq_false, Bool.false_eq_true, z01, o01, z1f, z1f', zz, oo, b2i_0, b2i_n, b2i_t, b2i_f, Bool.not_true, Bool.not_false]
          rfl
        · simp (disch := omega) only [k1, e_X12_field_8, k2, e_X12_field_23, k3, e_X12_field_45, e_X12_field_54, true_and, and_true, false_and, and_false, beq_t, beq_f, eqN_t, eqN_f, eqL_t, eqL_f, nm1, nm2, nm1', nm2', m1z, m2z, zm1, zm2, m12, m21, lg_cmp_ge, lg_cmp_le, lg_cmp_gt, lg_cmp_lt, lg_cmp_eq, oob, oobL, neg0, negL0, natle_f, or_false, false_or, true_or, or_true, or_self, cl, clL, le_t, le_f, lt_t, lt_f, leL_t, leL_f, ltL_t, ltL_f, leM_t, leM_f, ltM_t, ltM_f, leO_t, leO_f, cond_true, cond_false, Option.bind_some, Option.bind_none, if_false, if_true, nI_1, aL1, aL2, mL1, mL2, nI_add, pk_mul, pk_m1, sL1, dL1, pk_sub, m1p1, gIs_eq, gIs_k, gIs_i, gIs_n, gIs_e, gIJ, gIR, gJI, gJR, gJs_eq, gJs_k, gJs_n, gJs_e, gRI, gRJ, gRs_eq, gRs_k, gRs_i, gRs_n, gZI, gZJ, gZR, pI_s, pJ_s, pV_s, pR_s, pR_n, oR_n, oR_s, decide_true, decide_false, not_true_eq_false, not_false_eq_true, decT, decF, Bool.true_eq_false, Bool.false_eq_true, z01, o01, z1f, z1f', zz, oo, b2i_0, b2i_n, b2i_t, b2i_f, Bool.not_true, Bool.not_false]
          rcases hki with e | ⟨j, hj, _, e⟩
          · rw [e]
            simp (disch := omega) only [e_X12_field_58, e_X12_field_68, true_and, and_true, false_and, and_false, beq_t, beq_f, eqN_t, eqN_f, eqL_t, eqL_f, nm1, nm2, nm1', nm2', m1z, m2z, zm1, zm2, m12, m21, lg_cmp_ge, lg_cmp_le, lg_cmp_gt, lg_cmp_lt, lg_cmp_eq, oob, oobL, neg0, negL0, natle_f, or_false, false_or, true_or, or_true, or_self, cl, clL, le_t, le_f, lt_t, lt_f, leL_t, leL_f, ltL_t, ltL_f, leM_t, leM_f, ltM_t, ltM_f, leO_t, leO_f, cond_true, cond_false, Option.bind_some, Option.bind_none, if_false, if_true, nI_1, aL1, aL2, mL1, mL2, nI_add, pk_mul, pk_m1, sL1, dL1, pk_sub, m1p1, gIs_eq, gIs_k, gIs_i, gIs_n, gIs_e, gIJ, gIR, gJI, gJR, gJs_eq, gJs_k, gJs_n, gJs_e, gRI, gRJ, gRs_eq, gRs_k, gRs_i, gRs_n, gZI, gZJ, gZR, pI_s, pJ_s, pV_s, pR_s, pR_n, oR_n, oR_s, decide_true, decide_false, not_true_eq_false, not_false_eq_true, decT, decF, Bool.true_eq_false, Bool.false_eq_true, z01, o01, z1f, z1f', zz, oo, b2i_0, b2i_n, b2i_t, b2i_f, Bool.not_true, Bool.not_false]
            rfl
          · rw [e]
            simp (disch := omega) only [e_X12_field_62, m_keptOffBy hM.1 hM.2.2.1 (k := j) (f := p) (by omega) (by omega), e_X12_field_68, true_and, and_true, false_and, and_false, beq_t, beq_f, eqN_t, eqN_f, eqL_t, eqL_f, nm1, nm2, nm1', nm2', m1z, m2z, zm1, zm2, m12, m21, lg_cmp_ge, lg_cmp_le, lg_cmp_gt, lg_cmp_lt, lg_cmp_eq, oob, oobL, neg0, negL0, natle_f, or_false, false_or, true_or, or_true, or_self, cl, clL, le_t, le_f, lt_t, lt_f, leL_t, leL_f, ltL_t, ltL_f, leM_t, leM_f, ltM_t, ltM_f, leO_t, leO_f, cond_true, cond_false, Option.bind_some, Option.bind_none, if_false, if_true, nI_1, aL1, aL2, mL1, mL2, nI_add, pk_mul, pk_m1, sL1, dL1, pk_sub, m1p1, gIs_eq, gIs_k, gIs_i, gIs_n, gIs_e, gIJ, gIR, gJI, gJR, gJs_eq, gJs_k, gJs_n, gJs_e, gRI, gRJ, gRs_eq, gRs_k, gRs_i, gRs_n, gZI, gZJ, gZR, pI_s, pJ_s, pV_s, pR_s, pR_n, oR_n, oR_s, decide_true, decide_false, not_true_eq_false, not_false_eq_true, decT, decF, Bool.true_eq_false, Bool.false_eq_true, z01, o01, z1f, z1f', zz, oo, b2i_0, b2i_n, b2i_t, b2i_f, Bool.not_true, Bool.not_false]
            rfl
    · refine ⟨-2, fun w hC => ⟨w, ?_, Fr.refl _ _⟩, fun w hM => ⟨w, ?_, hM, Fr.refl _ _⟩⟩
      · rw [f_X11_field, e_X11_field_0, c_isField hC.1 hD, decT hx]
        simp (disch := omega) only [e_X11_field_8, p_within, hy, e_X11_field_17, true_and, and_true, false_and, and_false, beq_t, beq_f, eqN_t, eqN_f, eqL_t, eqL_f, nm1, nm2, nm1', nm2', m1z, m2z, zm1, zm2, m12, m21, lg_cmp_ge, lg_cmp_le, lg_cmp_gt, lg_cmp_lt, lg_cmp_eq, oob, oobL, neg0, negL0, natle_f, or_false, false_or, true_or, or_true, or_self, cl, clL, le_t, le_f, lt_t, lt_f, leL_t, leL_f, ltL_t, ltL_f, leM_t, leM_f, ltM_t, ltM_f, leO_t, leO_f, cond_true, cond_false, Option.bind_some, Option.bind_none, if_false, if_true, nI_1, aL1, aL2, mL1, mL2, nI_add, pk_mul, pk_m1, sL1, dL1, pk_sub, m1p1, gIs_eq, gIs_k, gIs_i, gIs_n, gIs_e, gIJ, gIR, gJI, gJR, gJs_eq, gJs_k, gJs_n, gJs_e, gRI, gRJ, gRs_eq, gRs_k, gRs_i, gRs_n, gZI, gZJ, gZR, pI_s, pJ_s, pV_s, pR_s, pR_n, oR_n, oR_s, decide_true, decide_false, not_true_eq_false, not_false_eq_true, decT, decF, Bool.true_eq_false, Bool.false_eq_true, z01, o01, z1f, z1f', zz, oo, b2i_0, b2i_n, b2i_t, b2i_f, Bool.not_true, Bool.not_false]
      · rw [f_X12_field, e_X12_field_0, m_isField hM.1 hD, decT hx]
        simp (disch := omega) only [e_X12_field_8, p_in_0_2, hy, e_X12_field_20, true_and, and_true, false_and, and_false, beq_t, beq_f, eqN_t, eqN_f, eqL_t, eqL_f, nm1, nm2, nm1', nm2', m1z, m2z, zm1, zm2, m12, m21, lg_cmp_ge, lg_cmp_le, lg_cmp_gt, lg_cmp_lt, lg_cmp_eq, oob, oobL, neg0, negL0, natle_f, or_false, false_or, true_or, or_true, or_self, cl, clL, le_t, le_f, lt_t, lt_f, leL_t, leL_f, ltL_t, ltL_f, leM_t, leM_f, ltM_t, ltM_f, leO_t, leO_f, cond_true, cond_false, Option.bind_some, Option.bind_none, if_false, if_true, nI_1, aL1, aL2, mL1, mL2, nI_add, pk_mul, pk_m1, sL1, dL1, pk_sub, m1p1, gIs_eq, gIs_k, gIs_i, gIs_n, gIs_e, gIJ, gIR, gJI, gJR, gJs_eq, gJs_k, gJs_n, gJs_e, gRI, gRJ, gRs_eq, gRs_k, gRs_i, gRs_n, gZI, gZJ, gZR, pI_s, pJ_s, pV_s, pR_s, pR_n, oR_n, oR_s, decide_true, decide_false, not_true_eq_false, not_false_eq_true, decT, decF, Bool.true_eq_false, Bool.false_eq_true, z01, o01, z1f, z1f', zz, oo, b2i_0, b2i_n, b2i_t, b2i_f, Bool.not_true, Bool.not_false]
  · refine ⟨-2, fun w hC => ⟨w, ?_, Fr.refl _ _⟩, fun w hM => ⟨w, ?_, hM, Fr.refl _ _⟩⟩
    · rw [f_X11_field, e_X11_field_0, c_isField hC.1 hD, decF hx]
      simp (disch := omega) only [e_X11_field_17, true_and, and_true, false_and, and_false, beq_t, beq_f, eqN_t, eqN_f, eqL_t, eqL_f, nm1, nm2, nm1', nm2', m1z, m2z, zm1, zm2, m12, m21, lg_cmp_ge, lg_cmp_le, lg_cmp_gt, lg_cmp_lt, lg_cmp_eq, oob, oobL, neg0, negL0, natle_f, or_false, false_or, true_or, or_true, or_self, cl, clL, le_t, le_f, lt_t, lt_f, leL_t, leL_f, ltL_t, ltL_f, leM_t, leM_f, ltM_t, ltM_f, leO_t, leO_f, cond_true, cond_false, Option.bind_some, Option.bind_none, if_false, if_true, nI_1, aL1, aL2, mL1, mL2, nI_add, pk_mul, pk_m1, sL1, dL1, pk_sub, m1p1, gIs_eq, gIs_k, gIs_i, gIs_n, gIs_e, gIJ, gIR, gJI, gJR, gJs_eq, gJs_k, gJs_n, gJs_e, gRI, gRJ, gRs_eq, gRs_k, gRs_i, gRs_n, gZI, gZJ, gZR, pI_s, pJ_s, pV_s, pR_s, pR_n, oR_n, oR_s, decide_true, decide_false, not_true_eq_false, not_false_eq_true, decT, decF, Bool.true_eq_false, Bool.false_eq_true, z01, o01, z1f, z1f', zz, oo, b2i_0, b2i_n, b2i_t, b2i_f, Bool.not_true, Bool.not_false]
    · rw [f_X12_field, e_X12_field_0, m_isField hM.1 hD, decF hx]
      simp (disch := omega) only [e_X12_field_20, true_and, and_true, false_and, and_false, beq_t, beq_f, eqN_t, eqN_f, eqL_t, eqL_f, nm1, nm2, nm1', nm2', m1z, m2z, zm1, zm2, m12, m21, lg_cmp_ge, lg_cmp_le, lg_cmp_gt, lg_cmp_lt, lg_cmp_eq, oob, oobL, neg0, negL0, natle_f, or_false, false_or, true_or, or_true, or_self, cl, clL, le_t, le_f, lt_t, lt_f, leL_t, leL_f, ltL_t, ltL_f, leM_t, leM_f, ltM_t, ltM_f, leO_t, leO_f, cond_true, cond_false, Option.bind_some, Option.bind_none, if_false, if_true, nI_1, aL1, aL2, mL1, mL2, nI_add, pk_mul, pk_m1, sL1, dL1, pk_sub, m1p1, gIs_eq, gIs_k, gIs_i, gIs_n, gIs_e, gIJ, gIR, gJI, gJR, gJs_eq, gJs_k, gJs_n, gJs_e, gRI, gRJ, gRs_eq, gRs_k, gRs_i, gRs_n, gZI, gZJ, gZR, pI_s, pJ_s, pV_s, pR_s, pR_n, oR_n, oR_s, decide_true, decide_false, not_true_eq_false, not_false_eq_true, decT, decF, Bool.true_eq_false, Bool.false_eq_true, z01, o01, z1f, z1f', zz, oo, b2i_0, b2i_n, b2i_t, b2i_f, Bool.not_true, Bool.not_false]
