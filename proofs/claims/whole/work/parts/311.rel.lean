/-! ===== where all stands: the class's queries, the model's ===== -/
def tlS (d : Dl) : Ar := d.2.2.2.2.2.1
def CD (w : XW) (d : Dl) : Prop := ∃ jd, gR w 10 0 5 = some jd ∧ DlAt w jd d
def CN (w : XW) (d : Dl) (s : Sc) : Prop := ScAt w 0 s ∧ gI w 8 0 0 = d.1 3
def CR (w : XW) (rs : List Rl) : Prop := gI w 10 0 3 = nI rs.length ∧ ∀ t rl, rs[t]? = some rl → ∃ jr, gR w 35 0 t = some jr ∧ RlC w jr rl
def CX (w : XW) (d : Dl) (s : Sc) (rs : List Rl) (f : Int32) : Prop := CD w d ∧ CN w d s ∧ CR w rs ∧ gI w 10 0 4 = f
def curR (rs : List Rl) (f : Int32) : Option Rl := bif decide (f < 0) then none else rs[f.toNatClampNeg]?
def fOk (rs : List Rl) (f : Int32) : Prop := f = -1 ∨ ∃ t, t < rs.length ∧ f = nI t
def TOk (d : Dl) : Prop := (d.1 0 = 1 ∨ d.1 0 = 0) ∧ (d.1 0 = 0 → kn d = 0 ∧ pn d = 0 ∧ fn d = 0)
def OX (d : Dl) (s : Sc) (rs : List Rl) (f : Int32) : Prop := (DOk d ∧ TOk d) ∧ (SOk d s ∧ In 999 s.1) ∧ (∀ rl ∈ rs, ROk rl) ∧ rs.length ≤ 6 ∧ fOk rs f
def PQc (κ j _k : Nat) : Prop := κ = 3 ∨ κ = 19 ∨ κ = 20 ∨ κ = 21 ∨ ((κ = 8 ∨ κ = 30 ∨ κ = 31 ∨ κ = 32 ∨ κ = 33) ∧ j = 1)
theorem CX.fr {w w' : XW} {d : Dl} {s : Sc} {rs : List Rl} {f : Int32} (h : CX w d s rs f) (hF : Fr PQc w w') : CX w' d s rs f := by
  obtain ⟨⟨jd, h1, h2⟩, ⟨h3, h4⟩, ⟨h5, h6⟩, h7⟩ := h
  refine ⟨⟨jd, ?_, h2.fr hF (fun κ k q => by unfold PQc; omega)⟩, ⟨h3.fr hF (fun κ k q => by unfold PQc; omega), ?_⟩, ⟨?_, fun t rl ht => ?_⟩, ?_⟩
  · rw [(hF 10 0 5 (by unfold PQc; omega)).2.2.1]; exact h1
  · rw [(hF 8 0 0 (by unfold PQc; omega)).1]; exact h4
  · rw [(hF 10 0 3 (by unfold PQc; omega)).1]; exact h5
  · obtain ⟨jr, x1, x2⟩ := h6 t rl ht
    exact ⟨jr, by rw [(hF 35 0 t (by unfold PQc; omega)).2.2.1]; exact x1, x2.fr hF (fun κ k q => by unfold PQc; omega)⟩
  · rw [(hF 10 0 4 (by unfold PQc; omega)).1]; exact h7
/-! the class's small methods -/
theorem p_within (x a b : Int32) (w : XW) : F_X11_within [.inl (.int x), .inl (.int a), .inl (.int b)] w = some (b2i (decide (¬ x < a ∧ ¬ b < x)), w) := by
  rw [f_X11_within, e_X11_within_0]
  by_cases h1 : x < a
  · simp (disch := omega) only [h1, e_X11_within_14, e_X11_within_15, true_and, and_true, false_and, and_false, beq_t, beq_f, eqN_t, eqN_f, eqL_t, eqL_f, nm1, nm2, nm1', nm2', m1z, m2z, zm1, zm2, m12, m21, lg_cmp_ge, lg_cmp_le, lg_cmp_gt, lg_cmp_lt, lg_cmp_eq, oob, oobL, neg0, negL0, natle_f, or_false, false_or, true_or, or_true, or_self, cl, clL, le_t, le_f, lt_t, lt_f, leL_t, leL_f, ltL_t, ltL_f, leM_t, leM_f, ltM_t, ltM_f, leO_t, leO_f, cond_true, cond_false, Option.bind_some, Option.bind_none, if_false, if_true, nI_1, aL1, aL2, mL1, mL2, nI_add, pk_mul, pk_m1, sL1, dL1, pk_sub, m1p1, gIs_eq, gIs_k, gIs_i, gIs_n, gIs_e, gIJ, gIR, gJI, gJR, gJs_eq, gJs_k, gJs_n, gJs_e, gRI, gRJ, gRs_eq, gRs_k, gRs_i, gRs_n, gZI, gZJ, gZR, pI_s, pJ_s, pV_s, pR_s, pR_n, oR_n, oR_s, decide_true, decide_false, not_true_eq_false, not_false_eq_true, decT, decF, Bool.true_eq_false, Bool.false_eq_true, z01, o01, z1f, z1f', zz, oo, b2i_0, b2i_n, b2i_t, b2i_f, Bool.not_true, Bool.not_false]
  · by_cases h2 : b < x
    · simp (disch := omega) only [h1, h2, e_X11_within_5, e_X11_within_14, e_X11_within_15, true_and, and_true, false_and, and_false, beq_t, beq_f, eqN_t, eqN_f, eqL_t, eqL_f, nm1, nm2, nm1', nm2', m1z, m2z, zm1, zm2, m12, m21, lg_cmp_ge, lg_cmp_le, lg_cmp_gt, lg_cmp_lt, lg_cmp_eq, oob, oobL, neg0, negL0, natle_f, or_false, false_or, true_or, or_true, or_self, cl, clL, le_t, le_f, lt_t, lt_f, leL_t, leL_f, ltL_t, ltL_f, leM_t, leM_f, ltM_t, ltM_f, leO_t, leO_f, cond_true, cond_false, Option.bind_some, Option.bind_none, if_false, if_true, nI_1, aL1, aL2, mL1, mL2, nI_add, pk_mul, pk_m1, sL1, dL1, pk_sub, m1p1, gIs_eq, gIs_k, gIs_i, gIs_n, gIs_e, gIJ, gIR, gJI, gJR, gJs_eq, gJs_k, gJs_n, gJs_e, gRI, gRJ, gRs_eq, gRs_k, gRs_i, gRs_n, gZI, gZJ, gZR, pI_s, pJ_s, pV_s, pR_s, pR_n, oR_n, oR_s, decide_true, decide_false, not_true_eq_false, not_false_eq_true, decT, decF, Bool.true_eq_false, Bool.false_eq_true, z01, o01, z1f, z1f', zz, oo, b2i_0, b2i_n, b2i_t, b2i_f, Bool.not_true, Bool.not_false]
    · simp (disch := omega) only [h1, h2, e_X11_within_5, e_X11_within_10, e_X11_within_15, true_and, and_true, false_and, and_false, beq_t, beq_f, eqN_t, eqN_f, eqL_t, eqL_f, nm1, nm2, nm1', nm2', m1z, m2z, zm1, zm2, m12, m21, lg_cmp_ge, lg_cmp_le, lg_cmp_gt, lg_cmp_lt, lg_cmp_eq, oob, oobL, neg0, negL0, natle_f, or_false, false_or, true_or, or_true, or_self, cl, clL, le_t, le_f, lt_t, lt_f, leL_t, leL_f, ltL_t, ltL_f, leM_t, leM_f, ltM_t, ltM_f, leO_t, leO_f, cond_true, cond_false, Option.bind_some, Option.bind_none, if_false, if_true, nI_1, aL1, aL2, mL1, mL2, nI_add, pk_mul, pk_m1, sL1, dL1, pk_sub, m1p1, gIs_eq, gIs_k, gIs_i, gIs_n, gIs_e, gIJ, gIR, gJI, gJR, gJs_eq, gJs_k, gJs_n, gJs_e, gRI, gRJ, gRs_eq, gRs_k, gRs_i, gRs_n, gZI, gZJ, gZR, pI_s, pJ_s, pV_s, pR_s, pR_n, oR_n, oR_s, decide_true, decide_false, not_true_eq_false, not_false_eq_true, decT, decF, Bool.true_eq_false, Bool.false_eq_true, z01, o01, z1f, z1f', zz, oo, b2i_0, b2i_n, b2i_t, b2i_f, Bool.not_true, Bool.not_false]
theorem i64_lt {x y : Int32} : (x.toInt64 < y.toInt64) = (x < y) := by
  apply propext
  rw [Int64.lt_iff_toInt_lt, Int32.lt_iff_toInt_lt, Int32.toInt_toInt64, Int32.toInt_toInt64]
theorem p_in (x a b : Int32) (w : XW) : F_X12_in [.inl (.long x.toInt64), .inl (.long a.toInt64), .inl (.long b.toInt64)] w = some (b2i (decide (¬ x < a ∧ ¬ b < x)), w) := by
  rw [f_X12_in, e_X12_in_0]
  by_cases h1 : x < a
  · simp (disch := omega) only [i64_lt, h1, e_X12_in_17, e_X12_in_18, true_and, and_true, false_and, and_false, beq_t, beq_f, eqN_t, eqN_f, eqL_t, eqL_f, nm1, nm2, nm1', nm2', m1z, m2z, zm1, zm2, m12, m21, lg_cmp_ge, lg_cmp_le, lg_cmp_gt, lg_cmp_lt, lg_cmp_eq, oob, oobL, neg0, negL0, natle_f, or_false, false_or, true_or, or_true, or_self, cl, clL, le_t, le_f, lt_t, lt_f, leL_t, leL_f, ltL_t, ltL_f, leM_t, leM_f, ltM_t, ltM_f, leO_t, leO_f, cond_true, cond_false, Option.bind_some, Option.bind_none, if_false, if_true, nI_1, aL1, aL2, mL1, mL2, nI_add, pk_mul, pk_m1, sL1, dL1, pk_sub, m1p1, gIs_eq, gIs_k, gIs_i, gIs_n, gIs_e, gIJ, gIR, gJI, gJR, gJs_eq, gJs_k, gJs_n, gJs_e, gRI, gRJ, gRs_eq, gRs_k, gRs_i, gRs_n, gZI, gZJ, gZR, pI_s, pJ_s, pV_s, pR_s, pR_n, oR_n, oR_s, decide_true, decide_false, not_true_eq_false, not_false_eq_true, decT, decF, Bool.true_eq_false, Bool.false_eq_true, z01, o01, z1f, z1f', zz, oo, b2i_0, b2i_n, b2i_t, b2i_f, Bool.not_true, Bool.not_false]
  · by_cases h2 : b < x
    · simp (disch := omega) only [i64_lt, h1, h2, e_X12_in_6, e_X12_in_17, e_X12_in_18, true_and, and_true, false_and, and_false, beq_t, beq_f, eqN_t, eqN_f, eqL_t, eqL_f, nm1, nm2, nm1', nm2', m1z, m2z, zm1, zm2, m12, m21, lg_cmp_ge, lg_cmp_le, lg_cmp_gt, lg_cmp_lt, lg_cmp_eq, oob, oobL, neg0, negL0, natle_f, or_false, false_or, true_or, or_true, or_self, cl, clL, le_t, le_f, lt_t, lt_f, leL_t, leL_f, ltL_t, ltL_f, leM_t, leM_f, ltM_t, ltM_f, leO_t, leO_f, cond_true, cond_false, Option.bind_some, Option.bind_none, if_false, if_true, nI_1, aL1, aL2, mL1, mL2, nI_add, pk_mul, pk_m1, sL1, dL1, pk_sub, m1p1, gIs_eq, gIs_k, gIs_i, gIs_n, gIs_e, gIJ, gIR, gJI, gJR, gJs_eq, gJs_k, gJs_n, gJs_e, gRI, gRJ, gRs_eq, gRs_k, gRs_i, gRs_n, gZI, gZJ, gZR, pI_s, pJ_s, pV_s, pR_s, pR_n, oR_n, oR_s, decide_true, decide_false, not_true_eq_false, not_false_eq_true, decT, decF, Bool.true_eq_false, Bool.false_eq_true, z01, o01, z1f, z1f', zz, oo, b2i_0, b2i_n, b2i_t, b2i_f, Bool.not_true, Bool.not_false]
    · simp (disch := omega) only [i64_lt, h1, h2, e_X12_in_6, e_X12_in_13, e_X12_in_18, true_and, and_true, false_and, and_false, beq_t, beq_f, eqN_t, eqN_f, eqL_t, eqL_f, nm1, nm2, nm1', nm2', m1z, m2z, zm1, zm2, m12, m21, lg_cmp_ge, lg_cmp_le, lg_cmp_gt, lg_cmp_lt, lg_cmp_eq, oob, oobL, neg0, negL0, natle_f, or_false, false_or, true_or, or_true, or_self, cl, clL, le_t, le_f, lt_t, lt_f, leL_t, leL_f, ltL_t, ltL_f, leM_t, leM_f, ltM_t, ltM_f, leO_t, leO_f, cond_true, cond_false, Option.bind_some, Option.bind_none, if_false, if_true, nI_1, aL1, aL2, mL1, mL2, nI_add, pk_mul, pk_m1, sL1, dL1, pk_sub, m1p1, gIs_eq, gIs_k, gIs_i, gIs_n, gIs_e, gIJ, gIR, gJI, gJR, gJs_eq, gJs_k, gJs_n, gJs_e, gRI, gRJ, gRs_eq, gRs_k, gRs_i, gRs_n, gZI, gZJ, gZR, pI_s, pJ_s, pV_s, pR_s, pR_n, oR_n, oR_s, decide_true, decide_false, not_true_eq_false, not_false_eq_true, decT, decF, Bool.true_eq_false, Bool.false_eq_true, z01, o01, z1f, z1f', zz, oo, b2i_0, b2i_n, b2i_t, b2i_f, Bool.not_true, Bool.not_false]
theorem lt_pred {x : Int32} {n : Nat} (hn : n ≤ 60) : (¬ x < 0 ∧ ¬ nI n - 1 < x) = (¬ x < 0 ∧ ¬ nI n ≤ x) := by
  apply propext
  have h1 : (nI n - 1).toInt = (n : Int) - 1 := pk_sub_toInt (a := n) (b := 1) (by omega) (by omega)
  refine and_congr_right (fun _ => ?_)
  rw [Int32.lt_iff_toInt_lt, Int32.le_iff_toInt_le, h1, nI_toInt (by omega)]
  omega
theorem c_isKeep {w : XW} {d : Dl} (hd : CD w d) (hD : DOk d) (x : Int32) : F_X11_isKeep [.inr (10, 0), .inl (.int x)] w = some (b2i (decide (¬ x < 0 ∧ ¬ nI (kn d) ≤ x)), w) := by
  obtain ⟨jd, h1, h2⟩ := hd
  have g : gI w 1 jd 3 = nI (kn d) := by rw [h2.1 3 (by omega)]; exact hD.1.1
  have hk := hD.1.2
  rw [f_X11_isKeep, e_X11_isKeep_0]
  simp (disch := omega) only [h1, g, p_within, lt_pred (n := kn d) (by omega), true_and, and_true, false_and, and_false, beq_t, beq_f, eqN_t, eqN_f, eqL_t, eqL_f, nm1, nm2, nm1', nm2', m1z, m2z, zm1, zm2, m12, m21, lg_cmp_ge, lg_cmp_le, lg_cmp_gt, lg_cmp_lt, lg_cmp_eq, oob, oobL, neg0, negL0, natle_f, or_false, false_or, true_or, or_true, or_self, cl, clL, le_t, le_f, lt_t, lt_f, leL_t, leL_f, ltL_t, ltL_f, leM_t, leM_f, ltM_t, ltM_f, leO_t, leO_f, cond_true, cond_false, Option.bind_some, Option.bind_none, if_false, if_true, nI_1, aL1, aL2, mL1, mL2, nI_add, pk_mul, pk_m1, sL1, dL1, pk_sub, m1p1, gIs_eq, gIs_k, gIs_i, gIs_n, gIs_e, gIJ, gIR, gJI, gJR, gJs_eq, gJs_k, gJs_n, gJs_e, gRI, gRJ, gRs_eq, gRs_k, gRs_i, gRs_n, gZI, gZJ, gZR, pI_s, pJ_s, pV_s, pR_s, pR_n, oR_n, oR_s, decide_true, decide_false, not_true_eq_false, not_false_eq_true, decT, decF, Bool.true_eq_false, Bool.false_eq_true, z01, o01, z1f, z1f', zz, oo, b2i_0, b2i_n, b2i_t, b2i_f, Bool.not_true, Bool.not_false]
  cases decide (¬ x < 0 ∧ ¬ nI (kn d) ≤ x) <;> rfl
theorem c_isPerson {w : XW} {d : Dl} (hd : CD w d) (hD : DOk d) (x : Int32) : F_X11_isPerson [.inr (10, 0), .inl (.int x)] w = some (b2i (decide (¬ x < 0 ∧ ¬ nI (pn d) ≤ x)), w) := by
  obtain ⟨jd, h1, h2⟩ := hd
  have g : gI w 1 jd 4 = nI (pn d) := by rw [h2.1 4 (by omega)]; exact hD.2.1.1
  have hk := hD.2.1.2
  rw [f_X11_isPerson, e_X11_isPerson_0]
  simp (disch := omega) only [h1, g, p_within, lt_pred (n := pn d) (by omega), true_and, and_true, false_and, and_false, beq_t, beq_f, eqN_t, eqN_f, eqL_t, eqL_f, nm1, nm2, nm1', nm2', m1z, m2z, zm1, zm2, m12, m21, lg_cmp_ge, lg_cmp_le, lg_cmp_gt, lg_cmp_lt, lg_cmp_eq, oob, oobL, neg0, negL0, natle_f, or_false, false_or, true_or, or_true, or_self, cl, clL, le_t, le_f, lt_t, lt_f, leL_t, leL_f, ltL_t, ltL_f, leM_t, leM_f, ltM_t, ltM_f, leO_t, leO_f, cond_true, cond_false, Option.bind_some, Option.bind_none, if_false, if_true, nI_1, aL1, aL2, mL1, mL2, nI_add, pk_mul, pk_m1, sL1, dL1, pk_sub, m1p1, gIs_eq, gIs_k, gIs_i, gIs_n, gIs_e, gIJ, gIR, gJI, gJR, gJs_eq, gJs_k, gJs_n, gJs_e, gRI, gRJ, gRs_eq, gRs_k, gRs_i, gRs_n, gZI, gZJ, gZR, pI_s, pJ_s, pV_s, pR_s, pR_n, oR_n, oR_s, decide_true, decide_false, not_true_eq_false, not_false_eq_true, decT, decF, Bool.true_eq_false, Bool.false_eq_true, z01, o01, z1f, z1f', zz, oo, b2i_0, b2i_n, b2i_t, b2i_f, Bool.not_true, Bool.not_false]
  cases decide (¬ x < 0 ∧ ¬ nI (pn d) ≤ x) <;> rfl
theorem c_isField {w : XW} {d : Dl} (hd : CD w d) (hD : DOk d) (x : Int32) : F_X11_isField [.inr (10, 0), .inl (.int x)] w = some (b2i (decide (¬ x < 0 ∧ ¬ nI (fn d) ≤ x)), w) := by
  obtain ⟨jd, h1, h2⟩ := hd
  have g : gI w 1 jd 5 = nI (fn d) := by rw [h2.1 5 (by omega)]; exact hD.2.2.1.1
  have hk := hD.2.2.1.2
  rw [f_X11_isField, e_X11_isField_0]
  simp (disch := omega) only [h1, g, p_within, lt_pred (n := fn d) (by omega), true_and, and_true, false_and, and_false, beq_t, beq_f, eqN_t, eqN_f, eqL_t, eqL_f, nm1, nm2, nm1', nm2', m1z, m2z, zm1, zm2, m12, m21, lg_cmp_ge, lg_cmp_le, lg_cmp_gt, lg_cmp_lt, lg_cmp_eq, oob, oobL, neg0, negL0, natle_f, or_false, false_or, true_or, or_true, or_self, cl, clL, le_t, le_f, lt_t, lt_f, leL_t, leL_f, ltL_t, ltL_f, leM_t, leM_f, ltM_t, ltM_f, leO_t, leO_f, cond_true, cond_false, Option.bind_some, Option.bind_none, if_false, if_true, nI_1, aL1, aL2, mL1, mL2, nI_add, pk_mul, pk_m1, sL1, dL1, pk_sub, m1p1, gIs_eq, gIs_k, gIs_i, gIs_n, gIs_e, gIJ, gIR, gJI, gJR, gJs_eq, gJs_k, gJs_n, gJs_e, gRI, gRJ, gRs_eq, gRs_k, gRs_i, gRs_n, gZI, gZJ, gZR, pI_s, pJ_s, pV_s, pR_s, pR_n, oR_n, oR_s, decide_true, decide_false, not_true_eq_false, not_false_eq_true, decT, decF, Bool.true_eq_false, Bool.false_eq_true, z01, o01, z1f, z1f', zz, oo, b2i_0, b2i_n, b2i_t, b2i_f, Bool.not_true, Bool.not_false]
  cases decide (¬ x < 0 ∧ ¬ nI (fn d) ≤ x) <;> rfl
theorem m_isKeep {w : XW} {d : Dl} (hd : MdAt w d) (hD : DOk d) (x : Int32) : F_X12_isKeep [.inr (11, 0), .inl (.int x)] w = some (b2i (decide (¬ x < 0 ∧ ¬ nI (kn d) ≤ x)), w) := by
  have g : gI w 50 0 3 = nI (kn d) := by rw [hd.1 3 (by omega)]; exact hD.1.1
  rw [f_X12_isKeep, e_X12_isKeep_0]
  by_cases h1 : x < 0
  · simp (disch := omega) only [h1, e_X12_isKeep_18, e_X12_isKeep_19, true_and, and_true, false_and, and_false, beq_t, beq_f, eqN_t, eqN_f, eqL_t, eqL_f, nm1, nm2, nm1', nm2', m1z, m2z, zm1, zm2, m12, m21, lg_cmp_ge, lg_cmp_le, lg_cmp_gt, lg_cmp_lt, lg_cmp_eq, oob, oobL, neg0, negL0, natle_f, or_false, false_or, true_or, or_true, or_self, cl, clL, le_t, le_f, lt_t, lt_f, leL_t, leL_f, ltL_t, ltL_f, leM_t, leM_f, ltM_t, ltM_f, leO_t, leO_f, cond_true, cond_false, Option.bind_some, Option.bind_none, if_false, if_true, nI_1, aL1, aL2, mL1, mL2, nI_add, pk_mul, pk_m1, sL1, dL1, pk_sub, m1p1, gIs_eq, gIs_k, gIs_i, gIs_n, gIs_e, gIJ, gIR, gJI, gJR, gJs_eq, gJs_k, gJs_n, gJs_e, gRI, gRJ, gRs_eq, gRs_k, gRs_i, gRs_n, gZI, gZJ, gZR, pI_s, pJ_s, pV_s, pR_s, pR_n, oR_n, oR_s, decide_true, decide_false, not_true_eq_false, not_false_eq_true, decT, decF, Bool.true_eq_false, Bool.false_eq_true, z01, o01, z1f, z1f', zz, oo, b2i_0, b2i_n, b2i_t, b2i_f, Bool.not_true, Bool.not_false]
  · by_cases h2 : nI (kn d) ≤ x
    · simp (disch := omega) only [h1, h2, g, e_X12_isKeep_4, e_X12_isKeep_18, e_X12_isKeep_19, true_and, and_true, false_and, and_false, beq_t, beq_f, eqN_t, eqN_f, eqL_t, eqL_f, nm1, nm2, nm1', nm2', m1z, m2z, zm1, zm2, m12, m21, lg_cmp_ge, lg_cmp_le, lg_cmp_gt, lg_cmp_lt, lg_cmp_eq, oob, oobL, neg0, negL0, natle_f, or_false, false_or, true_or, or_true, or_self, cl, clL, le_t, le_f, lt_t, lt_f, leL_t, leL_f, ltL_t, ltL_f, leM_t, leM_f, ltM_t, ltM_f, leO_t, leO_f, cond_true, cond_false, Option.bind_some, Option.bind_none, if_false, if_true, nI_1, aL1, aL2, mL1, mL2, nI_add, pk_mul, pk_m1, sL1, dL1, pk_sub, m1p1, gIs_eq, gIs_k, gIs_i, gIs_n, gIs_e, gIJ, gIR, gJI, gJR, gJs_eq, gJs_k, gJs_n, gJs_e, gRI, gRJ, gRs_eq, gRs_k, gRs_i, gRs_n, gZI, gZJ, gZR, pI_s, pJ_s, pV_s, pR_s, pR_n, oR_n, oR_s, decide_true, decide_false, not_true_eq_false, not_false_eq_true, decT, decF, Bool.true_eq_false, Bool.false_eq_true, z01, o01, z1f, z1f', zz, oo, b2i_0, b2i_n, b2i_t, b2i_f, Bool.not_true, Bool.not_false]
    · simp (disch := omega) only [h1, h2, g, e_X12_isKeep_4, e_X12_isKeep_14, e_X12_isKeep_19, true_and, and_true, false_and, and_false, beq_t, beq_f, eqN_t, eqN_f, eqL_t, eqL_f, nm1, nm2, nm1', nm2', m1z, m2z, zm1, zm2, m12, m21, lg_cmp_ge, lg_cmp_le, lg_cmp_gt, lg_cmp_lt, lg_cmp_eq, oob, oobL, neg0, negL0, natle_f, or_false, false_or, true_or, or_true, or_self, cl, clL, le_t, le_f, lt_t, lt_f, leL_t, leL_f, ltL_t, ltL_f, leM_t, leM_f, ltM_t, ltM_f, leO_t, leO_f, cond_true, cond_false, Option.bind_some, Option.bind_none, if_false, if_true, nI_1, aL1, aL2, mL1, mL2, nI_add, pk_mul, pk_m1, sL1, dL1, pk_sub, m1p1, gIs_eq, gIs_k, gIs_i, gIs_n, gIs_e, gIJ, gIR, gJI, gJR, gJs_eq, gJs_k, gJs_n, gJs_e, gRI, gRJ, gRs_eq, gRs_k, gRs_i, gRs_n, gZI, gZJ, gZR, pI_s, pJ_s, pV_s, pR_s, pR_n, oR_n, oR_s, decide_true, decide_false, not_true_eq_false, not_false_eq_true, decT, decF, Bool.true_eq_false, Bool.false_eq_true, z01, o01, z1f, z1f', zz, oo, b2i_0, b2i_n, b2i_t, b2i_f, Bool.not_true, Bool.not_false]
theorem m_isPerson {w : XW} {d : Dl} (hd : MdAt w d) (hD : DOk d) (x : Int32) : F_X12_isPerson [.inr (11, 0), .inl (.int x)] w = some (b2i (decide (¬ x < 0 ∧ ¬ nI (pn d) ≤ x)), w) := by
  have g : gI w 50 0 4 = nI (pn d) := by rw [hd.1 4 (by omega)]; exact hD.2.1.1
  rw [f_X12_isPerson, e_X12_isPerson_0]
  by_cases h1 : x < 0
  · simp (disch := omega) only [h1, e_X12_isPerson_18, e_X12_isPerson_19, true_and, and_true, false_and, and_false, beq_t, beq_f, eqN_t, eqN_f, eqL_t, eqL_f, nm1, nm2, nm1', nm2', m1z, m2z, zm1, zm2, m12, m21, lg_cmp_ge, lg_cmp_le, lg_cmp_gt, lg_cmp_lt, lg_cmp_eq, oob, oobL, neg0, negL0, natle_f, or_false, false_or, true_or, or_true, or_self, cl, clL, le_t, le_f, lt_t, lt_f, leL_t, leL_f, ltL_t, ltL_f, leM_t, leM_f, ltM_t, ltM_f, leO_t, leO_f, cond_true, cond_false, Option.bind_some, Option.bind_none, if_false, if_true, nI_1, aL1, aL2, mL1, mL2, nI_add, pk_mul, pk_m1, sL1, dL1, pk_sub, m1p1, gIs_eq, gIs_k, gIs_i, gIs_n, gIs_e, gIJ, gIR, gJI, gJR, gJs_eq, gJs_k, gJs_n, gJs_e, gRI, gRJ, gRs_eq, gRs_k, gRs_i, gRs_n, gZI, gZJ, gZR, pI_s, pJ_s, pV_s, pR_s, pR_n, oR_n, oR_s, decide_true, decide_false, not_true_eq_false, not_false_eq_true, decT, decF, Bool.true_eq_false, Bool.false_eq_true, z01, o01, z1f, z1f', zz, oo, b2i_0, b2i_n, b2i_t, b2i_f, Bool.not_true, Bool.not_false]
  · by_cases h2 : nI (pn d) ≤ x
    · simp (disch := omega) only [h1, h2, g, e_X12_isPerson_4, e_X12_isPerson_18, e_X12_isPerson_19, true_and, and_true, false_and, and_false, beq_t, beq_f, eqN_t, eqN_f, eqL_t, eqL_f, nm1, nm2, nm1', nm2', m1z, m2z, zm1, zm2, m12, m21, lg_cmp_ge, lg_cmp_le, lg_cmp_gt, lg_cmp_lt, lg_cmp_eq, oob, oobL, neg0, negL0, natle_f, or_false, false_or, true_or, or_true, or_self, cl, clL, le_t, le_f, lt_t, lt_f, leL_t, leL_f, ltL_t, ltL_f, leM_t, leM_f, ltM_t, ltM_f, leO_t, leO_f, cond_true, cond_false, Option.bind_some, Option.bind_none, if_false, if_true, nI_1, aL1, aL2, mL1, mL2, nI_add, pk_mul, pk_m1, sL1, dL1, pk_sub, m1p1, gIs_eq, gIs_k, gIs_i, gIs_n, gIs_e, gIJ, gIR, gJI, gJR, gJs_eq, gJs_k, gJs_n, gJs_e, gRI, gRJ, gRs_eq, gRs_k, gRs_i, gRs_n, gZI, gZJ, gZR, pI_s, pJ_s, pV_s, pR_s, pR_n, oR_n, oR_s, decide_true, decide_false, not_true_eq_false, not_false_eq_true, decT, decF, Bool.true_eq_false, Bool.false_eq_true, z01, o01, z1f, z1f', zz, oo, b2i_0, b2i_n, b2i_t, b2i_f, Bool.not_true, Bool.not_false]
    · simp (disch := omega) only [h1, h2, g, e_X12_isPerson_4, e_X12_isPerson_14, e_X12_isPerson_19, true_and, and_true, false_and, and_false, beq_t, beq_f, eqN_t, eqN_f, eqL_t, eqL_f, nm1, nm2, nm1', nm2', m1z, m2z, zm1, zm2, m12, m21, lg_cmp_ge, lg_cmp_le, lg_cmp_gt, lg_cmp_lt, lg_cmp_eq, oob, oobL, neg0, negL0, natle_f, or_false, false_or, true_or, or_true, or_self, cl, clL, le_t, le_f, lt_t, lt_f, leL_t, leL_f, ltL_t, ltL_f, leM_t, leM_f, ltM_t, ltM_f, leO_t, leO_f, cond_true, cond_false, Option.bind_some, Option.bind_none, if_false, if_true, nI_1, aL1, aL2, mL1, mL2, nI_add, pk_mul, pk_m1, sL1, dL1, pk_sub, m1p1, gIs_eq, gIs_k, gIs_i, gIs_n, gIs_e, gIJ, gIR, gJI, gJR, gJs_eq, gJs_k, gJs_n, gJs_e, gRI, gRJ, gRs_eq, gRs_k, gRs_i, gRs_n, gZI, gZJ, gZR, pI_s, pJ_s, pV_s, pR_s, pR_n, oR_n, oR_s, decide_true, decide_false, not_true_eq_false, not_false_eq_true, decT, decF, Bool.true_eq_false, Bool.false_eq_true, z01, o01, z1f, z1f', zz, oo, b2i_0, b2i_n, b2i_t, b2i_f, Bool.not_true, Bool.not_false]
theorem m_isField {w : XW} {d : Dl} (hd : MdAt w d) (hD : DOk d) (x : Int32) : F_X12_isField [.inr (11, 0), .inl (.int x)] w = some (b2i (decide (¬ x < 0 ∧ ¬ nI (fn d) ≤ x)), w) := by
  have g : gI w 50 0 5 = nI (fn d) := by rw [hd.1 5 (by omega)]; exact hD.2.2.1.1
  rw [f_X12_isField, e_X12_isField_0]
  by_cases h1 : x < 0
  · simp (disch := omega) only [h1, e_X12_isField_18, e_X12_isField_19, true_and, and_true, false_and, and_false, beq_t, beq_f, eqN_t, eqN_f, eqL_t, eqL_f, nm1, nm2, nm1', nm2', m1z, m2z, zm1, zm2, m12, m21, lg_cmp_ge, lg_cmp_le, lg_cmp_gt, lg_cmp_lt, lg_cmp_eq, oob, oobL, neg0, negL0, natle_f, or_false, false_or, true_or, or_true, or_self, cl, clL, le_t, le_f, lt_t, lt_f, leL_t, leL_f, ltL_t, ltL_f, leM_t, leM_f, ltM_t, ltM_f, leO_t, leO_f, cond_true, cond_false, Option.bind_some, Option.bind_none, if_false, if_true, nI_1, aL1, aL2, mL1, mL2, nI_add, pk_mul, pk_m1, sL1, dL1, pk_sub, m1p1, gIs_eq, gIs_k, gIs_i, gIs_n, gIs_e, gIJ, gIR, gJI, gJR, gJs_eq, gJs_k, gJs_n, gJs_e, gRI, gRJ, gRs_eq, gRs_k, gRs_i, gRs_n, gZI, gZJ, gZR, pI_s, pJ_s, pV_s, pR_s, pR_n, oR_n, oR_s, decide_true, decide_false, not_true_eq_false, not_false_eq_true, decT, decF, Bool.true_eq_false, Bool.false_eq_true, z01, o01, z1f, z1f', zz, oo, b2i_0, b2i_n, b2i_t, b2i_f, Bool.not_true, Bool.not_false]
  · by_cases h2 : nI (fn d) ≤ x
    · simp (disch := omega) only [h1, h2, g, e_X12_isField_4, e_X12_isField_18, e_X12_isField_19, true_and, and_true, false_and, and_false, beq_t, beq_f, eqN_t, eqN_f, eqL_t, eqL_f, nm1, nm2, nm1', nm2', m1z, m2z, zm1, zm2, m12, m21, lg_cmp_ge, lg_cmp_le, lg_cmp_gt, lg_cmp_lt, lg_cmp_eq, oob, oobL, neg0, negL0, natle_f, or_false, false_or, true_or, or_true, or_self, cl, clL, le_t, le_f, lt_t, lt_f, leL_t, leL_f, ltL_t, ltL_f, leM_t, leM_f, ltM_t, ltM_f, leO_t, leO_f, cond_true, cond_false, Option.bind_some, Option.bind_none, if_false, if_true, nI_1, aL1, aL2, mL1, mL2, nI_add, pk_mul, pk_m1, sL1, dL1, pk_sub, m1p1, gIs_eq, gIs_k, gIs_i, gIs_n, gIs_e, gIJ, gIR, gJI, gJR, gJs_eq, gJs_k, gJs_n, gJs_e, gRI, gRJ, gRs_eq, gRs_k, gRs_i, gRs_n, gZI, gZJ, gZR, pI_s, pJ_s, pV_s, pR_s, pR_n, oR_n, oR_s, decide_true, decide_false, not_true_eq_false, not_false_eq_true, decT, decF, Bool.true_eq_false, Bool.false_eq_true, z01, o01, z1f, z1f', zz, oo, b2i_0, b2i_n, b2i_t, b2i_f, Bool.not_true, Bool.not_false]
    · simp (disch := omega) only [h1, h2, g, e_X12_isField_4, e_X12_isField_14, e_X12_isField_19, true_and, and_true, false_and, and_false, beq_t, beq_f, eqN_t, eqN_f, eqL_t, eqL_f, nm1, nm2, nm1', nm2', m1z, m2z, zm1, zm2, m12, m21, lg_cmp_ge, lg_cmp_le, lg_cmp_gt, lg_cmp_lt, lg_cmp_eq, oob, oobL, neg0, negL0, natle_f, or_false, false_or, true_or, or_true, or_self, cl, clL, le_t, le_f, lt_t, lt_f, leL_t, leL_f, ltL_t, ltL_f, leM_t, leM_f, ltM_t, ltM_f, leO_t, leO_f, cond_true, cond_false, Option.bind_some, Option.bind_none, if_false, if_true, nI_1, aL1, aL2, mL1, mL2, nI_add, pk_mul, pk_m1, sL1, dL1, pk_sub, m1p1, gIs_eq, gIs_k, gIs_i, gIs_n, gIs_e, gIJ, gIR, gJI, gJR, gJs_eq, gJs_k, gJs_n, gJs_e, gRI, gRJ, gRs_eq, gRs_k, gRs_i, gRs_n, gZI, gZJ, gZR, pI_s, pJ_s, pV_s, pR_s, pR_n, oR_n, oR_s, decide_true, decide_false, not_true_eq_false, not_false_eq_true, decT, decF, Bool.true_eq_false, Bool.false_eq_true, z01, o01, z1f, z1f', zz, oo, b2i_0, b2i_n, b2i_t, b2i_f, Bool.not_true, Bool.not_false]
theorem m_isHome {w : XW} {d : Dl} {s : Sc} (hd : MdAt w d) (hs : MsAt w s) (hD : DOk d) {k : Nat} (hk : k < kn d) : F_X12_isHome [.inr (11, 0), .inl (.int (nI k))] w = some (b2i (decide (s.2.2.2.1 k = -1)), w) := by
  have h6 := hD.1.2
  rw [p_X12_isHome hk h6 w (by rw [hd.1 3 (by omega)]; exact hD.1.1), (hs.2 k (by omega)).2.2.1]
theorem m_isBurnt {w : XW} {s : Sc} (hs : MsAt w s) {k : Nat} (hk : k < 6) : F_X12_isBurnt [.inr (11, 0), .inl (.int (nI k))] w = some (b2i (decide (s.2.2.2.1 k = -2)), w) := by
  rw [p_X12_isBurnt hk w, (hs.2 k hk).2.2.1]
theorem m_fullOf {w : XW} {s : Sc} (hs : MsAt w s) {k : Nat} (hk : k < 6) : F_X12_fullOf [.inr (11, 0), .inl (.int (nI k))] w = some (s.2.1 k, w) := by
  rw [p_X12_fullOf k hk w, (hs.2 k hk).1]
theorem m_heatOf {w : XW} {s : Sc} (hs : MsAt w s) {k : Nat} (hk : k < 6) : F_X12_heatOf [.inr (11, 0), .inl (.int (nI k))] w = some (s.2.2.1 k, w) := by
  rw [p_X12_heatOf k hk w, (hs.2 k hk).2.1]
theorem m_whereIs {w : XW} {s : Sc} (hs : MsAt w s) {k : Nat} (hk : k < 6) : F_X12_whereIs [.inr (11, 0), .inl (.int (nI k))] w = some (s.2.2.2.1 k, w) := by
  rw [p_X12_whereIs k hk w, (hs.2 k hk).2.2.1]
theorem m_besideOf {w : XW} {s : Sc} (hs : MsAt w s) {k : Nat} (hk : k < 6) : F_X12_besideOf [.inr (11, 0), .inl (.int (nI k))] w = some (s.2.2.2.2 k, w) := by
  rw [p_X12_besideOf k hk w, (hs.2 k hk).2.2.2]
theorem m_isDale {w : XW} {d : Dl} (hd : MdAt w d) : F_X12_isDale [.inr (11, 0)] w = some (b2i (decide (d.1 0 = 1)), w) := by
  have g := hd.1 0 (by omega)
  rw [f_X12_isDale, e_X12_isDale_0]
  by_cases h : d.1 0 = 1
  · simp (disch := omega) only [g, h, e_X12_isDale_10, e_X12_isDale_15, true_and, and_true, false_and, and_false, beq_t, beq_f, eqN_t, eqN_f, eqL_t, eqL_f, nm1, nm2, nm1', nm2', m1z, m2z, zm1, zm2, m12, m21, lg_cmp_ge, lg_cmp_le, lg_cmp_gt, lg_cmp_lt, lg_cmp_eq, oob, oobL, neg0, negL0, natle_f, or_false, false_or, true_or, or_true, or_self, cl, clL, le_t, le_f, lt_t, lt_f, leL_t, leL_f, ltL_t, ltL_f, leM_t, leM_f, ltM_t, ltM_f, leO_t, leO_f, cond_true, cond_false, Option.bind_some, Option.bind_none, if_false, if_true, nI_1, aL1, aL2, mL1, mL2, nI_add, pk_mul, pk_m1, sL1, dL1, pk_sub, m1p1, gIs_eq, gIs_k, gIs_i, gIs_n, gIs_e, gIJ, gIR, gJI, gJR, gJs_eq, gJs_k, gJs_n, gJs_e, gRI, gRJ, gRs_eq, gRs_k, gRs_i, gRs_n, gZI, gZJ, gZR, pI_s, pJ_s, pV_s, pR_s, pR_n, oR_n, oR_s, decide_true, decide_false, not_true_eq_false, not_false_eq_true, decT, decF, Bool.true_eq_false, Bool.false_eq_true, z01, o01, z1f, z1f', zz, oo, b2i_0, b2i_n, b2i_t, b2i_f, Bool.not_true, Bool.not_false]
  · simp (disch := omega) only [g, h, e_X12_isDale_14, e_X12_isDale_15, true_and, and_true, false_and, and_false, beq_t, beq_f, eqN_t, eqN_f, eqL_t, eqL_f, nm1, nm2, nm1', nm2', m1z, m2z, zm1, zm2, m12, m21, lg_cmp_ge, lg_cmp_le, lg_cmp_gt, lg_cmp_lt, lg_cmp_eq, oob, oobL, neg0, negL0, natle_f, or_false, false_or, true_or, or_true, or_self, cl, clL, le_t, le_f, lt_t, lt_f, leL_t, leL_f, ltL_t, ltL_f, leM_t, leM_f, ltM_t, ltM_f, leO_t, leO_f, cond_true, cond_false, Option.bind_some, Option.bind_none, if_false, if_true, nI_1, aL1, aL2, mL1, mL2, nI_add, pk_mul, pk_m1, sL1, dL1, pk_sub, m1p1, gIs_eq, gIs_k, gIs_i, gIs_n, gIs_e, gIJ, gIR, gJI, gJR, gJs_eq, gJs_k, gJs_n, gJs_e, gRI, gRJ, gRs_eq, gRs_k, gRs_i, gRs_n, gZI, gZJ, gZR, pI_s, pJ_s, pV_s, pR_s, pR_n, oR_n, oR_s, decide_true, decide_false, not_true_eq_false, not_false_eq_true, decT, decF, Bool.true_eq_false, Bool.false_eq_true, z01, o01, z1f, z1f', zz, oo, b2i_0, b2i_n, b2i_t, b2i_f, Bool.not_true, Bool.not_false]
/-- all of them together, how full they are -/
def faS (d : Dl) (s : Sc) : Int32 := smn s.2.1 (kn d)
theorem smn_congr {f g : Nat → Int32} {n : Nat} (h : ∀ k, k < n → f k = g k) : smn f n = smn g n := by
  unfold smn
  exact itr_congr n 0 0 (fun j s _ h2 => by rw [h j (by omega)])
theorem m_fullAll {w : XW} {d : Dl} {s : Sc} (hd : MdAt w d) (hs : MsAt w s) (hD : DOk d) : F_X12_fullAll [.inr (11, 0)] w = some (faS d s, w) := by
  have h6 := hD.1.2
  rw [p_X12_fullAll (kn d) h6 w (by rw [hd.1 3 (by omega)]; exact hD.1.1)]
  unfold faS
  rw [smn_congr (fun k hk => (hs.2 k (by omega)).1)]
theorem c_fullAll {w : XW} {d : Dl} {s : Sc} {i : Nat} (hs : ScAt w i s) (h0 : gI w 8 i 0 = d.1 3) (hD : DOk d) : F_X9_fullAll [.inr (8, i)] w = some (faS d s, w) := by
  have h6 := hD.1.2
  rw [p_X9_fullAll i (kn d) h6 w (h0.trans hD.1.1)]
  unfold faS
  rw [smn_congr (fun k hk => (hs.2 k (by omega)).1)]
theorem c_homeBits {w : XW} {d : Dl} {s : Sc} {i : Nat} (hs : ScAt w i s) (h0 : gI w 8 i 0 = d.1 3) (hD : DOk d) : F_X9_homeBits [.inr (8, i)] w = some (hmS d s.2.2.2.1, w) := by
  have h6 := hD.1.2
  rw [p_X9_homeBits i (kn d) h6 w (h0.trans hD.1.1)]
  unfold hmS
  rw [bts_congr (fun k hk => by rw [(hs.2 k (by omega)).2.2.1])]
theorem c_burntBits {w : XW} {d : Dl} {s : Sc} {i : Nat} (hs : ScAt w i s) (h0 : gI w 8 i 0 = d.1 3) (hD : DOk d) : F_X9_burntBits [.inr (8, i)] w = some (brS d s.2.2.2.1, w) := by
  have h6 := hD.1.2
  rw [p_X9_burntBits i (kn d) h6 w (h0.trans hD.1.1)]
  unfold brS
  rw [bts_congr (fun k hk => by rw [(hs.2 k (by omega)).2.2.1])]
theorem fst1_congr {P Q : Nat → Bool} : ∀ (m k : Nat), (∀ j, k ≤ j → j < k + m → P j = Q j) → fst1 P k m = fst1 Q k m := by
  intro m
  induction m with
  | zero => intro k _; rfl
  | succ m ih =>
    intro k h
    unfold fst1
    rw [h k (Nat.le_refl _) (by omega), ih (k + 1) (fun j h1 h2 => h j (by omega) (by omega))]
def kiS (d : Dl) (s : Sc) (x : Int32) : Int32 := fst1 (fun k => decide (s.2.2.2.1 k = x)) 0 (kn d)
theorem c_keepIn {w : XW} {d : Dl} {s : Sc} {i : Nat} (hs : ScAt w i s) (h0 : gI w 8 i 0 = d.1 3) (hD : DOk d) (x : Int32) : F_X9_keepIn [.inr (8, i), .inl (.int x)] w = some (kiS d s x, w) := by
  have h6 := hD.1.2
  rw [p_X9_keepIn i (kn d) h6 x w (h0.trans hD.1.1)]
  unfold kiS
  rw [fst1_congr _ _ (fun k _ hk => by rw [(hs.2 k (by omega)).2.2.1])]
theorem m_keepIn {w : XW} {d : Dl} {s : Sc} (hd : MdAt w d) (hs : MsAt w s) (hD : DOk d) (x : Int32) : F_X12_keepIn [.inr (11, 0), .inl (.int x)] w = some (kiS d s x, w) := by
  have h6 := hD.1.2
  have h3 : gI w 50 0 3 = nI (kn d) := by rw [hd.1 3 (by omega)]; exact hD.1.1
  rw [f_X12_keepIn, e_X12_keepIn_0]
  have key : ∀ m k, k + m = kn d → q_X12_keepIn_2 x (nI k) w = some (some (.inl (.int (fst1 (fun k => decide (s.2.2.2.1 k = x)) k m))), w) := by
    intro m
    induction m with
    | zero =>
      intro k hk
      ((try dsimp only); rw [e_X12_keepIn_2]; simp (disch := omega) only [h3, e_X12_keepIn_29, true_and, and_true, false_and, and_false, beq_t, beq_f, eqN_t, eqN_f, eqL_t, eqL_f, nm1, nm2, nm1', nm2', m1z, m2z, zm1, zm2, m12, m21, lg_cmp_ge, lg_cmp_le, lg_cmp_gt, lg_cmp_lt, lg_cmp_eq, oob, oobL, neg0, negL0, natle_f, or_false, false_or, true_or, or_true, or_self, cl, clL, le_t, le_f, lt_t, lt_f, leL_t, leL_f, ltL_t, ltL_f, leM_t, leM_f, ltM_t, ltM_f, leO_t, leO_f, cond_true, cond_false, Option.bind_some, Option.bind_none, if_false, if_true, nI_1, aL1, aL2, mL1, mL2, nI_add, pk_mul, pk_m1, sL1, dL1, pk_sub, m1p1, gIs_eq, gIs_k, gIs_i, gIs_n, gIs_e, gIJ, gIR, gJI, gJR, gJs_eq, gJs_k, gJs_n, gJs_e, gRI, gRJ, gRs_eq, gRs_k, gRs_i, gRs_n, gZI, gZJ, gZR, pI_s, pJ_s, pV_s, pR_s, pR_n, oR_n, oR_s, decide_true, decide_false, not_true_eq_false, not_false_eq_true, decT, decF, Bool.true_eq_false, Bool.false_eq_true, z01, o01, z1f, z1f', zz, oo, b2i_0, b2i_n, b2i_t, b2i_f, Bool.not_true, Bool.not_false])
      rfl
    | succ m ih =>
      intro k hk
      ((try dsimp only); rw [e_X12_keepIn_2]; simp (disch := omega) only [h3, e_X12_keepIn_12, m_whereIs hs (k := k) (by omega), true_and, and_true, false_and, and_false, beq_t, beq_f, eqN_t, eqN_f, eqL_t, eqL_f, nm1, nm2, nm1', nm2', m1z, m2z, zm1, zm2, m12, m21, lg_cmp_ge, lg_cmp_le, lg_cmp_gt, lg_cmp_lt, lg_cmp_eq, oob, oobL, neg0, negL0, natle_f, or_false, false_or, true_or, or_true, or_self, cl, clL, le_t, le_f, lt_t, lt_f, leL_t, leL_f, ltL_t, ltL_f, leM_t, leM_f, ltM_t, ltM_f, leO_t, leO_f, cond_true, cond_false, Option.bind_some, Option.bind_none, if_false, if_true, nI_1, aL1, aL2, mL1, mL2, nI_add, pk_mul, pk_m1, sL1, dL1, pk_sub, m1p1, gIs_eq, gIs_k, gIs_i, gIs_n, gIs_e, gIJ, gIR, gJI, gJR, gJs_eq, gJs_k, gJs_n, gJs_e, gRI, gRJ, gRs_eq, gRs_k, gRs_i, gRs_n, gZI, gZJ, gZR, pI_s, pJ_s, pV_s, pR_s, pR_n, oR_n, oR_s, decide_true, decide_false, not_true_eq_false, not_false_eq_true, decT, decF, Bool.true_eq_false, Bool.false_eq_true, z01, o01, z1f, z1f', zz, oo, b2i_0, b2i_n, b2i_t, b2i_f, Bool.not_true, Bool.not_false])
      by_cases hq : s.2.2.2.1 k = x
      · simp (disch := omega) only [hq, e_X12_keepIn_21, true_and, and_true, false_and, and_false, beq_t, beq_f, eqN_t, eqN_f, eqL_t, eqL_f, nm1, nm2, nm1', nm2', m1z, m2z, zm1, zm2, m12, m21, lg_cmp_ge, lg_cmp_le, lg_cmp_gt, lg_cmp_lt, lg_cmp_eq, oob, oobL, neg0, negL0, natle_f, or_false, false_or, true_or, or_true, or_self, cl, clL, le_t, le_f, lt_t, lt_f, leL_t, leL_f, ltL_t, ltL_f, leM_t, leM_f, ltM_t, ltM_f, leO_t, leO_f, cond_true, cond_false, Option.bind_some, Option.bind_none, if_false, if_true, nI_1, aL1, aL2, mL1, mL2, nI_add, pk_mul, pk_m1, sL1, dL1, pk_sub, m1p1, gIs_eq, gIs_k, gIs_i, gIs_n, gIs_e, gIJ, gIR, gJI, gJR, gJs_eq, gJs_k, gJs_n, gJs_e, gRI, gRJ, gRs_eq, gRs_k, gRs_i, gRs_n, gZI, gZJ, gZR, pI_s, pJ_s, pV_s, pR_s, pR_n, oR_n, oR_s, decide_true, decide_false, not_true_eq_false, not_false_eq_true, decT, decF, Bool.true_eq_false, Bool.false_eq_true, z01, o01, z1f, z1f', zz, oo, b2i_0, b2i_n, b2i_t, b2i_f, Bool.not_true, Bool.not_false]
        simp only [fst1, hq, decide_true, if_true]
      · simp (disch := omega) only [hq, e_X12_keepIn_23, true_and, and_true, false_and, and_false, beq_t, beq_f, eqN_t, eqN_f, eqL_t, eqL_f, nm1, nm2, nm1', nm2', m1z, m2z, zm1, zm2, m12, m21, lg_cmp_ge, lg_cmp_le, lg_cmp_gt, lg_cmp_lt, lg_cmp_eq, oob, oobL, neg0, negL0, natle_f, or_false, false_or, true_or, or_true, or_self, cl, clL, le_t, le_f, lt_t, lt_f, leL_t, leL_f, ltL_t, ltL_f, leM_t, leM_f, ltM_t, ltM_f, leO_t, leO_f, cond_true, cond_false, Option.bind_some, Option.bind_none, if_false, if_true, nI_1, aL1, aL2, mL1, mL2, nI_add, pk_mul, pk_m1, sL1, dL1, pk_sub, m1p1, gIs_eq, gIs_k, gIs_i, gIs_n, gIs_e, gIJ, gIR, gJI, gJR, gJs_eq, gJs_k, gJs_n, gJs_e, gRI, gRJ, gRs_eq, gRs_k, gRs_i, gRs_n, gZI, gZJ, gZR, pI_s, pJ_s, pV_s, pR_s, pR_n, oR_n, oR_s, decide_true, decide_false, not_true_eq_false, not_false_eq_true, decT, decF, Bool.true_eq_false, Bool.false_eq_true, z01, o01, z1f, z1f', zz, oo, b2i_0, b2i_n, b2i_t, b2i_f, Bool.not_true, Bool.not_false]
        rw [ih (k + 1) (by omega)]
        simp only [fst1, hq, decide_false, Bool.false_eq_true, if_false]
  have := key (kn d) 0 (by omega)
  rw [nI_0] at this
  rw [this]
  rfl
theorem fst1_range {P : Nat → Bool} : ∀ (m k : Nat), fst1 P k m = -1 ∨ ∃ j, k ≤ j ∧ j < k + m ∧ P j = true ∧ fst1 P k m = nI j := by
  intro m
  induction m with
  | zero => intro k; exact Or.inl rfl
  | succ m ih =>
    intro k
    unfold fst1
    cases h : P k with
    | true => exact Or.inr ⟨k, Nat.le_refl _, by omega, h, if_pos rfl⟩
    | false =>
      rw [if_neg Bool.false_ne_true]
      rcases ih (k + 1) with q | ⟨j, h1, h2, h3, h4⟩
      · exact Or.inl q
      · exact Or.inr ⟨j, by omega, by omega, h3, h4⟩
theorem ki_range (d : Dl) (s : Sc) (x : Int32) : kiS d s x = -1 ∨ ∃ j, j < kn d ∧ s.2.2.2.1 j = x ∧ kiS d s x = nI j := by
  rcases fst1_range (P := fun k => decide (s.2.2.2.1 k = x)) (kn d) 0 with h | ⟨j, _, h2, h3, h4⟩
  · exact Or.inl h
  · exact Or.inr ⟨j, by omega, of_decide_eq_true h3, h4⟩
/-- how much keep k keeps off field f -/
def koS (d : Dl) (s : Sc) (k f : Nat) : Int32 := fillS (d.2.2.2.2.2.2 f) (s.2.1 k)
theorem m_keptOffBy {w : XW} {d : Dl} {s : Sc} (hd : MdAt w d) (hs : MsAt w s) {k f : Nat} (hk : k < 6) (hf : f < 4) : F_X12_keptOffBy [.inr (11, 0), .inl (.int (nI k)), .inl (.int (nI f))] w = some (koS d s k f, w) := by
  have g := hd.2.2.2 f hf
  rw [f_X12_keptOffBy, e_X12_keptOffBy_0, m_fullOf hs hk]
  unfold koS fillS
  by_cases h : d.2.2.2.2.2.2 f ≤ s.2.1 k
  · have h2 : ¬ s.2.1 k < d.2.2.2.2.2.2 f := by
      rw [Int32.lt_iff_toInt_lt]
      rw [Int32.le_iff_toInt_le] at h
      omega
    simp (disch := omega) only [g, h, h2, e_X12_keptOffBy_25, e_X12_keptOffBy_34, true_and, and_true, false_and, and_false, beq_t, beq_f, eqN_t, eqN_f, eqL_t, eqL_f, nm1, nm2, nm1', nm2', m1z, m2z, zm1, zm2, m12, m21, lg_cmp_ge, lg_cmp_le, lg_cmp_gt, lg_cmp_lt, lg_cmp_eq, oob, oobL, neg0, negL0, natle_f, or_false, false_or, true_or, or_true, or_self, cl, clL, le_t, le_f, lt_t, lt_f, leL_t, leL_f, ltL_t, ltL_f, leM_t, leM_f, ltM_t, ltM_f, leO_t, leO_f, cond_true, cond_false, Option.bind_some, Option.bind_none, if_false, if_true, nI_1, aL1, aL2, mL1, mL2, nI_add, pk_mul, pk_m1, sL1, dL1, pk_sub, m1p1, gIs_eq, gIs_k, gIs_i, gIs_n, gIs_e, gIJ, gIR, gJI, gJR, gJs_eq, gJs_k, gJs_n, gJs_e, gRI, gRJ, gRs_eq, gRs_k, gRs_i, gRs_n, gZI, gZJ, gZR, pI_s, pJ_s, pV_s, pR_s, pR_n, oR_n, oR_s, decide_true, decide_false, not_true_eq_false, not_false_eq_true, decT, decF, Bool.true_eq_false, Bool.false_eq_true, z01, o01, z1f, z1f', zz, oo, b2i_0, b2i_n, b2i_t, b2i_f, Bool.not_true, Bool.not_false]
  · have h2 : s.2.1 k < d.2.2.2.2.2.2 f := Int32.not_le.mp h
    simp (disch := omega) only [g, h, h2, e_X12_keptOffBy_17, m_fullOf hs hk, e_X12_keptOffBy_34, true_and, and_true, false_and, and_false, beq_t, beq_f, eqN_t, eqN_f, eqL_t, eqL_f, nm1, nm2, nm1', nm2', m1z, m2z, zm1, zm2, m12, m21, lg_cmp_ge, lg_cmp_le, lg_cmp_gt, lg_cmp_lt, lg_cmp_eq, oob, oobL, neg0, negL0, natle_f, or_false, false_or, true_or, or_true, or_self, cl, clL, le_t, le_f, lt_t, lt_f, leL_t, leL_f, ltL_t, ltL_f, leM_t, leM_f, ltM_t, ltM_f, leO_t, leO_f, cond_true, cond_false, Option.bind_some, Option.bind_none, if_false, if_true, nI_1, aL1, aL2, mL1, mL2, nI_add, pk_mul, pk_m1, sL1, dL1, pk_sub, m1p1, gIs_eq, gIs_k, gIs_i, gIs_n, gIs_e, gIJ, gIR, gJI, gJR, gJs_eq, gJs_k, gJs_n, gJs_e, gRI, gRJ, gRs_eq, gRs_k, gRs_i, gRs_n, gZI, gZJ, gZR, pI_s, pJ_s, pV_s, pR_s, pR_n, oR_n, oR_s, decide_true, decide_false, not_true_eq_false, not_false_eq_true, decT, decF, Bool.true_eq_false, Bool.false_eq_true, z01, o01, z1f, z1f', zz, oo, b2i_0, b2i_n, b2i_t, b2i_f, Bool.not_true, Bool.not_false]
theorem c_keptOff {w : XW} {d : Dl} {s : Sc} (hd : CD w d) (hs : ScAt w 0 s) (hD : DOk d) {k f : Nat} (hk : k < kn d) (hf : f < fn d) : F_X11_keptOff [.inr (10, 0), .inl (.int (nI k)), .inl (.int (nI f))] w = some (koS d s k f, w) := by
  have h6 := hD.1.2
  have h4 := hD.2.2.1.2
  have k1 := c_isKeep hd hD (nI k)
  have k2 := c_isField hd hD (nI f)
  obtain ⟨jd, h1, h2⟩ := hd
  have e1 : (¬ nI k < 0 ∧ ¬ nI (kn d) ≤ nI k) := ⟨nI_pos (by omega), nI_ge hk (by omega)⟩
  have e2 : (¬ nI f < 0 ∧ ¬ nI (fn d) ≤ nI f) := ⟨nI_pos (by omega), nI_ge hf (by omega)⟩
  have x1 := (hs.2 k (by omega)).1
  have x2 := h2.2.2.2 f (by omega)
  rw [decT e1] at k1
  rw [decT e2] at k2
  rw [f_X11_keptOff, e_X11_keptOff_0]
  simp (disch := omega) only [k1, e_X11_keptOff_8, k2, e_X11_keptOff_16, h1, x1, x2, e_X11_keptOff_41, true_and, and_true, false_and, and_false, beq_t, beq_f, eqN_t, eqN_f, eqL_t, eqL_f, nm1, nm2, nm1', nm2', m1z, m2z, zm1, zm2, m12, m21, lg_cmp_ge, lg_cmp_le, lg_cmp_gt, lg_cmp_lt, lg_cmp_eq, oob, oobL, neg0, negL0, natle_f, or_false, false_or, true_or, or_true, or_self, cl, clL, le_t, le_f, lt_t, lt_f, leL_t, leL_f, ltL_t, ltL_f, leM_t, leM_f, ltM_t, ltM_f, leO_t, leO_f, cond_true, cond_false, Option.bind_some, Option.bind_none, if_false, if_true, nI_1, aL1, aL2, mL1, mL2, nI_add, pk_mul, pk_m1, sL1, dL1, pk_sub, m1p1, gIs_eq, gIs_k, gIs_i, gIs_n, gIs_e, gIJ, gIR, gJI, gJR, gJs_eq, gJs_k, gJs_n, gJs_e, gRI, gRJ, gRs_eq, gRs_k, gRs_i, gRs_n, gZI, gZJ, gZR, pI_s, pJ_s, pV_s, pR_s, pR_n, oR_n, oR_s, decide_true, decide_false, not_true_eq_false, not_false_eq_true, decT, decF, Bool.true_eq_false, Bool.false_eq_true, z01, o01, z1f, z1f', zz, oo, b2i_0, b2i_n, b2i_t, b2i_f, Bool.not_true, Bool.not_false]
  rfl
theorem c_keptOff0 {w : XW} {d : Dl} (hd : CD w d) (hD : DOk d) {x y : Int32} (h : (x < 0 ∨ nI (kn d) ≤ x) ∨ (y < 0 ∨ nI (fn d) ≤ y)) : F_X11_keptOff [.inr (10, 0), .inl (.int x), .inl (.int y)] w = some (0, w) := by
  have k1 := c_isKeep hd hD x
  have k2 := c_isField hd hD y
  rw [f_X11_keptOff, e_X11_keptOff_0]
  by_cases e1 : (¬ x < 0 ∧ ¬ nI (kn d) ≤ x)
  · have e2 : ¬ (¬ y < 0 ∧ ¬ nI (fn d) ≤ y) := fun q => by
      rcases h with h | h
      · rcases h with h | h
        · exact e1.1 h
        · exact e1.2 h
      · rcases h with h | h
        · exact q.1 h
        · exact q.2 h
    rw [decT e1] at k1
    rw [decF e2] at k2
    simp (disch := omega) only [k1, e_X11_keptOff_8, k2, e_X11_keptOff_40, e_X11_keptOff_41, true_and, and_true, false_and, and_false, beq_t, beq_f, eqN_t, eqN_f, eqL_t, eqL_f, nm1, nm2, nm1', nm2', m1z, m2z, zm1, zm2, m12, m21, lg_cmp_ge, lg_cmp_le, lg_cmp_gt, lg_cmp_lt, lg_cmp_eq, oob, oobL, neg0, negL0, natle_f, or_false, false_or, true_or, or_true, or_self, cl, clL, le_t, le_f, lt_t, lt_f, leL_t, leL_f, ltL_t, ltL_f, leM_t, leM_f, ltM_t, ltM_f, leO_t, leO_f, cond_true, cond_false, Option.bind_some, Option.bind_none, if_false, if_true, nI_1, aL1, aL2, mL1, mL2, nI_add, pk_mul, pk_m1, sL1, dL1, pk_sub, m1p1, gIs_eq, gIs_k, gIs_i, gIs_n, gIs_e, gIJ, gIR, gJI, gJR, gJs_eq, gJs_k, gJs_n, gJs_e, gRI, gRJ, gRs_eq, gRs_k, gRs_i, gRs_n, gZI, gZJ, gZR, pI_s, pJ_s, pV_s, pR_s, pR_n, oR_n, oR_s, decide_true, decide_false, not_true_eq_false, not_false_eq_true, decT, decF, Bool.true_eq_false, Bool.false_eq_true, z01, o01, z1f, z1f', zz, oo, b2i_0, b2i_n, b2i_t, b2i_f, Bool.not_true, Bool.not_false]
  · rw [decF e1] at k1
    simp (disch := omega) only [k1, e_X11_keptOff_40, e_X11_keptOff_41, true_and, and_true, false_and, and_false, beq_t, beq_f, eqN_t, eqN_f, eqL_t, eqL_f, nm1, nm2, nm1', nm2', m1z, m2z, zm1, zm2, m12, m21, lg_cmp_ge, lg_cmp_le, lg_cmp_gt, lg_cmp_lt, lg_cmp_eq, oob, oobL, neg0, negL0, natle_f, or_false, false_or, true_or, or_true, or_self, cl, clL, le_t, le_f, lt_t, lt_f, leL_t, leL_f, ltL_t, ltL_f, leM_t, leM_f, ltM_t, ltM_f, leO_t, leO_f, cond_true, cond_false, Option.bind_some, Option.bind_none, if_false, if_true, nI_1, aL1, aL2, mL1, mL2, nI_add, pk_mul, pk_m1, sL1, dL1, pk_sub, m1p1, gIs_eq, gIs_k, gIs_i, gIs_n, gIs_e, gIJ, gIR, gJI, gJR, gJs_eq, gJs_k, gJs_n, gJs_e, gRI, gRJ, gRs_eq, gRs_k, gRs_i, gRs_n, gZI, gZJ, gZR, pI_s, pJ_s, pV_s, pR_s, pR_n, oR_n, oR_s, decide_true, decide_false, not_true_eq_false, not_false_eq_true, decT, decF, Bool.true_eq_false, Bool.false_eq_true, z01, o01, z1f, z1f', zz, oo, b2i_0, b2i_n, b2i_t, b2i_f, Bool.not_true, Bool.not_false]
def koaS (d : Dl) (s : Sc) : Int32 := itr (fun k c => c + (bif decide (s.2.2.2.1 k < 0) then 0 else koS d s k (s.2.2.2.1 k).toNatClampNeg)) 0 (kn d) 0
theorem pl_cases {d : Dl} {s : Sc} (hS : SOk d s) {k : Nat} (hk : k < kn d) (h6 : kn d ≤ 6) : (s.2.2.2.1 k < 0) ∨ ∃ f, f < fn d ∧ s.2.2.2.1 k = nI f := by
  rcases (hS k (by omega)).2.2.2.1 with h | h | ⟨f, h1, h2, h3⟩
  · left; rw [h]; decide
  · left; rw [h]; decide
  · exact Or.inr ⟨f, h2 hk, h3⟩
theorem c_keptOffAll {w : XW} {d : Dl} {s : Sc} (hd : CD w d) (hs : ScAt w 0 s) (hD : DOk d) (hS : SOk d s) : F_X11_keptOffAll [.inr (10, 0)] w = some (koaS d s, w) := by
  have h6 := hD.1.2
  have h4 := hD.2.2.1.2
  obtain ⟨jd, h1, h2⟩ := id hd
  have g : gI w 1 jd 3 = nI (kn d) := by rw [h2.1 3 (by omega)]; exact hD.1.1
  rw [f_X11_keptOffAll, e_X11_keptOffAll_0]
  have := itr_run (kn d) (fun k c => q_X11_keptOffAll_4 c (nI k) w) (fun k c => c + (bif decide (s.2.2.2.1 k < 0) then 0 else koS d s k (s.2.2.2.1 k).toNatClampNeg)) (fun c => some (some (.inl (.int c)), w)) (fun k c hk => by
    have x1 := (hs.2 k (by omega)).2.2.1
    ((try dsimp only); rw [e_X11_keptOffAll_4]; simp (disch := omega) only [h1, g, e_X11_keptOffAll_15, x1, true_and, and_true, false_and, and_false, beq_t, beq_f, eqN_t, eqN_f, eqL_t, eqL_f, nm1, nm2, nm1', nm2', m1z, m2z, zm1, zm2, m12, m21, lg_cmp_ge, lg_cmp_le, lg_cmp_gt, lg_cmp_lt, lg_cmp_eq, oob, oobL, neg0, negL0, natle_f, or_false, false_or, true_or, or_true, or_self, cl, clL, le_t, le_f, lt_t, lt_f, leL_t, leL_f, ltL_t, ltL_f, leM_t, leM_f, ltM_t, ltM_f, leO_t, leO_f, cond_true, cond_false, Option.bind_some, Option.bind_none, if_false, if_true, nI_1, aL1, aL2, mL1, mL2, nI_add, pk_mul, pk_m1, sL1, dL1, pk_sub, m1p1, gIs_eq, gIs_k, gIs_i, gIs_n, gIs_e, gIJ, gIR, gJI, gJR, gJs_eq, gJs_k, gJs_n, gJs_e, gRI, gRJ, gRs_eq, gRs_k, gRs_i, gRs_n, gZI, gZJ, gZR, pI_s, pJ_s, pV_s, pR_s, pR_n, oR_n, oR_s, decide_true, decide_false, not_true_eq_false, not_false_eq_true, decT, decF, Bool.true_eq_false, Bool.false_eq_true, z01, o01, z1f, z1f', zz, oo, b2i_0, b2i_n, b2i_t, b2i_f, Bool.not_true, Bool.not_false])
    rcases pl_cases hS hk h6 with hq | ⟨f, hf, e⟩
    · simp (disch := omega) only [c_keptOff0 hd hD (x := nI k) (y := s.2.2.2.1 k) (Or.inr (Or.inl hq)), hq, true_and, and_true, false_and, and_false, beq_t, beq_f, eqN_t, eqN_f, eqL_t, eqL_f, nm1, nm2, nm1', nm2', m1z, m2z, zm1, zm2, m12, m21, lg_cmp_ge, lg_cmp_le, lg_cmp_gt, lg_cmp_lt, lg_cmp_eq, oob, oobL, neg0, negL0, natle_f, or_false, false_or, true_or, or_true, or_self, cl, clL, le_t, le_f, lt_t, lt_f, leL_t, leL_f, ltL_t, ltL_f, leM_t, leM_f, ltM_t, ltM_f, leO_t, leO_f, cond_true, cond_false, Option.bind_some, Option.bind_none, if_false, if_true, nI_1, aL1, aL2, mL1, mL2, nI_add, pk_mul, pk_m1, sL1, dL1, pk_sub, m1p1, gIs_eq, gIs_k, gIs_i, gIs_n, gIs_e, gIJ, gIR, gJI, gJR, gJs_eq, gJs_k, gJs_n, gJs_e, gRI, gRJ, gRs_eq, gRs_k, gRs_i, gRs_n, gZI, gZJ, gZR, pI_s, pJ_s, pV_s, pR_s, pR_n, oR_n, oR_s, decide_true, decide_false, not_true_eq_false, not_false_eq_true, decT, decF, Bool.true_eq_false, Bool.false_eq_true, z01, o01, z1f, z1f', zz, oo, b2i_0, b2i_n, b2i_t, b2i_f, Bool.not_true, Bool.not_false]
    · rw [e]
      simp (disch := omega) only [c_keptOff hd hs hD hk hf, true_and, and_true, false_and, and_false, beq_t, beq_f, eqN_t, eqN_f, eqL_t, eqL_f, nm1, nm2, nm1', nm2', m1z, m2z, zm1, zm2, m12, m21, lg_cmp_ge, lg_cmp_le, lg_cmp_gt, lg_cmp_lt, lg_cmp_eq, oob, oobL, neg0, negL0, natle_f, or_false, false_or, true_or, or_true, or_self, cl, clL, le_t, le_f, lt_t, lt_f, leL_t, leL_f, ltL_t, ltL_f, leM_t, leM_f, ltM_t, ltM_f, leO_t, leO_f, cond_true, cond_false, Option.bind_some, Option.bind_none, if_false, if_true, nI_1, aL1, aL2, mL1, mL2, nI_add, pk_mul, pk_m1, sL1, dL1, pk_sub, m1p1, gIs_eq, gIs_k, gIs_i, gIs_n, gIs_e, gIJ, gIR, gJI, gJR, gJs_eq, gJs_k, gJs_n, gJs_e, gRI, gRJ, gRs_eq, gRs_k, gRs_i, gRs_n, gZI, gZJ, gZR, pI_s, pJ_s, pV_s, pR_s, pR_n, oR_n, oR_s, decide_true, decide_false, not_true_eq_false, not_false_eq_true, decT, decF, Bool.true_eq_false, Bool.false_eq_true, z01, o01, z1f, z1f', zz, oo, b2i_0, b2i_n, b2i_t, b2i_f, Bool.not_true, Bool.not_false]) (fun c => by ((try dsimp only); rw [e_X11_keptOffAll_4]; simp (disch := omega) only [h1, g, e_X11_keptOffAll_38, true_and, and_true, false_and, and_false, beq_t, beq_f, eqN_t, eqN_f, eqL_t, eqL_f, nm1, nm2, nm1', nm2', m1z, m2z, zm1, zm2, m12, m21, lg_cmp_ge, lg_cmp_le, lg_cmp_gt, lg_cmp_lt, lg_cmp_eq, oob, oobL, neg0, negL0, natle_f, or_false, false_or, true_or, or_true, or_self, cl, clL, le_t, le_f, lt_t, lt_f, leL_t, leL_f, ltL_t, ltL_f, leM_t, leM_f, ltM_t, ltM_f, leO_t, leO_f, cond_true, cond_false, Option.bind_some, Option.bind_none, if_false, if_true, nI_1, aL1, aL2, mL1, mL2, nI_add, pk_mul, pk_m1, sL1, dL1, pk_sub, m1p1, gIs_eq, gIs_k, gIs_i, gIs_n, gIs_e, gIJ, gIR, gJI, gJR, gJs_eq, gJs_k, gJs_n, gJs_e, gRI, gRJ, gRs_eq, gRs_k, gRs_i, gRs_n, gZI, gZJ, gZR, pI_s, pJ_s, pV_s, pR_s, pR_n, oR_n, oR_s, decide_true, decide_false, not_true_eq_false, not_false_eq_true, decT, decF, Bool.true_eq_false, Bool.false_eq_true, z01, o01, z1f, z1f', zz, oo, b2i_0, b2i_n, b2i_t, b2i_f, Bool.not_true, Bool.not_false])) 0
  rw [nI_0] at this
  rw [this]
  rfl
theorem m_keptOffAll {w : XW} {d : Dl} {s : Sc} (hd : MdAt w d) (hs : MsAt w s) (hD : DOk d) (hS : SOk d s) : F_X12_keptOffAll [.inr (11, 0)] w = some (koaS d s, w) := by
  have h6 := hD.1.2
  have h4 := hD.2.2.1.2
  have g : gI w 50 0 3 = nI (kn d) := by rw [hd.1 3 (by omega)]; exact hD.1.1
  rw [f_X12_keptOffAll, e_X12_keptOffAll_0]
  have := itr_run (kn d) (fun k c => q_X12_keptOffAll_4 c (nI k) w) (fun k c => c + (bif decide (s.2.2.2.1 k < 0) then 0 else koS d s k (s.2.2.2.1 k).toNatClampNeg)) (fun c => some (some (.inl (.int c)), w)) (fun k c hk => by
    have x1 := m_whereIs hs (k := k) (by omega)
    ((try dsimp only); rw [e_X12_keptOffAll_4]; simp (disch := omega) only [g, e_X12_keptOffAll_14, x1, true_and, and_true, false_and, and_false, beq_t, beq_f, eqN_t, eqN_f, eqL_t, eqL_f, nm1, nm2, nm1', nm2', m1z, m2z, zm1, zm2, m12, m21, lg_cmp_ge, lg_cmp_le, lg_cmp_gt, lg_cmp_lt, lg_cmp_eq, oob, oobL, neg0, negL0, natle_f, or_false, false_or, true_or, or_true, or_self, cl, clL, le_t, le_f, lt_t, lt_f, leL_t, leL_f, ltL_t, ltL_f, leM_t, leM_f, ltM_t, ltM_f, leO_t, leO_f, cond_true, cond_false, Option.bind_some, Option.bind_none, if_false, if_true, nI_1, aL1, aL2, mL1, mL2, nI_add, pk_mul, pk_m1, sL1, dL1, pk_sub, m1p1, gIs_eq, gIs_k, gIs_i, gIs_n, gIs_e, gIJ, gIR, gJI, gJR, gJs_eq, gJs_k, gJs_n, gJs_e, gRI, gRJ, gRs_eq, gRs_k, gRs_i, gRs_n, gZI, gZJ, gZR, pI_s, pJ_s, pV_s, pR_s, pR_n, oR_n, oR_s, decide_true, decide_false, not_true_eq_false, not_false_eq_true, decT, decF, Bool.true_eq_false, Bool.false_eq_true, z01, o01, z1f, z1f', zz, oo, b2i_0, b2i_n, b2i_t, b2i_f, Bool.not_true, Bool.not_false])
    rcases pl_cases hS hk h6 with hq | ⟨f, hf, e⟩
    · simp (disch := omega) only [hq, e_X12_keptOffAll_36, e_X12_keptOffAll_37, true_and, and_true, false_and, and_false, beq_t, beq_f, eqN_t, eqN_f, eqL_t, eqL_f, nm1, nm2, nm1', nm2', m1z, m2z, zm1, zm2, m12, m21, lg_cmp_ge, lg_cmp_le, lg_cmp_gt, lg_cmp_lt, lg_cmp_eq, oob, oobL, neg0, negL0, natle_f, or_false, false_or, true_or, or_true, or_self, cl, clL, le_t, le_f, lt_t, lt_f, leL_t, leL_f, ltL_t, ltL_f, leM_t, leM_f, ltM_t, ltM_f, leO_t, leO_f, cond_true, cond_false, Option.bind_some, Option.bind_none, if_false, if_true, nI_1, aL1, aL2, mL1, mL2, nI_add, pk_mul, pk_m1, sL1, dL1, pk_sub, m1p1, gIs_eq, gIs_k, gIs_i, gIs_n, gIs_e, gIJ, gIR, gJI, gJR, gJs_eq, gJs_k, gJs_n, gJs_e, gRI, gRJ, gRs_eq, gRs_k, gRs_i, gRs_n, gZI, gZJ, gZR, pI_s, pJ_s, pV_s, pR_s, pR_n, oR_n, oR_s, decide_true, decide_false, not_true_eq_false, not_false_eq_true, decT, decF, Bool.true_eq_false, Bool.false_eq_true, z01, o01, z1f, z1f', zz, oo, b2i_0, b2i_n, b2i_t, b2i_f, Bool.not_true, Bool.not_false]
    · rw [e] at x1 ⊢
      simp (disch := omega) only [e_X12_keptOffAll_23, x1, m_keptOffBy hd hs (k := k) (f := f) (by omega) (by omega), e_X12_keptOffAll_37, true_and, and_true, false_and, and_false, beq_t, beq_f, eqN_t, eqN_f, eqL_t, eqL_f, nm1, nm2, nm1', nm2', m1z, m2z, zm1, zm2, m12, m21, lg_cmp_ge, lg_cmp_le, lg_cmp_gt, lg_cmp_lt, lg_cmp_eq, oob, oobL, neg0, negL0, natle_f, or_false, false_or, true_or, or_true, or_self, cl, clL, le_t, le_f, lt_t, lt_f, leL_t, leL_f, ltL_t, ltL_f, leM_t, leM_f, ltM_t, ltM_f, leO_t, leO_f, cond_true, cond_false, Option.bind_some, Option.bind_none, if_false, if_true, nI_1, aL1, aL2, mL1, mL2, nI_add, pk_mul, pk_m1, sL1, dL1, pk_sub, m1p1, gIs_eq, gIs_k, gIs_i, gIs_n, gIs_e, gIJ, gIR, gJI, gJR, gJs_eq, gJs_k, gJs_n, gJs_e, gRI, gRJ, gRs_eq, gRs_k, gRs_i, gRs_n, gZI, gZJ, gZR, pI_s, pJ_s, pV_s, pR_s, pR_n, oR_n, oR_s, decide_true, decide_false, not_true_eq_false, not_false_eq_true, decT, decF, Bool.true_eq_false, Bool.false_eq_true, z01, o01, z1f, z1f', zz, oo, b2i_0, b2i_n, b2i_t, b2i_f, Bool.not_true, Bool.not_false]) (fun c => by ((try dsimp only); rw [e_X12_keptOffAll_4]; simp (disch := omega) only [g, e_X12_keptOffAll_45, true_and, and_true, false_and, and_false, beq_t, beq_f, eqN_t, eqN_f, eqL_t, eqL_f, nm1, nm2, nm1', nm2', m1z, m2z, zm1, zm2, m12, m21, lg_cmp_ge, lg_cmp_le, lg_cmp_gt, lg_cmp_lt, lg_cmp_eq, oob, oobL, neg0, negL0, natle_f, or_false, false_or, true_or, or_true, or_self, cl, clL, le_t, le_f, lt_t, lt_f, leL_t, leL_f, ltL_t, ltL_f, leM_t, leM_f, ltM_t, ltM_f, leO_t, leO_f, cond_true, cond_false, Option.bind_some, Option.bind_none, if_false, if_true, nI_1, aL1, aL2, mL1, mL2, nI_add, pk_mul, pk_m1, sL1, dL1, pk_sub, m1p1, gIs_eq, gIs_k, gIs_i, gIs_n, gIs_e, gIJ, gIR, gJI, gJR, gJs_eq, gJs_k, gJs_n, gJs_e, gRI, gRJ, gRs_eq, gRs_k, gRs_i, gRs_n, gZI, gZJ, gZR, pI_s, pJ_s, pV_s, pR_s, pR_n, oR_n, oR_s, decide_true, decide_false, not_true_eq_false, not_false_eq_true, decT, decF, Bool.true_eq_false, Bool.false_eq_true, z01, o01, z1f, z1f', zz, oo, b2i_0, b2i_n, b2i_t, b2i_f, Bool.not_true, Bool.not_false])) 0
  rw [nI_0] at this
  rw [this]
  rfl
