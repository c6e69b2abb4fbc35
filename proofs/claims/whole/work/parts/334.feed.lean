/-! ===== feed ===== -/
theorem and255n (y : Int32) : y &&& 255 = nI (y.toUInt32.toNat % 256) := by
  apply Int32.toBitVec_inj.mp
  apply BitVec.eq_of_toNat_eq
  show (y.toBitVec &&& BitVec.ofNat 32 255).toNat = (BitVec.ofNat 32 (y.toBitVec.toNat % 256)).toNat
  rw [BitVec.toNat_and, BitVec.toNat_ofNat, BitVec.toNat_ofNat, show (255 % 2 ^ 32 : Nat) = 2 ^ 8 - 1 from by decide, Nat.and_two_pow_sub_one_eq_mod]
  have := Nat.mod_lt y.toBitVec.toNat (show 0 < 256 by omega)
  omega
theorem byte255 (y : Int32) : (nI (y.toUInt32.toNat % 256)).toInt8 = y.toInt8 := by
  apply Int8.toBitVec_inj.mp
  apply BitVec.eq_of_toNat_eq
  show ((BitVec.ofNat 32 (y.toBitVec.toNat % 256)).signExtend 8).toNat = (y.toBitVec.signExtend 8).toNat
  rw [BitVec.signExtend_eq_setWidth_of_le _ (by decide), BitVec.signExtend_eq_setWidth_of_le _ (by decide), BitVec.toNat_setWidth, BitVec.toNat_setWidth, BitVec.toNat_ofNat]
  have := Nat.mod_lt y.toBitVec.toNat (show 0 < 256 by omega)
  omega
def shI : Nat → Int32
  | 0 => 24
  | 1 => 16
  | 2 => 8
  | 3 => 0
  | _ => -8
/-- byte k of x, from the left -/
def byS (x : Int32) (k : Nat) : Nat := (x >>> (shI k &&& 31)).toUInt32.toNat % 256
theorem byS_lt (x : Int32) (k : Nat) : byS x k < 256 := Nat.mod_lt _ (by omega)
def put4 (tb : Nat → Nat) (tn : Nat) (x : Int32) : Nat → Nat := fun i => if i < tn then tb i else byS x (i - tn)
theorem sh_step {k : Nat} (h : k < 4) : shI k + (-8) = shI (k + 1) ∧ decide (shI k < 0) = false := by
  have : k = 0 ∨ k = 1 ∨ k = 2 ∨ k = 3 := by omega
  rcases this with rfl | rfl | rfl | rfl <;> decide
def P9 (κ _j k : Nat) : Prop := (κ = 9 ∧ k = 1) ∨ κ = 34
def P11 (κ _j k : Nat) : Prop := (κ = 11 ∧ k = 1) ∨ κ = 41
theorem p_X10_add {w : XW} {tn : Nat} {tb : Nat → Nat} (h : CT w tn tb) (hn : tn + 4 ≤ 400) (x : Int32) : ∃ w', F_X10_add [.inr (9, 0), .inl (.int x)] w = some w' ∧ CT w' (tn + 4) (put4 tb tn x) ∧ Fr P9 w w' := by
  obtain ⟨w', h1, h2, h3, h4⟩ := loop0 4 (fun k v => q_X10_add_3 x (shI k) v) (fun v => some (none, v)) (fun k v => Fr P9 w v ∧ gI v 9 0 1 = nI (tn + k) ∧ ∀ i, i < tn + k → gI v 34 0 i = nI (put4 tb tn x i)) (s := w) ⟨Fr.refl _ _, h.1, fun i hi => by
      have hi : i < tn := hi
      rw [show put4 tb tn x i = tb i from if_pos hi]
      exact h.2 i hi⟩ (fun k v hk hi => by
      obtain ⟨b1, b2, b3⟩ := hi
      obtain ⟨s1, s2⟩ := sh_step hk
      have e : (x >>> (shI k &&& 31)) &&& 255 = nI (byS x k) := and255n _
      ((try dsimp only); rw [e_X10_add_3]; simp (disch := omega) only [s2, e_X10_add_7, b2, e_X10_add_17, s1, e, true_and, and_true, false_and, and_false, beq_t, beq_f, eqN_t, eqN_f, eqL_t, eqL_f, nm1, nm2, nm1', nm2', m1z, m2z, zm1, zm2, m12, m21, lg_cmp_ge, lg_cmp_le, lg_cmp_gt, lg_cmp_lt, lg_cmp_eq, oob, oobL, neg0, negL0, natle_f, or_false, false_or, true_or, or_true, or_self, cl, clL, le_t, le_f, lt_t, lt_f, leL_t, leL_f, ltL_t, ltL_f, leM_t, leM_f, ltM_t, ltM_f, leO_t, leO_f, cond_true, cond_false, Option.bind_some, Option.bind_none, if_false, if_true, nI_1, aL1, aL2, mL1, mL2, nI_add, pk_mul, pk_m1, sL1, dL1, pk_sub, m1p1, gIs_eq, gIs_k, gIs_i, gIs_n, gIs_e, gIJ, gIR, gJI, gJR, gJs_eq, gJs_k, gJs_n, gJs_e, gRI, gRJ, gRs_eq, gRs_k, gRs_i, gRs_n, gZI, gZJ, gZR, pI_s, pJ_s, pV_s, pR_s, pR_n, oR_n, oR_s, decide_true, decide_false, not_true_eq_false, not_false_eq_true, decT, decF, Bool.true_eq_false, Bool.false_eq_true, z01, o01, z1f, z1f', zz, oo, b2i_0, b2i_n, b2i_t, b2i_f, Bool.not_true, Bool.not_false])
      refine ⟨_, rfl, by (repeat' (first | exact b1 | exact Fr.refl _ _ | refine Fr.sI ?_ ?_ | refine Fr.sR ?_ ?_ | refine Fr.sJ ?_ ?_ | (unfold P9; omega))), gIs_eq, fun i hi => ?_⟩
      by_cases q : i = tn + k
      · subst q
        rw [show put4 tb tn x (tn + k) = byS x k from (if_neg (by omega)).trans (by congr 1; omega)]
        simp (disch := omega) only [true_and, and_true, false_and, and_false, beq_t, beq_f, eqN_t, eqN_f, eqL_t, eqL_f, nm1, nm2, nm1', nm2', m1z, m2z, zm1, zm2, m12, m21, lg_cmp_ge, lg_cmp_le, lg_cmp_gt, lg_cmp_lt, lg_cmp_eq, oob, oobL, neg0, negL0, natle_f, or_false, false_or, true_or, or_true, or_self, cl, clL, le_t, le_f, lt_t, lt_f, leL_t, leL_f, ltL_t, ltL_f, leM_t, leM_f, ltM_t, ltM_f, leO_t, leO_f, cond_true, cond_false, Option.bind_some, Option.bind_none, if_false, if_true, nI_1, aL1, aL2, mL1, mL2, nI_add, pk_mul, pk_m1, sL1, dL1, pk_sub, m1p1, gIs_eq, gIs_k, gIs_i, gIs_n, gIs_e, gIJ, gIR, gJI, gJR, gJs_eq, gJs_k, gJs_n, gJs_e, gRI, gRJ, gRs_eq, gRs_k, gRs_i, gRs_n, gZI, gZJ, gZR, pI_s, pJ_s, pV_s, pR_s, pR_n, oR_n, oR_s, decide_true, decide_false, not_true_eq_false, not_false_eq_true, decT, decF, Bool.true_eq_false, Bool.false_eq_true, z01, o01, z1f, z1f', zz, oo, b2i_0, b2i_n, b2i_t, b2i_f, Bool.not_true, Bool.not_false]
      · simp (disch := omega) only [true_and, and_true, false_and, and_false, beq_t, beq_f, eqN_t, eqN_f, eqL_t, eqL_f, nm1, nm2, nm1', nm2', m1z, m2z, zm1, zm2, m12, m21, lg_cmp_ge, lg_cmp_le, lg_cmp_gt, lg_cmp_lt, lg_cmp_eq, oob, oobL, neg0, negL0, natle_f, or_false, false_or, true_or, or_true, or_self, cl, clL, le_t, le_f, lt_t, lt_f, leL_t, leL_f, ltL_t, ltL_f, leM_t, leM_f, ltM_t, ltM_f, leO_t, leO_f, cond_true, cond_false, Option.bind_some, Option.bind_none, if_false, if_true, nI_1, aL1, aL2, mL1, mL2, nI_add, pk_mul, pk_m1, sL1, dL1, pk_sub, m1p1, gIs_eq, gIs_k, gIs_i, gIs_n, gIs_e, gIJ, gIR, gJI, gJR, gJs_eq, gJs_k, gJs_n, gJs_e, gRI, gRJ, gRs_eq, gRs_k, gRs_i, gRs_n, gZI, gZJ, gZR, pI_s, pJ_s, pV_s, pR_s, pR_n, oR_n, oR_s, decide_true, decide_false, not_true_eq_false, not_false_eq_true, decT, decF, Bool.true_eq_false, Bool.false_eq_true, z01, o01, z1f, z1f', zz, oo, b2i_0, b2i_n, b2i_t, b2i_f, Bool.not_true, Bool.not_false]
        exact b3 i (by omega)) (fun v hi => by
      have e : decide (shI 4 < 0) = true := by decide
      ((try dsimp only); rw [e_X10_add_3]; simp (disch := omega) only [e, e_X10_add_49, true_and, and_true, false_and, and_false, beq_t, beq_f, eqN_t, eqN_f, eqL_t, eqL_f, nm1, nm2, nm1', nm2', m1z, m2z, zm1, zm2, m12, m21, lg_cmp_ge, lg_cmp_le, lg_cmp_gt, lg_cmp_lt, lg_cmp_eq, oob, oobL, neg0, negL0, natle_f, or_false, false_or, true_or, or_true, or_self, cl, clL, le_t, le_f, lt_t, lt_f, leL_t, leL_f, ltL_t, ltL_f, leM_t, leM_f, ltM_t, ltM_f, leO_t, leO_f, cond_true, cond_false, Option.bind_some, Option.bind_none, if_false, if_true, nI_1, aL1, aL2, mL1, mL2, nI_add, pk_mul, pk_m1, sL1, dL1, pk_sub, m1p1, gIs_eq, gIs_k, gIs_i, gIs_n, gIs_e, gIJ, gIR, gJI, gJR, gJs_eq, gJs_k, gJs_n, gJs_e, gRI, gRJ, gRs_eq, gRs_k, gRs_i, gRs_n, gZI, gZJ, gZR, pI_s, pJ_s, pV_s, pR_s, pR_n, oR_n, oR_s, decide_true, decide_false, not_true_eq_false, not_false_eq_true, decT, decF, Bool.true_eq_false, Bool.false_eq_true, z01, o01, z1f, z1f', zz, oo, b2i_0, b2i_n, b2i_t, b2i_f, Bool.not_true, Bool.not_false]))
  refine ⟨w', ?_, ⟨h3, h4⟩, h2⟩
  rw [f_X10_add, e_X10_add_0]
  have h1 : q_X10_add_3 x 24 w = some (none, w') := h1
  simp (disch := omega) only [h1, true_and, and_true, false_and, and_false, beq_t, beq_f, eqN_t, eqN_f, eqL_t, eqL_f, nm1, nm2, nm1', nm2', m1z, m2z, zm1, zm2, m12, m21, lg_cmp_ge, lg_cmp_le, lg_cmp_gt, lg_cmp_lt, lg_cmp_eq, oob, oobL, neg0, negL0, natle_f, or_false, false_or, true_or, or_true, or_self, cl, clL, le_t, le_f, lt_t, lt_f, leL_t, leL_f, ltL_t, ltL_f, leM_t, leM_f, ltM_t, ltM_f, leO_t, leO_f, cond_true, cond_false, Option.bind_some, Option.bind_none, if_false, if_true, nI_1, aL1, aL2, mL1, mL2, nI_add, pk_mul, pk_m1, sL1, dL1, pk_sub, m1p1, gIs_eq, gIs_k, gIs_i, gIs_n, gIs_e, gIJ, gIR, gJI, gJR, gJs_eq, gJs_k, gJs_n, gJs_e, gRI, gRJ, gRs_eq, gRs_k, gRs_i, gRs_n, gZI, gZJ, gZR, pI_s, pJ_s, pV_s, pR_s, pR_n, oR_n, oR_s, decide_true, decide_false, not_true_eq_false, not_false_eq_true, decT, decF, Bool.true_eq_false, Bool.false_eq_true, z01, o01, z1f, z1f', zz, oo, b2i_0, b2i_n, b2i_t, b2i_f, Bool.not_true, Bool.not_false]
theorem p_X12_four {w : XW} {tn : Nat} {tb : Nat → Nat} (h : MT w tn tb) (hn : tn + 4 ≤ 400) (x : Int32) : ∃ w', F_X12_four [.inr (11, 0), .inl (.int x)] w = some w' ∧ MT w' (tn + 4) (put4 tb tn x) ∧ Fr P11 w w' := by
  obtain ⟨w', h1, h2, h3, h4⟩ := loop0 4 (fun k v => q_X12_four_3 x (shI k) v) (fun v => some (none, v)) (fun k v => Fr P11 w v ∧ gI v 11 0 1 = nI (tn + k) ∧ ∀ i, i < tn + k → gI v 41 0 i = sbS (put4 tb tn x i)) (s := w) ⟨Fr.refl _ _, h.1, fun i hi => by
      have hi : i < tn := hi
      rw [show put4 tb tn x i = tb i from if_pos hi]
      exact h.2 i hi⟩ (fun k v hk hi => by
      obtain ⟨b1, b2, b3⟩ := hi
      obtain ⟨s1, s2⟩ := sh_step hk
      have e : vp_nar .byte (x >>> (shI k &&& 31)).toInt8.toInt32 = sbS (byS x k) := by
        unfold sbS byS
        rw [byte255]
      ((try dsimp only); rw [e_X12_four_3]; simp (disch := omega) only [s2, e_X12_four_7, b2, s1, e, true_and, and_true, false_and, and_false, beq_t, beq_f, eqN_t, eqN_f, eqL_t, eqL_f, nm1, nm2, nm1', nm2', m1z, m2z, zm1, zm2, m12, m21, lg_cmp_ge, lg_cmp_le, lg_cmp_gt, lg_cmp_lt, lg_cmp_eq, oob, oobL, neg0, negL0, natle_f, or_false, false_or, true_or, or_true, or_self, cl, clL, le_t, le_f, lt_t, lt_f, leL_t, leL_f, ltL_t, ltL_f, leM_t, leM_f, ltM_t, ltM_f, leO_t, leO_f, cond_true, cond_false, Option.bind_some, Option.bind_none, if_false, if_true, nI_1, aL1, aL2, mL1, mL2, nI_add, pk_mul, pk_m1, sL1, dL1, pk_sub, m1p1, gIs_eq, gIs_k, gIs_i, gIs_n, gIs_e, gIJ, gIR, gJI, gJR, gJs_eq, gJs_k, gJs_n, gJs_e, gRI, gRJ, gRs_eq, gRs_k, gRs_i, gRs_n, gZI, gZJ, gZR, pI_s, pJ_s, pV_s, pR_s, pR_n, oR_n, oR_s, decide_true, decide_false, not_true_eq_false, not_false_eq_true, decT, decF, Bool.true_eq_false, Bool.false_eq_true, z01, o01, z1f, z1f', zz, oo, b2i_0, b2i_n, b2i_t, b2i_f, Bool.not_true, Bool.not_false])
      refine ⟨_, rfl, by (repeat' (first | exact b1 | exact Fr.refl _ _ | refine Fr.sI ?_ ?_ | refine Fr.sR ?_ ?_ | refine Fr.sJ ?_ ?_ | (unfold P11; omega))), gIs_eq, fun i hi => ?_⟩
      by_cases q : i = tn + k
      · subst q
        rw [show put4 tb tn x (tn + k) = byS x k from (if_neg (by omega)).trans (by congr 1; omega)]
        simp (disch := omega) only [true_and, and_true, false_and, and_false, beq_t, beq_f, eqN_t, eqN_f, eqL_t, eqL_f, nm1, nm2, nm1', nm2', m1z, m2z, zm1, zm2, m12, m21, lg_cmp_ge, lg_cmp_le, lg_cmp_gt, lg_cmp_lt, lg_cmp_eq, oob, oobL, neg0, negL0, natle_f, or_false, false_or, true_or, or_true, or_self, cl, clL, le_t, le_f, lt_t, lt_f, leL_t, leL_f, ltL_t, ltL_f, leM_t, leM_f, ltM_t, ltM_f, leO_t, leO_f, cond_true, cond_false, Option.bind_some, Option.bind_none, if_false, if_true, nI_1, aL1, aL2, mL1, mL2, nI_add, pk_mul, pk_m1, sL1, dL1, pk_sub, m1p1, gIs_eq, gIs_k, gIs_i, gIs_n, gIs_e, gIJ, gIR, gJI, gJR, gJs_eq, gJs_k, gJs_n, gJs_e, gRI, gRJ, gRs_eq, gRs_k, gRs_i, gRs_n, gZI, gZJ, gZR, pI_s, pJ_s, pV_s, pR_s, pR_n, oR_n, oR_s, decide_true, decide_false, not_true_eq_false, not_false_eq_true, decT, decF, Bool.true_eq_false, Bool.false_eq_true, z01, o01, z1f, z1f', zz, oo, b2i_0, b2i_n, b2i_t, b2i_f, Bool.not_true, Bool.not_false]
      · simp (disch := omega) only [true_and, and_true, false_and, and_false, beq_t, beq_f, eqN_t, eqN_f, eqL_t, eqL_f, nm1, nm2, nm1', nm2', m1z, m2z, zm1, zm2, m12, m21, lg_cmp_ge, lg_cmp_le, lg_cmp_gt, lg_cmp_lt, lg_cmp_eq, oob, oobL, neg0, negL0, natle_f, or_false, false_or, true_or, or_true, or_self, cl, clL, le_t, le_f, lt_t, lt_f, leL_t, leL_f, ltL_t, ltL_f, leM_t, leM_f, ltM_t, ltM_f, leO_t, leO_f, cond_true, cond_false, Option.bind_some, Option.bind_none, if_false, if_true, nI_1, aL1, aL2, mL1, mL2, nI_add, pk_mul, pk_m1, sL1, dL1, pk_sub, m1p1, gIs_eq, gIs_k, gIs_i, gIs_n, gIs_e, gIJ, gIR, gJI, gJR, gJs_eq, gJs_k, gJs_n, gJs_e, gRI, gRJ, gRs_eq, gRs_k, gRs_i, gRs_n, gZI, gZJ, gZR, pI_s, pJ_s, pV_s, pR_s, pR_n, oR_n, oR_s, decide_true, decide_false, not_true_eq_false, not_false_eq_true, decT, decF, Bool.true_eq_false, Bool.false_eq_true, z01, o01, z1f, z1f', zz, oo, b2i_0, b2i_n, b2i_t, b2i_f, Bool.not_true, Bool.not_false]
        exact b3 i (by omega)) (fun v hi => by
      have e : decide (shI 4 < 0) = true := by decide
      ((try dsimp only); rw [e_X12_four_3]; simp (disch := omega) only [e, e_X12_four_36, true_and, and_true, false_and, and_false, beq_t, beq_f, eqN_t, eqN_f, eqL_t, eqL_f, nm1, nm2, nm1', nm2', m1z, m2z, zm1, zm2, m12, m21, lg_cmp_ge, lg_cmp_le, lg_cmp_gt, lg_cmp_lt, lg_cmp_eq, oob, oobL, neg0, negL0, natle_f, or_false, false_or, true_or, or_true, or_self, cl, clL, le_t, le_f, lt_t, lt_f, leL_t, leL_f, ltL_t, ltL_f, leM_t, leM_f, ltM_t, ltM_f, leO_t, leO_f, cond_true, cond_false, Option.bind_some, Option.bind_none, if_false, if_true, nI_1, aL1, aL2, mL1, mL2, nI_add, pk_mul, pk_m1, sL1, dL1, pk_sub, m1p1, gIs_eq, gIs_k, gIs_i, gIs_n, gIs_e, gIJ, gIR, gJI, gJR, gJs_eq, gJs_k, gJs_n, gJs_e, gRI, gRJ, gRs_eq, gRs_k, gRs_i, gRs_n, gZI, gZJ, gZR, pI_s, pJ_s, pV_s, pR_s, pR_n, oR_n, oR_s, decide_true, decide_false, not_true_eq_false, not_false_eq_true, decT, decF, Bool.true_eq_false, Bool.false_eq_true, z01, o01, z1f, z1f', zz, oo, b2i_0, b2i_n, b2i_t, b2i_f, Bool.not_true, Bool.not_false]))
  refine ⟨w', ?_, ⟨h3, h4⟩, h2⟩
  rw [f_X12_four, e_X12_four_0]
  have h1 : q_X12_four_3 x 24 w = some (none, w') := h1
  simp (disch := omega) only [h1, true_and, and_true, false_and, and_false, beq_t, beq_f, eqN_t, eqN_f, eqL_t, eqL_f, nm1, nm2, nm1', nm2', m1z, m2z, zm1, zm2, m12, m21, lg_cmp_ge, lg_cmp_le, lg_cmp_gt, lg_cmp_lt, lg_cmp_eq, oob, oobL, neg0, negL0, natle_f, or_false, false_or, true_or, or_true, or_self, cl, clL, le_t, le_f, lt_t, lt_f, leL_t, leL_f, ltL_t, ltL_f, leM_t, leM_f, ltM_t, ltM_f, leO_t, leO_f, cond_true, cond_false, Option.bind_some, Option.bind_none, if_false, if_true, nI_1, aL1, aL2, mL1, mL2, nI_add, pk_mul, pk_m1, sL1, dL1, pk_sub, m1p1, gIs_eq, gIs_k, gIs_i, gIs_n, gIs_e, gIJ, gIR, gJI, gJR, gJs_eq, gJs_k, gJs_n, gJs_e, gRI, gRJ, gRs_eq, gRs_k, gRs_i, gRs_n, gZI, gZJ, gZR, pI_s, pJ_s, pV_s, pR_s, pR_n, oR_n, oR_s, decide_true, decide_false, not_true_eq_false, not_false_eq_true, decT, decF, Bool.true_eq_false, Bool.false_eq_true, z01, o01, z1f, z1f', zz, oo, b2i_0, b2i_n, b2i_t, b2i_f, Bool.not_true, Bool.not_false]
theorem put4_lt {tb : Nat → Nat} {tn : Nat} {x : Int32} (h : ∀ i, i < tn → tb i < 256) : ∀ i, i < tn + 4 → put4 tb tn x i < 256 := fun i _ => by
  unfold put4
  by_cases q : i < tn
  · rw [if_pos q]; exact h i q
  · rw [if_neg q]; exact byS_lt _ _
theorem st_feed {w : XW} (hR : Rel w) (a b c e f' : Int32) : StepOk (F_X11_feed [.inr (10, 0), .inl (.int a), .inl (.int b), .inl (.int c), .inl (.int e), .inl (.int f')]) (F_X12_feed [.inr (11, 0), .inl (.int a), .inl (.int b), .inl (.int c), .inl (.int e), .inl (.int f')]) w := by
  obtain ⟨g, hc, hm, ho⟩ := hR
  obtain ⟨⟨d, s, rs, f⟩, hs, no, sx, im, tn, tb⟩ := g
  have h400 : tn ≤ 400 := ho.2.2.2.2.2.1
  have hb : ∀ i, i < tn → tb i < 256 := ho.2.2.2.2.2.2
  have hCT : CT w tn tb := hc.2.2.2.2.2
  have hMT : MT w tn tb := hm.2.2.2.2.2
  by_cases hl : tn + 20 ≤ 400
  · obtain ⟨w1, x1, y1, z1⟩ := p_X10_add hCT (by omega) a
    obtain ⟨w2, x2, y2, z2⟩ := p_X10_add y1 (by omega) b
    obtain ⟨w3, x3, y3, z3⟩ := p_X10_add y2 (by omega) c
    obtain ⟨w4, x4, y4, z4⟩ := p_X10_add y3 (by omega) e
    obtain ⟨w5, x5, y5, z5⟩ := p_X10_add y4 (by omega) f'
    have hF := (((z1.trans z2).trans z3).trans z4).trans z5
    have hb5 := put4_lt (x := f') (put4_lt (x := e) (put4_lt (x := c) (put4_lt (x := b) (put4_lt (x := a) hb))))
    have hc1 : CS w5 ((d, s, rs, f), hs, no, sx, im, tn + 4 + 4 + 4 + 4 + 4, put4 (put4 (put4 (put4 (put4 tb tn a) (tn + 4) b) (tn + 4 + 4) c) (tn + 4 + 4 + 4) e) (tn + 4 + 4 + 4 + 4) f') :=
      ⟨hc.1.frx hF (fun κ j k q => by unfold P9; omega), hc.2.1.fr hF (fun κ j k q => by unfold P9; omega), hc.2.2.1.fr hF (fun κ k q => by unfold P9; omega), by rw [(hF 10 0 12 (by unfold P9; omega)).1]; exact hc.2.2.2.1, hc.2.2.2.2.1.fr hF (fun κ j k q => by unfold P9; omega), y5⟩
    have hm1 := hm.frc ho (hF.mono (fun κ i k q => by unfold P9 at q; unfold  PCl; omega))
    obtain ⟨v1, u1, t1, r1⟩ := p_X12_four (show MT w5 tn tb from hm1.2.2.2.2.2) (by omega) a
    obtain ⟨v2, u2, t2, r2⟩ := p_X12_four t1 (by omega) b
    obtain ⟨v3, u3, t3, r3⟩ := p_X12_four t2 (by omega) c
    obtain ⟨v4, u4, t4, r4⟩ := p_X12_four t3 (by omega) e
    obtain ⟨v5, u5, t5, r5⟩ := p_X12_four t4 (by omega) f'
    have hG := (((r1.trans r2).trans r3).trans r4).trans r5
    have m1 : gI w5 11 0 1 = nI tn := hm1.2.2.2.2.2.1
    refine ⟨nI (tn + 4 + 4 + 4 + 4 + 4), w5, v5, ?_, ?_, _, hc1.frm (hG.mono (fun κ i k q => by unfold P11 at q; unfold  PMo; omega)), ⟨hm1.1.fr hG (fun κ k q => by unfold P11; omega), hm1.2.1.fr hG (fun κ k q => by unfold P11; omega), hm1.2.2.1.fr ho.2.2.1.1 hG (fun k q => by unfold P11; omega), by rw [(hG 11 0 22 (by unfold P11; omega)).1]; exact hm1.2.2.2.1, hm1.2.2.2.2.1.fr hG (fun κ k q => by unfold P11; omega), t5⟩, ⟨ho.1, ho.2.1, ho.2.2.1, ho.2.2.2.1, ho.2.2.2.2.1, by show tn + 4 + 4 + 4 + 4 + 4 ≤ 400; omega, hb5⟩⟩
    · rw [f_X11_feed, e_X11_feed_0]
      simp (disch := omega) only [hCT.1, e_X11_feed_18, x1, x2, x3, x4, x5, y5.1, true_and, and_true, false_and, and_false, beq_t, beq_f, eqN_t, eqN_f, eqL_t, eqL_f, nm1, nm2, nm1', nm2', m1z, m2z, zm1, zm2, m12, m21, lg_cmp_ge, lg_cmp_le, lg_cmp_gt, lg_cmp_lt, lg_cmp_eq, oob, oobL, neg0, negL0, natle_f, or_false, false_or, true_or, or_true, or_self, cl, clL, le_t, le_f, lt_t, lt_f, leL_t, leL_f, ltL_t, ltL_f, leM_t, leM_f, ltM_t, ltM_f, leO_t, leO_f, cond_true, cond_false, Option.bind_some, Option.bind_none, if_false, if_true, nI_1, aL1, aL2, mL1, mL2, nI_add, pk_mul, pk_m1, sL1, dL1, pk_sub, m1p1, gIs_eq, gIs_k, gIs_i, gIs_n, gIs_e, gIJ, gIR, gJI, gJR, gJs_eq, gJs_k, gJs_n, gJs_e, gRI, gRJ, gRs_eq, gRs_k, gRs_i, gRs_n, gZI, gZJ, gZR, pI_s, pJ_s, pV_s, pR_s, pR_n, oR_n, oR_s, decide_true, decide_false, not_true_eq_false, not_false_eq_true, decT, decF, Bool.true_eq_false, Bool.false_eq_true, z01, o01, z1f, z1f', zz, oo, b2i_0, b2i_n, b2i_t, b2i_f, Bool.not_true, Bool.not_false]
    · rw [f_X12_feed, e_X12_feed_0]
      simp (disch := omega) only [m1, e_X12_feed_15, u1, u2, u3, u4, u5, t5.1, true_and, and_true, false_and, and_false, beq_t, beq_f, eqN_t, eqN_f, eqL_t, eqL_f, nm1, nm2, nm1', nm2', m1z, m2z, zm1, zm2, m12, m21, lg_cmp_ge, lg_cmp_le, lg_cmp_gt, lg_cmp_lt, lg_cmp_eq, oob, oobL, neg0, negL0, natle_f, or_false, false_or, true_or, or_true, or_self, cl, clL, le_t, le_f, lt_t, lt_f, leL_t, leL_f, ltL_t, ltL_f, leM_t, leM_f, ltM_t, ltM_f, leO_t, leO_f, cond_true, cond_false, Option.bind_some, Option.bind_none, if_false, if_true, nI_1, aL1, aL2, mL1, mL2, nI_add, pk_mul, pk_m1, sL1, dL1, pk_sub, m1p1, gIs_eq, gIs_k, gIs_i, gIs_n, gIs_e, gIJ, gIR, gJI, gJR, gJs_eq, gJs_k, gJs_n, gJs_e, gRI, gRJ, gRs_eq, gRs_k, gRs_i, gRs_n, gZI, gZJ, gZR, pI_s, pJ_s, pV_s, pR_s, pR_n, oR_n, oR_s, decide_true, decide_false, not_true_eq_false, not_false_eq_true, decT, decF, Bool.true_eq_false, Bool.false_eq_true, z01, o01, z1f, z1f', zz, oo, b2i_0, b2i_n, b2i_t, b2i_f, Bool.not_true, Bool.not_false]
  · refine ⟨-1, w, w, ?_, ?_, _, hc, hm, ho⟩
    · rw [f_X11_feed, e_X11_feed_0]
      simp (disch := omega) only [hCT.1, e_X11_feed_16, true_and, and_true, false_and, and_false, beq_t, beq_f, eqN_t, eqN_f, eqL_t, eqL_f, nm1, nm2, nm1', nm2', m1z, m2z, zm1, zm2, m12, m21, lg_cmp_ge, lg_cmp_le, lg_cmp_gt, lg_cmp_lt, lg_cmp_eq, oob, oobL, neg0, negL0, natle_f, or_false, false_or, true_or, or_true, or_self, cl, clL, le_t, le_f, lt_t, lt_f, leL_t, leL_f, ltL_t, ltL_f, leM_t, leM_f, ltM_t, ltM_f, leO_t, leO_f, cond_true, cond_false, Option.bind_some, Option.bind_none, if_false, if_true, nI_1, aL1, aL2, mL1, mL2, nI_add, pk_mul, pk_m1, sL1, dL1, pk_sub, m1p1, gIs_eq, gIs_k, gIs_i, gIs_n, gIs_e, gIJ, gIR, gJI, gJR, gJs_eq, gJs_k, gJs_n, gJs_e, gRI, gRJ, gRs_eq, gRs_k, gRs_i, gRs_n, gZI, gZJ, gZR, pI_s, pJ_s, pV_s, pR_s, pR_n, oR_n, oR_s, decide_true, decide_false, not_true_eq_false, not_false_eq_true, decT, decF, Bool.true_eq_false, Bool.false_eq_true, z01, o01, z1f, z1f', zz, oo, b2i_0, b2i_n, b2i_t, b2i_f, Bool.not_true, Bool.not_false]
    · rw [f_X12_feed, e_X12_feed_0]
      simp (disch := omega) only [hMT.1, e_X12_feed_13, true_and, and_true, false_and, and_false, beq_t, beq_f, eqN_t, eqN_f, eqL_t, eqL_f, nm1, nm2, nm1', nm2', m1z, m2z, zm1, zm2, m12, m21, lg_cmp_ge, lg_cmp_le, lg_cmp_gt, lg_cmp_lt, lg_cmp_eq, oob, oobL, neg0, negL0, natle_f, or_false, false_or, true_or, or_true, or_self, cl, clL, le_t, le_f, lt_t, lt_f, leL_t, leL_f, ltL_t, ltL_f, leM_t, leM_f, ltM_t, ltM_f, leO_t, leO_f, cond_true, cond_false, Option.bind_some, Option.bind_none, if_false, if_true, nI_1, aL1, aL2, mL1, mL2, nI_add, pk_mul, pk_m1, sL1, dL1, pk_sub, m1p1, gIs_eq, gIs_k, gIs_i, gIs_n, gIs_e, gIJ, gIR, gJI, gJR, gJs_eq, gJs_k, gJs_n, gJs_e, gRI, gRJ, gRs_eq, gRs_k, gRs_i, gRs_n, gZI, gZJ, gZR, pI_s, pJ_s, pV_s, pR_s, pR_n, oR_n, oR_s, decide_true, decide_false, not_true_eq_false, not_false_eq_true, decT, decF, Bool.true_eq_false, Bool.false_eq_true, z01, o01, z1f, z1f', zz, oo, b2i_0, b2i_n, b2i_t, b2i_f, Bool.not_true, Bool.not_false]
