/-! ===== frosts: the draws ===== -/
def nx (n : Nat) : Nat := (n * 1103515245 + 12345) % 2147483648
theorem nx_lt (n : Nat) : nx n < 2147483648 := Nat.mod_lt _ (by omega)
def nv (n : Nat) : Nat := n / 65536
theorem nv_lt {n : Nat} (h : n < 2147483648) : nv n < 32768 := by unfold nv; omega
theorem i64_nI {n : Nat} (h : n < 2147483648) : (nI n).toInt64 = lN n := by
  apply Int64.toInt_inj.mp
  rw [Int32.toInt_toInt64, nI_toInt (by omega), pk_lT (by omega)]
theorem l_nx {n : Nat} (h : n < 2147483648) : ((lN n * 1103515245) + 12345) - ((lN n * 1103515245) + 12345) / 2147483648 * 2147483648 = lN (nx n) := by
  have e1 : lN n * 1103515245 + 12345 = lN (n * 1103515245 + 12345) := by
    rw [show (1103515245 : Int64) = lN 1103515245 from rfl, show (12345 : Int64) = lN 12345 from rfl, lN_mul, lN_add]
  rw [e1]
  exact pk_lRem (b := 2147483648) (by omega) (by omega) (by omega)
theorem c_draw {w : XW} {n : Nat} (h : gI w 10 0 12 = nI n) (hn : n < 2147483648) : F_X11_draw [.inr (10, 0)] w = some (nI (nv (nx n)), sI w 10 0 12 (nI (nx n))) := by
  rw [f_X11_draw, e_X11_draw_0, h, i64_nI hn, l_nx hn, lN_i, gIs_eq]
  have e : nI (nx n) / 65536 = nI (nv (nx n)) := pk_div (d := 65536) (by have := nx_lt n; omega) (by omega) (by omega)
  rw [e]
  rfl
theorem m_draw {w : XW} {n m : Nat} (h : gJ w 11 0 38 = lN n) (hn : n < 2147483648) (h0 : 0 < m) (hm : m < 1000) : F_X12_draw [.inr (11, 0), .inl (.int (nI m))] w = some (nI (nv (nx n) % m), sJ w 11 0 38 (lN (nx n))) := by
  have hx := nx_lt n
  have e1 : lN (nx n) / 65536 = lN (nv (nx n)) := pk_lDiv (b := 65536) (by omega) (by omega) (by omega)
  have e2 : lN (nv (nx n)) - lN (nv (nx n)) / lN m * lN m = lN (nv (nx n) % m) := pk_lRem (by have := nv_lt hx; omega) h0 (by omega)
  rw [f_X12_draw, e_X12_draw_0, h, l_nx hn, gJs_eq, i64_nI (n := m) (by omega), e1, e2, lN_i, if_neg (fun z => by
    have := (lN_eq (a := m) (b := 0) (by omega) (by omega)).mp z
    omega)]
  rfl
/-! one night of a frost -/
def setH (s : Sc) (k : Nat) (v : Int32) : Sc := (s.1, s.2.1, upd s.2.2.1 k v, s.2.2.2)
def frz (d : Dl) (r : Option Rl) (ts : Ar) (c : Nat) (s : Sc) (n1 n2 : Nat) : Sc × Nat := bif decide (c ≤ nv n1 % 100) || decide (kn d = 0) then (nightS d r ts s, n1) else (nightS d r ts (setH s (nv n2 % kn d) 0), n2)
def frzS (d : Dl) (r : Option Rl) (ts : Ar) (c : Nat) (q : Sc × Nat) : Sc × Nat := frz d r ts c q.1 (nx q.2) (nx (nx q.2))
theorem SOk.setH {d : Dl} {s : Sc} (h : SOk d s) (k : Nat) : SOk d (setH s k 0) := by
  intro k' hk'
  obtain ⟨h1, h2, h3, h4, h5, h6⟩ := h k' hk'
  show _ ∧ In 98 (upd s.2.2.1 k 0 k') ∧ _ ∧ _ ∧ (_ → _ ∧ upd s.2.2.1 k 0 k' = 0) ∧ _
  by_cases q : k' = k
  · subst q
    rw [pk_us]
    exact ⟨h1, ⟨0, by omega, rfl⟩, h3, h4, fun z => ⟨(h5 z).1, rfl⟩, h6⟩
  · rw [pk_un q]
    exact ⟨h1, h2, h3, h4, h5, h6⟩
theorem c_setH {w : XW} {d : Dl} {s : Sc} {r : Option Rl} {ts : Ar} (h : RunC w d s r ts) {k : Nat} (v : Int32) : RunC (sI w 31 1 k v) d (setH s k v) r ts ∧ Fr PQc w (sI w 31 1 k v) := by
  obtain ⟨jd, jr, h1, h2, h3, h4, h5, h6⟩ := h
  have hF : Fr (fun κ j _ => κ = 31 ∧ j = 1) w (sI w 31 1 k v) := (Fr.refl _ _).sI ⟨rfl, rfl⟩
  refine ⟨⟨jd, jr, h1, h2.fr hF (fun κ k q => by omega), h3.fr hF (fun κ k q => by omega), ⟨by simp (disch := omega) only [true_and, and_true, false_and, and_false, beq_t, beq_f, eqN_t, eqN_f, eqL_t, eqL_f, nm1, nm2, nm1', nm2', m1z, m2z, zm1, zm2, m12, m21, lg_cmp_ge, lg_cmp_le, lg_cmp_gt, lg_cmp_lt, lg_cmp_eq, oob, oobL, neg0, negL0, natle_f, or_false, false_or, true_or, or_true, or_self, cl, clL, le_t, le_f, lt_t, lt_f, leL_t, leL_f, ltL_t, ltL_f, leM_t, leM_f, ltM_t, ltM_f, leO_t, leO_f, cond_true, cond_false, Option.bind_some, Option.bind_none, if_false, if_true, nI_1, aL1, aL2, mL1, mL2, nI_add, pk_mul, pk_m1, sL1, dL1, pk_sub, m1p1, gIs_eq, gIs_k, gIs_i, gIs_n, gIs_e, gIJ, gIR, gJI, gJR, gJs_eq, gJs_k, gJs_n, gJs_e, gRI, gRJ, gRs_eq, gRs_k, gRs_i, gRs_n, gZI, gZJ, gZR, pI_s, pJ_s, pV_s, pR_s, pR_n, oR_n, oR_s, decide_true, decide_false, not_true_eq_false, not_false_eq_true, decT, decF, Bool.true_eq_false, Bool.false_eq_true, z01, o01, z1f, z1f', zz, oo, b2i_0, b2i_n, b2i_t, b2i_f, Bool.not_true, Bool.not_false]; exact h4.1, fun k' hk' => ?_⟩, by simp (disch := omega) only [true_and, and_true, false_and, and_false, beq_t, beq_f, eqN_t, eqN_f, eqL_t, eqL_f, nm1, nm2, nm1', nm2', m1z, m2z, zm1, zm2, m12, m21, lg_cmp_ge, lg_cmp_le, lg_cmp_gt, lg_cmp_lt, lg_cmp_eq, oob, oobL, neg0, negL0, natle_f, or_false, false_or, true_or, or_true, or_self, cl, clL, le_t, le_f, lt_t, lt_f, leL_t, leL_f, ltL_t, ltL_f, leM_t, leM_f, ltM_t, ltM_f, leO_t, leO_f, cond_true, cond_false, Option.bind_some, Option.bind_none, if_false, if_true, nI_1, aL1, aL2, mL1, mL2, nI_add, pk_mul, pk_m1, sL1, dL1, pk_sub, m1p1, gIs_eq, gIs_k, gIs_i, gIs_n, gIs_e, gIJ, gIR, gJI, gJR, gJs_eq, gJs_k, gJs_n, gJs_e, gRI, gRJ, gRs_eq, gRs_k, gRs_i, gRs_n, gZI, gZJ, gZR, pI_s, pJ_s, pV_s, pR_s, pR_n, oR_n, oR_s, decide_true, decide_false, not_true_eq_false, not_false_eq_true, decT, decF, Bool.true_eq_false, Bool.false_eq_true, z01, o01, z1f, z1f', zz, oo, b2i_0, b2i_n, b2i_t, b2i_f, Bool.not_true, Bool.not_false]; exact h5, h6.fr hF (fun κ j k q => by omega)⟩, hF.mono (fun κ i k q => by unfold PQc; omega)⟩
  show _ ∧ _ = upd s.2.2.1 k v k' ∧ _
  have z := h4.2 k' hk'
  by_cases q : k' = k
  · subst q
    rw [pk_us]
    simp (disch := omega) only [true_and, and_true, false_and, and_false, beq_t, beq_f, eqN_t, eqN_f, eqL_t, eqL_f, nm1, nm2, nm1', nm2', m1z, m2z, zm1, zm2, m12, m21, lg_cmp_ge, lg_cmp_le, lg_cmp_gt, lg_cmp_lt, lg_cmp_eq, oob, oobL, neg0, negL0, natle_f, or_false, false_or, true_or, or_true, or_self, cl, clL, le_t, le_f, lt_t, lt_f, leL_t, leL_f, ltL_t, ltL_f, leM_t, leM_f, ltM_t, ltM_f, leO_t, leO_f, cond_true, cond_false, Option.bind_some, Option.bind_none, if_false, if_true, nI_1, aL1, aL2, mL1, mL2, nI_add, pk_mul, pk_m1, sL1, dL1, pk_sub, m1p1, gIs_eq, gIs_k, gIs_i, gIs_n, gIs_e, gIJ, gIR, gJI, gJR, gJs_eq, gJs_k, gJs_n, gJs_e, gRI, gRJ, gRs_eq, gRs_k, gRs_i, gRs_n, gZI, gZJ, gZR, pI_s, pJ_s, pV_s, pR_s, pR_n, oR_n, oR_s, decide_true, decide_false, not_true_eq_false, not_false_eq_true, decT, decF, Bool.true_eq_false, Bool.false_eq_true, z01, o01, z1f, z1f', zz, oo, b2i_0, b2i_n, b2i_t, b2i_f, Bool.not_true, Bool.not_false]
    exact ⟨z.1, z.2.2⟩
  · rw [pk_un q]
    simp (disch := omega) only [true_and, and_true, false_and, and_false, beq_t, beq_f, eqN_t, eqN_f, eqL_t, eqL_f, nm1, nm2, nm1', nm2', m1z, m2z, zm1, zm2, m12, m21, lg_cmp_ge, lg_cmp_le, lg_cmp_gt, lg_cmp_lt, lg_cmp_eq, oob, oobL, neg0, negL0, natle_f, or_false, false_or, true_or, or_true, or_self, cl, clL, le_t, le_f, lt_t, lt_f, leL_t, leL_f, ltL_t, ltL_f, leM_t, leM_f, ltM_t, ltM_f, leO_t, leO_f, cond_true, cond_false, Option.bind_some, Option.bind_none, if_false, if_true, nI_1, aL1, aL2, mL1, mL2, nI_add, pk_mul, pk_m1, sL1, dL1, pk_sub, m1p1, gIs_eq, gIs_k, gIs_i, gIs_n, gIs_e, gIJ, gIR, gJI, gJR, gJs_eq, gJs_k, gJs_n, gJs_e, gRI, gRJ, gRs_eq, gRs_k, gRs_i, gRs_n, gZI, gZJ, gZR, pI_s, pJ_s, pV_s, pR_s, pR_n, oR_n, oR_s, decide_true, decide_false, not_true_eq_false, not_false_eq_true, decT, decF, Bool.true_eq_false, Bool.false_eq_true, z01, o01, z1f, z1f', zz, oo, b2i_0, b2i_n, b2i_t, b2i_f, Bool.not_true, Bool.not_false]
    exact z
theorem m_setH {w : XW} {d : Dl} {s s0 : Sc} {r : Option Rl} {ts : Ar} {f : Int32} (h : RunM w d s r ts) (hk : KeptM w s0 f) {k : Nat} (hk6 : k < 6) (v : Int32) : RunM (sI w 50 0 (11 + 4 * k + 1) v) d (setH s k v) r ts ∧ KeptM (sI w 50 0 (11 + 4 * k + 1) v) s0 f ∧ Fr PMn w (sI w 50 0 (11 + 4 * k + 1) v) := by
  have hF : Fr (fun κ _ q => κ = 50 ∧ q = 11 + 4 * k + 1) w (sI w 50 0 (11 + 4 * k + 1) v) := (Fr.refl _ _).sI ⟨rfl, rfl⟩
  refine ⟨⟨h.1.fr hF (fun k q => by omega), h.2.1.fr hF (fun k q => by omega), ⟨by simp (disch := omega) only [true_and, and_true, false_and, and_false, beq_t, beq_f, eqN_t, eqN_f, eqL_t, eqL_f, nm1, nm2, nm1', nm2', m1z, m2z, zm1, zm2, m12, m21, lg_cmp_ge, lg_cmp_le, lg_cmp_gt, lg_cmp_lt, lg_cmp_eq, oob, oobL, neg0, negL0, natle_f, or_false, false_or, true_or, or_true, or_self, cl, clL, le_t, le_f, lt_t, lt_f, leL_t, leL_f, ltL_t, ltL_f, leM_t, leM_f, ltM_t, ltM_f, leO_t, leO_f, cond_true, cond_false, Option.bind_some, Option.bind_none, if_false, if_true, nI_1, aL1, aL2, mL1, mL2, nI_add, pk_mul, pk_m1, sL1, dL1, pk_sub, m1p1, gIs_eq, gIs_k, gIs_i, gIs_n, gIs_e, gIJ, gIR, gJI, gJR, gJs_eq, gJs_k, gJs_n, gJs_e, gRI, gRJ, gRs_eq, gRs_k, gRs_i, gRs_n, gZI, gZJ, gZR, pI_s, pJ_s, pV_s, pR_s, pR_n, oR_n, oR_s, decide_true, decide_false, not_true_eq_false, not_false_eq_true, decT, decF, Bool.true_eq_false, Bool.false_eq_true, z01, o01, z1f, z1f', zz, oo, b2i_0, b2i_n, b2i_t, b2i_f, Bool.not_true, Bool.not_false]; exact h.2.2.1.1, fun k' hk' => ?_⟩, h.2.2.2.1.fr hF (fun κ k q => by omega), by simp (disch := omega) only [true_and, and_true, false_and, and_false, beq_t, beq_f, eqN_t, eqN_f, eqL_t, eqL_f, nm1, nm2, nm1', nm2', m1z, m2z, zm1, zm2, m12, m21, lg_cmp_ge, lg_cmp_le, lg_cmp_gt, lg_cmp_lt, lg_cmp_eq, oob, oobL, neg0, negL0, natle_f, or_false, false_or, true_or, or_true, or_self, cl, clL, le_t, le_f, lt_t, lt_f, leL_t, leL_f, ltL_t, ltL_f, leM_t, leM_f, ltM_t, ltM_f, leO_t, leO_f, cond_true, cond_false, Option.bind_some, Option.bind_none, if_false, if_true, nI_1, aL1, aL2, mL1, mL2, nI_add, pk_mul, pk_m1, sL1, dL1, pk_sub, m1p1, gIs_eq, gIs_k, gIs_i, gIs_n, gIs_e, gIJ, gIR, gJI, gJR, gJs_eq, gJs_k, gJs_n, gJs_e, gRI, gRJ, gRs_eq, gRs_k, gRs_i, gRs_n, gZI, gZJ, gZR, pI_s, pJ_s, pV_s, pR_s, pR_n, oR_n, oR_s, decide_true, decide_false, not_true_eq_false, not_false_eq_true, decT, decF, Bool.true_eq_false, Bool.false_eq_true, z01, o01, z1f, z1f', zz, oo, b2i_0, b2i_n, b2i_t, b2i_f, Bool.not_true, Bool.not_false]; exact h.2.2.2.2⟩, hk.fr hF (fun k => by omega) (by omega), hF.mono (fun κ i k q => by unfold PMn; omega)⟩
  show _ ∧ _ = upd s.2.2.1 k v k' ∧ _
  have z := h.2.2.1.2 k' hk'
  by_cases q : k' = k
  · subst q
    rw [pk_us]
    simp (disch := omega) only [true_and, and_true, false_and, and_false, beq_t, beq_f, eqN_t, eqN_f, eqL_t, eqL_f, nm1, nm2, nm1', nm2', m1z, m2z, zm1, zm2, m12, m21, lg_cmp_ge, lg_cmp_le, lg_cmp_gt, lg_cmp_lt, lg_cmp_eq, oob, oobL, neg0, negL0, natle_f, or_false, false_or, true_or, or_true, or_self, cl, clL, le_t, le_f, lt_t, lt_f, leL_t, leL_f, ltL_t, ltL_f, leM_t, leM_f, ltM_t, ltM_f, leO_t, leO_f, cond_true, cond_false, Option.bind_some, Option.bind_none, if_false, if_true, nI_1, aL1, aL2, mL1, mL2, nI_add, pk_mul, pk_m1, sL1, dL1, pk_sub, m1p1, gIs_eq, gIs_k, gIs_i, gIs_n, gIs_e, gIJ, gIR, gJI, gJR, gJs_eq, gJs_k, gJs_n, gJs_e, gRI, gRJ, gRs_eq, gRs_k, gRs_i, gRs_n, gZI, gZJ, gZR, pI_s, pJ_s, pV_s, pR_s, pR_n, oR_n, oR_s, decide_true, decide_false, not_true_eq_false, not_false_eq_true, decT, decF, Bool.true_eq_false, Bool.false_eq_true, z01, o01, z1f, z1f', zz, oo, b2i_0, b2i_n, b2i_t, b2i_f, Bool.not_true, Bool.not_false]
    exact ⟨z.1, z.2.2⟩
  · rw [pk_un q]
    simp (disch := omega) only [true_and, and_true, false_and, and_false, beq_t, beq_f, eqN_t, eqN_f, eqL_t, eqL_f, nm1, nm2, nm1', nm2', m1z, m2z, zm1, zm2, m12, m21, lg_cmp_ge, lg_cmp_le, lg_cmp_gt, lg_cmp_lt, lg_cmp_eq, oob, oobL, neg0, negL0, natle_f, or_false, false_or, true_or, or_true, or_self, cl, clL, le_t, le_f, lt_t, lt_f, leL_t, leL_f, ltL_t, ltL_f, leM_t, leM_f, ltM_t, ltM_f, leO_t, leO_f, cond_true, cond_false, Option.bind_some, Option.bind_none, if_false, if_true, nI_1, aL1, aL2, mL1, mL2, nI_add, pk_mul, pk_m1, sL1, dL1, pk_sub, m1p1, gIs_eq, gIs_k, gIs_i, gIs_n, gIs_e, gIJ, gIR, gJI, gJR, gJs_eq, gJs_k, gJs_n, gJs_e, gRI, gRJ, gRs_eq, gRs_k, gRs_i, gRs_n, gZI, gZJ, gZR, pI_s, pJ_s, pV_s, pR_s, pR_n, oR_n, oR_s, decide_true, decide_false, not_true_eq_false, not_false_eq_true, decT, decF, Bool.true_eq_false, Bool.false_eq_true, z01, o01, z1f, z1f', zz, oo, b2i_0, b2i_n, b2i_t, b2i_f, Bool.not_true, Bool.not_false]
    exact z
def PQf (κ j k : Nat) : Prop := PQc κ j k ∨ (κ = 10 ∧ k = 12)
theorem remK {v k : Nat} (hv : v < 32768) (h0 : 0 < k) (hk : k < 1000) : nI v - nI v / nI k * nI k = nI (v % k) := by
  rw [pk_div (by omega) h0 (by omega), pk_mul, pk_sub (Nat.div_mul_le_self v k)]
  congr 1
  have := Nat.div_add_mod v k
  rw [Nat.mul_comm] at this
  omega
theorem frz_t {d : Dl} {r : Option Rl} {ts : Ar} {c : Nat} {s : Sc} {n1 n2 : Nat} (h : c ≤ nv n1 % 100 ∨ kn d = 0) : frz d r ts c s n1 n2 = (nightS d r ts s, n1) := by
  unfold frz
  rcases h with h | h
  · rw [decT h]; rfl
  · rw [decT h, Bool.or_true]; rfl
theorem frz_f {d : Dl} {r : Option Rl} {ts : Ar} {c : Nat} {s : Sc} {n1 n2 : Nat} (h : ¬ c ≤ nv n1 % 100) (h0 : ¬ kn d = 0) : frz d r ts c s n1 n2 = (nightS d r ts (setH s (nv n2 % kn d) 0), n2) := by
  unfold frz
  rw [decF h, decF h0]
  rfl
theorem c_frost1 {w : XW} {d : Dl} {s : Sc} {r : Option Rl} {ts : Ar} {n1 n2 : Nat} (N : Int32) {c i : Nat} (hc : c ≤ 100) (h : RunC w d s r ts) (hD : DOk d) (hS : SOk d s) (ht : TsOk d ts)
    (k1 : F_X11_draw [.inr (10, 0)] w = some (nI (nv n1), sI w 10 0 12 (nI n1))) (hv : nv n1 < 32768)
    (k2 : F_X11_draw [.inr (10, 0)] (sI w 10 0 12 (nI n1)) = some (nI (nv n2), sI (sI w 10 0 12 (nI n1)) 10 0 12 (nI n2))) (hv2 : nv n2 < 32768) (hi : i < 1000) : ∃ w', q_X11_goOnInFrost_7 N (nI c) (nI i) w = q_X11_goOnInFrost_2 N (nI c) (nI (i + 1)) w' ∧ RunC w' d (frz d r ts c s n1 n2).1 r ts ∧ gI w' 10 0 12 = nI (frz d r ts c s n1 n2).2 ∧ Fr PQf w w' := by
  have h6 := hD.1.2
  have r100 : nI (nv n1) - nI (nv n1) / 100 * 100 = nI (nv n1 % 100) := remK (k := 100) hv (by omega) (by omega)
  have F1 : Fr (fun κ _ k => κ = 10 ∧ k = 12) w (sI w 10 0 12 (nI n1)) := (Fr.refl _ _).sI ⟨rfl, rfl⟩
  have h1 : RunC (sI w 10 0 12 (nI n1)) d s r ts := h.fr F1 (fun κ j k q => by omega)
  have hlt : nv n1 % 100 < 100 := Nat.mod_lt _ (by omega)
  obtain ⟨jd, jr, g1, g2, _⟩ := id h
  have g3 : gI w 1 jd 3 = nI (kn d) := by rw [g2.1 3 (by omega)]; exact hD.1.1
  by_cases hcold : c ≤ nv n1 % 100 ∨ kn d = 0
  · obtain ⟨w2, a1, a2, a3⟩ := c_pass1 h1 hD hS ht
    rw [frz_t hcold]
    refine ⟨w2, ?_, a2, ?_, (F1.mono (fun κ j k q => Or.inr q)).trans (a3.mono (fun κ j k q => Or.inl q))⟩
    · rw [e_X11_goOnInFrost_7, k1]
      dsimp only [Option.bind_some]
      rw [r100]
      generalize nv n1 % 100 = v at *
      by_cases hle : c ≤ v
      · simp (disch := omega) only [e_X11_goOnInFrost_49, a1, true_and, and_true, false_and, and_false, beq_t, beq_f, eqN_t, eqN_f, eqL_t, eqL_f, nm1, nm2, nm1', nm2', m1z, m2z, zm1, zm2, m12, m21, lg_cmp_ge, lg_cmp_le, lg_cmp_gt, lg_cmp_lt, lg_cmp_eq, oob, oobL, neg0, negL0, natle_f, or_false, false_or, true_or, or_true, or_self, cl, clL, le_t, le_f, lt_t, lt_f, leL_t, leL_f, ltL_t, ltL_f, leM_t, leM_f, ltM_t, ltM_f, leO_t, leO_f, cond_true, cond_false, Option.bind_some, Option.bind_none, if_false, if_true, nI_1, aL1, aL2, mL1, mL2, nI_add, pk_mul, pk_m1, sL1, dL1, pk_sub, m1p1, gIs_eq, gIs_k, gIs_i, gIs_n, gIs_e, gIJ, gIR, gJI, gJR, gJs_eq, gJs_k, gJs_n, gJs_e, gRI, gRJ, gRs_eq, gRs_k, gRs_i, gRs_n, gZI, gZJ, gZR, pI_s, pJ_s, pV_s, pR_s, pR_n, oR_n, oR_s, decide_true, decide_false, not_true_eq_false, not_false_eq_true, decT, decF, Bool.true_eq_false, Bool.false_eq_true, z01, o01, z1f, z1f', zz, oo, b2i_0, b2i_n, b2i_t, b2i_f, Bool.not_true, Bool.not_false]
      · have hk0 : kn d = 0 := by omega
        simp (disch := omega) only [e_X11_goOnInFrost_18, g1, g3, hk0, e_X11_goOnInFrost_49, a1, true_and, and_true, false_and, and_false, beq_t, beq_f, eqN_t, eqN_f, eqL_t, eqL_f, nm1, nm2, nm1', nm2', m1z, m2z, zm1, zm2, m12, m21, lg_cmp_ge, lg_cmp_le, lg_cmp_gt, lg_cmp_lt, lg_cmp_eq, oob, oobL, neg0, negL0, natle_f, or_false, false_or, true_or, or_true, or_self, cl, clL, le_t, le_f, lt_t, lt_f, leL_t, leL_f, ltL_t, ltL_f, leM_t, leM_f, ltM_t, ltM_f, leO_t, leO_f, cond_true, cond_false, Option.bind_some, Option.bind_none, if_false, if_true, nI_1, aL1, aL2, mL1, mL2, nI_add, pk_mul, pk_m1, sL1, dL1, pk_sub, m1p1, gIs_eq, gIs_k, gIs_i, gIs_n, gIs_e, gIJ, gIR, gJI, gJR, gJs_eq, gJs_k, gJs_n, gJs_e, gRI, gRJ, gRs_eq, gRs_k, gRs_i, gRs_n, gZI, gZJ, gZR, pI_s, pJ_s, pV_s, pR_s, pR_n, oR_n, oR_s, decide_true, decide_false, not_true_eq_false, not_false_eq_true, decT, decF, Bool.true_eq_false, Bool.false_eq_true, z01, o01, z1f, z1f', zz, oo, b2i_0, b2i_n, b2i_t, b2i_f, Bool.not_true, Bool.not_false]
    · rw [(a3 10 0 12 (by unfold PQc; omega)).1]
      exact gIs_eq
  · have hcn : ¬ c ≤ nv n1 % 100 := fun z => hcold (Or.inl z)
    have hkn : ¬ kn d = 0 := fun z => hcold (Or.inr z)
    have F2 : Fr (fun κ _ k => κ = 10 ∧ k = 12) w (sI (sI w 10 0 12 (nI n1)) 10 0 12 (nI n2)) := F1.sI ⟨rfl, rfl⟩
    have h2 : RunC (sI (sI w 10 0 12 (nI n1)) 10 0 12 (nI n2)) d s r ts := h.fr F2 (fun κ j k q => by omega)
    have rk := remK (k := kn d) hv2 (by omega) (by omega)
    have hq : nv n2 % kn d < kn d := Nat.mod_lt _ (by omega)
    rw [frz_f hcn hkn]
    generalize nv n2 % kn d = q at *
    obtain ⟨b1, b2⟩ := c_setH h2 (k := q) 0
    obtain ⟨w2, a1, a2, a3⟩ := c_pass1 b1 hD (hS.setH q) ht
    refine ⟨w2, ?_, a2, ?_, ((F2.mono (fun κ j k q => Or.inr q)).trans (b2.mono (fun κ j k q => Or.inl q))).trans (a3.mono (fun κ j k q => Or.inl q))⟩
    · rw [e_X11_goOnInFrost_7, k1]
      dsimp only [Option.bind_some]
      rw [r100]
      generalize nv n1 % 100 = v at *
      simp (disch := omega) only [e_X11_goOnInFrost_18, g1, g3, e_X11_goOnInFrost_28, k2, rk, e_X11_goOnInFrost_49, a1, true_and, and_true, false_and, and_false, beq_t, beq_f, eqN_t, eqN_f, eqL_t, eqL_f, nm1, nm2, nm1', nm2', m1z, m2z, zm1, zm2, m12, m21, lg_cmp_ge, lg_cmp_le, lg_cmp_gt, lg_cmp_lt, lg_cmp_eq, oob, oobL, neg0, negL0, natle_f, or_false, false_or, true_or, or_true, or_self, cl, clL, le_t, le_f, lt_t, lt_f, leL_t, leL_f, ltL_t, ltL_f, leM_t, leM_f, ltM_t, ltM_f, leO_t, leO_f, cond_true, cond_false, Option.bind_some, Option.bind_none, if_false, if_true, nI_1, aL1, aL2, mL1, mL2, nI_add, pk_mul, pk_m1, sL1, dL1, pk_sub, m1p1, gIs_eq, gIs_k, gIs_i, gIs_n, gIs_e, gIJ, gIR, gJI, gJR, gJs_eq, gJs_k, gJs_n, gJs_e, gRI, gRJ, gRs_eq, gRs_k, gRs_i, gRs_n, gZI, gZJ, gZR, pI_s, pJ_s, pV_s, pR_s, pR_n, oR_n, oR_s, decide_true, decide_false, not_true_eq_false, not_false_eq_true, decT, decF, Bool.true_eq_false, Bool.false_eq_true, z01, o01, z1f, z1f', zz, oo, b2i_0, b2i_n, b2i_t, b2i_f, Bool.not_true, Bool.not_false]
    · rw [(a3 10 0 12 (by unfold PQc; omega)).1, gIs_n (by omega)]
      exact gIs_eq
