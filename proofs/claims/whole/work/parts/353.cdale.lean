/-! ===== the class reads a dale ===== -/
theorem upd_c {f : Ar} {k q : Nat} {v : Int32} : upd f k v q = if q = k then v else f q := by
  by_cases e : q = k
  · rw [if_pos e, e, pk_us]
  · rw [if_neg e, pk_un e]
theorem gIs_u {w : XW} {κ i k q : Nat} {v : Int32} {f : Ar} (h : gI w κ i q = f q) : gI (sI w κ i k v) κ i q = upd f k v q := by
  by_cases e : q = k
  · subst e; rw [gIs_eq, pk_us]
  · rw [gIs_k e, pk_un e]; exact h
theorem DlAt.h {w : XW} {j k : Nat} {v : Int32} {d : Dl} (hd : DlAt w j d) : DlAt (sI w 1 j k v) j (upd d.1 k v, d.2) := by
  refine ⟨fun q hq => gIs_u (hd.1 q hq), fun q hq => ?_, fun q hq => ?_, fun q hq => ?_⟩
  · rw [gIs_n (by omega), gIs_n (by omega), gIs_n (by omega)]; exact hd.2.1 q hq
  · rw [gIs_n (by omega), gIs_n (by omega)]; exact hd.2.2.1 q hq
  · rw [gIs_n (by omega)]; exact hd.2.2.2 q hq
theorem DlAt.room {w : XW} {j k : Nat} {v : Int32} {d : Dl} (hd : DlAt w j d) : DlAt (sI w 13 j k v) j (d.1, upd d.2.1 k v, d.2.2) := by
  refine ⟨fun q hq => by rw [gIs_n (by omega)]; exact hd.1 q hq, fun q hq => ?_, fun q hq => ?_, fun q hq => ?_⟩
  · rw [gIs_n (κ' := 14) (by omega), gIs_n (κ' := 15) (by omega)]; exact ⟨gIs_u (hd.2.1 q hq).1, (hd.2.1 q hq).2⟩
  · rw [gIs_n (by omega), gIs_n (by omega)]; exact hd.2.2.1 q hq
  · rw [gIs_n (by omega)]; exact hd.2.2.2 q hq
theorem DlAt.cools {w : XW} {j k : Nat} {v : Int32} {d : Dl} (hd : DlAt w j d) : DlAt (sI w 14 j k v) j (d.1, d.2.1, upd d.2.2.1 k v, d.2.2.2) := by
  refine ⟨fun q hq => by rw [gIs_n (by omega)]; exact hd.1 q hq, fun q hq => ?_, fun q hq => ?_, fun q hq => ?_⟩
  · rw [gIs_n (κ' := 13) (by omega), gIs_n (κ' := 15) (by omega)]; exact ⟨(hd.2.1 q hq).1, gIs_u (hd.2.1 q hq).2.1, (hd.2.1 q hq).2.2⟩
  · rw [gIs_n (by omega), gIs_n (by omega)]; exact hd.2.2.1 q hq
  · rw [gIs_n (by omega)]; exact hd.2.2.2 q hq
theorem DlAt.bes {w : XW} {j k : Nat} {v : Int32} {d : Dl} (hd : DlAt w j d) : DlAt (sI w 15 j k v) j (d.1, d.2.1, d.2.2.1, upd d.2.2.2.1 k v, d.2.2.2.2) := by
  refine ⟨fun q hq => by rw [gIs_n (by omega)]; exact hd.1 q hq, fun q hq => ?_, fun q hq => ?_, fun q hq => ?_⟩
  · rw [gIs_n (κ' := 13) (by omega), gIs_n (κ' := 14) (by omega)]; exact ⟨(hd.2.1 q hq).1, (hd.2.1 q hq).2.1, gIs_u (hd.2.1 q hq).2.2⟩
  · rw [gIs_n (by omega), gIs_n (by omega)]; exact hd.2.2.1 q hq
  · rw [gIs_n (by omega)]; exact hd.2.2.2 q hq
theorem DlAt.ownr {w : XW} {j k : Nat} {v : Int32} {d : Dl} (hd : DlAt w j d) : DlAt (sI w 16 j k v) j (d.1, d.2.1, d.2.2.1, d.2.2.2.1, upd d.2.2.2.2.1 k v, d.2.2.2.2.2) := by
  refine ⟨fun q hq => by rw [gIs_n (by omega)]; exact hd.1 q hq, fun q hq => ?_, fun q hq => ?_, fun q hq => ?_⟩
  · rw [gIs_n (by omega), gIs_n (by omega), gIs_n (by omega)]; exact hd.2.1 q hq
  · rw [gIs_n (κ' := 17) (by omega)]; exact ⟨gIs_u (hd.2.2.1 q hq).1, (hd.2.2.1 q hq).2⟩
  · rw [gIs_n (by omega)]; exact hd.2.2.2 q hq
theorem DlAt.tell {w : XW} {j k : Nat} {v : Int32} {d : Dl} (hd : DlAt w j d) : DlAt (sI w 17 j k v) j (d.1, d.2.1, d.2.2.1, d.2.2.2.1, d.2.2.2.2.1, upd d.2.2.2.2.2.1 k v, d.2.2.2.2.2.2) := by
  refine ⟨fun q hq => by rw [gIs_n (by omega)]; exact hd.1 q hq, fun q hq => ?_, fun q hq => ?_, fun q hq => ?_⟩
  · rw [gIs_n (by omega), gIs_n (by omega), gIs_n (by omega)]; exact hd.2.1 q hq
  · rw [gIs_n (κ' := 16) (by omega)]; exact ⟨(hd.2.2.1 q hq).1, gIs_u (hd.2.2.1 q hq).2⟩
  · rw [gIs_n (by omega)]; exact hd.2.2.2 q hq
theorem DlAt.crow {w : XW} {j k : Nat} {v : Int32} {d : Dl} (hd : DlAt w j d) : DlAt (sI w 18 j k v) j (d.1, d.2.1, d.2.2.1, d.2.2.2.1, d.2.2.2.2.1, d.2.2.2.2.2.1, upd d.2.2.2.2.2.2 k v) := by
  refine ⟨fun q hq => by rw [gIs_n (by omega)]; exact hd.1 q hq, fun q hq => ?_, fun q hq => ?_, fun q hq => gIs_u (hd.2.2.2 q hq)⟩
  · rw [gIs_n (by omega), gIs_n (by omega), gIs_n (by omega)]; exact hd.2.1 q hq
  · rw [gIs_n (by omega), gIs_n (by omega)]; exact hd.2.2.1 q hq
def PDr (j κ i k : Nat) : Prop := (κ = 9 ∧ 2 ≤ k) ∨ ((κ = 1 ∨ (13 ≤ κ ∧ κ ≤ 18)) ∧ i = j)
def PDd (j κ i _k : Nat) : Prop := (κ = 1 ∨ (13 ≤ κ ∧ κ ≤ 18)) ∧ i = j
/-- what a reading in the class comes to -/
def RC (j : Nat) (F : Option (Int32 × XW)) (w : XW) (t : Tp) (r : Nat ⊕ (Nat × Dl)) : Prop := ∃ w', Fr (PDr j) w w' ∧ match r with
  | .inl f => F = some (0, w') ∧ gI w' 9 0 5 = nI f
  | .inr q => F = some (1, w') ∧ CTp w' t q.1 ∧ DlAt w' j q.2
theorem CTp.d {w w' : XW} {t : Tp} {p j : Nat} (h : CTp w t p) (hF : Fr (PDd j) w w') : CTp w' t p := h.fr hF (fun κ k q => by unfold PDd; omega)
theorem DlAt.t {w w' : XW} {j : Nat} {d : Dl} (h : DlAt w j d) (hF : Fr PTt w w') : DlAt w' j d := h.fr hF (fun κ k q => by unfold PTt; omega)
theorem fT {w w' : XW} {j : Nat} (h : Fr PTt w w') : Fr (PDr j) w w' := h.mono (fun κ i k q => by unfold PTt at q; unfold PDr; omega)
theorem fD {w w' : XW} {j : Nat} (h : Fr (PDd j) w w') : Fr (PDr j) w w' := h.mono (fun κ i k q => by unfold PDd at q; unfold PDr; omega)
theorem c_readDale {w : XW} {t : Tp} (hT : TOk2 t) {e j : Nat} {d : Dl} (hC : CTp w t e) (hd : DlAt w j d) : RC j (F_X2_readDale [.inr (9, 0), .inr (1, j)] w) w t (clD t 0 e d) := by
  have e0 : clD t 0 e d = sB (nuS t e 0 10) (fun q => sB (nuS t q.1 1 100) (fun r => .inr (r.1, (upd (upd (upd d.1 1 (nI q.2)) 2 (nI r.2)) 0 1, d.2)))) := if_pos rfl
  rw [e0]
  obtain ⟨w1, F1, s1, h1⟩ := c_number hT hC 0 10 (by omega) (by omega)
  have hd1 := hd.t F1
  cases hq : nuS t e 0 10 with
  | inl f =>
    rw [hq] at h1
    obtain ⟨h1, h2⟩ := h1
    have h1 : F_X10_passNumber [.inr (9, 0), .inl (.int 0), .inl (.int 9)] w = some (0, w1) := h1
    refine ⟨w1, fT F1, ?_, h2⟩
    rw [f_X2_readDale, e_X2_readDale_0]
    simp (disch := omega) only [h1, e_X2_readDale_10, true_and, and_true, false_and, and_false, beq_t, beq_f, eqN_t, eqN_f, eqL_t, eqL_f, nm1, nm2, nm1', nm2', m1z, m2z, zm1, zm2, m12, m21, lg_cmp_ge, lg_cmp_le, lg_cmp_gt, lg_cmp_lt, lg_cmp_eq, oob, oobL, neg0, negL0, natle_f, or_false, false_or, true_or, or_true, or_self, cl, clL, le_t, le_f, lt_t, lt_f, leL_t, leL_f, ltL_t, ltL_f, leM_t, leM_f, ltM_t, ltM_f, leO_t, leO_f, cond_true, cond_false, Option.bind_some, Option.bind_none, if_false, if_true, nI_1, aL1, aL2, mL1, mL2, nI_add, pk_mul, pk_m1, sL1, dL1, pk_sub, m1p1, gIs_eq, gIs_k, gIs_i, gIs_n, gIs_e, gIJ, gIR, gJI, gJR, gJs_eq, gJs_k, gJs_n, gJs_e, gRI, gRJ, gRs_eq, gRs_k, gRs_i, gRs_n, gZI, gZJ, gZR, pI_s, pJ_s, pV_s, pR_s, pR_n, oR_n, oR_s, decide_true, decide_false, not_true_eq_false, not_false_eq_true, decT, decF, Bool.true_eq_false, Bool.false_eq_true, z01, o01, z1f, z1f', zz, oo, b2i_0, b2i_n, b2i_t, b2i_f, Bool.not_true, Bool.not_false]
  | inr q =>
    obtain ⟨p1, v⟩ := q
    rw [hq] at h1
    obtain ⟨h1, h2, h3, _⟩ := h1
    have h1 : F_X10_passNumber [.inr (9, 0), .inl (.int 0), .inl (.int 9)] w = some (1, w1) := h1
    have F2 : Fr (PDd j) w1 (sI w1 1 j 1 (nI v)) := (Fr.refl _ _).sI (by unfold PDd; omega)
    have hd2 := hd1.h (k := 1) (v := nI v)
    have hC2 := h2.d F2
    obtain ⟨w3, F3, s3, k1⟩ := c_number hT hC2 1 100 (by omega) (by omega)
    have hd3 := hd2.t F3
    have FF := ((fT (j := j) F1).trans (fD F2)).trans (fT F3)
    show RC j _ w t (sB (nuS t p1 1 100) _)
    cases hr : nuS t p1 1 100 with
    | inl f =>
      rw [hr] at k1
      obtain ⟨k1, k2⟩ := k1
      have k1 : F_X10_passNumber [.inr (9, 0), .inl (.int 1), .inl (.int 99)] (sI w1 1 j 1 (nI v)) = some (0, w3) := k1
      refine ⟨w3, FF, ?_, k2⟩
      rw [f_X2_readDale, e_X2_readDale_0]
      simp (disch := omega) only [h1, e_X2_readDale_12, h3, k1, e_X2_readDale_30, true_and, and_true, false_and, and_false, beq_t, beq_f, eqN_t, eqN_f, eqL_t, eqL_f, nm1, nm2, nm1', nm2', m1z, m2z, zm1, zm2, m12, m21, lg_cmp_ge, lg_cmp_le, lg_cmp_gt, lg_cmp_lt, lg_cmp_eq, oob, oobL, neg0, negL0, natle_f, or_false, false_or, true_or, or_true, or_self, cl, clL, le_t, le_f, lt_t, lt_f, leL_t, leL_f, ltL_t, ltL_f, leM_t, leM_f, ltM_t, ltM_f, leO_t, leO_f, cond_true, cond_false, Option.bind_some, Option.bind_none, if_false, if_true, nI_1, aL1, aL2, mL1, mL2, nI_add, pk_mul, pk_m1, sL1, dL1, pk_sub, m1p1, gIs_eq, gIs_k, gIs_i, gIs_n, gIs_e, gIJ, gIR, gJI, gJR, gJs_eq, gJs_k, gJs_n, gJs_e, gRI, gRJ, gRs_eq, gRs_k, gRs_i, gRs_n, gZI, gZJ, gZR, pI_s, pJ_s, pV_s, pR_s, pR_n, oR_n, oR_s, decide_true, decide_false, not_true_eq_false, not_false_eq_true, decT, decF, Bool.true_eq_false, Bool.false_eq_true, z01, o01, z1f, z1f', zz, oo, b2i_0, b2i_n, b2i_t, b2i_f, Bool.not_true, Bool.not_false]
    | inr r =>
      obtain ⟨p2, u⟩ := r
      rw [hr] at k1
      obtain ⟨k1, k2, k3, _⟩ := k1
      have k1 : F_X10_passNumber [.inr (9, 0), .inl (.int 1), .inl (.int 99)] (sI w1 1 j 1 (nI v)) = some (1, w3) := k1
      have F4 : Fr (PDd j) w3 (sI (sI w3 1 j 2 (nI u)) 1 j 0 1) := ((Fr.refl _ _).sI (by unfold PDd; omega)).sI (by unfold PDd; omega)
      refine ⟨sI (sI w3 1 j 2 (nI u)) 1 j 0 1, FF.trans (fD F4), ?_, k2.d F4, (hd3.h (k := 2) (v := nI u)).h (k := 0) (v := 1)⟩
      rw [f_X2_readDale, e_X2_readDale_0]
      simp (disch := omega) only [h1, e_X2_readDale_12, h3, k1, e_X2_readDale_32, k3, true_and, and_true, false_and, and_false, beq_t, beq_f, eqN_t, eqN_f, eqL_t, eqL_f, nm1, nm2, nm1', nm2', m1z, m2z, zm1, zm2, m12, m21, lg_cmp_ge, lg_cmp_le, lg_cmp_gt, lg_cmp_lt, lg_cmp_eq, oob, oobL, neg0, negL0, natle_f, or_false, false_or, true_or, or_true, or_self, cl, clL, le_t, le_f, lt_t, lt_f, leL_t, leL_f, ltL_t, ltL_f, leM_t, leM_f, ltM_t, ltM_f, leO_t, leO_f, cond_true, cond_false, Option.bind_some, Option.bind_none, if_false, if_true, nI_1, aL1, aL2, mL1, mL2, nI_add, pk_mul, pk_m1, sL1, dL1, pk_sub, m1p1, gIs_eq, gIs_k, gIs_i, gIs_n, gIs_e, gIJ, gIR, gJI, gJR, gJs_eq, gJs_k, gJs_n, gJs_e, gRI, gRJ, gRs_eq, gRs_k, gRs_i, gRs_n, gZI, gZJ, gZR, pI_s, pJ_s, pV_s, pR_s, pR_n, oR_n, oR_s, decide_true, decide_false, not_true_eq_false, not_false_eq_true, decT, decF, Bool.true_eq_false, Bool.false_eq_true, z01, o01, z1f, z1f', zz, oo, b2i_0, b2i_n, b2i_t, b2i_f, Bool.not_true, Bool.not_false]
theorem c_readKeep {w : XW} {t : Tp} (hT : TOk2 t) {e j : Nat} {d : Dl} (hD : DOk d) (hk : kn d < 6) (hC : CTp w t e) (hd : DlAt w j d) : RC j (F_X2_readKeep [.inr (9, 0), .inr (1, j)] w) w t (clD t 1 e d) := by
  have e0 : clD t 1 e d = sB (nuS t e 1 61) (fun q => sB (nuS t q.1 0 21) (fun r => .inr (r.1, (upd d.1 3 (nI (kn d + 1)), upd d.2.1 (kn d) (nI q.2), upd d.2.2.1 (kn d) (nI r.2), d.2.2.2)))) := rfl
  rw [e0]
  obtain ⟨w1, F1, s1, h1⟩ := c_number hT hC 1 61 (by omega) (by omega)
  have hd1 := hd.t F1
  have g1 : gI w1 1 j 3 = nI (kn d) := by rw [hd1.1 3 (by omega)]; exact hD.1.1
  cases hq : nuS t e 1 61 with
  | inl f =>
    rw [hq] at h1
    obtain ⟨h1, h2⟩ := h1
    have h1 : F_X10_passNumber [.inr (9, 0), .inl (.int 1), .inl (.int 60)] w = some (0, w1) := h1
    refine ⟨w1, fT F1, ?_, h2⟩
    rw [f_X2_readKeep, e_X2_readKeep_0]
    simp (disch := omega) only [h1, e_X2_readKeep_10, true_and, and_true, false_and, and_false, beq_t, beq_f, eqN_t, eqN_f, eqL_t, eqL_f, nm1, nm2, nm1', nm2', m1z, m2z, zm1, zm2, m12, m21, lg_cmp_ge, lg_cmp_le, lg_cmp_gt, lg_cmp_lt, lg_cmp_eq, oob, oobL, neg0, negL0, natle_f, or_false, false_or, true_or, or_true, or_self, cl, clL, le_t, le_f, lt_t, lt_f, leL_t, leL_f, ltL_t, ltL_f, leM_t, leM_f, ltM_t, ltM_f, leO_t, leO_f, cond_true, cond_false, Option.bind_some, Option.bind_none, if_false, if_true, nI_1, aL1, aL2, mL1, mL2, nI_add, pk_mul, pk_m1, sL1, dL1, pk_sub, m1p1, gIs_eq, gIs_k, gIs_i, gIs_n, gIs_e, gIJ, gIR, gJI, gJR, gJs_eq, gJs_k, gJs_n, gJs_e, gRI, gRJ, gRs_eq, gRs_k, gRs_i, gRs_n, gZI, gZJ, gZR, pI_s, pJ_s, pV_s, pR_s, pR_n, oR_n, oR_s, decide_true, decide_false, not_true_eq_false, not_false_eq_true, decT, decF, Bool.true_eq_false, Bool.false_eq_true, z01, o01, z1f, z1f', zz, oo, b2i_0, b2i_n, b2i_t, b2i_f, Bool.not_true, Bool.not_false]
  | inr q =>
    obtain ⟨p1, v⟩ := q
    rw [hq] at h1
    obtain ⟨h1, h2, h3, _⟩ := h1
    have h1 : F_X10_passNumber [.inr (9, 0), .inl (.int 1), .inl (.int 60)] w = some (1, w1) := h1
    have F2 : Fr (PDd j) w1 (sI w1 13 j (kn d) (nI v)) := (Fr.refl _ _).sI (by unfold PDd; omega)
    have hd2 := hd1.room (k := kn d) (v := nI v)
    have hC2 := h2.d F2
    obtain ⟨w3, F3, s3, k1⟩ := c_number hT hC2 0 21 (by omega) (by omega)
    have hd3 := hd2.t F3
    have g3 : gI w3 1 j 3 = nI (kn d) := by rw [hd3.1 3 (by omega)]; exact hD.1.1
    have FF := ((fT (j := j) F1).trans (fD F2)).trans (fT F3)
    show RC j _ w t (sB (nuS t p1 0 21) _)
    cases hr : nuS t p1 0 21 with
    | inl f =>
      rw [hr] at k1
      obtain ⟨k1, k2⟩ := k1
      have k1 : F_X10_passNumber [.inr (9, 0), .inl (.int 0), .inl (.int 20)] (sI w1 13 j (kn d) (nI v)) = some (0, w3) := k1
      refine ⟨w3, FF, ?_, k2⟩
      rw [f_X2_readKeep, e_X2_readKeep_0]
      simp (disch := omega) only [h1, e_X2_readKeep_12, g1, h3, k1, e_X2_readKeep_35, true_and, and_true, false_and, and_false, beq_t, beq_f, eqN_t, eqN_f, eqL_t, eqL_f, nm1, nm2, nm1', nm2', m1z, m2z, zm1, zm2, m12, m21, lg_cmp_ge, lg_cmp_le, lg_cmp_gt, lg_cmp_lt, lg_cmp_eq, oob, oobL, neg0, negL0, natle_f, or_false, false_or, true_or, or_true, or_self, cl, clL, le_t, le_f, lt_t, lt_f, leL_t, leL_f, ltL_t, ltL_f, leM_t, leM_f, ltM_t, ltM_f, leO_t, leO_f, cond_true, cond_false, Option.bind_some, Option.bind_none, if_false, if_true, nI_1, aL1, aL2, mL1, mL2, nI_add, pk_mul, pk_m1, sL1, dL1, pk_sub, m1p1, gIs_eq, gIs_k, gIs_i, gIs_n, gIs_e, gIJ, gIR, gJI, gJR, gJs_eq, gJs_k, gJs_n, gJs_e, gRI, gRJ, gRs_eq, gRs_k, gRs_i, gRs_n, gZI, gZJ, gZR, pI_s, pJ_s, pV_s, pR_s, pR_n, oR_n, oR_s, decide_true, decide_false, not_true_eq_false, not_false_eq_true, decT, decF, Bool.true_eq_false, Bool.false_eq_true, z01, o01, z1f, z1f', zz, oo, b2i_0, b2i_n, b2i_t, b2i_f, Bool.not_true, Bool.not_false]
    | inr r =>
      obtain ⟨p2, u⟩ := r
      rw [hr] at k1
      obtain ⟨k1, k2, k3, _⟩ := k1
      have k1 : F_X10_passNumber [.inr (9, 0), .inl (.int 0), .inl (.int 20)] (sI w1 13 j (kn d) (nI v)) = some (1, w3) := k1
      have F4 : Fr (PDd j) w3 (sI (sI w3 14 j (kn d) (nI u)) 1 j 3 (nI (kn d + 1))) := ((Fr.refl _ _).sI (by unfold PDd; omega)).sI (by unfold PDd; omega)
      refine ⟨_, FF.trans (fD F4), ?_, k2.d F4, (hd3.cools (k := kn d) (v := nI u)).h (k := 3) (v := nI (kn d + 1))⟩
      rw [f_X2_readKeep, e_X2_readKeep_0]
      simp (disch := omega) only [h1, e_X2_readKeep_12, g1, h3, k1, e_X2_readKeep_37, g3, k3, true_and, and_true, false_and, and_false, beq_t, beq_f, eqN_t, eqN_f, eqL_t, eqL_f, nm1, nm2, nm1', nm2', m1z, m2z, zm1, zm2, m12, m21, lg_cmp_ge, lg_cmp_le, lg_cmp_gt, lg_cmp_lt, lg_cmp_eq, oob, oobL, neg0, negL0, natle_f, or_false, false_or, true_or, or_true, or_self, cl, clL, le_t, le_f, lt_t, lt_f, leL_t, leL_f, ltL_t, ltL_f, leM_t, leM_f, ltM_t, ltM_f, leO_t, leO_f, cond_true, cond_false, Option.bind_some, Option.bind_none, if_false, if_true, nI_1, aL1, aL2, mL1, mL2, nI_add, pk_mul, pk_m1, sL1, dL1, pk_sub, m1p1, gIs_eq, gIs_k, gIs_i, gIs_n, gIs_e, gIJ, gIR, gJI, gJR, gJs_eq, gJs_k, gJs_n, gJs_e, gRI, gRJ, gRs_eq, gRs_k, gRs_i, gRs_n, gZI, gZJ, gZR, pI_s, pJ_s, pV_s, pR_s, pR_n, oR_n, oR_s, decide_true, decide_false, not_true_eq_false, not_false_eq_true, decT, decF, Bool.true_eq_false, Bool.false_eq_true, z01, o01, z1f, z1f', zz, oo, b2i_0, b2i_n, b2i_t, b2i_f, Bool.not_true, Bool.not_false]
theorem c_readPerson {w : XW} {t : Tp} (hT : TOk2 t) {e j : Nat} {d : Dl} (hD : DOk d) (hk : pn d < 5) (hC : CTp w t e) (hd : DlAt w j d) : RC j (F_X2_readPerson [.inr (9, 0), .inr (1, j)] w) w t (clD t 2 e d) := by
  have hk6 := hD.1.2
  have e0 : clD t 2 e d = sB (nuS t e 0 (kn d)) (fun q => sB (nuS t q.1 0 10) (fun r => .inr (r.1, (upd d.1 4 (nI (pn d + 1)), d.2.1, d.2.2.1, d.2.2.2.1, upd d.2.2.2.2.1 (pn d) (nI q.2), upd d.2.2.2.2.2.1 (pn d) (nI r.2), d.2.2.2.2.2.2)))) := rfl
  rw [e0]
  have g0 : gI w 1 j 3 - 1 = dn (kn d) := by rw [hd.1 3 (by omega), hD.1.1, dn_sub]
  obtain ⟨w1, F1, s1, h1⟩ := c_number hT hC 0 (kn d) (by omega) (by omega)
  have hd1 := hd.t F1
  have g1 : gI w1 1 j 4 = nI (pn d) := by rw [hd1.1 4 (by omega)]; exact hD.2.1.1
  cases hq : nuS t e 0 (kn d) with
  | inl f =>
    rw [hq] at h1
    obtain ⟨h1, h2⟩ := h1
    have h1 : F_X10_passNumber [.inr (9, 0), .inl (.int 0), .inl (.int (dn (kn d)))] w = some (0, w1) := h1
    refine ⟨w1, fT F1, ?_, h2⟩
    rw [f_X2_readPerson, e_X2_readPerson_0, g0]
    simp (disch := omega) only [h1, e_X2_readPerson_14, true_and, and_true, false_and, and_false, beq_t, beq_f, eqN_t, eqN_f, eqL_t, eqL_f, nm1, nm2, nm1', nm2', m1z, m2z, zm1, zm2, m12, m21, lg_cmp_ge, lg_cmp_le, lg_cmp_gt, lg_cmp_lt, lg_cmp_eq, oob, oobL, neg0, negL0, natle_f, or_false, false_or, true_or, or_true, or_self, cl, clL, le_t, le_f, lt_t, lt_f, leL_t, leL_f, ltL_t, ltL_f, leM_t, leM_f, ltM_t, ltM_f, leO_t, leO_f, cond_true, cond_false, Option.bind_some, Option.bind_none, if_false, if_true, nI_1, aL1, aL2, mL1, mL2, nI_add, pk_mul, pk_m1, sL1, dL1, pk_sub, m1p1, gIs_eq, gIs_k, gIs_i, gIs_n, gIs_e, gIJ, gIR, gJI, gJR, gJs_eq, gJs_k, gJs_n, gJs_e, gRI, gRJ, gRs_eq, gRs_k, gRs_i, gRs_n, gZI, gZJ, gZR, pI_s, pJ_s, pV_s, pR_s, pR_n, oR_n, oR_s, decide_true, decide_false, not_true_eq_false, not_false_eq_true, decT, decF, Bool.true_eq_false, Bool.false_eq_true, z01, o01, z1f, z1f', zz, oo, b2i_0, b2i_n, b2i_t, b2i_f, Bool.not_true, Bool.not_false]
  | inr q =>
    obtain ⟨p1, v⟩ := q
    rw [hq] at h1
    obtain ⟨h1, h2, h3, _⟩ := h1
    have h1 : F_X10_passNumber [.inr (9, 0), .inl (.int 0), .inl (.int (dn (kn d)))] w = some (1, w1) := h1
    have F2 : Fr (PDd j) w1 (sI w1 16 j (pn d) (nI v)) := (Fr.refl _ _).sI (by unfold PDd; omega)
    have hd2 := hd1.ownr (k := pn d) (v := nI v)
    have hC2 := h2.d F2
    obtain ⟨w3, F3, s3, k1⟩ := c_number hT hC2 0 10 (by omega) (by omega)
    have hd3 := hd2.t F3
    have g3 : gI w3 1 j 4 = nI (pn d) := by rw [hd3.1 4 (by omega)]; exact hD.2.1.1
    have FF := ((fT (j := j) F1).trans (fD F2)).trans (fT F3)
    show RC j _ w t (sB (nuS t p1 0 10) _)
    cases hr : nuS t p1 0 10 with
    | inl f =>
      rw [hr] at k1
      obtain ⟨k1, k2⟩ := k1
      have k1 : F_X10_passNumber [.inr (9, 0), .inl (.int 0), .inl (.int 9)] (sI w1 16 j (pn d) (nI v)) = some (0, w3) := k1
      refine ⟨w3, FF, ?_, k2⟩
      rw [f_X2_readPerson, e_X2_readPerson_0, g0]
      simp (disch := omega) only [h1, e_X2_readPerson_16, g1, h3, k1, e_X2_readPerson_39, true_and, and_true, false_and, and_false, beq_t, beq_f, eqN_t, eqN_f, eqL_t, eqL_f, nm1, nm2, nm1', nm2', m1z, m2z, zm1, zm2, m12, m21, lg_cmp_ge, lg_cmp_le, lg_cmp_gt, lg_cmp_lt, lg_cmp_eq, oob, oobL, neg0, negL0, natle_f, or_false, false_or, true_or, or_true, or_self, cl, clL, le_t, le_f, lt_t, lt_f, leL_t, leL_f, ltL_t, ltL_f, leM_t, leM_f, ltM_t, ltM_f, leO_t, leO_f, cond_true, cond_false, Option.bind_some, Option.bind_none, if_false, if_true, nI_1, aL1, aL2, mL1, mL2, nI_add, pk_mul, pk_m1, sL1, dL1, pk_sub, m1p1, gIs_eq, gIs_k, gIs_i, gIs_n, gIs_e, gIJ, gIR, gJI, gJR, gJs_eq, gJs_k, gJs_n, gJs_e, gRI, gRJ, gRs_eq, gRs_k, gRs_i, gRs_n, gZI, gZJ, gZR, pI_s, pJ_s, pV_s, pR_s, pR_n, oR_n, oR_s, decide_true, decide_false, not_true_eq_false, not_false_eq_true, decT, decF, Bool.true_eq_false, Bool.false_eq_true, z01, o01, z1f, z1f', zz, oo, b2i_0, b2i_n, b2i_t, b2i_f, Bool.not_true, Bool.not_false]
    | inr r =>
      obtain ⟨p2, u⟩ := r
      rw [hr] at k1
      obtain ⟨k1, k2, k3, _⟩ := k1
      have k1 : F_X10_passNumber [.inr (9, 0), .inl (.int 0), .inl (.int 9)] (sI w1 16 j (pn d) (nI v)) = some (1, w3) := k1
      have F4 : Fr (PDd j) w3 (sI (sI w3 17 j (pn d) (nI u)) 1 j 4 (nI (pn d + 1))) := ((Fr.refl _ _).sI (by unfold PDd; omega)).sI (by unfold PDd; omega)
      refine ⟨_, FF.trans (fD F4), ?_, k2.d F4, (hd3.tell (k := pn d) (v := nI u)).h (k := 4) (v := nI (pn d + 1))⟩
      rw [f_X2_readPerson, e_X2_readPerson_0, g0]
      simp (disch := omega) only [h1, e_X2_readPerson_16, g1, h3, k1, e_X2_readPerson_41, g3, k3, true_and, and_true, false_and, and_false, beq_t, beq_f, eqN_t, eqN_f, eqL_t, eqL_f, nm1, nm2, nm1', nm2', m1z, m2z, zm1, zm2, m12, m21, lg_cmp_ge, lg_cmp_le, lg_cmp_gt, lg_cmp_lt, lg_cmp_eq, oob, oobL, neg0, negL0, natle_f, or_false, false_or, true_or, or_true, or_self, cl, clL, le_t, le_f, lt_t, lt_f, leL_t, leL_f, ltL_t, ltL_f, leM_t, leM_f, ltM_t, ltM_f, leO_t, leO_f, cond_true, cond_false, Option.bind_some, Option.bind_none, if_false, if_true, nI_1, aL1, aL2, mL1, mL2, nI_add, pk_mul, pk_m1, sL1, dL1, pk_sub, m1p1, gIs_eq, gIs_k, gIs_i, gIs_n, gIs_e, gIJ, gIR, gJI, gJR, gJs_eq, gJs_k, gJs_n, gJs_e, gRI, gRJ, gRs_eq, gRs_k, gRs_i, gRs_n, gZI, gZJ, gZR, pI_s, pJ_s, pV_s, pR_s, pR_n, oR_n, oR_s, decide_true, decide_false, not_true_eq_false, not_false_eq_true, decT, decF, Bool.true_eq_false, Bool.false_eq_true, z01, o01, z1f, z1f', zz, oo, b2i_0, b2i_n, b2i_t, b2i_f, Bool.not_true, Bool.not_false]
theorem c_readField {w : XW} {t : Tp} (hT : TOk2 t) {e j : Nat} {d : Dl} (hD : DOk d) (hk : fn d < 4) (hC : CTp w t e) (hd : DlAt w j d) : RC j (F_X2_readField [.inr (9, 0), .inr (1, j)] w) w t (clD t 3 e d) := by
  have e0 : clD t 3 e d = sB (nuS t e 0 61) (fun q => .inr (q.1, (upd d.1 5 (nI (fn d + 1)), d.2.1, d.2.2.1, d.2.2.2.1, d.2.2.2.2.1, d.2.2.2.2.2.1, upd d.2.2.2.2.2.2 (fn d) (nI q.2)))) := rfl
  rw [e0]
  obtain ⟨w1, F1, s1, h1⟩ := c_number hT hC 0 61 (by omega) (by omega)
  have hd1 := hd.t F1
  have g1 : gI w1 1 j 5 = nI (fn d) := by rw [hd1.1 5 (by omega)]; exact hD.2.2.1.1
  cases hq : nuS t e 0 61 with
  | inl f =>
    rw [hq] at h1
    obtain ⟨h1, h2⟩ := h1
    have h1 : F_X10_passNumber [.inr (9, 0), .inl (.int 0), .inl (.int 60)] w = some (0, w1) := h1
    refine ⟨w1, fT F1, ?_, h2⟩
    rw [f_X2_readField, e_X2_readField_0]
    simp (disch := omega) only [h1, e_X2_readField_10, true_and, and_true, false_and, and_false, beq_t, beq_f, eqN_t, eqN_f, eqL_t, eqL_f, nm1, nm2, nm1', nm2', m1z, m2z, zm1, zm2, m12, m21, lg_cmp_ge, lg_cmp_le, lg_cmp_gt, lg_cmp_lt, lg_cmp_eq, oob, oobL, neg0, negL0, natle_f, or_false, false_or, true_or, or_true, or_self, cl, clL, le_t, le_f, lt_t, lt_f, leL_t, leL_f, ltL_t, ltL_f, leM_t, leM_f, ltM_t, ltM_f, leO_t, leO_f, cond_true, cond_false, Option.bind_some, Option.bind_none, if_false, if_true, nI_1, aL1, aL2, mL1, mL2, nI_add, pk_mul, pk_m1, sL1, dL1, pk_sub, m1p1, gIs_eq, gIs_k, gIs_i, gIs_n, gIs_e, gIJ, gIR, gJI, gJR, gJs_eq, gJs_k, gJs_n, gJs_e, gRI, gRJ, gRs_eq, gRs_k, gRs_i, gRs_n, gZI, gZJ, gZR, pI_s, pJ_s, pV_s, pR_s, pR_n, oR_n, oR_s, decide_true, decide_false, not_true_eq_false, not_false_eq_true, decT, decF, Bool.true_eq_false, Bool.false_eq_true, z01, o01, z1f, z1f', zz, oo, b2i_0, b2i_n, b2i_t, b2i_f, Bool.not_true, Bool.not_false]
  | inr q =>
    obtain ⟨p1, v⟩ := q
    rw [hq] at h1
    obtain ⟨h1, h2, h3, _⟩ := h1
    have h1 : F_X10_passNumber [.inr (9, 0), .inl (.int 0), .inl (.int 60)] w = some (1, w1) := h1
    have F2 : Fr (PDd j) w1 (sI (sI w1 18 j (fn d) (nI v)) 1 j 5 (nI (fn d + 1))) := ((Fr.refl _ _).sI (by unfold PDd; omega)).sI (by unfold PDd; omega)
    refine ⟨_, (fT F1).trans (fD F2), ?_, h2.d F2, (hd1.crow (k := fn d) (v := nI v)).h (k := 5) (v := nI (fn d + 1))⟩
    rw [f_X2_readField, e_X2_readField_0]
    simp (disch := omega) only [h1, e_X2_readField_12, g1, h3, true_and, and_true, false_and, and_false, beq_t, beq_f, eqN_t, eqN_f, eqL_t, eqL_f, nm1, nm2, nm1', nm2', m1z, m2z, zm1, zm2, m12, m21, lg_cmp_ge, lg_cmp_le, lg_cmp_gt, lg_cmp_lt, lg_cmp_eq, oob, oobL, neg0, negL0, natle_f, or_false, false_or, true_or, or_true, or_self, cl, clL, le_t, le_f, lt_t, lt_f, leL_t, leL_f, ltL_t, ltL_f, leM_t, leM_f, ltM_t, ltM_f, leO_t, leO_f, cond_true, cond_false, Option.bind_some, Option.bind_none, if_false, if_true, nI_1, aL1, aL2, mL1, mL2, nI_add, pk_mul, pk_m1, sL1, dL1, pk_sub, m1p1, gIs_eq, gIs_k, gIs_i, gIs_n, gIs_e, gIJ, gIR, gJI, gJR, gJs_eq, gJs_k, gJs_n, gJs_e, gRI, gRJ, gRs_eq, gRs_k, gRs_i, gRs_n, gZI, gZJ, gZR, pI_s, pJ_s, pV_s, pR_s, pR_n, oR_n, oR_s, decide_true, decide_false, not_true_eq_false, not_false_eq_true, decT, decF, Bool.true_eq_false, Bool.false_eq_true, z01, o01, z1f, z1f', zz, oo, b2i_0, b2i_n, b2i_t, b2i_f, Bool.not_true, Bool.not_false]
theorem c_readBeside {w : XW} {t : Tp} (hT : TOk2 t) {e j jj : Nat} {d : Dl} (hjj : 4 ≤ jj) (hD : DOk d) (hC : CTp w t e) (hd : DlAt w j d) : RC j (F_X2_readBeside [.inr (9, 0), .inr (1, j)] w) w t (clD t jj e d) := by
  have hk6 := hD.1.2
  have e0 : clD t jj e d = sB (nuS t e 0 (kn d)) (fun q => sB (nuS t q.1 0 (kn d)) (fun r => if q.2 = r.2 then .inl (1 + 8 * sk t q.1 + 1) else .inr (r.1, (d.1, d.2.1, d.2.2.1, orB (orB d.2.2.2.1 q.2 r.2) r.2 q.2, d.2.2.2.2)))) := by
    unfold clD
    rw [if_neg (by omega), if_neg (by omega), if_neg (by omega), if_neg (by omega)]
  rw [e0]
  have g0 : gI w 1 j 3 - 1 = dn (kn d) := by rw [hd.1 3 (by omega), hD.1.1, dn_sub]
  obtain ⟨w1, F1, s1, h1⟩ := c_number hT hC 0 (kn d) (by omega) (by omega)
  have hd1 := hd.t F1
  have g1 : gI w1 1 j 3 - 1 = dn (kn d) := by rw [hd1.1 3 (by omega), hD.1.1, dn_sub]
  cases hq : nuS t e 0 (kn d) with
  | inl f =>
    rw [hq] at h1
    obtain ⟨h1, h2⟩ := h1
    have h1 : F_X10_passNumber [.inr (9, 0), .inl (.int 0), .inl (.int (dn (kn d)))] w = some (0, w1) := h1
    refine ⟨w1, fT F1, ?_, h2⟩
    rw [f_X2_readBeside, e_X2_readBeside_0, g0]
    simp (disch := omega) only [h1, e_X2_readBeside_14, true_and, and_true, false_and, and_false, beq_t, beq_f, eqN_t, eqN_f, eqL_t, eqL_f, nm1, nm2, nm1', nm2', m1z, m2z, zm1, zm2, m12, m21, lg_cmp_ge, lg_cmp_le, lg_cmp_gt, lg_cmp_lt, lg_cmp_eq, oob, oobL, neg0, negL0, natle_f, or_false, false_or, true_or, or_true, or_self, cl, clL, le_t, le_f, lt_t, lt_f, leL_t, leL_f, ltL_t, ltL_f, leM_t, leM_f, ltM_t, ltM_f, leO_t, leO_f, cond_true, cond_false, Option.bind_some, Option.bind_none, if_false, if_true, nI_1, aL1, aL2, mL1, mL2, nI_add, pk_mul, pk_m1, sL1, dL1, pk_sub, m1p1, gIs_eq, gIs_k, gIs_i, gIs_n, gIs_e, gIJ, gIR, gJI, gJR, gJs_eq, gJs_k, gJs_n, gJs_e, gRI, gRJ, gRs_eq, gRs_k, gRs_i, gRs_n, gZI, gZJ, gZR, pI_s, pJ_s, pV_s, pR_s, pR_n, oR_n, oR_s, decide_true, decide_false, not_true_eq_false, not_false_eq_true, decT, decF, Bool.true_eq_false, Bool.false_eq_true, z01, o01, z1f, z1f', zz, oo, b2i_0, b2i_n, b2i_t, b2i_f, Bool.not_true, Bool.not_false]
  | inr q =>
    obtain ⟨p1, v⟩ := q
    rw [hq] at h1
    obtain ⟨h1, h2, h3, _, hv, _⟩ := h1
    have h1 : F_X10_passNumber [.inr (9, 0), .inl (.int 0), .inl (.int (dn (kn d)))] w = some (1, w1) := h1
    obtain ⟨w3, F3, s3, k1⟩ := c_number hT h2 0 (kn d) (by omega) (by omega)
    have hd3 := hd1.t F3
    have FF := (fT (j := j) F1).trans (fT F3)
    show RC j _ w t (sB (nuS t p1 0 (kn d)) _)
    cases hr : nuS t p1 0 (kn d) with
    | inl f =>
      rw [hr] at k1
      obtain ⟨k1, k2⟩ := k1
      have k1 : F_X10_passNumber [.inr (9, 0), .inl (.int 0), .inl (.int (dn (kn d)))] w1 = some (0, w3) := k1
      refine ⟨w3, FF, ?_, k2⟩
      rw [f_X2_readBeside, e_X2_readBeside_0, g0]
      simp (disch := omega) only [h1, e_X2_readBeside_16, g1, h3, k1, e_X2_readBeside_35, true_and, and_true, false_and, and_false, beq_t, beq_f, eqN_t, eqN_f, eqL_t, eqL_f, nm1, nm2, nm1', nm2', m1z, m2z, zm1, zm2, m12, m21, lg_cmp_ge, lg_cmp_le, lg_cmp_gt, lg_cmp_lt, lg_cmp_eq, oob, oobL, neg0, negL0, natle_f, or_false, false_or, true_or, or_true, or_self, cl, clL, le_t, le_f, lt_t, lt_f, leL_t, leL_f, ltL_t, ltL_f, leM_t, leM_f, ltM_t, ltM_f, leO_t, leO_f, cond_true, cond_false, Option.bind_some, Option.bind_none, if_false, if_true, nI_1, aL1, aL2, mL1, mL2, nI_add, pk_mul, pk_m1, sL1, dL1, pk_sub, m1p1, gIs_eq, gIs_k, gIs_i, gIs_n, gIs_e, gIJ, gIR, gJI, gJR, gJs_eq, gJs_k, gJs_n, gJs_e, gRI, gRJ, gRs_eq, gRs_k, gRs_i, gRs_n, gZI, gZJ, gZR, pI_s, pJ_s, pV_s, pR_s, pR_n, oR_n, oR_s, decide_true, decide_false, not_true_eq_false, not_false_eq_true, decT, decF, Bool.true_eq_false, Bool.false_eq_true, z01, o01, z1f, z1f', zz, oo, b2i_0, b2i_n, b2i_t, b2i_f, Bool.not_true, Bool.not_false]
    | inr r =>
      obtain ⟨p2, u⟩ := r
      rw [hr] at k1
      obtain ⟨k1, k2, k3, _, hu, _⟩ := k1
      have k1 : F_X10_passNumber [.inr (9, 0), .inl (.int 0), .inl (.int (dn (kn d)))] w1 = some (1, w3) := k1
      show RC j _ w t (if v = u then _ else _)
      by_cases c : v = u
      · rw [if_pos c]
        have kf := c_fail1 (w := w3) (sk t p1)
        refine ⟨sI w3 9 0 5 (nI (1 + 8 * sk t p1 + 1)), FF.sI (by unfold PDr; omega), ?_, gIs_eq⟩
        rw [f_X2_readBeside, e_X2_readBeside_0, g0]
        simp (disch := omega) only [h1, e_X2_readBeside_16, g1, h3, k1, e_X2_readBeside_37, k3, c, e_X2_readBeside_47, s3, kf, true_and, and_true, false_and, and_false, beq_t, beq_f, eqN_t, eqN_f, eqL_t, eqL_f, nm1, nm2, nm1', nm2', m1z, m2z, zm1, zm2, m12, m21, lg_cmp_ge, lg_cmp_le, lg_cmp_gt, lg_cmp_lt, lg_cmp_eq, oob, oobL, neg0, negL0, natle_f, or_false, false_or, true_or, or_true, or_self, cl, clL, le_t, le_f, lt_t, lt_f, leL_t, leL_f, ltL_t, ltL_f, leM_t, leM_f, ltM_t, ltM_f, leO_t, leO_f, cond_true, cond_false, Option.bind_some, Option.bind_none, if_false, if_true, nI_1, aL1, aL2, mL1, mL2, nI_add, pk_mul, pk_m1, sL1, dL1, pk_sub, m1p1, gIs_eq, gIs_k, gIs_i, gIs_n, gIs_e, gIJ, gIR, gJI, gJR, gJs_eq, gJs_k, gJs_n, gJs_e, gRI, gRJ, gRs_eq, gRs_k, gRs_i, gRs_n, gZI, gZJ, gZR, pI_s, pJ_s, pV_s, pR_s, pR_n, oR_n, oR_s, decide_true, decide_false, not_true_eq_false, not_false_eq_true, decT, decF, Bool.true_eq_false, Bool.false_eq_true, z01, o01, z1f, z1f', zz, oo, b2i_0, b2i_n, b2i_t, b2i_f, Bool.not_true, Bool.not_false]
      · rw [if_neg c]
        have b1 := (hd3.2.1 v (by omega)).2.2
        have hb := hd3.bes (k := v) (v := d.2.2.2.1 v ||| ((1 : Int32) <<< (nI u &&& 31)))
        have b2 := (hb.2.1 u (by omega)).2.2
        dsimp only at b2
        rw [gIs_k (fun z => c z.symm)] at b2
        have hb2 := hb.bes (k := u) (v := orB d.2.2.2.1 v u u ||| ((1 : Int32) <<< (nI v &&& 31)))
        have F4 : Fr (PDd j) w3 (sI (sI w3 15 j v (d.2.2.2.1 v ||| ((1 : Int32) <<< (nI u &&& 31)))) 15 j u (orB d.2.2.2.1 v u u ||| ((1 : Int32) <<< (nI v &&& 31)))) := ((Fr.refl _ _).sI (by unfold PDd; omega)).sI (by unfold PDd; omega)
        refine ⟨_, FF.trans (fD F4), ?_, k2.d F4, hb2⟩
        rw [f_X2_readBeside, e_X2_readBeside_0, g0]
        simp (disch := omega) only [h1, e_X2_readBeside_16, g1, h3, k1, e_X2_readBeside_37, k3, c, e_X2_readBeside_57, true_and, and_true, false_and, and_false, beq_t, beq_f, eqN_t, eqN_f, eqL_t, eqL_f, nm1, nm2, nm1', nm2', m1z, m2z, zm1, zm2, m12, m21, lg_cmp_ge, lg_cmp_le, lg_cmp_gt, lg_cmp_lt, lg_cmp_eq, oob, oobL, neg0, negL0, natle_f, or_false, false_or, true_or, or_true, or_self, cl, clL, le_t, le_f, lt_t, lt_f, leL_t, leL_f, ltL_t, ltL_f, leM_t, leM_f, ltM_t, ltM_f, leO_t, leO_f, cond_true, cond_false, Option.bind_some, Option.bind_none, if_false, if_true, nI_1, aL1, aL2, mL1, mL2, nI_add, pk_mul, pk_m1, sL1, dL1, pk_sub, m1p1, gIs_eq, gIs_k, gIs_i, gIs_n, gIs_e, gIJ, gIR, gJI, gJR, gJs_eq, gJs_k, gJs_n, gJs_e, gRI, gRJ, gRs_eq, gRs_k, gRs_i, gRs_n, gZI, gZJ, gZR, pI_s, pJ_s, pV_s, pR_s, pR_n, oR_n, oR_s, decide_true, decide_false, not_true_eq_false, not_false_eq_true, decT, decF, Bool.true_eq_false, Bool.false_eq_true, z01, o01, z1f, z1f', zz, oo, b2i_0, b2i_n, b2i_t, b2i_f, Bool.not_true, Bool.not_false]
        rw [b1, b2]
        rfl
theorem c_hasRoom {w : XW} {j jj : Nat} {d : Dl} (hD : DOk d) (hd : DlAt w j d) (hj : jj < 5) : F_X2_hasRoomFor [.inr (1, j), .inl (.int (nI jj))] w = some (b2i (decide (¬ ((jj = 1 ∧ 6 ≤ kn d) ∨ (jj = 2 ∧ 5 ≤ pn d) ∨ (jj = 3 ∧ 4 ≤ fn d)))), w) := by
  have k2 := hD.1.2
  have k4 := hD.2.1.2
  have k6 := hD.2.2.1.2
  have g3 : gI w 1 j 3 = nI (kn d) := by rw [hd.1 3 (by omega)]; exact hD.1.1
  have g4 : gI w 1 j 4 = nI (pn d) := by rw [hd.1 4 (by omega)]; exact hD.2.1.1
  have g5 : gI w 1 j 5 = nI (fn d) := by rw [hd.1 5 (by omega)]; exact hD.2.2.1.1
  rw [f_X2_hasRoomFor, e_X2_hasRoomFor_0]
  have : jj = 0 ∨ jj = 1 ∨ jj = 2 ∨ jj = 3 ∨ jj = 4 := by omega
  rcases this with rfl | rfl | rfl | rfl | rfl
  · rw [decT (by omega)]
    simp (disch := omega) only [e_X2_hasRoomFor_71, true_and, and_true, false_and, and_false, beq_t, beq_f, eqN_t, eqN_f, eqL_t, eqL_f, nm1, nm2, nm1', nm2', m1z, m2z, zm1, zm2, m12, m21, lg_cmp_ge, lg_cmp_le, lg_cmp_gt, lg_cmp_lt, lg_cmp_eq, oob, oobL, neg0, negL0, natle_f, or_false, false_or, true_or, or_true, or_self, cl, clL, le_t, le_f, lt_t, lt_f, leL_t, leL_f, ltL_t, ltL_f, leM_t, leM_f, ltM_t, ltM_f, leO_t, leO_f, cond_true, cond_false, Option.bind_some, Option.bind_none, if_false, if_true, nI_1, aL1, aL2, mL1, mL2, nI_add, pk_mul, pk_m1, sL1, dL1, pk_sub, m1p1, gIs_eq, gIs_k, gIs_i, gIs_n, gIs_e, gIJ, gIR, gJI, gJR, gJs_eq, gJs_k, gJs_n, gJs_e, gRI, gRJ, gRs_eq, gRs_k, gRs_i, gRs_n, gZI, gZJ, gZR, pI_s, pJ_s, pV_s, pR_s, pR_n, oR_n, oR_s, decide_true, decide_false, not_true_eq_false, not_false_eq_true, decT, decF, Bool.true_eq_false, Bool.false_eq_true, z01, o01, z1f, z1f', zz, oo, b2i_0, b2i_n, b2i_t, b2i_f, Bool.not_true, Bool.not_false]
  · by_cases c : 6 ≤ kn d
    · rw [decF (by omega)]
      show (q_X2_hasRoomFor_28 j w).bind pI = _
      ((try dsimp only); rw [e_X2_hasRoomFor_28]; simp (disch := omega) only [g3, e_X2_hasRoomFor_41, e_X2_hasRoomFor_42, true_and, and_true, false_and, and_false, beq_t, beq_f, eqN_t, eqN_f, eqL_t, eqL_f, nm1, nm2, nm1', nm2', m1z, m2z, zm1, zm2, m12, m21, lg_cmp_ge, lg_cmp_le, lg_cmp_gt, lg_cmp_lt, lg_cmp_eq, oob, oobL, neg0, negL0, natle_f, or_false, false_or, true_or, or_true, or_self, cl, clL, le_t, le_f, lt_t, lt_f, leL_t, leL_f, ltL_t, ltL_f, leM_t, leM_f, ltM_t, ltM_f, leO_t, leO_f, cond_true, cond_false, Option.bind_some, Option.bind_none, if_false, if_true, nI_1, aL1, aL2, mL1, mL2, nI_add, pk_mul, pk_m1, sL1, dL1, pk_sub, m1p1, gIs_eq, gIs_k, gIs_i, gIs_n, gIs_e, gIJ, gIR, gJI, gJR, gJs_eq, gJs_k, gJs_n, gJs_e, gRI, gRJ, gRs_eq, gRs_k, gRs_i, gRs_n, gZI, gZJ, gZR, pI_s, pJ_s, pV_s, pR_s, pR_n, oR_n, oR_s, decide_true, decide_false, not_true_eq_false, not_false_eq_true, decT, decF, Bool.true_eq_false, Bool.false_eq_true, z01, o01, z1f, z1f', zz, oo, b2i_0, b2i_n, b2i_t, b2i_f, Bool.not_true, Bool.not_false])
    · rw [decT (by omega)]
      show (q_X2_hasRoomFor_28 j w).bind pI = _
      ((try dsimp only); rw [e_X2_hasRoomFor_28]; simp (disch := omega) only [g3, e_X2_hasRoomFor_37, e_X2_hasRoomFor_42, true_and, and_true, false_and, and_false, beq_t, beq_f, eqN_t, eqN_f, eqL_t, eqL_f, nm1, nm2, nm1', nm2', m1z, m2z, zm1, zm2, m12, m21, lg_cmp_ge, lg_cmp_le, lg_cmp_gt, lg_cmp_lt, lg_cmp_eq, oob, oobL, neg0, negL0, natle_f, or_false, false_or, true_or, or_true, or_self, cl, clL, le_t, le_f, lt_t, lt_f, leL_t, leL_f, ltL_t, ltL_f, leM_t, leM_f, ltM_t, ltM_f, leO_t, leO_f, cond_true, cond_false, Option.bind_some, Option.bind_none, if_false, if_true, nI_1, aL1, aL2, mL1, mL2, nI_add, pk_mul, pk_m1, sL1, dL1, pk_sub, m1p1, gIs_eq, gIs_k, gIs_i, gIs_n, gIs_e, gIJ, gIR, gJI, gJR, gJs_eq, gJs_k, gJs_n, gJs_e, gRI, gRJ, gRs_eq, gRs_k, gRs_i, gRs_n, gZI, gZJ, gZR, pI_s, pJ_s, pV_s, pR_s, pR_n, oR_n, oR_s, decide_true, decide_false, not_true_eq_false, not_false_eq_true, decT, decF, Bool.true_eq_false, Bool.false_eq_true, z01, o01, z1f, z1f', zz, oo, b2i_0, b2i_n, b2i_t, b2i_f, Bool.not_true, Bool.not_false])
  · by_cases c : 5 ≤ pn d
    · rw [decF (by omega)]
      show (q_X2_hasRoomFor_43 j w).bind pI = _
      ((try dsimp only); rw [e_X2_hasRoomFor_43]; simp (disch := omega) only [g4, e_X2_hasRoomFor_55, e_X2_hasRoomFor_56, true_and, and_true, false_and, and_false, beq_t, beq_f, eqN_t, eqN_f, eqL_t, eqL_f, nm1, nm2, nm1', nm2', m1z, m2z, zm1, zm2, m12, m21, lg_cmp_ge, lg_cmp_le, lg_cmp_gt, lg_cmp_lt, lg_cmp_eq, oob, oobL, neg0, negL0, natle_f, or_false, false_or, true_or, or_true, or_self, cl, clL, le_t, le_f, lt_t, lt_f, leL_t, leL_f, ltL_t, ltL_f, leM_t, leM_f, ltM_t, ltM_f, leO_t, leO_f, cond_true, cond_false, Option.bind_some, Option.bind_none, if_false, if_true, nI_1, aL1, aL2, mL1, mL2, nI_add, pk_mul, pk_m1, sL1, dL1, pk_sub, m1p1, gIs_eq, gIs_k, gIs_i, gIs_n, gIs_e, gIJ, gIR, gJI, gJR, gJs_eq, gJs_k, gJs_n, gJs_e, gRI, gRJ, gRs_eq, gRs_k, gRs_i, gRs_n, gZI, gZJ, gZR, pI_s, pJ_s, pV_s, pR_s, pR_n, oR_n, oR_s, decide_true, decide_false, not_true_eq_false, not_false_eq_true, decT, decF, Bool.true_eq_false, Bool.false_eq_true, z01, o01, z1f, z1f', zz, oo, b2i_0, b2i_n, b2i_t, b2i_f, Bool.not_true, Bool.not_false])
    · rw [decT (by omega)]
      show (q_X2_hasRoomFor_43 j w).bind pI = _
      ((try dsimp only); rw [e_X2_hasRoomFor_43]; simp (disch := omega) only [g4, e_X2_hasRoomFor_51, e_X2_hasRoomFor_56, true_and, and_true, false_and, and_false, beq_t, beq_f, eqN_t, eqN_f, eqL_t, eqL_f, nm1, nm2, nm1', nm2', m1z, m2z, zm1, zm2, m12, m21, lg_cmp_ge, lg_cmp_le, lg_cmp_gt, lg_cmp_lt, lg_cmp_eq, oob, oobL, neg0, negL0, natle_f, or_false, false_or, true_or, or_true, or_self, cl, clL, le_t, le_f, lt_t, lt_f, leL_t, leL_f, ltL_t, ltL_f, leM_t, leM_f, ltM_t, ltM_f, leO_t, leO_f, cond_true, cond_false, Option.bind_some, Option.bind_none, if_false, if_true, nI_1, aL1, aL2, mL1, mL2, nI_add, pk_mul, pk_m1, sL1, dL1, pk_sub, m1p1, gIs_eq, gIs_k, gIs_i, gIs_n, gIs_e, gIJ, gIR, gJI, gJR, gJs_eq, gJs_k, gJs_n, gJs_e, gRI, gRJ, gRs_eq, gRs_k, gRs_i, gRs_n, gZI, gZJ, gZR, pI_s, pJ_s, pV_s, pR_s, pR_n, oR_n, oR_s, decide_true, decide_false, not_true_eq_false, not_false_eq_true, decT, decF, Bool.true_eq_false, Bool.false_eq_true, z01, o01, z1f, z1f', zz, oo, b2i_0, b2i_n, b2i_t, b2i_f, Bool.not_true, Bool.not_false])
  · by_cases c : 4 ≤ fn d
    · rw [decF (by omega)]
      show (q_X2_hasRoomFor_57 j w).bind pI = _
      ((try dsimp only); rw [e_X2_hasRoomFor_57]; simp (disch := omega) only [g5, e_X2_hasRoomFor_69, e_X2_hasRoomFor_70, true_and, and_true, false_and, and_false, beq_t, beq_f, eqN_t, eqN_f, eqL_t, eqL_f, nm1, nm2, nm1', nm2', m1z, m2z, zm1, zm2, m12, m21, lg_cmp_ge, lg_cmp_le, lg_cmp_gt, lg_cmp_lt, lg_cmp_eq, oob, oobL, neg0, negL0, natle_f, or_false, false_or, true_or, or_true, or_self, cl, clL, le_t, le_f, lt_t, lt_f, leL_t, leL_f, ltL_t, ltL_f, leM_t, leM_f, ltM_t, ltM_f, leO_t, leO_f, cond_true, cond_false, Option.bind_some, Option.bind_none, if_false, if_true, nI_1, aL1, aL2, mL1, mL2, nI_add, pk_mul, pk_m1, sL1, dL1, pk_sub, m1p1, gIs_eq, gIs_k, gIs_i, gIs_n, gIs_e, gIJ, gIR, gJI, gJR, gJs_eq, gJs_k, gJs_n, gJs_e, gRI, gRJ, gRs_eq, gRs_k, gRs_i, gRs_n, gZI, gZJ, gZR, pI_s, pJ_s, pV_s, pR_s, pR_n, oR_n, oR_s, decide_true, decide_false, not_true_eq_false, not_false_eq_true, decT, decF, Bool.true_eq_false, Bool.false_eq_true, z01, o01, z1f, z1f', zz, oo, b2i_0, b2i_n, b2i_t, b2i_f, Bool.not_true, Bool.not_false])
    · rw [decT (by omega)]
      show (q_X2_hasRoomFor_57 j w).bind pI = _
      ((try dsimp only); rw [e_X2_hasRoomFor_57]; simp (disch := omega) only [g5, e_X2_hasRoomFor_65, e_X2_hasRoomFor_70, true_and, and_true, false_and, and_false, beq_t, beq_f, eqN_t, eqN_f, eqL_t, eqL_f, nm1, nm2, nm1', nm2', m1z, m2z, zm1, zm2, m12, m21, lg_cmp_ge, lg_cmp_le, lg_cmp_gt, lg_cmp_lt, lg_cmp_eq, oob, oobL, neg0, negL0, natle_f, or_false, false_or, true_or, or_true, or_self, cl, clL, le_t, le_f, lt_t, lt_f, leL_t, leL_f, ltL_t, ltL_f, leM_t, leM_f, ltM_t, ltM_f, leO_t, leO_f, cond_true, cond_false, Option.bind_some, Option.bind_none, if_false, if_true, nI_1, aL1, aL2, mL1, mL2, nI_add, pk_mul, pk_m1, sL1, dL1, pk_sub, m1p1, gIs_eq, gIs_k, gIs_i, gIs_n, gIs_e, gIJ, gIR, gJI, gJR, gJs_eq, gJs_k, gJs_n, gJs_e, gRI, gRJ, gRs_eq, gRs_k, gRs_i, gRs_n, gZI, gZJ, gZR, pI_s, pJ_s, pV_s, pR_s, pR_n, oR_n, oR_s, decide_true, decide_false, not_true_eq_false, not_false_eq_true, decT, decF, Bool.true_eq_false, Bool.false_eq_true, z01, o01, z1f, z1f', zz, oo, b2i_0, b2i_n, b2i_t, b2i_f, Bool.not_true, Bool.not_false])
  · rw [decT (by omega)]
    simp (disch := omega) only [e_X2_hasRoomFor_71, true_and, and_true, false_and, and_false, beq_t, beq_f, eqN_t, eqN_f, eqL_t, eqL_f, nm1, nm2, nm1', nm2', m1z, m2z, zm1, zm2, m12, m21, lg_cmp_ge, lg_cmp_le, lg_cmp_gt, lg_cmp_lt, lg_cmp_eq, oob, oobL, neg0, negL0, natle_f, or_false, false_or, true_or, or_true, or_self, cl, clL, le_t, le_f, lt_t, lt_f, leL_t, leL_f, ltL_t, ltL_f, leM_t, leM_f, ltM_t, ltM_f, leO_t, leO_f, cond_true, cond_false, Option.bind_some, Option.bind_none, if_false, if_true, nI_1, aL1, aL2, mL1, mL2, nI_add, pk_mul, pk_m1, sL1, dL1, pk_sub, m1p1, gIs_eq, gIs_k, gIs_i, gIs_n, gIs_e, gIJ, gIR, gJI, gJR, gJs_eq, gJs_k, gJs_n, gJs_e, gRI, gRJ, gRs_eq, gRs_k, gRs_i, gRs_n, gZI, gZJ, gZR, pI_s, pJ_s, pV_s, pR_s, pR_n, oR_n, oR_s, decide_true, decide_false, not_true_eq_false, not_false_eq_true, decT, decF, Bool.true_eq_false, Bool.false_eq_true, z01, o01, z1f, z1f', zz, oo, b2i_0, b2i_n, b2i_t, b2i_f, Bool.not_true, Bool.not_false]
theorem fdW_lt : ∀ (ws : List (List Nat)) (x : List Nat) (j : Nat), fdW ws x = some j → ws[j]? = some x := by
  intro ws
  induction ws with
  | nil => intro x j h; cases h
  | cons a r ih =>
    intro x j h
    unfold fdW at h
    by_cases c : x = a
    · rw [if_pos c] at h
      injection h with h
      rw [← h, c]; rfl
    · rw [if_neg c] at h
      cases hq : fdW r x with
      | none => rw [hq] at h; cases h
      | some k =>
        rw [hq] at h
        injection h with h
        rw [← h]
        exact ih x k hq
theorem RC.fr {j : Nat} {F F' : Option (Int32 × XW)} {w w1 : XW} {t : Tp} {r : Nat ⊕ (Nat × Dl)} (h : RC j F' w1 t r) (hF : Fr (PDr j) w w1) (he : F = F') : RC j F w t r := by
  obtain ⟨w', h1, h2⟩ := h
  refine ⟨w', hF.trans h1, ?_⟩
  rw [he]
  exact h2
theorem RC.b01 {j : Nat} {F : Option (Int32 × XW)} {w : XW} {t : Tp} {r : Nat ⊕ (Nat × Dl)} (h : RC j F w t r) : ((F.bind fun r0 => (if r0.1 = 0 ∨ r0.1 = 1 then some (some (.inl (.int r0.1)), r0.2) else none) : Option XR)).bind pI = F := by
  obtain ⟨w', h1, h2⟩ := h
  cases r with
  | inl f => rw [h2.1]; rfl
  | inr q => rw [h2.1]; rfl
theorem c_clause {w : XW} {t : Tp} (hT : TOk2 t) {p n j : Nat} {d : Dl} (hI : DI n d) (hn : n ≤ 40) (hC : CTp w t p) (hd : DlAt w j d) : RC j (F_X2_readClause [.inr (9, 0), .inr (1, j), .inl (.int (nI n))] w) w t (cauS t p n d) := by
  have h4 := hT.1
  obtain ⟨hD, t0, _, z0⟩ := hI
  obtain ⟨w1, F1, s1, h1⟩ := c_word hT (i := 0) (by omega) hC
  have hs := sk_le hC.2.2
  have F1' : Fr (PDr j) w w1 := F1.mono (fun κ i k q => by unfold PT23 at q; unfold PDr; omega)
  have hd1 : DlAt w1 j d := hd.fr F1 (fun κ k q => by unfold PT23; omega)
  unfold cauS
  cases hf : fdW (lW 0) (wrd t (sk t p)) with
  | none =>
    rw [hf] at h1
    obtain ⟨h1, h2⟩ := h1
    have kf := c_fail0 (w := w1) (sk t p)
    have g2 := h2.2.1
    refine ⟨sI w1 9 0 5 (nI (1 + 8 * sk t p)), F1'.sI (by unfold PDr; omega), ?_, gIs_eq⟩
    rw [f_X2_readClause, e_X2_readClause_0]
    simp (disch := omega) only [h1, e_X2_readClause_12, g2, kf, true_and, and_true, false_and, and_false, beq_t, beq_f, eqN_t, eqN_f, eqL_t, eqL_f, nm1, nm2, nm1', nm2', m1z, m2z, zm1, zm2, m12, m21, lg_cmp_ge, lg_cmp_le, lg_cmp_gt, lg_cmp_lt, lg_cmp_eq, oob, oobL, neg0, negL0, natle_f, or_false, false_or, true_or, or_true, or_self, cl, clL, le_t, le_f, lt_t, lt_f, leL_t, leL_f, ltL_t, ltL_f, leM_t, leM_f, ltM_t, ltM_f, leO_t, leO_f, cond_true, cond_false, Option.bind_some, Option.bind_none, if_false, if_true, nI_1, aL1, aL2, mL1, mL2, nI_add, pk_mul, pk_m1, sL1, dL1, pk_sub, m1p1, gIs_eq, gIs_k, gIs_i, gIs_n, gIs_e, gIJ, gIR, gJI, gJR, gJs_eq, gJs_k, gJs_n, gJs_e, gRI, gRJ, gRs_eq, gRs_k, gRs_i, gRs_n, gZI, gZJ, gZR, pI_s, pJ_s, pV_s, pR_s, pR_n, oR_n, oR_s, decide_true, decide_false, not_true_eq_false, not_false_eq_true, decT, decF, Bool.true_eq_false, Bool.false_eq_true, z01, o01, z1f, z1f', zz, oo, b2i_0, b2i_n, b2i_t, b2i_f, Bool.not_true, Bool.not_false]
  | some jj =>
    rw [hf] at h1
    obtain ⟨h1, h2⟩ := h1
    have hjj : jj < 5 := by
      have := fdW_lt _ _ _ hf
      rcases Nat.lt_or_ge jj 5 with q | q
      · exact q
      · rw [List.getElem?_eq_none (show (lW 0).length ≤ jj from q)] at this; cases this
    have hr := c_hasRoom hD hd1 hjj
    have kf := c_fail4 (w := w1) (sk t p)
    have bad : F_X2_readClause [.inr (9, 0), .inr (1, j), .inl (.int (nI n))] w = (q_X2_readClause_57 w1).bind pI → RC j (F_X2_readClause [.inr (9, 0), .inr (1, j), .inl (.int (nI n))] w) w t (.inl (1 + 8 * sk t p + 4)) := fun e => by
      refine ⟨sI w1 9 0 5 (nI (1 + 8 * sk t p + 4)), F1'.sI (by unfold PDr; omega), ?_, gIs_eq⟩
      rw [e, e_X2_readClause_57, s1]
      simp (disch := omega) only [kf, true_and, and_true, false_and, and_false, beq_t, beq_f, eqN_t, eqN_f, eqL_t, eqL_f, nm1, nm2, nm1', nm2', m1z, m2z, zm1, zm2, m12, m21, lg_cmp_ge, lg_cmp_le, lg_cmp_gt, lg_cmp_lt, lg_cmp_eq, oob, oobL, neg0, negL0, natle_f, or_false, false_or, true_or, or_true, or_self, cl, clL, le_t, le_f, lt_t, lt_f, leL_t, leL_f, ltL_t, ltL_f, leM_t, leM_f, ltM_t, ltM_f, leO_t, leO_f, cond_true, cond_false, Option.bind_some, Option.bind_none, if_false, if_true, nI_1, aL1, aL2, mL1, mL2, nI_add, pk_mul, pk_m1, sL1, dL1, pk_sub, m1p1, gIs_eq, gIs_k, gIs_i, gIs_n, gIs_e, gIJ, gIR, gJI, gJR, gJs_eq, gJs_k, gJs_n, gJs_e, gRI, gRJ, gRs_eq, gRs_k, gRs_i, gRs_n, gZI, gZJ, gZR, pI_s, pJ_s, pV_s, pR_s, pR_n, oR_n, oR_s, decide_true, decide_false, not_true_eq_false, not_false_eq_true, decT, decF, Bool.true_eq_false, Bool.false_eq_true, z01, o01, z1f, z1f', zz, oo, b2i_0, b2i_n, b2i_t, b2i_f, Bool.not_true, Bool.not_false]
    have start : F_X2_readClause [.inr (9, 0), .inr (1, j), .inl (.int (nI n))] w = (q_X2_readClause_22 j (nI n) (nI jj) w1).bind pI := by
      rw [f_X2_readClause, e_X2_readClause_0]
      simp (disch := omega) only [h1, true_and, and_true, false_and, and_false, beq_t, beq_f, eqN_t, eqN_f, eqL_t, eqL_f, nm1, nm2, nm1', nm2', m1z, m2z, zm1, zm2, m12, m21, lg_cmp_ge, lg_cmp_le, lg_cmp_gt, lg_cmp_lt, lg_cmp_eq, oob, oobL, neg0, negL0, natle_f, or_false, false_or, true_or, or_true, or_self, cl, clL, le_t, le_f, lt_t, lt_f, leL_t, leL_f, ltL_t, ltL_f, leM_t, leM_f, ltM_t, ltM_f, leO_t, leO_f, cond_true, cond_false, Option.bind_some, Option.bind_none, if_false, if_true, nI_1, aL1, aL2, mL1, mL2, nI_add, pk_mul, pk_m1, sL1, dL1, pk_sub, m1p1, gIs_eq, gIs_k, gIs_i, gIs_n, gIs_e, gIJ, gIR, gJI, gJR, gJs_eq, gJs_k, gJs_n, gJs_e, gRI, gRJ, gRs_eq, gRs_k, gRs_i, gRs_n, gZI, gZJ, gZR, pI_s, pJ_s, pV_s, pR_s, pR_n, oR_n, oR_s, decide_true, decide_false, not_true_eq_false, not_false_eq_true, decT, decF, Bool.true_eq_false, Bool.false_eq_true, z01, o01, z1f, z1f', zz, oo, b2i_0, b2i_n, b2i_t, b2i_f, Bool.not_true, Bool.not_false]
    dsimp only
    by_cases n40 : 40 ≤ n
    · rw [if_pos (show badD n jj d from Or.inl n40)]
      apply bad
      rw [start, e_X2_readClause_22]
      simp (disch := omega) only [true_and, and_true, false_and, and_false, beq_t, beq_f, eqN_t, eqN_f, eqL_t, eqL_f, nm1, nm2, nm1', nm2', m1z, m2z, zm1, zm2, m12, m21, lg_cmp_ge, lg_cmp_le, lg_cmp_gt, lg_cmp_lt, lg_cmp_eq, oob, oobL, neg0, negL0, natle_f, or_false, false_or, true_or, or_true, or_self, cl, clL, le_t, le_f, lt_t, lt_f, leL_t, leL_f, ltL_t, ltL_f, leM_t, leM_f, ltM_t, ltM_f, leO_t, leO_f, cond_true, cond_false, Option.bind_some, Option.bind_none, if_false, if_true, nI_1, aL1, aL2, mL1, mL2, nI_add, pk_mul, pk_m1, sL1, dL1, pk_sub, m1p1, gIs_eq, gIs_k, gIs_i, gIs_n, gIs_e, gIJ, gIR, gJI, gJR, gJs_eq, gJs_k, gJs_n, gJs_e, gRI, gRJ, gRs_eq, gRs_k, gRs_i, gRs_n, gZI, gZJ, gZR, pI_s, pJ_s, pV_s, pR_s, pR_n, oR_n, oR_s, decide_true, decide_false, not_true_eq_false, not_false_eq_true, decT, decF, Bool.true_eq_false, Bool.false_eq_true, z01, o01, z1f, z1f', zz, oo, b2i_0, b2i_n, b2i_t, b2i_f, Bool.not_true, Bool.not_false]
    · have s2 : F_X2_readClause [.inr (9, 0), .inr (1, j), .inl (.int (nI n))] w = (bif decide (¬ b2i (decide (n = 0)) = b2i (decide (jj = 0))) then (q_X2_readClause_57 w1) else (q_X2_readClause_49 j (nI jj) w1)).bind pI := by
        rw [start, e_X2_readClause_22, leL_f (c := 40) (show n < 40 by omega) (by decide), cond_false, e_X2_readClause_28]
        by_cases c1 : n = 0
        · by_cases c2 : jj = 0
          · rw [decT c1, decT c2]
            simp (disch := omega) only [c1, c2, e_X2_readClause_32, e_X2_readClause_37, e_X2_readClause_41, e_X2_readClause_46, true_and, and_true, false_and, and_false, beq_t, beq_f, eqN_t, eqN_f, eqL_t, eqL_f, nm1, nm2, nm1', nm2', m1z, m2z, zm1, zm2, m12, m21, lg_cmp_ge, lg_cmp_le, lg_cmp_gt, lg_cmp_lt, lg_cmp_eq, oob, oobL, neg0, negL0, natle_f, or_false, false_or, true_or, or_true, or_self, cl, clL, le_t, le_f, lt_t, lt_f, leL_t, leL_f, ltL_t, ltL_f, leM_t, leM_f, ltM_t, ltM_f, leO_t, leO_f, cond_true, cond_false, Option.bind_some, Option.bind_none, if_false, if_true, nI_1, aL1, aL2, mL1, mL2, nI_add, pk_mul, pk_m1, sL1, dL1, pk_sub, m1p1, gIs_eq, gIs_k, gIs_i, gIs_n, gIs_e, gIJ, gIR, gJI, gJR, gJs_eq, gJs_k, gJs_n, gJs_e, gRI, gRJ, gRs_eq, gRs_k, gRs_i, gRs_n, gZI, gZJ, gZR, pI_s, pJ_s, pV_s, pR_s, pR_n, oR_n, oR_s, decide_true, decide_false, not_true_eq_false, not_false_eq_true, decT, decF, Bool.true_eq_false, Bool.false_eq_true, z01, o01, z1f, z1f', zz, oo, b2i_0, b2i_n, b2i_t, b2i_f, Bool.not_true, Bool.not_false]
          · rw [decT c1, decF c2]
            simp (disch := omega) only [c1, c2, e_X2_readClause_32, e_X2_readClause_37, e_X2_readClause_45, e_X2_readClause_46, true_and, and_true, false_and, and_false, beq_t, beq_f, eqN_t, eqN_f, eqL_t, eqL_f, nm1, nm2, nm1', nm2', m1z, m2z, zm1, zm2, m12, m21, lg_cmp_ge, lg_cmp_le, lg_cmp_gt, lg_cmp_lt, lg_cmp_eq, oob, oobL, neg0, negL0, natle_f, or_false, false_or, true_or, or_true, or_self, cl, clL, le_t, le_f, lt_t, lt_f, leL_t, leL_f, ltL_t, ltL_f, leM_t, leM_f, ltM_t, ltM_f, leO_t, leO_f, cond_true, cond_false, Option.bind_some, Option.bind_none, if_false, if_true, nI_1, aL1, aL2, mL1, mL2, nI_add, pk_mul, pk_m1, sL1, dL1, pk_sub, m1p1, gIs_eq, gIs_k, gIs_i, gIs_n, gIs_e, gIJ, gIR, gJI, gJR, gJs_eq, gJs_k, gJs_n, gJs_e, gRI, gRJ, gRs_eq, gRs_k, gRs_i, gRs_n, gZI, gZJ, gZR, pI_s, pJ_s, pV_s, pR_s, pR_n, oR_n, oR_s, decide_true, decide_false, not_true_eq_false, not_false_eq_true, decT, decF, Bool.true_eq_false, Bool.false_eq_true, z01, o01, z1f, z1f', zz, oo, b2i_0, b2i_n, b2i_t, b2i_f, Bool.not_true, Bool.not_false]
        · by_cases c2 : jj = 0
          · rw [decF c1, decT c2]
            simp (disch := omega) only [c1, c2, e_X2_readClause_36, e_X2_readClause_37, e_X2_readClause_41, e_X2_readClause_46, true_and, and_true, false_and, and_false, beq_t, beq_f, eqN_t, eqN_f, eqL_t, eqL_f, nm1, nm2, nm1', nm2', m1z, m2z, zm1, zm2, m12, m21, lg_cmp_ge, lg_cmp_le, lg_cmp_gt, lg_cmp_lt, lg_cmp_eq, oob, oobL, neg0, negL0, natle_f, or_false, false_or, true_or, or_true, or_self, cl, clL, le_t, le_f, lt_t, lt_f, leL_t, leL_f, ltL_t, ltL_f, leM_t, leM_f, ltM_t, ltM_f, leO_t, leO_f, cond_true, cond_false, Option.bind_some, Option.bind_none, if_false, if_true, nI_1, aL1, aL2, mL1, mL2, nI_add, pk_mul, pk_m1, sL1, dL1, pk_sub, m1p1, gIs_eq, gIs_k, gIs_i, gIs_n, gIs_e, gIJ, gIR, gJI, gJR, gJs_eq, gJs_k, gJs_n, gJs_e, gRI, gRJ, gRs_eq, gRs_k, gRs_i, gRs_n, gZI, gZJ, gZR, pI_s, pJ_s, pV_s, pR_s, pR_n, oR_n, oR_s, decide_true, decide_false, not_true_eq_false, not_false_eq_true, decT, decF, Bool.true_eq_false, Bool.false_eq_true, z01, o01, z1f, z1f', zz, oo, b2i_0, b2i_n, b2i_t, b2i_f, Bool.not_true, Bool.not_false]
          · rw [decF c1, decF c2]
            simp (disch := omega) only [c1, c2, e_X2_readClause_36, e_X2_readClause_37, e_X2_readClause_45, e_X2_readClause_46, true_and, and_true, false_and, and_false, beq_t, beq_f, eqN_t, eqN_f, eqL_t, eqL_f, nm1, nm2, nm1', nm2', m1z, m2z, zm1, zm2, m12, m21, lg_cmp_ge, lg_cmp_le, lg_cmp_gt, lg_cmp_lt, lg_cmp_eq, oob, oobL, neg0, negL0, natle_f, or_false, false_or, true_or, or_true, or_self, cl, clL, le_t, le_f, lt_t, lt_f, leL_t, leL_f, ltL_t, ltL_f, leM_t, leM_f, ltM_t, ltM_f, leO_t, leO_f, cond_true, cond_false, Option.bind_some, Option.bind_none, if_false, if_true, nI_1, aL1, aL2, mL1, mL2, nI_add, pk_mul, pk_m1, sL1, dL1, pk_sub, m1p1, gIs_eq, gIs_k, gIs_i, gIs_n, gIs_e, gIJ, gIR, gJI, gJR, gJs_eq, gJs_k, gJs_n, gJs_e, gRI, gRJ, gRs_eq, gRs_k, gRs_i, gRs_n, gZI, gZJ, gZR, pI_s, pJ_s, pV_s, pR_s, pR_n, oR_n, oR_s, decide_true, decide_false, not_true_eq_false, not_false_eq_true, decT, decF, Bool.true_eq_false, Bool.false_eq_true, z01, o01, z1f, z1f', zz, oo, b2i_0, b2i_n, b2i_t, b2i_f, Bool.not_true, Bool.not_false]
      by_cases c0 : (n = 0 ↔ jj = 0)
      · have e1 : decide (n = 0) = decide (jj = 0) := by rw [decide_eq_decide]; exact c0
        rw [e1, decF (fun z => z rfl), cond_false, e_X2_readClause_49, hr] at s2
        by_cases c3 : ((jj = 1 ∧ 6 ≤ kn d) ∨ (jj = 2 ∧ 5 ≤ pn d) ∨ (jj = 3 ∧ 4 ≤ fn d))
        · rw [if_pos (show badD n jj d from Or.inr (Or.inr c3))]
          apply bad
          rw [decF (fun z => z c3)] at s2
          rw [s2]
          simp (disch := omega) only [true_and, and_true, false_and, and_false, beq_t, beq_f, eqN_t, eqN_f, eqL_t, eqL_f, nm1, nm2, nm1', nm2', m1z, m2z, zm1, zm2, m12, m21, lg_cmp_ge, lg_cmp_le, lg_cmp_gt, lg_cmp_lt, lg_cmp_eq, oob, oobL, neg0, negL0, natle_f, or_false, false_or, true_or, or_true, or_self, cl, clL, le_t, le_f, lt_t, lt_f, leL_t, leL_f, ltL_t, ltL_f, leM_t, leM_f, ltM_t, ltM_f, leO_t, leO_f, cond_true, cond_false, Option.bind_some, Option.bind_none, if_false, if_true, nI_1, aL1, aL2, mL1, mL2, nI_add, pk_mul, pk_m1, sL1, dL1, pk_sub, m1p1, gIs_eq, gIs_k, gIs_i, gIs_n, gIs_e, gIJ, gIR, gJI, gJR, gJs_eq, gJs_k, gJs_n, gJs_e, gRI, gRJ, gRs_eq, gRs_k, gRs_i, gRs_n, gZI, gZJ, gZR, pI_s, pJ_s, pV_s, pR_s, pR_n, oR_n, oR_s, decide_true, decide_false, not_true_eq_false, not_false_eq_true, decT, decF, Bool.true_eq_false, Bool.false_eq_true, z01, o01, z1f, z1f', zz, oo, b2i_0, b2i_n, b2i_t, b2i_f, Bool.not_true, Bool.not_false]
        · rw [if_neg (fun z => by
            rcases z with z | z | z
            · exact n40 z
            · exact z c0
            · exact c3 z)]
          rw [decT c3] at s2
          have s3 : F_X2_readClause [.inr (9, 0), .inr (1, j), .inl (.int (nI n))] w = (q_X2_readClause_67 j (nI jj) w1).bind pI := by
            rw [s2]
            simp (disch := omega) only [true_and, and_true, false_and, and_false, beq_t, beq_f, eqN_t, eqN_f, eqL_t, eqL_f, nm1, nm2, nm1', nm2', m1z, m2z, zm1, zm2, m12, m21, lg_cmp_ge, lg_cmp_le, lg_cmp_gt, lg_cmp_lt, lg_cmp_eq, oob, oobL, neg0, negL0, natle_f, or_false, false_or, true_or, or_true, or_self, cl, clL, le_t, le_f, lt_t, lt_f, leL_t, leL_f, ltL_t, ltL_f, leM_t, leM_f, ltM_t, ltM_f, leO_t, leO_f, cond_true, cond_false, Option.bind_some, Option.bind_none, if_false, if_true, nI_1, aL1, aL2, mL1, mL2, nI_add, pk_mul, pk_m1, sL1, dL1, pk_sub, m1p1, gIs_eq, gIs_k, gIs_i, gIs_n, gIs_e, gIJ, gIR, gJI, gJR, gJs_eq, gJs_k, gJs_n, gJs_e, gRI, gRJ, gRs_eq, gRs_k, gRs_i, gRs_n, gZI, gZJ, gZR, pI_s, pJ_s, pV_s, pR_s, pR_n, oR_n, oR_s, decide_true, decide_false, not_true_eq_false, not_false_eq_true, decT, decF, Bool.true_eq_false, Bool.false_eq_true, z01, o01, z1f, z1f', zz, oo, b2i_0, b2i_n, b2i_t, b2i_f, Bool.not_true, Bool.not_false]
          have : jj = 0 ∨ jj = 1 ∨ jj = 2 ∨ jj = 3 ∨ jj = 4 := by omega
          rcases this with rfl | rfl | rfl | rfl | rfl
          · have R := c_readDale hT h2 hd1
            refine R.fr F1' ?_
            rw [s3, e_X2_readClause_67]
            show (q_X2_readClause_100 j w1).bind pI = _
            rw [e_X2_readClause_100]
            exact R.b01
          · have R := c_readKeep hT hD (by omega) h2 hd1
            refine R.fr F1' ?_
            rw [s3, e_X2_readClause_67]
            show (q_X2_readClause_106 j w1).bind pI = _
            rw [e_X2_readClause_106]
            exact R.b01
          · have R := c_readPerson hT hD (by omega) h2 hd1
            refine R.fr F1' ?_
            rw [s3, e_X2_readClause_67]
            show (q_X2_readClause_112 j w1).bind pI = _
            rw [e_X2_readClause_112]
            exact R.b01
          · have R := c_readField hT hD (by omega) h2 hd1
            refine R.fr F1' ?_
            rw [s3, e_X2_readClause_67]
            show (q_X2_readClause_118 j w1).bind pI = _
            rw [e_X2_readClause_118]
            exact R.b01
          · have R := c_readBeside hT (jj := 4) (by omega) hD h2 hd1
            refine R.fr F1' ?_
            rw [s3, e_X2_readClause_67]
            show (q_X2_readClause_124 j w1).bind pI = _
            rw [e_X2_readClause_124]
            exact R.b01
      · rw [if_pos (show badD n jj d from Or.inr (Or.inl c0))]
        apply bad
        have e1 : ¬ b2i (decide (n = 0)) = b2i (decide (jj = 0)) := fun z => c0 (by
          by_cases c1 : n = 0
          · by_cases c2 : jj = 0
            · exact ⟨fun _ => c2, fun _ => c1⟩
            · rw [decT c1, decF c2] at z; exact absurd z (by decide)
          · by_cases c2 : jj = 0
            · rw [decF c1, decT c2] at z; exact absurd z (by decide)
            · exact ⟨fun q => absurd q c1, fun q => absurd q c2⟩)
        rw [s2, decT e1, cond_true]
/-- what the whole reading comes to -/
def RD (j : Nat) (F : Option (Int32 × XW)) (w : XW) (r : Nat ⊕ Dl) : Prop := ∃ w', Fr (PDr j) w w' ∧ match r with
  | .inl f => F = some (0, w') ∧ gI w' 9 0 5 = nI f
  | .inr d => F = some (1, w') ∧ DlAt w' j d
theorem cau40 {t : Tp} {p : Nat} {d : Dl} {q : Nat × Dl} : ¬ cauS t p 40 d = .inr q := by
  unfold cauS
  cases fdW (lW 0) (wrd t (sk t p)) with
  | none => intro h; cases h
  | some j =>
    intro h
    dsimp only at h
    rw [if_pos (show badD 40 j d from Or.inl (Nat.le_refl _))] at h
    cases h
theorem cau_ok {t : Tp} {p n : Nat} {d : Dl} {q : Nat × Dl} (hI : DI n d) (h : cauS t p n d = .inr q) : DI (n + 1) q.2 := by
  unfold cauS at h
  cases hf : fdW (lW 0) (wrd t (sk t p)) with
  | none => rw [hf] at h; cases h
  | some j =>
    rw [hf] at h
    dsimp only at h
    by_cases c : badD n j d
    · rw [if_pos c] at h; cases h
    · rw [if_neg c] at h
      exact cl_ok hI c (show clD t j (le t (sk t p)) d = .inr (q.1, q.2) from h)
theorem c_read {t : Tp} (hT : TOk2 t) {j : Nat} : ∀ (m n p : Nat) (d : Dl) (w : XW), n + m = 40 → DI n d → CTp w t p → DlAt w j d → RD j ((q_X2_read_6 j (nI n) w).bind pI) w (rdS t (m + 1) n p d) := by
  have h4 := hT.1
  intro m
  induction m with
  | zero =>
    intro n p d w hn hI hC hd
    have : n = 40 := by omega
    subst this
    obtain ⟨w1, F1, h1⟩ := c_clause hT hI (by omega) hC hd
    have e0 : rdS t (0 + 1) 40 p d = sB (cauS t p 40 d) (fun q => if sk t q.1 = t.1 then .inr q.2 else if t.2 (sk t q.1) = 59 then rdS t 0 (40 + 1) (sk t q.1 + 1) q.2 else .inl (1 + 8 * sk t q.1)) := rfl
    rw [e0]
    cases hq : cauS t p 40 d with
    | inl f =>
      rw [hq] at h1
      refine ⟨w1, F1, ?_, h1.2⟩
      ((try dsimp only); rw [e_X2_read_6]; simp (disch := omega) only [e_X2_read_12, h1.1, e_X2_read_21, true_and, and_true, false_and, and_false, beq_t, beq_f, eqN_t, eqN_f, eqL_t, eqL_f, nm1, nm2, nm1', nm2', m1z, m2z, zm1, zm2, m12, m21, lg_cmp_ge, lg_cmp_le, lg_cmp_gt, lg_cmp_lt, lg_cmp_eq, oob, oobL, neg0, negL0, natle_f, or_false, false_or, true_or, or_true, or_self, cl, clL, le_t, le_f, lt_t, lt_f, leL_t, leL_f, ltL_t, ltL_f, leM_t, leM_f, ltM_t, ltM_f, leO_t, leO_f, cond_true, cond_false, Option.bind_some, Option.bind_none, if_false, if_true, nI_1, aL1, aL2, mL1, mL2, nI_add, pk_mul, pk_m1, sL1, dL1, pk_sub, m1p1, gIs_eq, gIs_k, gIs_i, gIs_n, gIs_e, gIJ, gIR, gJI, gJR, gJs_eq, gJs_k, gJs_n, gJs_e, gRI, gRJ, gRs_eq, gRs_k, gRs_i, gRs_n, gZI, gZJ, gZR, pI_s, pJ_s, pV_s, pR_s, pR_n, oR_n, oR_s, decide_true, decide_false, not_true_eq_false, not_false_eq_true, decT, decF, Bool.true_eq_false, Bool.false_eq_true, z01, o01, z1f, z1f', zz, oo, b2i_0, b2i_n, b2i_t, b2i_f, Bool.not_true, Bool.not_false])
    | inr q => exact absurd hq cau40
  | succ m ih =>
    intro n p d w hn hI hC hd
    obtain ⟨w1, F1, h1⟩ := c_clause hT hI (by omega) hC hd
    have e0 : rdS t (m + 1 + 1) n p d = sB (cauS t p n d) (fun q => if sk t q.1 = t.1 then .inr q.2 else if t.2 (sk t q.1) = 59 then rdS t (m + 1) (n + 1) (sk t q.1 + 1) q.2 else .inl (1 + 8 * sk t q.1)) := rfl
    rw [e0]
    cases hq : cauS t p n d with
    | inl f =>
      rw [hq] at h1
      refine ⟨w1, F1, ?_, h1.2⟩
      ((try dsimp only); rw [e_X2_read_6]; simp (disch := omega) only [e_X2_read_12, h1.1, e_X2_read_21, true_and, and_true, false_and, and_false, beq_t, beq_f, eqN_t, eqN_f, eqL_t, eqL_f, nm1, nm2, nm1', nm2', m1z, m2z, zm1, zm2, m12, m21, lg_cmp_ge, lg_cmp_le, lg_cmp_gt, lg_cmp_lt, lg_cmp_eq, oob, oobL, neg0, negL0, natle_f, or_false, false_or, true_or, or_true, or_self, cl, clL, le_t, le_f, lt_t, lt_f, leL_t, leL_f, ltL_t, ltL_f, leM_t, leM_f, ltM_t, ltM_f, leO_t, leO_f, cond_true, cond_false, Option.bind_some, Option.bind_none, if_false, if_true, nI_1, aL1, aL2, mL1, mL2, nI_add, pk_mul, pk_m1, sL1, dL1, pk_sub, m1p1, gIs_eq, gIs_k, gIs_i, gIs_n, gIs_e, gIJ, gIR, gJI, gJR, gJs_eq, gJs_k, gJs_n, gJs_e, gRI, gRJ, gRs_eq, gRs_k, gRs_i, gRs_n, gZI, gZJ, gZR, pI_s, pJ_s, pV_s, pR_s, pR_n, oR_n, oR_s, decide_true, decide_false, not_true_eq_false, not_false_eq_true, decT, decF, Bool.true_eq_false, Bool.false_eq_true, z01, o01, z1f, z1f', zz, oo, b2i_0, b2i_n, b2i_t, b2i_f, Bool.not_true, Bool.not_false])
    | inr q =>
      have hI2 := cau_ok hI hq
      obtain ⟨p1, d1⟩ := q
      rw [hq] at h1
      obtain ⟨h1, h2, h3⟩ := h1
      have h2 : CTp w1 t p1 := h2
      have h3 : DlAt w1 j d1 := h3
      have hs := sk_le h2.2.2
      obtain ⟨w2, k1, k2, k3⟩ := c_sign hT h2
      have F2 : Fr (PDr j) w w2 := F1.trans (k3.mono (fun κ i k q => by unfold PT2 at q; unfold PDr; omega))
      have hd2 : DlAt w2 j d1 := h3.fr k3 (fun κ k q => by unfold PT2; omega)
      show RD j _ w (if sk t p1 = t.1 then .inr d1 else if t.2 (sk t p1) = 59 then rdS t (m + 1) (n + 1) (sk t p1 + 1) d1 else .inl (1 + 8 * sk t p1))
      by_cases c : sk t p1 = t.1
      · rw [if_pos c]
        have e1 : chS t (sk t p1) = -1 := if_neg (by omega)
        rw [e1] at k1
        refine ⟨w2, F2, ?_, hd2⟩
        ((try dsimp only); rw [e_X2_read_6]; simp (disch := omega) only [e_X2_read_12, h1, e_X2_read_23, k1, e_X2_read_31, true_and, and_true, false_and, and_false, beq_t, beq_f, eqN_t, eqN_f, eqL_t, eqL_f, nm1, nm2, nm1', nm2', m1z, m2z, zm1, zm2, m12, m21, lg_cmp_ge, lg_cmp_le, lg_cmp_gt, lg_cmp_lt, lg_cmp_eq, oob, oobL, neg0, negL0, natle_f, or_false, false_or, true_or, or_true, or_self, cl, clL, le_t, le_f, lt_t, lt_f, leL_t, leL_f, ltL_t, ltL_f, leM_t, leM_f, ltM_t, ltM_f, leO_t, leO_f, cond_true, cond_false, Option.bind_some, Option.bind_none, if_false, if_true, nI_1, aL1, aL2, mL1, mL2, nI_add, pk_mul, pk_m1, sL1, dL1, pk_sub, m1p1, gIs_eq, gIs_k, gIs_i, gIs_n, gIs_e, gIJ, gIR, gJI, gJR, gJs_eq, gJs_k, gJs_n, gJs_e, gRI, gRJ, gRs_eq, gRs_k, gRs_i, gRs_n, gZI, gZJ, gZR, pI_s, pJ_s, pV_s, pR_s, pR_n, oR_n, oR_s, decide_true, decide_false, not_true_eq_false, not_false_eq_true, decT, decF, Bool.true_eq_false, Bool.false_eq_true, z01, o01, z1f, z1f', zz, oo, b2i_0, b2i_n, b2i_t, b2i_f, Bool.not_true, Bool.not_false])
      · rw [if_neg c]
        have e1 : chS t (sk t p1) = nI (t.2 (sk t p1)) := if_pos (by omega)
        have h256 := hT.2 (sk t p1) (by omega)
        have ek := sk_sk h2.2.2
        rw [e1] at k1
        by_cases c2 : t.2 (sk t p1) = 59
        · rw [if_pos c2]
          obtain ⟨w3, l1, l2, l3⟩ := c_passSign hT k2 59 (by rw [ek, e1, c2]; rfl) (by omega)
          rw [ek] at l2
          have F3 : Fr (PDr j) w w3 := F2.trans (l3.mono (fun κ i k q => by unfold PT2 at q; unfold PDr; omega))
          obtain ⟨w4, F4, r4⟩ := ih (n + 1) (sk t p1 + 1) d1 w3 (by omega) hI2 l2 (hd2.fr l3 (fun κ k q => by unfold PT2; omega))
          refine ⟨w4, F3.trans F4, ?_⟩
          have e5 : (q_X2_read_6 j (nI n) w) = q_X2_read_6 j (nI (n + 1)) w3 := by
            ((try dsimp only); rw [e_X2_read_6]; simp (disch := omega) only [e_X2_read_12, h1, e_X2_read_23, k1, e_X2_read_33, l1, e_X2_read_44, true_and, and_true, false_and, and_false, beq_t, beq_f, eqN_t, eqN_f, eqL_t, eqL_f, nm1, nm2, nm1', nm2', m1z, m2z, zm1, zm2, m12, m21, lg_cmp_ge, lg_cmp_le, lg_cmp_gt, lg_cmp_lt, lg_cmp_eq, oob, oobL, neg0, negL0, natle_f, or_false, false_or, true_or, or_true, or_self, cl, clL, le_t, le_f, lt_t, lt_f, leL_t, leL_f, ltL_t, ltL_f, leM_t, leM_f, ltM_t, ltM_f, leO_t, leO_f, cond_true, cond_false, Option.bind_some, Option.bind_none, if_false, if_true, nI_1, aL1, aL2, mL1, mL2, nI_add, pk_mul, pk_m1, sL1, dL1, pk_sub, m1p1, gIs_eq, gIs_k, gIs_i, gIs_n, gIs_e, gIJ, gIR, gJI, gJR, gJs_eq, gJs_k, gJs_n, gJs_e, gRI, gRJ, gRs_eq, gRs_k, gRs_i, gRs_n, gZI, gZJ, gZR, pI_s, pJ_s, pV_s, pR_s, pR_n, oR_n, oR_s, decide_true, decide_false, not_true_eq_false, not_false_eq_true, decT, decF, Bool.true_eq_false, Bool.false_eq_true, z01, o01, z1f, z1f', zz, oo, b2i_0, b2i_n, b2i_t, b2i_f, Bool.not_true, Bool.not_false])
          rw [e5]
          exact r4
        · rw [if_neg c2]
          obtain ⟨w3, l1, l2, l3⟩ := c_passSignN hT k2 59 (by rw [ek, e1]; exact fun z => c2 ((nI_eq (a := t.2 (sk t p1)) (b := 59) (by omega) (by omega)).mp z))
          rw [ek] at l2
          refine ⟨w3, F2.trans (fT l3), ?_, l2⟩
          ((try dsimp only); rw [e_X2_read_6]; simp (disch := omega) only [e_X2_read_12, h1, e_X2_read_23, k1, e_X2_read_33, l1, e_X2_read_42, true_and, and_true, false_and, and_false, beq_t, beq_f, eqN_t, eqN_f, eqL_t, eqL_f, nm1, nm2, nm1', nm2', m1z, m2z, zm1, zm2, m12, m21, lg_cmp_ge, lg_cmp_le, lg_cmp_gt, lg_cmp_lt, lg_cmp_eq, oob, oobL, neg0, negL0, natle_f, or_false, false_or, true_or, or_true, or_self, cl, clL, le_t, le_f, lt_t, lt_f, leL_t, leL_f, ltL_t, ltL_f, leM_t, leM_f, ltM_t, ltM_f, leO_t, leO_f, cond_true, cond_false, Option.bind_some, Option.bind_none, if_false, if_true, nI_1, aL1, aL2, mL1, mL2, nI_add, pk_mul, pk_m1, sL1, dL1, pk_sub, m1p1, gIs_eq, gIs_k, gIs_i, gIs_n, gIs_e, gIJ, gIR, gJI, gJR, gJs_eq, gJs_k, gJs_n, gJs_e, gRI, gRJ, gRs_eq, gRs_k, gRs_i, gRs_n, gZI, gZJ, gZR, pI_s, pJ_s, pV_s, pR_s, pR_n, oR_n, oR_s, decide_true, decide_false, not_true_eq_false, not_false_eq_true, decT, decF, Bool.true_eq_false, Bool.false_eq_true, z01, o01, z1f, z1f', zz, oo, b2i_0, b2i_n, b2i_t, b2i_f, Bool.not_true, Bool.not_false])
