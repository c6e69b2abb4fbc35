/-! ===== the model reads a dale ===== -/
theorem m_see0 {w : XW} {t : Tp} (hT : TOk2 t) {s : Nat} (h : MTp w t s) (hs : sk t s = s) : F_X12_see [.inr (11, 0)] w = some (chS t s, w) := by
  have h4 := hT.1
  obtain ⟨h1, h2, h0, h3⟩ := h
  have g := h1.1
  rw [f_X12_see, e_X12_see_0]
  unfold chS
  by_cases e : s < t.1
  · have b := h1.2 s e
    have f := (sb_f ⟨t.2 s, hT.2 s e⟩)
    have f1 := f.1
    have f2 := f.2.1
    dsimp only at f1 f2
    have hb := sk_end (t := t) (p := s) h3 (by rw [hs]; exact e)
    rw [hs] at hb
    rw [hb] at f1
    rw [if_pos e]
    simp (disch := omega) only [g, h2, e_X12_see_11, b, f1, e_X12_see_38, e_X12_see_49, f2, e_X12_see_66, true_and, and_true, false_and, and_false, beq_t, beq_f, eqN_t, eqN_f, eqL_t, eqL_f, nm1, nm2, nm1', nm2', m1z, m2z, zm1, zm2, m12, m21, lg_cmp_ge, lg_cmp_le, lg_cmp_gt, lg_cmp_lt, lg_cmp_eq, oob, oobL, neg0, negL0, natle_f, or_false, false_or, true_or, or_true, or_self, cl, clL, le_t, le_f, lt_t, lt_f, leL_t, leL_f, ltL_t, ltL_f, leM_t, leM_f, ltM_t, ltM_f, leO_t, leO_f, cond_true, cond_false, Option.bind_some, Option.bind_none, if_false, if_true, nI_1, aL1, aL2, mL1, mL2, nI_add, pk_mul, pk_m1, sL1, dL1, pk_sub, m1p1, gIs_eq, gIs_k, gIs_i, gIs_n, gIs_e, gIJ, gIR, gJI, gJR, gJs_eq, gJs_k, gJs_n, gJs_e, gRI, gRJ, gRs_eq, gRs_k, gRs_i, gRs_n, gZI, gZJ, gZR, pI_s, pJ_s, pV_s, pR_s, pR_n, oR_n, oR_s, decide_true, decide_false, not_true_eq_false, not_false_eq_true, decT, decF, Bool.true_eq_false, Bool.false_eq_true, z01, o01, z1f, z1f', zz, oo, b2i_0, b2i_n, b2i_t, b2i_f, Bool.not_true, Bool.not_false]
  · rw [if_neg e]
    simp (disch := omega) only [g, h2, e_X12_see_38, e_X12_see_65, e_X12_see_66, true_and, and_true, false_and, and_false, beq_t, beq_f, eqN_t, eqN_f, eqL_t, eqL_f, nm1, nm2, nm1', nm2', m1z, m2z, zm1, zm2, m12, m21, lg_cmp_ge, lg_cmp_le, lg_cmp_gt, lg_cmp_lt, lg_cmp_eq, oob, oobL, neg0, negL0, natle_f, or_false, false_or, true_or, or_true, or_self, cl, clL, le_t, le_f, lt_t, lt_f, leL_t, leL_f, ltL_t, ltL_f, leM_t, leM_f, ltM_t, ltM_f, leO_t, leO_f, cond_true, cond_false, Option.bind_some, Option.bind_none, if_false, if_true, nI_1, aL1, aL2, mL1, mL2, nI_add, pk_mul, pk_m1, sL1, dL1, pk_sub, m1p1, gIs_eq, gIs_k, gIs_i, gIs_n, gIs_e, gIJ, gIR, gJI, gJR, gJs_eq, gJs_k, gJs_n, gJs_e, gRI, gRJ, gRs_eq, gRs_k, gRs_i, gRs_n, gZI, gZJ, gZR, pI_s, pJ_s, pV_s, pR_s, pR_n, oR_n, oR_s, decide_true, decide_false, not_true_eq_false, not_false_eq_true, decT, decF, Bool.true_eq_false, Bool.false_eq_true, z01, o01, z1f, z1f', zz, oo, b2i_0, b2i_n, b2i_t, b2i_f, Bool.not_true, Bool.not_false]
theorem m_isWord0 {w : XW} {t : Tp} (hT : TOk2 t) {s : Nat} (h : MTp w t s) (hs : sk t s = s) {x : List Nat} {W : Int64} (hW : WOk x W) : F_X12_isWord [.inr (11, 0), .inl (.long W)] w = some (b2i (decide (wrd t s = x)), w) := by
  have k1 := m_see0 hT h hs
  obtain ⟨w', j1, _, _⟩ := m_isWord hT h hW
  rw [hs] at j1
  have : w' = w := by
    obtain ⟨v, u1, u2⟩ := m_wordE hT h W (le t s - s) 0 (by have := le_le h.2.2.2; omega)
    have u1 : q_X12_isWord_10 W 0 0 w = q_X12_isWord_56 W v (nI (le t s - s)) w := u1
    rw [f_X12_isWord, e_X12_isWord_0, k1, Option.bind_some] at j1
    dsimp only at j1
    rw [u1, e_X12_isWord_56] at j1
    revert j1
    cases decide (nI (le t s - s) ≤ 0) with
    | true =>
      rw [cond_true, e_X12_isWord_78, e_X12_isWord_79, if_pos (Or.inl rfl)]
      intro j1
      injection j1 with j1
      injection j1 with _ j1
      exact j1.symm
    | false =>
      rw [cond_false, e_X12_isWord_61]
      cases decide (8 ≤ nI (le t s - s)) with
      | true =>
        rw [cond_true, e_X12_isWord_78, e_X12_isWord_79, if_pos (Or.inl rfl)]
        intro j1
        injection j1 with j1
        injection j1 with _ j1
        exact j1.symm
      | false =>
        rw [cond_false, e_X12_isWord_68]
        cases decide (¬ lg_cmp v W = 0) with
        | true =>
          rw [cond_true, e_X12_isWord_78, e_X12_isWord_79, if_pos (Or.inl rfl)]
          intro j1
          injection j1 with j1
          injection j1 with _ j1
          exact j1.symm
        | false =>
          rw [cond_false, e_X12_isWord_74, e_X12_isWord_79, if_pos (Or.inr rfl)]
          intro j1
          injection j1 with j1
          injection j1 with _ j1
          exact j1.symm
  rw [j1, this]
def RdAt (w : XW) (d : Dl) : Prop := (∀ k, k < 6 → gI w 46 0 k = d.1 k) ∧ (∀ k, k < 6 → gI w 46 0 (35 + k) = d.2.1 k ∧ gI w 46 0 (41 + k) = d.2.2.1 k ∧ gI w 46 0 (61 + k) = d.2.2.2.1 k) ∧ (∀ p, p < 5 → gI w 46 0 (47 + p) = d.2.2.2.2.1 p ∧ gI w 46 0 (52 + p) = d.2.2.2.2.2.1 p) ∧ ∀ f, f < 4 → gI w 46 0 (57 + f) = d.2.2.2.2.2.2 f
theorem RdAt.fr {P : Nat → Nat → Nat → Prop} {w w' : XW} {d : Dl} (hd : RdAt w d) (h : Fr P w w') (hP : ∀ k, ¬ P 46 0 k) : RdAt w' d := by
  refine ⟨fun k hk => ?_, fun k hk => ?_, fun k hk => ?_, fun k hk => ?_⟩
  · rw [(h 46 0 k (hP _)).1]; exact hd.1 k hk
  · rw [(h 46 0 _ (hP _)).1, (h 46 0 _ (hP _)).1, (h 46 0 _ (hP _)).1]; exact hd.2.1 k hk
  · rw [(h 46 0 _ (hP _)).1, (h 46 0 _ (hP _)).1]; exact hd.2.2.1 k hk
  · rw [(h 46 0 _ (hP _)).1]; exact hd.2.2.2 k hk
theorem gIs_v {w : XW} {κ i b k q : Nat} {v : Int32} {f : Ar} (h : gI w κ i (b + q) = f q) : gI (sI w κ i (b + k) v) κ i (b + q) = upd f k v q := by
  by_cases e : q = k
  · subst e; rw [gIs_eq, pk_us]
  · rw [gIs_k (by omega), pk_un e]; exact h
theorem RdAt.h {w : XW} {k : Nat} {v : Int32} {d : Dl} (hd : RdAt w d) (hk : k < 6) : RdAt (sI w 46 0 k v) (upd d.1 k v, d.2) := by
  refine ⟨fun q hq => gIs_u (hd.1 q hq), fun q hq => ?_, fun q hq => ?_, fun q hq => ?_⟩
  · rw [gIs_k (by omega), gIs_k (by omega), gIs_k (by omega)]; exact hd.2.1 q hq
  · rw [gIs_k (by omega), gIs_k (by omega)]; exact hd.2.2.1 q hq
  · rw [gIs_k (by omega)]; exact hd.2.2.2 q hq
theorem RdAt.room {w : XW} {k : Nat} {v : Int32} {d : Dl} (hd : RdAt w d) (hk : k < 6) : RdAt (sI w 46 0 (35 + k) v) (d.1, upd d.2.1 k v, d.2.2) := by
  refine ⟨fun q hq => by rw [gIs_k (by omega)]; exact hd.1 q hq, fun q hq => ⟨gIs_v (hd.2.1 q hq).1, ?_⟩, fun q hq => ?_, fun q hq => ?_⟩
  · rw [gIs_k (by omega), gIs_k (by omega)]; exact (hd.2.1 q hq).2
  · rw [gIs_k (by omega), gIs_k (by omega)]; exact hd.2.2.1 q hq
  · rw [gIs_k (by omega)]; exact hd.2.2.2 q hq
theorem RdAt.cools {w : XW} {k : Nat} {v : Int32} {d : Dl} (hd : RdAt w d) (hk : k < 6) : RdAt (sI w 46 0 (41 + k) v) (d.1, d.2.1, upd d.2.2.1 k v, d.2.2.2) := by
  refine ⟨fun q hq => by rw [gIs_k (by omega)]; exact hd.1 q hq, fun q hq => ⟨?_, gIs_v (hd.2.1 q hq).2.1, ?_⟩, fun q hq => ?_, fun q hq => ?_⟩
  · rw [gIs_k (by omega)]; exact (hd.2.1 q hq).1
  · rw [gIs_k (by omega)]; exact (hd.2.1 q hq).2.2
  · rw [gIs_k (by omega), gIs_k (by omega)]; exact hd.2.2.1 q hq
  · rw [gIs_k (by omega)]; exact hd.2.2.2 q hq
theorem RdAt.bes {w : XW} {k : Nat} {v : Int32} {d : Dl} (hd : RdAt w d) : RdAt (sI w 46 0 (61 + k) v) (d.1, d.2.1, d.2.2.1, upd d.2.2.2.1 k v, d.2.2.2.2) := by
  refine ⟨fun q hq => by rw [gIs_k (by omega)]; exact hd.1 q hq, fun q hq => ⟨?_, ?_, gIs_v (hd.2.1 q hq).2.2⟩, fun q hq => ?_, fun q hq => ?_⟩
  · rw [gIs_k (by omega)]; exact (hd.2.1 q hq).1
  · rw [gIs_k (by omega)]; exact (hd.2.1 q hq).2.1
  · rw [gIs_k (by omega), gIs_k (by omega)]; exact hd.2.2.1 q hq
  · rw [gIs_k (by omega)]; exact hd.2.2.2 q hq
theorem RdAt.ownr {w : XW} {k : Nat} {v : Int32} {d : Dl} (hd : RdAt w d) (hk : k < 5) : RdAt (sI w 46 0 (47 + k) v) (d.1, d.2.1, d.2.2.1, d.2.2.2.1, upd d.2.2.2.2.1 k v, d.2.2.2.2.2) := by
  refine ⟨fun q hq => by rw [gIs_k (by omega)]; exact hd.1 q hq, fun q hq => ?_, fun q hq => ⟨gIs_v (hd.2.2.1 q hq).1, ?_⟩, fun q hq => ?_⟩
  · rw [gIs_k (by omega), gIs_k (by omega), gIs_k (by omega)]; exact hd.2.1 q hq
  · rw [gIs_k (by omega)]; exact (hd.2.2.1 q hq).2
  · rw [gIs_k (by omega)]; exact hd.2.2.2 q hq
theorem RdAt.tell {w : XW} {k : Nat} {v : Int32} {d : Dl} (hd : RdAt w d) (hk : k < 5) : RdAt (sI w 46 0 (52 + k) v) (d.1, d.2.1, d.2.2.1, d.2.2.2.1, d.2.2.2.2.1, upd d.2.2.2.2.2.1 k v, d.2.2.2.2.2.2) := by
  refine ⟨fun q hq => by rw [gIs_k (by omega)]; exact hd.1 q hq, fun q hq => ?_, fun q hq => ⟨?_, gIs_v (hd.2.2.1 q hq).2⟩, fun q hq => ?_⟩
  · rw [gIs_k (by omega), gIs_k (by omega), gIs_k (by omega)]; exact hd.2.1 q hq
  · rw [gIs_k (by omega)]; exact (hd.2.2.1 q hq).1
  · rw [gIs_k (by omega)]; exact hd.2.2.2 q hq
theorem RdAt.crow {w : XW} {k : Nat} {v : Int32} {d : Dl} (hd : RdAt w d) (hk : k < 4) : RdAt (sI w 46 0 (57 + k) v) (d.1, d.2.1, d.2.2.1, d.2.2.2.1, d.2.2.2.2.1, d.2.2.2.2.2.1, upd d.2.2.2.2.2.2 k v) := by
  refine ⟨fun q hq => by rw [gIs_k (by omega)]; exact hd.1 q hq, fun q hq => ?_, fun q hq => ?_, fun q hq => gIs_v (hd.2.2.2 q hq)⟩
  · rw [gIs_k (by omega), gIs_k (by omega), gIs_k (by omega)]; exact hd.2.1 q hq
  · rw [gIs_k (by omega), gIs_k (by omega)]; exact hd.2.2.1 q hq
def P46 (κ _j _k : Nat) : Prop := κ = 46
def PMr (κ _j k : Nat) : Prop := κ = 46 ∨ (κ = 11 ∧ (8 ≤ k ∧ k ≤ 10))
theorem fL {w w' : XW} (h : Fr PMl w w') : Fr PMr w w' := h.mono (fun κ i k q => by unfold PMl at q; unfold  PMr; omega)
theorem f8 {w w' : XW} (h : Fr PM8 w w') : Fr PMr w w' := h.mono (fun κ i k q => by unfold PM8 at q; unfold  PMr; omega)
theorem f46 {w w' : XW} (h : Fr P46 w w') : Fr PMr w w' := h.mono (fun κ i k q => by unfold P46 at q; unfold  PMr; omega)
theorem RdAt.l {w w' : XW} {d : Dl} (h : RdAt w d) (hF : Fr PMl w w') : RdAt w' d := h.fr hF (fun k => by unfold PMl; omega)
theorem RdAt.l8 {w w' : XW} {d : Dl} (h : RdAt w d) (hF : Fr PM8 w w') : RdAt w' d := h.fr hF (fun k => by unfold PM8; omega)
theorem MTp.r {w w' : XW} {t : Tp} {p : Nat} (h : MTp w t p) (hF : Fr P46 w w') : MTp w' t p := h.fr hF (fun κ k q => by unfold P46; omega)
/-- a number into a cell -/
theorem m_cell {w : XW} {t : Tp} (hT : TOk2 t) {p c : Nat} (hc : c < 67) (h : MTp w t p) (lo hi : Nat) (hlo : lo < 60000) (hhi : hi < 60000000) : ∃ w', Fr PMl w w' ∧ match nuS t p lo hi with
    | .inl f => F_X12_cellHere [.inr (11, 0), .inl (.int (nI c)), .inl (.int (nI lo)), .inl (.int (dn hi))] w = some (0, w') ∧ gI w' 11 0 9 = nI f
    | .inr (e, v) => F_X12_cellHere [.inr (11, 0), .inl (.int (nI c)), .inl (.int (nI lo)), .inl (.int (dn hi))] w = some (1, sI w' 46 0 c (nI v)) ∧ MTp w' t e := by
  obtain ⟨w1, F1, h1⟩ := m_number hT h lo hi hlo hhi
  refine ⟨w1, F1, ?_⟩
  cases hq : nuS t p lo hi with
  | inl f =>
    rw [hq] at h1
    refine ⟨?_, h1.2⟩
    rw [f_X12_cellHere, e_X12_cellHere_0]
    simp (disch := omega) only [h1.1, e_X12_cellHere_9, true_and, and_true, false_and, and_false, beq_t, beq_f, eqN_t, eqN_f, eqL_t, eqL_f, nm1, nm2, nm1', nm2', m1z, m2z, zm1, zm2, m12, m21, lg_cmp_ge, lg_cmp_le, lg_cmp_gt, lg_cmp_lt, lg_cmp_eq, oob, oobL, neg0, negL0, natle_f, or_false, false_or, true_or, or_true, or_self, cl, clL, le_t, le_f, lt_t, lt_f, leL_t, leL_f, ltL_t, ltL_f, leM_t, leM_f, ltM_t, ltM_f, leO_t, leO_f, cond_true, cond_false, Option.bind_some, Option.bind_none, if_false, if_true, nI_1, aL1, aL2, mL1, mL2, nI_add, pk_mul, pk_m1, sL1, dL1, pk_sub, m1p1, gIs_eq, gIs_k, gIs_i, gIs_n, gIs_e, gIJ, gIR, gJI, gJR, gJs_eq, gJs_k, gJs_n, gJs_e, gRI, gRJ, gRs_eq, gRs_k, gRs_i, gRs_n, gZI, gZJ, gZR, pI_s, pJ_s, pV_s, pR_s, pR_n, oR_n, oR_s, decide_true, decide_false, not_true_eq_false, not_false_eq_true, decT, decF, Bool.true_eq_false, Bool.false_eq_true, z01, o01, z1f, z1f', zz, oo, b2i_0, b2i_n, b2i_t, b2i_f, Bool.not_true, Bool.not_false]
  | inr q =>
    obtain ⟨e, v⟩ := q
    rw [hq] at h1
    obtain ⟨h1, h2, h3⟩ := h1
    refine ⟨?_, h2⟩
    rw [f_X12_cellHere, e_X12_cellHere_0]
    simp (disch := omega) only [h1, e_X12_cellHere_11, h3, true_and, and_true, false_and, and_false, beq_t, beq_f, eqN_t, eqN_f, eqL_t, eqL_f, nm1, nm2, nm1', nm2', m1z, m2z, zm1, zm2, m12, m21, lg_cmp_ge, lg_cmp_le, lg_cmp_gt, lg_cmp_lt, lg_cmp_eq, oob, oobL, neg0, negL0, natle_f, or_false, false_or, true_or, or_true, or_self, cl, clL, le_t, le_f, lt_t, lt_f, leL_t, leL_f, ltL_t, ltL_f, leM_t, leM_f, ltM_t, ltM_f, leO_t, leO_f, cond_true, cond_false, Option.bind_some, Option.bind_none, if_false, if_true, nI_1, aL1, aL2, mL1, mL2, nI_add, pk_mul, pk_m1, sL1, dL1, pk_sub, m1p1, gIs_eq, gIs_k, gIs_i, gIs_n, gIs_e, gIJ, gIR, gJI, gJR, gJs_eq, gJs_k, gJs_n, gJs_e, gRI, gRJ, gRs_eq, gRs_k, gRs_i, gRs_n, gZI, gZJ, gZR, pI_s, pJ_s, pV_s, pR_s, pR_n, oR_n, oR_s, decide_true, decide_false, not_true_eq_false, not_false_eq_true, decT, decF, Bool.true_eq_false, Bool.false_eq_true, z01, o01, z1f, z1f', zz, oo, b2i_0, b2i_n, b2i_t, b2i_f, Bool.not_true, Bool.not_false]
def RM (F : Option (Int32 × XW)) (w : XW) (t : Tp) (r : Nat ⊕ (Nat × Dl)) : Prop := ∃ w', Fr PMr w w' ∧ match r with
  | .inl f => F = some (0, w') ∧ gI w' 11 0 9 = nI f
  | .inr q => F = some (1, w') ∧ MTp w' t q.1 ∧ RdAt w' q.2
theorem m_daleHere {w : XW} {t : Tp} (hT : TOk2 t) {s x : Nat} {d : Dl} (h0 : d.1 0 = 0) (hC : MTp w t s) (hd : RdAt w d) : RM (F_X12_isDaleHere [.inr (11, 0), .inl (.int (nI x))] w) w t (clD t 0 (le t s) d) := by
  have g0 : gI w 46 0 0 = 0 := by rw [hd.1 0 (by omega), h0]
  obtain ⟨w0, p1, p2, p3⟩ := m_passWord hT hC
  have hd0 := hd.l8 p3
  have e0 : clD t 0 (le t s) d = sB (nuS t (le t s) 0 10) (fun q => sB (nuS t q.1 1 100) (fun r => .inr (r.1, (upd (upd (upd d.1 1 (nI q.2)) 2 (nI r.2)) 0 1, d.2)))) := if_pos rfl
  rw [e0]
  obtain ⟨w1, F1, h1⟩ := m_cell hT (c := 1) (by omega) p2 0 10 (by omega) (by omega)
  have hd1 := hd0.l F1
  have FA := (f8 p3).trans (fL F1)
  cases hq : nuS t (le t s) 0 10 with
  | inl f =>
    rw [hq] at h1
    obtain ⟨h1, h2⟩ := h1
    have h1 : F_X12_cellHere [.inr (11, 0), .inl (.int 1), .inl (.int 0), .inl (.int 9)] w0 = some (0, w1) := h1
    refine ⟨w1, FA, ?_, h2⟩
    rw [f_X12_isDaleHere, e_X12_isDaleHere_0]
    simp (disch := omega) only [g0, e_X12_isDaleHere_16, p1, h1, e_X12_isDaleHere_42, true_and, and_true, false_and, and_false, beq_t, beq_f, eqN_t, eqN_f, eqL_t, eqL_f, nm1, nm2, nm1', nm2', m1z, m2z, zm1, zm2, m12, m21, lg_cmp_ge, lg_cmp_le, lg_cmp_gt, lg_cmp_lt, lg_cmp_eq, oob, oobL, neg0, negL0, natle_f, or_false, false_or, true_or, or_true, or_self, cl, clL, le_t, le_f, lt_t, lt_f, leL_t, leL_f, ltL_t, ltL_f, leM_t, leM_f, ltM_t, ltM_f, leO_t, leO_f, cond_true, cond_false, Option.bind_some, Option.bind_none, if_false, if_true, nI_1, aL1, aL2, mL1, mL2, nI_add, pk_mul, pk_m1, sL1, dL1, pk_sub, m1p1, gIs_eq, gIs_k, gIs_i, gIs_n, gIs_e, gIJ, gIR, gJI, gJR, gJs_eq, gJs_k, gJs_n, gJs_e, gRI, gRJ, gRs_eq, gRs_k, gRs_i, gRs_n, gZI, gZJ, gZR, pI_s, pJ_s, pV_s, pR_s, pR_n, oR_n, oR_s, decide_true, decide_false, not_true_eq_false, not_false_eq_true, decT, decF, Bool.true_eq_false, Bool.false_eq_true, z01, o01, z1f, z1f', zz, oo, b2i_0, b2i_n, b2i_t, b2i_f, Bool.not_true, Bool.not_false]
    all_goals rfl
  | inr q =>
    obtain ⟨p1', v⟩ := q
    rw [hq] at h1
    obtain ⟨h1, h2⟩ := h1
    have h1 : F_X12_cellHere [.inr (11, 0), .inl (.int 1), .inl (.int 0), .inl (.int 9)] w0 = some (1, sI w1 46 0 1 (nI v)) := h1
    have F2 : Fr P46 w1 (sI w1 46 0 1 (nI v)) := (Fr.refl _ _).sI rfl
    have hd2 := hd1.h (k := 1) (v := nI v) (by omega)
    obtain ⟨w3, F3, k1⟩ := m_cell hT (c := 2) (by omega) (h2.r F2) 1 100 (by omega) (by omega)
    have hd3 := hd2.l F3
    have FB := (FA.trans (f46 F2)).trans (fL F3)
    show RM _ w t (sB (nuS t p1' 1 100) _)
    cases hr : nuS t p1' 1 100 with
    | inl f =>
      rw [hr] at k1
      obtain ⟨k1, k2⟩ := k1
      have k1 : F_X12_cellHere [.inr (11, 0), .inl (.int 2), .inl (.int 1), .inl (.int 99)] (sI w1 46 0 1 (nI v)) = some (0, w3) := k1
      refine ⟨w3, FB, ?_, k2⟩
      rw [f_X12_isDaleHere, e_X12_isDaleHere_0]
      simp (disch := omega) only [g0, e_X12_isDaleHere_16, p1, h1, e_X12_isDaleHere_31, k1, e_X12_isDaleHere_42, true_and, and_true, false_and, and_false, beq_t, beq_f, eqN_t, eqN_f, eqL_t, eqL_f, nm1, nm2, nm1', nm2', m1z, m2z, zm1, zm2, m12, m21, lg_cmp_ge, lg_cmp_le, lg_cmp_gt, lg_cmp_lt, lg_cmp_eq, oob, oobL, neg0, negL0, natle_f, or_false, false_or, true_or, or_true, or_self, cl, clL, le_t, le_f, lt_t, lt_f, leL_t, leL_f, ltL_t, ltL_f, leM_t, leM_f, ltM_t, ltM_f, leO_t, leO_f, cond_true, cond_false, Option.bind_some, Option.bind_none, if_false, if_true, nI_1, aL1, aL2, mL1, mL2, nI_add, pk_mul, pk_m1, sL1, dL1, pk_sub, m1p1, gIs_eq, gIs_k, gIs_i, gIs_n, gIs_e, gIJ, gIR, gJI, gJR, gJs_eq, gJs_k, gJs_n, gJs_e, gRI, gRJ, gRs_eq, gRs_k, gRs_i, gRs_n, gZI, gZJ, gZR, pI_s, pJ_s, pV_s, pR_s, pR_n, oR_n, oR_s, decide_true, decide_false, not_true_eq_false, not_false_eq_true, decT, decF, Bool.true_eq_false, Bool.false_eq_true, z01, o01, z1f, z1f', zz, oo, b2i_0, b2i_n, b2i_t, b2i_f, Bool.not_true, Bool.not_false]
      all_goals rfl
    | inr r =>
      obtain ⟨p2', u⟩ := r
      rw [hr] at k1
      obtain ⟨k1, k2⟩ := k1
      have k1 : F_X12_cellHere [.inr (11, 0), .inl (.int 2), .inl (.int 1), .inl (.int 99)] (sI w1 46 0 1 (nI v)) = some (1, sI w3 46 0 2 (nI u)) := k1
      have F4 : Fr P46 w3 (sI (sI w3 46 0 2 (nI u)) 46 0 0 1) := ((Fr.refl _ _).sI rfl).sI rfl
      refine ⟨_, FB.trans (f46 F4), ?_, k2.r F4, (hd3.h (k := 2) (v := nI u) (by omega)).h (k := 0) (v := 1) (by omega)⟩
      rw [f_X12_isDaleHere, e_X12_isDaleHere_0]
      simp (disch := omega) only [g0, e_X12_isDaleHere_16, p1, h1, e_X12_isDaleHere_31, k1, e_X12_isDaleHere_44, true_and, and_true, false_and, and_false, beq_t, beq_f, eqN_t, eqN_f, eqL_t, eqL_f, nm1, nm2, nm1', nm2', m1z, m2z, zm1, zm2, m12, m21, lg_cmp_ge, lg_cmp_le, lg_cmp_gt, lg_cmp_lt, lg_cmp_eq, oob, oobL, neg0, negL0, natle_f, or_false, false_or, true_or, or_true, or_self, cl, clL, le_t, le_f, lt_t, lt_f, leL_t, leL_f, ltL_t, ltL_f, leM_t, leM_f, ltM_t, ltM_f, leO_t, leO_f, cond_true, cond_false, Option.bind_some, Option.bind_none, if_false, if_true, nI_1, aL1, aL2, mL1, mL2, nI_add, pk_mul, pk_m1, sL1, dL1, pk_sub, m1p1, gIs_eq, gIs_k, gIs_i, gIs_n, gIs_e, gIJ, gIR, gJI, gJR, gJs_eq, gJs_k, gJs_n, gJs_e, gRI, gRJ, gRs_eq, gRs_k, gRs_i, gRs_n, gZI, gZJ, gZR, pI_s, pJ_s, pV_s, pR_s, pR_n, oR_n, oR_s, decide_true, decide_false, not_true_eq_false, not_false_eq_true, decT, decF, Bool.true_eq_false, Bool.false_eq_true, z01, o01, z1f, z1f', zz, oo, b2i_0, b2i_n, b2i_t, b2i_f, Bool.not_true, Bool.not_false]
      all_goals rfl
theorem m_keepHere {w : XW} {t : Tp} (hT : TOk2 t) {s x : Nat} {d : Dl} (hD : DOk d) (hk : kn d < 6) (hC : MTp w t s) (hd : RdAt w d) : RM (F_X12_isKeepHere [.inr (11, 0), .inl (.int (nI x))] w) w t (clD t 1 (le t s) d) := by
  have g0 : gI w 46 0 3 = nI (kn d) := by rw [hd.1 3 (by omega)]; exact hD.1.1
  obtain ⟨w0, p1, p2, p3⟩ := m_passWord hT hC
  have hd0 := hd.l8 p3
  have g1 : gI w0 46 0 3 = nI (kn d) := by rw [hd0.1 3 (by omega)]; exact hD.1.1
  have e0 : clD t 1 (le t s) d = sB (nuS t (le t s) 1 61) (fun q => sB (nuS t q.1 0 21) (fun r => .inr (r.1, (upd d.1 3 (nI (kn d + 1)), upd d.2.1 (kn d) (nI q.2), upd d.2.2.1 (kn d) (nI r.2), d.2.2.2)))) := rfl
  rw [e0]
  obtain ⟨w1, F1, h1⟩ := m_cell hT (c := 35 + kn d) (by omega) p2 1 61 (by omega) (by omega)
  have hd1 := hd0.l F1
  have FA := (f8 p3).trans (fL F1)
  cases hq : nuS t (le t s) 1 61 with
  | inl f =>
    rw [hq] at h1
    obtain ⟨h1, h2⟩ := h1
    have h1 : F_X12_cellHere [.inr (11, 0), .inl (.int (nI (35 + kn d))), .inl (.int 1), .inl (.int 60)] w0 = some (0, w1) := h1
    refine ⟨w1, FA, ?_, h2⟩
    rw [f_X12_isKeepHere, e_X12_isKeepHere_0]
    simp (disch := omega) only [g0, e_X12_isKeepHere_18, p1, g1, h1, e_X12_isKeepHere_60, true_and, and_true, false_and, and_false, beq_t, beq_f, eqN_t, eqN_f, eqL_t, eqL_f, nm1, nm2, nm1', nm2', m1z, m2z, zm1, zm2, m12, m21, lg_cmp_ge, lg_cmp_le, lg_cmp_gt, lg_cmp_lt, lg_cmp_eq, oob, oobL, neg0, negL0, natle_f, or_false, false_or, true_or, or_true, or_self, cl, clL, le_t, le_f, lt_t, lt_f, leL_t, leL_f, ltL_t, ltL_f, leM_t, leM_f, ltM_t, ltM_f, leO_t, leO_f, cond_true, cond_false, Option.bind_some, Option.bind_none, if_false, if_true, nI_1, aL1, aL2, mL1, mL2, nI_add, pk_mul, pk_m1, sL1, dL1, pk_sub, m1p1, gIs_eq, gIs_k, gIs_i, gIs_n, gIs_e, gIJ, gIR, gJI, gJR, gJs_eq, gJs_k, gJs_n, gJs_e, gRI, gRJ, gRs_eq, gRs_k, gRs_i, gRs_n, gZI, gZJ, gZR, pI_s, pJ_s, pV_s, pR_s, pR_n, oR_n, oR_s, decide_true, decide_false, not_true_eq_false, not_false_eq_true, decT, decF, Bool.true_eq_false, Bool.false_eq_true, z01, o01, z1f, z1f', zz, oo, b2i_0, b2i_n, b2i_t, b2i_f, Bool.not_true, Bool.not_false]
  | inr q =>
    obtain ⟨p1', v⟩ := q
    rw [hq] at h1
    obtain ⟨h1, h2⟩ := h1
    have h1 : F_X12_cellHere [.inr (11, 0), .inl (.int (nI (35 + kn d))), .inl (.int 1), .inl (.int 60)] w0 = some (1, sI w1 46 0 (35 + kn d) (nI v)) := h1
    have F2 : Fr P46 w1 (sI w1 46 0 (35 + kn d) (nI v)) := (Fr.refl _ _).sI rfl
    have hd2 := hd1.room (k := kn d) (v := nI v) hk
    have g2 : gI (sI w1 46 0 (35 + kn d) (nI v)) 46 0 3 = nI (kn d) := by rw [hd2.1 3 (by omega)]; exact hD.1.1
    obtain ⟨w3, F3, k1⟩ := m_cell hT (c := 41 + kn d) (by omega) (h2.r F2) 0 21 (by omega) (by omega)
    have hd3 := hd2.l F3
    have FB := (FA.trans (f46 F2)).trans (fL F3)
    show RM _ w t (sB (nuS t p1' 0 21) _)
    cases hr : nuS t p1' 0 21 with
    | inl f =>
      rw [hr] at k1
      obtain ⟨k1, k2⟩ := k1
      have k1 : F_X12_cellHere [.inr (11, 0), .inl (.int (nI (41 + kn d))), .inl (.int 0), .inl (.int 20)] (sI w1 46 0 (35 + kn d) (nI v)) = some (0, w3) := k1
      refine ⟨w3, FB, ?_, k2⟩
      rw [f_X12_isKeepHere, e_X12_isKeepHere_0]
      simp (disch := omega) only [g0, e_X12_isKeepHere_18, p1, g1, h1, e_X12_isKeepHere_41, g2, k1, e_X12_isKeepHere_60, true_and, and_true, false_and, and_false, beq_t, beq_f, eqN_t, eqN_f, eqL_t, eqL_f, nm1, nm2, nm1', nm2', m1z, m2z, zm1, zm2, m12, m21, lg_cmp_ge, lg_cmp_le, lg_cmp_gt, lg_cmp_lt, lg_cmp_eq, oob, oobL, neg0, negL0, natle_f, or_false, false_or, true_or, or_true, or_self, cl, clL, le_t, le_f, lt_t, lt_f, leL_t, leL_f, ltL_t, ltL_f, leM_t, leM_f, ltM_t, ltM_f, leO_t, leO_f, cond_true, cond_false, Option.bind_some, Option.bind_none, if_false, if_true, nI_1, aL1, aL2, mL1, mL2, nI_add, pk_mul, pk_m1, sL1, dL1, pk_sub, m1p1, gIs_eq, gIs_k, gIs_i, gIs_n, gIs_e, gIJ, gIR, gJI, gJR, gJs_eq, gJs_k, gJs_n, gJs_e, gRI, gRJ, gRs_eq, gRs_k, gRs_i, gRs_n, gZI, gZJ, gZR, pI_s, pJ_s, pV_s, pR_s, pR_n, oR_n, oR_s, decide_true, decide_false, not_true_eq_false, not_false_eq_true, decT, decF, Bool.true_eq_false, Bool.false_eq_true, z01, o01, z1f, z1f', zz, oo, b2i_0, b2i_n, b2i_t, b2i_f, Bool.not_true, Bool.not_false]
    | inr r =>
      obtain ⟨p2', u⟩ := r
      rw [hr] at k1
      obtain ⟨k1, k2⟩ := k1
      have k1 : F_X12_cellHere [.inr (11, 0), .inl (.int (nI (41 + kn d))), .inl (.int 0), .inl (.int 20)] (sI w1 46 0 (35 + kn d) (nI v)) = some (1, sI w3 46 0 (41 + kn d) (nI u)) := k1
      have hd4 := hd3.cools (k := kn d) (v := nI u) hk
      have g4 : gI (sI w3 46 0 (41 + kn d) (nI u)) 46 0 3 = nI (kn d) := by rw [hd4.1 3 (by omega)]; exact hD.1.1
      have F4 : Fr P46 w3 (sI (sI w3 46 0 (41 + kn d) (nI u)) 46 0 3 (nI (kn d + 1))) := ((Fr.refl _ _).sI rfl).sI rfl
      refine ⟨_, FB.trans (f46 F4), ?_, k2.r F4, hd4.h (k := 3) (v := nI (kn d + 1)) (by omega)⟩
      rw [f_X12_isKeepHere, e_X12_isKeepHere_0]
      simp (disch := omega) only [g0, e_X12_isKeepHere_18, p1, g1, h1, e_X12_isKeepHere_41, g2, k1, e_X12_isKeepHere_62, g4, true_and, and_true, false_and, and_false, beq_t, beq_f, eqN_t, eqN_f, eqL_t, eqL_f, nm1, nm2, nm1', nm2', m1z, m2z, zm1, zm2, m12, m21, lg_cmp_ge, lg_cmp_le, lg_cmp_gt, lg_cmp_lt, lg_cmp_eq, oob, oobL, neg0, negL0, natle_f, or_false, false_or, true_or, or_true, or_self, cl, clL, le_t, le_f, lt_t, lt_f, leL_t, leL_f, ltL_t, ltL_f, leM_t, leM_f, ltM_t, ltM_f, leO_t, leO_f, cond_true, cond_false, Option.bind_some, Option.bind_none, if_false, if_true, nI_1, aL1, aL2, mL1, mL2, nI_add, pk_mul, pk_m1, sL1, dL1, pk_sub, m1p1, gIs_eq, gIs_k, gIs_i, gIs_n, gIs_e, gIJ, gIR, gJI, gJR, gJs_eq, gJs_k, gJs_n, gJs_e, gRI, gRJ, gRs_eq, gRs_k, gRs_i, gRs_n, gZI, gZJ, gZR, pI_s, pJ_s, pV_s, pR_s, pR_n, oR_n, oR_s, decide_true, decide_false, not_true_eq_false, not_false_eq_true, decT, decF, Bool.true_eq_false, Bool.false_eq_true, z01, o01, z1f, z1f', zz, oo, b2i_0, b2i_n, b2i_t, b2i_f, Bool.not_true, Bool.not_false]
theorem m_personHere {w : XW} {t : Tp} (hT : TOk2 t) {s x : Nat} {d : Dl} (hD : DOk d) (hk : pn d < 5) (hC : MTp w t s) (hd : RdAt w d) : RM (F_X12_isPersonHere [.inr (11, 0), .inl (.int (nI x))] w) w t (clD t 2 (le t s) d) := by
  have hk6 := hD.1.2
  have g0 : gI w 46 0 4 = nI (pn d) := by rw [hd.1 4 (by omega)]; exact hD.2.1.1
  obtain ⟨w0, p1, p2, p3⟩ := m_passWord hT hC
  have hd0 := hd.l8 p3
  have g1 : gI w0 46 0 4 = nI (pn d) := by rw [hd0.1 4 (by omega)]; exact hD.2.1.1
  have g1' : gI w0 46 0 3 - 1 = dn (kn d) := by rw [hd0.1 3 (by omega), hD.1.1, dn_sub]
  have e0 : clD t 2 (le t s) d = sB (nuS t (le t s) 0 (kn d)) (fun q => sB (nuS t q.1 0 10) (fun r => .inr (r.1, (upd d.1 4 (nI (pn d + 1)), d.2.1, d.2.2.1, d.2.2.2.1, upd d.2.2.2.2.1 (pn d) (nI q.2), upd d.2.2.2.2.2.1 (pn d) (nI r.2), d.2.2.2.2.2.2)))) := rfl
  rw [e0]
  obtain ⟨w1, F1, h1⟩ := m_cell hT (c := 47 + pn d) (by omega) p2 0 (kn d) (by omega) (by omega)
  have hd1 := hd0.l F1
  have FA := (f8 p3).trans (fL F1)
  cases hq : nuS t (le t s) 0 (kn d) with
  | inl f =>
    rw [hq] at h1
    obtain ⟨h1, h2⟩ := h1
    have h1 : F_X12_cellHere [.inr (11, 0), .inl (.int (nI (47 + pn d))), .inl (.int 0), .inl (.int (dn (kn d)))] w0 = some (0, w1) := h1
    refine ⟨w1, FA, ?_, h2⟩
    rw [f_X12_isPersonHere, e_X12_isPersonHere_0]
    simp (disch := omega) only [g0, e_X12_isPersonHere_17, p1, g1, g1', h1, e_X12_isPersonHere_65, true_and, and_true, false_and, and_false, beq_t, beq_f, eqN_t, eqN_f, eqL_t, eqL_f, nm1, nm2, nm1', nm2', m1z, m2z, zm1, zm2, m12, m21, lg_cmp_ge, lg_cmp_le, lg_cmp_gt, lg_cmp_lt, lg_cmp_eq, oob, oobL, neg0, negL0, natle_f, or_false, false_or, true_or, or_true, or_self, cl, clL, le_t, le_f, lt_t, lt_f, leL_t, leL_f, ltL_t, ltL_f, leM_t, leM_f, ltM_t, ltM_f, leO_t, leO_f, cond_true, cond_false, Option.bind_some, Option.bind_none, if_false, if_true, nI_1, aL1, aL2, mL1, mL2, nI_add, pk_mul, pk_m1, sL1, dL1, pk_sub, m1p1, gIs_eq, gIs_k, gIs_i, gIs_n, gIs_e, gIJ, gIR, gJI, gJR, gJs_eq, gJs_k, gJs_n, gJs_e, gRI, gRJ, gRs_eq, gRs_k, gRs_i, gRs_n, gZI, gZJ, gZR, pI_s, pJ_s, pV_s, pR_s, pR_n, oR_n, oR_s, decide_true, decide_false, not_true_eq_false, not_false_eq_true, decT, decF, Bool.true_eq_false, Bool.false_eq_true, z01, o01, z1f, z1f', zz, oo, b2i_0, b2i_n, b2i_t, b2i_f, Bool.not_true, Bool.not_false]
  | inr q =>
    obtain ⟨p1', v⟩ := q
    rw [hq] at h1
    obtain ⟨h1, h2⟩ := h1
    have h1 : F_X12_cellHere [.inr (11, 0), .inl (.int (nI (47 + pn d))), .inl (.int 0), .inl (.int (dn (kn d)))] w0 = some (1, sI w1 46 0 (47 + pn d) (nI v)) := h1
    have F2 : Fr P46 w1 (sI w1 46 0 (47 + pn d) (nI v)) := (Fr.refl _ _).sI rfl
    have hd2 := hd1.ownr (k := pn d) (v := nI v) hk
    have g2 : gI (sI w1 46 0 (47 + pn d) (nI v)) 46 0 4 = nI (pn d) := by rw [hd2.1 4 (by omega)]; exact hD.2.1.1
    obtain ⟨w3, F3, k1⟩ := m_cell hT (c := 52 + pn d) (by omega) (h2.r F2) 0 10 (by omega) (by omega)
    have hd3 := hd2.l F3
    have FB := (FA.trans (f46 F2)).trans (fL F3)
    show RM _ w t (sB (nuS t p1' 0 10) _)
    cases hr : nuS t p1' 0 10 with
    | inl f =>
      rw [hr] at k1
      obtain ⟨k1, k2⟩ := k1
      have k1 : F_X12_cellHere [.inr (11, 0), .inl (.int (nI (52 + pn d))), .inl (.int 0), .inl (.int 9)] (sI w1 46 0 (47 + pn d) (nI v)) = some (0, w3) := k1
      refine ⟨w3, FB, ?_, k2⟩
      rw [f_X12_isPersonHere, e_X12_isPersonHere_0]
      simp (disch := omega) only [g0, e_X12_isPersonHere_17, p1, g1, g1', h1, e_X12_isPersonHere_46, g2, k1, e_X12_isPersonHere_65, true_and, and_true, false_and, and_false, beq_t, beq_f, eqN_t, eqN_f, eqL_t, eqL_f, nm1, nm2, nm1', nm2', m1z, m2z, zm1, zm2, m12, m21, lg_cmp_ge, lg_cmp_le, lg_cmp_gt, lg_cmp_lt, lg_cmp_eq, oob, oobL, neg0, negL0, natle_f, or_false, false_or, true_or, or_true, or_self, cl, clL, le_t, le_f, lt_t, lt_f, leL_t, leL_f, ltL_t, ltL_f, leM_t, leM_f, ltM_t, ltM_f, leO_t, leO_f, cond_true, cond_false, Option.bind_some, Option.bind_none, if_false, if_true, nI_1, aL1, aL2, mL1, mL2, nI_add, pk_mul, pk_m1, sL1, dL1, pk_sub, m1p1, gIs_eq, gIs_k, gIs_i, gIs_n, gIs_e, gIJ, gIR, gJI, gJR, gJs_eq, gJs_k, gJs_n, gJs_e, gRI, gRJ, gRs_eq, gRs_k, gRs_i, gRs_n, gZI, gZJ, gZR, pI_s, pJ_s, pV_s, pR_s, pR_n, oR_n, oR_s, decide_true, decide_false, not_true_eq_false, not_false_eq_true, decT, decF, Bool.true_eq_false, Bool.false_eq_true, z01, o01, z1f, z1f', zz, oo, b2i_0, b2i_n, b2i_t, b2i_f, Bool.not_true, Bool.not_false]
    | inr r =>
      obtain ⟨p2', u⟩ := r
      rw [hr] at k1
      obtain ⟨k1, k2⟩ := k1
      have k1 : F_X12_cellHere [.inr (11, 0), .inl (.int (nI (52 + pn d))), .inl (.int 0), .inl (.int 9)] (sI w1 46 0 (47 + pn d) (nI v)) = some (1, sI w3 46 0 (52 + pn d) (nI u)) := k1
      have hd4 := hd3.tell (k := pn d) (v := nI u) hk
      have g4 : gI (sI w3 46 0 (52 + pn d) (nI u)) 46 0 4 = nI (pn d) := by rw [hd4.1 4 (by omega)]; exact hD.2.1.1
      have F4 : Fr P46 w3 (sI (sI w3 46 0 (52 + pn d) (nI u)) 46 0 4 (nI (pn d + 1))) := ((Fr.refl _ _).sI rfl).sI rfl
      refine ⟨_, FB.trans (f46 F4), ?_, k2.r F4, hd4.h (k := 4) (v := nI (pn d + 1)) (by omega)⟩
      rw [f_X12_isPersonHere, e_X12_isPersonHere_0]
      simp (disch := omega) only [g0, e_X12_isPersonHere_17, p1, g1, g1', h1, e_X12_isPersonHere_46, g2, k1, e_X12_isPersonHere_67, g4, true_and, and_true, false_and, and_false, beq_t, beq_f, eqN_t, eqN_f, eqL_t, eqL_f, nm1, nm2, nm1', nm2', m1z, m2z, zm1, zm2, m12, m21, lg_cmp_ge, lg_cmp_le, lg_cmp_gt, lg_cmp_lt, lg_cmp_eq, oob, oobL, neg0, negL0, natle_f, or_false, false_or, true_or, or_true, or_self, cl, clL, le_t, le_f, lt_t, lt_f, leL_t, leL_f, ltL_t, ltL_f, leM_t, leM_f, ltM_t, ltM_f, leO_t, leO_f, cond_true, cond_false, Option.bind_some, Option.bind_none, if_false, if_true, nI_1, aL1, aL2, mL1, mL2, nI_add, pk_mul, pk_m1, sL1, dL1, pk_sub, m1p1, gIs_eq, gIs_k, gIs_i, gIs_n, gIs_e, gIJ, gIR, gJI, gJR, gJs_eq, gJs_k, gJs_n, gJs_e, gRI, gRJ, gRs_eq, gRs_k, gRs_i, gRs_n, gZI, gZJ, gZR, pI_s, pJ_s, pV_s, pR_s, pR_n, oR_n, oR_s, decide_true, decide_false, not_true_eq_false, not_false_eq_true, decT, decF, Bool.true_eq_false, Bool.false_eq_true, z01, o01, z1f, z1f', zz, oo, b2i_0, b2i_n, b2i_t, b2i_f, Bool.not_true, Bool.not_false]
theorem m_fieldHere {w : XW} {t : Tp} (hT : TOk2 t) {s x : Nat} {d : Dl} (hD : DOk d) (hk : fn d < 4) (hC : MTp w t s) (hd : RdAt w d) : RM (F_X12_isFieldHere [.inr (11, 0), .inl (.int (nI x))] w) w t (clD t 3 (le t s) d) := by
  have g0 : gI w 46 0 5 = nI (fn d) := by rw [hd.1 5 (by omega)]; exact hD.2.2.1.1
  obtain ⟨w0, p1, p2, p3⟩ := m_passWord hT hC
  have hd0 := hd.l8 p3
  have g1 : gI w0 46 0 5 = nI (fn d) := by rw [hd0.1 5 (by omega)]; exact hD.2.2.1.1
  have e0 : clD t 3 (le t s) d = sB (nuS t (le t s) 0 61) (fun q => .inr (q.1, (upd d.1 5 (nI (fn d + 1)), d.2.1, d.2.2.1, d.2.2.2.1, d.2.2.2.2.1, d.2.2.2.2.2.1, upd d.2.2.2.2.2.2 (fn d) (nI q.2)))) := rfl
  rw [e0]
  obtain ⟨w1, F1, h1⟩ := m_cell hT (c := 57 + fn d) (by omega) p2 0 61 (by omega) (by omega)
  have hd1 := hd0.l F1
  have FA := (f8 p3).trans (fL F1)
  cases hq : nuS t (le t s) 0 61 with
  | inl f =>
    rw [hq] at h1
    obtain ⟨h1, h2⟩ := h1
    have h1 : F_X12_cellHere [.inr (11, 0), .inl (.int (nI (57 + fn d))), .inl (.int 0), .inl (.int 60)] w0 = some (0, w1) := h1
    refine ⟨w1, FA, ?_, h2⟩
    rw [f_X12_isFieldHere, e_X12_isFieldHere_0]
    simp (disch := omega) only [g0, e_X12_isFieldHere_17, p1, g1, h1, e_X12_isFieldHere_40, true_and, and_true, false_and, and_false, beq_t, beq_f, eqN_t, eqN_f, eqL_t, eqL_f, nm1, nm2, nm1', nm2', m1z, m2z, zm1, zm2, m12, m21, lg_cmp_ge, lg_cmp_le, lg_cmp_gt, lg_cmp_lt, lg_cmp_eq, oob, oobL, neg0, negL0, natle_f, or_false, false_or, true_or, or_true, or_self, cl, clL, le_t, le_f, lt_t, lt_f, leL_t, leL_f, ltL_t, ltL_f, leM_t, leM_f, ltM_t, ltM_f, leO_t, leO_f, cond_true, cond_false, Option.bind_some, Option.bind_none, if_false, if_true, nI_1, aL1, aL2, mL1, mL2, nI_add, pk_mul, pk_m1, sL1, dL1, pk_sub, m1p1, gIs_eq, gIs_k, gIs_i, gIs_n, gIs_e, gIJ, gIR, gJI, gJR, gJs_eq, gJs_k, gJs_n, gJs_e, gRI, gRJ, gRs_eq, gRs_k, gRs_i, gRs_n, gZI, gZJ, gZR, pI_s, pJ_s, pV_s, pR_s, pR_n, oR_n, oR_s, decide_true, decide_false, not_true_eq_false, not_false_eq_true, decT, decF, Bool.true_eq_false, Bool.false_eq_true, z01, o01, z1f, z1f', zz, oo, b2i_0, b2i_n, b2i_t, b2i_f, Bool.not_true, Bool.not_false]
  | inr q =>
    obtain ⟨p1', v⟩ := q
    rw [hq] at h1
    obtain ⟨h1, h2⟩ := h1
    have h1 : F_X12_cellHere [.inr (11, 0), .inl (.int (nI (57 + fn d))), .inl (.int 0), .inl (.int 60)] w0 = some (1, sI w1 46 0 (57 + fn d) (nI v)) := h1
    have hd2 := hd1.crow (k := fn d) (v := nI v) hk
    have g2 : gI (sI w1 46 0 (57 + fn d) (nI v)) 46 0 5 = nI (fn d) := by rw [hd2.1 5 (by omega)]; exact hD.2.2.1.1
    have F2 : Fr P46 w1 (sI (sI w1 46 0 (57 + fn d) (nI v)) 46 0 5 (nI (fn d + 1))) := ((Fr.refl _ _).sI rfl).sI rfl
    refine ⟨_, FA.trans (f46 F2), ?_, h2.r F2, hd2.h (k := 5) (v := nI (fn d + 1)) (by omega)⟩
    rw [f_X12_isFieldHere, e_X12_isFieldHere_0]
    simp (disch := omega) only [g0, e_X12_isFieldHere_17, p1, g1, h1, e_X12_isFieldHere_42, g2, true_and, and_true, false_and, and_false, beq_t, beq_f, eqN_t, eqN_f, eqL_t, eqL_f, nm1, nm2, nm1', nm2', m1z, m2z, zm1, zm2, m12, m21, lg_cmp_ge, lg_cmp_le, lg_cmp_gt, lg_cmp_lt, lg_cmp_eq, oob, oobL, neg0, negL0, natle_f, or_false, false_or, true_or, or_true, or_self, cl, clL, le_t, le_f, lt_t, lt_f, leL_t, leL_f, ltL_t, ltL_f, leM_t, leM_f, ltM_t, ltM_f, leO_t, leO_f, cond_true, cond_false, Option.bind_some, Option.bind_none, if_false, if_true, nI_1, aL1, aL2, mL1, mL2, nI_add, pk_mul, pk_m1, sL1, dL1, pk_sub, m1p1, gIs_eq, gIs_k, gIs_i, gIs_n, gIs_e, gIJ, gIR, gJI, gJR, gJs_eq, gJs_k, gJs_n, gJs_e, gRI, gRJ, gRs_eq, gRs_k, gRs_i, gRs_n, gZI, gZJ, gZR, pI_s, pJ_s, pV_s, pR_s, pR_n, oR_n, oR_s, decide_true, decide_false, not_true_eq_false, not_false_eq_true, decT, decF, Bool.true_eq_false, Bool.false_eq_true, z01, o01, z1f, z1f', zz, oo, b2i_0, b2i_n, b2i_t, b2i_f, Bool.not_true, Bool.not_false]
theorem m_besideHere {w : XW} {t : Tp} (hT : TOk2 t) {s : Nat} {d : Dl} (hD : DOk d) (hC : MTp w t s) (hd : RdAt w d) : RM (F_X12_isBesideHere [.inr (11, 0)] w) w t (clD t 4 (le t s) d) := by
  have hk6 := hD.1.2
  obtain ⟨w0, p1, p2, p3⟩ := m_passWord hT hC
  have hd0 := hd.l8 p3
  have g1 : gI w0 46 0 3 - 1 = dn (kn d) := by rw [hd0.1 3 (by omega), hD.1.1, dn_sub]
  have e0 : clD t 4 (le t s) d = sB (nuS t (le t s) 0 (kn d)) (fun q => sB (nuS t q.1 0 (kn d)) (fun r => if q.2 = r.2 then .inl (1 + 8 * sk t q.1 + 1) else .inr (r.1, (d.1, d.2.1, d.2.2.1, orB (orB d.2.2.2.1 q.2 r.2) r.2 q.2, d.2.2.2.2)))) := rfl
  rw [e0]
  obtain ⟨w1, F1, h1⟩ := m_number hT p2 0 (kn d) (by omega) (by omega)
  have hd1 := hd0.l F1
  have FA := (f8 p3).trans (fL F1)
  cases hq : nuS t (le t s) 0 (kn d) with
  | inl f =>
    rw [hq] at h1
    obtain ⟨h1, h2⟩ := h1
    have h1 : F_X12_numberHere [.inr (11, 0), .inl (.int 0), .inl (.int (dn (kn d)))] w0 = some (0, w1) := h1
    refine ⟨w1, FA, ?_, h2⟩
    rw [f_X12_isBesideHere, e_X12_isBesideHere_0]
    simp (disch := omega) only [p1, g1, h1, e_X12_isBesideHere_20, true_and, and_true, false_and, and_false, beq_t, beq_f, eqN_t, eqN_f, eqL_t, eqL_f, nm1, nm2, nm1', nm2', m1z, m2z, zm1, zm2, m12, m21, lg_cmp_ge, lg_cmp_le, lg_cmp_gt, lg_cmp_lt, lg_cmp_eq, oob, oobL, neg0, negL0, natle_f, or_false, false_or, true_or, or_true, or_self, cl, clL, le_t, le_f, lt_t, lt_f, leL_t, leL_f, ltL_t, ltL_f, leM_t, leM_f, ltM_t, ltM_f, leO_t, leO_f, cond_true, cond_false, Option.bind_some, Option.bind_none, if_false, if_true, nI_1, aL1, aL2, mL1, mL2, nI_add, pk_mul, pk_m1, sL1, dL1, pk_sub, m1p1, gIs_eq, gIs_k, gIs_i, gIs_n, gIs_e, gIJ, gIR, gJI, gJR, gJs_eq, gJs_k, gJs_n, gJs_e, gRI, gRJ, gRs_eq, gRs_k, gRs_i, gRs_n, gZI, gZJ, gZR, pI_s, pJ_s, pV_s, pR_s, pR_n, oR_n, oR_s, decide_true, decide_false, not_true_eq_false, not_false_eq_true, decT, decF, Bool.true_eq_false, Bool.false_eq_true, z01, o01, z1f, z1f', zz, oo, b2i_0, b2i_n, b2i_t, b2i_f, Bool.not_true, Bool.not_false]
  | inr q =>
    obtain ⟨p1', v⟩ := q
    have hv := (nu_ok hq).2.1
    rw [hq] at h1
    obtain ⟨h1, h2, h3⟩ := h1
    have h1 : F_X12_numberHere [.inr (11, 0), .inl (.int 0), .inl (.int (dn (kn d)))] w0 = some (1, w1) := h1
    obtain ⟨w2, s1, s2, s3⟩ := m_see hT h2
    have hd2 := hd1.l8 s3
    have g2 : gI w2 46 0 3 - 1 = dn (kn d) := by rw [hd2.1 3 (by omega), hD.1.1, dn_sub]
    have g8 := s2.2.1
    obtain ⟨w3, F3, k1⟩ := m_number hT s2 0 (kn d) (by omega) (by omega)
    have hd3 := hd2.l F3
    have FB := (FA.trans (f8 s3)).trans (fL F3)
    have ens : nuS t (sk t p1') 0 (kn d) = nuS t p1' 0 (kn d) := by unfold nuS; rw [sk_sk h2.2.2.2]
    rw [ens] at k1
    show RM _ w t (sB (nuS t p1' 0 (kn d)) _)
    cases hr : nuS t p1' 0 (kn d) with
    | inl f =>
      rw [hr] at k1
      obtain ⟨k1, k2⟩ := k1
      have k1 : F_X12_numberHere [.inr (11, 0), .inl (.int 0), .inl (.int (dn (kn d)))] w2 = some (0, w3) := k1
      refine ⟨w3, FB, ?_, k2⟩
      rw [f_X12_isBesideHere, e_X12_isBesideHere_0]
      simp (disch := omega) only [p1, g1, h1, e_X12_isBesideHere_22, s1, g2, k1, e_X12_isBesideHere_53, true_and, and_true, false_and, and_false, beq_t, beq_f, eqN_t, eqN_f, eqL_t, eqL_f, nm1, nm2, nm1', nm2', m1z, m2z, zm1, zm2, m12, m21, lg_cmp_ge, lg_cmp_le, lg_cmp_gt, lg_cmp_lt, lg_cmp_eq, oob, oobL, neg0, negL0, natle_f, or_false, false_or, true_or, or_true, or_self, cl, clL, le_t, le_f, lt_t, lt_f, leL_t, leL_f, ltL_t, ltL_f, leM_t, leM_f, ltM_t, ltM_f, leO_t, leO_f, cond_true, cond_false, Option.bind_some, Option.bind_none, if_false, if_true, nI_1, aL1, aL2, mL1, mL2, nI_add, pk_mul, pk_m1, sL1, dL1, pk_sub, m1p1, gIs_eq, gIs_k, gIs_i, gIs_n, gIs_e, gIJ, gIR, gJI, gJR, gJs_eq, gJs_k, gJs_n, gJs_e, gRI, gRJ, gRs_eq, gRs_k, gRs_i, gRs_n, gZI, gZJ, gZR, pI_s, pJ_s, pV_s, pR_s, pR_n, oR_n, oR_s, decide_true, decide_false, not_true_eq_false, not_false_eq_true, decT, decF, Bool.true_eq_false, Bool.false_eq_true, z01, o01, z1f, z1f', zz, oo, b2i_0, b2i_n, b2i_t, b2i_f, Bool.not_true, Bool.not_false]
    | inr r =>
      obtain ⟨p2', u⟩ := r
      have hu := (nu_ok hr).2.1
      rw [hr] at k1
      obtain ⟨k1, k2, k3⟩ := k1
      have k1 : F_X12_numberHere [.inr (11, 0), .inl (.int 0), .inl (.int (dn (kn d)))] w2 = some (1, w3) := k1
      show RM _ w t (if v = u then _ else _)
      have start : F_X12_isBesideHere [.inr (11, 0)] w = (q_X12_isBesideHere_55 (nI v) (nI (sk t p1')) w3).bind pI := by
        rw [f_X12_isBesideHere, e_X12_isBesideHere_0]
        simp (disch := omega) only [p1, g1, h1, e_X12_isBesideHere_22, s1, g2, k1, h3, g8, true_and, and_true, false_and, and_false, beq_t, beq_f, eqN_t, eqN_f, eqL_t, eqL_f, nm1, nm2, nm1', nm2', m1z, m2z, zm1, zm2, m12, m21, lg_cmp_ge, lg_cmp_le, lg_cmp_gt, lg_cmp_lt, lg_cmp_eq, oob, oobL, neg0, negL0, natle_f, or_false, false_or, true_or, or_true, or_self, cl, clL, le_t, le_f, lt_t, lt_f, leL_t, leL_f, ltL_t, ltL_f, leM_t, leM_f, ltM_t, ltM_f, leO_t, leO_f, cond_true, cond_false, Option.bind_some, Option.bind_none, if_false, if_true, nI_1, aL1, aL2, mL1, mL2, nI_add, pk_mul, pk_m1, sL1, dL1, pk_sub, m1p1, gIs_eq, gIs_k, gIs_i, gIs_n, gIs_e, gIJ, gIR, gJI, gJR, gJs_eq, gJs_k, gJs_n, gJs_e, gRI, gRJ, gRs_eq, gRs_k, gRs_i, gRs_n, gZI, gZJ, gZR, pI_s, pJ_s, pV_s, pR_s, pR_n, oR_n, oR_s, decide_true, decide_false, not_true_eq_false, not_false_eq_true, decT, decF, Bool.true_eq_false, Bool.false_eq_true, z01, o01, z1f, z1f', zz, oo, b2i_0, b2i_n, b2i_t, b2i_f, Bool.not_true, Bool.not_false]
      by_cases c : v = u
      · rw [if_pos c]
        have kf := m_fails1 (w := w3) (sk t p1') k2.2.2.1
        refine ⟨sI w3 11 0 9 (nI (1 + 8 * sk t p1' + 1)), FB.sI (by unfold PMr; omega), ?_, gIs_eq⟩
        rw [start, e_X12_isBesideHere_55]
        simp (disch := omega) only [k3, c, e_X12_isBesideHere_63, kf, true_and, and_true, false_and, and_false, beq_t, beq_f, eqN_t, eqN_f, eqL_t, eqL_f, nm1, nm2, nm1', nm2', m1z, m2z, zm1, zm2, m12, m21, lg_cmp_ge, lg_cmp_le, lg_cmp_gt, lg_cmp_lt, lg_cmp_eq, oob, oobL, neg0, negL0, natle_f, or_false, false_or, true_or, or_true, or_self, cl, clL, le_t, le_f, lt_t, lt_f, leL_t, leL_f, ltL_t, ltL_f, leM_t, leM_f, ltM_t, ltM_f, leO_t, leO_f, cond_true, cond_false, Option.bind_some, Option.bind_none, if_false, if_true, nI_1, aL1, aL2, mL1, mL2, nI_add, pk_mul, pk_m1, sL1, dL1, pk_sub, m1p1, gIs_eq, gIs_k, gIs_i, gIs_n, gIs_e, gIJ, gIR, gJI, gJR, gJs_eq, gJs_k, gJs_n, gJs_e, gRI, gRJ, gRs_eq, gRs_k, gRs_i, gRs_n, gZI, gZJ, gZR, pI_s, pJ_s, pV_s, pR_s, pR_n, oR_n, oR_s, decide_true, decide_false, not_true_eq_false, not_false_eq_true, decT, decF, Bool.true_eq_false, Bool.false_eq_true, z01, o01, z1f, z1f', zz, oo, b2i_0, b2i_n, b2i_t, b2i_f, Bool.not_true, Bool.not_false]
      · rw [if_neg c]
        have b1 := (hd3.2.1 v (by omega)).2.2
        have hb := hd3.bes (k := v) (v := d.2.2.2.1 v ||| ((1 : Int32) <<< (nI u &&& 31)))
        have b2 := (hb.2.1 u (by omega)).2.2
        dsimp only at b2
        rw [gIs_k (by omega)] at b2
        have hb2 := hb.bes (k := u) (v := orB d.2.2.2.1 v u u ||| ((1 : Int32) <<< (nI v &&& 31)))
        have F4 : Fr P46 w3 (sI (sI w3 46 0 (61 + v) (d.2.2.2.1 v ||| ((1 : Int32) <<< (nI u &&& 31)))) 46 0 (61 + u) (orB d.2.2.2.1 v u u ||| ((1 : Int32) <<< (nI v &&& 31)))) := ((Fr.refl _ _).sI rfl).sI rfl
        refine ⟨_, FB.trans (f46 F4), ?_, k2.r F4, hb2⟩
        rw [start, e_X12_isBesideHere_55]
        simp (disch := omega) only [k3, c, e_X12_isBesideHere_70, true_and, and_true, false_and, and_false, beq_t, beq_f, eqN_t, eqN_f, eqL_t, eqL_f, nm1, nm2, nm1', nm2', m1z, m2z, zm1, zm2, m12, m21, lg_cmp_ge, lg_cmp_le, lg_cmp_gt, lg_cmp_lt, lg_cmp_eq, oob, oobL, neg0, negL0, natle_f, or_false, false_or, true_or, or_true, or_self, cl, clL, le_t, le_f, lt_t, lt_f, leL_t, leL_f, ltL_t, ltL_f, leM_t, leM_f, ltM_t, ltM_f, leO_t, leO_f, cond_true, cond_false, Option.bind_some, Option.bind_none, if_false, if_true, nI_1, aL1, aL2, mL1, mL2, nI_add, pk_mul, pk_m1, sL1, dL1, pk_sub, m1p1, gIs_eq, gIs_k, gIs_i, gIs_n, gIs_e, gIJ, gIR, gJI, gJR, gJs_eq, gJs_k, gJs_n, gJs_e, gRI, gRJ, gRs_eq, gRs_k, gRs_i, gRs_n, gZI, gZJ, gZR, pI_s, pJ_s, pV_s, pR_s, pR_n, oR_n, oR_s, decide_true, decide_false, not_true_eq_false, not_false_eq_true, decT, decF, Bool.true_eq_false, Bool.false_eq_true, z01, o01, z1f, z1f', zz, oo, b2i_0, b2i_n, b2i_t, b2i_f, Bool.not_true, Bool.not_false]
        rw [b1, b2]
        rfl
