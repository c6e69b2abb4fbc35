/-! ===== the model's stack of signs ===== -/
def OpAt (g : Nat → Int32) : List Nat → Prop
  | [] => True
  | x :: K => g K.length = nI x ∧ OpAt g K
theorem OpAt.cg {g g' : Nat → Int32} : ∀ K : List Nat, OpAt g K → (∀ i, i < K.length → g' i = g i) → OpAt g' K := by
  intro K
  induction K with
  | nil => intro _ _; trivial
  | cons x K ih =>
    intro h h0
    rw [List.length_cons] at h0
    exact ⟨by rw [h0 _ (by omega)]; exact h.1, ih h.2 (fun i hi => h0 i (by omega))⟩
def MKt (T : Nat) (w : XW) (t : Tp) (s : St) (K : List Nat) : Prop := MRt T w t s ∧ gI w 11 0 16 = nI K.length ∧ gI w 11 0 13 = nI (dp K) ∧ OpAt (gI w 47 0) K
def PMq (T κ _j k : Nat) : Prop := (κ = 11 ∧ ((8 ≤ k ∧ k ≤ 10) ∨ k = 12 ∨ k = 13 ∨ k = 16)) ∨ κ = 47 ∨ (κ = 42 ∧ 400 * T ≤ k ∧ k < 400 * T + 400) ∨ (κ = 43 ∧ k = T)
theorem fvq {T : Nat} {w w' : XW} (h : Fr (PMv T) w w') : Fr (PMq T) w w' := h.mono (fun κ i k q => by unfold PMv at q; unfold  PMq; omega)
theorem f8q {T : Nat} {w w' : XW} (h : Fr PM8 w w') : Fr (PMq T) w w' := h.mono (fun κ i k q => by unfold PM8 at q; unfold  PMq; omega)
theorem MKt.v {T : Nat} {w w' : XW} {t : Tp} {s s' : St} {K : List Nat} (h : MKt T w t s K) (hF : Fr (PMv T) w w') (hC : MRt T w' t s') : MKt T w' t s' K :=
  ⟨hC, by rw [(hF 11 0 16 (by unfold PMv; omega)).1]; exact h.2.1, by rw [(hF 11 0 13 (by unfold PMv; omega)).1]; exact h.2.2.1, h.2.2.2.cg _ (fun i _ => (hF 47 0 i (by unfold PMv; omega)).1)⟩
theorem m_strength {x : Nat} (hx : x = 11 ∨ x = 12 ∨ x = 13 ∨ x = 91) (w : XW) : F_X12_strength [.inl (.int (nI x))] w = some (nI (stN x), w) := by
  rw [f_X12_strength, e_X12_strength_0]
  rcases hx with rfl | rfl | rfl | rfl
  · simp (disch := omega) only [e_X12_strength_10, e_X12_strength_20, e_X12_strength_26, e_X12_strength_31, true_and, and_true, false_and, and_false, beq_t, beq_f, eqN_t, eqN_f, eqL_t, eqL_f, nm1, nm2, nm1', nm2', m1z, m2z, zm1, zm2, m12, m21, lg_cmp_ge, lg_cmp_le, lg_cmp_gt, lg_cmp_lt, lg_cmp_eq, oob, oobL, neg0, negL0, natle_f, or_false, false_or, true_or, or_true, or_self, cl, clL, le_t, le_f, lt_t, lt_f, leL_t, leL_f, ltL_t, ltL_f, leM_t, leM_f, ltM_t, ltM_f, leO_t, leO_f, cond_true, cond_false, Option.bind_some, Option.bind_none, if_false, if_true, nI_1, aL1, aL2, mL1, mL2, nI_add, pk_mul, pk_m1, sL1, dL1, pk_sub, m1p1, gIs_eq, gIs_k, gIs_i, gIs_n, gIs_e, gIJ, gIR, gJI, gJR, gJs_eq, gJs_k, gJs_n, gJs_e, gRI, gRJ, gRs_eq, gRs_k, gRs_i, gRs_n, gZI, gZJ, gZR, pI_s, pJ_s, pV_s, pR_s, pR_n, oR_n, oR_s, decide_true, decide_false, not_true_eq_false, not_false_eq_true, decT, decF, Bool.true_eq_false, Bool.false_eq_true, z01, o01, z1f, z1f', zz, oo, b2i_0, b2i_n, b2i_t, b2i_f, Bool.not_true, Bool.not_false]
    rfl
  · simp (disch := omega) only [e_X12_strength_10, e_X12_strength_16, e_X12_strength_31, true_and, and_true, false_and, and_false, beq_t, beq_f, eqN_t, eqN_f, eqL_t, eqL_f, nm1, nm2, nm1', nm2', m1z, m2z, zm1, zm2, m12, m21, lg_cmp_ge, lg_cmp_le, lg_cmp_gt, lg_cmp_lt, lg_cmp_eq, oob, oobL, neg0, negL0, natle_f, or_false, false_or, true_or, or_true, or_self, cl, clL, le_t, le_f, lt_t, lt_f, leL_t, leL_f, ltL_t, ltL_f, leM_t, leM_f, ltM_t, ltM_f, leO_t, leO_f, cond_true, cond_false, Option.bind_some, Option.bind_none, if_false, if_true, nI_1, aL1, aL2, mL1, mL2, nI_add, pk_mul, pk_m1, sL1, dL1, pk_sub, m1p1, gIs_eq, gIs_k, gIs_i, gIs_n, gIs_e, gIJ, gIR, gJI, gJR, gJs_eq, gJs_k, gJs_n, gJs_e, gRI, gRJ, gRs_eq, gRs_k, gRs_i, gRs_n, gZI, gZJ, gZR, pI_s, pJ_s, pV_s, pR_s, pR_n, oR_n, oR_s, decide_true, decide_false, not_true_eq_false, not_false_eq_true, decT, decF, Bool.true_eq_false, Bool.false_eq_true, z01, o01, z1f, z1f', zz, oo, b2i_0, b2i_n, b2i_t, b2i_f, Bool.not_true, Bool.not_false]
    rfl
  · simp (disch := omega) only [e_X12_strength_6, e_X12_strength_31, true_and, and_true, false_and, and_false, beq_t, beq_f, eqN_t, eqN_f, eqL_t, eqL_f, nm1, nm2, nm1', nm2', m1z, m2z, zm1, zm2, m12, m21, lg_cmp_ge, lg_cmp_le, lg_cmp_gt, lg_cmp_lt, lg_cmp_eq, oob, oobL, neg0, negL0, natle_f, or_false, false_or, true_or, or_true, or_self, cl, clL, le_t, le_f, lt_t, lt_f, leL_t, leL_f, ltL_t, ltL_f, leM_t, leM_f, ltM_t, ltM_f, leO_t, leO_f, cond_true, cond_false, Option.bind_some, Option.bind_none, if_false, if_true, nI_1, aL1, aL2, mL1, mL2, nI_add, pk_mul, pk_m1, sL1, dL1, pk_sub, m1p1, gIs_eq, gIs_k, gIs_i, gIs_n, gIs_e, gIJ, gIR, gJI, gJR, gJs_eq, gJs_k, gJs_n, gJs_e, gRI, gRJ, gRs_eq, gRs_k, gRs_i, gRs_n, gZI, gZJ, gZR, pI_s, pJ_s, pV_s, pR_s, pR_n, oR_n, oR_s, decide_true, decide_false, not_true_eq_false, not_false_eq_true, decT, decF, Bool.true_eq_false, Bool.false_eq_true, z01, o01, z1f, z1f', zz, oo, b2i_0, b2i_n, b2i_t, b2i_f, Bool.not_true, Bool.not_false]
    rfl
  · simp (disch := omega) only [e_X12_strength_10, e_X12_strength_20, e_X12_strength_30, e_X12_strength_31, true_and, and_true, false_and, and_false, beq_t, beq_f, eqN_t, eqN_f, eqL_t, eqL_f, nm1, nm2, nm1', nm2', m1z, m2z, zm1, zm2, m12, m21, lg_cmp_ge, lg_cmp_le, lg_cmp_gt, lg_cmp_lt, lg_cmp_eq, oob, oobL, neg0, negL0, natle_f, or_false, false_or, true_or, or_true, or_self, cl, clL, le_t, le_f, lt_t, lt_f, leL_t, leL_f, ltL_t, ltL_f, leM_t, leM_f, ltM_t, ltM_f, leO_t, leO_f, cond_true, cond_false, Option.bind_some, Option.bind_none, if_false, if_true, nI_1, aL1, aL2, mL1, mL2, nI_add, pk_mul, pk_m1, sL1, dL1, pk_sub, m1p1, gIs_eq, gIs_k, gIs_i, gIs_n, gIs_e, gIJ, gIR, gJI, gJR, gJs_eq, gJs_k, gJs_n, gJs_e, gRI, gRJ, gRs_eq, gRs_k, gRs_i, gRs_n, gZI, gZJ, gZR, pI_s, pJ_s, pV_s, pR_s, pR_n, oR_n, oR_s, decide_true, decide_false, not_true_eq_false, not_false_eq_true, decT, decF, Bool.true_eq_false, Bool.false_eq_true, z01, o01, z1f, z1f', zz, oo, b2i_0, b2i_n, b2i_t, b2i_f, Bool.not_true, Bool.not_false]
    rfl
theorem stN_le (x : Nat) : stN x ≤ 3 := by
  unfold stN
  split
  · omega
  · split
    · omega
    · split <;> omega
theorem m_layQ {T : Nat} (hT6 : T < 6) {t : Tp} {l : Nat} (hl1 : 1 ≤ l) (hl3 : l ≤ 3) : ∀ (K : List Nat) (s : St) (w : XW), MKt T w t s K → WK K → s.2.2.length + K.length ≤ 400 → ∃ w', q_X12_layDown_0 (nI l) w = some (none, w') ∧ MKt T w' t (ly l K s).1 (ly l K s).2 ∧ Fr (PMq T) w w' := by
  intro K
  induction K with
  | nil =>
    intro s w h _ _
    refine ⟨w, ?_, h, Fr.refl _ _⟩
    have g : gI w 11 0 16 = 0 := h.2.1
    have z : ((0 : Int32) ≤ 0) = True := by decide
    ((try dsimp only); rw [e_X12_layDown_0]; simp (disch := omega) only [g, z, e_X12_layDown_76, true_and, and_true, false_and, and_false, beq_t, beq_f, eqN_t, eqN_f, eqL_t, eqL_f, nm1, nm2, nm1', nm2', m1z, m2z, zm1, zm2, m12, m21, lg_cmp_ge, lg_cmp_le, lg_cmp_gt, lg_cmp_lt, lg_cmp_eq, oob, oobL, neg0, negL0, natle_f, or_false, false_or, true_or, or_true, or_self, cl, clL, le_t, le_f, lt_t, lt_f, leL_t, leL_f, ltL_t, ltL_f, leM_t, leM_f, ltM_t, ltM_f, leO_t, leO_f, cond_true, cond_false, Option.bind_some, Option.bind_none, if_false, if_true, nI_1, aL1, aL2, mL1, mL2, nI_add, pk_mul, pk_m1, sL1, dL1, pk_sub, m1p1, gIs_eq, gIs_k, gIs_i, gIs_n, gIs_e, gIJ, gIR, gJI, gJR, gJs_eq, gJs_k, gJs_n, gJs_e, gRI, gRJ, gRs_eq, gRs_k, gRs_i, gRs_n, gZI, gZJ, gZR, pI_s, pJ_s, pV_s, pR_s, pR_n, oR_n, oR_s, decide_true, decide_false, not_true_eq_false, not_false_eq_true, decT, decF, Bool.true_eq_false, Bool.false_eq_true, z01, o01, z1f, z1f', zz, oo, b2i_0, b2i_n, b2i_t, b2i_f, Bool.not_true, Bool.not_false])
  | cons x K ih =>
    intro s w h hW hlen
    obtain ⟨h1, h2, h3, h5, h6⟩ := h
    rw [List.length_cons] at h2 hlen
    have hv := hW.v
    have hs := m_strength hv w
    have s3 := stN_le x
    have kd : q_X12_layDown_0 (nI l) w = (bif decide (nI (stN x) < nI l) then (q_X12_layDown_76 w) else (q_X12_layDown_25 (nI l) w)) := by
      ((try dsimp only); rw [e_X12_layDown_0]; simp (disch := omega) only [h2, e_X12_layDown_7, Nat.add_sub_cancel, h5, hs, true_and, and_true, false_and, and_false, beq_t, beq_f, eqN_t, eqN_f, eqL_t, eqL_f, nm1, nm2, nm1', nm2', m1z, m2z, zm1, zm2, m12, m21, lg_cmp_ge, lg_cmp_le, lg_cmp_gt, lg_cmp_lt, lg_cmp_eq, oob, oobL, neg0, negL0, natle_f, or_false, false_or, true_or, or_true, or_self, cl, clL, le_t, le_f, lt_t, lt_f, leL_t, leL_f, ltL_t, ltL_f, leM_t, leM_f, ltM_t, ltM_f, leO_t, leO_f, cond_true, cond_false, Option.bind_some, Option.bind_none, if_false, if_true, nI_1, aL1, aL2, mL1, mL2, nI_add, pk_mul, pk_m1, sL1, dL1, pk_sub, m1p1, gIs_eq, gIs_k, gIs_i, gIs_n, gIs_e, gIJ, gIR, gJI, gJR, gJs_eq, gJs_k, gJs_n, gJs_e, gRI, gRJ, gRs_eq, gRs_k, gRs_i, gRs_n, gZI, gZJ, gZR, pI_s, pJ_s, pV_s, pR_s, pR_n, oR_n, oR_s, decide_true, decide_false, not_true_eq_false, not_false_eq_true, decT, decF, Bool.true_eq_false, Bool.false_eq_true, z01, o01, z1f, z1f', zz, oo, b2i_0, b2i_n, b2i_t, b2i_f, Bool.not_true, Bool.not_false])
    show ∃ w', _ ∧ MKt T w' t (ly l (x :: K) s).1 (ly l (x :: K) s).2 ∧ _
    unfold ly
    by_cases c : l ≤ stN x
    · rw [if_pos c]
      have hx : x = 11 ∨ x = 12 ∨ x = 13 := by
        rcases hv with z | z | z | z
        · omega
        · omega
        · omega
        · rw [z] at c; exact absurd c (by have : stN 91 = 0 := rfl; omega)
      have F1 : Fr (PMq T) w (sI w 11 0 16 (nI K.length)) := (Fr.refl _ _).sI (by unfold PMq; omega)
      have C1 : MRt T (sI w 11 0 16 (nI K.length)) t s := h1.fr (P := fun κ _ k => κ = 11 ∧ k = 16) ((Fr.refl _ _).sI ⟨rfl, rfl⟩) (fun κ k q => by omega)
      have hc : nI x + 16 * 0 = encS (cOf x) := by rcases hx with rfl | rfl | rfl <;> decide
      obtain ⟨w2, a1, a2, a3⟩ := m_puts hT6 C1 (by omega) hc
      have g16 : gI w2 11 0 16 = nI K.length := by rw [(a3 11 0 16 (by unfold PMp; omega)).1]; exact gIs_eq
      have g47 : ∀ i, gI w2 47 0 i = gI w 47 0 i := fun i => by rw [(a3 47 0 i (by unfold PMp; omega)).1, gIs_n (by omega)]
      have g13 : gI w2 11 0 13 = nI (dp (x :: K)) := by rw [(a3 11 0 13 (by unfold PMp; omega)).1, gIs_k (by omega)]; exact h3
      have h47 : gI w2 47 0 K.length = nI x := by rw [g47]; exact h5
      have F2 : Fr (PMq T) w w2 := F1.trans (a3.mono (fun κ i k q => by unfold PMp at q; unfold  PMq; omega))
      have lt : decide (nI (stN x) < nI l) = false := lt_f (by omega) (by omega)
      by_cases c11 : x = 11
      · have e13 : dp (x :: K) = dp K + 1 := by rw [c11]; exact dp11 K
        rw [e13] at g13
        have F3 : Fr (fun κ _ k => κ = 11 ∧ k = 13) w2 (sI w2 11 0 13 (nI (dp K))) := (Fr.refl _ _).sI ⟨rfl, rfl⟩
        obtain ⟨w4, b1, b2, b3⟩ := ih (adS s (cOf x)) (sI w2 11 0 13 (nI (dp K))) ⟨a2.fr F3 (fun κ k q => by omega), by rw [gIs_k (by omega)]; exact g16, gIs_eq, h6.cg _ (fun i _ => by rw [gIs_n (by omega)]; exact g47 i)⟩ hW.1 (by rw [adL]; omega)
        refine ⟨w4, ?_, b2, (F2.trans (F3.mono (fun κ i k q => by unfold PMq; omega))).trans b3⟩
        rw [kd, lt, cond_false, e_X12_layDown_25, ← b1]
        simp (disch := omega) only [h2, Nat.add_sub_cancel, h5, a1, g16, h47, e_X12_layDown_63, g13, true_and, and_true, false_and, and_false, beq_t, beq_f, eqN_t, eqN_f, eqL_t, eqL_f, nm1, nm2, nm1', nm2', m1z, m2z, zm1, zm2, m12, m21, lg_cmp_ge, lg_cmp_le, lg_cmp_gt, lg_cmp_lt, lg_cmp_eq, oob, oobL, neg0, negL0, natle_f, or_false, false_or, true_or, or_true, or_self, cl, clL, le_t, le_f, lt_t, lt_f, leL_t, leL_f, ltL_t, ltL_f, leM_t, leM_f, ltM_t, ltM_f, leO_t, leO_f, cond_true, cond_false, Option.bind_some, Option.bind_none, if_false, if_true, nI_1, aL1, aL2, mL1, mL2, nI_add, pk_mul, pk_m1, sL1, dL1, pk_sub, m1p1, gIs_eq, gIs_k, gIs_i, gIs_n, gIs_e, gIJ, gIR, gJI, gJR, gJs_eq, gJs_k, gJs_n, gJs_e, gRI, gRJ, gRs_eq, gRs_k, gRs_i, gRs_n, gZI, gZJ, gZR, pI_s, pJ_s, pV_s, pR_s, pR_n, oR_n, oR_s, decide_true, decide_false, not_true_eq_false, not_false_eq_true, decT, decF, Bool.true_eq_false, Bool.false_eq_true, z01, o01, z1f, z1f', zz, oo, b2i_0, b2i_n, b2i_t, b2i_f, Bool.not_true, Bool.not_false]
      · have e13 : dp (x :: K) = dp K := by
          rcases hx with z | z | z
          · exact absurd z c11
          · rw [z]; exact dp12 K
          · rw [z]; exact dp13 K
        rw [e13] at g13
        obtain ⟨w4, b1, b2, b3⟩ := ih (adS s (cOf x)) w2 ⟨a2, g16, g13, h6.cg _ (fun i _ => g47 i)⟩ hW.1 (by rw [adL]; omega)
        refine ⟨w4, ?_, b2, F2.trans b3⟩
        rw [kd, lt, cond_false, e_X12_layDown_25, ← b1]
        simp (disch := omega) only [h2, Nat.add_sub_cancel, h5, a1, g16, h47, true_and, and_true, false_and, and_false, beq_t, beq_f, eqN_t, eqN_f, eqL_t, eqL_f, nm1, nm2, nm1', nm2', m1z, m2z, zm1, zm2, m12, m21, lg_cmp_ge, lg_cmp_le, lg_cmp_gt, lg_cmp_lt, lg_cmp_eq, oob, oobL, neg0, negL0, natle_f, or_false, false_or, true_or, or_true, or_self, cl, clL, le_t, le_f, lt_t, lt_f, leL_t, leL_f, ltL_t, ltL_f, leM_t, leM_f, ltM_t, ltM_f, leO_t, leO_f, cond_true, cond_false, Option.bind_some, Option.bind_none, if_false, if_true, nI_1, aL1, aL2, mL1, mL2, nI_add, pk_mul, pk_m1, sL1, dL1, pk_sub, m1p1, gIs_eq, gIs_k, gIs_i, gIs_n, gIs_e, gIJ, gIR, gJI, gJR, gJs_eq, gJs_k, gJs_n, gJs_e, gRI, gRJ, gRs_eq, gRs_k, gRs_i, gRs_n, gZI, gZJ, gZR, pI_s, pJ_s, pV_s, pR_s, pR_n, oR_n, oR_s, decide_true, decide_false, not_true_eq_false, not_false_eq_true, decT, decF, Bool.true_eq_false, Bool.false_eq_true, z01, o01, z1f, z1f', zz, oo, b2i_0, b2i_n, b2i_t, b2i_f, Bool.not_true, Bool.not_false]
    · rw [if_neg c]
      have lt : decide (nI (stN x) < nI l) = true := lt_t (by omega) (by omega)
      refine ⟨w, ?_, ⟨h1, h2, h3, h5, h6⟩, Fr.refl _ _⟩
      rw [kd, lt, cond_true, e_X12_layDown_76]
theorem m_layF {T : Nat} (hT6 : T < 6) {t : Tp} {l : Nat} (hl1 : 1 ≤ l) (hl3 : l ≤ 3) {K : List Nat} {s : St} {w : XW} (h : MKt T w t s K) (hW : WK K) (hlen : s.2.2.length + K.length ≤ 400) : ∃ w', F_X12_layDown [.inr (11, 0), .inl (.int (nI l))] w = some w' ∧ MKt T w' t (ly l K s).1 (ly l K s).2 ∧ Fr (PMq T) w w' := by
  obtain ⟨w', a1, a2, a3⟩ := m_layQ hT6 hl1 hl3 K s w h hW hlen
  exact ⟨w', by rw [f_X12_layDown, a1]; rfl, a2, a3⟩
theorem m_opens {T : Nat} {t : Tp} {K : List Nat} {s : St} {w : XW} (h : MKt T w t s K) {x : Nat} (hx : x = 11 ∨ x = 91) (hd : dp K < 10) (hK : K.length < 400) : ∃ w', F_X12_opens [.inr (11, 0), .inl (.int (nI x))] w = some (1, w') ∧ MKt T w' t s (x :: K) ∧ Fr (PMq T) w w' := by
  obtain ⟨h1, h2, h3, h6⟩ := h
  have F1 : Fr (fun κ _ k => κ = 47 ∨ (κ = 11 ∧ (k = 13 ∨ k = 16))) w (sI (sI (sI w 11 0 13 (nI (dp K + 1))) 47 0 K.length (nI x)) 11 0 16 (nI (K.length + 1))) := (((Fr.refl _ _).sI (by omega)).sI (by omega)).sI (by omega)
  refine ⟨_, ?_, ⟨h1.fr F1 (fun κ k q => by omega), ?_, ?_, ?_, ?_⟩, F1.mono (fun κ i k q => by unfold PMq; omega)⟩
  · rw [f_X12_opens, e_X12_opens_0]
    simp (disch := omega) only [h3, e_X12_opens_19, h2, true_and, and_true, false_and, and_false, beq_t, beq_f, eqN_t, eqN_f, eqL_t, eqL_f, nm1, nm2, nm1', nm2', m1z, m2z, zm1, zm2, m12, m21, lg_cmp_ge, lg_cmp_le, lg_cmp_gt, lg_cmp_lt, lg_cmp_eq, oob, oobL, neg0, negL0, natle_f, or_false, false_or, true_or, or_true, or_self, cl, clL, le_t, le_f, lt_t, lt_f, leL_t, leL_f, ltL_t, ltL_f, leM_t, leM_f, ltM_t, ltM_f, leO_t, leO_f, cond_true, cond_false, Option.bind_some, Option.bind_none, if_false, if_true, nI_1, aL1, aL2, mL1, mL2, nI_add, pk_mul, pk_m1, sL1, dL1, pk_sub, m1p1, gIs_eq, gIs_k, gIs_i, gIs_n, gIs_e, gIJ, gIR, gJI, gJR, gJs_eq, gJs_k, gJs_n, gJs_e, gRI, gRJ, gRs_eq, gRs_k, gRs_i, gRs_n, gZI, gZJ, gZR, pI_s, pJ_s, pV_s, pR_s, pR_n, oR_n, oR_s, decide_true, decide_false, not_true_eq_false, not_false_eq_true, decT, decF, Bool.true_eq_false, Bool.false_eq_true, z01, o01, z1f, z1f', zz, oo, b2i_0, b2i_n, b2i_t, b2i_f, Bool.not_true, Bool.not_false]
  · rw [gIs_eq, List.length_cons]
  · rw [gIs_k (by omega), gIs_n (by omega), gIs_eq]
    rcases hx with z | z
    · rw [z, dp11]
    · rw [z, dp91]
  · rw [gIs_n (by omega)]; exact gIs_eq
  · exact h6.cg _ (fun i hi => by rw [gIs_n (by omega), gIs_k (by omega), gIs_n (by omega)])
theorem m_opens0 {T : Nat} {t : Tp} {K : List Nat} {s : St} {w : XW} (h : MKt T w t s K) (x : Int32) (hd : dp K = 10) : F_X12_opens [.inr (11, 0), .inl (.int x)] w = some (0, sI w 11 0 9 (nI (1 + 8 * s.1 + 2))) := by
  obtain ⟨h1, h2, h3, h6⟩ := h
  rw [hd] at h3
  have g8 := h1.1.2.1
  have kf := m_fails2 (w := w) s.1 h1.1.2.2.1
  rw [f_X12_opens, e_X12_opens_0]
  simp (disch := omega) only [h3, e_X12_opens_9, g8, kf, true_and, and_true, false_and, and_false, beq_t, beq_f, eqN_t, eqN_f, eqL_t, eqL_f, nm1, nm2, nm1', nm2', m1z, m2z, zm1, zm2, m12, m21, lg_cmp_ge, lg_cmp_le, lg_cmp_gt, lg_cmp_lt, lg_cmp_eq, oob, oobL, neg0, negL0, natle_f, or_false, false_or, true_or, or_true, or_self, cl, clL, le_t, le_f, lt_t, lt_f, leL_t, leL_f, ltL_t, ltL_f, leM_t, leM_f, ltM_t, ltM_f, leO_t, leO_f, cond_true, cond_false, Option.bind_some, Option.bind_none, if_false, if_true, nI_1, aL1, aL2, mL1, mL2, nI_add, pk_mul, pk_m1, sL1, dL1, pk_sub, m1p1, gIs_eq, gIs_k, gIs_i, gIs_n, gIs_e, gIJ, gIR, gJI, gJR, gJs_eq, gJs_k, gJs_n, gJs_e, gRI, gRJ, gRs_eq, gRs_k, gRs_i, gRs_n, gZI, gZJ, gZR, pI_s, pJ_s, pV_s, pR_s, pR_n, oR_n, oR_s, decide_true, decide_false, not_true_eq_false, not_false_eq_true, decT, decF, Bool.true_eq_false, Bool.false_eq_true, z01, o01, z1f, z1f', zz, oo, b2i_0, b2i_n, b2i_t, b2i_f, Bool.not_true, Bool.not_false]
theorem op_mem91 {g : Nat → Int32} : ∀ K : List Nat, OpAt g K → WK K → (91 ∈ K ↔ ∃ i, i < K.length ∧ g i = 91) := by
  intro K
  induction K with
  | nil => intro _ _; exact ⟨fun z => (by cases z), fun ⟨i, hi, _⟩ => absurd hi (Nat.not_lt_zero _)⟩
  | cons x K ih =>
    intro h hW
    have hv := hW.v
    rw [List.mem_cons, ih h.2 hW.1, List.length_cons]
    refine ⟨fun z => ?_, fun ⟨i, h1, h2⟩ => ?_⟩
    · rcases z with z | ⟨i, h1, h2⟩
      · exact ⟨K.length, by omega, by rw [h.1, ← z]; rfl⟩
      · exact ⟨i, by omega, h2⟩
    · by_cases c : i = K.length
      · rw [c, h.1] at h2
        exact Or.inl ((nI_eq (a := x) (b := 91) (by omega) (by omega)).mp h2).symm
      · exact Or.inr ⟨i, by omega, h2⟩
theorem m_isInside {T : Nat} {t : Tp} {K : List Nat} {s : St} {w : XW} (h : MKt T w t s K) (hW : WK K) (hK : K.length ≤ 400) : F_X12_isInside [.inr (11, 0)] w = some (b2i (decide (91 ∈ K)), w) := by
  classical
  obtain ⟨h1, h2, h3, h6⟩ := h
  have key : ∀ m k, k + m = K.length → q_X12_isInside_2 (nI k) w = some (some (.inl (.int (b2i (decide (∃ i, k ≤ i ∧ i < K.length ∧ gI w 47 0 i = 91))))), w) := by
    intro m
    induction m with
    | zero =>
      intro k hk
      have e : decide (∃ i, k ≤ i ∧ i < K.length ∧ gI w 47 0 i = 91) = false := decF (fun ⟨i, a, b, _⟩ => by omega)
      rw [e]
      ((try dsimp only); rw [e_X12_isInside_2]; simp (disch := omega) only [h2, e_X12_isInside_29, true_and, and_true, false_and, and_false, beq_t, beq_f, eqN_t, eqN_f, eqL_t, eqL_f, nm1, nm2, nm1', nm2', m1z, m2z, zm1, zm2, m12, m21, lg_cmp_ge, lg_cmp_le, lg_cmp_gt, lg_cmp_lt, lg_cmp_eq, oob, oobL, neg0, negL0, natle_f, or_false, false_or, true_or, or_true, or_self, cl, clL, le_t, le_f, lt_t, lt_f, leL_t, leL_f, ltL_t, ltL_f, leM_t, leM_f, ltM_t, ltM_f, leO_t, leO_f, cond_true, cond_false, Option.bind_some, Option.bind_none, if_false, if_true, nI_1, aL1, aL2, mL1, mL2, nI_add, pk_mul, pk_m1, sL1, dL1, pk_sub, m1p1, gIs_eq, gIs_k, gIs_i, gIs_n, gIs_e, gIJ, gIR, gJI, gJR, gJs_eq, gJs_k, gJs_n, gJs_e, gRI, gRJ, gRs_eq, gRs_k, gRs_i, gRs_n, gZI, gZJ, gZR, pI_s, pJ_s, pV_s, pR_s, pR_n, oR_n, oR_s, decide_true, decide_false, not_true_eq_false, not_false_eq_true, decT, decF, Bool.true_eq_false, Bool.false_eq_true, z01, o01, z1f, z1f', zz, oo, b2i_0, b2i_n, b2i_t, b2i_f, Bool.not_true, Bool.not_false])
    | succ m ih =>
      intro k hk
      by_cases c : gI w 47 0 k = 91
      · have e : decide (∃ i, k ≤ i ∧ i < K.length ∧ gI w 47 0 i = 91) = true := decT ⟨k, Nat.le_refl _, by omega, c⟩
        rw [e]
        ((try dsimp only); rw [e_X12_isInside_2]; simp (disch := omega) only [h2, e_X12_isInside_10, c, e_X12_isInside_21, true_and, and_true, false_and, and_false, beq_t, beq_f, eqN_t, eqN_f, eqL_t, eqL_f, nm1, nm2, nm1', nm2', m1z, m2z, zm1, zm2, m12, m21, lg_cmp_ge, lg_cmp_le, lg_cmp_gt, lg_cmp_lt, lg_cmp_eq, oob, oobL, neg0, negL0, natle_f, or_false, false_or, true_or, or_true, or_self, cl, clL, le_t, le_f, lt_t, lt_f, leL_t, leL_f, ltL_t, ltL_f, leM_t, leM_f, ltM_t, ltM_f, leO_t, leO_f, cond_true, cond_false, Option.bind_some, Option.bind_none, if_false, if_true, nI_1, aL1, aL2, mL1, mL2, nI_add, pk_mul, pk_m1, sL1, dL1, pk_sub, m1p1, gIs_eq, gIs_k, gIs_i, gIs_n, gIs_e, gIJ, gIR, gJI, gJR, gJs_eq, gJs_k, gJs_n, gJs_e, gRI, gRJ, gRs_eq, gRs_k, gRs_i, gRs_n, gZI, gZJ, gZR, pI_s, pJ_s, pV_s, pR_s, pR_n, oR_n, oR_s, decide_true, decide_false, not_true_eq_false, not_false_eq_true, decT, decF, Bool.true_eq_false, Bool.false_eq_true, z01, o01, z1f, z1f', zz, oo, b2i_0, b2i_n, b2i_t, b2i_f, Bool.not_true, Bool.not_false])
      · have e : decide (∃ i, k ≤ i ∧ i < K.length ∧ gI w 47 0 i = 91) = decide (∃ i, k + 1 ≤ i ∧ i < K.length ∧ gI w 47 0 i = 91) := by
          apply decide_eq_decide.mpr
          refine ⟨fun ⟨i, a, b, d⟩ => ⟨i, ?_, b, d⟩, fun ⟨i, a, b, d⟩ => ⟨i, by omega, b, d⟩⟩
          rcases Nat.eq_or_lt_of_le a with q | q
          · rw [← q] at d; exact absurd d c
          · exact q
        rw [e, ← ih (k + 1) (by omega)]
        ((try dsimp only); rw [e_X12_isInside_2]; simp (disch := omega) only [h2, e_X12_isInside_10, c, e_X12_isInside_23, true_and, and_true, false_and, and_false, beq_t, beq_f, eqN_t, eqN_f, eqL_t, eqL_f, nm1, nm2, nm1', nm2', m1z, m2z, zm1, zm2, m12, m21, lg_cmp_ge, lg_cmp_le, lg_cmp_gt, lg_cmp_lt, lg_cmp_eq, oob, oobL, neg0, negL0, natle_f, or_false, false_or, true_or, or_true, or_self, cl, clL, le_t, le_f, lt_t, lt_f, leL_t, leL_f, ltL_t, ltL_f, leM_t, leM_f, ltM_t, ltM_f, leO_t, leO_f, cond_true, cond_false, Option.bind_some, Option.bind_none, if_false, if_true, nI_1, aL1, aL2, mL1, mL2, nI_add, pk_mul, pk_m1, sL1, dL1, pk_sub, m1p1, gIs_eq, gIs_k, gIs_i, gIs_n, gIs_e, gIJ, gIR, gJI, gJR, gJs_eq, gJs_k, gJs_n, gJs_e, gRI, gRJ, gRs_eq, gRs_k, gRs_i, gRs_n, gZI, gZJ, gZR, pI_s, pJ_s, pV_s, pR_s, pR_n, oR_n, oR_s, decide_true, decide_false, not_true_eq_false, not_false_eq_true, decT, decF, Bool.true_eq_false, Bool.false_eq_true, z01, o01, z1f, z1f', zz, oo, b2i_0, b2i_n, b2i_t, b2i_f, Bool.not_true, Bool.not_false])
  have k0 := key K.length 0 (by omega)
  rw [nI_0] at k0
  have e : decide (91 ∈ K) = decide (∃ i, 0 ≤ i ∧ i < K.length ∧ gI w 47 0 i = 91) := by
    apply decide_eq_decide.mpr
    rw [op_mem91 K h6 hW]
    exact ⟨fun ⟨i, a, b⟩ => ⟨i, Nat.zero_le _, a, b⟩, fun ⟨i, _, a, b⟩ => ⟨i, a, b⟩⟩
  rw [e, f_X12_isInside, e_X12_isInside_0, k0]
  rfl
theorem ly_mv {l q : Nat} : ∀ (K : List Nat) (s : St), ly l K (q, s.2) = ((q, (ly l K s).1.2), (ly l K s).2) := by
  intro K
  induction K with
  | nil => intro s; rfl
  | cons x K ih =>
    intro s
    unfold ly
    by_cases c : l ≤ stN x
    · rw [if_pos c, if_pos c]; exact ih (adS s (cOf x))
    · rw [if_neg c, if_neg c]
theorem cQ_ly3 {t : Tp} : ∀ (K : List Nat) (s : St), WK K → cQ t false K s = cQ t false (ly 3 K s).2 (ly 3 K s).1 := by
  intro K
  induction K with
  | nil => intro s _; rfl
  | cons x K ih =>
    intro s h
    unfold ly
    by_cases c : 3 ≤ stN x
    · have hx : x = 11 := by
        rcases h.v with z | z | z | z
        · exact z
        · rw [z] at c; exact absurd c (by decide)
        · rw [z] at c; exact absurd c (by decide)
        · rw [z] at c; exact absurd c (by decide)
      rw [if_pos c, hx, cQ_11, ih _ h.1]
      rfl
    · rw [if_neg c]
