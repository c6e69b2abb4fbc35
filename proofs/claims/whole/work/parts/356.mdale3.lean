/-! ===== dale(), both sides ===== -/
def FB (f : Nat) : Prop := 0 < f ∧ f < 65536
theorem sB_inl {α β : Type} {x : Nat ⊕ α} {f : α → Nat ⊕ β} {e : Nat} (h : sB x f = .inl e) : x = .inl e ∨ ∃ a, x = .inr a ∧ f a = .inl e := by
  cases x with
  | inl y =>
    have h : (Sum.inl y : Nat ⊕ β) = .inl e := h
    injection h with h
    exact Or.inl (by rw [h])
  | inr a => exact Or.inr ⟨a, rfl, h⟩
theorem sB_inr {α β : Type} {x : Nat ⊕ α} {f : α → Nat ⊕ β} {b : β} (h : sB x f = .inr b) : ∃ a, x = .inr a ∧ f a = .inr b := by
  cases x with
  | inl y => cases h
  | inr a => exact ⟨a, rfl, h⟩
theorem nu_fb {t : Tp} (hT : TOk2 t) {p lo hi f : Nat} (hp : p ≤ t.1) (h : nuS t p lo hi = .inl f) : FB f := by
  have h4 := hT.1
  have hs := (sk_le hp).2
  unfold nuS at h
  unfold FB
  by_cases h1 : dg t (sk t p) = sk t p
  · rw [if_pos h1] at h; injection h with h; omega
  · rw [if_neg h1] at h
    by_cases h2 : dg t (sk t p) - sk t p ≤ 5 ∧ lo ≤ nvS t (sk t p) ∧ nvS t (sk t p) < hi
    · rw [if_pos h2] at h; cases h
    · rw [if_neg h2] at h; injection h with h; omega
theorem nu_le {t : Tp} {p lo hi : Nat} {q : Nat × Nat} (hp : p ≤ t.1) (h : nuS t p lo hi = .inr q) : q.1 ≤ t.1 := by
  obtain ⟨e, v⟩ := q
  have := (nu_ok h).2.2.1
  have h2 := (dg_le (sk_le hp).2).2
  show e ≤ t.1
  omega
theorem cl_fb {t : Tp} (hT : TOk2 t) {j e f : Nat} {d : Dl} (he : e ≤ t.1) (h : clD t j e d = .inl f) : FB f := by
  have h4 := hT.1
  unfold clD at h
  by_cases j0 : j = 0
  · rw [if_pos j0] at h
    rcases sB_inl h with h | ⟨a, ha, h⟩
    · exact nu_fb hT he h
    · rcases sB_inl h with h | ⟨b, hb, h⟩
      · exact nu_fb hT (nu_le he ha) h
      · cases h
  · rw [if_neg j0] at h
    by_cases j1 : j = 1
    · rw [if_pos j1] at h
      rcases sB_inl h with h | ⟨a, ha, h⟩
      · exact nu_fb hT he h
      · rcases sB_inl h with h | ⟨b, hb, h⟩
        · exact nu_fb hT (nu_le he ha) h
        · cases h
    · rw [if_neg j1] at h
      by_cases j2 : j = 2
      · rw [if_pos j2] at h
        rcases sB_inl h with h | ⟨a, ha, h⟩
        · exact nu_fb hT he h
        · rcases sB_inl h with h | ⟨b, hb, h⟩
          · exact nu_fb hT (nu_le he ha) h
          · cases h
      · rw [if_neg j2] at h
        by_cases j3 : j = 3
        · rw [if_pos j3] at h
          rcases sB_inl h with h | ⟨a, ha, h⟩
          · exact nu_fb hT he h
          · cases h
        · rw [if_neg j3] at h
          rcases sB_inl h with h | ⟨a, ha, h⟩
          · exact nu_fb hT he h
          · rcases sB_inl h with h | ⟨b, hb, h⟩
            · exact nu_fb hT (nu_le he ha) h
            · have hs := (sk_le (nu_le he ha)).2
              by_cases c : a.2 = b.2
              · rw [if_pos c] at h
                injection h with h
                unfold FB
                omega
              · rw [if_neg c] at h; cases h
theorem cau_fb {t : Tp} (hT : TOk2 t) {p n f : Nat} {d : Dl} (hp : p ≤ t.1) (h : cauS t p n d = .inl f) : FB f := by
  have h4 := hT.1
  have hs := (sk_le hp).2
  unfold cauS at h
  cases hf : fdW (lW 0) (wrd t (sk t p)) with
  | none => rw [hf] at h; dsimp only at h; injection h with h; unfold FB; omega
  | some j =>
    rw [hf] at h
    dsimp only at h
    by_cases c : badD n j d
    · rw [if_pos c] at h; injection h with h; unfold FB; omega
    · rw [if_neg c] at h
      exact cl_fb hT (le_le hs).2 h
def PMa (κ _j k : Nat) : Prop := κ = 46 ∨ (κ = 11 ∧ (k = 1 ∨ (8 ≤ k ∧ k ≤ 10) ∨ k = 14))
def RS (F : Option XR) (w : XW) (r : Nat ⊕ Dl) : Prop := ∃ w', Fr PMa w w' ∧ gI w' 11 0 1 = 0 ∧ match r with
  | .inl f => F = some (some (.inl (.int 0)), w') ∧ gI w' 11 0 9 = nI f
  | .inr d => F = some (some (.inl (.int 1)), w') ∧ RdAt w' d
theorem m_end {w : XW} : q_X12_readsAll_88 w = some (some (.inl (.int (b2i (decide (gI w 11 0 9 = 0))))), sI w 11 0 1 0) := by
  rw [e_X12_readsAll_88]
  have e : gI (sI w 11 0 1 0) 11 0 9 = gI w 11 0 9 := gIs_k (by omega)
  by_cases h : gI w 11 0 9 = 0
  · simp (disch := omega) only [e, h, e_X12_readsAll_100, e_X12_readsAll_105, true_and, and_true, false_and, and_false, beq_t, beq_f, eqN_t, eqN_f, eqL_t, eqL_f, nm1, nm2, nm1', nm2', m1z, m2z, zm1, zm2, m12, m21, lg_cmp_ge, lg_cmp_le, lg_cmp_gt, lg_cmp_lt, lg_cmp_eq, oob, oobL, neg0, negL0, natle_f, or_false, false_or, true_or, or_true, or_self, cl, clL, le_t, le_f, lt_t, lt_f, leL_t, leL_f, ltL_t, ltL_f, leM_t, leM_f, ltM_t, ltM_f, leO_t, leO_f, cond_true, cond_false, Option.bind_some, Option.bind_none, if_false, if_true, nI_1, aL1, aL2, mL1, mL2, nI_add, pk_mul, pk_m1, sL1, dL1, pk_sub, m1p1, gIs_eq, gIs_k, gIs_i, gIs_n, gIs_e, gIJ, gIR, gJI, gJR, gJs_eq, gJs_k, gJs_n, gJs_e, gRI, gRJ, gRs_eq, gRs_k, gRs_i, gRs_n, gZI, gZJ, gZR, pI_s, pJ_s, pV_s, pR_s, pR_n, oR_n, oR_s, decide_true, decide_false, not_true_eq_false, not_false_eq_true, decT, decF, Bool.true_eq_false, Bool.false_eq_true, z01, o01, z1f, z1f', zz, oo, b2i_0, b2i_n, b2i_t, b2i_f, Bool.not_true, Bool.not_false]
  · simp (disch := omega) only [e, h, e_X12_readsAll_104, e_X12_readsAll_105, true_and, and_true, false_and, and_false, beq_t, beq_f, eqN_t, eqN_f, eqL_t, eqL_f, nm1, nm2, nm1', nm2', m1z, m2z, zm1, zm2, m12, m21, lg_cmp_ge, lg_cmp_le, lg_cmp_gt, lg_cmp_lt, lg_cmp_eq, oob, oobL, neg0, negL0, natle_f, or_false, false_or, true_or, or_true, or_self, cl, clL, le_t, le_f, lt_t, lt_f, leL_t, leL_f, ltL_t, ltL_f, leM_t, leM_f, ltM_t, ltM_f, leO_t, leO_f, cond_true, cond_false, Option.bind_some, Option.bind_none, if_false, if_true, nI_1, aL1, aL2, mL1, mL2, nI_add, pk_mul, pk_m1, sL1, dL1, pk_sub, m1p1, gIs_eq, gIs_k, gIs_i, gIs_n, gIs_e, gIJ, gIR, gJI, gJR, gJs_eq, gJs_k, gJs_n, gJs_e, gRI, gRJ, gRs_eq, gRs_k, gRs_i, gRs_n, gZI, gZJ, gZR, pI_s, pJ_s, pV_s, pR_s, pR_n, oR_n, oR_s, decide_true, decide_false, not_true_eq_false, not_false_eq_true, decT, decF, Bool.true_eq_false, Bool.false_eq_true, z01, o01, z1f, z1f', zz, oo, b2i_0, b2i_n, b2i_t, b2i_f, Bool.not_true, Bool.not_false]
theorem nI_nz {f : Nat} (h : FB f) : ¬ nI f = 0 := fun z => by
  have := (nI_eq (a := f) (b := 0) (by have := h.2; omega) (by omega)).mp z
  have := h.1
  omega
theorem m_reads {t : Tp} (hT : TOk2 t) : ∀ (m n p : Nat) (d : Dl) (w : XW), n + m = 40 → DI n d → MTp w t p → RdAt w d → gI w 11 0 11 = 6 → gI w 11 0 14 = nI n →
    RS ((F_X12_clauseHere [.inr (11, 0)] w).bind fun r0 => q_X12_readsAll_35 r0.1 r0.2) w (rdS t (m + 1) n p d) := by
  have h4 := hT.1
  intro m
  induction m with
  | zero =>
    intro n p d w hn hI hC hd h11 h14
    have : n = 40 := by omega
    subst this
    obtain ⟨w1, F1, h1⟩ := m_clauseD hT hI (by omega) hC hd h11 h14
    have e0 : rdS t (0 + 1) 40 p d = sB (cauS t p 40 d) (fun q => if sk t q.1 = t.1 then .inr q.2 else if t.2 (sk t q.1) = 59 then rdS t 0 (40 + 1) (sk t q.1 + 1) q.2 else .inl (1 + 8 * sk t q.1)) := rfl
    rw [e0]
    cases hq : cauS t p 40 d with
    | inl f =>
      rw [hq] at h1
      have nz := nI_nz (cau_fb hT hC.2.2.2 hq)
      have g9 := h1.2
      refine ⟨sI w1 11 0 1 0, (F1.mono (fun κ i k q => by unfold PMc at q; unfold  PMa; omega)).sI (by unfold PMa; omega), gIs_eq, ?_, by rw [gIs_k (by omega)]; exact g9⟩
      simp (disch := omega) only [h1.1, e_X12_readsAll_35, e_X12_readsAll_66, m_end, g9, nz, true_and, and_true, false_and, and_false, beq_t, beq_f, eqN_t, eqN_f, eqL_t, eqL_f, nm1, nm2, nm1', nm2', m1z, m2z, zm1, zm2, m12, m21, lg_cmp_ge, lg_cmp_le, lg_cmp_gt, lg_cmp_lt, lg_cmp_eq, oob, oobL, neg0, negL0, natle_f, or_false, false_or, true_or, or_true, or_self, cl, clL, le_t, le_f, lt_t, lt_f, leL_t, leL_f, ltL_t, ltL_f, leM_t, leM_f, ltM_t, ltM_f, leO_t, leO_f, cond_true, cond_false, Option.bind_some, Option.bind_none, if_false, if_true, nI_1, aL1, aL2, mL1, mL2, nI_add, pk_mul, pk_m1, sL1, dL1, pk_sub, m1p1, gIs_eq, gIs_k, gIs_i, gIs_n, gIs_e, gIJ, gIR, gJI, gJR, gJs_eq, gJs_k, gJs_n, gJs_e, gRI, gRJ, gRs_eq, gRs_k, gRs_i, gRs_n, gZI, gZJ, gZR, pI_s, pJ_s, pV_s, pR_s, pR_n, oR_n, oR_s, decide_true, decide_false, not_true_eq_false, not_false_eq_true, decT, decF, Bool.true_eq_false, Bool.false_eq_true, z01, o01, z1f, z1f', zz, oo, b2i_0, b2i_n, b2i_t, b2i_f, Bool.not_true, Bool.not_false]
    | inr q => exact absurd hq cau40
  | succ m ih =>
    intro n p d w hn hI hC hd h11 h14
    obtain ⟨w1, F1, h1⟩ := m_clauseD hT hI (by omega) hC hd h11 h14
    have FA : Fr PMa w w1 := F1.mono (fun κ i k q => by unfold PMc at q; unfold  PMa; omega)
    have e0 : rdS t (m + 1 + 1) n p d = sB (cauS t p n d) (fun q => if sk t q.1 = t.1 then .inr q.2 else if t.2 (sk t q.1) = 59 then rdS t (m + 1) (n + 1) (sk t q.1 + 1) q.2 else .inl (1 + 8 * sk t q.1)) := rfl
    rw [e0]
    cases hq : cauS t p n d with
    | inl f =>
      rw [hq] at h1
      have nz := nI_nz (cau_fb hT hC.2.2.2 hq)
      have g9 := h1.2
      refine ⟨sI w1 11 0 1 0, FA.sI (by unfold PMa; omega), gIs_eq, ?_, by rw [gIs_k (by omega)]; exact g9⟩
      simp (disch := omega) only [h1.1, e_X12_readsAll_35, e_X12_readsAll_66, m_end, g9, nz, true_and, and_true, false_and, and_false, beq_t, beq_f, eqN_t, eqN_f, eqL_t, eqL_f, nm1, nm2, nm1', nm2', m1z, m2z, zm1, zm2, m12, m21, lg_cmp_ge, lg_cmp_le, lg_cmp_gt, lg_cmp_lt, lg_cmp_eq, oob, oobL, neg0, negL0, natle_f, or_false, false_or, true_or, or_true, or_self, cl, clL, le_t, le_f, lt_t, lt_f, leL_t, leL_f, ltL_t, ltL_f, leM_t, leM_f, ltM_t, ltM_f, leO_t, leO_f, cond_true, cond_false, Option.bind_some, Option.bind_none, if_false, if_true, nI_1, aL1, aL2, mL1, mL2, nI_add, pk_mul, pk_m1, sL1, dL1, pk_sub, m1p1, gIs_eq, gIs_k, gIs_i, gIs_n, gIs_e, gIJ, gIR, gJI, gJR, gJs_eq, gJs_k, gJs_n, gJs_e, gRI, gRJ, gRs_eq, gRs_k, gRs_i, gRs_n, gZI, gZJ, gZR, pI_s, pJ_s, pV_s, pR_s, pR_n, oR_n, oR_s, decide_true, decide_false, not_true_eq_false, not_false_eq_true, decT, decF, Bool.true_eq_false, Bool.false_eq_true, z01, o01, z1f, z1f', zz, oo, b2i_0, b2i_n, b2i_t, b2i_f, Bool.not_true, Bool.not_false]
    | inr q =>
      have hI2 := cau_ok hI hq
      obtain ⟨p1, d1⟩ := q
      rw [hq] at h1
      obtain ⟨h1, h2, h3, h5⟩ := h1
      have h2 : MTp w1 t p1 := h2
      have h3 : RdAt w1 d1 := h3
      have hs := sk_le h2.2.2.2
      obtain ⟨w2, k1, k2, k3⟩ := m_see hT h2
      have ek := sk_sk h2.2.2.2
      have k4 := m_see0 hT k2 ek
      have F2 : Fr PMa w w2 := FA.trans (k3.mono (fun κ i k q => by unfold PM8 at q; unfold  PMa; omega))
      have hd2 : RdAt w2 d1 := h3.l8 k3
      have g9 := k2.2.2.1
      have g8 := k2.2.1
      have g11 : gI w2 11 0 11 = 6 := by rw [(F2 11 0 11 (by unfold PMa; omega)).1]; exact h11
      have g14 : gI w2 11 0 14 = nI (n + 1) := by rw [(k3 11 0 14 (by unfold PM8; omega)).1]; exact h5
      show RS _ w (if sk t p1 = t.1 then .inr d1 else if t.2 (sk t p1) = 59 then rdS t (m + 1) (n + 1) (sk t p1 + 1) d1 else .inl (1 + 8 * sk t p1))
      by_cases c : sk t p1 = t.1
      · rw [if_pos c]
        have e1 : chS t (sk t p1) = -1 := if_neg (by omega)
        have e59 : ¬ (-1 : Int32) = 59 := by decide
        rw [e1] at k1 k4
        refine ⟨sI w2 11 0 1 0, F2.sI (by unfold PMa; omega), gIs_eq, ?_, hd2.fr (P := fun κ _ k => κ = 11 ∧ k = 1) ((Fr.refl _ _).sI ⟨rfl, rfl⟩) (fun k => by omega)⟩
        simp (disch := omega) only [h1, e_X12_readsAll_35, e_X12_readsAll_39, k1, e59, e_X12_readsAll_66, e_X12_readsAll_70, k4, m_end, g9, true_and, and_true, false_and, and_false, beq_t, beq_f, eqN_t, eqN_f, eqL_t, eqL_f, nm1, nm2, nm1', nm2', m1z, m2z, zm1, zm2, m12, m21, lg_cmp_ge, lg_cmp_le, lg_cmp_gt, lg_cmp_lt, lg_cmp_eq, oob, oobL, neg0, negL0, natle_f, or_false, false_or, true_or, or_true, or_self, cl, clL, le_t, le_f, lt_t, lt_f, leL_t, leL_f, ltL_t, ltL_f, leM_t, leM_f, ltM_t, ltM_f, leO_t, leO_f, cond_true, cond_false, Option.bind_some, Option.bind_none, if_false, if_true, nI_1, aL1, aL2, mL1, mL2, nI_add, pk_mul, pk_m1, sL1, dL1, pk_sub, m1p1, gIs_eq, gIs_k, gIs_i, gIs_n, gIs_e, gIJ, gIR, gJI, gJR, gJs_eq, gJs_k, gJs_n, gJs_e, gRI, gRJ, gRs_eq, gRs_k, gRs_i, gRs_n, gZI, gZJ, gZR, pI_s, pJ_s, pV_s, pR_s, pR_n, oR_n, oR_s, decide_true, decide_false, not_true_eq_false, not_false_eq_true, decT, decF, Bool.true_eq_false, Bool.false_eq_true, z01, o01, z1f, z1f', zz, oo, b2i_0, b2i_n, b2i_t, b2i_f, Bool.not_true, Bool.not_false]
      · rw [if_neg c]
        have e1 : chS t (sk t p1) = nI (t.2 (sk t p1)) := if_pos (by omega)
        have h256 := hT.2 (sk t p1) (by omega)
        rw [e1] at k1 k4
        by_cases c2 : t.2 (sk t p1) = 59
        · rw [if_pos c2]
          have c59 : nI (t.2 (sk t p1)) = 59 := by rw [c2]; rfl
          have hM : MTp (sI w2 11 0 8 (nI (sk t p1 + 1))) t (sk t p1 + 1) := k2.to (by omega)
          have F8 : Fr PM8 w2 (sI w2 11 0 8 (nI (sk t p1 + 1))) := (Fr.refl _ _).sI (by unfold PM8; omega)
          obtain ⟨w4, F4, t4, r4⟩ := ih (n + 1) (sk t p1 + 1) d1 _ (by omega) hI2 hM (hd2.l8 F8) (by rw [gIs_k (by omega)]; exact g11) (by rw [gIs_k (by omega)]; exact g14)
          refine ⟨w4, (F2.trans (F8.mono (fun κ i k q => by unfold PM8 at q; unfold  PMa; omega))).trans F4, t4, ?_⟩
          have e5 : ((F_X12_clauseHere [.inr (11, 0)] w).bind fun r0 => q_X12_readsAll_35 r0.1 r0.2) = ((F_X12_clauseHere [.inr (11, 0)] (sI w2 11 0 8 (nI (sk t p1 + 1)))).bind fun r0 => q_X12_readsAll_35 r0.1 r0.2) := by
            rw [h1]
            ((try dsimp only); rw [Option.bind_some]; (try dsimp only); rw [e_X12_readsAll_35])
            simp (disch := omega) only [e_X12_readsAll_39, k1, c59, e_X12_readsAll_48, g8, true_and, and_true, false_and, and_false, beq_t, beq_f, eqN_t, eqN_f, eqL_t, eqL_f, nm1, nm2, nm1', nm2', m1z, m2z, zm1, zm2, m12, m21, lg_cmp_ge, lg_cmp_le, lg_cmp_gt, lg_cmp_lt, lg_cmp_eq, oob, oobL, neg0, negL0, natle_f, or_false, false_or, true_or, or_true, or_self, cl, clL, le_t, le_f, lt_t, lt_f, leL_t, leL_f, ltL_t, ltL_f, leM_t, leM_f, ltM_t, ltM_f, leO_t, leO_f, cond_true, cond_false, Option.bind_some, Option.bind_none, if_false, if_true, nI_1, aL1, aL2, mL1, mL2, nI_add, pk_mul, pk_m1, sL1, dL1, pk_sub, m1p1, gIs_eq, gIs_k, gIs_i, gIs_n, gIs_e, gIJ, gIR, gJI, gJR, gJs_eq, gJs_k, gJs_n, gJs_e, gRI, gRJ, gRs_eq, gRs_k, gRs_i, gRs_n, gZI, gZJ, gZR, pI_s, pJ_s, pV_s, pR_s, pR_n, oR_n, oR_s, decide_true, decide_false, not_true_eq_false, not_false_eq_true, decT, decF, Bool.true_eq_false, Bool.false_eq_true, z01, o01, z1f, z1f', zz, oo, b2i_0, b2i_n, b2i_t, b2i_f, Bool.not_true, Bool.not_false]
          rw [e5]
          exact r4
        · rw [if_neg c2]
          have n59 : ¬ nI (t.2 (sk t p1)) = 59 := fun z => c2 ((nI_eq (a := t.2 (sk t p1)) (b := 59) (by omega) (by omega)).mp z)
          have kf := m_fails0 (w := w2) (sk t p1) g9
          have nz : ¬ nI (1 + 8 * sk t p1) = 0 := nI_nz (by unfold FB; omega)
          refine ⟨sI (sI w2 11 0 9 (nI (1 + 8 * sk t p1))) 11 0 1 0, (F2.sI (by unfold PMa; omega)).sI (by unfold PMa; omega), gIs_eq, ?_, by rw [gIs_k (by omega)]; exact gIs_eq⟩
          simp (disch := omega) only [h1, e_X12_readsAll_35, e_X12_readsAll_39, k1, n59, e_X12_readsAll_66, e_X12_readsAll_70, k4, e_X12_readsAll_78, g8, kf, m_end, nz, true_and, and_true, false_and, and_false, beq_t, beq_f, eqN_t, eqN_f, eqL_t, eqL_f, nm1, nm2, nm1', nm2', m1z, m2z, zm1, zm2, m12, m21, lg_cmp_ge, lg_cmp_le, lg_cmp_gt, lg_cmp_lt, lg_cmp_eq, oob, oobL, neg0, negL0, natle_f, or_false, false_or, true_or, or_true, or_self, cl, clL, le_t, le_f, lt_t, lt_f, leL_t, leL_f, ltL_t, ltL_f, leM_t, leM_f, ltM_t, ltM_f, leO_t, leO_f, cond_true, cond_false, Option.bind_some, Option.bind_none, if_false, if_true, nI_1, aL1, aL2, mL1, mL2, nI_add, pk_mul, pk_m1, sL1, dL1, pk_sub, m1p1, gIs_eq, gIs_k, gIs_i, gIs_n, gIs_e, gIJ, gIR, gJI, gJR, gJs_eq, gJs_k, gJs_n, gJs_e, gRI, gRJ, gRs_eq, gRs_k, gRs_i, gRs_n, gZI, gZJ, gZR, pI_s, pJ_s, pV_s, pR_s, pR_n, oR_n, oR_s, decide_true, decide_false, not_true_eq_false, not_false_eq_true, decT, decF, Bool.true_eq_false, Bool.false_eq_true, z01, o01, z1f, z1f', zz, oo, b2i_0, b2i_n, b2i_t, b2i_f, Bool.not_true, Bool.not_false]
