/-! ===== the class reads a rule: values, sums ===== -/
def LsAt (g : Nat → Int32) (L : List Int32) : Prop := ∀ i st, L[i]? = some st → g i = st
theorem LsAt.snoc {g g' : Nat → Int32} {L : List Int32} {c : Int32} (h : LsAt g L) (h1 : ∀ i, i < L.length → g' i = g i) (h2 : g' L.length = c) : LsAt g' (L ++ [c]) := fun i st hi => by
  by_cases q : i < L.length
  · rw [List.getElem?_append_left q] at hi
    rw [h1 i q]; exact h i st hi
  · rw [List.getElem?_append_right (by omega)] at hi
    have e : i - L.length = 0 := by
      have := (List.getElem?_eq_some_iff.mp hi).1
      rw [List.length_singleton] at this
      omega
    rw [e] at hi
    have : some c = some st := hi
    injection this with this
    rw [show i = L.length by omega, h2, this]
def CRt (w : XW) (t : Tp) (s : St) : Prop := CTp w t s.1 ∧ gI w 7 0 4 = nI s.2.1 ∧ gI w 7 0 2 = nI s.2.2.length ∧ LsAt (gI w 28 0) s.2.2
def PCr (κ _j k : Nat) : Prop := (κ = 9 ∧ 2 ≤ k) ∨ κ = 28 ∨ (κ = 7 ∧ (k = 2 ∨ k = 4))
def PCa (κ _j k : Nat) : Prop := κ = 28 ∨ (κ = 7 ∧ k = 2)
theorem CRt.fr {P : Nat → Nat → Nat → Prop} {w w' : XW} {t : Tp} {s : St} (h : CRt w t s) (hF : Fr P w w') (hP : ∀ κ k, (κ = 9 ∧ (k = 1 ∨ k = 2)) ∨ κ = 34 ∨ (κ = 7 ∧ (k = 2 ∨ k = 4)) ∨ κ = 28 → ¬ P κ 0 k) : CRt w' t s :=
  ⟨h.1.fr hF (fun κ k q => hP _ _ (by omega)), by rw [(hF 7 0 4 (hP _ _ (by omega))).1]; exact h.2.1, by rw [(hF 7 0 2 (hP _ _ (by omega))).1]; exact h.2.2.1, fun i st hi => by rw [(hF 28 0 i (hP _ _ (by omega))).1]; exact h.2.2.2 i st hi⟩
/-- the same, the walk at p -/
theorem CRt.at {P : Nat → Nat → Nat → Prop} {w w' : XW} {t : Tp} {s : St} {p : Nat} (h : CRt w t s) (hF : Fr P w w') (hP : ∀ κ k, (κ = 7 ∧ (k = 2 ∨ k = 4)) ∨ κ = 28 → ¬ P κ 0 k) (hp : CTp w' t p) : CRt w' t (p, s.2) :=
  ⟨hp, by rw [(hF 7 0 4 (hP _ _ (by omega))).1]; exact h.2.1, by rw [(hF 7 0 2 (hP _ _ (by omega))).1]; exact h.2.2.1, fun i st hi => by rw [(hF 28 0 i (hP _ _ (by omega))).1]; exact h.2.2.2 i st hi⟩
theorem c_add {w : XW} {t : Tp} {s : St} (h : CRt w t s) (hl : s.2.2.length < 400) (c : Int32) : ∃ w', F_X8_add [.inr (7, 0), .inl (.int c)] w = some w' ∧ CRt w' t (adS s c) ∧ Fr PCa w w' := by
  obtain ⟨h1, h2, h3, h4⟩ := h
  have F1 : Fr PCa w (sI (sI w 28 0 s.2.2.length c) 7 0 2 (nI (s.2.2.length + 1))) := ((Fr.refl _ _).sI (by unfold PCa; omega)).sI (by unfold PCa; omega)
  refine ⟨sI (sI w 28 0 s.2.2.length c) 7 0 2 (nI (s.2.2.length + 1)), ?_, ⟨h1.fr F1 (fun κ k q => by unfold PCa; omega), ?_, ?_, ?_⟩, F1⟩
  · rw [f_X8_add, e_X8_add_0]
    simp (disch := omega) only [h3, e_X8_add_12, e_X8_add_32, true_and, and_true, false_and, and_false, beq_t, beq_f, eqN_t, eqN_f, eqL_t, eqL_f, nm1, nm2, nm1', nm2', m1z, m2z, zm1, zm2, m12, m21, lg_cmp_ge, lg_cmp_le, lg_cmp_gt, lg_cmp_lt, lg_cmp_eq, oob, oobL, neg0, negL0, natle_f, or_false, false_or, true_or, or_true, or_self, cl, clL, le_t, le_f, lt_t, lt_f, leL_t, leL_f, ltL_t, ltL_f, leM_t, leM_f, ltM_t, ltM_f, leO_t, leO_f, cond_true, cond_false, Option.bind_some, Option.bind_none, if_false, if_true, nI_1, aL1, aL2, mL1, mL2, nI_add, pk_mul, pk_m1, sL1, dL1, pk_sub, m1p1, gIs_eq, gIs_k, gIs_i, gIs_n, gIs_e, gIJ, gIR, gJI, gJR, gJs_eq, gJs_k, gJs_n, gJs_e, gRI, gRJ, gRs_eq, gRs_k, gRs_i, gRs_n, gZI, gZJ, gZR, pI_s, pJ_s, pV_s, pR_s, pR_n, oR_n, oR_s, decide_true, decide_false, not_true_eq_false, not_false_eq_true, decT, decF, Bool.true_eq_false, Bool.false_eq_true, z01, o01, z1f, z1f', zz, oo, b2i_0, b2i_n, b2i_t, b2i_f, Bool.not_true, Bool.not_false]
  · rw [gIs_k (by omega), gIs_n (by omega)]; exact h2
  · show _ = nI (s.2.2 ++ [c]).length
    rw [gIs_eq, List.length_append, List.length_singleton]
  · exact h4.snoc (fun i hi => by show gI _ 28 0 i = _; rw [gIs_n (by omega), gIs_k (by omega)]) (by show gI _ 28 0 _ = _; rw [gIs_n (by omega)]; exact gIs_eq)
def RCr (F : Option (Int32 × XW)) (w : XW) (t : Tp) (r : Nat ⊕ St) : Prop := ∃ w', Fr PCr w w' ∧ match r with
  | .inl f => F = some (0, w') ∧ gI w' 9 0 5 = nI f
  | .inr s => F = some (1, w') ∧ CRt w' t s
theorem RCr.fr {F F' : Option (Int32 × XW)} {w w1 : XW} {t : Tp} {r : Nat ⊕ St} (h : RCr F' w1 t r) (hF : Fr PCr w w1) (he : F = F') : RCr F w t r := by
  obtain ⟨w', h1, h2⟩ := h
  exact ⟨w', hF.trans h1, by rw [he]; exact h2⟩
theorem RCr.b01 {F : Option (Int32 × XW)} {w : XW} {t : Tp} {r : Nat ⊕ St} (h : RCr F w t r) : ((F.bind fun r0 => (if r0.1 = 0 ∨ r0.1 = 1 then some (some (.inl (.int r0.1)), r0.2) else none) : Option XR)).bind pI = F := by
  obtain ⟨w', h1, h2⟩ := h
  cases r with
  | inl f => rw [h2.1]; rfl
  | inr q => rw [h2.1]; rfl
theorem RCr.then {F F2 : Option (Int32 × XW)} {w : XW} {t : Tp} {r : Nat ⊕ St} {g : St → Nat ⊕ St} (h : RCr F w t r) (h0 : ∀ w', F = some (0, w') → F2 = some (0, w')) (h1 : ∀ s w', r = .inr s → F = some (1, w') → Fr PCr w w' → CRt w' t s → RCr F2 w' t (g s)) : RCr F2 w t (sB r g) := by
  obtain ⟨w', k1, k2⟩ := h
  cases r with
  | inl f => exact ⟨w', k1, h0 w' k2.1, k2.2⟩
  | inr s => exact (h1 s w' rfl k2.1 k1 k2.2).fr k1 rfl
theorem c_counted {w : XW} {t : Tp} {s : St} (h : CRt w t s) (hn : s.2.1 ≤ 60) (a : Nat) : RCr (F_X8_isCounted [.inr (7, 0), .inr (9, 0), .inl (.int (nI a))] w) w t (ctS a s) := by
  obtain ⟨h1, h2, h3, h4⟩ := h
  have F1 : Fr (fun κ _ k => κ = 7 ∧ k = 4) w (sI w 7 0 4 (nI (s.2.1 + 1))) := (Fr.refl _ _).sI ⟨rfl, rfl⟩
  have F2 : Fr PCr w (sI w 7 0 4 (nI (s.2.1 + 1))) := F1.mono (fun κ i k q => by unfold PCr; omega)
  unfold ctS
  by_cases c : s.2.1 < 60
  · rw [if_pos c]
    refine ⟨sI w 7 0 4 (nI (s.2.1 + 1)), F2, ?_, h1.fr F1 (fun κ k q => by omega), gIs_eq, by rw [gIs_k (by omega)]; exact h3, fun i st hi => by rw [gIs_n (by omega)]; exact h4 i st hi⟩
    rw [f_X8_isCounted, e_X8_isCounted_0]
    simp (disch := omega) only [h2, e_X8_isCounted_28, e_X8_isCounted_33, true_and, and_true, false_and, and_false, beq_t, beq_f, eqN_t, eqN_f, eqL_t, eqL_f, nm1, nm2, nm1', nm2', m1z, m2z, zm1, zm2, m12, m21, lg_cmp_ge, lg_cmp_le, lg_cmp_gt, lg_cmp_lt, lg_cmp_eq, oob, oobL, neg0, negL0, natle_f, or_false, false_or, true_or, or_true, or_self, cl, clL, le_t, le_f, lt_t, lt_f, leL_t, leL_f, ltL_t, ltL_f, leM_t, leM_f, ltM_t, ltM_f, leO_t, leO_f, cond_true, cond_false, Option.bind_some, Option.bind_none, if_false, if_true, nI_1, aL1, aL2, mL1, mL2, nI_add, pk_mul, pk_m1, sL1, dL1, pk_sub, m1p1, gIs_eq, gIs_k, gIs_i, gIs_n, gIs_e, gIJ, gIR, gJI, gJR, gJs_eq, gJs_k, gJs_n, gJs_e, gRI, gRJ, gRs_eq, gRs_k, gRs_i, gRs_n, gZI, gZJ, gZR, pI_s, pJ_s, pV_s, pR_s, pR_n, oR_n, oR_s, decide_true, decide_false, not_true_eq_false, not_false_eq_true, decT, decF, Bool.true_eq_false, Bool.false_eq_true, z01, o01, z1f, z1f', zz, oo, b2i_0, b2i_n, b2i_t, b2i_f, Bool.not_true, Bool.not_false]
  · rw [if_neg c]
    have kf := c_fail3 (w := sI w 7 0 4 (nI (s.2.1 + 1))) a
    refine ⟨_, F2.sI (by unfold PCr; omega), ?_, gIs_eq⟩
    rw [f_X8_isCounted, e_X8_isCounted_0]
    simp (disch := omega) only [h2, e_X8_isCounted_19, kf, e_X8_isCounted_32, e_X8_isCounted_33, true_and, and_true, false_and, and_false, beq_t, beq_f, eqN_t, eqN_f, eqL_t, eqL_f, nm1, nm2, nm1', nm2', m1z, m2z, zm1, zm2, m12, m21, lg_cmp_ge, lg_cmp_le, lg_cmp_gt, lg_cmp_lt, lg_cmp_eq, oob, oobL, neg0, negL0, natle_f, or_false, false_or, true_or, or_true, or_self, cl, clL, le_t, le_f, lt_t, lt_f, leL_t, leL_f, ltL_t, ltL_f, leM_t, leM_f, ltM_t, ltM_f, leO_t, leO_f, cond_true, cond_false, Option.bind_some, Option.bind_none, if_false, if_true, nI_1, aL1, aL2, mL1, mL2, nI_add, pk_mul, pk_m1, sL1, dL1, pk_sub, m1p1, gIs_eq, gIs_k, gIs_i, gIs_n, gIs_e, gIJ, gIR, gJI, gJR, gJs_eq, gJs_k, gJs_n, gJs_e, gRI, gRJ, gRs_eq, gRs_k, gRs_i, gRs_n, gZI, gZJ, gZR, pI_s, pJ_s, pV_s, pR_s, pR_n, oR_n, oR_s, decide_true, decide_false, not_true_eq_false, not_false_eq_true, decT, decF, Bool.true_eq_false, Bool.false_eq_true, z01, o01, z1f, z1f', zz, oo, b2i_0, b2i_n, b2i_t, b2i_f, Bool.not_true, Bool.not_false]
theorem nu_sk {t : Tp} {p lo hi : Nat} (hp : p ≤ t.1) : nuS t (sk t p) lo hi = nuS t p lo hi := by unfold nuS; rw [sk_sk hp]
theorem c_value {w : XW} {t : Tp} (hT : TOk2 t) {s : St} (h : CRt w t s) (hn : s.2.1 ≤ 60) (hl : s.2.2.length ≤ s.1) : RCr (F_X8_readValue [.inr (7, 0), .inr (9, 0)] w) w t (vlS t s) := by
  have h4 := hT.1
  obtain ⟨w1, k1, k2, k3⟩ := c_sign hT h.1
  have hp := h.1.2.2
  have hk := sk_le hp
  have F1 : Fr PCr w w1 := k3.mono (fun κ i k q => by unfold PT2 at q; unfold  PCr; omega)
  have C1 : CRt w1 t (sk t s.1, s.2) := h.at k3 (fun κ k q => by unfold PT2; omega) k2
  have ek := sk_sk hp
  unfold vlS
  by_cases c : sk t s.1 < t.1 ∧ isL (t.2 (sk t s.1)) = true
  · rw [if_pos c]
    have e1 : chS t (sk t s.1) = nI (t.2 (sk t s.1)) := if_pos c.1
    obtain ⟨b1, b2⟩ := isL_t c.2
    rw [e1] at k1
    have start : F_X8_readValue [.inr (7, 0), .inr (9, 0)] w = (q_X8_readValue_17 w1).bind pI := by
      rw [f_X8_readValue, e_X8_readValue_0]
      simp (disch := omega) only [k1, e_X8_readValue_11, true_and, and_true, false_and, and_false, beq_t, beq_f, eqN_t, eqN_f, eqL_t, eqL_f, nm1, nm2, nm1', nm2', m1z, m2z, zm1, zm2, m12, m21, lg_cmp_ge, lg_cmp_le, lg_cmp_gt, lg_cmp_lt, lg_cmp_eq, oob, oobL, neg0, negL0, natle_f, or_false, false_or, true_or, or_true, or_self, cl, clL, le_t, le_f, lt_t, lt_f, leL_t, leL_f, ltL_t, ltL_f, leM_t, leM_f, ltM_t, ltM_f, leO_t, leO_f, cond_true, cond_false, Option.bind_some, Option.bind_none, if_false, if_true, nI_1, aL1, aL2, mL1, mL2, nI_add, pk_mul, pk_m1, sL1, dL1, pk_sub, m1p1, gIs_eq, gIs_k, gIs_i, gIs_n, gIs_e, gIJ, gIR, gJI, gJR, gJs_eq, gJs_k, gJs_n, gJs_e, gRI, gRJ, gRs_eq, gRs_k, gRs_i, gRs_n, gZI, gZJ, gZR, pI_s, pJ_s, pV_s, pR_s, pR_n, oR_n, oR_s, decide_true, decide_false, not_true_eq_false, not_false_eq_true, decT, decF, Bool.true_eq_false, Bool.false_eq_true, z01, o01, z1f, z1f', zz, oo, b2i_0, b2i_n, b2i_t, b2i_f, Bool.not_true, Bool.not_false]
    obtain ⟨w2, F2, g3, r2⟩ := c_word hT (i := 1) (by omega) k2
    rw [ek] at g3 r2
    have F2' : Fr PCr w w2 := F1.trans (F2.mono (fun κ i k q => by unfold PT23 at q; unfold  PCr; omega))
    cases hf : fdW (lW 1) (wrd t (sk t s.1)) with
    | none =>
      rw [hf] at r2
      have kf := c_fail0 (w := w2) (sk t s.1)
      refine ⟨_, F2'.sI (by unfold PCr; omega), ?_, gIs_eq⟩
      rw [start, e_X8_readValue_17]
      simp (disch := omega) only [r2.1, e_X8_readValue_29, g3, kf, true_and, and_true, false_and, and_false, beq_t, beq_f, eqN_t, eqN_f, eqL_t, eqL_f, nm1, nm2, nm1', nm2', m1z, m2z, zm1, zm2, m12, m21, lg_cmp_ge, lg_cmp_le, lg_cmp_gt, lg_cmp_lt, lg_cmp_eq, oob, oobL, neg0, negL0, natle_f, or_false, false_or, true_or, or_true, or_self, cl, clL, le_t, le_f, lt_t, lt_f, leL_t, leL_f, ltL_t, ltL_f, leM_t, leM_f, ltM_t, ltM_f, leO_t, leO_f, cond_true, cond_false, Option.bind_some, Option.bind_none, if_false, if_true, nI_1, aL1, aL2, mL1, mL2, nI_add, pk_mul, pk_m1, sL1, dL1, pk_sub, m1p1, gIs_eq, gIs_k, gIs_i, gIs_n, gIs_e, gIJ, gIR, gJI, gJR, gJs_eq, gJs_k, gJs_n, gJs_e, gRI, gRJ, gRs_eq, gRs_k, gRs_i, gRs_n, gZI, gZJ, gZR, pI_s, pJ_s, pV_s, pR_s, pR_n, oR_n, oR_s, decide_true, decide_false, not_true_eq_false, not_false_eq_true, decT, decF, Bool.true_eq_false, Bool.false_eq_true, z01, o01, z1f, z1f', zz, oo, b2i_0, b2i_n, b2i_t, b2i_f, Bool.not_true, Bool.not_false]
    | some j =>
      rw [hf] at r2
      have hj : j < 11 := fd_lt (i := 1) (by omega) hf
      have C2 : CRt w2 t (le t (sk t s.1), s.2) := C1.at F2 (fun κ k q => by unfold PT23; omega) r2.2
      obtain ⟨w3, a1, a2, a3⟩ := c_add C2 (by show s.2.2.length < 400; omega) (-1 - nI j)
      have g3' : gI w3 9 0 3 = nI (sk t s.1) := by rw [(a3 9 0 3 (by unfold PCa; omega)).1]; exact g3
      have R := c_counted a2 hn (sk t s.1)
      refine R.fr (F2'.trans (a3.mono (fun κ i k q => by unfold PCa at q; unfold  PCr; omega))) ?_
      rw [start, e_X8_readValue_17]
      simp (disch := omega) only [r2.1, e_X8_readValue_39, a1, e_X8_readValue_69, g3', true_and, and_true, false_and, and_false, beq_t, beq_f, eqN_t, eqN_f, eqL_t, eqL_f, nm1, nm2, nm1', nm2', m1z, m2z, zm1, zm2, m12, m21, lg_cmp_ge, lg_cmp_le, lg_cmp_gt, lg_cmp_lt, lg_cmp_eq, oob, oobL, neg0, negL0, natle_f, or_false, false_or, true_or, or_true, or_self, cl, clL, le_t, le_f, lt_t, lt_f, leL_t, leL_f, ltL_t, ltL_f, leM_t, leM_f, ltM_t, ltM_f, leO_t, leO_f, cond_true, cond_false, Option.bind_some, Option.bind_none, if_false, if_true, nI_1, aL1, aL2, mL1, mL2, nI_add, pk_mul, pk_m1, sL1, dL1, pk_sub, m1p1, gIs_eq, gIs_k, gIs_i, gIs_n, gIs_e, gIJ, gIR, gJI, gJR, gJs_eq, gJs_k, gJs_n, gJs_e, gRI, gRJ, gRs_eq, gRs_k, gRs_i, gRs_n, gZI, gZJ, gZR, pI_s, pJ_s, pV_s, pR_s, pR_n, oR_n, oR_s, decide_true, decide_false, not_true_eq_false, not_false_eq_true, decT, decF, Bool.true_eq_false, Bool.false_eq_true, z01, o01, z1f, z1f', zz, oo, b2i_0, b2i_n, b2i_t, b2i_f, Bool.not_true, Bool.not_false]
      exact R.b01
  · rw [if_neg c]
    have start : F_X8_readValue [.inr (7, 0), .inr (9, 0)] w = (q_X8_readValue_49 w1).bind pI := by
      rw [f_X8_readValue, e_X8_readValue_0]
      by_cases c1 : sk t s.1 < t.1
      · have e1 : chS t (sk t s.1) = nI (t.2 (sk t s.1)) := if_pos c1
        have h256 := hT.2 _ c1
        rw [e1] at k1
        by_cases c2 : 97 ≤ t.2 (sk t s.1)
        · have c3 : 122 < t.2 (sk t s.1) := by
            rcases Nat.lt_or_ge 122 (t.2 (sk t s.1)) with q | q
            · exact q
            · exact absurd ⟨c1, by unfold isL; rw [decT c2, decT q]; rfl⟩ c
          simp (disch := omega) only [k1, e_X8_readValue_11, true_and, and_true, false_and, and_false, beq_t, beq_f, eqN_t, eqN_f, eqL_t, eqL_f, nm1, nm2, nm1', nm2', m1z, m2z, zm1, zm2, m12, m21, lg_cmp_ge, lg_cmp_le, lg_cmp_gt, lg_cmp_lt, lg_cmp_eq, oob, oobL, neg0, negL0, natle_f, or_false, false_or, true_or, or_true, or_self, cl, clL, le_t, le_f, lt_t, lt_f, leL_t, leL_f, ltL_t, ltL_f, leM_t, leM_f, ltM_t, ltM_f, leO_t, leO_f, cond_true, cond_false, Option.bind_some, Option.bind_none, if_false, if_true, nI_1, aL1, aL2, mL1, mL2, nI_add, pk_mul, pk_m1, sL1, dL1, pk_sub, m1p1, gIs_eq, gIs_k, gIs_i, gIs_n, gIs_e, gIJ, gIR, gJI, gJR, gJs_eq, gJs_k, gJs_n, gJs_e, gRI, gRJ, gRs_eq, gRs_k, gRs_i, gRs_n, gZI, gZJ, gZR, pI_s, pJ_s, pV_s, pR_s, pR_n, oR_n, oR_s, decide_true, decide_false, not_true_eq_false, not_false_eq_true, decT, decF, Bool.true_eq_false, Bool.false_eq_true, z01, o01, z1f, z1f', zz, oo, b2i_0, b2i_n, b2i_t, b2i_f, Bool.not_true, Bool.not_false]
        · simp (disch := omega) only [k1, true_and, and_true, false_and, and_false, beq_t, beq_f, eqN_t, eqN_f, eqL_t, eqL_f, nm1, nm2, nm1', nm2', m1z, m2z, zm1, zm2, m12, m21, lg_cmp_ge, lg_cmp_le, lg_cmp_gt, lg_cmp_lt, lg_cmp_eq, oob, oobL, neg0, negL0, natle_f, or_false, false_or, true_or, or_true, or_self, cl, clL, le_t, le_f, lt_t, lt_f, leL_t, leL_f, ltL_t, ltL_f, leM_t, leM_f, ltM_t, ltM_f, leO_t, leO_f, cond_true, cond_false, Option.bind_some, Option.bind_none, if_false, if_true, nI_1, aL1, aL2, mL1, mL2, nI_add, pk_mul, pk_m1, sL1, dL1, pk_sub, m1p1, gIs_eq, gIs_k, gIs_i, gIs_n, gIs_e, gIJ, gIR, gJI, gJR, gJs_eq, gJs_k, gJs_n, gJs_e, gRI, gRJ, gRs_eq, gRs_k, gRs_i, gRs_n, gZI, gZJ, gZR, pI_s, pJ_s, pV_s, pR_s, pR_n, oR_n, oR_s, decide_true, decide_false, not_true_eq_false, not_false_eq_true, decT, decF, Bool.true_eq_false, Bool.false_eq_true, z01, o01, z1f, z1f', zz, oo, b2i_0, b2i_n, b2i_t, b2i_f, Bool.not_true, Bool.not_false]
      · have e1 : chS t (sk t s.1) = -1 := if_neg c1
        have m97 : ((-1 : Int32) < 97) = True := by decide
        rw [e1] at k1
        simp (disch := omega) only [k1, m97, true_and, and_true, false_and, and_false, beq_t, beq_f, eqN_t, eqN_f, eqL_t, eqL_f, nm1, nm2, nm1', nm2', m1z, m2z, zm1, zm2, m12, m21, lg_cmp_ge, lg_cmp_le, lg_cmp_gt, lg_cmp_lt, lg_cmp_eq, oob, oobL, neg0, negL0, natle_f, or_false, false_or, true_or, or_true, or_self, cl, clL, le_t, le_f, lt_t, lt_f, leL_t, leL_f, ltL_t, ltL_f, leM_t, leM_f, ltM_t, ltM_f, leO_t, leO_f, cond_true, cond_false, Option.bind_some, Option.bind_none, if_false, if_true, nI_1, aL1, aL2, mL1, mL2, nI_add, pk_mul, pk_m1, sL1, dL1, pk_sub, m1p1, gIs_eq, gIs_k, gIs_i, gIs_n, gIs_e, gIJ, gIR, gJI, gJR, gJs_eq, gJs_k, gJs_n, gJs_e, gRI, gRJ, gRs_eq, gRs_k, gRs_i, gRs_n, gZI, gZJ, gZR, pI_s, pJ_s, pV_s, pR_s, pR_n, oR_n, oR_s, decide_true, decide_false, not_true_eq_false, not_false_eq_true, decT, decF, Bool.true_eq_false, Bool.false_eq_true, z01, o01, z1f, z1f', zz, oo, b2i_0, b2i_n, b2i_t, b2i_f, Bool.not_true, Bool.not_false]
    obtain ⟨w2, F2, g3, r2⟩ := c_number hT k2 0 100000 (by omega) (by omega)
    rw [ek] at g3
    rw [nu_sk hp] at r2
    have F2' : Fr PCr w w2 := F1.trans (F2.mono (fun κ i k q => by unfold PTt at q; unfold  PCr; omega))
    have en : dn 100000 = 99999 := rfl
    rw [en, nI_0] at r2
    cases hu : nuS t s.1 0 100000 with
    | inl f =>
      rw [hu] at r2
      refine ⟨w2, F2', ?_, r2.2⟩
      rw [start, e_X8_readValue_49]
      simp (disch := omega) only [r2.1, e_X8_readValue_59, true_and, and_true, false_and, and_false, beq_t, beq_f, eqN_t, eqN_f, eqL_t, eqL_f, nm1, nm2, nm1', nm2', m1z, m2z, zm1, zm2, m12, m21, lg_cmp_ge, lg_cmp_le, lg_cmp_gt, lg_cmp_lt, lg_cmp_eq, oob, oobL, neg0, negL0, natle_f, or_false, false_or, true_or, or_true, or_self, cl, clL, le_t, le_f, lt_t, lt_f, leL_t, leL_f, ltL_t, ltL_f, leM_t, leM_f, ltM_t, ltM_f, leO_t, leO_f, cond_true, cond_false, Option.bind_some, Option.bind_none, if_false, if_true, nI_1, aL1, aL2, mL1, mL2, nI_add, pk_mul, pk_m1, sL1, dL1, pk_sub, m1p1, gIs_eq, gIs_k, gIs_i, gIs_n, gIs_e, gIJ, gIR, gJI, gJR, gJs_eq, gJs_k, gJs_n, gJs_e, gRI, gRJ, gRs_eq, gRs_k, gRs_i, gRs_n, gZI, gZJ, gZR, pI_s, pJ_s, pV_s, pR_s, pR_n, oR_n, oR_s, decide_true, decide_false, not_true_eq_false, not_false_eq_true, decT, decF, Bool.true_eq_false, Bool.false_eq_true, z01, o01, z1f, z1f', zz, oo, b2i_0, b2i_n, b2i_t, b2i_f, Bool.not_true, Bool.not_false]
    | inr r =>
      rw [hu] at r2
      obtain ⟨e, v⟩ := r
      obtain ⟨r1, r3, r4, r5, r6, _⟩ := r2
      have he := r3.2.2
      have C2 : CRt w2 t (e, s.2) := C1.at F2 (fun κ k q => by unfold PTt; omega) r3
      obtain ⟨w3, a1, a2, a3⟩ := c_add C2 (by show s.2.2.length < 400; omega) (nI v)
      have g3' : gI w3 9 0 3 = nI (sk t s.1) := by rw [(a3 9 0 3 (by unfold PCa; omega)).1]; exact g3
      have R := c_counted a2 hn (sk t s.1)
      refine RCr.fr (w1 := w3) (F' := F_X8_isCounted [.inr (7, 0), .inr (9, 0), .inl (.int (nI (sk t s.1)))] w3) R (F2'.trans (a3.mono (fun κ i k q => by unfold PCa at q; unfold  PCr; omega))) ?_
      rw [start, e_X8_readValue_49]
      simp (disch := omega) only [r1, e_X8_readValue_61, r4, a1, e_X8_readValue_69, g3', true_and, and_true, false_and, and_false, beq_t, beq_f, eqN_t, eqN_f, eqL_t, eqL_f, nm1, nm2, nm1', nm2', m1z, m2z, zm1, zm2, m12, m21, lg_cmp_ge, lg_cmp_le, lg_cmp_gt, lg_cmp_lt, lg_cmp_eq, oob, oobL, neg0, negL0, natle_f, or_false, false_or, true_or, or_true, or_self, cl, clL, le_t, le_f, lt_t, lt_f, leL_t, leL_f, ltL_t, ltL_f, leM_t, leM_f, ltM_t, ltM_f, leO_t, leO_f, cond_true, cond_false, Option.bind_some, Option.bind_none, if_false, if_true, nI_1, aL1, aL2, mL1, mL2, nI_add, pk_mul, pk_m1, sL1, dL1, pk_sub, m1p1, gIs_eq, gIs_k, gIs_i, gIs_n, gIs_e, gIJ, gIR, gJI, gJR, gJs_eq, gJs_k, gJs_n, gJs_e, gRI, gRJ, gRs_eq, gRs_k, gRs_i, gRs_n, gZI, gZJ, gZR, pI_s, pJ_s, pV_s, pR_s, pR_n, oR_n, oR_s, decide_true, decide_false, not_true_eq_false, not_false_eq_true, decT, decF, Bool.true_eq_false, Bool.false_eq_true, z01, o01, z1f, z1f', zz, oo, b2i_0, b2i_n, b2i_t, b2i_f, Bool.not_true, Bool.not_false]
      exact R.b01
theorem c_step0 {x : Int32} (h1 : (x == 37) = false) (h2 : (x == 42) = false) (h3 : (x == 43) = false) (h4 : (x == 45) = false) (h5 : (x == 47) = false) (w : XW) : F_X8_stepOf [.inl (.int x)] w = some (0, w) := by
  rw [f_X8_stepOf, e_X8_stepOf_0, h1, h2, h3, h4, h5]
  simp only [cond_false, Bool.cond_self]
  rw [e_X8_stepOf_75]
  rfl
theorem c_stepOf {t : Tp} (hT : TOk2 t) (p : Nat) (w : XW) : F_X8_stepOf [.inl (.int (chS t (sk t p)))] w = some ((tkA t p).2.2, w) := by
  have nb : ∀ b c, b ≠ c → b < 256 → c < 256 → (nI b == nI c) = false := fun b c h1 h2 h3 => by
    apply beq_eq_false_iff_ne.mpr
    intro q
    exact h1 ((nI_eq (by omega) (by omega)).mp q)
  unfold tkA
  by_cases c : sk t p < t.1
  · have e1 : chS t (sk t p) = nI (t.2 (sk t p)) := if_pos c
    have hb := hT.2 _ c
    rw [if_pos c, e1]
    generalize t.2 (sk t p) = b at *
    by_cases c1 : b = 43
    · rw [if_pos c1, f_X8_stepOf, e_X8_stepOf_0]
      simp (disch := omega) only [c1, e_X8_stepOf_60, true_and, and_true, false_and, and_false, beq_t, beq_f, eqN_t, eqN_f, eqL_t, eqL_f, nm1, nm2, nm1', nm2', m1z, m2z, zm1, zm2, m12, m21, lg_cmp_ge, lg_cmp_le, lg_cmp_gt, lg_cmp_lt, lg_cmp_eq, oob, oobL, neg0, negL0, natle_f, or_false, false_or, true_or, or_true, or_self, cl, clL, le_t, le_f, lt_t, lt_f, leL_t, leL_f, ltL_t, ltL_f, leM_t, leM_f, ltM_t, ltM_f, leO_t, leO_f, cond_true, cond_false, Option.bind_some, Option.bind_none, if_false, if_true, nI_1, aL1, aL2, mL1, mL2, nI_add, pk_mul, pk_m1, sL1, dL1, pk_sub, m1p1, gIs_eq, gIs_k, gIs_i, gIs_n, gIs_e, gIJ, gIR, gJI, gJR, gJs_eq, gJs_k, gJs_n, gJs_e, gRI, gRJ, gRs_eq, gRs_k, gRs_i, gRs_n, gZI, gZJ, gZR, pI_s, pJ_s, pV_s, pR_s, pR_n, oR_n, oR_s, decide_true, decide_false, not_true_eq_false, not_false_eq_true, decT, decF, Bool.true_eq_false, Bool.false_eq_true, z01, o01, z1f, z1f', zz, oo, b2i_0, b2i_n, b2i_t, b2i_f, Bool.not_true, Bool.not_false]
    · rw [if_neg c1]
      by_cases c2 : b = 45
      · rw [if_pos c2, f_X8_stepOf, e_X8_stepOf_0]
        simp (disch := omega) only [c2, e_X8_stepOf_63, true_and, and_true, false_and, and_false, beq_t, beq_f, eqN_t, eqN_f, eqL_t, eqL_f, nm1, nm2, nm1', nm2', m1z, m2z, zm1, zm2, m12, m21, lg_cmp_ge, lg_cmp_le, lg_cmp_gt, lg_cmp_lt, lg_cmp_eq, oob, oobL, neg0, negL0, natle_f, or_false, false_or, true_or, or_true, or_self, cl, clL, le_t, le_f, lt_t, lt_f, leL_t, leL_f, ltL_t, ltL_f, leM_t, leM_f, ltM_t, ltM_f, leO_t, leO_f, cond_true, cond_false, Option.bind_some, Option.bind_none, if_false, if_true, nI_1, aL1, aL2, mL1, mL2, nI_add, pk_mul, pk_m1, sL1, dL1, pk_sub, m1p1, gIs_eq, gIs_k, gIs_i, gIs_n, gIs_e, gIJ, gIR, gJI, gJR, gJs_eq, gJs_k, gJs_n, gJs_e, gRI, gRJ, gRs_eq, gRs_k, gRs_i, gRs_n, gZI, gZJ, gZR, pI_s, pJ_s, pV_s, pR_s, pR_n, oR_n, oR_s, decide_true, decide_false, not_true_eq_false, not_false_eq_true, decT, decF, Bool.true_eq_false, Bool.false_eq_true, z01, o01, z1f, z1f', zz, oo, b2i_0, b2i_n, b2i_t, b2i_f, Bool.not_true, Bool.not_false]
      · rw [if_neg c2]
        by_cases c3 : b = 42
        · rw [if_pos c3, f_X8_stepOf, e_X8_stepOf_0]
          simp (disch := omega) only [c3, e_X8_stepOf_66, true_and, and_true, false_and, and_false, beq_t, beq_f, eqN_t, eqN_f, eqL_t, eqL_f, nm1, nm2, nm1', nm2', m1z, m2z, zm1, zm2, m12, m21, lg_cmp_ge, lg_cmp_le, lg_cmp_gt, lg_cmp_lt, lg_cmp_eq, oob, oobL, neg0, negL0, natle_f, or_false, false_or, true_or, or_true, or_self, cl, clL, le_t, le_f, lt_t, lt_f, leL_t, leL_f, ltL_t, ltL_f, leM_t, leM_f, ltM_t, ltM_f, leO_t, leO_f, cond_true, cond_false, Option.bind_some, Option.bind_none, if_false, if_true, nI_1, aL1, aL2, mL1, mL2, nI_add, pk_mul, pk_m1, sL1, dL1, pk_sub, m1p1, gIs_eq, gIs_k, gIs_i, gIs_n, gIs_e, gIJ, gIR, gJI, gJR, gJs_eq, gJs_k, gJs_n, gJs_e, gRI, gRJ, gRs_eq, gRs_k, gRs_i, gRs_n, gZI, gZJ, gZR, pI_s, pJ_s, pV_s, pR_s, pR_n, oR_n, oR_s, decide_true, decide_false, not_true_eq_false, not_false_eq_true, decT, decF, Bool.true_eq_false, Bool.false_eq_true, z01, o01, z1f, z1f', zz, oo, b2i_0, b2i_n, b2i_t, b2i_f, Bool.not_true, Bool.not_false]
        · rw [if_neg c3]
          by_cases c4 : b = 47
          · rw [if_pos c4, f_X8_stepOf, e_X8_stepOf_0]
            simp (disch := omega) only [c4, e_X8_stepOf_69, true_and, and_true, false_and, and_false, beq_t, beq_f, eqN_t, eqN_f, eqL_t, eqL_f, nm1, nm2, nm1', nm2', m1z, m2z, zm1, zm2, m12, m21, lg_cmp_ge, lg_cmp_le, lg_cmp_gt, lg_cmp_lt, lg_cmp_eq, oob, oobL, neg0, negL0, natle_f, or_false, false_or, true_or, or_true, or_self, cl, clL, le_t, le_f, lt_t, lt_f, leL_t, leL_f, ltL_t, ltL_f, leM_t, leM_f, ltM_t, ltM_f, leO_t, leO_f, cond_true, cond_false, Option.bind_some, Option.bind_none, if_false, if_true, nI_1, aL1, aL2, mL1, mL2, nI_add, pk_mul, pk_m1, sL1, dL1, pk_sub, m1p1, gIs_eq, gIs_k, gIs_i, gIs_n, gIs_e, gIJ, gIR, gJI, gJR, gJs_eq, gJs_k, gJs_n, gJs_e, gRI, gRJ, gRs_eq, gRs_k, gRs_i, gRs_n, gZI, gZJ, gZR, pI_s, pJ_s, pV_s, pR_s, pR_n, oR_n, oR_s, decide_true, decide_false, not_true_eq_false, not_false_eq_true, decT, decF, Bool.true_eq_false, Bool.false_eq_true, z01, o01, z1f, z1f', zz, oo, b2i_0, b2i_n, b2i_t, b2i_f, Bool.not_true, Bool.not_false]
          · rw [if_neg c4]
            by_cases c5 : b = 37
            · rw [if_pos c5, f_X8_stepOf, e_X8_stepOf_0]
              simp (disch := omega) only [c5, e_X8_stepOf_72, true_and, and_true, false_and, and_false, beq_t, beq_f, eqN_t, eqN_f, eqL_t, eqL_f, nm1, nm2, nm1', nm2', m1z, m2z, zm1, zm2, m12, m21, lg_cmp_ge, lg_cmp_le, lg_cmp_gt, lg_cmp_lt, lg_cmp_eq, oob, oobL, neg0, negL0, natle_f, or_false, false_or, true_or, or_true, or_self, cl, clL, le_t, le_f, lt_t, lt_f, leL_t, leL_f, ltL_t, ltL_f, leM_t, leM_f, ltM_t, ltM_f, leO_t, leO_f, cond_true, cond_false, Option.bind_some, Option.bind_none, if_false, if_true, nI_1, aL1, aL2, mL1, mL2, nI_add, pk_mul, pk_m1, sL1, dL1, pk_sub, m1p1, gIs_eq, gIs_k, gIs_i, gIs_n, gIs_e, gIJ, gIR, gJI, gJR, gJs_eq, gJs_k, gJs_n, gJs_e, gRI, gRJ, gRs_eq, gRs_k, gRs_i, gRs_n, gZI, gZJ, gZR, pI_s, pJ_s, pV_s, pR_s, pR_n, oR_n, oR_s, decide_true, decide_false, not_true_eq_false, not_false_eq_true, decT, decF, Bool.true_eq_false, Bool.false_eq_true, z01, o01, z1f, z1f', zz, oo, b2i_0, b2i_n, b2i_t, b2i_f, Bool.not_true, Bool.not_false]
            · rw [if_neg c5]
              exact c_step0 (nb b 37 c5 hb (by omega)) (nb b 42 c3 hb (by omega)) (nb b 43 c1 hb (by omega)) (nb b 45 c2 hb (by omega)) (nb b 47 c4 hb (by omega)) w
  · have e1 : chS t (sk t p) = -1 := if_neg c
    rw [if_neg c, e1]
    exact c_step0 (by decide) (by decide) (by decide) (by decide) (by decide) w
def wtS (s : St) (c : Int32) : St := if c = 0 then s else adS s c
theorem sB_as {α β γ : Type} (x : Nat ⊕ α) (f : α → Nat ⊕ β) (g : β → Nat ⊕ γ) : sB (sB x f) g = sB x (fun a => sB (f a) g) := by
  cases x <;> rfl
theorem c_sumloop {t : Tp} (hT : TOk2 t) : ∀ (m i : Nat) (wt : Int32) (s : St) (w : XW), t.1 - s.1 = m → CRt w t s → s.2.1 ≤ 60 → s.2.2.length + (if wt = 0 then 0 else 1) ≤ s.1 → i < s.1 →
    RCr ((q_X8_readSum_14 wt (nI i) w).bind pI) w t (sB (tlS' t (vlS t) (tkA t) s) (fun s' => slS' t (vlS t) (tkA t) (wtS s' wt))) := by
  have h4 := hT.1
  have hV := vl_ok hT
  have hK := tkA_ok t
  intro m
  induction m using Nat.strongRecOn with
  | ind m ih =>
    intro i wt s w hm h hn hl hi
    have hp := h.1.2.2
    have hk := sk_le hp
    obtain ⟨w1, k1, k2, k3⟩ := c_sign hT h.1
    have F1 : Fr PCr w w1 := k3.mono (fun κ i k q => by unfold PT2 at q; unfold  PCr; omega)
    have C1 : CRt w1 t (sk t s.1, s.2) := h.at k3 (fun κ k q => by unfold PT2; omega) k2
    have so := c_stepOf hT s.1 w1
    have g2 := k2.2.1
    have etk := (hK s.1 hp).2
    have ek := sk_sk hp
    -- what waits is added, then the rest
    have lay : ∀ u v : Int32, (∀ x, wt = 0 → q_X8_readSum_49 wt (nI i) u v x = q_X8_readSum_72 0 (nI i) u v x) → (∀ x, ¬ wt = 0 → q_X8_readSum_49 wt (nI i) u v x = q_X8_readSum_65 wt (nI i) u v x) → ∃ w2, q_X8_readSum_49 wt (nI i) u v w1 = q_X8_readSum_72 0 (nI i) u v w2 ∧ Fr PCr w w2 ∧ CRt w2 t (wtS (sk t s.1, s.2) wt) ∧ gI w2 9 0 2 = nI (sk t s.1) := by
      intro u v e0 e1
      unfold wtS
      by_cases z : wt = 0
      · rw [if_pos z]
        exact ⟨w1, e0 w1 z, F1, C1, g2⟩
      · rw [if_neg z] at hl ⊢
        obtain ⟨w2, a1, a2, a3⟩ := c_add C1 (by show s.2.2.length < 400; omega) wt
        refine ⟨w2, ?_, F1.trans (a3.mono (fun κ i k q => by unfold PCa at q; unfold  PCr; omega)), a2, a2.1.2.1⟩
        rw [e1 w1 z, e_X8_readSum_65]
        simp (disch := omega) only [a1, true_and, and_true, false_and, and_false, beq_t, beq_f, eqN_t, eqN_f, eqL_t, eqL_f, nm1, nm2, nm1', nm2', m1z, m2z, zm1, zm2, m12, m21, lg_cmp_ge, lg_cmp_le, lg_cmp_gt, lg_cmp_lt, lg_cmp_eq, oob, oobL, neg0, negL0, natle_f, or_false, false_or, true_or, or_true, or_self, cl, clL, le_t, le_f, lt_t, lt_f, leL_t, leL_f, ltL_t, ltL_f, leM_t, leM_f, ltM_t, ltM_f, leO_t, leO_f, cond_true, cond_false, Option.bind_some, Option.bind_none, if_false, if_true, nI_1, aL1, aL2, mL1, mL2, nI_add, pk_mul, pk_m1, sL1, dL1, pk_sub, m1p1, gIs_eq, gIs_k, gIs_i, gIs_n, gIs_e, gIJ, gIR, gJI, gJR, gJs_eq, gJs_k, gJs_n, gJs_e, gRI, gRJ, gRs_eq, gRs_k, gRs_i, gRs_n, gZI, gZJ, gZR, pI_s, pJ_s, pV_s, pR_s, pR_n, oR_n, oR_s, decide_true, decide_false, not_true_eq_false, not_false_eq_true, decT, decF, Bool.true_eq_false, Bool.false_eq_true, z01, o01, z1f, z1f', zz, oo, b2i_0, b2i_n, b2i_t, b2i_f, Bool.not_true, Bool.not_false]
    rcases tkA_cases t s.1 with c | ⟨c, c1⟩
    · rw [c] at so
      have n1 : ¬ (tkA t s.1).1 = 1 := by rw [c]; decide
      have n2 : ¬ (tkA t s.1).1 = 2 := by rw [c]; decide
      rw [tl_0 hp n1]
      have e20 : ((0 : Int32) = -20) = False := by decide
      have e21 : ((0 : Int32) = -21) = False := by decide
      obtain ⟨w2, l1, l2, l3, l4⟩ := lay 0 0 (fun x z => by rw [e_X8_readSum_49, z]; simp (disch := omega) only [true_and, and_true, false_and, and_false, beq_t, beq_f, eqN_t, eqN_f, eqL_t, eqL_f, nm1, nm2, nm1', nm2', m1z, m2z, zm1, zm2, m12, m21, lg_cmp_ge, lg_cmp_le, lg_cmp_gt, lg_cmp_lt, lg_cmp_eq, oob, oobL, neg0, negL0, natle_f, or_false, false_or, true_or, or_true, or_self, cl, clL, le_t, le_f, lt_t, lt_f, leL_t, leL_f, ltL_t, ltL_f, leM_t, leM_f, ltM_t, ltM_f, leO_t, leO_f, cond_true, cond_false, Option.bind_some, Option.bind_none, if_false, if_true, nI_1, aL1, aL2, mL1, mL2, nI_add, pk_mul, pk_m1, sL1, dL1, pk_sub, m1p1, gIs_eq, gIs_k, gIs_i, gIs_n, gIs_e, gIJ, gIR, gJI, gJR, gJs_eq, gJs_k, gJs_n, gJs_e, gRI, gRJ, gRs_eq, gRs_k, gRs_i, gRs_n, gZI, gZJ, gZR, pI_s, pJ_s, pV_s, pR_s, pR_n, oR_n, oR_s, decide_true, decide_false, not_true_eq_false, not_false_eq_true, decT, decF, Bool.true_eq_false, Bool.false_eq_true, z01, o01, z1f, z1f', zz, oo, b2i_0, b2i_n, b2i_t, b2i_f, Bool.not_true, Bool.not_false]) (fun x z => by rw [e_X8_readSum_49]; simp (disch := omega) only [z, e_X8_readSum_55, e_X8_readSum_60, true_and, and_true, false_and, and_false, beq_t, beq_f, eqN_t, eqN_f, eqL_t, eqL_f, nm1, nm2, nm1', nm2', m1z, m2z, zm1, zm2, m12, m21, lg_cmp_ge, lg_cmp_le, lg_cmp_gt, lg_cmp_lt, lg_cmp_eq, oob, oobL, neg0, negL0, natle_f, or_false, false_or, true_or, or_true, or_self, cl, clL, le_t, le_f, lt_t, lt_f, leL_t, leL_f, ltL_t, ltL_f, leM_t, leM_f, ltM_t, ltM_f, leO_t, leO_f, cond_true, cond_false, Option.bind_some, Option.bind_none, if_false, if_true, nI_1, aL1, aL2, mL1, mL2, nI_add, pk_mul, pk_m1, sL1, dL1, pk_sub, m1p1, gIs_eq, gIs_k, gIs_i, gIs_n, gIs_e, gIJ, gIR, gJI, gJR, gJs_eq, gJs_k, gJs_n, gJs_e, gRI, gRJ, gRs_eq, gRs_k, gRs_i, gRs_n, gZI, gZJ, gZR, pI_s, pJ_s, pV_s, pR_s, pR_n, oR_n, oR_s, decide_true, decide_false, not_true_eq_false, not_false_eq_true, decT, decF, Bool.true_eq_false, Bool.false_eq_true, z01, o01, z1f, z1f', zz, oo, b2i_0, b2i_n, b2i_t, b2i_f, Bool.not_true, Bool.not_false])
      have ep : (wtS (sk t s.1, s.2) wt).1 = sk t s.1 := by unfold wtS; split <;> rfl
      have r0 : slS' t (vlS t) (tkA t) (wtS (sk t s.1, s.2) wt) = .inr (wtS (sk t s.1, s.2) wt) := by
        rw [sl_0 (by rw [ep]; exact hk.2) (by rw [ep, etk]; exact n2), ep, ek]
        unfold wtS
        split <;> rfl
      show RCr _ w t (slS' t (vlS t) (tkA t) (wtS (sk t s.1, s.2) wt))
      rw [r0]
      refine ⟨w2, l2, ?_, l3⟩
      ((try dsimp only); rw [e_X8_readSum_14]; simp (disch := omega) only [e_X8_readSum_21, k1, so, e20, e21, e_X8_readSum_37, e_X8_readSum_48, true_and, and_true, false_and, and_false, beq_t, beq_f, eqN_t, eqN_f, eqL_t, eqL_f, nm1, nm2, nm1', nm2', m1z, m2z, zm1, zm2, m12, m21, lg_cmp_ge, lg_cmp_le, lg_cmp_gt, lg_cmp_lt, lg_cmp_eq, oob, oobL, neg0, negL0, natle_f, or_false, false_or, true_or, or_true, or_self, cl, clL, le_t, le_f, lt_t, lt_f, leL_t, leL_f, ltL_t, ltL_f, leM_t, leM_f, ltM_t, ltM_f, leO_t, leO_f, cond_true, cond_false, Option.bind_some, Option.bind_none, if_false, if_true, nI_1, aL1, aL2, mL1, mL2, nI_add, pk_mul, pk_m1, sL1, dL1, pk_sub, m1p1, gIs_eq, gIs_k, gIs_i, gIs_n, gIs_e, gIJ, gIR, gJI, gJR, gJs_eq, gJs_k, gJs_n, gJs_e, gRI, gRJ, gRs_eq, gRs_k, gRs_i, gRs_n, gZI, gZJ, gZR, pI_s, pJ_s, pV_s, pR_s, pR_n, oR_n, oR_s, decide_true, decide_false, not_true_eq_false, not_false_eq_true, decT, decF, Bool.true_eq_false, Bool.false_eq_true, z01, o01, z1f, z1f', zz, oo, b2i_0, b2i_n, b2i_t, b2i_f, Bool.not_true, Bool.not_false])
      rw [l1]
      simp (disch := omega) only [e_X8_readSum_72, e_X8_readSum_77, true_and, and_true, false_and, and_false, beq_t, beq_f, eqN_t, eqN_f, eqL_t, eqL_f, nm1, nm2, nm1', nm2', m1z, m2z, zm1, zm2, m12, m21, lg_cmp_ge, lg_cmp_le, lg_cmp_gt, lg_cmp_lt, lg_cmp_eq, oob, oobL, neg0, negL0, natle_f, or_false, false_or, true_or, or_true, or_self, cl, clL, le_t, le_f, lt_t, lt_f, leL_t, leL_f, ltL_t, ltL_f, leM_t, leM_f, ltM_t, ltM_f, leO_t, leO_f, cond_true, cond_false, Option.bind_some, Option.bind_none, if_false, if_true, nI_1, aL1, aL2, mL1, mL2, nI_add, pk_mul, pk_m1, sL1, dL1, pk_sub, m1p1, gIs_eq, gIs_k, gIs_i, gIs_n, gIs_e, gIJ, gIR, gJI, gJR, gJs_eq, gJs_k, gJs_n, gJs_e, gRI, gRJ, gRs_eq, gRs_k, gRs_i, gRs_n, gZI, gZJ, gZR, pI_s, pJ_s, pV_s, pR_s, pR_n, oR_n, oR_s, decide_true, decide_false, not_true_eq_false, not_false_eq_true, decT, decF, Bool.true_eq_false, Bool.false_eq_true, z01, o01, z1f, z1f', zz, oo, b2i_0, b2i_n, b2i_t, b2i_f, Bool.not_true, Bool.not_false]
    · have kind : ((tkA t s.1).1 = 2 ∧ (q_X8_readSum_14 wt (nI i) w) = q_X8_readSum_49 wt (nI i) (tkA t s.1).2.2 1 w1) ∨ ((tkA t s.1).1 = 1 ∧ (q_X8_readSum_14 wt (nI i) w) = q_X8_readSum_49 wt (nI i) (tkA t s.1).2.2 0 w1) := by
        have e20 : ((-21 : Int32) = -20) = False := by decide
        have d1 : ((-22 : Int32) = -20) = False ∧ ((-22 : Int32) = -21) = False := by decide
        have d2 : ((-23 : Int32) = -20) = False ∧ ((-23 : Int32) = -21) = False := by decide
        have d3 : ((-24 : Int32) = -20) = False ∧ ((-24 : Int32) = -21) = False := by decide
        rcases c1 with c1 | c1 | c1 | c1 | c1
        · left
          rw [c1.2] at so ⊢
          exact ⟨rfl, by ((try dsimp only); rw [e_X8_readSum_14]; simp (disch := omega) only [e_X8_readSum_21, k1, so, e_X8_readSum_44, true_and, and_true, false_and, and_false, beq_t, beq_f, eqN_t, eqN_f, eqL_t, eqL_f, nm1, nm2, nm1', nm2', m1z, m2z, zm1, zm2, m12, m21, lg_cmp_ge, lg_cmp_le, lg_cmp_gt, lg_cmp_lt, lg_cmp_eq, oob, oobL, neg0, negL0, natle_f, or_false, false_or, true_or, or_true, or_self, cl, clL, le_t, le_f, lt_t, lt_f, leL_t, leL_f, ltL_t, ltL_f, leM_t, leM_f, ltM_t, ltM_f, leO_t, leO_f, cond_true, cond_false, Option.bind_some, Option.bind_none, if_false, if_true, nI_1, aL1, aL2, mL1, mL2, nI_add, pk_mul, pk_m1, sL1, dL1, pk_sub, m1p1, gIs_eq, gIs_k, gIs_i, gIs_n, gIs_e, gIJ, gIR, gJI, gJR, gJs_eq, gJs_k, gJs_n, gJs_e, gRI, gRJ, gRs_eq, gRs_k, gRs_i, gRs_n, gZI, gZJ, gZR, pI_s, pJ_s, pV_s, pR_s, pR_n, oR_n, oR_s, decide_true, decide_false, not_true_eq_false, not_false_eq_true, decT, decF, Bool.true_eq_false, Bool.false_eq_true, z01, o01, z1f, z1f', zz, oo, b2i_0, b2i_n, b2i_t, b2i_f, Bool.not_true, Bool.not_false])⟩
        · left
          rw [c1.2] at so ⊢
          exact ⟨rfl, by ((try dsimp only); rw [e_X8_readSum_14]; simp (disch := omega) only [e_X8_readSum_21, k1, so, e20, e_X8_readSum_37, e_X8_readSum_44, true_and, and_true, false_and, and_false, beq_t, beq_f, eqN_t, eqN_f, eqL_t, eqL_f, nm1, nm2, nm1', nm2', m1z, m2z, zm1, zm2, m12, m21, lg_cmp_ge, lg_cmp_le, lg_cmp_gt, lg_cmp_lt, lg_cmp_eq, oob, oobL, neg0, negL0, natle_f, or_false, false_or, true_or, or_true, or_self, cl, clL, le_t, le_f, lt_t, lt_f, leL_t, leL_f, ltL_t, ltL_f, leM_t, leM_f, ltM_t, ltM_f, leO_t, leO_f, cond_true, cond_false, Option.bind_some, Option.bind_none, if_false, if_true, nI_1, aL1, aL2, mL1, mL2, nI_add, pk_mul, pk_m1, sL1, dL1, pk_sub, m1p1, gIs_eq, gIs_k, gIs_i, gIs_n, gIs_e, gIJ, gIR, gJI, gJR, gJs_eq, gJs_k, gJs_n, gJs_e, gRI, gRJ, gRs_eq, gRs_k, gRs_i, gRs_n, gZI, gZJ, gZR, pI_s, pJ_s, pV_s, pR_s, pR_n, oR_n, oR_s, decide_true, decide_false, not_true_eq_false, not_false_eq_true, decT, decF, Bool.true_eq_false, Bool.false_eq_true, z01, o01, z1f, z1f', zz, oo, b2i_0, b2i_n, b2i_t, b2i_f, Bool.not_true, Bool.not_false])⟩
        · right
          rw [c1.2] at so ⊢
          exact ⟨rfl, by ((try dsimp only); rw [e_X8_readSum_14]; simp (disch := omega) only [e_X8_readSum_21, k1, so, d1.1, d1.2, e_X8_readSum_37, e_X8_readSum_48, true_and, and_true, false_and, and_false, beq_t, beq_f, eqN_t, eqN_f, eqL_t, eqL_f, nm1, nm2, nm1', nm2', m1z, m2z, zm1, zm2, m12, m21, lg_cmp_ge, lg_cmp_le, lg_cmp_gt, lg_cmp_lt, lg_cmp_eq, oob, oobL, neg0, negL0, natle_f, or_false, false_or, true_or, or_true, or_self, cl, clL, le_t, le_f, lt_t, lt_f, leL_t, leL_f, ltL_t, ltL_f, leM_t, leM_f, ltM_t, ltM_f, leO_t, leO_f, cond_true, cond_false, Option.bind_some, Option.bind_none, if_false, if_true, nI_1, aL1, aL2, mL1, mL2, nI_add, pk_mul, pk_m1, sL1, dL1, pk_sub, m1p1, gIs_eq, gIs_k, gIs_i, gIs_n, gIs_e, gIJ, gIR, gJI, gJR, gJs_eq, gJs_k, gJs_n, gJs_e, gRI, gRJ, gRs_eq, gRs_k, gRs_i, gRs_n, gZI, gZJ, gZR, pI_s, pJ_s, pV_s, pR_s, pR_n, oR_n, oR_s, decide_true, decide_false, not_true_eq_false, not_false_eq_true, decT, decF, Bool.true_eq_false, Bool.false_eq_true, z01, o01, z1f, z1f', zz, oo, b2i_0, b2i_n, b2i_t, b2i_f, Bool.not_true, Bool.not_false])⟩
        · right
          rw [c1.2] at so ⊢
          exact ⟨rfl, by ((try dsimp only); rw [e_X8_readSum_14]; simp (disch := omega) only [e_X8_readSum_21, k1, so, d2.1, d2.2, e_X8_readSum_37, e_X8_readSum_48, true_and, and_true, false_and, and_false, beq_t, beq_f, eqN_t, eqN_f, eqL_t, eqL_f, nm1, nm2, nm1', nm2', m1z, m2z, zm1, zm2, m12, m21, lg_cmp_ge, lg_cmp_le, lg_cmp_gt, lg_cmp_lt, lg_cmp_eq, oob, oobL, neg0, negL0, natle_f, or_false, false_or, true_or, or_true, or_self, cl, clL, le_t, le_f, lt_t, lt_f, leL_t, leL_f, ltL_t, ltL_f, leM_t, leM_f, ltM_t, ltM_f, leO_t, leO_f, cond_true, cond_false, Option.bind_some, Option.bind_none, if_false, if_true, nI_1, aL1, aL2, mL1, mL2, nI_add, pk_mul, pk_m1, sL1, dL1, pk_sub, m1p1, gIs_eq, gIs_k, gIs_i, gIs_n, gIs_e, gIJ, gIR, gJI, gJR, gJs_eq, gJs_k, gJs_n, gJs_e, gRI, gRJ, gRs_eq, gRs_k, gRs_i, gRs_n, gZI, gZJ, gZR, pI_s, pJ_s, pV_s, pR_s, pR_n, oR_n, oR_s, decide_true, decide_false, not_true_eq_false, not_false_eq_true, decT, decF, Bool.true_eq_false, Bool.false_eq_true, z01, o01, z1f, z1f', zz, oo, b2i_0, b2i_n, b2i_t, b2i_f, Bool.not_true, Bool.not_false])⟩
        · right
          rw [c1.2] at so ⊢
          exact ⟨rfl, by ((try dsimp only); rw [e_X8_readSum_14]; simp (disch := omega) only [e_X8_readSum_21, k1, so, d3.1, d3.2, e_X8_readSum_37, e_X8_readSum_48, true_and, and_true, false_and, and_false, beq_t, beq_f, eqN_t, eqN_f, eqL_t, eqL_f, nm1, nm2, nm1', nm2', m1z, m2z, zm1, zm2, m12, m21, lg_cmp_ge, lg_cmp_le, lg_cmp_gt, lg_cmp_lt, lg_cmp_eq, oob, oobL, neg0, negL0, natle_f, or_false, false_or, true_or, or_true, or_self, cl, clL, le_t, le_f, lt_t, lt_f, leL_t, leL_f, ltL_t, ltL_f, leM_t, leM_f, ltM_t, ltM_f, leO_t, leO_f, cond_true, cond_false, Option.bind_some, Option.bind_none, if_false, if_true, nI_1, aL1, aL2, mL1, mL2, nI_add, pk_mul, pk_m1, sL1, dL1, pk_sub, m1p1, gIs_eq, gIs_k, gIs_i, gIs_n, gIs_e, gIJ, gIR, gJI, gJR, gJs_eq, gJs_k, gJs_n, gJs_e, gRI, gRJ, gRs_eq, gRs_k, gRs_i, gRs_n, gZI, gZJ, gZR, pI_s, pJ_s, pV_s, pR_s, pR_n, oR_n, oR_s, decide_true, decide_false, not_true_eq_false, not_false_eq_true, decT, decF, Bool.true_eq_false, Bool.false_eq_true, z01, o01, z1f, z1f', zz, oo, b2i_0, b2i_n, b2i_t, b2i_f, Bool.not_true, Bool.not_false])⟩
      have b1 : (tkA t s.1).2.1 = sk t s.1 + 1 := by rcases c1 with c1 | c1 | c1 | c1 | c1 <;> rw [c1.2]
      have o0 : ¬ (tkA t s.1).2.2 = 0 := by rcases c1 with c1 | c1 | c1 | c1 | c1 <;> rw [c1.2] <;> (dsimp only; decide)
      rcases kind with ⟨n2, kd⟩ | ⟨n1, kd⟩
      · -- a loose sign
        have n1 : ¬ (tkA t s.1).1 = 1 := by omega
        rw [tl_0 hp n1]
        obtain ⟨w2, l1, l2, l3, l4⟩ := lay (tkA t s.1).2.2 1 (fun x z => by rw [e_X8_readSum_49, z]; simp (disch := omega) only [true_and, and_true, false_and, and_false, beq_t, beq_f, eqN_t, eqN_f, eqL_t, eqL_f, nm1, nm2, nm1', nm2', m1z, m2z, zm1, zm2, m12, m21, lg_cmp_ge, lg_cmp_le, lg_cmp_gt, lg_cmp_lt, lg_cmp_eq, oob, oobL, neg0, negL0, natle_f, or_false, false_or, true_or, or_true, or_self, cl, clL, le_t, le_f, lt_t, lt_f, leL_t, leL_f, ltL_t, ltL_f, leM_t, leM_f, ltM_t, ltM_f, leO_t, leO_f, cond_true, cond_false, Option.bind_some, Option.bind_none, if_false, if_true, nI_1, aL1, aL2, mL1, mL2, nI_add, pk_mul, pk_m1, sL1, dL1, pk_sub, m1p1, gIs_eq, gIs_k, gIs_i, gIs_n, gIs_e, gIJ, gIR, gJI, gJR, gJs_eq, gJs_k, gJs_n, gJs_e, gRI, gRJ, gRs_eq, gRs_k, gRs_i, gRs_n, gZI, gZJ, gZR, pI_s, pJ_s, pV_s, pR_s, pR_n, oR_n, oR_s, decide_true, decide_false, not_true_eq_false, not_false_eq_true, decT, decF, Bool.true_eq_false, Bool.false_eq_true, z01, o01, z1f, z1f', zz, oo, b2i_0, b2i_n, b2i_t, b2i_f, Bool.not_true, Bool.not_false]) (fun x z => by rw [e_X8_readSum_49]; simp (disch := omega) only [z, e_X8_readSum_55, true_and, and_true, false_and, and_false, beq_t, beq_f, eqN_t, eqN_f, eqL_t, eqL_f, nm1, nm2, nm1', nm2', m1z, m2z, zm1, zm2, m12, m21, lg_cmp_ge, lg_cmp_le, lg_cmp_gt, lg_cmp_lt, lg_cmp_eq, oob, oobL, neg0, negL0, natle_f, or_false, false_or, true_or, or_true, or_self, cl, clL, le_t, le_f, lt_t, lt_f, leL_t, leL_f, ltL_t, ltL_f, leM_t, leM_f, ltM_t, ltM_f, leO_t, leO_f, cond_true, cond_false, Option.bind_some, Option.bind_none, if_false, if_true, nI_1, aL1, aL2, mL1, mL2, nI_add, pk_mul, pk_m1, sL1, dL1, pk_sub, m1p1, gIs_eq, gIs_k, gIs_i, gIs_n, gIs_e, gIJ, gIR, gJI, gJR, gJs_eq, gJs_k, gJs_n, gJs_e, gRI, gRJ, gRs_eq, gRs_k, gRs_i, gRs_n, gZI, gZJ, gZR, pI_s, pJ_s, pV_s, pR_s, pR_n, oR_n, oR_s, decide_true, decide_false, not_true_eq_false, not_false_eq_true, decT, decF, Bool.true_eq_false, Bool.false_eq_true, z01, o01, z1f, z1f', zz, oo, b2i_0, b2i_n, b2i_t, b2i_f, Bool.not_true, Bool.not_false])
        have ep : (wtS (sk t s.1, s.2) wt).1 = sk t s.1 := by unfold wtS; split <;> rfl
        have en : (wtS (sk t s.1, s.2) wt).2.1 = s.2.1 := by unfold wtS; split <;> rfl
        have el : (wtS (sk t s.1, s.2) wt).2.2.length = s.2.2.length + (if wt = 0 then 0 else 1) := by
          unfold wtS
          by_cases z : wt = 0
          · rw [if_pos z, if_pos z]; rfl
          · rw [if_neg z, if_neg z]
            show (s.2.2 ++ [wt]).length = _
            rw [List.length_append, List.length_singleton]
        show RCr _ w t (slS' t (vlS t) (tkA t) (wtS (sk t s.1, s.2) wt))
        generalize wtS (sk t s.1, s.2) wt = s2 at *
        have r0 : slS' t (vlS t) (tkA t) s2 = sB (vlS t (sk t s.1 + 1, s2.2)) (fun s'' => sB (tlS' t (vlS t) (tkA t) s'') (fun s' => slS' t (vlS t) (tkA t) (wtS s' (tkA t s.1).2.2))) := by
          rw [sl_2 hV hK (by rw [ep]; exact hk.2) (by rw [en]; exact hn) (by rw [ep, etk]; exact n2), ep, etk, b1, sB_as]
          unfold wtS
          simp only [if_neg o0]
        rw [r0]
        have F3 : Fr (fun κ _ k => κ = 9 ∧ k = 2) w2 (sI w2 9 0 2 (nI (sk t s.1 + 1))) := (Fr.refl _ _).sI ⟨rfl, rfl⟩
        have C3 : CRt (sI w2 9 0 2 (nI (sk t s.1 + 1))) t (sk t s.1 + 1, s2.2) := l3.at F3 (fun κ k q => by omega) ⟨l3.1.1.fr F3 (fun κ k q => by omega), gIs_eq, c⟩
        have R := c_value hT C3 (by show s2.2.1 ≤ 60; omega) (by show s2.2.2.length ≤ sk t s.1 + 1; omega)
        have F4 : Fr PCr w (sI w2 9 0 2 (nI (sk t s.1 + 1))) := l2.trans (F3.mono (fun κ i k q => by unfold PCr; omega))
        refine RCr.fr (w1 := sI w2 9 0 2 (nI (sk t s.1 + 1))) (R.then (F2 := (q_X8_readSum_14 wt (nI i) w).bind pI) (fun w' hw => ?_) (fun s' w' hs hw hF hC => ?_)) F4 rfl
        · rw [kd, l1, e_X8_readSum_72]
          simp (disch := omega) only [o0, e_X8_readSum_79, l4, hw, e_X8_readSum_97, true_and, and_true, false_and, and_false, beq_t, beq_f, eqN_t, eqN_f, eqL_t, eqL_f, nm1, nm2, nm1', nm2', m1z, m2z, zm1, zm2, m12, m21, lg_cmp_ge, lg_cmp_le, lg_cmp_gt, lg_cmp_lt, lg_cmp_eq, oob, oobL, neg0, negL0, natle_f, or_false, false_or, true_or, or_true, or_self, cl, clL, le_t, le_f, lt_t, lt_f, leL_t, leL_f, ltL_t, ltL_f, leM_t, leM_f, ltM_t, ltM_f, leO_t, leO_f, cond_true, cond_false, Option.bind_some, Option.bind_none, if_false, if_true, nI_1, aL1, aL2, mL1, mL2, nI_add, pk_mul, pk_m1, sL1, dL1, pk_sub, m1p1, gIs_eq, gIs_k, gIs_i, gIs_n, gIs_e, gIJ, gIR, gJI, gJR, gJs_eq, gJs_k, gJs_n, gJs_e, gRI, gRJ, gRs_eq, gRs_k, gRs_i, gRs_n, gZI, gZJ, gZR, pI_s, pJ_s, pV_s, pR_s, pR_n, oR_n, oR_s, decide_true, decide_false, not_true_eq_false, not_false_eq_true, decT, decF, Bool.true_eq_false, Bool.false_eq_true, z01, o01, z1f, z1f', zz, oo, b2i_0, b2i_n, b2i_t, b2i_f, Bool.not_true, Bool.not_false]
        · have gv := (hV (sk t s.1 + 1, s2.2) c (by show s2.2.1 ≤ 60; omega)).1 s' hs
          have hlt : sk t s.1 + 1 < s'.1 := gv.lt
          have hle : s'.2.2.length + (sk t s.1 + 1) ≤ s2.2.2.length + s'.1 := gv.len.1
          have e5 : q_X8_readSum_14 wt (nI i) w = q_X8_readSum_14 (tkA t s.1).2.2 (nI (i + 1)) w' := by
            rw [kd, l1, e_X8_readSum_72]
            simp (disch := omega) only [o0, e_X8_readSum_79, l4, hw, e_X8_readSum_99, e_X8_readSum_104, e_X8_readSum_116, true_and, and_true, false_and, and_false, beq_t, beq_f, eqN_t, eqN_f, eqL_t, eqL_f, nm1, nm2, nm1', nm2', m1z, m2z, zm1, zm2, m12, m21, lg_cmp_ge, lg_cmp_le, lg_cmp_gt, lg_cmp_lt, lg_cmp_eq, oob, oobL, neg0, negL0, natle_f, or_false, false_or, true_or, or_true, or_self, cl, clL, le_t, le_f, lt_t, lt_f, leL_t, leL_f, ltL_t, ltL_f, leM_t, leM_f, ltM_t, ltM_f, leO_t, leO_f, cond_true, cond_false, Option.bind_some, Option.bind_none, if_false, if_true, nI_1, aL1, aL2, mL1, mL2, nI_add, pk_mul, pk_m1, sL1, dL1, pk_sub, m1p1, gIs_eq, gIs_k, gIs_i, gIs_n, gIs_e, gIJ, gIR, gJI, gJR, gJs_eq, gJs_k, gJs_n, gJs_e, gRI, gRJ, gRs_eq, gRs_k, gRs_i, gRs_n, gZI, gZJ, gZR, pI_s, pJ_s, pV_s, pR_s, pR_n, oR_n, oR_s, decide_true, decide_false, not_true_eq_false, not_false_eq_true, decT, decF, Bool.true_eq_false, Bool.false_eq_true, z01, o01, z1f, z1f', zz, oo, b2i_0, b2i_n, b2i_t, b2i_f, Bool.not_true, Bool.not_false]
          rw [e5]
          exact ih (t.1 - s'.1) (by omega) (i + 1) _ s' w' rfl hC gv.2.1 (by rw [if_neg o0]; omega) (by omega)
      · -- a tight one
        have kd2 : q_X8_readSum_14 wt (nI i) w = q_X8_readSum_72 wt (nI i) (tkA t s.1).2.2 0 w1 := by
          rw [kd, e_X8_readSum_49]
          by_cases z : wt = 0
          · simp (disch := omega) only [z, true_and, and_true, false_and, and_false, beq_t, beq_f, eqN_t, eqN_f, eqL_t, eqL_f, nm1, nm2, nm1', nm2', m1z, m2z, zm1, zm2, m12, m21, lg_cmp_ge, lg_cmp_le, lg_cmp_gt, lg_cmp_lt, lg_cmp_eq, oob, oobL, neg0, negL0, natle_f, or_false, false_or, true_or, or_true, or_self, cl, clL, le_t, le_f, lt_t, lt_f, leL_t, leL_f, ltL_t, ltL_f, leM_t, leM_f, ltM_t, ltM_f, leO_t, leO_f, cond_true, cond_false, Option.bind_some, Option.bind_none, if_false, if_true, nI_1, aL1, aL2, mL1, mL2, nI_add, pk_mul, pk_m1, sL1, dL1, pk_sub, m1p1, gIs_eq, gIs_k, gIs_i, gIs_n, gIs_e, gIJ, gIR, gJI, gJR, gJs_eq, gJs_k, gJs_n, gJs_e, gRI, gRJ, gRs_eq, gRs_k, gRs_i, gRs_n, gZI, gZJ, gZR, pI_s, pJ_s, pV_s, pR_s, pR_n, oR_n, oR_s, decide_true, decide_false, not_true_eq_false, not_false_eq_true, decT, decF, Bool.true_eq_false, Bool.false_eq_true, z01, o01, z1f, z1f', zz, oo, b2i_0, b2i_n, b2i_t, b2i_f, Bool.not_true, Bool.not_false]
          · simp (disch := omega) only [z, e_X8_readSum_55, e_X8_readSum_60, o0, true_and, and_true, false_and, and_false, beq_t, beq_f, eqN_t, eqN_f, eqL_t, eqL_f, nm1, nm2, nm1', nm2', m1z, m2z, zm1, zm2, m12, m21, lg_cmp_ge, lg_cmp_le, lg_cmp_gt, lg_cmp_lt, lg_cmp_eq, oob, oobL, neg0, negL0, natle_f, or_false, false_or, true_or, or_true, or_self, cl, clL, le_t, le_f, lt_t, lt_f, leL_t, leL_f, ltL_t, ltL_f, leM_t, leM_f, ltM_t, ltM_f, leO_t, leO_f, cond_true, cond_false, Option.bind_some, Option.bind_none, if_false, if_true, nI_1, aL1, aL2, mL1, mL2, nI_add, pk_mul, pk_m1, sL1, dL1, pk_sub, m1p1, gIs_eq, gIs_k, gIs_i, gIs_n, gIs_e, gIJ, gIR, gJI, gJR, gJs_eq, gJs_k, gJs_n, gJs_e, gRI, gRJ, gRs_eq, gRs_k, gRs_i, gRs_n, gZI, gZJ, gZR, pI_s, pJ_s, pV_s, pR_s, pR_n, oR_n, oR_s, decide_true, decide_false, not_true_eq_false, not_false_eq_true, decT, decF, Bool.true_eq_false, Bool.false_eq_true, z01, o01, z1f, z1f', zz, oo, b2i_0, b2i_n, b2i_t, b2i_f, Bool.not_true, Bool.not_false]
        rw [tl_1 hV hK hp hn n1, b1, sB_as]
        have F3 : Fr (fun κ _ k => κ = 9 ∧ k = 2) w1 (sI w1 9 0 2 (nI (sk t s.1 + 1))) := (Fr.refl _ _).sI ⟨rfl, rfl⟩
        have C3 : CRt (sI w1 9 0 2 (nI (sk t s.1 + 1))) t (sk t s.1 + 1, s.2) := h.at (k3.trans (F3.mono (fun κ i k q => by unfold PT2; omega))) (fun κ k q => by unfold PT2; omega) ⟨k2.1.fr F3 (fun κ k q => by omega), gIs_eq, c⟩
        have R := c_value hT C3 hn (by show s.2.2.length ≤ sk t s.1 + 1; omega)
        have F4 : Fr PCr w (sI w1 9 0 2 (nI (sk t s.1 + 1))) := F1.trans (F3.mono (fun κ i k q => by unfold PCr; omega))
        refine RCr.fr (w1 := sI w1 9 0 2 (nI (sk t s.1 + 1))) (R.then (F2 := (q_X8_readSum_14 wt (nI i) w).bind pI) (fun w' hw => ?_) (fun s' w' hs hw hF hC => ?_)) F4 rfl
        · rw [kd2, e_X8_readSum_72]
          simp (disch := omega) only [o0, e_X8_readSum_79, g2, hw, e_X8_readSum_97, true_and, and_true, false_and, and_false, beq_t, beq_f, eqN_t, eqN_f, eqL_t, eqL_f, nm1, nm2, nm1', nm2', m1z, m2z, zm1, zm2, m12, m21, lg_cmp_ge, lg_cmp_le, lg_cmp_gt, lg_cmp_lt, lg_cmp_eq, oob, oobL, neg0, negL0, natle_f, or_false, false_or, true_or, or_true, or_self, cl, clL, le_t, le_f, lt_t, lt_f, leL_t, leL_f, ltL_t, ltL_f, leM_t, leM_f, ltM_t, ltM_f, leO_t, leO_f, cond_true, cond_false, Option.bind_some, Option.bind_none, if_false, if_true, nI_1, aL1, aL2, mL1, mL2, nI_add, pk_mul, pk_m1, sL1, dL1, pk_sub, m1p1, gIs_eq, gIs_k, gIs_i, gIs_n, gIs_e, gIJ, gIR, gJI, gJR, gJs_eq, gJs_k, gJs_n, gJs_e, gRI, gRJ, gRs_eq, gRs_k, gRs_i, gRs_n, gZI, gZJ, gZR, pI_s, pJ_s, pV_s, pR_s, pR_n, oR_n, oR_s, decide_true, decide_false, not_true_eq_false, not_false_eq_true, decT, decF, Bool.true_eq_false, Bool.false_eq_true, z01, o01, z1f, z1f', zz, oo, b2i_0, b2i_n, b2i_t, b2i_f, Bool.not_true, Bool.not_false]
        · have gv := (hV (sk t s.1 + 1, s.2) c hn).1 s' hs
          have hlt : sk t s.1 + 1 < s'.1 := gv.lt
          have hle : s'.2.2.length + (sk t s.1 + 1) ≤ s.2.2.length + s'.1 := gv.len.1
          have hs4 := gv.1
          obtain ⟨w3, a1, a2, a3⟩ := c_add hC (by omega) (tkA t s.1).2.2
          have e5 : q_X8_readSum_14 wt (nI i) w = q_X8_readSum_14 wt (nI (i + 1)) w3 := by
            rw [kd2, e_X8_readSum_72]
            simp (disch := omega) only [o0, e_X8_readSum_79, g2, hw, e_X8_readSum_99, e_X8_readSum_110, a1, e_X8_readSum_116, true_and, and_true, false_and, and_false, beq_t, beq_f, eqN_t, eqN_f, eqL_t, eqL_f, nm1, nm2, nm1', nm2', m1z, m2z, zm1, zm2, m12, m21, lg_cmp_ge, lg_cmp_le, lg_cmp_gt, lg_cmp_lt, lg_cmp_eq, oob, oobL, neg0, negL0, natle_f, or_false, false_or, true_or, or_true, or_self, cl, clL, le_t, le_f, lt_t, lt_f, leL_t, leL_f, ltL_t, ltL_f, leM_t, leM_f, ltM_t, ltM_f, leO_t, leO_f, cond_true, cond_false, Option.bind_some, Option.bind_none, if_false, if_true, nI_1, aL1, aL2, mL1, mL2, nI_add, pk_mul, pk_m1, sL1, dL1, pk_sub, m1p1, gIs_eq, gIs_k, gIs_i, gIs_n, gIs_e, gIJ, gIR, gJI, gJR, gJs_eq, gJs_k, gJs_n, gJs_e, gRI, gRJ, gRs_eq, gRs_k, gRs_i, gRs_n, gZI, gZJ, gZR, pI_s, pJ_s, pV_s, pR_s, pR_n, oR_n, oR_s, decide_true, decide_false, not_true_eq_false, not_false_eq_true, decT, decF, Bool.true_eq_false, Bool.false_eq_true, z01, o01, z1f, z1f', zz, oo, b2i_0, b2i_n, b2i_t, b2i_f, Bool.not_true, Bool.not_false]
          rw [e5]
          have el : (adS s' (tkA t s.1).2.2).2.2.length = s'.2.2.length + 1 := by
            show (s'.2.2 ++ [_]).length = _
            rw [List.length_append, List.length_singleton]
          exact (ih (t.1 - s'.1) (by omega) (i + 1) wt (adS s' (tkA t s.1).2.2) w3 rfl a2 gv.2.1 (by rw [el]; show _ ≤ s'.1; omega) (by show i + 1 < s'.1; omega)).fr (a3.mono (fun κ i k q => by unfold PCa at q; unfold  PCr; omega)) rfl
theorem c_sum {w : XW} {t : Tp} (hT : TOk2 t) {s : St} (h : CRt w t s) (hn : s.2.1 ≤ 60) (hl : s.2.2.length ≤ s.1) : RCr (F_X8_readSum [.inr (7, 0), .inr (9, 0)] w) w t (smS t s) := by
  have hp := h.1.2.2
  have R := c_value hT h hn hl
  unfold smS suS
  rw [sB_as]
  refine R.then (fun w' hw => ?_) (fun s' w' hs hw hF hC => ?_)
  · rw [f_X8_readSum, e_X8_readSum_0]
    simp (disch := omega) only [hw, e_X8_readSum_8, true_and, and_true, false_and, and_false, beq_t, beq_f, eqN_t, eqN_f, eqL_t, eqL_f, nm1, nm2, nm1', nm2', m1z, m2z, zm1, zm2, m12, m21, lg_cmp_ge, lg_cmp_le, lg_cmp_gt, lg_cmp_lt, lg_cmp_eq, oob, oobL, neg0, negL0, natle_f, or_false, false_or, true_or, or_true, or_self, cl, clL, le_t, le_f, lt_t, lt_f, leL_t, leL_f, ltL_t, ltL_f, leM_t, leM_f, ltM_t, ltM_f, leO_t, leO_f, cond_true, cond_false, Option.bind_some, Option.bind_none, if_false, if_true, nI_1, aL1, aL2, mL1, mL2, nI_add, pk_mul, pk_m1, sL1, dL1, pk_sub, m1p1, gIs_eq, gIs_k, gIs_i, gIs_n, gIs_e, gIJ, gIR, gJI, gJR, gJs_eq, gJs_k, gJs_n, gJs_e, gRI, gRJ, gRs_eq, gRs_k, gRs_i, gRs_n, gZI, gZJ, gZR, pI_s, pJ_s, pV_s, pR_s, pR_n, oR_n, oR_s, decide_true, decide_false, not_true_eq_false, not_false_eq_true, decT, decF, Bool.true_eq_false, Bool.false_eq_true, z01, o01, z1f, z1f', zz, oo, b2i_0, b2i_n, b2i_t, b2i_f, Bool.not_true, Bool.not_false]
  · have gv := (vl_ok hT s hp hn).1 s' hs
    have hlt := gv.lt
    have hle := gv.len.1
    have e5 : F_X8_readSum [.inr (7, 0), .inr (9, 0)] w = (q_X8_readSum_14 0 (nI 0) w').bind pI := by
      rw [f_X8_readSum, e_X8_readSum_0]
      simp (disch := omega) only [hw, e_X8_readSum_10, true_and, and_true, false_and, and_false, beq_t, beq_f, eqN_t, eqN_f, eqL_t, eqL_f, nm1, nm2, nm1', nm2', m1z, m2z, zm1, zm2, m12, m21, lg_cmp_ge, lg_cmp_le, lg_cmp_gt, lg_cmp_lt, lg_cmp_eq, oob, oobL, neg0, negL0, natle_f, or_false, false_or, true_or, or_true, or_self, cl, clL, le_t, le_f, lt_t, lt_f, leL_t, leL_f, ltL_t, ltL_f, leM_t, leM_f, ltM_t, ltM_f, leO_t, leO_f, cond_true, cond_false, Option.bind_some, Option.bind_none, if_false, if_true, nI_1, aL1, aL2, mL1, mL2, nI_add, pk_mul, pk_m1, sL1, dL1, pk_sub, m1p1, gIs_eq, gIs_k, gIs_i, gIs_n, gIs_e, gIJ, gIR, gJI, gJR, gJs_eq, gJs_k, gJs_n, gJs_e, gRI, gRJ, gRs_eq, gRs_k, gRs_i, gRs_n, gZI, gZJ, gZR, pI_s, pJ_s, pV_s, pR_s, pR_n, oR_n, oR_s, decide_true, decide_false, not_true_eq_false, not_false_eq_true, decT, decF, Bool.true_eq_false, Bool.false_eq_true, z01, o01, z1f, z1f', zz, oo, b2i_0, b2i_n, b2i_t, b2i_f, Bool.not_true, Bool.not_false]
      rfl
    rw [e5]
    have := c_sumloop hT _ 0 0 s' w' rfl hC gv.2.1 (by rw [if_pos rfl]; omega) (by omega)
    exact this
