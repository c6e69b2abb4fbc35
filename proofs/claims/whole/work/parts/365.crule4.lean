/-! ===== clauses of a rule: what is so of them; the class's ===== -/
def flR (rl : Rl) : List Int32 := rl.flatMap (fun q => q.1 ++ q.2)
theorem flR_snoc (rl : Rl) (q : Cl) : flR (rl ++ [q]) = flR rl ++ (q.1 ++ q.2) := by
  unfold flR
  rw [List.flatMap_append, List.flatMap_singleton]
theorem drop_app (a b : List Int32) : (a ++ b).drop a.length = b := List.drop_left
theorem G.cok {t : Tp} {b : Bool} {s s1 : St} (h : G t [] [b] s s1) : s1.2.2 = s.2.2 ++ s1.2.2.drop s.2.2.length ∧ COk (s1.2.2.drop s.2.2.length) b ∧ 0 < (s1.2.2.drop s.2.2.length).length := by
  obtain ⟨h1, h2, c, h3, h4, h5, h6, h7⟩ := h
  rw [h3, drop_app]
  refine ⟨rfl, ⟨h5 [], by omega, h7⟩, ?_⟩
  match c, h5 with
  | [], h5 => have := h5 []; cases this
  | x :: c, _ => exact Nat.succ_pos _
theorem if_ok {t : Tp} (hT : TOk2 t) {s1 : St} (h1 : s1.1 ≤ t.1) (h2 : s1.2.1 ≤ 60) : (∀ s2, ifS t s1 = .inr s2 → s1.1 ≤ s2.1 ∧ s2.1 ≤ t.1 ∧ s2.2.1 ≤ 60 ∧ s2.2.2 = s1.2.2 ++ s2.2.2.drop s1.2.2.length ∧ (s2.2.2.drop s1.2.2.length = [] ∨ COk (s2.2.2.drop s1.2.2.length) true) ∧ s2.2.2.length + s1.1 ≤ s1.2.2.length + s2.1 ∧ (wrd t (sk t s1.1) = kIf ↔ ¬ s2.2.2.drop s1.2.2.length = [])) ∧ ∀ f, ifS t s1 = .inl f → FB f := by
  have hk := sk_le h1
  unfold ifS
  by_cases c : wrd t (sk t s1.1) = kIf
  · rw [if_pos c]
    have hl := le_le hk.2
    have te := te_ok hT 10 (le t (sk t s1.1), s1.2) hl.2 h2
    refine ⟨fun s2 h => ?_, fun f h => te.2 f h⟩
    have g := te.1 s2 h
    have g2 := g.len
    have g3 : s2.2.2.length + le t (sk t s1.1) ≤ s1.2.2.length + s2.1 := g2.1
    have g4 : le t (sk t s1.1) ≤ s2.1 := g2.2
    obtain ⟨k1, k2, k3⟩ := g.cok
    have k1 : s2.2.2 = s1.2.2 ++ s2.2.2.drop s1.2.2.length := k1
    have k2 : COk (s2.2.2.drop s1.2.2.length) true := k2
    have k3 : 0 < (s2.2.2.drop s1.2.2.length).length := k3
    exact ⟨by omega, g.1, g.2.1, k1, Or.inr k2, by omega, ⟨fun _ z => by rw [z] at k3; exact Nat.lt_irrefl _ k3, fun _ => c⟩⟩
  · rw [if_neg c]
    refine ⟨fun s2 h => ?_, fun f h => by cases h⟩
    injection h with h
    subst h
    have e : s1.2.2.drop s1.2.2.length = [] := List.drop_length
    exact ⟨hk.1, hk.2, h2, by show s1.2.2 = _ ++ s1.2.2.drop s1.2.2.length; rw [e, List.append_nil], Or.inl e, by show s1.2.2.length + s1.1 ≤ s1.2.2.length + sk t s1.1; omega, ⟨fun z => absurd z c, fun z => absurd e z⟩⟩
/-- what is so of the place, the clauses -/
def Jr (t : Tp) (s : St) (rl : Rl) : Prop := s.1 ≤ t.1 ∧ s.2.1 ≤ 60 ∧ s.2.2.length ≤ s.1 ∧ s.2.2 = flR rl ∧ rl.length ≤ 12 ∧ ROk rl
theorem ca_ok {t : Tp} (hT : TOk2 t) {s : St} {rl : Rl} (hJ : Jr t s rl) : (∀ r, caS t s rl = .inr r → Jr t r.1 r.2 ∧ r.2.length = rl.length + 1) ∧ ∀ f, caS t s rl = .inl f → FB f := by
  have h4 := hT.1
  obtain ⟨h1, h2, h3, h5, h6, h7⟩ := hJ
  have hk := sk_le h1
  have hl := le_le hk.2
  unfold caS
  by_cases c : wrd t (sk t s.1) = kTell
  · rw [if_pos c]
    by_cases c2 : rl.length < 12
    · rw [if_pos c2]
      have so := sm_ok hT (le t (sk t s.1), s.2) hl.2 h2
      refine ⟨fun r h => ?_, fun f h => ?_⟩
      · obtain ⟨s1, e1, e2⟩ := sB_inr h
        obtain ⟨s2, e3, e4⟩ := sB_inr e2
        injection e4 with e4
        subst e4
        have g := so.1 s1 e1
        obtain ⟨k1, k2, k3⟩ := g.cok
        have k1 : s1.2.2 = s.2.2 ++ s1.2.2.drop s.2.2.length := k1
        have k2 : COk (s1.2.2.drop s.2.2.length) false := k2
        have gl : s1.2.2.length + le t (sk t s.1) ≤ s.2.2.length + s1.1 := g.len.1
        obtain ⟨i1, i2, i3, i4, i5, i6, _⟩ := (if_ok hT g.1 g.2.1).1 s2 e3
        refine ⟨⟨i2, i3, ?_, ?_, ?_, fun q hq => ?_⟩, ?_⟩
        · show s2.2.2.length ≤ s2.1; omega
        · rw [flR_snoc]
          show s2.2.2 = flR rl ++ (s1.2.2.drop s.2.2.length ++ s2.2.2.drop s1.2.2.length)
          rw [← List.append_assoc, ← h5, ← k1]
          exact i4
        · rw [List.length_append, List.length_singleton]; omega
        · rcases List.mem_append.mp hq with z | z
          · exact h7 q z
          · rw [List.mem_singleton.mp z]; exact ⟨k2, i5⟩
        · show (rl ++ [_]).length = _
          rw [List.length_append, List.length_singleton]
      · rcases sB_inl h with h | ⟨s1, e1, e2⟩
        · exact so.2 f h
        · have g := so.1 s1 e1
          rcases sB_inl e2 with h | ⟨s2, e3, e4⟩
          · exact (if_ok hT g.1 g.2.1).2 f h
          · cases e4
    · rw [if_neg c2]
      exact ⟨fun r h => (by cases h), fun f h => by injection h with h; unfold FB; omega⟩
  · rw [if_neg c]
    exact ⟨fun r h => (by cases h), fun f h => by injection h with h; unfold FB; omega⟩
theorem ca12 {t : Tp} {s : St} {rl : Rl} (h : rl.length = 12) (r : St × Rl) : ¬ caS t s rl = .inr r := by
  unfold caS
  by_cases c : wrd t (sk t s.1) = kTell
  · rw [if_pos c, if_neg (by omega)]; intro z; cases z
  · rw [if_neg c]; intro z; cases z
/-- where the class keeps the bounds of clauses -/
def BdAt (g : Nat → Int32) : Nat → Nat → Rl → Prop
  | _, _, [] => True
  | ci, o, (c, tt) :: r => (g (3 * ci) = nI o ∧ g (3 * ci + 1) = nI (o + c.length) ∧ g (3 * ci + 2) = nI (o + c.length + tt.length)) ∧ BdAt g (ci + 1) (o + c.length + tt.length) r
theorem BdAt.snoc {g g' : Nat → Int32} {c tt : List Int32} : ∀ (rl : Rl) (ci o : Nat), BdAt g ci o rl → (∀ i, i < 3 * (ci + rl.length) → g' i = g i) → g' (3 * (ci + rl.length)) = nI (o + (flR rl).length) → g' (3 * (ci + rl.length) + 1) = nI (o + (flR rl).length + c.length) → g' (3 * (ci + rl.length) + 2) = nI (o + (flR rl).length + c.length + tt.length) → BdAt g' ci o (rl ++ [(c, tt)]) := by
  intro rl
  induction rl with
  | nil =>
    intro ci o _ _ h1 h2 h3
    exact ⟨⟨h1, h2, h3⟩, trivial⟩
  | cons q r ih =>
    intro ci o h h0 h1 h2 h3
    obtain ⟨a, b⟩ := q
    obtain ⟨⟨b1, b2, b3⟩, b4⟩ := h
    have el : ((a, b) :: r : Rl).length = r.length + 1 := rfl
    have ef : (flR ((a, b) :: r)).length = a.length + b.length + (flR r).length := by
      unfold flR
      rw [List.flatMap_cons, List.length_append, List.length_append]
    rw [el] at h0 h1 h2 h3
    rw [ef] at h1 h2 h3
    refine ⟨⟨by rw [h0 _ (by omega)]; exact b1, by rw [h0 _ (by omega)]; exact b2, by rw [h0 _ (by omega)]; exact b3⟩, ih (ci + 1) (o + a.length + b.length) b4 (fun i hi => h0 i (by omega)) ?_ ?_ ?_⟩
    · rw [show ci + 1 + r.length = ci + (r.length + 1) by omega, h1]
      congr 1; omega
    · rw [show ci + 1 + r.length = ci + (r.length + 1) by omega, h2]
      congr 1; omega
    · rw [show ci + 1 + r.length = ci + (r.length + 1) by omega, h3]
      congr 1; omega
theorem BdAt.cg {g g' : Nat → Int32} : ∀ (rl : Rl) (ci o : Nat), BdAt g ci o rl → (∀ i, i < 3 * (ci + rl.length) → g' i = g i) → BdAt g' ci o rl := by
  intro rl
  induction rl with
  | nil => intro ci o _ _; trivial
  | cons q r ih =>
    intro ci o h h0
    obtain ⟨a, b⟩ := q
    obtain ⟨⟨b1, b2, b3⟩, b4⟩ := h
    have el : ((a, b) :: r : Rl).length = r.length + 1 := rfl
    rw [el] at h0
    exact ⟨⟨by rw [h0 _ (by omega)]; exact b1, by rw [h0 _ (by omega)]; exact b2, by rw [h0 _ (by omega)]; exact b3⟩, ih (ci + 1) _ b4 (fun i hi => h0 i (by omega))⟩
def CRl (w : XW) (t : Tp) (s : St) (rl : Rl) : Prop := CRt w t s ∧ gI w 7 0 3 = nI rl.length ∧ BdAt (gI w 29 0) 0 0 rl
def PCL (κ _j k : Nat) : Prop := (κ = 9 ∧ 2 ≤ k) ∨ κ = 28 ∨ κ = 29 ∨ (κ = 7 ∧ (k = 2 ∨ k = 3 ∨ k = 4))
def RCl (F : Option (Int32 × XW)) (w : XW) (t : Tp) (r : Nat ⊕ (St × Rl)) : Prop := ∃ w', Fr PCL w w' ∧ match r with
  | .inl f => F = some (0, w') ∧ gI w' 9 0 5 = nI f
  | .inr q => F = some (1, w') ∧ CRl w' t q.1 q.2
theorem c_rclause {w : XW} {t : Tp} (hT : TOk2 t) {s : St} {rl : Rl} (h : CRl w t s rl) (hJ : Jr t s rl) : RCl (F_X8_readClause [.inr (7, 0), .inr (9, 0)] w) w t (caS t s rl) := by
  have h4 := hT.1
  obtain ⟨hC, h3, hB⟩ := h
  obtain ⟨j1, j2, j3, j5, j6, j7⟩ := hJ
  have hk := sk_le j1
  have hl := le_le hk.2
  obtain ⟨w1, F1, g3, r1⟩ := c_word hT (i := 2) (by omega) hC.1
  rw [fd1w (k := kTell) rfl] at r1
  have F1' : Fr PCL w w1 := F1.mono (fun κ i k q => by unfold PT23 at q; unfold  PCL; omega)
  unfold caS
  by_cases c : wrd t (sk t s.1) = kTell
  · rw [if_pos c] at r1 ⊢
    obtain ⟨r1, r2⟩ := r1
    have g7 : gI w1 7 0 3 = nI rl.length := by rw [(F1 7 0 3 (by unfold PT23; omega)).1]; exact h3
    have C1 : CRt w1 t (le t (sk t s.1), s.2) := hC.at F1 (fun κ k q => by unfold PT23; omega) r2
    have z1 : ¬ nI 0 = -1 := by decide
    by_cases c2 : rl.length < 12
    · rw [if_pos c2]
      have g72 := C1.2.2.1
      have g72 : gI w1 7 0 2 = nI s.2.2.length := g72
      have F2 : Fr (fun κ _ _ => κ = 29) w1 (sI w1 29 0 (3 * rl.length) (nI s.2.2.length)) := (Fr.refl _ _).sI rfl
      have C2 := C1.fr F2 (fun κ k q => by omega)
      have R := c_sum hT C2 j2 (by show s.2.2.length ≤ le t (sk t s.1); omega)
      have so := sm_ok hT (le t (sk t s.1), s.2) hl.2 j2
      have kd : F_X8_readClause [.inr (7, 0), .inr (9, 0)] w = (q_X8_readClause_39 w1).bind pI := by
        rw [f_X8_readClause, e_X8_readClause_0]
        simp (disch := omega) only [r1, z1, e_X8_readClause_20, g7, true_and, and_true, false_and, and_false, beq_t, beq_f, eqN_t, eqN_f, eqL_t, eqL_f, nm1, nm2, nm1', nm2', m1z, m2z, zm1, zm2, m12, m21, lg_cmp_ge, lg_cmp_le, lg_cmp_gt, lg_cmp_lt, lg_cmp_eq, oob, oobL, neg0, negL0, natle_f, or_false, false_or, true_or, or_true, or_self, cl, clL, le_t, le_f, lt_t, lt_f, leL_t, leL_f, ltL_t, ltL_f, leM_t, leM_f, ltM_t, ltM_f, leO_t, leO_f, cond_true, cond_false, Option.bind_some, Option.bind_none, if_false, if_true, nI_1, aL1, aL2, mL1, mL2, nI_add, pk_mul, pk_m1, sL1, dL1, pk_sub, m1p1, gIs_eq, gIs_k, gIs_i, gIs_n, gIs_e, gIJ, gIR, gJI, gJR, gJs_eq, gJs_k, gJs_n, gJs_e, gRI, gRJ, gRs_eq, gRs_k, gRs_i, gRs_n, gZI, gZJ, gZR, pI_s, pJ_s, pV_s, pR_s, pR_n, oR_n, oR_s, decide_true, decide_false, not_true_eq_false, not_false_eq_true, decT, decF, Bool.true_eq_false, Bool.false_eq_true, z01, o01, z1f, z1f', zz, oo, b2i_0, b2i_n, b2i_t, b2i_f, Bool.not_true, Bool.not_false]
      obtain ⟨w3, F3, r3⟩ := R
      have F3' : Fr PCL w w3 := (F1'.trans (F2.mono (fun κ i k q => by unfold PCL; omega))).trans (F3.mono (fun κ i k q => by unfold PCr at q; unfold  PCL; omega))
      cases hs : smS t (le t (sk t s.1), s.2) with
      | inl f =>
        rw [hs] at r3
        obtain ⟨r3, r4⟩ := r3
        refine ⟨w3, F3', ?_, r4⟩
        rw [kd, e_X8_readClause_39]
        simp (disch := omega) only [g7, g72, r3, e_X8_readClause_62, true_and, and_true, false_and, and_false, beq_t, beq_f, eqN_t, eqN_f, eqL_t, eqL_f, nm1, nm2, nm1', nm2', m1z, m2z, zm1, zm2, m12, m21, lg_cmp_ge, lg_cmp_le, lg_cmp_gt, lg_cmp_lt, lg_cmp_eq, oob, oobL, neg0, negL0, natle_f, or_false, false_or, true_or, or_true, or_self, cl, clL, le_t, le_f, lt_t, lt_f, leL_t, leL_f, ltL_t, ltL_f, leM_t, leM_f, ltM_t, ltM_f, leO_t, leO_f, cond_true, cond_false, Option.bind_some, Option.bind_none, if_false, if_true, nI_1, aL1, aL2, mL1, mL2, nI_add, pk_mul, pk_m1, sL1, dL1, pk_sub, m1p1, gIs_eq, gIs_k, gIs_i, gIs_n, gIs_e, gIJ, gIR, gJI, gJR, gJs_eq, gJs_k, gJs_n, gJs_e, gRI, gRJ, gRs_eq, gRs_k, gRs_i, gRs_n, gZI, gZJ, gZR, pI_s, pJ_s, pV_s, pR_s, pR_n, oR_n, oR_s, decide_true, decide_false, not_true_eq_false, not_false_eq_true, decT, decF, Bool.true_eq_false, Bool.false_eq_true, z01, o01, z1f, z1f', zz, oo, b2i_0, b2i_n, b2i_t, b2i_f, Bool.not_true, Bool.not_false]
      | inr s1 =>
        rw [hs] at r3
        obtain ⟨r3, r4⟩ := r3
        have gv := so.1 s1 hs
        have gl : s1.2.2.length + le t (sk t s.1) ≤ s.2.2.length + s1.1 := gv.len.1
        have g73 : gI w3 7 0 3 = nI rl.length := by rw [(F3 7 0 3 (by unfold PCr; omega)).1, gIs_n (by omega)]; exact g7
        have g29 : ∀ i, gI w3 29 0 i = gI (sI w1 29 0 (3 * rl.length) (nI s.2.2.length)) 29 0 i := fun i => (F3 29 0 i (by unfold PCr; omega)).1
        have g729 : gI w3 7 0 2 = nI s1.2.2.length := r4.2.2.1
        have F4 : Fr (fun κ _ _ => κ = 29) w3 (sI w3 29 0 (3 * rl.length + 1) (nI s1.2.2.length)) := (Fr.refl _ _).sI rfl
        have C4 := r4.fr F4 (fun κ k q => by omega)
        obtain ⟨w5, F5, _, r5⟩ := c_word hT (i := 3) (by omega) C4.1
        rw [fd1w (k := kIf) rfl] at r5
        have kd2 : (q_X8_readClause_39 w1) = (F_X10_passWord [.inr (9, 0), .inr (65, 3)] (sI w3 29 0 (3 * rl.length + 1) (nI s1.2.2.length))).bind fun r0 => (bif decide (¬ r0.1 = 0) then (q_X8_readClause_101 r0.2) else (q_X8_readClause_90 r0.2)) := by
          rw [e_X8_readClause_39]
          simp (disch := omega) only [g7, g72, r3, e_X8_readClause_64, g73, g729, true_and, and_true, false_and, and_false, beq_t, beq_f, eqN_t, eqN_f, eqL_t, eqL_f, nm1, nm2, nm1', nm2', m1z, m2z, zm1, zm2, m12, m21, lg_cmp_ge, lg_cmp_le, lg_cmp_gt, lg_cmp_lt, lg_cmp_eq, oob, oobL, neg0, negL0, natle_f, or_false, false_or, true_or, or_true, or_self, cl, clL, le_t, le_f, lt_t, lt_f, leL_t, leL_f, ltL_t, ltL_f, leM_t, leM_f, ltM_t, ltM_f, leO_t, leO_f, cond_true, cond_false, Option.bind_some, Option.bind_none, if_false, if_true, nI_1, aL1, aL2, mL1, mL2, nI_add, pk_mul, pk_m1, sL1, dL1, pk_sub, m1p1, gIs_eq, gIs_k, gIs_i, gIs_n, gIs_e, gIJ, gIR, gJI, gJR, gJs_eq, gJs_k, gJs_n, gJs_e, gRI, gRJ, gRs_eq, gRs_k, gRs_i, gRs_n, gZI, gZJ, gZR, pI_s, pJ_s, pV_s, pR_s, pR_n, oR_n, oR_s, decide_true, decide_false, not_true_eq_false, not_false_eq_true, decT, decF, Bool.true_eq_false, Bool.false_eq_true, z01, o01, z1f, z1f', zz, oo, b2i_0, b2i_n, b2i_t, b2i_f, Bool.not_true, Bool.not_false]
        have F5' : Fr PCL w w5 := (F3'.trans (F4.mono (fun κ i k q => by unfold PCL; omega))).trans (F5.mono (fun κ i k q => by unfold PT23 at q; unfold  PCL; omega))
        have b5 : ∀ i, gI w5 29 0 i = gI (sI (sI w1 29 0 (3 * rl.length) (nI s.2.2.length)) 29 0 (3 * rl.length + 1) (nI s1.2.2.length)) 29 0 i := fun i => by
          rw [(F5 29 0 i (by unfold PT23; omega)).1]
          by_cases q : i = 3 * rl.length + 1
          · rw [q, gIs_eq, gIs_eq]
          · rw [gIs_k q, gIs_k q, g29 i]
        have b1 : ∀ i, i < 3 * rl.length → gI w1 29 0 i = gI w 29 0 i := fun i _ => (F1 29 0 i (by unfold PT23; omega)).1
        have g75 : gI w5 7 0 3 = nI rl.length := by rw [(F5 7 0 3 (by unfold PT23; omega)).1, gIs_n (by omega)]; exact g73
        -- the end of the clause
        have fin : ∀ (s2 : St) (v : XW), Fr PCr w5 v → CRt v t s2 → s2.2.2 = s1.2.2 ++ s2.2.2.drop s1.2.2.length → s1.2.2 = s.2.2 ++ s1.2.2.drop s.2.2.length → ∃ w', q_X8_readClause_101 v = some (some (.inl (.int 1)), w') ∧ Fr PCL v w' ∧ CRl w' t s2 (rl ++ [(s1.2.2.drop s.2.2.length, s2.2.2.drop s1.2.2.length)]) := by
          intro s2 v hF hv e2 e1
          have l1 : s1.2.2.length = s.2.2.length + (s1.2.2.drop s.2.2.length).length := by
            have := congrArg List.length e1
            rw [List.length_append] at this
            exact this
          have l2 : s2.2.2.length = s1.2.2.length + (s2.2.2.drop s1.2.2.length).length := by
            have := congrArg List.length e2
            rw [List.length_append] at this
            exact this
          have g6 : gI v 7 0 3 = nI rl.length := by rw [(hF 7 0 3 (by unfold PCr; omega)).1]; exact g75
          have g62 : gI v 7 0 2 = nI s2.2.2.length := hv.2.2.1
          have FE : Fr (fun κ _ k => κ = 29 ∨ (κ = 7 ∧ k = 3)) v (sI (sI v 29 0 (3 * rl.length + 2) (nI s2.2.2.length)) 7 0 3 (nI (rl.length + 1))) := ((Fr.refl _ _).sI (by omega)).sI (by omega)
          have bb : ∀ i, gI (sI (sI v 29 0 (3 * rl.length + 2) (nI s2.2.2.length)) 7 0 3 (nI (rl.length + 1))) 29 0 i = gI (sI (sI (sI w1 29 0 (3 * rl.length) (nI s.2.2.length)) 29 0 (3 * rl.length + 1) (nI s1.2.2.length)) 29 0 (3 * rl.length + 2) (nI s2.2.2.length)) 29 0 i := fun i => by
            rw [gIs_n (by omega)]
            by_cases q : i = 3 * rl.length + 2
            · rw [q, gIs_eq, gIs_eq]
            · rw [gIs_k q, gIs_k q, (hF 29 0 i (by unfold PCr; omega)).1, b5 i]
          refine ⟨_, ?_, FE.mono (fun κ i k q => by unfold PCL; omega), hv.fr FE (fun κ k q => by omega), ?_, ?_⟩
          · rw [e_X8_readClause_101]
            simp (disch := omega) only [g6, g62, true_and, and_true, false_and, and_false, beq_t, beq_f, eqN_t, eqN_f, eqL_t, eqL_f, nm1, nm2, nm1', nm2', m1z, m2z, zm1, zm2, m12, m21, lg_cmp_ge, lg_cmp_le, lg_cmp_gt, lg_cmp_lt, lg_cmp_eq, oob, oobL, neg0, negL0, natle_f, or_false, false_or, true_or, or_true, or_self, cl, clL, le_t, le_f, lt_t, lt_f, leL_t, leL_f, ltL_t, ltL_f, leM_t, leM_f, ltM_t, ltM_f, leO_t, leO_f, cond_true, cond_false, Option.bind_some, Option.bind_none, if_false, if_true, nI_1, aL1, aL2, mL1, mL2, nI_add, pk_mul, pk_m1, sL1, dL1, pk_sub, m1p1, gIs_eq, gIs_k, gIs_i, gIs_n, gIs_e, gIJ, gIR, gJI, gJR, gJs_eq, gJs_k, gJs_n, gJs_e, gRI, gRJ, gRs_eq, gRs_k, gRs_i, gRs_n, gZI, gZJ, gZR, pI_s, pJ_s, pV_s, pR_s, pR_n, oR_n, oR_s, decide_true, decide_false, not_true_eq_false, not_false_eq_true, decT, decF, Bool.true_eq_false, Bool.false_eq_true, z01, o01, z1f, z1f', zz, oo, b2i_0, b2i_n, b2i_t, b2i_f, Bool.not_true, Bool.not_false]
          · rw [gIs_eq, List.length_append, List.length_singleton]
          · refine BdAt.snoc rl 0 0 hB (fun i hi => ?_) ?_ ?_ ?_
            · show gI _ 29 0 i = _
              rw [bb i, gIs_k (by omega), gIs_k (by omega), gIs_k (by omega)]
              exact b1 i (by omega)
            · show gI _ 29 0 _ = _
              rw [bb _, Nat.zero_add, gIs_k (by omega), gIs_k (by omega), gIs_eq, Nat.zero_add, ← j5]
            · show gI _ 29 0 _ = _
              rw [bb _, Nat.zero_add, gIs_k (by omega), gIs_eq, Nat.zero_add, ← j5, ← l1]
            · show gI _ 29 0 _ = _
              rw [bb _, Nat.zero_add, gIs_eq, Nat.zero_add, ← j5, ← l1, ← l2]
        have io := if_ok hT gv.1 gv.2.1
        have kc := gv.cok.1
        show RCl _ w t (sB (ifS t s1) _)
        unfold ifS at io ⊢
        by_cases cI : wrd t (sk t s1.1) = kIf
        · rw [if_pos cI] at r5 io ⊢
          obtain ⟨r5, r6⟩ := r5
          have r5 : F_X10_passWord [.inr (9, 0), .inr (65, 3)] (sI w3 29 0 (3 * rl.length + 1) (nI s1.2.2.length)) = some (0, w5) := r5
          have C5 : CRt w5 t (le t (sk t s1.1), s1.2) := C4.at F5 (fun κ k q => by unfold PT23; omega) r6
          have hk1 := sk_le gv.1
          have hl1 := le_le hk1.2
          obtain ⟨w7, F7, r7⟩ := c_test10 hT _ _ C5 gv.2.1 (by show s1.2.2.length ≤ le t (sk t s1.1); omega)
          cases ht : teS t 10 (le t (sk t s1.1), s1.2) with
          | inl f =>
            rw [ht] at r7
            obtain ⟨r7, r8⟩ := r7
            refine ⟨w7, F5'.trans (F7.mono (fun κ i k q => by unfold PCr at q; unfold  PCL; omega)), ?_, r8⟩
            rw [kd, kd2]
            simp (disch := omega) only [r5, e_X8_readClause_90, r7, e_X8_readClause_99, true_and, and_true, false_and, and_false, beq_t, beq_f, eqN_t, eqN_f, eqL_t, eqL_f, nm1, nm2, nm1', nm2', m1z, m2z, zm1, zm2, m12, m21, lg_cmp_ge, lg_cmp_le, lg_cmp_gt, lg_cmp_lt, lg_cmp_eq, oob, oobL, neg0, negL0, natle_f, or_false, false_or, true_or, or_true, or_self, cl, clL, le_t, le_f, lt_t, lt_f, leL_t, leL_f, ltL_t, ltL_f, leM_t, leM_f, ltM_t, ltM_f, leO_t, leO_f, cond_true, cond_false, Option.bind_some, Option.bind_none, if_false, if_true, nI_1, aL1, aL2, mL1, mL2, nI_add, pk_mul, pk_m1, sL1, dL1, pk_sub, m1p1, gIs_eq, gIs_k, gIs_i, gIs_n, gIs_e, gIJ, gIR, gJI, gJR, gJs_eq, gJs_k, gJs_n, gJs_e, gRI, gRJ, gRs_eq, gRs_k, gRs_i, gRs_n, gZI, gZJ, gZR, pI_s, pJ_s, pV_s, pR_s, pR_n, oR_n, oR_s, decide_true, decide_false, not_true_eq_false, not_false_eq_true, decT, decF, Bool.true_eq_false, Bool.false_eq_true, z01, o01, z1f, z1f', zz, oo, b2i_0, b2i_n, b2i_t, b2i_f, Bool.not_true, Bool.not_false]
          | inr s2 =>
            rw [ht] at r7
            obtain ⟨r7, r8⟩ := r7
            obtain ⟨_, _, _, i4, _⟩ := io.1 s2 ht
            obtain ⟨w8, y1, y2, y3⟩ := fin s2 w7 F7 r8 i4 kc
            refine ⟨w8, (F5'.trans (F7.mono (fun κ i k q => by unfold PCr at q; unfold  PCL; omega))).trans y2, ?_, y3⟩
            rw [kd, kd2]
            simp (disch := omega) only [r5, e_X8_readClause_90, r7, y1, true_and, and_true, false_and, and_false, beq_t, beq_f, eqN_t, eqN_f, eqL_t, eqL_f, nm1, nm2, nm1', nm2', m1z, m2z, zm1, zm2, m12, m21, lg_cmp_ge, lg_cmp_le, lg_cmp_gt, lg_cmp_lt, lg_cmp_eq, oob, oobL, neg0, negL0, natle_f, or_false, false_or, true_or, or_true, or_self, cl, clL, le_t, le_f, lt_t, lt_f, leL_t, leL_f, ltL_t, ltL_f, leM_t, leM_f, ltM_t, ltM_f, leO_t, leO_f, cond_true, cond_false, Option.bind_some, Option.bind_none, if_false, if_true, nI_1, aL1, aL2, mL1, mL2, nI_add, pk_mul, pk_m1, sL1, dL1, pk_sub, m1p1, gIs_eq, gIs_k, gIs_i, gIs_n, gIs_e, gIJ, gIR, gJI, gJR, gJs_eq, gJs_k, gJs_n, gJs_e, gRI, gRJ, gRs_eq, gRs_k, gRs_i, gRs_n, gZI, gZJ, gZR, pI_s, pJ_s, pV_s, pR_s, pR_n, oR_n, oR_s, decide_true, decide_false, not_true_eq_false, not_false_eq_true, decT, decF, Bool.true_eq_false, Bool.false_eq_true, z01, o01, z1f, z1f', zz, oo, b2i_0, b2i_n, b2i_t, b2i_f, Bool.not_true, Bool.not_false]
        · rw [if_neg cI] at r5 io ⊢
          obtain ⟨r5, r6⟩ := r5
          have z2 : ¬ (-1 : Int32) = 0 := by decide
          have C5 : CRt w5 t (sk t s1.1, s1.2) := C4.at F5 (fun κ k q => by unfold PT23; omega) r6
          obtain ⟨_, _, _, i4, _⟩ := io.1 _ rfl
          obtain ⟨w8, y1, y2, y3⟩ := fin (sk t s1.1, s1.2) w5 (Fr.refl _ _) C5 i4 kc
          refine ⟨w8, F5'.trans y2, ?_, y3⟩
          rw [kd, kd2]
          simp (disch := omega) only [r5, z2, y1, true_and, and_true, false_and, and_false, beq_t, beq_f, eqN_t, eqN_f, eqL_t, eqL_f, nm1, nm2, nm1', nm2', m1z, m2z, zm1, zm2, m12, m21, lg_cmp_ge, lg_cmp_le, lg_cmp_gt, lg_cmp_lt, lg_cmp_eq, oob, oobL, neg0, negL0, natle_f, or_false, false_or, true_or, or_true, or_self, cl, clL, le_t, le_f, lt_t, lt_f, leL_t, leL_f, ltL_t, ltL_f, leM_t, leM_f, ltM_t, ltM_f, leO_t, leO_f, cond_true, cond_false, Option.bind_some, Option.bind_none, if_false, if_true, nI_1, aL1, aL2, mL1, mL2, nI_add, pk_mul, pk_m1, sL1, dL1, pk_sub, m1p1, gIs_eq, gIs_k, gIs_i, gIs_n, gIs_e, gIJ, gIR, gJI, gJR, gJs_eq, gJs_k, gJs_n, gJs_e, gRI, gRJ, gRs_eq, gRs_k, gRs_i, gRs_n, gZI, gZJ, gZR, pI_s, pJ_s, pV_s, pR_s, pR_n, oR_n, oR_s, decide_true, decide_false, not_true_eq_false, not_false_eq_true, decT, decF, Bool.true_eq_false, Bool.false_eq_true, z01, o01, z1f, z1f', zz, oo, b2i_0, b2i_n, b2i_t, b2i_f, Bool.not_true, Bool.not_false]
    · rw [if_neg c2]
      have kf := c_fail4 (w := w1) (sk t s.1)
      refine ⟨_, F1'.sI (by unfold PCL; omega), ?_, gIs_eq⟩
      rw [f_X8_readClause, e_X8_readClause_0]
      simp (disch := omega) only [r1, z1, e_X8_readClause_20, g7, e_X8_readClause_29, g3, kf, true_and, and_true, false_and, and_false, beq_t, beq_f, eqN_t, eqN_f, eqL_t, eqL_f, nm1, nm2, nm1', nm2', m1z, m2z, zm1, zm2, m12, m21, lg_cmp_ge, lg_cmp_le, lg_cmp_gt, lg_cmp_lt, lg_cmp_eq, oob, oobL, neg0, negL0, natle_f, or_false, false_or, true_or, or_true, or_self, cl, clL, le_t, le_f, lt_t, lt_f, leL_t, leL_f, ltL_t, ltL_f, leM_t, leM_f, ltM_t, ltM_f, leO_t, leO_f, cond_true, cond_false, Option.bind_some, Option.bind_none, if_false, if_true, nI_1, aL1, aL2, mL1, mL2, nI_add, pk_mul, pk_m1, sL1, dL1, pk_sub, m1p1, gIs_eq, gIs_k, gIs_i, gIs_n, gIs_e, gIJ, gIR, gJI, gJR, gJs_eq, gJs_k, gJs_n, gJs_e, gRI, gRJ, gRs_eq, gRs_k, gRs_i, gRs_n, gZI, gZJ, gZR, pI_s, pJ_s, pV_s, pR_s, pR_n, oR_n, oR_s, decide_true, decide_false, not_true_eq_false, not_false_eq_true, decT, decF, Bool.true_eq_false, Bool.false_eq_true, z01, o01, z1f, z1f', zz, oo, b2i_0, b2i_n, b2i_t, b2i_f, Bool.not_true, Bool.not_false]
  · rw [if_neg c] at r1 ⊢
    obtain ⟨r1, r2⟩ := r1
    have g2 := r2.2.1
    have kf := c_fail0 (w := w1) (sk t s.1)
    refine ⟨_, F1'.sI (by unfold PCL; omega), ?_, gIs_eq⟩
    rw [f_X8_readClause, e_X8_readClause_0]
    simp (disch := omega) only [r1, e_X8_readClause_10, g2, kf, true_and, and_true, false_and, and_false, beq_t, beq_f, eqN_t, eqN_f, eqL_t, eqL_f, nm1, nm2, nm1', nm2', m1z, m2z, zm1, zm2, m12, m21, lg_cmp_ge, lg_cmp_le, lg_cmp_gt, lg_cmp_lt, lg_cmp_eq, oob, oobL, neg0, negL0, natle_f, or_false, false_or, true_or, or_true, or_self, cl, clL, le_t, le_f, lt_t, lt_f, leL_t, leL_f, ltL_t, ltL_f, leM_t, leM_f, ltM_t, ltM_f, leO_t, leO_f, cond_true, cond_false, Option.bind_some, Option.bind_none, if_false, if_true, nI_1, aL1, aL2, mL1, mL2, nI_add, pk_mul, pk_m1, sL1, dL1, pk_sub, m1p1, gIs_eq, gIs_k, gIs_i, gIs_n, gIs_e, gIJ, gIR, gJI, gJR, gJs_eq, gJs_k, gJs_n, gJs_e, gRI, gRJ, gRs_eq, gRs_k, gRs_i, gRs_n, gZI, gZJ, gZR, pI_s, pJ_s, pV_s, pR_s, pR_n, oR_n, oR_s, decide_true, decide_false, not_true_eq_false, not_false_eq_true, decT, decF, Bool.true_eq_false, Bool.false_eq_true, z01, o01, z1f, z1f', zz, oo, b2i_0, b2i_n, b2i_t, b2i_f, Bool.not_true, Bool.not_false]
