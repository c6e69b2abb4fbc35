/-! ===== the model reads clauses, all of a rule ===== -/
def MRl (T : Nat) (w : XW) (t : Tp) (s : St) (rl : Rl) : Prop := MRt T w t s ∧ gI w 45 0 T = nI rl.length ∧ gI w 11 0 14 = nI rl.length ∧ BmAt (gI w 44 0) T 0 0 rl
def PML (T κ _j k : Nat) : Prop := (κ = 11 ∧ ((8 ≤ k ∧ k ≤ 10) ∨ (12 ≤ k ∧ k ≤ 14) ∨ k = 16)) ∨ κ = 47 ∨ (κ = 42 ∧ 400 * T ≤ k ∧ k < 400 * T + 400) ∨ (κ = 43 ∧ k = T) ∨ (κ = 44 ∧ 48 * T ≤ k ∧ k < 48 * T + 48) ∨ (κ = 45 ∧ k = T)
def RMl (T : Nat) (F : Option (Int32 × XW)) (w : XW) (t : Tp) (r : Nat ⊕ (St × Rl)) : Prop := ∃ w', Fr (PML T) w w' ∧ match r with
  | .inl f => F = some (0, w') ∧ gI w' 11 0 9 = nI f
  | .inr q => F = some (1, w') ∧ MRl T w' t q.1 q.2
theorem fqL {T : Nat} {w w' : XW} (h : Fr (PMq T) w w') : Fr (PML T) w w' := h.mono (fun κ i k q => by unfold PMq at q; unfold  PML; omega)
theorem fvL {T : Nat} {w w' : XW} (h : Fr (PMv T) w w') : Fr (PML T) w w' := h.mono (fun κ i k q => by unfold PMv at q; unfold  PML; omega)
theorem f8L {T : Nat} {w w' : XW} (h : Fr PM8 w w') : Fr (PML T) w w' := h.mono (fun κ i k q => by unfold PM8 at q; unfold  PML; omega)
/-- a clause behind its first word -/
theorem m_tell {T : Nat} (hT6 : T < 6) {w : XW} {t : Tp} (hT : TOk2 t) {s : St} {rl : Rl} {q : Nat} (h : MRt T w t (q, s.2)) (h45 : gI w 45 0 T = nI rl.length) (hB : BmAt (gI w 44 0) T 0 0 rl) (hn : s.2.1 ≤ 60) (hl : s.2.2.length ≤ q) (hr : rl.length < 12) (hf : s.2.2 = flR rl) :
    ∃ w', Fr (PML T) w w' ∧ gI w' 11 0 14 = gI w 11 0 14 ∧ match sB (smS t (le t q, s.2)) (fun s1 => sB (ifS t s1) (fun s2 => (.inr (s2, rl ++ [(s1.2.2.drop s.2.2.length, s2.2.2.drop s1.2.2.length)]) : Nat ⊕ (St × Rl)))) with
    | .inl f => F_X12_isTellHere [.inr (11, 0)] w = some (0, w') ∧ gI w' 11 0 9 = nI f
    | .inr r => F_X12_isTellHere [.inr (11, 0)] w = some (1, w') ∧ MRt T w' t r.1 ∧ gI w' 45 0 T = nI r.2.length ∧ BmAt (gI w' 44 0) T 0 0 r.2 := by
  have h4 := hT.1
  have hq := h.1.2.2.2
  have hq : q ≤ t.1 := hq
  have hle := le_le hq
  obtain ⟨w1, b1, b2, b3⟩ := m_passWord hT h.1
  have C1 : MRt T w1 t (le t q, s.2) := h.at b3 (fun κ k q => by unfold PM8; omega) b2
  have g11 := C1.2.2.2.1
  have g43 : gI w1 43 0 T = nI s.2.2.length := C1.2.2.1
  have g45 : gI w1 45 0 T = nI rl.length := by rw [(b3 45 0 T (by unfold PM8; omega)).1]; exact h45
  have F2 : Fr (fun κ _ k => κ = 44 ∧ 48 * T ≤ k ∧ k < 48 * T + 48) w1 (sI w1 44 0 (48 * T + 4 * rl.length) (nI s.2.2.length)) := (Fr.refl _ _).sI (by omega)
  have C2 := C1.fr F2 (fun κ k q => by omega)
  have FA : Fr (PML T) w (sI w1 44 0 (48 * T + 4 * rl.length) (nI s.2.2.length)) := (f8L b3).trans (F2.mono (fun κ i k q => by unfold PML; omega))
  obtain ⟨w3, F3, r3⟩ := m_sum hT6 hT C2 hn (by show s.2.2.length ≤ le t q; omega)
  have FB' : Fr (PML T) w w3 := FA.trans (fvL F3)
  have so := sm_ok hT (le t q, s.2) hle.2 hn
  have l14 : gI w3 11 0 14 = gI w 11 0 14 := by rw [(F3 11 0 14 (by unfold PMv; omega)).1, gIs_n (by omega), (b3 11 0 14 (by unfold PM8; omega)).1]
  cases hs : smS t (le t q, s.2) with
  | inl f =>
    rw [hs] at r3
    obtain ⟨r3, r4⟩ := r3
    refine ⟨w3, FB', l14, ?_, r4⟩
    rw [f_X12_isTellHere, e_X12_isTellHere_0]
    simp (disch := omega) only [b1, g11, g45, g43, r3, e_X12_isTellHere_46, true_and, and_true, false_and, and_false, beq_t, beq_f, eqN_t, eqN_f, eqL_t, eqL_f, nm1, nm2, nm1', nm2', m1z, m2z, zm1, zm2, m12, m21, lg_cmp_ge, lg_cmp_le, lg_cmp_gt, lg_cmp_lt, lg_cmp_eq, oob, oobL, neg0, negL0, natle_f, or_false, false_or, true_or, or_true, or_self, cl, clL, le_t, le_f, lt_t, lt_f, leL_t, leL_f, ltL_t, ltL_f, leM_t, leM_f, ltM_t, ltM_f, leO_t, leO_f, cond_true, cond_false, Option.bind_some, Option.bind_none, if_false, if_true, nI_1, aL1, aL2, mL1, mL2, nI_add, pk_mul, pk_m1, sL1, dL1, pk_sub, m1p1, gIs_eq, gIs_k, gIs_i, gIs_n, gIs_e, gIJ, gIR, gJI, gJR, gJs_eq, gJs_k, gJs_n, gJs_e, gRI, gRJ, gRs_eq, gRs_k, gRs_i, gRs_n, gZI, gZJ, gZR, pI_s, pJ_s, pV_s, pR_s, pR_n, oR_n, oR_s, decide_true, decide_false, not_true_eq_false, not_false_eq_true, decT, decF, Bool.true_eq_false, Bool.false_eq_true, z01, o01, z1f, z1f', zz, oo, b2i_0, b2i_n, b2i_t, b2i_f, Bool.not_true, Bool.not_false]
  | inr s1 =>
    rw [hs] at r3
    obtain ⟨r3, r4⟩ := r3
    have gv := so.1 s1 hs
    have gl : s1.2.2.length + le t q ≤ s.2.2.length + s1.1 := gv.len.1
    have kc : s1.2.2 = s.2.2 ++ s1.2.2.drop s.2.2.length := gv.cok.1
    have h11 := r4.2.2.2.1
    have h43 := r4.2.2.1
    have h45' : gI w3 45 0 T = nI rl.length := by rw [(F3 45 0 T (by unfold PMv; omega)).1, gIs_n (by omega)]; exact g45
    have F4 : Fr (fun κ _ k => κ = 44 ∧ 48 * T ≤ k ∧ k < 48 * T + 48) w3 (sI (sI w3 44 0 (48 * T + 4 * rl.length + 1) (nI s1.2.2.length)) 44 0 (48 * T + 4 * rl.length + 2) (-1)) := ((Fr.refl _ _).sI (by omega)).sI (by omega)
    have C4 := r4.fr F4 (fun κ k q => by omega)
    have FC : Fr (PML T) w (sI (sI w3 44 0 (48 * T + 4 * rl.length + 1) (nI s1.2.2.length)) 44 0 (48 * T + 4 * rl.length + 2) (-1)) := FB'.trans (F4.mono (fun κ i k q => by unfold PML; omega))
    obtain ⟨w5, d1, d2, d3⟩ := m_isWord hT C4.1 W_if
    have hk1 := sk_le gv.1
    have hl1 := le_le hk1.2
    have C5 : MRt T w5 t (sk t s1.1, s1.2) := C4.at d3 (fun κ k q => by unfold PM8; omega) d2
    have FD : Fr (PML T) w w5 := FC.trans (f8L d3)
    have b44 : ∀ i, gI w5 44 0 i = gI (sI (sI (sI w1 44 0 (48 * T + 4 * rl.length) (nI s.2.2.length)) 44 0 (48 * T + 4 * rl.length + 1) (nI s1.2.2.length)) 44 0 (48 * T + 4 * rl.length + 2) (-1)) 44 0 i := fun i => by
      rw [(d3 44 0 i (by unfold PM8; omega)).1]
      by_cases q1 : i = 48 * T + 4 * rl.length + 2
      · rw [q1, gIs_eq, gIs_eq]
      · rw [gIs_k q1, gIs_k q1]
        by_cases q2 : i = 48 * T + 4 * rl.length + 1
        · rw [q2, gIs_eq, gIs_eq]
        · rw [gIs_k q2, gIs_k q2, (F3 44 0 i (by unfold PMv; omega)).1]
    have b0 : ∀ i, gI w1 44 0 i = gI w 44 0 i := fun i => (b3 44 0 i (by unfold PM8; omega)).1
    have m14 : gI w5 11 0 14 = gI w 11 0 14 := by rw [(d3 11 0 14 (by unfold PM8; omega)).1, gIs_n (by omega), gIs_n (by omega)]; exact l14
    have m45 : gI w5 45 0 T = nI rl.length := by rw [(d3 45 0 T (by unfold PM8; omega)).1, gIs_n (by omega), gIs_n (by omega)]; exact h45'
    have kd : ∀ v, F_X12_takesWord [.inr (11, 0), .inl (.long 26982)] (sI (sI w3 44 0 (48 * T + 4 * rl.length + 1) (nI s1.2.2.length)) 44 0 (48 * T + 4 * rl.length + 2) (-1)) = v → F_X12_isTellHere [.inr (11, 0)] w = (v.bind fun r0 => (bif decide (r0.1 = 0) then (q_X12_isTellHere_110 (nI (48 * T + 4 * rl.length)) r0.2) else (q_X12_isTellHere_84 (nI (48 * T + 4 * rl.length)) r0.2)) : Option XR).bind pI := fun v hv => by
      rw [f_X12_isTellHere, e_X12_isTellHere_0]
      simp (disch := omega) only [b1, g11, g45, g43, r3, e_X12_isTellHere_48, h11, h43, hv, true_and, and_true, false_and, and_false, beq_t, beq_f, eqN_t, eqN_f, eqL_t, eqL_f, nm1, nm2, nm1', nm2', m1z, m2z, zm1, zm2, m12, m21, lg_cmp_ge, lg_cmp_le, lg_cmp_gt, lg_cmp_lt, lg_cmp_eq, oob, oobL, neg0, negL0, natle_f, or_false, false_or, true_or, or_true, or_self, cl, clL, le_t, le_f, lt_t, lt_f, leL_t, leL_f, ltL_t, ltL_f, leM_t, leM_f, ltM_t, ltM_f, leO_t, leO_f, cond_true, cond_false, Option.bind_some, Option.bind_none, if_false, if_true, nI_1, aL1, aL2, mL1, mL2, nI_add, pk_mul, pk_m1, sL1, dL1, pk_sub, m1p1, gIs_eq, gIs_k, gIs_i, gIs_n, gIs_e, gIJ, gIR, gJI, gJR, gJs_eq, gJs_k, gJs_n, gJs_e, gRI, gRJ, gRs_eq, gRs_k, gRs_i, gRs_n, gZI, gZJ, gZR, pI_s, pJ_s, pV_s, pR_s, pR_n, oR_n, oR_s, decide_true, decide_false, not_true_eq_false, not_false_eq_true, decT, decF, Bool.true_eq_false, Bool.false_eq_true, z01, o01, z1f, z1f', zz, oo, b2i_0, b2i_n, b2i_t, b2i_f, Bool.not_true, Bool.not_false]
    -- the end of the clause
    have fin : ∀ (s2 : St) (v : XW), (∀ i, ¬ i = 48 * T + 4 * rl.length + 2 → gI v 44 0 i = gI w5 44 0 i) → gI v 44 0 (48 * T + 4 * rl.length + 2) = (if s2.2.2.drop s1.2.2.length = [] then -1 else nI s1.2.2.length) → gI v 45 0 T = nI rl.length → MRt T v t s2 → s2.2.2 = s1.2.2 ++ s2.2.2.drop s1.2.2.length →
        ∃ w', q_X12_isTellHere_110 (nI (48 * T + 4 * rl.length)) v = some (some (.inl (.int 1)), w') ∧ Fr (PML T) v w' ∧ gI w' 11 0 14 = gI v 11 0 14 ∧ MRt T w' t s2 ∧ gI w' 45 0 T = nI (rl ++ [(s1.2.2.drop s.2.2.length, s2.2.2.drop s1.2.2.length)]).length ∧ BmAt (gI w' 44 0) T 0 0 (rl ++ [(s1.2.2.drop s.2.2.length, s2.2.2.drop s1.2.2.length)]) := by
      intro s2 v v1 v2 v45 hv e2
      have l1 : s1.2.2.length = s.2.2.length + (s1.2.2.drop s.2.2.length).length := by
        have := congrArg List.length kc
        rw [List.length_append] at this
        exact this
      have l2 : s2.2.2.length = s1.2.2.length + (s2.2.2.drop s1.2.2.length).length := by
        have := congrArg List.length e2
        rw [List.length_append] at this
        exact this
      have v11 := hv.2.2.2.1
      have v43 := hv.2.2.1
      have FE : Fr (fun κ _ k => (κ = 44 ∧ 48 * T ≤ k ∧ k < 48 * T + 48) ∨ (κ = 45 ∧ k = T)) v (sI (sI v 44 0 (48 * T + 4 * rl.length + 3) (nI s2.2.2.length)) 45 0 T (nI (rl.length + 1))) := ((Fr.refl _ _).sI (by omega)).sI (by omega)
      refine ⟨_, ?_, FE.mono (fun κ i k q => by unfold PML; omega), by rw [gIs_n (by omega), gIs_n (by omega)], hv.fr FE (fun κ k q => by omega), by rw [gIs_eq, List.length_append, List.length_singleton], ?_⟩
      · rw [e_X12_isTellHere_110]
        simp (disch := omega) only [v11, v43, v45, true_and, and_true, false_and, and_false, beq_t, beq_f, eqN_t, eqN_f, eqL_t, eqL_f, nm1, nm2, nm1', nm2', m1z, m2z, zm1, zm2, m12, m21, lg_cmp_ge, lg_cmp_le, lg_cmp_gt, lg_cmp_lt, lg_cmp_eq, oob, oobL, neg0, negL0, natle_f, or_false, false_or, true_or, or_true, or_self, cl, clL, le_t, le_f, lt_t, lt_f, leL_t, leL_f, ltL_t, ltL_f, leM_t, leM_f, ltM_t, ltM_f, leO_t, leO_f, cond_true, cond_false, Option.bind_some, Option.bind_none, if_false, if_true, nI_1, aL1, aL2, mL1, mL2, nI_add, pk_mul, pk_m1, sL1, dL1, pk_sub, m1p1, gIs_eq, gIs_k, gIs_i, gIs_n, gIs_e, gIJ, gIR, gJI, gJR, gJs_eq, gJs_k, gJs_n, gJs_e, gRI, gRJ, gRs_eq, gRs_k, gRs_i, gRs_n, gZI, gZJ, gZR, pI_s, pJ_s, pV_s, pR_s, pR_n, oR_n, oR_s, decide_true, decide_false, not_true_eq_false, not_false_eq_true, decT, decF, Bool.true_eq_false, Bool.false_eq_true, z01, o01, z1f, z1f', zz, oo, b2i_0, b2i_n, b2i_t, b2i_f, Bool.not_true, Bool.not_false]
      · refine BmAt.snoc rl 0 0 hB (fun i hi hj => ?_) ?_ ?_ ?_ ?_
        · show gI _ 44 0 i = _
          rw [gIs_n (by omega), gIs_k (by omega), v1 i (by omega), b44 i, gIs_k (by omega), gIs_k (by omega), gIs_k (by omega), b0 i]
        · show gI _ 44 0 _ = _
          rw [Nat.zero_add, gIs_n (by omega), gIs_k (by omega), v1 _ (by omega), b44 _, gIs_k (by omega), gIs_k (by omega), gIs_eq, Nat.zero_add, ← hf]
        · show gI _ 44 0 _ = _
          rw [Nat.zero_add, gIs_n (by omega), gIs_k (by omega), v1 _ (by omega), b44 _, gIs_k (by omega), gIs_eq, Nat.zero_add, ← hf, ← l1]
        · show gI _ 44 0 _ = _
          rw [Nat.zero_add, gIs_n (by omega), gIs_k (by omega), v2, Nat.zero_add, ← hf, ← l1]
        · show gI _ 44 0 _ = _
          rw [Nat.zero_add, gIs_n (by omega), gIs_eq, Nat.zero_add, ← hf, ← l1, ← l2]
    have io := if_ok hT gv.1 gv.2.1
    show ∃ w', Fr (PML T) w w' ∧ gI w' 11 0 14 = gI w 11 0 14 ∧ match sB (ifS t s1) (fun s2 => (.inr (s2, rl ++ [(s1.2.2.drop s.2.2.length, s2.2.2.drop s1.2.2.length)]) : Nat ⊕ (St × Rl))) with
      | .inl f => F_X12_isTellHere [.inr (11, 0)] w = some (0, w') ∧ gI w' 11 0 9 = nI f
      | .inr r => F_X12_isTellHere [.inr (11, 0)] w = some (1, w') ∧ MRt T w' t r.1 ∧ gI w' 45 0 T = nI r.2.length ∧ BmAt (gI w' 44 0) T 0 0 r.2
    unfold ifS at io ⊢
    by_cases cI : wrd t (sk t s1.1) = kIf
    · rw [if_pos cI] at io ⊢
      rw [decT cI] at d1
      obtain ⟨w6, p1, p2, p3⟩ := m_passWord hT d2
      have C6 : MRt T w6 t (le t (sk t s1.1), s1.2) := C5.at p3 (fun κ k q => by unfold PM8; omega) p2
      have tw : F_X12_takesWord [.inr (11, 0), .inl (.long 26982)] (sI (sI w3 44 0 (48 * T + 4 * rl.length + 1) (nI s1.2.2.length)) 44 0 (48 * T + 4 * rl.length + 2) (-1)) = some (1, w6) := by
        rw [f_X12_takesWord, e_X12_takesWord_0]
        simp (disch := omega) only [d1, e_X12_takesWord_10, p1, true_and, and_true, false_and, and_false, beq_t, beq_f, eqN_t, eqN_f, eqL_t, eqL_f, nm1, nm2, nm1', nm2', m1z, m2z, zm1, zm2, m12, m21, lg_cmp_ge, lg_cmp_le, lg_cmp_gt, lg_cmp_lt, lg_cmp_eq, oob, oobL, neg0, negL0, natle_f, or_false, false_or, true_or, or_true, or_self, cl, clL, le_t, le_f, lt_t, lt_f, leL_t, leL_f, ltL_t, ltL_f, leM_t, leM_f, ltM_t, ltM_f, leO_t, leO_f, cond_true, cond_false, Option.bind_some, Option.bind_none, if_false, if_true, nI_1, aL1, aL2, mL1, mL2, nI_add, pk_mul, pk_m1, sL1, dL1, pk_sub, m1p1, gIs_eq, gIs_k, gIs_i, gIs_n, gIs_e, gIJ, gIR, gJI, gJR, gJs_eq, gJs_k, gJs_n, gJs_e, gRI, gRJ, gRs_eq, gRs_k, gRs_i, gRs_n, gZI, gZJ, gZR, pI_s, pJ_s, pV_s, pR_s, pR_n, oR_n, oR_s, decide_true, decide_false, not_true_eq_false, not_false_eq_true, decT, decF, Bool.true_eq_false, Bool.false_eq_true, z01, o01, z1f, z1f', zz, oo, b2i_0, b2i_n, b2i_t, b2i_f, Bool.not_true, Bool.not_false]
      have i11 := C6.2.2.2.1
      have i43 : gI w6 43 0 T = nI s1.2.2.length := C6.2.2.1
      have F7 : Fr (fun κ _ k => κ = 44 ∧ 48 * T ≤ k ∧ k < 48 * T + 48) w6 (sI w6 44 0 (48 * T + 4 * rl.length + 2) (nI s1.2.2.length)) := (Fr.refl _ _).sI (by omega)
      have C7 := C6.fr F7 (fun κ k q => by omega)
      obtain ⟨w8, F8, r8⟩ := m_tested hT6 hT C7 gv.2.1 (by show s1.2.2.length ≤ le t (sk t s1.1); omega)
      have FE : Fr (PML T) w w8 := ((FD.trans (f8L p3)).trans (F7.mono (fun κ i k q => by unfold PML; omega))).trans (fqL F8)
      have n14 : gI w8 11 0 14 = gI w 11 0 14 := by rw [(F8 11 0 14 (by unfold PMq; omega)).1, gIs_n (by omega), (p3 11 0 14 (by unfold PM8; omega)).1]; exact m14
      have n45 : gI w8 45 0 T = nI rl.length := by rw [(F8 45 0 T (by unfold PMq; omega)).1, gIs_n (by omega), (p3 45 0 T (by unfold PM8; omega)).1]; exact m45
      have n44 : ∀ i, gI w8 44 0 i = gI (sI w5 44 0 (48 * T + 4 * rl.length + 2) (nI s1.2.2.length)) 44 0 i := fun i => by
        rw [(F8 44 0 i (by unfold PMq; omega)).1]
        by_cases q1 : i = 48 * T + 4 * rl.length + 2
        · rw [q1, gIs_eq, gIs_eq]
        · rw [gIs_k q1, gIs_k q1, (p3 44 0 i (by unfold PM8; omega)).1]
      cases ht : teS t 10 (le t (sk t s1.1), s1.2) with
      | inl f =>
        rw [ht] at r8
        obtain ⟨r8, r9⟩ := r8
        refine ⟨w8, FE, n14, ?_, r9⟩
        rw [kd _ tw]
        simp (disch := omega) only [e_X12_isTellHere_84, i11, i43, r8, e_X12_isTellHere_108, true_and, and_true, false_and, and_false, beq_t, beq_f, eqN_t, eqN_f, eqL_t, eqL_f, nm1, nm2, nm1', nm2', m1z, m2z, zm1, zm2, m12, m21, lg_cmp_ge, lg_cmp_le, lg_cmp_gt, lg_cmp_lt, lg_cmp_eq, oob, oobL, neg0, negL0, natle_f, or_false, false_or, true_or, or_true, or_self, cl, clL, le_t, le_f, lt_t, lt_f, leL_t, leL_f, ltL_t, ltL_f, leM_t, leM_f, ltM_t, ltM_f, leO_t, leO_f, cond_true, cond_false, Option.bind_some, Option.bind_none, if_false, if_true, nI_1, aL1, aL2, mL1, mL2, nI_add, pk_mul, pk_m1, sL1, dL1, pk_sub, m1p1, gIs_eq, gIs_k, gIs_i, gIs_n, gIs_e, gIJ, gIR, gJI, gJR, gJs_eq, gJs_k, gJs_n, gJs_e, gRI, gRJ, gRs_eq, gRs_k, gRs_i, gRs_n, gZI, gZJ, gZR, pI_s, pJ_s, pV_s, pR_s, pR_n, oR_n, oR_s, decide_true, decide_false, not_true_eq_false, not_false_eq_true, decT, decF, Bool.true_eq_false, Bool.false_eq_true, z01, o01, z1f, z1f', zz, oo, b2i_0, b2i_n, b2i_t, b2i_f, Bool.not_true, Bool.not_false]
      | inr s2 =>
        rw [ht] at r8
        obtain ⟨r8, r9⟩ := r8
        obtain ⟨_, _, _, i4, _, _, i7⟩ := io.1 s2 ht
        have ne := i7.mp cI
        obtain ⟨w9, y1, y2, y3, y4, y5, y6⟩ := fin s2 w8 (fun i hi => by rw [n44 i, gIs_k hi]) (by rw [n44, gIs_eq, if_neg ne]) n45 r9 i4
        refine ⟨w9, FE.trans y2, y3.trans n14, ?_, y4, y5, y6⟩
        rw [kd _ tw]
        simp (disch := omega) only [e_X12_isTellHere_84, i11, i43, r8, y1, true_and, and_true, false_and, and_false, beq_t, beq_f, eqN_t, eqN_f, eqL_t, eqL_f, nm1, nm2, nm1', nm2', m1z, m2z, zm1, zm2, m12, m21, lg_cmp_ge, lg_cmp_le, lg_cmp_gt, lg_cmp_lt, lg_cmp_eq, oob, oobL, neg0, negL0, natle_f, or_false, false_or, true_or, or_true, or_self, cl, clL, le_t, le_f, lt_t, lt_f, leL_t, leL_f, ltL_t, ltL_f, leM_t, leM_f, ltM_t, ltM_f, leO_t, leO_f, cond_true, cond_false, Option.bind_some, Option.bind_none, if_false, if_true, nI_1, aL1, aL2, mL1, mL2, nI_add, pk_mul, pk_m1, sL1, dL1, pk_sub, m1p1, gIs_eq, gIs_k, gIs_i, gIs_n, gIs_e, gIJ, gIR, gJI, gJR, gJs_eq, gJs_k, gJs_n, gJs_e, gRI, gRJ, gRs_eq, gRs_k, gRs_i, gRs_n, gZI, gZJ, gZR, pI_s, pJ_s, pV_s, pR_s, pR_n, oR_n, oR_s, decide_true, decide_false, not_true_eq_false, not_false_eq_true, decT, decF, Bool.true_eq_false, Bool.false_eq_true, z01, o01, z1f, z1f', zz, oo, b2i_0, b2i_n, b2i_t, b2i_f, Bool.not_true, Bool.not_false]
    · rw [if_neg cI] at io ⊢
      rw [decF cI] at d1
      have tw : F_X12_takesWord [.inr (11, 0), .inl (.long 26982)] (sI (sI w3 44 0 (48 * T + 4 * rl.length + 1) (nI s1.2.2.length)) 44 0 (48 * T + 4 * rl.length + 2) (-1)) = some (0, w5) := by
        rw [f_X12_takesWord, e_X12_takesWord_0]
        simp (disch := omega) only [d1, e_X12_takesWord_8, true_and, and_true, false_and, and_false, beq_t, beq_f, eqN_t, eqN_f, eqL_t, eqL_f, nm1, nm2, nm1', nm2', m1z, m2z, zm1, zm2, m12, m21, lg_cmp_ge, lg_cmp_le, lg_cmp_gt, lg_cmp_lt, lg_cmp_eq, oob, oobL, neg0, negL0, natle_f, or_false, false_or, true_or, or_true, or_self, cl, clL, le_t, le_f, lt_t, lt_f, leL_t, leL_f, ltL_t, ltL_f, leM_t, leM_f, ltM_t, ltM_f, leO_t, leO_f, cond_true, cond_false, Option.bind_some, Option.bind_none, if_false, if_true, nI_1, aL1, aL2, mL1, mL2, nI_add, pk_mul, pk_m1, sL1, dL1, pk_sub, m1p1, gIs_eq, gIs_k, gIs_i, gIs_n, gIs_e, gIJ, gIR, gJI, gJR, gJs_eq, gJs_k, gJs_n, gJs_e, gRI, gRJ, gRs_eq, gRs_k, gRs_i, gRs_n, gZI, gZJ, gZR, pI_s, pJ_s, pV_s, pR_s, pR_n, oR_n, oR_s, decide_true, decide_false, not_true_eq_false, not_false_eq_true, decT, decF, Bool.true_eq_false, Bool.false_eq_true, z01, o01, z1f, z1f', zz, oo, b2i_0, b2i_n, b2i_t, b2i_f, Bool.not_true, Bool.not_false]
      obtain ⟨_, _, _, i4, _, _, i7⟩ := io.1 _ rfl
      have ne : (sk t s1.1, s1.2).2.2.drop s1.2.2.length = [] := List.drop_length
      obtain ⟨w9, y1, y2, y3, y4, y5, y6⟩ := fin (sk t s1.1, s1.2) w5 (fun i hi => rfl) (by rw [b44, gIs_eq, if_pos ne]) m45 C5 i4
      refine ⟨w9, FD.trans y2, y3.trans m14, ?_, y4, y5, y6⟩
      rw [kd _ tw]
      simp (disch := omega) only [y1, true_and, and_true, false_and, and_false, beq_t, beq_f, eqN_t, eqN_f, eqL_t, eqL_f, nm1, nm2, nm1', nm2', m1z, m2z, zm1, zm2, m12, m21, lg_cmp_ge, lg_cmp_le, lg_cmp_gt, lg_cmp_lt, lg_cmp_eq, oob, oobL, neg0, negL0, natle_f, or_false, false_or, true_or, or_true, or_self, cl, clL, le_t, le_f, lt_t, lt_f, leL_t, leL_f, ltL_t, ltL_f, leM_t, leM_f, ltM_t, ltM_f, leO_t, leO_f, cond_true, cond_false, Option.bind_some, Option.bind_none, if_false, if_true, nI_1, aL1, aL2, mL1, mL2, nI_add, pk_mul, pk_m1, sL1, dL1, pk_sub, m1p1, gIs_eq, gIs_k, gIs_i, gIs_n, gIs_e, gIJ, gIR, gJI, gJR, gJs_eq, gJs_k, gJs_n, gJs_e, gRI, gRJ, gRs_eq, gRs_k, gRs_i, gRs_n, gZI, gZJ, gZR, pI_s, pJ_s, pV_s, pR_s, pR_n, oR_n, oR_s, decide_true, decide_false, not_true_eq_false, not_false_eq_true, decT, decF, Bool.true_eq_false, Bool.false_eq_true, z01, o01, z1f, z1f', zz, oo, b2i_0, b2i_n, b2i_t, b2i_f, Bool.not_true, Bool.not_false]
theorem m_rclause {T : Nat} (hT6 : T < 6) {w : XW} {t : Tp} (hT : TOk2 t) {s : St} {rl : Rl} (h : MRl T w t s rl) (hJ : Jr t s rl) : RMl T (F_X12_clauseHere [.inr (11, 0)] w) w t (caS t s rl) := by
  have h4 := hT.1
  obtain ⟨hC, h45, h14, hB⟩ := h
  obtain ⟨j1, j2, j3, j5, j6, j7⟩ := hJ
  have hk := sk_le j1
  have ek := sk_sk j1
  obtain ⟨w1, k1, k2, k3⟩ := m_see hT hC.1
  have C1 : MRt T w1 t (sk t s.1, s.2) := hC.at k3 (fun κ k q => by unfold PM8; omega) k2
  have g8 := k2.2.1
  have g11 := C1.2.2.2.1
  have g14 : gI w1 11 0 14 = nI rl.length := by rw [(k3 11 0 14 (by unfold PM8; omega)).1]; exact h14
  have dT := m_isWord0 hT k2 ek W_tell
  have F1 : Fr (PML T) w w1 := f8L k3
  have n6 : ¬ nI T = 6 := fun z => by
    have := (nI_eq (a := T) (b := 6) (by omega) (by omega)).mp z
    omega
  have start : F_X12_clauseHere [.inr (11, 0)] w = (q_X12_clauseHere_39 (nI (sk t s.1)) 0 w1).bind pI := by
    rw [f_X12_clauseHere, e_X12_clauseHere_0]
    simp (disch := omega) only [k1, g11, n6, g8, e_X12_clauseHere_23, e_X12_clauseHere_24, true_and, and_true, false_and, and_false, beq_t, beq_f, eqN_t, eqN_f, eqL_t, eqL_f, nm1, nm2, nm1', nm2', m1z, m2z, zm1, zm2, m12, m21, lg_cmp_ge, lg_cmp_le, lg_cmp_gt, lg_cmp_lt, lg_cmp_eq, oob, oobL, neg0, negL0, natle_f, or_false, false_or, true_or, or_true, or_self, cl, clL, le_t, le_f, lt_t, lt_f, leL_t, leL_f, ltL_t, ltL_f, leM_t, leM_f, ltM_t, ltM_f, leO_t, leO_f, cond_true, cond_false, Option.bind_some, Option.bind_none, if_false, if_true, nI_1, aL1, aL2, mL1, mL2, nI_add, pk_mul, pk_m1, sL1, dL1, pk_sub, m1p1, gIs_eq, gIs_k, gIs_i, gIs_n, gIs_e, gIJ, gIR, gJI, gJR, gJs_eq, gJs_k, gJs_n, gJs_e, gRI, gRJ, gRs_eq, gRs_k, gRs_i, gRs_n, gZI, gZJ, gZR, pI_s, pJ_s, pV_s, pR_s, pR_n, oR_n, oR_s, decide_true, decide_false, not_true_eq_false, not_false_eq_true, decT, decF, Bool.true_eq_false, Bool.false_eq_true, z01, o01, z1f, z1f', zz, oo, b2i_0, b2i_n, b2i_t, b2i_f, Bool.not_true, Bool.not_false]
  unfold caS
  by_cases c : wrd t (sk t s.1) = kTell
  · have c' : wrd t (sk t s.1) = [116, 101, 108, 108] := c
    rw [decT c'] at dT
    rw [if_pos c]
    have s2 : F_X12_clauseHere [.inr (11, 0)] w = (bif decide (¬ nI rl.length = 12) then (q_X12_clauseHere_81 (nI (sk t s.1)) 0 w1) else (q_X12_clauseHere_74 (nI (sk t s.1)) w1)).bind pI := by
      rw [start, e_X12_clauseHere_39]
      simp (disch := omega) only [dT, e_X12_clauseHere_56, e_X12_clauseHere_69, e_X12_clauseHere_71, g14, true_and, and_true, false_and, and_false, beq_t, beq_f, eqN_t, eqN_f, eqL_t, eqL_f, nm1, nm2, nm1', nm2', m1z, m2z, zm1, zm2, m12, m21, lg_cmp_ge, lg_cmp_le, lg_cmp_gt, lg_cmp_lt, lg_cmp_eq, oob, oobL, neg0, negL0, natle_f, or_false, false_or, true_or, or_true, or_self, cl, clL, le_t, le_f, lt_t, lt_f, leL_t, leL_f, ltL_t, ltL_f, leM_t, leM_f, ltM_t, ltM_f, leO_t, leO_f, cond_true, cond_false, Option.bind_some, Option.bind_none, if_false, if_true, nI_1, aL1, aL2, mL1, mL2, nI_add, pk_mul, pk_m1, sL1, dL1, pk_sub, m1p1, gIs_eq, gIs_k, gIs_i, gIs_n, gIs_e, gIJ, gIR, gJI, gJR, gJs_eq, gJs_k, gJs_n, gJs_e, gRI, gRJ, gRs_eq, gRs_k, gRs_i, gRs_n, gZI, gZJ, gZR, pI_s, pJ_s, pV_s, pR_s, pR_n, oR_n, oR_s, decide_true, decide_false, not_true_eq_false, not_false_eq_true, decT, decF, Bool.true_eq_false, Bool.false_eq_true, z01, o01, z1f, z1f', zz, oo, b2i_0, b2i_n, b2i_t, b2i_f, Bool.not_true, Bool.not_false]
    by_cases c2 : rl.length < 12
    · rw [if_pos c2]
      have F2 : Fr (fun κ _ k => κ = 11 ∧ k = 14) w1 (sI w1 11 0 14 (nI (rl.length + 1))) := (Fr.refl _ _).sI ⟨rfl, rfl⟩
      obtain ⟨w3, F3, l3, r3⟩ := m_tell hT6 hT (C1.fr F2 (fun κ k q => by omega)) (rl := rl) (by rw [gIs_n (by omega), (k3 45 0 T (by unfold PM8; omega)).1]; exact h45) (hB.cg _ _ _ (fun i _ _ => by rw [gIs_n (by omega), (k3 44 0 i (by unfold PM8; omega)).1])) j2 (by omega) c2 j5
      rw [gIs_eq] at l3
      have FE : Fr (PML T) w w3 := (F1.trans (F2.mono (fun κ i k q => by unfold PML; omega))).trans F3
      have s3 : ∀ v, F_X12_isTellHere [.inr (11, 0)] (sI w1 11 0 14 (nI (rl.length + 1))) = some (b2i v, w3) → F_X12_clauseHere [.inr (11, 0)] w = some (b2i v, w3) := fun v hv => by
        rw [s2]
        simp (disch := omega) only [e_X12_clauseHere_81, g14, e_X12_clauseHere_103, hv, e_X12_clauseHere_107, true_and, and_true, false_and, and_false, beq_t, beq_f, eqN_t, eqN_f, eqL_t, eqL_f, nm1, nm2, nm1', nm2', m1z, m2z, zm1, zm2, m12, m21, lg_cmp_ge, lg_cmp_le, lg_cmp_gt, lg_cmp_lt, lg_cmp_eq, oob, oobL, neg0, negL0, natle_f, or_false, false_or, true_or, or_true, or_self, cl, clL, le_t, le_f, lt_t, lt_f, leL_t, leL_f, ltL_t, ltL_f, leM_t, leM_f, ltM_t, ltM_f, leO_t, leO_f, cond_true, cond_false, Option.bind_some, Option.bind_none, if_false, if_true, nI_1, aL1, aL2, mL1, mL2, nI_add, pk_mul, pk_m1, sL1, dL1, pk_sub, m1p1, gIs_eq, gIs_k, gIs_i, gIs_n, gIs_e, gIJ, gIR, gJI, gJR, gJs_eq, gJs_k, gJs_n, gJs_e, gRI, gRJ, gRs_eq, gRs_k, gRs_i, gRs_n, gZI, gZJ, gZR, pI_s, pJ_s, pV_s, pR_s, pR_n, oR_n, oR_s, decide_true, decide_false, not_true_eq_false, not_false_eq_true, decT, decF, Bool.true_eq_false, Bool.false_eq_true, z01, o01, z1f, z1f', zz, oo, b2i_0, b2i_n, b2i_t, b2i_f, Bool.not_true, Bool.not_false]
        cases v <;> rfl
      refine ⟨w3, FE, ?_⟩
      cases hq : sB (smS t (le t (sk t s.1), s.2)) (fun s1 => sB (ifS t s1) (fun s2 => (.inr (s2, rl ++ [(s1.2.2.drop s.2.2.length, s2.2.2.drop s1.2.2.length)]) : Nat ⊕ (St × Rl)))) with
      | inl f =>
        rw [hq] at r3
        exact ⟨s3 false r3.1, r3.2⟩
      | inr r =>
        rw [hq] at r3
        obtain ⟨r3, r4, r5, r6⟩ := r3
        have er : r.2.length = rl.length + 1 := by
          obtain ⟨s1, e1, e2⟩ := sB_inr hq
          obtain ⟨s2, e3, e4⟩ := sB_inr e2
          injection e4 with e4
          rw [← e4]
          show (rl ++ [_]).length = _
          rw [List.length_append, List.length_singleton]
        exact ⟨s3 true r3, r4, r5, by rw [er]; exact l3, r6⟩
    · rw [if_neg c2]
      have e12 : rl.length = 12 := by omega
      have kf := m_fails4 (w := w1) (sk t s.1) k2.2.2.1
      refine ⟨_, F1.sI (by unfold PML; omega), ?_, gIs_eq⟩
      rw [s2]
      simp (disch := omega) only [e_X12_clauseHere_74, kf, true_and, and_true, false_and, and_false, beq_t, beq_f, eqN_t, eqN_f, eqL_t, eqL_f, nm1, nm2, nm1', nm2', m1z, m2z, zm1, zm2, m12, m21, lg_cmp_ge, lg_cmp_le, lg_cmp_gt, lg_cmp_lt, lg_cmp_eq, oob, oobL, neg0, negL0, natle_f, or_false, false_or, true_or, or_true, or_self, cl, clL, le_t, le_f, lt_t, lt_f, leL_t, leL_f, ltL_t, ltL_f, leM_t, leM_f, ltM_t, ltM_f, leO_t, leO_f, cond_true, cond_false, Option.bind_some, Option.bind_none, if_false, if_true, nI_1, aL1, aL2, mL1, mL2, nI_add, pk_mul, pk_m1, sL1, dL1, pk_sub, m1p1, gIs_eq, gIs_k, gIs_i, gIs_n, gIs_e, gIJ, gIR, gJI, gJR, gJs_eq, gJs_k, gJs_n, gJs_e, gRI, gRJ, gRs_eq, gRs_k, gRs_i, gRs_n, gZI, gZJ, gZR, pI_s, pJ_s, pV_s, pR_s, pR_n, oR_n, oR_s, decide_true, decide_false, not_true_eq_false, not_false_eq_true, decT, decF, Bool.true_eq_false, Bool.false_eq_true, z01, o01, z1f, z1f', zz, oo, b2i_0, b2i_n, b2i_t, b2i_f, Bool.not_true, Bool.not_false]
  · have c' : ¬ wrd t (sk t s.1) = [116, 101, 108, 108] := c
    rw [decF c'] at dT
    rw [if_neg c]
    have kf := m_fails0 (w := w1) (sk t s.1) k2.2.2.1
    refine ⟨_, F1.sI (by unfold PML; omega), ?_, gIs_eq⟩
    rw [start, e_X12_clauseHere_39]
    simp (disch := omega) only [dT, e_X12_clauseHere_49, kf, true_and, and_true, false_and, and_false, beq_t, beq_f, eqN_t, eqN_f, eqL_t, eqL_f, nm1, nm2, nm1', nm2', m1z, m2z, zm1, zm2, m12, m21, lg_cmp_ge, lg_cmp_le, lg_cmp_gt, lg_cmp_lt, lg_cmp_eq, oob, oobL, neg0, negL0, natle_f, or_false, false_or, true_or, or_true, or_self, cl, clL, le_t, le_f, lt_t, lt_f, leL_t, leL_f, ltL_t, ltL_f, leM_t, leM_f, ltM_t, ltM_f, leO_t, leO_f, cond_true, cond_false, Option.bind_some, Option.bind_none, if_false, if_true, nI_1, aL1, aL2, mL1, mL2, nI_add, pk_mul, pk_m1, sL1, dL1, pk_sub, m1p1, gIs_eq, gIs_k, gIs_i, gIs_n, gIs_e, gIJ, gIR, gJI, gJR, gJs_eq, gJs_k, gJs_n, gJs_e, gRI, gRJ, gRs_eq, gRs_k, gRs_i, gRs_n, gZI, gZJ, gZR, pI_s, pJ_s, pV_s, pR_s, pR_n, oR_n, oR_s, decide_true, decide_false, not_true_eq_false, not_false_eq_true, decT, decF, Bool.true_eq_false, Bool.false_eq_true, z01, o01, z1f, z1f', zz, oo, b2i_0, b2i_n, b2i_t, b2i_f, Bool.not_true, Bool.not_false]
